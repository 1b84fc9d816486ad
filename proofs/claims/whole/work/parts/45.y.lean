/-! ===== the reference: what changes it ===== -/
def kpW (w w' : Nat → Nat) : Prop := ∀ j, 1091 ≤ j → j < 3273 → w' j = w j
theorem RS.n {w : Nat → Nat} {we r seen kept : Nat → Nat} {rd nw ud : Nat} (h : RS w 0 we r seen kept rd nw ud) : w 127 = rd ∧ w 146 = ud ∧ w 0 = r 117 := ⟨(h.2.1 : w (0 + 127) = rd), (h.2.2.2.1 : w (0 + 146) = ud), h.1.1.1⟩
theorem RS.m {w : Nat → Nat} {we r seen kept : Nat → Nat} {rd nw ud : Nat} (h : RS w 0 we r seen kept rd nw ud) {c : Nat} (hc : c < 9) : w (1 + c) = r (108 + c) := h.1.1.2.1 c hc
theorem RS.e {w : Nat → Nat} {we r seen kept : Nat → Nat} {rd nw ud : Nat} (h : RS w 0 we r seen kept rd nw ud) {c : Nat} (hc : c < 9) : w (118 + c) = we c := h.1.2 c hc
theorem mind8 {w we r seen kept : Nat → Nat} {rd nw ud Y : Nat} (h : RS w 0 we r seen kept rd nw ud) (g : GS Y we r seen kept rd nw ud) (hu : ud = 8) (W : Nat → Nat) (hW : W = updN (cpyN w w 265 147 826) 146 (8 - 1)) : RS (updN (cpyN W W 0 (147 + 118 * 7) 118) 146 (7 + 1)) 0 we r seen (keptN r kept nw) rd ((nw + 1) % 8) (min (ud + 1) 8) ∧ kpW w (updN (cpyN W W 0 (147 + 118 * 7) 118) 146 (7 + 1)) := by
  subst hu
  have hA : ∀ j, j < 146 → W j = w j := fun j hj => by rw [hW, updN_n (by omega), cpyN, if_neg (by omega)]
  refine ⟨RS_mind h g (fun j hj => ?_) ?_ (fun t j ht hj => ?_) (fun j hj => ?_), fun j h1 h2 => ?_⟩
  · rw [updN_n (by omega), cpyN, if_neg (by omega)]; exact hA j hj
  · rw [updN_s]; rfl
  · rw [if_pos rfl, updN_n (by omega), cpyN, if_neg (by omega), hW, updN_n (by omega), cpyN, if_pos (by omega)]
    exact congrArg w (by omega)
  · rw [updN_n (by omega), cpyN, if_pos (by omega)]
    rw [show 0 + (147 + 118 * (min (8 + 1) 8 - 1) + j - (147 + 118 * 7)) = j by omega]
    exact hA j (by omega)
  · rw [updN_n (by omega), cpyN, if_neg (by omega), hW, updN_n (by omega), cpyN, if_neg (by omega)]
theorem mindS {w we r seen kept : Nat → Nat} {rd nw ud Y : Nat} (h : RS w 0 we r seen kept rd nw ud) (g : GS Y we r seen kept rd nw ud) (hu : ¬ ud = 8) : RS (updN (cpyN w w 0 (147 + 118 * ud) 118) 146 (ud + 1)) 0 we r seen (keptN r kept nw) rd ((nw + 1) % 8) (min (ud + 1) 8) ∧ kpW w (updN (cpyN w w 0 (147 + 118 * ud) 118) 146 (ud + 1)) := by
  have h8 := g.2.2.2.2.2.2.2.2.2
  refine ⟨RS_mind h g (fun j hj => ?_) ?_ (fun t j ht hj => ?_) (fun j hj => ?_), fun j h1 h2 => ?_⟩
  · rw [updN_n (by omega), cpyN, if_neg (by omega)]
  · rw [updN_s]; omega
  · rw [if_neg hu, updN_n (by omega), cpyN, if_neg (by omega)]
  · rw [updN_n (by omega), cpyN, if_pos (by omega)]
    congr 1; omega
  · rw [updN_n (by omega), cpyN, if_neg (by omega)]
section YS
variable {G : zG} {c0_ c1_ c2_ c3_ c4_ c5_ c6_ c7_ c8_ c9_ c10_ c11_ c12_ c13_ c14_ c15_ c16_ c17_ c18_ c19_ c20_ : va_E} {w kp tx : Nat → Nat} {txl : Nat} {rf : Nat → Nat} {ya yb : Int64} {at2 st2 : Nat} {iwd ifg : Int32} {nb : Nat → Nat} {fr : Int32} {la nms : Nat → Nat} {nd : Nat} {wf : Nat → Nat} {hh : Int64} {tl : List va_E}
set_option maxRecDepth 20000 in
set_option maxHeartbeats 4000000 in
theorem m_sockB {x : Int32} (hb : ¬ (nI 0 ≤ x ∧ x ≤ nI 99)) : zS G 2 yX4_sock cX4_sock 3 (some .int) [.ref (zad (zb G) 21), .int x] (yM G c0_ c1_ c2_ c3_ c4_ c5_ c6_ c7_ c8_ c9_ c10_ c11_ c12_ c13_ c14_ c15_ c16_ c17_ c18_ c19_ c20_ w kp tx txl rf ya yb at2 st2 iwd ifg nb fr la nms nd wf hh tl) 0 0 (zE (.int (-2)) (yM G c0_ c1_ c2_ c3_ c4_ c5_ c6_ c7_ c8_ c9_ c10_ c11_ c12_ c13_ c14_ c15_ c16_ c17_ c18_ c19_ c20_ w kp tx txl (updN rf 0 (rf 0 + 1)) ya yb at2 st2 iwd ifg nb fr la nms nd wf hh tl)) := by
  refine zS.of (by decide) (Nat.le_of_ble_eq_true rfl) (fun F O hR1 hR2 => ?_)
  have O : zOk G F yX4_sock cX4_sock 3 (some .int) RX4 2 (yM G c0_ c1_ c2_ c3_ c4_ c5_ c6_ c7_ c8_ c9_ c10_ c11_ c12_ c13_ c14_ c15_ c16_ c17_ c18_ c19_ c20_ w kp tx txl rf ya yb at2 st2 iwd ifg nb fr la nms nd wf hh tl).length := O
  refine z_eq (lv' := [(0, _), (1, _)]) rfl rfl rfl ?_
  refine z_iload_n O dX4_sock_0 rfl ?_
  refine z_i2l O dX4_sock_1 ?_
  refine z_lconst O (lN 0) dX4_sock_2 (by decide) ?_
  refine z_ldc2 O dX4_sock_3 klX4_63 ?_
  refine z_top (v' := .long (lN 99)) (by decide) ?_
  refine z_S3e0 O (m_inI (by decide) (by decide)) mX4_in lkX4_45 dX4_sock_6 (Nat.le_of_ble_eq_true rfl) (by decide) ?_
  refine z_if_neB O 17 dX4_sock_9 (by decide) (fun h9 => by exact absurd h9 hb) (fun h9 => ?_)
  refine z_aload_n O dX4_sock_12 rfl ?_
  refine z_V0e0 O m_bad mX4_bad lkX4_65 rfl (by rfl) dX4_sock_13 (Nat.le_of_ble_eq_true rfl) (by decide) ?_
  exact z_iret O dX4_sock_16 ⟨rfl, rfl⟩
set_option maxRecDepth 20000 in
set_option maxHeartbeats 4000000 in
theorem m_sock {we r seen kept : Nat → Nat} {rd nw ud Y : Nat} (h : RS w 0 we r seen kept rd nw ud) (g : GS Y we r seen kept rd nw ud) {y : Nat} (hy : y < 100) : zS G 2 yX4_sock cX4_sock 3 (some .int) [.ref (zad (zb G) 21), .int (nI y)] (yM G c0_ c1_ c2_ c3_ c4_ c5_ c6_ c7_ c8_ c9_ c10_ c11_ c12_ c13_ c14_ c15_ c16_ c17_ c18_ c19_ c20_ w kp tx txl rf ya yb at2 st2 iwd ifg nb fr la nms nd wf hh tl) 0 0 (zE (.int (nI (darnsM r 511 9))) (yM G c0_ c1_ c2_ c3_ c4_ c5_ c6_ c7_ c8_ c9_ c10_ c11_ c12_ c13_ c14_ c15_ c16_ c17_ c18_ c19_ c20_ (begW w 0 y) kp tx txl rf ya yb at2 st2 iwd ifg nb fr la nms nd wf hh tl)) := by
  refine zS.of (by decide) (Nat.le_of_ble_eq_true rfl) (fun F O hR1 hR2 => ?_)
  have O : zOk G F yX4_sock cX4_sock 3 (some .int) RX4 2 (yM G c0_ c1_ c2_ c3_ c4_ c5_ c6_ c7_ c8_ c9_ c10_ c11_ c12_ c13_ c14_ c15_ c16_ c17_ c18_ c19_ c20_ w kp tx txl rf ya yb at2 st2 iwd ifg nb fr la nms nd wf hh tl).length := O
  refine z_eq (lv' := [(0, _), (1, _)]) rfl rfl rfl ?_
  refine z_iload_n O dX4_sock_0 rfl ?_
  refine z_i2lN O dX4_sock_1 (by omega) ?_
  refine z_lconst O (lN 0) dX4_sock_2 (by decide) ?_
  refine z_ldc2 O dX4_sock_3 klX4_63 ?_
  refine z_top (v' := .long (lN 99)) (by decide) ?_
  refine z_S3e0 O (m_inN (by omega) (by decide) (by decide)) mX4_in lkX4_45 dX4_sock_6 (Nat.le_of_ble_eq_true rfl) (by decide) ?_
  refine z_if_neB O 17 dX4_sock_9 (by decide) (fun h9 => ?_) (fun h9 => by omega)
  refine z_aload_n O dX4_sock_17 rfl ?_
  refine z_iconst O (nI 0) dX4_sock_18 (by decide) ?_
  refine z_V1e0 O (m_darnsIn h.1 g.1.1 (by decide)) mX4_darnsIn lkX4_69 rfl (by rfl) dX4_sock_19 (Nat.le_of_ble_eq_true rfl) (by decide) ?_
  refine z_istore_n (lv' := [(0, _), (1, _), (2, _)]) O dX4_sock_22 (by decide) rfl ?_
  refine z_aload_n O dX4_sock_23 rfl ?_
  refine z_iconst O (nI 0) dX4_sock_24 (by decide) ?_
  refine z_iload_n O dX4_sock_25 rfl ?_
  refine z_V2u0 O (m_begins (by decide)) mX4_begins lkX4_39 rfl (by rfl) dX4_sock_26 (Nat.le_of_ble_eq_true rfl) (by decide) ?_
  refine z_iload_n O dX4_sock_29 rfl ?_
  exact z_iret O dX4_sock_30 ⟨rfl, rfl⟩
set_option maxRecDepth 20000 in
set_option maxHeartbeats 4000000 in
theorem m_wearB {c v : Int32} (hb : ¬ ((nI 0 ≤ c ∧ c ≤ nI 8) ∧ (nI 0 ≤ v ∧ v ≤ nI 5))) : zS G 3 yX4_wear cX4_wear 4 (some .int) [.ref (zad (zb G) 21), .int c, .int v] (yM G c0_ c1_ c2_ c3_ c4_ c5_ c6_ c7_ c8_ c9_ c10_ c11_ c12_ c13_ c14_ c15_ c16_ c17_ c18_ c19_ c20_ w kp tx txl rf ya yb at2 st2 iwd ifg nb fr la nms nd wf hh tl) 0 0 (zE (.int (-2)) (yM G c0_ c1_ c2_ c3_ c4_ c5_ c6_ c7_ c8_ c9_ c10_ c11_ c12_ c13_ c14_ c15_ c16_ c17_ c18_ c19_ c20_ w kp tx txl (updN rf 0 (rf 0 + 1)) ya yb at2 st2 iwd ifg nb fr la nms nd wf hh tl)) := by
  refine zS.of (by decide) (Nat.le_of_ble_eq_true rfl) (fun F O hR1 hR2 => ?_)
  have O : zOk G F yX4_wear cX4_wear 4 (some .int) RX4 3 (yM G c0_ c1_ c2_ c3_ c4_ c5_ c6_ c7_ c8_ c9_ c10_ c11_ c12_ c13_ c14_ c15_ c16_ c17_ c18_ c19_ c20_ w kp tx txl rf ya yb at2 st2 iwd ifg nb fr la nms nd wf hh tl).length := O
  refine z_eq (lv' := [(0, _), (1, _), (2, _)]) rfl rfl rfl ?_
  refine z_iload_n O dX4_wear_0 rfl ?_
  refine z_S1e0 O m_isCellI mX4_isCell lkX4_49 dX4_wear_1 (Nat.le_of_ble_eq_true rfl) (by decide) ?_
  refine z_if_eqB O 19 dX4_wear_4 (by decide) (fun h4 => ?_) (fun h4 => ?_)
  · refine z_aload_n O dX4_wear_19 rfl ?_
    refine z_V0e0 O m_bad mX4_bad lkX4_65 rfl (by rfl) dX4_wear_20 (Nat.le_of_ble_eq_true rfl) (by decide) ?_
    exact z_iret O dX4_wear_23 ⟨rfl, rfl⟩
  · refine z_iload_n O dX4_wear_7 rfl ?_
    refine z_i2l O dX4_wear_8 ?_
    refine z_lconst O (lN 0) dX4_wear_9 (by decide) ?_
    refine z_ldc2 O dX4_wear_10 klX4_53 ?_
    refine z_top (v' := .long (lN 5)) (by decide) ?_
    refine z_S3e0 O (m_inI (by decide) (by decide)) mX4_in lkX4_45 dX4_wear_13 (Nat.le_of_ble_eq_true rfl) (by decide) ?_
    refine z_if_neB O 24 dX4_wear_16 (by decide) (fun h16 => by exact absurd ⟨h4, h16⟩ hb) (fun h16 => ?_)
    refine z_aload_n O dX4_wear_19 rfl ?_
    refine z_V0e0 O m_bad mX4_bad lkX4_65 rfl (by rfl) dX4_wear_20 (Nat.le_of_ble_eq_true rfl) (by decide) ?_
    exact z_iret O dX4_wear_23 ⟨rfl, rfl⟩
set_option maxRecDepth 20000 in
set_option maxHeartbeats 4000000 in
theorem m_wear {we r seen kept : Nat → Nat} {rd nw ud Y : Nat} (h : RS w 0 we r seen kept rd nw ud) (g : GS Y we r seen kept rd nw ud) {c v : Nat} (hc : c < 9) (hv : v ≤ 5) : zS G 3 yX4_wear cX4_wear 4 (some .int) [.ref (zad (zb G) 21), .int (nI c), .int (nI v)] (yM G c0_ c1_ c2_ c3_ c4_ c5_ c6_ c7_ c8_ c9_ c10_ c11_ c12_ c13_ c14_ c15_ c16_ c17_ c18_ c19_ c20_ w kp tx txl rf ya yb at2 st2 iwd ifg nb fr la nms nd wf hh tl) 0 0 (zE (.int (nI (we c))) (yM G c0_ c1_ c2_ c3_ c4_ c5_ c6_ c7_ c8_ c9_ c10_ c11_ c12_ c13_ c14_ c15_ c16_ c17_ c18_ c19_ c20_ (updN w (118 + c) v) kp tx txl rf ya yb at2 st2 iwd ifg nb fr la nms nd wf hh tl)) := by
  refine zS.of (by decide) (Nat.le_of_ble_eq_true rfl) (fun F O hR1 hR2 => ?_)
  have O : zOk G F yX4_wear cX4_wear 4 (some .int) RX4 3 (yM G c0_ c1_ c2_ c3_ c4_ c5_ c6_ c7_ c8_ c9_ c10_ c11_ c12_ c13_ c14_ c15_ c16_ c17_ c18_ c19_ c20_ w kp tx txl rf ya yb at2 st2 iwd ifg nb fr la nms nd wf hh tl).length := O
  refine z_eq (lv' := [(0, _), (1, _), (2, _)]) rfl rfl rfl ?_
  refine z_iload_n O dX4_wear_0 rfl ?_
  refine z_S1e0 O (m_isCellN (by omega)) mX4_isCell lkX4_49 dX4_wear_1 (Nat.le_of_ble_eq_true rfl) (by decide) ?_
  refine z_if_eqB O 19 dX4_wear_4 (by decide) (fun h4 => by omega) (fun h4 => ?_)
  refine z_iload_n O dX4_wear_7 rfl ?_
  refine z_i2lN O dX4_wear_8 (by omega) ?_
  refine z_lconst O (lN 0) dX4_wear_9 (by decide) ?_
  refine z_ldc2 O dX4_wear_10 klX4_53 ?_
  refine z_top (v' := .long (lN 5)) (by decide) ?_
  refine z_S3e0 O (m_inN (by omega) (by decide) (by decide)) mX4_in lkX4_45 dX4_wear_13 (Nat.le_of_ble_eq_true rfl) (by decide) ?_
  refine z_if_neB O 24 dX4_wear_16 (by decide) (fun h16 => ?_) (fun h16 => by omega)
  refine z_aload_n O dX4_wear_24 rfl ?_
  refine z_get O dX4_wear_25 flX4_7 (by rfl) (by rfl) ?_
  refine z_bipush O (nI 118) dX4_wear_28 (by decide) ?_
  refine z_iload_n O dX4_wear_30 rfl ?_
  refine z_iaddN O dX4_wear_31 ?_
  refine z_ialdN O dX4_wear_32 (by rfl) (by omega) (by decide) ?_
  refine z_top (v' := .int (nI (we c))) (congrArg Value.int (congrArg nI (h.e hc))) ?_
  refine z_istore_n (lv' := [(0, _), (1, _), (2, _), (3, _)]) O dX4_wear_33 (by decide) rfl ?_
  refine z_aload_n O dX4_wear_34 rfl ?_
  refine z_get O dX4_wear_35 flX4_7 (by rfl) (by rfl) ?_
  refine z_bipush O (nI 118) dX4_wear_38 (by decide) ?_
  refine z_iload_n O dX4_wear_40 rfl ?_
  refine z_iaddN O dX4_wear_41 ?_
  refine z_iload_n O dX4_wear_42 rfl ?_
  refine z_iastN O (by rfl) dX4_wear_43 (by rfl) (by omega) (by decide) ?_
  refine z_iload_n O dX4_wear_44 rfl ?_
  exact z_iret O dX4_wear_45 ⟨rfl, rfl⟩
set_option maxRecDepth 20000 in
set_option maxHeartbeats 4000000 in
theorem m_minds {we r seen kept : Nat → Nat} {rd nw ud Y : Nat} (h : RS w 0 we r seen kept rd nw ud) (g : GS Y we r seen kept rd nw ud) : zS G 2 yX4_minds cX4_minds 1 none [.ref (zad (zb G) 21)] (yM G c0_ c1_ c2_ c3_ c4_ c5_ c6_ c7_ c8_ c9_ c10_ c11_ c12_ c13_ c14_ c15_ c16_ c17_ c18_ c19_ c20_ w kp tx txl rf ya yb at2 st2 iwd ifg nb fr la nms nd wf hh tl) 0 0 (zPU (fun M' => ∃ w' : Nat → Nat, RS w' 0 we r seen (keptN r kept nw) rd ((nw + 1) % 8) (min (ud + 1) 8) ∧ kpW w w' ∧ M' = (yM G c0_ c1_ c2_ c3_ c4_ c5_ c6_ c7_ c8_ c9_ c10_ c11_ c12_ c13_ c14_ c15_ c16_ c17_ c18_ c19_ c20_ w' kp tx txl rf ya yb at2 st2 iwd ifg nb fr la nms nd wf hh tl))) := by
  refine zS.of (by decide) (Nat.le_of_ble_eq_true rfl) (fun F O hR1 hR2 => ?_)
  have O : zOk G F yX4_minds cX4_minds 1 none RX4 2 (yM G c0_ c1_ c2_ c3_ c4_ c5_ c6_ c7_ c8_ c9_ c10_ c11_ c12_ c13_ c14_ c15_ c16_ c17_ c18_ c19_ c20_ w kp tx txl rf ya yb at2 st2 iwd ifg nb fr la nms nd wf hh tl).length := O
  refine z_eq (lv' := [(0, _)]) rfl rfl rfl ?_
  have h8 := g.2.2.2.2.2.2.2.2.2
  refine z_aload_n O dX4_minds_0 rfl ?_
  refine z_get O dX4_minds_1 flX4_7 (by rfl) (by rfl) ?_
  refine z_sipush O (nI 146) dX4_minds_4 (by decide) ?_
  refine z_ialdN O dX4_minds_7 (by rfl) (by omega) (by decide) ?_
  refine z_top (v' := .int (nI ud)) (congrArg Value.int (congrArg nI h.n.2.1)) ?_
  by_cases hu : ud = 8
  · refine z_bipush O (nI 8) dX4_minds_8 (by decide) ?_
    refine z_icmp_neN O 38 dX4_minds_10 (by decide) (by omega) (by omega) (fun h10 => by omega) (fun h10 => ?_)
    refine z_aload_n O dX4_minds_13 rfl ?_
    refine z_sipush O (nI 265) dX4_minds_14 (by decide) ?_
    refine z_sipush O (nI 147) dX4_minds_17 (by decide) ?_
    refine z_sipush O (nI 826) dX4_minds_20 (by decide) ?_
    refine z_V3u0 O (m_copy (by decide) (by decide) (by decide)) mX4_copy lkX4_73 rfl (by rfl) dX4_minds_23 (Nat.le_of_ble_eq_true rfl) (by decide) ?_
    refine z_aload_n O dX4_minds_26 rfl ?_
    refine z_get O dX4_minds_27 flX4_7 (by rfl) (by rfl) ?_
    refine z_sipush O (nI 146) dX4_minds_30 (by decide) ?_
    refine z_dup2 O dX4_minds_33 rfl rfl ?_
    refine z_ialdN O dX4_minds_34 (by rfl) (by omega) (by decide) ?_
    refine z_top (v' := .int (nI 8)) (congrArg Value.int (congrArg nI (by rw [cpyN, if_neg (by omega), ← hu]; exact h.n.2.1))) ?_
    refine z_iconst O (nI 1) dX4_minds_35 (by decide) ?_
    refine z_isubN O dX4_minds_36 (by omega) ?_
    refine z_iastN O (by rfl) dX4_minds_37 (by rfl) (by omega) (by decide) ?_
    refine z_aload_n O dX4_minds_38 rfl ?_
    refine z_iconst O (nI 0) dX4_minds_39 (by decide) ?_
    refine z_sipush O (nI 147) dX4_minds_40 (by decide) ?_
    refine z_bipush O (nI 118) dX4_minds_43 (by decide) ?_
    refine z_aload_n O dX4_minds_45 rfl ?_
    refine z_get O dX4_minds_46 flX4_7 (by rfl) (by rfl) ?_
    refine z_sipush O (nI 146) dX4_minds_49 (by decide) ?_
    refine z_ialdN O dX4_minds_52 (by rfl) (by omega) (by decide) ?_
    refine z_top (v' := .int (nI 7)) (congrArg Value.int (congrArg nI updN_s)) ?_
    refine z_imulN O dX4_minds_53 ?_
    refine z_iaddN O dX4_minds_54 ?_
    refine z_bipush O (nI 118) dX4_minds_55 (by decide) ?_
    refine z_V3u0 O (m_copy (by decide) (by decide) (by decide)) mX4_copy lkX4_73 rfl (by rfl) dX4_minds_57 (Nat.le_of_ble_eq_true rfl) (by decide) ?_
    refine z_aload_n O dX4_minds_60 rfl ?_
    refine z_get O dX4_minds_61 flX4_7 (by rfl) (by rfl) ?_
    refine z_sipush O (nI 146) dX4_minds_64 (by decide) ?_
    refine z_dup2 O dX4_minds_67 rfl rfl ?_
    refine z_ialdN O dX4_minds_68 (by rfl) (by omega) (by decide) ?_
    refine z_top (v' := .int (nI 7)) (congrArg Value.int (congrArg nI (by rw [cpyN, if_neg (by omega)]; exact updN_s))) ?_
    refine z_iconst O (nI 1) dX4_minds_69 (by decide) ?_
    refine z_iaddN O dX4_minds_70 ?_
    refine z_iastN O (by rfl) dX4_minds_71 (by rfl) (by omega) (by decide) ?_
    exact z_vret O dX4_minds_72 (have hm := mind8 h g hu _ rfl; ⟨rfl, _, hm.1, hm.2, rfl⟩)
  · refine z_bipush O (nI 8) dX4_minds_8 (by decide) ?_
    refine z_icmp_neN O 38 dX4_minds_10 (by decide) (by omega) (by omega) (fun h10 => ?_) (fun h10 => by omega)
    refine z_aload_n O dX4_minds_38 rfl ?_
    refine z_iconst O (nI 0) dX4_minds_39 (by decide) ?_
    refine z_sipush O (nI 147) dX4_minds_40 (by decide) ?_
    refine z_bipush O (nI 118) dX4_minds_43 (by decide) ?_
    refine z_aload_n O dX4_minds_45 rfl ?_
    refine z_get O dX4_minds_46 flX4_7 (by rfl) (by rfl) ?_
    refine z_sipush O (nI 146) dX4_minds_49 (by decide) ?_
    refine z_ialdN O dX4_minds_52 (by rfl) (by omega) (by decide) ?_
    refine z_top (v' := .int (nI ud)) (congrArg Value.int (congrArg nI h.n.2.1)) ?_
    refine z_imulN O dX4_minds_53 ?_
    refine z_iaddN O dX4_minds_54 ?_
    refine z_bipush O (nI 118) dX4_minds_55 (by decide) ?_
    refine z_V3u0 O (m_copy (by omega) (by omega) (by omega)) mX4_copy lkX4_73 rfl (by rfl) dX4_minds_57 (Nat.le_of_ble_eq_true rfl) (by decide) ?_
    refine z_aload_n O dX4_minds_60 rfl ?_
    refine z_get O dX4_minds_61 flX4_7 (by rfl) (by rfl) ?_
    refine z_sipush O (nI 146) dX4_minds_64 (by decide) ?_
    refine z_dup2 O dX4_minds_67 rfl rfl ?_
    refine z_ialdN O dX4_minds_68 (by rfl) (by omega) (by decide) ?_
    refine z_top (v' := .int (nI ud)) (congrArg Value.int (congrArg nI (by rw [cpyN, if_neg (by omega)]; exact h.n.2.1))) ?_
    refine z_iconst O (nI 1) dX4_minds_69 (by decide) ?_
    refine z_iaddN O dX4_minds_70 ?_
    refine z_iastN O (by rfl) dX4_minds_71 (by rfl) (by omega) (by decide) ?_
    exact z_vret O dX4_minds_72 (have hm := mindS h g hu; ⟨rfl, _, hm.1, hm.2, rfl⟩)
set_option maxRecDepth 20000 in
set_option maxHeartbeats 4000000 in
theorem m_darnB {c kd fm th : Int32} (hb : ¬ ((nI 0 ≤ c ∧ c ≤ nI 8) ∧ (nI 0 ≤ kd ∧ kd ≤ nI 5) ∧ (nI 0 ≤ fm ∧ fm ≤ nI 2) ∧ (nI 1 ≤ th ∧ th ≤ nI 30))) : zS G 4 yX4_darn cX4_darn 5 (some .int) [.ref (zad (zb G) 21), .int c, .int kd, .int fm, .int th] (yM G c0_ c1_ c2_ c3_ c4_ c5_ c6_ c7_ c8_ c9_ c10_ c11_ c12_ c13_ c14_ c15_ c16_ c17_ c18_ c19_ c20_ w kp tx txl rf ya yb at2 st2 iwd ifg nb fr la nms nd wf hh tl) 0 0 (zE (.int (-2)) (yM G c0_ c1_ c2_ c3_ c4_ c5_ c6_ c7_ c8_ c9_ c10_ c11_ c12_ c13_ c14_ c15_ c16_ c17_ c18_ c19_ c20_ w kp tx txl (updN rf 0 (rf 0 + 1)) ya yb at2 st2 iwd ifg nb fr la nms nd wf hh tl)) := by
  refine zS.of (by decide) (Nat.le_of_ble_eq_true rfl) (fun F O hR1 hR2 => ?_)
  have O : zOk G F yX4_darn cX4_darn 5 (some .int) RX4 4 (yM G c0_ c1_ c2_ c3_ c4_ c5_ c6_ c7_ c8_ c9_ c10_ c11_ c12_ c13_ c14_ c15_ c16_ c17_ c18_ c19_ c20_ w kp tx txl rf ya yb at2 st2 iwd ifg nb fr la nms nd wf hh tl).length := O
  refine z_eq (lv' := [(0, _), (1, _), (2, _), (3, _), (4, _)]) rfl rfl rfl ?_
  refine z_iload_n O dX4_darn_0 rfl ?_
  refine z_iload_n O dX4_darn_1 rfl ?_
  refine z_iload_n O dX4_darn_2 rfl ?_
  refine z_iload O dX4_darn_3 rfl ?_
  refine z_S4e0 O m_isDarnI mX4_isDarn lkX4_77 dX4_darn_5 (Nat.le_of_ble_eq_true rfl) (by decide) ?_
  refine z_if_neB O 16 dX4_darn_8 (by decide) (fun h8 => by exact absurd h8 hb) (fun h8 => ?_)
  refine z_aload_n O dX4_darn_11 rfl ?_
  refine z_V0e0 O m_bad mX4_bad lkX4_65 rfl (by rfl) dX4_darn_12 (Nat.le_of_ble_eq_true rfl) (by decide) ?_
  exact z_iret O dX4_darn_15 ⟨rfl, rfl⟩
set_option maxRecDepth 20000 in
set_option maxHeartbeats 4000000 in
theorem m_darnF {we r seen kept : Nat → Nat} {rd nw ud Y : Nat} (h : RS w 0 we r seen kept rd nw ud) (g : GS Y we r seen kept rd nw ud) {c kd fm th : Nat} (hc : c < 9) (h1 : kd < 6) (h2 : fm < 3) (h3 : 1 ≤ th) (h4 : th ≤ 30) (h5 : r (108 + c) = 3) : zS G 4 yX4_darn cX4_darn 5 (some .int) [.ref (zad (zb G) 21), .int (nI c), .int (nI kd), .int (nI fm), .int (nI th)] (yM G c0_ c1_ c2_ c3_ c4_ c5_ c6_ c7_ c8_ c9_ c10_ c11_ c12_ c13_ c14_ c15_ c16_ c17_ c18_ c19_ c20_ w kp tx txl rf ya yb at2 st2 iwd ifg nb fr la nms nd wf hh tl) 0 0 (zE (.int (-4)) (yM G c0_ c1_ c2_ c3_ c4_ c5_ c6_ c7_ c8_ c9_ c10_ c11_ c12_ c13_ c14_ c15_ c16_ c17_ c18_ c19_ c20_ w kp tx txl (updN rf 2 (rf 2 + 1)) ya yb at2 st2 iwd ifg nb fr la nms nd wf hh tl)) := by
  refine zS.of (by decide) (Nat.le_of_ble_eq_true rfl) (fun F O hR1 hR2 => ?_)
  have O : zOk G F yX4_darn cX4_darn 5 (some .int) RX4 4 (yM G c0_ c1_ c2_ c3_ c4_ c5_ c6_ c7_ c8_ c9_ c10_ c11_ c12_ c13_ c14_ c15_ c16_ c17_ c18_ c19_ c20_ w kp tx txl rf ya yb at2 st2 iwd ifg nb fr la nms nd wf hh tl).length := O
  refine z_eq (lv' := [(0, _), (1, _), (2, _), (3, _), (4, _)]) rfl rfl rfl ?_
  refine z_iload_n O dX4_darn_0 rfl ?_
  refine z_iload_n O dX4_darn_1 rfl ?_
  refine z_iload_n O dX4_darn_2 rfl ?_
  refine z_iload O dX4_darn_3 rfl ?_
  refine z_S4e0 O (m_isDarnN (by omega) (by omega) (by omega) (by omega)) mX4_isDarn lkX4_77 dX4_darn_5 (Nat.le_of_ble_eq_true rfl) (by decide) ?_
  refine z_if_neB O 16 dX4_darn_8 (by decide) (fun h8 => ?_) (fun h8 => by omega)
  refine z_aload_n O dX4_darn_16 rfl ?_
  refine z_get O dX4_darn_17 flX4_7 (by rfl) (by rfl) ?_
  refine z_iconst O (nI 1) dX4_darn_20 (by decide) ?_
  refine z_iload_n O dX4_darn_21 rfl ?_
  refine z_iaddN O dX4_darn_22 ?_
  refine z_ialdN O dX4_darn_23 (by rfl) (by omega) (by decide) ?_
  refine z_top (v' := .int (nI (r (108 + c)))) (congrArg Value.int (congrArg nI (h.m hc))) ?_
  refine z_iconst O (nI 3) dX4_darn_24 (by decide) ?_
  refine z_icmp_neN O 33 dX4_darn_25 (by decide) (by omega) (by omega) (fun h25 => by omega) (fun h25 => ?_)
  refine z_aload_n O dX4_darn_28 rfl ?_
  refine z_V0e0 O m_full mX4_full lkX4_81 rfl (by rfl) dX4_darn_29 (Nat.le_of_ble_eq_true rfl) (by decide) ?_
  exact z_iret O dX4_darn_32 ⟨rfl, rfl⟩
set_option maxRecDepth 20000 in
set_option maxHeartbeats 4000000 in
theorem m_darn {we r seen kept : Nat → Nat} {rd nw ud Y : Nat} (h : RS w 0 we r seen kept rd nw ud) (g : GS Y we r seen kept rd nw ud) {c kd fm th : Nat} (hc : c < 9) (h1 : kd < 6) (h2 : fm < 3) (h3 : 1 ≤ th) (h4 : th ≤ 30) (h5 : r (108 + c) < 3) : zS G 4 yX4_darn cX4_darn 5 (some .int) [.ref (zad (zb G) 21), .int (nI c), .int (nI kd), .int (nI fm), .int (nI th)] (yM G c0_ c1_ c2_ c3_ c4_ c5_ c6_ c7_ c8_ c9_ c10_ c11_ c12_ c13_ c14_ c15_ c16_ c17_ c18_ c19_ c20_ w kp tx txl rf ya yb at2 st2 iwd ifg nb fr la nms nd wf hh tl) 0 0 (zP (fun v M' => v = .int (nI (r (108 + c) + 1)) ∧ ∃ w' : Nat → Nat, RS w' 0 we (putN r c kd fm th) seen (keptN r kept nw) rd ((nw + 1) % 8) (min (ud + 1) 8) ∧ kpW w w' ∧ M' = (yM G c0_ c1_ c2_ c3_ c4_ c5_ c6_ c7_ c8_ c9_ c10_ c11_ c12_ c13_ c14_ c15_ c16_ c17_ c18_ c19_ c20_ w' kp tx txl rf ya yb at2 st2 iwd ifg nb fr la nms nd wf hh tl))) := by
  refine zS.of (by decide) (Nat.le_of_ble_eq_true rfl) (fun F O hR1 hR2 => ?_)
  have O : zOk G F yX4_darn cX4_darn 5 (some .int) RX4 4 (yM G c0_ c1_ c2_ c3_ c4_ c5_ c6_ c7_ c8_ c9_ c10_ c11_ c12_ c13_ c14_ c15_ c16_ c17_ c18_ c19_ c20_ w kp tx txl rf ya yb at2 st2 iwd ifg nb fr la nms nd wf hh tl).length := O
  refine z_eq (lv' := [(0, _), (1, _), (2, _), (3, _), (4, _)]) rfl rfl rfl ?_
  refine z_iload_n O dX4_darn_0 rfl ?_
  refine z_iload_n O dX4_darn_1 rfl ?_
  refine z_iload_n O dX4_darn_2 rfl ?_
  refine z_iload O dX4_darn_3 rfl ?_
  refine z_S4e0 O (m_isDarnN (by omega) (by omega) (by omega) (by omega)) mX4_isDarn lkX4_77 dX4_darn_5 (Nat.le_of_ble_eq_true rfl) (by decide) ?_
  refine z_if_neB O 16 dX4_darn_8 (by decide) (fun h8 => ?_) (fun h8 => by omega)
  refine z_aload_n O dX4_darn_16 rfl ?_
  refine z_get O dX4_darn_17 flX4_7 (by rfl) (by rfl) ?_
  refine z_iconst O (nI 1) dX4_darn_20 (by decide) ?_
  refine z_iload_n O dX4_darn_21 rfl ?_
  refine z_iaddN O dX4_darn_22 ?_
  refine z_ialdN O dX4_darn_23 (by rfl) (by omega) (by decide) ?_
  refine z_top (v' := .int (nI (r (108 + c)))) (congrArg Value.int (congrArg nI (h.m hc))) ?_
  refine z_iconst O (nI 3) dX4_darn_24 (by decide) ?_
  refine z_icmp_neN O 33 dX4_darn_25 (by decide) (by omega) (by omega) (fun h25 => ?_) (fun h25 => by omega)
  refine z_aload_n O dX4_darn_33 rfl ?_
  refine z_V0pu0 O (m_minds h g) mX4_minds lkX4_84 rfl (by rfl) dX4_darn_34 (Nat.le_of_ble_eq_true rfl) (by decide) (fun M' hq => ?_)
  obtain ⟨w2, h2', ho2, rfl⟩ := hq
  refine z_aload_n O dX4_darn_37 rfl ?_
  refine z_iconst O (nI 0) dX4_darn_38 (by decide) ?_
  refine z_iload_n O dX4_darn_39 rfl ?_
  refine z_iload_n O dX4_darn_40 rfl ?_
  refine z_iload_n O dX4_darn_41 rfl ?_
  refine z_iload O dX4_darn_42 rfl ?_
  refine z_V5u0 O (m_puts h2'.1 g.1.1 (by decide) hc h5) mX4_puts lkX4_87 rfl (by rfl) dX4_darn_44 (Nat.le_of_ble_eq_true rfl) (by decide) ?_
  refine z_aload_n O dX4_darn_47 rfl ?_
  refine z_get O dX4_darn_48 flX4_7 (by rfl) (by rfl) ?_
  refine z_iconst O (nI 1) dX4_darn_51 (by decide) ?_
  refine z_iload_n O dX4_darn_52 rfl ?_
  refine z_iaddN O dX4_darn_53 ?_
  refine z_ialdN O dX4_darn_54 (by rfl) (by omega) (by decide) ?_
  refine z_top (v' := .int (nI (r (108 + c) + 1))) (congrArg Value.int (congrArg nI ((RW_put h2'.1 g.1.1 hc h5).1.2.1 c hc |> fun q => by rw [put_many hc h5, if_pos rfl] at q; rw [← q, Nat.zero_add]))) ?_
  exact z_iret O dX4_darn_55 ⟨_, rfl, rfl, _, RS_put h2' (GS_keep g) (RW_put h2'.1 g.1.1 hc h5) (fun j a b => putW_out hc h5 j (by omega)), fun j a b => (putW_out hc h5 j (by omega)).trans (ho2 j a b), rfl⟩
set_option maxRecDepth 20000 in
set_option maxHeartbeats 4000000 in
theorem m_unpickB {x : Int32} (hb : ¬ (nI 0 ≤ x ∧ x ≤ nI 8)) : zS G 3 yX4_unpick cX4_unpick 3 (some .int) [.ref (zad (zb G) 21), .int x] (yM G c0_ c1_ c2_ c3_ c4_ c5_ c6_ c7_ c8_ c9_ c10_ c11_ c12_ c13_ c14_ c15_ c16_ c17_ c18_ c19_ c20_ w kp tx txl rf ya yb at2 st2 iwd ifg nb fr la nms nd wf hh tl) 0 0 (zE (.int (-2)) (yM G c0_ c1_ c2_ c3_ c4_ c5_ c6_ c7_ c8_ c9_ c10_ c11_ c12_ c13_ c14_ c15_ c16_ c17_ c18_ c19_ c20_ w kp tx txl (updN rf 0 (rf 0 + 1)) ya yb at2 st2 iwd ifg nb fr la nms nd wf hh tl)) := by
  refine zS.of (by decide) (Nat.le_of_ble_eq_true rfl) (fun F O hR1 hR2 => ?_)
  have O : zOk G F yX4_unpick cX4_unpick 3 (some .int) RX4 3 (yM G c0_ c1_ c2_ c3_ c4_ c5_ c6_ c7_ c8_ c9_ c10_ c11_ c12_ c13_ c14_ c15_ c16_ c17_ c18_ c19_ c20_ w kp tx txl rf ya yb at2 st2 iwd ifg nb fr la nms nd wf hh tl).length := O
  refine z_eq (lv' := [(0, _), (1, _)]) rfl rfl rfl ?_
  refine z_iload_n O dX4_unpick_0 rfl ?_
  refine z_S1e0 O m_isCellI mX4_isCell lkX4_49 dX4_unpick_1 (Nat.le_of_ble_eq_true rfl) (by decide) ?_
  refine z_if_neB O 12 dX4_unpick_4 (by decide) (fun h4 => by exact absurd h4 hb) (fun h4 => ?_)
  refine z_aload_n O dX4_unpick_7 rfl ?_
  refine z_V0e0 O m_bad mX4_bad lkX4_65 rfl (by rfl) dX4_unpick_8 (Nat.le_of_ble_eq_true rfl) (by decide) ?_
  exact z_iret O dX4_unpick_11 ⟨rfl, rfl⟩
set_option maxRecDepth 20000 in
set_option maxHeartbeats 4000000 in
theorem m_unpickN {we r seen kept : Nat → Nat} {rd nw ud Y : Nat} (h : RS w 0 we r seen kept rd nw ud) (g : GS Y we r seen kept rd nw ud) {c : Nat} (hc : c < 9) (h0 : r (108 + c) = 0) : zS G 3 yX4_unpick cX4_unpick 3 (some .int) [.ref (zad (zb G) 21), .int (nI c)] (yM G c0_ c1_ c2_ c3_ c4_ c5_ c6_ c7_ c8_ c9_ c10_ c11_ c12_ c13_ c14_ c15_ c16_ c17_ c18_ c19_ c20_ w kp tx txl rf ya yb at2 st2 iwd ifg nb fr la nms nd wf hh tl) 0 0 (zE (.int (-3)) (yM G c0_ c1_ c2_ c3_ c4_ c5_ c6_ c7_ c8_ c9_ c10_ c11_ c12_ c13_ c14_ c15_ c16_ c17_ c18_ c19_ c20_ w kp tx txl (updN rf 1 (rf 1 + 1)) ya yb at2 st2 iwd ifg nb fr la nms nd wf hh tl)) := by
  refine zS.of (by decide) (Nat.le_of_ble_eq_true rfl) (fun F O hR1 hR2 => ?_)
  have O : zOk G F yX4_unpick cX4_unpick 3 (some .int) RX4 3 (yM G c0_ c1_ c2_ c3_ c4_ c5_ c6_ c7_ c8_ c9_ c10_ c11_ c12_ c13_ c14_ c15_ c16_ c17_ c18_ c19_ c20_ w kp tx txl rf ya yb at2 st2 iwd ifg nb fr la nms nd wf hh tl).length := O
  refine z_eq (lv' := [(0, _), (1, _)]) rfl rfl rfl ?_
  refine z_iload_n O dX4_unpick_0 rfl ?_
  refine z_S1e0 O (m_isCellN (by omega)) mX4_isCell lkX4_49 dX4_unpick_1 (Nat.le_of_ble_eq_true rfl) (by decide) ?_
  refine z_if_neB O 12 dX4_unpick_4 (by decide) (fun h4 => ?_) (fun h4 => by omega)
  refine z_aload_n O dX4_unpick_12 rfl ?_
  refine z_get O dX4_unpick_13 flX4_7 (by rfl) (by rfl) ?_
  refine z_iconst O (nI 1) dX4_unpick_16 (by decide) ?_
  refine z_iload_n O dX4_unpick_17 rfl ?_
  refine z_iaddN O dX4_unpick_18 ?_
  refine z_ialdN O dX4_unpick_19 (by rfl) (by omega) (by decide) ?_
  refine z_top (v' := .int (nI (r (108 + c)))) (congrArg Value.int (congrArg nI (h.m hc))) ?_
  refine z_if_neN O 28 dX4_unpick_20 (by decide) (by have := g.1.1.2 c hc; omega) (fun h20 => by omega) (fun h20 => ?_)
  refine z_aload_n O dX4_unpick_23 rfl ?_
  refine z_V0e0 O m_no mX4_no lkX4_91 rfl (by rfl) dX4_unpick_24 (Nat.le_of_ble_eq_true rfl) (by decide) ?_
  exact z_iret O dX4_unpick_27 ⟨rfl, rfl⟩
theorem updN_id (w : Nat → Nat) (k : Nat) : updN w k (w k) = w := by
  funext j
  unfold updN
  split
  · rename_i e; rw [e]
  · rfl
set_option maxRecDepth 20000 in
set_option maxHeartbeats 4000000 in
theorem m_unpick {we r seen kept : Nat → Nat} {rd nw ud Y : Nat} (h : RS w 0 we r seen kept rd nw ud) (g : GS Y we r seen kept rd nw ud) {c : Nat} (hc : c < 9) (h0 : 0 < r (108 + c)) : zS G 3 yX4_unpick cX4_unpick 3 (some .int) [.ref (zad (zb G) 21), .int (nI c)] (yM G c0_ c1_ c2_ c3_ c4_ c5_ c6_ c7_ c8_ c9_ c10_ c11_ c12_ c13_ c14_ c15_ c16_ c17_ c18_ c19_ c20_ w kp tx txl rf ya yb at2 st2 iwd ifg nb fr la nms nd wf hh tl) 0 0 (zP (fun v M' => v = .int (nI (fld r c (r (108 + c) - 1) 2)) ∧ ∃ w' : Nat → Nat, RS w' 0 we (takeN r c) seen (keptN r kept nw) rd ((nw + 1) % 8) (min (ud + 1) 8) ∧ kpW w w' ∧ M' = (yM G c0_ c1_ c2_ c3_ c4_ c5_ c6_ c7_ c8_ c9_ c10_ c11_ c12_ c13_ c14_ c15_ c16_ c17_ c18_ c19_ c20_ w' kp tx txl rf ya yb at2 st2 iwd ifg nb fr la nms nd wf hh tl))) := by
  refine zS.of (by decide) (Nat.le_of_ble_eq_true rfl) (fun F O hR1 hR2 => ?_)
  have O : zOk G F yX4_unpick cX4_unpick 3 (some .int) RX4 3 (yM G c0_ c1_ c2_ c3_ c4_ c5_ c6_ c7_ c8_ c9_ c10_ c11_ c12_ c13_ c14_ c15_ c16_ c17_ c18_ c19_ c20_ w kp tx txl rf ya yb at2 st2 iwd ifg nb fr la nms nd wf hh tl).length := O
  refine z_eq (lv' := [(0, _), (1, _)]) rfl rfl rfl ?_
  refine z_iload_n O dX4_unpick_0 rfl ?_
  refine z_S1e0 O (m_isCellN (by omega)) mX4_isCell lkX4_49 dX4_unpick_1 (Nat.le_of_ble_eq_true rfl) (by decide) ?_
  refine z_if_neB O 12 dX4_unpick_4 (by decide) (fun h4 => ?_) (fun h4 => by omega)
  refine z_aload_n O dX4_unpick_12 rfl ?_
  refine z_get O dX4_unpick_13 flX4_7 (by rfl) (by rfl) ?_
  refine z_iconst O (nI 1) dX4_unpick_16 (by decide) ?_
  refine z_iload_n O dX4_unpick_17 rfl ?_
  refine z_iaddN O dX4_unpick_18 ?_
  refine z_ialdN O dX4_unpick_19 (by rfl) (by omega) (by decide) ?_
  refine z_top (v' := .int (nI (r (108 + c)))) (congrArg Value.int (congrArg nI (h.m hc))) ?_
  refine z_if_neN O 28 dX4_unpick_20 (by decide) (by have := g.1.1.2 c hc; omega) (fun h20 => ?_) (fun h20 => by omega)
  refine z_aload_n O dX4_unpick_28 rfl ?_
  refine z_V0pu0 O (m_minds h g) mX4_minds lkX4_84 rfl (by rfl) dX4_unpick_29 (Nat.le_of_ble_eq_true rfl) (by decide) (fun M' hq => ?_)
  obtain ⟨w2, h2', ho2, rfl⟩ := hq
  have h3 := g.1.1.2 c hc
  refine z_aload_n O dX4_unpick_32 rfl ?_
  refine z_get O dX4_unpick_33 flX4_7 (by rfl) (by rfl) ?_
  refine z_aload_n O dX4_unpick_36 rfl ?_
  refine z_iconst O (nI 0) dX4_unpick_37 (by decide) ?_
  refine z_iload_n O dX4_unpick_38 rfl ?_
  refine z_V2e0 O (m_topOf h2'.1 g.1.1 (by decide) hc h0) mX4_topOf lkX4_94 rfl (by rfl) dX4_unpick_39 (Nat.le_of_ble_eq_true rfl) (by decide) ?_
  refine z_iconst O (nI 2) dX4_unpick_42 (by decide) ?_
  refine z_iaddN O dX4_unpick_43 ?_
  refine z_ialdN O dX4_unpick_44 (by rfl) (by omega) (by decide) ?_
  refine z_top (v' := .int (nI (fld r c (r (108 + c) - 1) 2))) (congrArg Value.int (congrArg nI (h2'.1.1.2.2 c (r (108 + c) - 1) 2 hc (by omega) (by decide)))) ?_
  refine z_istore_n (lv' := [(0, _), (1, _), (2, _)]) O dX4_unpick_45 (by decide) rfl ?_
  refine z_aload_n O dX4_unpick_46 rfl ?_
  refine z_get O dX4_unpick_47 flX4_7 (by rfl) (by rfl) ?_
  refine z_iconst O (nI 1) dX4_unpick_50 (by decide) ?_
  refine z_iload_n O dX4_unpick_51 rfl ?_
  refine z_iaddN O dX4_unpick_52 ?_
  refine z_dup2 O dX4_unpick_53 rfl rfl ?_
  refine z_ialdN O dX4_unpick_54 (by rfl) (by omega) (by decide) ?_
  refine z_top (v' := .int (nI (r (108 + c)))) (congrArg Value.int (congrArg nI (h2'.m hc))) ?_
  refine z_iconst O (nI 1) dX4_unpick_55 (by decide) ?_
  refine z_isubN O dX4_unpick_56 (by omega) ?_
  refine z_iastN O (by rfl) dX4_unpick_57 (by rfl) (by omega) (by decide) ?_
  refine z_iload_n O dX4_unpick_58 rfl ?_
  exact z_iret O dX4_unpick_59 (have hx : updN w2 (1 + c) (r (108 + c) - 1) = updN (updN w2 (0 + (10 + 12 * c + 4 * (r (108 + c) - 1)) + 2) (w2 (0 + (10 + 12 * c + 4 * (r (108 + c) - 1)) + 2))) (0 + 1 + c) (r (108 + c) - 1) := (by rw [updN_id, Nat.zero_add]); ⟨_, rfl, rfl, _, RS_put h2' (GS_keep g) (by rw [hx]; exact RW_wear1 h2'.1 g.1.1 hc h0) (fun j a b => updN_n (by omega)), fun j a b => (updN_n (by omega)).trans (ho2 j a b), rfl⟩)
set_option maxRecDepth 20000 in
set_option maxHeartbeats 4000000 in
theorem m_yearsB {x : Int32} (hb : ¬ (nI 1 ≤ x ∧ x ≤ nI 20)) : zS G 2 yX4_years cX4_years 3 (some .int) [.ref (zad (zb G) 21), .int x] (yM G c0_ c1_ c2_ c3_ c4_ c5_ c6_ c7_ c8_ c9_ c10_ c11_ c12_ c13_ c14_ c15_ c16_ c17_ c18_ c19_ c20_ w kp tx txl rf ya yb at2 st2 iwd ifg nb fr la nms nd wf hh tl) 0 0 (zE (.int (-2)) (yM G c0_ c1_ c2_ c3_ c4_ c5_ c6_ c7_ c8_ c9_ c10_ c11_ c12_ c13_ c14_ c15_ c16_ c17_ c18_ c19_ c20_ w kp tx txl (updN rf 0 (rf 0 + 1)) ya yb at2 st2 iwd ifg nb fr la nms nd wf hh tl)) := by
  refine zS.of (by decide) (Nat.le_of_ble_eq_true rfl) (fun F O hR1 hR2 => ?_)
  have O : zOk G F yX4_years cX4_years 3 (some .int) RX4 2 (yM G c0_ c1_ c2_ c3_ c4_ c5_ c6_ c7_ c8_ c9_ c10_ c11_ c12_ c13_ c14_ c15_ c16_ c17_ c18_ c19_ c20_ w kp tx txl rf ya yb at2 st2 iwd ifg nb fr la nms nd wf hh tl).length := O
  refine z_eq (lv' := [(0, _), (1, _)]) rfl rfl rfl ?_
  refine z_iload_n O dX4_years_0 rfl ?_
  refine z_i2l O dX4_years_1 ?_
  refine z_lconst O (lN 1) dX4_years_2 (by decide) ?_
  refine z_ldc2 O dX4_years_3 klX4_101 ?_
  refine z_top (v' := .long (lN 20)) (by decide) ?_
  refine z_S3e0 O (m_inI (by decide) (by decide)) mX4_in lkX4_45 dX4_years_6 (Nat.le_of_ble_eq_true rfl) (by decide) ?_
  refine z_if_neB O 17 dX4_years_9 (by decide) (fun h9 => by exact absurd h9 hb) (fun h9 => ?_)
  refine z_aload_n O dX4_years_12 rfl ?_
  refine z_V0e0 O m_bad mX4_bad lkX4_65 rfl (by rfl) dX4_years_13 (Nat.le_of_ble_eq_true rfl) (by decide) ?_
  exact z_iret O dX4_years_16 ⟨rfl, rfl⟩
set_option maxRecDepth 20000 in
set_option maxHeartbeats 4000000 in
theorem m_years {we r seen kept : Nat → Nat} {rd nw ud Y : Nat} (h : RS w 0 we r seen kept rd nw ud) (g : GS Y we r seen kept rd nw ud) (hw : weOK we) (hY : Y + 20 < 1048576) {n : Nat} (h1 : 1 ≤ n) (h2 : n ≤ 20) : zS G 4 yX4_years cX4_years 3 (some .int) [.ref (zad (zb G) 21), .int (nI n)] (yM G c0_ c1_ c2_ c3_ c4_ c5_ c6_ c7_ c8_ c9_ c10_ c11_ c12_ c13_ c14_ c15_ c16_ c17_ c18_ c19_ c20_ w kp tx txl rf ya yb at2 st2 iwd ifg nb fr la nms nd wf hh tl) 0 0 (zP (fun v M' => v = .int (nI (popN (bitsN (holesB (ps we r n)) 9))) ∧ ∃ w' : Nat → Nat, RS w' 0 we ((yk we (r, kept, nw, ud) n).1 ) seen ((yk we (r, kept, nw, ud) n).2.1 ) rd ((yk we (r, kept, nw, ud) n).2.2.1 ) ((yk we (r, kept, nw, ud) n).2.2.2 ) ∧ kpW w w' ∧ M' = (yM G c0_ c1_ c2_ c3_ c4_ c5_ c6_ c7_ c8_ c9_ c10_ c11_ c12_ c13_ c14_ c15_ c16_ c17_ c18_ c19_ c20_ w' kp tx txl rf ya yb at2 st2 iwd ifg nb fr la nms nd wf hh tl))) := by
  refine zS.of (by decide) (Nat.le_of_ble_eq_true rfl) (fun F O hR1 hR2 => ?_)
  have O : zOk G F yX4_years cX4_years 3 (some .int) RX4 4 (yM G c0_ c1_ c2_ c3_ c4_ c5_ c6_ c7_ c8_ c9_ c10_ c11_ c12_ c13_ c14_ c15_ c16_ c17_ c18_ c19_ c20_ w kp tx txl rf ya yb at2 st2 iwd ifg nb fr la nms nd wf hh tl).length := O
  refine z_eq (lv' := [(0, _), (1, _)]) rfl rfl rfl ?_
  refine z_iload_n O dX4_years_0 rfl ?_
  refine z_i2lN O dX4_years_1 (by omega) ?_
  refine z_lconst O (lN 1) dX4_years_2 (by decide) ?_
  refine z_ldc2 O dX4_years_3 klX4_101 ?_
  refine z_top (v' := .long (lN 20)) (by decide) ?_
  refine z_S3e0 O (m_inN (by omega) (by decide) (by decide)) mX4_in lkX4_45 dX4_years_6 (Nat.le_of_ble_eq_true rfl) (by decide) ?_
  refine z_if_neB O 17 dX4_years_9 (by decide) (fun h9 => ?_) (fun h9 => by omega)
  refine z_iconst O (nI 0) dX4_years_17 (by decide) ?_
  refine z_istore_n (lv' := [(0, _), (1, _), (2, _)]) O dX4_years_18 (by decide) rfl ?_
  refine zdown (P := fun i => ∀ w' : Nat → Nat, RS w' 0 we (yk we (r, kept, nw, ud) i).1 seen (yk we (r, kept, nw, ud) i).2.1 rd (yk we (r, kept, nw, ud) i).2.2.1 (yk we (r, kept, nw, ud) i).2.2.2 → kpW w w' → Z G F 0 0 (zEnd G F (zP (fun v M' => v = .int (nI (popN (bitsN (holesB (ps we r n)) 9))) ∧ ∃ w' : Nat → Nat, RS w' 0 we ((yk we (r, kept, nw, ud) n).1 ) seen ((yk we (r, kept, nw, ud) n).2.1 ) rd ((yk we (r, kept, nw, ud) n).2.2.1 ) ((yk we (r, kept, nw, ud) n).2.2.2 ) ∧ kpW w w' ∧ M' = (yM G c0_ c1_ c2_ c3_ c4_ c5_ c6_ c7_ c8_ c9_ c10_ c11_ c12_ c13_ c14_ c15_ c16_ c17_ c18_ c19_ c20_ w' kp tx txl rf ya yb at2 st2 iwd ifg nb fr la nms nd wf hh tl))) 0 0) 19 [(0, .ref (zad (zb G) 21)), (1, .int (nI n)), (2, .int (nI i))] [] (yM G c0_ c1_ c2_ c3_ c4_ c5_ c6_ c7_ c8_ c9_ c10_ c11_ c12_ c13_ c14_ c15_ c16_ c17_ c18_ c19_ c20_ w' kp tx txl rf ya yb at2 st2 iwd ifg nb fr la nms nd wf hh tl)) (n) ?_ ?_ w h (fun _ _ _ => rfl)
  · intro w' h' ho
    have hgn := GS_years (s := (r, kept, nw, ud)) g hY n (by omega)
    refine z_iload_n O dX4_years_19 rfl ?_
    refine z_iload_n O dX4_years_20 rfl ?_
    refine z_icmp_geN O 40 dX4_years_21 (by decide) (by omega) (by omega) (fun h21 => ?_) (fun h21 => by omega)
    refine z_aload_n O dX4_years_40 rfl ?_
    refine z_iconst O (nI 0) dX4_years_41 (by decide) ?_
    refine z_V1e0 O (m_holesIn h'.1 hgn.1.1 (by decide)) mX4_holesIn lkX4_107 rfl (by rfl) dX4_years_42 (Nat.le_of_ble_eq_true rfl) (by decide) ?_
    refine z_S1e0 O (m_ones (by have := bitsN_lt (holesB (yk we (r, kept, nw, ud) n).1) 9; omega)) mX4_ones lkX4_110 dX4_years_45 (Nat.le_of_ble_eq_true rfl) (by decide) ?_
    exact z_iret O dX4_years_48 ⟨_, rfl, by rw [yk_row], w', h', ho, rfl⟩
  · intro i hi ih w' h' ho
    have hgi := GS_years (s := (r, kept, nw, ud)) g hY i (by omega)
    refine z_iload_n O dX4_years_19 rfl ?_
    refine z_iload_n O dX4_years_20 rfl ?_
    refine z_icmp_geN O 40 dX4_years_21 (by decide) (by omega) (by omega) (fun h21 => by omega) (fun h21 => ?_)
    refine z_aload_n O dX4_years_24 rfl ?_
    refine z_V0pu0 O (m_minds h' hgi) mX4_minds lkX4_84 rfl (by rfl) dX4_years_25 (Nat.le_of_ble_eq_true rfl) (by decide) (fun M' hq => ?_)
    obtain ⟨w2, h2, ho2, rfl⟩ := hq
    refine z_aload_n O dX4_years_28 rfl ?_
    refine z_iconst O (nI 0) dX4_years_29 (by decide) ?_
    refine z_iconst O (nI 1) dX4_years_30 (by decide) ?_
    refine z_V2pu0 O (m_passes1 h2.1 hgi.1.1 (by decide) hw) mX4_passes lkX4_103 rfl (by rfl) dX4_years_31 (Nat.le_of_ble_eq_true rfl) (by decide) (fun M' hq => ?_)
    obtain ⟨w3, h3, ho3, rfl⟩ := hq
    refine z_iincN (lv' := [(0, _), (1, _), (2, _)]) O 1 dX4_years_34 (by decide) rfl rfl (by decide) ?_
    refine z_goto O 19 dX4_years_37 (by decide) ?_
    exact ih w3 (RS_put h2 (GS_keep hgi) h3 (fun j a b => ho3 j (by omega))) (fun j a b => (ho3 j (by omega)).trans ((ho2 j a b).trans (ho j a b)))
set_option maxRecDepth 20000 in
set_option maxHeartbeats 4000000 in
theorem m_undoN {we r seen kept : Nat → Nat} {rd nw ud Y : Nat} (h : RS w 0 we r seen kept rd nw ud) (g : GS Y we r seen kept rd nw ud) (h0 : ud = 0) : zS G 2 yX4_undo cX4_undo 1 (some .int) [.ref (zad (zb G) 21)] (yM G c0_ c1_ c2_ c3_ c4_ c5_ c6_ c7_ c8_ c9_ c10_ c11_ c12_ c13_ c14_ c15_ c16_ c17_ c18_ c19_ c20_ w kp tx txl rf ya yb at2 st2 iwd ifg nb fr la nms nd wf hh tl) 0 0 (zE (.int (-3)) (yM G c0_ c1_ c2_ c3_ c4_ c5_ c6_ c7_ c8_ c9_ c10_ c11_ c12_ c13_ c14_ c15_ c16_ c17_ c18_ c19_ c20_ w kp tx txl (updN rf 1 (rf 1 + 1)) ya yb at2 st2 iwd ifg nb fr la nms nd wf hh tl)) := by
  refine zS.of (by decide) (Nat.le_of_ble_eq_true rfl) (fun F O hR1 hR2 => ?_)
  have O : zOk G F yX4_undo cX4_undo 1 (some .int) RX4 2 (yM G c0_ c1_ c2_ c3_ c4_ c5_ c6_ c7_ c8_ c9_ c10_ c11_ c12_ c13_ c14_ c15_ c16_ c17_ c18_ c19_ c20_ w kp tx txl rf ya yb at2 st2 iwd ifg nb fr la nms nd wf hh tl).length := O
  refine z_eq (lv' := [(0, _)]) rfl rfl rfl ?_
  refine z_aload_n O dX4_undo_0 rfl ?_
  refine z_get O dX4_undo_1 flX4_7 (by rfl) (by rfl) ?_
  refine z_sipush O (nI 146) dX4_undo_4 (by decide) ?_
  refine z_ialdN O dX4_undo_7 (by rfl) (by omega) (by decide) ?_
  refine z_top (v' := .int (nI ud)) (congrArg Value.int (congrArg nI h.n.2.1)) ?_
  refine z_if_neN O 16 dX4_undo_8 (by decide) (by omega) (fun h8 => by omega) (fun h8 => ?_)
  refine z_aload_n O dX4_undo_11 rfl ?_
  refine z_V0e0 O m_no mX4_no lkX4_91 rfl (by rfl) dX4_undo_12 (Nat.le_of_ble_eq_true rfl) (by decide) ?_
  exact z_iret O dX4_undo_15 ⟨rfl, rfl⟩
set_option maxRecDepth 20000 in
set_option maxHeartbeats 4000000 in
theorem m_undo {we r seen kept : Nat → Nat} {rd nw ud Y : Nat} (h : RS w 0 we r seen kept rd nw ud) (g : GS Y we r seen kept rd nw ud) (h0 : 0 < ud) : zS G 2 yX4_undo cX4_undo 1 (some .int) [.ref (zad (zb G) 21)] (yM G c0_ c1_ c2_ c3_ c4_ c5_ c6_ c7_ c8_ c9_ c10_ c11_ c12_ c13_ c14_ c15_ c16_ c17_ c18_ c19_ c20_ w kp tx txl rf ya yb at2 st2 iwd ifg nb fr la nms nd wf hh tl) 0 0 (zP (fun v M' => v = .int (nI (darnsM (backN r kept nw) 511 9)) ∧ ∃ w' : Nat → Nat, RS w' 0 we (backN r kept nw) seen kept rd ((nw + 7) % 8) (ud - 1) ∧ kpW w w' ∧ M' = (yM G c0_ c1_ c2_ c3_ c4_ c5_ c6_ c7_ c8_ c9_ c10_ c11_ c12_ c13_ c14_ c15_ c16_ c17_ c18_ c19_ c20_ w' kp tx txl rf ya yb at2 st2 iwd ifg nb fr la nms nd wf hh tl))) := by
  refine zS.of (by decide) (Nat.le_of_ble_eq_true rfl) (fun F O hR1 hR2 => ?_)
  have O : zOk G F yX4_undo cX4_undo 1 (some .int) RX4 2 (yM G c0_ c1_ c2_ c3_ c4_ c5_ c6_ c7_ c8_ c9_ c10_ c11_ c12_ c13_ c14_ c15_ c16_ c17_ c18_ c19_ c20_ w kp tx txl rf ya yb at2 st2 iwd ifg nb fr la nms nd wf hh tl).length := O
  refine z_eq (lv' := [(0, _)]) rfl rfl rfl ?_
  have h8 := g.2.2.2.2.2.2.2.2.2
  refine z_aload_n O dX4_undo_0 rfl ?_
  refine z_get O dX4_undo_1 flX4_7 (by rfl) (by rfl) ?_
  refine z_sipush O (nI 146) dX4_undo_4 (by decide) ?_
  refine z_ialdN O dX4_undo_7 (by rfl) (by omega) (by decide) ?_
  refine z_top (v' := .int (nI ud)) (congrArg Value.int (congrArg nI h.n.2.1)) ?_
  refine z_if_neN O 16 dX4_undo_8 (by decide) (by omega) (fun h8 => ?_) (fun h8 => by omega)
  refine z_aload_n O dX4_undo_16 rfl ?_
  refine z_get O dX4_undo_17 flX4_7 (by rfl) (by rfl) ?_
  refine z_sipush O (nI 146) dX4_undo_20 (by decide) ?_
  refine z_dup2 O dX4_undo_23 rfl rfl ?_
  refine z_ialdN O dX4_undo_24 (by rfl) (by omega) (by decide) ?_
  refine z_top (v' := .int (nI ud)) (congrArg Value.int (congrArg nI h.n.2.1)) ?_
  refine z_iconst O (nI 1) dX4_undo_25 (by decide) ?_
  refine z_isubN O dX4_undo_26 (by omega) ?_
  refine z_iastN O (by rfl) dX4_undo_27 (by rfl) (by omega) (by decide) ?_
  refine z_aload_n O dX4_undo_28 rfl ?_
  refine z_sipush O (nI 147) dX4_undo_29 (by decide) ?_
  refine z_bipush O (nI 118) dX4_undo_32 (by decide) ?_
  refine z_aload_n O dX4_undo_34 rfl ?_
  refine z_get O dX4_undo_35 flX4_7 (by rfl) (by rfl) ?_
  refine z_sipush O (nI 146) dX4_undo_38 (by decide) ?_
  refine z_ialdN O dX4_undo_41 (by rfl) (by omega) (by decide) ?_
  refine z_top (v' := .int (nI (ud - 1))) (congrArg Value.int (congrArg nI updN_s)) ?_
  refine z_imulN O dX4_undo_42 ?_
  refine z_iaddN O dX4_undo_43 ?_
  refine z_iconst O (nI 0) dX4_undo_44 (by decide) ?_
  refine z_bipush O (nI 118) dX4_undo_45 (by decide) ?_
  refine z_V3u0 O (m_copy (by omega) (by omega) (by omega)) mX4_copy lkX4_73 rfl (by rfl) dX4_undo_47 (Nat.le_of_ble_eq_true rfl) (by decide) ?_
  have hu : RS (cpyN (updN w 146 (ud - 1)) (updN w 146 (ud - 1)) (147 + 118 * (ud - 1)) 0 118) 0 we (backN r kept nw) seen kept rd ((nw + 7) % 8) (ud - 1) := RS_undo h g h0 (fun j a b e => by rw [cpyN, if_neg (by omega), updN_n e]) (by rw [cpyN, if_neg (by omega), updN_s]) (fun j hj => by rw [cpyN, if_pos (by omega), updN_n (by omega)]; congr 1)
  refine z_aload_n O dX4_undo_50 rfl ?_
  refine z_iconst O (nI 0) dX4_undo_51 (by decide) ?_
  refine z_V1e0 O (m_darnsIn hu.1 (GS_undo g).1.1 (by decide)) mX4_darnsIn lkX4_69 rfl (by rfl) dX4_undo_52 (Nat.le_of_ble_eq_true rfl) (by decide) ?_
  exact z_iret O dX4_undo_55 ⟨_, rfl, rfl, _, hu, fun j a b => by rw [cpyN, if_neg (by omega), updN_n (by omega)], rfl⟩
set_option maxRecDepth 20000 in
set_option maxHeartbeats 4000000 in
theorem m_typeB {x : Int32} (hb : ¬ (nI 0 ≤ x ∧ x ≤ nI 127)) : zS G 2 yX4_type cX4_type 2 (some .int) [.ref (zad (zb G) 21), .int x] (yM G c0_ c1_ c2_ c3_ c4_ c5_ c6_ c7_ c8_ c9_ c10_ c11_ c12_ c13_ c14_ c15_ c16_ c17_ c18_ c19_ c20_ w kp tx txl rf ya yb at2 st2 iwd ifg nb fr la nms nd wf hh tl) 0 0 (zE (.int (-2)) (yM G c0_ c1_ c2_ c3_ c4_ c5_ c6_ c7_ c8_ c9_ c10_ c11_ c12_ c13_ c14_ c15_ c16_ c17_ c18_ c19_ c20_ w kp tx txl (updN rf 0 (rf 0 + 1)) ya yb at2 st2 iwd ifg nb fr la nms nd wf hh tl)) := by
  refine zS.of (by decide) (Nat.le_of_ble_eq_true rfl) (fun F O hR1 hR2 => ?_)
  have O : zOk G F yX4_type cX4_type 2 (some .int) RX4 2 (yM G c0_ c1_ c2_ c3_ c4_ c5_ c6_ c7_ c8_ c9_ c10_ c11_ c12_ c13_ c14_ c15_ c16_ c17_ c18_ c19_ c20_ w kp tx txl rf ya yb at2 st2 iwd ifg nb fr la nms nd wf hh tl).length := O
  refine z_eq (lv' := [(0, _), (1, _)]) rfl rfl rfl ?_
  refine z_iload_n O dX4_type_0 rfl ?_
  refine z_i2l O dX4_type_1 ?_
  refine z_lconst O (lN 0) dX4_type_2 (by decide) ?_
  refine z_ldc2 O dX4_type_3 klX4_113 ?_
  refine z_top (v' := .long (lN 127)) (by decide) ?_
  refine z_S3e0 O (m_inI (by decide) (by decide)) mX4_in lkX4_45 dX4_type_6 (Nat.le_of_ble_eq_true rfl) (by decide) ?_
  refine z_if_neB O 17 dX4_type_9 (by decide) (fun h9 => by exact absurd h9 hb) (fun h9 => ?_)
  refine z_aload_n O dX4_type_12 rfl ?_
  refine z_V0e0 O m_bad mX4_bad lkX4_65 rfl (by rfl) dX4_type_13 (Nat.le_of_ble_eq_true rfl) (by decide) ?_
  exact z_iret O dX4_type_16 ⟨rfl, rfl⟩
set_option maxRecDepth 20000 in
set_option maxHeartbeats 4000000 in
theorem m_typeF {b : Nat} (hb : b ≤ 127) (hl : txl = 150) : zS G 2 yX4_type cX4_type 2 (some .int) [.ref (zad (zb G) 21), .int (nI b)] (yM G c0_ c1_ c2_ c3_ c4_ c5_ c6_ c7_ c8_ c9_ c10_ c11_ c12_ c13_ c14_ c15_ c16_ c17_ c18_ c19_ c20_ w kp tx txl rf ya yb at2 st2 iwd ifg nb fr la nms nd wf hh tl) 0 0 (zE (.int (-4)) (yM G c0_ c1_ c2_ c3_ c4_ c5_ c6_ c7_ c8_ c9_ c10_ c11_ c12_ c13_ c14_ c15_ c16_ c17_ c18_ c19_ c20_ w kp tx txl (updN rf 2 (rf 2 + 1)) ya yb at2 st2 iwd ifg nb fr la nms nd wf hh tl)) := by
  refine zS.of (by decide) (Nat.le_of_ble_eq_true rfl) (fun F O hR1 hR2 => ?_)
  have O : zOk G F yX4_type cX4_type 2 (some .int) RX4 2 (yM G c0_ c1_ c2_ c3_ c4_ c5_ c6_ c7_ c8_ c9_ c10_ c11_ c12_ c13_ c14_ c15_ c16_ c17_ c18_ c19_ c20_ w kp tx txl rf ya yb at2 st2 iwd ifg nb fr la nms nd wf hh tl).length := O
  refine z_eq (lv' := [(0, _), (1, _)]) rfl rfl rfl ?_
  refine z_iload_n O dX4_type_0 rfl ?_
  refine z_i2lN O dX4_type_1 (by omega) ?_
  refine z_lconst O (lN 0) dX4_type_2 (by decide) ?_
  refine z_ldc2 O dX4_type_3 klX4_113 ?_
  refine z_top (v' := .long (lN 127)) (by decide) ?_
  refine z_S3e0 O (m_inN (by omega) (by decide) (by decide)) mX4_in lkX4_45 dX4_type_6 (Nat.le_of_ble_eq_true rfl) (by decide) ?_
  refine z_if_neB O 17 dX4_type_9 (by decide) (fun h9 => ?_) (fun h9 => by omega)
  refine z_aload_n O dX4_type_17 rfl ?_
  refine z_get O dX4_type_18 flX4_115 (by rfl) (by rfl) ?_
  refine z_sipush O (nI 150) dX4_type_21 (by decide) ?_
  refine z_icmp_neN O 32 dX4_type_24 (by decide) (by omega) (by omega) (fun h24 => by omega) (fun h24 => ?_)
  refine z_aload_n O dX4_type_27 rfl ?_
  refine z_V0e0 O m_full mX4_full lkX4_81 rfl (by rfl) dX4_type_28 (Nat.le_of_ble_eq_true rfl) (by decide) ?_
  exact z_iret O dX4_type_31 ⟨rfl, rfl⟩
set_option maxRecDepth 20000 in
set_option maxHeartbeats 4000000 in
theorem m_type {b : Nat} (hb : b ≤ 127) (hl : txl < 150) : zS G 2 yX4_type cX4_type 2 (some .int) [.ref (zad (zb G) 21), .int (nI b)] (yM G c0_ c1_ c2_ c3_ c4_ c5_ c6_ c7_ c8_ c9_ c10_ c11_ c12_ c13_ c14_ c15_ c16_ c17_ c18_ c19_ c20_ w kp tx txl rf ya yb at2 st2 iwd ifg nb fr la nms nd wf hh tl) 0 0 (zE (.int (nI (txl + 1))) (yM G c0_ c1_ c2_ c3_ c4_ c5_ c6_ c7_ c8_ c9_ c10_ c11_ c12_ c13_ c14_ c15_ c16_ c17_ c18_ c19_ c20_ w kp (updN tx txl b) (txl + 1) rf ya yb at2 st2 iwd ifg nb fr la nms nd wf hh tl)) := by
  refine zS.of (by decide) (Nat.le_of_ble_eq_true rfl) (fun F O hR1 hR2 => ?_)
  have O : zOk G F yX4_type cX4_type 2 (some .int) RX4 2 (yM G c0_ c1_ c2_ c3_ c4_ c5_ c6_ c7_ c8_ c9_ c10_ c11_ c12_ c13_ c14_ c15_ c16_ c17_ c18_ c19_ c20_ w kp tx txl rf ya yb at2 st2 iwd ifg nb fr la nms nd wf hh tl).length := O
  refine z_eq (lv' := [(0, _), (1, _)]) rfl rfl rfl ?_
  refine z_iload_n O dX4_type_0 rfl ?_
  refine z_i2lN O dX4_type_1 (by omega) ?_
  refine z_lconst O (lN 0) dX4_type_2 (by decide) ?_
  refine z_ldc2 O dX4_type_3 klX4_113 ?_
  refine z_top (v' := .long (lN 127)) (by decide) ?_
  refine z_S3e0 O (m_inN (by omega) (by decide) (by decide)) mX4_in lkX4_45 dX4_type_6 (Nat.le_of_ble_eq_true rfl) (by decide) ?_
  refine z_if_neB O 17 dX4_type_9 (by decide) (fun h9 => ?_) (fun h9 => by omega)
  refine z_aload_n O dX4_type_17 rfl ?_
  refine z_get O dX4_type_18 flX4_115 (by rfl) (by rfl) ?_
  refine z_sipush O (nI 150) dX4_type_21 (by decide) ?_
  refine z_icmp_neN O 32 dX4_type_24 (by decide) (by omega) (by omega) (fun h24 => ?_) (fun h24 => by omega)
  refine z_aload_n O dX4_type_32 rfl ?_
  refine z_get O dX4_type_33 flX4_17 (by rfl) (by rfl) ?_
  refine z_aload_n O dX4_type_36 rfl ?_
  refine z_get O dX4_type_37 flX4_115 (by rfl) (by rfl) ?_
  refine z_iload_n O dX4_type_40 rfl ?_
  refine z_iastN O (by rfl) dX4_type_41 (by rfl) (by omega) (by decide) ?_
  refine z_aload_n O dX4_type_42 rfl ?_
  refine z_dup O dX4_type_43 rfl ?_
  refine z_get O dX4_type_44 flX4_115 (by rfl) (by rfl) ?_
  refine z_iconst O (nI 1) dX4_type_47 (by decide) ?_
  refine z_iaddN O dX4_type_48 ?_
  refine z_put O (by rfl) dX4_type_49 flX4_115 (by rfl) rfl rfl (by simp) ?_
  refine z_aload_n O dX4_type_52 rfl ?_
  refine z_get O dX4_type_53 flX4_115 (by rfl) (by rfl) ?_
  exact z_iret O dX4_type_56 ⟨rfl, rfl⟩
set_option maxRecDepth 20000 in
set_option maxHeartbeats 4000000 in
theorem m_clear  : zS G 1 yX4_clear cX4_clear 2 (some .int) [.ref (zad (zb G) 21)] (yM G c0_ c1_ c2_ c3_ c4_ c5_ c6_ c7_ c8_ c9_ c10_ c11_ c12_ c13_ c14_ c15_ c16_ c17_ c18_ c19_ c20_ w kp tx txl rf ya yb at2 st2 iwd ifg nb fr la nms nd wf hh tl) 0 0 (zE (.int (nI txl)) (yM G c0_ c1_ c2_ c3_ c4_ c5_ c6_ c7_ c8_ c9_ c10_ c11_ c12_ c13_ c14_ c15_ c16_ c17_ c18_ c19_ c20_ w kp tx 0 rf ya yb at2 st2 iwd ifg nb fr la nms nd wf hh tl)) := by
  refine zS.of (by decide) (Nat.le_of_ble_eq_true rfl) (fun F O hR1 hR2 => ?_)
  have O : zOk G F yX4_clear cX4_clear 2 (some .int) RX4 1 (yM G c0_ c1_ c2_ c3_ c4_ c5_ c6_ c7_ c8_ c9_ c10_ c11_ c12_ c13_ c14_ c15_ c16_ c17_ c18_ c19_ c20_ w kp tx txl rf ya yb at2 st2 iwd ifg nb fr la nms nd wf hh tl).length := O
  refine z_eq (lv' := [(0, _)]) rfl rfl rfl ?_
  refine z_aload_n O dX4_clear_0 rfl ?_
  refine z_get O dX4_clear_1 flX4_115 (by rfl) (by rfl) ?_
  refine z_istore_n (lv' := [(0, _), (1, _)]) O dX4_clear_4 (by decide) rfl ?_
  refine z_aload_n O dX4_clear_5 rfl ?_
  refine z_iconst O (nI 0) dX4_clear_6 (by decide) ?_
  refine z_put O (by rfl) dX4_clear_7 flX4_115 (by rfl) rfl rfl (by simp) ?_
  refine z_iload_n O dX4_clear_10 rfl ?_
  exact z_iret O dX4_clear_11 ⟨rfl, rfl⟩
end YS
