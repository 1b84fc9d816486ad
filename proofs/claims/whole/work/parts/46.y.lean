/-! ===== the reference: what it tells ===== -/
theorem RS.f {w : Nat → Nat} {we r seen kept : Nat → Nat} {rd nw ud : Nat} (h : RS w 0 we r seen kept rd nw ud) {c p f : Nat} (hc : c < 9) (hp : p < r (108 + c)) (hf : f < 4) : w (10 + 12 * c + 4 * p + f) = fld r c p f := by
  have := h.1.1.2.2 c p f hc hp hf
  rwa [Nat.zero_add] at this
theorem RS.k {w : Nat → Nat} {we r seen kept : Nat → Nat} {rd nw ud : Nat} (h : RS w 0 we r seen kept rd nw ud) {c k : Nat} (hc : c < 9) (hk : k < 4 * r (108 + c)) : w (10 + 12 * c + 4 * 0 + k) = r (c * 12 + k) := by
  have := h.f (f := k % 4) hc (show k / 4 < r (108 + c) by omega) (by omega)
  rw [show 10 + 12 * c + 4 * (k / 4) + k % 4 = 10 + 12 * c + 4 * 0 + k by omega] at this
  rw [this]
  unfold fld
  congr 1; omega
theorem GS.w {Y : Nat} {we r seen kept : Nat → Nat} {rd nw ud : Nat} (g : GS Y we r seen kept rd nw ud) : weOK we := fun j => by have := g.2.1 j; omega
theorem GS.y {Y : Nat} {we r seen kept : Nat → Nat} {rd nw ud : Nat} (g : GS Y we r seen kept rd nw ud) (hY : Y + 200 < 1048576) : r 117 + 100 < 1048576 := by have := g.1.2.2.2.2; omega
theorem fr_ok {u d : Nat} (h : u ≤ d) : u / Nat.gcd u (if d = 0 then 1 else d) = frA u d ∧ (if d = 0 then 1 else d) / Nat.gcd u (if d = 0 then 1 else d) = frB u d := by
  unfold frA frB
  by_cases hd : d = 0
  · have hu : u = 0 := by omega
    subst hd; subst hu
    decide
  · rw [if_neg hd]
    by_cases hu : u = 0
    · subst hu
      simp [hd]
      exact Nat.div_self (by omega)
    · rw [if_neg (by omega), if_neg (by omega)]
      exact ⟨rfl, rfl⟩
theorem cl_le (r : Nat → Nat) {l f : Nat} (hf : f < 3) : clm r l f ≤ clAll r l := by
  unfold clAll
  rcases (show f = 0 ∨ f = 1 ∨ f = 2 by omega) with rfl | rfl | rfl <;> omega
def dgQ (f : Nat → Nat) (h : Int64) : Nat → Int64
  | 0 => h
  | k + 1 => mixL (dgQ f h k) (f k)
theorem dgQ_P (r : Nat → Nat) (c : Nat) (h : Int64) : ∀ p, dgQ (fun k => r (c * 12 + k)) h (4 * p) = dgP r c h p
  | 0 => rfl
  | p + 1 => by
    have ih := dgQ_P r c h p
    rw [show 4 * (p + 1) = 4 * p + 1 + 1 + 1 + 1 by omega]
    unfold dgP dgF dgF dgF dgF dgF
    show mixL (mixL (mixL (mixL (dgQ _ h (4 * p)) _) _) _) _ = _
    rw [ih]
    unfold fld
    rw [show (c * 3 + p) * 4 + 0 = c * 12 + 4 * p by omega, show (c * 3 + p) * 4 + 1 = c * 12 + (4 * p + 1) by omega, show (c * 3 + p) * 4 + 2 = c * 12 + (4 * p + 1 + 1) by omega, show (c * 3 + p) * 4 + 3 = c * 12 + (4 * p + 1 + 1 + 1) by omega]
section ZB
variable {G : zG} {F : zF} {y : MethodName} {cc : ByteArray} {nL : Nat} {ret : Option FieldType} {own : String} {d n0 cells slots pc : Nat} {Q : State → Prop} {lv : List (Nat × Value)} {st : List Value} {M : List va_E}
theorem z_zastN (O : zOk G F y cc nL ret own d n0) {a n i : Nat} {r : Nat → Nat} (hc : n0 + cells = M.length) (hd : decode cc pc = .ok (.bastore, 1)) (he : M[a]? = some (zBN G n r)) (hin : i < n) (hn : n < 2 ^ 31) (k : Z G F cells slots Q (pc + 1) lv (st) (M.set a (zBN G n (updN r i 1)))) : Z G F cells slots Q (pc) lv (.int (nI 1) :: .int (nI i) :: .ref (zad (zb G) a) :: st) M :=
  z_zast O hc hd he (vp_in_nI hin hn) (by rw [nI_clamp (by omega), show vp_nar .boolean (nI 1) = nI 1 from rfl, upd_nI]; exact k)
end ZB
section YS
variable {G : zG} {c0_ c1_ c2_ c3_ c4_ c5_ c6_ c7_ c8_ c9_ c10_ c11_ c12_ c13_ c14_ c15_ c16_ c17_ c18_ c19_ c20_ : va_E} {w kp tx : Nat → Nat} {txl : Nat} {rf : Nat → Nat} {ya yb : Int64} {at2 st2 : Nat} {iwd ifg : Int32} {nb : Nat → Nat} {fr : Int32} {la nms : Nat → Nat} {nd : Nat} {wf : Nat → Nat} {hh : Int64} {tl : List va_E}
set_option maxRecDepth 20000 in
set_option maxHeartbeats 4000000 in
theorem m_ofB {c p f : Int32} (hb : ¬ ((nI 0 ≤ c ∧ c ≤ nI 8) ∧ (nI 0 ≤ p ∧ p ≤ nI 2) ∧ (nI 0 ≤ f ∧ f ≤ nI 5))) : zS G 3 yX4_of cX4_of 5 (some .int) [.ref (zad (zb G) 21), .int c, .int p, .int f] (yM G c0_ c1_ c2_ c3_ c4_ c5_ c6_ c7_ c8_ c9_ c10_ c11_ c12_ c13_ c14_ c15_ c16_ c17_ c18_ c19_ c20_ w kp tx txl rf ya yb at2 st2 iwd ifg nb fr la nms nd wf hh tl) 0 0 (zE (.int (-2)) (yM G c0_ c1_ c2_ c3_ c4_ c5_ c6_ c7_ c8_ c9_ c10_ c11_ c12_ c13_ c14_ c15_ c16_ c17_ c18_ c19_ c20_ w kp tx txl (updN rf 0 (rf 0 + 1)) ya yb at2 st2 iwd ifg nb fr la nms nd wf hh tl)) := by
  refine zS.of (by decide) (Nat.le_of_ble_eq_true rfl) (fun F O hR1 hR2 => ?_)
  have O : zOk G F yX4_of cX4_of 5 (some .int) RX4 3 (yM G c0_ c1_ c2_ c3_ c4_ c5_ c6_ c7_ c8_ c9_ c10_ c11_ c12_ c13_ c14_ c15_ c16_ c17_ c18_ c19_ c20_ w kp tx txl rf ya yb at2 st2 iwd ifg nb fr la nms nd wf hh tl).length := O
  refine z_eq (lv' := [(0, _), (1, _), (2, _), (3, _)]) rfl rfl rfl ?_
  refine z_iload_n O dX4_of_0 rfl ?_
  refine z_S1e0 O m_isCellI mX4_isCell lkX4_49 dX4_of_1 (Nat.le_of_ble_eq_true rfl) (by decide) ?_
  refine z_if_eqB O 31 dX4_of_4 (by decide) (fun h4 => ?_) (fun h4 => ?_)
  · refine z_aload_n O dX4_of_31 rfl ?_
    refine z_V0e0 O m_bad mX4_bad lkX4_65 rfl (by rfl) dX4_of_32 (Nat.le_of_ble_eq_true rfl) (by decide) ?_
    exact z_iret O dX4_of_35 ⟨rfl, rfl⟩
  · refine z_iload_n O dX4_of_7 rfl ?_
    refine z_i2l O dX4_of_8 ?_
    refine z_lconst O (lN 0) dX4_of_9 (by decide) ?_
    refine z_ldc2 O dX4_of_10 klX4_55 ?_
    refine z_top (v' := .long (lN 2)) (by decide) ?_
    refine z_S3e0 O (m_inI (by decide) (by decide)) mX4_in lkX4_45 dX4_of_13 (Nat.le_of_ble_eq_true rfl) (by decide) ?_
    refine z_if_eqB O 31 dX4_of_16 (by decide) (fun h16 => ?_) (fun h16 => ?_)
    · refine z_aload_n O dX4_of_31 rfl ?_
      refine z_V0e0 O m_bad mX4_bad lkX4_65 rfl (by rfl) dX4_of_32 (Nat.le_of_ble_eq_true rfl) (by decide) ?_
      exact z_iret O dX4_of_35 ⟨rfl, rfl⟩
    · refine z_iload_n O dX4_of_19 rfl ?_
      refine z_i2l O dX4_of_20 ?_
      refine z_lconst O (lN 0) dX4_of_21 (by decide) ?_
      refine z_ldc2 O dX4_of_22 klX4_53 ?_
      refine z_top (v' := .long (lN 5)) (by decide) ?_
      refine z_S3e0 O (m_inI (by decide) (by decide)) mX4_in lkX4_45 dX4_of_25 (Nat.le_of_ble_eq_true rfl) (by decide) ?_
      refine z_if_neB O 36 dX4_of_28 (by decide) (fun h28 => by exact absurd ⟨h4, h16, h28⟩ hb) (fun h28 => ?_)
      refine z_aload_n O dX4_of_31 rfl ?_
      refine z_V0e0 O m_bad mX4_bad lkX4_65 rfl (by rfl) dX4_of_32 (Nat.le_of_ble_eq_true rfl) (by decide) ?_
      exact z_iret O dX4_of_35 ⟨rfl, rfl⟩
set_option maxRecDepth 20000 in
set_option maxHeartbeats 4000000 in
theorem m_of {we r seen kept : Nat → Nat} {rd nw ud Y : Nat} (h : RS w 0 we r seen kept rd nw ud) (g : GS Y we r seen kept rd nw ud) {c p f : Nat} (hc : c < 9) (hp : p < 3) (hf : f ≤ 5) : zS G 4 yX4_of cX4_of 5 (some .int) [.ref (zad (zb G) 21), .int (nI c), .int (nI p), .int (nI f)] (yM G c0_ c1_ c2_ c3_ c4_ c5_ c6_ c7_ c8_ c9_ c10_ c11_ c12_ c13_ c14_ c15_ c16_ c17_ c18_ c19_ c20_ w kp tx txl rf ya yb at2 st2 iwd ifg nb fr la nms nd wf hh tl) 0 0 (zE (.int (ofN r we c p f)) (yM G c0_ c1_ c2_ c3_ c4_ c5_ c6_ c7_ c8_ c9_ c10_ c11_ c12_ c13_ c14_ c15_ c16_ c17_ c18_ c19_ c20_ w kp tx txl rf ya yb at2 st2 iwd ifg nb fr la nms nd wf hh tl)) := by
  refine zS.of (by decide) (Nat.le_of_ble_eq_true rfl) (fun F O hR1 hR2 => ?_)
  have O : zOk G F yX4_of cX4_of 5 (some .int) RX4 4 (yM G c0_ c1_ c2_ c3_ c4_ c5_ c6_ c7_ c8_ c9_ c10_ c11_ c12_ c13_ c14_ c15_ c16_ c17_ c18_ c19_ c20_ w kp tx txl rf ya yb at2 st2 iwd ifg nb fr la nms nd wf hh tl).length := O
  refine z_eq (lv' := [(0, _), (1, _), (2, _), (3, _)]) rfl rfl rfl ?_
  have h3 := g.1.1.2 c hc
  refine z_iload_n O dX4_of_0 rfl ?_
  refine z_S1e0 O (m_isCellN (by omega)) mX4_isCell lkX4_49 dX4_of_1 (Nat.le_of_ble_eq_true rfl) (by decide) ?_
  refine z_if_eqB O 31 dX4_of_4 (by decide) (fun h4 => by omega) (fun h4 => ?_)
  refine z_iload_n O dX4_of_7 rfl ?_
  refine z_i2lN O dX4_of_8 (by omega) ?_
  refine z_lconst O (lN 0) dX4_of_9 (by decide) ?_
  refine z_ldc2 O dX4_of_10 klX4_55 ?_
  refine z_top (v' := .long (lN 2)) (by decide) ?_
  refine z_S3e0 O (m_inN (by omega) (by decide) (by decide)) mX4_in lkX4_45 dX4_of_13 (Nat.le_of_ble_eq_true rfl) (by decide) ?_
  refine z_if_eqB O 31 dX4_of_16 (by decide) (fun h16 => by omega) (fun h16 => ?_)
  refine z_iload_n O dX4_of_19 rfl ?_
  refine z_i2lN O dX4_of_20 (by omega) ?_
  refine z_lconst O (lN 0) dX4_of_21 (by decide) ?_
  refine z_ldc2 O dX4_of_22 klX4_53 ?_
  refine z_top (v' := .long (lN 5)) (by decide) ?_
  refine z_S3e0 O (m_inN (by omega) (by decide) (by decide)) mX4_in lkX4_45 dX4_of_25 (Nat.le_of_ble_eq_true rfl) (by decide) ?_
  refine z_if_neB O 36 dX4_of_28 (by decide) (fun h28 => ?_) (fun h28 => by omega)
  refine z_iload_n O dX4_of_36 rfl ?_
  refine z_aload_n O dX4_of_37 rfl ?_
  refine z_get O dX4_of_38 flX4_7 (by rfl) (by rfl) ?_
  refine z_iconst O (nI 1) dX4_of_41 (by decide) ?_
  refine z_iload_n O dX4_of_42 rfl ?_
  refine z_iaddN O dX4_of_43 ?_
  refine z_ialdN O dX4_of_44 (by rfl) (by omega) (by decide) ?_
  refine z_top (v' := .int (nI (r (108 + c)))) (congrArg Value.int (congrArg nI (h.m hc))) ?_
  refine z_icmp_ltN O 50 dX4_of_45 (by decide) (by have := g.1.1.2 c hc; omega) (by have := g.1.1.2 c hc; omega) (fun h45 => ?_) (fun h45 => ?_)
  · refine z_iload_n O dX4_of_50 rfl ?_
    refine z_iload_n O dX4_of_51 rfl ?_
    refine z_S2e0 O m_placeOf mX4_placeOf lkX4_59 dX4_of_52 (Nat.le_of_ble_eq_true rfl) (by decide) ?_
    refine z_istore (lv' := [(0, _), (1, _), (2, _), (3, _), (4, _)]) O dX4_of_55 (by decide) rfl ?_
    rcases (show f < 4 ∨ f = 4 ∨ f = 5 by omega) with hf1 | hf1 | hf1
    · refine z_iload_n O dX4_of_57 rfl ?_
      refine z_iconst O (nI 4) dX4_of_58 (by decide) ?_
      refine z_icmp_geN O 74 dX4_of_59 (by decide) (by omega) (by omega) (fun h59 => by omega) (fun h59 => ?_)
      refine z_aload_n O dX4_of_62 rfl ?_
      refine z_get O dX4_of_63 flX4_7 (by rfl) (by rfl) ?_
      refine z_iload O dX4_of_66 rfl ?_
      refine z_iload_n O dX4_of_68 rfl ?_
      refine z_iaddN O dX4_of_69 ?_
      refine z_ialdN O dX4_of_70 (by rfl) (by omega) (by decide) ?_
      refine z_top (v' := .int (nI (fld r c p f))) (congrArg Value.int (congrArg nI (h.f hc h45 (by omega)))) ?_
      refine z_goto O 114 dX4_of_71 (by decide) ?_
      exact z_iret O dX4_of_114 ⟨by rw [ofN, if_neg (by omega), if_neg (by omega), if_neg (by omega)], rfl⟩
    · refine z_iload_n O dX4_of_57 rfl ?_
      refine z_iconst O (nI 4) dX4_of_58 (by decide) ?_
      refine z_icmp_geN O 74 dX4_of_59 (by decide) (by omega) (by omega) (fun h59 => ?_) (fun h59 => by omega)
      refine z_iload_n O dX4_of_74 rfl ?_
      refine z_iconst O (nI 4) dX4_of_75 (by decide) ?_
      refine z_icmp_neN O 89 dX4_of_76 (by decide) (by omega) (by omega) (fun h76 => by omega) (fun h76 => ?_)
      refine z_aload_n O dX4_of_79 rfl ?_
      refine z_iconst O (nI 0) dX4_of_80 (by decide) ?_
      refine z_iload_n O dX4_of_81 rfl ?_
      refine z_iload_n O dX4_of_82 rfl ?_
      refine z_V3e0 O (m_countsOf h.1 g.1.1 (by decide) hc h45) mX4_countsOf lkX4_164 rfl (by rfl) dX4_of_83 (Nat.le_of_ble_eq_true rfl) (by decide) ?_
      refine z_goto O 114 dX4_of_86 (by decide) ?_
      exact z_iret O dX4_of_114 ⟨by rw [ofN, if_neg (by omega), if_pos hf1], rfl⟩
    · refine z_iload_n O dX4_of_57 rfl ?_
      refine z_iconst O (nI 4) dX4_of_58 (by decide) ?_
      refine z_icmp_geN O 74 dX4_of_59 (by decide) (by omega) (by omega) (fun h59 => ?_) (fun h59 => by omega)
      refine z_iload_n O dX4_of_74 rfl ?_
      refine z_iconst O (nI 4) dX4_of_75 (by decide) ?_
      refine z_icmp_neN O 89 dX4_of_76 (by decide) (by omega) (by omega) (fun h76 => ?_) (fun h76 => by omega)
      refine z_aload_n O dX4_of_89 rfl ?_
      refine z_get O dX4_of_90 flX4_7 (by rfl) (by rfl) ?_
      refine z_iload O dX4_of_93 rfl ?_
      refine z_ialdN O dX4_of_95 (by rfl) (by omega) (by decide) ?_
      refine z_top (v' := .int (nI (fld r c p 0))) (congrArg Value.int (congrArg nI (h.f (f := 0) hc h45 (by decide)))) ?_
      refine z_aload_n O dX4_of_96 rfl ?_
      refine z_get O dX4_of_97 flX4_7 (by rfl) (by rfl) ?_
      refine z_bipush O (nI 118) dX4_of_100 (by decide) ?_
      refine z_iload_n O dX4_of_102 rfl ?_
      refine z_iaddN O dX4_of_103 ?_
      refine z_ialdN O dX4_of_104 (by rfl) (by omega) (by decide) ?_
      refine z_top (v' := .int (nI (we c))) (congrArg Value.int (congrArg nI (h.e hc))) ?_
      refine z_aload_n O dX4_of_105 rfl ?_
      refine z_get O dX4_of_106 flX4_7 (by rfl) (by rfl) ?_
      refine z_iconst O (nI 0) dX4_of_109 (by decide) ?_
      refine z_ialdN O dX4_of_110 (by rfl) (by omega) (by decide) ?_
      refine z_top (v' := .int (nI (r 117))) (congrArg Value.int (congrArg nI h.n.2.2)) ?_
      refine z_S3e0 O (m_loses (by have hx : fld r c p 0 < 1048576 := g.1.1.1 _; omega) (by have := g.2.1 c; omega) (by have := g.1.1.1 117; omega)) mX4_loses lkX4_97 dX4_of_111 (Nat.le_of_ble_eq_true rfl) (by decide) ?_
      exact z_iret O dX4_of_114 ⟨by rw [ofN, if_neg (by omega), if_neg (by omega), if_pos hf1], rfl⟩
  · refine z_iconst O (-1) dX4_of_48 (by decide) ?_
    exact z_iret O dX4_of_49 ⟨by rw [ofN, if_pos (by omega)], rfl⟩
set_option maxRecDepth 20000 in
set_option maxHeartbeats 4000000 in
theorem m_cellB {c f : Int32} (hb : ¬ ((nI 0 ≤ c ∧ c ≤ nI 8) ∧ (nI 0 ≤ f ∧ f ≤ nI 1))) : zS G 3 yX4_cell cX4_cell 3 (some .int) [.ref (zad (zb G) 21), .int c, .int f] (yM G c0_ c1_ c2_ c3_ c4_ c5_ c6_ c7_ c8_ c9_ c10_ c11_ c12_ c13_ c14_ c15_ c16_ c17_ c18_ c19_ c20_ w kp tx txl rf ya yb at2 st2 iwd ifg nb fr la nms nd wf hh tl) 0 0 (zE (.int (-2)) (yM G c0_ c1_ c2_ c3_ c4_ c5_ c6_ c7_ c8_ c9_ c10_ c11_ c12_ c13_ c14_ c15_ c16_ c17_ c18_ c19_ c20_ w kp tx txl (updN rf 0 (rf 0 + 1)) ya yb at2 st2 iwd ifg nb fr la nms nd wf hh tl)) := by
  refine zS.of (by decide) (Nat.le_of_ble_eq_true rfl) (fun F O hR1 hR2 => ?_)
  have O : zOk G F yX4_cell cX4_cell 3 (some .int) RX4 3 (yM G c0_ c1_ c2_ c3_ c4_ c5_ c6_ c7_ c8_ c9_ c10_ c11_ c12_ c13_ c14_ c15_ c16_ c17_ c18_ c19_ c20_ w kp tx txl rf ya yb at2 st2 iwd ifg nb fr la nms nd wf hh tl).length := O
  refine z_eq (lv' := [(0, _), (1, _), (2, _)]) rfl rfl rfl ?_
  refine z_iload_n O dX4_cell_0 rfl ?_
  refine z_S1e0 O m_isCellI mX4_isCell lkX4_49 dX4_cell_1 (Nat.le_of_ble_eq_true rfl) (by decide) ?_
  refine z_if_eqB O 17 dX4_cell_4 (by decide) (fun h4 => ?_) (fun h4 => ?_)
  · refine z_aload_n O dX4_cell_17 rfl ?_
    refine z_V0e0 O m_bad mX4_bad lkX4_65 rfl (by rfl) dX4_cell_18 (Nat.le_of_ble_eq_true rfl) (by decide) ?_
    exact z_iret O dX4_cell_21 ⟨rfl, rfl⟩
  · refine z_iload_n O dX4_cell_7 rfl ?_
    refine z_i2l O dX4_cell_8 ?_
    refine z_lconst O (lN 0) dX4_cell_9 (by decide) ?_
    refine z_lconst O (lN 1) dX4_cell_10 (by decide) ?_
    refine z_S3e0 O (m_inI (by decide) (by decide)) mX4_in lkX4_45 dX4_cell_11 (Nat.le_of_ble_eq_true rfl) (by decide) ?_
    refine z_if_neB O 22 dX4_cell_14 (by decide) (fun h14 => by exact absurd ⟨h4, h14⟩ hb) (fun h14 => ?_)
    refine z_aload_n O dX4_cell_17 rfl ?_
    refine z_V0e0 O m_bad mX4_bad lkX4_65 rfl (by rfl) dX4_cell_18 (Nat.le_of_ble_eq_true rfl) (by decide) ?_
    exact z_iret O dX4_cell_21 ⟨rfl, rfl⟩
set_option maxRecDepth 20000 in
set_option maxHeartbeats 4000000 in
theorem m_cell {we r seen kept : Nat → Nat} {rd nw ud Y : Nat} (h : RS w 0 we r seen kept rd nw ud) (g : GS Y we r seen kept rd nw ud) {c f : Nat} (hc : c < 9) (hf : f ≤ 1) : zS G 3 yX4_cell cX4_cell 3 (some .int) [.ref (zad (zb G) 21), .int (nI c), .int (nI f)] (yM G c0_ c1_ c2_ c3_ c4_ c5_ c6_ c7_ c8_ c9_ c10_ c11_ c12_ c13_ c14_ c15_ c16_ c17_ c18_ c19_ c20_ w kp tx txl rf ya yb at2 st2 iwd ifg nb fr la nms nd wf hh tl) 0 0 (zE (.int (nI (if f = 0 then we c else r (108 + c)))) (yM G c0_ c1_ c2_ c3_ c4_ c5_ c6_ c7_ c8_ c9_ c10_ c11_ c12_ c13_ c14_ c15_ c16_ c17_ c18_ c19_ c20_ w kp tx txl rf ya yb at2 st2 iwd ifg nb fr la nms nd wf hh tl)) := by
  refine zS.of (by decide) (Nat.le_of_ble_eq_true rfl) (fun F O hR1 hR2 => ?_)
  have O : zOk G F yX4_cell cX4_cell 3 (some .int) RX4 3 (yM G c0_ c1_ c2_ c3_ c4_ c5_ c6_ c7_ c8_ c9_ c10_ c11_ c12_ c13_ c14_ c15_ c16_ c17_ c18_ c19_ c20_ w kp tx txl rf ya yb at2 st2 iwd ifg nb fr la nms nd wf hh tl).length := O
  refine z_eq (lv' := [(0, _), (1, _), (2, _)]) rfl rfl rfl ?_
  refine z_iload_n O dX4_cell_0 rfl ?_
  refine z_S1e0 O (m_isCellN (by omega)) mX4_isCell lkX4_49 dX4_cell_1 (Nat.le_of_ble_eq_true rfl) (by decide) ?_
  refine z_if_eqB O 17 dX4_cell_4 (by decide) (fun h4 => by omega) (fun h4 => ?_)
  refine z_iload_n O dX4_cell_7 rfl ?_
  refine z_i2lN O dX4_cell_8 (by omega) ?_
  refine z_lconst O (lN 0) dX4_cell_9 (by decide) ?_
  refine z_lconst O (lN 1) dX4_cell_10 (by decide) ?_
  refine z_S3e0 O (m_inN (by omega) (by decide) (by decide)) mX4_in lkX4_45 dX4_cell_11 (Nat.le_of_ble_eq_true rfl) (by decide) ?_
  refine z_if_neB O 22 dX4_cell_14 (by decide) (fun h14 => ?_) (fun h14 => by omega)
  by_cases hf0 : f = 0
  · refine z_iload_n O dX4_cell_22 rfl ?_
    refine z_if_neN O 38 dX4_cell_23 (by decide) (by omega) (fun h23 => by omega) (fun h23 => ?_)
    refine z_aload_n O dX4_cell_26 rfl ?_
    refine z_get O dX4_cell_27 flX4_7 (by rfl) (by rfl) ?_
    refine z_bipush O (nI 118) dX4_cell_30 (by decide) ?_
    refine z_iload_n O dX4_cell_32 rfl ?_
    refine z_iaddN O dX4_cell_33 ?_
    refine z_ialdN O dX4_cell_34 (by rfl) (by omega) (by decide) ?_
    refine z_top (v' := .int (nI (we c))) (congrArg Value.int (congrArg nI (h.e hc))) ?_
    refine z_goto O 46 dX4_cell_35 (by decide) ?_
    exact z_iret O dX4_cell_46 ⟨by rw [if_pos hf0], rfl⟩
  · refine z_iload_n O dX4_cell_22 rfl ?_
    refine z_if_neN O 38 dX4_cell_23 (by decide) (by omega) (fun h23 => ?_) (fun h23 => by omega)
    refine z_aload_n O dX4_cell_38 rfl ?_
    refine z_get O dX4_cell_39 flX4_7 (by rfl) (by rfl) ?_
    refine z_iconst O (nI 1) dX4_cell_42 (by decide) ?_
    refine z_iload_n O dX4_cell_43 rfl ?_
    refine z_iaddN O dX4_cell_44 ?_
    refine z_ialdN O dX4_cell_45 (by rfl) (by omega) (by decide) ?_
    refine z_top (v' := .int (nI (r (108 + c)))) (congrArg Value.int (congrArg nI (h.m hc))) ?_
    exact z_iret O dX4_cell_46 ⟨by rw [if_neg hf0], rfl⟩
set_option maxRecDepth 20000 in
set_option maxHeartbeats 4000000 in
theorem m_claimsB {f l : Int32} (hb : ¬ ((nI 0 ≤ f ∧ f ≤ nI 2) ∧ (nI 0 ≤ l ∧ l ≤ nI 3))) : zS G 3 yX4_claims cX4_claims 3 (some .int) [.ref (zad (zb G) 21), .int f, .int l] (yM G c0_ c1_ c2_ c3_ c4_ c5_ c6_ c7_ c8_ c9_ c10_ c11_ c12_ c13_ c14_ c15_ c16_ c17_ c18_ c19_ c20_ w kp tx txl rf ya yb at2 st2 iwd ifg nb fr la nms nd wf hh tl) 0 0 (zE (.int (-2)) (yM G c0_ c1_ c2_ c3_ c4_ c5_ c6_ c7_ c8_ c9_ c10_ c11_ c12_ c13_ c14_ c15_ c16_ c17_ c18_ c19_ c20_ w kp tx txl (updN rf 0 (rf 0 + 1)) ya yb at2 st2 iwd ifg nb fr la nms nd wf hh tl)) := by
  refine zS.of (by decide) (Nat.le_of_ble_eq_true rfl) (fun F O hR1 hR2 => ?_)
  have O : zOk G F yX4_claims cX4_claims 3 (some .int) RX4 3 (yM G c0_ c1_ c2_ c3_ c4_ c5_ c6_ c7_ c8_ c9_ c10_ c11_ c12_ c13_ c14_ c15_ c16_ c17_ c18_ c19_ c20_ w kp tx txl rf ya yb at2 st2 iwd ifg nb fr la nms nd wf hh tl).length := O
  refine z_eq (lv' := [(0, _), (1, _), (2, _)]) rfl rfl rfl ?_
  refine z_iload_n O dX4_claims_0 rfl ?_
  refine z_S1e0 O m_isFamilyI mX4_isFamily lkX4_178 dX4_claims_1 (Nat.le_of_ble_eq_true rfl) (by decide) ?_
  refine z_if_eqB O 24 dX4_claims_4 (by decide) (fun h4 => ?_) (fun h4 => ?_)
  · refine z_aload_n O dX4_claims_24 rfl ?_
    refine z_V0e0 O m_bad mX4_bad lkX4_65 rfl (by rfl) dX4_claims_25 (Nat.le_of_ble_eq_true rfl) (by decide) ?_
    exact z_iret O dX4_claims_28 ⟨rfl, rfl⟩
  · refine z_iload_n O dX4_claims_7 rfl ?_
    refine z_S1e0 O m_isLawI mX4_isLaw lkX4_181 dX4_claims_8 (Nat.le_of_ble_eq_true rfl) (by decide) ?_
    refine z_if_eqB O 24 dX4_claims_11 (by decide) (fun h11 => ?_) (fun h11 => by exact absurd ⟨h4, h11⟩ hb)
    refine z_aload_n O dX4_claims_24 rfl ?_
    refine z_V0e0 O m_bad mX4_bad lkX4_65 rfl (by rfl) dX4_claims_25 (Nat.le_of_ble_eq_true rfl) (by decide) ?_
    exact z_iret O dX4_claims_28 ⟨rfl, rfl⟩
set_option maxRecDepth 20000 in
set_option maxHeartbeats 4000000 in
theorem m_claims {we r seen kept : Nat → Nat} {rd nw ud Y : Nat} (h : RS w 0 we r seen kept rd nw ud) (g : GS Y we r seen kept rd nw ud) {f l : Nat} (hf : f < 3) (hl : l < 4) : zS G 6 yX4_claims cX4_claims 3 (some .int) [.ref (zad (zb G) 21), .int (nI f), .int (nI l)] (yM G c0_ c1_ c2_ c3_ c4_ c5_ c6_ c7_ c8_ c9_ c10_ c11_ c12_ c13_ c14_ c15_ c16_ c17_ c18_ c19_ c20_ w kp tx txl rf ya yb at2 st2 iwd ifg nb fr la nms nd wf hh tl) 0 0 (zE (.int (nI (clm r l f))) (yM G c0_ c1_ c2_ c3_ c4_ c5_ c6_ c7_ c8_ c9_ c10_ c11_ c12_ c13_ c14_ c15_ c16_ c17_ c18_ c19_ c20_ w kp tx txl rf ya yb at2 st2 iwd ifg nb fr la nms nd wf hh tl)) := by
  refine zS.of (by decide) (Nat.le_of_ble_eq_true rfl) (fun F O hR1 hR2 => ?_)
  have O : zOk G F yX4_claims cX4_claims 3 (some .int) RX4 6 (yM G c0_ c1_ c2_ c3_ c4_ c5_ c6_ c7_ c8_ c9_ c10_ c11_ c12_ c13_ c14_ c15_ c16_ c17_ c18_ c19_ c20_ w kp tx txl rf ya yb at2 st2 iwd ifg nb fr la nms nd wf hh tl).length := O
  refine z_eq (lv' := [(0, _), (1, _), (2, _)]) rfl rfl rfl ?_
  refine z_iload_n O dX4_claims_0 rfl ?_
  refine z_S1e0 O (m_isFamilyN (by omega)) mX4_isFamily lkX4_178 dX4_claims_1 (Nat.le_of_ble_eq_true rfl) (by decide) ?_
  refine z_if_eqB O 24 dX4_claims_4 (by decide) (fun h4 => by omega) (fun h4 => ?_)
  refine z_iload_n O dX4_claims_7 rfl ?_
  refine z_S1e0 O (m_isLawN (by omega)) mX4_isLaw lkX4_181 dX4_claims_8 (Nat.le_of_ble_eq_true rfl) (by decide) ?_
  refine z_if_eqB O 24 dX4_claims_11 (by decide) (fun h11 => by omega) (fun h11 => ?_)
  refine z_aload_n O dX4_claims_14 rfl ?_
  refine z_iconst O (nI 0) dX4_claims_15 (by decide) ?_
  refine z_iload_n O dX4_claims_16 rfl ?_
  refine z_iload_n O dX4_claims_17 rfl ?_
  refine z_V3e0 O (m_claimsIn h.1 g.1.1 (by decide) g.1.2.2.1 hf hl) mX4_claimsIn lkX4_173 rfl (by rfl) dX4_claims_18 (Nat.le_of_ble_eq_true rfl) (by decide) ?_
  refine z_goto O 28 dX4_claims_21 (by decide) ?_
  exact z_iret O dX4_claims_28 ⟨rfl, rfl⟩
set_option maxRecDepth 20000 in
set_option maxHeartbeats 4000000 in
theorem m_ownerB {l m : Int32} (hb : ¬ ((nI 0 ≤ l ∧ l ≤ nI 3) ∧ (nI 0 ≤ m ∧ m ≤ nI 40))) : zS G 3 yX4_owner cX4_owner 3 (some .int) [.ref (zad (zb G) 21), .int l, .int m] (yM G c0_ c1_ c2_ c3_ c4_ c5_ c6_ c7_ c8_ c9_ c10_ c11_ c12_ c13_ c14_ c15_ c16_ c17_ c18_ c19_ c20_ w kp tx txl rf ya yb at2 st2 iwd ifg nb fr la nms nd wf hh tl) 0 0 (zE (.int (-2)) (yM G c0_ c1_ c2_ c3_ c4_ c5_ c6_ c7_ c8_ c9_ c10_ c11_ c12_ c13_ c14_ c15_ c16_ c17_ c18_ c19_ c20_ w kp tx txl (updN rf 0 (rf 0 + 1)) ya yb at2 st2 iwd ifg nb fr la nms nd wf hh tl)) := by
  refine zS.of (by decide) (Nat.le_of_ble_eq_true rfl) (fun F O hR1 hR2 => ?_)
  have O : zOk G F yX4_owner cX4_owner 3 (some .int) RX4 3 (yM G c0_ c1_ c2_ c3_ c4_ c5_ c6_ c7_ c8_ c9_ c10_ c11_ c12_ c13_ c14_ c15_ c16_ c17_ c18_ c19_ c20_ w kp tx txl rf ya yb at2 st2 iwd ifg nb fr la nms nd wf hh tl).length := O
  refine z_eq (lv' := [(0, _), (1, _), (2, _)]) rfl rfl rfl ?_
  refine z_iload_n O dX4_owner_0 rfl ?_
  refine z_S1e0 O m_isLawI mX4_isLaw lkX4_181 dX4_owner_1 (Nat.le_of_ble_eq_true rfl) (by decide) ?_
  refine z_if_eqB O 19 dX4_owner_4 (by decide) (fun h4 => ?_) (fun h4 => ?_)
  · refine z_aload_n O dX4_owner_19 rfl ?_
    refine z_V0e0 O m_bad mX4_bad lkX4_65 rfl (by rfl) dX4_owner_20 (Nat.le_of_ble_eq_true rfl) (by decide) ?_
    exact z_iret O dX4_owner_23 ⟨rfl, rfl⟩
  · refine z_iload_n O dX4_owner_7 rfl ?_
    refine z_i2l O dX4_owner_8 ?_
    refine z_lconst O (lN 0) dX4_owner_9 (by decide) ?_
    refine z_ldc2 O dX4_owner_10 klX4_187 ?_
    refine z_top (v' := .long (lN 40)) (by decide) ?_
    refine z_S3e0 O (m_inI (by decide) (by decide)) mX4_in lkX4_45 dX4_owner_13 (Nat.le_of_ble_eq_true rfl) (by decide) ?_
    refine z_if_neB O 24 dX4_owner_16 (by decide) (fun h16 => by exact absurd ⟨h4, h16⟩ hb) (fun h16 => ?_)
    refine z_aload_n O dX4_owner_19 rfl ?_
    refine z_V0e0 O m_bad mX4_bad lkX4_65 rfl (by rfl) dX4_owner_20 (Nat.le_of_ble_eq_true rfl) (by decide) ?_
    exact z_iret O dX4_owner_23 ⟨rfl, rfl⟩
set_option maxRecDepth 20000 in
set_option maxHeartbeats 4000000 in
theorem m_owner {we r seen kept : Nat → Nat} {rd nw ud Y : Nat} (h : RS w 0 we r seen kept rd nw ud) (g : GS Y we r seen kept rd nw ud) (hY : Y + 200 < 1048576) {l m : Nat} (hl : l < 4) (hm : m < 41) : zS G 7 yX4_owner cX4_owner 3 (some .int) [.ref (zad (zb G) 21), .int (nI l), .int (nI m)] (yM G c0_ c1_ c2_ c3_ c4_ c5_ c6_ c7_ c8_ c9_ c10_ c11_ c12_ c13_ c14_ c15_ c16_ c17_ c18_ c19_ c20_ w kp tx txl rf ya yb at2 st2 iwd ifg nb fr la nms nd wf hh tl) 0 0 (zP (fun v M' => v = .int (optI (ownS (clm (ps we r m) l) 3).1) ∧ ∃ w' : Nat → Nat, smW w w' ∧ M' = (yM G c0_ c1_ c2_ c3_ c4_ c5_ c6_ c7_ c8_ c9_ c10_ c11_ c12_ c13_ c14_ c15_ c16_ c17_ c18_ c19_ c20_ w' kp tx txl rf ya yb at2 st2 iwd ifg nb fr la nms nd wf hh tl))) := by
  refine zS.of (by decide) (Nat.le_of_ble_eq_true rfl) (fun F O hR1 hR2 => ?_)
  have O : zOk G F yX4_owner cX4_owner 3 (some .int) RX4 7 (yM G c0_ c1_ c2_ c3_ c4_ c5_ c6_ c7_ c8_ c9_ c10_ c11_ c12_ c13_ c14_ c15_ c16_ c17_ c18_ c19_ c20_ w kp tx txl rf ya yb at2 st2 iwd ifg nb fr la nms nd wf hh tl).length := O
  refine z_eq (lv' := [(0, _), (1, _), (2, _)]) rfl rfl rfl ?_
  refine z_iload_n O dX4_owner_0 rfl ?_
  refine z_S1e0 O (m_isLawN (by omega)) mX4_isLaw lkX4_181 dX4_owner_1 (Nat.le_of_ble_eq_true rfl) (by decide) ?_
  refine z_if_eqB O 19 dX4_owner_4 (by decide) (fun h4 => by omega) (fun h4 => ?_)
  refine z_iload_n O dX4_owner_7 rfl ?_
  refine z_i2lN O dX4_owner_8 (by omega) ?_
  refine z_lconst O (lN 0) dX4_owner_9 (by decide) ?_
  refine z_ldc2 O dX4_owner_10 klX4_187 ?_
  refine z_top (v' := .long (lN 40)) (by decide) ?_
  refine z_S3e0 O (m_inN (by omega) (by decide) (by decide)) mX4_in lkX4_45 dX4_owner_13 (Nat.le_of_ble_eq_true rfl) (by decide) ?_
  refine z_if_neB O 24 dX4_owner_16 (by decide) (fun h16 => ?_) (fun h16 => by omega)
  refine z_aload_n O dX4_owner_24 rfl ?_
  refine z_iload_n O dX4_owner_25 rfl ?_
  refine z_V1pu0 O (m_passesMany h.1 g.1.1 g.w g.1.2.1 g.1.2.2.1 (g.y hY) (by omega)) mX4_passesMany lkX4_189 rfl (by rfl) dX4_owner_26 (Nat.le_of_ble_eq_true rfl) (by decide) (fun M' hq => ?_)
  obtain ⟨w', h', ho, rfl⟩ := hq
  refine z_aload_n O dX4_owner_29 rfl ?_
  refine z_sipush O (nI 3273) dX4_owner_30 (by decide) ?_
  refine z_iload_n O dX4_owner_33 rfl ?_
  refine z_V2e0 O (m_ownerIn h' (ps_ok (we := we) g.1.1 g.1.2.1 g.1.2.2.1 (g.y hY) m (by omega)).1 (by decide) (ps_ok (we := we) g.1.1 g.1.2.1 g.1.2.2.1 (g.y hY) m (by omega)).2.2.1 hl) mX4_ownerIn lkX4_193 rfl (by rfl) dX4_owner_34 (Nat.le_of_ble_eq_true rfl) (by decide) ?_
  exact z_iret O dX4_owner_37 ⟨_, rfl, rfl, w', ho, rfl⟩
set_option maxRecDepth 20000 in
set_option maxHeartbeats 4000000 in
theorem m_lawsB {f : Int32} (hb : ¬ (nI 0 ≤ f ∧ f ≤ nI 2)) : zS G 3 yX4_laws cX4_laws 4 (some .int) [.ref (zad (zb G) 21), .int f] (yM G c0_ c1_ c2_ c3_ c4_ c5_ c6_ c7_ c8_ c9_ c10_ c11_ c12_ c13_ c14_ c15_ c16_ c17_ c18_ c19_ c20_ w kp tx txl rf ya yb at2 st2 iwd ifg nb fr la nms nd wf hh tl) 0 0 (zE (.int (-2)) (yM G c0_ c1_ c2_ c3_ c4_ c5_ c6_ c7_ c8_ c9_ c10_ c11_ c12_ c13_ c14_ c15_ c16_ c17_ c18_ c19_ c20_ w kp tx txl (updN rf 0 (rf 0 + 1)) ya yb at2 st2 iwd ifg nb fr la nms nd wf hh tl)) := by
  refine zS.of (by decide) (Nat.le_of_ble_eq_true rfl) (fun F O hR1 hR2 => ?_)
  have O : zOk G F yX4_laws cX4_laws 4 (some .int) RX4 3 (yM G c0_ c1_ c2_ c3_ c4_ c5_ c6_ c7_ c8_ c9_ c10_ c11_ c12_ c13_ c14_ c15_ c16_ c17_ c18_ c19_ c20_ w kp tx txl rf ya yb at2 st2 iwd ifg nb fr la nms nd wf hh tl).length := O
  refine z_eq (lv' := [(0, _), (1, _)]) rfl rfl rfl ?_
  refine z_iload_n O dX4_laws_0 rfl ?_
  refine z_S1e0 O m_isFamilyI mX4_isFamily lkX4_178 dX4_laws_1 (Nat.le_of_ble_eq_true rfl) (by decide) ?_
  refine z_if_neB O 12 dX4_laws_4 (by decide) (fun h4 => by exact absurd h4 hb) (fun h4 => ?_)
  refine z_aload_n O dX4_laws_7 rfl ?_
  refine z_V0e0 O m_bad mX4_bad lkX4_65 rfl (by rfl) dX4_laws_8 (Nat.le_of_ble_eq_true rfl) (by decide) ?_
  exact z_iret O dX4_laws_11 ⟨rfl, rfl⟩
set_option maxRecDepth 20000 in
set_option maxHeartbeats 4000000 in
theorem m_laws {we r seen kept : Nat → Nat} {rd nw ud Y : Nat} (h : RS w 0 we r seen kept rd nw ud) (g : GS Y we r seen kept rd nw ud) {f : Nat} (hf : f < 3) : zS G 7 yX4_laws cX4_laws 4 (some .int) [.ref (zad (zb G) 21), .int (nI f)] (yM G c0_ c1_ c2_ c3_ c4_ c5_ c6_ c7_ c8_ c9_ c10_ c11_ c12_ c13_ c14_ c15_ c16_ c17_ c18_ c19_ c20_ w kp tx txl rf ya yb at2 st2 iwd ifg nb fr la nms nd wf hh tl) 0 0 (zE (.int (nI (bitsN (fun l => decide ((ownS (clm r l) 3).1 = some f)) 4))) (yM G c0_ c1_ c2_ c3_ c4_ c5_ c6_ c7_ c8_ c9_ c10_ c11_ c12_ c13_ c14_ c15_ c16_ c17_ c18_ c19_ c20_ w kp tx txl rf ya yb at2 st2 iwd ifg nb fr la nms nd wf hh tl)) := by
  refine zS.of (by decide) (Nat.le_of_ble_eq_true rfl) (fun F O hR1 hR2 => ?_)
  have O : zOk G F yX4_laws cX4_laws 4 (some .int) RX4 7 (yM G c0_ c1_ c2_ c3_ c4_ c5_ c6_ c7_ c8_ c9_ c10_ c11_ c12_ c13_ c14_ c15_ c16_ c17_ c18_ c19_ c20_ w kp tx txl rf ya yb at2 st2 iwd ifg nb fr la nms nd wf hh tl).length := O
  refine z_eq (lv' := [(0, _), (1, _)]) rfl rfl rfl ?_
  refine z_iload_n O dX4_laws_0 rfl ?_
  refine z_S1e0 O (m_isFamilyN (by omega)) mX4_isFamily lkX4_178 dX4_laws_1 (Nat.le_of_ble_eq_true rfl) (by decide) ?_
  refine z_if_neB O 12 dX4_laws_4 (by decide) (fun h4 => ?_) (fun h4 => by omega)
  refine z_iconst O (nI 0) dX4_laws_12 (by decide) ?_
  refine z_istore_n (lv' := [(0, _), (1, _), (2, _)]) O dX4_laws_13 (by decide) rfl ?_
  refine z_iconst O (nI 0) dX4_laws_14 (by decide) ?_
  refine z_istore_n (lv' := [(0, _), (1, _), (2, _), (3, _)]) O dX4_laws_15 (by decide) rfl ?_
  refine zdown (P := fun l => Z G F 0 0 (zEnd G F (zE (.int (nI (bitsN (fun l => decide ((ownS (clm r l) 3).1 = some f)) 4))) (yM G c0_ c1_ c2_ c3_ c4_ c5_ c6_ c7_ c8_ c9_ c10_ c11_ c12_ c13_ c14_ c15_ c16_ c17_ c18_ c19_ c20_ w kp tx txl rf ya yb at2 st2 iwd ifg nb fr la nms nd wf hh tl)) 0 0) 16 [(0, .ref (zad (zb G) 21)), (1, .int (nI f)), (2, .int (nI (bitsN (fun l => decide ((ownS (clm r l) 3).1 = some f)) l))), (3, .int (nI l))] [] (yM G c0_ c1_ c2_ c3_ c4_ c5_ c6_ c7_ c8_ c9_ c10_ c11_ c12_ c13_ c14_ c15_ c16_ c17_ c18_ c19_ c20_ w kp tx txl rf ya yb at2 st2 iwd ifg nb fr la nms nd wf hh tl)) (4) ?_ ?_ 
  · refine z_iload_n O dX4_laws_16 rfl ?_
    refine z_iconst O (nI 4) dX4_laws_17 (by decide) ?_
    refine z_icmp_geN O 47 dX4_laws_18 (by decide) (by omega) (by omega) (fun h18 => ?_) (fun h18 => by omega)
    refine z_iload_n O dX4_laws_47 rfl ?_
    exact z_iret O dX4_laws_48 ⟨rfl, rfl⟩
  · intro l hl ih 
    refine z_iload_n O dX4_laws_16 rfl ?_
    refine z_iconst O (nI 4) dX4_laws_17 (by decide) ?_
    refine z_icmp_geN O 47 dX4_laws_18 (by decide) (by omega) (by omega) (fun h18 => by omega) (fun h18 => ?_)
    by_cases hof : (ownS (clm r l) 3).1 = some f
    · refine z_iload_n O dX4_laws_21 rfl ?_
      refine z_aload_n O dX4_laws_22 rfl ?_
      refine z_iconst O (nI 0) dX4_laws_23 (by decide) ?_
      refine z_iload_n O dX4_laws_24 rfl ?_
      refine z_V2e0 O (m_ownerIn h.1 g.1.1 (by decide) g.1.2.2.1 hl) mX4_ownerIn lkX4_193 rfl (by rfl) dX4_laws_25 (Nat.le_of_ble_eq_true rfl) (by decide) ?_
      refine z_iload_n O dX4_laws_28 rfl ?_
      refine z_icmp_ne O 38 dX4_laws_29 (by decide) (fun h29 => by exact absurd (congrArg optI hof) h29) (fun h29 => ?_)
      refine z_iconst O (nI 1) dX4_laws_32 (by decide) ?_
      refine z_iload_n O dX4_laws_33 rfl ?_
      refine z_ishl O dX4_laws_34 ?_
      refine z_goto O 39 dX4_laws_35 (by decide) ?_
      refine z_ior O dX4_laws_39 ?_
      refine z_top (v' := .int (nI (bitsN (fun l => decide ((ownS (clm r l) 3).1 = some f)) l + 2 ^ l))) (congrArg Value.int (zb_or (bitsN_lt _ _) (by omega))) ?_
      refine z_istore_n (lv' := [(0, _), (1, _), (2, _), (3, _)]) O dX4_laws_40 (by decide) rfl ?_
      refine z_iincN (lv' := [(0, _), (1, _), (2, _), (3, _)]) O 1 dX4_laws_41 (by decide) rfl rfl (by decide) ?_
      refine z_goto O 16 dX4_laws_44 (by decide) ?_
      rw [show bitsN (fun l => decide ((ownS (clm r l) 3).1 = some f)) (l + 1) = bitsN (fun l => decide ((ownS (clm r l) 3).1 = some f)) l + 2 ^ l from if_pos (decide_eq_true hof)] at ih
      exact ih
    · refine z_iload_n O dX4_laws_21 rfl ?_
      refine z_aload_n O dX4_laws_22 rfl ?_
      refine z_iconst O (nI 0) dX4_laws_23 (by decide) ?_
      refine z_iload_n O dX4_laws_24 rfl ?_
      refine z_V2e0 O (m_ownerIn h.1 g.1.1 (by decide) g.1.2.2.1 hl) mX4_ownerIn lkX4_193 rfl (by rfl) dX4_laws_25 (Nat.le_of_ble_eq_true rfl) (by decide) ?_
      refine z_iload_n O dX4_laws_28 rfl ?_
      refine z_icmp_ne O 38 dX4_laws_29 (by decide) (fun h29 => ?_) (fun h29 => by exact absurd ((optI_eq (ownS_bd _ 3 (by decide)) (b := some f) (by intro q hq; cases hq; omega)).mp h29) hof)
      refine z_iconst O (nI 0) dX4_laws_38 (by decide) ?_
      refine z_ior O dX4_laws_39 ?_
      refine z_top (v' := .int (nI (bitsN (fun l => decide ((ownS (clm r l) 3).1 = some f)) l))) (congrArg Value.int (zb_or0 _)) ?_
      refine z_istore_n (lv' := [(0, _), (1, _), (2, _), (3, _)]) O dX4_laws_40 (by decide) rfl ?_
      refine z_iincN (lv' := [(0, _), (1, _), (2, _), (3, _)]) O 1 dX4_laws_41 (by decide) rfl rfl (by decide) ?_
      refine z_goto O 16 dX4_laws_44 (by decide) ?_
      rw [show bitsN (fun l => decide ((ownS (clm r l) 3).1 = some f)) (l + 1) = bitsN (fun l => decide ((ownS (clm r l) 3).1 = some f)) l from if_neg (fun q => hof (of_decide_eq_true q))] at ih
      exact ih
set_option maxRecDepth 20000 in
set_option maxHeartbeats 4000000 in
theorem m_shareB {f : Int32} (hb : ¬ (nI 0 ≤ f ∧ f ≤ nI 2)) : zS G 3 yX4_share cX4_share 3 (some .int) [.ref (zad (zb G) 21), .int f] (yM G c0_ c1_ c2_ c3_ c4_ c5_ c6_ c7_ c8_ c9_ c10_ c11_ c12_ c13_ c14_ c15_ c16_ c17_ c18_ c19_ c20_ w kp tx txl rf ya yb at2 st2 iwd ifg nb fr la nms nd wf hh tl) 0 0 (zE (.int (-2)) (yM G c0_ c1_ c2_ c3_ c4_ c5_ c6_ c7_ c8_ c9_ c10_ c11_ c12_ c13_ c14_ c15_ c16_ c17_ c18_ c19_ c20_ w kp tx txl (updN rf 0 (rf 0 + 1)) ya yb at2 st2 iwd ifg nb fr la nms nd wf hh tl)) := by
  refine zS.of (by decide) (Nat.le_of_ble_eq_true rfl) (fun F O hR1 hR2 => ?_)
  have O : zOk G F yX4_share cX4_share 3 (some .int) RX4 3 (yM G c0_ c1_ c2_ c3_ c4_ c5_ c6_ c7_ c8_ c9_ c10_ c11_ c12_ c13_ c14_ c15_ c16_ c17_ c18_ c19_ c20_ w kp tx txl rf ya yb at2 st2 iwd ifg nb fr la nms nd wf hh tl).length := O
  refine z_eq (lv' := [(0, _), (1, _)]) rfl rfl rfl ?_
  refine z_iload_n O dX4_share_0 rfl ?_
  refine z_S1e0 O m_isFamilyI mX4_isFamily lkX4_178 dX4_share_1 (Nat.le_of_ble_eq_true rfl) (by decide) ?_
  refine z_if_neB O 12 dX4_share_4 (by decide) (fun h4 => by exact absurd h4 hb) (fun h4 => ?_)
  refine z_aload_n O dX4_share_7 rfl ?_
  refine z_V0e0 O m_bad mX4_bad lkX4_65 rfl (by rfl) dX4_share_8 (Nat.le_of_ble_eq_true rfl) (by decide) ?_
  exact z_iret O dX4_share_11 ⟨rfl, rfl⟩
set_option maxRecDepth 20000 in
set_option maxHeartbeats 4000000 in
theorem m_share {we r seen kept : Nat → Nat} {rd nw ud Y : Nat} (h : RS w 0 we r seen kept rd nw ud) (g : GS Y we r seen kept rd nw ud) {f : Nat} (hf : f < 3) : zS G 7 yX4_share cX4_share 3 (some .int) [.ref (zad (zb G) 21), .int (nI f)] (yM G c0_ c1_ c2_ c3_ c4_ c5_ c6_ c7_ c8_ c9_ c10_ c11_ c12_ c13_ c14_ c15_ c16_ c17_ c18_ c19_ c20_ w kp tx txl rf ya yb at2 st2 iwd ifg nb fr la nms nd wf hh tl) 0 0 (zE (.int (nI 1)) (yM G c0_ c1_ c2_ c3_ c4_ c5_ c6_ c7_ c8_ c9_ c10_ c11_ c12_ c13_ c14_ c15_ c16_ c17_ c18_ c19_ c20_ w kp tx txl rf (lN (frA (clm r 0 f) (clAll r 0))) (lN (frB (clm r 0 f) (clAll r 0))) at2 st2 iwd ifg nb fr la nms nd wf hh tl)) := by
  refine zS.of (by decide) (Nat.le_of_ble_eq_true rfl) (fun F O hR1 hR2 => ?_)
  have O : zOk G F yX4_share cX4_share 3 (some .int) RX4 7 (yM G c0_ c1_ c2_ c3_ c4_ c5_ c6_ c7_ c8_ c9_ c10_ c11_ c12_ c13_ c14_ c15_ c16_ c17_ c18_ c19_ c20_ w kp tx txl rf ya yb at2 st2 iwd ifg nb fr la nms nd wf hh tl).length := O
  refine z_eq (lv' := [(0, _), (1, _)]) rfl rfl rfl ?_
  have hfr := fr_ok (cl_le r (l := 0) hf)
  have hb1 := clm_lt g.1.1 0 f
  have hb2 : clAll r 0 ≤ 339738624 := by have h0 := clm_lt g.1.1 0 0; have h1 := clm_lt g.1.1 0 1; have h2 := clm_lt g.1.1 0 2; unfold clAll; omega
  refine z_iload_n O dX4_share_0 rfl ?_
  refine z_S1e0 O (m_isFamilyN (by omega)) mX4_isFamily lkX4_178 dX4_share_1 (Nat.le_of_ble_eq_true rfl) (by decide) ?_
  refine z_if_neB O 12 dX4_share_4 (by decide) (fun h4 => ?_) (fun h4 => by omega)
  refine z_aload_n O dX4_share_12 rfl ?_
  refine z_iconst O (nI 0) dX4_share_13 (by decide) ?_
  refine z_iconst O (nI 0) dX4_share_14 (by decide) ?_
  refine z_V2e0 O (m_allClaims h.1 g.1.1 (by decide) g.1.2.2.1 (by decide)) mX4_allClaims lkX4_199 rfl (by rfl) dX4_share_15 (Nat.le_of_ble_eq_true rfl) (by decide) ?_
  refine z_istore_n (lv' := [(0, _), (1, _), (2, _)]) O dX4_share_18 (by decide) rfl ?_
  refine z_aload_n O dX4_share_19 rfl ?_
  refine z_aload_n O dX4_share_20 rfl ?_
  refine z_iconst O (nI 0) dX4_share_21 (by decide) ?_
  refine z_iload_n O dX4_share_22 rfl ?_
  refine z_iconst O (nI 0) dX4_share_23 (by decide) ?_
  refine z_V3e0 O (m_claimsIn h.1 g.1.1 (by decide) g.1.2.2.1 hf (by decide)) mX4_claimsIn lkX4_173 rfl (by rfl) dX4_share_24 (Nat.le_of_ble_eq_true rfl) (by decide) ?_
  refine z_i2lN O dX4_share_27 (by omega) ?_
  by_cases ha0 : clAll r 0 = 0
  · refine z_iload_n O dX4_share_28 rfl ?_
    refine z_if_neN O 36 dX4_share_29 (by decide) (by omega) (fun h29 => by omega) (fun h29 => ?_)
    refine z_lconst O (lN 1) dX4_share_32 (by decide) ?_
    refine z_goto O 38 dX4_share_33 (by decide) ?_
    refine z_V2e0 O (m_tells (by omega) (by decide) (by decide)) mX4_tells lkX4_202 rfl (by rfl) dX4_share_38 (Nat.le_of_ble_eq_true rfl) (by decide) ?_
    exact z_iret O dX4_share_41 ⟨rfl, by rw [if_pos ha0] at hfr; rw [hfr.1, hfr.2]⟩
  · refine z_iload_n O dX4_share_28 rfl ?_
    refine z_if_neN O 36 dX4_share_29 (by decide) (by omega) (fun h29 => ?_) (fun h29 => by omega)
    refine z_iload_n O dX4_share_36 rfl ?_
    refine z_i2lN O dX4_share_37 (by omega) ?_
    refine z_V2e0 O (m_tells (by omega) (by omega) (by omega)) mX4_tells lkX4_202 rfl (by rfl) dX4_share_38 (Nat.le_of_ble_eq_true rfl) (by decide) ?_
    exact z_iret O dX4_share_41 ⟨rfl, by rw [if_neg ha0] at hfr; rw [hfr.1, hfr.2]⟩
set_option maxRecDepth 20000 in
set_option maxHeartbeats 4000000 in
theorem m_twosB {l : Int32} (hb : ¬ (nI 0 ≤ l ∧ l ≤ nI 3)) : zS G 3 yX4_twos cX4_twos 3 (some .int) [.ref (zad (zb G) 21), .int l] (yM G c0_ c1_ c2_ c3_ c4_ c5_ c6_ c7_ c8_ c9_ c10_ c11_ c12_ c13_ c14_ c15_ c16_ c17_ c18_ c19_ c20_ w kp tx txl rf ya yb at2 st2 iwd ifg nb fr la nms nd wf hh tl) 0 0 (zE (.int (-2)) (yM G c0_ c1_ c2_ c3_ c4_ c5_ c6_ c7_ c8_ c9_ c10_ c11_ c12_ c13_ c14_ c15_ c16_ c17_ c18_ c19_ c20_ w kp tx txl (updN rf 0 (rf 0 + 1)) ya yb at2 st2 iwd ifg nb fr la nms nd wf hh tl)) := by
  refine zS.of (by decide) (Nat.le_of_ble_eq_true rfl) (fun F O hR1 hR2 => ?_)
  have O : zOk G F yX4_twos cX4_twos 3 (some .int) RX4 3 (yM G c0_ c1_ c2_ c3_ c4_ c5_ c6_ c7_ c8_ c9_ c10_ c11_ c12_ c13_ c14_ c15_ c16_ c17_ c18_ c19_ c20_ w kp tx txl rf ya yb at2 st2 iwd ifg nb fr la nms nd wf hh tl).length := O
  refine z_eq (lv' := [(0, _), (1, _)]) rfl rfl rfl ?_
  refine z_iload_n O dX4_twos_0 rfl ?_
  refine z_S1e0 O m_isLawI mX4_isLaw lkX4_181 dX4_twos_1 (Nat.le_of_ble_eq_true rfl) (by decide) ?_
  refine z_if_neB O 12 dX4_twos_4 (by decide) (fun h4 => by exact absurd h4 hb) (fun h4 => ?_)
  refine z_aload_n O dX4_twos_7 rfl ?_
  refine z_V0e0 O m_bad mX4_bad lkX4_65 rfl (by rfl) dX4_twos_8 (Nat.le_of_ble_eq_true rfl) (by decide) ?_
  exact z_iret O dX4_twos_11 ⟨rfl, rfl⟩
set_option maxRecDepth 20000 in
set_option maxHeartbeats 4000000 in
theorem m_twos {we r seen kept : Nat → Nat} {rd nw ud Y : Nat} (h : RS w 0 we r seen kept rd nw ud) (g : GS Y we r seen kept rd nw ud) (hY : Y + 200 < 1048576) {l : Nat} (hl : l < 4) : zS G 7 yX4_twos cX4_twos 3 (some .int) [.ref (zad (zb G) 21), .int (nI l)] (yM G c0_ c1_ c2_ c3_ c4_ c5_ c6_ c7_ c8_ c9_ c10_ c11_ c12_ c13_ c14_ c15_ c16_ c17_ c18_ c19_ c20_ w kp tx txl rf ya yb at2 st2 iwd ifg nb fr la nms nd wf hh tl) 0 0 (zP (fun v M' => v = .int (optI (firstN (twB we r l) 41 0)) ∧ ∃ w' : Nat → Nat, smW w w' ∧ M' = (yM G c0_ c1_ c2_ c3_ c4_ c5_ c6_ c7_ c8_ c9_ c10_ c11_ c12_ c13_ c14_ c15_ c16_ c17_ c18_ c19_ c20_ w' kp tx txl rf ya yb at2 st2 iwd ifg nb fr la nms nd wf hh tl))) := by
  refine zS.of (by decide) (Nat.le_of_ble_eq_true rfl) (fun F O hR1 hR2 => ?_)
  have O : zOk G F yX4_twos cX4_twos 3 (some .int) RX4 7 (yM G c0_ c1_ c2_ c3_ c4_ c5_ c6_ c7_ c8_ c9_ c10_ c11_ c12_ c13_ c14_ c15_ c16_ c17_ c18_ c19_ c20_ w kp tx txl rf ya yb at2 st2 iwd ifg nb fr la nms nd wf hh tl).length := O
  refine z_eq (lv' := [(0, _), (1, _)]) rfl rfl rfl ?_
  refine z_iload_n O dX4_twos_0 rfl ?_
  refine z_S1e0 O (m_isLawN (by omega)) mX4_isLaw lkX4_181 dX4_twos_1 (Nat.le_of_ble_eq_true rfl) (by decide) ?_
  refine z_if_neB O 12 dX4_twos_4 (by decide) (fun h4 => ?_) (fun h4 => by omega)
  refine z_aload_n O dX4_twos_12 rfl ?_
  refine z_V0u0 O m_tries mX4_tries lkX4_184 rfl (by rfl) dX4_twos_13 (Nat.le_of_ble_eq_true rfl) (by decide) ?_
  refine z_iconst O (nI 0) dX4_twos_16 (by decide) ?_
  refine z_istore_n (lv' := [(0, _), (1, _), (2, _)]) O dX4_twos_17 (by decide) rfl ?_
  refine zdown (P := fun m => ∀ w' : Nat → Nat, RW w' 3273 (ps we r m) we → smW w w' → firstN (twB we r l) (41 - m) m = firstN (twB we r l) 41 0 → Z G F 0 0 (zEnd G F (zP (fun v M' => v = .int (optI (firstN (twB we r l) 41 0)) ∧ ∃ w' : Nat → Nat, smW w w' ∧ M' = (yM G c0_ c1_ c2_ c3_ c4_ c5_ c6_ c7_ c8_ c9_ c10_ c11_ c12_ c13_ c14_ c15_ c16_ c17_ c18_ c19_ c20_ w' kp tx txl rf ya yb at2 st2 iwd ifg nb fr la nms nd wf hh tl))) 0 0) 18 [(0, .ref (zad (zb G) 21)), (1, .int (nI l)), (2, .int (nI m))] [] (yM G c0_ c1_ c2_ c3_ c4_ c5_ c6_ c7_ c8_ c9_ c10_ c11_ c12_ c13_ c14_ c15_ c16_ c17_ c18_ c19_ c20_ w' kp tx txl rf ya yb at2 st2 iwd ifg nb fr la nms nd wf hh tl)) (41) ?_ ?_ _ (RW_copy h.1 g.1.1 (by decide)) (fun j hj => by rw [cpyN, if_neg (by omega)]) rfl
  · intro w' h' ho hf
    refine z_iload_n O dX4_twos_18 rfl ?_
    refine z_bipush O (nI 41) dX4_twos_19 (by decide) ?_
    refine z_icmp_geN O 63 dX4_twos_21 (by decide) (by omega) (by omega) (fun h21 => ?_) (fun h21 => by omega)
    refine z_iconst O (-1) dX4_twos_63 (by decide) ?_
    exact z_iret O dX4_twos_64 ⟨_, rfl, by rw [← hf]; rfl, w', ho, rfl⟩
  · intro m hm ih w' h' ho hf
    have hpm := (ps_ok (we := we) g.1.1 g.1.2.1 g.1.2.2.1 (g.y hY) m (by omega))
    rw [show 41 - m = (41 - (m + 1)) + 1 by omega] at hf
    refine z_iload_n O dX4_twos_18 rfl ?_
    refine z_bipush O (nI 41) dX4_twos_19 (by decide) ?_
    refine z_icmp_geN O 63 dX4_twos_21 (by decide) (by omega) (by omega) (fun h21 => by omega) (fun h21 => ?_)
    by_cases hn : (ownS (clm (ps we r m) l) 3).1 = none
    · refine z_aload_n O dX4_twos_24 rfl ?_
      refine z_sipush O (nI 3273) dX4_twos_25 (by decide) ?_
      refine z_iload_n O dX4_twos_28 rfl ?_
      refine z_V2e0 O (m_ownerIn h' hpm.1 (by decide) hpm.2.2.1 hl) mX4_ownerIn lkX4_193 rfl (by rfl) dX4_twos_29 (Nat.le_of_ble_eq_true rfl) (by decide) ?_
      refine z_iconst O (-1) dX4_twos_32 (by decide) ?_
      refine z_icmp_ne O 49 dX4_twos_33 (by decide) (fun h33 => by exact absurd (congrArg optI hn) h33) (fun h33 => ?_)
      refine z_aload_n O dX4_twos_36 rfl ?_
      refine z_sipush O (nI 3273) dX4_twos_37 (by decide) ?_
      refine z_iload_n O dX4_twos_40 rfl ?_
      refine z_V2e0 O (m_allClaims h' hpm.1 (by decide) hpm.2.2.1 hl) mX4_allClaims lkX4_199 rfl (by rfl) dX4_twos_41 (Nat.le_of_ble_eq_true rfl) (by decide) ?_
      by_cases hz : clAll (ps we r m) l = 0
      · refine z_if_leN O 49 dX4_twos_44 (by decide) (by have h0 := clm_lt hpm.1 l 0; have h1 := clm_lt hpm.1 l 1; have h2 := clm_lt hpm.1 l 2; have h3 : clAll (ps we r m) l = _ := rfl; unfold clAll at h3 ⊢; omega) (fun h44 => ?_) (fun h44 => by omega)
        refine z_aload_n O dX4_twos_49 rfl ?_
        refine z_sipush O (nI 3273) dX4_twos_50 (by decide) ?_
        refine z_iconst O (nI 1) dX4_twos_53 (by decide) ?_
        refine z_V2pu0 O (m_passes1 h' hpm.1 (by decide) g.w) mX4_passes lkX4_103 rfl (by rfl) dX4_twos_54 (Nat.le_of_ble_eq_true rfl) (by decide) (fun M' hq => ?_)
        obtain ⟨w2, h2, ho2, rfl⟩ := hq
        refine z_iincN (lv' := [(0, _), (1, _), (2, _)]) O 1 dX4_twos_57 (by decide) rfl rfl (by decide) ?_
        refine z_goto O 18 dX4_twos_60 (by decide) ?_
        rw [firstN, if_neg (show ¬ twB we r l m = true from fun q => absurd (of_decide_eq_true q) (fun q => by omega))] at hf
        exact ih w2 h2 (fun j hj => (ho2 j (by omega)).trans (ho j hj)) hf
      · refine z_if_leN O 49 dX4_twos_44 (by decide) (by have h0 := clm_lt hpm.1 l 0; have h1 := clm_lt hpm.1 l 1; have h2 := clm_lt hpm.1 l 2; have h3 : clAll (ps we r m) l = _ := rfl; unfold clAll at h3 ⊢; omega) (fun h44 => by omega) (fun h44 => ?_)
        refine z_iload_n O dX4_twos_47 rfl ?_
        exact z_iret O dX4_twos_48 ⟨_, rfl, by rw [← hf, firstN, if_pos (show twB we r l m = true from decide_eq_true ⟨hn, by omega⟩)]; rfl, w', ho, rfl⟩
    · refine z_aload_n O dX4_twos_24 rfl ?_
      refine z_sipush O (nI 3273) dX4_twos_25 (by decide) ?_
      refine z_iload_n O dX4_twos_28 rfl ?_
      refine z_V2e0 O (m_ownerIn h' hpm.1 (by decide) hpm.2.2.1 hl) mX4_ownerIn lkX4_193 rfl (by rfl) dX4_twos_29 (Nat.le_of_ble_eq_true rfl) (by decide) ?_
      refine z_iconst O (-1) dX4_twos_32 (by decide) ?_
      refine z_icmp_ne O 49 dX4_twos_33 (by decide) (fun h33 => ?_) (fun h33 => by exact absurd ((optI_eq (ownS_bd _ 3 (by decide)) (b := none) (by intro q hq; cases hq)).mp h33) hn)
      refine z_aload_n O dX4_twos_49 rfl ?_
      refine z_sipush O (nI 3273) dX4_twos_50 (by decide) ?_
      refine z_iconst O (nI 1) dX4_twos_53 (by decide) ?_
      refine z_V2pu0 O (m_passes1 h' hpm.1 (by decide) g.w) mX4_passes lkX4_103 rfl (by rfl) dX4_twos_54 (Nat.le_of_ble_eq_true rfl) (by decide) (fun M' hq => ?_)
      obtain ⟨w2, h2, ho2, rfl⟩ := hq
      refine z_iincN (lv' := [(0, _), (1, _), (2, _)]) O 1 dX4_twos_57 (by decide) rfl rfl (by decide) ?_
      refine z_goto O 18 dX4_twos_60 (by decide) ?_
      rw [firstN, if_neg (show ¬ twB we r l m = true from fun q => absurd (of_decide_eq_true q) (fun q => hn q.1))] at hf
      exact ih w2 h2 (fun j hj => (ho2 j (by omega)).trans (ho j hj)) hf
set_option maxRecDepth 20000 in
set_option maxHeartbeats 4000000 in
theorem m_whole {we r seen kept : Nat → Nat} {rd nw ud Y : Nat} (h : RS w 0 we r seen kept rd nw ud) (g : GS Y we r seen kept rd nw ud) : zS G 4 yX4_whole cX4_whole 1 (some .int) [.ref (zad (zb G) 21)] (yM G c0_ c1_ c2_ c3_ c4_ c5_ c6_ c7_ c8_ c9_ c10_ c11_ c12_ c13_ c14_ c15_ c16_ c17_ c18_ c19_ c20_ w kp tx txl rf ya yb at2 st2 iwd ifg nb fr la nms nd wf hh tl) 0 0 (zP (fun v M' => v = .int (nI (lsN (spanV r we) none none 9)) ∧ ∃ w' : Nat → Nat, smW w w' ∧ M' = (yM G c0_ c1_ c2_ c3_ c4_ c5_ c6_ c7_ c8_ c9_ c10_ c11_ c12_ c13_ c14_ c15_ c16_ c17_ c18_ c19_ c20_ w' kp tx txl rf ya yb at2 st2 iwd ifg nb fr la nms nd wf hh tl))) := by
  refine zS.of (by decide) (Nat.le_of_ble_eq_true rfl) (fun F O hR1 hR2 => ?_)
  have O : zOk G F yX4_whole cX4_whole 1 (some .int) RX4 4 (yM G c0_ c1_ c2_ c3_ c4_ c5_ c6_ c7_ c8_ c9_ c10_ c11_ c12_ c13_ c14_ c15_ c16_ c17_ c18_ c19_ c20_ w kp tx txl rf ya yb at2 st2 iwd ifg nb fr la nms nd wf hh tl).length := O
  refine z_eq (lv' := [(0, _)]) rfl rfl rfl ?_
  refine z_aload_n O dX4_whole_0 rfl ?_
  refine z_V0u0 O m_tries mX4_tries lkX4_184 rfl (by rfl) dX4_whole_1 (Nat.le_of_ble_eq_true rfl) (by decide) ?_
  refine z_aload_n O dX4_whole_4 rfl ?_
  refine z_V0e0 O (m_wholeTried (RW_copy h.1 g.1.1 (by decide)) g.1.1 g.w) mX4_wholeTried lkX4_209 rfl (by rfl) dX4_whole_5 (Nat.le_of_ble_eq_true rfl) (by decide) ?_
  exact z_iret O dX4_whole_8 ⟨_, rfl, rfl, _, fun j hj => by rw [cpyN, if_neg (by omega)], rfl⟩
set_option maxRecDepth 20000 in
set_option maxHeartbeats 4000000 in
theorem m_holesB {m : Int32} (hb : ¬ (nI 0 ≤ m ∧ m ≤ nI 40)) : zS G 2 yX4_holes cX4_holes 2 (some .int) [.ref (zad (zb G) 21), .int m] (yM G c0_ c1_ c2_ c3_ c4_ c5_ c6_ c7_ c8_ c9_ c10_ c11_ c12_ c13_ c14_ c15_ c16_ c17_ c18_ c19_ c20_ w kp tx txl rf ya yb at2 st2 iwd ifg nb fr la nms nd wf hh tl) 0 0 (zE (.int (-2)) (yM G c0_ c1_ c2_ c3_ c4_ c5_ c6_ c7_ c8_ c9_ c10_ c11_ c12_ c13_ c14_ c15_ c16_ c17_ c18_ c19_ c20_ w kp tx txl (updN rf 0 (rf 0 + 1)) ya yb at2 st2 iwd ifg nb fr la nms nd wf hh tl)) := by
  refine zS.of (by decide) (Nat.le_of_ble_eq_true rfl) (fun F O hR1 hR2 => ?_)
  have O : zOk G F yX4_holes cX4_holes 2 (some .int) RX4 2 (yM G c0_ c1_ c2_ c3_ c4_ c5_ c6_ c7_ c8_ c9_ c10_ c11_ c12_ c13_ c14_ c15_ c16_ c17_ c18_ c19_ c20_ w kp tx txl rf ya yb at2 st2 iwd ifg nb fr la nms nd wf hh tl).length := O
  refine z_eq (lv' := [(0, _), (1, _)]) rfl rfl rfl ?_
  refine z_iload_n O dX4_holes_0 rfl ?_
  refine z_i2l O dX4_holes_1 ?_
  refine z_lconst O (lN 0) dX4_holes_2 (by decide) ?_
  refine z_ldc2 O dX4_holes_3 klX4_187 ?_
  refine z_top (v' := .long (lN 40)) (by decide) ?_
  refine z_S3e0 O (m_inI (by decide) (by decide)) mX4_in lkX4_45 dX4_holes_6 (Nat.le_of_ble_eq_true rfl) (by decide) ?_
  refine z_if_neB O 17 dX4_holes_9 (by decide) (fun h9 => by exact absurd h9 hb) (fun h9 => ?_)
  refine z_aload_n O dX4_holes_12 rfl ?_
  refine z_V0e0 O m_bad mX4_bad lkX4_65 rfl (by rfl) dX4_holes_13 (Nat.le_of_ble_eq_true rfl) (by decide) ?_
  exact z_iret O dX4_holes_16 ⟨rfl, rfl⟩
set_option maxRecDepth 20000 in
set_option maxHeartbeats 4000000 in
theorem m_holes {we r seen kept : Nat → Nat} {rd nw ud Y : Nat} (h : RS w 0 we r seen kept rd nw ud) (g : GS Y we r seen kept rd nw ud) (hY : Y + 200 < 1048576) {m : Nat} (hm : m < 41) : zS G 5 yX4_holes cX4_holes 2 (some .int) [.ref (zad (zb G) 21), .int (nI m)] (yM G c0_ c1_ c2_ c3_ c4_ c5_ c6_ c7_ c8_ c9_ c10_ c11_ c12_ c13_ c14_ c15_ c16_ c17_ c18_ c19_ c20_ w kp tx txl rf ya yb at2 st2 iwd ifg nb fr la nms nd wf hh tl) 0 0 (zP (fun v M' => v = .int (nI (bitsN (holesB (ps we r m)) 9)) ∧ ∃ w' : Nat → Nat, smW w w' ∧ M' = (yM G c0_ c1_ c2_ c3_ c4_ c5_ c6_ c7_ c8_ c9_ c10_ c11_ c12_ c13_ c14_ c15_ c16_ c17_ c18_ c19_ c20_ w' kp tx txl rf ya yb at2 st2 iwd ifg nb fr la nms nd wf hh tl))) := by
  refine zS.of (by decide) (Nat.le_of_ble_eq_true rfl) (fun F O hR1 hR2 => ?_)
  have O : zOk G F yX4_holes cX4_holes 2 (some .int) RX4 5 (yM G c0_ c1_ c2_ c3_ c4_ c5_ c6_ c7_ c8_ c9_ c10_ c11_ c12_ c13_ c14_ c15_ c16_ c17_ c18_ c19_ c20_ w kp tx txl rf ya yb at2 st2 iwd ifg nb fr la nms nd wf hh tl).length := O
  refine z_eq (lv' := [(0, _), (1, _)]) rfl rfl rfl ?_
  refine z_iload_n O dX4_holes_0 rfl ?_
  refine z_i2lN O dX4_holes_1 (by omega) ?_
  refine z_lconst O (lN 0) dX4_holes_2 (by decide) ?_
  refine z_ldc2 O dX4_holes_3 klX4_187 ?_
  refine z_top (v' := .long (lN 40)) (by decide) ?_
  refine z_S3e0 O (m_inN (by omega) (by decide) (by decide)) mX4_in lkX4_45 dX4_holes_6 (Nat.le_of_ble_eq_true rfl) (by decide) ?_
  refine z_if_neB O 17 dX4_holes_9 (by decide) (fun h9 => ?_) (fun h9 => by omega)
  refine z_aload_n O dX4_holes_17 rfl ?_
  refine z_iload_n O dX4_holes_18 rfl ?_
  refine z_V1pu0 O (m_passesMany h.1 g.1.1 g.w g.1.2.1 g.1.2.2.1 (g.y hY) (by omega)) mX4_passesMany lkX4_189 rfl (by rfl) dX4_holes_19 (Nat.le_of_ble_eq_true rfl) (by decide) (fun M' hq => ?_)
  obtain ⟨w', h', ho, rfl⟩ := hq
  refine z_aload_n O dX4_holes_22 rfl ?_
  refine z_sipush O (nI 3273) dX4_holes_23 (by decide) ?_
  refine z_V1e0 O (m_holesIn h' (ps_ok (we := we) g.1.1 g.1.2.1 g.1.2.2.1 (g.y hY) m (by omega)).1 (by decide)) mX4_holesIn lkX4_107 rfl (by rfl) dX4_holes_26 (Nat.le_of_ble_eq_true rfl) (by decide) ?_
  exact z_iret O dX4_holes_29 ⟨_, rfl, rfl, w', ho, rfl⟩
set_option maxRecDepth 20000 in
set_option maxHeartbeats 4000000 in
theorem m_readingB {c m v : Int32} (hb : ¬ ((nI 0 ≤ c ∧ c ≤ nI 8) ∧ (nI 0 ≤ m ∧ m ≤ nI 20) ∧ (nI 0 ≤ v ∧ v ≤ nI 30))) : zS G 3 yX4_reading cX4_reading 5 (some .int) [.ref (zad (zb G) 21), .int c, .int m, .int v] (yM G c0_ c1_ c2_ c3_ c4_ c5_ c6_ c7_ c8_ c9_ c10_ c11_ c12_ c13_ c14_ c15_ c16_ c17_ c18_ c19_ c20_ w kp tx txl rf ya yb at2 st2 iwd ifg nb fr la nms nd wf hh tl) 0 0 (zE (.int (-2)) (yM G c0_ c1_ c2_ c3_ c4_ c5_ c6_ c7_ c8_ c9_ c10_ c11_ c12_ c13_ c14_ c15_ c16_ c17_ c18_ c19_ c20_ w kp tx txl (updN rf 0 (rf 0 + 1)) ya yb at2 st2 iwd ifg nb fr la nms nd wf hh tl)) := by
  refine zS.of (by decide) (Nat.le_of_ble_eq_true rfl) (fun F O hR1 hR2 => ?_)
  have O : zOk G F yX4_reading cX4_reading 5 (some .int) RX4 3 (yM G c0_ c1_ c2_ c3_ c4_ c5_ c6_ c7_ c8_ c9_ c10_ c11_ c12_ c13_ c14_ c15_ c16_ c17_ c18_ c19_ c20_ w kp tx txl rf ya yb at2 st2 iwd ifg nb fr la nms nd wf hh tl).length := O
  refine z_eq (lv' := [(0, _), (1, _), (2, _), (3, _)]) rfl rfl rfl ?_
  refine z_iload_n O dX4_reading_0 rfl ?_
  refine z_S1e0 O m_isCellI mX4_isCell lkX4_49 dX4_reading_1 (Nat.le_of_ble_eq_true rfl) (by decide) ?_
  refine z_if_eqB O 31 dX4_reading_4 (by decide) (fun h4 => ?_) (fun h4 => ?_)
  · refine z_aload_n O dX4_reading_31 rfl ?_
    refine z_V0e0 O m_bad mX4_bad lkX4_65 rfl (by rfl) dX4_reading_32 (Nat.le_of_ble_eq_true rfl) (by decide) ?_
    exact z_iret O dX4_reading_35 ⟨rfl, rfl⟩
  · refine z_iload_n O dX4_reading_7 rfl ?_
    refine z_i2l O dX4_reading_8 ?_
    refine z_lconst O (lN 0) dX4_reading_9 (by decide) ?_
    refine z_ldc2 O dX4_reading_10 klX4_101 ?_
    refine z_top (v' := .long (lN 20)) (by decide) ?_
    refine z_S3e0 O (m_inI (by decide) (by decide)) mX4_in lkX4_45 dX4_reading_13 (Nat.le_of_ble_eq_true rfl) (by decide) ?_
    refine z_if_eqB O 31 dX4_reading_16 (by decide) (fun h16 => ?_) (fun h16 => ?_)
    · refine z_aload_n O dX4_reading_31 rfl ?_
      refine z_V0e0 O m_bad mX4_bad lkX4_65 rfl (by rfl) dX4_reading_32 (Nat.le_of_ble_eq_true rfl) (by decide) ?_
      exact z_iret O dX4_reading_35 ⟨rfl, rfl⟩
    · refine z_iload_n O dX4_reading_19 rfl ?_
      refine z_i2l O dX4_reading_20 ?_
      refine z_lconst O (lN 0) dX4_reading_21 (by decide) ?_
      refine z_ldc2 O dX4_reading_22 klX4_57 ?_
      refine z_top (v' := .long (lN 30)) (by decide) ?_
      refine z_S3e0 O (m_inI (by decide) (by decide)) mX4_in lkX4_45 dX4_reading_25 (Nat.le_of_ble_eq_true rfl) (by decide) ?_
      refine z_if_neB O 36 dX4_reading_28 (by decide) (fun h28 => by exact absurd ⟨h4, h16, h28⟩ hb) (fun h28 => ?_)
      refine z_aload_n O dX4_reading_31 rfl ?_
      refine z_V0e0 O m_bad mX4_bad lkX4_65 rfl (by rfl) dX4_reading_32 (Nat.le_of_ble_eq_true rfl) (by decide) ?_
      exact z_iret O dX4_reading_35 ⟨rfl, rfl⟩
set_option maxRecDepth 20000 in
set_option maxHeartbeats 4000000 in
theorem m_readingF {we r seen kept : Nat → Nat} {rd nw ud Y : Nat} (h : RS w 0 we r seen kept rd nw ud) (g : GS Y we r seen kept rd nw ud) {c m v : Nat} (h1 : c < 9) (h2 : m < 21) (h3 : v ≤ 30) (h4 : rd = 6) : zS G 3 yX4_reading cX4_reading 5 (some .int) [.ref (zad (zb G) 21), .int (nI c), .int (nI m), .int (nI v)] (yM G c0_ c1_ c2_ c3_ c4_ c5_ c6_ c7_ c8_ c9_ c10_ c11_ c12_ c13_ c14_ c15_ c16_ c17_ c18_ c19_ c20_ w kp tx txl rf ya yb at2 st2 iwd ifg nb fr la nms nd wf hh tl) 0 0 (zE (.int (-4)) (yM G c0_ c1_ c2_ c3_ c4_ c5_ c6_ c7_ c8_ c9_ c10_ c11_ c12_ c13_ c14_ c15_ c16_ c17_ c18_ c19_ c20_ w kp tx txl (updN rf 2 (rf 2 + 1)) ya yb at2 st2 iwd ifg nb fr la nms nd wf hh tl)) := by
  refine zS.of (by decide) (Nat.le_of_ble_eq_true rfl) (fun F O hR1 hR2 => ?_)
  have O : zOk G F yX4_reading cX4_reading 5 (some .int) RX4 3 (yM G c0_ c1_ c2_ c3_ c4_ c5_ c6_ c7_ c8_ c9_ c10_ c11_ c12_ c13_ c14_ c15_ c16_ c17_ c18_ c19_ c20_ w kp tx txl rf ya yb at2 st2 iwd ifg nb fr la nms nd wf hh tl).length := O
  refine z_eq (lv' := [(0, _), (1, _), (2, _), (3, _)]) rfl rfl rfl ?_
  refine z_iload_n O dX4_reading_0 rfl ?_
  refine z_S1e0 O (m_isCellN (by omega)) mX4_isCell lkX4_49 dX4_reading_1 (Nat.le_of_ble_eq_true rfl) (by decide) ?_
  refine z_if_eqB O 31 dX4_reading_4 (by decide) (fun h4 => by omega) (fun h4 => ?_)
  refine z_iload_n O dX4_reading_7 rfl ?_
  refine z_i2lN O dX4_reading_8 (by omega) ?_
  refine z_lconst O (lN 0) dX4_reading_9 (by decide) ?_
  refine z_ldc2 O dX4_reading_10 klX4_101 ?_
  refine z_top (v' := .long (lN 20)) (by decide) ?_
  refine z_S3e0 O (m_inN (by omega) (by decide) (by decide)) mX4_in lkX4_45 dX4_reading_13 (Nat.le_of_ble_eq_true rfl) (by decide) ?_
  refine z_if_eqB O 31 dX4_reading_16 (by decide) (fun h16 => by omega) (fun h16 => ?_)
  refine z_iload_n O dX4_reading_19 rfl ?_
  refine z_i2lN O dX4_reading_20 (by omega) ?_
  refine z_lconst O (lN 0) dX4_reading_21 (by decide) ?_
  refine z_ldc2 O dX4_reading_22 klX4_57 ?_
  refine z_top (v' := .long (lN 30)) (by decide) ?_
  refine z_S3e0 O (m_inN (by omega) (by decide) (by decide)) mX4_in lkX4_45 dX4_reading_25 (Nat.le_of_ble_eq_true rfl) (by decide) ?_
  refine z_if_neB O 36 dX4_reading_28 (by decide) (fun h28 => ?_) (fun h28 => by omega)
  refine z_aload_n O dX4_reading_36 rfl ?_
  refine z_get O dX4_reading_37 flX4_7 (by rfl) (by rfl) ?_
  refine z_bipush O (nI 127) dX4_reading_40 (by decide) ?_
  refine z_ialdN O dX4_reading_42 (by rfl) (by omega) (by decide) ?_
  refine z_top (v' := .int (nI rd)) (congrArg Value.int (congrArg nI h.n.1)) ?_
  refine z_bipush O (nI 6) dX4_reading_43 (by decide) ?_
  refine z_icmp_neN O 53 dX4_reading_45 (by decide) (by omega) (by omega) (fun h45 => by omega) (fun h45 => ?_)
  refine z_aload_n O dX4_reading_48 rfl ?_
  refine z_V0e0 O m_full mX4_full lkX4_81 rfl (by rfl) dX4_reading_49 (Nat.le_of_ble_eq_true rfl) (by decide) ?_
  exact z_iret O dX4_reading_52 ⟨rfl, rfl⟩
set_option maxRecDepth 20000 in
set_option maxHeartbeats 4000000 in
theorem m_reading {we r seen kept : Nat → Nat} {rd nw ud Y : Nat} (h : RS w 0 we r seen kept rd nw ud) (g : GS Y we r seen kept rd nw ud) {c m v : Nat} (h1 : c < 9) (h2 : m < 21) (h3 : v ≤ 30) (h4 : rd < 6) : zS G 3 yX4_reading cX4_reading 5 (some .int) [.ref (zad (zb G) 21), .int (nI c), .int (nI m), .int (nI v)] (yM G c0_ c1_ c2_ c3_ c4_ c5_ c6_ c7_ c8_ c9_ c10_ c11_ c12_ c13_ c14_ c15_ c16_ c17_ c18_ c19_ c20_ w kp tx txl rf ya yb at2 st2 iwd ifg nb fr la nms nd wf hh tl) 0 0 (zE (.int (nI (rd + 1))) (yM G c0_ c1_ c2_ c3_ c4_ c5_ c6_ c7_ c8_ c9_ c10_ c11_ c12_ c13_ c14_ c15_ c16_ c17_ c18_ c19_ c20_ (updN (updN (updN (updN w (128 + 3 * rd) c) (128 + 3 * rd + 1) m) (128 + 3 * rd + 2) v) 127 (rd + 1)) kp tx txl rf ya yb at2 st2 iwd ifg nb fr la nms nd wf hh tl)) := by
  refine zS.of (by decide) (Nat.le_of_ble_eq_true rfl) (fun F O hR1 hR2 => ?_)
  have O : zOk G F yX4_reading cX4_reading 5 (some .int) RX4 3 (yM G c0_ c1_ c2_ c3_ c4_ c5_ c6_ c7_ c8_ c9_ c10_ c11_ c12_ c13_ c14_ c15_ c16_ c17_ c18_ c19_ c20_ w kp tx txl rf ya yb at2 st2 iwd ifg nb fr la nms nd wf hh tl).length := O
  refine z_eq (lv' := [(0, _), (1, _), (2, _), (3, _)]) rfl rfl rfl ?_
  refine z_iload_n O dX4_reading_0 rfl ?_
  refine z_S1e0 O (m_isCellN (by omega)) mX4_isCell lkX4_49 dX4_reading_1 (Nat.le_of_ble_eq_true rfl) (by decide) ?_
  refine z_if_eqB O 31 dX4_reading_4 (by decide) (fun h4 => by omega) (fun h4 => ?_)
  refine z_iload_n O dX4_reading_7 rfl ?_
  refine z_i2lN O dX4_reading_8 (by omega) ?_
  refine z_lconst O (lN 0) dX4_reading_9 (by decide) ?_
  refine z_ldc2 O dX4_reading_10 klX4_101 ?_
  refine z_top (v' := .long (lN 20)) (by decide) ?_
  refine z_S3e0 O (m_inN (by omega) (by decide) (by decide)) mX4_in lkX4_45 dX4_reading_13 (Nat.le_of_ble_eq_true rfl) (by decide) ?_
  refine z_if_eqB O 31 dX4_reading_16 (by decide) (fun h16 => by omega) (fun h16 => ?_)
  refine z_iload_n O dX4_reading_19 rfl ?_
  refine z_i2lN O dX4_reading_20 (by omega) ?_
  refine z_lconst O (lN 0) dX4_reading_21 (by decide) ?_
  refine z_ldc2 O dX4_reading_22 klX4_57 ?_
  refine z_top (v' := .long (lN 30)) (by decide) ?_
  refine z_S3e0 O (m_inN (by omega) (by decide) (by decide)) mX4_in lkX4_45 dX4_reading_25 (Nat.le_of_ble_eq_true rfl) (by decide) ?_
  refine z_if_neB O 36 dX4_reading_28 (by decide) (fun h28 => ?_) (fun h28 => by omega)
  refine z_aload_n O dX4_reading_36 rfl ?_
  refine z_get O dX4_reading_37 flX4_7 (by rfl) (by rfl) ?_
  refine z_bipush O (nI 127) dX4_reading_40 (by decide) ?_
  refine z_ialdN O dX4_reading_42 (by rfl) (by omega) (by decide) ?_
  refine z_top (v' := .int (nI rd)) (congrArg Value.int (congrArg nI h.n.1)) ?_
  refine z_bipush O (nI 6) dX4_reading_43 (by decide) ?_
  refine z_icmp_neN O 53 dX4_reading_45 (by decide) (by omega) (by omega) (fun h45 => ?_) (fun h45 => by omega)
  refine z_sipush O (nI 128) dX4_reading_53 (by decide) ?_
  refine z_iconst O (nI 3) dX4_reading_56 (by decide) ?_
  refine z_aload_n O dX4_reading_57 rfl ?_
  refine z_get O dX4_reading_58 flX4_7 (by rfl) (by rfl) ?_
  refine z_bipush O (nI 127) dX4_reading_61 (by decide) ?_
  refine z_ialdN O dX4_reading_63 (by rfl) (by omega) (by decide) ?_
  refine z_top (v' := .int (nI rd)) (congrArg Value.int (congrArg nI h.n.1)) ?_
  refine z_imulN O dX4_reading_64 ?_
  refine z_iaddN O dX4_reading_65 ?_
  refine z_istore (lv' := [(0, _), (1, _), (2, _), (3, _), (4, _)]) O dX4_reading_66 (by decide) rfl ?_
  refine z_aload_n O dX4_reading_68 rfl ?_
  refine z_get O dX4_reading_69 flX4_7 (by rfl) (by rfl) ?_
  refine z_iload O dX4_reading_72 rfl ?_
  refine z_iload_n O dX4_reading_74 rfl ?_
  refine z_iastN O (by rfl) dX4_reading_75 (by rfl) (by omega) (by decide) ?_
  refine z_aload_n O dX4_reading_76 rfl ?_
  refine z_get O dX4_reading_77 flX4_7 (by rfl) (by rfl) ?_
  refine z_iload O dX4_reading_80 rfl ?_
  refine z_iconst O (nI 1) dX4_reading_82 (by decide) ?_
  refine z_iaddN O dX4_reading_83 ?_
  refine z_iload_n O dX4_reading_84 rfl ?_
  refine z_iastN O (by rfl) dX4_reading_85 (by rfl) (by omega) (by decide) ?_
  refine z_aload_n O dX4_reading_86 rfl ?_
  refine z_get O dX4_reading_87 flX4_7 (by rfl) (by rfl) ?_
  refine z_iload O dX4_reading_90 rfl ?_
  refine z_iconst O (nI 2) dX4_reading_92 (by decide) ?_
  refine z_iaddN O dX4_reading_93 ?_
  refine z_iload_n O dX4_reading_94 rfl ?_
  refine z_iastN O (by rfl) dX4_reading_95 (by rfl) (by omega) (by decide) ?_
  refine z_aload_n O dX4_reading_96 rfl ?_
  refine z_get O dX4_reading_97 flX4_7 (by rfl) (by rfl) ?_
  refine z_bipush O (nI 127) dX4_reading_100 (by decide) ?_
  refine z_dup2 O dX4_reading_102 rfl rfl ?_
  refine z_ialdN O dX4_reading_103 (by rfl) (by omega) (by decide) ?_
  refine z_top (v' := .int (nI rd)) (congrArg Value.int (congrArg nI (by rw [updN_n (by omega), updN_n (by omega), updN_n (by omega)]; exact h.n.1))) ?_
  refine z_iconst O (nI 1) dX4_reading_104 (by decide) ?_
  refine z_iaddN O dX4_reading_105 ?_
  refine z_iastN O (by rfl) dX4_reading_106 (by rfl) (by omega) (by decide) ?_
  refine z_aload_n O dX4_reading_107 rfl ?_
  refine z_get O dX4_reading_108 flX4_7 (by rfl) (by rfl) ?_
  refine z_bipush O (nI 127) dX4_reading_111 (by decide) ?_
  refine z_ialdN O dX4_reading_113 (by rfl) (by omega) (by decide) ?_
  refine z_top (v' := .int (nI (rd + 1))) (congrArg Value.int (congrArg nI updN_s)) ?_
  exact z_iret O dX4_reading_114 ⟨rfl, rfl⟩
set_option maxRecDepth 20000 in
set_option maxHeartbeats 4000000 in
theorem m_forget {we r seen kept : Nat → Nat} {rd nw ud Y : Nat} (h : RS w 0 we r seen kept rd nw ud) (g : GS Y we r seen kept rd nw ud) : zS G 1 yX4_forget cX4_forget 2 (some .int) [.ref (zad (zb G) 21)] (yM G c0_ c1_ c2_ c3_ c4_ c5_ c6_ c7_ c8_ c9_ c10_ c11_ c12_ c13_ c14_ c15_ c16_ c17_ c18_ c19_ c20_ w kp tx txl rf ya yb at2 st2 iwd ifg nb fr la nms nd wf hh tl) 0 0 (zE (.int (nI rd)) (yM G c0_ c1_ c2_ c3_ c4_ c5_ c6_ c7_ c8_ c9_ c10_ c11_ c12_ c13_ c14_ c15_ c16_ c17_ c18_ c19_ c20_ (updN w 127 0) kp tx txl rf ya yb at2 st2 iwd ifg nb fr la nms nd wf hh tl)) := by
  refine zS.of (by decide) (Nat.le_of_ble_eq_true rfl) (fun F O hR1 hR2 => ?_)
  have O : zOk G F yX4_forget cX4_forget 2 (some .int) RX4 1 (yM G c0_ c1_ c2_ c3_ c4_ c5_ c6_ c7_ c8_ c9_ c10_ c11_ c12_ c13_ c14_ c15_ c16_ c17_ c18_ c19_ c20_ w kp tx txl rf ya yb at2 st2 iwd ifg nb fr la nms nd wf hh tl).length := O
  refine z_eq (lv' := [(0, _)]) rfl rfl rfl ?_
  refine z_aload_n O dX4_forget_0 rfl ?_
  refine z_get O dX4_forget_1 flX4_7 (by rfl) (by rfl) ?_
  refine z_bipush O (nI 127) dX4_forget_4 (by decide) ?_
  refine z_ialdN O dX4_forget_6 (by rfl) (by omega) (by decide) ?_
  refine z_top (v' := .int (nI rd)) (congrArg Value.int (congrArg nI h.n.1)) ?_
  refine z_istore_n (lv' := [(0, _), (1, _)]) O dX4_forget_7 (by decide) rfl ?_
  refine z_aload_n O dX4_forget_8 rfl ?_
  refine z_get O dX4_forget_9 flX4_7 (by rfl) (by rfl) ?_
  refine z_bipush O (nI 127) dX4_forget_12 (by decide) ?_
  refine z_iconst O (nI 0) dX4_forget_14 (by decide) ?_
  refine z_iastN O (by rfl) dX4_forget_15 (by rfl) (by omega) (by decide) ?_
  refine z_iload_n O dX4_forget_16 rfl ?_
  exact z_iret O dX4_forget_17 ⟨rfl, rfl⟩
set_option maxRecDepth 20000 in
set_option maxHeartbeats 4000000 in
theorem m_partB {f : Int32} (h0 : ¬ f = 0) (h1x : ¬ f = nI 1) : zS G 2 yX4_part cX4_part 2 (some .long) [.ref (zad (zb G) 21), .int f] (yM G c0_ c1_ c2_ c3_ c4_ c5_ c6_ c7_ c8_ c9_ c10_ c11_ c12_ c13_ c14_ c15_ c16_ c17_ c18_ c19_ c20_ w kp tx txl rf ya yb at2 st2 iwd ifg nb fr la nms nd wf hh tl) 0 0 (zE (.long (-2 : Int32).toInt64) (yM G c0_ c1_ c2_ c3_ c4_ c5_ c6_ c7_ c8_ c9_ c10_ c11_ c12_ c13_ c14_ c15_ c16_ c17_ c18_ c19_ c20_ w kp tx txl (updN rf 0 (rf 0 + 1)) ya yb at2 st2 iwd ifg nb fr la nms nd wf hh tl)) := by
  refine zS.of (by decide) (Nat.le_of_ble_eq_true rfl) (fun F O hR1 hR2 => ?_)
  have O : zOk G F yX4_part cX4_part 2 (some .long) RX4 2 (yM G c0_ c1_ c2_ c3_ c4_ c5_ c6_ c7_ c8_ c9_ c10_ c11_ c12_ c13_ c14_ c15_ c16_ c17_ c18_ c19_ c20_ w kp tx txl rf ya yb at2 st2 iwd ifg nb fr la nms nd wf hh tl).length := O
  refine z_eq (lv' := [(0, _), (1, _)]) rfl rfl rfl ?_
  refine z_iload_n O dX4_part_0 rfl ?_
  refine z_if_ne O 11 dX4_part_1 (by decide) (fun h1 => ?_) (fun h1 => by exact absurd h1 h0)
  refine z_iload_n O dX4_part_11 rfl ?_
  refine z_iconst O (nI 1) dX4_part_12 (by decide) ?_
  refine z_icmp_ne O 23 dX4_part_13 (by decide) (fun h13 => ?_) (fun h13 => by exact absurd h13 h1x)
  refine z_aload_n O dX4_part_23 rfl ?_
  refine z_V0e0 O m_bad mX4_bad lkX4_65 rfl (by rfl) dX4_part_24 (Nat.le_of_ble_eq_true rfl) (by decide) ?_
  refine z_i2l O dX4_part_27 ?_
  exact z_lret O dX4_part_28 ⟨rfl, rfl⟩
set_option maxRecDepth 20000 in
set_option maxHeartbeats 4000000 in
theorem m_part {f : Nat} (hf : f ≤ 1) : zS G 2 yX4_part cX4_part 2 (some .long) [.ref (zad (zb G) 21), .int (nI f)] (yM G c0_ c1_ c2_ c3_ c4_ c5_ c6_ c7_ c8_ c9_ c10_ c11_ c12_ c13_ c14_ c15_ c16_ c17_ c18_ c19_ c20_ w kp tx txl rf ya yb at2 st2 iwd ifg nb fr la nms nd wf hh tl) 0 0 (zE (.long (if f = 0 then ya else yb)) (yM G c0_ c1_ c2_ c3_ c4_ c5_ c6_ c7_ c8_ c9_ c10_ c11_ c12_ c13_ c14_ c15_ c16_ c17_ c18_ c19_ c20_ w kp tx txl rf ya yb at2 st2 iwd ifg nb fr la nms nd wf hh tl)) := by
  refine zS.of (by decide) (Nat.le_of_ble_eq_true rfl) (fun F O hR1 hR2 => ?_)
  have O : zOk G F yX4_part cX4_part 2 (some .long) RX4 2 (yM G c0_ c1_ c2_ c3_ c4_ c5_ c6_ c7_ c8_ c9_ c10_ c11_ c12_ c13_ c14_ c15_ c16_ c17_ c18_ c19_ c20_ w kp tx txl rf ya yb at2 st2 iwd ifg nb fr la nms nd wf hh tl).length := O
  refine z_eq (lv' := [(0, _), (1, _)]) rfl rfl rfl ?_
  by_cases hf0 : f = 0
  · refine z_iload_n O dX4_part_0 rfl ?_
    refine z_if_neN O 11 dX4_part_1 (by decide) (by omega) (fun h1 => by omega) (fun h1 => ?_)
    refine z_aload_n O dX4_part_4 rfl ?_
    refine z_get O dX4_part_5 flX4_196 (by rfl) (by rfl) ?_
    refine z_goto O 28 dX4_part_8 (by decide) ?_
    exact z_lret O dX4_part_28 ⟨by rw [if_pos hf0], rfl⟩
  · refine z_iload_n O dX4_part_0 rfl ?_
    refine z_if_neN O 11 dX4_part_1 (by decide) (by omega) (fun h1 => ?_) (fun h1 => by omega)
    refine z_iload_n O dX4_part_11 rfl ?_
    refine z_iconst O (nI 1) dX4_part_12 (by decide) ?_
    refine z_icmp_neN O 23 dX4_part_13 (by decide) (by omega) (by omega) (fun h13 => by omega) (fun h13 => ?_)
    refine z_aload_n O dX4_part_16 rfl ?_
    refine z_get O dX4_part_17 flX4_23 (by rfl) (by rfl) ?_
    refine z_goto O 28 dX4_part_20 (by decide) ?_
    exact z_lret O dX4_part_28 ⟨by rw [if_neg hf0], rfl⟩
set_option maxRecDepth 20000 in
set_option maxHeartbeats 4000000 in
theorem m_statusB {f : Int32} (hb : ¬ (nI 0 ≤ f ∧ f ≤ nI 2)) : zS G 2 yX4_status cX4_status 2 (some .int) [.ref (zad (zb G) 21), .int f] (yM G c0_ c1_ c2_ c3_ c4_ c5_ c6_ c7_ c8_ c9_ c10_ c11_ c12_ c13_ c14_ c15_ c16_ c17_ c18_ c19_ c20_ w kp tx txl rf ya yb at2 st2 iwd ifg nb fr la nms nd wf hh tl) 0 0 (zE (.int (-1)) (yM G c0_ c1_ c2_ c3_ c4_ c5_ c6_ c7_ c8_ c9_ c10_ c11_ c12_ c13_ c14_ c15_ c16_ c17_ c18_ c19_ c20_ w kp tx txl (updN rf 0 (rf 0 + 1)) ya yb at2 st2 iwd ifg nb fr la nms nd wf hh tl)) := by
  refine zS.of (by decide) (Nat.le_of_ble_eq_true rfl) (fun F O hR1 hR2 => ?_)
  have O : zOk G F yX4_status cX4_status 2 (some .int) RX4 2 (yM G c0_ c1_ c2_ c3_ c4_ c5_ c6_ c7_ c8_ c9_ c10_ c11_ c12_ c13_ c14_ c15_ c16_ c17_ c18_ c19_ c20_ w kp tx txl rf ya yb at2 st2 iwd ifg nb fr la nms nd wf hh tl).length := O
  refine z_eq (lv' := [(0, _), (1, _)]) rfl rfl rfl ?_
  refine z_iload_n O dX4_status_0 rfl ?_
  refine z_i2l O dX4_status_1 ?_
  refine z_lconst O (lN 0) dX4_status_2 (by decide) ?_
  refine z_ldc2 O dX4_status_3 klX4_55 ?_
  refine z_top (v' := .long (lN 2)) (by decide) ?_
  refine z_S3e0 O (m_inI (by decide) (by decide)) mX4_in lkX4_45 dX4_status_6 (Nat.le_of_ble_eq_true rfl) (by decide) ?_
  refine z_if_eqB O 21 dX4_status_9 (by decide) (fun h9 => ?_) (fun h9 => by exact absurd h9 hb)
  refine z_aload_n O dX4_status_21 rfl ?_
  refine z_iconst O (-1) dX4_status_22 (by decide) ?_
  refine z_V1e0 O m_badAs mX4_badAs lkX4_236 rfl (by rfl) dX4_status_23 (Nat.le_of_ble_eq_true rfl) (by decide) ?_
  exact z_iret O dX4_status_26 ⟨rfl, rfl⟩
set_option maxRecDepth 20000 in
set_option maxHeartbeats 4000000 in
theorem m_status {f : Nat} (hf : f ≤ 2) : zS G 2 yX4_status cX4_status 2 (some .int) [.ref (zad (zb G) 21), .int (nI f)] (yM G c0_ c1_ c2_ c3_ c4_ c5_ c6_ c7_ c8_ c9_ c10_ c11_ c12_ c13_ c14_ c15_ c16_ c17_ c18_ c19_ c20_ w kp tx txl rf ya yb at2 st2 iwd ifg nb fr la nms nd wf hh tl) 0 0 (zE (.int (nI (rf f))) (yM G c0_ c1_ c2_ c3_ c4_ c5_ c6_ c7_ c8_ c9_ c10_ c11_ c12_ c13_ c14_ c15_ c16_ c17_ c18_ c19_ c20_ w kp tx txl rf ya yb at2 st2 iwd ifg nb fr la nms nd wf hh tl)) := by
  refine zS.of (by decide) (Nat.le_of_ble_eq_true rfl) (fun F O hR1 hR2 => ?_)
  have O : zOk G F yX4_status cX4_status 2 (some .int) RX4 2 (yM G c0_ c1_ c2_ c3_ c4_ c5_ c6_ c7_ c8_ c9_ c10_ c11_ c12_ c13_ c14_ c15_ c16_ c17_ c18_ c19_ c20_ w kp tx txl rf ya yb at2 st2 iwd ifg nb fr la nms nd wf hh tl).length := O
  refine z_eq (lv' := [(0, _), (1, _)]) rfl rfl rfl ?_
  refine z_iload_n O dX4_status_0 rfl ?_
  refine z_i2lN O dX4_status_1 (by omega) ?_
  refine z_lconst O (lN 0) dX4_status_2 (by decide) ?_
  refine z_ldc2 O dX4_status_3 klX4_55 ?_
  refine z_top (v' := .long (lN 2)) (by decide) ?_
  refine z_S3e0 O (m_inN (by omega) (by decide) (by decide)) mX4_in lkX4_45 dX4_status_6 (Nat.le_of_ble_eq_true rfl) (by decide) ?_
  refine z_if_eqB O 21 dX4_status_9 (by decide) (fun h9 => by omega) (fun h9 => ?_)
  refine z_aload_n O dX4_status_12 rfl ?_
  refine z_get O dX4_status_13 flX4_20 (by rfl) (by rfl) ?_
  refine z_iload_n O dX4_status_16 rfl ?_
  refine z_ialdN O dX4_status_17 (by rfl) (by omega) (by decide) ?_
  refine z_goto O 26 dX4_status_18 (by decide) ?_
  exact z_iret O dX4_status_26 ⟨rfl, rfl⟩
set_option maxRecDepth 20000 in
set_option maxHeartbeats 4000000 in
theorem m_countOf {we r seen kept : Nat → Nat} {rd nw ud Y : Nat} (h : RS w 0 we r seen kept rd nw ud) (g : GS Y we r seen kept rd nw ud) {f : Nat} (hf : f ≤ 5) : zS G 2 yX4_countOf cX4_countOf 2 (some .int) [.ref (zad (zb G) 21), .int (nI f)] (yM G c0_ c1_ c2_ c3_ c4_ c5_ c6_ c7_ c8_ c9_ c10_ c11_ c12_ c13_ c14_ c15_ c16_ c17_ c18_ c19_ c20_ w kp tx txl rf ya yb at2 st2 iwd ifg nb fr la nms nd wf hh tl) 0 0 (zE (.int (nI (hmN r rd ud txl f))) (yM G c0_ c1_ c2_ c3_ c4_ c5_ c6_ c7_ c8_ c9_ c10_ c11_ c12_ c13_ c14_ c15_ c16_ c17_ c18_ c19_ c20_ w kp tx txl rf ya yb at2 st2 iwd ifg nb fr la nms nd wf hh tl)) := by
  refine zS.of (by decide) (Nat.le_of_ble_eq_true rfl) (fun F O hR1 hR2 => ?_)
  have O : zOk G F yX4_countOf cX4_countOf 2 (some .int) RX4 2 (yM G c0_ c1_ c2_ c3_ c4_ c5_ c6_ c7_ c8_ c9_ c10_ c11_ c12_ c13_ c14_ c15_ c16_ c17_ c18_ c19_ c20_ w kp tx txl rf ya yb at2 st2 iwd ifg nb fr la nms nd wf hh tl).length := O
  refine z_eq (lv' := [(0, _), (1, _)]) rfl rfl rfl ?_
  refine z_iload_n O dX4_countOf_0 rfl ?_
  refine z_tabN O 0 36 dX4_countOf_1 (by rfl) (by decide) (by decide) (by decide) (by decide) (fun hk1 => ?_) (fun hn1_0 => ?_)
  · refine z_aload_n O dX4_countOf_36 rfl ?_
    refine z_iconst O (nI 0) dX4_countOf_37 (by decide) ?_
    refine z_V1e0 O (m_darnsIn h.1 g.1.1 (by decide)) mX4_darnsIn lkX4_69 rfl (by rfl) dX4_countOf_38 (Nat.le_of_ble_eq_true rfl) (by decide) ?_
    exact z_iret O dX4_countOf_41 ⟨by rw [hk1]; rfl, rfl⟩
  refine z_tabN O 1 42 dX4_countOf_1 (by rfl) (by decide) (by decide) (by decide) (by decide) (fun hk1 => ?_) (fun hn1_1 => ?_)
  · refine z_aload_n O dX4_countOf_42 rfl ?_
    refine z_iconst O (nI 0) dX4_countOf_43 (by decide) ?_
    refine z_V1e0 O (m_holesIn h.1 g.1.1 (by decide)) mX4_holesIn lkX4_107 rfl (by rfl) dX4_countOf_44 (Nat.le_of_ble_eq_true rfl) (by decide) ?_
    refine z_S1e0 O (m_ones (by have := bitsN_lt (holesB r) 9; omega)) mX4_ones lkX4_110 dX4_countOf_47 (Nat.le_of_ble_eq_true rfl) (by decide) ?_
    exact z_iret O dX4_countOf_50 ⟨by rw [hk1]; rfl, rfl⟩
  refine z_tabN O 2 51 dX4_countOf_1 (by rfl) (by decide) (by decide) (by decide) (by decide) (fun hk1 => ?_) (fun hn1_2 => ?_)
  · refine z_aload_n O dX4_countOf_51 rfl ?_
    refine z_get O dX4_countOf_52 flX4_7 (by rfl) (by rfl) ?_
    refine z_iconst O (nI 0) dX4_countOf_55 (by decide) ?_
    refine z_ialdN O dX4_countOf_56 (by rfl) (by omega) (by decide) ?_
    refine z_top (v' := .int (nI (r 117))) (congrArg Value.int (congrArg nI h.n.2.2)) ?_
    exact z_iret O dX4_countOf_57 ⟨by rw [hk1]; rfl, rfl⟩
  refine z_tabN O 3 58 dX4_countOf_1 (by rfl) (by decide) (by decide) (by decide) (by decide) (fun hk1 => ?_) (fun hn1_3 => ?_)
  · refine z_aload_n O dX4_countOf_58 rfl ?_
    refine z_get O dX4_countOf_59 flX4_7 (by rfl) (by rfl) ?_
    refine z_bipush O (nI 127) dX4_countOf_62 (by decide) ?_
    refine z_ialdN O dX4_countOf_64 (by rfl) (by omega) (by decide) ?_
    refine z_top (v' := .int (nI rd)) (congrArg Value.int (congrArg nI h.n.1)) ?_
    exact z_iret O dX4_countOf_65 ⟨by rw [hk1]; rfl, rfl⟩
  refine z_tabN O 4 66 dX4_countOf_1 (by rfl) (by decide) (by decide) (by decide) (by decide) (fun hk1 => ?_) (fun hn1_4 => ?_)
  · refine z_aload_n O dX4_countOf_66 rfl ?_
    refine z_get O dX4_countOf_67 flX4_7 (by rfl) (by rfl) ?_
    refine z_sipush O (nI 146) dX4_countOf_70 (by decide) ?_
    refine z_ialdN O dX4_countOf_73 (by rfl) (by omega) (by decide) ?_
    refine z_top (v' := .int (nI ud)) (congrArg Value.int (congrArg nI h.n.2.1)) ?_
    exact z_iret O dX4_countOf_74 ⟨by rw [hk1]; rfl, rfl⟩
  refine z_tabNO O 75 dX4_countOf_1 (by omega) (by omega) (by decide) ?_
  refine z_aload_n O dX4_countOf_75 rfl ?_
  refine z_get O dX4_countOf_76 flX4_115 (by rfl) (by rfl) ?_
  exact z_iret O dX4_countOf_79 ⟨by rw [show f = 5 by omega]; rfl, rfl⟩
set_option maxRecDepth 20000 in
set_option maxHeartbeats 4000000 in
theorem m_countB {f : Int32} (hb : ¬ (nI 0 ≤ f ∧ f ≤ nI 5)) : zS G 2 yX4_count cX4_count 2 (some .int) [.ref (zad (zb G) 21), .int f] (yM G c0_ c1_ c2_ c3_ c4_ c5_ c6_ c7_ c8_ c9_ c10_ c11_ c12_ c13_ c14_ c15_ c16_ c17_ c18_ c19_ c20_ w kp tx txl rf ya yb at2 st2 iwd ifg nb fr la nms nd wf hh tl) 0 0 (zE (.int (-2)) (yM G c0_ c1_ c2_ c3_ c4_ c5_ c6_ c7_ c8_ c9_ c10_ c11_ c12_ c13_ c14_ c15_ c16_ c17_ c18_ c19_ c20_ w kp tx txl (updN rf 0 (rf 0 + 1)) ya yb at2 st2 iwd ifg nb fr la nms nd wf hh tl)) := by
  refine zS.of (by decide) (Nat.le_of_ble_eq_true rfl) (fun F O hR1 hR2 => ?_)
  have O : zOk G F yX4_count cX4_count 2 (some .int) RX4 2 (yM G c0_ c1_ c2_ c3_ c4_ c5_ c6_ c7_ c8_ c9_ c10_ c11_ c12_ c13_ c14_ c15_ c16_ c17_ c18_ c19_ c20_ w kp tx txl rf ya yb at2 st2 iwd ifg nb fr la nms nd wf hh tl).length := O
  refine z_eq (lv' := [(0, _), (1, _)]) rfl rfl rfl ?_
  refine z_iload_n O dX4_count_0 rfl ?_
  refine z_i2l O dX4_count_1 ?_
  refine z_lconst O (lN 0) dX4_count_2 (by decide) ?_
  refine z_ldc2 O dX4_count_3 klX4_53 ?_
  refine z_top (v' := .long (lN 5)) (by decide) ?_
  refine z_S3e0 O (m_inI (by decide) (by decide)) mX4_in lkX4_45 dX4_count_6 (Nat.le_of_ble_eq_true rfl) (by decide) ?_
  refine z_if_eqB O 20 dX4_count_9 (by decide) (fun h9 => ?_) (fun h9 => by exact absurd h9 hb)
  refine z_aload_n O dX4_count_20 rfl ?_
  refine z_V0e0 O m_bad mX4_bad lkX4_65 rfl (by rfl) dX4_count_21 (Nat.le_of_ble_eq_true rfl) (by decide) ?_
  exact z_iret O dX4_count_24 ⟨rfl, rfl⟩
set_option maxRecDepth 20000 in
set_option maxHeartbeats 4000000 in
theorem m_count {we r seen kept : Nat → Nat} {rd nw ud Y : Nat} (h : RS w 0 we r seen kept rd nw ud) (g : GS Y we r seen kept rd nw ud) {f : Nat} (hf : f ≤ 5) : zS G 3 yX4_count cX4_count 2 (some .int) [.ref (zad (zb G) 21), .int (nI f)] (yM G c0_ c1_ c2_ c3_ c4_ c5_ c6_ c7_ c8_ c9_ c10_ c11_ c12_ c13_ c14_ c15_ c16_ c17_ c18_ c19_ c20_ w kp tx txl rf ya yb at2 st2 iwd ifg nb fr la nms nd wf hh tl) 0 0 (zE (.int (nI (hmN r rd ud txl f))) (yM G c0_ c1_ c2_ c3_ c4_ c5_ c6_ c7_ c8_ c9_ c10_ c11_ c12_ c13_ c14_ c15_ c16_ c17_ c18_ c19_ c20_ w kp tx txl rf ya yb at2 st2 iwd ifg nb fr la nms nd wf hh tl)) := by
  refine zS.of (by decide) (Nat.le_of_ble_eq_true rfl) (fun F O hR1 hR2 => ?_)
  have O : zOk G F yX4_count cX4_count 2 (some .int) RX4 3 (yM G c0_ c1_ c2_ c3_ c4_ c5_ c6_ c7_ c8_ c9_ c10_ c11_ c12_ c13_ c14_ c15_ c16_ c17_ c18_ c19_ c20_ w kp tx txl rf ya yb at2 st2 iwd ifg nb fr la nms nd wf hh tl).length := O
  refine z_eq (lv' := [(0, _), (1, _)]) rfl rfl rfl ?_
  refine z_iload_n O dX4_count_0 rfl ?_
  refine z_i2lN O dX4_count_1 (by omega) ?_
  refine z_lconst O (lN 0) dX4_count_2 (by decide) ?_
  refine z_ldc2 O dX4_count_3 klX4_53 ?_
  refine z_top (v' := .long (lN 5)) (by decide) ?_
  refine z_S3e0 O (m_inN (by omega) (by decide) (by decide)) mX4_in lkX4_45 dX4_count_6 (Nat.le_of_ble_eq_true rfl) (by decide) ?_
  refine z_if_eqB O 20 dX4_count_9 (by decide) (fun h9 => by omega) (fun h9 => ?_)
  refine z_aload_n O dX4_count_12 rfl ?_
  refine z_iload_n O dX4_count_13 rfl ?_
  refine z_V1e0 O (m_countOf h g hf) mX4_countOf lkX4_256 rfl (by rfl) dX4_count_14 (Nat.le_of_ble_eq_true rfl) (by decide) ?_
  refine z_goto O 24 dX4_count_17 (by decide) ?_
  exact z_iret O dX4_count_24 ⟨rfl, rfl⟩
set_option maxRecDepth 20000 in
set_option maxHeartbeats 4000000 in
theorem m_mix {x : Int64} : zS G 1 yX4_mix cX4_mix 3 none [.ref (zad (zb G) 21), .long x] (yM G c0_ c1_ c2_ c3_ c4_ c5_ c6_ c7_ c8_ c9_ c10_ c11_ c12_ c13_ c14_ c15_ c16_ c17_ c18_ c19_ c20_ w kp tx txl rf ya yb at2 st2 iwd ifg nb fr la nms nd wf hh tl) 0 0 (zU (yM G c0_ c1_ c2_ c3_ c4_ c5_ c6_ c7_ c8_ c9_ c10_ c11_ c12_ c13_ c14_ c15_ c16_ c17_ c18_ c19_ c20_ w kp tx txl rf ya yb at2 st2 iwd ifg nb fr la nms nd wf (lN 31 * hh + x) tl)) := by
  refine zS.of (by decide) (Nat.le_of_ble_eq_true rfl) (fun F O hR1 hR2 => ?_)
  have O : zOk G F yX4_mix cX4_mix 3 none RX4 1 (yM G c0_ c1_ c2_ c3_ c4_ c5_ c6_ c7_ c8_ c9_ c10_ c11_ c12_ c13_ c14_ c15_ c16_ c17_ c18_ c19_ c20_ w kp tx txl rf ya yb at2 st2 iwd ifg nb fr la nms nd wf hh tl).length := O
  refine z_eq (lv' := [(0, _), (1, _)]) rfl rfl rfl ?_
  refine z_aload_n O dX4_mix_0 rfl ?_
  refine z_ldc2 O dX4_mix_1 klX4_259 ?_
  refine z_top (v' := .long (lN 31)) (by decide) ?_
  refine z_aload_n O dX4_mix_4 rfl ?_
  refine z_get O dX4_mix_5 flX4_261 (by rfl) (by rfl) ?_
  refine z_lmul O dX4_mix_8 ?_
  refine z_lload_n O dX4_mix_9 rfl ?_
  refine z_ladd O dX4_mix_10 ?_
  refine z_put O (by rfl) dX4_mix_11 flX4_261 (by rfl) rfl rfl (by simp) ?_
  exact z_vret O dX4_mix_14 ⟨rfl, rfl⟩
set_option maxRecDepth 20000 in
set_option maxHeartbeats 4000000 in
theorem m_digest {we r seen kept : Nat → Nat} {rd nw ud Y : Nat} (h : RS w 0 we r seen kept rd nw ud) (g : GS Y we r seen kept rd nw ud) (hl : txl ≤ 150) : zS G 3 yX4_digest cX4_digest 3 (some .long) [.ref (zad (zb G) 21)] (yM G c0_ c1_ c2_ c3_ c4_ c5_ c6_ c7_ c8_ c9_ c10_ c11_ c12_ c13_ c14_ c15_ c16_ c17_ c18_ c19_ c20_ w kp tx txl rf ya yb at2 st2 iwd ifg nb fr la nms nd wf hh tl) 0 0 (zE (.long (digX we r seen rd ud txl ya yb)) (yM G c0_ c1_ c2_ c3_ c4_ c5_ c6_ c7_ c8_ c9_ c10_ c11_ c12_ c13_ c14_ c15_ c16_ c17_ c18_ c19_ c20_ w kp tx txl rf ya yb at2 st2 iwd ifg nb fr la nms nd wf (digX we r seen rd ud txl ya yb) tl)) := by
  refine zS.of (by decide) (Nat.le_of_ble_eq_true rfl) (fun F O hR1 hR2 => ?_)
  have O : zOk G F yX4_digest cX4_digest 3 (some .long) RX4 3 (yM G c0_ c1_ c2_ c3_ c4_ c5_ c6_ c7_ c8_ c9_ c10_ c11_ c12_ c13_ c14_ c15_ c16_ c17_ c18_ c19_ c20_ w kp tx txl rf ya yb at2 st2 iwd ifg nb fr la nms nd wf hh tl).length := O
  refine z_eq (lv' := [(0, _)]) rfl rfl rfl ?_
  refine z_aload_n O dX4_digest_0 rfl ?_
  refine z_ldc2 O dX4_digest_1 klX4_264 ?_
  refine z_top (v' := .long (lN 1061)) (by decide) ?_
  refine z_put O (by rfl) dX4_digest_4 flX4_261 (by rfl) rfl rfl (by simp) ?_
  refine z_M (show _ = (yM G c0_ c1_ c2_ c3_ c4_ c5_ c6_ c7_ c8_ c9_ c10_ c11_ c12_ c13_ c14_ c15_ c16_ c17_ c18_ c19_ c20_ w kp tx txl rf ya yb at2 st2 iwd ifg nb fr la nms nd wf (dgH r rd ud txl 0) tl) from rfl) ?_
  refine z_iconst O (nI 0) dX4_digest_7 (by decide) ?_
  refine z_istore_n (lv' := [(0, _), (1, _)]) O dX4_digest_8 (by decide) rfl ?_
  refine zdown (P := fun f => Z G F 0 0 (zEnd G F (zE (.long (digX we r seen rd ud txl ya yb)) (yM G c0_ c1_ c2_ c3_ c4_ c5_ c6_ c7_ c8_ c9_ c10_ c11_ c12_ c13_ c14_ c15_ c16_ c17_ c18_ c19_ c20_ w kp tx txl rf ya yb at2 st2 iwd ifg nb fr la nms nd wf (digX we r seen rd ud txl ya yb) tl)) 0 0) 9 [(0, .ref (zad (zb G) 21)), (1, .int (nI f))] [] (yM G c0_ c1_ c2_ c3_ c4_ c5_ c6_ c7_ c8_ c9_ c10_ c11_ c12_ c13_ c14_ c15_ c16_ c17_ c18_ c19_ c20_ w kp tx txl rf ya yb at2 st2 iwd ifg nb fr la nms nd wf (dgH r rd ud txl f) tl)) (6) ?_ ?_ 
  · refine z_iload_n O dX4_digest_9 rfl ?_
    refine z_bipush O (nI 6) dX4_digest_10 (by decide) ?_
    refine z_icmp_geN O 31 dX4_digest_12 (by decide) (by omega) (by omega) (fun h12 => ?_) (fun h12 => by omega)
    refine z_iconst O (nI 0) dX4_digest_31 (by decide) ?_
    refine z_istore_n (lv' := [(0, _), (1, _)]) O dX4_digest_32 (by decide) rfl ?_
    refine zdown (P := fun c => Z G F 0 0 (zEnd G F (zE (.long (digX we r seen rd ud txl ya yb)) (yM G c0_ c1_ c2_ c3_ c4_ c5_ c6_ c7_ c8_ c9_ c10_ c11_ c12_ c13_ c14_ c15_ c16_ c17_ c18_ c19_ c20_ w kp tx txl rf ya yb at2 st2 iwd ifg nb fr la nms nd wf (digX we r seen rd ud txl ya yb) tl)) 0 0) 33 [(0, .ref (zad (zb G) 21)), (1, .int (nI c))] [] (yM G c0_ c1_ c2_ c3_ c4_ c5_ c6_ c7_ c8_ c9_ c10_ c11_ c12_ c13_ c14_ c15_ c16_ c17_ c18_ c19_ c20_ w kp tx txl rf ya yb at2 st2 iwd ifg nb fr la nms nd wf (dgC r we (dgH r rd ud txl 6) c) tl)) (9) ?_ ?_ 
    · refine z_iload_n O dX4_digest_33 rfl ?_
      refine z_bipush O (nI 9) dX4_digest_34 (by decide) ?_
      refine z_icmp_geN O 111 dX4_digest_36 (by decide) (by omega) (by omega) (fun h36 => ?_) (fun h36 => by omega)
      refine z_iconst O (nI 0) dX4_digest_111 (by decide) ?_
      refine z_istore_n (lv' := [(0, _), (1, _)]) O dX4_digest_112 (by decide) rfl ?_
      refine zdown (P := fun i => Z G F 0 0 (zEnd G F (zE (.long (digX we r seen rd ud txl ya yb)) (yM G c0_ c1_ c2_ c3_ c4_ c5_ c6_ c7_ c8_ c9_ c10_ c11_ c12_ c13_ c14_ c15_ c16_ c17_ c18_ c19_ c20_ w kp tx txl rf ya yb at2 st2 iwd ifg nb fr la nms nd wf (digX we r seen rd ud txl ya yb) tl)) 0 0) 113 [(0, .ref (zad (zb G) 21)), (1, .int (nI i))] [] (yM G c0_ c1_ c2_ c3_ c4_ c5_ c6_ c7_ c8_ c9_ c10_ c11_ c12_ c13_ c14_ c15_ c16_ c17_ c18_ c19_ c20_ w kp tx txl rf ya yb at2 st2 iwd ifg nb fr la nms nd wf (dgR seen (dgC r we (dgH r rd ud txl 6) 9) i) tl)) (3 * rd) ?_ ?_ 
      · refine z_iload_n O dX4_digest_113 rfl ?_
        refine z_iconst O (nI 3) dX4_digest_114 (by decide) ?_
        refine z_aload_n O dX4_digest_115 rfl ?_
        refine z_get O dX4_digest_116 flX4_7 (by rfl) (by rfl) ?_
        refine z_bipush O (nI 127) dX4_digest_119 (by decide) ?_
        refine z_ialdN O dX4_digest_121 (by rfl) (by omega) (by decide) ?_
        refine z_top (v' := .int (nI rd)) (congrArg Value.int (congrArg nI h.n.1)) ?_
        refine z_imulN O dX4_digest_122 ?_
        refine z_icmp_geN O 147 dX4_digest_123 (by decide) (by have := g.2.2.2.2.2.2.2.1; omega) (by have := g.2.2.2.2.2.2.2.1; omega) (fun h123 => ?_) (fun h123 => by omega)
        refine z_aload_n O dX4_digest_147 rfl ?_
        refine z_aload_n O dX4_digest_148 rfl ?_
        refine z_get O dX4_digest_149 flX4_196 (by rfl) (by rfl) ?_
        refine z_V1u0 O m_mix mX4_mix lkX4_266 rfl (by rfl) dX4_digest_152 (Nat.le_of_ble_eq_true rfl) (by decide) ?_
        refine z_aload_n O dX4_digest_155 rfl ?_
        refine z_aload_n O dX4_digest_156 rfl ?_
        refine z_get O dX4_digest_157 flX4_23 (by rfl) (by rfl) ?_
        refine z_V1u0 O m_mix mX4_mix lkX4_266 rfl (by rfl) dX4_digest_160 (Nat.le_of_ble_eq_true rfl) (by decide) ?_
        refine z_aload_n O dX4_digest_163 rfl ?_
        refine z_get O dX4_digest_164 flX4_261 (by rfl) (by rfl) ?_
        exact z_lret O dX4_digest_167 ⟨rfl, rfl⟩
      · intro i hi ih 
        refine z_iload_n O dX4_digest_113 rfl ?_
        refine z_iconst O (nI 3) dX4_digest_114 (by decide) ?_
        refine z_aload_n O dX4_digest_115 rfl ?_
        refine z_get O dX4_digest_116 flX4_7 (by rfl) (by rfl) ?_
        refine z_bipush O (nI 127) dX4_digest_119 (by decide) ?_
        refine z_ialdN O dX4_digest_121 (by rfl) (by omega) (by decide) ?_
        refine z_top (v' := .int (nI rd)) (congrArg Value.int (congrArg nI h.n.1)) ?_
        refine z_imulN O dX4_digest_122 ?_
        refine z_icmp_geN O 147 dX4_digest_123 (by decide) (by have := g.2.2.2.2.2.2.2.1; omega) (by have := g.2.2.2.2.2.2.2.1; omega) (fun h123 => by omega) (fun h123 => ?_)
        refine z_aload_n O dX4_digest_126 rfl ?_
        refine z_aload_n O dX4_digest_127 rfl ?_
        refine z_get O dX4_digest_128 flX4_7 (by rfl) (by rfl) ?_
        refine z_sipush O (nI 128) dX4_digest_131 (by decide) ?_
        refine z_iload_n O dX4_digest_134 rfl ?_
        refine z_iaddN O dX4_digest_135 ?_
        refine z_ialdN O dX4_digest_136 (by rfl) (by have := g.2.2.2.2.2.2.2.1; omega) (by decide) ?_
        refine z_top (v' := .int (nI (seen i))) (congrArg Value.int (congrArg nI (h.2.2.1 i hi))) ?_
        refine z_i2lN O dX4_digest_137 (by have := g.2.2.2.1 i; omega) ?_
        refine z_V1u0 O m_mix mX4_mix lkX4_266 rfl (by rfl) dX4_digest_138 (Nat.le_of_ble_eq_true rfl) (by decide) ?_
        refine z_iincN (lv' := [(0, _), (1, _)]) O 1 dX4_digest_141 (by decide) rfl rfl (by decide) ?_
        refine z_goto O 113 dX4_digest_144 (by decide) ?_
        exact ih
    · intro c hc ih 
      refine z_iload_n O dX4_digest_33 rfl ?_
      refine z_bipush O (nI 9) dX4_digest_34 (by decide) ?_
      refine z_icmp_geN O 111 dX4_digest_36 (by decide) (by omega) (by omega) (fun h36 => by omega) (fun h36 => ?_)
      refine z_aload_n O dX4_digest_39 rfl ?_
      refine z_aload_n O dX4_digest_40 rfl ?_
      refine z_get O dX4_digest_41 flX4_7 (by rfl) (by rfl) ?_
      refine z_bipush O (nI 118) dX4_digest_44 (by decide) ?_
      refine z_iload_n O dX4_digest_46 rfl ?_
      refine z_iaddN O dX4_digest_47 ?_
      refine z_ialdN O dX4_digest_48 (by rfl) (by omega) (by decide) ?_
      refine z_top (v' := .int (nI (we c))) (congrArg Value.int (congrArg nI (h.e hc))) ?_
      refine z_i2lN O dX4_digest_49 (by have := g.2.1 c; omega) ?_
      refine z_V1u0 O m_mix mX4_mix lkX4_266 rfl (by rfl) dX4_digest_50 (Nat.le_of_ble_eq_true rfl) (by decide) ?_
      refine z_aload_n O dX4_digest_53 rfl ?_
      refine z_aload_n O dX4_digest_54 rfl ?_
      refine z_get O dX4_digest_55 flX4_7 (by rfl) (by rfl) ?_
      refine z_iconst O (nI 1) dX4_digest_58 (by decide) ?_
      refine z_iload_n O dX4_digest_59 rfl ?_
      refine z_iaddN O dX4_digest_60 ?_
      refine z_ialdN O dX4_digest_61 (by rfl) (by omega) (by decide) ?_
      refine z_top (v' := .int (nI (r (108 + c)))) (congrArg Value.int (congrArg nI (h.m hc))) ?_
      refine z_i2lN O dX4_digest_62 (by have := g.1.1.2 c hc; omega) ?_
      refine z_V1u0 O m_mix mX4_mix lkX4_266 rfl (by rfl) dX4_digest_63 (Nat.le_of_ble_eq_true rfl) (by decide) ?_
      refine z_iconst O (nI 0) dX4_digest_66 (by decide) ?_
      refine z_istore_n (lv' := [(0, _), (1, _), (2, _)]) O dX4_digest_67 (by decide) rfl ?_
      refine zdown (P := fun k => Z G F 0 0 (zEnd G F (zE (.long (digX we r seen rd ud txl ya yb)) (yM G c0_ c1_ c2_ c3_ c4_ c5_ c6_ c7_ c8_ c9_ c10_ c11_ c12_ c13_ c14_ c15_ c16_ c17_ c18_ c19_ c20_ w kp tx txl rf ya yb at2 st2 iwd ifg nb fr la nms nd wf (digX we r seen rd ud txl ya yb) tl)) 0 0) 68 [(0, .ref (zad (zb G) 21)), (1, .int (nI c)), (2, .int (nI k))] [] (yM G c0_ c1_ c2_ c3_ c4_ c5_ c6_ c7_ c8_ c9_ c10_ c11_ c12_ c13_ c14_ c15_ c16_ c17_ c18_ c19_ c20_ w kp tx txl rf ya yb at2 st2 iwd ifg nb fr la nms nd wf (dgQ (fun k => r (c * 12 + k)) (mixL (mixL (dgC r we (dgH r rd ud txl 6) c) (we c)) (r (108 + c))) k) tl)) (4 * r (108 + c)) ?_ ?_ 
      · refine z_iload_n O dX4_digest_68 rfl ?_
        refine z_iconst O (nI 4) dX4_digest_69 (by decide) ?_
        refine z_aload_n O dX4_digest_70 rfl ?_
        refine z_get O dX4_digest_71 flX4_7 (by rfl) (by rfl) ?_
        refine z_iconst O (nI 1) dX4_digest_74 (by decide) ?_
        refine z_iload_n O dX4_digest_75 rfl ?_
        refine z_iaddN O dX4_digest_76 ?_
        refine z_ialdN O dX4_digest_77 (by rfl) (by omega) (by decide) ?_
        refine z_top (v' := .int (nI (r (108 + c)))) (congrArg Value.int (congrArg nI (h.m hc))) ?_
        refine z_imulN O dX4_digest_78 ?_
        refine z_icmp_geN O 105 dX4_digest_79 (by decide) (by have := g.1.1.2 c hc; omega) (by have := g.1.1.2 c hc; omega) (fun h79 => ?_) (fun h79 => by omega)
        refine z_iincN (lv' := [(0, _), (1, _), (2, _)]) O 1 dX4_digest_105 (by decide) rfl rfl (by decide) ?_
        refine z_goto O 33 dX4_digest_108 (by decide) ?_
        refine z_kp (lv' := [(0, _), (1, _)]) [0, 1] rfl ?_
        refine z_M (show _ = (yM G c0_ c1_ c2_ c3_ c4_ c5_ c6_ c7_ c8_ c9_ c10_ c11_ c12_ c13_ c14_ c15_ c16_ c17_ c18_ c19_ c20_ w kp tx txl rf ya yb at2 st2 iwd ifg nb fr la nms nd wf (dgC r we (dgH r rd ud txl 6) (c + 1)) tl) by rw [dgQ_P]; rfl) ?_
        exact ih
      · intro k hk ih 
        refine z_iload_n O dX4_digest_68 rfl ?_
        refine z_iconst O (nI 4) dX4_digest_69 (by decide) ?_
        refine z_aload_n O dX4_digest_70 rfl ?_
        refine z_get O dX4_digest_71 flX4_7 (by rfl) (by rfl) ?_
        refine z_iconst O (nI 1) dX4_digest_74 (by decide) ?_
        refine z_iload_n O dX4_digest_75 rfl ?_
        refine z_iaddN O dX4_digest_76 ?_
        refine z_ialdN O dX4_digest_77 (by rfl) (by omega) (by decide) ?_
        refine z_top (v' := .int (nI (r (108 + c)))) (congrArg Value.int (congrArg nI (h.m hc))) ?_
        refine z_imulN O dX4_digest_78 ?_
        refine z_icmp_geN O 105 dX4_digest_79 (by decide) (by have := g.1.1.2 c hc; omega) (by have := g.1.1.2 c hc; omega) (fun h79 => by omega) (fun h79 => ?_)
        refine z_aload_n O dX4_digest_82 rfl ?_
        refine z_aload_n O dX4_digest_83 rfl ?_
        refine z_get O dX4_digest_84 flX4_7 (by rfl) (by rfl) ?_
        refine z_iload_n O dX4_digest_87 rfl ?_
        refine z_iconst O (nI 0) dX4_digest_88 (by decide) ?_
        refine z_S2e0 O m_placeOf mX4_placeOf lkX4_59 dX4_digest_89 (Nat.le_of_ble_eq_true rfl) (by decide) ?_
        refine z_iload_n O dX4_digest_92 rfl ?_
        refine z_iaddN O dX4_digest_93 ?_
        refine z_ialdN O dX4_digest_94 (by rfl) (by have := g.1.1.2 c hc; omega) (by decide) ?_
        refine z_top (v' := .int (nI (r (c * 12 + k)))) (congrArg Value.int (congrArg nI (h.k hc hk))) ?_
        refine z_i2lN O dX4_digest_95 (by have := g.1.1.1 (c * 12 + k); omega) ?_
        refine z_V1u0 O m_mix mX4_mix lkX4_266 rfl (by rfl) dX4_digest_96 (Nat.le_of_ble_eq_true rfl) (by decide) ?_
        refine z_iincN (lv' := [(0, _), (1, _), (2, _)]) O 1 dX4_digest_99 (by decide) rfl rfl (by decide) ?_
        refine z_goto O 68 dX4_digest_102 (by decide) ?_
        exact ih
  · intro f hf ih 
    refine z_iload_n O dX4_digest_9 rfl ?_
    refine z_bipush O (nI 6) dX4_digest_10 (by decide) ?_
    refine z_icmp_geN O 31 dX4_digest_12 (by decide) (by omega) (by omega) (fun h12 => by omega) (fun h12 => ?_)
    refine z_aload_n O dX4_digest_15 rfl ?_
    refine z_aload_n O dX4_digest_16 rfl ?_
    refine z_iload_n O dX4_digest_17 rfl ?_
    refine z_V1e0 O (m_countOf h g (by omega)) mX4_countOf lkX4_256 rfl (by rfl) dX4_digest_18 (Nat.le_of_ble_eq_true rfl) (by decide) ?_
    refine z_i2lN O dX4_digest_21 (hmN_lt g.1.1 (by have := g.2.2.2.2.2.2.2.1; omega) (by have := g.2.2.2.2.2.2.2.2.2; omega) (by omega)) ?_
    refine z_V1u0 O m_mix mX4_mix lkX4_266 rfl (by rfl) dX4_digest_22 (Nat.le_of_ble_eq_true rfl) (by decide) ?_
    refine z_iincN (lv' := [(0, _), (1, _)]) O 1 dX4_digest_25 (by decide) rfl rfl (by decide) ?_
    refine z_goto O 9 dX4_digest_28 (by decide) ?_
    exact ih
set_option maxRecDepth 20000 in
set_option maxHeartbeats 4000000 in
theorem m_imageB {i : Int32} (hb : ¬ (nI 0 ≤ i ∧ i ≤ nI 1)) : zS G 2 yX4_image cX4_image 2 (some .int) [.ref (zad (zb G) 21), .int i] (yM G c0_ c1_ c2_ c3_ c4_ c5_ c6_ c7_ c8_ c9_ c10_ c11_ c12_ c13_ c14_ c15_ c16_ c17_ c18_ c19_ c20_ w kp tx txl rf ya yb at2 st2 iwd ifg nb fr la nms nd wf hh tl) 0 0 (zE (.int (-2)) (yM G c0_ c1_ c2_ c3_ c4_ c5_ c6_ c7_ c8_ c9_ c10_ c11_ c12_ c13_ c14_ c15_ c16_ c17_ c18_ c19_ c20_ w kp tx txl (updN rf 0 (rf 0 + 1)) ya yb at2 st2 iwd ifg nb fr la nms nd wf hh tl)) := by
  refine zS.of (by decide) (Nat.le_of_ble_eq_true rfl) (fun F O hR1 hR2 => ?_)
  have O : zOk G F yX4_image cX4_image 2 (some .int) RX4 2 (yM G c0_ c1_ c2_ c3_ c4_ c5_ c6_ c7_ c8_ c9_ c10_ c11_ c12_ c13_ c14_ c15_ c16_ c17_ c18_ c19_ c20_ w kp tx txl rf ya yb at2 st2 iwd ifg nb fr la nms nd wf hh tl).length := O
  refine z_eq (lv' := [(0, _), (1, _)]) rfl rfl rfl ?_
  refine z_iload_n O dX4_image_0 rfl ?_
  refine z_i2l O dX4_image_1 ?_
  refine z_lconst O (lN 0) dX4_image_2 (by decide) ?_
  refine z_lconst O (lN 1) dX4_image_3 (by decide) ?_
  refine z_S3e0 O (m_inI (by decide) (by decide)) mX4_in lkX4_45 dX4_image_4 (Nat.le_of_ble_eq_true rfl) (by decide) ?_
  refine z_if_neB O 15 dX4_image_7 (by decide) (fun h7 => by exact absurd h7 hb) (fun h7 => ?_)
  refine z_aload_n O dX4_image_10 rfl ?_
  refine z_V0e0 O m_bad mX4_bad lkX4_65 rfl (by rfl) dX4_image_11 (Nat.le_of_ble_eq_true rfl) (by decide) ?_
  exact z_iret O dX4_image_14 ⟨rfl, rfl⟩
set_option maxRecDepth 20000 in
set_option maxHeartbeats 4000000 in
theorem m_image {i : Nat} (hi : i < 2) : zS G 2 yX4_image cX4_image 2 (some .int) [.ref (zad (zb G) 21), .int (nI i)] (yM G c0_ c1_ c2_ c3_ c4_ c5_ c6_ c7_ c8_ c9_ c10_ c11_ c12_ c13_ c14_ c15_ c16_ c17_ c18_ c19_ c20_ w kp tx txl rf ya yb at2 st2 iwd ifg nb fr la nms nd wf hh tl) 0 0 (zE (.int (nI 1)) (yM G c0_ c1_ c2_ c3_ c4_ c5_ c6_ c7_ c8_ c9_ c10_ c11_ c12_ c13_ c14_ c15_ c16_ c17_ c18_ c19_ c20_ (cpyN w w 0 (1091 * (1 + i)) 1091) (updN kp i 1) tx txl rf ya yb at2 st2 iwd ifg nb fr la nms nd wf hh tl)) := by
  refine zS.of (by decide) (Nat.le_of_ble_eq_true rfl) (fun F O hR1 hR2 => ?_)
  have O : zOk G F yX4_image cX4_image 2 (some .int) RX4 2 (yM G c0_ c1_ c2_ c3_ c4_ c5_ c6_ c7_ c8_ c9_ c10_ c11_ c12_ c13_ c14_ c15_ c16_ c17_ c18_ c19_ c20_ w kp tx txl rf ya yb at2 st2 iwd ifg nb fr la nms nd wf hh tl).length := O
  refine z_eq (lv' := [(0, _), (1, _)]) rfl rfl rfl ?_
  refine z_iload_n O dX4_image_0 rfl ?_
  refine z_i2lN O dX4_image_1 (by omega) ?_
  refine z_lconst O (lN 0) dX4_image_2 (by decide) ?_
  refine z_lconst O (lN 1) dX4_image_3 (by decide) ?_
  refine z_S3e0 O (m_inN (by omega) (by decide) (by decide)) mX4_in lkX4_45 dX4_image_4 (Nat.le_of_ble_eq_true rfl) (by decide) ?_
  refine z_if_neB O 15 dX4_image_7 (by decide) (fun h7 => ?_) (fun h7 => by omega)
  refine z_aload_n O dX4_image_15 rfl ?_
  refine z_iconst O (nI 0) dX4_image_16 (by decide) ?_
  refine z_sipush O (nI 1091) dX4_image_17 (by decide) ?_
  refine z_iconst O (nI 1) dX4_image_20 (by decide) ?_
  refine z_iload_n O dX4_image_21 rfl ?_
  refine z_iaddN O dX4_image_22 ?_
  refine z_imulN O dX4_image_23 ?_
  refine z_sipush O (nI 1091) dX4_image_24 (by decide) ?_
  refine z_V3u0 O (m_copy (by omega) (by omega) (by omega)) mX4_copy lkX4_73 rfl (by rfl) dX4_image_27 (Nat.le_of_ble_eq_true rfl) (by decide) ?_
  refine z_aload_n O dX4_image_30 rfl ?_
  refine z_get O dX4_image_31 flX4_13 (by rfl) (by rfl) ?_
  refine z_iload_n O dX4_image_34 rfl ?_
  refine z_iconst O (nI 1) dX4_image_35 (by decide) ?_
  refine z_zastN O (by rfl) dX4_image_36 (by rfl) (by omega) (by decide) ?_
  refine z_iconst O (nI 1) dX4_image_37 (by decide) ?_
  exact z_iret O dX4_image_38 ⟨rfl, rfl⟩
set_option maxRecDepth 20000 in
set_option maxHeartbeats 4000000 in
theorem m_fromB {i : Int32} (hb : ¬ (nI 0 ≤ i ∧ i ≤ nI 1)) : zS G 2 yX4_from cX4_from 2 (some .int) [.ref (zad (zb G) 21), .int i] (yM G c0_ c1_ c2_ c3_ c4_ c5_ c6_ c7_ c8_ c9_ c10_ c11_ c12_ c13_ c14_ c15_ c16_ c17_ c18_ c19_ c20_ w kp tx txl rf ya yb at2 st2 iwd ifg nb fr la nms nd wf hh tl) 0 0 (zE (.int (-2)) (yM G c0_ c1_ c2_ c3_ c4_ c5_ c6_ c7_ c8_ c9_ c10_ c11_ c12_ c13_ c14_ c15_ c16_ c17_ c18_ c19_ c20_ w kp tx txl (updN rf 0 (rf 0 + 1)) ya yb at2 st2 iwd ifg nb fr la nms nd wf hh tl)) := by
  refine zS.of (by decide) (Nat.le_of_ble_eq_true rfl) (fun F O hR1 hR2 => ?_)
  have O : zOk G F yX4_from cX4_from 2 (some .int) RX4 2 (yM G c0_ c1_ c2_ c3_ c4_ c5_ c6_ c7_ c8_ c9_ c10_ c11_ c12_ c13_ c14_ c15_ c16_ c17_ c18_ c19_ c20_ w kp tx txl rf ya yb at2 st2 iwd ifg nb fr la nms nd wf hh tl).length := O
  refine z_eq (lv' := [(0, _), (1, _)]) rfl rfl rfl ?_
  refine z_iload_n O dX4_from_0 rfl ?_
  refine z_i2l O dX4_from_1 ?_
  refine z_lconst O (lN 0) dX4_from_2 (by decide) ?_
  refine z_lconst O (lN 1) dX4_from_3 (by decide) ?_
  refine z_S3e0 O (m_inI (by decide) (by decide)) mX4_in lkX4_45 dX4_from_4 (Nat.le_of_ble_eq_true rfl) (by decide) ?_
  refine z_if_neB O 15 dX4_from_7 (by decide) (fun h7 => by exact absurd h7 hb) (fun h7 => ?_)
  refine z_aload_n O dX4_from_10 rfl ?_
  refine z_V0e0 O m_bad mX4_bad lkX4_65 rfl (by rfl) dX4_from_11 (Nat.le_of_ble_eq_true rfl) (by decide) ?_
  exact z_iret O dX4_from_14 ⟨rfl, rfl⟩
set_option maxRecDepth 20000 in
set_option maxHeartbeats 4000000 in
theorem m_fromN {i : Nat} (hi : i < 2) (h0 : kp i = 0) : zS G 2 yX4_from cX4_from 2 (some .int) [.ref (zad (zb G) 21), .int (nI i)] (yM G c0_ c1_ c2_ c3_ c4_ c5_ c6_ c7_ c8_ c9_ c10_ c11_ c12_ c13_ c14_ c15_ c16_ c17_ c18_ c19_ c20_ w kp tx txl rf ya yb at2 st2 iwd ifg nb fr la nms nd wf hh tl) 0 0 (zE (.int (-3)) (yM G c0_ c1_ c2_ c3_ c4_ c5_ c6_ c7_ c8_ c9_ c10_ c11_ c12_ c13_ c14_ c15_ c16_ c17_ c18_ c19_ c20_ w kp tx txl (updN rf 1 (rf 1 + 1)) ya yb at2 st2 iwd ifg nb fr la nms nd wf hh tl)) := by
  refine zS.of (by decide) (Nat.le_of_ble_eq_true rfl) (fun F O hR1 hR2 => ?_)
  have O : zOk G F yX4_from cX4_from 2 (some .int) RX4 2 (yM G c0_ c1_ c2_ c3_ c4_ c5_ c6_ c7_ c8_ c9_ c10_ c11_ c12_ c13_ c14_ c15_ c16_ c17_ c18_ c19_ c20_ w kp tx txl rf ya yb at2 st2 iwd ifg nb fr la nms nd wf hh tl).length := O
  refine z_eq (lv' := [(0, _), (1, _)]) rfl rfl rfl ?_
  refine z_iload_n O dX4_from_0 rfl ?_
  refine z_i2lN O dX4_from_1 (by omega) ?_
  refine z_lconst O (lN 0) dX4_from_2 (by decide) ?_
  refine z_lconst O (lN 1) dX4_from_3 (by decide) ?_
  refine z_S3e0 O (m_inN (by omega) (by decide) (by decide)) mX4_in lkX4_45 dX4_from_4 (Nat.le_of_ble_eq_true rfl) (by decide) ?_
  refine z_if_neB O 15 dX4_from_7 (by decide) (fun h7 => ?_) (fun h7 => by omega)
  refine z_aload_n O dX4_from_15 rfl ?_
  refine z_get O dX4_from_16 flX4_13 (by rfl) (by rfl) ?_
  refine z_iload_n O dX4_from_19 rfl ?_
  refine z_zaldN O dX4_from_20 (by rfl) (by omega) (by decide) ?_
  refine z_if_neN O 29 dX4_from_21 (by decide) (by omega) (fun h21 => by omega) (fun h21 => ?_)
  refine z_aload_n O dX4_from_24 rfl ?_
  refine z_V0e0 O m_no mX4_no lkX4_91 rfl (by rfl) dX4_from_25 (Nat.le_of_ble_eq_true rfl) (by decide) ?_
  exact z_iret O dX4_from_28 ⟨rfl, rfl⟩
set_option maxRecDepth 20000 in
set_option maxHeartbeats 4000000 in
theorem m_from {i : Nat} (hi : i < 2) (h0 : kp i = 1) : zS G 2 yX4_from cX4_from 2 (some .int) [.ref (zad (zb G) 21), .int (nI i)] (yM G c0_ c1_ c2_ c3_ c4_ c5_ c6_ c7_ c8_ c9_ c10_ c11_ c12_ c13_ c14_ c15_ c16_ c17_ c18_ c19_ c20_ w kp tx txl rf ya yb at2 st2 iwd ifg nb fr la nms nd wf hh tl) 0 0 (zE (.int (nI 1)) (yM G c0_ c1_ c2_ c3_ c4_ c5_ c6_ c7_ c8_ c9_ c10_ c11_ c12_ c13_ c14_ c15_ c16_ c17_ c18_ c19_ c20_ (cpyN w w (1091 * (1 + i)) 0 1091) kp tx txl rf ya yb at2 st2 iwd ifg nb fr la nms nd wf hh tl)) := by
  refine zS.of (by decide) (Nat.le_of_ble_eq_true rfl) (fun F O hR1 hR2 => ?_)
  have O : zOk G F yX4_from cX4_from 2 (some .int) RX4 2 (yM G c0_ c1_ c2_ c3_ c4_ c5_ c6_ c7_ c8_ c9_ c10_ c11_ c12_ c13_ c14_ c15_ c16_ c17_ c18_ c19_ c20_ w kp tx txl rf ya yb at2 st2 iwd ifg nb fr la nms nd wf hh tl).length := O
  refine z_eq (lv' := [(0, _), (1, _)]) rfl rfl rfl ?_
  refine z_iload_n O dX4_from_0 rfl ?_
  refine z_i2lN O dX4_from_1 (by omega) ?_
  refine z_lconst O (lN 0) dX4_from_2 (by decide) ?_
  refine z_lconst O (lN 1) dX4_from_3 (by decide) ?_
  refine z_S3e0 O (m_inN (by omega) (by decide) (by decide)) mX4_in lkX4_45 dX4_from_4 (Nat.le_of_ble_eq_true rfl) (by decide) ?_
  refine z_if_neB O 15 dX4_from_7 (by decide) (fun h7 => ?_) (fun h7 => by omega)
  refine z_aload_n O dX4_from_15 rfl ?_
  refine z_get O dX4_from_16 flX4_13 (by rfl) (by rfl) ?_
  refine z_iload_n O dX4_from_19 rfl ?_
  refine z_zaldN O dX4_from_20 (by rfl) (by omega) (by decide) ?_
  refine z_if_neN O 29 dX4_from_21 (by decide) (by omega) (fun h21 => ?_) (fun h21 => by omega)
  refine z_aload_n O dX4_from_29 rfl ?_
  refine z_sipush O (nI 1091) dX4_from_30 (by decide) ?_
  refine z_iconst O (nI 1) dX4_from_33 (by decide) ?_
  refine z_iload_n O dX4_from_34 rfl ?_
  refine z_iaddN O dX4_from_35 ?_
  refine z_imulN O dX4_from_36 ?_
  refine z_iconst O (nI 0) dX4_from_37 (by decide) ?_
  refine z_sipush O (nI 1091) dX4_from_38 (by decide) ?_
  refine z_V3u0 O (m_copy (by omega) (by omega) (by omega)) mX4_copy lkX4_73 rfl (by rfl) dX4_from_41 (Nat.le_of_ble_eq_true rfl) (by decide) ?_
  refine z_iconst O (nI 1) dX4_from_44 (by decide) ?_
  exact z_iret O dX4_from_45 ⟨rfl, rfl⟩
end YS
