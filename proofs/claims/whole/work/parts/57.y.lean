/-! ===== the reference: items, read ===== -/
/-- the reference's reading: n items, the first that is refused */ -/
def rdI (t : Nat → Nat) (len : Nat) (s : (Nat → Nat) × (Nat → Nat)) (n : Nat) (w : Nat → Nat) (fr : Int32) : Prop :=
  (fr = -1 ∧ (∀ k, k < n → okS t len s k = true) ∧ (0 < n → RW w 3420 (tlS t len s n).2 (tlS t len s n).1 ∧ ∀ j, 127 ≤ j → j < 147 → w (3420 + j) = 0)) ∨ (∃ i, i < n ∧ fr = nI i ∧ (∀ k, k < i → okS t len s k = true) ∧ okS t len s i = false)
def smR (w w' : Nat → Nat) : Prop := ∀ j, j < 3420 → w' j = w j
theorem it_ge {t : Nat → Nat} {len n p : Nat} (h : itF t len n p = none) : p + 6 ≤ itE t len p := by
  obtain ⟨h1, h2, h3, h4⟩ := it_none h
  have hto := tO_1 h1
  have hs0 : p ≤ tS t len p := rn_ge _ _ _
  have hsp : spB t (tS t len p) (tE t len p) (wdT t len p) = true := by
    have hq : ∀ k w, wdP t (tS t len p) (tE t len p) k = some w → spB t (tS t len p) (tE t len p) w = true := by
      intro k
      induction k with
      | zero => intro w h; cases h
      | succ k ih =>
        intro w h
        unfold wdP at h
        split at h
        · rename_i hh; cases h; exact hh
        · exact ih w h
    exact hq 3 _ hto.2.2.2.2
  have he := (sp_0 hsp).1
  have hwn := (wn_ok _ hto.2.1).2
  have grow : ∀ q, tO t len q = 2 → q + 1 ≤ tE t len q := fun q hq => by
    have h5 := tO_2 hq
    have h6 : q ≤ tS t len q := rn_ge _ _ _
    have h7 := h5.2.2.2.2.2.2
    have h8 := tE_ge t len q
    by_cases e : tE t len q = tS t len q
    · have h9 := rn_end (FGb t) len (tS t len q)
      rw [← h7, e] at h9
      exact absurd ⟨h5.2.2.1, h5.2.2.2.1⟩ h9
    · omega
  have gq : ∀ j, j ≤ wnN (wdT t len p) → tE t len p + j ≤ qN t len (tE t len p) j := by
    intro j
    induction j with
    | zero => intro _; exact Nat.le_refl _
    | succ j ih =>
      intro hj
      have h5 := ih (by omega)
      have h6 := grow _ (h3 j (by omega))
      show _ ≤ tE t len (qN t len (tE t len p) j)
      omega
  have h5 := gq _ (Nat.le_refl _)
  have h6 := tO_3.mp h4
  have h7 : qN t len (tE t len p) (wnN (wdT t len p)) ≤ tS t len (qN t len (tE t len p) (wnN (wdT t len p))) := rn_ge _ _ _
  have h8 : tE t len (qN t len (tE t len p) (wnN (wdT t len p))) = tS t len (qN t len (tE t len p) (wnN (wdT t len p))) + 1 := by
    unfold tE
    have a : ¬ LTb t (tS t len (qN t len (tE t len p) (wnN (wdT t len p)))) = true := fun q => by have := of_decide_eq_true q; omega
    have b : ¬ FGb t (tS t len (qN t len (tE t len p) (wnN (wdT t len p)))) = true := fun q => by have := of_decide_eq_true q; omega
    unfold tE at a b h6
    rw [if_pos h6.1, if_neg a, if_neg b]
  show _ ≤ tE t len (qN t len (tE t len p) (wnN (wdT t len p)))
  omega
theorem iQ_ge {t : Nat → Nat} {len : Nat} : ∀ n, ITM t len n → 6 * n ≤ iQ t len n
  | 0, _ => Nat.le_refl _
  | n + 1, h => by
    have h1 := iQ_ge n (fun k hk => h k (by omega))
    have h2 := it_ge (h n (by omega))
    show _ ≤ itE t len (iQ t len n)
    omega
theorem rdI_rf {t : Nat → Nat} {len n : Nat} {s : (Nat → Nat) × (Nat → Nat)} {w : Nat → Nat} {fr : Int32} (h : rdI t len s n w fr) : (fr = -1 ∧ rfS t len s n = none) ∨ ∃ i, i < n ∧ fr = nI i ∧ rfS t len s n = some i := by
  have key : ∀ d m, (∀ k, m ≤ k → k < m + d → okS t len s k = true) → firstN (fun i => !okS t len s i) d m = none := by
    intro d
    induction d with
    | zero => intro m _; rfl
    | succ d ih =>
      intro m hm
      unfold firstN
      rw [if_neg (by rw [hm m (by omega) (by omega)]; decide)]
      exact ih (m + 1) (fun k a b => hm k (by omega) (by omega))
  have key2 : ∀ d m i, m ≤ i → i < m + d → (∀ k, m ≤ k → k < i → okS t len s k = true) → okS t len s i = false → firstN (fun i => !okS t len s i) d m = some i := by
    intro d
    induction d with
    | zero => intro m i a b; omega
    | succ d ih =>
      intro m i a b hk hi
      unfold firstN
      by_cases e : m = i
      · subst e
        rw [if_pos (by rw [hi]; rfl)]
      · rw [if_neg (by rw [hk m (by omega) (by omega)]; decide)]
        exact ih (m + 1) i (by omega) (by omega) (fun k a b => hk k (by omega) b) hi
  rcases h with ⟨h1, h2, -⟩ | ⟨i, h1, h2, h3, h4⟩
  · exact Or.inl ⟨h1, key n 0 (fun k _ hk => h2 k (by omega))⟩
  · exact Or.inr ⟨i, h1, h2, key2 n 0 i (Nat.zero_le _) (by omega) (fun k _ hk => h3 k hk) h4⟩
section YS
variable {G : zG} {c0_ c1_ c2_ c3_ c4_ c5_ c6_ c7_ c8_ c9_ c10_ c11_ c12_ c13_ c14_ c15_ c16_ c17_ c18_ c19_ c20_ : va_E} {w kp tx : Nat → Nat} {txl : Nat} {rf : Nat → Nat} {ya yb : Int64} {at2 st2 : Nat} {iwd ifg : Int32} {nb : Nat → Nat} {fr : Int32} {la nms : Nat → Nat} {nd : Nat} {wf : Nat → Nat} {hh : Int64} {tl : List va_E}
set_option maxRecDepth 20000 in
set_option maxHeartbeats 4000000 in
theorem m_tells0 {a : Nat} (ha : nb 0 = a) : zS G 4 yX4_tellsItem cX4_tellsItem 3 (some .boolean) [.ref (zad (zb G) 21), .int (nI 0)] (yM G c0_ c1_ c2_ c3_ c4_ c5_ c6_ c7_ c8_ c9_ c10_ c11_ c12_ c13_ c14_ c15_ c16_ c17_ c18_ c19_ c20_ w kp tx txl rf ya yb at2 st2 iwd ifg nb fr la nms nd wf hh tl) 0 0 (zE (.int (nI 1)) (yM G c0_ c1_ c2_ c3_ c4_ c5_ c6_ c7_ c8_ c9_ c10_ c11_ c12_ c13_ c14_ c15_ c16_ c17_ c18_ c19_ c20_ (begW w 3420 a) kp tx txl rf ya yb at2 st2 iwd ifg nb fr la nms nd wf hh tl)) := by
  refine zS.of (by decide) (Nat.le_of_ble_eq_true rfl) (fun F O hR1 hR2 => ?_)
  have O : zOk G F yX4_tellsItem cX4_tellsItem 3 (some .boolean) RX4 4 (yM G c0_ c1_ c2_ c3_ c4_ c5_ c6_ c7_ c8_ c9_ c10_ c11_ c12_ c13_ c14_ c15_ c16_ c17_ c18_ c19_ c20_ w kp tx txl rf ya yb at2 st2 iwd ifg nb fr la nms nd wf hh tl).length := O
  refine z_eq (lv' := [(0, _), (1, _)]) rfl rfl rfl ?_
  refine z_iload_n O dX4_tellsItem_0 rfl ?_
  refine z_if_neN O 19 dX4_tellsItem_1 (by decide) (by omega) (fun h1 => by omega) (fun h1 => ?_)
  refine z_aload_n O dX4_tellsItem_4 rfl ?_
  refine z_sipush O (nI 3420) dX4_tellsItem_5 (by decide) ?_
  refine z_aload_n O dX4_tellsItem_8 rfl ?_
  refine z_get O dX4_tellsItem_9 flX4_27 (by rfl) (by rfl) ?_
  refine z_iconst O (nI 0) dX4_tellsItem_12 (by decide) ?_
  refine z_ialdN O dX4_tellsItem_13 (by rfl) (by omega) (by decide) ?_
  refine z_top (v' := .int (nI a)) (congrArg Value.int (congrArg nI ha)) ?_
  refine z_V2u0 O (m_begins (by decide)) mX4_begins lkX4_39 rfl (by rfl) dX4_tellsItem_14 (Nat.le_of_ble_eq_true rfl) (by decide) ?_
  refine z_iconst O (nI 1) dX4_tellsItem_17 (by decide) ?_
  exact z_zret O dX4_tellsItem_18 rfl ⟨rfl, rfl⟩
set_option maxRecDepth 20000 in
set_option maxHeartbeats 4000000 in
theorem m_tells1 {a b : Nat} (ha : nb 0 = a) (hb : nb 1 = b) (hk : a < 9 ∧ b ≤ 5) : zS G 4 yX4_tellsItem cX4_tellsItem 3 (some .boolean) [.ref (zad (zb G) 21), .int (nI 1)] (yM G c0_ c1_ c2_ c3_ c4_ c5_ c6_ c7_ c8_ c9_ c10_ c11_ c12_ c13_ c14_ c15_ c16_ c17_ c18_ c19_ c20_ w kp tx txl rf ya yb at2 st2 iwd ifg nb fr la nms nd wf hh tl) 0 0 (zE (.int (nI 1)) (yM G c0_ c1_ c2_ c3_ c4_ c5_ c6_ c7_ c8_ c9_ c10_ c11_ c12_ c13_ c14_ c15_ c16_ c17_ c18_ c19_ c20_ (updN w (3538 + a) b) kp tx txl rf ya yb at2 st2 iwd ifg nb fr la nms nd wf hh tl)) := by
  refine zS.of (by decide) (Nat.le_of_ble_eq_true rfl) (fun F O hR1 hR2 => ?_)
  have O : zOk G F yX4_tellsItem cX4_tellsItem 3 (some .boolean) RX4 4 (yM G c0_ c1_ c2_ c3_ c4_ c5_ c6_ c7_ c8_ c9_ c10_ c11_ c12_ c13_ c14_ c15_ c16_ c17_ c18_ c19_ c20_ w kp tx txl rf ya yb at2 st2 iwd ifg nb fr la nms nd wf hh tl).length := O
  refine z_eq (lv' := [(0, _), (1, _)]) rfl rfl rfl ?_
  refine z_iload_n O dX4_tellsItem_0 rfl ?_
  refine z_if_neN O 19 dX4_tellsItem_1 (by decide) (by omega) (fun h1 => ?_) (fun h1 => by omega)
  refine z_iload_n O dX4_tellsItem_19 rfl ?_
  refine z_iconst O (nI 1) dX4_tellsItem_20 (by decide) ?_
  refine z_icmp_neN O 91 dX4_tellsItem_21 (by decide) (by omega) (by omega) (fun h21 => by omega) (fun h21 => ?_)
  refine z_aload_n O dX4_tellsItem_24 rfl ?_
  refine z_get O dX4_tellsItem_25 flX4_27 (by rfl) (by rfl) ?_
  refine z_iconst O (nI 0) dX4_tellsItem_28 (by decide) ?_
  refine z_ialdN O dX4_tellsItem_29 (by rfl) (by omega) (by decide) ?_
  refine z_top (v' := .int (nI a)) (congrArg Value.int (congrArg nI ha)) ?_
  refine z_S1e0 O (m_isCellN (by omega)) mX4_isCell lkX4_49 dX4_tellsItem_30 (Nat.le_of_ble_eq_true rfl) (by decide) ?_
  refine z_if_eqB O 50 dX4_tellsItem_33 (by decide) (fun h33 => by omega) (fun h33 => ?_)
  refine z_aload_n O dX4_tellsItem_36 rfl ?_
  refine z_get O dX4_tellsItem_37 flX4_27 (by rfl) (by rfl) ?_
  refine z_iconst O (nI 1) dX4_tellsItem_40 (by decide) ?_
  refine z_ialdN O dX4_tellsItem_41 (by rfl) (by omega) (by decide) ?_
  refine z_top (v' := .int (nI b)) (congrArg Value.int (congrArg nI hb)) ?_
  refine z_iconst O (nI 5) dX4_tellsItem_42 (by decide) ?_
  refine z_icmp_gtN O 50 dX4_tellsItem_43 (by decide) (by omega) (by omega) (fun h43 => by omega) (fun h43 => ?_)
  refine z_iconst O (nI 1) dX4_tellsItem_46 (by decide) ?_
  refine z_goto O 51 dX4_tellsItem_47 (by decide) ?_
  refine z_istore_n (lv' := [(0, _), (1, _), (2, _)]) O dX4_tellsItem_51 (by decide) rfl ?_
  refine z_aload_n O dX4_tellsItem_52 rfl ?_
  refine z_get O dX4_tellsItem_53 flX4_7 (by rfl) (by rfl) ?_
  refine z_sipush O (nI 3538) dX4_tellsItem_56 (by decide) ?_
  refine z_iload_n O dX4_tellsItem_59 rfl ?_
  refine z_if_eqN O 72 dX4_tellsItem_60 (by decide) (by omega) (fun h60 => by omega) (fun h60 => ?_)
  refine z_aload_n O dX4_tellsItem_63 rfl ?_
  refine z_get O dX4_tellsItem_64 flX4_27 (by rfl) (by rfl) ?_
  refine z_iconst O (nI 0) dX4_tellsItem_67 (by decide) ?_
  refine z_ialdN O dX4_tellsItem_68 (by rfl) (by omega) (by decide) ?_
  refine z_top (v' := .int (nI a)) (congrArg Value.int (congrArg nI ha)) ?_
  refine z_goto O 73 dX4_tellsItem_69 (by decide) ?_
  refine z_iaddN O dX4_tellsItem_73 ?_
  refine z_iload_n O dX4_tellsItem_74 rfl ?_
  refine z_if_eqN O 87 dX4_tellsItem_75 (by decide) (by omega) (fun h75 => by omega) (fun h75 => ?_)
  refine z_aload_n O dX4_tellsItem_78 rfl ?_
  refine z_get O dX4_tellsItem_79 flX4_27 (by rfl) (by rfl) ?_
  refine z_iconst O (nI 1) dX4_tellsItem_82 (by decide) ?_
  refine z_ialdN O dX4_tellsItem_83 (by rfl) (by omega) (by decide) ?_
  refine z_top (v' := .int (nI b)) (congrArg Value.int (congrArg nI hb)) ?_
  refine z_goto O 88 dX4_tellsItem_84 (by decide) ?_
  refine z_iastN O (by rfl) dX4_tellsItem_88 (by rfl) (by omega) (by decide) ?_
  refine z_iload_n O dX4_tellsItem_89 rfl ?_
  exact z_zret O dX4_tellsItem_90 rfl ⟨rfl, rfl⟩
set_option maxRecDepth 20000 in
set_option maxHeartbeats 4000000 in
theorem m_tells1N {a b : Nat} (ha : nb 0 = a) (hb : nb 1 = b) (ha1 : a < 100) (hb1 : b < 100) (hk : ¬ (a < 9 ∧ b ≤ 5)) : zS G 4 yX4_tellsItem cX4_tellsItem 3 (some .boolean) [.ref (zad (zb G) 21), .int (nI 1)] (yM G c0_ c1_ c2_ c3_ c4_ c5_ c6_ c7_ c8_ c9_ c10_ c11_ c12_ c13_ c14_ c15_ c16_ c17_ c18_ c19_ c20_ w kp tx txl rf ya yb at2 st2 iwd ifg nb fr la nms nd wf hh tl) 0 0 (zE (.int (nI 0)) (yM G c0_ c1_ c2_ c3_ c4_ c5_ c6_ c7_ c8_ c9_ c10_ c11_ c12_ c13_ c14_ c15_ c16_ c17_ c18_ c19_ c20_ (updN w (3538 + 0) 1) kp tx txl rf ya yb at2 st2 iwd ifg nb fr la nms nd wf hh tl)) := by
  refine zS.of (by decide) (Nat.le_of_ble_eq_true rfl) (fun F O hR1 hR2 => ?_)
  have O : zOk G F yX4_tellsItem cX4_tellsItem 3 (some .boolean) RX4 4 (yM G c0_ c1_ c2_ c3_ c4_ c5_ c6_ c7_ c8_ c9_ c10_ c11_ c12_ c13_ c14_ c15_ c16_ c17_ c18_ c19_ c20_ w kp tx txl rf ya yb at2 st2 iwd ifg nb fr la nms nd wf hh tl).length := O
  refine z_eq (lv' := [(0, _), (1, _)]) rfl rfl rfl ?_
  refine z_iload_n O dX4_tellsItem_0 rfl ?_
  refine z_if_neN O 19 dX4_tellsItem_1 (by decide) (by omega) (fun h1 => ?_) (fun h1 => by omega)
  refine z_iload_n O dX4_tellsItem_19 rfl ?_
  refine z_iconst O (nI 1) dX4_tellsItem_20 (by decide) ?_
  refine z_icmp_neN O 91 dX4_tellsItem_21 (by decide) (by omega) (by omega) (fun h21 => by omega) (fun h21 => ?_)
  refine z_aload_n O dX4_tellsItem_24 rfl ?_
  refine z_get O dX4_tellsItem_25 flX4_27 (by rfl) (by rfl) ?_
  refine z_iconst O (nI 0) dX4_tellsItem_28 (by decide) ?_
  refine z_ialdN O dX4_tellsItem_29 (by rfl) (by omega) (by decide) ?_
  refine z_top (v' := .int (nI a)) (congrArg Value.int (congrArg nI ha)) ?_
  refine z_S1e0 O (m_isCellN (by omega)) mX4_isCell lkX4_49 dX4_tellsItem_30 (Nat.le_of_ble_eq_true rfl) (by decide) ?_
  refine z_if_eqB O 50 dX4_tellsItem_33 (by decide) (fun h33 => ?_) (fun h33 => ?_)
  · refine z_iconst O (nI 0) dX4_tellsItem_50 (by decide) ?_
    refine z_istore_n (lv' := [(0, _), (1, _), (2, _)]) O dX4_tellsItem_51 (by decide) rfl ?_
    refine z_aload_n O dX4_tellsItem_52 rfl ?_
    refine z_get O dX4_tellsItem_53 flX4_7 (by rfl) (by rfl) ?_
    refine z_sipush O (nI 3538) dX4_tellsItem_56 (by decide) ?_
    refine z_iload_n O dX4_tellsItem_59 rfl ?_
    refine z_if_eqN O 72 dX4_tellsItem_60 (by decide) (by omega) (fun h60 => ?_) (fun h60 => by omega)
    refine z_iconst O (nI 0) dX4_tellsItem_72 (by decide) ?_
    refine z_iaddN O dX4_tellsItem_73 ?_
    refine z_iload_n O dX4_tellsItem_74 rfl ?_
    refine z_if_eqN O 87 dX4_tellsItem_75 (by decide) (by omega) (fun h75 => ?_) (fun h75 => by omega)
    refine z_iconst O (nI 1) dX4_tellsItem_87 (by decide) ?_
    refine z_iastN O (by rfl) dX4_tellsItem_88 (by rfl) (by omega) (by decide) ?_
    refine z_iload_n O dX4_tellsItem_89 rfl ?_
    exact z_zret O dX4_tellsItem_90 rfl ⟨rfl, rfl⟩
  · refine z_aload_n O dX4_tellsItem_36 rfl ?_
    refine z_get O dX4_tellsItem_37 flX4_27 (by rfl) (by rfl) ?_
    refine z_iconst O (nI 1) dX4_tellsItem_40 (by decide) ?_
    refine z_ialdN O dX4_tellsItem_41 (by rfl) (by omega) (by decide) ?_
    refine z_top (v' := .int (nI b)) (congrArg Value.int (congrArg nI hb)) ?_
    refine z_iconst O (nI 5) dX4_tellsItem_42 (by decide) ?_
    refine z_icmp_gtN O 50 dX4_tellsItem_43 (by decide) (by omega) (by omega) (fun h43 => ?_) (fun h43 => by exact absurd ⟨by omega, by omega⟩ hk)
    refine z_iconst O (nI 0) dX4_tellsItem_50 (by decide) ?_
    refine z_istore_n (lv' := [(0, _), (1, _), (2, _)]) O dX4_tellsItem_51 (by decide) rfl ?_
    refine z_aload_n O dX4_tellsItem_52 rfl ?_
    refine z_get O dX4_tellsItem_53 flX4_7 (by rfl) (by rfl) ?_
    refine z_sipush O (nI 3538) dX4_tellsItem_56 (by decide) ?_
    refine z_iload_n O dX4_tellsItem_59 rfl ?_
    refine z_if_eqN O 72 dX4_tellsItem_60 (by decide) (by omega) (fun h60 => ?_) (fun h60 => by omega)
    refine z_iconst O (nI 0) dX4_tellsItem_72 (by decide) ?_
    refine z_iaddN O dX4_tellsItem_73 ?_
    refine z_iload_n O dX4_tellsItem_74 rfl ?_
    refine z_if_eqN O 87 dX4_tellsItem_75 (by decide) (by omega) (fun h75 => ?_) (fun h75 => by omega)
    refine z_iconst O (nI 1) dX4_tellsItem_87 (by decide) ?_
    refine z_iastN O (by rfl) dX4_tellsItem_88 (by rfl) (by omega) (by decide) ?_
    refine z_iload_n O dX4_tellsItem_89 rfl ?_
    exact z_zret O dX4_tellsItem_90 rfl ⟨rfl, rfl⟩
set_option maxRecDepth 20000 in
set_option maxHeartbeats 4000000 in
theorem m_tells2 {a b c d : Nat} {r we : Nat → Nat} (ha : nb 0 = a) (hb : nb 1 = b) (hc : nb 2 = c) (hd : nb 3 = d) (h : RW w 3420 r we) (hr : rowOK r) (hk : a < 9 ∧ b < 6 ∧ c < 3 ∧ 1 ≤ d ∧ d ≤ 30 ∧ r (108 + a) < 3) : zS G 4 yX4_tellsItem cX4_tellsItem 3 (some .boolean) [.ref (zad (zb G) 21), .int (nI 2)] (yM G c0_ c1_ c2_ c3_ c4_ c5_ c6_ c7_ c8_ c9_ c10_ c11_ c12_ c13_ c14_ c15_ c16_ c17_ c18_ c19_ c20_ w kp tx txl rf ya yb at2 st2 iwd ifg nb fr la nms nd wf hh tl) 0 0 (zE (.int (nI 1)) (yM G c0_ c1_ c2_ c3_ c4_ c5_ c6_ c7_ c8_ c9_ c10_ c11_ c12_ c13_ c14_ c15_ c16_ c17_ c18_ c19_ c20_ (putW w 3420 a (r (108 + a)) b c d (r 117)) kp tx txl rf ya yb at2 st2 iwd ifg nb fr la nms nd wf hh tl)) := by
  refine zS.of (by decide) (Nat.le_of_ble_eq_true rfl) (fun F O hR1 hR2 => ?_)
  have O : zOk G F yX4_tellsItem cX4_tellsItem 3 (some .boolean) RX4 4 (yM G c0_ c1_ c2_ c3_ c4_ c5_ c6_ c7_ c8_ c9_ c10_ c11_ c12_ c13_ c14_ c15_ c16_ c17_ c18_ c19_ c20_ w kp tx txl rf ya yb at2 st2 iwd ifg nb fr la nms nd wf hh tl).length := O
  refine z_eq (lv' := [(0, _), (1, _)]) rfl rfl rfl ?_
  refine z_iload_n O dX4_tellsItem_0 rfl ?_
  refine z_if_neN O 19 dX4_tellsItem_1 (by decide) (by omega) (fun h1 => ?_) (fun h1 => by omega)
  refine z_iload_n O dX4_tellsItem_19 rfl ?_
  refine z_iconst O (nI 1) dX4_tellsItem_20 (by decide) ?_
  refine z_icmp_neN O 91 dX4_tellsItem_21 (by decide) (by omega) (by omega) (fun h21 => ?_) (fun h21 => by omega)
  refine z_aload_n O dX4_tellsItem_91 rfl ?_
  refine z_get O dX4_tellsItem_92 flX4_27 (by rfl) (by rfl) ?_
  refine z_iconst O (nI 0) dX4_tellsItem_95 (by decide) ?_
  refine z_ialdN O dX4_tellsItem_96 (by rfl) (by omega) (by decide) ?_
  refine z_top (v' := .int (nI a)) (congrArg Value.int (congrArg nI ha)) ?_
  refine z_aload_n O dX4_tellsItem_97 rfl ?_
  refine z_get O dX4_tellsItem_98 flX4_27 (by rfl) (by rfl) ?_
  refine z_iconst O (nI 1) dX4_tellsItem_101 (by decide) ?_
  refine z_ialdN O dX4_tellsItem_102 (by rfl) (by omega) (by decide) ?_
  refine z_top (v' := .int (nI b)) (congrArg Value.int (congrArg nI hb)) ?_
  refine z_aload_n O dX4_tellsItem_103 rfl ?_
  refine z_get O dX4_tellsItem_104 flX4_27 (by rfl) (by rfl) ?_
  refine z_iconst O (nI 2) dX4_tellsItem_107 (by decide) ?_
  refine z_ialdN O dX4_tellsItem_108 (by rfl) (by omega) (by decide) ?_
  refine z_top (v' := .int (nI c)) (congrArg Value.int (congrArg nI hc)) ?_
  refine z_aload_n O dX4_tellsItem_109 rfl ?_
  refine z_get O dX4_tellsItem_110 flX4_27 (by rfl) (by rfl) ?_
  refine z_iconst O (nI 3) dX4_tellsItem_113 (by decide) ?_
  refine z_ialdN O dX4_tellsItem_114 (by rfl) (by omega) (by decide) ?_
  refine z_top (v' := .int (nI d)) (congrArg Value.int (congrArg nI hd)) ?_
  refine z_S4e0 O (m_isDarnN (by omega) (by omega) (by omega) (by omega)) mX4_isDarn lkX4_77 dX4_tellsItem_115 (Nat.le_of_ble_eq_true rfl) (by decide) ?_
  refine z_if_eqB O 144 dX4_tellsItem_118 (by decide) (fun h118 => by exact absurd ⟨by omega, by omega, by omega, by omega, by omega⟩ h118) (fun h118 => ?_)
  refine z_aload_n O dX4_tellsItem_121 rfl ?_
  refine z_get O dX4_tellsItem_122 flX4_7 (by rfl) (by rfl) ?_
  refine z_sipush O (nI 3421) dX4_tellsItem_125 (by decide) ?_
  refine z_aload_n O dX4_tellsItem_128 rfl ?_
  refine z_get O dX4_tellsItem_129 flX4_27 (by rfl) (by rfl) ?_
  refine z_iconst O (nI 0) dX4_tellsItem_132 (by decide) ?_
  refine z_ialdN O dX4_tellsItem_133 (by rfl) (by omega) (by decide) ?_
  refine z_top (v' := .int (nI a)) (congrArg Value.int (congrArg nI ha)) ?_
  refine z_iaddN O dX4_tellsItem_134 ?_
  refine z_ialdN O dX4_tellsItem_135 (by rfl) (by omega) (by decide) ?_
  refine z_top (v' := .int (nI (r (108 + a)))) (congrArg Value.int (congrArg nI (by have q := h.1.2.1 a hk.1; rw [show 3421 + a = 3420 + 1 + a by omega]; exact q))) ?_
  refine z_iconst O (nI 3) dX4_tellsItem_136 (by decide) ?_
  refine z_icmp_geN O 144 dX4_tellsItem_137 (by decide) (by omega) (by omega) (fun h137 => by omega) (fun h137 => ?_)
  refine z_iconst O (nI 1) dX4_tellsItem_140 (by decide) ?_
  refine z_goto O 145 dX4_tellsItem_141 (by decide) ?_
  refine z_istore_n (lv' := [(0, _), (1, _), (2, _)]) O dX4_tellsItem_145 (by decide) rfl ?_
  refine z_iload_n O dX4_tellsItem_146 rfl ?_
  refine z_if_eqN O 181 dX4_tellsItem_147 (by decide) (by omega) (fun h147 => by omega) (fun h147 => ?_)
  refine z_aload_n O dX4_tellsItem_150 rfl ?_
  refine z_sipush O (nI 3420) dX4_tellsItem_151 (by decide) ?_
  refine z_aload_n O dX4_tellsItem_154 rfl ?_
  refine z_get O dX4_tellsItem_155 flX4_27 (by rfl) (by rfl) ?_
  refine z_iconst O (nI 0) dX4_tellsItem_158 (by decide) ?_
  refine z_ialdN O dX4_tellsItem_159 (by rfl) (by omega) (by decide) ?_
  refine z_top (v' := .int (nI a)) (congrArg Value.int (congrArg nI ha)) ?_
  refine z_aload_n O dX4_tellsItem_160 rfl ?_
  refine z_get O dX4_tellsItem_161 flX4_27 (by rfl) (by rfl) ?_
  refine z_iconst O (nI 1) dX4_tellsItem_164 (by decide) ?_
  refine z_ialdN O dX4_tellsItem_165 (by rfl) (by omega) (by decide) ?_
  refine z_top (v' := .int (nI b)) (congrArg Value.int (congrArg nI hb)) ?_
  refine z_aload_n O dX4_tellsItem_166 rfl ?_
  refine z_get O dX4_tellsItem_167 flX4_27 (by rfl) (by rfl) ?_
  refine z_iconst O (nI 2) dX4_tellsItem_170 (by decide) ?_
  refine z_ialdN O dX4_tellsItem_171 (by rfl) (by omega) (by decide) ?_
  refine z_top (v' := .int (nI c)) (congrArg Value.int (congrArg nI hc)) ?_
  refine z_aload_n O dX4_tellsItem_172 rfl ?_
  refine z_get O dX4_tellsItem_173 flX4_27 (by rfl) (by rfl) ?_
  refine z_iconst O (nI 3) dX4_tellsItem_176 (by decide) ?_
  refine z_ialdN O dX4_tellsItem_177 (by rfl) (by omega) (by decide) ?_
  refine z_top (v' := .int (nI d)) (congrArg Value.int (congrArg nI hd)) ?_
  refine z_V5u0 O (m_puts h hr (by decide) hk.1 hk.2.2.2.2.2) mX4_puts lkX4_87 rfl (by rfl) dX4_tellsItem_178 (Nat.le_of_ble_eq_true rfl) (by decide) ?_
  refine z_iload_n O dX4_tellsItem_181 rfl ?_
  exact z_zret O dX4_tellsItem_182 rfl ⟨rfl, rfl⟩
set_option maxRecDepth 20000 in
set_option maxHeartbeats 4000000 in
theorem m_tells2F {a b c d : Nat} {r we : Nat → Nat} (ha : nb 0 = a) (hb : nb 1 = b) (hc : nb 2 = c) (hd : nb 3 = d) (h : RW w 3420 r we) (hr : rowOK r) (hk : a < 9 ∧ b < 6 ∧ c < 3 ∧ 1 ≤ d ∧ d ≤ 30) (hf : ¬ r (108 + a) < 3) : zS G 4 yX4_tellsItem cX4_tellsItem 3 (some .boolean) [.ref (zad (zb G) 21), .int (nI 2)] (yM G c0_ c1_ c2_ c3_ c4_ c5_ c6_ c7_ c8_ c9_ c10_ c11_ c12_ c13_ c14_ c15_ c16_ c17_ c18_ c19_ c20_ w kp tx txl rf ya yb at2 st2 iwd ifg nb fr la nms nd wf hh tl) 0 0 (zE (.int (nI 0)) (yM G c0_ c1_ c2_ c3_ c4_ c5_ c6_ c7_ c8_ c9_ c10_ c11_ c12_ c13_ c14_ c15_ c16_ c17_ c18_ c19_ c20_ w kp tx txl rf ya yb at2 st2 iwd ifg nb fr la nms nd wf hh tl)) := by
  refine zS.of (by decide) (Nat.le_of_ble_eq_true rfl) (fun F O hR1 hR2 => ?_)
  have O : zOk G F yX4_tellsItem cX4_tellsItem 3 (some .boolean) RX4 4 (yM G c0_ c1_ c2_ c3_ c4_ c5_ c6_ c7_ c8_ c9_ c10_ c11_ c12_ c13_ c14_ c15_ c16_ c17_ c18_ c19_ c20_ w kp tx txl rf ya yb at2 st2 iwd ifg nb fr la nms nd wf hh tl).length := O
  refine z_eq (lv' := [(0, _), (1, _)]) rfl rfl rfl ?_
  refine z_iload_n O dX4_tellsItem_0 rfl ?_
  refine z_if_neN O 19 dX4_tellsItem_1 (by decide) (by omega) (fun h1 => ?_) (fun h1 => by omega)
  refine z_iload_n O dX4_tellsItem_19 rfl ?_
  refine z_iconst O (nI 1) dX4_tellsItem_20 (by decide) ?_
  refine z_icmp_neN O 91 dX4_tellsItem_21 (by decide) (by omega) (by omega) (fun h21 => ?_) (fun h21 => by omega)
  refine z_aload_n O dX4_tellsItem_91 rfl ?_
  refine z_get O dX4_tellsItem_92 flX4_27 (by rfl) (by rfl) ?_
  refine z_iconst O (nI 0) dX4_tellsItem_95 (by decide) ?_
  refine z_ialdN O dX4_tellsItem_96 (by rfl) (by omega) (by decide) ?_
  refine z_top (v' := .int (nI a)) (congrArg Value.int (congrArg nI ha)) ?_
  refine z_aload_n O dX4_tellsItem_97 rfl ?_
  refine z_get O dX4_tellsItem_98 flX4_27 (by rfl) (by rfl) ?_
  refine z_iconst O (nI 1) dX4_tellsItem_101 (by decide) ?_
  refine z_ialdN O dX4_tellsItem_102 (by rfl) (by omega) (by decide) ?_
  refine z_top (v' := .int (nI b)) (congrArg Value.int (congrArg nI hb)) ?_
  refine z_aload_n O dX4_tellsItem_103 rfl ?_
  refine z_get O dX4_tellsItem_104 flX4_27 (by rfl) (by rfl) ?_
  refine z_iconst O (nI 2) dX4_tellsItem_107 (by decide) ?_
  refine z_ialdN O dX4_tellsItem_108 (by rfl) (by omega) (by decide) ?_
  refine z_top (v' := .int (nI c)) (congrArg Value.int (congrArg nI hc)) ?_
  refine z_aload_n O dX4_tellsItem_109 rfl ?_
  refine z_get O dX4_tellsItem_110 flX4_27 (by rfl) (by rfl) ?_
  refine z_iconst O (nI 3) dX4_tellsItem_113 (by decide) ?_
  refine z_ialdN O dX4_tellsItem_114 (by rfl) (by omega) (by decide) ?_
  refine z_top (v' := .int (nI d)) (congrArg Value.int (congrArg nI hd)) ?_
  refine z_S4e0 O (m_isDarnN (by omega) (by omega) (by omega) (by omega)) mX4_isDarn lkX4_77 dX4_tellsItem_115 (Nat.le_of_ble_eq_true rfl) (by decide) ?_
  refine z_if_eqB O 144 dX4_tellsItem_118 (by decide) (fun h118 => by exact absurd ⟨by omega, by omega, by omega, by omega, by omega⟩ h118) (fun h118 => ?_)
  refine z_aload_n O dX4_tellsItem_121 rfl ?_
  refine z_get O dX4_tellsItem_122 flX4_7 (by rfl) (by rfl) ?_
  refine z_sipush O (nI 3421) dX4_tellsItem_125 (by decide) ?_
  refine z_aload_n O dX4_tellsItem_128 rfl ?_
  refine z_get O dX4_tellsItem_129 flX4_27 (by rfl) (by rfl) ?_
  refine z_iconst O (nI 0) dX4_tellsItem_132 (by decide) ?_
  refine z_ialdN O dX4_tellsItem_133 (by rfl) (by omega) (by decide) ?_
  refine z_top (v' := .int (nI a)) (congrArg Value.int (congrArg nI ha)) ?_
  refine z_iaddN O dX4_tellsItem_134 ?_
  refine z_ialdN O dX4_tellsItem_135 (by rfl) (by omega) (by decide) ?_
  refine z_top (v' := .int (nI (r (108 + a)))) (congrArg Value.int (congrArg nI (by have q := h.1.2.1 a hk.1; rw [show 3421 + a = 3420 + 1 + a by omega]; exact q))) ?_
  refine z_iconst O (nI 3) dX4_tellsItem_136 (by decide) ?_
  refine z_icmp_geN O 144 dX4_tellsItem_137 (by decide) (by have := hr.2 a hk.1; omega) (by have := hr.2 a hk.1; omega) (fun h137 => ?_) (fun h137 => by omega)
  refine z_iconst O (nI 0) dX4_tellsItem_144 (by decide) ?_
  refine z_istore_n (lv' := [(0, _), (1, _), (2, _)]) O dX4_tellsItem_145 (by decide) rfl ?_
  refine z_iload_n O dX4_tellsItem_146 rfl ?_
  refine z_if_eqN O 181 dX4_tellsItem_147 (by decide) (by omega) (fun h147 => ?_) (fun h147 => by omega)
  refine z_iload_n O dX4_tellsItem_181 rfl ?_
  exact z_zret O dX4_tellsItem_182 rfl ⟨rfl, rfl⟩
set_option maxRecDepth 20000 in
set_option maxHeartbeats 4000000 in
theorem m_tells2B {a b c d : Nat} {r we : Nat → Nat} (ha : nb 0 = a) (hb : nb 1 = b) (hc : nb 2 = c) (hd : nb 3 = d) (h : RW w 3420 r we) (hr : rowOK r) (ha1 : a < 100) (hb1 : b < 100) (hc1 : c < 100) (hd1 : d < 100) (hk : ¬ (a < 9 ∧ b < 6 ∧ c < 3 ∧ 1 ≤ d ∧ d ≤ 30)) : zS G 4 yX4_tellsItem cX4_tellsItem 3 (some .boolean) [.ref (zad (zb G) 21), .int (nI 2)] (yM G c0_ c1_ c2_ c3_ c4_ c5_ c6_ c7_ c8_ c9_ c10_ c11_ c12_ c13_ c14_ c15_ c16_ c17_ c18_ c19_ c20_ w kp tx txl rf ya yb at2 st2 iwd ifg nb fr la nms nd wf hh tl) 0 0 (zE (.int (nI 0)) (yM G c0_ c1_ c2_ c3_ c4_ c5_ c6_ c7_ c8_ c9_ c10_ c11_ c12_ c13_ c14_ c15_ c16_ c17_ c18_ c19_ c20_ w kp tx txl rf ya yb at2 st2 iwd ifg nb fr la nms nd wf hh tl)) := by
  refine zS.of (by decide) (Nat.le_of_ble_eq_true rfl) (fun F O hR1 hR2 => ?_)
  have O : zOk G F yX4_tellsItem cX4_tellsItem 3 (some .boolean) RX4 4 (yM G c0_ c1_ c2_ c3_ c4_ c5_ c6_ c7_ c8_ c9_ c10_ c11_ c12_ c13_ c14_ c15_ c16_ c17_ c18_ c19_ c20_ w kp tx txl rf ya yb at2 st2 iwd ifg nb fr la nms nd wf hh tl).length := O
  refine z_eq (lv' := [(0, _), (1, _)]) rfl rfl rfl ?_
  refine z_iload_n O dX4_tellsItem_0 rfl ?_
  refine z_if_neN O 19 dX4_tellsItem_1 (by decide) (by omega) (fun h1 => ?_) (fun h1 => by omega)
  refine z_iload_n O dX4_tellsItem_19 rfl ?_
  refine z_iconst O (nI 1) dX4_tellsItem_20 (by decide) ?_
  refine z_icmp_neN O 91 dX4_tellsItem_21 (by decide) (by omega) (by omega) (fun h21 => ?_) (fun h21 => by omega)
  refine z_aload_n O dX4_tellsItem_91 rfl ?_
  refine z_get O dX4_tellsItem_92 flX4_27 (by rfl) (by rfl) ?_
  refine z_iconst O (nI 0) dX4_tellsItem_95 (by decide) ?_
  refine z_ialdN O dX4_tellsItem_96 (by rfl) (by omega) (by decide) ?_
  refine z_top (v' := .int (nI a)) (congrArg Value.int (congrArg nI ha)) ?_
  refine z_aload_n O dX4_tellsItem_97 rfl ?_
  refine z_get O dX4_tellsItem_98 flX4_27 (by rfl) (by rfl) ?_
  refine z_iconst O (nI 1) dX4_tellsItem_101 (by decide) ?_
  refine z_ialdN O dX4_tellsItem_102 (by rfl) (by omega) (by decide) ?_
  refine z_top (v' := .int (nI b)) (congrArg Value.int (congrArg nI hb)) ?_
  refine z_aload_n O dX4_tellsItem_103 rfl ?_
  refine z_get O dX4_tellsItem_104 flX4_27 (by rfl) (by rfl) ?_
  refine z_iconst O (nI 2) dX4_tellsItem_107 (by decide) ?_
  refine z_ialdN O dX4_tellsItem_108 (by rfl) (by omega) (by decide) ?_
  refine z_top (v' := .int (nI c)) (congrArg Value.int (congrArg nI hc)) ?_
  refine z_aload_n O dX4_tellsItem_109 rfl ?_
  refine z_get O dX4_tellsItem_110 flX4_27 (by rfl) (by rfl) ?_
  refine z_iconst O (nI 3) dX4_tellsItem_113 (by decide) ?_
  refine z_ialdN O dX4_tellsItem_114 (by rfl) (by omega) (by decide) ?_
  refine z_top (v' := .int (nI d)) (congrArg Value.int (congrArg nI hd)) ?_
  refine z_S4e0 O (m_isDarnN (by omega) (by omega) (by omega) (by omega)) mX4_isDarn lkX4_77 dX4_tellsItem_115 (Nat.le_of_ble_eq_true rfl) (by decide) ?_
  refine z_if_eqB O 144 dX4_tellsItem_118 (by decide) (fun h118 => ?_) (fun h118 => by exact absurd (show a < 9 ∧ b < 6 ∧ c < 3 ∧ 1 ≤ d ∧ d ≤ 30 by omega) hk)
  refine z_iconst O (nI 0) dX4_tellsItem_144 (by decide) ?_
  refine z_istore_n (lv' := [(0, _), (1, _), (2, _)]) O dX4_tellsItem_145 (by decide) rfl ?_
  refine z_iload_n O dX4_tellsItem_146 rfl ?_
  refine z_if_eqN O 181 dX4_tellsItem_147 (by decide) (by omega) (fun h147 => ?_) (fun h147 => by omega)
  refine z_iload_n O dX4_tellsItem_181 rfl ?_
  exact z_zret O dX4_tellsItem_182 rfl ⟨rfl, rfl⟩
theorem m_tellsItem (hl : txl ≤ 150) {s : (Nat → Nat) × (Nat → Nat)} {n : Nat} (hs : tlOK s) (hitm : ITM tx txl (n + 1)) (hi : rdI tx txl s n w (-1)) (hnb : ∀ j, j < wnN (wdT tx txl (iQ tx txl n)) → nb j = (nuQ tx txl (iQ tx txl n) j)) : zS G 4 yX4_tellsItem cX4_tellsItem 3 (some .boolean) [.ref (zad (zb G) 21), .int (nI (wdT tx txl (iQ tx txl n)))] (yM G c0_ c1_ c2_ c3_ c4_ c5_ c6_ c7_ c8_ c9_ c10_ c11_ c12_ c13_ c14_ c15_ c16_ c17_ c18_ c19_ c20_ w kp tx txl rf ya yb at2 st2 iwd ifg nb fr la nms nd wf hh tl) 0 0 (zP (fun v M' => ∃ w' : Nat → Nat, ((v = .int (nI 1) ∧ rdI tx txl s (n + 1) w' (-1)) ∨ (v = .int (nI 0) ∧ rdI tx txl s (n + 1) w' (nI n))) ∧ smR w w' ∧ M' = (yM G c0_ c1_ c2_ c3_ c4_ c5_ c6_ c7_ c8_ c9_ c10_ c11_ c12_ c13_ c14_ c15_ c16_ c17_ c18_ c19_ c20_ w' kp tx txl rf ya yb at2 st2 iwd ifg nb fr la nms nd wf hh tl))) := by
  have hit := it_none (hitm n (by omega))
  have hw3 := (tO_1 hit.1).2.1
  rcases hi with ⟨-, hall, hrw⟩ | ⟨i, hin, hq, -⟩
  · rcases (show (wdT tx txl (iQ tx txl n)) = 0 ∨ (wdT tx txl (iQ tx txl n)) = 1 ∨ (wdT tx txl (iQ tx txl n)) = 2 by omega) with hw | hw | hw
    · have tl := tlS_0 (s := s) hw
      have hn0 : n = 0 := hit.2.1.mp hw
      rw [hw]
      refine (m_tells0 (hnb 0 (by rw [hw]; decide))).post (fun v M' q => ⟨_, q.1, _, Or.inl ⟨rfl, Or.inl ⟨rfl, fun k hk => ?_, fun _ => ⟨?_, fun j a b => ?_⟩⟩⟩, fun j hj => ?_, q.2⟩)
      · have : k = n := by omega
        rw [this]; exact tl.2
      · rw [tl.1]; exact RW_beg
      · unfold begW
        rw [if_pos (by omega), if_neg (by omega), if_neg (by omega)]
      · unfold begW
        rw [if_neg (by omega)]
    · have tl := tlS_1 (s := s) hw
      have hn0 : 0 < n := Nat.pos_of_ne_zero (fun q => by have := hit.2.1.mpr q; omega)
      have hg := tlS_good (fun k hk => hitm k (by omega)) hs (Nat.le_refl n) hn0 hall
      have hr := hrw hn0
      rw [hw]
      have a0 := hnb 0 (by rw [hw]; decide)
      have a1 := hnb 1 (by rw [hw]; decide)
      by_cases hk : (nuQ tx txl (iQ tx txl n) 0) < 9 ∧ (nuQ tx txl (iQ tx txl n) 1) ≤ 5
      · refine (m_tells1 a0 a1 hk).post (fun v M' q => ⟨_, q.1, _, Or.inl ⟨rfl, Or.inl ⟨rfl, fun k hk' => ?_, fun _ => ⟨?_, fun j a b => ?_⟩⟩⟩, fun j hj => ?_, q.2⟩)
        · by_cases e : k = n
          · rw [e]; exact tl.2.trans (decide_eq_true hk)
          · exact hall k (by omega)
        · rw [tl.1]
          exact RW_setWear hr.1 hg.1.1 hk.1
        · rw [updN_n (by omega)]; exact hr.2 j a b
        · rw [updN_n (by omega)]
      · refine (m_tells1N a0 a1 (tO_2 (hit.2.2.1 0 (by rw [hw]; decide))).2.1 (tO_2 (hit.2.2.1 1 (by rw [hw]; decide))).2.1 hk).post (fun v M' q => ⟨_, q.1, _, Or.inr ⟨rfl, Or.inr ⟨n, by omega, rfl, hall, tl.2.trans (decide_eq_false hk)⟩⟩, fun j hj => ?_, q.2⟩)
        rw [updN_n (by omega)]
    · have tl := tlS_2 (s := s) hw
      have hn0 : 0 < n := Nat.pos_of_ne_zero (fun q => by have := hit.2.1.mpr q; omega)
      have hg := tlS_good (fun k hk => hitm k (by omega)) hs (Nat.le_refl n) hn0 hall
      have hr := hrw hn0
      rw [hw]
      have a0 := hnb 0 (by rw [hw]; decide)
      have a1 := hnb 1 (by rw [hw]; decide)
      have a2 := hnb 2 (by rw [hw]; decide)
      have a3 := hnb 3 (by rw [hw]; decide)
      by_cases hk2 : (nuQ tx txl (iQ tx txl n) 0) < 9 ∧ (nuQ tx txl (iQ tx txl n) 1) < 6 ∧ (nuQ tx txl (iQ tx txl n) 2) < 3 ∧ 1 ≤ (nuQ tx txl (iQ tx txl n) 3) ∧ (nuQ tx txl (iQ tx txl n) 3) ≤ 30
      · by_cases hf : (tlS tx txl s n).2 (108 + (nuQ tx txl (iQ tx txl n) 0)) < 3
        · have hk : (nuQ tx txl (iQ tx txl n) 0) < 9 ∧ (nuQ tx txl (iQ tx txl n) 1) < 6 ∧ (nuQ tx txl (iQ tx txl n) 2) < 3 ∧ 1 ≤ (nuQ tx txl (iQ tx txl n) 3) ∧ (nuQ tx txl (iQ tx txl n) 3) ≤ 30 ∧ (tlS tx txl s n).2 (108 + (nuQ tx txl (iQ tx txl n) 0)) < 3 := ⟨hk2.1, hk2.2.1, hk2.2.2.1, hk2.2.2.2.1, hk2.2.2.2.2, hf⟩
          refine (m_tells2 a0 a1 a2 a3 hr.1 hg.1.1 hk).post (fun v M' q => ⟨_, q.1, _, Or.inl ⟨rfl, Or.inl ⟨rfl, fun k hk' => ?_, fun _ => ⟨?_, fun j a b => ?_⟩⟩⟩, fun j hj => ?_, q.2⟩)
          · by_cases e : k = n
            · rw [e]; exact tl.2.trans (decide_eq_true hk)
            · exact hall k (by omega)
          · rw [tl.1]
            exact RW_put hr.1 hg.1.1 hk.1 hf
          · rw [putW_out hk.1 hf _ (by omega)]; exact hr.2 j a b
          · exact putW_out hk.1 hf _ (by omega)
        · exact (m_tells2F a0 a1 a2 a3 hr.1 hg.1.1 hk2 hf).post (fun v M' q => ⟨_, q.1, _, Or.inr ⟨rfl, Or.inr ⟨n, by omega, rfl, hall, tl.2.trans (decide_eq_false (fun z => hf z.2.2.2.2.2))⟩⟩, fun j hj => rfl, q.2⟩)
      · exact (m_tells2B a0 a1 a2 a3 hr.1 hg.1.1 (tO_2 (hit.2.2.1 0 (by rw [hw]; decide))).2.1 (tO_2 (hit.2.2.1 1 (by rw [hw]; decide))).2.1 (tO_2 (hit.2.2.1 2 (by rw [hw]; decide))).2.1 (tO_2 (hit.2.2.1 3 (by rw [hw]; decide))).2.1 hk2).post (fun v M' q => ⟨_, q.1, _, Or.inr ⟨rfl, Or.inr ⟨n, by omega, rfl, hall, tl.2.trans (decide_eq_false (fun z => hk2 ⟨z.1, z.2.1, z.2.2.1, z.2.2.2.1, z.2.2.2.2.1⟩))⟩⟩, fun j hj => rfl, q.2⟩)
  · exact absurd hq.symm (m1_ne (by have := iQ_le tx txl n; have := iQ_ge n (fun k hk => hitm k (by omega)); omega))
end YS
