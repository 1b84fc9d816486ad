/-! ===== the reference: orders ===== -/
def canB (r nm : Nat → Nat) (S k : Nat) : Nat → Bool
  | 0 => decide (¬ bitN S k = 1)
  | e + 1 => canB r nm S k e && (decide (bitN S e = 1) || (!decide (nm e / 10 = nm k / 10 ∧ e < k) && decide (yrN r nm k ≤ yrN r nm e)))
theorem canB_iff {r nm : Nat → Nat} {S k : Nat} : ∀ n, canB r nm S k n = true ↔ canP (clN nm) (yrN r nm) n S k
  | 0 => by
    have hb : bitN S k < 2 := Nat.mod_lt _ (by decide)
    unfold canB canP
    rw [decide_eq_true_eq]
    exact ⟨fun q => ⟨by omega, fun e he => absurd he (Nat.not_lt_zero e)⟩, fun q => by omega⟩
  | n + 1 => by
    have ih := canB_iff (r := r) (nm := nm) (S := S) (k := k) n
    show (canB r nm S k n && (decide (bitN S n = 1) || (!decide (nm n / 10 = nm k / 10 ∧ n < k) && decide (yrN r nm k ≤ yrN r nm n)))) = true ↔ _
    rw [Bool.and_eq_true, ih, Bool.or_eq_true, Bool.and_eq_true, Bool.not_eq_true', decide_eq_true_eq, decide_eq_false_iff_not, decide_eq_true_eq]
    unfold canP
    constructor
    · rintro ⟨⟨h1, h2⟩, h3⟩
      refine ⟨h1, fun e he => ?_⟩
      by_cases hen : e = n
      · rw [hen]; exact h3
      · exact h2 e (by omega)
    · rintro ⟨h1, h2⟩
      exact ⟨⟨h1, fun e he => h2 e (by omega)⟩, h2 n (by omega)⟩
def wfOK (r nm wf : Nat → Nat) (n S0 : Nat) : Prop := ∀ S, S0 ≤ S → S < 2 ^ n → wf S * prdK (k2 (yrN r nm) (clN nm)) (TS n S) n = prdK (yrN r nm) (TS n S) n
theorem wfOK_pos {r nm wf : Nat → Nat} {n S0 S : Nat} (h : wfOK r nm wf n S0) (h1 : S0 ≤ S) (h2 : S < 2 ^ n) : 0 < wf S := by
  rcases Nat.eq_zero_or_pos (wf S) with h0 | h0
  · have := h S h1 h2
    have hp := prd_pos (yrN r nm) (TS n S) n
    rw [h0, Nat.zero_mul] at this
    omega
  · exact h0
theorem wfOK_lt {r nm wf : Nat → Nat} {n S0 S : Nat} (h : wfOK r nm wf n S0) (hn : n ≤ 6) (h1 : S0 ≤ S) (h2 : S < 2 ^ n) : wf S < 2 ^ 31 := by
  have h3 := h S h1 h2
  have hp := prd_pos (k2 (yrN r nm) (clN nm)) (TS n S) n
  have h4 : wf S ≤ prdK (yrN r nm) (TS n S) n := by
    rw [← h3]
    exact Nat.le_mul_of_pos_right _ hp
  rcases Nat.eq_zero_or_pos n with h0 | h0
  · subst h0
    have : prdK (yrN r nm) (TS 0 S) 0 = 1 := rfl
    omega
  · have h5 := prd_le (yrN r nm) (TS n S) (n := n) h0 n (Nat.le_refl _)
    have h6 : n ^ n ≤ 6 ^ 6 := Nat.le_trans (Nat.pow_le_pow_left hn n) (Nat.pow_le_pow_right (by decide) hn)
    have h7 : (6 : Nat) ^ 6 < 2 ^ 31 := by decide
    omega
theorem wfOK_step {r nm wf : Nat → Nat} {n x : Nat} (hn : n ≤ 6) (hx : x < 2 ^ n) (h : wfOK r nm wf n (2 ^ n - x)) (hm : ∀ e k, e < k → k < n → clN nm e = clN nm k → yrN r nm e ≤ yrN r nm k) : wfOK r nm (updN wf (2 ^ n - x - 1) ((if 2 ^ n - x - 1 = 2 ^ n - 1 then 1 else 0) + sumN (fun k => if canB r nm (2 ^ n - x - 1) k n = true then wf (2 ^ n - x - 1 + 2 ^ k) else 0) n)) n (2 ^ n - (x + 1)) := fun S h1 h2 => by
  by_cases e : S = 2 ^ n - x - 1
  · subst e
    rw [updN_s]
    have h64 := pow6 hn
    exact dp_step hn h2 hm (fun k hk h0 => h _ (by have := Nat.two_pow_pos k; omega) (lt6 n (by omega) _ (by omega) h2 k hk h0)) _ (fun k hk => canB_iff n)
  · rw [updN_n e]
    exact h S (by omega) h2
def ordV (r od : Nat → Nat) (n J : Nat) : Int32 := if J < n then nI (od J) else -5
section YS
variable {G : zG} {c0_ c1_ c2_ c3_ c4_ c5_ c6_ c7_ c8_ c9_ c10_ c11_ c12_ c13_ c14_ c15_ c16_ c17_ c18_ c19_ c20_ : va_E} {w kp tx : Nat → Nat} {txl : Nat} {rf : Nat → Nat} {ya yb : Int64} {at2 st2 : Nat} {iwd ifg : Int32} {nb : Nat → Nat} {fr : Int32} {la nms : Nat → Nat} {nd : Nat} {wf : Nat → Nat} {hh : Int64} {tl : List va_E}
set_option maxRecDepth 20000 in
set_option maxHeartbeats 4000000 in
theorem m_yearOf {we r seen kept : Nat → Nat} {rd nw ud Y : Nat} (h : RS w 0 we r seen kept rd nw ud) (g : GS Y we r seen kept rd nw ud) {m k : Nat} (hN : NM r m nms) (hk : k < darnsM r m 9) (hn6 : darnsM r m 9 ≤ 6) : zS G 2 yX4_yearOf cX4_yearOf 2 (some .int) [.ref (zad (zb G) 21), .int (nI k)] (yM G c0_ c1_ c2_ c3_ c4_ c5_ c6_ c7_ c8_ c9_ c10_ c11_ c12_ c13_ c14_ c15_ c16_ c17_ c18_ c19_ c20_ w kp tx txl rf ya yb at2 st2 iwd ifg nb fr la nms nd wf hh tl) 0 0 (zE (.int (nI (yrN r nms k))) (yM G c0_ c1_ c2_ c3_ c4_ c5_ c6_ c7_ c8_ c9_ c10_ c11_ c12_ c13_ c14_ c15_ c16_ c17_ c18_ c19_ c20_ w kp tx txl rf ya yb at2 st2 iwd ifg nb fr la nms nd wf hh tl)) := by
  refine zS.of (by decide) (Nat.le_of_ble_eq_true rfl) (fun F O hR1 hR2 => ?_)
  have O : zOk G F yX4_yearOf cX4_yearOf 2 (some .int) RX4 2 (yM G c0_ c1_ c2_ c3_ c4_ c5_ c6_ c7_ c8_ c9_ c10_ c11_ c12_ c13_ c14_ c15_ c16_ c17_ c18_ c19_ c20_ w kp tx txl rf ya yb at2 st2 iwd ifg nb fr la nms nd wf hh tl).length := O
  refine z_eq (lv' := [(0, _), (1, _)]) rfl rfl rfl ?_
  have hb := nm_b hN g.1.1 hk
  have h3 := g.1.1.2 _ hb.1
  refine z_aload_n O dX4_yearOf_0 rfl ?_
  refine z_get O dX4_yearOf_1 flX4_7 (by rfl) (by rfl) ?_
  refine z_aload_n O dX4_yearOf_4 rfl ?_
  refine z_get O dX4_yearOf_5 flX4_33 (by rfl) (by rfl) ?_
  refine z_iload_n O dX4_yearOf_8 rfl ?_
  refine z_ialdN O dX4_yearOf_9 (by rfl) (by omega) (by decide) ?_
  refine z_bipush O (nI 10) dX4_yearOf_10 (by decide) ?_
  refine z_idivN O dX4_yearOf_12 (by omega) (by omega) (by omega) ?_
  refine z_aload_n O dX4_yearOf_13 rfl ?_
  refine z_get O dX4_yearOf_14 flX4_33 (by rfl) (by rfl) ?_
  refine z_iload_n O dX4_yearOf_17 rfl ?_
  refine z_ialdN O dX4_yearOf_18 (by rfl) (by omega) (by decide) ?_
  refine z_bipush O (nI 10) dX4_yearOf_19 (by decide) ?_
  refine z_iremN O dX4_yearOf_21 (by omega) (by omega) (by omega) ?_
  refine z_S2e0 O m_placeOf mX4_placeOf lkX4_59 dX4_yearOf_22 (Nat.le_of_ble_eq_true rfl) (by decide) ?_
  refine z_iconst O (nI 3) dX4_yearOf_25 (by decide) ?_
  refine z_iaddN O dX4_yearOf_26 ?_
  refine z_ialdN O dX4_yearOf_27 (by rfl) (by omega) (by decide) ?_
  refine z_top (v' := .int (nI (yrN r nms k))) (congrArg Value.int (congrArg nI (h.f hb.1 hb.2.1 (by decide)))) ?_
  exact z_iret O dX4_yearOf_28 ⟨rfl, rfl⟩
set_option maxRecDepth 20000 in
set_option maxHeartbeats 4000000 in
theorem m_canCome {we r seen kept : Nat → Nat} {rd nw ud Y : Nat} (h : RS w 0 we r seen kept rd nw ud) (g : GS Y we r seen kept rd nw ud) {m : Nat} (hN : NM r m nms) (hn6 : darnsM r m 9 ≤ 6) (hnd : nd = darnsM r m 9) {S k : Nat} (hS : S < 64) (hk : k < darnsM r m 9) : zS G 3 yX4_canCome cX4_canCome 6 (some .boolean) [.ref (zad (zb G) 21), .int (nI S), .int (nI k)] (yM G c0_ c1_ c2_ c3_ c4_ c5_ c6_ c7_ c8_ c9_ c10_ c11_ c12_ c13_ c14_ c15_ c16_ c17_ c18_ c19_ c20_ w kp tx txl rf ya yb at2 st2 iwd ifg nb fr la nms nd wf hh tl) 0 0 (zE (.int (bI (canB r nms S k nd = true))) (yM G c0_ c1_ c2_ c3_ c4_ c5_ c6_ c7_ c8_ c9_ c10_ c11_ c12_ c13_ c14_ c15_ c16_ c17_ c18_ c19_ c20_ w kp tx txl rf ya yb at2 st2 iwd ifg nb fr la nms nd wf hh tl)) := by
  refine zS.of (by decide) (Nat.le_of_ble_eq_true rfl) (fun F O hR1 hR2 => ?_)
  have O : zOk G F yX4_canCome cX4_canCome 6 (some .boolean) RX4 3 (yM G c0_ c1_ c2_ c3_ c4_ c5_ c6_ c7_ c8_ c9_ c10_ c11_ c12_ c13_ c14_ c15_ c16_ c17_ c18_ c19_ c20_ w kp tx txl rf ya yb at2 st2 iwd ifg nb fr la nms nd wf hh tl).length := O
  refine z_eq (lv' := [(0, _), (1, _), (2, _)]) rfl rfl rfl ?_
  by_cases hbk : bitN S k = 1
  · refine z_iload_n O dX4_canCome_0 rfl ?_
    refine z_iload_n O dX4_canCome_1 rfl ?_
    refine z_S2e0 O (m_has (by omega) (by omega)) mX4_has lkX4_224 dX4_canCome_2 (Nat.le_of_ble_eq_true rfl) (by decide) ?_
    refine z_if_neB O 12 dX4_canCome_5 (by decide) (fun h5 => ?_) (fun h5 => by exact absurd hbk h5)
    refine z_iconst O (nI 0) dX4_canCome_12 (by decide) ?_
    refine z_istore_n (lv' := [(0, _), (1, _), (2, _), (3, _)]) O dX4_canCome_13 (by decide) rfl ?_
    refine z_iconst O (nI 0) dX4_canCome_14 (by decide) ?_
    refine z_istore (lv' := [(0, _), (1, _), (2, _), (3, _), (4, _)]) O dX4_canCome_15 (by decide) rfl ?_
    refine zdown (P := fun e => ∀ b : Int32, b = bI (canB r nms S k e = true) → Z G F 0 0 (zEnd G F (zE (.int (bI (canB r nms S k nd = true))) (yM G c0_ c1_ c2_ c3_ c4_ c5_ c6_ c7_ c8_ c9_ c10_ c11_ c12_ c13_ c14_ c15_ c16_ c17_ c18_ c19_ c20_ w kp tx txl rf ya yb at2 st2 iwd ifg nb fr la nms nd wf hh tl)) 0 0) 17 [(0, .ref (zad (zb G) 21)), (1, .int (nI S)), (2, .int (nI k)), (3, .int b), (4, .int (nI e))] [] (yM G c0_ c1_ c2_ c3_ c4_ c5_ c6_ c7_ c8_ c9_ c10_ c11_ c12_ c13_ c14_ c15_ c16_ c17_ c18_ c19_ c20_ w kp tx txl rf ya yb at2 st2 iwd ifg nb fr la nms nd wf hh tl)) (nd) ?_ ?_ _ (by rw [bI_f (show ¬ canB r nms S k 0 = true by simp [canB, hbk])]; rfl)
    · intro b hb
      subst hb
      refine z_iload O dX4_canCome_17 rfl ?_
      refine z_aload_n O dX4_canCome_19 rfl ?_
      refine z_get O dX4_canCome_20 flX4_228 (by rfl) (by rfl) ?_
      refine z_icmp_geN O 105 dX4_canCome_23 (by decide) (by omega) (by omega) (fun h23 => ?_) (fun h23 => by omega)
      refine z_iload_n O dX4_canCome_105 rfl ?_
      exact z_zret O dX4_canCome_106 bI_nar ⟨rfl, rfl⟩
    · intro e he ih b hb
      subst hb
      refine z_iload O dX4_canCome_17 rfl ?_
      refine z_aload_n O dX4_canCome_19 rfl ?_
      refine z_get O dX4_canCome_20 flX4_228 (by rfl) (by rfl) ?_
      refine z_icmp_geN O 105 dX4_canCome_23 (by decide) (by omega) (by omega) (fun h23 => by omega) (fun h23 => ?_)
      by_cases hu : nms e / 10 = nms k / 10 ∧ e < k
      · refine z_aload_n O dX4_canCome_26 rfl ?_
        refine z_get O dX4_canCome_27 flX4_33 (by rfl) (by rfl) ?_
        refine z_iload O dX4_canCome_30 rfl ?_
        refine z_ialdN O dX4_canCome_32 (by rfl) (by omega) (by decide) ?_
        refine z_bipush O (nI 10) dX4_canCome_33 (by decide) ?_
        refine z_idivN O dX4_canCome_35 (by have h1 := nm_b hN g.1.1 (show e < darnsM r m 9 by omega); have h2 := nm_b hN g.1.1 (show k < darnsM r m 9 by omega); omega) (by have h1 := nm_b hN g.1.1 (show e < darnsM r m 9 by omega); have h2 := nm_b hN g.1.1 (show k < darnsM r m 9 by omega); omega) (by have h1 := nm_b hN g.1.1 (show e < darnsM r m 9 by omega); have h2 := nm_b hN g.1.1 (show k < darnsM r m 9 by omega); omega) ?_
        refine z_aload_n O dX4_canCome_36 rfl ?_
        refine z_get O dX4_canCome_37 flX4_33 (by rfl) (by rfl) ?_
        refine z_iload_n O dX4_canCome_40 rfl ?_
        refine z_ialdN O dX4_canCome_41 (by rfl) (by omega) (by decide) ?_
        refine z_bipush O (nI 10) dX4_canCome_42 (by decide) ?_
        refine z_idivN O dX4_canCome_44 (by have h1 := nm_b hN g.1.1 (show e < darnsM r m 9 by omega); have h2 := nm_b hN g.1.1 (show k < darnsM r m 9 by omega); omega) (by have h1 := nm_b hN g.1.1 (show e < darnsM r m 9 by omega); have h2 := nm_b hN g.1.1 (show k < darnsM r m 9 by omega); omega) (by have h1 := nm_b hN g.1.1 (show e < darnsM r m 9 by omega); have h2 := nm_b hN g.1.1 (show k < darnsM r m 9 by omega); omega) ?_
        refine z_icmp_neN O 58 dX4_canCome_45 (by decide) (by have h1 := nm_b hN g.1.1 (show e < darnsM r m 9 by omega); have h2 := nm_b hN g.1.1 (show k < darnsM r m 9 by omega); omega) (by have h1 := nm_b hN g.1.1 (show e < darnsM r m 9 by omega); have h2 := nm_b hN g.1.1 (show k < darnsM r m 9 by omega); omega) (fun h45 => by exact absurd hu.1 h45) (fun h45 => ?_)
        refine z_iload O dX4_canCome_48 rfl ?_
        refine z_iload_n O dX4_canCome_50 rfl ?_
        refine z_icmp_geN O 58 dX4_canCome_51 (by decide) (by omega) (by omega) (fun h51 => by omega) (fun h51 => ?_)
        refine z_iconst O (nI 1) dX4_canCome_54 (by decide) ?_
        refine z_goto O 59 dX4_canCome_55 (by decide) ?_
        refine z_istore (lv' := [(0, _), (1, _), (2, _), (3, _), (4, _), (5, _)]) O dX4_canCome_59 (by decide) rfl ?_
        refine z_iload_n O dX4_canCome_61 rfl ?_
        refine z_if_eqB O 97 dX4_canCome_62 (by decide) (fun h62 => ?_) (fun h62 => ?_)
        · refine z_iconst O (nI 0) dX4_canCome_97 (by decide) ?_
          refine z_istore_n (lv' := [(0, _), (1, _), (2, _), (3, _), (4, _), (5, _)]) O dX4_canCome_98 (by decide) rfl ?_
          refine z_iincN (lv' := [(0, _), (1, _), (2, _), (3, _), (4, _), (5, _)]) O 1 dX4_canCome_99 (by decide) rfl rfl (by decide) ?_
          refine z_goto O 17 dX4_canCome_102 (by decide) ?_
          refine z_kp (lv' := [(0, _), (1, _), (2, _), (3, _), (4, _)]) [0, 1, 2, 3, 4] rfl ?_
          first
          | (have hs : canB r nms S k (e + 1) = true := by rw [show canB r nms S k (e + 1) = (canB r nms S k e && (decide (bitN S e = 1) || (!decide (nms e / 10 = nms k / 10 ∧ e < k) && decide (yrN r nms k ≤ yrN r nms e)))) from rfl]; simp [h62, h71]
             exact ih _ (by rw [bI_t hs]; rfl))
          | (have hs : ¬ canB r nms S k (e + 1) = true := by rw [show canB r nms S k (e + 1) = (canB r nms S k e && (decide (bitN S e = 1) || (!decide (nms e / 10 = nms k / 10 ∧ e < k) && decide (yrN r nms k ≤ yrN r nms e)))) from rfl]; simp [h62]
             exact ih _ (by rw [bI_f hs]; rfl))
          | (have hs : ¬ canB r nms S k (e + 1) = true := by rw [show canB r nms S k (e + 1) = (canB r nms S k e && (decide (bitN S e = 1) || (!decide (nms e / 10 = nms k / 10 ∧ e < k) && decide (yrN r nms k ≤ yrN r nms e)))) from rfl]; simp [h62, h71, hu]
             exact ih _ (by rw [bI_f hs]; rfl))
        · refine z_iload_n O dX4_canCome_65 rfl ?_
          refine z_iload O dX4_canCome_66 rfl ?_
          refine z_S2e0 O (m_has (by omega) (by omega)) mX4_has lkX4_224 dX4_canCome_68 (Nat.le_of_ble_eq_true rfl) (by decide) ?_
          refine z_if_neB O 93 dX4_canCome_71 (by decide) (fun h71 => ?_) (fun h71 => ?_)
          · refine z_iconst O (nI 1) dX4_canCome_93 (by decide) ?_
            refine z_goto O 98 dX4_canCome_94 (by decide) ?_
            refine z_istore_n (lv' := [(0, _), (1, _), (2, _), (3, _), (4, _), (5, _)]) O dX4_canCome_98 (by decide) rfl ?_
            refine z_iincN (lv' := [(0, _), (1, _), (2, _), (3, _), (4, _), (5, _)]) O 1 dX4_canCome_99 (by decide) rfl rfl (by decide) ?_
            refine z_goto O 17 dX4_canCome_102 (by decide) ?_
            refine z_kp (lv' := [(0, _), (1, _), (2, _), (3, _), (4, _)]) [0, 1, 2, 3, 4] rfl ?_
            first
            | (have hs : canB r nms S k (e + 1) = true := by rw [show canB r nms S k (e + 1) = (canB r nms S k e && (decide (bitN S e = 1) || (!decide (nms e / 10 = nms k / 10 ∧ e < k) && decide (yrN r nms k ≤ yrN r nms e)))) from rfl]; simp [h62, h71]
               exact ih _ (by rw [bI_t hs]; rfl))
            | (have hs : ¬ canB r nms S k (e + 1) = true := by rw [show canB r nms S k (e + 1) = (canB r nms S k e && (decide (bitN S e = 1) || (!decide (nms e / 10 = nms k / 10 ∧ e < k) && decide (yrN r nms k ≤ yrN r nms e)))) from rfl]; simp [h62]
               exact ih _ (by rw [bI_f hs]; rfl))
            | (have hs : ¬ canB r nms S k (e + 1) = true := by rw [show canB r nms S k (e + 1) = (canB r nms S k e && (decide (bitN S e = 1) || (!decide (nms e / 10 = nms k / 10 ∧ e < k) && decide (yrN r nms k ≤ yrN r nms e)))) from rfl]; simp [h62, h71, hu]
               exact ih _ (by rw [bI_f hs]; rfl))
          · refine z_iload O dX4_canCome_74 rfl ?_
            refine z_if_neN O 97 dX4_canCome_76 (by decide) (by omega) (fun h76 => ?_) (fun h76 => by omega)
            refine z_iconst O (nI 0) dX4_canCome_97 (by decide) ?_
            refine z_istore_n (lv' := [(0, _), (1, _), (2, _), (3, _), (4, _), (5, _)]) O dX4_canCome_98 (by decide) rfl ?_
            refine z_iincN (lv' := [(0, _), (1, _), (2, _), (3, _), (4, _), (5, _)]) O 1 dX4_canCome_99 (by decide) rfl rfl (by decide) ?_
            refine z_goto O 17 dX4_canCome_102 (by decide) ?_
            refine z_kp (lv' := [(0, _), (1, _), (2, _), (3, _), (4, _)]) [0, 1, 2, 3, 4] rfl ?_
            first
            | (have hs : canB r nms S k (e + 1) = true := by rw [show canB r nms S k (e + 1) = (canB r nms S k e && (decide (bitN S e = 1) || (!decide (nms e / 10 = nms k / 10 ∧ e < k) && decide (yrN r nms k ≤ yrN r nms e)))) from rfl]; simp [h62, h71]
               exact ih _ (by rw [bI_t hs]; rfl))
            | (have hs : ¬ canB r nms S k (e + 1) = true := by rw [show canB r nms S k (e + 1) = (canB r nms S k e && (decide (bitN S e = 1) || (!decide (nms e / 10 = nms k / 10 ∧ e < k) && decide (yrN r nms k ≤ yrN r nms e)))) from rfl]; simp [h62]
               exact ih _ (by rw [bI_f hs]; rfl))
            | (have hs : ¬ canB r nms S k (e + 1) = true := by rw [show canB r nms S k (e + 1) = (canB r nms S k e && (decide (bitN S e = 1) || (!decide (nms e / 10 = nms k / 10 ∧ e < k) && decide (yrN r nms k ≤ yrN r nms e)))) from rfl]; simp [h62, h71, hu]
               exact ih _ (by rw [bI_f hs]; rfl))
      · refine z_aload_n O dX4_canCome_26 rfl ?_
        refine z_get O dX4_canCome_27 flX4_33 (by rfl) (by rfl) ?_
        refine z_iload O dX4_canCome_30 rfl ?_
        refine z_ialdN O dX4_canCome_32 (by rfl) (by omega) (by decide) ?_
        refine z_bipush O (nI 10) dX4_canCome_33 (by decide) ?_
        refine z_idivN O dX4_canCome_35 (by have h1 := nm_b hN g.1.1 (show e < darnsM r m 9 by omega); have h2 := nm_b hN g.1.1 (show k < darnsM r m 9 by omega); omega) (by have h1 := nm_b hN g.1.1 (show e < darnsM r m 9 by omega); have h2 := nm_b hN g.1.1 (show k < darnsM r m 9 by omega); omega) (by have h1 := nm_b hN g.1.1 (show e < darnsM r m 9 by omega); have h2 := nm_b hN g.1.1 (show k < darnsM r m 9 by omega); omega) ?_
        refine z_aload_n O dX4_canCome_36 rfl ?_
        refine z_get O dX4_canCome_37 flX4_33 (by rfl) (by rfl) ?_
        refine z_iload_n O dX4_canCome_40 rfl ?_
        refine z_ialdN O dX4_canCome_41 (by rfl) (by omega) (by decide) ?_
        refine z_bipush O (nI 10) dX4_canCome_42 (by decide) ?_
        refine z_idivN O dX4_canCome_44 (by have h1 := nm_b hN g.1.1 (show e < darnsM r m 9 by omega); have h2 := nm_b hN g.1.1 (show k < darnsM r m 9 by omega); omega) (by have h1 := nm_b hN g.1.1 (show e < darnsM r m 9 by omega); have h2 := nm_b hN g.1.1 (show k < darnsM r m 9 by omega); omega) (by have h1 := nm_b hN g.1.1 (show e < darnsM r m 9 by omega); have h2 := nm_b hN g.1.1 (show k < darnsM r m 9 by omega); omega) ?_
        refine z_icmp_neN O 58 dX4_canCome_45 (by decide) (by have h1 := nm_b hN g.1.1 (show e < darnsM r m 9 by omega); have h2 := nm_b hN g.1.1 (show k < darnsM r m 9 by omega); omega) (by have h1 := nm_b hN g.1.1 (show e < darnsM r m 9 by omega); have h2 := nm_b hN g.1.1 (show k < darnsM r m 9 by omega); omega) (fun h45 => ?_) (fun h45 => ?_)
        · refine z_iconst O (nI 0) dX4_canCome_58 (by decide) ?_
          refine z_istore (lv' := [(0, _), (1, _), (2, _), (3, _), (4, _), (5, _)]) O dX4_canCome_59 (by decide) rfl ?_
          refine z_iload_n O dX4_canCome_61 rfl ?_
          refine z_if_eqB O 97 dX4_canCome_62 (by decide) (fun h62 => ?_) (fun h62 => ?_)
          · refine z_iconst O (nI 0) dX4_canCome_97 (by decide) ?_
            refine z_istore_n (lv' := [(0, _), (1, _), (2, _), (3, _), (4, _), (5, _)]) O dX4_canCome_98 (by decide) rfl ?_
            refine z_iincN (lv' := [(0, _), (1, _), (2, _), (3, _), (4, _), (5, _)]) O 1 dX4_canCome_99 (by decide) rfl rfl (by decide) ?_
            refine z_goto O 17 dX4_canCome_102 (by decide) ?_
            refine z_kp (lv' := [(0, _), (1, _), (2, _), (3, _), (4, _)]) [0, 1, 2, 3, 4] rfl ?_
            first
            | (have hs : canB r nms S k (e + 1) = true := by rw [show canB r nms S k (e + 1) = (canB r nms S k e && (decide (bitN S e = 1) || (!decide (nms e / 10 = nms k / 10 ∧ e < k) && decide (yrN r nms k ≤ yrN r nms e)))) from rfl]; simp [h62, h71]
               exact ih _ (by rw [bI_t hs]; rfl))
            | (have hs : canB r nms S k (e + 1) = true := by rw [show canB r nms S k (e + 1) = (canB r nms S k e && (decide (bitN S e = 1) || (!decide (nms e / 10 = nms k / 10 ∧ e < k) && decide (yrN r nms k ≤ yrN r nms e)))) from rfl]; simp [h62, hu, show yrN r nms k ≤ yrN r nms e by omega]
               exact ih _ (by rw [bI_t hs]; rfl))
            | (have hs : ¬ canB r nms S k (e + 1) = true := by rw [show canB r nms S k (e + 1) = (canB r nms S k e && (decide (bitN S e = 1) || (!decide (nms e / 10 = nms k / 10 ∧ e < k) && decide (yrN r nms k ≤ yrN r nms e)))) from rfl]; simp [h62]
               exact ih _ (by rw [bI_f hs]; rfl))
            | (have hs : ¬ canB r nms S k (e + 1) = true := by rw [show canB r nms S k (e + 1) = (canB r nms S k e && (decide (bitN S e = 1) || (!decide (nms e / 10 = nms k / 10 ∧ e < k) && decide (yrN r nms k ≤ yrN r nms e)))) from rfl]; simp [h62, h71, hu, show ¬ yrN r nms k ≤ yrN r nms e by omega]
               exact ih _ (by rw [bI_f hs]; rfl))
          · refine z_iload_n O dX4_canCome_65 rfl ?_
            refine z_iload O dX4_canCome_66 rfl ?_
            refine z_S2e0 O (m_has (by omega) (by omega)) mX4_has lkX4_224 dX4_canCome_68 (Nat.le_of_ble_eq_true rfl) (by decide) ?_
            refine z_if_neB O 93 dX4_canCome_71 (by decide) (fun h71 => ?_) (fun h71 => ?_)
            · refine z_iconst O (nI 1) dX4_canCome_93 (by decide) ?_
              refine z_goto O 98 dX4_canCome_94 (by decide) ?_
              refine z_istore_n (lv' := [(0, _), (1, _), (2, _), (3, _), (4, _), (5, _)]) O dX4_canCome_98 (by decide) rfl ?_
              refine z_iincN (lv' := [(0, _), (1, _), (2, _), (3, _), (4, _), (5, _)]) O 1 dX4_canCome_99 (by decide) rfl rfl (by decide) ?_
              refine z_goto O 17 dX4_canCome_102 (by decide) ?_
              refine z_kp (lv' := [(0, _), (1, _), (2, _), (3, _), (4, _)]) [0, 1, 2, 3, 4] rfl ?_
              first
              | (have hs : canB r nms S k (e + 1) = true := by rw [show canB r nms S k (e + 1) = (canB r nms S k e && (decide (bitN S e = 1) || (!decide (nms e / 10 = nms k / 10 ∧ e < k) && decide (yrN r nms k ≤ yrN r nms e)))) from rfl]; simp [h62, h71]
                 exact ih _ (by rw [bI_t hs]; rfl))
              | (have hs : canB r nms S k (e + 1) = true := by rw [show canB r nms S k (e + 1) = (canB r nms S k e && (decide (bitN S e = 1) || (!decide (nms e / 10 = nms k / 10 ∧ e < k) && decide (yrN r nms k ≤ yrN r nms e)))) from rfl]; simp [h62, hu, show yrN r nms k ≤ yrN r nms e by omega]
                 exact ih _ (by rw [bI_t hs]; rfl))
              | (have hs : ¬ canB r nms S k (e + 1) = true := by rw [show canB r nms S k (e + 1) = (canB r nms S k e && (decide (bitN S e = 1) || (!decide (nms e / 10 = nms k / 10 ∧ e < k) && decide (yrN r nms k ≤ yrN r nms e)))) from rfl]; simp [h62]
                 exact ih _ (by rw [bI_f hs]; rfl))
              | (have hs : ¬ canB r nms S k (e + 1) = true := by rw [show canB r nms S k (e + 1) = (canB r nms S k e && (decide (bitN S e = 1) || (!decide (nms e / 10 = nms k / 10 ∧ e < k) && decide (yrN r nms k ≤ yrN r nms e)))) from rfl]; simp [h62, h71, hu, show ¬ yrN r nms k ≤ yrN r nms e by omega]
                 exact ih _ (by rw [bI_f hs]; rfl))
            · refine z_iload O dX4_canCome_74 rfl ?_
              refine z_if_neN O 97 dX4_canCome_76 (by decide) (by omega) (fun h76 => by omega) (fun h76 => ?_)
              refine z_aload_n O dX4_canCome_79 rfl ?_
              refine z_iload O dX4_canCome_80 rfl ?_
              refine z_V1e0 O (m_yearOf h g hN (by omega) hn6) mX4_yearOf lkX4_231 rfl (by rfl) dX4_canCome_82 (Nat.le_of_ble_eq_true rfl) (by decide) ?_
              refine z_aload_n O dX4_canCome_85 rfl ?_
              refine z_iload_n O dX4_canCome_86 rfl ?_
              refine z_V1e0 O (m_yearOf h g hN (by omega) hn6) mX4_yearOf lkX4_231 rfl (by rfl) dX4_canCome_87 (Nat.le_of_ble_eq_true rfl) (by decide) ?_
              refine z_icmp_ltN O 97 dX4_canCome_90 (by decide) (by have h1 : yrN r nms e < 1048576 := g.1.1.1 _; have h2 : yrN r nms k < 1048576 := g.1.1.1 _; omega) (by have h1 : yrN r nms e < 1048576 := g.1.1.1 _; have h2 : yrN r nms k < 1048576 := g.1.1.1 _; omega) (fun h90 => ?_) (fun h90 => ?_)
              · refine z_iconst O (nI 0) dX4_canCome_97 (by decide) ?_
                refine z_istore_n (lv' := [(0, _), (1, _), (2, _), (3, _), (4, _), (5, _)]) O dX4_canCome_98 (by decide) rfl ?_
                refine z_iincN (lv' := [(0, _), (1, _), (2, _), (3, _), (4, _), (5, _)]) O 1 dX4_canCome_99 (by decide) rfl rfl (by decide) ?_
                refine z_goto O 17 dX4_canCome_102 (by decide) ?_
                refine z_kp (lv' := [(0, _), (1, _), (2, _), (3, _), (4, _)]) [0, 1, 2, 3, 4] rfl ?_
                first
                | (have hs : canB r nms S k (e + 1) = true := by rw [show canB r nms S k (e + 1) = (canB r nms S k e && (decide (bitN S e = 1) || (!decide (nms e / 10 = nms k / 10 ∧ e < k) && decide (yrN r nms k ≤ yrN r nms e)))) from rfl]; simp [h62, h71]
                   exact ih _ (by rw [bI_t hs]; rfl))
                | (have hs : canB r nms S k (e + 1) = true := by rw [show canB r nms S k (e + 1) = (canB r nms S k e && (decide (bitN S e = 1) || (!decide (nms e / 10 = nms k / 10 ∧ e < k) && decide (yrN r nms k ≤ yrN r nms e)))) from rfl]; simp [h62, hu, show yrN r nms k ≤ yrN r nms e by omega]
                   exact ih _ (by rw [bI_t hs]; rfl))
                | (have hs : ¬ canB r nms S k (e + 1) = true := by rw [show canB r nms S k (e + 1) = (canB r nms S k e && (decide (bitN S e = 1) || (!decide (nms e / 10 = nms k / 10 ∧ e < k) && decide (yrN r nms k ≤ yrN r nms e)))) from rfl]; simp [h62]
                   exact ih _ (by rw [bI_f hs]; rfl))
                | (have hs : ¬ canB r nms S k (e + 1) = true := by rw [show canB r nms S k (e + 1) = (canB r nms S k e && (decide (bitN S e = 1) || (!decide (nms e / 10 = nms k / 10 ∧ e < k) && decide (yrN r nms k ≤ yrN r nms e)))) from rfl]; simp [h62, h71, hu, show ¬ yrN r nms k ≤ yrN r nms e by omega]
                   exact ih _ (by rw [bI_f hs]; rfl))
              · refine z_iconst O (nI 1) dX4_canCome_93 (by decide) ?_
                refine z_goto O 98 dX4_canCome_94 (by decide) ?_
                refine z_istore_n (lv' := [(0, _), (1, _), (2, _), (3, _), (4, _), (5, _)]) O dX4_canCome_98 (by decide) rfl ?_
                refine z_iincN (lv' := [(0, _), (1, _), (2, _), (3, _), (4, _), (5, _)]) O 1 dX4_canCome_99 (by decide) rfl rfl (by decide) ?_
                refine z_goto O 17 dX4_canCome_102 (by decide) ?_
                refine z_kp (lv' := [(0, _), (1, _), (2, _), (3, _), (4, _)]) [0, 1, 2, 3, 4] rfl ?_
                first
                | (have hs : canB r nms S k (e + 1) = true := by rw [show canB r nms S k (e + 1) = (canB r nms S k e && (decide (bitN S e = 1) || (!decide (nms e / 10 = nms k / 10 ∧ e < k) && decide (yrN r nms k ≤ yrN r nms e)))) from rfl]; simp [h62, h71]
                   exact ih _ (by rw [bI_t hs]; rfl))
                | (have hs : canB r nms S k (e + 1) = true := by rw [show canB r nms S k (e + 1) = (canB r nms S k e && (decide (bitN S e = 1) || (!decide (nms e / 10 = nms k / 10 ∧ e < k) && decide (yrN r nms k ≤ yrN r nms e)))) from rfl]; simp [h62, hu, show yrN r nms k ≤ yrN r nms e by omega]
                   exact ih _ (by rw [bI_t hs]; rfl))
                | (have hs : ¬ canB r nms S k (e + 1) = true := by rw [show canB r nms S k (e + 1) = (canB r nms S k e && (decide (bitN S e = 1) || (!decide (nms e / 10 = nms k / 10 ∧ e < k) && decide (yrN r nms k ≤ yrN r nms e)))) from rfl]; simp [h62]
                   exact ih _ (by rw [bI_f hs]; rfl))
                | (have hs : ¬ canB r nms S k (e + 1) = true := by rw [show canB r nms S k (e + 1) = (canB r nms S k e && (decide (bitN S e = 1) || (!decide (nms e / 10 = nms k / 10 ∧ e < k) && decide (yrN r nms k ≤ yrN r nms e)))) from rfl]; simp [h62, h71, hu, show ¬ yrN r nms k ≤ yrN r nms e by omega]
                   exact ih _ (by rw [bI_f hs]; rfl))
        · refine z_iload O dX4_canCome_48 rfl ?_
          refine z_iload_n O dX4_canCome_50 rfl ?_
          refine z_icmp_geN O 58 dX4_canCome_51 (by decide) (by omega) (by omega) (fun h51 => ?_) (fun h51 => by exact absurd ⟨h45, by omega⟩ hu)
          refine z_iconst O (nI 0) dX4_canCome_58 (by decide) ?_
          refine z_istore (lv' := [(0, _), (1, _), (2, _), (3, _), (4, _), (5, _)]) O dX4_canCome_59 (by decide) rfl ?_
          refine z_iload_n O dX4_canCome_61 rfl ?_
          refine z_if_eqB O 97 dX4_canCome_62 (by decide) (fun h62 => ?_) (fun h62 => ?_)
          · refine z_iconst O (nI 0) dX4_canCome_97 (by decide) ?_
            refine z_istore_n (lv' := [(0, _), (1, _), (2, _), (3, _), (4, _), (5, _)]) O dX4_canCome_98 (by decide) rfl ?_
            refine z_iincN (lv' := [(0, _), (1, _), (2, _), (3, _), (4, _), (5, _)]) O 1 dX4_canCome_99 (by decide) rfl rfl (by decide) ?_
            refine z_goto O 17 dX4_canCome_102 (by decide) ?_
            refine z_kp (lv' := [(0, _), (1, _), (2, _), (3, _), (4, _)]) [0, 1, 2, 3, 4] rfl ?_
            first
            | (have hs : canB r nms S k (e + 1) = true := by rw [show canB r nms S k (e + 1) = (canB r nms S k e && (decide (bitN S e = 1) || (!decide (nms e / 10 = nms k / 10 ∧ e < k) && decide (yrN r nms k ≤ yrN r nms e)))) from rfl]; simp [h62, h71]
               exact ih _ (by rw [bI_t hs]; rfl))
            | (have hs : canB r nms S k (e + 1) = true := by rw [show canB r nms S k (e + 1) = (canB r nms S k e && (decide (bitN S e = 1) || (!decide (nms e / 10 = nms k / 10 ∧ e < k) && decide (yrN r nms k ≤ yrN r nms e)))) from rfl]; simp [h62, hu, show yrN r nms k ≤ yrN r nms e by omega]
               exact ih _ (by rw [bI_t hs]; rfl))
            | (have hs : ¬ canB r nms S k (e + 1) = true := by rw [show canB r nms S k (e + 1) = (canB r nms S k e && (decide (bitN S e = 1) || (!decide (nms e / 10 = nms k / 10 ∧ e < k) && decide (yrN r nms k ≤ yrN r nms e)))) from rfl]; simp [h62]
               exact ih _ (by rw [bI_f hs]; rfl))
            | (have hs : ¬ canB r nms S k (e + 1) = true := by rw [show canB r nms S k (e + 1) = (canB r nms S k e && (decide (bitN S e = 1) || (!decide (nms e / 10 = nms k / 10 ∧ e < k) && decide (yrN r nms k ≤ yrN r nms e)))) from rfl]; simp [h62, h71, hu, show ¬ yrN r nms k ≤ yrN r nms e by omega]
               exact ih _ (by rw [bI_f hs]; rfl))
          · refine z_iload_n O dX4_canCome_65 rfl ?_
            refine z_iload O dX4_canCome_66 rfl ?_
            refine z_S2e0 O (m_has (by omega) (by omega)) mX4_has lkX4_224 dX4_canCome_68 (Nat.le_of_ble_eq_true rfl) (by decide) ?_
            refine z_if_neB O 93 dX4_canCome_71 (by decide) (fun h71 => ?_) (fun h71 => ?_)
            · refine z_iconst O (nI 1) dX4_canCome_93 (by decide) ?_
              refine z_goto O 98 dX4_canCome_94 (by decide) ?_
              refine z_istore_n (lv' := [(0, _), (1, _), (2, _), (3, _), (4, _), (5, _)]) O dX4_canCome_98 (by decide) rfl ?_
              refine z_iincN (lv' := [(0, _), (1, _), (2, _), (3, _), (4, _), (5, _)]) O 1 dX4_canCome_99 (by decide) rfl rfl (by decide) ?_
              refine z_goto O 17 dX4_canCome_102 (by decide) ?_
              refine z_kp (lv' := [(0, _), (1, _), (2, _), (3, _), (4, _)]) [0, 1, 2, 3, 4] rfl ?_
              first
              | (have hs : canB r nms S k (e + 1) = true := by rw [show canB r nms S k (e + 1) = (canB r nms S k e && (decide (bitN S e = 1) || (!decide (nms e / 10 = nms k / 10 ∧ e < k) && decide (yrN r nms k ≤ yrN r nms e)))) from rfl]; simp [h62, h71]
                 exact ih _ (by rw [bI_t hs]; rfl))
              | (have hs : canB r nms S k (e + 1) = true := by rw [show canB r nms S k (e + 1) = (canB r nms S k e && (decide (bitN S e = 1) || (!decide (nms e / 10 = nms k / 10 ∧ e < k) && decide (yrN r nms k ≤ yrN r nms e)))) from rfl]; simp [h62, hu, show yrN r nms k ≤ yrN r nms e by omega]
                 exact ih _ (by rw [bI_t hs]; rfl))
              | (have hs : ¬ canB r nms S k (e + 1) = true := by rw [show canB r nms S k (e + 1) = (canB r nms S k e && (decide (bitN S e = 1) || (!decide (nms e / 10 = nms k / 10 ∧ e < k) && decide (yrN r nms k ≤ yrN r nms e)))) from rfl]; simp [h62]
                 exact ih _ (by rw [bI_f hs]; rfl))
              | (have hs : ¬ canB r nms S k (e + 1) = true := by rw [show canB r nms S k (e + 1) = (canB r nms S k e && (decide (bitN S e = 1) || (!decide (nms e / 10 = nms k / 10 ∧ e < k) && decide (yrN r nms k ≤ yrN r nms e)))) from rfl]; simp [h62, h71, hu, show ¬ yrN r nms k ≤ yrN r nms e by omega]
                 exact ih _ (by rw [bI_f hs]; rfl))
            · refine z_iload O dX4_canCome_74 rfl ?_
              refine z_if_neN O 97 dX4_canCome_76 (by decide) (by omega) (fun h76 => by omega) (fun h76 => ?_)
              refine z_aload_n O dX4_canCome_79 rfl ?_
              refine z_iload O dX4_canCome_80 rfl ?_
              refine z_V1e0 O (m_yearOf h g hN (by omega) hn6) mX4_yearOf lkX4_231 rfl (by rfl) dX4_canCome_82 (Nat.le_of_ble_eq_true rfl) (by decide) ?_
              refine z_aload_n O dX4_canCome_85 rfl ?_
              refine z_iload_n O dX4_canCome_86 rfl ?_
              refine z_V1e0 O (m_yearOf h g hN (by omega) hn6) mX4_yearOf lkX4_231 rfl (by rfl) dX4_canCome_87 (Nat.le_of_ble_eq_true rfl) (by decide) ?_
              refine z_icmp_ltN O 97 dX4_canCome_90 (by decide) (by have h1 : yrN r nms e < 1048576 := g.1.1.1 _; have h2 : yrN r nms k < 1048576 := g.1.1.1 _; omega) (by have h1 : yrN r nms e < 1048576 := g.1.1.1 _; have h2 : yrN r nms k < 1048576 := g.1.1.1 _; omega) (fun h90 => ?_) (fun h90 => ?_)
              · refine z_iconst O (nI 0) dX4_canCome_97 (by decide) ?_
                refine z_istore_n (lv' := [(0, _), (1, _), (2, _), (3, _), (4, _), (5, _)]) O dX4_canCome_98 (by decide) rfl ?_
                refine z_iincN (lv' := [(0, _), (1, _), (2, _), (3, _), (4, _), (5, _)]) O 1 dX4_canCome_99 (by decide) rfl rfl (by decide) ?_
                refine z_goto O 17 dX4_canCome_102 (by decide) ?_
                refine z_kp (lv' := [(0, _), (1, _), (2, _), (3, _), (4, _)]) [0, 1, 2, 3, 4] rfl ?_
                first
                | (have hs : canB r nms S k (e + 1) = true := by rw [show canB r nms S k (e + 1) = (canB r nms S k e && (decide (bitN S e = 1) || (!decide (nms e / 10 = nms k / 10 ∧ e < k) && decide (yrN r nms k ≤ yrN r nms e)))) from rfl]; simp [h62, h71]
                   exact ih _ (by rw [bI_t hs]; rfl))
                | (have hs : canB r nms S k (e + 1) = true := by rw [show canB r nms S k (e + 1) = (canB r nms S k e && (decide (bitN S e = 1) || (!decide (nms e / 10 = nms k / 10 ∧ e < k) && decide (yrN r nms k ≤ yrN r nms e)))) from rfl]; simp [h62, hu, show yrN r nms k ≤ yrN r nms e by omega]
                   exact ih _ (by rw [bI_t hs]; rfl))
                | (have hs : ¬ canB r nms S k (e + 1) = true := by rw [show canB r nms S k (e + 1) = (canB r nms S k e && (decide (bitN S e = 1) || (!decide (nms e / 10 = nms k / 10 ∧ e < k) && decide (yrN r nms k ≤ yrN r nms e)))) from rfl]; simp [h62]
                   exact ih _ (by rw [bI_f hs]; rfl))
                | (have hs : ¬ canB r nms S k (e + 1) = true := by rw [show canB r nms S k (e + 1) = (canB r nms S k e && (decide (bitN S e = 1) || (!decide (nms e / 10 = nms k / 10 ∧ e < k) && decide (yrN r nms k ≤ yrN r nms e)))) from rfl]; simp [h62, h71, hu, show ¬ yrN r nms k ≤ yrN r nms e by omega]
                   exact ih _ (by rw [bI_f hs]; rfl))
              · refine z_iconst O (nI 1) dX4_canCome_93 (by decide) ?_
                refine z_goto O 98 dX4_canCome_94 (by decide) ?_
                refine z_istore_n (lv' := [(0, _), (1, _), (2, _), (3, _), (4, _), (5, _)]) O dX4_canCome_98 (by decide) rfl ?_
                refine z_iincN (lv' := [(0, _), (1, _), (2, _), (3, _), (4, _), (5, _)]) O 1 dX4_canCome_99 (by decide) rfl rfl (by decide) ?_
                refine z_goto O 17 dX4_canCome_102 (by decide) ?_
                refine z_kp (lv' := [(0, _), (1, _), (2, _), (3, _), (4, _)]) [0, 1, 2, 3, 4] rfl ?_
                first
                | (have hs : canB r nms S k (e + 1) = true := by rw [show canB r nms S k (e + 1) = (canB r nms S k e && (decide (bitN S e = 1) || (!decide (nms e / 10 = nms k / 10 ∧ e < k) && decide (yrN r nms k ≤ yrN r nms e)))) from rfl]; simp [h62, h71]
                   exact ih _ (by rw [bI_t hs]; rfl))
                | (have hs : canB r nms S k (e + 1) = true := by rw [show canB r nms S k (e + 1) = (canB r nms S k e && (decide (bitN S e = 1) || (!decide (nms e / 10 = nms k / 10 ∧ e < k) && decide (yrN r nms k ≤ yrN r nms e)))) from rfl]; simp [h62, hu, show yrN r nms k ≤ yrN r nms e by omega]
                   exact ih _ (by rw [bI_t hs]; rfl))
                | (have hs : ¬ canB r nms S k (e + 1) = true := by rw [show canB r nms S k (e + 1) = (canB r nms S k e && (decide (bitN S e = 1) || (!decide (nms e / 10 = nms k / 10 ∧ e < k) && decide (yrN r nms k ≤ yrN r nms e)))) from rfl]; simp [h62]
                   exact ih _ (by rw [bI_f hs]; rfl))
                | (have hs : ¬ canB r nms S k (e + 1) = true := by rw [show canB r nms S k (e + 1) = (canB r nms S k e && (decide (bitN S e = 1) || (!decide (nms e / 10 = nms k / 10 ∧ e < k) && decide (yrN r nms k ≤ yrN r nms e)))) from rfl]; simp [h62, h71, hu, show ¬ yrN r nms k ≤ yrN r nms e by omega]
                   exact ih _ (by rw [bI_f hs]; rfl))
  · refine z_iload_n O dX4_canCome_0 rfl ?_
    refine z_iload_n O dX4_canCome_1 rfl ?_
    refine z_S2e0 O (m_has (by omega) (by omega)) mX4_has lkX4_224 dX4_canCome_2 (Nat.le_of_ble_eq_true rfl) (by decide) ?_
    refine z_if_neB O 12 dX4_canCome_5 (by decide) (fun h5 => by exact absurd h5 hbk) (fun h5 => ?_)
    refine z_iconst O (nI 1) dX4_canCome_8 (by decide) ?_
    refine z_goto O 13 dX4_canCome_9 (by decide) ?_
    refine z_istore_n (lv' := [(0, _), (1, _), (2, _), (3, _)]) O dX4_canCome_13 (by decide) rfl ?_
    refine z_iconst O (nI 0) dX4_canCome_14 (by decide) ?_
    refine z_istore (lv' := [(0, _), (1, _), (2, _), (3, _), (4, _)]) O dX4_canCome_15 (by decide) rfl ?_
    refine zdown (P := fun e => ∀ b : Int32, b = bI (canB r nms S k e = true) → Z G F 0 0 (zEnd G F (zE (.int (bI (canB r nms S k nd = true))) (yM G c0_ c1_ c2_ c3_ c4_ c5_ c6_ c7_ c8_ c9_ c10_ c11_ c12_ c13_ c14_ c15_ c16_ c17_ c18_ c19_ c20_ w kp tx txl rf ya yb at2 st2 iwd ifg nb fr la nms nd wf hh tl)) 0 0) 17 [(0, .ref (zad (zb G) 21)), (1, .int (nI S)), (2, .int (nI k)), (3, .int b), (4, .int (nI e))] [] (yM G c0_ c1_ c2_ c3_ c4_ c5_ c6_ c7_ c8_ c9_ c10_ c11_ c12_ c13_ c14_ c15_ c16_ c17_ c18_ c19_ c20_ w kp tx txl rf ya yb at2 st2 iwd ifg nb fr la nms nd wf hh tl)) (nd) ?_ ?_ _ (by rw [bI_t (show canB r nms S k 0 = true by simp [canB, hbk])]; rfl)
    · intro b hb
      subst hb
      refine z_iload O dX4_canCome_17 rfl ?_
      refine z_aload_n O dX4_canCome_19 rfl ?_
      refine z_get O dX4_canCome_20 flX4_228 (by rfl) (by rfl) ?_
      refine z_icmp_geN O 105 dX4_canCome_23 (by decide) (by omega) (by omega) (fun h23 => ?_) (fun h23 => by omega)
      refine z_iload_n O dX4_canCome_105 rfl ?_
      exact z_zret O dX4_canCome_106 bI_nar ⟨rfl, rfl⟩
    · intro e he ih b hb
      subst hb
      refine z_iload O dX4_canCome_17 rfl ?_
      refine z_aload_n O dX4_canCome_19 rfl ?_
      refine z_get O dX4_canCome_20 flX4_228 (by rfl) (by rfl) ?_
      refine z_icmp_geN O 105 dX4_canCome_23 (by decide) (by omega) (by omega) (fun h23 => by omega) (fun h23 => ?_)
      by_cases hu : nms e / 10 = nms k / 10 ∧ e < k
      · refine z_aload_n O dX4_canCome_26 rfl ?_
        refine z_get O dX4_canCome_27 flX4_33 (by rfl) (by rfl) ?_
        refine z_iload O dX4_canCome_30 rfl ?_
        refine z_ialdN O dX4_canCome_32 (by rfl) (by omega) (by decide) ?_
        refine z_bipush O (nI 10) dX4_canCome_33 (by decide) ?_
        refine z_idivN O dX4_canCome_35 (by have h1 := nm_b hN g.1.1 (show e < darnsM r m 9 by omega); have h2 := nm_b hN g.1.1 (show k < darnsM r m 9 by omega); omega) (by have h1 := nm_b hN g.1.1 (show e < darnsM r m 9 by omega); have h2 := nm_b hN g.1.1 (show k < darnsM r m 9 by omega); omega) (by have h1 := nm_b hN g.1.1 (show e < darnsM r m 9 by omega); have h2 := nm_b hN g.1.1 (show k < darnsM r m 9 by omega); omega) ?_
        refine z_aload_n O dX4_canCome_36 rfl ?_
        refine z_get O dX4_canCome_37 flX4_33 (by rfl) (by rfl) ?_
        refine z_iload_n O dX4_canCome_40 rfl ?_
        refine z_ialdN O dX4_canCome_41 (by rfl) (by omega) (by decide) ?_
        refine z_bipush O (nI 10) dX4_canCome_42 (by decide) ?_
        refine z_idivN O dX4_canCome_44 (by have h1 := nm_b hN g.1.1 (show e < darnsM r m 9 by omega); have h2 := nm_b hN g.1.1 (show k < darnsM r m 9 by omega); omega) (by have h1 := nm_b hN g.1.1 (show e < darnsM r m 9 by omega); have h2 := nm_b hN g.1.1 (show k < darnsM r m 9 by omega); omega) (by have h1 := nm_b hN g.1.1 (show e < darnsM r m 9 by omega); have h2 := nm_b hN g.1.1 (show k < darnsM r m 9 by omega); omega) ?_
        refine z_icmp_neN O 58 dX4_canCome_45 (by decide) (by have h1 := nm_b hN g.1.1 (show e < darnsM r m 9 by omega); have h2 := nm_b hN g.1.1 (show k < darnsM r m 9 by omega); omega) (by have h1 := nm_b hN g.1.1 (show e < darnsM r m 9 by omega); have h2 := nm_b hN g.1.1 (show k < darnsM r m 9 by omega); omega) (fun h45 => by exact absurd hu.1 h45) (fun h45 => ?_)
        refine z_iload O dX4_canCome_48 rfl ?_
        refine z_iload_n O dX4_canCome_50 rfl ?_
        refine z_icmp_geN O 58 dX4_canCome_51 (by decide) (by omega) (by omega) (fun h51 => by omega) (fun h51 => ?_)
        refine z_iconst O (nI 1) dX4_canCome_54 (by decide) ?_
        refine z_goto O 59 dX4_canCome_55 (by decide) ?_
        refine z_istore (lv' := [(0, _), (1, _), (2, _), (3, _), (4, _), (5, _)]) O dX4_canCome_59 (by decide) rfl ?_
        refine z_iload_n O dX4_canCome_61 rfl ?_
        refine z_if_eqB O 97 dX4_canCome_62 (by decide) (fun h62 => ?_) (fun h62 => ?_)
        · refine z_iconst O (nI 0) dX4_canCome_97 (by decide) ?_
          refine z_istore_n (lv' := [(0, _), (1, _), (2, _), (3, _), (4, _), (5, _)]) O dX4_canCome_98 (by decide) rfl ?_
          refine z_iincN (lv' := [(0, _), (1, _), (2, _), (3, _), (4, _), (5, _)]) O 1 dX4_canCome_99 (by decide) rfl rfl (by decide) ?_
          refine z_goto O 17 dX4_canCome_102 (by decide) ?_
          refine z_kp (lv' := [(0, _), (1, _), (2, _), (3, _), (4, _)]) [0, 1, 2, 3, 4] rfl ?_
          first
          | (have hs : canB r nms S k (e + 1) = true := by rw [show canB r nms S k (e + 1) = (canB r nms S k e && (decide (bitN S e = 1) || (!decide (nms e / 10 = nms k / 10 ∧ e < k) && decide (yrN r nms k ≤ yrN r nms e)))) from rfl]; simp [h62, h71]
             exact ih _ (by rw [bI_t hs]; rfl))
          | (have hs : ¬ canB r nms S k (e + 1) = true := by rw [show canB r nms S k (e + 1) = (canB r nms S k e && (decide (bitN S e = 1) || (!decide (nms e / 10 = nms k / 10 ∧ e < k) && decide (yrN r nms k ≤ yrN r nms e)))) from rfl]; simp [h62]
             exact ih _ (by rw [bI_f hs]; rfl))
          | (have hs : ¬ canB r nms S k (e + 1) = true := by rw [show canB r nms S k (e + 1) = (canB r nms S k e && (decide (bitN S e = 1) || (!decide (nms e / 10 = nms k / 10 ∧ e < k) && decide (yrN r nms k ≤ yrN r nms e)))) from rfl]; simp [h62, h71, hu]
             exact ih _ (by rw [bI_f hs]; rfl))
        · refine z_iload_n O dX4_canCome_65 rfl ?_
          refine z_iload O dX4_canCome_66 rfl ?_
          refine z_S2e0 O (m_has (by omega) (by omega)) mX4_has lkX4_224 dX4_canCome_68 (Nat.le_of_ble_eq_true rfl) (by decide) ?_
          refine z_if_neB O 93 dX4_canCome_71 (by decide) (fun h71 => ?_) (fun h71 => ?_)
          · refine z_iconst O (nI 1) dX4_canCome_93 (by decide) ?_
            refine z_goto O 98 dX4_canCome_94 (by decide) ?_
            refine z_istore_n (lv' := [(0, _), (1, _), (2, _), (3, _), (4, _), (5, _)]) O dX4_canCome_98 (by decide) rfl ?_
            refine z_iincN (lv' := [(0, _), (1, _), (2, _), (3, _), (4, _), (5, _)]) O 1 dX4_canCome_99 (by decide) rfl rfl (by decide) ?_
            refine z_goto O 17 dX4_canCome_102 (by decide) ?_
            refine z_kp (lv' := [(0, _), (1, _), (2, _), (3, _), (4, _)]) [0, 1, 2, 3, 4] rfl ?_
            first
            | (have hs : canB r nms S k (e + 1) = true := by rw [show canB r nms S k (e + 1) = (canB r nms S k e && (decide (bitN S e = 1) || (!decide (nms e / 10 = nms k / 10 ∧ e < k) && decide (yrN r nms k ≤ yrN r nms e)))) from rfl]; simp [h62, h71]
               exact ih _ (by rw [bI_t hs]; rfl))
            | (have hs : ¬ canB r nms S k (e + 1) = true := by rw [show canB r nms S k (e + 1) = (canB r nms S k e && (decide (bitN S e = 1) || (!decide (nms e / 10 = nms k / 10 ∧ e < k) && decide (yrN r nms k ≤ yrN r nms e)))) from rfl]; simp [h62]
               exact ih _ (by rw [bI_f hs]; rfl))
            | (have hs : ¬ canB r nms S k (e + 1) = true := by rw [show canB r nms S k (e + 1) = (canB r nms S k e && (decide (bitN S e = 1) || (!decide (nms e / 10 = nms k / 10 ∧ e < k) && decide (yrN r nms k ≤ yrN r nms e)))) from rfl]; simp [h62, h71, hu]
               exact ih _ (by rw [bI_f hs]; rfl))
          · refine z_iload O dX4_canCome_74 rfl ?_
            refine z_if_neN O 97 dX4_canCome_76 (by decide) (by omega) (fun h76 => ?_) (fun h76 => by omega)
            refine z_iconst O (nI 0) dX4_canCome_97 (by decide) ?_
            refine z_istore_n (lv' := [(0, _), (1, _), (2, _), (3, _), (4, _), (5, _)]) O dX4_canCome_98 (by decide) rfl ?_
            refine z_iincN (lv' := [(0, _), (1, _), (2, _), (3, _), (4, _), (5, _)]) O 1 dX4_canCome_99 (by decide) rfl rfl (by decide) ?_
            refine z_goto O 17 dX4_canCome_102 (by decide) ?_
            refine z_kp (lv' := [(0, _), (1, _), (2, _), (3, _), (4, _)]) [0, 1, 2, 3, 4] rfl ?_
            first
            | (have hs : canB r nms S k (e + 1) = true := by rw [show canB r nms S k (e + 1) = (canB r nms S k e && (decide (bitN S e = 1) || (!decide (nms e / 10 = nms k / 10 ∧ e < k) && decide (yrN r nms k ≤ yrN r nms e)))) from rfl]; simp [h62, h71]
               exact ih _ (by rw [bI_t hs]; rfl))
            | (have hs : ¬ canB r nms S k (e + 1) = true := by rw [show canB r nms S k (e + 1) = (canB r nms S k e && (decide (bitN S e = 1) || (!decide (nms e / 10 = nms k / 10 ∧ e < k) && decide (yrN r nms k ≤ yrN r nms e)))) from rfl]; simp [h62]
               exact ih _ (by rw [bI_f hs]; rfl))
            | (have hs : ¬ canB r nms S k (e + 1) = true := by rw [show canB r nms S k (e + 1) = (canB r nms S k e && (decide (bitN S e = 1) || (!decide (nms e / 10 = nms k / 10 ∧ e < k) && decide (yrN r nms k ≤ yrN r nms e)))) from rfl]; simp [h62, h71, hu]
               exact ih _ (by rw [bI_f hs]; rfl))
      · refine z_aload_n O dX4_canCome_26 rfl ?_
        refine z_get O dX4_canCome_27 flX4_33 (by rfl) (by rfl) ?_
        refine z_iload O dX4_canCome_30 rfl ?_
        refine z_ialdN O dX4_canCome_32 (by rfl) (by omega) (by decide) ?_
        refine z_bipush O (nI 10) dX4_canCome_33 (by decide) ?_
        refine z_idivN O dX4_canCome_35 (by have h1 := nm_b hN g.1.1 (show e < darnsM r m 9 by omega); have h2 := nm_b hN g.1.1 (show k < darnsM r m 9 by omega); omega) (by have h1 := nm_b hN g.1.1 (show e < darnsM r m 9 by omega); have h2 := nm_b hN g.1.1 (show k < darnsM r m 9 by omega); omega) (by have h1 := nm_b hN g.1.1 (show e < darnsM r m 9 by omega); have h2 := nm_b hN g.1.1 (show k < darnsM r m 9 by omega); omega) ?_
        refine z_aload_n O dX4_canCome_36 rfl ?_
        refine z_get O dX4_canCome_37 flX4_33 (by rfl) (by rfl) ?_
        refine z_iload_n O dX4_canCome_40 rfl ?_
        refine z_ialdN O dX4_canCome_41 (by rfl) (by omega) (by decide) ?_
        refine z_bipush O (nI 10) dX4_canCome_42 (by decide) ?_
        refine z_idivN O dX4_canCome_44 (by have h1 := nm_b hN g.1.1 (show e < darnsM r m 9 by omega); have h2 := nm_b hN g.1.1 (show k < darnsM r m 9 by omega); omega) (by have h1 := nm_b hN g.1.1 (show e < darnsM r m 9 by omega); have h2 := nm_b hN g.1.1 (show k < darnsM r m 9 by omega); omega) (by have h1 := nm_b hN g.1.1 (show e < darnsM r m 9 by omega); have h2 := nm_b hN g.1.1 (show k < darnsM r m 9 by omega); omega) ?_
        refine z_icmp_neN O 58 dX4_canCome_45 (by decide) (by have h1 := nm_b hN g.1.1 (show e < darnsM r m 9 by omega); have h2 := nm_b hN g.1.1 (show k < darnsM r m 9 by omega); omega) (by have h1 := nm_b hN g.1.1 (show e < darnsM r m 9 by omega); have h2 := nm_b hN g.1.1 (show k < darnsM r m 9 by omega); omega) (fun h45 => ?_) (fun h45 => ?_)
        · refine z_iconst O (nI 0) dX4_canCome_58 (by decide) ?_
          refine z_istore (lv' := [(0, _), (1, _), (2, _), (3, _), (4, _), (5, _)]) O dX4_canCome_59 (by decide) rfl ?_
          refine z_iload_n O dX4_canCome_61 rfl ?_
          refine z_if_eqB O 97 dX4_canCome_62 (by decide) (fun h62 => ?_) (fun h62 => ?_)
          · refine z_iconst O (nI 0) dX4_canCome_97 (by decide) ?_
            refine z_istore_n (lv' := [(0, _), (1, _), (2, _), (3, _), (4, _), (5, _)]) O dX4_canCome_98 (by decide) rfl ?_
            refine z_iincN (lv' := [(0, _), (1, _), (2, _), (3, _), (4, _), (5, _)]) O 1 dX4_canCome_99 (by decide) rfl rfl (by decide) ?_
            refine z_goto O 17 dX4_canCome_102 (by decide) ?_
            refine z_kp (lv' := [(0, _), (1, _), (2, _), (3, _), (4, _)]) [0, 1, 2, 3, 4] rfl ?_
            first
            | (have hs : canB r nms S k (e + 1) = true := by rw [show canB r nms S k (e + 1) = (canB r nms S k e && (decide (bitN S e = 1) || (!decide (nms e / 10 = nms k / 10 ∧ e < k) && decide (yrN r nms k ≤ yrN r nms e)))) from rfl]; simp [h62, h71]
               exact ih _ (by rw [bI_t hs]; rfl))
            | (have hs : canB r nms S k (e + 1) = true := by rw [show canB r nms S k (e + 1) = (canB r nms S k e && (decide (bitN S e = 1) || (!decide (nms e / 10 = nms k / 10 ∧ e < k) && decide (yrN r nms k ≤ yrN r nms e)))) from rfl]; simp [h62, hu, show yrN r nms k ≤ yrN r nms e by omega]
               exact ih _ (by rw [bI_t hs]; rfl))
            | (have hs : ¬ canB r nms S k (e + 1) = true := by rw [show canB r nms S k (e + 1) = (canB r nms S k e && (decide (bitN S e = 1) || (!decide (nms e / 10 = nms k / 10 ∧ e < k) && decide (yrN r nms k ≤ yrN r nms e)))) from rfl]; simp [h62]
               exact ih _ (by rw [bI_f hs]; rfl))
            | (have hs : ¬ canB r nms S k (e + 1) = true := by rw [show canB r nms S k (e + 1) = (canB r nms S k e && (decide (bitN S e = 1) || (!decide (nms e / 10 = nms k / 10 ∧ e < k) && decide (yrN r nms k ≤ yrN r nms e)))) from rfl]; simp [h62, h71, hu, show ¬ yrN r nms k ≤ yrN r nms e by omega]
               exact ih _ (by rw [bI_f hs]; rfl))
          · refine z_iload_n O dX4_canCome_65 rfl ?_
            refine z_iload O dX4_canCome_66 rfl ?_
            refine z_S2e0 O (m_has (by omega) (by omega)) mX4_has lkX4_224 dX4_canCome_68 (Nat.le_of_ble_eq_true rfl) (by decide) ?_
            refine z_if_neB O 93 dX4_canCome_71 (by decide) (fun h71 => ?_) (fun h71 => ?_)
            · refine z_iconst O (nI 1) dX4_canCome_93 (by decide) ?_
              refine z_goto O 98 dX4_canCome_94 (by decide) ?_
              refine z_istore_n (lv' := [(0, _), (1, _), (2, _), (3, _), (4, _), (5, _)]) O dX4_canCome_98 (by decide) rfl ?_
              refine z_iincN (lv' := [(0, _), (1, _), (2, _), (3, _), (4, _), (5, _)]) O 1 dX4_canCome_99 (by decide) rfl rfl (by decide) ?_
              refine z_goto O 17 dX4_canCome_102 (by decide) ?_
              refine z_kp (lv' := [(0, _), (1, _), (2, _), (3, _), (4, _)]) [0, 1, 2, 3, 4] rfl ?_
              first
              | (have hs : canB r nms S k (e + 1) = true := by rw [show canB r nms S k (e + 1) = (canB r nms S k e && (decide (bitN S e = 1) || (!decide (nms e / 10 = nms k / 10 ∧ e < k) && decide (yrN r nms k ≤ yrN r nms e)))) from rfl]; simp [h62, h71]
                 exact ih _ (by rw [bI_t hs]; rfl))
              | (have hs : canB r nms S k (e + 1) = true := by rw [show canB r nms S k (e + 1) = (canB r nms S k e && (decide (bitN S e = 1) || (!decide (nms e / 10 = nms k / 10 ∧ e < k) && decide (yrN r nms k ≤ yrN r nms e)))) from rfl]; simp [h62, hu, show yrN r nms k ≤ yrN r nms e by omega]
                 exact ih _ (by rw [bI_t hs]; rfl))
              | (have hs : ¬ canB r nms S k (e + 1) = true := by rw [show canB r nms S k (e + 1) = (canB r nms S k e && (decide (bitN S e = 1) || (!decide (nms e / 10 = nms k / 10 ∧ e < k) && decide (yrN r nms k ≤ yrN r nms e)))) from rfl]; simp [h62]
                 exact ih _ (by rw [bI_f hs]; rfl))
              | (have hs : ¬ canB r nms S k (e + 1) = true := by rw [show canB r nms S k (e + 1) = (canB r nms S k e && (decide (bitN S e = 1) || (!decide (nms e / 10 = nms k / 10 ∧ e < k) && decide (yrN r nms k ≤ yrN r nms e)))) from rfl]; simp [h62, h71, hu, show ¬ yrN r nms k ≤ yrN r nms e by omega]
                 exact ih _ (by rw [bI_f hs]; rfl))
            · refine z_iload O dX4_canCome_74 rfl ?_
              refine z_if_neN O 97 dX4_canCome_76 (by decide) (by omega) (fun h76 => by omega) (fun h76 => ?_)
              refine z_aload_n O dX4_canCome_79 rfl ?_
              refine z_iload O dX4_canCome_80 rfl ?_
              refine z_V1e0 O (m_yearOf h g hN (by omega) hn6) mX4_yearOf lkX4_231 rfl (by rfl) dX4_canCome_82 (Nat.le_of_ble_eq_true rfl) (by decide) ?_
              refine z_aload_n O dX4_canCome_85 rfl ?_
              refine z_iload_n O dX4_canCome_86 rfl ?_
              refine z_V1e0 O (m_yearOf h g hN (by omega) hn6) mX4_yearOf lkX4_231 rfl (by rfl) dX4_canCome_87 (Nat.le_of_ble_eq_true rfl) (by decide) ?_
              refine z_icmp_ltN O 97 dX4_canCome_90 (by decide) (by have h1 : yrN r nms e < 1048576 := g.1.1.1 _; have h2 : yrN r nms k < 1048576 := g.1.1.1 _; omega) (by have h1 : yrN r nms e < 1048576 := g.1.1.1 _; have h2 : yrN r nms k < 1048576 := g.1.1.1 _; omega) (fun h90 => ?_) (fun h90 => ?_)
              · refine z_iconst O (nI 0) dX4_canCome_97 (by decide) ?_
                refine z_istore_n (lv' := [(0, _), (1, _), (2, _), (3, _), (4, _), (5, _)]) O dX4_canCome_98 (by decide) rfl ?_
                refine z_iincN (lv' := [(0, _), (1, _), (2, _), (3, _), (4, _), (5, _)]) O 1 dX4_canCome_99 (by decide) rfl rfl (by decide) ?_
                refine z_goto O 17 dX4_canCome_102 (by decide) ?_
                refine z_kp (lv' := [(0, _), (1, _), (2, _), (3, _), (4, _)]) [0, 1, 2, 3, 4] rfl ?_
                first
                | (have hs : canB r nms S k (e + 1) = true := by rw [show canB r nms S k (e + 1) = (canB r nms S k e && (decide (bitN S e = 1) || (!decide (nms e / 10 = nms k / 10 ∧ e < k) && decide (yrN r nms k ≤ yrN r nms e)))) from rfl]; simp [h62, h71]
                   exact ih _ (by rw [bI_t hs]; rfl))
                | (have hs : canB r nms S k (e + 1) = true := by rw [show canB r nms S k (e + 1) = (canB r nms S k e && (decide (bitN S e = 1) || (!decide (nms e / 10 = nms k / 10 ∧ e < k) && decide (yrN r nms k ≤ yrN r nms e)))) from rfl]; simp [h62, hu, show yrN r nms k ≤ yrN r nms e by omega]
                   exact ih _ (by rw [bI_t hs]; rfl))
                | (have hs : ¬ canB r nms S k (e + 1) = true := by rw [show canB r nms S k (e + 1) = (canB r nms S k e && (decide (bitN S e = 1) || (!decide (nms e / 10 = nms k / 10 ∧ e < k) && decide (yrN r nms k ≤ yrN r nms e)))) from rfl]; simp [h62]
                   exact ih _ (by rw [bI_f hs]; rfl))
                | (have hs : ¬ canB r nms S k (e + 1) = true := by rw [show canB r nms S k (e + 1) = (canB r nms S k e && (decide (bitN S e = 1) || (!decide (nms e / 10 = nms k / 10 ∧ e < k) && decide (yrN r nms k ≤ yrN r nms e)))) from rfl]; simp [h62, h71, hu, show ¬ yrN r nms k ≤ yrN r nms e by omega]
                   exact ih _ (by rw [bI_f hs]; rfl))
              · refine z_iconst O (nI 1) dX4_canCome_93 (by decide) ?_
                refine z_goto O 98 dX4_canCome_94 (by decide) ?_
                refine z_istore_n (lv' := [(0, _), (1, _), (2, _), (3, _), (4, _), (5, _)]) O dX4_canCome_98 (by decide) rfl ?_
                refine z_iincN (lv' := [(0, _), (1, _), (2, _), (3, _), (4, _), (5, _)]) O 1 dX4_canCome_99 (by decide) rfl rfl (by decide) ?_
                refine z_goto O 17 dX4_canCome_102 (by decide) ?_
                refine z_kp (lv' := [(0, _), (1, _), (2, _), (3, _), (4, _)]) [0, 1, 2, 3, 4] rfl ?_
                first
                | (have hs : canB r nms S k (e + 1) = true := by rw [show canB r nms S k (e + 1) = (canB r nms S k e && (decide (bitN S e = 1) || (!decide (nms e / 10 = nms k / 10 ∧ e < k) && decide (yrN r nms k ≤ yrN r nms e)))) from rfl]; simp [h62, h71]
                   exact ih _ (by rw [bI_t hs]; rfl))
                | (have hs : canB r nms S k (e + 1) = true := by rw [show canB r nms S k (e + 1) = (canB r nms S k e && (decide (bitN S e = 1) || (!decide (nms e / 10 = nms k / 10 ∧ e < k) && decide (yrN r nms k ≤ yrN r nms e)))) from rfl]; simp [h62, hu, show yrN r nms k ≤ yrN r nms e by omega]
                   exact ih _ (by rw [bI_t hs]; rfl))
                | (have hs : ¬ canB r nms S k (e + 1) = true := by rw [show canB r nms S k (e + 1) = (canB r nms S k e && (decide (bitN S e = 1) || (!decide (nms e / 10 = nms k / 10 ∧ e < k) && decide (yrN r nms k ≤ yrN r nms e)))) from rfl]; simp [h62]
                   exact ih _ (by rw [bI_f hs]; rfl))
                | (have hs : ¬ canB r nms S k (e + 1) = true := by rw [show canB r nms S k (e + 1) = (canB r nms S k e && (decide (bitN S e = 1) || (!decide (nms e / 10 = nms k / 10 ∧ e < k) && decide (yrN r nms k ≤ yrN r nms e)))) from rfl]; simp [h62, h71, hu, show ¬ yrN r nms k ≤ yrN r nms e by omega]
                   exact ih _ (by rw [bI_f hs]; rfl))
        · refine z_iload O dX4_canCome_48 rfl ?_
          refine z_iload_n O dX4_canCome_50 rfl ?_
          refine z_icmp_geN O 58 dX4_canCome_51 (by decide) (by omega) (by omega) (fun h51 => ?_) (fun h51 => by exact absurd ⟨h45, by omega⟩ hu)
          refine z_iconst O (nI 0) dX4_canCome_58 (by decide) ?_
          refine z_istore (lv' := [(0, _), (1, _), (2, _), (3, _), (4, _), (5, _)]) O dX4_canCome_59 (by decide) rfl ?_
          refine z_iload_n O dX4_canCome_61 rfl ?_
          refine z_if_eqB O 97 dX4_canCome_62 (by decide) (fun h62 => ?_) (fun h62 => ?_)
          · refine z_iconst O (nI 0) dX4_canCome_97 (by decide) ?_
            refine z_istore_n (lv' := [(0, _), (1, _), (2, _), (3, _), (4, _), (5, _)]) O dX4_canCome_98 (by decide) rfl ?_
            refine z_iincN (lv' := [(0, _), (1, _), (2, _), (3, _), (4, _), (5, _)]) O 1 dX4_canCome_99 (by decide) rfl rfl (by decide) ?_
            refine z_goto O 17 dX4_canCome_102 (by decide) ?_
            refine z_kp (lv' := [(0, _), (1, _), (2, _), (3, _), (4, _)]) [0, 1, 2, 3, 4] rfl ?_
            first
            | (have hs : canB r nms S k (e + 1) = true := by rw [show canB r nms S k (e + 1) = (canB r nms S k e && (decide (bitN S e = 1) || (!decide (nms e / 10 = nms k / 10 ∧ e < k) && decide (yrN r nms k ≤ yrN r nms e)))) from rfl]; simp [h62, h71]
               exact ih _ (by rw [bI_t hs]; rfl))
            | (have hs : canB r nms S k (e + 1) = true := by rw [show canB r nms S k (e + 1) = (canB r nms S k e && (decide (bitN S e = 1) || (!decide (nms e / 10 = nms k / 10 ∧ e < k) && decide (yrN r nms k ≤ yrN r nms e)))) from rfl]; simp [h62, hu, show yrN r nms k ≤ yrN r nms e by omega]
               exact ih _ (by rw [bI_t hs]; rfl))
            | (have hs : ¬ canB r nms S k (e + 1) = true := by rw [show canB r nms S k (e + 1) = (canB r nms S k e && (decide (bitN S e = 1) || (!decide (nms e / 10 = nms k / 10 ∧ e < k) && decide (yrN r nms k ≤ yrN r nms e)))) from rfl]; simp [h62]
               exact ih _ (by rw [bI_f hs]; rfl))
            | (have hs : ¬ canB r nms S k (e + 1) = true := by rw [show canB r nms S k (e + 1) = (canB r nms S k e && (decide (bitN S e = 1) || (!decide (nms e / 10 = nms k / 10 ∧ e < k) && decide (yrN r nms k ≤ yrN r nms e)))) from rfl]; simp [h62, h71, hu, show ¬ yrN r nms k ≤ yrN r nms e by omega]
               exact ih _ (by rw [bI_f hs]; rfl))
          · refine z_iload_n O dX4_canCome_65 rfl ?_
            refine z_iload O dX4_canCome_66 rfl ?_
            refine z_S2e0 O (m_has (by omega) (by omega)) mX4_has lkX4_224 dX4_canCome_68 (Nat.le_of_ble_eq_true rfl) (by decide) ?_
            refine z_if_neB O 93 dX4_canCome_71 (by decide) (fun h71 => ?_) (fun h71 => ?_)
            · refine z_iconst O (nI 1) dX4_canCome_93 (by decide) ?_
              refine z_goto O 98 dX4_canCome_94 (by decide) ?_
              refine z_istore_n (lv' := [(0, _), (1, _), (2, _), (3, _), (4, _), (5, _)]) O dX4_canCome_98 (by decide) rfl ?_
              refine z_iincN (lv' := [(0, _), (1, _), (2, _), (3, _), (4, _), (5, _)]) O 1 dX4_canCome_99 (by decide) rfl rfl (by decide) ?_
              refine z_goto O 17 dX4_canCome_102 (by decide) ?_
              refine z_kp (lv' := [(0, _), (1, _), (2, _), (3, _), (4, _)]) [0, 1, 2, 3, 4] rfl ?_
              first
              | (have hs : canB r nms S k (e + 1) = true := by rw [show canB r nms S k (e + 1) = (canB r nms S k e && (decide (bitN S e = 1) || (!decide (nms e / 10 = nms k / 10 ∧ e < k) && decide (yrN r nms k ≤ yrN r nms e)))) from rfl]; simp [h62, h71]
                 exact ih _ (by rw [bI_t hs]; rfl))
              | (have hs : canB r nms S k (e + 1) = true := by rw [show canB r nms S k (e + 1) = (canB r nms S k e && (decide (bitN S e = 1) || (!decide (nms e / 10 = nms k / 10 ∧ e < k) && decide (yrN r nms k ≤ yrN r nms e)))) from rfl]; simp [h62, hu, show yrN r nms k ≤ yrN r nms e by omega]
                 exact ih _ (by rw [bI_t hs]; rfl))
              | (have hs : ¬ canB r nms S k (e + 1) = true := by rw [show canB r nms S k (e + 1) = (canB r nms S k e && (decide (bitN S e = 1) || (!decide (nms e / 10 = nms k / 10 ∧ e < k) && decide (yrN r nms k ≤ yrN r nms e)))) from rfl]; simp [h62]
                 exact ih _ (by rw [bI_f hs]; rfl))
              | (have hs : ¬ canB r nms S k (e + 1) = true := by rw [show canB r nms S k (e + 1) = (canB r nms S k e && (decide (bitN S e = 1) || (!decide (nms e / 10 = nms k / 10 ∧ e < k) && decide (yrN r nms k ≤ yrN r nms e)))) from rfl]; simp [h62, h71, hu, show ¬ yrN r nms k ≤ yrN r nms e by omega]
                 exact ih _ (by rw [bI_f hs]; rfl))
            · refine z_iload O dX4_canCome_74 rfl ?_
              refine z_if_neN O 97 dX4_canCome_76 (by decide) (by omega) (fun h76 => by omega) (fun h76 => ?_)
              refine z_aload_n O dX4_canCome_79 rfl ?_
              refine z_iload O dX4_canCome_80 rfl ?_
              refine z_V1e0 O (m_yearOf h g hN (by omega) hn6) mX4_yearOf lkX4_231 rfl (by rfl) dX4_canCome_82 (Nat.le_of_ble_eq_true rfl) (by decide) ?_
              refine z_aload_n O dX4_canCome_85 rfl ?_
              refine z_iload_n O dX4_canCome_86 rfl ?_
              refine z_V1e0 O (m_yearOf h g hN (by omega) hn6) mX4_yearOf lkX4_231 rfl (by rfl) dX4_canCome_87 (Nat.le_of_ble_eq_true rfl) (by decide) ?_
              refine z_icmp_ltN O 97 dX4_canCome_90 (by decide) (by have h1 : yrN r nms e < 1048576 := g.1.1.1 _; have h2 : yrN r nms k < 1048576 := g.1.1.1 _; omega) (by have h1 : yrN r nms e < 1048576 := g.1.1.1 _; have h2 : yrN r nms k < 1048576 := g.1.1.1 _; omega) (fun h90 => ?_) (fun h90 => ?_)
              · refine z_iconst O (nI 0) dX4_canCome_97 (by decide) ?_
                refine z_istore_n (lv' := [(0, _), (1, _), (2, _), (3, _), (4, _), (5, _)]) O dX4_canCome_98 (by decide) rfl ?_
                refine z_iincN (lv' := [(0, _), (1, _), (2, _), (3, _), (4, _), (5, _)]) O 1 dX4_canCome_99 (by decide) rfl rfl (by decide) ?_
                refine z_goto O 17 dX4_canCome_102 (by decide) ?_
                refine z_kp (lv' := [(0, _), (1, _), (2, _), (3, _), (4, _)]) [0, 1, 2, 3, 4] rfl ?_
                first
                | (have hs : canB r nms S k (e + 1) = true := by rw [show canB r nms S k (e + 1) = (canB r nms S k e && (decide (bitN S e = 1) || (!decide (nms e / 10 = nms k / 10 ∧ e < k) && decide (yrN r nms k ≤ yrN r nms e)))) from rfl]; simp [h62, h71]
                   exact ih _ (by rw [bI_t hs]; rfl))
                | (have hs : canB r nms S k (e + 1) = true := by rw [show canB r nms S k (e + 1) = (canB r nms S k e && (decide (bitN S e = 1) || (!decide (nms e / 10 = nms k / 10 ∧ e < k) && decide (yrN r nms k ≤ yrN r nms e)))) from rfl]; simp [h62, hu, show yrN r nms k ≤ yrN r nms e by omega]
                   exact ih _ (by rw [bI_t hs]; rfl))
                | (have hs : ¬ canB r nms S k (e + 1) = true := by rw [show canB r nms S k (e + 1) = (canB r nms S k e && (decide (bitN S e = 1) || (!decide (nms e / 10 = nms k / 10 ∧ e < k) && decide (yrN r nms k ≤ yrN r nms e)))) from rfl]; simp [h62]
                   exact ih _ (by rw [bI_f hs]; rfl))
                | (have hs : ¬ canB r nms S k (e + 1) = true := by rw [show canB r nms S k (e + 1) = (canB r nms S k e && (decide (bitN S e = 1) || (!decide (nms e / 10 = nms k / 10 ∧ e < k) && decide (yrN r nms k ≤ yrN r nms e)))) from rfl]; simp [h62, h71, hu, show ¬ yrN r nms k ≤ yrN r nms e by omega]
                   exact ih _ (by rw [bI_f hs]; rfl))
              · refine z_iconst O (nI 1) dX4_canCome_93 (by decide) ?_
                refine z_goto O 98 dX4_canCome_94 (by decide) ?_
                refine z_istore_n (lv' := [(0, _), (1, _), (2, _), (3, _), (4, _), (5, _)]) O dX4_canCome_98 (by decide) rfl ?_
                refine z_iincN (lv' := [(0, _), (1, _), (2, _), (3, _), (4, _), (5, _)]) O 1 dX4_canCome_99 (by decide) rfl rfl (by decide) ?_
                refine z_goto O 17 dX4_canCome_102 (by decide) ?_
                refine z_kp (lv' := [(0, _), (1, _), (2, _), (3, _), (4, _)]) [0, 1, 2, 3, 4] rfl ?_
                first
                | (have hs : canB r nms S k (e + 1) = true := by rw [show canB r nms S k (e + 1) = (canB r nms S k e && (decide (bitN S e = 1) || (!decide (nms e / 10 = nms k / 10 ∧ e < k) && decide (yrN r nms k ≤ yrN r nms e)))) from rfl]; simp [h62, h71]
                   exact ih _ (by rw [bI_t hs]; rfl))
                | (have hs : canB r nms S k (e + 1) = true := by rw [show canB r nms S k (e + 1) = (canB r nms S k e && (decide (bitN S e = 1) || (!decide (nms e / 10 = nms k / 10 ∧ e < k) && decide (yrN r nms k ≤ yrN r nms e)))) from rfl]; simp [h62, hu, show yrN r nms k ≤ yrN r nms e by omega]
                   exact ih _ (by rw [bI_t hs]; rfl))
                | (have hs : ¬ canB r nms S k (e + 1) = true := by rw [show canB r nms S k (e + 1) = (canB r nms S k e && (decide (bitN S e = 1) || (!decide (nms e / 10 = nms k / 10 ∧ e < k) && decide (yrN r nms k ≤ yrN r nms e)))) from rfl]; simp [h62]
                   exact ih _ (by rw [bI_f hs]; rfl))
                | (have hs : ¬ canB r nms S k (e + 1) = true := by rw [show canB r nms S k (e + 1) = (canB r nms S k e && (decide (bitN S e = 1) || (!decide (nms e / 10 = nms k / 10 ∧ e < k) && decide (yrN r nms k ≤ yrN r nms e)))) from rfl]; simp [h62, h71, hu, show ¬ yrN r nms k ≤ yrN r nms e by omega]
                   exact ih _ (by rw [bI_f hs]; rfl))
set_option maxRecDepth 20000 in
set_option maxHeartbeats 4000000 in
theorem m_ordersB {m i : Int32} (hb : ¬ ((nI 0 ≤ m ∧ m ≤ nI 511) ∧ (-1) ≤ i)) : zS G 2 yX4_orders cX4_orders 9 (some .int) [.ref (zad (zb G) 21), .int m, .int i] (yM G c0_ c1_ c2_ c3_ c4_ c5_ c6_ c7_ c8_ c9_ c10_ c11_ c12_ c13_ c14_ c15_ c16_ c17_ c18_ c19_ c20_ w kp tx txl rf ya yb at2 st2 iwd ifg nb fr la nms nd wf hh tl) 0 0 (zE (.int (-10)) (yM G c0_ c1_ c2_ c3_ c4_ c5_ c6_ c7_ c8_ c9_ c10_ c11_ c12_ c13_ c14_ c15_ c16_ c17_ c18_ c19_ c20_ w kp tx txl (updN rf 0 (rf 0 + 1)) ya yb at2 st2 iwd ifg nb fr la nms nd wf hh tl)) := by
  refine zS.of (by decide) (Nat.le_of_ble_eq_true rfl) (fun F O hR1 hR2 => ?_)
  have O : zOk G F yX4_orders cX4_orders 9 (some .int) RX4 2 (yM G c0_ c1_ c2_ c3_ c4_ c5_ c6_ c7_ c8_ c9_ c10_ c11_ c12_ c13_ c14_ c15_ c16_ c17_ c18_ c19_ c20_ w kp tx txl rf ya yb at2 st2 iwd ifg nb fr la nms nd wf hh tl).length := O
  refine z_eq (lv' := [(0, _), (1, _), (2, _)]) rfl rfl rfl ?_
  refine z_iload_n O dX4_orders_0 rfl ?_
  refine z_i2l O dX4_orders_1 ?_
  refine z_lconst O (lN 0) dX4_orders_2 (by decide) ?_
  refine z_ldc2 O dX4_orders_3 klX4_234 ?_
  refine z_top (v' := .long (lN 511)) (by decide) ?_
  refine z_S3e0 O (m_inI (by decide) (by decide)) mX4_in lkX4_45 dX4_orders_6 (Nat.le_of_ble_eq_true rfl) (by decide) ?_
  refine z_if_eqB O 17 dX4_orders_9 (by decide) (fun h9 => ?_) (fun h9 => ?_)
  · refine z_aload_n O dX4_orders_17 rfl ?_
    refine z_bipush O (-10) dX4_orders_18 (by decide) ?_
    refine z_V1e0 O m_badAs mX4_badAs lkX4_236 rfl (by rfl) dX4_orders_20 (Nat.le_of_ble_eq_true rfl) (by decide) ?_
    exact z_iret O dX4_orders_23 ⟨rfl, rfl⟩
  · refine z_iload_n O dX4_orders_12 rfl ?_
    refine z_iconst O (-1) dX4_orders_13 (by decide) ?_
    refine z_icmp_ge O 24 dX4_orders_14 (by decide) (fun h14 => ?_) (fun h14 => ?_)
    · exact absurd ⟨h9, h14⟩ hb --stop
    · refine z_aload_n O dX4_orders_17 rfl ?_
      refine z_bipush O (-10) dX4_orders_18 (by decide) ?_
      refine z_V1e0 O m_badAs mX4_badAs lkX4_236 rfl (by rfl) dX4_orders_20 (Nat.le_of_ble_eq_true rfl) (by decide) ?_
      exact z_iret O dX4_orders_23 ⟨rfl, rfl⟩
set_option maxRecDepth 20000 in
set_option maxHeartbeats 4000000 in
theorem m_ordersN {we r seen kept : Nat → Nat} {rd nw ud Y : Nat} (h : RS w 0 we r seen kept rd nw ud) (g : GS Y we r seen kept rd nw ud) {m : Nat} (hm : m < 512) {i : Int32} (hi1 : (-1) ≤ i) (hdn : 6 < darnsM r m 9) : zS G 3 yX4_orders cX4_orders 9 (some .int) [.ref (zad (zb G) 21), .int (nI m), .int i] (yM G c0_ c1_ c2_ c3_ c4_ c5_ c6_ c7_ c8_ c9_ c10_ c11_ c12_ c13_ c14_ c15_ c16_ c17_ c18_ c19_ c20_ w kp tx txl rf ya yb at2 st2 iwd ifg nb fr la nms nd wf hh tl) 0 0 (zP (fun v M' => v = .int (-20) ∧ ∃ (nms' : Nat → Nat) (nd' : Nat), M' = (yM G c0_ c1_ c2_ c3_ c4_ c5_ c6_ c7_ c8_ c9_ c10_ c11_ c12_ c13_ c14_ c15_ c16_ c17_ c18_ c19_ c20_ w kp tx txl (updN rf 1 (rf 1 + 1)) ya yb at2 st2 iwd ifg nb fr la nms' nd' wf hh tl))) := by
  refine zS.of (by decide) (Nat.le_of_ble_eq_true rfl) (fun F O hR1 hR2 => ?_)
  have O : zOk G F yX4_orders cX4_orders 9 (some .int) RX4 3 (yM G c0_ c1_ c2_ c3_ c4_ c5_ c6_ c7_ c8_ c9_ c10_ c11_ c12_ c13_ c14_ c15_ c16_ c17_ c18_ c19_ c20_ w kp tx txl rf ya yb at2 st2 iwd ifg nb fr la nms nd wf hh tl).length := O
  refine z_eq (lv' := [(0, _), (1, _), (2, _)]) rfl rfl rfl ?_
  have dm9 : ∀ c, c ≤ 9 → darnsM r m c ≤ 3 * c := by
    intro c
    induction c with
    | zero => intro _; exact Nat.zero_le _
    | succ c ih =>
      intro hc
      have h3 := g.1.1.2 c (by omega)
      have := ih (by omega)
      unfold darnsM
      split <;> omega
  have hd9 := dm9 9 (by omega)
  refine z_iload_n O dX4_orders_0 rfl ?_
  refine z_i2lN O dX4_orders_1 (by omega) ?_
  refine z_lconst O (lN 0) dX4_orders_2 (by decide) ?_
  refine z_ldc2 O dX4_orders_3 klX4_234 ?_
  refine z_top (v' := .long (lN 511)) (by decide) ?_
  refine z_S3e0 O (m_inN (by omega) (by decide) (by decide)) mX4_in lkX4_45 dX4_orders_6 (Nat.le_of_ble_eq_true rfl) (by decide) ?_
  refine z_if_eqB O 17 dX4_orders_9 (by decide) (fun h9 => by omega) (fun h9 => ?_)
  refine z_iload_n O dX4_orders_12 rfl ?_
  refine z_iconst O (-1) dX4_orders_13 (by decide) ?_
  refine z_icmp_ge O 24 dX4_orders_14 (by decide) (fun h14 => ?_) (fun h14 => by exact absurd hi1 h14)
  refine z_aload_n O dX4_orders_24 rfl ?_
  refine z_iconst O (nI 0) dX4_orders_25 (by decide) ?_
  refine z_put O (by rfl) dX4_orders_26 flX4_228 (by rfl) rfl rfl (by simp) ?_
  refine z_M (show _ = (yM G c0_ c1_ c2_ c3_ c4_ c5_ c6_ c7_ c8_ c9_ c10_ c11_ c12_ c13_ c14_ c15_ c16_ c17_ c18_ c19_ c20_ w kp tx txl rf ya yb at2 st2 iwd ifg nb fr la nms (darnsM r m 0) wf hh tl) from rfl) ?_
  refine z_iconst O (nI 0) dX4_orders_29 (by decide) ?_
  refine z_istore_n (lv' := [(0, _), (1, _), (2, _), (3, _)]) O dX4_orders_30 (by decide) rfl ?_
  refine zdown (P := fun c => ∀ nms' : Nat → Nat, (∀ c' p', c' < 9 → ¬ bitN m c' = 0 → p' < r (108 + c') → (c' < c ∨ (c' = c ∧ p' < 0)) → nms' (darnsM r m c' + p') = 10 * c' + p') → Z G F 0 0 (zEnd G F (zP (fun v M' => v = .int (-20) ∧ ∃ (nms' : Nat → Nat) (nd' : Nat), M' = (yM G c0_ c1_ c2_ c3_ c4_ c5_ c6_ c7_ c8_ c9_ c10_ c11_ c12_ c13_ c14_ c15_ c16_ c17_ c18_ c19_ c20_ w kp tx txl (updN rf 1 (rf 1 + 1)) ya yb at2 st2 iwd ifg nb fr la nms' nd' wf hh tl))) 0 0) 31 [(0, .ref (zad (zb G) 21)), (1, .int (nI m)), (2, .int i), (3, .int (nI c))] [] (yM G c0_ c1_ c2_ c3_ c4_ c5_ c6_ c7_ c8_ c9_ c10_ c11_ c12_ c13_ c14_ c15_ c16_ c17_ c18_ c19_ c20_ w kp tx txl rf ya yb at2 st2 iwd ifg nb fr la nms' (darnsM r m c) wf hh tl)) (9) ?_ ?_ nms (fun c' p' a1 a2 a3 a4 => by omega)
  · intro nms' hnp
    have hN : NM r m nms' := fun c' p' a1 a2 a3 => hnp c' p' a1 a2 a3 (Or.inl a1)
    refine z_iload_n O dX4_orders_31 rfl ?_
    refine z_bipush O (nI 9) dX4_orders_32 (by decide) ?_
    refine z_icmp_geN O 99 dX4_orders_34 (by decide) (by omega) (by omega) (fun h34 => ?_) (fun h34 => by omega)
    refine z_aload_n O dX4_orders_99 rfl ?_
    refine z_get O dX4_orders_100 flX4_228 (by rfl) (by rfl) ?_
    refine z_bipush O (nI 6) dX4_orders_103 (by decide) ?_
    refine z_icmp_leN O 121 dX4_orders_105 (by decide) (by omega) (by omega) (fun h105 => by omega) (fun h105 => ?_)
    refine z_aload_n O dX4_orders_108 rfl ?_
    refine z_get O dX4_orders_109 flX4_20 (by rfl) (by rfl) ?_
    refine z_iconst O (nI 1) dX4_orders_112 (by decide) ?_
    refine z_dup2 O dX4_orders_113 rfl rfl ?_
    refine z_ialdN O dX4_orders_114 (by rfl) (by omega) (by decide) ?_
    refine z_iconst O (nI 1) dX4_orders_115 (by decide) ?_
    refine z_iaddN O dX4_orders_116 ?_
    refine z_iastN O (by rfl) dX4_orders_117 (by rfl) (by omega) (by decide) ?_
    refine z_bipush O (-20) dX4_orders_118 (by decide) ?_
    exact z_iret O dX4_orders_120 ⟨_, rfl, rfl, nms', _, rfl⟩
  · intro c hc ih nms' hnp
    refine z_iload_n O dX4_orders_31 rfl ?_
    refine z_bipush O (nI 9) dX4_orders_32 (by decide) ?_
    refine z_icmp_geN O 99 dX4_orders_34 (by decide) (by omega) (by omega) (fun h34 => by omega) (fun h34 => ?_)
    by_cases hbt : bitN m c = 0
    · refine z_iconst O (nI 0) dX4_orders_37 (by decide) ?_
      refine z_istore (lv' := [(0, _), (1, _), (2, _), (3, _), (4, _)]) O dX4_orders_38 (by decide) rfl ?_
      refine z_iload O dX4_orders_40 rfl ?_
      refine z_aload_n O dX4_orders_42 rfl ?_
      refine z_get O dX4_orders_43 flX4_7 (by rfl) (by rfl) ?_
      refine z_iconst O (nI 1) dX4_orders_46 (by decide) ?_
      refine z_iload_n O dX4_orders_47 rfl ?_
      refine z_iaddN O dX4_orders_48 ?_
      refine z_ialdN O dX4_orders_49 (by rfl) (by omega) (by decide) ?_
      refine z_top (v' := .int (nI (r (108 + c)))) (congrArg Value.int (congrArg nI (h.m hc))) ?_
      refine z_icmp_geN O 93 dX4_orders_50 (by decide) (by have := g.1.1.2 c hc; omega) (by have := g.1.1.2 c hc; omega) (fun h50 => ?_) (fun h50 => ?_)
      · refine z_iincN (lv' := [(0, _), (1, _), (2, _), (3, _), (4, _)]) O 1 dX4_orders_93 (by decide) rfl rfl (by decide) ?_
        refine z_goto O 31 dX4_orders_96 (by decide) ?_
        refine z_kp (lv' := [(0, _), (1, _), (2, _), (3, _)]) [0, 1, 2, 3] rfl ?_
        rw [dm_0 hbt] at ih
        exact ih nms' (fun c' p' a1 a2 a3 a4 => hnp c' p' a1 a2 a3 (by
          rcases a4 with a | a
          · by_cases e : c' = c
            · subst e; exact absurd hbt a2
            · exact Or.inl (by omega)
          · exact absurd a.2 (Nat.not_lt_zero _)))
      · refine z_iload_n O dX4_orders_53 rfl ?_
        refine z_iload_n O dX4_orders_54 rfl ?_
        refine z_S2e0 O (m_has (by omega) (by omega)) mX4_has lkX4_224 dX4_orders_55 (Nat.le_of_ble_eq_true rfl) (by decide) ?_
        refine z_if_eqB O 93 dX4_orders_58 (by decide) (fun h58 => ?_) (fun h58 => by exact absurd h58 (by omega))
        refine z_iincN (lv' := [(0, _), (1, _), (2, _), (3, _), (4, _)]) O 1 dX4_orders_93 (by decide) rfl rfl (by decide) ?_
        refine z_goto O 31 dX4_orders_96 (by decide) ?_
        refine z_kp (lv' := [(0, _), (1, _), (2, _), (3, _)]) [0, 1, 2, 3] rfl ?_
        rw [dm_0 hbt] at ih
        exact ih nms' (fun c' p' a1 a2 a3 a4 => hnp c' p' a1 a2 a3 (by
          rcases a4 with a | a
          · by_cases e : c' = c
            · subst e; exact absurd hbt a2
            · exact Or.inl (by omega)
          · exact absurd a.2 (Nat.not_lt_zero _)))
    · refine z_iconst O (nI 0) dX4_orders_37 (by decide) ?_
      refine z_istore (lv' := [(0, _), (1, _), (2, _), (3, _), (4, _)]) O dX4_orders_38 (by decide) rfl ?_
      refine zdown (P := fun p => ∀ nms' : Nat → Nat, (∀ c' p', c' < 9 → ¬ bitN m c' = 0 → p' < r (108 + c') → (c' < c ∨ (c' = c ∧ p' < p)) → nms' (darnsM r m c' + p') = 10 * c' + p') → Z G F 0 0 (zEnd G F (zP (fun v M' => v = .int (-20) ∧ ∃ (nms' : Nat → Nat) (nd' : Nat), M' = (yM G c0_ c1_ c2_ c3_ c4_ c5_ c6_ c7_ c8_ c9_ c10_ c11_ c12_ c13_ c14_ c15_ c16_ c17_ c18_ c19_ c20_ w kp tx txl (updN rf 1 (rf 1 + 1)) ya yb at2 st2 iwd ifg nb fr la nms' nd' wf hh tl))) 0 0) 40 [(0, .ref (zad (zb G) 21)), (1, .int (nI m)), (2, .int i), (3, .int (nI c)), (4, .int (nI p))] [] (yM G c0_ c1_ c2_ c3_ c4_ c5_ c6_ c7_ c8_ c9_ c10_ c11_ c12_ c13_ c14_ c15_ c16_ c17_ c18_ c19_ c20_ w kp tx txl rf ya yb at2 st2 iwd ifg nb fr la nms' (darnsM r m c + p) wf hh tl)) (r (108 + c)) ?_ ?_ nms' hnp
      · intro nms' hnp
        refine z_iload O dX4_orders_40 rfl ?_
        refine z_aload_n O dX4_orders_42 rfl ?_
        refine z_get O dX4_orders_43 flX4_7 (by rfl) (by rfl) ?_
        refine z_iconst O (nI 1) dX4_orders_46 (by decide) ?_
        refine z_iload_n O dX4_orders_47 rfl ?_
        refine z_iaddN O dX4_orders_48 ?_
        refine z_ialdN O dX4_orders_49 (by rfl) (by omega) (by decide) ?_
        refine z_top (v' := .int (nI (r (108 + c)))) (congrArg Value.int (congrArg nI (h.m hc))) ?_
        refine z_icmp_geN O 93 dX4_orders_50 (by decide) (by have := g.1.1.2 c hc; omega) (by have := g.1.1.2 c hc; omega) (fun h50 => ?_) (fun h50 => by omega)
        refine z_iincN (lv' := [(0, _), (1, _), (2, _), (3, _), (4, _)]) O 1 dX4_orders_93 (by decide) rfl rfl (by decide) ?_
        refine z_goto O 31 dX4_orders_96 (by decide) ?_
        refine z_kp (lv' := [(0, _), (1, _), (2, _), (3, _)]) [0, 1, 2, 3] rfl ?_
        rw [dm_s hbt] at ih
        exact ih nms' (fun c' p' a1 a2 a3 a4 => hnp c' p' a1 a2 a3 (by
          rcases a4 with a | a
          · by_cases e : c' = c
            · exact Or.inr ⟨e, by rw [← e]; exact a3⟩
            · exact Or.inl (by omega)
          · exact absurd a.2 (Nat.not_lt_zero _)))
      · intro p hp ih nms' hnp
        refine z_iload O dX4_orders_40 rfl ?_
        refine z_aload_n O dX4_orders_42 rfl ?_
        refine z_get O dX4_orders_43 flX4_7 (by rfl) (by rfl) ?_
        refine z_iconst O (nI 1) dX4_orders_46 (by decide) ?_
        refine z_iload_n O dX4_orders_47 rfl ?_
        refine z_iaddN O dX4_orders_48 ?_
        refine z_ialdN O dX4_orders_49 (by rfl) (by omega) (by decide) ?_
        refine z_top (v' := .int (nI (r (108 + c)))) (congrArg Value.int (congrArg nI (h.m hc))) ?_
        refine z_icmp_geN O 93 dX4_orders_50 (by decide) (by have := g.1.1.2 c hc; omega) (by have := g.1.1.2 c hc; omega) (fun h50 => by omega) (fun h50 => ?_)
        refine z_iload_n O dX4_orders_53 rfl ?_
        refine z_iload_n O dX4_orders_54 rfl ?_
        refine z_S2e0 O (m_has (by omega) (by omega)) mX4_has lkX4_224 dX4_orders_55 (Nat.le_of_ble_eq_true rfl) (by decide) ?_
        refine z_if_eqB O 93 dX4_orders_58 (by decide) (fun h58 => by exact absurd (by have := bit_lt m c; omega) h58) (fun h58 => ?_)
        refine z_aload_n O dX4_orders_61 rfl ?_
        refine z_get O dX4_orders_62 flX4_33 (by rfl) (by rfl) ?_
        refine z_aload_n O dX4_orders_65 rfl ?_
        refine z_get O dX4_orders_66 flX4_228 (by rfl) (by rfl) ?_
        refine z_bipush O (nI 10) dX4_orders_69 (by decide) ?_
        refine z_iload_n O dX4_orders_71 rfl ?_
        refine z_imulN O dX4_orders_72 ?_
        refine z_iload O dX4_orders_73 rfl ?_
        refine z_iaddN O dX4_orders_75 ?_
        refine z_iastN O (by rfl) dX4_orders_76 (by rfl) (by have := dm9 c (by omega); have := g.1.1.2 c hc; omega) (by decide) ?_
        refine z_aload_n O dX4_orders_77 rfl ?_
        refine z_dup O dX4_orders_78 rfl ?_
        refine z_get O dX4_orders_79 flX4_228 (by rfl) (by rfl) ?_
        refine z_iconst O (nI 1) dX4_orders_82 (by decide) ?_
        refine z_iaddN O dX4_orders_83 ?_
        refine z_put O (by rfl) dX4_orders_84 flX4_228 (by rfl) rfl rfl (by simp) ?_
        refine z_M (show _ = (yM G c0_ c1_ c2_ c3_ c4_ c5_ c6_ c7_ c8_ c9_ c10_ c11_ c12_ c13_ c14_ c15_ c16_ c17_ c18_ c19_ c20_ w kp tx txl rf ya yb at2 st2 iwd ifg nb fr la (updN nms' (darnsM r m c + p) (10 * c + p)) (darnsM r m c + p + 1) wf hh tl) from rfl) ?_
        refine z_iincN (lv' := [(0, _), (1, _), (2, _), (3, _), (4, _)]) O 1 dX4_orders_87 (by decide) rfl rfl (by decide) ?_
        refine z_goto O 40 dX4_orders_90 (by decide) ?_
        exact ih _ (fun c' p' a1 a2 a3 a4 => by
          by_cases e : c' = c ∧ p' = p
          · rw [e.1, e.2, updN_s]
          · have hne : darnsM r m c' + p' ≠ darnsM r m c + p := by
              rcases a4 with a | a
              · have := dm_lt (d := c) a2 a3 a; omega
              · have e1 := a.1; subst e1; omega
            rw [updN_n hne]
            exact hnp c' p' a1 a2 a3 (by omega))
set_option maxRecDepth 20000 in
set_option maxHeartbeats 4000000 in
theorem m_ordersW {we r seen kept : Nat → Nat} {rd nw ud Y : Nat} (h : RS w 0 we r seen kept rd nw ud) (g : GS Y we r seen kept rd nw ud) {m : Nat} (hm : m < 512) (hdn : darnsM r m 9 ≤ 6) (od : Nat → Nat) : zS G 4 yX4_orders cX4_orders 9 (some .int) [.ref (zad (zb G) 21), .int (nI m), .int (-1)] (yM G c0_ c1_ c2_ c3_ c4_ c5_ c6_ c7_ c8_ c9_ c10_ c11_ c12_ c13_ c14_ c15_ c16_ c17_ c18_ c19_ c20_ w kp tx txl rf ya yb at2 st2 iwd ifg nb fr la nms nd wf hh tl) 0 0 (zP (fun v M' => v = .int (nI (woS r (ffG r m (darnsM r m 9) od 6).2.2 (darnsM r m 9)).1) ∧ ∃ (nms' : Nat → Nat) (nd' : Nat) (wf' : Nat → Nat), M' = (yM G c0_ c1_ c2_ c3_ c4_ c5_ c6_ c7_ c8_ c9_ c10_ c11_ c12_ c13_ c14_ c15_ c16_ c17_ c18_ c19_ c20_ w kp tx txl rf ya yb at2 st2 iwd ifg nb fr la nms' nd' wf' hh tl))) := by
  refine zS.of (by decide) (Nat.le_of_ble_eq_true rfl) (fun F O hR1 hR2 => ?_)
  have O : zOk G F yX4_orders cX4_orders 9 (some .int) RX4 4 (yM G c0_ c1_ c2_ c3_ c4_ c5_ c6_ c7_ c8_ c9_ c10_ c11_ c12_ c13_ c14_ c15_ c16_ c17_ c18_ c19_ c20_ w kp tx txl rf ya yb at2 st2 iwd ifg nb fr la nms nd wf hh tl).length := O
  refine z_eq (lv' := [(0, _), (1, _), (2, _)]) rfl rfl rfl ?_
  have dm9 : ∀ c, c ≤ 9 → darnsM r m c ≤ 3 * c := by
    intro c
    induction c with
    | zero => intro _; exact Nat.zero_le _
    | succ c ih =>
      intro hc
      have h3 := g.1.1.2 c (by omega)
      have := ih (by omega)
      unfold darnsM
      split <;> omega
  have hd9 := dm9 9 (by omega)
  have hi1 : (-1 : Int32) ≤ -1 := by decide
  refine z_iload_n O dX4_orders_0 rfl ?_
  refine z_i2lN O dX4_orders_1 (by omega) ?_
  refine z_lconst O (lN 0) dX4_orders_2 (by decide) ?_
  refine z_ldc2 O dX4_orders_3 klX4_234 ?_
  refine z_top (v' := .long (lN 511)) (by decide) ?_
  refine z_S3e0 O (m_inN (by omega) (by decide) (by decide)) mX4_in lkX4_45 dX4_orders_6 (Nat.le_of_ble_eq_true rfl) (by decide) ?_
  refine z_if_eqB O 17 dX4_orders_9 (by decide) (fun h9 => by omega) (fun h9 => ?_)
  refine z_iload_n O dX4_orders_12 rfl ?_
  refine z_iconst O (-1) dX4_orders_13 (by decide) ?_
  refine z_icmp_ge O 24 dX4_orders_14 (by decide) (fun h14 => ?_) (fun h14 => by exact absurd hi1 h14)
  refine z_aload_n O dX4_orders_24 rfl ?_
  refine z_iconst O (nI 0) dX4_orders_25 (by decide) ?_
  refine z_put O (by rfl) dX4_orders_26 flX4_228 (by rfl) rfl rfl (by simp) ?_
  refine z_M (show _ = (yM G c0_ c1_ c2_ c3_ c4_ c5_ c6_ c7_ c8_ c9_ c10_ c11_ c12_ c13_ c14_ c15_ c16_ c17_ c18_ c19_ c20_ w kp tx txl rf ya yb at2 st2 iwd ifg nb fr la nms (darnsM r m 0) wf hh tl) from rfl) ?_
  refine z_iconst O (nI 0) dX4_orders_29 (by decide) ?_
  refine z_istore_n (lv' := [(0, _), (1, _), (2, _), (3, _)]) O dX4_orders_30 (by decide) rfl ?_
  refine zdown (P := fun c => ∀ nms' : Nat → Nat, (∀ c' p', c' < 9 → ¬ bitN m c' = 0 → p' < r (108 + c') → (c' < c ∨ (c' = c ∧ p' < 0)) → nms' (darnsM r m c' + p') = 10 * c' + p') → Z G F 0 0 (zEnd G F (zP (fun v M' => v = .int (nI (woS r (ffG r m (darnsM r m 9) od 6).2.2 (darnsM r m 9)).1) ∧ ∃ (nms' : Nat → Nat) (nd' : Nat) (wf' : Nat → Nat), M' = (yM G c0_ c1_ c2_ c3_ c4_ c5_ c6_ c7_ c8_ c9_ c10_ c11_ c12_ c13_ c14_ c15_ c16_ c17_ c18_ c19_ c20_ w kp tx txl rf ya yb at2 st2 iwd ifg nb fr la nms' nd' wf' hh tl))) 0 0) 31 [(0, .ref (zad (zb G) 21)), (1, .int (nI m)), (2, .int (-1)), (3, .int (nI c))] [] (yM G c0_ c1_ c2_ c3_ c4_ c5_ c6_ c7_ c8_ c9_ c10_ c11_ c12_ c13_ c14_ c15_ c16_ c17_ c18_ c19_ c20_ w kp tx txl rf ya yb at2 st2 iwd ifg nb fr la nms' (darnsM r m c) wf hh tl)) (9) ?_ ?_ nms (fun c' p' a1 a2 a3 a4 => by omega)
  · intro nms' hnp
    have hN : NM r m nms' := fun c' p' a1 a2 a3 => hnp c' p' a1 a2 a3 (Or.inl a1)
    refine z_iload_n O dX4_orders_31 rfl ?_
    refine z_bipush O (nI 9) dX4_orders_32 (by decide) ?_
    refine z_icmp_geN O 99 dX4_orders_34 (by decide) (by omega) (by omega) (fun h34 => ?_) (fun h34 => by omega)
    refine z_aload_n O dX4_orders_99 rfl ?_
    refine z_get O dX4_orders_100 flX4_228 (by rfl) (by rfl) ?_
    refine z_bipush O (nI 6) dX4_orders_103 (by decide) ?_
    refine z_icmp_leN O 121 dX4_orders_105 (by decide) (by omega) (by omega) (fun h105 => ?_) (fun h105 => by omega)
    have h2p := Nat.two_pow_pos (darnsM r m 9)
    have h64 := pow6 hdn
    refine z_iconst O (nI 1) dX4_orders_121 (by decide) ?_
    refine z_aload_n O dX4_orders_122 rfl ?_
    refine z_get O dX4_orders_123 flX4_228 (by rfl) (by rfl) ?_
    refine z_ishl O dX4_orders_126 ?_
    refine z_top (v' := .int (nI (2 ^ (darnsM r m 9)))) (congrArg Value.int (zb_shl1 (by omega))) ?_
    refine z_iconst O (nI 1) dX4_orders_127 (by decide) ?_
    refine z_isubN O dX4_orders_128 (by omega) ?_
    refine z_istore_n (lv' := [(0, _), (1, _), (2, _), (3, _)]) O dX4_orders_129 (by decide) rfl ?_
    refine z_iload_n O dX4_orders_130 rfl ?_
    refine z_istore (lv' := [(0, _), (1, _), (2, _), (3, _), (4, _)]) O dX4_orders_131 (by decide) rfl ?_
    refine z_eq (lv' := [(0, _), (1, _), (2, _), (3, _), (4, .int (mI (2 ^ (darnsM r m 9) - 0)))]) (by rw [mI_nI _ (by omega)]; rfl) rfl rfl ?_
    refine zdown (P := fun x => ∀ wf' : Nat → Nat, wfOK r nms' wf' (darnsM r m 9) (2 ^ (darnsM r m 9) - x) → Z G F 0 0 (zEnd G F (zP (fun v M' => v = .int (nI (woS r (ffG r m (darnsM r m 9) od 6).2.2 (darnsM r m 9)).1) ∧ ∃ (nms' : Nat → Nat) (nd' : Nat) (wf' : Nat → Nat), M' = (yM G c0_ c1_ c2_ c3_ c4_ c5_ c6_ c7_ c8_ c9_ c10_ c11_ c12_ c13_ c14_ c15_ c16_ c17_ c18_ c19_ c20_ w kp tx txl rf ya yb at2 st2 iwd ifg nb fr la nms' nd' wf' hh tl))) 0 0) 133 [(0, .ref (zad (zb G) 21)), (1, .int (nI m)), (2, .int (-1)), (3, .int (nI (2 ^ (darnsM r m 9) - 1))), (4, .int (mI (2 ^ (darnsM r m 9) - x)))] [] (yM G c0_ c1_ c2_ c3_ c4_ c5_ c6_ c7_ c8_ c9_ c10_ c11_ c12_ c13_ c14_ c15_ c16_ c17_ c18_ c19_ c20_ w kp tx txl rf ya yb at2 st2 iwd ifg nb fr la nms' (darnsM r m 9) wf' hh tl)) (2 ^ (darnsM r m 9)) ?_ ?_ wf (fun S a b => by omega)
    · intro wf' hwf
      rw [Nat.sub_self] at hwf
      refine z_iload O dX4_orders_133 rfl ?_
      refine z_if_lt O 216 dX4_orders_135 (by decide) (fun h135 => ?_) (fun h135 => by exact absurd (by rw [Nat.sub_self]; decide) h135)
      refine z_iload_n O dX4_orders_216 rfl ?_
      refine z_iconst O (-1) dX4_orders_217 (by decide) ?_
      refine z_icmp_ne O 228 dX4_orders_218 (by decide) (fun h218 => by exact absurd rfl h218) (fun h218 => ?_)
      refine z_aload_n O dX4_orders_221 rfl ?_
      refine z_get O dX4_orders_222 flX4_36 (by rfl) (by rfl) ?_
      refine z_iconst O (nI 0) dX4_orders_225 (by decide) ?_
      refine z_ialdN O dX4_orders_226 (by rfl) (by omega) (by decide) ?_
      exact z_iret O dX4_orders_227 (by have hff := ff_ok hN g.1.1 hdn od; have hww := wo_ways (od := (ffG r m (darnsM r m 9) od 6).2.2) (yrN r nms') (clN nms') (fun k _ => rfl) (fun k _ => rfl) (nm_cm hN g.1.1) hff.1 hff.2 (fun S hS => hwf S (Nat.zero_le _) hS); exact ⟨_, rfl, by rw [hww], nms', _, wf', rfl⟩)
    · intro x hx ih wf' hwf
      refine z_iload O dX4_orders_133 rfl ?_
      refine z_if_lt O 216 dX4_orders_135 (by decide) (fun h135 => by exact absurd ((mI_ge0 (by omega)).mpr (by omega)) (Int32.not_le.mpr h135)) (fun h135 => ?_)
      refine z_eq (lv' := [(0, _), (1, _), (2, _), (3, _), (4, .int (nI (2 ^ (darnsM r m 9) - x - 1)))]) (by rw [mI_nI _ (by omega)]) rfl rfl ?_
      refine z_iload O dX4_orders_138 rfl ?_
      by_cases hsa : (2 ^ (darnsM r m 9) - x - 1) = 2 ^ (darnsM r m 9) - 1
      · refine z_iload_n O dX4_orders_140 rfl ?_
        refine z_icmp_neN O 148 dX4_orders_141 (by decide) (by omega) (by omega) (fun h141 => by omega) (fun h141 => ?_)
        refine z_iconst O (nI 1) dX4_orders_144 (by decide) ?_
        refine z_goto O 149 dX4_orders_145 (by decide) ?_
        refine z_istore (lv' := [(0, _), (1, _), (2, _), (3, _), (4, _), (5, _)]) O dX4_orders_149 (by decide) rfl ?_
        refine z_iconst O (nI 0) dX4_orders_151 (by decide) ?_
        refine z_istore (lv' := [(0, _), (1, _), (2, _), (3, _), (4, _), (5, _), (6, _)]) O dX4_orders_152 (by decide) rfl ?_
        refine z_eq (lv' := [(0, _), (1, _), (2, _), (3, _), (4, _), (5, .int (nI ((if (2 ^ (darnsM r m 9) - x - 1) = 2 ^ (darnsM r m 9) - 1 then 1 else 0) + sumN (fun k => if canB r nms' (2 ^ (darnsM r m 9) - x - 1) k (darnsM r m 9) = true then wf' ((2 ^ (darnsM r m 9) - x - 1) + 2 ^ k) else 0) 0))), (6, _)]) (by first | (rw [if_pos hsa]; rfl) | (rw [if_neg hsa]; rfl)) rfl rfl ?_
        refine zdown (P := fun k => Z G F 0 0 (zEnd G F (zP (fun v M' => v = .int (nI (woS r (ffG r m (darnsM r m 9) od 6).2.2 (darnsM r m 9)).1) ∧ ∃ (nms' : Nat → Nat) (nd' : Nat) (wf' : Nat → Nat), M' = (yM G c0_ c1_ c2_ c3_ c4_ c5_ c6_ c7_ c8_ c9_ c10_ c11_ c12_ c13_ c14_ c15_ c16_ c17_ c18_ c19_ c20_ w kp tx txl rf ya yb at2 st2 iwd ifg nb fr la nms' nd' wf' hh tl))) 0 0) 154 [(0, .ref (zad (zb G) 21)), (1, .int (nI m)), (2, .int (-1)), (3, .int (nI (2 ^ (darnsM r m 9) - 1))), (4, .int (nI (2 ^ (darnsM r m 9) - x - 1))), (5, .int (nI ((if (2 ^ (darnsM r m 9) - x - 1) = 2 ^ (darnsM r m 9) - 1 then 1 else 0) + sumN (fun k => if canB r nms' (2 ^ (darnsM r m 9) - x - 1) k (darnsM r m 9) = true then wf' ((2 ^ (darnsM r m 9) - x - 1) + 2 ^ k) else 0) k))), (6, .int (nI k))] [] (yM G c0_ c1_ c2_ c3_ c4_ c5_ c6_ c7_ c8_ c9_ c10_ c11_ c12_ c13_ c14_ c15_ c16_ c17_ c18_ c19_ c20_ w kp tx txl rf ya yb at2 st2 iwd ifg nb fr la nms' (darnsM r m 9) wf' hh tl)) ((darnsM r m 9)) ?_ ?_ 
        · refine z_iload O dX4_orders_154 rfl ?_
          refine z_aload_n O dX4_orders_156 rfl ?_
          refine z_get O dX4_orders_157 flX4_228 (by rfl) (by rfl) ?_
          refine z_icmp_geN O 201 dX4_orders_160 (by decide) (by omega) (by omega) (fun h160 => ?_) (fun h160 => by omega)
          refine z_aload_n O dX4_orders_201 rfl ?_
          refine z_get O dX4_orders_202 flX4_36 (by rfl) (by rfl) ?_
          refine z_iload O dX4_orders_205 rfl ?_
          refine z_iload O dX4_orders_207 rfl ?_
          refine z_iastN O (by rfl) dX4_orders_209 (by rfl) (by omega) (by decide) ?_
          refine z_iincV (lv' := [(0, _), (1, _), (2, _), (3, _), (4, _), (5, _), (6, _)]) O (mI (2 ^ (darnsM r m 9) - x - 1)) dX4_orders_210 (by decide) rfl rfl rfl ?_
          refine z_goto O 133 dX4_orders_213 (by decide) ?_
          refine z_kp (lv' := [(0, _), (1, _), (2, _), (3, _), (4, _)]) [0, 1, 2, 3, 4] rfl ?_
          exact ih _ (wfOK_step hdn hx hwf (nm_ym hN g.1.1 g.1.2.2.2.1))
        · intro k hk ih 
          refine z_iload O dX4_orders_154 rfl ?_
          refine z_aload_n O dX4_orders_156 rfl ?_
          refine z_get O dX4_orders_157 flX4_228 (by rfl) (by rfl) ?_
          refine z_icmp_geN O 201 dX4_orders_160 (by decide) (by omega) (by omega) (fun h160 => by omega) (fun h160 => ?_)
          by_cases hcn : canB r nms' (2 ^ (darnsM r m 9) - x - 1) k (darnsM r m 9) = true
          · refine z_iload O dX4_orders_163 rfl ?_
            refine z_aload_n O dX4_orders_165 rfl ?_
            refine z_iload O dX4_orders_166 rfl ?_
            refine z_iload O dX4_orders_168 rfl ?_
            refine z_V2e0 O (m_canCome h g hN hdn rfl (S := (2 ^ (darnsM r m 9) - x - 1)) (k := k) (by omega) hk) mX4_canCome lkX4_239 rfl (by rfl) dX4_orders_170 (Nat.le_of_ble_eq_true rfl) (by decide) ?_
            refine z_if_eqB O 191 dX4_orders_173 (by decide) (fun h173 => by exact absurd hcn h173) (fun h173 => ?_)
            have hcp := (canB_iff (darnsM r m 9)).mp hcn
            have hlt := lt6 (darnsM r m 9) (by omega) (2 ^ (darnsM r m 9) - x - 1) (by omega) (by omega) k hk hcp.1
            refine z_aload_n O dX4_orders_176 rfl ?_
            refine z_get O dX4_orders_177 flX4_36 (by rfl) (by rfl) ?_
            refine z_iload O dX4_orders_180 rfl ?_
            refine z_iconst O (nI 1) dX4_orders_182 (by decide) ?_
            refine z_iload O dX4_orders_183 rfl ?_
            refine z_ishl O dX4_orders_185 ?_
            refine z_ior O dX4_orders_186 ?_
            refine z_top (v' := .int (nI ((2 ^ (darnsM r m 9) - x - 1) + 2 ^ k))) (congrArg Value.int (or6 _ (by omega) k (by omega) hcp.1)) ?_
            refine z_ialdN O dX4_orders_187 (by rfl) (by omega) (by decide) ?_
            refine z_goto O 192 dX4_orders_188 (by decide) ?_
            refine z_iaddN O dX4_orders_192 ?_
            refine z_istore (lv' := [(0, _), (1, _), (2, _), (3, _), (4, _), (5, _), (6, _)]) O dX4_orders_193 (by decide) rfl ?_
            refine z_iincN (lv' := [(0, _), (1, _), (2, _), (3, _), (4, _), (5, _), (6, _)]) O 1 dX4_orders_195 (by decide) rfl rfl (by decide) ?_
            refine z_goto O 154 dX4_orders_198 (by decide) ?_
            rw [show sumN (fun k => if canB r nms' (2 ^ (darnsM r m 9) - x - 1) k (darnsM r m 9) = true then wf' ((2 ^ (darnsM r m 9) - x - 1) + 2 ^ k) else 0) (k + 1) = sumN (fun k => if canB r nms' (2 ^ (darnsM r m 9) - x - 1) k (darnsM r m 9) = true then wf' ((2 ^ (darnsM r m 9) - x - 1) + 2 ^ k) else 0) k + wf' ((2 ^ (darnsM r m 9) - x - 1) + 2 ^ k) from congrArg (sumN (fun k => if canB r nms' (2 ^ (darnsM r m 9) - x - 1) k (darnsM r m 9) = true then wf' ((2 ^ (darnsM r m 9) - x - 1) + 2 ^ k) else 0) k + ·) (if_pos hcn), ← Nat.add_assoc] at ih
            exact ih
          · refine z_iload O dX4_orders_163 rfl ?_
            refine z_aload_n O dX4_orders_165 rfl ?_
            refine z_iload O dX4_orders_166 rfl ?_
            refine z_iload O dX4_orders_168 rfl ?_
            refine z_V2e0 O (m_canCome h g hN hdn rfl (S := (2 ^ (darnsM r m 9) - x - 1)) (k := k) (by omega) hk) mX4_canCome lkX4_239 rfl (by rfl) dX4_orders_170 (Nat.le_of_ble_eq_true rfl) (by decide) ?_
            refine z_if_eqB O 191 dX4_orders_173 (by decide) (fun h173 => ?_) (fun h173 => by exact absurd h173 hcn)
            refine z_iconst O (nI 0) dX4_orders_191 (by decide) ?_
            refine z_iaddN O dX4_orders_192 ?_
            refine z_istore (lv' := [(0, _), (1, _), (2, _), (3, _), (4, _), (5, _), (6, _)]) O dX4_orders_193 (by decide) rfl ?_
            refine z_iincN (lv' := [(0, _), (1, _), (2, _), (3, _), (4, _), (5, _), (6, _)]) O 1 dX4_orders_195 (by decide) rfl rfl (by decide) ?_
            refine z_goto O 154 dX4_orders_198 (by decide) ?_
            rw [show sumN (fun k => if canB r nms' (2 ^ (darnsM r m 9) - x - 1) k (darnsM r m 9) = true then wf' ((2 ^ (darnsM r m 9) - x - 1) + 2 ^ k) else 0) (k + 1) = sumN (fun k => if canB r nms' (2 ^ (darnsM r m 9) - x - 1) k (darnsM r m 9) = true then wf' ((2 ^ (darnsM r m 9) - x - 1) + 2 ^ k) else 0) k + 0 from congrArg (sumN (fun k => if canB r nms' (2 ^ (darnsM r m 9) - x - 1) k (darnsM r m 9) = true then wf' ((2 ^ (darnsM r m 9) - x - 1) + 2 ^ k) else 0) k + ·) (if_neg hcn), ← Nat.add_assoc] at ih
            exact ih
      · refine z_iload_n O dX4_orders_140 rfl ?_
        refine z_icmp_neN O 148 dX4_orders_141 (by decide) (by omega) (by omega) (fun h141 => ?_) (fun h141 => by omega)
        refine z_iconst O (nI 0) dX4_orders_148 (by decide) ?_
        refine z_istore (lv' := [(0, _), (1, _), (2, _), (3, _), (4, _), (5, _)]) O dX4_orders_149 (by decide) rfl ?_
        refine z_iconst O (nI 0) dX4_orders_151 (by decide) ?_
        refine z_istore (lv' := [(0, _), (1, _), (2, _), (3, _), (4, _), (5, _), (6, _)]) O dX4_orders_152 (by decide) rfl ?_
        refine z_eq (lv' := [(0, _), (1, _), (2, _), (3, _), (4, _), (5, .int (nI ((if (2 ^ (darnsM r m 9) - x - 1) = 2 ^ (darnsM r m 9) - 1 then 1 else 0) + sumN (fun k => if canB r nms' (2 ^ (darnsM r m 9) - x - 1) k (darnsM r m 9) = true then wf' ((2 ^ (darnsM r m 9) - x - 1) + 2 ^ k) else 0) 0))), (6, _)]) (by first | (rw [if_pos hsa]; rfl) | (rw [if_neg hsa]; rfl)) rfl rfl ?_
        refine zdown (P := fun k => Z G F 0 0 (zEnd G F (zP (fun v M' => v = .int (nI (woS r (ffG r m (darnsM r m 9) od 6).2.2 (darnsM r m 9)).1) ∧ ∃ (nms' : Nat → Nat) (nd' : Nat) (wf' : Nat → Nat), M' = (yM G c0_ c1_ c2_ c3_ c4_ c5_ c6_ c7_ c8_ c9_ c10_ c11_ c12_ c13_ c14_ c15_ c16_ c17_ c18_ c19_ c20_ w kp tx txl rf ya yb at2 st2 iwd ifg nb fr la nms' nd' wf' hh tl))) 0 0) 154 [(0, .ref (zad (zb G) 21)), (1, .int (nI m)), (2, .int (-1)), (3, .int (nI (2 ^ (darnsM r m 9) - 1))), (4, .int (nI (2 ^ (darnsM r m 9) - x - 1))), (5, .int (nI ((if (2 ^ (darnsM r m 9) - x - 1) = 2 ^ (darnsM r m 9) - 1 then 1 else 0) + sumN (fun k => if canB r nms' (2 ^ (darnsM r m 9) - x - 1) k (darnsM r m 9) = true then wf' ((2 ^ (darnsM r m 9) - x - 1) + 2 ^ k) else 0) k))), (6, .int (nI k))] [] (yM G c0_ c1_ c2_ c3_ c4_ c5_ c6_ c7_ c8_ c9_ c10_ c11_ c12_ c13_ c14_ c15_ c16_ c17_ c18_ c19_ c20_ w kp tx txl rf ya yb at2 st2 iwd ifg nb fr la nms' (darnsM r m 9) wf' hh tl)) ((darnsM r m 9)) ?_ ?_ 
        · refine z_iload O dX4_orders_154 rfl ?_
          refine z_aload_n O dX4_orders_156 rfl ?_
          refine z_get O dX4_orders_157 flX4_228 (by rfl) (by rfl) ?_
          refine z_icmp_geN O 201 dX4_orders_160 (by decide) (by omega) (by omega) (fun h160 => ?_) (fun h160 => by omega)
          refine z_aload_n O dX4_orders_201 rfl ?_
          refine z_get O dX4_orders_202 flX4_36 (by rfl) (by rfl) ?_
          refine z_iload O dX4_orders_205 rfl ?_
          refine z_iload O dX4_orders_207 rfl ?_
          refine z_iastN O (by rfl) dX4_orders_209 (by rfl) (by omega) (by decide) ?_
          refine z_iincV (lv' := [(0, _), (1, _), (2, _), (3, _), (4, _), (5, _), (6, _)]) O (mI (2 ^ (darnsM r m 9) - x - 1)) dX4_orders_210 (by decide) rfl rfl rfl ?_
          refine z_goto O 133 dX4_orders_213 (by decide) ?_
          refine z_kp (lv' := [(0, _), (1, _), (2, _), (3, _), (4, _)]) [0, 1, 2, 3, 4] rfl ?_
          exact ih _ (wfOK_step hdn hx hwf (nm_ym hN g.1.1 g.1.2.2.2.1))
        · intro k hk ih 
          refine z_iload O dX4_orders_154 rfl ?_
          refine z_aload_n O dX4_orders_156 rfl ?_
          refine z_get O dX4_orders_157 flX4_228 (by rfl) (by rfl) ?_
          refine z_icmp_geN O 201 dX4_orders_160 (by decide) (by omega) (by omega) (fun h160 => by omega) (fun h160 => ?_)
          by_cases hcn : canB r nms' (2 ^ (darnsM r m 9) - x - 1) k (darnsM r m 9) = true
          · refine z_iload O dX4_orders_163 rfl ?_
            refine z_aload_n O dX4_orders_165 rfl ?_
            refine z_iload O dX4_orders_166 rfl ?_
            refine z_iload O dX4_orders_168 rfl ?_
            refine z_V2e0 O (m_canCome h g hN hdn rfl (S := (2 ^ (darnsM r m 9) - x - 1)) (k := k) (by omega) hk) mX4_canCome lkX4_239 rfl (by rfl) dX4_orders_170 (Nat.le_of_ble_eq_true rfl) (by decide) ?_
            refine z_if_eqB O 191 dX4_orders_173 (by decide) (fun h173 => by exact absurd hcn h173) (fun h173 => ?_)
            have hcp := (canB_iff (darnsM r m 9)).mp hcn
            have hlt := lt6 (darnsM r m 9) (by omega) (2 ^ (darnsM r m 9) - x - 1) (by omega) (by omega) k hk hcp.1
            refine z_aload_n O dX4_orders_176 rfl ?_
            refine z_get O dX4_orders_177 flX4_36 (by rfl) (by rfl) ?_
            refine z_iload O dX4_orders_180 rfl ?_
            refine z_iconst O (nI 1) dX4_orders_182 (by decide) ?_
            refine z_iload O dX4_orders_183 rfl ?_
            refine z_ishl O dX4_orders_185 ?_
            refine z_ior O dX4_orders_186 ?_
            refine z_top (v' := .int (nI ((2 ^ (darnsM r m 9) - x - 1) + 2 ^ k))) (congrArg Value.int (or6 _ (by omega) k (by omega) hcp.1)) ?_
            refine z_ialdN O dX4_orders_187 (by rfl) (by omega) (by decide) ?_
            refine z_goto O 192 dX4_orders_188 (by decide) ?_
            refine z_iaddN O dX4_orders_192 ?_
            refine z_istore (lv' := [(0, _), (1, _), (2, _), (3, _), (4, _), (5, _), (6, _)]) O dX4_orders_193 (by decide) rfl ?_
            refine z_iincN (lv' := [(0, _), (1, _), (2, _), (3, _), (4, _), (5, _), (6, _)]) O 1 dX4_orders_195 (by decide) rfl rfl (by decide) ?_
            refine z_goto O 154 dX4_orders_198 (by decide) ?_
            rw [show sumN (fun k => if canB r nms' (2 ^ (darnsM r m 9) - x - 1) k (darnsM r m 9) = true then wf' ((2 ^ (darnsM r m 9) - x - 1) + 2 ^ k) else 0) (k + 1) = sumN (fun k => if canB r nms' (2 ^ (darnsM r m 9) - x - 1) k (darnsM r m 9) = true then wf' ((2 ^ (darnsM r m 9) - x - 1) + 2 ^ k) else 0) k + wf' ((2 ^ (darnsM r m 9) - x - 1) + 2 ^ k) from congrArg (sumN (fun k => if canB r nms' (2 ^ (darnsM r m 9) - x - 1) k (darnsM r m 9) = true then wf' ((2 ^ (darnsM r m 9) - x - 1) + 2 ^ k) else 0) k + ·) (if_pos hcn), ← Nat.add_assoc] at ih
            exact ih
          · refine z_iload O dX4_orders_163 rfl ?_
            refine z_aload_n O dX4_orders_165 rfl ?_
            refine z_iload O dX4_orders_166 rfl ?_
            refine z_iload O dX4_orders_168 rfl ?_
            refine z_V2e0 O (m_canCome h g hN hdn rfl (S := (2 ^ (darnsM r m 9) - x - 1)) (k := k) (by omega) hk) mX4_canCome lkX4_239 rfl (by rfl) dX4_orders_170 (Nat.le_of_ble_eq_true rfl) (by decide) ?_
            refine z_if_eqB O 191 dX4_orders_173 (by decide) (fun h173 => ?_) (fun h173 => by exact absurd h173 hcn)
            refine z_iconst O (nI 0) dX4_orders_191 (by decide) ?_
            refine z_iaddN O dX4_orders_192 ?_
            refine z_istore (lv' := [(0, _), (1, _), (2, _), (3, _), (4, _), (5, _), (6, _)]) O dX4_orders_193 (by decide) rfl ?_
            refine z_iincN (lv' := [(0, _), (1, _), (2, _), (3, _), (4, _), (5, _), (6, _)]) O 1 dX4_orders_195 (by decide) rfl rfl (by decide) ?_
            refine z_goto O 154 dX4_orders_198 (by decide) ?_
            rw [show sumN (fun k => if canB r nms' (2 ^ (darnsM r m 9) - x - 1) k (darnsM r m 9) = true then wf' ((2 ^ (darnsM r m 9) - x - 1) + 2 ^ k) else 0) (k + 1) = sumN (fun k => if canB r nms' (2 ^ (darnsM r m 9) - x - 1) k (darnsM r m 9) = true then wf' ((2 ^ (darnsM r m 9) - x - 1) + 2 ^ k) else 0) k + 0 from congrArg (sumN (fun k => if canB r nms' (2 ^ (darnsM r m 9) - x - 1) k (darnsM r m 9) = true then wf' ((2 ^ (darnsM r m 9) - x - 1) + 2 ^ k) else 0) k + ·) (if_neg hcn), ← Nat.add_assoc] at ih
            exact ih
  · intro c hc ih nms' hnp
    refine z_iload_n O dX4_orders_31 rfl ?_
    refine z_bipush O (nI 9) dX4_orders_32 (by decide) ?_
    refine z_icmp_geN O 99 dX4_orders_34 (by decide) (by omega) (by omega) (fun h34 => by omega) (fun h34 => ?_)
    by_cases hbt : bitN m c = 0
    · refine z_iconst O (nI 0) dX4_orders_37 (by decide) ?_
      refine z_istore (lv' := [(0, _), (1, _), (2, _), (3, _), (4, _)]) O dX4_orders_38 (by decide) rfl ?_
      refine z_iload O dX4_orders_40 rfl ?_
      refine z_aload_n O dX4_orders_42 rfl ?_
      refine z_get O dX4_orders_43 flX4_7 (by rfl) (by rfl) ?_
      refine z_iconst O (nI 1) dX4_orders_46 (by decide) ?_
      refine z_iload_n O dX4_orders_47 rfl ?_
      refine z_iaddN O dX4_orders_48 ?_
      refine z_ialdN O dX4_orders_49 (by rfl) (by omega) (by decide) ?_
      refine z_top (v' := .int (nI (r (108 + c)))) (congrArg Value.int (congrArg nI (h.m hc))) ?_
      refine z_icmp_geN O 93 dX4_orders_50 (by decide) (by have := g.1.1.2 c hc; omega) (by have := g.1.1.2 c hc; omega) (fun h50 => ?_) (fun h50 => ?_)
      · refine z_iincN (lv' := [(0, _), (1, _), (2, _), (3, _), (4, _)]) O 1 dX4_orders_93 (by decide) rfl rfl (by decide) ?_
        refine z_goto O 31 dX4_orders_96 (by decide) ?_
        refine z_kp (lv' := [(0, _), (1, _), (2, _), (3, _)]) [0, 1, 2, 3] rfl ?_
        rw [dm_0 hbt] at ih
        exact ih nms' (fun c' p' a1 a2 a3 a4 => hnp c' p' a1 a2 a3 (by
          rcases a4 with a | a
          · by_cases e : c' = c
            · subst e; exact absurd hbt a2
            · exact Or.inl (by omega)
          · exact absurd a.2 (Nat.not_lt_zero _)))
      · refine z_iload_n O dX4_orders_53 rfl ?_
        refine z_iload_n O dX4_orders_54 rfl ?_
        refine z_S2e0 O (m_has (by omega) (by omega)) mX4_has lkX4_224 dX4_orders_55 (Nat.le_of_ble_eq_true rfl) (by decide) ?_
        refine z_if_eqB O 93 dX4_orders_58 (by decide) (fun h58 => ?_) (fun h58 => by exact absurd h58 (by omega))
        refine z_iincN (lv' := [(0, _), (1, _), (2, _), (3, _), (4, _)]) O 1 dX4_orders_93 (by decide) rfl rfl (by decide) ?_
        refine z_goto O 31 dX4_orders_96 (by decide) ?_
        refine z_kp (lv' := [(0, _), (1, _), (2, _), (3, _)]) [0, 1, 2, 3] rfl ?_
        rw [dm_0 hbt] at ih
        exact ih nms' (fun c' p' a1 a2 a3 a4 => hnp c' p' a1 a2 a3 (by
          rcases a4 with a | a
          · by_cases e : c' = c
            · subst e; exact absurd hbt a2
            · exact Or.inl (by omega)
          · exact absurd a.2 (Nat.not_lt_zero _)))
    · refine z_iconst O (nI 0) dX4_orders_37 (by decide) ?_
      refine z_istore (lv' := [(0, _), (1, _), (2, _), (3, _), (4, _)]) O dX4_orders_38 (by decide) rfl ?_
      refine zdown (P := fun p => ∀ nms' : Nat → Nat, (∀ c' p', c' < 9 → ¬ bitN m c' = 0 → p' < r (108 + c') → (c' < c ∨ (c' = c ∧ p' < p)) → nms' (darnsM r m c' + p') = 10 * c' + p') → Z G F 0 0 (zEnd G F (zP (fun v M' => v = .int (nI (woS r (ffG r m (darnsM r m 9) od 6).2.2 (darnsM r m 9)).1) ∧ ∃ (nms' : Nat → Nat) (nd' : Nat) (wf' : Nat → Nat), M' = (yM G c0_ c1_ c2_ c3_ c4_ c5_ c6_ c7_ c8_ c9_ c10_ c11_ c12_ c13_ c14_ c15_ c16_ c17_ c18_ c19_ c20_ w kp tx txl rf ya yb at2 st2 iwd ifg nb fr la nms' nd' wf' hh tl))) 0 0) 40 [(0, .ref (zad (zb G) 21)), (1, .int (nI m)), (2, .int (-1)), (3, .int (nI c)), (4, .int (nI p))] [] (yM G c0_ c1_ c2_ c3_ c4_ c5_ c6_ c7_ c8_ c9_ c10_ c11_ c12_ c13_ c14_ c15_ c16_ c17_ c18_ c19_ c20_ w kp tx txl rf ya yb at2 st2 iwd ifg nb fr la nms' (darnsM r m c + p) wf hh tl)) (r (108 + c)) ?_ ?_ nms' hnp
      · intro nms' hnp
        refine z_iload O dX4_orders_40 rfl ?_
        refine z_aload_n O dX4_orders_42 rfl ?_
        refine z_get O dX4_orders_43 flX4_7 (by rfl) (by rfl) ?_
        refine z_iconst O (nI 1) dX4_orders_46 (by decide) ?_
        refine z_iload_n O dX4_orders_47 rfl ?_
        refine z_iaddN O dX4_orders_48 ?_
        refine z_ialdN O dX4_orders_49 (by rfl) (by omega) (by decide) ?_
        refine z_top (v' := .int (nI (r (108 + c)))) (congrArg Value.int (congrArg nI (h.m hc))) ?_
        refine z_icmp_geN O 93 dX4_orders_50 (by decide) (by have := g.1.1.2 c hc; omega) (by have := g.1.1.2 c hc; omega) (fun h50 => ?_) (fun h50 => by omega)
        refine z_iincN (lv' := [(0, _), (1, _), (2, _), (3, _), (4, _)]) O 1 dX4_orders_93 (by decide) rfl rfl (by decide) ?_
        refine z_goto O 31 dX4_orders_96 (by decide) ?_
        refine z_kp (lv' := [(0, _), (1, _), (2, _), (3, _)]) [0, 1, 2, 3] rfl ?_
        rw [dm_s hbt] at ih
        exact ih nms' (fun c' p' a1 a2 a3 a4 => hnp c' p' a1 a2 a3 (by
          rcases a4 with a | a
          · by_cases e : c' = c
            · exact Or.inr ⟨e, by rw [← e]; exact a3⟩
            · exact Or.inl (by omega)
          · exact absurd a.2 (Nat.not_lt_zero _)))
      · intro p hp ih nms' hnp
        refine z_iload O dX4_orders_40 rfl ?_
        refine z_aload_n O dX4_orders_42 rfl ?_
        refine z_get O dX4_orders_43 flX4_7 (by rfl) (by rfl) ?_
        refine z_iconst O (nI 1) dX4_orders_46 (by decide) ?_
        refine z_iload_n O dX4_orders_47 rfl ?_
        refine z_iaddN O dX4_orders_48 ?_
        refine z_ialdN O dX4_orders_49 (by rfl) (by omega) (by decide) ?_
        refine z_top (v' := .int (nI (r (108 + c)))) (congrArg Value.int (congrArg nI (h.m hc))) ?_
        refine z_icmp_geN O 93 dX4_orders_50 (by decide) (by have := g.1.1.2 c hc; omega) (by have := g.1.1.2 c hc; omega) (fun h50 => by omega) (fun h50 => ?_)
        refine z_iload_n O dX4_orders_53 rfl ?_
        refine z_iload_n O dX4_orders_54 rfl ?_
        refine z_S2e0 O (m_has (by omega) (by omega)) mX4_has lkX4_224 dX4_orders_55 (Nat.le_of_ble_eq_true rfl) (by decide) ?_
        refine z_if_eqB O 93 dX4_orders_58 (by decide) (fun h58 => by exact absurd (by have := bit_lt m c; omega) h58) (fun h58 => ?_)
        refine z_aload_n O dX4_orders_61 rfl ?_
        refine z_get O dX4_orders_62 flX4_33 (by rfl) (by rfl) ?_
        refine z_aload_n O dX4_orders_65 rfl ?_
        refine z_get O dX4_orders_66 flX4_228 (by rfl) (by rfl) ?_
        refine z_bipush O (nI 10) dX4_orders_69 (by decide) ?_
        refine z_iload_n O dX4_orders_71 rfl ?_
        refine z_imulN O dX4_orders_72 ?_
        refine z_iload O dX4_orders_73 rfl ?_
        refine z_iaddN O dX4_orders_75 ?_
        refine z_iastN O (by rfl) dX4_orders_76 (by rfl) (by have := dm9 c (by omega); have := g.1.1.2 c hc; omega) (by decide) ?_
        refine z_aload_n O dX4_orders_77 rfl ?_
        refine z_dup O dX4_orders_78 rfl ?_
        refine z_get O dX4_orders_79 flX4_228 (by rfl) (by rfl) ?_
        refine z_iconst O (nI 1) dX4_orders_82 (by decide) ?_
        refine z_iaddN O dX4_orders_83 ?_
        refine z_put O (by rfl) dX4_orders_84 flX4_228 (by rfl) rfl rfl (by simp) ?_
        refine z_M (show _ = (yM G c0_ c1_ c2_ c3_ c4_ c5_ c6_ c7_ c8_ c9_ c10_ c11_ c12_ c13_ c14_ c15_ c16_ c17_ c18_ c19_ c20_ w kp tx txl rf ya yb at2 st2 iwd ifg nb fr la (updN nms' (darnsM r m c + p) (10 * c + p)) (darnsM r m c + p + 1) wf hh tl) from rfl) ?_
        refine z_iincN (lv' := [(0, _), (1, _), (2, _), (3, _), (4, _)]) O 1 dX4_orders_87 (by decide) rfl rfl (by decide) ?_
        refine z_goto O 40 dX4_orders_90 (by decide) ?_
        exact ih _ (fun c' p' a1 a2 a3 a4 => by
          by_cases e : c' = c ∧ p' = p
          · rw [e.1, e.2, updN_s]
          · have hne : darnsM r m c' + p' ≠ darnsM r m c + p := by
              rcases a4 with a | a
              · have := dm_lt (d := c) a2 a3 a; omega
              · have e1 := a.1; subst e1; omega
            rw [updN_n hne]
            exact hnp c' p' a1 a2 a3 (by omega))
def fdV (od : Nat → Nat) (n : Nat) : Nat → Int32
  | 0 => -5
  | q + 1 => if q < n then nI (od q) else -5
theorem fdV_s {od : Nat → Nat} {n q : Nat} (h : q < n) : fdV od n (q + 1) = nI (od q) := if_pos h
theorem fdV_n {od : Nat → Nat} {n q : Nat} (h : ¬ q < n) : fdV od n (q + 1) = -5 := if_neg h
theorem fdV_e {r od : Nat → Nat} {n J : Nat} : fdV od n ((if J < n then J else n) + 1) = ordV r od n J := by
  unfold ordV
  by_cases h : J < n
  · rw [if_pos h, if_pos h, fdV_s h]
  · rw [if_neg h, if_neg h, fdV_n (by omega)]
set_option maxRecDepth 20000 in
set_option maxHeartbeats 4000000 in
theorem m_ordersI {we r seen kept : Nat → Nat} {rd nw ud Y : Nat} (h : RS w 0 we r seen kept rd nw ud) (g : GS Y we r seen kept rd nw ud) {m J : Nat} (hm : m < 512) (hJ : J < 2 ^ 31) (hdn : darnsM r m 9 ≤ 6) (od : Nat → Nat) : zS G 4 yX4_orders cX4_orders 9 (some .int) [.ref (zad (zb G) 21), .int (nI m), .int (nI J)] (yM G c0_ c1_ c2_ c3_ c4_ c5_ c6_ c7_ c8_ c9_ c10_ c11_ c12_ c13_ c14_ c15_ c16_ c17_ c18_ c19_ c20_ w kp tx txl rf ya yb at2 st2 iwd ifg nb fr la nms nd wf hh tl) 0 0 (zP (fun v M' => v = .int (ordV r (ffG r m (darnsM r m 9) od 6).2.2 (darnsM r m 9) J) ∧ ∃ (nms' : Nat → Nat) (nd' : Nat) (wf' : Nat → Nat), M' = (yM G c0_ c1_ c2_ c3_ c4_ c5_ c6_ c7_ c8_ c9_ c10_ c11_ c12_ c13_ c14_ c15_ c16_ c17_ c18_ c19_ c20_ w kp tx txl rf ya yb at2 st2 iwd ifg nb fr la nms' nd' wf' hh tl))) := by
  refine zS.of (by decide) (Nat.le_of_ble_eq_true rfl) (fun F O hR1 hR2 => ?_)
  have O : zOk G F yX4_orders cX4_orders 9 (some .int) RX4 4 (yM G c0_ c1_ c2_ c3_ c4_ c5_ c6_ c7_ c8_ c9_ c10_ c11_ c12_ c13_ c14_ c15_ c16_ c17_ c18_ c19_ c20_ w kp tx txl rf ya yb at2 st2 iwd ifg nb fr la nms nd wf hh tl).length := O
  refine z_eq (lv' := [(0, _), (1, _), (2, _)]) rfl rfl rfl ?_
  have dm9 : ∀ c, c ≤ 9 → darnsM r m c ≤ 3 * c := by
    intro c
    induction c with
    | zero => intro _; exact Nat.zero_le _
    | succ c ih =>
      intro hc
      have h3 := g.1.1.2 c (by omega)
      have := ih (by omega)
      unfold darnsM
      split <;> omega
  have hd9 := dm9 9 (by omega)
  have hi1 : (-1 : Int32) ≤ nI J := m1_le hJ
  refine z_iload_n O dX4_orders_0 rfl ?_
  refine z_i2lN O dX4_orders_1 (by omega) ?_
  refine z_lconst O (lN 0) dX4_orders_2 (by decide) ?_
  refine z_ldc2 O dX4_orders_3 klX4_234 ?_
  refine z_top (v' := .long (lN 511)) (by decide) ?_
  refine z_S3e0 O (m_inN (by omega) (by decide) (by decide)) mX4_in lkX4_45 dX4_orders_6 (Nat.le_of_ble_eq_true rfl) (by decide) ?_
  refine z_if_eqB O 17 dX4_orders_9 (by decide) (fun h9 => by omega) (fun h9 => ?_)
  refine z_iload_n O dX4_orders_12 rfl ?_
  refine z_iconst O (-1) dX4_orders_13 (by decide) ?_
  refine z_icmp_ge O 24 dX4_orders_14 (by decide) (fun h14 => ?_) (fun h14 => by exact absurd hi1 h14)
  refine z_aload_n O dX4_orders_24 rfl ?_
  refine z_iconst O (nI 0) dX4_orders_25 (by decide) ?_
  refine z_put O (by rfl) dX4_orders_26 flX4_228 (by rfl) rfl rfl (by simp) ?_
  refine z_M (show _ = (yM G c0_ c1_ c2_ c3_ c4_ c5_ c6_ c7_ c8_ c9_ c10_ c11_ c12_ c13_ c14_ c15_ c16_ c17_ c18_ c19_ c20_ w kp tx txl rf ya yb at2 st2 iwd ifg nb fr la nms (darnsM r m 0) wf hh tl) from rfl) ?_
  refine z_iconst O (nI 0) dX4_orders_29 (by decide) ?_
  refine z_istore_n (lv' := [(0, _), (1, _), (2, _), (3, _)]) O dX4_orders_30 (by decide) rfl ?_
  refine zdown (P := fun c => ∀ nms' : Nat → Nat, (∀ c' p', c' < 9 → ¬ bitN m c' = 0 → p' < r (108 + c') → (c' < c ∨ (c' = c ∧ p' < 0)) → nms' (darnsM r m c' + p') = 10 * c' + p') → Z G F 0 0 (zEnd G F (zP (fun v M' => v = .int (ordV r (ffG r m (darnsM r m 9) od 6).2.2 (darnsM r m 9) J) ∧ ∃ (nms' : Nat → Nat) (nd' : Nat) (wf' : Nat → Nat), M' = (yM G c0_ c1_ c2_ c3_ c4_ c5_ c6_ c7_ c8_ c9_ c10_ c11_ c12_ c13_ c14_ c15_ c16_ c17_ c18_ c19_ c20_ w kp tx txl rf ya yb at2 st2 iwd ifg nb fr la nms' nd' wf' hh tl))) 0 0) 31 [(0, .ref (zad (zb G) 21)), (1, .int (nI m)), (2, .int (nI J)), (3, .int (nI c))] [] (yM G c0_ c1_ c2_ c3_ c4_ c5_ c6_ c7_ c8_ c9_ c10_ c11_ c12_ c13_ c14_ c15_ c16_ c17_ c18_ c19_ c20_ w kp tx txl rf ya yb at2 st2 iwd ifg nb fr la nms' (darnsM r m c) wf hh tl)) (9) ?_ ?_ nms (fun c' p' a1 a2 a3 a4 => by omega)
  · intro nms' hnp
    have hN : NM r m nms' := fun c' p' a1 a2 a3 => hnp c' p' a1 a2 a3 (Or.inl a1)
    refine z_iload_n O dX4_orders_31 rfl ?_
    refine z_bipush O (nI 9) dX4_orders_32 (by decide) ?_
    refine z_icmp_geN O 99 dX4_orders_34 (by decide) (by omega) (by omega) (fun h34 => ?_) (fun h34 => by omega)
    refine z_aload_n O dX4_orders_99 rfl ?_
    refine z_get O dX4_orders_100 flX4_228 (by rfl) (by rfl) ?_
    refine z_bipush O (nI 6) dX4_orders_103 (by decide) ?_
    refine z_icmp_leN O 121 dX4_orders_105 (by decide) (by omega) (by omega) (fun h105 => ?_) (fun h105 => by omega)
    have h2p := Nat.two_pow_pos (darnsM r m 9)
    have h64 := pow6 hdn
    refine z_iconst O (nI 1) dX4_orders_121 (by decide) ?_
    refine z_aload_n O dX4_orders_122 rfl ?_
    refine z_get O dX4_orders_123 flX4_228 (by rfl) (by rfl) ?_
    refine z_ishl O dX4_orders_126 ?_
    refine z_top (v' := .int (nI (2 ^ (darnsM r m 9)))) (congrArg Value.int (zb_shl1 (by omega))) ?_
    refine z_iconst O (nI 1) dX4_orders_127 (by decide) ?_
    refine z_isubN O dX4_orders_128 (by omega) ?_
    refine z_istore_n (lv' := [(0, _), (1, _), (2, _), (3, _)]) O dX4_orders_129 (by decide) rfl ?_
    refine z_iload_n O dX4_orders_130 rfl ?_
    refine z_istore (lv' := [(0, _), (1, _), (2, _), (3, _), (4, _)]) O dX4_orders_131 (by decide) rfl ?_
    refine z_eq (lv' := [(0, _), (1, _), (2, _), (3, _), (4, .int (mI (2 ^ (darnsM r m 9) - 0)))]) (by rw [mI_nI _ (by omega)]; rfl) rfl rfl ?_
    refine zdown (P := fun x => ∀ wf' : Nat → Nat, wfOK r nms' wf' (darnsM r m 9) (2 ^ (darnsM r m 9) - x) → Z G F 0 0 (zEnd G F (zP (fun v M' => v = .int (ordV r (ffG r m (darnsM r m 9) od 6).2.2 (darnsM r m 9) J) ∧ ∃ (nms' : Nat → Nat) (nd' : Nat) (wf' : Nat → Nat), M' = (yM G c0_ c1_ c2_ c3_ c4_ c5_ c6_ c7_ c8_ c9_ c10_ c11_ c12_ c13_ c14_ c15_ c16_ c17_ c18_ c19_ c20_ w kp tx txl rf ya yb at2 st2 iwd ifg nb fr la nms' nd' wf' hh tl))) 0 0) 133 [(0, .ref (zad (zb G) 21)), (1, .int (nI m)), (2, .int (nI J)), (3, .int (nI (2 ^ (darnsM r m 9) - 1))), (4, .int (mI (2 ^ (darnsM r m 9) - x)))] [] (yM G c0_ c1_ c2_ c3_ c4_ c5_ c6_ c7_ c8_ c9_ c10_ c11_ c12_ c13_ c14_ c15_ c16_ c17_ c18_ c19_ c20_ w kp tx txl rf ya yb at2 st2 iwd ifg nb fr la nms' (darnsM r m 9) wf' hh tl)) (2 ^ (darnsM r m 9)) ?_ ?_ wf (fun S a b => by omega)
    · intro wf' hwf
      rw [Nat.sub_self] at hwf
      refine z_iload O dX4_orders_133 rfl ?_
      refine z_if_lt O 216 dX4_orders_135 (by decide) (fun h135 => ?_) (fun h135 => by exact absurd (by rw [Nat.sub_self]; decide) h135)
      refine z_iload_n O dX4_orders_216 rfl ?_
      refine z_iconst O (-1) dX4_orders_217 (by decide) ?_
      refine z_icmp_ne O 228 dX4_orders_218 (by decide) (fun h218 => ?_) (fun h218 => by exact absurd h218 (m1_ne hJ))
      refine z_iconst O (nI 0) dX4_orders_228 (by decide) ?_
      refine z_istore (lv' := [(0, _), (1, _), (2, _), (3, _), (4, _)]) O dX4_orders_229 (by decide) rfl ?_
      refine z_bipush O (-5) dX4_orders_231 (by decide) ?_
      refine z_istore (lv' := [(0, _), (1, _), (2, _), (3, _), (4, _), (5, _)]) O dX4_orders_233 (by decide) rfl ?_
      refine z_iconst O (nI 0) dX4_orders_235 (by decide) ?_
      refine z_istore (lv' := [(0, _), (1, _), (2, _), (3, _), (4, _), (5, _), (6, _)]) O dX4_orders_236 (by decide) rfl ?_
      have hff := ff_ok hN g.1.1 hdn od
      refine zdown (P := fun q => ∀ (S : Nat) (fd : Int32), S < 2 ^ (darnsM r m 9) → (∀ e, e < (darnsM r m 9) → bitN S e = if rkN (yrN r nms') (darnsM r m 9) e < q then 1 else 0) → fd = (fdV (ffG r m (darnsM r m 9) od 6).2.2 (darnsM r m 9) q) → Z G F 0 0 (zEnd G F (zP (fun v M' => v = .int (ordV r (ffG r m (darnsM r m 9) od 6).2.2 (darnsM r m 9) J) ∧ ∃ (nms' : Nat → Nat) (nd' : Nat) (wf' : Nat → Nat), M' = (yM G c0_ c1_ c2_ c3_ c4_ c5_ c6_ c7_ c8_ c9_ c10_ c11_ c12_ c13_ c14_ c15_ c16_ c17_ c18_ c19_ c20_ w kp tx txl rf ya yb at2 st2 iwd ifg nb fr la nms' nd' wf' hh tl))) 0 0) 238 [(0, .ref (zad (zb G) 21)), (1, .int (nI m)), (2, .int (nI J)), (3, .int (nI (2 ^ (darnsM r m 9) - 1))), (4, .int (nI S)), (5, .int fd), (6, .int (nI q))] [] (yM G c0_ c1_ c2_ c3_ c4_ c5_ c6_ c7_ c8_ c9_ c10_ c11_ c12_ c13_ c14_ c15_ c16_ c17_ c18_ c19_ c20_ w kp tx txl rf ya yb at2 st2 iwd ifg nb fr la nms' (darnsM r m 9) wf' hh tl)) ((if J < (darnsM r m 9) then J else (darnsM r m 9)) + 1) ?_ ?_ 0 (-5) h2p (fun e he => by rw [if_neg (by omega)]; unfold bitN; simp) rfl
      · intro S fd hS hSb hfd
        refine z_iload O dX4_orders_238 rfl ?_
        refine z_iload_n O dX4_orders_240 rfl ?_
        refine z_icmp_gtN O 355 dX4_orders_241 (by decide) (by first | (split <;> omega) | (split at hq <;> omega) | omega) (by first | (split <;> omega) | (split at hq <;> omega) | omega) (fun h241 => ?_) (fun h241 => ?_)
        · refine z_iload O dX4_orders_355 rfl ?_
          exact z_iret O dX4_orders_357 ⟨_, rfl, by rw [hfd, fdV_e], nms', _, wf', rfl⟩
        · refine z_iload O dX4_orders_244 rfl ?_
          refine z_aload_n O dX4_orders_246 rfl ?_
          refine z_get O dX4_orders_247 flX4_228 (by rfl) (by rfl) ?_
          refine z_icmp_gtN O 355 dX4_orders_250 (by decide) (by first | (split <;> omega) | (split at hq <;> omega) | omega) (by first | (split <;> omega) | (split at hq <;> omega) | omega) (fun h250 => ?_) (fun h250 => by by_cases hJn : J < darnsM r m 9 <;> simp only [hJn, if_true, if_false] at h241 h250 <;> omega)
          refine z_iload O dX4_orders_355 rfl ?_
          exact z_iret O dX4_orders_357 ⟨_, rfl, by rw [hfd, fdV_e], nms', _, wf', rfl⟩
      · intro q hq ih S fd hS hSb hfd
        refine z_iload O dX4_orders_238 rfl ?_
        refine z_iload_n O dX4_orders_240 rfl ?_
        refine z_icmp_gtN O 355 dX4_orders_241 (by decide) (by first | (split <;> omega) | (split at hq <;> omega) | omega) (by first | (split <;> omega) | (split at hq <;> omega) | omega) (fun h241 => by split at hq <;> omega) (fun h241 => ?_)
        refine z_iload O dX4_orders_244 rfl ?_
        refine z_aload_n O dX4_orders_246 rfl ?_
        refine z_get O dX4_orders_247 flX4_228 (by rfl) (by rfl) ?_
        refine z_icmp_gtN O 355 dX4_orders_250 (by decide) (by first | (split <;> omega) | (split at hq <;> omega) | omega) (by first | (split <;> omega) | (split at hq <;> omega) | omega) (fun h250 => by split at hq <;> omega) (fun h250 => ?_)
        refine z_iconst O (-1) dX4_orders_253 (by decide) ?_
        refine z_istore (lv' := [(0, _), (1, _), (2, _), (3, _), (4, _), (5, _), (6, _), (7, _)]) O dX4_orders_254 (by decide) rfl ?_
        refine z_aload_n O dX4_orders_256 rfl ?_
        refine z_get O dX4_orders_257 flX4_228 (by rfl) (by rfl) ?_
        refine z_iconst O (nI 1) dX4_orders_260 (by decide) ?_
        refine z_isub O dX4_orders_261 ?_
        refine z_top (v' := .int (mI (darnsM r m 9))) (congrArg Value.int (mI_sub1 _)) ?_
        refine z_istore (lv' := [(0, _), (1, _), (2, _), (3, _), (4, _), (5, _), (6, _), (7, _), (8, _)]) O dX4_orders_262 (by decide) rfl ?_
        refine zdown (P := fun x => ∀ nx : Option Nat, ((∀ k, (darnsM r m 9) - x ≤ k → k < (darnsM r m 9) → canP (clN nms') (yrN r nms') (darnsM r m 9) S k → ∃ k', nx = some k' ∧ k' ≤ k) ∧ (∀ k', nx = some k' → (darnsM r m 9) - x ≤ k' ∧ k' < (darnsM r m 9) ∧ canP (clN nms') (yrN r nms') (darnsM r m 9) S k')) → Z G F 0 0 (zEnd G F (zP (fun v M' => v = .int (ordV r (ffG r m (darnsM r m 9) od 6).2.2 (darnsM r m 9) J) ∧ ∃ (nms' : Nat → Nat) (nd' : Nat) (wf' : Nat → Nat), M' = (yM G c0_ c1_ c2_ c3_ c4_ c5_ c6_ c7_ c8_ c9_ c10_ c11_ c12_ c13_ c14_ c15_ c16_ c17_ c18_ c19_ c20_ w kp tx txl rf ya yb at2 st2 iwd ifg nb fr la nms' nd' wf' hh tl))) 0 0) 264 [(0, .ref (zad (zb G) 21)), (1, .int (nI m)), (2, .int (nI J)), (3, .int (nI (2 ^ (darnsM r m 9) - 1))), (4, .int (nI S)), (5, .int fd), (6, .int (nI q)), (7, .int (optI nx)), (8, .int (mI ((darnsM r m 9) - x)))] [] (yM G c0_ c1_ c2_ c3_ c4_ c5_ c6_ c7_ c8_ c9_ c10_ c11_ c12_ c13_ c14_ c15_ c16_ c17_ c18_ c19_ c20_ w kp tx txl rf ya yb at2 st2 iwd ifg nb fr la nms' (darnsM r m 9) wf' hh tl)) ((darnsM r m 9)) ?_ ?_ none ⟨fun k a b => by omega, fun k' hk' => by cases hk'⟩
        · intro nx hnx
          rw [Nat.sub_self] at hnx
          refine z_iload O dX4_orders_264 rfl ?_
          refine z_if_lt O 310 dX4_orders_266 (by decide) (fun h266 => ?_) (fun h266 => by exact absurd (by rw [Nat.sub_self]; decide) h266)
          by_cases hqn : q < (darnsM r m 9)
          · obtain ⟨k, hk, hrk⟩ := hff.2 q hqn
            have hgc := gr_can (nm_ym hN g.1.1 g.1.2.2.2.1) hSb hk hrk
            have hnk : nx = some k := by
              obtain ⟨k', e1, e2⟩ := hnx.1 k (Nat.zero_le _) hk hgc.1
              have e3 := hnx.2 k' e1
              by_cases e : k' = k
              · rw [e1, e]
              · exact absurd e3.2.2 (hgc.2 k' (by omega))
            subst hnk
            refine z_eq (lv' := [(0, _), (1, _), (2, _), (3, _), (4, _), (5, _), (6, _), (7, .int (nI k)), (8, _)]) rfl rfl rfl ?_
            refine z_iload O dX4_orders_310 rfl ?_
            refine z_iconst O (-1) dX4_orders_312 (by decide) ?_
            refine z_icmp_ne O 321 dX4_orders_313 (by decide) (fun h313 => ?_) (fun h313 => by exact absurd h313 (m1_ne (by omega)))
            refine z_aload_n O dX4_orders_321 rfl ?_
            refine z_get O dX4_orders_322 flX4_33 (by rfl) (by rfl) ?_
            refine z_iload O dX4_orders_325 rfl ?_
            refine z_ialdN O dX4_orders_327 (by rfl) (by omega) (by decide) ?_
            refine z_top (v' := .int (nI (nms' k))) (congrArg Value.int rfl) ?_
            refine z_istore (lv' := [(0, _), (1, _), (2, _), (3, _), (4, _), (5, _), (6, _), (7, _), (8, _)]) O dX4_orders_328 (by decide) rfl ?_
            refine z_iload O dX4_orders_330 rfl ?_
            refine z_iload O dX4_orders_332 rfl ?_
            refine z_iconst O (-1) dX4_orders_334 (by decide) ?_
            refine z_icmp_ne O 342 dX4_orders_335 (by decide) (fun h335 => ?_) (fun h335 => by exact absurd h335 (m1_ne (by omega)))
            refine z_iconst O (nI 1) dX4_orders_342 (by decide) ?_
            refine z_iload O dX4_orders_343 rfl ?_
            refine z_ishl O dX4_orders_345 ?_
            refine z_ior O dX4_orders_346 ?_
            refine z_top (v' := .int (nI (S + 2 ^ k))) (congrArg Value.int (or6 _ (by omega) k (by omega) hgc.1.1)) ?_
            refine z_istore (lv' := [(0, _), (1, _), (2, _), (3, _), (4, _), (5, _), (6, _), (7, _), (8, _)]) O dX4_orders_347 (by decide) rfl ?_
            refine z_iincN (lv' := [(0, _), (1, _), (2, _), (3, _), (4, _), (5, _), (6, _), (7, _), (8, _)]) O 1 dX4_orders_349 (by decide) rfl rfl (by decide) ?_
            refine z_goto O 238 dX4_orders_352 (by decide) ?_
            refine z_kp (lv' := [(0, _), (1, _), (2, _), (3, _), (4, _), (5, _), (6, _)]) [0, 1, 2, 3, 4, 5, 6] rfl ?_
            exact ih _ _ (lt6 (darnsM r m 9) (by omega) S (by omega) hS k hk hgc.1.1) (fun e he => by
              rw [bit6 S (by omega) k (by omega) hgc.1.1 e (by omega)]
              by_cases hek : e = k
              · rw [if_pos hek, hek, hrk, if_pos (by omega)]
              · rw [if_neg hek, hSb e he]
                have : rkN (yrN r nms') (darnsM r m 9) e ≠ q := fun hh => hek (rk_inj (y := yrN r nms') he hk (by rw [hh, hrk]))
                by_cases hlt : rkN (yrN r nms') (darnsM r m 9) e < q
                · rw [if_pos hlt, if_pos (by omega)]
                · rw [if_neg hlt, if_neg (by omega)]) (by rw [fdV_s hqn, ← hrk]; exact congrArg nI (hff.1 k hk).symm)
          · have hnk : nx = none := by
              cases hn : nx with
              | none => rfl
              | some k' =>
                have e3 := hnx.2 k' hn
                have e4 := e3.2.2.1
                rw [hSb k' e3.2.1, if_pos (by have := rk_n (y := yrN r nms') e3.2.1; omega)] at e4
                exact absurd e4 (by decide)
            subst hnk
            refine z_iload O dX4_orders_310 rfl ?_
            refine z_iconst O (-1) dX4_orders_312 (by decide) ?_
            refine z_icmp_ne O 321 dX4_orders_313 (by decide) (fun h313 => by exact absurd rfl h313) (fun h313 => ?_)
            refine z_bipush O (-5) dX4_orders_316 (by decide) ?_
            refine z_goto O 328 dX4_orders_318 (by decide) ?_
            refine z_istore (lv' := [(0, _), (1, _), (2, _), (3, _), (4, _), (5, _), (6, _), (7, _), (8, _)]) O dX4_orders_328 (by decide) rfl ?_
            refine z_iload O dX4_orders_330 rfl ?_
            refine z_iload O dX4_orders_332 rfl ?_
            refine z_iconst O (-1) dX4_orders_334 (by decide) ?_
            refine z_icmp_ne O 342 dX4_orders_335 (by decide) (fun h335 => by exact absurd rfl h335) (fun h335 => ?_)
            refine z_iconst O (nI 0) dX4_orders_338 (by decide) ?_
            refine z_goto O 346 dX4_orders_339 (by decide) ?_
            refine z_ior O dX4_orders_346 ?_
            refine z_top (v' := .int (nI S)) (congrArg Value.int (zb_or0 _)) ?_
            refine z_istore (lv' := [(0, _), (1, _), (2, _), (3, _), (4, _), (5, _), (6, _), (7, _), (8, _)]) O dX4_orders_347 (by decide) rfl ?_
            refine z_iincN (lv' := [(0, _), (1, _), (2, _), (3, _), (4, _), (5, _), (6, _), (7, _), (8, _)]) O 1 dX4_orders_349 (by decide) rfl rfl (by decide) ?_
            refine z_goto O 238 dX4_orders_352 (by decide) ?_
            refine z_kp (lv' := [(0, _), (1, _), (2, _), (3, _), (4, _), (5, _), (6, _)]) [0, 1, 2, 3, 4, 5, 6] rfl ?_
            exact ih _ _ hS (fun e he => by rw [hSb e he, if_pos (by have := rk_n (y := yrN r nms') he; omega), if_pos (by have := rk_n (y := yrN r nms') he; omega)]) (by rw [fdV_n hqn])
        · intro x hx ih nx hnx
          refine z_iload O dX4_orders_264 rfl ?_
          refine z_if_lt O 310 dX4_orders_266 (by decide) (fun h266 => by exact absurd ((mI_ge0 (by omega)).mpr (by omega)) (Int32.not_le.mpr h266)) (fun h266 => ?_)
          refine z_eq (lv' := [(0, _), (1, _), (2, _), (3, _), (4, _), (5, _), (6, _), (7, _), (8, .int (nI ((darnsM r m 9) - x - 1)))]) (by rw [mI_nI _ (by omega)]) rfl rfl ?_
          refine z_aload_n O dX4_orders_269 rfl ?_
          by_cases hcn : canB r nms' S ((darnsM r m 9) - x - 1) (darnsM r m 9) = true
          · refine z_iload O dX4_orders_270 rfl ?_
            refine z_iload O dX4_orders_272 rfl ?_
            refine z_V2e0 O (m_canCome h g hN hdn rfl (S := S) (k := (darnsM r m 9) - x - 1) (by omega) (by omega)) mX4_canCome lkX4_239 rfl (by rfl) dX4_orders_274 (Nat.le_of_ble_eq_true rfl) (by decide) ?_
            refine z_if_eqB O 300 dX4_orders_277 (by decide) (fun h277 => by exact absurd hcn h277) (fun h277 => ?_)
            have hcp := (canB_iff (darnsM r m 9)).mp hcn
            have hlt := lt6 (darnsM r m 9) (by omega) S (by omega) hS ((darnsM r m 9) - x - 1) (by omega) hcp.1
            refine z_aload_n O dX4_orders_280 rfl ?_
            refine z_get O dX4_orders_281 flX4_36 (by rfl) (by rfl) ?_
            refine z_iload O dX4_orders_284 rfl ?_
            refine z_iconst O (nI 1) dX4_orders_286 (by decide) ?_
            refine z_iload O dX4_orders_287 rfl ?_
            refine z_ishl O dX4_orders_289 ?_
            refine z_ior O dX4_orders_290 ?_
            refine z_top (v' := .int (nI (S + 2 ^ ((darnsM r m 9) - x - 1)))) (congrArg Value.int (or6 _ (by omega) _ (by omega) hcp.1)) ?_
            refine z_ialdN O dX4_orders_291 (by rfl) (by omega) (by decide) ?_
            refine z_if_leN O 300 dX4_orders_292 (by decide) (wfOK_lt hwf hdn (Nat.zero_le _) hlt) (fun h292 => by exact absurd h292 (by have := wfOK_pos hwf (Nat.zero_le _) hlt; omega)) (fun h292 => ?_)
            refine z_iload O dX4_orders_295 rfl ?_
            refine z_goto O 302 dX4_orders_297 (by decide) ?_
            refine z_istore (lv' := [(0, _), (1, _), (2, _), (3, _), (4, _), (5, _), (6, _), (7, _), (8, _)]) O dX4_orders_302 (by decide) rfl ?_
            refine z_iincV (lv' := [(0, _), (1, _), (2, _), (3, _), (4, _), (5, _), (6, _), (7, _), (8, _)]) O (mI ((darnsM r m 9) - x - 1)) dX4_orders_304 (by decide) rfl rfl rfl ?_
            refine z_goto O 264 dX4_orders_307 (by decide) ?_
            exact ih (some ((darnsM r m 9) - x - 1)) ⟨fun k a b hc => ⟨_, rfl, by omega⟩, fun k' hk' => by cases hk'; exact ⟨by omega, by omega, (canB_iff (darnsM r m 9)).mp hcn⟩⟩
          · refine z_iload O dX4_orders_270 rfl ?_
            refine z_iload O dX4_orders_272 rfl ?_
            refine z_V2e0 O (m_canCome h g hN hdn rfl (S := S) (k := (darnsM r m 9) - x - 1) (by omega) (by omega)) mX4_canCome lkX4_239 rfl (by rfl) dX4_orders_274 (Nat.le_of_ble_eq_true rfl) (by decide) ?_
            refine z_if_eqB O 300 dX4_orders_277 (by decide) (fun h277 => ?_) (fun h277 => by exact absurd h277 hcn)
            refine z_iload O dX4_orders_300 rfl ?_
            refine z_istore (lv' := [(0, _), (1, _), (2, _), (3, _), (4, _), (5, _), (6, _), (7, _), (8, _)]) O dX4_orders_302 (by decide) rfl ?_
            refine z_iincV (lv' := [(0, _), (1, _), (2, _), (3, _), (4, _), (5, _), (6, _), (7, _), (8, _)]) O (mI ((darnsM r m 9) - x - 1)) dX4_orders_304 (by decide) rfl rfl rfl ?_
            refine z_goto O 264 dX4_orders_307 (by decide) ?_
            exact ih nx ⟨fun k a b hc => by
              by_cases e : k = ((darnsM r m 9) - x - 1)
              · rw [e] at hc; exact absurd ((canB_iff (darnsM r m 9)).mpr hc) hcn
              · exact hnx.1 k (by omega) b hc, fun k' hk' => by have := hnx.2 k' hk'; exact ⟨by omega, this.2⟩⟩
    · intro x hx ih wf' hwf
      refine z_iload O dX4_orders_133 rfl ?_
      refine z_if_lt O 216 dX4_orders_135 (by decide) (fun h135 => by exact absurd ((mI_ge0 (by omega)).mpr (by omega)) (Int32.not_le.mpr h135)) (fun h135 => ?_)
      refine z_eq (lv' := [(0, _), (1, _), (2, _), (3, _), (4, .int (nI (2 ^ (darnsM r m 9) - x - 1)))]) (by rw [mI_nI _ (by omega)]) rfl rfl ?_
      refine z_iload O dX4_orders_138 rfl ?_
      by_cases hsa : (2 ^ (darnsM r m 9) - x - 1) = 2 ^ (darnsM r m 9) - 1
      · refine z_iload_n O dX4_orders_140 rfl ?_
        refine z_icmp_neN O 148 dX4_orders_141 (by decide) (by omega) (by omega) (fun h141 => by omega) (fun h141 => ?_)
        refine z_iconst O (nI 1) dX4_orders_144 (by decide) ?_
        refine z_goto O 149 dX4_orders_145 (by decide) ?_
        refine z_istore (lv' := [(0, _), (1, _), (2, _), (3, _), (4, _), (5, _)]) O dX4_orders_149 (by decide) rfl ?_
        refine z_iconst O (nI 0) dX4_orders_151 (by decide) ?_
        refine z_istore (lv' := [(0, _), (1, _), (2, _), (3, _), (4, _), (5, _), (6, _)]) O dX4_orders_152 (by decide) rfl ?_
        refine z_eq (lv' := [(0, _), (1, _), (2, _), (3, _), (4, _), (5, .int (nI ((if (2 ^ (darnsM r m 9) - x - 1) = 2 ^ (darnsM r m 9) - 1 then 1 else 0) + sumN (fun k => if canB r nms' (2 ^ (darnsM r m 9) - x - 1) k (darnsM r m 9) = true then wf' ((2 ^ (darnsM r m 9) - x - 1) + 2 ^ k) else 0) 0))), (6, _)]) (by first | (rw [if_pos hsa]; rfl) | (rw [if_neg hsa]; rfl)) rfl rfl ?_
        refine zdown (P := fun k => Z G F 0 0 (zEnd G F (zP (fun v M' => v = .int (ordV r (ffG r m (darnsM r m 9) od 6).2.2 (darnsM r m 9) J) ∧ ∃ (nms' : Nat → Nat) (nd' : Nat) (wf' : Nat → Nat), M' = (yM G c0_ c1_ c2_ c3_ c4_ c5_ c6_ c7_ c8_ c9_ c10_ c11_ c12_ c13_ c14_ c15_ c16_ c17_ c18_ c19_ c20_ w kp tx txl rf ya yb at2 st2 iwd ifg nb fr la nms' nd' wf' hh tl))) 0 0) 154 [(0, .ref (zad (zb G) 21)), (1, .int (nI m)), (2, .int (nI J)), (3, .int (nI (2 ^ (darnsM r m 9) - 1))), (4, .int (nI (2 ^ (darnsM r m 9) - x - 1))), (5, .int (nI ((if (2 ^ (darnsM r m 9) - x - 1) = 2 ^ (darnsM r m 9) - 1 then 1 else 0) + sumN (fun k => if canB r nms' (2 ^ (darnsM r m 9) - x - 1) k (darnsM r m 9) = true then wf' ((2 ^ (darnsM r m 9) - x - 1) + 2 ^ k) else 0) k))), (6, .int (nI k))] [] (yM G c0_ c1_ c2_ c3_ c4_ c5_ c6_ c7_ c8_ c9_ c10_ c11_ c12_ c13_ c14_ c15_ c16_ c17_ c18_ c19_ c20_ w kp tx txl rf ya yb at2 st2 iwd ifg nb fr la nms' (darnsM r m 9) wf' hh tl)) ((darnsM r m 9)) ?_ ?_ 
        · refine z_iload O dX4_orders_154 rfl ?_
          refine z_aload_n O dX4_orders_156 rfl ?_
          refine z_get O dX4_orders_157 flX4_228 (by rfl) (by rfl) ?_
          refine z_icmp_geN O 201 dX4_orders_160 (by decide) (by omega) (by omega) (fun h160 => ?_) (fun h160 => by omega)
          refine z_aload_n O dX4_orders_201 rfl ?_
          refine z_get O dX4_orders_202 flX4_36 (by rfl) (by rfl) ?_
          refine z_iload O dX4_orders_205 rfl ?_
          refine z_iload O dX4_orders_207 rfl ?_
          refine z_iastN O (by rfl) dX4_orders_209 (by rfl) (by omega) (by decide) ?_
          refine z_iincV (lv' := [(0, _), (1, _), (2, _), (3, _), (4, _), (5, _), (6, _)]) O (mI (2 ^ (darnsM r m 9) - x - 1)) dX4_orders_210 (by decide) rfl rfl rfl ?_
          refine z_goto O 133 dX4_orders_213 (by decide) ?_
          refine z_kp (lv' := [(0, _), (1, _), (2, _), (3, _), (4, _)]) [0, 1, 2, 3, 4] rfl ?_
          exact ih _ (wfOK_step hdn hx hwf (nm_ym hN g.1.1 g.1.2.2.2.1))
        · intro k hk ih 
          refine z_iload O dX4_orders_154 rfl ?_
          refine z_aload_n O dX4_orders_156 rfl ?_
          refine z_get O dX4_orders_157 flX4_228 (by rfl) (by rfl) ?_
          refine z_icmp_geN O 201 dX4_orders_160 (by decide) (by omega) (by omega) (fun h160 => by omega) (fun h160 => ?_)
          by_cases hcn : canB r nms' (2 ^ (darnsM r m 9) - x - 1) k (darnsM r m 9) = true
          · refine z_iload O dX4_orders_163 rfl ?_
            refine z_aload_n O dX4_orders_165 rfl ?_
            refine z_iload O dX4_orders_166 rfl ?_
            refine z_iload O dX4_orders_168 rfl ?_
            refine z_V2e0 O (m_canCome h g hN hdn rfl (S := (2 ^ (darnsM r m 9) - x - 1)) (k := k) (by omega) hk) mX4_canCome lkX4_239 rfl (by rfl) dX4_orders_170 (Nat.le_of_ble_eq_true rfl) (by decide) ?_
            refine z_if_eqB O 191 dX4_orders_173 (by decide) (fun h173 => by exact absurd hcn h173) (fun h173 => ?_)
            have hcp := (canB_iff (darnsM r m 9)).mp hcn
            have hlt := lt6 (darnsM r m 9) (by omega) (2 ^ (darnsM r m 9) - x - 1) (by omega) (by omega) k hk hcp.1
            refine z_aload_n O dX4_orders_176 rfl ?_
            refine z_get O dX4_orders_177 flX4_36 (by rfl) (by rfl) ?_
            refine z_iload O dX4_orders_180 rfl ?_
            refine z_iconst O (nI 1) dX4_orders_182 (by decide) ?_
            refine z_iload O dX4_orders_183 rfl ?_
            refine z_ishl O dX4_orders_185 ?_
            refine z_ior O dX4_orders_186 ?_
            refine z_top (v' := .int (nI ((2 ^ (darnsM r m 9) - x - 1) + 2 ^ k))) (congrArg Value.int (or6 _ (by omega) k (by omega) hcp.1)) ?_
            refine z_ialdN O dX4_orders_187 (by rfl) (by omega) (by decide) ?_
            refine z_goto O 192 dX4_orders_188 (by decide) ?_
            refine z_iaddN O dX4_orders_192 ?_
            refine z_istore (lv' := [(0, _), (1, _), (2, _), (3, _), (4, _), (5, _), (6, _)]) O dX4_orders_193 (by decide) rfl ?_
            refine z_iincN (lv' := [(0, _), (1, _), (2, _), (3, _), (4, _), (5, _), (6, _)]) O 1 dX4_orders_195 (by decide) rfl rfl (by decide) ?_
            refine z_goto O 154 dX4_orders_198 (by decide) ?_
            rw [show sumN (fun k => if canB r nms' (2 ^ (darnsM r m 9) - x - 1) k (darnsM r m 9) = true then wf' ((2 ^ (darnsM r m 9) - x - 1) + 2 ^ k) else 0) (k + 1) = sumN (fun k => if canB r nms' (2 ^ (darnsM r m 9) - x - 1) k (darnsM r m 9) = true then wf' ((2 ^ (darnsM r m 9) - x - 1) + 2 ^ k) else 0) k + wf' ((2 ^ (darnsM r m 9) - x - 1) + 2 ^ k) from congrArg (sumN (fun k => if canB r nms' (2 ^ (darnsM r m 9) - x - 1) k (darnsM r m 9) = true then wf' ((2 ^ (darnsM r m 9) - x - 1) + 2 ^ k) else 0) k + ·) (if_pos hcn), ← Nat.add_assoc] at ih
            exact ih
          · refine z_iload O dX4_orders_163 rfl ?_
            refine z_aload_n O dX4_orders_165 rfl ?_
            refine z_iload O dX4_orders_166 rfl ?_
            refine z_iload O dX4_orders_168 rfl ?_
            refine z_V2e0 O (m_canCome h g hN hdn rfl (S := (2 ^ (darnsM r m 9) - x - 1)) (k := k) (by omega) hk) mX4_canCome lkX4_239 rfl (by rfl) dX4_orders_170 (Nat.le_of_ble_eq_true rfl) (by decide) ?_
            refine z_if_eqB O 191 dX4_orders_173 (by decide) (fun h173 => ?_) (fun h173 => by exact absurd h173 hcn)
            refine z_iconst O (nI 0) dX4_orders_191 (by decide) ?_
            refine z_iaddN O dX4_orders_192 ?_
            refine z_istore (lv' := [(0, _), (1, _), (2, _), (3, _), (4, _), (5, _), (6, _)]) O dX4_orders_193 (by decide) rfl ?_
            refine z_iincN (lv' := [(0, _), (1, _), (2, _), (3, _), (4, _), (5, _), (6, _)]) O 1 dX4_orders_195 (by decide) rfl rfl (by decide) ?_
            refine z_goto O 154 dX4_orders_198 (by decide) ?_
            rw [show sumN (fun k => if canB r nms' (2 ^ (darnsM r m 9) - x - 1) k (darnsM r m 9) = true then wf' ((2 ^ (darnsM r m 9) - x - 1) + 2 ^ k) else 0) (k + 1) = sumN (fun k => if canB r nms' (2 ^ (darnsM r m 9) - x - 1) k (darnsM r m 9) = true then wf' ((2 ^ (darnsM r m 9) - x - 1) + 2 ^ k) else 0) k + 0 from congrArg (sumN (fun k => if canB r nms' (2 ^ (darnsM r m 9) - x - 1) k (darnsM r m 9) = true then wf' ((2 ^ (darnsM r m 9) - x - 1) + 2 ^ k) else 0) k + ·) (if_neg hcn), ← Nat.add_assoc] at ih
            exact ih
      · refine z_iload_n O dX4_orders_140 rfl ?_
        refine z_icmp_neN O 148 dX4_orders_141 (by decide) (by omega) (by omega) (fun h141 => ?_) (fun h141 => by omega)
        refine z_iconst O (nI 0) dX4_orders_148 (by decide) ?_
        refine z_istore (lv' := [(0, _), (1, _), (2, _), (3, _), (4, _), (5, _)]) O dX4_orders_149 (by decide) rfl ?_
        refine z_iconst O (nI 0) dX4_orders_151 (by decide) ?_
        refine z_istore (lv' := [(0, _), (1, _), (2, _), (3, _), (4, _), (5, _), (6, _)]) O dX4_orders_152 (by decide) rfl ?_
        refine z_eq (lv' := [(0, _), (1, _), (2, _), (3, _), (4, _), (5, .int (nI ((if (2 ^ (darnsM r m 9) - x - 1) = 2 ^ (darnsM r m 9) - 1 then 1 else 0) + sumN (fun k => if canB r nms' (2 ^ (darnsM r m 9) - x - 1) k (darnsM r m 9) = true then wf' ((2 ^ (darnsM r m 9) - x - 1) + 2 ^ k) else 0) 0))), (6, _)]) (by first | (rw [if_pos hsa]; rfl) | (rw [if_neg hsa]; rfl)) rfl rfl ?_
        refine zdown (P := fun k => Z G F 0 0 (zEnd G F (zP (fun v M' => v = .int (ordV r (ffG r m (darnsM r m 9) od 6).2.2 (darnsM r m 9) J) ∧ ∃ (nms' : Nat → Nat) (nd' : Nat) (wf' : Nat → Nat), M' = (yM G c0_ c1_ c2_ c3_ c4_ c5_ c6_ c7_ c8_ c9_ c10_ c11_ c12_ c13_ c14_ c15_ c16_ c17_ c18_ c19_ c20_ w kp tx txl rf ya yb at2 st2 iwd ifg nb fr la nms' nd' wf' hh tl))) 0 0) 154 [(0, .ref (zad (zb G) 21)), (1, .int (nI m)), (2, .int (nI J)), (3, .int (nI (2 ^ (darnsM r m 9) - 1))), (4, .int (nI (2 ^ (darnsM r m 9) - x - 1))), (5, .int (nI ((if (2 ^ (darnsM r m 9) - x - 1) = 2 ^ (darnsM r m 9) - 1 then 1 else 0) + sumN (fun k => if canB r nms' (2 ^ (darnsM r m 9) - x - 1) k (darnsM r m 9) = true then wf' ((2 ^ (darnsM r m 9) - x - 1) + 2 ^ k) else 0) k))), (6, .int (nI k))] [] (yM G c0_ c1_ c2_ c3_ c4_ c5_ c6_ c7_ c8_ c9_ c10_ c11_ c12_ c13_ c14_ c15_ c16_ c17_ c18_ c19_ c20_ w kp tx txl rf ya yb at2 st2 iwd ifg nb fr la nms' (darnsM r m 9) wf' hh tl)) ((darnsM r m 9)) ?_ ?_ 
        · refine z_iload O dX4_orders_154 rfl ?_
          refine z_aload_n O dX4_orders_156 rfl ?_
          refine z_get O dX4_orders_157 flX4_228 (by rfl) (by rfl) ?_
          refine z_icmp_geN O 201 dX4_orders_160 (by decide) (by omega) (by omega) (fun h160 => ?_) (fun h160 => by omega)
          refine z_aload_n O dX4_orders_201 rfl ?_
          refine z_get O dX4_orders_202 flX4_36 (by rfl) (by rfl) ?_
          refine z_iload O dX4_orders_205 rfl ?_
          refine z_iload O dX4_orders_207 rfl ?_
          refine z_iastN O (by rfl) dX4_orders_209 (by rfl) (by omega) (by decide) ?_
          refine z_iincV (lv' := [(0, _), (1, _), (2, _), (3, _), (4, _), (5, _), (6, _)]) O (mI (2 ^ (darnsM r m 9) - x - 1)) dX4_orders_210 (by decide) rfl rfl rfl ?_
          refine z_goto O 133 dX4_orders_213 (by decide) ?_
          refine z_kp (lv' := [(0, _), (1, _), (2, _), (3, _), (4, _)]) [0, 1, 2, 3, 4] rfl ?_
          exact ih _ (wfOK_step hdn hx hwf (nm_ym hN g.1.1 g.1.2.2.2.1))
        · intro k hk ih 
          refine z_iload O dX4_orders_154 rfl ?_
          refine z_aload_n O dX4_orders_156 rfl ?_
          refine z_get O dX4_orders_157 flX4_228 (by rfl) (by rfl) ?_
          refine z_icmp_geN O 201 dX4_orders_160 (by decide) (by omega) (by omega) (fun h160 => by omega) (fun h160 => ?_)
          by_cases hcn : canB r nms' (2 ^ (darnsM r m 9) - x - 1) k (darnsM r m 9) = true
          · refine z_iload O dX4_orders_163 rfl ?_
            refine z_aload_n O dX4_orders_165 rfl ?_
            refine z_iload O dX4_orders_166 rfl ?_
            refine z_iload O dX4_orders_168 rfl ?_
            refine z_V2e0 O (m_canCome h g hN hdn rfl (S := (2 ^ (darnsM r m 9) - x - 1)) (k := k) (by omega) hk) mX4_canCome lkX4_239 rfl (by rfl) dX4_orders_170 (Nat.le_of_ble_eq_true rfl) (by decide) ?_
            refine z_if_eqB O 191 dX4_orders_173 (by decide) (fun h173 => by exact absurd hcn h173) (fun h173 => ?_)
            have hcp := (canB_iff (darnsM r m 9)).mp hcn
            have hlt := lt6 (darnsM r m 9) (by omega) (2 ^ (darnsM r m 9) - x - 1) (by omega) (by omega) k hk hcp.1
            refine z_aload_n O dX4_orders_176 rfl ?_
            refine z_get O dX4_orders_177 flX4_36 (by rfl) (by rfl) ?_
            refine z_iload O dX4_orders_180 rfl ?_
            refine z_iconst O (nI 1) dX4_orders_182 (by decide) ?_
            refine z_iload O dX4_orders_183 rfl ?_
            refine z_ishl O dX4_orders_185 ?_
            refine z_ior O dX4_orders_186 ?_
            refine z_top (v' := .int (nI ((2 ^ (darnsM r m 9) - x - 1) + 2 ^ k))) (congrArg Value.int (or6 _ (by omega) k (by omega) hcp.1)) ?_
            refine z_ialdN O dX4_orders_187 (by rfl) (by omega) (by decide) ?_
            refine z_goto O 192 dX4_orders_188 (by decide) ?_
            refine z_iaddN O dX4_orders_192 ?_
            refine z_istore (lv' := [(0, _), (1, _), (2, _), (3, _), (4, _), (5, _), (6, _)]) O dX4_orders_193 (by decide) rfl ?_
            refine z_iincN (lv' := [(0, _), (1, _), (2, _), (3, _), (4, _), (5, _), (6, _)]) O 1 dX4_orders_195 (by decide) rfl rfl (by decide) ?_
            refine z_goto O 154 dX4_orders_198 (by decide) ?_
            rw [show sumN (fun k => if canB r nms' (2 ^ (darnsM r m 9) - x - 1) k (darnsM r m 9) = true then wf' ((2 ^ (darnsM r m 9) - x - 1) + 2 ^ k) else 0) (k + 1) = sumN (fun k => if canB r nms' (2 ^ (darnsM r m 9) - x - 1) k (darnsM r m 9) = true then wf' ((2 ^ (darnsM r m 9) - x - 1) + 2 ^ k) else 0) k + wf' ((2 ^ (darnsM r m 9) - x - 1) + 2 ^ k) from congrArg (sumN (fun k => if canB r nms' (2 ^ (darnsM r m 9) - x - 1) k (darnsM r m 9) = true then wf' ((2 ^ (darnsM r m 9) - x - 1) + 2 ^ k) else 0) k + ·) (if_pos hcn), ← Nat.add_assoc] at ih
            exact ih
          · refine z_iload O dX4_orders_163 rfl ?_
            refine z_aload_n O dX4_orders_165 rfl ?_
            refine z_iload O dX4_orders_166 rfl ?_
            refine z_iload O dX4_orders_168 rfl ?_
            refine z_V2e0 O (m_canCome h g hN hdn rfl (S := (2 ^ (darnsM r m 9) - x - 1)) (k := k) (by omega) hk) mX4_canCome lkX4_239 rfl (by rfl) dX4_orders_170 (Nat.le_of_ble_eq_true rfl) (by decide) ?_
            refine z_if_eqB O 191 dX4_orders_173 (by decide) (fun h173 => ?_) (fun h173 => by exact absurd h173 hcn)
            refine z_iconst O (nI 0) dX4_orders_191 (by decide) ?_
            refine z_iaddN O dX4_orders_192 ?_
            refine z_istore (lv' := [(0, _), (1, _), (2, _), (3, _), (4, _), (5, _), (6, _)]) O dX4_orders_193 (by decide) rfl ?_
            refine z_iincN (lv' := [(0, _), (1, _), (2, _), (3, _), (4, _), (5, _), (6, _)]) O 1 dX4_orders_195 (by decide) rfl rfl (by decide) ?_
            refine z_goto O 154 dX4_orders_198 (by decide) ?_
            rw [show sumN (fun k => if canB r nms' (2 ^ (darnsM r m 9) - x - 1) k (darnsM r m 9) = true then wf' ((2 ^ (darnsM r m 9) - x - 1) + 2 ^ k) else 0) (k + 1) = sumN (fun k => if canB r nms' (2 ^ (darnsM r m 9) - x - 1) k (darnsM r m 9) = true then wf' ((2 ^ (darnsM r m 9) - x - 1) + 2 ^ k) else 0) k + 0 from congrArg (sumN (fun k => if canB r nms' (2 ^ (darnsM r m 9) - x - 1) k (darnsM r m 9) = true then wf' ((2 ^ (darnsM r m 9) - x - 1) + 2 ^ k) else 0) k + ·) (if_neg hcn), ← Nat.add_assoc] at ih
            exact ih
  · intro c hc ih nms' hnp
    refine z_iload_n O dX4_orders_31 rfl ?_
    refine z_bipush O (nI 9) dX4_orders_32 (by decide) ?_
    refine z_icmp_geN O 99 dX4_orders_34 (by decide) (by omega) (by omega) (fun h34 => by omega) (fun h34 => ?_)
    by_cases hbt : bitN m c = 0
    · refine z_iconst O (nI 0) dX4_orders_37 (by decide) ?_
      refine z_istore (lv' := [(0, _), (1, _), (2, _), (3, _), (4, _)]) O dX4_orders_38 (by decide) rfl ?_
      refine z_iload O dX4_orders_40 rfl ?_
      refine z_aload_n O dX4_orders_42 rfl ?_
      refine z_get O dX4_orders_43 flX4_7 (by rfl) (by rfl) ?_
      refine z_iconst O (nI 1) dX4_orders_46 (by decide) ?_
      refine z_iload_n O dX4_orders_47 rfl ?_
      refine z_iaddN O dX4_orders_48 ?_
      refine z_ialdN O dX4_orders_49 (by rfl) (by omega) (by decide) ?_
      refine z_top (v' := .int (nI (r (108 + c)))) (congrArg Value.int (congrArg nI (h.m hc))) ?_
      refine z_icmp_geN O 93 dX4_orders_50 (by decide) (by have := g.1.1.2 c hc; omega) (by have := g.1.1.2 c hc; omega) (fun h50 => ?_) (fun h50 => ?_)
      · refine z_iincN (lv' := [(0, _), (1, _), (2, _), (3, _), (4, _)]) O 1 dX4_orders_93 (by decide) rfl rfl (by decide) ?_
        refine z_goto O 31 dX4_orders_96 (by decide) ?_
        refine z_kp (lv' := [(0, _), (1, _), (2, _), (3, _)]) [0, 1, 2, 3] rfl ?_
        rw [dm_0 hbt] at ih
        exact ih nms' (fun c' p' a1 a2 a3 a4 => hnp c' p' a1 a2 a3 (by
          rcases a4 with a | a
          · by_cases e : c' = c
            · subst e; exact absurd hbt a2
            · exact Or.inl (by omega)
          · exact absurd a.2 (Nat.not_lt_zero _)))
      · refine z_iload_n O dX4_orders_53 rfl ?_
        refine z_iload_n O dX4_orders_54 rfl ?_
        refine z_S2e0 O (m_has (by omega) (by omega)) mX4_has lkX4_224 dX4_orders_55 (Nat.le_of_ble_eq_true rfl) (by decide) ?_
        refine z_if_eqB O 93 dX4_orders_58 (by decide) (fun h58 => ?_) (fun h58 => by exact absurd h58 (by omega))
        refine z_iincN (lv' := [(0, _), (1, _), (2, _), (3, _), (4, _)]) O 1 dX4_orders_93 (by decide) rfl rfl (by decide) ?_
        refine z_goto O 31 dX4_orders_96 (by decide) ?_
        refine z_kp (lv' := [(0, _), (1, _), (2, _), (3, _)]) [0, 1, 2, 3] rfl ?_
        rw [dm_0 hbt] at ih
        exact ih nms' (fun c' p' a1 a2 a3 a4 => hnp c' p' a1 a2 a3 (by
          rcases a4 with a | a
          · by_cases e : c' = c
            · subst e; exact absurd hbt a2
            · exact Or.inl (by omega)
          · exact absurd a.2 (Nat.not_lt_zero _)))
    · refine z_iconst O (nI 0) dX4_orders_37 (by decide) ?_
      refine z_istore (lv' := [(0, _), (1, _), (2, _), (3, _), (4, _)]) O dX4_orders_38 (by decide) rfl ?_
      refine zdown (P := fun p => ∀ nms' : Nat → Nat, (∀ c' p', c' < 9 → ¬ bitN m c' = 0 → p' < r (108 + c') → (c' < c ∨ (c' = c ∧ p' < p)) → nms' (darnsM r m c' + p') = 10 * c' + p') → Z G F 0 0 (zEnd G F (zP (fun v M' => v = .int (ordV r (ffG r m (darnsM r m 9) od 6).2.2 (darnsM r m 9) J) ∧ ∃ (nms' : Nat → Nat) (nd' : Nat) (wf' : Nat → Nat), M' = (yM G c0_ c1_ c2_ c3_ c4_ c5_ c6_ c7_ c8_ c9_ c10_ c11_ c12_ c13_ c14_ c15_ c16_ c17_ c18_ c19_ c20_ w kp tx txl rf ya yb at2 st2 iwd ifg nb fr la nms' nd' wf' hh tl))) 0 0) 40 [(0, .ref (zad (zb G) 21)), (1, .int (nI m)), (2, .int (nI J)), (3, .int (nI c)), (4, .int (nI p))] [] (yM G c0_ c1_ c2_ c3_ c4_ c5_ c6_ c7_ c8_ c9_ c10_ c11_ c12_ c13_ c14_ c15_ c16_ c17_ c18_ c19_ c20_ w kp tx txl rf ya yb at2 st2 iwd ifg nb fr la nms' (darnsM r m c + p) wf hh tl)) (r (108 + c)) ?_ ?_ nms' hnp
      · intro nms' hnp
        refine z_iload O dX4_orders_40 rfl ?_
        refine z_aload_n O dX4_orders_42 rfl ?_
        refine z_get O dX4_orders_43 flX4_7 (by rfl) (by rfl) ?_
        refine z_iconst O (nI 1) dX4_orders_46 (by decide) ?_
        refine z_iload_n O dX4_orders_47 rfl ?_
        refine z_iaddN O dX4_orders_48 ?_
        refine z_ialdN O dX4_orders_49 (by rfl) (by omega) (by decide) ?_
        refine z_top (v' := .int (nI (r (108 + c)))) (congrArg Value.int (congrArg nI (h.m hc))) ?_
        refine z_icmp_geN O 93 dX4_orders_50 (by decide) (by have := g.1.1.2 c hc; omega) (by have := g.1.1.2 c hc; omega) (fun h50 => ?_) (fun h50 => by omega)
        refine z_iincN (lv' := [(0, _), (1, _), (2, _), (3, _), (4, _)]) O 1 dX4_orders_93 (by decide) rfl rfl (by decide) ?_
        refine z_goto O 31 dX4_orders_96 (by decide) ?_
        refine z_kp (lv' := [(0, _), (1, _), (2, _), (3, _)]) [0, 1, 2, 3] rfl ?_
        rw [dm_s hbt] at ih
        exact ih nms' (fun c' p' a1 a2 a3 a4 => hnp c' p' a1 a2 a3 (by
          rcases a4 with a | a
          · by_cases e : c' = c
            · exact Or.inr ⟨e, by rw [← e]; exact a3⟩
            · exact Or.inl (by omega)
          · exact absurd a.2 (Nat.not_lt_zero _)))
      · intro p hp ih nms' hnp
        refine z_iload O dX4_orders_40 rfl ?_
        refine z_aload_n O dX4_orders_42 rfl ?_
        refine z_get O dX4_orders_43 flX4_7 (by rfl) (by rfl) ?_
        refine z_iconst O (nI 1) dX4_orders_46 (by decide) ?_
        refine z_iload_n O dX4_orders_47 rfl ?_
        refine z_iaddN O dX4_orders_48 ?_
        refine z_ialdN O dX4_orders_49 (by rfl) (by omega) (by decide) ?_
        refine z_top (v' := .int (nI (r (108 + c)))) (congrArg Value.int (congrArg nI (h.m hc))) ?_
        refine z_icmp_geN O 93 dX4_orders_50 (by decide) (by have := g.1.1.2 c hc; omega) (by have := g.1.1.2 c hc; omega) (fun h50 => by omega) (fun h50 => ?_)
        refine z_iload_n O dX4_orders_53 rfl ?_
        refine z_iload_n O dX4_orders_54 rfl ?_
        refine z_S2e0 O (m_has (by omega) (by omega)) mX4_has lkX4_224 dX4_orders_55 (Nat.le_of_ble_eq_true rfl) (by decide) ?_
        refine z_if_eqB O 93 dX4_orders_58 (by decide) (fun h58 => by exact absurd (by have := bit_lt m c; omega) h58) (fun h58 => ?_)
        refine z_aload_n O dX4_orders_61 rfl ?_
        refine z_get O dX4_orders_62 flX4_33 (by rfl) (by rfl) ?_
        refine z_aload_n O dX4_orders_65 rfl ?_
        refine z_get O dX4_orders_66 flX4_228 (by rfl) (by rfl) ?_
        refine z_bipush O (nI 10) dX4_orders_69 (by decide) ?_
        refine z_iload_n O dX4_orders_71 rfl ?_
        refine z_imulN O dX4_orders_72 ?_
        refine z_iload O dX4_orders_73 rfl ?_
        refine z_iaddN O dX4_orders_75 ?_
        refine z_iastN O (by rfl) dX4_orders_76 (by rfl) (by have := dm9 c (by omega); have := g.1.1.2 c hc; omega) (by decide) ?_
        refine z_aload_n O dX4_orders_77 rfl ?_
        refine z_dup O dX4_orders_78 rfl ?_
        refine z_get O dX4_orders_79 flX4_228 (by rfl) (by rfl) ?_
        refine z_iconst O (nI 1) dX4_orders_82 (by decide) ?_
        refine z_iaddN O dX4_orders_83 ?_
        refine z_put O (by rfl) dX4_orders_84 flX4_228 (by rfl) rfl rfl (by simp) ?_
        refine z_M (show _ = (yM G c0_ c1_ c2_ c3_ c4_ c5_ c6_ c7_ c8_ c9_ c10_ c11_ c12_ c13_ c14_ c15_ c16_ c17_ c18_ c19_ c20_ w kp tx txl rf ya yb at2 st2 iwd ifg nb fr la (updN nms' (darnsM r m c + p) (10 * c + p)) (darnsM r m c + p + 1) wf hh tl) from rfl) ?_
        refine z_iincN (lv' := [(0, _), (1, _), (2, _), (3, _), (4, _)]) O 1 dX4_orders_87 (by decide) rfl rfl (by decide) ?_
        refine z_goto O 40 dX4_orders_90 (by decide) ?_
        exact ih _ (fun c' p' a1 a2 a3 a4 => by
          by_cases e : c' = c ∧ p' = p
          · rw [e.1, e.2, updN_s]
          · have hne : darnsM r m c' + p' ≠ darnsM r m c + p := by
              rcases a4 with a | a
              · have := dm_lt (d := c) a2 a3 a; omega
              · have e1 := a.1; subst e1; omega
            rw [updN_n hne]
            exact hnp c' p' a1 a2 a3 (by omega))
end YS
