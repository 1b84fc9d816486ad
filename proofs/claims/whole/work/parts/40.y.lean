/-! ===== the reference ===== -/
/-- the reference's cells, from place 21 on -/
def mR (G : zG) (w kp tx : Nat → Nat) (txl : Nat) (rf : Nat → Nat) (ya yb : Int64) (at2 st2 : Nat) (iwd ifg : Int32) (nb : Nat → Nat) (fr : Int32) (la nms : Nat → Nat) (nd : Nat) (wf : Nat → Nat) (hh : Int64) (tl : List va_E) : List va_E :=
  .inr (4, [.ref (zad (zb G) 22), .ref (zad (zb G) 23), .ref (zad (zb G) 24), .int (nI txl), .ref (zad (zb G) 25), .long ya, .long yb, .int (nI at2), .int (nI st2), .int iwd, .int ifg, .ref (zad (zb G) 26), .int fr, .ref (zad (zb G) 27), .ref (zad (zb G) 28), .int (nI nd), .ref (zad (zb G) 29), .long hh]) ::
  zIN G 3567 w :: zBN G 2 kp :: zIN G 150 tx :: zIN G 3 rf :: zIN G 4 nb :: zIN G 279 la :: zIN G 27 nms :: zIN G 64 wf :: tl
def yM (G : zG) (c0_ c1_ c2_ c3_ c4_ c5_ c6_ c7_ c8_ c9_ c10_ c11_ c12_ c13_ c14_ c15_ c16_ c17_ c18_ c19_ c20_ : va_E) (w kp tx : Nat → Nat) (txl : Nat) (rf : Nat → Nat) (ya yb : Int64) (at2 st2 : Nat) (iwd ifg : Int32) (nb : Nat → Nat) (fr : Int32) (la nms : Nat → Nat) (nd : Nat) (wf : Nat → Nat) (hh : Int64) (tl : List va_E) : List va_E := c0_ :: c1_ :: c2_ :: c3_ :: c4_ :: c5_ :: c6_ :: c7_ :: c8_ :: c9_ :: c10_ :: c11_ :: c12_ :: c13_ :: c14_ :: c15_ :: c16_ :: c17_ :: c18_ :: c19_ :: c20_ :: (mR G w kp tx txl rf ya yb at2 st2 iwd ifg nb fr la nms nd wf hh tl)

/-- the reference's row from place b on holds the class's row r and wears we -/
def RC (w : Nat → Nat) (b : Nat) (r : Nat → Nat) : Prop := w b = r 117 ∧ (∀ c, c < 9 → w (b + 1 + c) = r (108 + c)) ∧ ∀ c p f, c < 9 → p < r (108 + c) → f < 4 → w (b + (10 + 12 * c + 4 * p) + f) = fld r c p f
def RW (w : Nat → Nat) (b : Nat) (r we : Nat → Nat) : Prop := RC w b r ∧ ∀ c, c < 9 → w (b + 118 + c) = we c
theorem RC.kept {w w' : Nat → Nat} {b : Nat} {r : Nat → Nat} (h : RC w b r) (hr : rowOK r) (hk : ∀ j, b ≤ j → j < b + 118 → w' j = w j) : RC w' b r := by
  refine ⟨by rw [hk b (by omega) (by omega)]; exact h.1, fun c hc => by rw [hk _ (by omega) (by omega)]; exact h.2.1 c hc, fun c p f hc hp hf => ?_⟩
  have := hr.2 c hc
  rw [hk _ (by omega) (by omega)]
  exact h.2.2 c p f hc hp hf
theorem RW.kept {w w' : Nat → Nat} {b : Nat} {r we : Nat → Nat} (h : RW w b r we) (hr : rowOK r) (hk : ∀ j, b ≤ j → j < b + 127 → w' j = w j) : RW w' b r we :=
  ⟨h.1.kept hr (fun j h1 h2 => hk j h1 (by omega)), fun c hc => by rw [hk _ (by omega) (by omega)]; exact h.2 c hc⟩
theorem lN_le63 {a b : Nat} (ha : a < 2 ^ 31) (hb : b < 2 ^ 31) : lN a ≤ lN b ↔ a ≤ b := lN_le ha hb
theorem x64_le {x : Int32} {n : Nat} (hn : n < 2 ^ 31) : lN n ≤ x.toInt64 ↔ nI n ≤ x := by
  rw [Int64.le_iff_toInt_le, Int32.le_iff_toInt_le, lN_toInt hn, nI_toInt hn, Int32.toInt_toInt64]
theorem x64_ge {x : Int32} {n : Nat} (hn : n < 2 ^ 31) : x.toInt64 ≤ lN n ↔ x ≤ nI n := by
  rw [Int64.le_iff_toInt_le, Int32.le_iff_toInt_le, lN_toInt hn, nI_toInt hn, Int32.toInt_toInt64]
def begW (w : Nat → Nat) (b y : Nat) : Nat → Nat := fun j => if b ≤ j ∧ j < b + 147 then (if j = b then y else if b + 118 ≤ j ∧ j < b + 127 then 1 else 0) else w j
def zrW (w : Nat → Nat) (b k : Nat) : Nat → Nat := fun j => if b ≤ j ∧ j < b + k then 0 else w j
def onW (w : Nat → Nat) (b y k : Nat) : Nat → Nat := fun j => if b ≤ j ∧ j < b + 147 then (if j = b then y else if b + 118 ≤ j ∧ j < b + 118 + k then 1 else 0) else w j
theorem zrW_s (w : Nat → Nat) (b k : Nat) : updN (zrW w b k) (b + k) 0 = zrW w b (k + 1) := by
  funext j
  unfold updN zrW
  by_cases e : j = b + k
  · rw [if_pos e, if_pos (by omega)]
  · rw [if_neg e]
    by_cases h : b ≤ j ∧ j < b + k
    · rw [if_pos h, if_pos (by omega)]
    · rw [if_neg h, if_neg (by omega)]
theorem onW_0 (w : Nat → Nat) (b y : Nat) : updN (zrW w b 147) b y = onW w b y 0 := by
  funext j
  unfold updN zrW onW
  by_cases e : j = b
  · rw [if_pos e, if_pos (by omega), if_pos e]
  · rw [if_neg e]
    by_cases h : b ≤ j ∧ j < b + 147
    · rw [if_pos h, if_pos h, if_neg e, if_neg (by omega)]
    · rw [if_neg h, if_neg h]
theorem onW_s (w : Nat → Nat) (b y : Nat) {k : Nat} (hk : k < 9) : updN (onW w b y k) (b + 118 + k) 1 = onW w b y (k + 1) := by
  funext j
  unfold updN onW
  by_cases e : j = b + 118 + k
  · rw [if_pos e, if_pos (by omega), if_neg (by omega), if_pos (by omega)]
  · rw [if_neg e]
    by_cases h : b ≤ j ∧ j < b + 147
    · rw [if_pos h, if_pos h]
      by_cases h2 : j = b
      · rw [if_pos h2, if_pos h2]
      · rw [if_neg h2, if_neg h2]
        by_cases h3 : b + 118 ≤ j ∧ j < b + 118 + k
        · rw [if_pos h3, if_pos (by omega)]
        · rw [if_neg h3, if_neg (by omega)]
    · rw [if_neg h, if_neg h]
theorem cpyN_0 (w : Nat → Nat) (s d : Nat) : cpyN w w s d 0 = w := by
  funext j
  unfold cpyN
  rw [if_neg (by omega)]
theorem cpyN_s {w : Nat → Nat} {s d n k : Nat} (h : d ≤ s ∨ s + n ≤ d) (hk : k < n) : updN (cpyN w w s d k) (d + k) (cpyN w w s d k (s + k)) = cpyN w w s d (k + 1) := by
  have e0 : cpyN w w s d k (s + k) = w (s + k) := by unfold cpyN; rw [if_neg (by omega)]
  rw [e0]
  funext j
  unfold updN cpyN
  by_cases e : j = d + k
  · rw [if_pos e, if_pos (by omega)]
    congr 1
    omega
  · rw [if_neg e]
    by_cases h2 : d ≤ j ∧ j < d + k
    · rw [if_pos h2, if_pos (by omega)]
    · rw [if_neg h2, if_neg (by omega)]
section YS
variable {G : zG} {c0_ c1_ c2_ c3_ c4_ c5_ c6_ c7_ c8_ c9_ c10_ c11_ c12_ c13_ c14_ c15_ c16_ c17_ c18_ c19_ c20_ : va_E} {w kp tx : Nat → Nat} {txl : Nat} {rf : Nat → Nat} {ya yb : Int64} {at2 st2 : Nat} {iwd ifg : Int32} {nb : Nat → Nat} {fr : Int32} {la nms : Nat → Nat} {nd : Nat} {wf : Nat → Nat} {hh : Int64} {tl : List va_E}
set_option maxRecDepth 20000 in
set_option maxHeartbeats 4000000 in
theorem m_in {M : List va_E} {a b e : Int64} : zS G 1 yX4_in cX4_in 6 (some .boolean) [.long a, .long b, .long e] M 0 0 (zE (.int (bI (b ≤ a ∧ a ≤ e))) M) := by
  refine zS.of (by decide) (Nat.le_of_ble_eq_true rfl) (fun F O hR1 hR2 => ?_)
  have O : zOk G F yX4_in cX4_in 6 (some .boolean) RX4 1 M.length := O
  refine z_eq (lv' := [(0, _), (2, _), (4, _)]) rfl rfl rfl ?_
  refine z_lload_n O dX4_in_0 rfl ?_
  refine z_lload_n O dX4_in_1 rfl ?_
  refine z_lcmp O dX4_in_2 ?_
  refine z_if_lt O 17 dX4_in_3 (by decide) (fun h3 => ?_) (fun h3 => ?_)
  · refine z_iconst O (nI 0) dX4_in_17 (by decide) ?_
    exact z_zret O dX4_in_18 rfl (by first
        | (have hp := bI_t (p := b ≤ a ∧ a ≤ e) ⟨Int64.not_lt.mp (fun q => h3 ((lg_cmp_lt _ _).mpr q)), Int64.not_lt.mp (fun q => h10 ((lg_cmp_gt _ _).mpr q))⟩; exact ⟨by rw [hp]; rfl, rfl⟩)
        | (have hp := bI_f (p := b ≤ a ∧ a ≤ e) (fun q => absurd ((lg_cmp_gt _ _).mp h10) (Int64.not_lt.mpr q.2)); exact ⟨by rw [hp]; rfl, rfl⟩)
        | (have hp := bI_f (p := b ≤ a ∧ a ≤ e) (fun q => absurd ((lg_cmp_lt _ _).mp h3) (Int64.not_lt.mpr q.1)); exact ⟨by rw [hp]; rfl, rfl⟩))
  · refine z_lload_n O dX4_in_6 rfl ?_
    refine z_lload O dX4_in_7 rfl ?_
    refine z_lcmp O dX4_in_9 ?_
    refine z_if_gt O 17 dX4_in_10 (by decide) (fun h10 => ?_) (fun h10 => ?_)
    · refine z_iconst O (nI 0) dX4_in_17 (by decide) ?_
      exact z_zret O dX4_in_18 rfl (by first
          | (have hp := bI_t (p := b ≤ a ∧ a ≤ e) ⟨Int64.not_lt.mp (fun q => h3 ((lg_cmp_lt _ _).mpr q)), Int64.not_lt.mp (fun q => h10 ((lg_cmp_gt _ _).mpr q))⟩; exact ⟨by rw [hp]; rfl, rfl⟩)
          | (have hp := bI_f (p := b ≤ a ∧ a ≤ e) (fun q => absurd ((lg_cmp_gt _ _).mp h10) (Int64.not_lt.mpr q.2)); exact ⟨by rw [hp]; rfl, rfl⟩)
          | (have hp := bI_f (p := b ≤ a ∧ a ≤ e) (fun q => absurd ((lg_cmp_lt _ _).mp h3) (Int64.not_lt.mpr q.1)); exact ⟨by rw [hp]; rfl, rfl⟩))
    · refine z_iconst O (nI 1) dX4_in_13 (by decide) ?_
      refine z_goto O 18 dX4_in_14 (by decide) ?_
      exact z_zret O dX4_in_18 rfl (by first
          | (have hp := bI_t (p := b ≤ a ∧ a ≤ e) ⟨Int64.not_lt.mp (fun q => h3 ((lg_cmp_lt _ _).mpr q)), Int64.not_lt.mp (fun q => h10 ((lg_cmp_gt _ _).mpr q))⟩; exact ⟨by rw [hp]; rfl, rfl⟩)
          | (have hp := bI_f (p := b ≤ a ∧ a ≤ e) (fun q => absurd ((lg_cmp_gt _ _).mp h10) (Int64.not_lt.mpr q.2)); exact ⟨by rw [hp]; rfl, rfl⟩)
          | (have hp := bI_f (p := b ≤ a ∧ a ≤ e) (fun q => absurd ((lg_cmp_lt _ _).mp h3) (Int64.not_lt.mpr q.1)); exact ⟨by rw [hp]; rfl, rfl⟩))
theorem m_inN {M : List va_E} {a b e : Nat} (ha : a < 2 ^ 31) (hb : b < 2 ^ 31) (he : e < 2 ^ 31) : zS G 1 yX4_in cX4_in 6 (some .boolean) [.long (lN a), .long (lN b), .long (lN e)] M 0 0 (zE (.int (bI (b ≤ a ∧ a ≤ e))) M) := by
  rw [← bI_congr (p := lN b ≤ lN a ∧ lN a ≤ lN e) (q := b ≤ a ∧ a ≤ e) (by rw [lN_le hb ha, lN_le ha he])]
  exact m_in
theorem m_inI {M : List va_E} {x : Int32} {b e : Nat} (hb : b < 2 ^ 31) (he : e < 2 ^ 31) : zS G 1 yX4_in cX4_in 6 (some .boolean) [.long x.toInt64, .long (lN b), .long (lN e)] M 0 0 (zE (.int (bI (nI b ≤ x ∧ x ≤ nI e))) M) := by
  rw [← bI_congr (p := lN b ≤ x.toInt64 ∧ x.toInt64 ≤ lN e) (q := nI b ≤ x ∧ x ≤ nI e) (by rw [x64_le hb, x64_ge he])]
  exact m_in
set_option maxRecDepth 20000 in
set_option maxHeartbeats 4000000 in
theorem m_isCellI {M : List va_E} {x : Int32} : zS G 2 yX4_isCell cX4_isCell 1 (some .boolean) [.int x] M 0 0 (zE (.int (bI (nI 0 ≤ x ∧ x ≤ nI 8))) M) := by
  refine zS.of (by decide) (Nat.le_of_ble_eq_true rfl) (fun F O hR1 hR2 => ?_)
  have O : zOk G F yX4_isCell cX4_isCell 1 (some .boolean) RX4 2 M.length := O
  refine z_eq (lv' := [(0, _)]) rfl rfl rfl ?_
  refine z_iload_n O dX4_isCell_0 rfl ?_
  refine z_i2l O dX4_isCell_1 ?_
  refine z_lconst O (lN 0) dX4_isCell_2 (by decide) ?_
  refine z_ldc2 O dX4_isCell_3 klX4_43 ?_
  refine z_top (v' := .long (lN 8)) (by decide) ?_
  refine z_S3e0 O (m_inI (by decide) (by decide)) mX4_in lkX4_45 dX4_isCell_6 (Nat.le_of_ble_eq_true rfl) (by decide) ?_
  exact z_zret O dX4_isCell_9 bI_nar ⟨rfl, rfl⟩
set_option maxRecDepth 20000 in
set_option maxHeartbeats 4000000 in
theorem m_isCellN {M : List va_E} {a : Nat} (ha : a < 2 ^ 31) : zS G 2 yX4_isCell cX4_isCell 1 (some .boolean) [.int (nI a)] M 0 0 (zE (.int (bI (a ≤ 8))) M) := by
  refine zS.of (by decide) (Nat.le_of_ble_eq_true rfl) (fun F O hR1 hR2 => ?_)
  have O : zOk G F yX4_isCell cX4_isCell 1 (some .boolean) RX4 2 M.length := O
  refine z_eq (lv' := [(0, _)]) rfl rfl rfl ?_
  refine z_iload_n O dX4_isCell_0 rfl ?_
  refine z_i2lN O dX4_isCell_1 (by omega) ?_
  refine z_lconst O (lN 0) dX4_isCell_2 (by decide) ?_
  refine z_ldc2 O dX4_isCell_3 klX4_43 ?_
  refine z_top (v' := .long (lN 8)) (by decide) ?_
  refine z_S3e0 O (m_inN (by omega) (by omega) (by omega)) mX4_in lkX4_45 dX4_isCell_6 (Nat.le_of_ble_eq_true rfl) (by decide) ?_
  exact z_zret O dX4_isCell_9 bI_nar ⟨by rw [bI_congr (show a ≤ 8 ↔ (0 ≤ a ∧ a ≤ 8) from ⟨fun q => ⟨Nat.zero_le _, q⟩, fun q => q.2⟩)], rfl⟩
set_option maxRecDepth 20000 in
set_option maxHeartbeats 4000000 in
theorem m_isFamilyI {M : List va_E} {x : Int32} : zS G 2 yX4_isFamily cX4_isFamily 1 (some .boolean) [.int x] M 0 0 (zE (.int (bI (nI 0 ≤ x ∧ x ≤ nI 2))) M) := by
  refine zS.of (by decide) (Nat.le_of_ble_eq_true rfl) (fun F O hR1 hR2 => ?_)
  have O : zOk G F yX4_isFamily cX4_isFamily 1 (some .boolean) RX4 2 M.length := O
  refine z_eq (lv' := [(0, _)]) rfl rfl rfl ?_
  refine z_iload_n O dX4_isFamily_0 rfl ?_
  refine z_i2l O dX4_isFamily_1 ?_
  refine z_lconst O (lN 0) dX4_isFamily_2 (by decide) ?_
  refine z_ldc2 O dX4_isFamily_3 klX4_55 ?_
  refine z_top (v' := .long (lN 2)) (by decide) ?_
  refine z_S3e0 O (m_inI (by decide) (by decide)) mX4_in lkX4_45 dX4_isFamily_6 (Nat.le_of_ble_eq_true rfl) (by decide) ?_
  exact z_zret O dX4_isFamily_9 bI_nar ⟨rfl, rfl⟩
set_option maxRecDepth 20000 in
set_option maxHeartbeats 4000000 in
theorem m_isFamilyN {M : List va_E} {a : Nat} (ha : a < 2 ^ 31) : zS G 2 yX4_isFamily cX4_isFamily 1 (some .boolean) [.int (nI a)] M 0 0 (zE (.int (bI (a ≤ 2))) M) := by
  refine zS.of (by decide) (Nat.le_of_ble_eq_true rfl) (fun F O hR1 hR2 => ?_)
  have O : zOk G F yX4_isFamily cX4_isFamily 1 (some .boolean) RX4 2 M.length := O
  refine z_eq (lv' := [(0, _)]) rfl rfl rfl ?_
  refine z_iload_n O dX4_isFamily_0 rfl ?_
  refine z_i2lN O dX4_isFamily_1 (by omega) ?_
  refine z_lconst O (lN 0) dX4_isFamily_2 (by decide) ?_
  refine z_ldc2 O dX4_isFamily_3 klX4_55 ?_
  refine z_top (v' := .long (lN 2)) (by decide) ?_
  refine z_S3e0 O (m_inN (by omega) (by omega) (by omega)) mX4_in lkX4_45 dX4_isFamily_6 (Nat.le_of_ble_eq_true rfl) (by decide) ?_
  exact z_zret O dX4_isFamily_9 bI_nar ⟨by rw [bI_congr (show a ≤ 2 ↔ (0 ≤ a ∧ a ≤ 2) from ⟨fun q => ⟨Nat.zero_le _, q⟩, fun q => q.2⟩)], rfl⟩
set_option maxRecDepth 20000 in
set_option maxHeartbeats 4000000 in
theorem m_isLawI {M : List va_E} {x : Int32} : zS G 2 yX4_isLaw cX4_isLaw 1 (some .boolean) [.int x] M 0 0 (zE (.int (bI (nI 0 ≤ x ∧ x ≤ nI 3))) M) := by
  refine zS.of (by decide) (Nat.le_of_ble_eq_true rfl) (fun F O hR1 hR2 => ?_)
  have O : zOk G F yX4_isLaw cX4_isLaw 1 (some .boolean) RX4 2 M.length := O
  refine z_eq (lv' := [(0, _)]) rfl rfl rfl ?_
  refine z_iload_n O dX4_isLaw_0 rfl ?_
  refine z_i2l O dX4_isLaw_1 ?_
  refine z_lconst O (lN 0) dX4_isLaw_2 (by decide) ?_
  refine z_ldc2 O dX4_isLaw_3 klX4_176 ?_
  refine z_top (v' := .long (lN 3)) (by decide) ?_
  refine z_S3e0 O (m_inI (by decide) (by decide)) mX4_in lkX4_45 dX4_isLaw_6 (Nat.le_of_ble_eq_true rfl) (by decide) ?_
  exact z_zret O dX4_isLaw_9 bI_nar ⟨rfl, rfl⟩
set_option maxRecDepth 20000 in
set_option maxHeartbeats 4000000 in
theorem m_isLawN {M : List va_E} {a : Nat} (ha : a < 2 ^ 31) : zS G 2 yX4_isLaw cX4_isLaw 1 (some .boolean) [.int (nI a)] M 0 0 (zE (.int (bI (a ≤ 3))) M) := by
  refine zS.of (by decide) (Nat.le_of_ble_eq_true rfl) (fun F O hR1 hR2 => ?_)
  have O : zOk G F yX4_isLaw cX4_isLaw 1 (some .boolean) RX4 2 M.length := O
  refine z_eq (lv' := [(0, _)]) rfl rfl rfl ?_
  refine z_iload_n O dX4_isLaw_0 rfl ?_
  refine z_i2lN O dX4_isLaw_1 (by omega) ?_
  refine z_lconst O (lN 0) dX4_isLaw_2 (by decide) ?_
  refine z_ldc2 O dX4_isLaw_3 klX4_176 ?_
  refine z_top (v' := .long (lN 3)) (by decide) ?_
  refine z_S3e0 O (m_inN (by omega) (by omega) (by omega)) mX4_in lkX4_45 dX4_isLaw_6 (Nat.le_of_ble_eq_true rfl) (by decide) ?_
  exact z_zret O dX4_isLaw_9 bI_nar ⟨by rw [bI_congr (show a ≤ 3 ↔ (0 ≤ a ∧ a ≤ 3) from ⟨fun q => ⟨Nat.zero_le _, q⟩, fun q => q.2⟩)], rfl⟩
set_option maxRecDepth 20000 in
set_option maxHeartbeats 4000000 in
theorem m_has {M : List va_E} {m k : Nat} (hm : m < 2 ^ 31) (hk : k < 31) : zS G 1 yX4_has cX4_has 2 (some .boolean) [.int (nI m), .int (nI k)] M 0 0 (zE (.int (bI (bitN m k = 1))) M) := by
  refine zS.of (by decide) (Nat.le_of_ble_eq_true rfl) (fun F O hR1 hR2 => ?_)
  have O : zOk G F yX4_has cX4_has 2 (some .boolean) RX4 1 M.length := O
  refine z_eq (lv' := [(0, _), (1, _)]) rfl rfl rfl ?_
  refine z_iload_n O dX4_has_0 rfl ?_
  refine z_iload_n O dX4_has_1 rfl ?_
  refine z_ishr O dX4_has_2 ?_
  refine z_iconst O (nI 1) dX4_has_3 (by decide) ?_
  refine z_iand O dX4_has_4 ?_
  refine z_top (v' := .int (nI (bitN m k))) (congrArg Value.int (zb_bit hm hk)) ?_
  refine z_iconst O (nI 1) dX4_has_5 (by decide) ?_
  refine z_icmp_neN O 13 dX4_has_6 (by decide) (by have : bitN m k < 2 := Nat.mod_lt _ (by decide); omega) (by have : bitN m k < 2 := Nat.mod_lt _ (by decide); omega) (fun h6 => ?_) (fun h6 => ?_)
  · refine z_iconst O (nI 0) dX4_has_13 (by decide) ?_
    exact z_zret O dX4_has_14 rfl (by first | (have hp := bI_t (p := bitN m k = 1) h6; exact ⟨by rw [hp]; rfl, rfl⟩) | (have hp := bI_f (p := bitN m k = 1) h6; exact ⟨by rw [hp]; rfl, rfl⟩))
  · refine z_iconst O (nI 1) dX4_has_9 (by decide) ?_
    refine z_goto O 14 dX4_has_10 (by decide) ?_
    exact z_zret O dX4_has_14 rfl (by first | (have hp := bI_t (p := bitN m k = 1) h6; exact ⟨by rw [hp]; rfl, rfl⟩) | (have hp := bI_f (p := bitN m k = 1) h6; exact ⟨by rw [hp]; rfl, rfl⟩))
set_option maxRecDepth 20000 in
set_option maxHeartbeats 4000000 in
theorem m_bad  : zS G 1 yX4_bad cX4_bad 1 (some .int) [.ref (zad (zb G) 21)] (yM G c0_ c1_ c2_ c3_ c4_ c5_ c6_ c7_ c8_ c9_ c10_ c11_ c12_ c13_ c14_ c15_ c16_ c17_ c18_ c19_ c20_ w kp tx txl rf ya yb at2 st2 iwd ifg nb fr la nms nd wf hh tl) 0 0 (zE (.int (-2)) (yM G c0_ c1_ c2_ c3_ c4_ c5_ c6_ c7_ c8_ c9_ c10_ c11_ c12_ c13_ c14_ c15_ c16_ c17_ c18_ c19_ c20_ w kp tx txl (updN rf 0 (rf 0 + 1)) ya yb at2 st2 iwd ifg nb fr la nms nd wf hh tl)) := by
  refine zS.of (by decide) (Nat.le_of_ble_eq_true rfl) (fun F O hR1 hR2 => ?_)
  have O : zOk G F yX4_bad cX4_bad 1 (some .int) RX4 1 (yM G c0_ c1_ c2_ c3_ c4_ c5_ c6_ c7_ c8_ c9_ c10_ c11_ c12_ c13_ c14_ c15_ c16_ c17_ c18_ c19_ c20_ w kp tx txl rf ya yb at2 st2 iwd ifg nb fr la nms nd wf hh tl).length := O
  refine z_eq (lv' := [(0, _)]) rfl rfl rfl ?_
  refine z_aload_n O dX4_bad_0 rfl ?_
  refine z_get O dX4_bad_1 flX4_20 (by rfl) (by rfl) ?_
  refine z_iconst O (nI 0) dX4_bad_4 (by decide) ?_
  refine z_dup2 O dX4_bad_5 rfl rfl ?_
  refine z_ialdN O dX4_bad_6 (by rfl) (by omega) (by decide) ?_
  refine z_iconst O (nI 1) dX4_bad_7 (by decide) ?_
  refine z_iaddN O dX4_bad_8 ?_
  refine z_iastN O (by rfl) dX4_bad_9 (by rfl) (by omega) (by decide) ?_
  refine z_M (show _ = (yM G c0_ c1_ c2_ c3_ c4_ c5_ c6_ c7_ c8_ c9_ c10_ c11_ c12_ c13_ c14_ c15_ c16_ c17_ c18_ c19_ c20_ w kp tx txl (updN rf 0 (rf 0 + 1)) ya yb at2 st2 iwd ifg nb fr la nms nd wf hh tl) from rfl) ?_
  refine z_bipush O (-2) dX4_bad_10 (by decide) ?_
  exact z_iret O dX4_bad_12 ⟨rfl, rfl⟩
set_option maxRecDepth 20000 in
set_option maxHeartbeats 4000000 in
theorem m_no  : zS G 1 yX4_no cX4_no 1 (some .int) [.ref (zad (zb G) 21)] (yM G c0_ c1_ c2_ c3_ c4_ c5_ c6_ c7_ c8_ c9_ c10_ c11_ c12_ c13_ c14_ c15_ c16_ c17_ c18_ c19_ c20_ w kp tx txl rf ya yb at2 st2 iwd ifg nb fr la nms nd wf hh tl) 0 0 (zE (.int (-3)) (yM G c0_ c1_ c2_ c3_ c4_ c5_ c6_ c7_ c8_ c9_ c10_ c11_ c12_ c13_ c14_ c15_ c16_ c17_ c18_ c19_ c20_ w kp tx txl (updN rf 1 (rf 1 + 1)) ya yb at2 st2 iwd ifg nb fr la nms nd wf hh tl)) := by
  refine zS.of (by decide) (Nat.le_of_ble_eq_true rfl) (fun F O hR1 hR2 => ?_)
  have O : zOk G F yX4_no cX4_no 1 (some .int) RX4 1 (yM G c0_ c1_ c2_ c3_ c4_ c5_ c6_ c7_ c8_ c9_ c10_ c11_ c12_ c13_ c14_ c15_ c16_ c17_ c18_ c19_ c20_ w kp tx txl rf ya yb at2 st2 iwd ifg nb fr la nms nd wf hh tl).length := O
  refine z_eq (lv' := [(0, _)]) rfl rfl rfl ?_
  refine z_aload_n O dX4_no_0 rfl ?_
  refine z_get O dX4_no_1 flX4_20 (by rfl) (by rfl) ?_
  refine z_iconst O (nI 1) dX4_no_4 (by decide) ?_
  refine z_dup2 O dX4_no_5 rfl rfl ?_
  refine z_ialdN O dX4_no_6 (by rfl) (by omega) (by decide) ?_
  refine z_iconst O (nI 1) dX4_no_7 (by decide) ?_
  refine z_iaddN O dX4_no_8 ?_
  refine z_iastN O (by rfl) dX4_no_9 (by rfl) (by omega) (by decide) ?_
  refine z_M (show _ = (yM G c0_ c1_ c2_ c3_ c4_ c5_ c6_ c7_ c8_ c9_ c10_ c11_ c12_ c13_ c14_ c15_ c16_ c17_ c18_ c19_ c20_ w kp tx txl (updN rf 1 (rf 1 + 1)) ya yb at2 st2 iwd ifg nb fr la nms nd wf hh tl) from rfl) ?_
  refine z_bipush O (-3) dX4_no_10 (by decide) ?_
  exact z_iret O dX4_no_12 ⟨rfl, rfl⟩
set_option maxRecDepth 20000 in
set_option maxHeartbeats 4000000 in
theorem m_full  : zS G 1 yX4_full cX4_full 1 (some .int) [.ref (zad (zb G) 21)] (yM G c0_ c1_ c2_ c3_ c4_ c5_ c6_ c7_ c8_ c9_ c10_ c11_ c12_ c13_ c14_ c15_ c16_ c17_ c18_ c19_ c20_ w kp tx txl rf ya yb at2 st2 iwd ifg nb fr la nms nd wf hh tl) 0 0 (zE (.int (-4)) (yM G c0_ c1_ c2_ c3_ c4_ c5_ c6_ c7_ c8_ c9_ c10_ c11_ c12_ c13_ c14_ c15_ c16_ c17_ c18_ c19_ c20_ w kp tx txl (updN rf 2 (rf 2 + 1)) ya yb at2 st2 iwd ifg nb fr la nms nd wf hh tl)) := by
  refine zS.of (by decide) (Nat.le_of_ble_eq_true rfl) (fun F O hR1 hR2 => ?_)
  have O : zOk G F yX4_full cX4_full 1 (some .int) RX4 1 (yM G c0_ c1_ c2_ c3_ c4_ c5_ c6_ c7_ c8_ c9_ c10_ c11_ c12_ c13_ c14_ c15_ c16_ c17_ c18_ c19_ c20_ w kp tx txl rf ya yb at2 st2 iwd ifg nb fr la nms nd wf hh tl).length := O
  refine z_eq (lv' := [(0, _)]) rfl rfl rfl ?_
  refine z_aload_n O dX4_full_0 rfl ?_
  refine z_get O dX4_full_1 flX4_20 (by rfl) (by rfl) ?_
  refine z_iconst O (nI 2) dX4_full_4 (by decide) ?_
  refine z_dup2 O dX4_full_5 rfl rfl ?_
  refine z_ialdN O dX4_full_6 (by rfl) (by omega) (by decide) ?_
  refine z_iconst O (nI 1) dX4_full_7 (by decide) ?_
  refine z_iaddN O dX4_full_8 ?_
  refine z_iastN O (by rfl) dX4_full_9 (by rfl) (by omega) (by decide) ?_
  refine z_M (show _ = (yM G c0_ c1_ c2_ c3_ c4_ c5_ c6_ c7_ c8_ c9_ c10_ c11_ c12_ c13_ c14_ c15_ c16_ c17_ c18_ c19_ c20_ w kp tx txl (updN rf 2 (rf 2 + 1)) ya yb at2 st2 iwd ifg nb fr la nms nd wf hh tl) from rfl) ?_
  refine z_bipush O (-4) dX4_full_10 (by decide) ?_
  exact z_iret O dX4_full_12 ⟨rfl, rfl⟩
set_option maxRecDepth 20000 in
set_option maxHeartbeats 4000000 in
theorem m_badAs {x : Int32} : zS G 1 yX4_badAs cX4_badAs 2 (some .int) [.ref (zad (zb G) 21), .int x] (yM G c0_ c1_ c2_ c3_ c4_ c5_ c6_ c7_ c8_ c9_ c10_ c11_ c12_ c13_ c14_ c15_ c16_ c17_ c18_ c19_ c20_ w kp tx txl rf ya yb at2 st2 iwd ifg nb fr la nms nd wf hh tl) 0 0 (zE (.int x) (yM G c0_ c1_ c2_ c3_ c4_ c5_ c6_ c7_ c8_ c9_ c10_ c11_ c12_ c13_ c14_ c15_ c16_ c17_ c18_ c19_ c20_ w kp tx txl (updN rf 0 (rf 0 + 1)) ya yb at2 st2 iwd ifg nb fr la nms nd wf hh tl)) := by
  refine zS.of (by decide) (Nat.le_of_ble_eq_true rfl) (fun F O hR1 hR2 => ?_)
  have O : zOk G F yX4_badAs cX4_badAs 2 (some .int) RX4 1 (yM G c0_ c1_ c2_ c3_ c4_ c5_ c6_ c7_ c8_ c9_ c10_ c11_ c12_ c13_ c14_ c15_ c16_ c17_ c18_ c19_ c20_ w kp tx txl rf ya yb at2 st2 iwd ifg nb fr la nms nd wf hh tl).length := O
  refine z_eq (lv' := [(0, _), (1, _)]) rfl rfl rfl ?_
  refine z_aload_n O dX4_badAs_0 rfl ?_
  refine z_get O dX4_badAs_1 flX4_20 (by rfl) (by rfl) ?_
  refine z_iconst O (nI 0) dX4_badAs_4 (by decide) ?_
  refine z_dup2 O dX4_badAs_5 rfl rfl ?_
  refine z_ialdN O dX4_badAs_6 (by rfl) (by omega) (by decide) ?_
  refine z_iconst O (nI 1) dX4_badAs_7 (by decide) ?_
  refine z_iaddN O dX4_badAs_8 ?_
  refine z_iastN O (by rfl) dX4_badAs_9 (by rfl) (by omega) (by decide) ?_
  refine z_M (show _ = (yM G c0_ c1_ c2_ c3_ c4_ c5_ c6_ c7_ c8_ c9_ c10_ c11_ c12_ c13_ c14_ c15_ c16_ c17_ c18_ c19_ c20_ w kp tx txl (updN rf 0 (rf 0 + 1)) ya yb at2 st2 iwd ifg nb fr la nms nd wf hh tl) from rfl) ?_
  refine z_iload_n O dX4_badAs_10 rfl ?_
  exact z_iret O dX4_badAs_11 ⟨rfl, rfl⟩
set_option maxRecDepth 20000 in
set_option maxHeartbeats 4000000 in
theorem m_copy {s d n : Nat} (h : d ≤ s ∨ s + n ≤ d) (h1 : s + n ≤ 3567) (h2 : d + n ≤ 3567) : zS G 1 yX4_copy cX4_copy 5 none [.ref (zad (zb G) 21), .int (nI s), .int (nI d), .int (nI n)] (yM G c0_ c1_ c2_ c3_ c4_ c5_ c6_ c7_ c8_ c9_ c10_ c11_ c12_ c13_ c14_ c15_ c16_ c17_ c18_ c19_ c20_ w kp tx txl rf ya yb at2 st2 iwd ifg nb fr la nms nd wf hh tl) 0 0 (zU (yM G c0_ c1_ c2_ c3_ c4_ c5_ c6_ c7_ c8_ c9_ c10_ c11_ c12_ c13_ c14_ c15_ c16_ c17_ c18_ c19_ c20_ (cpyN w w s d n) kp tx txl rf ya yb at2 st2 iwd ifg nb fr la nms nd wf hh tl)) := by
  refine zS.of (by decide) (Nat.le_of_ble_eq_true rfl) (fun F O hR1 hR2 => ?_)
  have O : zOk G F yX4_copy cX4_copy 5 none RX4 1 (yM G c0_ c1_ c2_ c3_ c4_ c5_ c6_ c7_ c8_ c9_ c10_ c11_ c12_ c13_ c14_ c15_ c16_ c17_ c18_ c19_ c20_ w kp tx txl rf ya yb at2 st2 iwd ifg nb fr la nms nd wf hh tl).length := O
  refine z_eq (lv' := [(0, _), (1, _), (2, _), (3, _)]) rfl rfl rfl ?_
  refine z_iconst O (nI 0) dX4_copy_0 (by decide) ?_
  refine z_istore (lv' := [(0, _), (1, _), (2, _), (3, _), (4, _)]) O dX4_copy_1 (by decide) rfl ?_
  refine z_M (show _ = (yM G c0_ c1_ c2_ c3_ c4_ c5_ c6_ c7_ c8_ c9_ c10_ c11_ c12_ c13_ c14_ c15_ c16_ c17_ c18_ c19_ c20_ (cpyN w w s d 0) kp tx txl rf ya yb at2 st2 iwd ifg nb fr la nms nd wf hh tl) by rw [cpyN_0]) ?_
  refine zdown (P := fun k => Z G F 0 0 (zEnd G F (zU (yM G c0_ c1_ c2_ c3_ c4_ c5_ c6_ c7_ c8_ c9_ c10_ c11_ c12_ c13_ c14_ c15_ c16_ c17_ c18_ c19_ c20_ (cpyN w w s d n) kp tx txl rf ya yb at2 st2 iwd ifg nb fr la nms nd wf hh tl)) 0 0) 3 [(0, .ref (zad (zb G) 21)), (1, .int (nI s)), (2, .int (nI d)), (3, .int (nI n)), (4, .int (nI k))] [] (yM G c0_ c1_ c2_ c3_ c4_ c5_ c6_ c7_ c8_ c9_ c10_ c11_ c12_ c13_ c14_ c15_ c16_ c17_ c18_ c19_ c20_ (cpyN w w s d k) kp tx txl rf ya yb at2 st2 iwd ifg nb fr la nms nd wf hh tl)) (n) ?_ ?_ 
  · refine z_iload O dX4_copy_3 rfl ?_
    refine z_iload_n O dX4_copy_5 rfl ?_
    refine z_icmp_geN O 33 dX4_copy_6 (by decide) (by omega) (by omega) (fun h6 => ?_) (fun h6 => by omega)
    exact z_vret O dX4_copy_33 ⟨rfl, rfl⟩
  · intro k hk ih 
    refine z_iload O dX4_copy_3 rfl ?_
    refine z_iload_n O dX4_copy_5 rfl ?_
    refine z_icmp_geN O 33 dX4_copy_6 (by decide) (by omega) (by omega) (fun h6 => by omega) (fun h6 => ?_)
    refine z_aload_n O dX4_copy_9 rfl ?_
    refine z_get O dX4_copy_10 flX4_7 (by rfl) (by rfl) ?_
    refine z_iload_n O dX4_copy_13 rfl ?_
    refine z_iload O dX4_copy_14 rfl ?_
    refine z_iaddN O dX4_copy_16 ?_
    refine z_aload_n O dX4_copy_17 rfl ?_
    refine z_get O dX4_copy_18 flX4_7 (by rfl) (by rfl) ?_
    refine z_iload_n O dX4_copy_21 rfl ?_
    refine z_iload O dX4_copy_22 rfl ?_
    refine z_iaddN O dX4_copy_24 ?_
    refine z_ialdN O dX4_copy_25 (by rfl) (by omega) (by decide) ?_
    refine z_iastN O (by rfl) dX4_copy_26 (by rfl) (by omega) (by decide) ?_
    refine z_M (show _ = (yM G c0_ c1_ c2_ c3_ c4_ c5_ c6_ c7_ c8_ c9_ c10_ c11_ c12_ c13_ c14_ c15_ c16_ c17_ c18_ c19_ c20_ (updN (cpyN w w s d k) (d + k) (cpyN w w s d k (s + k))) kp tx txl rf ya yb at2 st2 iwd ifg nb fr la nms nd wf hh tl) from rfl) ?_
    rw [cpyN_s h hk]
    refine z_iincN (lv' := [(0, _), (1, _), (2, _), (3, _), (4, _)]) O 1 dX4_copy_27 (by decide) rfl rfl (by decide) ?_
    refine z_goto O 3 dX4_copy_30 (by decide) ?_
    exact ih
set_option maxRecDepth 20000 in
set_option maxHeartbeats 4000000 in
theorem m_begins {b y : Nat} (hb : b + 147 ≤ 3567) : zS G 1 yX4_begins cX4_begins 4 none [.ref (zad (zb G) 21), .int (nI b), .int (nI y)] (yM G c0_ c1_ c2_ c3_ c4_ c5_ c6_ c7_ c8_ c9_ c10_ c11_ c12_ c13_ c14_ c15_ c16_ c17_ c18_ c19_ c20_ w kp tx txl rf ya yb at2 st2 iwd ifg nb fr la nms nd wf hh tl) 0 0 (zU (yM G c0_ c1_ c2_ c3_ c4_ c5_ c6_ c7_ c8_ c9_ c10_ c11_ c12_ c13_ c14_ c15_ c16_ c17_ c18_ c19_ c20_ (begW w b y) kp tx txl rf ya yb at2 st2 iwd ifg nb fr la nms nd wf hh tl)) := by
  refine zS.of (by decide) (Nat.le_of_ble_eq_true rfl) (fun F O hR1 hR2 => ?_)
  have O : zOk G F yX4_begins cX4_begins 4 none RX4 1 (yM G c0_ c1_ c2_ c3_ c4_ c5_ c6_ c7_ c8_ c9_ c10_ c11_ c12_ c13_ c14_ c15_ c16_ c17_ c18_ c19_ c20_ w kp tx txl rf ya yb at2 st2 iwd ifg nb fr la nms nd wf hh tl).length := O
  refine z_eq (lv' := [(0, _), (1, _), (2, _)]) rfl rfl rfl ?_
  refine z_iconst O (nI 0) dX4_begins_0 (by decide) ?_
  refine z_istore_n (lv' := [(0, _), (1, _), (2, _), (3, _)]) O dX4_begins_1 (by decide) rfl ?_
  refine z_M (show _ = (yM G c0_ c1_ c2_ c3_ c4_ c5_ c6_ c7_ c8_ c9_ c10_ c11_ c12_ c13_ c14_ c15_ c16_ c17_ c18_ c19_ c20_ (zrW w b 0) kp tx txl rf ya yb at2 st2 iwd ifg nb fr la nms nd wf hh tl) by rw [show zrW w b 0 = w by funext j; unfold zrW; rw [if_neg (by omega)]]) ?_
  refine zdown (P := fun k => Z G F 0 0 (zEnd G F (zU (yM G c0_ c1_ c2_ c3_ c4_ c5_ c6_ c7_ c8_ c9_ c10_ c11_ c12_ c13_ c14_ c15_ c16_ c17_ c18_ c19_ c20_ (begW w b y) kp tx txl rf ya yb at2 st2 iwd ifg nb fr la nms nd wf hh tl)) 0 0) 2 [(0, .ref (zad (zb G) 21)), (1, .int (nI b)), (2, .int (nI y)), (3, .int (nI k))] [] (yM G c0_ c1_ c2_ c3_ c4_ c5_ c6_ c7_ c8_ c9_ c10_ c11_ c12_ c13_ c14_ c15_ c16_ c17_ c18_ c19_ c20_ (zrW w b k) kp tx txl rf ya yb at2 st2 iwd ifg nb fr la nms nd wf hh tl)) (147) ?_ ?_ 
  · refine z_iload_n O dX4_begins_2 rfl ?_
    refine z_sipush O (nI 147) dX4_begins_3 (by decide) ?_
    refine z_icmp_geN O 24 dX4_begins_6 (by decide) (by omega) (by omega) (fun h6 => ?_) (fun h6 => by omega)
    refine z_aload_n O dX4_begins_24 rfl ?_
    refine z_get O dX4_begins_25 flX4_7 (by rfl) (by rfl) ?_
    refine z_iload_n O dX4_begins_28 rfl ?_
    refine z_iconst O (nI 0) dX4_begins_29 (by decide) ?_
    refine z_iaddN O dX4_begins_30 ?_
    refine z_iload_n O dX4_begins_31 rfl ?_
    refine z_iastN O (by rfl) dX4_begins_32 (by rfl) (by omega) (by decide) ?_
    refine z_M (show _ = (yM G c0_ c1_ c2_ c3_ c4_ c5_ c6_ c7_ c8_ c9_ c10_ c11_ c12_ c13_ c14_ c15_ c16_ c17_ c18_ c19_ c20_ (updN (zrW w b 147) b y) kp tx txl rf ya yb at2 st2 iwd ifg nb fr la nms nd wf hh tl) from rfl) ?_
    rw [onW_0]
    refine z_iconst O (nI 0) dX4_begins_33 (by decide) ?_
    refine z_istore_n (lv' := [(0, _), (1, _), (2, _), (3, _)]) O dX4_begins_34 (by decide) rfl ?_
    refine zdown (P := fun c => Z G F 0 0 (zEnd G F (zU (yM G c0_ c1_ c2_ c3_ c4_ c5_ c6_ c7_ c8_ c9_ c10_ c11_ c12_ c13_ c14_ c15_ c16_ c17_ c18_ c19_ c20_ (begW w b y) kp tx txl rf ya yb at2 st2 iwd ifg nb fr la nms nd wf hh tl)) 0 0) 35 [(0, .ref (zad (zb G) 21)), (1, .int (nI b)), (2, .int (nI y)), (3, .int (nI c))] [] (yM G c0_ c1_ c2_ c3_ c4_ c5_ c6_ c7_ c8_ c9_ c10_ c11_ c12_ c13_ c14_ c15_ c16_ c17_ c18_ c19_ c20_ (onW w b y c) kp tx txl rf ya yb at2 st2 iwd ifg nb fr la nms nd wf hh tl)) (9) ?_ ?_ 
    · refine z_iload_n O dX4_begins_35 rfl ?_
      refine z_bipush O (nI 9) dX4_begins_36 (by decide) ?_
      refine z_icmp_geN O 59 dX4_begins_38 (by decide) (by omega) (by omega) (fun h38 => ?_) (fun h38 => by omega)
      exact z_vret O dX4_begins_59 ⟨rfl, rfl⟩
    · intro c hc ih 
      refine z_iload_n O dX4_begins_35 rfl ?_
      refine z_bipush O (nI 9) dX4_begins_36 (by decide) ?_
      refine z_icmp_geN O 59 dX4_begins_38 (by decide) (by omega) (by omega) (fun h38 => by omega) (fun h38 => ?_)
      refine z_aload_n O dX4_begins_41 rfl ?_
      refine z_get O dX4_begins_42 flX4_7 (by rfl) (by rfl) ?_
      refine z_iload_n O dX4_begins_45 rfl ?_
      refine z_bipush O (nI 118) dX4_begins_46 (by decide) ?_
      refine z_iaddN O dX4_begins_48 ?_
      refine z_iload_n O dX4_begins_49 rfl ?_
      refine z_iaddN O dX4_begins_50 ?_
      refine z_iconst O (nI 1) dX4_begins_51 (by decide) ?_
      refine z_iastN O (by rfl) dX4_begins_52 (by rfl) (by omega) (by decide) ?_
      refine z_M (show _ = (yM G c0_ c1_ c2_ c3_ c4_ c5_ c6_ c7_ c8_ c9_ c10_ c11_ c12_ c13_ c14_ c15_ c16_ c17_ c18_ c19_ c20_ (updN (onW w b y c) (b + 118 + c) 1) kp tx txl rf ya yb at2 st2 iwd ifg nb fr la nms nd wf hh tl) from rfl) ?_
      rw [onW_s w b y hc]
      refine z_iincN (lv' := [(0, _), (1, _), (2, _), (3, _)]) O 1 dX4_begins_53 (by decide) rfl rfl (by decide) ?_
      refine z_goto O 35 dX4_begins_56 (by decide) ?_
      exact ih
  · intro k hk ih 
    refine z_iload_n O dX4_begins_2 rfl ?_
    refine z_sipush O (nI 147) dX4_begins_3 (by decide) ?_
    refine z_icmp_geN O 24 dX4_begins_6 (by decide) (by omega) (by omega) (fun h6 => by omega) (fun h6 => ?_)
    refine z_aload_n O dX4_begins_9 rfl ?_
    refine z_get O dX4_begins_10 flX4_7 (by rfl) (by rfl) ?_
    refine z_iload_n O dX4_begins_13 rfl ?_
    refine z_iload_n O dX4_begins_14 rfl ?_
    refine z_iaddN O dX4_begins_15 ?_
    refine z_iconst O (nI 0) dX4_begins_16 (by decide) ?_
    refine z_iastN O (by rfl) dX4_begins_17 (by rfl) (by omega) (by decide) ?_
    refine z_M (show _ = (yM G c0_ c1_ c2_ c3_ c4_ c5_ c6_ c7_ c8_ c9_ c10_ c11_ c12_ c13_ c14_ c15_ c16_ c17_ c18_ c19_ c20_ (updN (zrW w b k) (b + k) 0) kp tx txl rf ya yb at2 st2 iwd ifg nb fr la nms nd wf hh tl) from rfl) ?_
    rw [zrW_s]
    refine z_iincN (lv' := [(0, _), (1, _), (2, _), (3, _)]) O 1 dX4_begins_18 (by decide) rfl rfl (by decide) ?_
    refine z_goto O 2 dX4_begins_21 (by decide) ?_
    exact ih
set_option maxRecDepth 20000 in
set_option maxHeartbeats 4000000 in
theorem m_isDarnI {M : List va_E} {c kd fm th : Int32} : zS G 3 yX4_isDarn cX4_isDarn 4 (some .boolean) [.int c, .int kd, .int fm, .int th] M 0 0 (zE (.int (bI ((nI 0 ≤ c ∧ c ≤ nI 8) ∧ (nI 0 ≤ kd ∧ kd ≤ nI 5) ∧ (nI 0 ≤ fm ∧ fm ≤ nI 2) ∧ (nI 1 ≤ th ∧ th ≤ nI 30)))) M) := by
  refine zS.of (by decide) (Nat.le_of_ble_eq_true rfl) (fun F O hR1 hR2 => ?_)
  have O : zOk G F yX4_isDarn cX4_isDarn 4 (some .boolean) RX4 3 M.length := O
  refine z_eq (lv' := [(0, _), (1, _), (2, _), (3, _)]) rfl rfl rfl ?_
  refine z_iload_n O dX4_isDarn_0 rfl ?_
  refine z_S1e0 O m_isCellI mX4_isCell lkX4_49 dX4_isDarn_1 (Nat.le_of_ble_eq_true rfl) (by decide) ?_
  refine z_if_eqB O 47 dX4_isDarn_4 (by decide) (fun h4 => ?_) (fun h4 => ?_)
  · refine z_iconst O (nI 0) dX4_isDarn_47 (by decide) ?_
    exact z_zret O dX4_isDarn_48 rfl (by first
        | (have hp := bI_t (p := ((nI 0 ≤ c ∧ c ≤ nI 8) ∧ (nI 0 ≤ kd ∧ kd ≤ nI 5) ∧ (nI 0 ≤ fm ∧ fm ≤ nI 2) ∧ (nI 1 ≤ th ∧ th ≤ nI 30))) ⟨h4, h16, h28, h40⟩; exact ⟨by rw [hp]; rfl, rfl⟩)
        | (have hp := bI_f (p := ((nI 0 ≤ c ∧ c ≤ nI 8) ∧ (nI 0 ≤ kd ∧ kd ≤ nI 5) ∧ (nI 0 ≤ fm ∧ fm ≤ nI 2) ∧ (nI 1 ≤ th ∧ th ≤ nI 30))) (fun q => h40 q.2.2.2); exact ⟨by rw [hp]; rfl, rfl⟩)
        | (have hp := bI_f (p := ((nI 0 ≤ c ∧ c ≤ nI 8) ∧ (nI 0 ≤ kd ∧ kd ≤ nI 5) ∧ (nI 0 ≤ fm ∧ fm ≤ nI 2) ∧ (nI 1 ≤ th ∧ th ≤ nI 30))) (fun q => h28 q.2.2.1); exact ⟨by rw [hp]; rfl, rfl⟩)
        | (have hp := bI_f (p := ((nI 0 ≤ c ∧ c ≤ nI 8) ∧ (nI 0 ≤ kd ∧ kd ≤ nI 5) ∧ (nI 0 ≤ fm ∧ fm ≤ nI 2) ∧ (nI 1 ≤ th ∧ th ≤ nI 30))) (fun q => h16 q.2.1); exact ⟨by rw [hp]; rfl, rfl⟩)
        | (have hp := bI_f (p := ((nI 0 ≤ c ∧ c ≤ nI 8) ∧ (nI 0 ≤ kd ∧ kd ≤ nI 5) ∧ (nI 0 ≤ fm ∧ fm ≤ nI 2) ∧ (nI 1 ≤ th ∧ th ≤ nI 30))) (fun q => h4 q.1); exact ⟨by rw [hp]; rfl, rfl⟩))
  · refine z_iload_n O dX4_isDarn_7 rfl ?_
    refine z_i2l O dX4_isDarn_8 ?_
    refine z_lconst O (lN 0) dX4_isDarn_9 (by decide) ?_
    refine z_ldc2 O dX4_isDarn_10 klX4_53 ?_
    refine z_top (v' := .long (lN 5)) (by decide) ?_
    refine z_S3e0 O (m_inI (by decide) (by decide)) mX4_in lkX4_45 dX4_isDarn_13 (Nat.le_of_ble_eq_true rfl) (by decide) ?_
    refine z_if_eqB O 47 dX4_isDarn_16 (by decide) (fun h16 => ?_) (fun h16 => ?_)
    · refine z_iconst O (nI 0) dX4_isDarn_47 (by decide) ?_
      exact z_zret O dX4_isDarn_48 rfl (by first
          | (have hp := bI_t (p := ((nI 0 ≤ c ∧ c ≤ nI 8) ∧ (nI 0 ≤ kd ∧ kd ≤ nI 5) ∧ (nI 0 ≤ fm ∧ fm ≤ nI 2) ∧ (nI 1 ≤ th ∧ th ≤ nI 30))) ⟨h4, h16, h28, h40⟩; exact ⟨by rw [hp]; rfl, rfl⟩)
          | (have hp := bI_f (p := ((nI 0 ≤ c ∧ c ≤ nI 8) ∧ (nI 0 ≤ kd ∧ kd ≤ nI 5) ∧ (nI 0 ≤ fm ∧ fm ≤ nI 2) ∧ (nI 1 ≤ th ∧ th ≤ nI 30))) (fun q => h40 q.2.2.2); exact ⟨by rw [hp]; rfl, rfl⟩)
          | (have hp := bI_f (p := ((nI 0 ≤ c ∧ c ≤ nI 8) ∧ (nI 0 ≤ kd ∧ kd ≤ nI 5) ∧ (nI 0 ≤ fm ∧ fm ≤ nI 2) ∧ (nI 1 ≤ th ∧ th ≤ nI 30))) (fun q => h28 q.2.2.1); exact ⟨by rw [hp]; rfl, rfl⟩)
          | (have hp := bI_f (p := ((nI 0 ≤ c ∧ c ≤ nI 8) ∧ (nI 0 ≤ kd ∧ kd ≤ nI 5) ∧ (nI 0 ≤ fm ∧ fm ≤ nI 2) ∧ (nI 1 ≤ th ∧ th ≤ nI 30))) (fun q => h16 q.2.1); exact ⟨by rw [hp]; rfl, rfl⟩)
          | (have hp := bI_f (p := ((nI 0 ≤ c ∧ c ≤ nI 8) ∧ (nI 0 ≤ kd ∧ kd ≤ nI 5) ∧ (nI 0 ≤ fm ∧ fm ≤ nI 2) ∧ (nI 1 ≤ th ∧ th ≤ nI 30))) (fun q => h4 q.1); exact ⟨by rw [hp]; rfl, rfl⟩))
    · refine z_iload_n O dX4_isDarn_19 rfl ?_
      refine z_i2l O dX4_isDarn_20 ?_
      refine z_lconst O (lN 0) dX4_isDarn_21 (by decide) ?_
      refine z_ldc2 O dX4_isDarn_22 klX4_55 ?_
      refine z_top (v' := .long (lN 2)) (by decide) ?_
      refine z_S3e0 O (m_inI (by decide) (by decide)) mX4_in lkX4_45 dX4_isDarn_25 (Nat.le_of_ble_eq_true rfl) (by decide) ?_
      refine z_if_eqB O 47 dX4_isDarn_28 (by decide) (fun h28 => ?_) (fun h28 => ?_)
      · refine z_iconst O (nI 0) dX4_isDarn_47 (by decide) ?_
        exact z_zret O dX4_isDarn_48 rfl (by first
            | (have hp := bI_t (p := ((nI 0 ≤ c ∧ c ≤ nI 8) ∧ (nI 0 ≤ kd ∧ kd ≤ nI 5) ∧ (nI 0 ≤ fm ∧ fm ≤ nI 2) ∧ (nI 1 ≤ th ∧ th ≤ nI 30))) ⟨h4, h16, h28, h40⟩; exact ⟨by rw [hp]; rfl, rfl⟩)
            | (have hp := bI_f (p := ((nI 0 ≤ c ∧ c ≤ nI 8) ∧ (nI 0 ≤ kd ∧ kd ≤ nI 5) ∧ (nI 0 ≤ fm ∧ fm ≤ nI 2) ∧ (nI 1 ≤ th ∧ th ≤ nI 30))) (fun q => h40 q.2.2.2); exact ⟨by rw [hp]; rfl, rfl⟩)
            | (have hp := bI_f (p := ((nI 0 ≤ c ∧ c ≤ nI 8) ∧ (nI 0 ≤ kd ∧ kd ≤ nI 5) ∧ (nI 0 ≤ fm ∧ fm ≤ nI 2) ∧ (nI 1 ≤ th ∧ th ≤ nI 30))) (fun q => h28 q.2.2.1); exact ⟨by rw [hp]; rfl, rfl⟩)
            | (have hp := bI_f (p := ((nI 0 ≤ c ∧ c ≤ nI 8) ∧ (nI 0 ≤ kd ∧ kd ≤ nI 5) ∧ (nI 0 ≤ fm ∧ fm ≤ nI 2) ∧ (nI 1 ≤ th ∧ th ≤ nI 30))) (fun q => h16 q.2.1); exact ⟨by rw [hp]; rfl, rfl⟩)
            | (have hp := bI_f (p := ((nI 0 ≤ c ∧ c ≤ nI 8) ∧ (nI 0 ≤ kd ∧ kd ≤ nI 5) ∧ (nI 0 ≤ fm ∧ fm ≤ nI 2) ∧ (nI 1 ≤ th ∧ th ≤ nI 30))) (fun q => h4 q.1); exact ⟨by rw [hp]; rfl, rfl⟩))
      · refine z_iload_n O dX4_isDarn_31 rfl ?_
        refine z_i2l O dX4_isDarn_32 ?_
        refine z_lconst O (lN 1) dX4_isDarn_33 (by decide) ?_
        refine z_ldc2 O dX4_isDarn_34 klX4_57 ?_
        refine z_top (v' := .long (lN 30)) (by decide) ?_
        refine z_S3e0 O (m_inI (by decide) (by decide)) mX4_in lkX4_45 dX4_isDarn_37 (Nat.le_of_ble_eq_true rfl) (by decide) ?_
        refine z_if_eqB O 47 dX4_isDarn_40 (by decide) (fun h40 => ?_) (fun h40 => ?_)
        · refine z_iconst O (nI 0) dX4_isDarn_47 (by decide) ?_
          exact z_zret O dX4_isDarn_48 rfl (by first
              | (have hp := bI_t (p := ((nI 0 ≤ c ∧ c ≤ nI 8) ∧ (nI 0 ≤ kd ∧ kd ≤ nI 5) ∧ (nI 0 ≤ fm ∧ fm ≤ nI 2) ∧ (nI 1 ≤ th ∧ th ≤ nI 30))) ⟨h4, h16, h28, h40⟩; exact ⟨by rw [hp]; rfl, rfl⟩)
              | (have hp := bI_f (p := ((nI 0 ≤ c ∧ c ≤ nI 8) ∧ (nI 0 ≤ kd ∧ kd ≤ nI 5) ∧ (nI 0 ≤ fm ∧ fm ≤ nI 2) ∧ (nI 1 ≤ th ∧ th ≤ nI 30))) (fun q => h40 q.2.2.2); exact ⟨by rw [hp]; rfl, rfl⟩)
              | (have hp := bI_f (p := ((nI 0 ≤ c ∧ c ≤ nI 8) ∧ (nI 0 ≤ kd ∧ kd ≤ nI 5) ∧ (nI 0 ≤ fm ∧ fm ≤ nI 2) ∧ (nI 1 ≤ th ∧ th ≤ nI 30))) (fun q => h28 q.2.2.1); exact ⟨by rw [hp]; rfl, rfl⟩)
              | (have hp := bI_f (p := ((nI 0 ≤ c ∧ c ≤ nI 8) ∧ (nI 0 ≤ kd ∧ kd ≤ nI 5) ∧ (nI 0 ≤ fm ∧ fm ≤ nI 2) ∧ (nI 1 ≤ th ∧ th ≤ nI 30))) (fun q => h16 q.2.1); exact ⟨by rw [hp]; rfl, rfl⟩)
              | (have hp := bI_f (p := ((nI 0 ≤ c ∧ c ≤ nI 8) ∧ (nI 0 ≤ kd ∧ kd ≤ nI 5) ∧ (nI 0 ≤ fm ∧ fm ≤ nI 2) ∧ (nI 1 ≤ th ∧ th ≤ nI 30))) (fun q => h4 q.1); exact ⟨by rw [hp]; rfl, rfl⟩))
        · refine z_iconst O (nI 1) dX4_isDarn_43 (by decide) ?_
          refine z_goto O 48 dX4_isDarn_44 (by decide) ?_
          exact z_zret O dX4_isDarn_48 rfl (by first
              | (have hp := bI_t (p := ((nI 0 ≤ c ∧ c ≤ nI 8) ∧ (nI 0 ≤ kd ∧ kd ≤ nI 5) ∧ (nI 0 ≤ fm ∧ fm ≤ nI 2) ∧ (nI 1 ≤ th ∧ th ≤ nI 30))) ⟨h4, h16, h28, h40⟩; exact ⟨by rw [hp]; rfl, rfl⟩)
              | (have hp := bI_f (p := ((nI 0 ≤ c ∧ c ≤ nI 8) ∧ (nI 0 ≤ kd ∧ kd ≤ nI 5) ∧ (nI 0 ≤ fm ∧ fm ≤ nI 2) ∧ (nI 1 ≤ th ∧ th ≤ nI 30))) (fun q => h40 q.2.2.2); exact ⟨by rw [hp]; rfl, rfl⟩)
              | (have hp := bI_f (p := ((nI 0 ≤ c ∧ c ≤ nI 8) ∧ (nI 0 ≤ kd ∧ kd ≤ nI 5) ∧ (nI 0 ≤ fm ∧ fm ≤ nI 2) ∧ (nI 1 ≤ th ∧ th ≤ nI 30))) (fun q => h28 q.2.2.1); exact ⟨by rw [hp]; rfl, rfl⟩)
              | (have hp := bI_f (p := ((nI 0 ≤ c ∧ c ≤ nI 8) ∧ (nI 0 ≤ kd ∧ kd ≤ nI 5) ∧ (nI 0 ≤ fm ∧ fm ≤ nI 2) ∧ (nI 1 ≤ th ∧ th ≤ nI 30))) (fun q => h16 q.2.1); exact ⟨by rw [hp]; rfl, rfl⟩)
              | (have hp := bI_f (p := ((nI 0 ≤ c ∧ c ≤ nI 8) ∧ (nI 0 ≤ kd ∧ kd ≤ nI 5) ∧ (nI 0 ≤ fm ∧ fm ≤ nI 2) ∧ (nI 1 ≤ th ∧ th ≤ nI 30))) (fun q => h4 q.1); exact ⟨by rw [hp]; rfl, rfl⟩))
set_option maxRecDepth 20000 in
set_option maxHeartbeats 4000000 in
theorem m_isDarnN {M : List va_E} {c kd fm th : Nat} (h1 : c < 2 ^ 31) (h2 : kd < 2 ^ 31) (h3 : fm < 2 ^ 31) (h5 : th < 2 ^ 31) : zS G 3 yX4_isDarn cX4_isDarn 4 (some .boolean) [.int (nI c), .int (nI kd), .int (nI fm), .int (nI th)] M 0 0 (zE (.int (bI (c ≤ 8 ∧ kd ≤ 5 ∧ fm ≤ 2 ∧ 1 ≤ th ∧ th ≤ 30))) M) := by
  refine zS.of (by decide) (Nat.le_of_ble_eq_true rfl) (fun F O hR1 hR2 => ?_)
  have O : zOk G F yX4_isDarn cX4_isDarn 4 (some .boolean) RX4 3 M.length := O
  refine z_eq (lv' := [(0, _), (1, _), (2, _), (3, _)]) rfl rfl rfl ?_
  refine z_iload_n O dX4_isDarn_0 rfl ?_
  refine z_S1e0 O (m_isCellN (by omega)) mX4_isCell lkX4_49 dX4_isDarn_1 (Nat.le_of_ble_eq_true rfl) (by decide) ?_
  refine z_if_eqB O 47 dX4_isDarn_4 (by decide) (fun h4 => ?_) (fun h4 => ?_)
  · refine z_iconst O (nI 0) dX4_isDarn_47 (by decide) ?_
    exact z_zret O dX4_isDarn_48 rfl (by first
        | (have hp := bI_t (p := (c ≤ 8 ∧ kd ≤ 5 ∧ fm ≤ 2 ∧ 1 ≤ th ∧ th ≤ 30)) ⟨h4, h16.2, h28.2, h40⟩; exact ⟨by rw [hp]; rfl, rfl⟩)
        | (have hp := bI_f (p := (c ≤ 8 ∧ kd ≤ 5 ∧ fm ≤ 2 ∧ 1 ≤ th ∧ th ≤ 30)) (fun q => h40 q.2.2.2); exact ⟨by rw [hp]; rfl, rfl⟩)
        | (have hp := bI_f (p := (c ≤ 8 ∧ kd ≤ 5 ∧ fm ≤ 2 ∧ 1 ≤ th ∧ th ≤ 30)) (fun q => h28 ⟨Nat.zero_le _, q.2.2.1⟩); exact ⟨by rw [hp]; rfl, rfl⟩)
        | (have hp := bI_f (p := (c ≤ 8 ∧ kd ≤ 5 ∧ fm ≤ 2 ∧ 1 ≤ th ∧ th ≤ 30)) (fun q => h16 ⟨Nat.zero_le _, q.2.1⟩); exact ⟨by rw [hp]; rfl, rfl⟩)
        | (have hp := bI_f (p := (c ≤ 8 ∧ kd ≤ 5 ∧ fm ≤ 2 ∧ 1 ≤ th ∧ th ≤ 30)) (fun q => h4 q.1); exact ⟨by rw [hp]; rfl, rfl⟩))
  · refine z_iload_n O dX4_isDarn_7 rfl ?_
    refine z_i2lN O dX4_isDarn_8 (by omega) ?_
    refine z_lconst O (lN 0) dX4_isDarn_9 (by decide) ?_
    refine z_ldc2 O dX4_isDarn_10 klX4_53 ?_
    refine z_top (v' := .long (lN 5)) (by decide) ?_
    refine z_S3e0 O (m_inN (by omega) (by omega) (by omega)) mX4_in lkX4_45 dX4_isDarn_13 (Nat.le_of_ble_eq_true rfl) (by decide) ?_
    refine z_if_eqB O 47 dX4_isDarn_16 (by decide) (fun h16 => ?_) (fun h16 => ?_)
    · refine z_iconst O (nI 0) dX4_isDarn_47 (by decide) ?_
      exact z_zret O dX4_isDarn_48 rfl (by first
          | (have hp := bI_t (p := (c ≤ 8 ∧ kd ≤ 5 ∧ fm ≤ 2 ∧ 1 ≤ th ∧ th ≤ 30)) ⟨h4, h16.2, h28.2, h40⟩; exact ⟨by rw [hp]; rfl, rfl⟩)
          | (have hp := bI_f (p := (c ≤ 8 ∧ kd ≤ 5 ∧ fm ≤ 2 ∧ 1 ≤ th ∧ th ≤ 30)) (fun q => h40 q.2.2.2); exact ⟨by rw [hp]; rfl, rfl⟩)
          | (have hp := bI_f (p := (c ≤ 8 ∧ kd ≤ 5 ∧ fm ≤ 2 ∧ 1 ≤ th ∧ th ≤ 30)) (fun q => h28 ⟨Nat.zero_le _, q.2.2.1⟩); exact ⟨by rw [hp]; rfl, rfl⟩)
          | (have hp := bI_f (p := (c ≤ 8 ∧ kd ≤ 5 ∧ fm ≤ 2 ∧ 1 ≤ th ∧ th ≤ 30)) (fun q => h16 ⟨Nat.zero_le _, q.2.1⟩); exact ⟨by rw [hp]; rfl, rfl⟩)
          | (have hp := bI_f (p := (c ≤ 8 ∧ kd ≤ 5 ∧ fm ≤ 2 ∧ 1 ≤ th ∧ th ≤ 30)) (fun q => h4 q.1); exact ⟨by rw [hp]; rfl, rfl⟩))
    · refine z_iload_n O dX4_isDarn_19 rfl ?_
      refine z_i2lN O dX4_isDarn_20 (by omega) ?_
      refine z_lconst O (lN 0) dX4_isDarn_21 (by decide) ?_
      refine z_ldc2 O dX4_isDarn_22 klX4_55 ?_
      refine z_top (v' := .long (lN 2)) (by decide) ?_
      refine z_S3e0 O (m_inN (by omega) (by omega) (by omega)) mX4_in lkX4_45 dX4_isDarn_25 (Nat.le_of_ble_eq_true rfl) (by decide) ?_
      refine z_if_eqB O 47 dX4_isDarn_28 (by decide) (fun h28 => ?_) (fun h28 => ?_)
      · refine z_iconst O (nI 0) dX4_isDarn_47 (by decide) ?_
        exact z_zret O dX4_isDarn_48 rfl (by first
            | (have hp := bI_t (p := (c ≤ 8 ∧ kd ≤ 5 ∧ fm ≤ 2 ∧ 1 ≤ th ∧ th ≤ 30)) ⟨h4, h16.2, h28.2, h40⟩; exact ⟨by rw [hp]; rfl, rfl⟩)
            | (have hp := bI_f (p := (c ≤ 8 ∧ kd ≤ 5 ∧ fm ≤ 2 ∧ 1 ≤ th ∧ th ≤ 30)) (fun q => h40 q.2.2.2); exact ⟨by rw [hp]; rfl, rfl⟩)
            | (have hp := bI_f (p := (c ≤ 8 ∧ kd ≤ 5 ∧ fm ≤ 2 ∧ 1 ≤ th ∧ th ≤ 30)) (fun q => h28 ⟨Nat.zero_le _, q.2.2.1⟩); exact ⟨by rw [hp]; rfl, rfl⟩)
            | (have hp := bI_f (p := (c ≤ 8 ∧ kd ≤ 5 ∧ fm ≤ 2 ∧ 1 ≤ th ∧ th ≤ 30)) (fun q => h16 ⟨Nat.zero_le _, q.2.1⟩); exact ⟨by rw [hp]; rfl, rfl⟩)
            | (have hp := bI_f (p := (c ≤ 8 ∧ kd ≤ 5 ∧ fm ≤ 2 ∧ 1 ≤ th ∧ th ≤ 30)) (fun q => h4 q.1); exact ⟨by rw [hp]; rfl, rfl⟩))
      · refine z_iload_n O dX4_isDarn_31 rfl ?_
        refine z_i2lN O dX4_isDarn_32 (by omega) ?_
        refine z_lconst O (lN 1) dX4_isDarn_33 (by decide) ?_
        refine z_ldc2 O dX4_isDarn_34 klX4_57 ?_
        refine z_top (v' := .long (lN 30)) (by decide) ?_
        refine z_S3e0 O (m_inN (by omega) (by omega) (by omega)) mX4_in lkX4_45 dX4_isDarn_37 (Nat.le_of_ble_eq_true rfl) (by decide) ?_
        refine z_if_eqB O 47 dX4_isDarn_40 (by decide) (fun h40 => ?_) (fun h40 => ?_)
        · refine z_iconst O (nI 0) dX4_isDarn_47 (by decide) ?_
          exact z_zret O dX4_isDarn_48 rfl (by first
              | (have hp := bI_t (p := (c ≤ 8 ∧ kd ≤ 5 ∧ fm ≤ 2 ∧ 1 ≤ th ∧ th ≤ 30)) ⟨h4, h16.2, h28.2, h40⟩; exact ⟨by rw [hp]; rfl, rfl⟩)
              | (have hp := bI_f (p := (c ≤ 8 ∧ kd ≤ 5 ∧ fm ≤ 2 ∧ 1 ≤ th ∧ th ≤ 30)) (fun q => h40 q.2.2.2); exact ⟨by rw [hp]; rfl, rfl⟩)
              | (have hp := bI_f (p := (c ≤ 8 ∧ kd ≤ 5 ∧ fm ≤ 2 ∧ 1 ≤ th ∧ th ≤ 30)) (fun q => h28 ⟨Nat.zero_le _, q.2.2.1⟩); exact ⟨by rw [hp]; rfl, rfl⟩)
              | (have hp := bI_f (p := (c ≤ 8 ∧ kd ≤ 5 ∧ fm ≤ 2 ∧ 1 ≤ th ∧ th ≤ 30)) (fun q => h16 ⟨Nat.zero_le _, q.2.1⟩); exact ⟨by rw [hp]; rfl, rfl⟩)
              | (have hp := bI_f (p := (c ≤ 8 ∧ kd ≤ 5 ∧ fm ≤ 2 ∧ 1 ≤ th ∧ th ≤ 30)) (fun q => h4 q.1); exact ⟨by rw [hp]; rfl, rfl⟩))
        · refine z_iconst O (nI 1) dX4_isDarn_43 (by decide) ?_
          refine z_goto O 48 dX4_isDarn_44 (by decide) ?_
          exact z_zret O dX4_isDarn_48 rfl (by first
              | (have hp := bI_t (p := (c ≤ 8 ∧ kd ≤ 5 ∧ fm ≤ 2 ∧ 1 ≤ th ∧ th ≤ 30)) ⟨h4, h16.2, h28.2, h40⟩; exact ⟨by rw [hp]; rfl, rfl⟩)
              | (have hp := bI_f (p := (c ≤ 8 ∧ kd ≤ 5 ∧ fm ≤ 2 ∧ 1 ≤ th ∧ th ≤ 30)) (fun q => h40 q.2.2.2); exact ⟨by rw [hp]; rfl, rfl⟩)
              | (have hp := bI_f (p := (c ≤ 8 ∧ kd ≤ 5 ∧ fm ≤ 2 ∧ 1 ≤ th ∧ th ≤ 30)) (fun q => h28 ⟨Nat.zero_le _, q.2.2.1⟩); exact ⟨by rw [hp]; rfl, rfl⟩)
              | (have hp := bI_f (p := (c ≤ 8 ∧ kd ≤ 5 ∧ fm ≤ 2 ∧ 1 ≤ th ∧ th ≤ 30)) (fun q => h16 ⟨Nat.zero_le _, q.2.1⟩); exact ⟨by rw [hp]; rfl, rfl⟩)
              | (have hp := bI_f (p := (c ≤ 8 ∧ kd ≤ 5 ∧ fm ≤ 2 ∧ 1 ≤ th ∧ th ≤ 30)) (fun q => h4 q.1); exact ⟨by rw [hp]; rfl, rfl⟩))
set_option maxRecDepth 20000 in
set_option maxHeartbeats 4000000 in
theorem m_placeOf {M : List va_E} {c p : Nat} : zS G 1 yX4_placeOf cX4_placeOf 2 (some .int) [.int (nI c), .int (nI p)] M 0 0 (zE (.int (nI (10 + 12 * c + 4 * p))) M) := by
  refine zS.of (by decide) (Nat.le_of_ble_eq_true rfl) (fun F O hR1 hR2 => ?_)
  have O : zOk G F yX4_placeOf cX4_placeOf 2 (some .int) RX4 1 M.length := O
  refine z_eq (lv' := [(0, _), (1, _)]) rfl rfl rfl ?_
  refine z_bipush O (nI 10) dX4_placeOf_0 (by decide) ?_
  refine z_bipush O (nI 12) dX4_placeOf_2 (by decide) ?_
  refine z_iload_n O dX4_placeOf_4 rfl ?_
  refine z_imulN O dX4_placeOf_5 ?_
  refine z_iaddN O dX4_placeOf_6 ?_
  refine z_iconst O (nI 4) dX4_placeOf_7 (by decide) ?_
  refine z_iload_n O dX4_placeOf_8 rfl ?_
  refine z_imulN O dX4_placeOf_9 ?_
  refine z_iaddN O dX4_placeOf_10 ?_
  exact z_iret O dX4_placeOf_11 ⟨rfl, rfl⟩
set_option maxRecDepth 20000 in
set_option maxHeartbeats 4000000 in
theorem m_loses {M : List va_E} {kd v y : Nat} (h1 : kd < 2 ^ 31) (h2 : v < 2 ^ 30) (h3 : y < 2 ^ 31) : zS G 1 yX4_loses cX4_loses 3 (some .int) [.int (nI kd), .int (nI v), .int (nI y)] M 0 0 (zE (.int (nI (lossN kd v y))) M) := by
  refine zS.of (by decide) (Nat.le_of_ble_eq_true rfl) (fun F O hR1 hR2 => ?_)
  have O : zOk G F yX4_loses cX4_loses 3 (some .int) RX4 1 M.length := O
  refine z_eq (lv' := [(0, _), (1, _), (2, _)]) rfl rfl rfl ?_
  refine z_iload_n O dX4_loses_0 rfl ?_
  refine z_tabN O 1 32 dX4_loses_1 (by rfl) (by decide) (by decide) (by decide) (by decide) (fun hk1 => ?_) (fun hn1_1 => ?_)
  · refine z_iload_n O dX4_loses_32 rfl ?_
    refine z_iconst O (nI 1) dX4_loses_33 (by decide) ?_
    refine z_iaddN O dX4_loses_34 ?_
    refine z_iconst O (nI 2) dX4_loses_35 (by decide) ?_
    refine z_idivN O dX4_loses_36 (by omega) (by omega) (by omega) ?_
    exact z_iret O dX4_loses_37 ⟨by simp [lossN, *], rfl⟩
  refine z_tabN O 2 38 dX4_loses_1 (by rfl) (by decide) (by decide) (by decide) (by decide) (fun hk1 => ?_) (fun hn1_2 => ?_)
  · refine z_iload_n O dX4_loses_38 rfl ?_
    refine z_iconst O (nI 1) dX4_loses_39 (by decide) ?_
    refine z_iaddN O dX4_loses_40 ?_
    exact z_iret O dX4_loses_41 ⟨by simp [lossN, *], rfl⟩
  refine z_tabN O 3 32 dX4_loses_1 (by rfl) (by decide) (by decide) (by decide) (by decide) (fun hk1 => ?_) (fun hn1_3 => ?_)
  · refine z_iload_n O dX4_loses_32 rfl ?_
    refine z_iconst O (nI 1) dX4_loses_33 (by decide) ?_
    refine z_iaddN O dX4_loses_34 ?_
    refine z_iconst O (nI 2) dX4_loses_35 (by decide) ?_
    refine z_idivN O dX4_loses_36 (by omega) (by omega) (by omega) ?_
    exact z_iret O dX4_loses_37 ⟨by simp [lossN, *], rfl⟩
  refine z_tabN O 4 42 dX4_loses_1 (by rfl) (by decide) (by decide) (by decide) (by decide) (fun hk1 => ?_) (fun hn1_4 => ?_)
  · refine z_iload_n O dX4_loses_42 rfl ?_
    refine z_iconst O (nI 3) dX4_loses_43 (by decide) ?_
    refine z_iremN O dX4_loses_44 (by omega) (by omega) (by omega) ?_
    refine z_if_neN O 54 dX4_loses_45 (by decide) (by omega) (fun h45 => ?_) (fun h45 => ?_)
    · refine z_iconst O (nI 2) dX4_loses_54 (by decide) ?_
      refine z_iload_n O dX4_loses_55 rfl ?_
      refine z_iconst O (nI 1) dX4_loses_56 (by decide) ?_
      refine z_iaddN O dX4_loses_57 ?_
      refine z_imulN O dX4_loses_58 ?_
      exact z_iret O dX4_loses_59 ⟨by simp [lossN, *], rfl⟩
    · refine z_iload_n O dX4_loses_48 rfl ?_
      refine z_iconst O (nI 1) dX4_loses_49 (by decide) ?_
      refine z_iaddN O dX4_loses_50 ?_
      refine z_goto O 59 dX4_loses_51 (by decide) ?_
      exact z_iret O dX4_loses_59 ⟨by simp [lossN, *], rfl⟩
  refine z_tabNO O 60 dX4_loses_1 (by omega) (by omega) (by decide) ?_
  refine z_iload_n O dX4_loses_60 rfl ?_
  exact z_iret O dX4_loses_61 ⟨by simp [lossN, *], rfl⟩
set_option maxRecDepth 20000 in
set_option maxHeartbeats 4000000 in
theorem m_ones {M : List va_E} {m : Nat} (hm : m < 2 ^ 31) : zS G 1 yX4_ones cX4_ones 3 (some .int) [.int (nI m)] M 0 0 (zE (.int (nI (popN m))) M) := by
  refine zS.of (by decide) (Nat.le_of_ble_eq_true rfl) (fun F O hR1 hR2 => ?_)
  have O : zOk G F yX4_ones cX4_ones 3 (some .int) RX4 1 M.length := O
  refine z_eq (lv' := [(0, _)]) rfl rfl rfl ?_
  refine z_iconst O (nI 0) dX4_ones_0 (by decide) ?_
  refine z_istore_n (lv' := [(0, _), (1, _)]) O dX4_ones_1 (by decide) rfl ?_
  refine z_iconst O (nI 0) dX4_ones_2 (by decide) ?_
  refine z_istore_n (lv' := [(0, _), (1, _), (2, _)]) O dX4_ones_3 (by decide) rfl ?_
  refine zdown (P := fun c => Z G F 0 0 (zEnd G F (zE (.int (nI (popN m))) M) 0 0) 4 [(0, .int (nI m)), (1, .int (nI (sumN (bitN m) c))), (2, .int (nI c))] [] M) (9) ?_ ?_ 
  · refine z_iload_n O dX4_ones_4 rfl ?_
    refine z_bipush O (nI 9) dX4_ones_5 (by decide) ?_
    refine z_icmp_geN O 24 dX4_ones_7 (by decide) (by omega) (by omega) (fun h7 => ?_) (fun h7 => by omega)
    refine z_iload_n O dX4_ones_24 rfl ?_
    exact z_iret O dX4_ones_25 ⟨rfl, rfl⟩
  · intro c hc ih 
    refine z_iload_n O dX4_ones_4 rfl ?_
    refine z_bipush O (nI 9) dX4_ones_5 (by decide) ?_
    refine z_icmp_geN O 24 dX4_ones_7 (by decide) (by omega) (by omega) (fun h7 => by omega) (fun h7 => ?_)
    refine z_iload_n O dX4_ones_10 rfl ?_
    refine z_iload_n O dX4_ones_11 rfl ?_
    refine z_iload_n O dX4_ones_12 rfl ?_
    refine z_ishr O dX4_ones_13 ?_
    refine z_iconst O (nI 1) dX4_ones_14 (by decide) ?_
    refine z_iand O dX4_ones_15 ?_
    refine z_top (v' := .int (nI (bitN m c))) (congrArg Value.int (zb_bit hm (by omega))) ?_
    refine z_iaddN O dX4_ones_16 ?_
    refine z_istore_n (lv' := [(0, _), (1, _), (2, _)]) O dX4_ones_17 (by decide) rfl ?_
    refine z_iincN (lv' := [(0, _), (1, _), (2, _)]) O 1 dX4_ones_18 (by decide) rfl rfl (by decide) ?_
    refine z_goto O 4 dX4_ones_21 (by decide) ?_
    exact ih
set_option maxRecDepth 20000 in
set_option maxHeartbeats 4000000 in
theorem m_topOf0 {b c : Nat} {r we : Nat → Nat} (h : RW w b r we) (hr : rowOK r) (hb : b ≤ 3420) (hc : c < 9) (h0 : r (108 + c) = 0) : zS G 2 yX4_topOf cX4_topOf 4 (some .int) [.ref (zad (zb G) 21), .int (nI b), .int (nI c)] (yM G c0_ c1_ c2_ c3_ c4_ c5_ c6_ c7_ c8_ c9_ c10_ c11_ c12_ c13_ c14_ c15_ c16_ c17_ c18_ c19_ c20_ w kp tx txl rf ya yb at2 st2 iwd ifg nb fr la nms nd wf hh tl) 0 0 (zE (.int (-1)) (yM G c0_ c1_ c2_ c3_ c4_ c5_ c6_ c7_ c8_ c9_ c10_ c11_ c12_ c13_ c14_ c15_ c16_ c17_ c18_ c19_ c20_ w kp tx txl rf ya yb at2 st2 iwd ifg nb fr la nms nd wf hh tl)) := by
  refine zS.of (by decide) (Nat.le_of_ble_eq_true rfl) (fun F O hR1 hR2 => ?_)
  have O : zOk G F yX4_topOf cX4_topOf 4 (some .int) RX4 2 (yM G c0_ c1_ c2_ c3_ c4_ c5_ c6_ c7_ c8_ c9_ c10_ c11_ c12_ c13_ c14_ c15_ c16_ c17_ c18_ c19_ c20_ w kp tx txl rf ya yb at2 st2 iwd ifg nb fr la nms nd wf hh tl).length := O
  refine z_eq (lv' := [(0, _), (1, _), (2, _)]) rfl rfl rfl ?_
  refine z_aload_n O dX4_topOf_0 rfl ?_
  refine z_get O dX4_topOf_1 flX4_7 (by rfl) (by rfl) ?_
  refine z_iload_n O dX4_topOf_4 rfl ?_
  refine z_iconst O (nI 1) dX4_topOf_5 (by decide) ?_
  refine z_iaddN O dX4_topOf_6 ?_
  refine z_iload_n O dX4_topOf_7 rfl ?_
  refine z_iaddN O dX4_topOf_8 ?_
  refine z_ialdN O dX4_topOf_9 (by rfl) (by omega) (by decide) ?_
  refine z_top (v' := .int (nI (r (108 + c)))) (congrArg Value.int (by rw [h.1.2.1 c hc])) ?_
  refine z_istore_n (lv' := [(0, _), (1, _), (2, _), (3, _)]) O dX4_topOf_10 (by decide) rfl ?_
  refine z_iload_n O dX4_topOf_11 rfl ?_
  refine z_if_neN O 19 dX4_topOf_12 (by decide) (by have := hr.2 c hc; omega) (fun h12 => by exact absurd h0 h12) (fun h12 => ?_)
  refine z_iconst O (-1) dX4_topOf_15 (by decide) ?_
  refine z_goto O 28 dX4_topOf_16 (by decide) ?_
  exact z_iret O dX4_topOf_28 ⟨rfl, rfl⟩
set_option maxRecDepth 20000 in
set_option maxHeartbeats 4000000 in
theorem m_topOf {b c : Nat} {r we : Nat → Nat} (h : RW w b r we) (hr : rowOK r) (hb : b ≤ 3420) (hc : c < 9) (h0 : 0 < r (108 + c)) : zS G 2 yX4_topOf cX4_topOf 4 (some .int) [.ref (zad (zb G) 21), .int (nI b), .int (nI c)] (yM G c0_ c1_ c2_ c3_ c4_ c5_ c6_ c7_ c8_ c9_ c10_ c11_ c12_ c13_ c14_ c15_ c16_ c17_ c18_ c19_ c20_ w kp tx txl rf ya yb at2 st2 iwd ifg nb fr la nms nd wf hh tl) 0 0 (zE (.int (nI (b + (10 + 12 * c + 4 * (r (108 + c) - 1))))) (yM G c0_ c1_ c2_ c3_ c4_ c5_ c6_ c7_ c8_ c9_ c10_ c11_ c12_ c13_ c14_ c15_ c16_ c17_ c18_ c19_ c20_ w kp tx txl rf ya yb at2 st2 iwd ifg nb fr la nms nd wf hh tl)) := by
  refine zS.of (by decide) (Nat.le_of_ble_eq_true rfl) (fun F O hR1 hR2 => ?_)
  have O : zOk G F yX4_topOf cX4_topOf 4 (some .int) RX4 2 (yM G c0_ c1_ c2_ c3_ c4_ c5_ c6_ c7_ c8_ c9_ c10_ c11_ c12_ c13_ c14_ c15_ c16_ c17_ c18_ c19_ c20_ w kp tx txl rf ya yb at2 st2 iwd ifg nb fr la nms nd wf hh tl).length := O
  refine z_eq (lv' := [(0, _), (1, _), (2, _)]) rfl rfl rfl ?_
  refine z_aload_n O dX4_topOf_0 rfl ?_
  refine z_get O dX4_topOf_1 flX4_7 (by rfl) (by rfl) ?_
  refine z_iload_n O dX4_topOf_4 rfl ?_
  refine z_iconst O (nI 1) dX4_topOf_5 (by decide) ?_
  refine z_iaddN O dX4_topOf_6 ?_
  refine z_iload_n O dX4_topOf_7 rfl ?_
  refine z_iaddN O dX4_topOf_8 ?_
  refine z_ialdN O dX4_topOf_9 (by rfl) (by omega) (by decide) ?_
  refine z_top (v' := .int (nI (r (108 + c)))) (congrArg Value.int (by rw [h.1.2.1 c hc])) ?_
  refine z_istore_n (lv' := [(0, _), (1, _), (2, _), (3, _)]) O dX4_topOf_10 (by decide) rfl ?_
  refine z_iload_n O dX4_topOf_11 rfl ?_
  refine z_if_neN O 19 dX4_topOf_12 (by decide) (by have := hr.2 c hc; omega) (fun h12 => ?_) (fun h12 => by omega)
  refine z_iload_n O dX4_topOf_19 rfl ?_
  refine z_iload_n O dX4_topOf_20 rfl ?_
  refine z_iload_n O dX4_topOf_21 rfl ?_
  refine z_iconst O (nI 1) dX4_topOf_22 (by decide) ?_
  refine z_isubN O dX4_topOf_23 (by omega) ?_
  refine z_S2e0 O m_placeOf mX4_placeOf lkX4_59 dX4_topOf_24 (Nat.le_of_ble_eq_true rfl) (by decide) ?_
  refine z_iaddN O dX4_topOf_27 ?_
  exact z_iret O dX4_topOf_28 ⟨rfl, rfl⟩
theorem b511 : ∀ c, c < 9 → ¬ bitN 511 c = 0 := by decide +kernel
set_option maxRecDepth 20000 in
set_option maxHeartbeats 4000000 in
theorem m_darnsIn {b : Nat} {r we : Nat → Nat} (h : RW w b r we) (hr : rowOK r) (hb : b ≤ 3420) : zS G 1 yX4_darnsIn cX4_darnsIn 4 (some .int) [.ref (zad (zb G) 21), .int (nI b)] (yM G c0_ c1_ c2_ c3_ c4_ c5_ c6_ c7_ c8_ c9_ c10_ c11_ c12_ c13_ c14_ c15_ c16_ c17_ c18_ c19_ c20_ w kp tx txl rf ya yb at2 st2 iwd ifg nb fr la nms nd wf hh tl) 0 0 (zE (.int (nI (darnsM r 511 9))) (yM G c0_ c1_ c2_ c3_ c4_ c5_ c6_ c7_ c8_ c9_ c10_ c11_ c12_ c13_ c14_ c15_ c16_ c17_ c18_ c19_ c20_ w kp tx txl rf ya yb at2 st2 iwd ifg nb fr la nms nd wf hh tl)) := by
  refine zS.of (by decide) (Nat.le_of_ble_eq_true rfl) (fun F O hR1 hR2 => ?_)
  have O : zOk G F yX4_darnsIn cX4_darnsIn 4 (some .int) RX4 1 (yM G c0_ c1_ c2_ c3_ c4_ c5_ c6_ c7_ c8_ c9_ c10_ c11_ c12_ c13_ c14_ c15_ c16_ c17_ c18_ c19_ c20_ w kp tx txl rf ya yb at2 st2 iwd ifg nb fr la nms nd wf hh tl).length := O
  refine z_eq (lv' := [(0, _), (1, _)]) rfl rfl rfl ?_
  refine z_iconst O (nI 0) dX4_darnsIn_0 (by decide) ?_
  refine z_istore_n (lv' := [(0, _), (1, _), (2, _)]) O dX4_darnsIn_1 (by decide) rfl ?_
  refine z_iconst O (nI 0) dX4_darnsIn_2 (by decide) ?_
  refine z_istore_n (lv' := [(0, _), (1, _), (2, _), (3, _)]) O dX4_darnsIn_3 (by decide) rfl ?_
  refine zdown (P := fun c => Z G F 0 0 (zEnd G F (zE (.int (nI (darnsM r 511 9))) (yM G c0_ c1_ c2_ c3_ c4_ c5_ c6_ c7_ c8_ c9_ c10_ c11_ c12_ c13_ c14_ c15_ c16_ c17_ c18_ c19_ c20_ w kp tx txl rf ya yb at2 st2 iwd ifg nb fr la nms nd wf hh tl)) 0 0) 4 [(0, .ref (zad (zb G) 21)), (1, .int (nI b)), (2, .int (nI (darnsM r 511 c))), (3, .int (nI c))] [] (yM G c0_ c1_ c2_ c3_ c4_ c5_ c6_ c7_ c8_ c9_ c10_ c11_ c12_ c13_ c14_ c15_ c16_ c17_ c18_ c19_ c20_ w kp tx txl rf ya yb at2 st2 iwd ifg nb fr la nms nd wf hh tl)) (9) ?_ ?_ 
  · refine z_iload_n O dX4_darnsIn_4 rfl ?_
    refine z_bipush O (nI 9) dX4_darnsIn_5 (by decide) ?_
    refine z_icmp_geN O 29 dX4_darnsIn_7 (by decide) (by omega) (by omega) (fun h7 => ?_) (fun h7 => by omega)
    refine z_iload_n O dX4_darnsIn_29 rfl ?_
    exact z_iret O dX4_darnsIn_30 ⟨rfl, rfl⟩
  · intro c hc ih 
    refine z_iload_n O dX4_darnsIn_4 rfl ?_
    refine z_bipush O (nI 9) dX4_darnsIn_5 (by decide) ?_
    refine z_icmp_geN O 29 dX4_darnsIn_7 (by decide) (by omega) (by omega) (fun h7 => by omega) (fun h7 => ?_)
    refine z_iload_n O dX4_darnsIn_10 rfl ?_
    refine z_aload_n O dX4_darnsIn_11 rfl ?_
    refine z_get O dX4_darnsIn_12 flX4_7 (by rfl) (by rfl) ?_
    refine z_iload_n O dX4_darnsIn_15 rfl ?_
    refine z_iconst O (nI 1) dX4_darnsIn_16 (by decide) ?_
    refine z_iaddN O dX4_darnsIn_17 ?_
    refine z_iload_n O dX4_darnsIn_18 rfl ?_
    refine z_iaddN O dX4_darnsIn_19 ?_
    refine z_ialdN O dX4_darnsIn_20 (by rfl) (by omega) (by decide) ?_
    refine z_top (v' := .int (nI (r (108 + c)))) (congrArg Value.int (by rw [h.1.2.1 c hc])) ?_
    refine z_iaddN O dX4_darnsIn_21 ?_
    refine z_istore_n (lv' := [(0, _), (1, _), (2, _), (3, _)]) O dX4_darnsIn_22 (by decide) rfl ?_
    refine z_iincN (lv' := [(0, _), (1, _), (2, _), (3, _)]) O 1 dX4_darnsIn_23 (by decide) rfl rfl (by decide) ?_
    refine z_goto O 4 dX4_darnsIn_26 (by decide) ?_
    rw [show darnsM r 511 (c + 1) = darnsM r 511 c + r (108 + c) from if_neg (b511 c hc)] at ih
    exact ih
theorem zb_or0 (x : Int32) : x ||| nI 0 = x := by
  rw [nI_0]
  apply Int32.toBitVec_inj.mp
  rw [Int32.toBitVec_or]
  simp
set_option maxRecDepth 20000 in
set_option maxHeartbeats 4000000 in
theorem m_holesIn {b : Nat} {r we : Nat → Nat} (h : RW w b r we) (hr : rowOK r) (hb : b ≤ 3420) : zS G 1 yX4_holesIn cX4_holesIn 4 (some .int) [.ref (zad (zb G) 21), .int (nI b)] (yM G c0_ c1_ c2_ c3_ c4_ c5_ c6_ c7_ c8_ c9_ c10_ c11_ c12_ c13_ c14_ c15_ c16_ c17_ c18_ c19_ c20_ w kp tx txl rf ya yb at2 st2 iwd ifg nb fr la nms nd wf hh tl) 0 0 (zE (.int (nI (bitsN (holesB r) 9))) (yM G c0_ c1_ c2_ c3_ c4_ c5_ c6_ c7_ c8_ c9_ c10_ c11_ c12_ c13_ c14_ c15_ c16_ c17_ c18_ c19_ c20_ w kp tx txl rf ya yb at2 st2 iwd ifg nb fr la nms nd wf hh tl)) := by
  refine zS.of (by decide) (Nat.le_of_ble_eq_true rfl) (fun F O hR1 hR2 => ?_)
  have O : zOk G F yX4_holesIn cX4_holesIn 4 (some .int) RX4 1 (yM G c0_ c1_ c2_ c3_ c4_ c5_ c6_ c7_ c8_ c9_ c10_ c11_ c12_ c13_ c14_ c15_ c16_ c17_ c18_ c19_ c20_ w kp tx txl rf ya yb at2 st2 iwd ifg nb fr la nms nd wf hh tl).length := O
  refine z_eq (lv' := [(0, _), (1, _)]) rfl rfl rfl ?_
  refine z_iconst O (nI 0) dX4_holesIn_0 (by decide) ?_
  refine z_istore_n (lv' := [(0, _), (1, _), (2, _)]) O dX4_holesIn_1 (by decide) rfl ?_
  refine z_iconst O (nI 0) dX4_holesIn_2 (by decide) ?_
  refine z_istore_n (lv' := [(0, _), (1, _), (2, _), (3, _)]) O dX4_holesIn_3 (by decide) rfl ?_
  refine zdown (P := fun c => Z G F 0 0 (zEnd G F (zE (.int (nI (bitsN (holesB r) 9))) (yM G c0_ c1_ c2_ c3_ c4_ c5_ c6_ c7_ c8_ c9_ c10_ c11_ c12_ c13_ c14_ c15_ c16_ c17_ c18_ c19_ c20_ w kp tx txl rf ya yb at2 st2 iwd ifg nb fr la nms nd wf hh tl)) 0 0) 4 [(0, .ref (zad (zb G) 21)), (1, .int (nI b)), (2, .int (nI (bitsN (holesB r) c))), (3, .int (nI c))] [] (yM G c0_ c1_ c2_ c3_ c4_ c5_ c6_ c7_ c8_ c9_ c10_ c11_ c12_ c13_ c14_ c15_ c16_ c17_ c18_ c19_ c20_ w kp tx txl rf ya yb at2 st2 iwd ifg nb fr la nms nd wf hh tl)) (9) ?_ ?_ 
  · refine z_iload_n O dX4_holesIn_4 rfl ?_
    refine z_bipush O (nI 9) dX4_holesIn_5 (by decide) ?_
    refine z_icmp_geN O 39 dX4_holesIn_7 (by decide) (by omega) (by omega) (fun h7 => ?_) (fun h7 => by omega)
    refine z_iload_n O dX4_holesIn_39 rfl ?_
    exact z_iret O dX4_holesIn_40 ⟨rfl, rfl⟩
  · intro c hc ih 
    refine z_iload_n O dX4_holesIn_4 rfl ?_
    refine z_bipush O (nI 9) dX4_holesIn_5 (by decide) ?_
    refine z_icmp_geN O 39 dX4_holesIn_7 (by decide) (by omega) (by omega) (fun h7 => by omega) (fun h7 => ?_)
    by_cases hh0 : r (108 + c) = 0
    · refine z_iload_n O dX4_holesIn_10 rfl ?_
      refine z_aload_n O dX4_holesIn_11 rfl ?_
      refine z_get O dX4_holesIn_12 flX4_7 (by rfl) (by rfl) ?_
      refine z_iload_n O dX4_holesIn_15 rfl ?_
      refine z_iconst O (nI 1) dX4_holesIn_16 (by decide) ?_
      refine z_iaddN O dX4_holesIn_17 ?_
      refine z_iload_n O dX4_holesIn_18 rfl ?_
      refine z_iaddN O dX4_holesIn_19 ?_
      refine z_ialdN O dX4_holesIn_20 (by rfl) (by omega) (by decide) ?_
      refine z_top (v' := .int (nI (r (108 + c)))) (congrArg Value.int (by rw [h.1.2.1 c hc])) ?_
      refine z_if_neN O 30 dX4_holesIn_21 (by decide) (by have := hr.2 c hc; omega) (fun h21 => by exact absurd hh0 h21) (fun h21 => ?_)
      refine z_iconst O (nI 1) dX4_holesIn_24 (by decide) ?_
      refine z_iload_n O dX4_holesIn_25 rfl ?_
      refine z_ishl O dX4_holesIn_26 ?_
      refine z_goto O 31 dX4_holesIn_27 (by decide) ?_
      refine z_ior O dX4_holesIn_31 ?_
      refine z_top (v' := .int (nI (bitsN (holesB r) c + 2 ^ c))) (congrArg Value.int (zb_or (bitsN_lt _ _) (by omega))) ?_
      refine z_istore_n (lv' := [(0, _), (1, _), (2, _), (3, _)]) O dX4_holesIn_32 (by decide) rfl ?_
      refine z_iincN (lv' := [(0, _), (1, _), (2, _), (3, _)]) O 1 dX4_holesIn_33 (by decide) rfl rfl (by decide) ?_
      refine z_goto O 4 dX4_holesIn_36 (by decide) ?_
      rw [show bitsN (holesB r) (c + 1) = bitsN (holesB r) c + 2 ^ c from if_pos (by simp [holesB, hh0])] at ih
      exact ih
    · refine z_iload_n O dX4_holesIn_10 rfl ?_
      refine z_aload_n O dX4_holesIn_11 rfl ?_
      refine z_get O dX4_holesIn_12 flX4_7 (by rfl) (by rfl) ?_
      refine z_iload_n O dX4_holesIn_15 rfl ?_
      refine z_iconst O (nI 1) dX4_holesIn_16 (by decide) ?_
      refine z_iaddN O dX4_holesIn_17 ?_
      refine z_iload_n O dX4_holesIn_18 rfl ?_
      refine z_iaddN O dX4_holesIn_19 ?_
      refine z_ialdN O dX4_holesIn_20 (by rfl) (by omega) (by decide) ?_
      refine z_top (v' := .int (nI (r (108 + c)))) (congrArg Value.int (by rw [h.1.2.1 c hc])) ?_
      refine z_if_neN O 30 dX4_holesIn_21 (by decide) (by have := hr.2 c hc; omega) (fun h21 => ?_) (fun h21 => by exact absurd h21 hh0)
      refine z_iconst O (nI 0) dX4_holesIn_30 (by decide) ?_
      refine z_ior O dX4_holesIn_31 ?_
      refine z_top (v' := .int (nI (bitsN (holesB r) c))) (congrArg Value.int (zb_or0 _)) ?_
      refine z_istore_n (lv' := [(0, _), (1, _), (2, _), (3, _)]) O dX4_holesIn_32 (by decide) rfl ?_
      refine z_iincN (lv' := [(0, _), (1, _), (2, _), (3, _)]) O 1 dX4_holesIn_33 (by decide) rfl rfl (by decide) ?_
      refine z_goto O 4 dX4_holesIn_36 (by decide) ?_
      rw [show bitsN (holesB r) (c + 1) = bitsN (holesB r) c from if_neg (by simp [holesB, hh0])] at ih
      exact ih
end YS
