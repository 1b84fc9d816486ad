/-! ===== the reference: kinds, best, split ===== -/
theorem spanG_congr {r r' we : Nat → Nat} {c : Nat} (hy : r' 117 = r 117) : ∀ n m u kd lf, (∀ p, p < u → fld r' c p 0 = fld r c p 0 ∧ fld r' c p 2 = fld r c p 2) → spanG r' we c n m u kd lf = spanG r we c n m u kd lf
  | 0, _, _, _, _, _ => rfl
  | n + 1, m, u, kd, lf, hf => by
    unfold spanG
    rw [hy]
    by_cases h1 : lf = 0
    · rw [if_pos h1, if_pos h1]
      by_cases h2 : u = 0
      · rw [if_pos h2, if_pos h2]
      · rw [if_neg h2, if_neg h2, (hf (u - 1) (by omega)).1, (hf (u - 1) (by omega)).2]
        exact spanG_congr hy n _ _ _ _ (fun p hp => hf p (by omega))
    · rw [if_neg h1, if_neg h1]
      exact spanG_congr hy n _ _ _ _ hf
theorem spanV_put {r we : Nat → Nat} {c kd n : Nat} (hc : c < 9) (h3 : r (108 + c) < 3) (hn : 0 < n) : spanV (putN r c kd 0 n) we c = spA r we kd c n := by
  unfold spanV spA
  rw [put_many hc h3, if_pos rfl]
  have e1 : fld (putN r c kd 0 n) c (r (108 + c)) 0 = kd := by rw [put_fld hc h3 hc h3 (by decide), if_pos ⟨rfl, rfl⟩]; simp
  have e2 : fld (putN r c kd 0 n) c (r (108 + c)) 2 = n := by rw [put_fld hc h3 hc h3 (by decide), if_pos ⟨rfl, rfl⟩]; simp
  have e3 := spanG_congr (r' := putN r c kd 0 n) (r := r) (we := we) (c := c) (put_year hc h3) 40 1 (r (108 + c)) kd (n - lossN kd (we c) (r 117 + 0)) (fun p hp => by
    rw [put_fld hc h3 hc (by omega) (by decide), put_fld hc h3 hc (by omega) (by decide), if_neg (by omega), if_neg (by omega)]
    exact ⟨rfl, rfl⟩)
  show (if (0 : Nat) = 0 then (if r (108 + c) + 1 = 0 then 0 else spanG (putN r c kd 0 n) we c 40 (0 + 1) (r (108 + c) + 1 - 1) (fld (putN r c kd 0 n) c (r (108 + c) + 1 - 1) 0) (fld (putN r c kd 0 n) c (r (108 + c) + 1 - 1) 2 - lossN (fld (putN r c kd 0 n) c (r (108 + c) + 1 - 1) 0) (we c) (putN r c kd 0 n 117 + 0))) else _) = (if n = 0 then _ else spanG r we c 40 (0 + 1) (r (108 + c)) kd (n - lossN kd (we c) (r 117 + 0)))
  rw [if_pos rfl, if_neg (by omega), if_neg (by omega), Nat.add_sub_cancel, e1, e2, put_year hc h3]
  exact e3
theorem spanV_put' {r we : Nat → Nat} {c kd n e : Nat} (hc : c < 9) (h3 : r (108 + c) < 3) (he : e < 9) (hr : rowOK r) (hne : e ≠ c) : spanV (putN r c kd 0 n) we e = spanV r we e := by
  unfold spanV
  have h3e := hr.2 e he
  rw [put_many hc h3, if_neg hne]
  exact spanG_congr (put_year hc h3) 41 0 _ 0 0 (fun p hp => by
    rw [put_fld hc h3 he (by omega) (by decide), put_fld hc h3 he (by omega) (by decide), if_neg (by omega), if_neg (by omega)]
    exact ⟨rfl, rfl⟩)
theorem lsN_but {v v' : Nat → Nat} {c : Nat} (h : ∀ e, e < 9 → e ≠ c → v' e = v e) : ∀ k, k ≤ 9 → lsN v' none none k = if c < k then min (lsN v (some c) (some c) k) (v' c) else lsN v (some c) (some c) k
  | 0, _ => by rw [if_neg (by omega)]; rfl
  | k + 1, hk => by
    have ih := lsN_but h k (by omega)
    have e1 : lsN v' none none (k + 1) = min (lsN v' none none k) (v' k) := if_neg (by simp)
    by_cases hkc : k = c
    · subst hkc
      rw [if_neg (by omega)] at ih
      rw [e1, ih, if_pos (by omega), show lsN v (some k) (some k) (k + 1) = lsN v (some k) (some k) k from if_pos (Or.inl rfl)]
    · have e2 : lsN v (some c) (some c) (k + 1) = min (lsN v (some c) (some c) k) (v k) := if_neg (by simp; omega)
      rw [e1, ih, e2, h k (by omega) hkc]
      by_cases hlt : c < k
      · rw [if_pos hlt, if_pos (by omega)]; omega
      · rw [if_neg hlt, if_neg (by omega)]
theorem lastB_eq {r we : Nat → Nat} {c kd n : Nat} (hr : rowOK r) (hc : c < 9) (h3 : r (108 + c) < 3) (hn : 0 < n) : lsN (spanV (putN r c kd 0 n) we) none none 9 = lastB r we n kd c := by
  rw [lsN_but (v := spanV r we) (c := c) (fun e he hne => spanV_put' hc h3 he hr hne) 9 (by omega), if_pos hc, spanV_put hc h3 hn]
  rfl
theorem le2_ne {x : Int32} (h : x ≤ nI 2) (hn : ¬ x = nI 2) : x ≤ nI 1 := by
  rw [Int32.le_iff_toInt_le, nI_toInt (by decide)] at *
  have : x.toInt ≠ 2 := fun q => hn (Int32.toInt_inj.mp (by rw [q]; rfl))
  omega
/-- one after the other, the first of the longest */ -/
def scN (f : Nat → Nat) (ab : Nat) (s : Option (Nat × Nat × Nat)) : Nat → Option (Nat × Nat × Nat)
  | 0 => s
  | k + 1 => if longer (f (1 + k)) ((scN f ab s k).map (fun q => q.2.2)) = true then some (ab, 1 + k, f (1 + k)) else scN f ab s k
theorem scN_eq (f : Nat → Nat) (ab : Nat) (s : Option (Nat × Nat × Nat)) : ∀ j, scN f ab s (j + 1) = if longer (f (bspN f j)) (s.map (fun q => q.2.2)) = true then some (ab, bspN f j, f (bspN f j)) else s
  | 0 => rfl
  | j + 1 => by
    have ih := scN_eq f ab s j
    unfold scN
    rw [ih, show 1 + (j + 1) = j + 2 by omega]
    by_cases h1 : longer (f (bspN f j)) (s.map (fun q => q.2.2)) = true
    · rw [if_pos h1]
      have e : longer (f (j + 2)) ((some (ab, bspN f j, f (bspN f j))).map (fun q => q.2.2)) = decide (f (bspN f j) < f (j + 2)) := rfl
      rw [e]
      rw [show bspN f (j + 1) = if f (bspN f j) < f (j + 2) then j + 2 else bspN f j from rfl]
      by_cases h2 : f (bspN f j) < f (j + 2)
      · rw [if_pos h2, if_pos (decide_eq_true h2)]
        rw [if_pos]
        cases hs : s.map (fun q => q.2.2) with
        | none => rfl
        | some l =>
          rw [hs] at h1
          have h3 : l < f (bspN f j) := of_decide_eq_true h1
          exact decide_eq_true (by omega)
      · rw [if_neg h2, if_neg (fun q => h2 (of_decide_eq_true q)), if_pos h1]
    · rw [if_neg h1]
      rw [show bspN f (j + 1) = if f (bspN f j) < f (j + 2) then j + 2 else bspN f j from rfl]
      by_cases h2 : f (bspN f j) < f (j + 2)
      · rw [if_pos h2]
      · rw [if_neg h2, if_neg h1, if_neg]
        intro q
        cases hs : s.map (fun q => q.2.2) with
        | none => rw [hs] at h1; exact h1 rfl
        | some l =>
          rw [hs] at h1 q
          have h3 : l < f (j + 2) := of_decide_eq_true q
          exact h1 (decide_eq_true (by omega))
theorem RS.s {w : Nat → Nat} {we r seen kept : Nat → Nat} {rd nw ud : Nat} (h : RS w 0 we r seen kept rd nw ud) {k j : Nat} (hk : k < rd) (hj : j < 3) : w (128 + 3 * k + j) = seen (3 * k + j) := by
  have := h.2.2.1 (3 * k + j) (by omega)
  rwa [show 0 + 128 + (3 * k + j) = 128 + 3 * k + j by omega] at this
section YS
variable {G : zG} {c0_ c1_ c2_ c3_ c4_ c5_ c6_ c7_ c8_ c9_ c10_ c11_ c12_ c13_ c14_ c15_ c16_ c17_ c18_ c19_ c20_ : va_E} {w kp tx : Nat → Nat} {txl : Nat} {rf : Nat → Nat} {ya yb : Int64} {at2 st2 : Nat} {iwd ifg : Int32} {nb : Nat → Nat} {fr : Int32} {la nms : Nat → Nat} {nd : Nat} {wf : Nat → Nat} {hh : Int64} {tl : List va_E}
set_option maxRecDepth 20000 in
set_option maxHeartbeats 4000000 in
theorem m_isThreadI {M : List va_E} {n kd f : Int32} {lo : Nat} (hlo : lo < 2 ^ 31) : zS G 2 yX4_isThread cX4_isThread 4 (some .boolean) [.int n, .int (nI lo), .int kd, .int f] M 0 0 (zE (.int (bI ((nI lo ≤ n ∧ n ≤ nI 30) ∧ (nI 0 ≤ kd ∧ kd ≤ nI 5) ∧ (nI 0 ≤ f ∧ f ≤ nI 2)))) M) := by
  refine zS.of (by decide) (Nat.le_of_ble_eq_true rfl) (fun F O hR1 hR2 => ?_)
  have O : zOk G F yX4_isThread cX4_isThread 4 (some .boolean) RX4 2 M.length := O
  refine z_eq (lv' := [(0, _), (1, _), (2, _), (3, _)]) rfl rfl rfl ?_
  refine z_iload_n O dX4_isThread_0 rfl ?_
  refine z_i2l O dX4_isThread_1 ?_
  refine z_iload_n O dX4_isThread_2 rfl ?_
  refine z_i2lN O dX4_isThread_3 (by omega) ?_
  refine z_ldc2 O dX4_isThread_4 klX4_57 ?_
  refine z_top (v' := .long (lN 30)) (by decide) ?_
  refine z_S3e0 O (m_inI hlo (by decide)) mX4_in lkX4_45 dX4_isThread_7 (Nat.le_of_ble_eq_true rfl) (by decide) ?_
  refine z_if_eqB O 41 dX4_isThread_10 (by decide) (fun h10 => ?_) (fun h10 => ?_)
  · refine z_iconst O (nI 0) dX4_isThread_41 (by decide) ?_
    exact z_zret O dX4_isThread_42 rfl (by first
        | (have hp := bI_t (p := ((nI lo ≤ n ∧ n ≤ nI 30) ∧ (nI 0 ≤ kd ∧ kd ≤ nI 5) ∧ (nI 0 ≤ f ∧ f ≤ nI 2))) ⟨h10, h22, h34⟩; exact ⟨by rw [hp]; rfl, rfl⟩)
        | (have hp := bI_f (p := ((nI lo ≤ n ∧ n ≤ nI 30) ∧ (nI 0 ≤ kd ∧ kd ≤ nI 5) ∧ (nI 0 ≤ f ∧ f ≤ nI 2))) (fun q => h34 q.2.2); exact ⟨by rw [hp]; rfl, rfl⟩)
        | (have hp := bI_f (p := ((nI lo ≤ n ∧ n ≤ nI 30) ∧ (nI 0 ≤ kd ∧ kd ≤ nI 5) ∧ (nI 0 ≤ f ∧ f ≤ nI 2))) (fun q => h22 q.2.1); exact ⟨by rw [hp]; rfl, rfl⟩)
        | (have hp := bI_f (p := ((nI lo ≤ n ∧ n ≤ nI 30) ∧ (nI 0 ≤ kd ∧ kd ≤ nI 5) ∧ (nI 0 ≤ f ∧ f ≤ nI 2))) (fun q => h10 q.1); exact ⟨by rw [hp]; rfl, rfl⟩))
  · refine z_iload_n O dX4_isThread_13 rfl ?_
    refine z_i2l O dX4_isThread_14 ?_
    refine z_lconst O (lN 0) dX4_isThread_15 (by decide) ?_
    refine z_ldc2 O dX4_isThread_16 klX4_53 ?_
    refine z_top (v' := .long (lN 5)) (by decide) ?_
    refine z_S3e0 O (m_inI (by decide) (by decide)) mX4_in lkX4_45 dX4_isThread_19 (Nat.le_of_ble_eq_true rfl) (by decide) ?_
    refine z_if_eqB O 41 dX4_isThread_22 (by decide) (fun h22 => ?_) (fun h22 => ?_)
    · refine z_iconst O (nI 0) dX4_isThread_41 (by decide) ?_
      exact z_zret O dX4_isThread_42 rfl (by first
          | (have hp := bI_t (p := ((nI lo ≤ n ∧ n ≤ nI 30) ∧ (nI 0 ≤ kd ∧ kd ≤ nI 5) ∧ (nI 0 ≤ f ∧ f ≤ nI 2))) ⟨h10, h22, h34⟩; exact ⟨by rw [hp]; rfl, rfl⟩)
          | (have hp := bI_f (p := ((nI lo ≤ n ∧ n ≤ nI 30) ∧ (nI 0 ≤ kd ∧ kd ≤ nI 5) ∧ (nI 0 ≤ f ∧ f ≤ nI 2))) (fun q => h34 q.2.2); exact ⟨by rw [hp]; rfl, rfl⟩)
          | (have hp := bI_f (p := ((nI lo ≤ n ∧ n ≤ nI 30) ∧ (nI 0 ≤ kd ∧ kd ≤ nI 5) ∧ (nI 0 ≤ f ∧ f ≤ nI 2))) (fun q => h22 q.2.1); exact ⟨by rw [hp]; rfl, rfl⟩)
          | (have hp := bI_f (p := ((nI lo ≤ n ∧ n ≤ nI 30) ∧ (nI 0 ≤ kd ∧ kd ≤ nI 5) ∧ (nI 0 ≤ f ∧ f ≤ nI 2))) (fun q => h10 q.1); exact ⟨by rw [hp]; rfl, rfl⟩))
    · refine z_iload_n O dX4_isThread_25 rfl ?_
      refine z_i2l O dX4_isThread_26 ?_
      refine z_lconst O (lN 0) dX4_isThread_27 (by decide) ?_
      refine z_ldc2 O dX4_isThread_28 klX4_55 ?_
      refine z_top (v' := .long (lN 2)) (by decide) ?_
      refine z_S3e0 O (m_inI (by decide) (by decide)) mX4_in lkX4_45 dX4_isThread_31 (Nat.le_of_ble_eq_true rfl) (by decide) ?_
      refine z_if_eqB O 41 dX4_isThread_34 (by decide) (fun h34 => ?_) (fun h34 => ?_)
      · refine z_iconst O (nI 0) dX4_isThread_41 (by decide) ?_
        exact z_zret O dX4_isThread_42 rfl (by first
            | (have hp := bI_t (p := ((nI lo ≤ n ∧ n ≤ nI 30) ∧ (nI 0 ≤ kd ∧ kd ≤ nI 5) ∧ (nI 0 ≤ f ∧ f ≤ nI 2))) ⟨h10, h22, h34⟩; exact ⟨by rw [hp]; rfl, rfl⟩)
            | (have hp := bI_f (p := ((nI lo ≤ n ∧ n ≤ nI 30) ∧ (nI 0 ≤ kd ∧ kd ≤ nI 5) ∧ (nI 0 ≤ f ∧ f ≤ nI 2))) (fun q => h34 q.2.2); exact ⟨by rw [hp]; rfl, rfl⟩)
            | (have hp := bI_f (p := ((nI lo ≤ n ∧ n ≤ nI 30) ∧ (nI 0 ≤ kd ∧ kd ≤ nI 5) ∧ (nI 0 ≤ f ∧ f ≤ nI 2))) (fun q => h22 q.2.1); exact ⟨by rw [hp]; rfl, rfl⟩)
            | (have hp := bI_f (p := ((nI lo ≤ n ∧ n ≤ nI 30) ∧ (nI 0 ≤ kd ∧ kd ≤ nI 5) ∧ (nI 0 ≤ f ∧ f ≤ nI 2))) (fun q => h10 q.1); exact ⟨by rw [hp]; rfl, rfl⟩))
      · refine z_iconst O (nI 1) dX4_isThread_37 (by decide) ?_
        refine z_goto O 42 dX4_isThread_38 (by decide) ?_
        exact z_zret O dX4_isThread_42 rfl (by first
            | (have hp := bI_t (p := ((nI lo ≤ n ∧ n ≤ nI 30) ∧ (nI 0 ≤ kd ∧ kd ≤ nI 5) ∧ (nI 0 ≤ f ∧ f ≤ nI 2))) ⟨h10, h22, h34⟩; exact ⟨by rw [hp]; rfl, rfl⟩)
            | (have hp := bI_f (p := ((nI lo ≤ n ∧ n ≤ nI 30) ∧ (nI 0 ≤ kd ∧ kd ≤ nI 5) ∧ (nI 0 ≤ f ∧ f ≤ nI 2))) (fun q => h34 q.2.2); exact ⟨by rw [hp]; rfl, rfl⟩)
            | (have hp := bI_f (p := ((nI lo ≤ n ∧ n ≤ nI 30) ∧ (nI 0 ≤ kd ∧ kd ≤ nI 5) ∧ (nI 0 ≤ f ∧ f ≤ nI 2))) (fun q => h22 q.2.1); exact ⟨by rw [hp]; rfl, rfl⟩)
            | (have hp := bI_f (p := ((nI lo ≤ n ∧ n ≤ nI 30) ∧ (nI 0 ≤ kd ∧ kd ≤ nI 5) ∧ (nI 0 ≤ f ∧ f ≤ nI 2))) (fun q => h10 q.1); exact ⟨by rw [hp]; rfl, rfl⟩))
set_option maxRecDepth 20000 in
set_option maxHeartbeats 4000000 in
theorem m_isThreadN {M : List va_E} {n kd f lo : Nat} (hlo : lo < 2 ^ 31) (h1 : n < 2 ^ 31) (h2 : kd < 2 ^ 31) (h3 : f < 2 ^ 31) : zS G 2 yX4_isThread cX4_isThread 4 (some .boolean) [.int (nI n), .int (nI lo), .int (nI kd), .int (nI f)] M 0 0 (zE (.int (bI ((lo ≤ n ∧ n ≤ 30) ∧ kd ≤ 5 ∧ f ≤ 2))) M) := by
  refine zS.of (by decide) (Nat.le_of_ble_eq_true rfl) (fun F O hR1 hR2 => ?_)
  have O : zOk G F yX4_isThread cX4_isThread 4 (some .boolean) RX4 2 M.length := O
  refine z_eq (lv' := [(0, _), (1, _), (2, _), (3, _)]) rfl rfl rfl ?_
  refine z_iload_n O dX4_isThread_0 rfl ?_
  refine z_i2lN O dX4_isThread_1 (by omega) ?_
  refine z_iload_n O dX4_isThread_2 rfl ?_
  refine z_i2lN O dX4_isThread_3 (by omega) ?_
  refine z_ldc2 O dX4_isThread_4 klX4_57 ?_
  refine z_top (v' := .long (lN 30)) (by decide) ?_
  refine z_S3e0 O (m_inN (by omega) (by omega) (by omega)) mX4_in lkX4_45 dX4_isThread_7 (Nat.le_of_ble_eq_true rfl) (by decide) ?_
  refine z_if_eqB O 41 dX4_isThread_10 (by decide) (fun h10 => ?_) (fun h10 => ?_)
  · refine z_iconst O (nI 0) dX4_isThread_41 (by decide) ?_
    exact z_zret O dX4_isThread_42 rfl (by first
        | (have hp := bI_t (p := ((lo ≤ n ∧ n ≤ 30) ∧ kd ≤ 5 ∧ f ≤ 2)) ⟨h10, h22.2, h34.2⟩; exact ⟨by rw [hp]; rfl, rfl⟩)
        | (have hp := bI_f (p := ((lo ≤ n ∧ n ≤ 30) ∧ kd ≤ 5 ∧ f ≤ 2)) (fun q => h34 ⟨Nat.zero_le _, q.2.2⟩); exact ⟨by rw [hp]; rfl, rfl⟩)
        | (have hp := bI_f (p := ((lo ≤ n ∧ n ≤ 30) ∧ kd ≤ 5 ∧ f ≤ 2)) (fun q => h22 ⟨Nat.zero_le _, q.2.1⟩); exact ⟨by rw [hp]; rfl, rfl⟩)
        | (have hp := bI_f (p := ((lo ≤ n ∧ n ≤ 30) ∧ kd ≤ 5 ∧ f ≤ 2)) (fun q => h10 q.1); exact ⟨by rw [hp]; rfl, rfl⟩))
  · refine z_iload_n O dX4_isThread_13 rfl ?_
    refine z_i2lN O dX4_isThread_14 (by omega) ?_
    refine z_lconst O (lN 0) dX4_isThread_15 (by decide) ?_
    refine z_ldc2 O dX4_isThread_16 klX4_53 ?_
    refine z_top (v' := .long (lN 5)) (by decide) ?_
    refine z_S3e0 O (m_inN (by omega) (by omega) (by omega)) mX4_in lkX4_45 dX4_isThread_19 (Nat.le_of_ble_eq_true rfl) (by decide) ?_
    refine z_if_eqB O 41 dX4_isThread_22 (by decide) (fun h22 => ?_) (fun h22 => ?_)
    · refine z_iconst O (nI 0) dX4_isThread_41 (by decide) ?_
      exact z_zret O dX4_isThread_42 rfl (by first
          | (have hp := bI_t (p := ((lo ≤ n ∧ n ≤ 30) ∧ kd ≤ 5 ∧ f ≤ 2)) ⟨h10, h22.2, h34.2⟩; exact ⟨by rw [hp]; rfl, rfl⟩)
          | (have hp := bI_f (p := ((lo ≤ n ∧ n ≤ 30) ∧ kd ≤ 5 ∧ f ≤ 2)) (fun q => h34 ⟨Nat.zero_le _, q.2.2⟩); exact ⟨by rw [hp]; rfl, rfl⟩)
          | (have hp := bI_f (p := ((lo ≤ n ∧ n ≤ 30) ∧ kd ≤ 5 ∧ f ≤ 2)) (fun q => h22 ⟨Nat.zero_le _, q.2.1⟩); exact ⟨by rw [hp]; rfl, rfl⟩)
          | (have hp := bI_f (p := ((lo ≤ n ∧ n ≤ 30) ∧ kd ≤ 5 ∧ f ≤ 2)) (fun q => h10 q.1); exact ⟨by rw [hp]; rfl, rfl⟩))
    · refine z_iload_n O dX4_isThread_25 rfl ?_
      refine z_i2lN O dX4_isThread_26 (by omega) ?_
      refine z_lconst O (lN 0) dX4_isThread_27 (by decide) ?_
      refine z_ldc2 O dX4_isThread_28 klX4_55 ?_
      refine z_top (v' := .long (lN 2)) (by decide) ?_
      refine z_S3e0 O (m_inN (by omega) (by omega) (by omega)) mX4_in lkX4_45 dX4_isThread_31 (Nat.le_of_ble_eq_true rfl) (by decide) ?_
      refine z_if_eqB O 41 dX4_isThread_34 (by decide) (fun h34 => ?_) (fun h34 => ?_)
      · refine z_iconst O (nI 0) dX4_isThread_41 (by decide) ?_
        exact z_zret O dX4_isThread_42 rfl (by first
            | (have hp := bI_t (p := ((lo ≤ n ∧ n ≤ 30) ∧ kd ≤ 5 ∧ f ≤ 2)) ⟨h10, h22.2, h34.2⟩; exact ⟨by rw [hp]; rfl, rfl⟩)
            | (have hp := bI_f (p := ((lo ≤ n ∧ n ≤ 30) ∧ kd ≤ 5 ∧ f ≤ 2)) (fun q => h34 ⟨Nat.zero_le _, q.2.2⟩); exact ⟨by rw [hp]; rfl, rfl⟩)
            | (have hp := bI_f (p := ((lo ≤ n ∧ n ≤ 30) ∧ kd ≤ 5 ∧ f ≤ 2)) (fun q => h22 ⟨Nat.zero_le _, q.2.1⟩); exact ⟨by rw [hp]; rfl, rfl⟩)
            | (have hp := bI_f (p := ((lo ≤ n ∧ n ≤ 30) ∧ kd ≤ 5 ∧ f ≤ 2)) (fun q => h10 q.1); exact ⟨by rw [hp]; rfl, rfl⟩))
      · refine z_iconst O (nI 1) dX4_isThread_37 (by decide) ?_
        refine z_goto O 42 dX4_isThread_38 (by decide) ?_
        exact z_zret O dX4_isThread_42 rfl (by first
            | (have hp := bI_t (p := ((lo ≤ n ∧ n ≤ 30) ∧ kd ≤ 5 ∧ f ≤ 2)) ⟨h10, h22.2, h34.2⟩; exact ⟨by rw [hp]; rfl, rfl⟩)
            | (have hp := bI_f (p := ((lo ≤ n ∧ n ≤ 30) ∧ kd ≤ 5 ∧ f ≤ 2)) (fun q => h34 ⟨Nat.zero_le _, q.2.2⟩); exact ⟨by rw [hp]; rfl, rfl⟩)
            | (have hp := bI_f (p := ((lo ≤ n ∧ n ≤ 30) ∧ kd ≤ 5 ∧ f ≤ 2)) (fun q => h22 ⟨Nat.zero_le _, q.2.1⟩); exact ⟨by rw [hp]; rfl, rfl⟩)
            | (have hp := bI_f (p := ((lo ≤ n ∧ n ≤ 30) ∧ kd ≤ 5 ∧ f ≤ 2)) (fun q => h10 q.1); exact ⟨by rw [hp]; rfl, rfl⟩))
set_option maxRecDepth 20000 in
set_option maxHeartbeats 4000000 in
theorem m_kindsOfP {we r seen kept : Nat → Nat} {rd nw ud Y : Nat} (h : RS w 0 we r seen kept rd nw ud) (g : GS Y we r seen kept rd nw ud) {c : Nat} (hc : c < 9) (h0 : 0 < r (108 + c)) : zS G 4 yX4_kindsOf cX4_kindsOf 7 (some .int) [.ref (zad (zb G) 21), .int (nI c)] (yM G c0_ c1_ c2_ c3_ c4_ c5_ c6_ c7_ c8_ c9_ c10_ c11_ c12_ c13_ c14_ c15_ c16_ c17_ c18_ c19_ c20_ w kp tx txl rf ya yb at2 st2 iwd ifg nb fr la nms nd wf hh tl) 0 0 (zE (.int (nI (mayN r we seen rd c))) (yM G c0_ c1_ c2_ c3_ c4_ c5_ c6_ c7_ c8_ c9_ c10_ c11_ c12_ c13_ c14_ c15_ c16_ c17_ c18_ c19_ c20_ w kp tx txl rf ya yb at2 st2 iwd ifg nb fr la nms nd wf hh tl)) := by
  refine zS.of (by decide) (Nat.le_of_ble_eq_true rfl) (fun F O hR1 hR2 => ?_)
  have O : zOk G F yX4_kindsOf cX4_kindsOf 7 (some .int) RX4 4 (yM G c0_ c1_ c2_ c3_ c4_ c5_ c6_ c7_ c8_ c9_ c10_ c11_ c12_ c13_ c14_ c15_ c16_ c17_ c18_ c19_ c20_ w kp tx txl rf ya yb at2 st2 iwd ifg nb fr la nms nd wf hh tl).length := O
  refine z_eq (lv' := [(0, _), (1, _)]) rfl rfl rfl ?_
  refine z_iconst O (nI 0) dX4_kindsOf_0 (by decide) ?_
  refine z_istore_n (lv' := [(0, _), (1, _), (2, _)]) O dX4_kindsOf_1 (by decide) rfl ?_
  refine z_iconst O (nI 0) dX4_kindsOf_2 (by decide) ?_
  refine z_istore_n (lv' := [(0, _), (1, _), (2, _), (3, _)]) O dX4_kindsOf_3 (by decide) rfl ?_
  refine zdown (P := fun kd => Z G F 0 0 (zEnd G F (zE (.int (nI (mayN r we seen rd c))) (yM G c0_ c1_ c2_ c3_ c4_ c5_ c6_ c7_ c8_ c9_ c10_ c11_ c12_ c13_ c14_ c15_ c16_ c17_ c18_ c19_ c20_ w kp tx txl rf ya yb at2 st2 iwd ifg nb fr la nms nd wf hh tl)) 0 0) 4 [(0, .ref (zad (zb G) 21)), (1, .int (nI c)), (2, .int (nI (bitsN (fun kd => agrB r we seen c kd rd) kd))), (3, .int (nI kd))] [] (yM G c0_ c1_ c2_ c3_ c4_ c5_ c6_ c7_ c8_ c9_ c10_ c11_ c12_ c13_ c14_ c15_ c16_ c17_ c18_ c19_ c20_ w kp tx txl rf ya yb at2 st2 iwd ifg nb fr la nms nd wf hh tl)) (6) ?_ ?_ 
  · refine z_iload_n O dX4_kindsOf_4 rfl ?_
    refine z_bipush O (nI 6) dX4_kindsOf_5 (by decide) ?_
    refine z_icmp_geN O 126 dX4_kindsOf_7 (by decide) (by omega) (by omega) (fun h7 => ?_) (fun h7 => by omega)
    refine z_iload_n O dX4_kindsOf_126 rfl ?_
    exact z_iret O dX4_kindsOf_127 ⟨by rw [mayN, if_neg (by omega)], rfl⟩
  · intro kd hkd ih 
    refine z_iload_n O dX4_kindsOf_4 rfl ?_
    refine z_bipush O (nI 6) dX4_kindsOf_5 (by decide) ?_
    refine z_icmp_geN O 126 dX4_kindsOf_7 (by decide) (by omega) (by omega) (fun h7 => by omega) (fun h7 => ?_)
    refine z_aload_n O dX4_kindsOf_10 rfl ?_
    refine z_get O dX4_kindsOf_11 flX4_7 (by rfl) (by rfl) ?_
    refine z_iconst O (nI 1) dX4_kindsOf_14 (by decide) ?_
    refine z_iload_n O dX4_kindsOf_15 rfl ?_
    refine z_iaddN O dX4_kindsOf_16 ?_
    refine z_ialdN O dX4_kindsOf_17 (by rfl) (by omega) (by decide) ?_
    refine z_top (v' := .int (nI (r (108 + c)))) (congrArg Value.int (congrArg nI (h.m hc))) ?_
    refine z_if_leN O 126 dX4_kindsOf_18 (by decide) (by have := g.1.1.2 c hc; omega) (fun h18 => by omega) (fun h18 => ?_)
    refine z_iconst O (nI 1) dX4_kindsOf_21 (by decide) ?_
    refine z_istore (lv' := [(0, _), (1, _), (2, _), (3, _), (4, _)]) O dX4_kindsOf_22 (by decide) rfl ?_
    refine z_iconst O (nI 0) dX4_kindsOf_24 (by decide) ?_
    refine z_istore (lv' := [(0, _), (1, _), (2, _), (3, _), (4, _), (5, _)]) O dX4_kindsOf_25 (by decide) rfl ?_
    refine zdown (P := fun k => Z G F 0 0 (zEnd G F (zE (.int (nI (mayN r we seen rd c))) (yM G c0_ c1_ c2_ c3_ c4_ c5_ c6_ c7_ c8_ c9_ c10_ c11_ c12_ c13_ c14_ c15_ c16_ c17_ c18_ c19_ c20_ w kp tx txl rf ya yb at2 st2 iwd ifg nb fr la nms nd wf hh tl)) 0 0) 27 [(0, .ref (zad (zb G) 21)), (1, .int (nI c)), (2, .int (nI (bitsN (fun kd => agrB r we seen c kd rd) kd))), (3, .int (nI kd)), (4, .int (bI (agrB r we seen c kd k = true))), (5, .int (nI k))] [] (yM G c0_ c1_ c2_ c3_ c4_ c5_ c6_ c7_ c8_ c9_ c10_ c11_ c12_ c13_ c14_ c15_ c16_ c17_ c18_ c19_ c20_ w kp tx txl rf ya yb at2 st2 iwd ifg nb fr la nms nd wf hh tl)) (rd) ?_ ?_ 
    · refine z_iload O dX4_kindsOf_27 rfl ?_
      refine z_aload_n O dX4_kindsOf_29 rfl ?_
      refine z_get O dX4_kindsOf_30 flX4_7 (by rfl) (by rfl) ?_
      refine z_bipush O (nI 127) dX4_kindsOf_33 (by decide) ?_
      refine z_ialdN O dX4_kindsOf_35 (by rfl) (by omega) (by decide) ?_
      refine z_top (v' := .int (nI rd)) (congrArg Value.int (congrArg nI h.n.1)) ?_
      refine z_icmp_geN O 105 dX4_kindsOf_36 (by decide) (by have := g.2.2.2.2.2.2.2.1; omega) (by have := g.2.2.2.2.2.2.2.1; omega) (fun h36 => ?_) (fun h36 => by omega)
      by_cases hag : (agrB r we seen c kd rd = true)
      · refine z_iload_n O dX4_kindsOf_105 rfl ?_
        refine z_iload O dX4_kindsOf_106 rfl ?_
        refine z_if_eqB O 117 dX4_kindsOf_108 (by decide) (fun h108 => by exact absurd hag h108) (fun h108 => ?_)
        refine z_iconst O (nI 1) dX4_kindsOf_111 (by decide) ?_
        refine z_iload_n O dX4_kindsOf_112 rfl ?_
        refine z_ishl O dX4_kindsOf_113 ?_
        refine z_goto O 118 dX4_kindsOf_114 (by decide) ?_
        refine z_ior O dX4_kindsOf_118 ?_
        refine z_top (v' := .int (nI (bitsN (fun kd => agrB r we seen c kd rd) kd + 2 ^ kd))) (congrArg Value.int (zb_or (bitsN_lt _ _) (by omega))) ?_
        refine z_istore_n (lv' := [(0, _), (1, _), (2, _), (3, _), (4, _), (5, _)]) O dX4_kindsOf_119 (by decide) rfl ?_
        refine z_iincN (lv' := [(0, _), (1, _), (2, _), (3, _), (4, _), (5, _)]) O 1 dX4_kindsOf_120 (by decide) rfl rfl (by decide) ?_
        refine z_goto O 4 dX4_kindsOf_123 (by decide) ?_
        refine z_kp (lv' := [(0, _), (1, _), (2, _), (3, _)]) [0, 1, 2, 3] rfl ?_
        rw [show bitsN (fun kd => agrB r we seen c kd rd) (kd + 1) = bitsN (fun kd => agrB r we seen c kd rd) kd + 2 ^ kd from if_pos hag] at ih
        exact ih
      · refine z_iload_n O dX4_kindsOf_105 rfl ?_
        refine z_iload O dX4_kindsOf_106 rfl ?_
        refine z_if_eqB O 117 dX4_kindsOf_108 (by decide) (fun h108 => ?_) (fun h108 => by exact absurd h108 hag)
        refine z_iconst O (nI 0) dX4_kindsOf_117 (by decide) ?_
        refine z_ior O dX4_kindsOf_118 ?_
        refine z_top (v' := .int (nI (bitsN (fun kd => agrB r we seen c kd rd) kd))) (congrArg Value.int (zb_or0 _)) ?_
        refine z_istore_n (lv' := [(0, _), (1, _), (2, _), (3, _), (4, _), (5, _)]) O dX4_kindsOf_119 (by decide) rfl ?_
        refine z_iincN (lv' := [(0, _), (1, _), (2, _), (3, _), (4, _), (5, _)]) O 1 dX4_kindsOf_120 (by decide) rfl rfl (by decide) ?_
        refine z_goto O 4 dX4_kindsOf_123 (by decide) ?_
        refine z_kp (lv' := [(0, _), (1, _), (2, _), (3, _)]) [0, 1, 2, 3] rfl ?_
        rw [show bitsN (fun kd => agrB r we seen c kd rd) (kd + 1) = bitsN (fun kd => agrB r we seen c kd rd) kd from if_neg hag] at ih
        exact ih
    · intro k hk ih 
      refine z_iload O dX4_kindsOf_27 rfl ?_
      refine z_aload_n O dX4_kindsOf_29 rfl ?_
      refine z_get O dX4_kindsOf_30 flX4_7 (by rfl) (by rfl) ?_
      refine z_bipush O (nI 127) dX4_kindsOf_33 (by decide) ?_
      refine z_ialdN O dX4_kindsOf_35 (by rfl) (by omega) (by decide) ?_
      refine z_top (v' := .int (nI rd)) (congrArg Value.int (congrArg nI h.n.1)) ?_
      refine z_icmp_geN O 105 dX4_kindsOf_36 (by decide) (by have := g.2.2.2.2.2.2.2.1; omega) (by have := g.2.2.2.2.2.2.2.1; omega) (fun h36 => by omega) (fun h36 => ?_)
      refine z_sipush O (nI 128) dX4_kindsOf_39 (by decide) ?_
      refine z_iconst O (nI 3) dX4_kindsOf_42 (by decide) ?_
      refine z_iload O dX4_kindsOf_43 rfl ?_
      refine z_imulN O dX4_kindsOf_45 ?_
      refine z_iaddN O dX4_kindsOf_46 ?_
      refine z_istore (lv' := [(0, _), (1, _), (2, _), (3, _), (4, _), (5, _), (6, _)]) O dX4_kindsOf_47 (by decide) rfl ?_
      refine z_iload O dX4_kindsOf_49 rfl ?_
      refine z_if_eqB O 96 dX4_kindsOf_51 (by decide) (fun h51 => ?_) (fun h51 => ?_)
      · refine z_iconst O (nI 0) dX4_kindsOf_96 (by decide) ?_
        refine z_istore (lv' := [(0, _), (1, _), (2, _), (3, _), (4, _), (5, _), (6, _)]) O dX4_kindsOf_97 (by decide) rfl ?_
        refine z_iincN (lv' := [(0, _), (1, _), (2, _), (3, _), (4, _), (5, _), (6, _)]) O 1 dX4_kindsOf_99 (by decide) rfl rfl (by decide) ?_
        refine z_goto O 27 dX4_kindsOf_102 (by decide) ?_
        refine z_kp (lv' := [(0, _), (1, _), (2, _), (3, _), (4, _), (5, _)]) [0, 1, 2, 3, 4, 5] rfl ?_
        first
        | (have hs : agrB r we seen c kd (k + 1) = true := by rw [show agrB r we seen c kd (k + 1) = (agrB r we seen c kd k && (!(seen (3 * k) == c) || lftC r we c kd (seen (3 * k + 1)) == seen (3 * k + 2))) from rfl]; simp [h51, h62]
           have hq := ih; rw [bI_t hs] at hq; exact hq)
        | (have hs : agrB r we seen c kd (k + 1) = true := by rw [show agrB r we seen c kd (k + 1) = (agrB r we seen c kd k && (!(seen (3 * k) == c) || lftC r we c kd (seen (3 * k + 1)) == seen (3 * k + 2))) from rfl]; simp [h51, h89]
           have hq := ih; rw [bI_t hs] at hq; exact hq)
        | (have hs : ¬ agrB r we seen c kd (k + 1) = true := by rw [show agrB r we seen c kd (k + 1) = (agrB r we seen c kd k && (!(seen (3 * k) == c) || lftC r we c kd (seen (3 * k + 1)) == seen (3 * k + 2))) from rfl]; simp [h51, h62, h89]
           have hq := ih; rw [bI_f hs] at hq; exact hq)
        | (have hs : ¬ agrB r we seen c kd (k + 1) = true := by rw [show agrB r we seen c kd (k + 1) = (agrB r we seen c kd k && (!(seen (3 * k) == c) || lftC r we c kd (seen (3 * k + 1)) == seen (3 * k + 2))) from rfl]; simp [h51]
           have hq := ih; rw [bI_f hs] at hq; exact hq)
      · refine z_aload_n O dX4_kindsOf_54 rfl ?_
        refine z_get O dX4_kindsOf_55 flX4_7 (by rfl) (by rfl) ?_
        refine z_iload O dX4_kindsOf_58 rfl ?_
        refine z_ialdN O dX4_kindsOf_60 (by rfl) (by have := g.2.2.2.2.2.2.2.1; omega) (by decide) ?_
        refine z_top (v' := .int (nI (seen (3 * k)))) (congrArg Value.int (congrArg nI (h.s (j := 0) hk (by decide)))) ?_
        refine z_iload_n O dX4_kindsOf_61 rfl ?_
        refine z_icmp_neN O 92 dX4_kindsOf_62 (by decide) (by have := g.2.2.2.1 (3 * k); omega) (by have := g.2.2.2.1 (3 * k); omega) (fun h62 => ?_) (fun h62 => ?_)
        · refine z_iconst O (nI 1) dX4_kindsOf_92 (by decide) ?_
          refine z_goto O 97 dX4_kindsOf_93 (by decide) ?_
          refine z_istore (lv' := [(0, _), (1, _), (2, _), (3, _), (4, _), (5, _), (6, _)]) O dX4_kindsOf_97 (by decide) rfl ?_
          refine z_iincN (lv' := [(0, _), (1, _), (2, _), (3, _), (4, _), (5, _), (6, _)]) O 1 dX4_kindsOf_99 (by decide) rfl rfl (by decide) ?_
          refine z_goto O 27 dX4_kindsOf_102 (by decide) ?_
          refine z_kp (lv' := [(0, _), (1, _), (2, _), (3, _), (4, _), (5, _)]) [0, 1, 2, 3, 4, 5] rfl ?_
          first
          | (have hs : agrB r we seen c kd (k + 1) = true := by rw [show agrB r we seen c kd (k + 1) = (agrB r we seen c kd k && (!(seen (3 * k) == c) || lftC r we c kd (seen (3 * k + 1)) == seen (3 * k + 2))) from rfl]; simp [h51, h62]
             have hq := ih; rw [bI_t hs] at hq; exact hq)
          | (have hs : agrB r we seen c kd (k + 1) = true := by rw [show agrB r we seen c kd (k + 1) = (agrB r we seen c kd k && (!(seen (3 * k) == c) || lftC r we c kd (seen (3 * k + 1)) == seen (3 * k + 2))) from rfl]; simp [h51, h89]
             have hq := ih; rw [bI_t hs] at hq; exact hq)
          | (have hs : ¬ agrB r we seen c kd (k + 1) = true := by rw [show agrB r we seen c kd (k + 1) = (agrB r we seen c kd k && (!(seen (3 * k) == c) || lftC r we c kd (seen (3 * k + 1)) == seen (3 * k + 2))) from rfl]; simp [h51, h62, h89]
             have hq := ih; rw [bI_f hs] at hq; exact hq)
          | (have hs : ¬ agrB r we seen c kd (k + 1) = true := by rw [show agrB r we seen c kd (k + 1) = (agrB r we seen c kd k && (!(seen (3 * k) == c) || lftC r we c kd (seen (3 * k + 1)) == seen (3 * k + 2))) from rfl]; simp [h51]
             have hq := ih; rw [bI_f hs] at hq; exact hq)
        · refine z_aload_n O dX4_kindsOf_65 rfl ?_
          refine z_iload_n O dX4_kindsOf_66 rfl ?_
          refine z_iload_n O dX4_kindsOf_67 rfl ?_
          refine z_aload_n O dX4_kindsOf_68 rfl ?_
          refine z_get O dX4_kindsOf_69 flX4_7 (by rfl) (by rfl) ?_
          refine z_iload O dX4_kindsOf_72 rfl ?_
          refine z_iconst O (nI 1) dX4_kindsOf_74 (by decide) ?_
          refine z_iaddN O dX4_kindsOf_75 ?_
          refine z_ialdN O dX4_kindsOf_76 (by rfl) (by have := g.2.2.2.2.2.2.2.1; omega) (by decide) ?_
          refine z_top (v' := .int (nI (seen (3 * k + 1)))) (congrArg Value.int (congrArg nI (h.s (j := 1) hk (by decide)))) ?_
          refine z_V3e0 O (m_leftOf h.1 g.1.1 g.2.1 hc h0 (by omega) (by have := g.2.2.2.1 (3 * k + 1); omega)) mX4_leftOf lkX4_218 rfl (by rfl) dX4_kindsOf_77 (Nat.le_of_ble_eq_true rfl) (by decide) ?_
          refine z_aload_n O dX4_kindsOf_80 rfl ?_
          refine z_get O dX4_kindsOf_81 flX4_7 (by rfl) (by rfl) ?_
          refine z_iload O dX4_kindsOf_84 rfl ?_
          refine z_iconst O (nI 2) dX4_kindsOf_86 (by decide) ?_
          refine z_iaddN O dX4_kindsOf_87 ?_
          refine z_ialdN O dX4_kindsOf_88 (by rfl) (by have := g.2.2.2.2.2.2.2.1; omega) (by decide) ?_
          refine z_top (v' := .int (nI (seen (3 * k + 2)))) (congrArg Value.int (congrArg nI (h.s (j := 2) hk (by decide)))) ?_
          refine z_icmp_neN O 96 dX4_kindsOf_89 (by decide) (by first | (have hq1 := g.2.2.2.1 (3 * k + 2); omega) | (have hq1 := lftC_le r we c kd (seen (3 * k + 1)); have hq2 : fld r c (r (108 + c) - 1) 2 < 1048576 := g.1.1.1 _; omega)) (by first | (have hq1 := g.2.2.2.1 (3 * k + 2); omega) | (have hq1 := lftC_le r we c kd (seen (3 * k + 1)); have hq2 : fld r c (r (108 + c) - 1) 2 < 1048576 := g.1.1.1 _; omega)) (fun h89 => ?_) (fun h89 => ?_)
          · refine z_iconst O (nI 0) dX4_kindsOf_96 (by decide) ?_
            refine z_istore (lv' := [(0, _), (1, _), (2, _), (3, _), (4, _), (5, _), (6, _)]) O dX4_kindsOf_97 (by decide) rfl ?_
            refine z_iincN (lv' := [(0, _), (1, _), (2, _), (3, _), (4, _), (5, _), (6, _)]) O 1 dX4_kindsOf_99 (by decide) rfl rfl (by decide) ?_
            refine z_goto O 27 dX4_kindsOf_102 (by decide) ?_
            refine z_kp (lv' := [(0, _), (1, _), (2, _), (3, _), (4, _), (5, _)]) [0, 1, 2, 3, 4, 5] rfl ?_
            first
            | (have hs : agrB r we seen c kd (k + 1) = true := by rw [show agrB r we seen c kd (k + 1) = (agrB r we seen c kd k && (!(seen (3 * k) == c) || lftC r we c kd (seen (3 * k + 1)) == seen (3 * k + 2))) from rfl]; simp [h51, h62]
               have hq := ih; rw [bI_t hs] at hq; exact hq)
            | (have hs : agrB r we seen c kd (k + 1) = true := by rw [show agrB r we seen c kd (k + 1) = (agrB r we seen c kd k && (!(seen (3 * k) == c) || lftC r we c kd (seen (3 * k + 1)) == seen (3 * k + 2))) from rfl]; simp [h51, h89]
               have hq := ih; rw [bI_t hs] at hq; exact hq)
            | (have hs : ¬ agrB r we seen c kd (k + 1) = true := by rw [show agrB r we seen c kd (k + 1) = (agrB r we seen c kd k && (!(seen (3 * k) == c) || lftC r we c kd (seen (3 * k + 1)) == seen (3 * k + 2))) from rfl]; simp [h51, h62, h89]
               have hq := ih; rw [bI_f hs] at hq; exact hq)
            | (have hs : ¬ agrB r we seen c kd (k + 1) = true := by rw [show agrB r we seen c kd (k + 1) = (agrB r we seen c kd k && (!(seen (3 * k) == c) || lftC r we c kd (seen (3 * k + 1)) == seen (3 * k + 2))) from rfl]; simp [h51]
               have hq := ih; rw [bI_f hs] at hq; exact hq)
          · refine z_iconst O (nI 1) dX4_kindsOf_92 (by decide) ?_
            refine z_goto O 97 dX4_kindsOf_93 (by decide) ?_
            refine z_istore (lv' := [(0, _), (1, _), (2, _), (3, _), (4, _), (5, _), (6, _)]) O dX4_kindsOf_97 (by decide) rfl ?_
            refine z_iincN (lv' := [(0, _), (1, _), (2, _), (3, _), (4, _), (5, _), (6, _)]) O 1 dX4_kindsOf_99 (by decide) rfl rfl (by decide) ?_
            refine z_goto O 27 dX4_kindsOf_102 (by decide) ?_
            refine z_kp (lv' := [(0, _), (1, _), (2, _), (3, _), (4, _), (5, _)]) [0, 1, 2, 3, 4, 5] rfl ?_
            first
            | (have hs : agrB r we seen c kd (k + 1) = true := by rw [show agrB r we seen c kd (k + 1) = (agrB r we seen c kd k && (!(seen (3 * k) == c) || lftC r we c kd (seen (3 * k + 1)) == seen (3 * k + 2))) from rfl]; simp [h51, h62]
               have hq := ih; rw [bI_t hs] at hq; exact hq)
            | (have hs : agrB r we seen c kd (k + 1) = true := by rw [show agrB r we seen c kd (k + 1) = (agrB r we seen c kd k && (!(seen (3 * k) == c) || lftC r we c kd (seen (3 * k + 1)) == seen (3 * k + 2))) from rfl]; simp [h51, h89]
               have hq := ih; rw [bI_t hs] at hq; exact hq)
            | (have hs : ¬ agrB r we seen c kd (k + 1) = true := by rw [show agrB r we seen c kd (k + 1) = (agrB r we seen c kd k && (!(seen (3 * k) == c) || lftC r we c kd (seen (3 * k + 1)) == seen (3 * k + 2))) from rfl]; simp [h51, h62, h89]
               have hq := ih; rw [bI_f hs] at hq; exact hq)
            | (have hs : ¬ agrB r we seen c kd (k + 1) = true := by rw [show agrB r we seen c kd (k + 1) = (agrB r we seen c kd k && (!(seen (3 * k) == c) || lftC r we c kd (seen (3 * k + 1)) == seen (3 * k + 2))) from rfl]; simp [h51]
               have hq := ih; rw [bI_f hs] at hq; exact hq)
set_option maxRecDepth 20000 in
set_option maxHeartbeats 4000000 in
theorem m_kindsOf0 {we r seen kept : Nat → Nat} {rd nw ud Y : Nat} (h : RS w 0 we r seen kept rd nw ud) (g : GS Y we r seen kept rd nw ud) {c : Nat} (hc : c < 9) (h0 : r (108 + c) = 0) : zS G 4 yX4_kindsOf cX4_kindsOf 7 (some .int) [.ref (zad (zb G) 21), .int (nI c)] (yM G c0_ c1_ c2_ c3_ c4_ c5_ c6_ c7_ c8_ c9_ c10_ c11_ c12_ c13_ c14_ c15_ c16_ c17_ c18_ c19_ c20_ w kp tx txl rf ya yb at2 st2 iwd ifg nb fr la nms nd wf hh tl) 0 0 (zE (.int (nI (mayN r we seen rd c))) (yM G c0_ c1_ c2_ c3_ c4_ c5_ c6_ c7_ c8_ c9_ c10_ c11_ c12_ c13_ c14_ c15_ c16_ c17_ c18_ c19_ c20_ w kp tx txl rf ya yb at2 st2 iwd ifg nb fr la nms nd wf hh tl)) := by
  refine zS.of (by decide) (Nat.le_of_ble_eq_true rfl) (fun F O hR1 hR2 => ?_)
  have O : zOk G F yX4_kindsOf cX4_kindsOf 7 (some .int) RX4 4 (yM G c0_ c1_ c2_ c3_ c4_ c5_ c6_ c7_ c8_ c9_ c10_ c11_ c12_ c13_ c14_ c15_ c16_ c17_ c18_ c19_ c20_ w kp tx txl rf ya yb at2 st2 iwd ifg nb fr la nms nd wf hh tl).length := O
  refine z_eq (lv' := [(0, _), (1, _)]) rfl rfl rfl ?_
  refine z_iconst O (nI 0) dX4_kindsOf_0 (by decide) ?_
  refine z_istore_n (lv' := [(0, _), (1, _), (2, _)]) O dX4_kindsOf_1 (by decide) rfl ?_
  refine z_iconst O (nI 0) dX4_kindsOf_2 (by decide) ?_
  refine z_istore_n (lv' := [(0, _), (1, _), (2, _), (3, _)]) O dX4_kindsOf_3 (by decide) rfl ?_
  refine z_iload_n O dX4_kindsOf_4 rfl ?_
  refine z_bipush O (nI 6) dX4_kindsOf_5 (by decide) ?_
  refine z_icmp_geN O 126 dX4_kindsOf_7 (by decide) (by omega) (by omega) (fun h7 => by omega) (fun h7 => ?_)
  refine z_aload_n O dX4_kindsOf_10 rfl ?_
  refine z_get O dX4_kindsOf_11 flX4_7 (by rfl) (by rfl) ?_
  refine z_iconst O (nI 1) dX4_kindsOf_14 (by decide) ?_
  refine z_iload_n O dX4_kindsOf_15 rfl ?_
  refine z_iaddN O dX4_kindsOf_16 ?_
  refine z_ialdN O dX4_kindsOf_17 (by rfl) (by omega) (by decide) ?_
  refine z_top (v' := .int (nI (r (108 + c)))) (congrArg Value.int (congrArg nI (h.m hc))) ?_
  refine z_if_leN O 126 dX4_kindsOf_18 (by decide) (by omega) (fun h18 => ?_) (fun h18 => by omega)
  refine z_iload_n O dX4_kindsOf_126 rfl ?_
  exact z_iret O dX4_kindsOf_127 ⟨by rw [mayN, if_pos h0], rfl⟩
theorem m_kindsOf {we r seen kept : Nat → Nat} {rd nw ud Y : Nat} (h : RS w 0 we r seen kept rd nw ud) (g : GS Y we r seen kept rd nw ud) {c : Nat} (hc : c < 9) : zS G 4 yX4_kindsOf cX4_kindsOf 7 (some .int) [.ref (zad (zb G) 21), .int (nI c)] (yM G c0_ c1_ c2_ c3_ c4_ c5_ c6_ c7_ c8_ c9_ c10_ c11_ c12_ c13_ c14_ c15_ c16_ c17_ c18_ c19_ c20_ w kp tx txl rf ya yb at2 st2 iwd ifg nb fr la nms nd wf hh tl) 0 0 (zE (.int (nI (mayN r we seen rd c))) (yM G c0_ c1_ c2_ c3_ c4_ c5_ c6_ c7_ c8_ c9_ c10_ c11_ c12_ c13_ c14_ c15_ c16_ c17_ c18_ c19_ c20_ w kp tx txl rf ya yb at2 st2 iwd ifg nb fr la nms nd wf hh tl)) := by
  rcases Nat.eq_zero_or_pos (r (108 + c)) with h0 | h0
  · exact m_kindsOf0 h g hc h0
  · exact m_kindsOfP h g hc h0
set_option maxRecDepth 20000 in
set_option maxHeartbeats 4000000 in
theorem m_mayB {c : Int32} (hb : ¬ (nI 0 ≤ c ∧ c ≤ nI 8)) : zS G 3 yX4_may cX4_may 2 (some .int) [.ref (zad (zb G) 21), .int c] (yM G c0_ c1_ c2_ c3_ c4_ c5_ c6_ c7_ c8_ c9_ c10_ c11_ c12_ c13_ c14_ c15_ c16_ c17_ c18_ c19_ c20_ w kp tx txl rf ya yb at2 st2 iwd ifg nb fr la nms nd wf hh tl) 0 0 (zE (.int (-2)) (yM G c0_ c1_ c2_ c3_ c4_ c5_ c6_ c7_ c8_ c9_ c10_ c11_ c12_ c13_ c14_ c15_ c16_ c17_ c18_ c19_ c20_ w kp tx txl (updN rf 0 (rf 0 + 1)) ya yb at2 st2 iwd ifg nb fr la nms nd wf hh tl)) := by
  refine zS.of (by decide) (Nat.le_of_ble_eq_true rfl) (fun F O hR1 hR2 => ?_)
  have O : zOk G F yX4_may cX4_may 2 (some .int) RX4 3 (yM G c0_ c1_ c2_ c3_ c4_ c5_ c6_ c7_ c8_ c9_ c10_ c11_ c12_ c13_ c14_ c15_ c16_ c17_ c18_ c19_ c20_ w kp tx txl rf ya yb at2 st2 iwd ifg nb fr la nms nd wf hh tl).length := O
  refine z_eq (lv' := [(0, _), (1, _)]) rfl rfl rfl ?_
  refine z_iload_n O dX4_may_0 rfl ?_
  refine z_S1e0 O m_isCellI mX4_isCell lkX4_49 dX4_may_1 (Nat.le_of_ble_eq_true rfl) (by decide) ?_
  refine z_if_eqB O 15 dX4_may_4 (by decide) (fun h4 => ?_) (fun h4 => by exact absurd h4 hb)
  refine z_aload_n O dX4_may_15 rfl ?_
  refine z_V0e0 O m_bad mX4_bad lkX4_65 rfl (by rfl) dX4_may_16 (Nat.le_of_ble_eq_true rfl) (by decide) ?_
  exact z_iret O dX4_may_19 ⟨rfl, rfl⟩
set_option maxRecDepth 20000 in
set_option maxHeartbeats 4000000 in
theorem m_may {we r seen kept : Nat → Nat} {rd nw ud Y : Nat} (h : RS w 0 we r seen kept rd nw ud) (g : GS Y we r seen kept rd nw ud) {c : Nat} (hc : c < 9) : zS G 5 yX4_may cX4_may 2 (some .int) [.ref (zad (zb G) 21), .int (nI c)] (yM G c0_ c1_ c2_ c3_ c4_ c5_ c6_ c7_ c8_ c9_ c10_ c11_ c12_ c13_ c14_ c15_ c16_ c17_ c18_ c19_ c20_ w kp tx txl rf ya yb at2 st2 iwd ifg nb fr la nms nd wf hh tl) 0 0 (zE (.int (nI (mayN r we seen rd c))) (yM G c0_ c1_ c2_ c3_ c4_ c5_ c6_ c7_ c8_ c9_ c10_ c11_ c12_ c13_ c14_ c15_ c16_ c17_ c18_ c19_ c20_ w kp tx txl rf ya yb at2 st2 iwd ifg nb fr la nms nd wf hh tl)) := by
  refine zS.of (by decide) (Nat.le_of_ble_eq_true rfl) (fun F O hR1 hR2 => ?_)
  have O : zOk G F yX4_may cX4_may 2 (some .int) RX4 5 (yM G c0_ c1_ c2_ c3_ c4_ c5_ c6_ c7_ c8_ c9_ c10_ c11_ c12_ c13_ c14_ c15_ c16_ c17_ c18_ c19_ c20_ w kp tx txl rf ya yb at2 st2 iwd ifg nb fr la nms nd wf hh tl).length := O
  refine z_eq (lv' := [(0, _), (1, _)]) rfl rfl rfl ?_
  refine z_iload_n O dX4_may_0 rfl ?_
  refine z_S1e0 O (m_isCellN (by omega)) mX4_isCell lkX4_49 dX4_may_1 (Nat.le_of_ble_eq_true rfl) (by decide) ?_
  refine z_if_eqB O 15 dX4_may_4 (by decide) (fun h4 => by omega) (fun h4 => ?_)
  refine z_aload_n O dX4_may_7 rfl ?_
  refine z_iload_n O dX4_may_8 rfl ?_
  refine z_V1e0 O (m_kindsOf h g hc) mX4_kindsOf lkX4_221 rfl (by rfl) dX4_may_9 (Nat.le_of_ble_eq_true rfl) (by decide) ?_
  refine z_goto O 19 dX4_may_12 (by decide) ?_
  exact z_iret O dX4_may_19 ⟨rfl, rfl⟩
set_option maxRecDepth 20000 in
set_option maxHeartbeats 4000000 in
theorem m_lookB {c : Int32} (hb : ¬ (nI 0 ≤ c ∧ c ≤ nI 8)) : zS G 3 yX4_look cX4_look 11 (some .int) [.ref (zad (zb G) 21), .int c] (yM G c0_ c1_ c2_ c3_ c4_ c5_ c6_ c7_ c8_ c9_ c10_ c11_ c12_ c13_ c14_ c15_ c16_ c17_ c18_ c19_ c20_ w kp tx txl rf ya yb at2 st2 iwd ifg nb fr la nms nd wf hh tl) 0 0 (zE (.int (-2)) (yM G c0_ c1_ c2_ c3_ c4_ c5_ c6_ c7_ c8_ c9_ c10_ c11_ c12_ c13_ c14_ c15_ c16_ c17_ c18_ c19_ c20_ w kp tx txl (updN rf 0 (rf 0 + 1)) ya yb at2 st2 iwd ifg nb fr la nms nd wf hh tl)) := by
  refine zS.of (by decide) (Nat.le_of_ble_eq_true rfl) (fun F O hR1 hR2 => ?_)
  have O : zOk G F yX4_look cX4_look 11 (some .int) RX4 3 (yM G c0_ c1_ c2_ c3_ c4_ c5_ c6_ c7_ c8_ c9_ c10_ c11_ c12_ c13_ c14_ c15_ c16_ c17_ c18_ c19_ c20_ w kp tx txl rf ya yb at2 st2 iwd ifg nb fr la nms nd wf hh tl).length := O
  refine z_eq (lv' := [(0, _), (1, _)]) rfl rfl rfl ?_
  refine z_iload_n O dX4_look_0 rfl ?_
  refine z_S1e0 O m_isCellI mX4_isCell lkX4_49 dX4_look_1 (Nat.le_of_ble_eq_true rfl) (by decide) ?_
  refine z_if_neB O 12 dX4_look_4 (by decide) (fun h4 => by exact absurd h4 hb) (fun h4 => ?_)
  refine z_aload_n O dX4_look_7 rfl ?_
  refine z_V0e0 O m_bad mX4_bad lkX4_65 rfl (by rfl) dX4_look_8 (Nat.le_of_ble_eq_true rfl) (by decide) ?_
  exact z_iret O dX4_look_11 ⟨rfl, rfl⟩
set_option maxRecDepth 20000 in
set_option maxHeartbeats 4000000 in
theorem m_look0 {we r seen kept : Nat → Nat} {rd nw ud Y : Nat} (h : RS w 0 we r seen kept rd nw ud) (g : GS Y we r seen kept rd nw ud) {c : Nat} (hc : c < 9) (hz : (mayN r we seen rd c) = 0) : zS G 5 yX4_look cX4_look 11 (some .int) [.ref (zad (zb G) 21), .int (nI c)] (yM G c0_ c1_ c2_ c3_ c4_ c5_ c6_ c7_ c8_ c9_ c10_ c11_ c12_ c13_ c14_ c15_ c16_ c17_ c18_ c19_ c20_ w kp tx txl rf ya yb at2 st2 iwd ifg nb fr la nms nd wf hh tl) 0 0 (zE (.int (optI (lookN r we seen rd c))) (yM G c0_ c1_ c2_ c3_ c4_ c5_ c6_ c7_ c8_ c9_ c10_ c11_ c12_ c13_ c14_ c15_ c16_ c17_ c18_ c19_ c20_ w kp tx txl rf ya yb at2 st2 iwd ifg nb fr la nms nd wf hh tl)) := by
  refine zS.of (by decide) (Nat.le_of_ble_eq_true rfl) (fun F O hR1 hR2 => ?_)
  have O : zOk G F yX4_look cX4_look 11 (some .int) RX4 5 (yM G c0_ c1_ c2_ c3_ c4_ c5_ c6_ c7_ c8_ c9_ c10_ c11_ c12_ c13_ c14_ c15_ c16_ c17_ c18_ c19_ c20_ w kp tx txl rf ya yb at2 st2 iwd ifg nb fr la nms nd wf hh tl).length := O
  refine z_eq (lv' := [(0, _), (1, _)]) rfl rfl rfl ?_
  refine z_iload_n O dX4_look_0 rfl ?_
  refine z_S1e0 O (m_isCellN (by omega)) mX4_isCell lkX4_49 dX4_look_1 (Nat.le_of_ble_eq_true rfl) (by decide) ?_
  refine z_if_neB O 12 dX4_look_4 (by decide) (fun h4 => ?_) (fun h4 => by omega)
  refine z_aload_n O dX4_look_12 rfl ?_
  refine z_iload_n O dX4_look_13 rfl ?_
  refine z_V1e0 O (m_kindsOf h g hc) mX4_kindsOf lkX4_221 rfl (by rfl) dX4_look_14 (Nat.le_of_ble_eq_true rfl) (by decide) ?_
  refine z_istore_n (lv' := [(0, _), (1, _), (2, _)]) O dX4_look_17 (by decide) rfl ?_
  refine z_iconst O (-1) dX4_look_18 (by decide) ?_
  refine z_istore_n (lv' := [(0, _), (1, _), (2, _), (3, _)]) O dX4_look_19 (by decide) rfl ?_
  refine z_bipush O (nI 7) dX4_look_20 (by decide) ?_
  refine z_istore (lv' := [(0, _), (1, _), (2, _), (3, _), (4, _)]) O dX4_look_22 (by decide) rfl ?_
  refine z_iconst O (nI 0) dX4_look_24 (by decide) ?_
  refine z_istore (lv' := [(0, _), (1, _), (2, _), (3, _), (4, _), (5, _)]) O dX4_look_25 (by decide) rfl ?_
  refine z_iload O dX4_look_27 rfl ?_
  refine z_bipush O (nI 20) dX4_look_29 (by decide) ?_
  refine z_icmp_gtN O 189 dX4_look_31 (by decide) (by omega) (by omega) (fun h31 => by omega) (fun h31 => ?_)
  refine z_iload_n O dX4_look_34 rfl ?_
  refine z_if_eqN O 189 dX4_look_35 (by decide) (by omega) (fun h35 => ?_) (fun h35 => by omega)
  refine z_iload_n O dX4_look_189 rfl ?_
  exact z_iret O dX4_look_190 ⟨by rw [lookN, if_pos hz]; rfl, rfl⟩
set_option maxRecDepth 20000 in
set_option maxHeartbeats 4000000 in
theorem m_lookP {we r seen kept : Nat → Nat} {rd nw ud Y : Nat} (h : RS w 0 we r seen kept rd nw ud) (g : GS Y we r seen kept rd nw ud) {c : Nat} (hc : c < 9) (hz : ¬ (mayN r we seen rd c) = 0) : zS G 5 yX4_look cX4_look 11 (some .int) [.ref (zad (zb G) 21), .int (nI c)] (yM G c0_ c1_ c2_ c3_ c4_ c5_ c6_ c7_ c8_ c9_ c10_ c11_ c12_ c13_ c14_ c15_ c16_ c17_ c18_ c19_ c20_ w kp tx txl rf ya yb at2 st2 iwd ifg nb fr la nms nd wf hh tl) 0 0 (zE (.int (optI (lookN r we seen rd c))) (yM G c0_ c1_ c2_ c3_ c4_ c5_ c6_ c7_ c8_ c9_ c10_ c11_ c12_ c13_ c14_ c15_ c16_ c17_ c18_ c19_ c20_ w kp tx txl rf ya yb at2 st2 iwd ifg nb fr la nms nd wf hh tl)) := by
  refine zS.of (by decide) (Nat.le_of_ble_eq_true rfl) (fun F O hR1 hR2 => ?_)
  have O : zOk G F yX4_look cX4_look 11 (some .int) RX4 5 (yM G c0_ c1_ c2_ c3_ c4_ c5_ c6_ c7_ c8_ c9_ c10_ c11_ c12_ c13_ c14_ c15_ c16_ c17_ c18_ c19_ c20_ w kp tx txl rf ya yb at2 st2 iwd ifg nb fr la nms nd wf hh tl).length := O
  refine z_eq (lv' := [(0, _), (1, _)]) rfl rfl rfl ?_
  have h0 := mayN_pos hz
  have hml := mayN_lt r we seen rd c
  have hfl : fld r c (r (108 + c) - 1) 2 < 1048576 := g.1.1.1 _
  refine z_iload_n O dX4_look_0 rfl ?_
  refine z_S1e0 O (m_isCellN (by omega)) mX4_isCell lkX4_49 dX4_look_1 (Nat.le_of_ble_eq_true rfl) (by decide) ?_
  refine z_if_neB O 12 dX4_look_4 (by decide) (fun h4 => ?_) (fun h4 => by omega)
  refine z_aload_n O dX4_look_12 rfl ?_
  refine z_iload_n O dX4_look_13 rfl ?_
  refine z_V1e0 O (m_kindsOf h g hc) mX4_kindsOf lkX4_221 rfl (by rfl) dX4_look_14 (Nat.le_of_ble_eq_true rfl) (by decide) ?_
  refine z_istore_n (lv' := [(0, _), (1, _), (2, _)]) O dX4_look_17 (by decide) rfl ?_
  refine z_iconst O (-1) dX4_look_18 (by decide) ?_
  refine z_istore_n (lv' := [(0, _), (1, _), (2, _), (3, _)]) O dX4_look_19 (by decide) rfl ?_
  refine z_bipush O (nI 7) dX4_look_20 (by decide) ?_
  refine z_istore (lv' := [(0, _), (1, _), (2, _), (3, _), (4, _)]) O dX4_look_22 (by decide) rfl ?_
  refine z_iconst O (nI 0) dX4_look_24 (by decide) ?_
  refine z_istore (lv' := [(0, _), (1, _), (2, _), (3, _), (4, _), (5, _)]) O dX4_look_25 (by decide) rfl ?_
  refine zdown (P := fun m => Z G F 0 0 (zEnd G F (zE (.int (optI (lookN r we seen rd c))) (yM G c0_ c1_ c2_ c3_ c4_ c5_ c6_ c7_ c8_ c9_ c10_ c11_ c12_ c13_ c14_ c15_ c16_ c17_ c18_ c19_ c20_ w kp tx txl rf ya yb at2 st2 iwd ifg nb fr la nms nd wf hh tl)) 0 0) 27 [(0, .ref (zad (zb G) 21)), (1, .int (nI c)), (2, .int (nI (mayN r we seen rd c))), (3, .int (optI (lkN (fun m => mostN r we c (mayN r we seen rd c) m 6) m).1)), (4, .int (nI (lkN (fun m => mostN r we c (mayN r we seen rd c) m 6) m).2)), (5, .int (nI m))] [] (yM G c0_ c1_ c2_ c3_ c4_ c5_ c6_ c7_ c8_ c9_ c10_ c11_ c12_ c13_ c14_ c15_ c16_ c17_ c18_ c19_ c20_ w kp tx txl rf ya yb at2 st2 iwd ifg nb fr la nms nd wf hh tl)) (21) ?_ ?_ 
  · refine z_iload O dX4_look_27 rfl ?_
    refine z_bipush O (nI 20) dX4_look_29 (by decide) ?_
    refine z_icmp_gtN O 189 dX4_look_31 (by decide) (by omega) (by omega) (fun h31 => ?_) (fun h31 => by omega)
    refine z_iload_n O dX4_look_189 rfl ?_
    exact z_iret O dX4_look_190 ⟨by rw [lookN, if_neg hz], rfl⟩
  · intro m hm ih 
    refine z_iload O dX4_look_27 rfl ?_
    refine z_bipush O (nI 20) dX4_look_29 (by decide) ?_
    refine z_icmp_gtN O 189 dX4_look_31 (by decide) (by omega) (by omega) (fun h31 => by omega) (fun h31 => ?_)
    refine z_iload_n O dX4_look_34 rfl ?_
    refine z_if_eqN O 189 dX4_look_35 (by decide) (by omega) (fun h35 => by omega) (fun h35 => ?_)
    refine z_iconst O (nI 0) dX4_look_38 (by decide) ?_
    refine z_istore (lv' := [(0, _), (1, _), (2, _), (3, _), (4, _), (5, _), (6, _)]) O dX4_look_39 (by decide) rfl ?_
    refine z_iconst O (nI 0) dX4_look_41 (by decide) ?_
    refine z_istore (lv' := [(0, _), (1, _), (2, _), (3, _), (4, _), (5, _), (6, _), (7, _)]) O dX4_look_42 (by decide) rfl ?_
    refine zdown (P := fun k => Z G F 0 0 (zEnd G F (zE (.int (optI (lookN r we seen rd c))) (yM G c0_ c1_ c2_ c3_ c4_ c5_ c6_ c7_ c8_ c9_ c10_ c11_ c12_ c13_ c14_ c15_ c16_ c17_ c18_ c19_ c20_ w kp tx txl rf ya yb at2 st2 iwd ifg nb fr la nms nd wf hh tl)) 0 0) 44 [(0, .ref (zad (zb G) 21)), (1, .int (nI c)), (2, .int (nI (mayN r we seen rd c))), (3, .int (optI (lkN (fun m => mostN r we c (mayN r we seen rd c) m 6) m).1)), (4, .int (nI (lkN (fun m => mostN r we c (mayN r we seen rd c) m 6) m).2)), (5, .int (nI m)), (6, .int (nI (mostN r we c (mayN r we seen rd c) m k))), (7, .int (nI k))] [] (yM G c0_ c1_ c2_ c3_ c4_ c5_ c6_ c7_ c8_ c9_ c10_ c11_ c12_ c13_ c14_ c15_ c16_ c17_ c18_ c19_ c20_ w kp tx txl rf ya yb at2 st2 iwd ifg nb fr la nms nd wf hh tl)) (6) ?_ ?_ 
    · refine z_iload O dX4_look_44 rfl ?_
      refine z_bipush O (nI 6) dX4_look_46 (by decide) ?_
      refine z_icmp_geN O 153 dX4_look_48 (by decide) (by omega) (by omega) (fun h48 => ?_) (fun h48 => by omega)
      have hmo := mostN_le r we c (mayN r we seen rd c) m 6
      have hlk := lkN_le (fun m => mostN r we c (mayN r we seen rd c) m 6) (fun m => mostN_le r we c (mayN r we seen rd c) m 6) m
      by_cases hls : (mostN r we c (mayN r we seen rd c) m 6) < (lkN (fun m => mostN r we c (mayN r we seen rd c) m 6) m).2
      · refine z_iload O dX4_look_153 rfl ?_
        refine z_iload O dX4_look_155 rfl ?_
        refine z_icmp_geN O 165 dX4_look_157 (by decide) (by omega) (by omega) (fun h157 => by omega) (fun h157 => ?_)
        refine z_iload O dX4_look_160 rfl ?_
        refine z_goto O 166 dX4_look_162 (by decide) ?_
        refine z_istore_n (lv' := [(0, _), (1, _), (2, _), (3, _), (4, _), (5, _), (6, _), (7, _)]) O dX4_look_166 (by decide) rfl ?_
        refine z_iload O dX4_look_167 rfl ?_
        refine z_iload O dX4_look_169 rfl ?_
        refine z_icmp_geN O 179 dX4_look_171 (by decide) (by omega) (by omega) (fun h171 => by omega) (fun h171 => ?_)
        refine z_iload O dX4_look_174 rfl ?_
        refine z_goto O 181 dX4_look_176 (by decide) ?_
        refine z_istore (lv' := [(0, _), (1, _), (2, _), (3, _), (4, _), (5, _), (6, _), (7, _)]) O dX4_look_181 (by decide) rfl ?_
        refine z_iincN (lv' := [(0, _), (1, _), (2, _), (3, _), (4, _), (5, _), (6, _), (7, _)]) O 1 dX4_look_183 (by decide) rfl rfl (by decide) ?_
        refine z_goto O 27 dX4_look_186 (by decide) ?_
        refine z_kp (lv' := [(0, _), (1, _), (2, _), (3, _), (4, _), (5, _)]) [0, 1, 2, 3, 4, 5] rfl ?_
        rw [show lkN (fun m => mostN r we c (mayN r we seen rd c) m 6) (m + 1) = (some m, (mostN r we c (mayN r we seen rd c) m 6)) from if_pos hls] at ih
        exact ih
      · refine z_iload O dX4_look_153 rfl ?_
        refine z_iload O dX4_look_155 rfl ?_
        refine z_icmp_geN O 165 dX4_look_157 (by decide) (by omega) (by omega) (fun h157 => ?_) (fun h157 => by omega)
        refine z_iload_n O dX4_look_165 rfl ?_
        refine z_istore_n (lv' := [(0, _), (1, _), (2, _), (3, _), (4, _), (5, _), (6, _), (7, _)]) O dX4_look_166 (by decide) rfl ?_
        refine z_iload O dX4_look_167 rfl ?_
        refine z_iload O dX4_look_169 rfl ?_
        refine z_icmp_geN O 179 dX4_look_171 (by decide) (by omega) (by omega) (fun h171 => ?_) (fun h171 => by omega)
        refine z_iload O dX4_look_179 rfl ?_
        refine z_istore (lv' := [(0, _), (1, _), (2, _), (3, _), (4, _), (5, _), (6, _), (7, _)]) O dX4_look_181 (by decide) rfl ?_
        refine z_iincN (lv' := [(0, _), (1, _), (2, _), (3, _), (4, _), (5, _), (6, _), (7, _)]) O 1 dX4_look_183 (by decide) rfl rfl (by decide) ?_
        refine z_goto O 27 dX4_look_186 (by decide) ?_
        refine z_kp (lv' := [(0, _), (1, _), (2, _), (3, _), (4, _), (5, _)]) [0, 1, 2, 3, 4, 5] rfl ?_
        rw [show lkN (fun m => mostN r we c (mayN r we seen rd c) m 6) (m + 1) = (lkN (fun m => mostN r we c (mayN r we seen rd c) m 6) m) from if_neg hls] at ih
        exact ih
    · intro k hk ih 
      refine z_iload O dX4_look_44 rfl ?_
      refine z_bipush O (nI 6) dX4_look_46 (by decide) ?_
      refine z_icmp_geN O 153 dX4_look_48 (by decide) (by omega) (by omega) (fun h48 => by omega) (fun h48 => ?_)
      refine z_iconst O (nI 0) dX4_look_51 (by decide) ?_
      refine z_istore (lv' := [(0, _), (1, _), (2, _), (3, _), (4, _), (5, _), (6, _), (7, _), (8, _)]) O dX4_look_52 (by decide) rfl ?_
      refine z_iconst O (nI 0) dX4_look_54 (by decide) ?_
      refine z_istore (lv' := [(0, _), (1, _), (2, _), (3, _), (4, _), (5, _), (6, _), (7, _), (8, _), (9, _)]) O dX4_look_55 (by decide) rfl ?_
      refine z_eq (lv' := [(0, _), (1, _), (2, _), (3, _), (4, _), (5, _), (6, _), (7, _), (8, .int (nI (if bitN (mayN r we seen rd c) k = 1 then sameN r we c (mayN r we seen rd c) m k 0 else 0))), (9, _)]) (by rw [show (if bitN (mayN r we seen rd c) k = 1 then sameN r we c (mayN r we seen rd c) m k 0 else 0) = 0 by split <;> rfl]) rfl rfl ?_
      refine zdown (P := fun j => Z G F 0 0 (zEnd G F (zE (.int (optI (lookN r we seen rd c))) (yM G c0_ c1_ c2_ c3_ c4_ c5_ c6_ c7_ c8_ c9_ c10_ c11_ c12_ c13_ c14_ c15_ c16_ c17_ c18_ c19_ c20_ w kp tx txl rf ya yb at2 st2 iwd ifg nb fr la nms nd wf hh tl)) 0 0) 57 [(0, .ref (zad (zb G) 21)), (1, .int (nI c)), (2, .int (nI (mayN r we seen rd c))), (3, .int (optI (lkN (fun m => mostN r we c (mayN r we seen rd c) m 6) m).1)), (4, .int (nI (lkN (fun m => mostN r we c (mayN r we seen rd c) m 6) m).2)), (5, .int (nI m)), (6, .int (nI (mostN r we c (mayN r we seen rd c) m k))), (7, .int (nI k)), (8, .int (nI (if bitN (mayN r we seen rd c) k = 1 then sameN r we c (mayN r we seen rd c) m k j else 0))), (9, .int (nI j))] [] (yM G c0_ c1_ c2_ c3_ c4_ c5_ c6_ c7_ c8_ c9_ c10_ c11_ c12_ c13_ c14_ c15_ c16_ c17_ c18_ c19_ c20_ w kp tx txl rf ya yb at2 st2 iwd ifg nb fr la nms nd wf hh tl)) (6) ?_ ?_ 
      · refine z_iload O dX4_look_57 rfl ?_
        refine z_bipush O (nI 6) dX4_look_59 (by decide) ?_
        refine z_icmp_geN O 131 dX4_look_61 (by decide) (by omega) (by omega) (fun h61 => ?_) (fun h61 => by omega)
        have hsm : (if bitN (mayN r we seen rd c) k = 1 then sameN r we c (mayN r we seen rd c) m k 6 else 0) ≤ 6 := by have := sameN_le r we c (mayN r we seen rd c) m k 6; split <;> omega
        have hmo := mostN_le r we c (mayN r we seen rd c) m k
        have hmk : mostN r we c (mayN r we seen rd c) m (k + 1) = max (mostN r we c (mayN r we seen rd c) m k) (if bitN (mayN r we seen rd c) k = 1 then sameN r we c (mayN r we seen rd c) m k 6 else 0) := by
          rw [show mostN r we c (mayN r we seen rd c) m (k + 1) = if bitN (mayN r we seen rd c) k = 0 then (mostN r we c (mayN r we seen rd c) m k) else max (mostN r we c (mayN r we seen rd c) m k) (sameN r we c (mayN r we seen rd c) m k 6) from rfl]
          have hbl := bit_lt (mayN r we seen rd c) k
          by_cases hb0 : bitN (mayN r we seen rd c) k = 0
          · rw [if_pos hb0, if_neg (by omega)]; omega
          · rw [if_neg hb0, if_pos (by omega)]
        by_cases hgt : (mostN r we c (mayN r we seen rd c) m k) < (if bitN (mayN r we seen rd c) k = 1 then sameN r we c (mayN r we seen rd c) m k 6 else 0)
        · refine z_iload O dX4_look_131 rfl ?_
          refine z_iload O dX4_look_133 rfl ?_
          refine z_icmp_leN O 143 dX4_look_135 (by decide) (by omega) (by omega) (fun h135 => by omega) (fun h135 => ?_)
          refine z_iload O dX4_look_138 rfl ?_
          refine z_goto O 145 dX4_look_140 (by decide) ?_
          refine z_istore (lv' := [(0, _), (1, _), (2, _), (3, _), (4, _), (5, _), (6, _), (7, _), (8, _), (9, _)]) O dX4_look_145 (by decide) rfl ?_
          refine z_iincN (lv' := [(0, _), (1, _), (2, _), (3, _), (4, _), (5, _), (6, _), (7, _), (8, _), (9, _)]) O 1 dX4_look_147 (by decide) rfl rfl (by decide) ?_
          refine z_goto O 44 dX4_look_150 (by decide) ?_
          refine z_kp (lv' := [(0, _), (1, _), (2, _), (3, _), (4, _), (5, _), (6, _), (7, _)]) [0, 1, 2, 3, 4, 5, 6, 7] rfl ?_
          rw [show (mostN r we c (mayN r we seen rd c) m (k + 1)) = (if bitN (mayN r we seen rd c) k = 1 then sameN r we c (mayN r we seen rd c) m k 6 else 0) by rw [hmk]; omega] at ih
          exact ih
        · refine z_iload O dX4_look_131 rfl ?_
          refine z_iload O dX4_look_133 rfl ?_
          refine z_icmp_leN O 143 dX4_look_135 (by decide) (by omega) (by omega) (fun h135 => ?_) (fun h135 => by omega)
          refine z_iload O dX4_look_143 rfl ?_
          refine z_istore (lv' := [(0, _), (1, _), (2, _), (3, _), (4, _), (5, _), (6, _), (7, _), (8, _), (9, _)]) O dX4_look_145 (by decide) rfl ?_
          refine z_iincN (lv' := [(0, _), (1, _), (2, _), (3, _), (4, _), (5, _), (6, _), (7, _), (8, _), (9, _)]) O 1 dX4_look_147 (by decide) rfl rfl (by decide) ?_
          refine z_goto O 44 dX4_look_150 (by decide) ?_
          refine z_kp (lv' := [(0, _), (1, _), (2, _), (3, _), (4, _), (5, _), (6, _), (7, _)]) [0, 1, 2, 3, 4, 5, 6, 7] rfl ?_
          rw [show (mostN r we c (mayN r we seen rd c) m (k + 1)) = (mostN r we c (mayN r we seen rd c) m k) by rw [hmk]; omega] at ih
          exact ih
      · intro j hj ih 
        refine z_iload O dX4_look_57 rfl ?_
        refine z_bipush O (nI 6) dX4_look_59 (by decide) ?_
        refine z_icmp_geN O 131 dX4_look_61 (by decide) (by omega) (by omega) (fun h61 => by omega) (fun h61 => ?_)
        by_cases hb1 : bitN (mayN r we seen rd c) k = 1
        · refine z_iload_n O dX4_look_64 rfl ?_
          refine z_iload O dX4_look_65 rfl ?_
          refine z_S2e0 O (m_has (by omega) (by omega)) mX4_has lkX4_224 dX4_look_67 (Nat.le_of_ble_eq_true rfl) (by decide) ?_
          refine z_if_eqB O 86 dX4_look_70 (by decide) (fun h70 => by exact absurd hb1 h70) (fun h70 => ?_)
          by_cases hb2 : bitN (mayN r we seen rd c) j = 1
          · refine z_iload_n O dX4_look_73 rfl ?_
            refine z_iload O dX4_look_74 rfl ?_
            refine z_S2e0 O (m_has (by omega) (by omega)) mX4_has lkX4_224 dX4_look_76 (Nat.le_of_ble_eq_true rfl) (by decide) ?_
            refine z_if_eqB O 86 dX4_look_79 (by decide) (fun h79 => by exact absurd hb2 h79) (fun h79 => ?_)
            refine z_iconst O (nI 1) dX4_look_82 (by decide) ?_
            refine z_goto O 87 dX4_look_83 (by decide) ?_
            refine z_istore (lv' := [(0, _), (1, _), (2, _), (3, _), (4, _), (5, _), (6, _), (7, _), (8, _), (9, _), (10, _)]) O dX4_look_87 (by decide) rfl ?_
            refine z_iload O dX4_look_89 rfl ?_
            refine z_iload O dX4_look_91 rfl ?_
            refine z_if_eqN O 121 dX4_look_93 (by decide) (by omega) (fun h93 => by omega) (fun h93 => ?_)
            refine z_aload_n O dX4_look_96 rfl ?_
            refine z_iload_n O dX4_look_97 rfl ?_
            refine z_iload O dX4_look_98 rfl ?_
            refine z_iload O dX4_look_100 rfl ?_
            refine z_V3e0 O (m_leftOf h.1 g.1.1 g.2.1 hc h0 (by omega) (by omega)) mX4_leftOf lkX4_218 rfl (by rfl) dX4_look_102 (Nat.le_of_ble_eq_true rfl) (by decide) ?_
            refine z_aload_n O dX4_look_105 rfl ?_
            refine z_iload_n O dX4_look_106 rfl ?_
            refine z_iload O dX4_look_107 rfl ?_
            refine z_iload O dX4_look_109 rfl ?_
            refine z_V3e0 O (m_leftOf h.1 g.1.1 g.2.1 hc h0 (by omega) (by omega)) mX4_leftOf lkX4_218 rfl (by rfl) dX4_look_111 (Nat.le_of_ble_eq_true rfl) (by decide) ?_
            by_cases he : lftC r we c k m = lftC r we c j m
            · refine z_icmp_neN O 121 dX4_look_114 (by decide) (by first | (have := lftC_le r we c k m; omega) | (have := lftC_le r we c j m; omega)) (by first | (have := lftC_le r we c k m; omega) | (have := lftC_le r we c j m; omega)) (fun h114 => by omega) (fun h114 => ?_)
              refine z_iconst O (nI 1) dX4_look_117 (by decide) ?_
              refine z_goto O 122 dX4_look_118 (by decide) ?_
              refine z_iaddN O dX4_look_122 ?_
              refine z_istore (lv' := [(0, _), (1, _), (2, _), (3, _), (4, _), (5, _), (6, _), (7, _), (8, _), (9, _), (10, _)]) O dX4_look_123 (by decide) rfl ?_
              refine z_iincN (lv' := [(0, _), (1, _), (2, _), (3, _), (4, _), (5, _), (6, _), (7, _), (8, _), (9, _), (10, _)]) O 1 dX4_look_125 (by decide) rfl rfl (by decide) ?_
              refine z_goto O 57 dX4_look_128 (by decide) ?_
              refine z_kp (lv' := [(0, _), (1, _), (2, _), (3, _), (4, _), (5, _), (6, _), (7, _), (8, _), (9, _)]) [0, 1, 2, 3, 4, 5, 6, 7, 8, 9] rfl ?_
              rw [show (if bitN (mayN r we seen rd c) k = 1 then sameN r we c (mayN r we seen rd c) m k (j + 1) else 0) = (if bitN (mayN r we seen rd c) k = 1 then sameN r we c (mayN r we seen rd c) m k j else 0) + 1 by rw [if_pos hb1, if_pos hb1]; exact if_pos ⟨hb2, he.symm⟩] at ih
              exact ih
            · refine z_icmp_neN O 121 dX4_look_114 (by decide) (by first | (have := lftC_le r we c k m; omega) | (have := lftC_le r we c j m; omega)) (by first | (have := lftC_le r we c k m; omega) | (have := lftC_le r we c j m; omega)) (fun h114 => ?_) (fun h114 => by omega)
              refine z_iconst O (nI 0) dX4_look_121 (by decide) ?_
              refine z_iaddN O dX4_look_122 ?_
              refine z_istore (lv' := [(0, _), (1, _), (2, _), (3, _), (4, _), (5, _), (6, _), (7, _), (8, _), (9, _), (10, _)]) O dX4_look_123 (by decide) rfl ?_
              refine z_iincN (lv' := [(0, _), (1, _), (2, _), (3, _), (4, _), (5, _), (6, _), (7, _), (8, _), (9, _), (10, _)]) O 1 dX4_look_125 (by decide) rfl rfl (by decide) ?_
              refine z_goto O 57 dX4_look_128 (by decide) ?_
              refine z_kp (lv' := [(0, _), (1, _), (2, _), (3, _), (4, _), (5, _), (6, _), (7, _), (8, _), (9, _)]) [0, 1, 2, 3, 4, 5, 6, 7, 8, 9] rfl ?_
              rw [show (if bitN (mayN r we seen rd c) k = 1 then sameN r we c (mayN r we seen rd c) m k (j + 1) else 0) = (if bitN (mayN r we seen rd c) k = 1 then sameN r we c (mayN r we seen rd c) m k j else 0) + 0 by rw [if_pos hb1, if_pos hb1]; exact if_neg (fun q => he q.2.symm)] at ih
              exact ih
          · refine z_iload_n O dX4_look_73 rfl ?_
            refine z_iload O dX4_look_74 rfl ?_
            refine z_S2e0 O (m_has (by omega) (by omega)) mX4_has lkX4_224 dX4_look_76 (Nat.le_of_ble_eq_true rfl) (by decide) ?_
            refine z_if_eqB O 86 dX4_look_79 (by decide) (fun h79 => ?_) (fun h79 => by exact absurd h79 hb2)
            refine z_iconst O (nI 0) dX4_look_86 (by decide) ?_
            refine z_istore (lv' := [(0, _), (1, _), (2, _), (3, _), (4, _), (5, _), (6, _), (7, _), (8, _), (9, _), (10, _)]) O dX4_look_87 (by decide) rfl ?_
            refine z_iload O dX4_look_89 rfl ?_
            refine z_iload O dX4_look_91 rfl ?_
            refine z_if_eqN O 121 dX4_look_93 (by decide) (by omega) (fun h93 => ?_) (fun h93 => by omega)
            refine z_iconst O (nI 0) dX4_look_121 (by decide) ?_
            refine z_iaddN O dX4_look_122 ?_
            refine z_istore (lv' := [(0, _), (1, _), (2, _), (3, _), (4, _), (5, _), (6, _), (7, _), (8, _), (9, _), (10, _)]) O dX4_look_123 (by decide) rfl ?_
            refine z_iincN (lv' := [(0, _), (1, _), (2, _), (3, _), (4, _), (5, _), (6, _), (7, _), (8, _), (9, _), (10, _)]) O 1 dX4_look_125 (by decide) rfl rfl (by decide) ?_
            refine z_goto O 57 dX4_look_128 (by decide) ?_
            refine z_kp (lv' := [(0, _), (1, _), (2, _), (3, _), (4, _), (5, _), (6, _), (7, _), (8, _), (9, _)]) [0, 1, 2, 3, 4, 5, 6, 7, 8, 9] rfl ?_
            rw [show (if bitN (mayN r we seen rd c) k = 1 then sameN r we c (mayN r we seen rd c) m k (j + 1) else 0) = (if bitN (mayN r we seen rd c) k = 1 then sameN r we c (mayN r we seen rd c) m k j else 0) + 0 by rw [if_pos hb1, if_pos hb1]; exact if_neg (fun q => hb2 q.1)] at ih
            exact ih
        · refine z_iload_n O dX4_look_64 rfl ?_
          refine z_iload O dX4_look_65 rfl ?_
          refine z_S2e0 O (m_has (by omega) (by omega)) mX4_has lkX4_224 dX4_look_67 (Nat.le_of_ble_eq_true rfl) (by decide) ?_
          refine z_if_eqB O 86 dX4_look_70 (by decide) (fun h70 => ?_) (fun h70 => by exact absurd h70 hb1)
          refine z_iconst O (nI 0) dX4_look_86 (by decide) ?_
          refine z_istore (lv' := [(0, _), (1, _), (2, _), (3, _), (4, _), (5, _), (6, _), (7, _), (8, _), (9, _), (10, _)]) O dX4_look_87 (by decide) rfl ?_
          refine z_iload O dX4_look_89 rfl ?_
          refine z_iload O dX4_look_91 rfl ?_
          refine z_if_eqN O 121 dX4_look_93 (by decide) (by omega) (fun h93 => ?_) (fun h93 => by omega)
          refine z_iconst O (nI 0) dX4_look_121 (by decide) ?_
          refine z_iaddN O dX4_look_122 ?_
          refine z_istore (lv' := [(0, _), (1, _), (2, _), (3, _), (4, _), (5, _), (6, _), (7, _), (8, _), (9, _), (10, _)]) O dX4_look_123 (by decide) rfl ?_
          refine z_iincN (lv' := [(0, _), (1, _), (2, _), (3, _), (4, _), (5, _), (6, _), (7, _), (8, _), (9, _), (10, _)]) O 1 dX4_look_125 (by decide) rfl rfl (by decide) ?_
          refine z_goto O 57 dX4_look_128 (by decide) ?_
          refine z_kp (lv' := [(0, _), (1, _), (2, _), (3, _), (4, _), (5, _), (6, _), (7, _), (8, _), (9, _)]) [0, 1, 2, 3, 4, 5, 6, 7, 8, 9] rfl ?_
          rw [show (if bitN (mayN r we seen rd c) k = 1 then sameN r we c (mayN r we seen rd c) m k (j + 1) else 0) = (if bitN (mayN r we seen rd c) k = 1 then sameN r we c (mayN r we seen rd c) m k j else 0) + 0 by rw [if_neg hb1, if_neg hb1]] at ih
          exact ih
theorem m_look {we r seen kept : Nat → Nat} {rd nw ud Y : Nat} (h : RS w 0 we r seen kept rd nw ud) (g : GS Y we r seen kept rd nw ud) {c : Nat} (hc : c < 9) : zS G 5 yX4_look cX4_look 11 (some .int) [.ref (zad (zb G) 21), .int (nI c)] (yM G c0_ c1_ c2_ c3_ c4_ c5_ c6_ c7_ c8_ c9_ c10_ c11_ c12_ c13_ c14_ c15_ c16_ c17_ c18_ c19_ c20_ w kp tx txl rf ya yb at2 st2 iwd ifg nb fr la nms nd wf hh tl) 0 0 (zE (.int (optI (lookN r we seen rd c))) (yM G c0_ c1_ c2_ c3_ c4_ c5_ c6_ c7_ c8_ c9_ c10_ c11_ c12_ c13_ c14_ c15_ c16_ c17_ c18_ c19_ c20_ w kp tx txl rf ya yb at2 st2 iwd ifg nb fr la nms nd wf hh tl)) := by
  by_cases hz : (mayN r we seen rd c) = 0
  · exact m_look0 h g hc hz
  · exact m_lookP h g hc hz
set_option maxRecDepth 20000 in
set_option maxHeartbeats 4000000 in
theorem m_bestB {n kd f : Int32} (hb : ¬ ((nI 1 ≤ n ∧ n ≤ nI 30) ∧ (nI 0 ≤ kd ∧ kd ≤ nI 5) ∧ (nI 0 ≤ f ∧ f ≤ nI 1))) : zS G 3 yX4_best cX4_best 8 (some .int) [.ref (zad (zb G) 21), .int n, .int kd, .int f] (yM G c0_ c1_ c2_ c3_ c4_ c5_ c6_ c7_ c8_ c9_ c10_ c11_ c12_ c13_ c14_ c15_ c16_ c17_ c18_ c19_ c20_ w kp tx txl rf ya yb at2 st2 iwd ifg nb fr la nms nd wf hh tl) 0 0 (zE (.int (-2)) (yM G c0_ c1_ c2_ c3_ c4_ c5_ c6_ c7_ c8_ c9_ c10_ c11_ c12_ c13_ c14_ c15_ c16_ c17_ c18_ c19_ c20_ w kp tx txl (updN rf 0 (rf 0 + 1)) ya yb at2 st2 iwd ifg nb fr la nms nd wf hh tl)) := by
  refine zS.of (by decide) (Nat.le_of_ble_eq_true rfl) (fun F O hR1 hR2 => ?_)
  have O : zOk G F yX4_best cX4_best 8 (some .int) RX4 3 (yM G c0_ c1_ c2_ c3_ c4_ c5_ c6_ c7_ c8_ c9_ c10_ c11_ c12_ c13_ c14_ c15_ c16_ c17_ c18_ c19_ c20_ w kp tx txl rf ya yb at2 st2 iwd ifg nb fr la nms nd wf hh tl).length := O
  refine z_eq (lv' := [(0, _), (1, _), (2, _), (3, _)]) rfl rfl rfl ?_
  refine z_iload_n O dX4_best_0 rfl ?_
  refine z_iconst O (nI 1) dX4_best_1 (by decide) ?_
  refine z_iload_n O dX4_best_2 rfl ?_
  refine z_iload_n O dX4_best_3 rfl ?_
  refine z_S4e0 O (m_isThreadI (by decide)) mX4_isThread lkX4_212 dX4_best_4 (Nat.le_of_ble_eq_true rfl) (by decide) ?_
  refine z_if_eqB O 15 dX4_best_7 (by decide) (fun h7 => ?_) (fun h7 => ?_)
  · refine z_aload_n O dX4_best_15 rfl ?_
    refine z_V0e0 O m_bad mX4_bad lkX4_65 rfl (by rfl) dX4_best_16 (Nat.le_of_ble_eq_true rfl) (by decide) ?_
    exact z_iret O dX4_best_19 ⟨rfl, rfl⟩
  · refine z_iload_n O dX4_best_10 rfl ?_
    refine z_iconst O (nI 2) dX4_best_11 (by decide) ?_
    refine z_icmp_ne O 20 dX4_best_12 (by decide) (fun h12 => ?_) (fun h12 => ?_)
    · exact absurd ⟨h7.1, h7.2.1, h7.2.2.1, le2_ne h7.2.2.2 h12⟩ hb --stop
    · refine z_aload_n O dX4_best_15 rfl ?_
      refine z_V0e0 O m_bad mX4_bad lkX4_65 rfl (by rfl) dX4_best_16 (Nat.le_of_ble_eq_true rfl) (by decide) ?_
      exact z_iret O dX4_best_19 ⟨rfl, rfl⟩
set_option maxRecDepth 20000 in
set_option maxHeartbeats 4000000 in
theorem m_best {we r seen kept : Nat → Nat} {rd nw ud Y : Nat} (h : RS w 0 we r seen kept rd nw ud) (g : GS Y we r seen kept rd nw ud) {n kd f : Nat} (h1 : 1 ≤ n) (h2 : n ≤ 30) (h3 : kd < 6) (h4 : f ≤ 1) : zS G 4 yX4_best cX4_best 8 (some .int) [.ref (zad (zb G) 21), .int (nI n), .int (nI kd), .int (nI f)] (yM G c0_ c1_ c2_ c3_ c4_ c5_ c6_ c7_ c8_ c9_ c10_ c11_ c12_ c13_ c14_ c15_ c16_ c17_ c18_ c19_ c20_ w kp tx txl rf ya yb at2 st2 iwd ifg nb fr la nms nd wf hh tl) 0 0 (zP (fun v M' => v = .int (if f = 0 then optI (bsN r we n kd 9).1 else optI (bsN r we n kd 9).2) ∧ ∃ w' : Nat → Nat, smW w w' ∧ M' = (yM G c0_ c1_ c2_ c3_ c4_ c5_ c6_ c7_ c8_ c9_ c10_ c11_ c12_ c13_ c14_ c15_ c16_ c17_ c18_ c19_ c20_ w' kp tx txl rf ya yb at2 st2 iwd ifg nb fr la nms nd wf hh tl))) := by
  refine zS.of (by decide) (Nat.le_of_ble_eq_true rfl) (fun F O hR1 hR2 => ?_)
  have O : zOk G F yX4_best cX4_best 8 (some .int) RX4 4 (yM G c0_ c1_ c2_ c3_ c4_ c5_ c6_ c7_ c8_ c9_ c10_ c11_ c12_ c13_ c14_ c15_ c16_ c17_ c18_ c19_ c20_ w kp tx txl rf ya yb at2 st2 iwd ifg nb fr la nms nd wf hh tl).length := O
  refine z_eq (lv' := [(0, _), (1, _), (2, _), (3, _)]) rfl rfl rfl ?_
  refine z_iload_n O dX4_best_0 rfl ?_
  refine z_iconst O (nI 1) dX4_best_1 (by decide) ?_
  refine z_iload_n O dX4_best_2 rfl ?_
  refine z_iload_n O dX4_best_3 rfl ?_
  refine z_S4e0 O (m_isThreadN (by decide) (by omega) (by omega) (by omega)) mX4_isThread lkX4_212 dX4_best_4 (Nat.le_of_ble_eq_true rfl) (by decide) ?_
  refine z_if_eqB O 15 dX4_best_7 (by decide) (fun h7 => by omega) (fun h7 => ?_)
  refine z_iload_n O dX4_best_10 rfl ?_
  refine z_iconst O (nI 2) dX4_best_11 (by decide) ?_
  refine z_icmp_neN O 20 dX4_best_12 (by decide) (by omega) (by omega) (fun h12 => ?_) (fun h12 => by omega)
  refine z_iconst O (-1) dX4_best_20 (by decide) ?_
  refine z_istore (lv' := [(0, _), (1, _), (2, _), (3, _), (4, _)]) O dX4_best_21 (by decide) rfl ?_
  refine z_iconst O (-1) dX4_best_23 (by decide) ?_
  refine z_istore (lv' := [(0, _), (1, _), (2, _), (3, _), (4, _), (5, _)]) O dX4_best_24 (by decide) rfl ?_
  refine z_iconst O (nI 0) dX4_best_26 (by decide) ?_
  refine z_istore (lv' := [(0, _), (1, _), (2, _), (3, _), (4, _), (5, _), (6, _)]) O dX4_best_27 (by decide) rfl ?_
  refine zdown (P := fun c => ∀ w' : Nat → Nat, smW w w' → Z G F 0 0 (zEnd G F (zP (fun v M' => v = .int (if f = 0 then optI (bsN r we n kd 9).1 else optI (bsN r we n kd 9).2) ∧ ∃ w' : Nat → Nat, smW w w' ∧ M' = (yM G c0_ c1_ c2_ c3_ c4_ c5_ c6_ c7_ c8_ c9_ c10_ c11_ c12_ c13_ c14_ c15_ c16_ c17_ c18_ c19_ c20_ w' kp tx txl rf ya yb at2 st2 iwd ifg nb fr la nms nd wf hh tl))) 0 0) 29 [(0, .ref (zad (zb G) 21)), (1, .int (nI n)), (2, .int (nI kd)), (3, .int (nI f)), (4, .int (optI (bsN r we n kd c).1)), (5, .int (optI (bsN r we n kd c).2)), (6, .int (nI c))] [] (yM G c0_ c1_ c2_ c3_ c4_ c5_ c6_ c7_ c8_ c9_ c10_ c11_ c12_ c13_ c14_ c15_ c16_ c17_ c18_ c19_ c20_ w' kp tx txl rf ya yb at2 st2 iwd ifg nb fr la nms nd wf hh tl)) (9) ?_ ?_ w (fun _ _ => rfl)
  · intro w' ho
    refine z_iload O dX4_best_29 rfl ?_
    refine z_bipush O (nI 9) dX4_best_31 (by decide) ?_
    refine z_icmp_geN O 109 dX4_best_33 (by decide) (by omega) (by omega) (fun h33 => ?_) (fun h33 => by omega)
    refine z_iload_n O dX4_best_109 rfl ?_
    refine z_if_neN O 118 dX4_best_110 (by decide) (by omega) (fun h110 => ?_) (fun h110 => ?_)
    · refine z_iload O dX4_best_118 rfl ?_
      exact z_iret O dX4_best_120 (by first | exact ⟨_, rfl, by rw [if_pos (by assumption)], w', ho, rfl⟩ | exact ⟨_, rfl, by rw [if_neg (by assumption)], w', ho, rfl⟩)
    · refine z_iload O dX4_best_113 rfl ?_
      refine z_goto O 120 dX4_best_115 (by decide) ?_
      exact z_iret O dX4_best_120 (by first | exact ⟨_, rfl, by rw [if_pos (by assumption)], w', ho, rfl⟩ | exact ⟨_, rfl, by rw [if_neg (by assumption)], w', ho, rfl⟩)
  · intro c hc ih w' ho
    refine z_iload O dX4_best_29 rfl ?_
    refine z_bipush O (nI 9) dX4_best_31 (by decide) ?_
    refine z_icmp_geN O 109 dX4_best_33 (by decide) (by omega) (by omega) (fun h33 => by omega) (fun h33 => ?_)
    refine z_aload_n O dX4_best_36 rfl ?_
    refine z_get O dX4_best_37 flX4_7 (by rfl) (by rfl) ?_
    refine z_iconst O (nI 1) dX4_best_40 (by decide) ?_
    refine z_iload O dX4_best_41 rfl ?_
    refine z_iaddN O dX4_best_43 ?_
    refine z_ialdN O dX4_best_44 (by rfl) (by omega) (by decide) ?_
    refine z_top (v' := .int (nI (r (108 + c)))) (congrArg Value.int (congrArg nI ((ho (1 + c) (by omega)).trans (h.m hc)))) ?_
    by_cases hro : r (108 + c) < 3
    · refine z_iconst O (nI 3) dX4_best_45 (by decide) ?_
      refine z_icmp_geN O 103 dX4_best_46 (by decide) (by have := g.1.1.2 c hc; omega) (by have := g.1.1.2 c hc; omega) (fun h46 => by omega) (fun h46 => ?_)
      refine z_aload_n O dX4_best_49 rfl ?_
      refine z_V0u0 O m_tries mX4_tries lkX4_184 rfl (by rfl) dX4_best_50 (Nat.le_of_ble_eq_true rfl) (by decide) ?_
      have hrt := RW_copy (n := 147) (d := 3273) (h.1.kept g.1.1 (fun j _ hj => ho j (by omega))) g.1.1 (by decide)
      refine z_aload_n O dX4_best_53 rfl ?_
      refine z_sipush O (nI 3273) dX4_best_54 (by decide) ?_
      refine z_iload O dX4_best_57 rfl ?_
      refine z_iload_n O dX4_best_59 rfl ?_
      refine z_iconst O (nI 0) dX4_best_60 (by decide) ?_
      refine z_iload_n O dX4_best_61 rfl ?_
      refine z_V5u0 O (m_puts hrt g.1.1 (by decide) hc hro) mX4_puts lkX4_87 rfl (by rfl) dX4_best_62 (Nat.le_of_ble_eq_true rfl) (by decide) ?_
      refine z_aload_n O dX4_best_65 rfl ?_
      refine z_V0e0 O (m_wholeTried (RW_put hrt g.1.1 hc hro) (rowOK_put g.1.1 hc hro (by omega) (by decide) (by omega)) g.w) mX4_wholeTried lkX4_209 rfl (by rfl) dX4_best_66 (Nat.le_of_ble_eq_true rfl) (by decide) ?_
      rw [lastB_eq g.1.1 hc hro (by omega)]
      refine z_istore (lv' := [(0, _), (1, _), (2, _), (3, _), (4, _), (5, _), (6, _), (7, _)]) O dX4_best_69 (by decide) rfl ?_
      have hlb := longer_le (a := lastB r we n kd c) (o := (bsN r we n kd c).2) (by have := lastB_le r we n kd c; omega) (bsN_bd r we n kd c (by omega)).2
      by_cases hlg : longer (lastB r we n kd c) (bsN r we n kd c).2 = true
      · refine z_iload O dX4_best_71 rfl ?_
        refine z_iload O dX4_best_73 rfl ?_
        refine z_icmp_le O 83 dX4_best_75 (by decide) (fun h75 => by exact absurd (hlb.mp h75) (by rw [hlg]; decide)) (fun h75 => ?_)
        refine z_iload O dX4_best_78 rfl ?_
        refine z_goto O 85 dX4_best_80 (by decide) ?_
        refine z_istore (lv' := [(0, _), (1, _), (2, _), (3, _), (4, _), (5, _), (6, _), (7, _)]) O dX4_best_85 (by decide) rfl ?_
        refine z_iload O dX4_best_87 rfl ?_
        refine z_iload O dX4_best_89 rfl ?_
        refine z_icmp_le O 99 dX4_best_91 (by decide) (fun h91 => by exact absurd (hlb.mp h91) (by rw [hlg]; decide)) (fun h91 => ?_)
        refine z_iload O dX4_best_94 rfl ?_
        refine z_goto O 101 dX4_best_96 (by decide) ?_
        refine z_istore (lv' := [(0, _), (1, _), (2, _), (3, _), (4, _), (5, _), (6, _), (7, _)]) O dX4_best_101 (by decide) rfl ?_
        refine z_iincN (lv' := [(0, _), (1, _), (2, _), (3, _), (4, _), (5, _), (6, _), (7, _)]) O 1 dX4_best_103 (by decide) rfl rfl (by decide) ?_
        refine z_goto O 29 dX4_best_106 (by decide) ?_
        refine z_kp (lv' := [(0, _), (1, _), (2, _), (3, _), (4, _), (5, _), (6, _)]) [0, 1, 2, 3, 4, 5, 6] rfl ?_
        rw [show bsN r we n kd (c + 1) = (some c, some (lastB r we n kd c)) from if_pos ⟨hro, hlg⟩] at ih
        exact ih _ (fun j hj => by rw [putW_out hc hro _ (by omega), cpyN, if_neg (by omega)]; exact ho j hj)
      · refine z_iload O dX4_best_71 rfl ?_
        refine z_iload O dX4_best_73 rfl ?_
        refine z_icmp_le O 83 dX4_best_75 (by decide) (fun h75 => ?_) (fun h75 => by exact absurd (zbnf (fun q => h75 (hlb.mpr q))) hlg)
        refine z_iload O dX4_best_83 rfl ?_
        refine z_istore (lv' := [(0, _), (1, _), (2, _), (3, _), (4, _), (5, _), (6, _), (7, _)]) O dX4_best_85 (by decide) rfl ?_
        refine z_iload O dX4_best_87 rfl ?_
        refine z_iload O dX4_best_89 rfl ?_
        refine z_icmp_le O 99 dX4_best_91 (by decide) (fun h91 => ?_) (fun h91 => by exact absurd (zbnf (fun q => h91 (hlb.mpr q))) hlg)
        refine z_iload O dX4_best_99 rfl ?_
        refine z_istore (lv' := [(0, _), (1, _), (2, _), (3, _), (4, _), (5, _), (6, _), (7, _)]) O dX4_best_101 (by decide) rfl ?_
        refine z_iincN (lv' := [(0, _), (1, _), (2, _), (3, _), (4, _), (5, _), (6, _), (7, _)]) O 1 dX4_best_103 (by decide) rfl rfl (by decide) ?_
        refine z_goto O 29 dX4_best_106 (by decide) ?_
        refine z_kp (lv' := [(0, _), (1, _), (2, _), (3, _), (4, _), (5, _), (6, _)]) [0, 1, 2, 3, 4, 5, 6] rfl ?_
        rw [show bsN r we n kd (c + 1) = (bsN r we n kd c) from if_neg (fun q => hlg q.2)] at ih
        exact ih _ (fun j hj => by rw [putW_out hc hro _ (by omega), cpyN, if_neg (by omega)]; exact ho j hj)
    · refine z_iconst O (nI 3) dX4_best_45 (by decide) ?_
      refine z_icmp_geN O 103 dX4_best_46 (by decide) (by have := g.1.1.2 c hc; omega) (by have := g.1.1.2 c hc; omega) (fun h46 => ?_) (fun h46 => by omega)
      refine z_iincN (lv' := [(0, _), (1, _), (2, _), (3, _), (4, _), (5, _), (6, _)]) O 1 dX4_best_103 (by decide) rfl rfl (by decide) ?_
      refine z_goto O 29 dX4_best_106 (by decide) ?_
      rw [show bsN r we n kd (c + 1) = (bsN r we n kd c) from if_neg (fun q => hro q.1)] at ih
      exact ih w' ho
end YS
