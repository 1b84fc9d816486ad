/-! ===== orders: counting ===== -/
def cntK {α : Type} [DecidableEq α] (κ : Nat → α) (T : Nat → Bool) (v : α) : Nat → Nat
  | 0 => 0
  | m + 1 => cntK κ T v m + (if T m = true ∧ κ m = v then 1 else 0)
def prdK {α : Type} [DecidableEq α] (κ : Nat → α) (T : Nat → Bool) : Nat → Nat
  | 0 => 1
  | m + 1 => prdK κ T m * (if T m = true then cntK κ T (κ m) (m + 1) else 1)
def rmT (T : Nat → Bool) (k : Nat) : Nat → Bool := fun e => if e = k then false else T e
theorem cnt_t {α : Type} [DecidableEq α] (κ : Nat → α) (T : Nat → Bool) {v : α} {m : Nat} (h : T m = true ∧ κ m = v) : cntK κ T v (m + 1) = cntK κ T v m + 1 := by
  show cntK κ T v m + _ = _
  rw [if_pos h]
theorem cnt_f {α : Type} [DecidableEq α] (κ : Nat → α) (T : Nat → Bool) {v : α} {m : Nat} (h : ¬ (T m = true ∧ κ m = v)) : cntK κ T v (m + 1) = cntK κ T v m := by
  show cntK κ T v m + _ = _
  rw [if_neg h]; rfl
theorem cnt_rm {α : Type} [DecidableEq α] (κ : Nat → α) (T : Nat → Bool) {k : Nat} (hk : T k = true) (v : α) : ∀ m, cntK κ T v m = cntK κ (rmT T k) v m + (if k < m ∧ κ k = v then 1 else 0)
  | 0 => by rw [if_neg (by omega)]; rfl
  | m + 1 => by
    have ih := cnt_rm κ T hk v m
    by_cases e : m = k
    · subst e
      have h1 : rmT T m m = false := by simp [rmT]
      rw [cnt_f κ (rmT T m) (by rw [h1]; intro q; exact absurd q.1 (by decide))]
      rw [if_neg (by omega)] at ih
      by_cases hv : κ m = v
      · rw [cnt_t κ T ⟨hk, hv⟩, if_pos ⟨by omega, hv⟩, ih]
      · rw [cnt_f κ T (fun q => hv q.2), if_neg (fun q => hv q.2), ih]
    · have h1 : rmT T k m = T m := by simp [rmT, e]
      have h2 : (if k < m + 1 ∧ κ k = v then 1 else 0) = (if k < m ∧ κ k = v then 1 else 0) := by
        by_cases hq : k < m ∧ κ k = v
        · rw [if_pos hq, if_pos ⟨by omega, hq.2⟩]
        · rw [if_neg hq, if_neg (fun q => hq ⟨by omega, q.2⟩)]
      rw [h2]
      by_cases hv : T m = true ∧ κ m = v
      · rw [cnt_t κ T hv, cnt_t κ (rmT T k) (by rw [h1]; exact hv), ih]; omega
      · rw [cnt_f κ T hv, cnt_f κ (rmT T k) (by rw [h1]; exact hv), ih]
theorem prd_rm {α : Type} [DecidableEq α] (κ : Nat → α) (T : Nat → Bool) {k : Nat} (hk : T k = true) : ∀ m, prdK κ T m = prdK κ (rmT T k) m * (if k < m then cntK κ T (κ k) m else 1)
  | 0 => by rw [if_neg (by omega)]; rfl
  | m + 1 => by
    have ih := prd_rm κ T hk m
    have eL : prdK κ T (m + 1) = prdK κ T m * (if T m = true then cntK κ T (κ m) (m + 1) else 1) := rfl
    have eR : prdK κ (rmT T k) (m + 1) = prdK κ (rmT T k) m * (if rmT T k m = true then cntK κ (rmT T k) (κ m) (m + 1) else 1) := rfl
    rw [eL, eR, ih]
    by_cases e : m = k
    · subst e
      have h1 : rmT T m m = false := by simp [rmT]
      rw [if_neg (Nat.lt_irrefl m), h1, hk, if_pos rfl, if_neg (show ¬ (false = true) by decide), if_pos (Nat.lt_succ_self m), Nat.mul_one]
    · have h1 : rmT T k m = T m := by simp [rmT, e]
      rw [h1]
      by_cases ht : T m = true
      · rw [if_pos ht, if_pos ht]
        by_cases hlt : k < m
        · rw [if_pos hlt, if_pos (show k < m + 1 by omega)]
          have hc := cnt_rm κ T hk (κ m) (m + 1)
          by_cases hv : κ m = κ k
          · rw [if_pos ⟨by omega, hv.symm⟩] at hc
            rw [hv] at hc ⊢
            have h2 := cnt_t κ T (v := κ k) ⟨ht, hv⟩
            have h3 : cntK κ (rmT T k) (κ k) (m + 1) = cntK κ T (κ k) m := by omega
            rw [h3]
          · rw [if_neg (fun q => hv q.2.symm)] at hc
            have hc' : cntK κ T (κ m) (m + 1) = cntK κ (rmT T k) (κ m) (m + 1) := hc
            rw [hc', cnt_f κ T (v := κ k) (fun q => hv q.2), Nat.mul_right_comm]
        · rw [if_neg hlt, if_neg (show ¬ k < m + 1 by omega)]
          have hc := cnt_rm κ T hk (κ m) (m + 1)
          rw [if_neg (by omega)] at hc
          have hc' : cntK κ T (κ m) (m + 1) = cntK κ (rmT T k) (κ m) (m + 1) := hc
          rw [hc', Nat.mul_one, Nat.mul_one]
      · rw [if_neg ht, if_neg ht, cnt_f κ T (v := κ k) (fun q => ht q.1), Nat.mul_one, Nat.mul_one]
        by_cases hlt : k < m
        · rw [if_pos hlt, if_pos (by omega)]
        · rw [if_neg hlt, if_neg (by omega)]
theorem cnt_0 {α : Type} [DecidableEq α] (κ : Nat → α) (T : Nat → Bool) (v : α) : ∀ m, cntK κ T v m = 0 ↔ ∀ e, e < m → ¬ (T e = true ∧ κ e = v)
  | 0 => ⟨fun _ e he => absurd he (Nat.not_lt_zero e), fun _ => rfl⟩
  | m + 1 => by
    have ih := cnt_0 κ T v m
    by_cases h : T m = true ∧ κ m = v
    · rw [cnt_t κ T h]
      exact ⟨fun q => by omega, fun q => absurd h (q m (by omega))⟩
    · rw [cnt_f κ T h, ih]
      refine ⟨fun q e he => ?_, fun q e he => q e (by omega)⟩
      by_cases hm : e = m
      · rw [hm]; exact h
      · exact q e (by omega)
theorem cnt_pos {α : Type} [DecidableEq α] (κ : Nat → α) (T : Nat → Bool) {k m : Nat} (hk : T k = true) (h : k < m) : 0 < cntK κ T (κ k) m := by
  rcases Nat.eq_zero_or_pos (cntK κ T (κ k) m) with h0 | h0
  · exact absurd ⟨hk, rfl⟩ ((cnt_0 κ T (κ k) m).mp h0 k h)
  · exact h0
theorem prd_pos {α : Type} [DecidableEq α] (κ : Nat → α) (T : Nat → Bool) : ∀ m, 0 < prdK κ T m
  | 0 => Nat.one_pos
  | m + 1 => by
    have ih := prd_pos κ T m
    show 0 < prdK κ T m * _
    split
    · rename_i ht
      exact Nat.mul_pos ih (cnt_pos κ T ht (by omega))
    · omega
theorem cnt_le {α : Type} [DecidableEq α] (κ : Nat → α) (T : Nat → Bool) (v : α) : ∀ m, cntK κ T v m ≤ m
  | 0 => Nat.le_refl _
  | m + 1 => by
    have ih := cnt_le κ T v m
    show cntK κ T v m + _ ≤ _
    split <;> omega
theorem prd_le {α : Type} [DecidableEq α] (κ : Nat → α) (T : Nat → Bool) {n : Nat} (hn : 1 ≤ n) : ∀ m, m ≤ n → prdK κ T m ≤ n ^ m
  | 0, _ => Nat.le_refl _
  | m + 1, hm => by
    have ih := prd_le κ T hn m (by omega)
    have h := cnt_le κ T (κ m) (m + 1)
    show prdK κ T m * _ ≤ n ^ m * n
    refine Nat.mul_le_mul ih ?_
    split <;> omega
theorem prd_empty {α : Type} [DecidableEq α] (κ : Nat → α) (T : Nat → Bool) : ∀ m, (∀ e, e < m → T e = false) → prdK κ T m = 1
  | 0, _ => rfl
  | m + 1, h => by
    have ih := prd_empty κ T m (fun e he => h e (by omega))
    show prdK κ T m * _ = 1
    rw [ih, h m (by omega), if_neg (by decide)]
theorem fst_one {α : Type} [DecidableEq α] (κ : Nat → α) (T : Nat → Bool) (v : α) : ∀ m, sumN (fun k => if (T k = true ∧ κ k = v) ∧ cntK κ T v k = 0 then 1 else 0) m = if 0 < cntK κ T v m then 1 else 0
  | 0 => rfl
  | m + 1 => by
    have ih := fst_one κ T v m
    show sumN _ m + (if (T m = true ∧ κ m = v) ∧ cntK κ T v m = 0 then 1 else 0) = _
    rw [ih]
    by_cases h : T m = true ∧ κ m = v
    · rw [cnt_t κ T h, if_pos (show 0 < cntK κ T v m + 1 by omega)]
      by_cases h0 : cntK κ T v m = 0
      · rw [if_pos (c := (T m = true ∧ κ m = v) ∧ cntK κ T v m = 0) ⟨h, h0⟩, if_neg (c := 0 < cntK κ T v m) (by omega)]
      · rw [if_neg (c := (T m = true ∧ κ m = v) ∧ cntK κ T v m = 0) (fun q => h0 q.2), if_pos (c := 0 < cntK κ T v m) (by omega)]
    · rw [cnt_f κ T h, if_neg (c := (T m = true ∧ κ m = v) ∧ cntK κ T v m = 0) (fun q => h q.1)]; rfl
theorem sumN_add (f g : Nat → Nat) : ∀ n, sumN (fun x => f x + g x) n = sumN f n + sumN g n
  | 0 => rfl
  | n + 1 => by
    have ih := sumN_add f g n
    show sumN _ n + (f n + g n) = sumN f n + f n + (sumN g n + g n)
    rw [ih]; omega
theorem sumN_mul (f : Nat → Nat) (a : Nat) : ∀ n, sumN f n * a = sumN (fun x => f x * a) n
  | 0 => Nat.zero_mul _
  | n + 1 => by
    have ih := sumN_mul f a n
    show (sumN f n + f n) * a = sumN _ n + f n * a
    rw [Nat.add_mul, ih]
theorem sumN_zero {f : Nat → Nat} : ∀ n, (∀ x, x < n → f x = 0) → sumN f n = 0
  | 0, _ => rfl
  | n + 1, h => by
    show sumN f n + f n = 0
    rw [sumN_zero n (fun x hx => h x (by omega)), h n (by omega)]
theorem sumN_lt {f g : Nat → Nat} : ∀ n, (∀ x, x < n → f x ≤ g x) → (∃ x, x < n ∧ f x < g x) → sumN f n < sumN g n
  | 0, _, ⟨x, hx, _⟩ => absurd hx (Nat.not_lt_zero x)
  | n + 1, h, ⟨x, hx, hl⟩ => by
    have hle : ∀ k, (∀ x, x < k → f x ≤ g x) → sumN f k ≤ sumN g k := by
      intro k
      induction k with
      | zero => intro _; exact Nat.le_refl _
      | succ k ih => intro hk; exact Nat.add_le_add (ih (fun x hx => hk x (by omega))) (hk k (by omega))
    show sumN f n + f n < sumN g n + g n
    by_cases e : x = n
    · subst e
      have := hle x (fun x hx => h x (by omega))
      omega
    · have := sumN_lt n (fun x hx => h x (by omega)) ⟨x, by omega, hl⟩
      have := h n (by omega)
      omega
theorem fst_sum {α : Type} [DecidableEq α] (κ : Nat → α) (T : Nat → Bool) (p : α → Bool) : ∀ m, sumN (fun k => if (T k = true ∧ p (κ k) = true) ∧ cntK κ T (κ k) k = 0 then cntK κ T (κ k) m else 0) m = cntK (fun k => p (κ k)) T true m
  | 0 => rfl
  | m + 1 => by
    have ih := fst_sum κ T p m
    show sumN _ m + (if (T m = true ∧ p (κ m) = true) ∧ cntK κ T (κ m) m = 0 then cntK κ T (κ m) (m + 1) else 0) = _
    by_cases h : T m = true ∧ p (κ m) = true
    · have e1 : sumN (fun k => if (T k = true ∧ p (κ k) = true) ∧ cntK κ T (κ k) k = 0 then cntK κ T (κ k) (m + 1) else 0) m = sumN (fun k => (if (T k = true ∧ p (κ k) = true) ∧ cntK κ T (κ k) k = 0 then cntK κ T (κ k) m else 0) + (if (T k = true ∧ κ k = κ m) ∧ cntK κ T (κ m) k = 0 then 1 else 0)) m := by
        refine sumN_congr m (fun k hk => ?_)
        by_cases hv : κ k = κ m
        · by_cases hf : T k = true ∧ cntK κ T (κ m) k = 0
          · rw [if_pos ⟨⟨hf.1, by rw [hv]; exact h.2⟩, by rw [hv]; exact hf.2⟩, if_pos ⟨⟨hf.1, by rw [hv]; exact h.2⟩, by rw [hv]; exact hf.2⟩, if_pos ⟨⟨hf.1, hv⟩, hf.2⟩, cnt_t κ T ⟨h.1, hv.symm⟩]
          · rw [if_neg (fun q => hf ⟨q.1.1, by rw [hv] at q; exact q.2⟩), if_neg (fun q => hf ⟨q.1.1, by rw [hv] at q; exact q.2⟩), if_neg (fun q => hf ⟨q.1.1, q.2⟩)]
        · rw [if_neg (c := (T k = true ∧ κ k = κ m) ∧ cntK κ T (κ m) k = 0) (fun q => hv q.1.2), cnt_f κ T (fun q => hv q.2.symm)]; rfl
      rw [e1, sumN_add, ih, fst_one, cnt_t (fun k => p (κ k)) T h]
      by_cases h0 : cntK κ T (κ m) m = 0
      · rw [if_pos (c := (T m = true ∧ p (κ m) = true) ∧ cntK κ T (κ m) m = 0) ⟨h, h0⟩, if_neg (c := 0 < cntK κ T (κ m) m) (by omega), cnt_t κ T ⟨h.1, rfl⟩, h0]
      · rw [if_neg (c := (T m = true ∧ p (κ m) = true) ∧ cntK κ T (κ m) m = 0) (fun q => h0 q.2), if_pos (c := 0 < cntK κ T (κ m) m) (by omega)]
    · rw [if_neg (fun q => h q.1), cnt_f (fun k => p (κ k)) T h, ← ih, Nat.add_zero]
      refine sumN_congr m (fun k hk => ?_)
      by_cases hf : (T k = true ∧ p (κ k) = true) ∧ cntK κ T (κ k) k = 0
      · rw [if_pos hf, if_pos hf, cnt_f κ T (fun q => h ⟨q.1, by rw [q.2]; exact hf.1.2⟩)]
      · rw [if_neg hf, if_neg hf]
theorem cnt_congr {α β : Type} [DecidableEq α] [DecidableEq β] {κ : Nat → α} {μ : Nat → β} {T : Nat → Bool} {v : α} {u : β} : ∀ m, (∀ e, e < m → T e = true → (κ e = v ↔ μ e = u)) → cntK κ T v m = cntK μ T u m
  | 0, _ => rfl
  | m + 1, h => by
    have ih := cnt_congr m (fun e he => h e (by omega))
    by_cases hq : T m = true ∧ κ m = v
    · rw [cnt_t κ T hq, cnt_t μ T ⟨hq.1, (h m (by omega) hq.1).mp hq.2⟩, ih]
    · rw [cnt_f κ T hq, cnt_f μ T (fun q => hq ⟨q.1, (h m (by omega) q.1).mpr q.2⟩), ih]
theorem ex_min (p : Nat → Bool) (y : Nat → Nat) : ∀ n, (∃ e, e < n ∧ p e = true) → ∃ k, k < n ∧ p k = true ∧ ∀ e, e < n → p e = true → y k ≤ y e
  | 0, ⟨e, he, _⟩ => absurd he (Nat.not_lt_zero e)
  | n + 1, ⟨e, he, hp⟩ => by
    by_cases hx : ∃ e, e < n ∧ p e = true
    · obtain ⟨k, hk, hpk, hm⟩ := ex_min p y n hx
      by_cases hn : p n = true ∧ y n < y k
      · refine ⟨n, by omega, hn.1, fun e he hpe => ?_⟩
        by_cases hen : e = n
        · rw [hen]; exact Nat.le_refl _
        · have := hm e (by omega) hpe
          omega
      · refine ⟨k, by omega, hpk, fun e he hpe => ?_⟩
        by_cases hen : e = n
        · rw [hen] at hpe ⊢
          have : ¬ y n < y k := fun q => hn ⟨hpe, q⟩
          omega
        · exact hm e (by omega) hpe
    · have hen : e = n := by
        by_cases hq : e = n
        · exact hq
        · exact absurd ⟨e, by omega, hp⟩ hx
      subst hen
      refine ⟨e, by omega, hp, fun e' he' hpe => ?_⟩
      by_cases hq : e' = e
      · rw [hq]; exact Nat.le_refl _
      · exact absurd ⟨e', by omega, hpe⟩ hx
/-! sets of six -/
theorem bit6 : ∀ S, S < 64 → ∀ k, k < 6 → bitN S k = 0 → ∀ e, e < 6 → bitN (S + 2 ^ k) e = if e = k then 1 else bitN S e := by decide +kernel
theorem lt6 : ∀ n, n < 7 → ∀ S, S < 64 → S < 2 ^ n → ∀ k, k < n → bitN S k = 0 → S + 2 ^ k < 2 ^ n := by decide +kernel
theorem all6 : ∀ n, n < 7 → ∀ S, S < 64 → S < 2 ^ n → (∀ e, e < n → bitN S e = 1) → S = 2 ^ n - 1 := by decide +kernel
theorem one6 : ∀ n, n < 7 → ∀ e, e < n → bitN (2 ^ n - 1) e = 1 := by decide +kernel
theorem or6 : ∀ S, S < 64 → ∀ k, k < 6 → bitN S k = 0 → nI S ||| (nI 1 <<< (nI k &&& 31)) = nI (S + 2 ^ k) := by decide +kernel
theorem pow6 {n : Nat} (hn : n ≤ 6) : 2 ^ n ≤ 64 := Nat.le_trans (Nat.pow_le_pow_right (by decide) hn) (by decide)
def TS (n S : Nat) : Nat → Bool := fun e => decide (e < n) && decide (bitN S e = 0)
theorem TS_t {n S e : Nat} : TS n S e = true ↔ e < n ∧ bitN S e = 0 := by simp [TS]
theorem bT_eq {a b : Bool} (h : a = true ↔ b = true) : a = b := by
  cases a <;> cases b <;> simp_all
theorem TS_rm {n S k : Nat} (hn : n ≤ 6) (hS : S < 2 ^ n) (hk : k < n) (h0 : bitN S k = 0) : TS n (S + 2 ^ k) = rmT (TS n S) k := by
  have h64 := pow6 hn
  funext e
  apply bT_eq
  rw [TS_t]
  unfold rmT
  by_cases he : e = k
  · subst he
    rw [if_pos rfl]
    constructor
    · rintro ⟨h1, h2⟩
      rw [bit6 S (by omega) e (by omega) h0 e (by omega), if_pos rfl] at h2
      omega
    · intro q; exact absurd q (by decide)
  · rw [if_neg he, TS_t]
    by_cases hen : e < n
    · rw [bit6 S (by omega) k (by omega) h0 e (by omega), if_neg he]
    · constructor
      · intro q; exact absurd q.1 hen
      · intro q; exact absurd q.1 hen
def k2 (y c : Nat → Nat) : Nat → Nat × Nat := fun k => (y k, c k)
def canP (c y : Nat → Nat) (n S k : Nat) : Prop := bitN S k = 0 ∧ ∀ e, e < n → bitN S e = 1 ∨ (¬ (c e = c k ∧ e < k) ∧ y k ≤ y e)
theorem dp_step {c y wf : Nat → Nat} {n S : Nat} (hn : n ≤ 6) (hS : S < 2 ^ n) (hm : ∀ e k, e < k → k < n → c e = c k → y e ≤ y k)
    (hw : ∀ k, k < n → bitN S k = 0 → wf (S + 2 ^ k) * prdK (k2 y c) (TS n (S + 2 ^ k)) n = prdK y (TS n (S + 2 ^ k)) n)
    (can : Nat → Bool) (hcan : ∀ k, k < n → (can k = true ↔ canP c y n S k)) :
    ((if S = 2 ^ n - 1 then 1 else 0) + sumN (fun k => if can k = true then wf (S + 2 ^ k) else 0) n) * prdK (k2 y c) (TS n S) n = prdK y (TS n S) n := by
  have h64 := pow6 hn
  have hb2 : ∀ e, bitN S e < 2 := fun e => Nat.mod_lt _ (by decide)
  by_cases hall : ∀ e, e < n → bitN S e = 1
  · have hSa := all6 n (by omega) S (by omega) hS hall
    rw [if_pos hSa, sumN_zero n (fun k hk => if_neg (fun q => by have := ((hcan k hk).mp q).1; have := hall k hk; omega))]
    have hE : ∀ e, e < n → TS n S e = false := fun e he => by
      cases hq : TS n S e with
      | false => rfl
      | true => have := (TS_t.mp hq).2; have := hall e he; omega
    rw [prd_empty _ _ n hE, prd_empty _ _ n hE]
  · have hSn : ¬ S = 2 ^ n - 1 := fun q => hall (fun e he => by rw [q]; exact one6 n (by omega) e he)
    have hex : ∃ e, e < n ∧ TS n S e = true := by
      apply Classical.byContradiction
      intro hq
      apply hall
      intro e he
      have h1 := hb2 e
      rcases (show bitN S e = 0 ∨ bitN S e = 1 by omega) with h2 | h2
      · exact absurd ⟨e, he, TS_t.mpr ⟨he, h2⟩⟩ hq
      · exact h2
    obtain ⟨k0, hk0, ht0, hmin⟩ := ex_min (TS n S) y n hex
    rw [if_neg hSn, Nat.zero_add]
    have hN : 0 < cntK y (TS n S) (y k0) n := cnt_pos y (TS n S) ht0 hk0
    have hc2 : ∀ k, k < n → (can k = true ↔ (TS n S k = true ∧ decide ((k2 y c k).1 = y k0) = true) ∧ cntK (k2 y c) (TS n S) (k2 y c k) k = 0) := by
      intro k hk
      rw [hcan k hk, cnt_0]
      constructor
      · rintro ⟨h1, h2⟩
        have hyk : y k = y k0 := by
          have a := hmin k hk (TS_t.mpr ⟨hk, h1⟩)
          rcases h2 k0 hk0 with b | b
          · have := (TS_t.mp ht0).2; omega
          · omega
        refine ⟨⟨TS_t.mpr ⟨hk, h1⟩, decide_eq_true hyk⟩, fun e he => ?_⟩
        rintro ⟨q1, q2⟩
        have q3 : c e = c k := congrArg Prod.snd q2
        rcases h2 e (by omega) with b | b
        · have := (TS_t.mp q1).2; omega
        · exact b.1 ⟨q3, he⟩
      · rintro ⟨⟨h1, h2⟩, h3⟩
        have hyk : y k = y k0 := of_decide_eq_true h2
        refine ⟨(TS_t.mp h1).2, fun e he => ?_⟩
        have a1 := hb2 e
        rcases (show bitN S e = 0 ∨ bitN S e = 1 by omega) with h0 | h0
        · have hT : TS n S e = true := TS_t.mpr ⟨he, h0⟩
          have hye := hmin e he hT
          refine Or.inr ⟨fun q => ?_, by omega⟩
          have hle := hm e k q.2 hk q.1
          exact h3 e q.2 ⟨hT, show (y e, c e) = (y k, c k) by rw [q.1, show y e = y k by omega]⟩
        · exact Or.inl h0
    apply Nat.eq_of_mul_eq_mul_right hN
    rw [Nat.mul_assoc, sumN_mul]
    have e1 : sumN (fun x => (if can x = true then wf (S + 2 ^ x) else 0) * (prdK (k2 y c) (TS n S) n * cntK y (TS n S) (y k0) n)) n = sumN (fun x => (if (TS n S x = true ∧ decide ((k2 y c x).1 = y k0) = true) ∧ cntK (k2 y c) (TS n S) (k2 y c x) x = 0 then cntK (k2 y c) (TS n S) (k2 y c x) n else 0) * prdK y (TS n S) n) n := by
      refine sumN_congr n (fun k hk => ?_)
      by_cases hq : can k = true
      · have hq2 := (hc2 k hk).mp hq
        rw [if_pos hq, if_pos hq2]
        have hT := hq2.1.1
        have hyk : y k = y k0 := of_decide_eq_true hq2.1.2
        have h0 := (TS_t.mp hT).2
        have hw' := hw k hk h0
        rw [TS_rm hn hS hk h0] at hw'
        have hB := prd_rm (k2 y c) (TS n S) hT n
        have hA := prd_rm y (TS n S) hT n
        rw [if_pos hk] at hB hA
        rw [hyk] at hA
        rw [hB, hA, ← hw']
        simp only [Nat.mul_assoc, Nat.mul_comm, Nat.mul_left_comm]
      · rw [if_neg hq, if_neg (fun q => hq ((hc2 k hk).mpr q)), Nat.zero_mul, Nat.zero_mul]
    rw [e1, ← sumN_mul, fst_sum (k2 y c) (TS n S) (fun v => decide (v.1 = y k0)) n, Nat.mul_comm]
    congr 1
    refine cnt_congr n (fun e _ _ => ?_)
    show decide (y e = y k0) = true ↔ _
    rw [decide_eq_true_eq]
/-! ranks -/
def lxB (y : Nat → Nat) (e k : Nat) : Bool := decide (y e < y k ∨ (y e = y k ∧ e < k))
theorem lxB_t {y : Nat → Nat} {e k : Nat} : lxB y e k = true ↔ y e < y k ∨ (y e = y k ∧ e < k) := decide_eq_true_iff
def rkN (y : Nat → Nat) (n k : Nat) : Nat := sumN (fun e => if lxB y e k = true then 1 else 0) n
theorem rk_lt {y : Nat → Nat} {n e k : Nat} (he : e < n) (h : lxB y e k = true) : rkN y n e < rkN y n k := by
  have h1 := lxB_t.mp h
  refine sumN_lt n (fun x hx => ?_) ⟨e, he, ?_⟩
  · by_cases hq : lxB y x e = true
    · have := lxB_t.mp hq
      rw [if_pos hq, if_pos (lxB_t.mpr (by omega))]; exact Nat.le_refl _
    · rw [if_neg hq]; exact Nat.zero_le _
  · show (if lxB y e e = true then 1 else 0) < (if lxB y e k = true then 1 else 0)
    rw [if_pos h, if_neg (fun q => by have := lxB_t.mp q; omega)]; decide
theorem lx_total {y : Nat → Nat} {e k : Nat} (h : e ≠ k) : lxB y e k = true ∨ lxB y k e = true := by
  rw [lxB_t, lxB_t]; omega
theorem rk_le {y : Nat → Nat} {n e k : Nat} (he : e < n) (hk : k < n) (h : rkN y n e ≤ rkN y n k) : e = k ∨ lxB y e k = true := by
  by_cases hq : e = k
  · exact Or.inl hq
  · rcases lx_total (y := y) hq with h1 | h1
    · exact Or.inr h1
    · have := rk_lt hk h1; omega
theorem rk_inj {y : Nat → Nat} {n e k : Nat} (he : e < n) (hk : k < n) (h : rkN y n e = rkN y n k) : e = k := by
  by_cases hq : e = k
  · exact hq
  · rcases lx_total (y := y) hq with h1 | h1
    · have := rk_lt he h1; omega
    · have := rk_lt hk h1; omega
theorem rk_n {y : Nat → Nat} {n k : Nat} (hk : k < n) : rkN y n k < n := by
  have h1 : ∀ m, sumN (fun _ => 1) m = m := by
    intro m
    induction m with
    | zero => rfl
    | succ m ih => show sumN _ m + 1 = m + 1; rw [ih]
  have := sumN_lt (f := fun e => if lxB y e k = true then 1 else 0) (g := fun _ => 1) n (fun x hx => by split <;> omega) ⟨k, hk, by
    show (if lxB y k k = true then 1 else 0) < 1
    rw [if_neg (fun q => by have := lxB_t.mp q; omega)]; decide⟩
  rw [h1] at this
  exact this
/-- the first k are in */ -/
def Tr (y : Nat → Nat) (n i : Nat) : Nat → Bool := fun e => decide (e < n) && decide (rkN y n e < i)
theorem Tr_t {y : Nat → Nat} {n i e : Nat} : Tr y n i e = true ↔ e < n ∧ rkN y n e < i := by simp [Tr]
theorem Tr_rm {y : Nat → Nat} {n i k : Nat} (hk : k < n) (hr : rkN y n k = i) : Tr y n i = rmT (Tr y n (i + 1)) k := by
  funext e
  apply bT_eq
  rw [Tr_t]
  unfold rmT
  by_cases he : e = k
  · rw [if_pos he, he]
    exact ⟨fun q => by omega, fun q => absurd q (by decide)⟩
  · rw [if_neg he, Tr_t]
    refine ⟨fun q => ⟨q.1, by omega⟩, fun q => ⟨q.1, ?_⟩⟩
    have : rkN y n e ≠ i := fun h => he (rk_inj q.1 hk (by rw [h, hr]))
    omega
theorem TS_Tr {y : Nat → Nat} {n i : Nat} : TS n (bitsN (fun e => decide (¬ rkN y n e < i)) n) = Tr y n i := by
  funext e
  apply bT_eq
  rw [TS_t, Tr_t]
  refine ⟨fun q => ⟨q.1, ?_⟩, fun q => ⟨q.1, ?_⟩⟩
  · rw [bitsN_bit _ n e q.1] at q
    by_cases h : rkN y n e < i
    · exact h
    · rw [if_pos (decide_eq_true h)] at q; omega
  · rw [bitsN_bit _ n e q.1, if_neg (by rw [decide_eq_true_eq]; omega)]
theorem wo_eq {r od nm wf : Nat → Nat} {n : Nat} (y c : Nat → Nat) (hy : ∀ k, k < n → y k = fld r (nm k / 10) (nm k % 10) 3) (hc : ∀ k, k < n → c k = nm k / 10)
    (hcm : ∀ e k, e ≤ k → k < n → c e ≤ c k)
    (hod : ∀ k, k < n → od (rkN y n k) = nm k) (hsj : ∀ i, i < n → ∃ k, k < n ∧ rkN y n k = i)
    (hw : ∀ S, S < 2 ^ n → wf S * prdK (k2 y c) (TS n S) n = prdK y (TS n S) n) : ∀ i, i ≤ n → (woS r od i).1 * prdK (k2 y c) (Tr y n i) n = prdK y (Tr y n i) n ∧ ∀ k, k < n → rkN y n k + 1 = i → (woS r od i).2.1 = cntK y (Tr y n i) (y k) n ∧ (woS r od i).2.2 = cntK (k2 y c) (Tr y n i) (k2 y c k) n
  | 0, _ => by
    have hE : ∀ e, e < n → Tr y n 0 e = false := fun e he => by simp [Tr]
    rw [prd_empty _ _ n hE, prd_empty _ _ n hE]
    exact ⟨rfl, fun k _ h => by omega⟩
  | i + 1, hi => by
    obtain ⟨ih1, ih2⟩ := wo_eq y c hy hc hcm hod hsj hw i (by omega)
    obtain ⟨k, hk, hrk⟩ := hsj i (by omega)
    have hT : Tr y n (i + 1) k = true := Tr_t.mpr ⟨hk, by omega⟩
    have hrm := Tr_rm hk hrk
    have hodk : od i = nm k := by rw [← hrk]; exact hod k hk
    have hyk : yoN r od i = y k := by unfold yoN; rw [hodk]; exact (hy k hk).symm
    have c1 := cnt_rm y (Tr y n (i + 1)) hT (y k) n
    have c2 := cnt_rm (k2 y c) (Tr y n (i + 1)) hT (k2 y c k) n
    rw [if_pos ⟨hk, rfl⟩, ← hrm] at c1 c2
    have p1 : (if sYr r od i = true then (woS r od i).2.1 + 1 else 1) = cntK y (Tr y n (i + 1)) (y k) n := by
      by_cases hs : sYr r od i = true
      · rw [if_pos hs]
        unfold sYr at hs
        rw [Bool.and_eq_true, decide_eq_true_eq, decide_eq_true_eq] at hs
        obtain ⟨k', hk', hrk'⟩ := hsj (i - 1) (by omega)
        have h1 : yoN r od (i - 1) = y k' := by unfold yoN; rw [show od (i - 1) = nm k' by rw [← hrk']; exact hod k' hk']; exact (hy k' hk').symm
        have h2 : y k = y k' := by rw [← hyk, hs.2, h1]
        rw [(ih2 k' hk' (by omega)).1, c1, h2]
      · rw [if_neg hs, c1]
        have h0 : cntK y (Tr y n i) (y k) n = 0 := by
          rw [cnt_0]
          rintro e he ⟨q1, q2⟩
          have q3 := (Tr_t.mp q1).2
          obtain ⟨k', hk', hrk'⟩ := hsj (i - 1) (by omega)
          have h1 : yoN r od (i - 1) = y k' := by unfold yoN; rw [show od (i - 1) = nm k' by rw [← hrk']; exact hod k' hk']; exact (hy k' hk').symm
          have h2 : y k ≠ y k' := fun q => hs (by unfold sYr; rw [Bool.and_eq_true, decide_eq_true_eq, decide_eq_true_eq]; exact ⟨by omega, by rw [hyk, h1, q]⟩)
          have h3 : y k' < y k := by
            rcases rk_le (y := y) hk' hk (by omega) with a | a
            · rw [a] at h2; exact absurd rfl h2
            · have := lxB_t.mp a; omega
          rcases rk_le (y := y) he hk' (by omega) with a | a
          · rw [a] at q2; omega
          · have := lxB_t.mp a; omega
        rw [h0]
    have p2 : (if sCl r od i = true then (woS r od i).2.2 + 1 else 1) = cntK (k2 y c) (Tr y n (i + 1)) (k2 y c k) n := by
      by_cases hs : sCl r od i = true
      · rw [if_pos hs]
        unfold sCl sYr at hs
        rw [Bool.and_eq_true, Bool.and_eq_true, decide_eq_true_eq, decide_eq_true_eq, decide_eq_true_eq] at hs
        obtain ⟨k', hk', hrk'⟩ := hsj (i - 1) (by omega)
        have h0 : od (i - 1) = nm k' := by rw [← hrk']; exact hod k' hk'
        have h1 : yoN r od (i - 1) = y k' := by unfold yoN; rw [h0]; exact (hy k' hk').symm
        have h2 : y k = y k' := by rw [← hyk, hs.1.2, h1]
        have h3 : c k = c k' := by rw [hc k hk, hc k' hk', ← hodk, ← h0]; exact hs.2
        rw [(ih2 k' hk' (by omega)).2, c2, show k2 y c k = k2 y c k' by unfold k2; rw [h2, h3]]
      · rw [if_neg hs, c2]
        have h0 : cntK (k2 y c) (Tr y n i) (k2 y c k) n = 0 := by
          rw [cnt_0]
          rintro e he ⟨q1, q2⟩
          have q3 := (Tr_t.mp q1).2
          have qy : y e = y k := congrArg Prod.fst q2
          have qc : c e = c k := congrArg Prod.snd q2
          obtain ⟨k', hk', hrk'⟩ := hsj (i - 1) (by omega)
          have h0 : od (i - 1) = nm k' := by rw [← hrk']; exact hod k' hk'
          have h1 : yoN r od (i - 1) = y k' := by unfold yoN; rw [h0]; exact (hy k' hk').symm
          have hkk : lxB y k' k = true := by
            rcases rk_le (y := y) hk' hk (by omega) with a | a
            · rw [a] at hrk'; omega
            · exact a
          have hek := rk_le (y := y) he hk' (by omega)
          have l1 := lxB_t.mp hkk
          have l2 : e = k' ∨ (y e < y k' ∨ (y e = y k' ∧ e < k')) := by
            rcases hek with a | a
            · exact Or.inl a
            · exact Or.inr (lxB_t.mp a)
          have hyy : y k' = y k := by
            rcases l2 with a | a
            · rw [← a]; exact qy
            · omega
          have hcc : c k' = c k := by
            have m1 := hcm k' k (by omega) hk
            have m2 : c e ≤ c k' := by
              rcases l2 with a | a
              · rw [a]; exact Nat.le_refl _
              · exact hcm e k' (by omega) hk'
            omega
          apply hs
          unfold sCl sYr
          rw [Bool.and_eq_true, Bool.and_eq_true, decide_eq_true_eq, decide_eq_true_eq, decide_eq_true_eq]
          refine ⟨⟨by omega, by rw [hyk, h1, hyy]⟩, ?_⟩
          rw [hodk, h0, ← hc k hk, ← hc k' hk', hcc]
        rw [h0]
    have hL := hw (bitsN (fun e => decide (¬ rkN y n e < i + 1)) n) (bitsN_lt _ n)
    rw [TS_Tr] at hL
    have hA := prd_rm y (Tr y n (i + 1)) hT n
    have hB := prd_rm (k2 y c) (Tr y n (i + 1)) hT n
    rw [if_pos hk, ← hrm] at hA hB
    have hBp := prd_pos (k2 y c) (Tr y n i) n
    have hcp : 0 < cntK (k2 y c) (Tr y n (i + 1)) (k2 y c k) n := cnt_pos (k2 y c) _ hT hk
    have key : wf (bitsN (fun e => decide (¬ rkN y n e < i + 1)) n) * cntK (k2 y c) (Tr y n (i + 1)) (k2 y c k) n = (woS r od i).1 * cntK y (Tr y n (i + 1)) (y k) n := by
      apply Nat.eq_of_mul_eq_mul_right hBp
      rw [hA, hB, ← ih1] at hL
      rw [Nat.mul_assoc, Nat.mul_comm (cntK (k2 y c) (Tr y n (i + 1)) (k2 y c k) n), hL, Nat.mul_right_comm]
    have hdiv : (woS r od (i + 1)).1 = wf (bitsN (fun e => decide (¬ rkN y n e < i + 1)) n) := by
      show (woS r od i).1 * (if sYr r od i = true then (woS r od i).2.1 + 1 else 1) / (if sCl r od i = true then (woS r od i).2.2 + 1 else 1) = _
      rw [p1, p2, ← key, Nat.mul_div_cancel _ hcp]
    refine ⟨by rw [hdiv]; exact hL, fun k1 hk1 hr1 => ?_⟩
    have : k1 = k := rk_inj (y := y) hk1 hk (by omega)
    subst this
    exact ⟨p1, p2⟩
theorem wo_ways {r od nm wf : Nat → Nat} {n : Nat} (y c : Nat → Nat) (hy : ∀ k, k < n → y k = fld r (nm k / 10) (nm k % 10) 3) (hc : ∀ k, k < n → c k = nm k / 10)
    (hcm : ∀ e k, e ≤ k → k < n → c e ≤ c k)
    (hod : ∀ k, k < n → od (rkN y n k) = nm k) (hsj : ∀ i, i < n → ∃ k, k < n ∧ rkN y n k = i)
    (hw : ∀ S, S < 2 ^ n → wf S * prdK (k2 y c) (TS n S) n = prdK y (TS n S) n) : (woS r od n).1 = wf 0 := by
  have h1 := (wo_eq y c hy hc hcm hod hsj hw n (Nat.le_refl _)).1
  have h2 := hw 0 (Nat.two_pow_pos _)
  have hT : TS n 0 = Tr y n n := by
    funext e
    apply bT_eq
    rw [TS_t, Tr_t]
    have h0 : bitN 0 e = 0 := by unfold bitN; simp
    exact ⟨fun q => ⟨q.1, rk_n q.1⟩, fun q => ⟨q.1, h0⟩⟩
  rw [hT] at h2
  exact Nat.eq_of_mul_eq_mul_right (prd_pos (k2 y c) (Tr y n n) n) (h1.trans h2.symm)
theorem gr_can {y c : Nat → Nat} {n S j k : Nat} (hm : ∀ e k, e < k → k < n → c e = c k → y e ≤ y k) (hS : ∀ e, e < n → bitN S e = if rkN y n e < j then 1 else 0) (hk : k < n) (hr : rkN y n k = j) : canP c y n S k ∧ ∀ k', k' < k → ¬ canP c y n S k' := by
  refine ⟨⟨by rw [hS k hk, if_neg (by omega)], fun e he => ?_⟩, fun k' hk' q => ?_⟩
  · by_cases h : rkN y n e < j
    · exact Or.inl (by rw [hS e he, if_pos h])
    · right
      rcases rk_le (y := y) hk he (by omega) with a | a
      · subst a
        exact ⟨fun q => absurd q.2 (Nat.lt_irrefl _), Nat.le_refl _⟩
      · have l := lxB_t.mp a
        refine ⟨fun q => ?_, by omega⟩
        have := hm e k q.2 hk q.1
        omega
  · have h1 := q.1
    rw [hS k' (by omega)] at h1
    have h2 : ¬ rkN y n k' < j := fun h => by rw [if_pos h] at h1; omega
    rcases rk_le (y := y) hk (show k' < n by omega) (by omega) with a | a
    · omega
    · have l := lxB_t.mp a
      rcases q.2 k hk with b | b
      · rw [hS k hk, if_neg (by omega)] at b; omega
      · omega

