/-! ===== orders: names, the class's order ===== -/
def NM (r : Nat → Nat) (m : Nat) (nm : Nat → Nat) : Prop := ∀ c p, c < 9 → ¬ bitN m c = 0 → p < r (108 + c) → nm (darnsM r m c + p) = 10 * c + p
theorem dm_s {r : Nat → Nat} {m c : Nat} (h : ¬ bitN m c = 0) : darnsM r m (c + 1) = darnsM r m c + r (108 + c) := if_neg h
theorem dm_0 {r : Nat → Nat} {m c : Nat} (h : bitN m c = 0) : darnsM r m (c + 1) = darnsM r m c := if_pos h
theorem dm_mono {r : Nat → Nat} {m c : Nat} : ∀ k, darnsM r m c ≤ darnsM r m (c + k)
  | 0 => Nat.le_refl _
  | k + 1 => by
    have ih := dm_mono (r := r) (m := m) (c := c) k
    by_cases h : bitN m (c + k) = 0
    · rw [show c + (k + 1) = (c + k) + 1 by omega, dm_0 h]; exact ih
    · rw [show c + (k + 1) = (c + k) + 1 by omega, dm_s h]; omega
theorem dm_le {r : Nat → Nat} {m c d : Nat} (h : c ≤ d) : darnsM r m c ≤ darnsM r m d := by
  have := dm_mono (r := r) (m := m) (c := c) (d - c)
  rwa [show c + (d - c) = d by omega] at this
theorem dm_lt {r : Nat → Nat} {m c d p : Nat} (h : ¬ bitN m c = 0) (hp : p < r (108 + c)) (hd : c < d) : darnsM r m c + p < darnsM r m d := by
  have := dm_le (r := r) (m := m) (show c + 1 ≤ d by omega)
  rw [dm_s h] at this
  omega
theorem dm_ex {r : Nat → Nat} {m k : Nat} : ∀ C, k < darnsM r m C → ∃ c p, c < C ∧ ¬ bitN m c = 0 ∧ p < r (108 + c) ∧ k = darnsM r m c + p
  | 0, h => absurd h (Nat.not_lt_zero k)
  | C + 1, h => by
    by_cases hl : k < darnsM r m C
    · obtain ⟨c, p, h1, h2, h3, h4⟩ := dm_ex C hl
      exact ⟨c, p, by omega, h2, h3, h4⟩
    · by_cases hb : bitN m C = 0
      · rw [dm_0 hb] at h; exact absurd h hl
      · rw [dm_s hb] at h
        exact ⟨C, k - darnsM r m C, by omega, hb, by omega, by omega⟩
def nmG (r : Nat → Nat) (m : Nat) : Nat → Nat → Nat
  | 0, _ => 0
  | c + 1, k => if ¬ bitN m c = 0 ∧ darnsM r m c ≤ k then 10 * c + (k - darnsM r m c) else nmG r m c k
theorem nmG_at {r : Nat → Nat} {m c p : Nat} (h : ¬ bitN m c = 0) (hp : p < r (108 + c)) : ∀ C, c < C → nmG r m C (darnsM r m c + p) = 10 * c + p
  | 0, h => absurd h (Nat.not_lt_zero c)
  | C + 1, hC => by
    unfold nmG
    by_cases e : c = C
    · subst e
      rw [if_pos ⟨h, by omega⟩]; omega
    · have h1 := dm_lt (d := C) h hp (by omega)
      rw [if_neg (fun q => by omega)]
      exact nmG_at h hp C (by omega)
theorem nmG_ok (r : Nat → Nat) (m : Nat) : NM r m (nmG r m 9) := fun c p hc hb hp => nmG_at hb hp 9 hc
def yrN (r nm : Nat → Nat) (k : Nat) : Nat := fld r (nm k / 10) (nm k % 10) 3
def clN (nm : Nat → Nat) (k : Nat) : Nat := nm k / 10
theorem ord_le {r : Nat → Nat} (ho : ordOK r) {c p : Nat} (hc : c < 9) : ∀ d, p + d < r (108 + c) → fld r c p 3 ≤ fld r c (p + d) 3
  | 0, _ => Nat.le_refl _
  | d + 1, h => Nat.le_trans (ord_le ho hc d (by omega)) (ho c (p + d) hc (by omega))
section NN
variable {r nm : Nat → Nat} {m : Nat}
theorem nm_f (hN : NM r m nm) (hr : rowOK r) {k : Nat} (hk : k < darnsM r m 9) : ∃ c p, c < 9 ∧ ¬ bitN m c = 0 ∧ p < r (108 + c) ∧ p < 3 ∧ k = darnsM r m c + p ∧ nm k = 10 * c + p ∧ nm k / 10 = c ∧ nm k % 10 = p := by
  obtain ⟨c, p, h1, h2, h3, h4⟩ := dm_ex 9 hk
  have h5 := hN c p h1 h2 h3
  rw [← h4] at h5
  have h6 := hr.2 c h1
  exact ⟨c, p, h1, h2, h3, by omega, h4, h5, by omega, by omega⟩
theorem nm_b (hN : NM r m nm) (hr : rowOK r) {k : Nat} (hk : k < darnsM r m 9) : nm k / 10 < 9 ∧ nm k % 10 < r (108 + nm k / 10) ∧ nm k < 100 ∧ nm k % 10 < 3 := by
  obtain ⟨c, p, h1, h2, h3, h4, h5, h6, h7, h8⟩ := nm_f hN hr hk
  rw [h7, h8]
  exact ⟨h1, h3, by omega, h4⟩
theorem nm_cm (hN : NM r m nm) (hr : rowOK r) : ∀ e k, e ≤ k → k < darnsM r m 9 → clN nm e ≤ clN nm k := fun e k hek hk => by
  obtain ⟨c, p, h1, h2, h3, h4, h5, h6, h7, h8⟩ := nm_f hN hr hk
  obtain ⟨c', p', i1, i2, i3, i4, i5, i6, i7, i8⟩ := nm_f hN hr (show e < darnsM r m 9 by omega)
  unfold clN
  rw [h7, i7]
  by_cases hq : c' ≤ c
  · exact hq
  · have := dm_lt (d := c') h2 h3 (by omega)
    omega
theorem nm_ym (hN : NM r m nm) (hr : rowOK r) (ho : ordOK r) : ∀ e k, e < k → k < darnsM r m 9 → clN nm e = clN nm k → yrN r nm e ≤ yrN r nm k := fun e k hek hk hc => by
  obtain ⟨c, p, h1, h2, h3, h4, h5, h6, h7, h8⟩ := nm_f hN hr hk
  obtain ⟨c', p', i1, i2, i3, i4, i5, i6, i7, i8⟩ := nm_f hN hr (show e < darnsM r m 9 by omega)
  unfold clN at hc
  rw [h7, i7] at hc
  unfold yrN
  rw [h7, h8, i7, i8]
  subst hc
  have := ord_le ho h1 (p := p') (p - p') (by omega)
  rwa [show p' + (p - p') = p by omega] at this
/-- those of p are put in their places */ -/
def inP (r nm : Nat → Nat) (n cnt : Nat) (od : Nat → Nat) (p : Nat → Bool) : Prop :=
  cnt = sumN (fun k => if p k = true then 1 else 0) n ∧ (∀ k, k < n → p k = true → od (rkN (yrN r nm) n k) = nm k) ∧ ∀ i, i < cnt → ∃ k, k < n ∧ p k = true ∧ rkN (yrN r nm) n k = i
theorem inP_congr {n cnt : Nat} {od : Nat → Nat} {p q : Nat → Bool} (h : inP r nm n cnt od p) (e : ∀ k, k < n → p k = q k) : inP r nm n cnt od q := by
  obtain ⟨h1, h2, h3⟩ := h
  refine ⟨?_, fun k hk hq => h2 k hk (by rw [e k hk]; exact hq), fun i hi => ?_⟩
  · rw [h1]
    exact sumN_congr n (fun k hk => by rw [e k hk])
  · obtain ⟨k, a, b, c⟩ := h3 i hi
    exact ⟨k, a, by rw [← e k a]; exact b, c⟩
theorem sumN_upd {f g : Nat → Nat} {x : Nat} : ∀ n, x < n → (∀ k, k < n → k ≠ x → g k = f k) → f x = 0 → g x = 1 → sumN g n = sumN f n + 1
  | 0, h, _, _, _ => absurd h (Nat.not_lt_zero x)
  | n + 1, hx, he, h0, h1 => by
    show sumN g n + g n = sumN f n + f n + 1
    by_cases e : x = n
    · subst e
      rw [sumN_congr x (fun k hk => he k (by omega) (by omega)), h0, h1]
    · rw [sumN_upd n (by omega) (fun k hk hn => he k (by omega) hn) h0 h1, he n (by omega) (fun q => e q.symm)]; omega
def prB (r nm : Nat → Nat) (L x : Nat) (k : Nat) : Bool := decide (yrN r nm k + 1 < L ∨ (yrN r nm k + 1 = L ∧ k < x))
theorem prB_t {L x k : Nat} : prB r nm L x k = true ↔ yrN r nm k + 1 < L ∨ (yrN r nm k + 1 = L ∧ k < x) := decide_eq_true_iff
theorem inP_cnt_lt {n cnt : Nat} {od : Nat → Nat} {p : Nat → Bool} (h : inP r nm n cnt od p) {x : Nat} (hx : x < n) (hp : ¬ p x = true) : cnt < n := by
  have h1 : ∀ m, sumN (fun _ => 1) m = m := by
    intro m
    induction m with
    | zero => rfl
    | succ m ih => show sumN _ m + 1 = m + 1; rw [ih]
  have := sumN_lt (f := fun k => if p k = true then 1 else 0) (g := fun _ => 1) n (fun k hk => by split <;> omega) ⟨x, hx, by
    show (if p x = true then 1 else 0) < 1
    rw [if_neg hp]; decide⟩
  rw [h1, ← h.1] at this
  exact this
theorem inP_app {n cnt L x : Nat} {od : Nat → Nat} (h : inP r nm n cnt od (prB r nm L x)) (hx : x < n) (hy : yrN r nm x + 1 = L) : inP r nm n (cnt + 1) (updN od cnt (nm x)) (prB r nm L (x + 1)) := by
  obtain ⟨h1, h2, h3⟩ := h
  have hrk : rkN (yrN r nm) n x = cnt := by
    rw [h1]
    refine sumN_congr n (fun k hk => ?_)
    have : lxB (yrN r nm) k x = prB r nm L x k := by
      apply bT_eq
      rw [lxB_t, prB_t]; omega
    rw [this]
  refine ⟨?_, fun k hk hp => ?_, fun i hi => ?_⟩
  · rw [h1]
    refine (sumN_upd n hx (fun k hk hne => ?_) ?_ ?_).symm
    · have : prB r nm L (x + 1) k = prB r nm L x k := by
        apply bT_eq
        rw [prB_t, prB_t]; omega
      rw [this]
    · exact if_neg (fun q => by have := prB_t.mp q; omega)
    · exact if_pos (prB_t.mpr (Or.inr ⟨hy, by omega⟩))
  · by_cases hkx : k = x
    · rw [hkx, hrk, updN_s]
    · have hp' : prB r nm L x k = true := prB_t.mpr (by have := prB_t.mp hp; omega)
      have hlt : rkN (yrN r nm) n k < cnt := by
        rw [← hrk]
        exact rk_lt hk (lxB_t.mpr (by have := prB_t.mp hp'; omega))
      rw [updN_n (by omega)]
      exact h2 k hk hp'
  · by_cases hic : i = cnt
    · exact ⟨x, hx, prB_t.mpr (Or.inr ⟨hy, by omega⟩), by rw [hrk, hic]⟩
    · obtain ⟨k, a, b, c⟩ := h3 i (by omega)
      exact ⟨k, a, prB_t.mpr (by have := prB_t.mp b; omega), c⟩
theorem inP_skip {n cnt L x : Nat} {od : Nat → Nat} (h : inP r nm n cnt od (prB r nm L x)) (hy : ¬ yrN r nm x + 1 = L) : inP r nm n cnt od (prB r nm L (x + 1)) :=
  inP_congr h (fun k _ => by
    apply bT_eq
    rw [prB_t, prB_t]
    by_cases e : k = x
    · subst e; omega
    · omega)
theorem ffP_ok (hN : NM r m nm) (hr : rowOK r) (hn : darnsM r m 9 ≤ 6) {L c : Nat} {s : Nat × (Nat → Nat)} (hc : c < 9) (hb : ¬ bitN m c = 0) (h : inP r nm (darnsM r m 9) s.1 s.2 (prB r nm L (darnsM r m c))) : ∀ p, p ≤ r (108 + c) → inP r nm (darnsM r m 9) (ffP r L c s p).1 (ffP r L c s p).2 (prB r nm L (darnsM r m c + p))
  | 0, _ => h
  | p + 1, hp => by
    have ih := ffP_ok hN hr hn hc hb h p (by omega)
    have h3 := hr.2 c hc
    have hnm := hN c p hc hb (by omega)
    have hx := dm_lt (d := 9) hb (show p < r (108 + c) by omega) hc
    have hy : yrN r nm (darnsM r m c + p) = fld r c p 3 := by
      unfold yrN
      rw [hnm, show (10 * c + p) / 10 = c by omega, show (10 * c + p) % 10 = p by omega]
    unfold ffP
    by_cases hq : fld r c p 3 + 1 = L
    · have hlt : (ffP r L c s p).1 < 6 := by
        have := inP_cnt_lt ih hx (fun q => by have := prB_t.mp q; omega)
        omega
      rw [if_pos ⟨hq, hlt⟩]
      have := inP_app ih hx (by rw [hy]; exact hq)
      rw [hnm] at this
      exact this
    · rw [if_neg (fun q => hq q.1)]
      exact inP_skip (x := darnsM r m c + p) ih (by rw [hy]; exact hq)
theorem ffC_ok (hN : NM r m nm) (hr : rowOK r) (hn : darnsM r m 9 ≤ 6) {L : Nat} {s : Nat × (Nat → Nat)} (h : inP r nm (darnsM r m 9) s.1 s.2 (prB r nm L 0)) : ∀ c, c ≤ 9 → inP r nm (darnsM r m 9) (ffC r m L s c).1 (ffC r m L s c).2 (prB r nm L (darnsM r m c))
  | 0, _ => h
  | c + 1, hc => by
    have ih := ffC_ok hN hr hn h c (by omega)
    unfold ffC
    by_cases hb : bitN m c = 0
    · rw [if_pos hb, dm_0 hb]; exact ih
    · rw [if_neg hb, dm_s hb]
      exact ffP_ok hN hr hn (by omega) hb ih _ (Nat.le_refl _)
def nyV (r nm : Nat → Nat) (L a K : Nat) : Prop := (a = L ∧ ∀ k, k < K → yrN r nm k + 1 ≤ L) ∨ (L < a ∧ (∃ k, k < K ∧ yrN r nm k + 1 = a) ∧ ∀ k, k < K → yrN r nm k + 1 ≤ L ∨ a ≤ yrN r nm k + 1)
theorem nyV_s {L a x : Nat} (h : nyV r nm L a x) : nyV r nm L (if L < yrN r nm x + 1 ∧ (a = L ∨ yrN r nm x + 1 < a) then yrN r nm x + 1 else a) (x + 1) := by
  by_cases hq : L < yrN r nm x + 1 ∧ (a = L ∨ yrN r nm x + 1 < a)
  · rw [if_pos hq]
    refine Or.inr ⟨hq.1, ⟨x, by omega, rfl⟩, fun k hk => ?_⟩
    by_cases e : k = x
    · rw [e]; omega
    · rcases h with ⟨h1, h2⟩ | ⟨h1, h2, h3⟩
      · exact Or.inl (h2 k (by omega))
      · have := h3 k (by omega); omega
  · rw [if_neg hq]
    rcases h with ⟨h1, h2⟩ | ⟨h1, ⟨k0, h2, h2'⟩, h3⟩
    · refine Or.inl ⟨h1, fun k hk => ?_⟩
      by_cases e : k = x
      · rw [e]; omega
      · exact h2 k (by omega)
    · refine Or.inr ⟨h1, ⟨k0, by omega, h2'⟩, fun k hk => ?_⟩
      by_cases e : k = x
      · rw [e]; omega
      · exact h3 k (by omega)
theorem nyI_ok (hN : NM r m nm) (hr : rowOK r) {L c a : Nat} (hc : c < 9) (hb : ¬ bitN m c = 0) (h : nyV r nm L a (darnsM r m c)) : ∀ p, p ≤ r (108 + c) → nyV r nm L (nyI r L c a p) (darnsM r m c + p)
  | 0, _ => h
  | p + 1, hp => by
    have ih := nyI_ok hN hr hc hb h p (by omega)
    have h3 := hr.2 c hc
    have hnm := hN c p hc hb (by omega)
    have hy : yrN r nm (darnsM r m c + p) = fld r c p 3 := by
      unfold yrN
      rw [hnm, show (10 * c + p) / 10 = c by omega, show (10 * c + p) % 10 = p by omega]
    have := nyV_s ih
    rw [hy] at this
    exact this
theorem nyC_ok (hN : NM r m nm) (hr : rowOK r) {L : Nat} : ∀ c, c ≤ 9 → nyV r nm L (nyC r m L c) (darnsM r m c)
  | 0, _ => Or.inl ⟨rfl, fun k hk => absurd hk (Nat.not_lt_zero k)⟩
  | c + 1, hc => by
    have ih := nyC_ok hN hr (L := L) c (by omega)
    unfold nyC
    by_cases hb : bitN m c = 0
    · rw [if_pos hb, dm_0 hb]; exact ih
    · rw [if_neg hb, dm_s hb]
      exact nyI_ok hN hr (by omega) hb ih _ (Nat.le_refl _)
theorem ffG_in (hN : NM r m nm) (hr : rowOK r) (hn : darnsM r m 9 ≤ 6) (od : Nat → Nat) : ∀ g, inP r nm (darnsM r m 9) (ffG r m (darnsM r m 9) od g).1 (ffG r m (darnsM r m 9) od g).2.2 (fun k => decide (yrN r nm k + 1 ≤ (ffG r m (darnsM r m 9) od g).2.1)) ∧ min g (darnsM r m 9) ≤ (ffG r m (darnsM r m 9) od g).1
  | 0 => by
    refine ⟨⟨?_, fun k hk hp => ?_, fun i hi => absurd hi (Nat.not_lt_zero i)⟩, by omega⟩
    · exact (sumN_zero _ (fun k hk => if_neg (fun q => by have := of_decide_eq_true q; exact absurd this (by show ¬ _ + 1 ≤ 0; omega)))).symm
    · exact absurd (of_decide_eq_true hp) (by show ¬ _ + 1 ≤ 0; omega)
  | g + 1 => by
    obtain ⟨ih, ihm⟩ := ffG_in hN hr hn od g
    by_cases hlt : (ffG r m (darnsM r m 9) od g).1 < darnsM r m 9
    · have e : ffG r m (darnsM r m 9) od (g + 1) = ((ffC r m (nyC r m (ffG r m (darnsM r m 9) od g).2.1 9) ((ffG r m (darnsM r m 9) od g).1, (ffG r m (darnsM r m 9) od g).2.2) 9).1, nyC r m (ffG r m (darnsM r m 9) od g).2.1 9, (ffC r m (nyC r m (ffG r m (darnsM r m 9) od g).2.1 9) ((ffG r m (darnsM r m 9) od g).1, (ffG r m (darnsM r m 9) od g).2.2) 9).2) := if_pos hlt
      rw [e]
      generalize hL : (ffG r m (darnsM r m 9) od g).2.1 = L at *
      generalize hcnt : (ffG r m (darnsM r m 9) od g).1 = cnt at *
      generalize hod : (ffG r m (darnsM r m 9) od g).2.2 = od1 at *
      have hv := nyC_ok (L := L) hN hr 9 (by omega)
      have hex : ∃ k, k < darnsM r m 9 ∧ ¬ yrN r nm k + 1 ≤ L := by
        apply Classical.byContradiction
        intro hq
        have hall : ∀ k, k < darnsM r m 9 → yrN r nm k + 1 ≤ L := fun k hk => by
          by_cases h : yrN r nm k + 1 ≤ L
          · exact h
          · exact absurd ⟨k, hk, h⟩ hq
        have h1 : ∀ m', m' ≤ darnsM r m 9 → sumN (fun k => if decide (yrN r nm k + 1 ≤ L) = true then 1 else 0) m' = m' := by
          intro m'
          induction m' with
          | zero => intro _; rfl
          | succ m' ihh =>
            intro hm'
            show sumN _ m' + (if decide (yrN r nm m' + 1 ≤ L) = true then 1 else 0) = m' + 1
            rw [ihh (by omega), if_pos (decide_eq_true (hall m' (by omega)))]
        have := ih.1
        rw [h1 _ (Nat.le_refl _)] at this
        omega
      obtain ⟨k1, hk1, hk1'⟩ := hex
      rcases hv with ⟨h1, h2⟩ | ⟨h1, ⟨k0, h2, h2'⟩, h3⟩
      · exact absurd (h2 k1 hk1) hk1'
      · have i0 : inP r nm (darnsM r m 9) cnt od1 (prB r nm (nyC r m L 9) 0) := inP_congr ih (fun k hk => by
          apply bT_eq
          rw [decide_eq_true_eq, prB_t]
          have := h3 k hk
          omega)
        have i1 := ffC_ok hN hr hn (s := (cnt, od1)) i0 9 (by omega)
        have i2 := inP_congr (q := fun k => decide (yrN r nm k + 1 ≤ nyC r m L 9)) i1 (fun k hk => by
          apply bT_eq
          rw [decide_eq_true_eq, prB_t]
          omega)
        refine ⟨i2, ?_⟩
        have := sumN_lt (f := fun k => if decide (yrN r nm k + 1 ≤ L) = true then 1 else 0) (g := fun k => if decide (yrN r nm k + 1 ≤ nyC r m L 9) = true then 1 else 0) (darnsM r m 9) (fun k hk => by
          by_cases hq : yrN r nm k + 1 ≤ L
          · show (if decide (yrN r nm k + 1 ≤ L) = true then 1 else 0) ≤ (if decide (yrN r nm k + 1 ≤ nyC r m L 9) = true then 1 else 0)
            rw [if_pos (decide_eq_true hq), if_pos (decide_eq_true (by omega))]; exact Nat.le_refl _
          · show (if decide (yrN r nm k + 1 ≤ L) = true then 1 else 0) ≤ _
            rw [if_neg (fun q => hq (of_decide_eq_true q))]; exact Nat.zero_le _) ⟨k0, h2, by
          show (if decide (yrN r nm k0 + 1 ≤ L) = true then 1 else 0) < (if decide (yrN r nm k0 + 1 ≤ nyC r m L 9) = true then 1 else 0)
          rw [if_neg (fun q => by have := of_decide_eq_true q; omega), if_pos (decide_eq_true (by omega))]; decide⟩
        rw [← ih.1, ← i2.1] at this
        show min (g + 1) (darnsM r m 9) ≤ (ffC r m (nyC r m L 9) (cnt, od1) 9).1
        omega
    · have e : ffG r m (darnsM r m 9) od (g + 1) = ffG r m (darnsM r m 9) od g := if_neg hlt
      rw [e]
      exact ⟨ih, by omega⟩
theorem ff_ok (hN : NM r m nm) (hr : rowOK r) (hn : darnsM r m 9 ≤ 6) (od : Nat → Nat) : (∀ k, k < darnsM r m 9 → (ffG r m (darnsM r m 9) od 6).2.2 (rkN (yrN r nm) (darnsM r m 9) k) = nm k) ∧ ∀ i, i < darnsM r m 9 → ∃ k, k < darnsM r m 9 ∧ rkN (yrN r nm) (darnsM r m 9) k = i := by
  obtain ⟨h, hm⟩ := ffG_in hN hr hn od 6
  have hc : darnsM r m 9 ≤ (ffG r m (darnsM r m 9) od 6).1 := by omega
  refine ⟨fun k hk => h.2.1 k hk ?_, fun i hi => ?_⟩
  · by_cases hp : decide (yrN r nm k + 1 ≤ (ffG r m (darnsM r m 9) od 6).2.1) = true
    · exact hp
    · have := inP_cnt_lt h hk hp
      omega
  · obtain ⟨k, a, b, c⟩ := h.2.2 i (by omega)
    exact ⟨k, a, c⟩
end NN
theorem ff_od {r : Nat → Nat} {m : Nat} (hr : rowOK r) (hn : darnsM r m 9 ≤ 6) (od : Nat → Nat) : odOK (ffG r m (darnsM r m 9) od 6).2.2 (darnsM r m 9) := fun i hi => by
  obtain ⟨h1, h2⟩ := ff_ok (nmG_ok r m) hr hn od
  obtain ⟨k, hk, hrk⟩ := h2 i hi
  have h3 := h1 k hk
  rw [hrk] at h3
  rw [h3]
  have := nm_b (nmG_ok r m) hr hk
  exact ⟨this.1, this.2.2.2, this.2.2.1⟩

