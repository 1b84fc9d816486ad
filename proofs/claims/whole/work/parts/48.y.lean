/-! ===== the reference: split, odds, drawn ===== -/
def laV (r we : Nat → Nat) (kd e j : Nat) : Nat := if j = 0 ∨ ¬ r (108 + e) < 3 then spanV r we e else spA r we kd e j
def laOK (r we la : Nat → Nat) (n kd c i : Nat) : Prop := ∀ e j, e < 9 → (e < c ∧ j < n ∨ e = c ∧ j < i) → la (31 * e + j) = laV r we kd e j
theorem laOK_s {r we la : Nat → Nat} {n kd c i : Nat} (h : laOK r we la n kd c i) (hn : n ≤ 30) (hi : i < n) : laOK r we (updN la (31 * c + i) (laV r we kd c i)) n kd c (i + 1) := fun e j he hj => by
  by_cases hx : e = c ∧ j = i
  · rw [hx.1, hx.2, updN_s]
  · rw [updN_n (by omega)]
    exact h e j he (by omega)
theorem laOK_n {r we la : Nat → Nat} {n kd c : Nat} (h : laOK r we la n kd c n) : laOK r we la n kd (c + 1) 0 := fun e j he hj => h e j he (by omega)
/-- x tells in which years the sock wears */ -/
def rwX (we r : Nat → Nat) (x : Nat) : Nat → Nat → Nat
  | 0 => r
  | i + 1 => if bitN x i = 1 then passN (rwX we r x i) we else updN (rwX we r x i) 117 (rwX we r x i 117 + 1)
def wyX (k x : Nat) : Nat → Nat
  | 0 => 1
  | i + 1 => wyX k x i * (if bitN x i = 1 then k else 10 - k)
def odF (we r : Nat → Nat) (c k m x : Nat) : Nat := if rwX we r x m (108 + c) = 0 then wyX k x m else 0
theorem rwX_ok {we r : Nat → Nat} (hr : rowOK r) (x : Nat) {n : Nat} (hn : r 117 + n < 1048576) : ∀ i, i ≤ n → rowOK (rwX we r x i) ∧ rwX we r x i 117 = r 117 + i
  | 0, _ => ⟨hr, rfl⟩
  | i + 1, hi => by
    obtain ⟨h1, h2⟩ := rwX_ok (we := we) hr x hn i (by omega)
    unfold rwX
    split
    · refine ⟨rowOK_pass h1 (by omega), ?_⟩
      unfold passN
      rw [updN_s, passC_year h1 9 (by omega), h2]; omega
    · refine ⟨⟨updN_lt h1.1 (by omega), fun c hc => by rw [updN_n (by omega)]; exact h1.2 c hc⟩, ?_⟩
      rw [updN_s, h2]; omega
theorem bit_0 (x b : Nat) (hb : b < 2) : bitN (2 * x + b) 0 = b := by
  unfold bitN
  rw [Nat.pow_zero, Nat.div_one]; omega
theorem bit_s (x b i : Nat) (hb : b < 2) : bitN (2 * x + b) (i + 1) = bitN x i := by
  unfold bitN
  rw [Nat.pow_succ', ← Nat.div_div_eq_div_mul, show (2 * x + b) / 2 = x by omega]
theorem rwX_s (we r : Nat → Nat) (x b : Nat) (hb : b < 2) : ∀ i, rwX we r (2 * x + b) (i + 1) = rwX we (if b = 1 then passN r we else updN r 117 (r 117 + 1)) x i
  | 0 => by
    show (if bitN (2 * x + b) 0 = 1 then passN r we else updN r 117 (r 117 + 1)) = _
    rw [bit_0 x b hb]; rfl
  | i + 1 => by
    have ih := rwX_s we r x b hb i
    show (if bitN (2 * x + b) (i + 1) = 1 then passN (rwX we r (2 * x + b) (i + 1)) we else updN (rwX we r (2 * x + b) (i + 1)) 117 (rwX we r (2 * x + b) (i + 1) 117 + 1)) = _
    rw [bit_s x b i hb, ih]; rfl
theorem wyX_s (k x b : Nat) (hb : b < 2) : ∀ i, wyX k (2 * x + b) (i + 1) = (if b = 1 then k else 10 - k) * wyX k x i
  | 0 => by
    show 1 * (if bitN (2 * x + b) 0 = 1 then k else 10 - k) = _
    rw [bit_0 x b hb, Nat.one_mul]; exact (Nat.mul_one _).symm
  | i + 1 => by
    have ih := wyX_s k x b hb i
    show wyX k (2 * x + b) (i + 1) * (if bitN (2 * x + b) (i + 1) = 1 then k else 10 - k) = _ * (wyX k x i * (if bitN x i = 1 then k else 10 - k))
    rw [bit_s x b i hb, ih, Nat.mul_assoc]
theorem sumN_2 (g : Nat → Nat) : ∀ n, sumN g (2 * n) = sumN (fun x => g (2 * x) + g (2 * x + 1)) n
  | 0 => rfl
  | n + 1 => by
    have ih := sumN_2 g n
    show sumN g (2 * n + 1 + 1) = sumN _ n + _
    show sumN g (2 * n) + g (2 * n) + g (2 * n + 1) = _
    rw [ih]; exact Nat.add_assoc _ _ _
theorem sumN_lin (f g : Nat → Nat) (a b : Nat) : ∀ n, sumN (fun x => a * f x + b * g x) n = a * sumN f n + b * sumN g n
  | 0 => rfl
  | n + 1 => by
    have ih := sumN_lin f g a b n
    show sumN _ n + (a * f n + b * g n) = a * (sumN f n + f n) + b * (sumN g n + g n)
    rw [ih, Nat.mul_add, Nat.mul_add]; omega
theorem sumN_congr {f g : Nat → Nat} : ∀ n, (∀ x, x < n → f x = g x) → sumN f n = sumN g n
  | 0, _ => rfl
  | n + 1, h => by
    show sumN f n + f n = sumN g n + g n
    rw [sumN_congr n (fun x hx => h x (by omega)), h n (by omega)]
theorem odU_s (we r : Nat → Nat) (c k m : Nat) : sumN (odF we r c k (m + 1)) (2 ^ (m + 1)) = k * sumN (odF we (passN r we) c k m) (2 ^ m) + (10 - k) * sumN (odF we (updN r 117 (r 117 + 1)) c k m) (2 ^ m) := by
  rw [Nat.pow_succ', sumN_2, ← sumN_lin]
  refine sumN_congr _ (fun x _ => ?_)
  have e0 : odF we r c k (m + 1) (2 * x) = (10 - k) * odF we (updN r 117 (r 117 + 1)) c k m x := by
    have h1 := rwX_s we r x 0 (by decide) m
    have h2 := wyX_s k x 0 (by decide) m
    rw [Nat.add_zero, if_neg (by decide)] at h1 h2
    unfold odF
    rw [h1, h2]
    split <;> simp
  have e1 : odF we r c k (m + 1) (2 * x + 1) = k * odF we (passN r we) c k m x := by
    have h1 := rwX_s we r x 1 (by decide) m
    have h2 := wyX_s k x 1 (by decide) m
    rw [if_pos rfl] at h1 h2
    unfold odF
    rw [h1, h2]
    split <;> simp
  show odF we r c k (m + 1) (2 * x) + odF we r c k (m + 1) (2 * x + 1) = _
  rw [e0, e1, Nat.add_comm]
theorem hwN_congr {r r' we : Nat → Nat} {c k : Nat} : ∀ n u th y, (∀ p, p < u → fld r' c p 0 = fld r c p 0) → (∀ p, p + 1 < u → fld r' c p 2 = fld r c p 2) → hwN r' we c k n u th y = hwN r we c k n u th y
  | 0, _, _, _, _, _ => rfl
  | n + 1, u, th, y, h1, h2 => by
    unfold hwN
    by_cases hu : u = 0
    · rw [if_pos hu, if_pos hu]
    · rw [if_neg hu, if_neg hu, h1 (u - 1) (by omega), hwN_congr n u th (y + 1) h1 h2]
      congr 2
      split
      · have e : (if u - 1 = 0 then 0 else fld r' c (u - 1 - 1) 2) = (if u - 1 = 0 then 0 else fld r c (u - 1 - 1) 2) := by
          split
          · rfl
          · exact h2 _ (by omega)
        rw [e]
        exact hwN_congr n (u - 1) _ _ (fun p hp => h1 p (by omega)) (fun p hp => h2 p (by omega))
      · exact hwN_congr n u _ _ h1 h2
theorem hw_0 (r we : Nat → Nat) (c k n th y : Nat) : hwN r we c k n 0 th y = 10 ^ n := by
  cases n with
  | zero => rfl
  | succ n => unfold hwN; rw [if_pos rfl]
def cIx (c j : Nat) : Prop := j = 108 + c ∨ (12 * c ≤ j ∧ j < 12 * c + 12)
theorem wt_other {r we : Nat → Nat} (hr : rowOK r) {c e j : Nat} (hc : c < 9) (he : e < 9) (hne : e ≠ c) (hj : cIx c j) : wearTopN r we e j = r j := by
  have h3 := hr.2 e he
  unfold wearTopN takeN cIx at *
  split
  · rw [updN_n (by omega)]
  · rw [updN_n (by omega)]
theorem wt_congr {r r' we : Nat → Nat} (hr : rowOK r) {c j : Nat} (hc : c < 9) (h : ∀ i, cIx c i → r' i = r i) (hy : r' 117 = r 117) (hj : cIx c j) (h0 : 0 < r (108 + c)) : wearTopN r' we c j = wearTopN r we c j := by
  have h3 := hr.2 c hc
  have e1 : r' (108 + c) = r (108 + c) := h _ (Or.inl rfl)
  have e2 : ∀ f, f < 4 → fld r' c (r (108 + c) - 1) f = fld r c (r (108 + c) - 1) f := fun f hf => h _ (Or.inr (by omega))
  unfold wearTopN
  rw [e1, e2 2 (by decide), e2 0 (by decide), hy]
  split
  · unfold takeN
    rw [e1]
    unfold updN
    split
    · rfl
    · exact h j hj
  · unfold updN
    split
    · rfl
    · exact h j hj
theorem pC_cell {r we : Nat → Nat} (hr : rowOK r) {c : Nat} (hc : c < 9) : ∀ k, k ≤ 9 → ∀ j, cIx c j → passC r we k j = if k ≤ c ∨ r (108 + c) = 0 then r j else wearTopN r we c j
  | 0, _, j, _ => by rw [if_pos (Or.inl (Nat.zero_le _))]; rfl
  | k + 1, hk, j, hj => by
    have ih := pC_cell (we := we) hr hc k (by omega)
    have hrk := rowOK_passC (we := we) hr k (by omega)
    have hyk := passC_year (we := we) hr k (by omega)
    have e : passC r we (k + 1) j = if passC r we k (108 + k) = 0 then passC r we k j else wearTopN (passC r we k) we k j := by
      show (if passC r we k (108 + k) = 0 then passC r we k else wearTopN (passC r we k) we k) j = _
      split <;> rfl
    rw [e]
    by_cases hkc : k = c
    · subst hkc
      have hm : passC r we k (108 + k) = r (108 + k) := by rw [ih _ (Or.inl rfl), if_pos (Or.inl (Nat.le_refl _))]
      rw [hm]
      by_cases h0 : r (108 + k) = 0
      · rw [if_pos h0, if_pos (Or.inr h0), ih j hj, if_pos (Or.inl (Nat.le_refl _))]
      · rw [if_neg h0, if_neg (by omega)]
        exact wt_congr hr hc (fun i hi => by rw [ih i hi, if_pos (Or.inl (Nat.le_refl _))]) hyk hj (by omega)
    · have hq : (if k + 1 ≤ c ∨ r (108 + c) = 0 then r j else wearTopN r we c j) = if k ≤ c ∨ r (108 + c) = 0 then r j else wearTopN r we c j := by
        by_cases hh : r (108 + c) = 0
        · rw [if_pos (Or.inr hh), if_pos (Or.inr hh)]
        · by_cases hl : k ≤ c
          · rw [if_pos (by omega), if_pos (by omega)]
          · rw [if_neg (by omega), if_neg (by omega)]
      rw [hq, ← ih j hj]
      split
      · rfl
      · exact wt_other hrk hc (by omega) hkc hj
theorem pN_cell {r we : Nat → Nat} (hr : rowOK r) {c j : Nat} (hc : c < 9) (hj : cIx c j) : passN r we j = if r (108 + c) = 0 then r j else wearTopN r we c j := by
  have h117 : j ≠ 117 := by unfold cIx at hj; omega
  unfold passN
  rw [updN_n h117, pC_cell hr hc 9 (by omega) j hj]
  by_cases h0 : r (108 + c) = 0
  · rw [if_pos (Or.inr h0), if_pos h0]
  · rw [if_neg (by omega), if_neg h0]
theorem odU_eq {we : Nat → Nat} {c k : Nat} (hc : c < 9) (hk : k ≤ 10) : ∀ m r, rowOK r → r 117 + m < 1048576 → sumN (odF we r c k m) (2 ^ m) = oddU r we c m k
  | 0, r, _, _ => by
    show 0 + odF we r c k 0 0 = _
    rw [Nat.zero_add]; rfl
  | m + 1, r, hr, hy => by
    have hyr : rowOK (updN r 117 (r 117 + 1)) := ⟨updN_lt hr.1 (by omega), fun c hc => by rw [updN_n (by omega)]; exact hr.2 c hc⟩
    have i1 := odU_eq (we := we) hc hk m (passN r we) (rowOK_pass hr (by omega)) (by unfold passN; rw [updN_s, passC_year hr 9 (by omega)]; omega)
    have i2 := odU_eq (we := we) hc hk m (updN r 117 (r 117 + 1)) hyr (by rw [updN_s]; omega)
    have h3 := hr.2 c hc
    have yP : passN r we 117 = r 117 + 1 := by unfold passN; rw [updN_s, passC_year hr 9 (by omega)]
    have mU : updN r 117 (r 117 + 1) (108 + c) = r (108 + c) := updN_n (by omega)
    have fU : ∀ p f, p < 3 → f < 4 → fld (updN r 117 (r 117 + 1)) c p f = fld r c p f := fun p f hp hf => fld_upd (by omega)
    rw [odU_s, i1, i2]
    unfold oddU
    rw [mU, updN_s, yP]
    by_cases h0 : r (108 + c) = 0
    · have e1 : passN r we (108 + c) = 0 := by rw [pN_cell hr hc (Or.inl rfl), if_pos h0]; exact h0
      rw [e1, h0, hw_0, hw_0, hw_0, ← Nat.add_mul, show k + (10 - k) = 10 by omega, Nat.pow_succ']
    · rw [if_neg h0, if_neg h0, fU _ _ (by omega) (by decide)]
      rw [hwN_congr (r := r) (r' := updN r 117 (r 117 + 1)) m _ _ _ (fun p hp => fU p 0 (by omega) (by decide)) (fun p hp => fU p 2 (by omega) (by decide))]
      have hN : hwN r we c k (m + 1) (r (108 + c)) (fld r c (r (108 + c) - 1) 2) (r 117) = k * (if fld r c (r (108 + c) - 1) 2 ≤ lossN (fld r c (r (108 + c) - 1) 0) (we c) (r 117) then hwN r we c k m (r (108 + c) - 1) (if r (108 + c) - 1 = 0 then 0 else fld r c (r (108 + c) - 1 - 1) 2) (r 117 + 1) else hwN r we c k m (r (108 + c)) (fld r c (r (108 + c) - 1) 2 - lossN (fld r c (r (108 + c) - 1) 0) (we c) (r 117)) (r 117 + 1)) + (10 - k) * hwN r we c k m (r (108 + c)) (fld r c (r (108 + c) - 1) 2) (r 117 + 1) := if_neg h0
      rw [hN]
      congr 2
      have hP : ∀ j, cIx c j → passN r we j = wearTopN r we c j := fun j hj => by rw [pN_cell hr hc hj, if_neg h0]
      have fP : ∀ p f, p < 3 → f < 4 → fld (passN r we) c p f = wearTopN r we c ((c * 3 + p) * 4 + f) := fun p f hp hf => hP _ (Or.inr (by omega))
      have hPm := hP (108 + c) (Or.inl rfl)
      by_cases hf : fld r c (r (108 + c) - 1) 2 ≤ lossN (fld r c (r (108 + c) - 1) 0) (we c) (r 117)
      · rw [if_pos hf]
        have eW : wearTopN r we c = takeN r c := if_pos hf
        have em : passN r we (108 + c) = r (108 + c) - 1 := by rw [hPm, eW]; unfold takeN; rw [updN_s]
        have ef : ∀ p f, p < 3 → f < 4 → fld (passN r we) c p f = fld r c p f := fun p f hp hf => by
          rw [fP p f hp hf, eW]; unfold takeN; rw [updN_n (by omega)]; rfl
        rw [em]
        have et : (if r (108 + c) - 1 = 0 then 0 else fld (passN r we) c (r (108 + c) - 1 - 1) 2) = (if r (108 + c) - 1 = 0 then 0 else fld r c (r (108 + c) - 1 - 1) 2) := by
          split
          · rfl
          · exact ef _ _ (by omega) (by decide)
        rw [et]
        exact hwN_congr m _ _ _ (fun p hp => ef p 0 (by omega) (by decide)) (fun p hp => ef p 2 (by omega) (by decide))
      · rw [if_neg hf]
        have eW : wearTopN r we c = updN r ((c * 3 + (r (108 + c) - 1)) * 4 + 2) (fld r c (r (108 + c) - 1) 2 - lossN (fld r c (r (108 + c) - 1) 0) (we c) (r 117)) := if_neg hf
        have em : passN r we (108 + c) = r (108 + c) := by rw [hPm, eW, updN_n (by omega)]
        rw [em, if_neg h0, fP _ _ (by omega) (by decide), eW, updN_s]
        exact hwN_congr m _ _ _ (fun p hp => by rw [fP p 0 (by omega) (by decide), eW, updN_n (by omega)]; rfl) (fun p hp => by rw [fP p 2 (by omega) (by decide), eW, updN_n (by omega)]; rfl)
theorem wyX_le {k : Nat} (hk : k ≤ 10) (x : Nat) : ∀ i, wyX k x i ≤ 10 ^ i
  | 0 => Nat.le_refl _
  | i + 1 => by
    show wyX k x i * _ ≤ 10 ^ i * 10
    refine Nat.mul_le_mul (wyX_le hk x i) ?_
    split <;> omega
section YS
variable {G : zG} {c0_ c1_ c2_ c3_ c4_ c5_ c6_ c7_ c8_ c9_ c10_ c11_ c12_ c13_ c14_ c15_ c16_ c17_ c18_ c19_ c20_ : va_E} {w kp tx : Nat → Nat} {txl : Nat} {rf : Nat → Nat} {ya yb : Int64} {at2 st2 : Nat} {iwd ifg : Int32} {nb : Nat → Nat} {fr : Int32} {la nms : Nat → Nat} {nd : Nat} {wf : Nat → Nat} {hh : Int64} {tl : List va_E}
set_option maxRecDepth 20000 in
set_option maxHeartbeats 4000000 in
theorem m_layLasting {we r seen kept : Nat → Nat} {rd nw ud Y : Nat} (h : RS w 0 we r seen kept rd nw ud) (g : GS Y we r seen kept rd nw ud) {n kd : Nat} (h1 : 2 ≤ n) (h2 : n ≤ 30) (h3 : kd < 6) : zS G 3 yX4_layLasting cX4_layLasting 5 none [.ref (zad (zb G) 21), .int (nI n), .int (nI kd)] (yM G c0_ c1_ c2_ c3_ c4_ c5_ c6_ c7_ c8_ c9_ c10_ c11_ c12_ c13_ c14_ c15_ c16_ c17_ c18_ c19_ c20_ w kp tx txl rf ya yb at2 st2 iwd ifg nb fr la nms nd wf hh tl) 0 0 (zPU (fun M' => ∃ w' la' : Nat → Nat, smW w w' ∧ laOK r we la' n kd 9 0 ∧ M' = (yM G c0_ c1_ c2_ c3_ c4_ c5_ c6_ c7_ c8_ c9_ c10_ c11_ c12_ c13_ c14_ c15_ c16_ c17_ c18_ c19_ c20_ w' kp tx txl rf ya yb at2 st2 iwd ifg nb fr la' nms nd wf hh tl))) := by
  refine zS.of (by decide) (Nat.le_of_ble_eq_true rfl) (fun F O hR1 hR2 => ?_)
  have O : zOk G F yX4_layLasting cX4_layLasting 5 none RX4 3 (yM G c0_ c1_ c2_ c3_ c4_ c5_ c6_ c7_ c8_ c9_ c10_ c11_ c12_ c13_ c14_ c15_ c16_ c17_ c18_ c19_ c20_ w kp tx txl rf ya yb at2 st2 iwd ifg nb fr la nms nd wf hh tl).length := O
  refine z_eq (lv' := [(0, _), (1, _), (2, _)]) rfl rfl rfl ?_
  refine z_iconst O (nI 0) dX4_layLasting_0 (by decide) ?_
  refine z_istore_n (lv' := [(0, _), (1, _), (2, _), (3, _)]) O dX4_layLasting_1 (by decide) rfl ?_
  refine zdown (P := fun c => ∀ w' la' : Nat → Nat, smW w w' → laOK r we la' n kd c 0 → Z G F 0 0 (zEnd G F (zPU (fun M' => ∃ w' la' : Nat → Nat, smW w w' ∧ laOK r we la' n kd 9 0 ∧ M' = (yM G c0_ c1_ c2_ c3_ c4_ c5_ c6_ c7_ c8_ c9_ c10_ c11_ c12_ c13_ c14_ c15_ c16_ c17_ c18_ c19_ c20_ w' kp tx txl rf ya yb at2 st2 iwd ifg nb fr la' nms nd wf hh tl))) 0 0) 2 [(0, .ref (zad (zb G) 21)), (1, .int (nI n)), (2, .int (nI kd)), (3, .int (nI c))] [] (yM G c0_ c1_ c2_ c3_ c4_ c5_ c6_ c7_ c8_ c9_ c10_ c11_ c12_ c13_ c14_ c15_ c16_ c17_ c18_ c19_ c20_ w' kp tx txl rf ya yb at2 st2 iwd ifg nb fr la' nms nd wf hh tl)) (9) ?_ ?_ w la (fun _ _ => rfl) (fun e j he hj => by omega)
  · intro w' la' ho hl
    refine z_iload_n O dX4_layLasting_2 rfl ?_
    refine z_bipush O (nI 9) dX4_layLasting_3 (by decide) ?_
    refine z_icmp_geN O 79 dX4_layLasting_5 (by decide) (by omega) (by omega) (fun h5 => ?_) (fun h5 => by omega)
    exact z_vret O dX4_layLasting_79 ⟨rfl, w', la', ho, hl, rfl⟩
  · intro c hc ih w' la' ho hl
    refine z_iload_n O dX4_layLasting_2 rfl ?_
    refine z_bipush O (nI 9) dX4_layLasting_3 (by decide) ?_
    refine z_icmp_geN O 79 dX4_layLasting_5 (by decide) (by omega) (by omega) (fun h5 => by omega) (fun h5 => ?_)
    refine z_iconst O (nI 0) dX4_layLasting_8 (by decide) ?_
    refine z_istore (lv' := [(0, _), (1, _), (2, _), (3, _), (4, _)]) O dX4_layLasting_9 (by decide) rfl ?_
    refine zdown (P := fun i => ∀ w' la' : Nat → Nat, smW w w' → laOK r we la' n kd c i → Z G F 0 0 (zEnd G F (zPU (fun M' => ∃ w' la' : Nat → Nat, smW w w' ∧ laOK r we la' n kd 9 0 ∧ M' = (yM G c0_ c1_ c2_ c3_ c4_ c5_ c6_ c7_ c8_ c9_ c10_ c11_ c12_ c13_ c14_ c15_ c16_ c17_ c18_ c19_ c20_ w' kp tx txl rf ya yb at2 st2 iwd ifg nb fr la' nms nd wf hh tl))) 0 0) 11 [(0, .ref (zad (zb G) 21)), (1, .int (nI n)), (2, .int (nI kd)), (3, .int (nI c)), (4, .int (nI i))] [] (yM G c0_ c1_ c2_ c3_ c4_ c5_ c6_ c7_ c8_ c9_ c10_ c11_ c12_ c13_ c14_ c15_ c16_ c17_ c18_ c19_ c20_ w' kp tx txl rf ya yb at2 st2 iwd ifg nb fr la' nms nd wf hh tl)) (n) ?_ ?_ w' la' ho hl
    · intro w' la' ho hl
      refine z_iload O dX4_layLasting_11 rfl ?_
      refine z_iload_n O dX4_layLasting_13 rfl ?_
      refine z_icmp_geN O 73 dX4_layLasting_14 (by decide) (by omega) (by omega) (fun h14 => ?_) (fun h14 => by omega)
      refine z_iincN (lv' := [(0, _), (1, _), (2, _), (3, _), (4, _)]) O 1 dX4_layLasting_73 (by decide) rfl rfl (by decide) ?_
      refine z_goto O 2 dX4_layLasting_76 (by decide) ?_
      refine z_kp (lv' := [(0, _), (1, _), (2, _), (3, _)]) [0, 1, 2, 3] rfl ?_
      exact ih w' la' ho (laOK_n hl)
    · intro i hi ih w' la' ho hl
      refine z_iload O dX4_layLasting_11 rfl ?_
      refine z_iload_n O dX4_layLasting_13 rfl ?_
      refine z_icmp_geN O 73 dX4_layLasting_14 (by decide) (by omega) (by omega) (fun h14 => by omega) (fun h14 => ?_)
      refine z_aload_n O dX4_layLasting_17 rfl ?_
      refine z_V0u0 O m_tries mX4_tries lkX4_184 rfl (by rfl) dX4_layLasting_18 (Nat.le_of_ble_eq_true rfl) (by decide) ?_
      have hrt := RW_copy (n := 147) (d := 3273) (h.1.kept g.1.1 (fun j _ hj => ho j (by omega))) g.1.1 (by decide)
      by_cases hi0 : i = 0
      · refine z_iload O dX4_layLasting_21 rfl ?_
        refine z_if_leN O 50 dX4_layLasting_23 (by decide) (by omega) (fun h23 => ?_) (fun h23 => by omega)
        refine z_aload_n O dX4_layLasting_50 rfl ?_
        refine z_get O dX4_layLasting_51 flX4_30 (by rfl) (by rfl) ?_
        refine z_bipush O (nI 31) dX4_layLasting_54 (by decide) ?_
        refine z_iload_n O dX4_layLasting_56 rfl ?_
        refine z_imulN O dX4_layLasting_57 ?_
        refine z_iload O dX4_layLasting_58 rfl ?_
        refine z_iaddN O dX4_layLasting_60 ?_
        refine z_aload_n O dX4_layLasting_61 rfl ?_
        refine z_iload_n O dX4_layLasting_62 rfl ?_
        refine z_V1e0 O (m_lastsOf hrt g.1.1 g.w hc) mX4_lastsOf lkX4_206 rfl (by rfl) dX4_layLasting_63 (Nat.le_of_ble_eq_true rfl) (by decide) ?_
        refine z_iastN O (by rfl) dX4_layLasting_66 (by rfl) (by omega) (by decide) ?_
        refine z_iincN (lv' := [(0, _), (1, _), (2, _), (3, _), (4, _)]) O 1 dX4_layLasting_67 (by decide) rfl rfl (by decide) ?_
        refine z_goto O 11 dX4_layLasting_70 (by decide) ?_
        have hl2 := laOK_s hl h2 hi
        rw [show laV r we kd c i = spanV r we c from if_pos (Or.inl hi0)] at hl2
        exact ih _ _ (fun j hj => by rw [cpyN, if_neg (by omega)]; exact ho j hj) hl2
      · refine z_iload O dX4_layLasting_21 rfl ?_
        refine z_if_leN O 50 dX4_layLasting_23 (by decide) (by omega) (fun h23 => by omega) (fun h23 => ?_)
        refine z_aload_n O dX4_layLasting_26 rfl ?_
        refine z_get O dX4_layLasting_27 flX4_7 (by rfl) (by rfl) ?_
        refine z_iconst O (nI 1) dX4_layLasting_30 (by decide) ?_
        refine z_iload_n O dX4_layLasting_31 rfl ?_
        refine z_iaddN O dX4_layLasting_32 ?_
        refine z_ialdN O dX4_layLasting_33 (by rfl) (by omega) (by decide) ?_
        refine z_top (v' := .int (nI (r (108 + c)))) (congrArg Value.int (congrArg nI (by rw [cpyN, if_neg (by omega)]; exact (ho (1 + c) (by omega)).trans (h.m hc)))) ?_
        by_cases hro : r (108 + c) < 3
        · refine z_iconst O (nI 3) dX4_layLasting_34 (by decide) ?_
          refine z_icmp_geN O 50 dX4_layLasting_35 (by decide) (by have := g.1.1.2 c hc; omega) (by have := g.1.1.2 c hc; omega) (fun h35 => by omega) (fun h35 => ?_)
          refine z_aload_n O dX4_layLasting_38 rfl ?_
          refine z_sipush O (nI 3273) dX4_layLasting_39 (by decide) ?_
          refine z_iload_n O dX4_layLasting_42 rfl ?_
          refine z_iload_n O dX4_layLasting_43 rfl ?_
          refine z_iconst O (nI 0) dX4_layLasting_44 (by decide) ?_
          refine z_iload O dX4_layLasting_45 rfl ?_
          refine z_V5u0 O (m_puts hrt g.1.1 (by decide) hc hro) mX4_puts lkX4_87 rfl (by rfl) dX4_layLasting_47 (Nat.le_of_ble_eq_true rfl) (by decide) ?_
          refine z_aload_n O dX4_layLasting_50 rfl ?_
          refine z_get O dX4_layLasting_51 flX4_30 (by rfl) (by rfl) ?_
          refine z_bipush O (nI 31) dX4_layLasting_54 (by decide) ?_
          refine z_iload_n O dX4_layLasting_56 rfl ?_
          refine z_imulN O dX4_layLasting_57 ?_
          refine z_iload O dX4_layLasting_58 rfl ?_
          refine z_iaddN O dX4_layLasting_60 ?_
          refine z_aload_n O dX4_layLasting_61 rfl ?_
          refine z_iload_n O dX4_layLasting_62 rfl ?_
          refine z_V1e0 O (m_lastsOf (RW_put hrt g.1.1 hc hro) (rowOK_put g.1.1 hc hro (by omega) (by decide) (by omega)) g.w hc) mX4_lastsOf lkX4_206 rfl (by rfl) dX4_layLasting_63 (Nat.le_of_ble_eq_true rfl) (by decide) ?_
          refine z_iastN O (by rfl) dX4_layLasting_66 (by rfl) (by omega) (by decide) ?_
          refine z_iincN (lv' := [(0, _), (1, _), (2, _), (3, _), (4, _)]) O 1 dX4_layLasting_67 (by decide) rfl rfl (by decide) ?_
          refine z_goto O 11 dX4_layLasting_70 (by decide) ?_
          have hl2 := laOK_s hl h2 hi
          rw [show laV r we kd c i = spA r we kd c i from if_neg (by omega), ← spanV_put hc hro (by omega)] at hl2
          exact ih _ _ (fun j hj => by rw [putW_out hc hro _ (by omega), cpyN, if_neg (by omega)]; exact ho j hj) hl2
        · refine z_iconst O (nI 3) dX4_layLasting_34 (by decide) ?_
          refine z_icmp_geN O 50 dX4_layLasting_35 (by decide) (by have := g.1.1.2 c hc; omega) (by have := g.1.1.2 c hc; omega) (fun h35 => ?_) (fun h35 => by omega)
          refine z_aload_n O dX4_layLasting_50 rfl ?_
          refine z_get O dX4_layLasting_51 flX4_30 (by rfl) (by rfl) ?_
          refine z_bipush O (nI 31) dX4_layLasting_54 (by decide) ?_
          refine z_iload_n O dX4_layLasting_56 rfl ?_
          refine z_imulN O dX4_layLasting_57 ?_
          refine z_iload O dX4_layLasting_58 rfl ?_
          refine z_iaddN O dX4_layLasting_60 ?_
          refine z_aload_n O dX4_layLasting_61 rfl ?_
          refine z_iload_n O dX4_layLasting_62 rfl ?_
          refine z_V1e0 O (m_lastsOf hrt g.1.1 g.w hc) mX4_lastsOf lkX4_206 rfl (by rfl) dX4_layLasting_63 (Nat.le_of_ble_eq_true rfl) (by decide) ?_
          refine z_iastN O (by rfl) dX4_layLasting_66 (by rfl) (by omega) (by decide) ?_
          refine z_iincN (lv' := [(0, _), (1, _), (2, _), (3, _), (4, _)]) O 1 dX4_layLasting_67 (by decide) rfl rfl (by decide) ?_
          refine z_goto O 11 dX4_layLasting_70 (by decide) ?_
          have hl2 := laOK_s hl h2 hi
          rw [show laV r we kd c i = spanV r we c from if_pos (Or.inr hro)] at hl2
          exact ih _ _ (fun j hj => by rw [cpyN, if_neg (by omega)]; exact ho j hj) hl2
set_option maxRecDepth 20000 in
set_option maxHeartbeats 4000000 in
theorem m_splitB {n kd f : Int32} (hb : ¬ ((nI 2 ≤ n ∧ n ≤ nI 30) ∧ (nI 0 ≤ kd ∧ kd ≤ nI 5) ∧ (nI 0 ≤ f ∧ f ≤ nI 2))) : zS G 3 yX4_split cX4_split 14 (some .int) [.ref (zad (zb G) 21), .int n, .int kd, .int f] (yM G c0_ c1_ c2_ c3_ c4_ c5_ c6_ c7_ c8_ c9_ c10_ c11_ c12_ c13_ c14_ c15_ c16_ c17_ c18_ c19_ c20_ w kp tx txl rf ya yb at2 st2 iwd ifg nb fr la nms nd wf hh tl) 0 0 (zE (.int (-2)) (yM G c0_ c1_ c2_ c3_ c4_ c5_ c6_ c7_ c8_ c9_ c10_ c11_ c12_ c13_ c14_ c15_ c16_ c17_ c18_ c19_ c20_ w kp tx txl (updN rf 0 (rf 0 + 1)) ya yb at2 st2 iwd ifg nb fr la nms nd wf hh tl)) := by
  refine zS.of (by decide) (Nat.le_of_ble_eq_true rfl) (fun F O hR1 hR2 => ?_)
  have O : zOk G F yX4_split cX4_split 14 (some .int) RX4 3 (yM G c0_ c1_ c2_ c3_ c4_ c5_ c6_ c7_ c8_ c9_ c10_ c11_ c12_ c13_ c14_ c15_ c16_ c17_ c18_ c19_ c20_ w kp tx txl rf ya yb at2 st2 iwd ifg nb fr la nms nd wf hh tl).length := O
  refine z_eq (lv' := [(0, _), (1, _), (2, _), (3, _)]) rfl rfl rfl ?_
  refine z_iload_n O dX4_split_0 rfl ?_
  refine z_iconst O (nI 2) dX4_split_1 (by decide) ?_
  refine z_iload_n O dX4_split_2 rfl ?_
  refine z_iload_n O dX4_split_3 rfl ?_
  refine z_S4e0 O (m_isThreadI (by decide)) mX4_isThread lkX4_212 dX4_split_4 (Nat.le_of_ble_eq_true rfl) (by decide) ?_
  refine z_if_neB O 15 dX4_split_7 (by decide) (fun h7 => by exact absurd h7 hb) (fun h7 => ?_)
  refine z_aload_n O dX4_split_10 rfl ?_
  refine z_V0e0 O m_bad mX4_bad lkX4_65 rfl (by rfl) dX4_split_11 (Nat.le_of_ble_eq_true rfl) (by decide) ?_
  exact z_iret O dX4_split_14 ⟨rfl, rfl⟩
theorem scN_bd {f : Nat → Nat} {ab n : Nat} {s : Option (Nat × Nat × Nat)} (h1 : ab < 100) (hn : n ≤ 30) (hs : tbd s) (hf : ∀ i, f i < 100) : ∀ k, k ≤ n → tbd (scN f ab s k)
  | 0, _ => hs
  | k + 1, hk => by
    unfold scN
    split
    · intro q hq
      cases hq
      exact ⟨h1, by show 1 + k < 100; omega, hf _⟩
    · exact scN_bd h1 hn hs hf k (by omega)
theorem spI_sc {r we : Nat → Nat} {n kd a j : Nat} {s : Option (Nat × Nat × Nat)} (hn : 2 ≤ n) (hro : r (108 + a) < 3 ∧ r (108 + (a + 1 + j)) < 3) : spI r we n kd a s (j + 1) = scN (oneS r we n kd a (a + 1 + j) (otN r we a (a + 1 + j))) (10 * a + (a + 1 + j)) (spI r we n kd a s j) (n - 1) := by
  rw [show n - 1 = (n - 2) + 1 by omega, scN_eq]
  show (if (r (108 + a) < 3 ∧ r (108 + (a + 1 + j)) < 3) ∧ longer (bstL r we n kd a (a + 1 + j)) ((spI r we n kd a s j).map (fun q => q.2.2)) = true then _ else _) = _
  by_cases h : longer (bstL r we n kd a (a + 1 + j)) ((spI r we n kd a s j).map (fun q => q.2.2)) = true
  · rw [if_pos ⟨hro, h⟩]
    exact (if_pos h).symm
  · rw [if_neg (fun q => h q.2)]
    exact (if_neg h).symm
set_option maxRecDepth 20000 in
set_option maxHeartbeats 4000000 in
theorem m_split {we r seen kept : Nat → Nat} {rd nw ud Y : Nat} (h : RS w 0 we r seen kept rd nw ud) (g : GS Y we r seen kept rd nw ud) {n kd f : Nat} (h1 : 2 ≤ n) (h2 : n ≤ 30) (h3 : kd < 6) (h4 : f ≤ 2) : zS G 4 yX4_split cX4_split 14 (some .int) [.ref (zad (zb G) 21), .int (nI n), .int (nI kd), .int (nI f)] (yM G c0_ c1_ c2_ c3_ c4_ c5_ c6_ c7_ c8_ c9_ c10_ c11_ c12_ c13_ c14_ c15_ c16_ c17_ c18_ c19_ c20_ w kp tx txl rf ya yb at2 st2 iwd ifg nb fr la nms nd wf hh tl) 0 0 (zP (fun v M' => v = .int (if f = 0 then optI ((spO r we n kd 9).map (fun q => q.1)) else if f = 1 then optI ((spO r we n kd 9).map (fun q => q.2.1)) else optI ((spO r we n kd 9).map (fun q => q.2.2))) ∧ ∃ w' la' : Nat → Nat, smW w w' ∧ M' = (yM G c0_ c1_ c2_ c3_ c4_ c5_ c6_ c7_ c8_ c9_ c10_ c11_ c12_ c13_ c14_ c15_ c16_ c17_ c18_ c19_ c20_ w' kp tx txl rf ya yb at2 st2 iwd ifg nb fr la' nms nd wf hh tl))) := by
  refine zS.of (by decide) (Nat.le_of_ble_eq_true rfl) (fun F O hR1 hR2 => ?_)
  have O : zOk G F yX4_split cX4_split 14 (some .int) RX4 4 (yM G c0_ c1_ c2_ c3_ c4_ c5_ c6_ c7_ c8_ c9_ c10_ c11_ c12_ c13_ c14_ c15_ c16_ c17_ c18_ c19_ c20_ w kp tx txl rf ya yb at2 st2 iwd ifg nb fr la nms nd wf hh tl).length := O
  refine z_eq (lv' := [(0, _), (1, _), (2, _), (3, _)]) rfl rfl rfl ?_
  refine z_iload_n O dX4_split_0 rfl ?_
  refine z_iconst O (nI 2) dX4_split_1 (by decide) ?_
  refine z_iload_n O dX4_split_2 rfl ?_
  refine z_iload_n O dX4_split_3 rfl ?_
  refine z_S4e0 O (m_isThreadN (by decide) (by omega) (by omega) (by omega)) mX4_isThread lkX4_212 dX4_split_4 (Nat.le_of_ble_eq_true rfl) (by decide) ?_
  refine z_if_neB O 15 dX4_split_7 (by decide) (fun h7 => ?_) (fun h7 => by omega)
  refine z_aload_n O dX4_split_15 rfl ?_
  refine z_iload_n O dX4_split_16 rfl ?_
  refine z_iload_n O dX4_split_17 rfl ?_
  refine z_V2pu0 O (m_layLasting h g h1 h2 h3) mX4_layLasting lkX4_215 rfl (by rfl) dX4_split_18 (Nat.le_of_ble_eq_true rfl) (by decide) (fun M' hq => ?_)
  obtain ⟨w', la', ho, hl, rfl⟩ := hq
  refine z_iconst O (-1) dX4_split_21 (by decide) ?_
  refine z_istore (lv' := [(0, _), (1, _), (2, _), (3, _), (4, _)]) O dX4_split_22 (by decide) rfl ?_
  refine z_iconst O (-1) dX4_split_24 (by decide) ?_
  refine z_istore (lv' := [(0, _), (1, _), (2, _), (3, _), (4, _), (5, _)]) O dX4_split_25 (by decide) rfl ?_
  refine z_iconst O (-1) dX4_split_27 (by decide) ?_
  refine z_istore (lv' := [(0, _), (1, _), (2, _), (3, _), (4, _), (5, _), (6, _)]) O dX4_split_28 (by decide) rfl ?_
  refine z_iconst O (nI 0) dX4_split_30 (by decide) ?_
  refine z_istore (lv' := [(0, _), (1, _), (2, _), (3, _), (4, _), (5, _), (6, _), (7, _)]) O dX4_split_31 (by decide) rfl ?_
  refine zdown (P := fun a => Z G F 0 0 (zEnd G F (zP (fun v M' => v = .int (if f = 0 then optI ((spO r we n kd 9).map (fun q => q.1)) else if f = 1 then optI ((spO r we n kd 9).map (fun q => q.2.1)) else optI ((spO r we n kd 9).map (fun q => q.2.2))) ∧ ∃ w' la' : Nat → Nat, smW w w' ∧ M' = (yM G c0_ c1_ c2_ c3_ c4_ c5_ c6_ c7_ c8_ c9_ c10_ c11_ c12_ c13_ c14_ c15_ c16_ c17_ c18_ c19_ c20_ w' kp tx txl rf ya yb at2 st2 iwd ifg nb fr la' nms nd wf hh tl))) 0 0) 33 [(0, .ref (zad (zb G) 21)), (1, .int (nI n)), (2, .int (nI kd)), (3, .int (nI f)), (4, .int (optI ((spO r we n kd a).map (fun q => q.1)))), (5, .int (optI ((spO r we n kd a).map (fun q => q.2.1)))), (6, .int (optI ((spO r we n kd a).map (fun q => q.2.2)))), (7, .int (nI a))] [] (yM G c0_ c1_ c2_ c3_ c4_ c5_ c6_ c7_ c8_ c9_ c10_ c11_ c12_ c13_ c14_ c15_ c16_ c17_ c18_ c19_ c20_ w' kp tx txl rf ya yb at2 st2 iwd ifg nb fr la' nms nd wf hh tl)) (9) ?_ ?_ 
  · refine z_iload O dX4_split_33 rfl ?_
    refine z_bipush O (nI 9) dX4_split_35 (by decide) ?_
    refine z_icmp_geN O 290 dX4_split_37 (by decide) (by omega) (by omega) (fun h37 => ?_) (fun h37 => by omega)
    refine z_iload_n O dX4_split_290 rfl ?_
    refine z_if_neN O 299 dX4_split_291 (by decide) (by omega) (fun h291 => ?_) (fun h291 => ?_)
    · refine z_iload_n O dX4_split_299 rfl ?_
      refine z_iconst O (nI 1) dX4_split_300 (by decide) ?_
      refine z_icmp_neN O 309 dX4_split_301 (by decide) (by omega) (by omega) (fun h301 => ?_) (fun h301 => ?_)
      · refine z_iload O dX4_split_309 rfl ?_
        exact z_iret O dX4_split_311 (by first | exact ⟨_, rfl, by rw [if_pos (by assumption)], w', la', ho, rfl⟩ | exact ⟨_, rfl, by rw [if_neg (by assumption), if_pos (by assumption)], w', la', ho, rfl⟩ | exact ⟨_, rfl, by rw [if_neg (by assumption), if_neg (by assumption)], w', la', ho, rfl⟩)
      · refine z_iload O dX4_split_304 rfl ?_
        refine z_goto O 311 dX4_split_306 (by decide) ?_
        exact z_iret O dX4_split_311 (by first | exact ⟨_, rfl, by rw [if_pos (by assumption)], w', la', ho, rfl⟩ | exact ⟨_, rfl, by rw [if_neg (by assumption), if_pos (by assumption)], w', la', ho, rfl⟩ | exact ⟨_, rfl, by rw [if_neg (by assumption), if_neg (by assumption)], w', la', ho, rfl⟩)
    · refine z_iload O dX4_split_294 rfl ?_
      refine z_goto O 311 dX4_split_296 (by decide) ?_
      exact z_iret O dX4_split_311 (by first | exact ⟨_, rfl, by rw [if_pos (by assumption)], w', la', ho, rfl⟩ | exact ⟨_, rfl, by rw [if_neg (by assumption), if_pos (by assumption)], w', la', ho, rfl⟩ | exact ⟨_, rfl, by rw [if_neg (by assumption), if_neg (by assumption)], w', la', ho, rfl⟩)
  · intro a ha ih 
    refine z_iload O dX4_split_33 rfl ?_
    refine z_bipush O (nI 9) dX4_split_35 (by decide) ?_
    refine z_icmp_geN O 290 dX4_split_37 (by decide) (by omega) (by omega) (fun h37 => by omega) (fun h37 => ?_)
    refine z_iload O dX4_split_40 rfl ?_
    refine z_iconst O (nI 1) dX4_split_42 (by decide) ?_
    refine z_iaddN O dX4_split_43 ?_
    refine z_istore (lv' := [(0, _), (1, _), (2, _), (3, _), (4, _), (5, _), (6, _), (7, _), (8, _)]) O dX4_split_44 (by decide) rfl ?_
    refine zdown (P := fun j => Z G F 0 0 (zEnd G F (zP (fun v M' => v = .int (if f = 0 then optI ((spO r we n kd 9).map (fun q => q.1)) else if f = 1 then optI ((spO r we n kd 9).map (fun q => q.2.1)) else optI ((spO r we n kd 9).map (fun q => q.2.2))) ∧ ∃ w' la' : Nat → Nat, smW w w' ∧ M' = (yM G c0_ c1_ c2_ c3_ c4_ c5_ c6_ c7_ c8_ c9_ c10_ c11_ c12_ c13_ c14_ c15_ c16_ c17_ c18_ c19_ c20_ w' kp tx txl rf ya yb at2 st2 iwd ifg nb fr la' nms nd wf hh tl))) 0 0) 46 [(0, .ref (zad (zb G) 21)), (1, .int (nI n)), (2, .int (nI kd)), (3, .int (nI f)), (4, .int (optI ((spI r we n kd a (spO r we n kd a) j).map (fun q => q.1)))), (5, .int (optI ((spI r we n kd a (spO r we n kd a) j).map (fun q => q.2.1)))), (6, .int (optI ((spI r we n kd a (spO r we n kd a) j).map (fun q => q.2.2)))), (7, .int (nI a)), (8, .int (nI (a + 1 + j)))] [] (yM G c0_ c1_ c2_ c3_ c4_ c5_ c6_ c7_ c8_ c9_ c10_ c11_ c12_ c13_ c14_ c15_ c16_ c17_ c18_ c19_ c20_ w' kp tx txl rf ya yb at2 st2 iwd ifg nb fr la' nms nd wf hh tl)) (8 - a) ?_ ?_ 
    · refine z_iload O dX4_split_46 rfl ?_
      refine z_bipush O (nI 9) dX4_split_48 (by decide) ?_
      refine z_icmp_geN O 284 dX4_split_50 (by decide) (by omega) (by omega) (fun h50 => ?_) (fun h50 => by omega)
      refine z_iincN (lv' := [(0, _), (1, _), (2, _), (3, _), (4, _), (5, _), (6, _), (7, _), (8, _)]) O 1 dX4_split_284 (by decide) rfl rfl (by decide) ?_
      refine z_goto O 33 dX4_split_287 (by decide) ?_
      refine z_kp (lv' := [(0, _), (1, _), (2, _), (3, _), (4, _), (5, _), (6, _), (7, _)]) [0, 1, 2, 3, 4, 5, 6, 7] rfl ?_
      exact ih
    · intro j hj ih 
      have hb : a + 1 + j < 9 := by omega
      refine z_iload O dX4_split_46 rfl ?_
      refine z_bipush O (nI 9) dX4_split_48 (by decide) ?_
      refine z_icmp_geN O 284 dX4_split_50 (by decide) (by omega) (by omega) (fun h50 => by omega) (fun h50 => ?_)
      refine z_bipush O (nI 41) dX4_split_53 (by decide) ?_
      refine z_istore (lv' := [(0, _), (1, _), (2, _), (3, _), (4, _), (5, _), (6, _), (7, _), (8, _), (9, _)]) O dX4_split_55 (by decide) rfl ?_
      refine z_iconst O (nI 0) dX4_split_57 (by decide) ?_
      refine z_istore (lv' := [(0, _), (1, _), (2, _), (3, _), (4, _), (5, _), (6, _), (7, _), (8, _), (9, _), (10, _)]) O dX4_split_58 (by decide) rfl ?_
      refine zdown (P := fun c => Z G F 0 0 (zEnd G F (zP (fun v M' => v = .int (if f = 0 then optI ((spO r we n kd 9).map (fun q => q.1)) else if f = 1 then optI ((spO r we n kd 9).map (fun q => q.2.1)) else optI ((spO r we n kd 9).map (fun q => q.2.2))) ∧ ∃ w' la' : Nat → Nat, smW w w' ∧ M' = (yM G c0_ c1_ c2_ c3_ c4_ c5_ c6_ c7_ c8_ c9_ c10_ c11_ c12_ c13_ c14_ c15_ c16_ c17_ c18_ c19_ c20_ w' kp tx txl rf ya yb at2 st2 iwd ifg nb fr la' nms nd wf hh tl))) 0 0) 60 [(0, .ref (zad (zb G) 21)), (1, .int (nI n)), (2, .int (nI kd)), (3, .int (nI f)), (4, .int (optI ((spI r we n kd a (spO r we n kd a) j).map (fun q => q.1)))), (5, .int (optI ((spI r we n kd a (spO r we n kd a) j).map (fun q => q.2.1)))), (6, .int (optI ((spI r we n kd a (spO r we n kd a) j).map (fun q => q.2.2)))), (7, .int (nI a)), (8, .int (nI (a + 1 + j))), (9, .int (nI (lsN (spanV r we) (some a) (some (a + 1 + j)) c))), (10, .int (nI c))] [] (yM G c0_ c1_ c2_ c3_ c4_ c5_ c6_ c7_ c8_ c9_ c10_ c11_ c12_ c13_ c14_ c15_ c16_ c17_ c18_ c19_ c20_ w' kp tx txl rf ya yb at2 st2 iwd ifg nb fr la' nms nd wf hh tl)) (9) ?_ ?_ 
      · refine z_iload O dX4_split_60 rfl ?_
        refine z_bipush O (nI 9) dX4_split_62 (by decide) ?_
        refine z_icmp_geN O 119 dX4_split_64 (by decide) (by omega) (by omega) (fun h64 => ?_) (fun h64 => by omega)
        by_cases hro : r (108 + a) < 3 ∧ r (108 + (a + 1 + j)) < 3
        · refine z_iconst O (nI 1) dX4_split_119 (by decide) ?_
          refine z_istore (lv' := [(0, _), (1, _), (2, _), (3, _), (4, _), (5, _), (6, _), (7, _), (8, _), (9, _), (10, _)]) O dX4_split_120 (by decide) rfl ?_
          have scbd : ∀ k, k ≤ n - 1 → tbd (scN (oneS r we n kd a (a + 1 + j) (otN r we a (a + 1 + j))) (10 * a + (a + 1 + j)) (spI r we n kd a (spO r we n kd a) j) k) := fun k hk => scN_bd (by omega) (by omega) (spI_bd h2 ha (spO_bd h2 a (by omega)) j (by omega)) (fun i => Nat.lt_of_le_of_lt (Nat.min_le_right _ _) (by have := lsN_le (spanV r we) (some a) (some (a + 1 + j)) 9; unfold otN; omega)) k hk
          refine zdown (P := fun k => Z G F 0 0 (zEnd G F (zP (fun v M' => v = .int (if f = 0 then optI ((spO r we n kd 9).map (fun q => q.1)) else if f = 1 then optI ((spO r we n kd 9).map (fun q => q.2.1)) else optI ((spO r we n kd 9).map (fun q => q.2.2))) ∧ ∃ w' la' : Nat → Nat, smW w w' ∧ M' = (yM G c0_ c1_ c2_ c3_ c4_ c5_ c6_ c7_ c8_ c9_ c10_ c11_ c12_ c13_ c14_ c15_ c16_ c17_ c18_ c19_ c20_ w' kp tx txl rf ya yb at2 st2 iwd ifg nb fr la' nms nd wf hh tl))) 0 0) 122 [(0, .ref (zad (zb G) 21)), (1, .int (nI n)), (2, .int (nI kd)), (3, .int (nI f)), (4, .int (optI ((scN (oneS r we n kd a (a + 1 + j) (otN r we a (a + 1 + j))) (10 * a + (a + 1 + j)) (spI r we n kd a (spO r we n kd a) j) k).map (fun q => q.1)))), (5, .int (optI ((scN (oneS r we n kd a (a + 1 + j) (otN r we a (a + 1 + j))) (10 * a + (a + 1 + j)) (spI r we n kd a (spO r we n kd a) j) k).map (fun q => q.2.1)))), (6, .int (optI ((scN (oneS r we n kd a (a + 1 + j) (otN r we a (a + 1 + j))) (10 * a + (a + 1 + j)) (spI r we n kd a (spO r we n kd a) j) k).map (fun q => q.2.2)))), (7, .int (nI a)), (8, .int (nI (a + 1 + j))), (9, .int (nI (lsN (spanV r we) (some a) (some (a + 1 + j)) 9))), (10, .int (nI (1 + k)))] [] (yM G c0_ c1_ c2_ c3_ c4_ c5_ c6_ c7_ c8_ c9_ c10_ c11_ c12_ c13_ c14_ c15_ c16_ c17_ c18_ c19_ c20_ w' kp tx txl rf ya yb at2 st2 iwd ifg nb fr la' nms nd wf hh tl)) (n - 1) ?_ ?_ 
          · refine z_iload O dX4_split_122 rfl ?_
            refine z_iload_n O dX4_split_124 rfl ?_
            refine z_icmp_geN O 278 dX4_split_125 (by decide) (by omega) (by omega) (fun h125 => ?_) (fun h125 => by omega)
            refine z_iincN (lv' := [(0, _), (1, _), (2, _), (3, _), (4, _), (5, _), (6, _), (7, _), (8, _), (9, _), (10, _)]) O 1 dX4_split_278 (by decide) rfl rfl (by decide) ?_
            refine z_goto O 46 dX4_split_281 (by decide) ?_
            refine z_kp (lv' := [(0, _), (1, _), (2, _), (3, _), (4, _), (5, _), (6, _), (7, _), (8, _)]) [0, 1, 2, 3, 4, 5, 6, 7, 8] rfl ?_
            rw [show spI r we n kd a (spO r we n kd a) (j + 1) = (scN (oneS r we n kd a (a + 1 + j) (otN r we a (a + 1 + j))) (10 * a + (a + 1 + j)) (spI r we n kd a (spO r we n kd a) j) (n - 1)) from (spI_sc (by omega) hro)] at ih
            exact ih
          · intro k hk ih 
            have hA := spA_le r we kd a (1 + k)
            have hB := spA_le r we kd (a + 1 + j) (n - (1 + k))
            have hO := lsN_le (spanV r we) (some a) (some (a + 1 + j)) 9
            refine z_iload O dX4_split_122 rfl ?_
            refine z_iload_n O dX4_split_124 rfl ?_
            refine z_icmp_geN O 278 dX4_split_125 (by decide) (by omega) (by omega) (fun h125 => by omega) (fun h125 => ?_)
            refine z_aload_n O dX4_split_128 rfl ?_
            refine z_get O dX4_split_129 flX4_7 (by rfl) (by rfl) ?_
            refine z_iconst O (nI 1) dX4_split_132 (by decide) ?_
            refine z_iload O dX4_split_133 rfl ?_
            refine z_iaddN O dX4_split_135 ?_
            refine z_ialdN O dX4_split_136 (by rfl) (by omega) (by decide) ?_
            refine z_top (v' := .int (nI (r (108 + a)))) (congrArg Value.int (congrArg nI ((ho (1 + a) (by omega)).trans (h.m ha)))) ?_
            refine z_iconst O (nI 3) dX4_split_137 (by decide) ?_
            refine z_icmp_geN O 278 dX4_split_138 (by decide) (by have := g.1.1.2 a ha; omega) (by have := g.1.1.2 a ha; omega) (fun h138 => by omega) (fun h138 => ?_)
            refine z_aload_n O dX4_split_141 rfl ?_
            refine z_get O dX4_split_142 flX4_7 (by rfl) (by rfl) ?_
            refine z_iconst O (nI 1) dX4_split_145 (by decide) ?_
            refine z_iload O dX4_split_146 rfl ?_
            refine z_iaddN O dX4_split_148 ?_
            refine z_ialdN O dX4_split_149 (by rfl) (by omega) (by decide) ?_
            refine z_top (v' := .int (nI (r (108 + (a + 1 + j))))) (congrArg Value.int (congrArg nI ((ho (1 + (a + 1 + j)) (by omega)).trans (h.m hb)))) ?_
            refine z_iconst O (nI 3) dX4_split_150 (by decide) ?_
            refine z_icmp_geN O 278 dX4_split_151 (by decide) (by have := g.1.1.2 (a + 1 + j) hb; omega) (by have := g.1.1.2 (a + 1 + j) hb; omega) (fun h151 => by omega) (fun h151 => ?_)
            refine z_aload_n O dX4_split_154 rfl ?_
            refine z_get O dX4_split_155 flX4_30 (by rfl) (by rfl) ?_
            refine z_bipush O (nI 31) dX4_split_158 (by decide) ?_
            refine z_iload O dX4_split_160 rfl ?_
            refine z_imulN O dX4_split_162 ?_
            refine z_iload O dX4_split_163 rfl ?_
            refine z_iaddN O dX4_split_165 ?_
            refine z_ialdN O dX4_split_166 (by rfl) (by omega) (by decide) ?_
            refine z_top (v' := .int (nI (spA r we kd a (1 + k)))) (congrArg Value.int (congrArg nI ((hl a (1 + k) ha (by omega)).trans (if_neg (by omega))))) ?_
            refine z_istore (lv' := [(0, _), (1, _), (2, _), (3, _), (4, _), (5, _), (6, _), (7, _), (8, _), (9, _), (10, _), (11, _)]) O dX4_split_167 (by decide) rfl ?_
            refine z_aload_n O dX4_split_169 rfl ?_
            refine z_get O dX4_split_170 flX4_30 (by rfl) (by rfl) ?_
            refine z_bipush O (nI 31) dX4_split_173 (by decide) ?_
            refine z_iload O dX4_split_175 rfl ?_
            refine z_imulN O dX4_split_177 ?_
            refine z_iload_n O dX4_split_178 rfl ?_
            refine z_iaddN O dX4_split_179 ?_
            refine z_iload O dX4_split_180 rfl ?_
            refine z_isubN O dX4_split_182 (by omega) ?_
            refine z_ialdN O dX4_split_183 (by rfl) (by omega) (by decide) ?_
            refine z_top (v' := .int (nI (spA r we kd (a + 1 + j) (n - (1 + k))))) (congrArg Value.int (congrArg nI (by rw [show 31 * (a + 1 + j) + n - (1 + k) = 31 * (a + 1 + j) + (n - (1 + k)) by omega]; exact (hl (a + 1 + j) (n - (1 + k)) hb (by omega)).trans (if_neg (by omega))))) ?_
            refine z_istore (lv' := [(0, _), (1, _), (2, _), (3, _), (4, _), (5, _), (6, _), (7, _), (8, _), (9, _), (10, _), (11, _), (12, _)]) O dX4_split_184 (by decide) rfl ?_
            by_cases h1x : spA r we kd a (1 + k) < spA r we kd (a + 1 + j) (n - (1 + k))
            · refine z_iload O dX4_split_186 rfl ?_
              refine z_iload O dX4_split_188 rfl ?_
              refine z_icmp_geN O 198 dX4_split_190 (by decide) (by omega) (by omega) (fun h190 => by omega) (fun h190 => ?_)
              refine z_iload O dX4_split_193 rfl ?_
              refine z_goto O 200 dX4_split_195 (by decide) ?_
              refine z_istore (lv' := [(0, _), (1, _), (2, _), (3, _), (4, _), (5, _), (6, _), (7, _), (8, _), (9, _), (10, _), (11, _), (12, _), (13, _)]) O dX4_split_200 (by decide) rfl ?_
              by_cases h2x : lsN (spanV r we) (some a) (some (a + 1 + j)) 9 < spA r we kd a (1 + k)
              · refine z_iload O dX4_split_202 rfl ?_
                refine z_iload O dX4_split_204 rfl ?_
                refine z_icmp_geN O 214 dX4_split_206 (by decide) (by omega) (by omega) (fun h206 => by omega) (fun h206 => ?_)
                refine z_iload O dX4_split_209 rfl ?_
                refine z_goto O 216 dX4_split_211 (by decide) ?_
                refine z_istore (lv' := [(0, _), (1, _), (2, _), (3, _), (4, _), (5, _), (6, _), (7, _), (8, _), (9, _), (10, _), (11, _), (12, _), (13, _)]) O dX4_split_216 (by decide) rfl ?_
                have hone : (oneS r we n kd a (a + 1 + j) (otN r we a (a + 1 + j))) (1 + k) = lsN (spanV r we) (some a) (some (a + 1 + j)) 9 := by unfold oneS otN; omega
                have hlb := longer_le (a := lsN (spanV r we) (some a) (some (a + 1 + j)) 9) (o := (scN (oneS r we n kd a (a + 1 + j) (otN r we a (a + 1 + j))) (10 * a + (a + 1 + j)) (spI r we n kd a (spO r we n kd a) j) k).map (fun q => q.2.2)) (by omega) (tbd_3 (scbd k (by omega)))
                by_cases hlg : longer (lsN (spanV r we) (some a) (some (a + 1 + j)) 9) ((scN (oneS r we n kd a (a + 1 + j) (otN r we a (a + 1 + j))) (10 * a + (a + 1 + j)) (spI r we n kd a (spO r we n kd a) j) k).map (fun q => q.2.2)) = true
                · refine z_iload O dX4_split_218 rfl ?_
                  refine z_iload O dX4_split_220 rfl ?_
                  refine z_icmp_le O 236 dX4_split_222 (by decide) (fun h222 => by exact absurd (hlb.mp h222) (by rw [hlg]; decide)) (fun h222 => ?_)
                  refine z_bipush O (nI 10) dX4_split_225 (by decide) ?_
                  refine z_iload O dX4_split_227 rfl ?_
                  refine z_imulN O dX4_split_229 ?_
                  refine z_iload O dX4_split_230 rfl ?_
                  refine z_iaddN O dX4_split_232 ?_
                  refine z_goto O 238 dX4_split_233 (by decide) ?_
                  refine z_istore (lv' := [(0, _), (1, _), (2, _), (3, _), (4, _), (5, _), (6, _), (7, _), (8, _), (9, _), (10, _), (11, _), (12, _), (13, _)]) O dX4_split_238 (by decide) rfl ?_
                  refine z_iload O dX4_split_240 rfl ?_
                  refine z_iload O dX4_split_242 rfl ?_
                  refine z_icmp_le O 252 dX4_split_244 (by decide) (fun h244 => by exact absurd (hlb.mp h244) (by rw [hlg]; decide)) (fun h244 => ?_)
                  refine z_iload O dX4_split_247 rfl ?_
                  refine z_goto O 254 dX4_split_249 (by decide) ?_
                  refine z_istore (lv' := [(0, _), (1, _), (2, _), (3, _), (4, _), (5, _), (6, _), (7, _), (8, _), (9, _), (10, _), (11, _), (12, _), (13, _)]) O dX4_split_254 (by decide) rfl ?_
                  refine z_iload O dX4_split_256 rfl ?_
                  refine z_iload O dX4_split_258 rfl ?_
                  refine z_icmp_le O 268 dX4_split_260 (by decide) (fun h260 => by exact absurd (hlb.mp h260) (by rw [hlg]; decide)) (fun h260 => ?_)
                  refine z_iload O dX4_split_263 rfl ?_
                  refine z_goto O 270 dX4_split_265 (by decide) ?_
                  refine z_istore (lv' := [(0, _), (1, _), (2, _), (3, _), (4, _), (5, _), (6, _), (7, _), (8, _), (9, _), (10, _), (11, _), (12, _), (13, _)]) O dX4_split_270 (by decide) rfl ?_
                  refine z_iincN (lv' := [(0, _), (1, _), (2, _), (3, _), (4, _), (5, _), (6, _), (7, _), (8, _), (9, _), (10, _), (11, _), (12, _), (13, _)]) O 1 dX4_split_272 (by decide) rfl rfl (by decide) ?_
                  refine z_goto O 122 dX4_split_275 (by decide) ?_
                  refine z_kp (lv' := [(0, _), (1, _), (2, _), (3, _), (4, _), (5, _), (6, _), (7, _), (8, _), (9, _), (10, _)]) [0, 1, 2, 3, 4, 5, 6, 7, 8, 9, 10] rfl ?_
                  rw [show (scN (oneS r we n kd a (a + 1 + j) (otN r we a (a + 1 + j))) (10 * a + (a + 1 + j)) (spI r we n kd a (spO r we n kd a) j) (k + 1)) = some (10 * a + (a + 1 + j), 1 + k, lsN (spanV r we) (some a) (some (a + 1 + j)) 9) from (if_pos (by rw [hone]; exact hlg)).trans (by rw [hone])] at ih
                  exact ih
                · refine z_iload O dX4_split_218 rfl ?_
                  refine z_iload O dX4_split_220 rfl ?_
                  refine z_icmp_le O 236 dX4_split_222 (by decide) (fun h222 => ?_) (fun h222 => by exact absurd (zbnf (fun q => h222 (hlb.mpr q))) hlg)
                  refine z_iload O dX4_split_236 rfl ?_
                  refine z_istore (lv' := [(0, _), (1, _), (2, _), (3, _), (4, _), (5, _), (6, _), (7, _), (8, _), (9, _), (10, _), (11, _), (12, _), (13, _)]) O dX4_split_238 (by decide) rfl ?_
                  refine z_iload O dX4_split_240 rfl ?_
                  refine z_iload O dX4_split_242 rfl ?_
                  refine z_icmp_le O 252 dX4_split_244 (by decide) (fun h244 => ?_) (fun h244 => by exact absurd (zbnf (fun q => h244 (hlb.mpr q))) hlg)
                  refine z_iload O dX4_split_252 rfl ?_
                  refine z_istore (lv' := [(0, _), (1, _), (2, _), (3, _), (4, _), (5, _), (6, _), (7, _), (8, _), (9, _), (10, _), (11, _), (12, _), (13, _)]) O dX4_split_254 (by decide) rfl ?_
                  refine z_iload O dX4_split_256 rfl ?_
                  refine z_iload O dX4_split_258 rfl ?_
                  refine z_icmp_le O 268 dX4_split_260 (by decide) (fun h260 => ?_) (fun h260 => by exact absurd (zbnf (fun q => h260 (hlb.mpr q))) hlg)
                  refine z_iload O dX4_split_268 rfl ?_
                  refine z_istore (lv' := [(0, _), (1, _), (2, _), (3, _), (4, _), (5, _), (6, _), (7, _), (8, _), (9, _), (10, _), (11, _), (12, _), (13, _)]) O dX4_split_270 (by decide) rfl ?_
                  refine z_iincN (lv' := [(0, _), (1, _), (2, _), (3, _), (4, _), (5, _), (6, _), (7, _), (8, _), (9, _), (10, _), (11, _), (12, _), (13, _)]) O 1 dX4_split_272 (by decide) rfl rfl (by decide) ?_
                  refine z_goto O 122 dX4_split_275 (by decide) ?_
                  refine z_kp (lv' := [(0, _), (1, _), (2, _), (3, _), (4, _), (5, _), (6, _), (7, _), (8, _), (9, _), (10, _)]) [0, 1, 2, 3, 4, 5, 6, 7, 8, 9, 10] rfl ?_
                  rw [show (scN (oneS r we n kd a (a + 1 + j) (otN r we a (a + 1 + j))) (10 * a + (a + 1 + j)) (spI r we n kd a (spO r we n kd a) j) (k + 1)) = (scN (oneS r we n kd a (a + 1 + j) (otN r we a (a + 1 + j))) (10 * a + (a + 1 + j)) (spI r we n kd a (spO r we n kd a) j) k) from if_neg (by rw [hone]; exact hlg)] at ih
                  exact ih
              · refine z_iload O dX4_split_202 rfl ?_
                refine z_iload O dX4_split_204 rfl ?_
                refine z_icmp_geN O 214 dX4_split_206 (by decide) (by omega) (by omega) (fun h206 => ?_) (fun h206 => by omega)
                refine z_iload O dX4_split_214 rfl ?_
                refine z_istore (lv' := [(0, _), (1, _), (2, _), (3, _), (4, _), (5, _), (6, _), (7, _), (8, _), (9, _), (10, _), (11, _), (12, _), (13, _)]) O dX4_split_216 (by decide) rfl ?_
                have hone : (oneS r we n kd a (a + 1 + j) (otN r we a (a + 1 + j))) (1 + k) = spA r we kd a (1 + k) := by unfold oneS otN; omega
                have hlb := longer_le (a := spA r we kd a (1 + k)) (o := (scN (oneS r we n kd a (a + 1 + j) (otN r we a (a + 1 + j))) (10 * a + (a + 1 + j)) (spI r we n kd a (spO r we n kd a) j) k).map (fun q => q.2.2)) (by omega) (tbd_3 (scbd k (by omega)))
                by_cases hlg : longer (spA r we kd a (1 + k)) ((scN (oneS r we n kd a (a + 1 + j) (otN r we a (a + 1 + j))) (10 * a + (a + 1 + j)) (spI r we n kd a (spO r we n kd a) j) k).map (fun q => q.2.2)) = true
                · refine z_iload O dX4_split_218 rfl ?_
                  refine z_iload O dX4_split_220 rfl ?_
                  refine z_icmp_le O 236 dX4_split_222 (by decide) (fun h222 => by exact absurd (hlb.mp h222) (by rw [hlg]; decide)) (fun h222 => ?_)
                  refine z_bipush O (nI 10) dX4_split_225 (by decide) ?_
                  refine z_iload O dX4_split_227 rfl ?_
                  refine z_imulN O dX4_split_229 ?_
                  refine z_iload O dX4_split_230 rfl ?_
                  refine z_iaddN O dX4_split_232 ?_
                  refine z_goto O 238 dX4_split_233 (by decide) ?_
                  refine z_istore (lv' := [(0, _), (1, _), (2, _), (3, _), (4, _), (5, _), (6, _), (7, _), (8, _), (9, _), (10, _), (11, _), (12, _), (13, _)]) O dX4_split_238 (by decide) rfl ?_
                  refine z_iload O dX4_split_240 rfl ?_
                  refine z_iload O dX4_split_242 rfl ?_
                  refine z_icmp_le O 252 dX4_split_244 (by decide) (fun h244 => by exact absurd (hlb.mp h244) (by rw [hlg]; decide)) (fun h244 => ?_)
                  refine z_iload O dX4_split_247 rfl ?_
                  refine z_goto O 254 dX4_split_249 (by decide) ?_
                  refine z_istore (lv' := [(0, _), (1, _), (2, _), (3, _), (4, _), (5, _), (6, _), (7, _), (8, _), (9, _), (10, _), (11, _), (12, _), (13, _)]) O dX4_split_254 (by decide) rfl ?_
                  refine z_iload O dX4_split_256 rfl ?_
                  refine z_iload O dX4_split_258 rfl ?_
                  refine z_icmp_le O 268 dX4_split_260 (by decide) (fun h260 => by exact absurd (hlb.mp h260) (by rw [hlg]; decide)) (fun h260 => ?_)
                  refine z_iload O dX4_split_263 rfl ?_
                  refine z_goto O 270 dX4_split_265 (by decide) ?_
                  refine z_istore (lv' := [(0, _), (1, _), (2, _), (3, _), (4, _), (5, _), (6, _), (7, _), (8, _), (9, _), (10, _), (11, _), (12, _), (13, _)]) O dX4_split_270 (by decide) rfl ?_
                  refine z_iincN (lv' := [(0, _), (1, _), (2, _), (3, _), (4, _), (5, _), (6, _), (7, _), (8, _), (9, _), (10, _), (11, _), (12, _), (13, _)]) O 1 dX4_split_272 (by decide) rfl rfl (by decide) ?_
                  refine z_goto O 122 dX4_split_275 (by decide) ?_
                  refine z_kp (lv' := [(0, _), (1, _), (2, _), (3, _), (4, _), (5, _), (6, _), (7, _), (8, _), (9, _), (10, _)]) [0, 1, 2, 3, 4, 5, 6, 7, 8, 9, 10] rfl ?_
                  rw [show (scN (oneS r we n kd a (a + 1 + j) (otN r we a (a + 1 + j))) (10 * a + (a + 1 + j)) (spI r we n kd a (spO r we n kd a) j) (k + 1)) = some (10 * a + (a + 1 + j), 1 + k, spA r we kd a (1 + k)) from (if_pos (by rw [hone]; exact hlg)).trans (by rw [hone])] at ih
                  exact ih
                · refine z_iload O dX4_split_218 rfl ?_
                  refine z_iload O dX4_split_220 rfl ?_
                  refine z_icmp_le O 236 dX4_split_222 (by decide) (fun h222 => ?_) (fun h222 => by exact absurd (zbnf (fun q => h222 (hlb.mpr q))) hlg)
                  refine z_iload O dX4_split_236 rfl ?_
                  refine z_istore (lv' := [(0, _), (1, _), (2, _), (3, _), (4, _), (5, _), (6, _), (7, _), (8, _), (9, _), (10, _), (11, _), (12, _), (13, _)]) O dX4_split_238 (by decide) rfl ?_
                  refine z_iload O dX4_split_240 rfl ?_
                  refine z_iload O dX4_split_242 rfl ?_
                  refine z_icmp_le O 252 dX4_split_244 (by decide) (fun h244 => ?_) (fun h244 => by exact absurd (zbnf (fun q => h244 (hlb.mpr q))) hlg)
                  refine z_iload O dX4_split_252 rfl ?_
                  refine z_istore (lv' := [(0, _), (1, _), (2, _), (3, _), (4, _), (5, _), (6, _), (7, _), (8, _), (9, _), (10, _), (11, _), (12, _), (13, _)]) O dX4_split_254 (by decide) rfl ?_
                  refine z_iload O dX4_split_256 rfl ?_
                  refine z_iload O dX4_split_258 rfl ?_
                  refine z_icmp_le O 268 dX4_split_260 (by decide) (fun h260 => ?_) (fun h260 => by exact absurd (zbnf (fun q => h260 (hlb.mpr q))) hlg)
                  refine z_iload O dX4_split_268 rfl ?_
                  refine z_istore (lv' := [(0, _), (1, _), (2, _), (3, _), (4, _), (5, _), (6, _), (7, _), (8, _), (9, _), (10, _), (11, _), (12, _), (13, _)]) O dX4_split_270 (by decide) rfl ?_
                  refine z_iincN (lv' := [(0, _), (1, _), (2, _), (3, _), (4, _), (5, _), (6, _), (7, _), (8, _), (9, _), (10, _), (11, _), (12, _), (13, _)]) O 1 dX4_split_272 (by decide) rfl rfl (by decide) ?_
                  refine z_goto O 122 dX4_split_275 (by decide) ?_
                  refine z_kp (lv' := [(0, _), (1, _), (2, _), (3, _), (4, _), (5, _), (6, _), (7, _), (8, _), (9, _), (10, _)]) [0, 1, 2, 3, 4, 5, 6, 7, 8, 9, 10] rfl ?_
                  rw [show (scN (oneS r we n kd a (a + 1 + j) (otN r we a (a + 1 + j))) (10 * a + (a + 1 + j)) (spI r we n kd a (spO r we n kd a) j) (k + 1)) = (scN (oneS r we n kd a (a + 1 + j) (otN r we a (a + 1 + j))) (10 * a + (a + 1 + j)) (spI r we n kd a (spO r we n kd a) j) k) from if_neg (by rw [hone]; exact hlg)] at ih
                  exact ih
            · refine z_iload O dX4_split_186 rfl ?_
              refine z_iload O dX4_split_188 rfl ?_
              refine z_icmp_geN O 198 dX4_split_190 (by decide) (by omega) (by omega) (fun h190 => ?_) (fun h190 => by omega)
              refine z_iload O dX4_split_198 rfl ?_
              refine z_istore (lv' := [(0, _), (1, _), (2, _), (3, _), (4, _), (5, _), (6, _), (7, _), (8, _), (9, _), (10, _), (11, _), (12, _), (13, _)]) O dX4_split_200 (by decide) rfl ?_
              by_cases h2x : lsN (spanV r we) (some a) (some (a + 1 + j)) 9 < spA r we kd (a + 1 + j) (n - (1 + k))
              · refine z_iload O dX4_split_202 rfl ?_
                refine z_iload O dX4_split_204 rfl ?_
                refine z_icmp_geN O 214 dX4_split_206 (by decide) (by omega) (by omega) (fun h206 => by omega) (fun h206 => ?_)
                refine z_iload O dX4_split_209 rfl ?_
                refine z_goto O 216 dX4_split_211 (by decide) ?_
                refine z_istore (lv' := [(0, _), (1, _), (2, _), (3, _), (4, _), (5, _), (6, _), (7, _), (8, _), (9, _), (10, _), (11, _), (12, _), (13, _)]) O dX4_split_216 (by decide) rfl ?_
                have hone : (oneS r we n kd a (a + 1 + j) (otN r we a (a + 1 + j))) (1 + k) = lsN (spanV r we) (some a) (some (a + 1 + j)) 9 := by unfold oneS otN; omega
                have hlb := longer_le (a := lsN (spanV r we) (some a) (some (a + 1 + j)) 9) (o := (scN (oneS r we n kd a (a + 1 + j) (otN r we a (a + 1 + j))) (10 * a + (a + 1 + j)) (spI r we n kd a (spO r we n kd a) j) k).map (fun q => q.2.2)) (by omega) (tbd_3 (scbd k (by omega)))
                by_cases hlg : longer (lsN (spanV r we) (some a) (some (a + 1 + j)) 9) ((scN (oneS r we n kd a (a + 1 + j) (otN r we a (a + 1 + j))) (10 * a + (a + 1 + j)) (spI r we n kd a (spO r we n kd a) j) k).map (fun q => q.2.2)) = true
                · refine z_iload O dX4_split_218 rfl ?_
                  refine z_iload O dX4_split_220 rfl ?_
                  refine z_icmp_le O 236 dX4_split_222 (by decide) (fun h222 => by exact absurd (hlb.mp h222) (by rw [hlg]; decide)) (fun h222 => ?_)
                  refine z_bipush O (nI 10) dX4_split_225 (by decide) ?_
                  refine z_iload O dX4_split_227 rfl ?_
                  refine z_imulN O dX4_split_229 ?_
                  refine z_iload O dX4_split_230 rfl ?_
                  refine z_iaddN O dX4_split_232 ?_
                  refine z_goto O 238 dX4_split_233 (by decide) ?_
                  refine z_istore (lv' := [(0, _), (1, _), (2, _), (3, _), (4, _), (5, _), (6, _), (7, _), (8, _), (9, _), (10, _), (11, _), (12, _), (13, _)]) O dX4_split_238 (by decide) rfl ?_
                  refine z_iload O dX4_split_240 rfl ?_
                  refine z_iload O dX4_split_242 rfl ?_
                  refine z_icmp_le O 252 dX4_split_244 (by decide) (fun h244 => by exact absurd (hlb.mp h244) (by rw [hlg]; decide)) (fun h244 => ?_)
                  refine z_iload O dX4_split_247 rfl ?_
                  refine z_goto O 254 dX4_split_249 (by decide) ?_
                  refine z_istore (lv' := [(0, _), (1, _), (2, _), (3, _), (4, _), (5, _), (6, _), (7, _), (8, _), (9, _), (10, _), (11, _), (12, _), (13, _)]) O dX4_split_254 (by decide) rfl ?_
                  refine z_iload O dX4_split_256 rfl ?_
                  refine z_iload O dX4_split_258 rfl ?_
                  refine z_icmp_le O 268 dX4_split_260 (by decide) (fun h260 => by exact absurd (hlb.mp h260) (by rw [hlg]; decide)) (fun h260 => ?_)
                  refine z_iload O dX4_split_263 rfl ?_
                  refine z_goto O 270 dX4_split_265 (by decide) ?_
                  refine z_istore (lv' := [(0, _), (1, _), (2, _), (3, _), (4, _), (5, _), (6, _), (7, _), (8, _), (9, _), (10, _), (11, _), (12, _), (13, _)]) O dX4_split_270 (by decide) rfl ?_
                  refine z_iincN (lv' := [(0, _), (1, _), (2, _), (3, _), (4, _), (5, _), (6, _), (7, _), (8, _), (9, _), (10, _), (11, _), (12, _), (13, _)]) O 1 dX4_split_272 (by decide) rfl rfl (by decide) ?_
                  refine z_goto O 122 dX4_split_275 (by decide) ?_
                  refine z_kp (lv' := [(0, _), (1, _), (2, _), (3, _), (4, _), (5, _), (6, _), (7, _), (8, _), (9, _), (10, _)]) [0, 1, 2, 3, 4, 5, 6, 7, 8, 9, 10] rfl ?_
                  rw [show (scN (oneS r we n kd a (a + 1 + j) (otN r we a (a + 1 + j))) (10 * a + (a + 1 + j)) (spI r we n kd a (spO r we n kd a) j) (k + 1)) = some (10 * a + (a + 1 + j), 1 + k, lsN (spanV r we) (some a) (some (a + 1 + j)) 9) from (if_pos (by rw [hone]; exact hlg)).trans (by rw [hone])] at ih
                  exact ih
                · refine z_iload O dX4_split_218 rfl ?_
                  refine z_iload O dX4_split_220 rfl ?_
                  refine z_icmp_le O 236 dX4_split_222 (by decide) (fun h222 => ?_) (fun h222 => by exact absurd (zbnf (fun q => h222 (hlb.mpr q))) hlg)
                  refine z_iload O dX4_split_236 rfl ?_
                  refine z_istore (lv' := [(0, _), (1, _), (2, _), (3, _), (4, _), (5, _), (6, _), (7, _), (8, _), (9, _), (10, _), (11, _), (12, _), (13, _)]) O dX4_split_238 (by decide) rfl ?_
                  refine z_iload O dX4_split_240 rfl ?_
                  refine z_iload O dX4_split_242 rfl ?_
                  refine z_icmp_le O 252 dX4_split_244 (by decide) (fun h244 => ?_) (fun h244 => by exact absurd (zbnf (fun q => h244 (hlb.mpr q))) hlg)
                  refine z_iload O dX4_split_252 rfl ?_
                  refine z_istore (lv' := [(0, _), (1, _), (2, _), (3, _), (4, _), (5, _), (6, _), (7, _), (8, _), (9, _), (10, _), (11, _), (12, _), (13, _)]) O dX4_split_254 (by decide) rfl ?_
                  refine z_iload O dX4_split_256 rfl ?_
                  refine z_iload O dX4_split_258 rfl ?_
                  refine z_icmp_le O 268 dX4_split_260 (by decide) (fun h260 => ?_) (fun h260 => by exact absurd (zbnf (fun q => h260 (hlb.mpr q))) hlg)
                  refine z_iload O dX4_split_268 rfl ?_
                  refine z_istore (lv' := [(0, _), (1, _), (2, _), (3, _), (4, _), (5, _), (6, _), (7, _), (8, _), (9, _), (10, _), (11, _), (12, _), (13, _)]) O dX4_split_270 (by decide) rfl ?_
                  refine z_iincN (lv' := [(0, _), (1, _), (2, _), (3, _), (4, _), (5, _), (6, _), (7, _), (8, _), (9, _), (10, _), (11, _), (12, _), (13, _)]) O 1 dX4_split_272 (by decide) rfl rfl (by decide) ?_
                  refine z_goto O 122 dX4_split_275 (by decide) ?_
                  refine z_kp (lv' := [(0, _), (1, _), (2, _), (3, _), (4, _), (5, _), (6, _), (7, _), (8, _), (9, _), (10, _)]) [0, 1, 2, 3, 4, 5, 6, 7, 8, 9, 10] rfl ?_
                  rw [show (scN (oneS r we n kd a (a + 1 + j) (otN r we a (a + 1 + j))) (10 * a + (a + 1 + j)) (spI r we n kd a (spO r we n kd a) j) (k + 1)) = (scN (oneS r we n kd a (a + 1 + j) (otN r we a (a + 1 + j))) (10 * a + (a + 1 + j)) (spI r we n kd a (spO r we n kd a) j) k) from if_neg (by rw [hone]; exact hlg)] at ih
                  exact ih
              · refine z_iload O dX4_split_202 rfl ?_
                refine z_iload O dX4_split_204 rfl ?_
                refine z_icmp_geN O 214 dX4_split_206 (by decide) (by omega) (by omega) (fun h206 => ?_) (fun h206 => by omega)
                refine z_iload O dX4_split_214 rfl ?_
                refine z_istore (lv' := [(0, _), (1, _), (2, _), (3, _), (4, _), (5, _), (6, _), (7, _), (8, _), (9, _), (10, _), (11, _), (12, _), (13, _)]) O dX4_split_216 (by decide) rfl ?_
                have hone : (oneS r we n kd a (a + 1 + j) (otN r we a (a + 1 + j))) (1 + k) = spA r we kd (a + 1 + j) (n - (1 + k)) := by unfold oneS otN; omega
                have hlb := longer_le (a := spA r we kd (a + 1 + j) (n - (1 + k))) (o := (scN (oneS r we n kd a (a + 1 + j) (otN r we a (a + 1 + j))) (10 * a + (a + 1 + j)) (spI r we n kd a (spO r we n kd a) j) k).map (fun q => q.2.2)) (by omega) (tbd_3 (scbd k (by omega)))
                by_cases hlg : longer (spA r we kd (a + 1 + j) (n - (1 + k))) ((scN (oneS r we n kd a (a + 1 + j) (otN r we a (a + 1 + j))) (10 * a + (a + 1 + j)) (spI r we n kd a (spO r we n kd a) j) k).map (fun q => q.2.2)) = true
                · refine z_iload O dX4_split_218 rfl ?_
                  refine z_iload O dX4_split_220 rfl ?_
                  refine z_icmp_le O 236 dX4_split_222 (by decide) (fun h222 => by exact absurd (hlb.mp h222) (by rw [hlg]; decide)) (fun h222 => ?_)
                  refine z_bipush O (nI 10) dX4_split_225 (by decide) ?_
                  refine z_iload O dX4_split_227 rfl ?_
                  refine z_imulN O dX4_split_229 ?_
                  refine z_iload O dX4_split_230 rfl ?_
                  refine z_iaddN O dX4_split_232 ?_
                  refine z_goto O 238 dX4_split_233 (by decide) ?_
                  refine z_istore (lv' := [(0, _), (1, _), (2, _), (3, _), (4, _), (5, _), (6, _), (7, _), (8, _), (9, _), (10, _), (11, _), (12, _), (13, _)]) O dX4_split_238 (by decide) rfl ?_
                  refine z_iload O dX4_split_240 rfl ?_
                  refine z_iload O dX4_split_242 rfl ?_
                  refine z_icmp_le O 252 dX4_split_244 (by decide) (fun h244 => by exact absurd (hlb.mp h244) (by rw [hlg]; decide)) (fun h244 => ?_)
                  refine z_iload O dX4_split_247 rfl ?_
                  refine z_goto O 254 dX4_split_249 (by decide) ?_
                  refine z_istore (lv' := [(0, _), (1, _), (2, _), (3, _), (4, _), (5, _), (6, _), (7, _), (8, _), (9, _), (10, _), (11, _), (12, _), (13, _)]) O dX4_split_254 (by decide) rfl ?_
                  refine z_iload O dX4_split_256 rfl ?_
                  refine z_iload O dX4_split_258 rfl ?_
                  refine z_icmp_le O 268 dX4_split_260 (by decide) (fun h260 => by exact absurd (hlb.mp h260) (by rw [hlg]; decide)) (fun h260 => ?_)
                  refine z_iload O dX4_split_263 rfl ?_
                  refine z_goto O 270 dX4_split_265 (by decide) ?_
                  refine z_istore (lv' := [(0, _), (1, _), (2, _), (3, _), (4, _), (5, _), (6, _), (7, _), (8, _), (9, _), (10, _), (11, _), (12, _), (13, _)]) O dX4_split_270 (by decide) rfl ?_
                  refine z_iincN (lv' := [(0, _), (1, _), (2, _), (3, _), (4, _), (5, _), (6, _), (7, _), (8, _), (9, _), (10, _), (11, _), (12, _), (13, _)]) O 1 dX4_split_272 (by decide) rfl rfl (by decide) ?_
                  refine z_goto O 122 dX4_split_275 (by decide) ?_
                  refine z_kp (lv' := [(0, _), (1, _), (2, _), (3, _), (4, _), (5, _), (6, _), (7, _), (8, _), (9, _), (10, _)]) [0, 1, 2, 3, 4, 5, 6, 7, 8, 9, 10] rfl ?_
                  rw [show (scN (oneS r we n kd a (a + 1 + j) (otN r we a (a + 1 + j))) (10 * a + (a + 1 + j)) (spI r we n kd a (spO r we n kd a) j) (k + 1)) = some (10 * a + (a + 1 + j), 1 + k, spA r we kd (a + 1 + j) (n - (1 + k))) from (if_pos (by rw [hone]; exact hlg)).trans (by rw [hone])] at ih
                  exact ih
                · refine z_iload O dX4_split_218 rfl ?_
                  refine z_iload O dX4_split_220 rfl ?_
                  refine z_icmp_le O 236 dX4_split_222 (by decide) (fun h222 => ?_) (fun h222 => by exact absurd (zbnf (fun q => h222 (hlb.mpr q))) hlg)
                  refine z_iload O dX4_split_236 rfl ?_
                  refine z_istore (lv' := [(0, _), (1, _), (2, _), (3, _), (4, _), (5, _), (6, _), (7, _), (8, _), (9, _), (10, _), (11, _), (12, _), (13, _)]) O dX4_split_238 (by decide) rfl ?_
                  refine z_iload O dX4_split_240 rfl ?_
                  refine z_iload O dX4_split_242 rfl ?_
                  refine z_icmp_le O 252 dX4_split_244 (by decide) (fun h244 => ?_) (fun h244 => by exact absurd (zbnf (fun q => h244 (hlb.mpr q))) hlg)
                  refine z_iload O dX4_split_252 rfl ?_
                  refine z_istore (lv' := [(0, _), (1, _), (2, _), (3, _), (4, _), (5, _), (6, _), (7, _), (8, _), (9, _), (10, _), (11, _), (12, _), (13, _)]) O dX4_split_254 (by decide) rfl ?_
                  refine z_iload O dX4_split_256 rfl ?_
                  refine z_iload O dX4_split_258 rfl ?_
                  refine z_icmp_le O 268 dX4_split_260 (by decide) (fun h260 => ?_) (fun h260 => by exact absurd (zbnf (fun q => h260 (hlb.mpr q))) hlg)
                  refine z_iload O dX4_split_268 rfl ?_
                  refine z_istore (lv' := [(0, _), (1, _), (2, _), (3, _), (4, _), (5, _), (6, _), (7, _), (8, _), (9, _), (10, _), (11, _), (12, _), (13, _)]) O dX4_split_270 (by decide) rfl ?_
                  refine z_iincN (lv' := [(0, _), (1, _), (2, _), (3, _), (4, _), (5, _), (6, _), (7, _), (8, _), (9, _), (10, _), (11, _), (12, _), (13, _)]) O 1 dX4_split_272 (by decide) rfl rfl (by decide) ?_
                  refine z_goto O 122 dX4_split_275 (by decide) ?_
                  refine z_kp (lv' := [(0, _), (1, _), (2, _), (3, _), (4, _), (5, _), (6, _), (7, _), (8, _), (9, _), (10, _)]) [0, 1, 2, 3, 4, 5, 6, 7, 8, 9, 10] rfl ?_
                  rw [show (scN (oneS r we n kd a (a + 1 + j) (otN r we a (a + 1 + j))) (10 * a + (a + 1 + j)) (spI r we n kd a (spO r we n kd a) j) (k + 1)) = (scN (oneS r we n kd a (a + 1 + j) (otN r we a (a + 1 + j))) (10 * a + (a + 1 + j)) (spI r we n kd a (spO r we n kd a) j) k) from if_neg (by rw [hone]; exact hlg)] at ih
                  exact ih
        · refine z_iconst O (nI 1) dX4_split_119 (by decide) ?_
          refine z_istore (lv' := [(0, _), (1, _), (2, _), (3, _), (4, _), (5, _), (6, _), (7, _), (8, _), (9, _), (10, _)]) O dX4_split_120 (by decide) rfl ?_
          refine z_iload O dX4_split_122 rfl ?_
          refine z_iload_n O dX4_split_124 rfl ?_
          refine z_icmp_geN O 278 dX4_split_125 (by decide) (by omega) (by omega) (fun h125 => by omega) (fun h125 => ?_)
          refine z_aload_n O dX4_split_128 rfl ?_
          refine z_get O dX4_split_129 flX4_7 (by rfl) (by rfl) ?_
          refine z_iconst O (nI 1) dX4_split_132 (by decide) ?_
          refine z_iload O dX4_split_133 rfl ?_
          refine z_iaddN O dX4_split_135 ?_
          refine z_ialdN O dX4_split_136 (by rfl) (by omega) (by decide) ?_
          refine z_top (v' := .int (nI (r (108 + a)))) (congrArg Value.int (congrArg nI ((ho (1 + a) (by omega)).trans (h.m ha)))) ?_
          refine z_iconst O (nI 3) dX4_split_137 (by decide) ?_
          refine z_icmp_geN O 278 dX4_split_138 (by decide) (by have := g.1.1.2 a ha; omega) (by have := g.1.1.2 a ha; omega) (fun h138 => ?_) (fun h138 => ?_)
          · refine z_iincN (lv' := [(0, _), (1, _), (2, _), (3, _), (4, _), (5, _), (6, _), (7, _), (8, _), (9, _), (10, _)]) O 1 dX4_split_278 (by decide) rfl rfl (by decide) ?_
            refine z_goto O 46 dX4_split_281 (by decide) ?_
            refine z_kp (lv' := [(0, _), (1, _), (2, _), (3, _), (4, _), (5, _), (6, _), (7, _), (8, _)]) [0, 1, 2, 3, 4, 5, 6, 7, 8] rfl ?_
            rw [show spI r we n kd a (spO r we n kd a) (j + 1) = (spI r we n kd a (spO r we n kd a) j) from if_neg (fun q => hro q.1)] at ih
            exact ih
          · refine z_aload_n O dX4_split_141 rfl ?_
            refine z_get O dX4_split_142 flX4_7 (by rfl) (by rfl) ?_
            refine z_iconst O (nI 1) dX4_split_145 (by decide) ?_
            refine z_iload O dX4_split_146 rfl ?_
            refine z_iaddN O dX4_split_148 ?_
            refine z_ialdN O dX4_split_149 (by rfl) (by omega) (by decide) ?_
            refine z_top (v' := .int (nI (r (108 + (a + 1 + j))))) (congrArg Value.int (congrArg nI ((ho (1 + (a + 1 + j)) (by omega)).trans (h.m hb)))) ?_
            refine z_iconst O (nI 3) dX4_split_150 (by decide) ?_
            refine z_icmp_geN O 278 dX4_split_151 (by decide) (by have := g.1.1.2 (a + 1 + j) hb; omega) (by have := g.1.1.2 (a + 1 + j) hb; omega) (fun h151 => ?_) (fun h151 => by exact absurd ⟨by omega, by omega⟩ hro)
            refine z_iincN (lv' := [(0, _), (1, _), (2, _), (3, _), (4, _), (5, _), (6, _), (7, _), (8, _), (9, _), (10, _)]) O 1 dX4_split_278 (by decide) rfl rfl (by decide) ?_
            refine z_goto O 46 dX4_split_281 (by decide) ?_
            refine z_kp (lv' := [(0, _), (1, _), (2, _), (3, _), (4, _), (5, _), (6, _), (7, _), (8, _)]) [0, 1, 2, 3, 4, 5, 6, 7, 8] rfl ?_
            rw [show spI r we n kd a (spO r we n kd a) (j + 1) = (spI r we n kd a (spO r we n kd a) j) from if_neg (fun q => hro q.1)] at ih
            exact ih
      · intro c hc ih 
        refine z_iload O dX4_split_60 rfl ?_
        refine z_bipush O (nI 9) dX4_split_62 (by decide) ?_
        refine z_icmp_geN O 119 dX4_split_64 (by decide) (by omega) (by omega) (fun h64 => by omega) (fun h64 => ?_)
        rcases (show c = a ∨ (c ≠ a ∧ c = a + 1 + j) ∨ (c ≠ a ∧ c ≠ a + 1 + j) by omega) with hca | hcb | hcn
        · refine z_iload O dX4_split_67 rfl ?_
          refine z_iload O dX4_split_69 rfl ?_
          refine z_icmp_eqN O 109 dX4_split_71 (by decide) (by omega) (by omega) (fun h71 => ?_) (fun h71 => by omega)
          refine z_iload O dX4_split_109 rfl ?_
          refine z_istore (lv' := [(0, _), (1, _), (2, _), (3, _), (4, _), (5, _), (6, _), (7, _), (8, _), (9, _), (10, _)]) O dX4_split_111 (by decide) rfl ?_
          refine z_iincN (lv' := [(0, _), (1, _), (2, _), (3, _), (4, _), (5, _), (6, _), (7, _), (8, _), (9, _), (10, _)]) O 1 dX4_split_113 (by decide) rfl rfl (by decide) ?_
          refine z_goto O 60 dX4_split_116 (by decide) ?_
          rw [show (lsN (spanV r we) (some a) (some (a + 1 + j)) (c + 1)) = (lsN (spanV r we) (some a) (some (a + 1 + j)) c) from if_pos (Or.inl (by rw [hca]))] at ih
          exact ih
        · refine z_iload O dX4_split_67 rfl ?_
          refine z_iload O dX4_split_69 rfl ?_
          refine z_icmp_eqN O 109 dX4_split_71 (by decide) (by omega) (by omega) (fun h71 => by omega) (fun h71 => ?_)
          refine z_iload O dX4_split_74 rfl ?_
          refine z_iload O dX4_split_76 rfl ?_
          refine z_icmp_eqN O 109 dX4_split_78 (by decide) (by omega) (by omega) (fun h78 => ?_) (fun h78 => by omega)
          refine z_iload O dX4_split_109 rfl ?_
          refine z_istore (lv' := [(0, _), (1, _), (2, _), (3, _), (4, _), (5, _), (6, _), (7, _), (8, _), (9, _), (10, _)]) O dX4_split_111 (by decide) rfl ?_
          refine z_iincN (lv' := [(0, _), (1, _), (2, _), (3, _), (4, _), (5, _), (6, _), (7, _), (8, _), (9, _), (10, _)]) O 1 dX4_split_113 (by decide) rfl rfl (by decide) ?_
          refine z_goto O 60 dX4_split_116 (by decide) ?_
          rw [show (lsN (spanV r we) (some a) (some (a + 1 + j)) (c + 1)) = (lsN (spanV r we) (some a) (some (a + 1 + j)) c) from if_pos (Or.inr (by rw [hcb.2]))] at ih
          exact ih
        · refine z_iload O dX4_split_67 rfl ?_
          refine z_iload O dX4_split_69 rfl ?_
          refine z_icmp_eqN O 109 dX4_split_71 (by decide) (by omega) (by omega) (fun h71 => by omega) (fun h71 => ?_)
          refine z_iload O dX4_split_74 rfl ?_
          refine z_iload O dX4_split_76 rfl ?_
          refine z_icmp_eqN O 109 dX4_split_78 (by decide) (by omega) (by omega) (fun h78 => by omega) (fun h78 => ?_)
          refine z_aload_n O dX4_split_81 rfl ?_
          refine z_get O dX4_split_82 flX4_30 (by rfl) (by rfl) ?_
          refine z_bipush O (nI 31) dX4_split_85 (by decide) ?_
          refine z_iload O dX4_split_87 rfl ?_
          refine z_imulN O dX4_split_89 ?_
          refine z_ialdN O dX4_split_90 (by rfl) (by omega) (by decide) ?_
          refine z_top (v' := .int (nI (spanV r we c))) (congrArg Value.int (congrArg nI ((hl c 0 hc (by omega)).trans (if_pos (Or.inl rfl))))) ?_
          have hmn : (lsN (spanV r we) (some a) (some (a + 1 + j)) (c + 1)) = min (lsN (spanV r we) (some a) (some (a + 1 + j)) c) (spanV r we c) := if_neg (by simp; omega)
          by_cases hlt : spanV r we c < (lsN (spanV r we) (some a) (some (a + 1 + j)) c)
          · refine z_iload O dX4_split_91 rfl ?_
            refine z_icmp_geN O 109 dX4_split_93 (by decide) (by have := spanV_le r we c; have := lsN_le (spanV r we) (some a) (some (a + 1 + j)) c; omega) (by have := spanV_le r we c; have := lsN_le (spanV r we) (some a) (some (a + 1 + j)) c; omega) (fun h93 => by omega) (fun h93 => ?_)
            refine z_aload_n O dX4_split_96 rfl ?_
            refine z_get O dX4_split_97 flX4_30 (by rfl) (by rfl) ?_
            refine z_bipush O (nI 31) dX4_split_100 (by decide) ?_
            refine z_iload O dX4_split_102 rfl ?_
            refine z_imulN O dX4_split_104 ?_
            refine z_ialdN O dX4_split_105 (by rfl) (by omega) (by decide) ?_
            refine z_top (v' := .int (nI (spanV r we c))) (congrArg Value.int (congrArg nI ((hl c 0 hc (by omega)).trans (if_pos (Or.inl rfl))))) ?_
            refine z_goto O 111 dX4_split_106 (by decide) ?_
            refine z_istore (lv' := [(0, _), (1, _), (2, _), (3, _), (4, _), (5, _), (6, _), (7, _), (8, _), (9, _), (10, _)]) O dX4_split_111 (by decide) rfl ?_
            refine z_iincN (lv' := [(0, _), (1, _), (2, _), (3, _), (4, _), (5, _), (6, _), (7, _), (8, _), (9, _), (10, _)]) O 1 dX4_split_113 (by decide) rfl rfl (by decide) ?_
            refine z_goto O 60 dX4_split_116 (by decide) ?_
            rw [hmn, Nat.min_eq_right (by omega)] at ih
            exact ih
          · refine z_iload O dX4_split_91 rfl ?_
            refine z_icmp_geN O 109 dX4_split_93 (by decide) (by have := spanV_le r we c; have := lsN_le (spanV r we) (some a) (some (a + 1 + j)) c; omega) (by have := spanV_le r we c; have := lsN_le (spanV r we) (some a) (some (a + 1 + j)) c; omega) (fun h93 => ?_) (fun h93 => by omega)
            refine z_iload O dX4_split_109 rfl ?_
            refine z_istore (lv' := [(0, _), (1, _), (2, _), (3, _), (4, _), (5, _), (6, _), (7, _), (8, _), (9, _), (10, _)]) O dX4_split_111 (by decide) rfl ?_
            refine z_iincN (lv' := [(0, _), (1, _), (2, _), (3, _), (4, _), (5, _), (6, _), (7, _), (8, _), (9, _), (10, _)]) O 1 dX4_split_113 (by decide) rfl rfl (by decide) ?_
            refine z_goto O 60 dX4_split_116 (by decide) ?_
            rw [hmn, Nat.min_eq_left (by omega)] at ih
            exact ih
set_option maxRecDepth 20000 in
set_option maxHeartbeats 4000000 in
theorem m_oddsB {c m k : Int32} (hb : ¬ ((nI 0 ≤ c ∧ c ≤ nI 8) ∧ (nI 0 ≤ m ∧ m ≤ nI 8) ∧ (nI 0 ≤ k ∧ k ≤ nI 10))) : zS G 3 yX4_odds cX4_odds 12 (some .int) [.ref (zad (zb G) 21), .int c, .int m, .int k] (yM G c0_ c1_ c2_ c3_ c4_ c5_ c6_ c7_ c8_ c9_ c10_ c11_ c12_ c13_ c14_ c15_ c16_ c17_ c18_ c19_ c20_ w kp tx txl rf ya yb at2 st2 iwd ifg nb fr la nms nd wf hh tl) 0 0 (zE (.int (-2)) (yM G c0_ c1_ c2_ c3_ c4_ c5_ c6_ c7_ c8_ c9_ c10_ c11_ c12_ c13_ c14_ c15_ c16_ c17_ c18_ c19_ c20_ w kp tx txl (updN rf 0 (rf 0 + 1)) ya yb at2 st2 iwd ifg nb fr la nms nd wf hh tl)) := by
  refine zS.of (by decide) (Nat.le_of_ble_eq_true rfl) (fun F O hR1 hR2 => ?_)
  have O : zOk G F yX4_odds cX4_odds 12 (some .int) RX4 3 (yM G c0_ c1_ c2_ c3_ c4_ c5_ c6_ c7_ c8_ c9_ c10_ c11_ c12_ c13_ c14_ c15_ c16_ c17_ c18_ c19_ c20_ w kp tx txl rf ya yb at2 st2 iwd ifg nb fr la nms nd wf hh tl).length := O
  refine z_eq (lv' := [(0, _), (1, _), (2, _), (3, _)]) rfl rfl rfl ?_
  refine z_iload_n O dX4_odds_0 rfl ?_
  refine z_S1e0 O m_isCellI mX4_isCell lkX4_49 dX4_odds_1 (Nat.le_of_ble_eq_true rfl) (by decide) ?_
  refine z_if_eqB O 31 dX4_odds_4 (by decide) (fun h4 => ?_) (fun h4 => ?_)
  · refine z_aload_n O dX4_odds_31 rfl ?_
    refine z_V0e0 O m_bad mX4_bad lkX4_65 rfl (by rfl) dX4_odds_32 (Nat.le_of_ble_eq_true rfl) (by decide) ?_
    exact z_iret O dX4_odds_35 ⟨rfl, rfl⟩
  · refine z_iload_n O dX4_odds_7 rfl ?_
    refine z_i2l O dX4_odds_8 ?_
    refine z_lconst O (lN 0) dX4_odds_9 (by decide) ?_
    refine z_ldc2 O dX4_odds_10 klX4_43 ?_
    refine z_top (v' := .long (lN 8)) (by decide) ?_
    refine z_S3e0 O (m_inI (by decide) (by decide)) mX4_in lkX4_45 dX4_odds_13 (Nat.le_of_ble_eq_true rfl) (by decide) ?_
    refine z_if_eqB O 31 dX4_odds_16 (by decide) (fun h16 => ?_) (fun h16 => ?_)
    · refine z_aload_n O dX4_odds_31 rfl ?_
      refine z_V0e0 O m_bad mX4_bad lkX4_65 rfl (by rfl) dX4_odds_32 (Nat.le_of_ble_eq_true rfl) (by decide) ?_
      exact z_iret O dX4_odds_35 ⟨rfl, rfl⟩
    · refine z_iload_n O dX4_odds_19 rfl ?_
      refine z_i2l O dX4_odds_20 ?_
      refine z_lconst O (lN 0) dX4_odds_21 (by decide) ?_
      refine z_ldc2 O dX4_odds_22 klX4_242 ?_
      refine z_top (v' := .long (lN 10)) (by decide) ?_
      refine z_S3e0 O (m_inI (by decide) (by decide)) mX4_in lkX4_45 dX4_odds_25 (Nat.le_of_ble_eq_true rfl) (by decide) ?_
      refine z_if_neB O 36 dX4_odds_28 (by decide) (fun h28 => by exact absurd ⟨h4, h16, h28⟩ hb) (fun h28 => ?_)
      refine z_aload_n O dX4_odds_31 rfl ?_
      refine z_V0e0 O m_bad mX4_bad lkX4_65 rfl (by rfl) dX4_odds_32 (Nat.le_of_ble_eq_true rfl) (by decide) ?_
      exact z_iret O dX4_odds_35 ⟨rfl, rfl⟩
set_option maxRecDepth 20000 in
set_option maxHeartbeats 4000000 in
theorem m_odds {we r seen kept : Nat → Nat} {rd nw ud Y : Nat} (h : RS w 0 we r seen kept rd nw ud) (g : GS Y we r seen kept rd nw ud) (hY : Y + 200 < 1048576) {c m k : Nat} (hc : c < 9) (hm : m ≤ 8) (hk : k ≤ 10) : zS G 4 yX4_odds cX4_odds 12 (some .int) [.ref (zad (zb G) 21), .int (nI c), .int (nI m), .int (nI k)] (yM G c0_ c1_ c2_ c3_ c4_ c5_ c6_ c7_ c8_ c9_ c10_ c11_ c12_ c13_ c14_ c15_ c16_ c17_ c18_ c19_ c20_ w kp tx txl rf ya yb at2 st2 iwd ifg nb fr la nms nd wf hh tl) 0 0 (zP (fun v M' => v = .int (nI 1) ∧ ∃ w' : Nat → Nat, smW w w' ∧ M' = (yM G c0_ c1_ c2_ c3_ c4_ c5_ c6_ c7_ c8_ c9_ c10_ c11_ c12_ c13_ c14_ c15_ c16_ c17_ c18_ c19_ c20_ w' kp tx txl rf (lN (frA (oddU r we c m k) (10 ^ m))) (lN (frB (oddU r we c m k) (10 ^ m))) at2 st2 iwd ifg nb fr la nms nd wf hh tl))) := by
  refine zS.of (by decide) (Nat.le_of_ble_eq_true rfl) (fun F O hR1 hR2 => ?_)
  have O : zOk G F yX4_odds cX4_odds 12 (some .int) RX4 4 (yM G c0_ c1_ c2_ c3_ c4_ c5_ c6_ c7_ c8_ c9_ c10_ c11_ c12_ c13_ c14_ c15_ c16_ c17_ c18_ c19_ c20_ w kp tx txl rf ya yb at2 st2 iwd ifg nb fr la nms nd wf hh tl).length := O
  refine z_eq (lv' := [(0, _), (1, _), (2, _), (3, _)]) rfl rfl rfl ?_
  have hyy := g.y hY
  have h2m : 2 ^ m ≤ 256 := Nat.pow_le_pow_right (by decide) hm
  have h10 : 10 ^ m ≤ 100000000 := Nat.pow_le_pow_right (n := 10) (by decide) hm
  have h10p : 0 < 10 ^ m := Nat.pow_pos (by decide)
  refine z_iload_n O dX4_odds_0 rfl ?_
  refine z_S1e0 O (m_isCellN (by omega)) mX4_isCell lkX4_49 dX4_odds_1 (Nat.le_of_ble_eq_true rfl) (by decide) ?_
  refine z_if_eqB O 31 dX4_odds_4 (by decide) (fun h4 => by omega) (fun h4 => ?_)
  refine z_iload_n O dX4_odds_7 rfl ?_
  refine z_i2lN O dX4_odds_8 (by omega) ?_
  refine z_lconst O (lN 0) dX4_odds_9 (by decide) ?_
  refine z_ldc2 O dX4_odds_10 klX4_43 ?_
  refine z_top (v' := .long (lN 8)) (by decide) ?_
  refine z_S3e0 O (m_inN (by omega) (by decide) (by decide)) mX4_in lkX4_45 dX4_odds_13 (Nat.le_of_ble_eq_true rfl) (by decide) ?_
  refine z_if_eqB O 31 dX4_odds_16 (by decide) (fun h16 => by omega) (fun h16 => ?_)
  refine z_iload_n O dX4_odds_19 rfl ?_
  refine z_i2lN O dX4_odds_20 (by omega) ?_
  refine z_lconst O (lN 0) dX4_odds_21 (by decide) ?_
  refine z_ldc2 O dX4_odds_22 klX4_242 ?_
  refine z_top (v' := .long (lN 10)) (by decide) ?_
  refine z_S3e0 O (m_inN (by omega) (by decide) (by decide)) mX4_in lkX4_45 dX4_odds_25 (Nat.le_of_ble_eq_true rfl) (by decide) ?_
  refine z_if_neB O 36 dX4_odds_28 (by decide) (fun h28 => ?_) (fun h28 => by omega)
  refine z_lconst O (lN 0) dX4_odds_36 (by decide) ?_
  refine z_lstore (lv' := [(0, _), (1, _), (2, _), (3, _), (4, _)]) O dX4_odds_37 (by decide) rfl ?_
  refine z_lconst O (lN 1) dX4_odds_39 (by decide) ?_
  refine z_lstore (lv' := [(0, _), (1, _), (2, _), (3, _), (4, _), (6, _)]) O dX4_odds_40 (by decide) rfl ?_
  refine z_iconst O (nI 0) dX4_odds_42 (by decide) ?_
  refine z_istore (lv' := [(0, _), (1, _), (2, _), (3, _), (4, _), (6, _), (8, _)]) O dX4_odds_43 (by decide) rfl ?_
  refine zdown (P := fun i => Z G F 0 0 (zEnd G F (zP (fun v M' => v = .int (nI 1) ∧ ∃ w' : Nat → Nat, smW w w' ∧ M' = (yM G c0_ c1_ c2_ c3_ c4_ c5_ c6_ c7_ c8_ c9_ c10_ c11_ c12_ c13_ c14_ c15_ c16_ c17_ c18_ c19_ c20_ w' kp tx txl rf (lN (frA (oddU r we c m k) (10 ^ m))) (lN (frB (oddU r we c m k) (10 ^ m))) at2 st2 iwd ifg nb fr la nms nd wf hh tl))) 0 0) 45 [(0, .ref (zad (zb G) 21)), (1, .int (nI c)), (2, .int (nI m)), (3, .int (nI k)), (4, .long (lN 0)), (6, .long (lN (10 ^ i))), (8, .int (nI i))] [] (yM G c0_ c1_ c2_ c3_ c4_ c5_ c6_ c7_ c8_ c9_ c10_ c11_ c12_ c13_ c14_ c15_ c16_ c17_ c18_ c19_ c20_ w kp tx txl rf ya yb at2 st2 iwd ifg nb fr la nms nd wf hh tl)) (m) ?_ ?_ 
  · refine z_iload O dX4_odds_45 rfl ?_
    refine z_iload_n O dX4_odds_47 rfl ?_
    refine z_icmp_geN O 65 dX4_odds_48 (by decide) (by omega) (by omega) (fun h48 => ?_) (fun h48 => by omega)
    refine z_iconst O (nI 0) dX4_odds_65 (by decide) ?_
    refine z_istore (lv' := [(0, _), (1, _), (2, _), (3, _), (4, _), (6, _), (8, _)]) O dX4_odds_66 (by decide) rfl ?_
    refine zdown (P := fun x => ∀ w' : Nat → Nat, smW w w' → Z G F 0 0 (zEnd G F (zP (fun v M' => v = .int (nI 1) ∧ ∃ w' : Nat → Nat, smW w w' ∧ M' = (yM G c0_ c1_ c2_ c3_ c4_ c5_ c6_ c7_ c8_ c9_ c10_ c11_ c12_ c13_ c14_ c15_ c16_ c17_ c18_ c19_ c20_ w' kp tx txl rf (lN (frA (oddU r we c m k) (10 ^ m))) (lN (frB (oddU r we c m k) (10 ^ m))) at2 st2 iwd ifg nb fr la nms nd wf hh tl))) 0 0) 68 [(0, .ref (zad (zb G) 21)), (1, .int (nI c)), (2, .int (nI m)), (3, .int (nI k)), (4, .long (lN (sumN (odF we r c k m) x))), (6, .long (lN (10 ^ m))), (8, .int (nI x))] [] (yM G c0_ c1_ c2_ c3_ c4_ c5_ c6_ c7_ c8_ c9_ c10_ c11_ c12_ c13_ c14_ c15_ c16_ c17_ c18_ c19_ c20_ w' kp tx txl rf ya yb at2 st2 iwd ifg nb fr la nms nd wf hh tl)) (2 ^ m) ?_ ?_ w (fun _ _ => rfl)
    · intro w' ho
      have hou := odU_eq (we := we) hc hk m r g.1.1 (by omega)
      have hol : sumN (odF we r c k m) (2 ^ m) ≤ 10 ^ m := by rw [hou]; exact hwN_le r we c k hk m _ _ _
      have hfr := fr_ok hol
      rw [if_neg (by omega)] at hfr
      refine z_iload O dX4_odds_68 rfl ?_
      refine z_iconst O (nI 1) dX4_odds_70 (by decide) ?_
      refine z_iload_n O dX4_odds_71 rfl ?_
      refine z_ishl O dX4_odds_72 ?_
      refine z_top (v' := .int (nI (2 ^ m))) (congrArg Value.int (zb_shl1 (by omega))) ?_
      refine z_icmp_geN O 167 dX4_odds_73 (by decide) (by omega) (by omega) (fun h73 => ?_) (fun h73 => by omega)
      refine z_aload_n O dX4_odds_167 rfl ?_
      refine z_lload O dX4_odds_168 rfl ?_
      refine z_lload O dX4_odds_170 rfl ?_
      refine z_V2e0 O (m_tells (by omega) (by omega) (by omega)) mX4_tells lkX4_202 rfl (by rfl) dX4_odds_172 (Nat.le_of_ble_eq_true rfl) (by decide) ?_
      exact z_iret O dX4_odds_175 ⟨_, rfl, rfl, w', ho, by rw [hfr.1, hfr.2, hou]⟩
    · intro x hx ih w' ho
      refine z_iload O dX4_odds_68 rfl ?_
      refine z_iconst O (nI 1) dX4_odds_70 (by decide) ?_
      refine z_iload_n O dX4_odds_71 rfl ?_
      refine z_ishl O dX4_odds_72 ?_
      refine z_top (v' := .int (nI (2 ^ m))) (congrArg Value.int (zb_shl1 (by omega))) ?_
      refine z_icmp_geN O 167 dX4_odds_73 (by decide) (by omega) (by omega) (fun h73 => by omega) (fun h73 => ?_)
      refine z_lconst O (lN 1) dX4_odds_76 (by decide) ?_
      refine z_lstore (lv' := [(0, _), (1, _), (2, _), (3, _), (4, _), (6, _), (8, _), (9, _)]) O dX4_odds_77 (by decide) rfl ?_
      refine z_aload_n O dX4_odds_79 rfl ?_
      refine z_V0u0 O m_tries mX4_tries lkX4_184 rfl (by rfl) dX4_odds_80 (Nat.le_of_ble_eq_true rfl) (by decide) ?_
      refine z_iconst O (nI 0) dX4_odds_83 (by decide) ?_
      refine z_istore (lv' := [(0, _), (1, _), (2, _), (3, _), (4, _), (6, _), (8, _), (9, _), (11, _)]) O dX4_odds_84 (by decide) rfl ?_
      refine zdown (P := fun i => ∀ w' : Nat → Nat, RW w' 3273 (rwX we r x i) we → smW w w' → Z G F 0 0 (zEnd G F (zP (fun v M' => v = .int (nI 1) ∧ ∃ w' : Nat → Nat, smW w w' ∧ M' = (yM G c0_ c1_ c2_ c3_ c4_ c5_ c6_ c7_ c8_ c9_ c10_ c11_ c12_ c13_ c14_ c15_ c16_ c17_ c18_ c19_ c20_ w' kp tx txl rf (lN (frA (oddU r we c m k) (10 ^ m))) (lN (frB (oddU r we c m k) (10 ^ m))) at2 st2 iwd ifg nb fr la nms nd wf hh tl))) 0 0) 86 [(0, .ref (zad (zb G) 21)), (1, .int (nI c)), (2, .int (nI m)), (3, .int (nI k)), (4, .long (lN (sumN (odF we r c k m) x))), (6, .long (lN (10 ^ m))), (8, .int (nI x)), (9, .long (lN (wyX k x i))), (11, .int (nI i))] [] (yM G c0_ c1_ c2_ c3_ c4_ c5_ c6_ c7_ c8_ c9_ c10_ c11_ c12_ c13_ c14_ c15_ c16_ c17_ c18_ c19_ c20_ w' kp tx txl rf ya yb at2 st2 iwd ifg nb fr la nms nd wf hh tl)) (m) ?_ ?_ _ (RW_copy (h.1.kept g.1.1 (fun j _ hj => ho j (by omega))) g.1.1 (by decide)) (fun j hj => by rw [cpyN, if_neg (by omega)]; exact ho j hj)
      · intro w' h' ho
        refine z_iload O dX4_odds_86 rfl ?_
        refine z_iload_n O dX4_odds_88 rfl ?_
        refine z_icmp_geN O 137 dX4_odds_89 (by decide) (by omega) (by omega) (fun h89 => ?_) (fun h89 => by omega)
        refine z_lload O dX4_odds_137 rfl ?_
        refine z_aload_n O dX4_odds_139 rfl ?_
        refine z_get O dX4_odds_140 flX4_7 (by rfl) (by rfl) ?_
        refine z_sipush O (nI 3274) dX4_odds_143 (by decide) ?_
        refine z_iload_n O dX4_odds_146 rfl ?_
        refine z_iaddN O dX4_odds_147 ?_
        refine z_ialdN O dX4_odds_148 (by rfl) (by omega) (by decide) ?_
        refine z_top (v' := .int (nI (rwX we r x m (108 + c)))) (congrArg Value.int (congrArg nI (by rw [show 3274 + c = 3273 + 1 + c by omega]; exact h'.1.2.1 c hc))) ?_
        by_cases hz0 : rwX we r x m (108 + c) = 0
        · refine z_if_neN O 157 dX4_odds_149 (by decide) (by have := (rwX_ok (we := we) g.1.1 x (n := 8) (by omega) m hm).1.2 c hc; omega) (fun h149 => by omega) (fun h149 => ?_)
          refine z_lload O dX4_odds_152 rfl ?_
          refine z_goto O 158 dX4_odds_154 (by decide) ?_
          refine z_laddN O dX4_odds_158 ?_
          refine z_lstore (lv' := [(0, _), (1, _), (2, _), (3, _), (4, _), (6, _), (8, _), (9, _), (11, _)]) O dX4_odds_159 (by decide) rfl ?_
          refine z_iincN (lv' := [(0, _), (1, _), (2, _), (3, _), (4, _), (6, _), (8, _), (9, _), (11, _)]) O 1 dX4_odds_161 (by decide) rfl rfl (by decide) ?_
          refine z_goto O 68 dX4_odds_164 (by decide) ?_
          refine z_kp (lv' := [(0, _), (1, _), (2, _), (3, _), (4, _), (6, _), (8, _)]) [0, 1, 2, 3, 4, 6, 8] rfl ?_
          rw [show sumN (odF we r c k m) (x + 1) = sumN (odF we r c k m) x + wyX k x m from congrArg (sumN (odF we r c k m) x + ·) (if_pos hz0)] at ih
          exact ih w' ho
        · refine z_if_neN O 157 dX4_odds_149 (by decide) (by have := (rwX_ok (we := we) g.1.1 x (n := 8) (by omega) m hm).1.2 c hc; omega) (fun h149 => ?_) (fun h149 => by omega)
          refine z_lconst O (lN 0) dX4_odds_157 (by decide) ?_
          refine z_laddN O dX4_odds_158 ?_
          refine z_lstore (lv' := [(0, _), (1, _), (2, _), (3, _), (4, _), (6, _), (8, _), (9, _), (11, _)]) O dX4_odds_159 (by decide) rfl ?_
          refine z_iincN (lv' := [(0, _), (1, _), (2, _), (3, _), (4, _), (6, _), (8, _), (9, _), (11, _)]) O 1 dX4_odds_161 (by decide) rfl rfl (by decide) ?_
          refine z_goto O 68 dX4_odds_164 (by decide) ?_
          refine z_kp (lv' := [(0, _), (1, _), (2, _), (3, _), (4, _), (6, _), (8, _)]) [0, 1, 2, 3, 4, 6, 8] rfl ?_
          rw [show sumN (odF we r c k m) (x + 1) = sumN (odF we r c k m) x + 0 from congrArg (sumN (odF we r c k m) x + ·) (if_neg hz0)] at ih
          exact ih w' ho
      · intro i hi ih w' h' ho
        have hrx := rwX_ok (we := we) g.1.1 x (n := 8) (by omega) i (by omega)
        refine z_iload O dX4_odds_86 rfl ?_
        refine z_iload_n O dX4_odds_88 rfl ?_
        refine z_icmp_geN O 137 dX4_odds_89 (by decide) (by omega) (by omega) (fun h89 => by omega) (fun h89 => ?_)
        by_cases hb1 : bitN x i = 1
        · refine z_lload O dX4_odds_92 rfl ?_
          refine z_iload O dX4_odds_94 rfl ?_
          refine z_iload O dX4_odds_96 rfl ?_
          refine z_S2e0 O (m_has (by omega) (by omega)) mX4_has lkX4_224 dX4_odds_98 (Nat.le_of_ble_eq_true rfl) (by decide) ?_
          refine z_if_eqB O 109 dX4_odds_101 (by decide) (fun h101 => by exact absurd hb1 h101) (fun h101 => ?_)
          refine z_iload_n O dX4_odds_104 rfl ?_
          refine z_i2lN O dX4_odds_105 (by omega) ?_
          refine z_goto O 114 dX4_odds_106 (by decide) ?_
          refine z_lmulN O dX4_odds_114 ?_
          refine z_lstore (lv' := [(0, _), (1, _), (2, _), (3, _), (4, _), (6, _), (8, _), (9, _), (11, _)]) O dX4_odds_115 (by decide) rfl ?_
          refine z_aload_n O dX4_odds_117 rfl ?_
          refine z_sipush O (nI 3273) dX4_odds_118 (by decide) ?_
          refine z_iload O dX4_odds_121 rfl ?_
          refine z_iload O dX4_odds_123 rfl ?_
          refine z_S2e0 O (m_has (by omega) (by omega)) mX4_has lkX4_224 dX4_odds_125 (Nat.le_of_ble_eq_true rfl) (by decide) ?_
          refine z_top (v' := .int (nI 1)) (by rw [bI_t hb1]; rfl) ?_
          refine z_V2pu0 O (m_passes1 h' hrx.1 (by decide) g.w) mX4_passes lkX4_103 rfl (by rfl) dX4_odds_128 (Nat.le_of_ble_eq_true rfl) (by decide) (fun M' hq => ?_)
          obtain ⟨w2, h2, ho2, rfl⟩ := hq
          refine z_iincN (lv' := [(0, _), (1, _), (2, _), (3, _), (4, _), (6, _), (8, _), (9, _), (11, _)]) O 1 dX4_odds_131 (by decide) rfl rfl (by decide) ?_
          refine z_goto O 86 dX4_odds_134 (by decide) ?_
          rw [show wyX k x (i + 1) = wyX k x i * (k) from congrArg (wyX k x i * ·) (if_pos hb1)] at ih
          rw [show rwX we r x (i + 1) = _ from if_pos hb1] at ih
          exact ih w2 h2 (fun j hj => (ho2 j (by omega)).trans (ho j hj))
        · refine z_lload O dX4_odds_92 rfl ?_
          refine z_iload O dX4_odds_94 rfl ?_
          refine z_iload O dX4_odds_96 rfl ?_
          refine z_S2e0 O (m_has (by omega) (by omega)) mX4_has lkX4_224 dX4_odds_98 (Nat.le_of_ble_eq_true rfl) (by decide) ?_
          refine z_if_eqB O 109 dX4_odds_101 (by decide) (fun h101 => ?_) (fun h101 => by exact absurd h101 hb1)
          refine z_bipush O (nI 10) dX4_odds_109 (by decide) ?_
          refine z_iload_n O dX4_odds_111 rfl ?_
          refine z_isubN O dX4_odds_112 (by omega) ?_
          refine z_i2lN O dX4_odds_113 (by omega) ?_
          refine z_lmulN O dX4_odds_114 ?_
          refine z_lstore (lv' := [(0, _), (1, _), (2, _), (3, _), (4, _), (6, _), (8, _), (9, _), (11, _)]) O dX4_odds_115 (by decide) rfl ?_
          refine z_aload_n O dX4_odds_117 rfl ?_
          refine z_sipush O (nI 3273) dX4_odds_118 (by decide) ?_
          refine z_iload O dX4_odds_121 rfl ?_
          refine z_iload O dX4_odds_123 rfl ?_
          refine z_S2e0 O (m_has (by omega) (by omega)) mX4_has lkX4_224 dX4_odds_125 (Nat.le_of_ble_eq_true rfl) (by decide) ?_
          refine z_top (v' := .int (nI 0)) (by rw [bI_f hb1]; rfl) ?_
          refine z_V2pu0 O (m_passes0 h' hrx.1 (by decide)) mX4_passes lkX4_103 rfl (by rfl) dX4_odds_128 (Nat.le_of_ble_eq_true rfl) (by decide) (fun M' hq => ?_)
          obtain ⟨w2, h2, ho2, rfl⟩ := hq
          refine z_iincN (lv' := [(0, _), (1, _), (2, _), (3, _), (4, _), (6, _), (8, _), (9, _), (11, _)]) O 1 dX4_odds_131 (by decide) rfl rfl (by decide) ?_
          refine z_goto O 86 dX4_odds_134 (by decide) ?_
          rw [show wyX k x (i + 1) = wyX k x i * (10 - k) from congrArg (wyX k x i * ·) (if_neg hb1)] at ih
          rw [show rwX we r x (i + 1) = _ from if_neg hb1] at ih
          exact ih w2 h2 (fun j hj => (ho2 j (by omega)).trans (ho j hj))
  · intro i hi ih 
    refine z_iload O dX4_odds_45 rfl ?_
    refine z_iload_n O dX4_odds_47 rfl ?_
    refine z_icmp_geN O 65 dX4_odds_48 (by decide) (by omega) (by omega) (fun h48 => by omega) (fun h48 => ?_)
    refine z_lload O dX4_odds_51 rfl ?_
    refine z_ldc2 O dX4_odds_53 klX4_242 ?_
    refine z_top (v' := .long (lN 10)) (by decide) ?_
    refine z_lmulN O dX4_odds_56 ?_
    refine z_lstore (lv' := [(0, _), (1, _), (2, _), (3, _), (4, _), (6, _), (8, _)]) O dX4_odds_57 (by decide) rfl ?_
    refine z_iincN (lv' := [(0, _), (1, _), (2, _), (3, _), (4, _), (6, _), (8, _)]) O 1 dX4_odds_59 (by decide) rfl rfl (by decide) ?_
    refine z_goto O 45 dX4_odds_62 (by decide) ?_
    exact ih
set_option maxRecDepth 20000 in
set_option maxHeartbeats 4000000 in
theorem m_drawnB {s m : Int32} (hb : ¬ ((nI 0 ≤ s ∧ s ≤ nI 999999) ∧ (nI 0 ≤ m ∧ m ≤ nI 20))) : zS G 2 yX4_drawn cX4_drawn 7 (some .int) [.ref (zad (zb G) 21), .int s, .int m] (yM G c0_ c1_ c2_ c3_ c4_ c5_ c6_ c7_ c8_ c9_ c10_ c11_ c12_ c13_ c14_ c15_ c16_ c17_ c18_ c19_ c20_ w kp tx txl rf ya yb at2 st2 iwd ifg nb fr la nms nd wf hh tl) 0 0 (zE (.int (-2)) (yM G c0_ c1_ c2_ c3_ c4_ c5_ c6_ c7_ c8_ c9_ c10_ c11_ c12_ c13_ c14_ c15_ c16_ c17_ c18_ c19_ c20_ w kp tx txl (updN rf 0 (rf 0 + 1)) ya yb at2 st2 iwd ifg nb fr la nms nd wf hh tl)) := by
  refine zS.of (by decide) (Nat.le_of_ble_eq_true rfl) (fun F O hR1 hR2 => ?_)
  have O : zOk G F yX4_drawn cX4_drawn 7 (some .int) RX4 2 (yM G c0_ c1_ c2_ c3_ c4_ c5_ c6_ c7_ c8_ c9_ c10_ c11_ c12_ c13_ c14_ c15_ c16_ c17_ c18_ c19_ c20_ w kp tx txl rf ya yb at2 st2 iwd ifg nb fr la nms nd wf hh tl).length := O
  refine z_eq (lv' := [(0, _), (1, _), (2, _)]) rfl rfl rfl ?_
  refine z_iload_n O dX4_drawn_0 rfl ?_
  refine z_i2l O dX4_drawn_1 ?_
  refine z_lconst O (lN 0) dX4_drawn_2 (by decide) ?_
  refine z_ldc2 O dX4_drawn_3 klX4_244 ?_
  refine z_top (v' := .long (lN 999999)) (by decide) ?_
  refine z_S3e0 O (m_inI (by decide) (by decide)) mX4_in lkX4_45 dX4_drawn_6 (Nat.le_of_ble_eq_true rfl) (by decide) ?_
  refine z_if_eqB O 24 dX4_drawn_9 (by decide) (fun h9 => ?_) (fun h9 => ?_)
  · refine z_aload_n O dX4_drawn_24 rfl ?_
    refine z_V0e0 O m_bad mX4_bad lkX4_65 rfl (by rfl) dX4_drawn_25 (Nat.le_of_ble_eq_true rfl) (by decide) ?_
    exact z_iret O dX4_drawn_28 ⟨rfl, rfl⟩
  · refine z_iload_n O dX4_drawn_12 rfl ?_
    refine z_i2l O dX4_drawn_13 ?_
    refine z_lconst O (lN 0) dX4_drawn_14 (by decide) ?_
    refine z_ldc2 O dX4_drawn_15 klX4_101 ?_
    refine z_top (v' := .long (lN 20)) (by decide) ?_
    refine z_S3e0 O (m_inI (by decide) (by decide)) mX4_in lkX4_45 dX4_drawn_18 (Nat.le_of_ble_eq_true rfl) (by decide) ?_
    refine z_if_neB O 29 dX4_drawn_21 (by decide) (fun h21 => by exact absurd ⟨h9, h21⟩ hb) (fun h21 => ?_)
    refine z_aload_n O dX4_drawn_24 rfl ?_
    refine z_V0e0 O m_bad mX4_bad lkX4_65 rfl (by rfl) dX4_drawn_25 (Nat.le_of_ble_eq_true rfl) (by decide) ?_
    exact z_iret O dX4_drawn_28 ⟨rfl, rfl⟩
set_option maxRecDepth 20000 in
set_option maxHeartbeats 4000000 in
theorem m_drawn {we r seen kept : Nat → Nat} {rd nw ud Y : Nat} (h : RS w 0 we r seen kept rd nw ud) (g : GS Y we r seen kept rd nw ud) (hY : Y + 200 < 1048576) {s m : Nat} (h1 : s ≤ 999999) (hm : m ≤ 20) : zS G 4 yX4_drawn cX4_drawn 7 (some .int) [.ref (zad (zb G) 21), .int (nI s), .int (nI m)] (yM G c0_ c1_ c2_ c3_ c4_ c5_ c6_ c7_ c8_ c9_ c10_ c11_ c12_ c13_ c14_ c15_ c16_ c17_ c18_ c19_ c20_ w kp tx txl rf ya yb at2 st2 iwd ifg nb fr la nms nd wf hh tl) 0 0 (zP (fun v M' => v = .int (nI (popN (bitsN (holesB (drY (s, we, r) m).2.2) 9))) ∧ ∃ w' : Nat → Nat, smW w w' ∧ M' = (yM G c0_ c1_ c2_ c3_ c4_ c5_ c6_ c7_ c8_ c9_ c10_ c11_ c12_ c13_ c14_ c15_ c16_ c17_ c18_ c19_ c20_ w' kp tx txl rf ya yb at2 st2 iwd ifg nb fr la nms nd wf hh tl))) := by
  refine zS.of (by decide) (Nat.le_of_ble_eq_true rfl) (fun F O hR1 hR2 => ?_)
  have O : zOk G F yX4_drawn cX4_drawn 7 (some .int) RX4 4 (yM G c0_ c1_ c2_ c3_ c4_ c5_ c6_ c7_ c8_ c9_ c10_ c11_ c12_ c13_ c14_ c15_ c16_ c17_ c18_ c19_ c20_ w kp tx txl rf ya yb at2 st2 iwd ifg nb fr la nms nd wf hh tl).length := O
  refine z_eq (lv' := [(0, _), (1, _), (2, _)]) rfl rfl rfl ?_
  have hyy := g.y hY
  refine z_iload_n O dX4_drawn_0 rfl ?_
  refine z_i2lN O dX4_drawn_1 (by omega) ?_
  refine z_lconst O (lN 0) dX4_drawn_2 (by decide) ?_
  refine z_ldc2 O dX4_drawn_3 klX4_244 ?_
  refine z_top (v' := .long (lN 999999)) (by decide) ?_
  refine z_S3e0 O (m_inN (by omega) (by decide) (by decide)) mX4_in lkX4_45 dX4_drawn_6 (Nat.le_of_ble_eq_true rfl) (by decide) ?_
  refine z_if_eqB O 24 dX4_drawn_9 (by decide) (fun h9 => by omega) (fun h9 => ?_)
  refine z_iload_n O dX4_drawn_12 rfl ?_
  refine z_i2lN O dX4_drawn_13 (by omega) ?_
  refine z_lconst O (lN 0) dX4_drawn_14 (by decide) ?_
  refine z_ldc2 O dX4_drawn_15 klX4_101 ?_
  refine z_top (v' := .long (lN 20)) (by decide) ?_
  refine z_S3e0 O (m_inN (by omega) (by decide) (by decide)) mX4_in lkX4_45 dX4_drawn_18 (Nat.le_of_ble_eq_true rfl) (by decide) ?_
  refine z_if_neB O 29 dX4_drawn_21 (by decide) (fun h21 => ?_) (fun h21 => by omega)
  refine z_iload_n O dX4_drawn_29 rfl ?_
  refine z_i2lN O dX4_drawn_30 (by omega) ?_
  refine z_lstore_n (lv' := [(0, _), (1, _), (2, _), (3, _)]) O dX4_drawn_31 (by decide) rfl ?_
  refine z_aload_n O dX4_drawn_32 rfl ?_
  refine z_V0u0 O m_tries mX4_tries lkX4_184 rfl (by rfl) dX4_drawn_33 (Nat.le_of_ble_eq_true rfl) (by decide) ?_
  refine z_iconst O (nI 0) dX4_drawn_36 (by decide) ?_
  refine z_istore (lv' := [(0, _), (1, _), (2, _), (3, _), (5, _)]) O dX4_drawn_37 (by decide) rfl ?_
  refine zdown (P := fun i => ∀ w' : Nat → Nat, RW w' 3273 (drY (s, we, r) i).2.2 (drY (s, we, r) i).2.1 → smW w w' → Z G F 0 0 (zEnd G F (zP (fun v M' => v = .int (nI (popN (bitsN (holesB (drY (s, we, r) m).2.2) 9))) ∧ ∃ w' : Nat → Nat, smW w w' ∧ M' = (yM G c0_ c1_ c2_ c3_ c4_ c5_ c6_ c7_ c8_ c9_ c10_ c11_ c12_ c13_ c14_ c15_ c16_ c17_ c18_ c19_ c20_ w' kp tx txl rf ya yb at2 st2 iwd ifg nb fr la nms nd wf hh tl))) 0 0) 39 [(0, .ref (zad (zb G) 21)), (1, .int (nI s)), (2, .int (nI m)), (3, .long (lN (drY (s, we, r) i).1)), (5, .int (nI i))] [] (yM G c0_ c1_ c2_ c3_ c4_ c5_ c6_ c7_ c8_ c9_ c10_ c11_ c12_ c13_ c14_ c15_ c16_ c17_ c18_ c19_ c20_ w' kp tx txl rf ya yb at2 st2 iwd ifg nb fr la nms nd wf hh tl)) (m) ?_ ?_ _ (RW_copy h.1 g.1.1 (by decide)) (fun j hj => by rw [cpyN, if_neg (by omega)])
  · intro w' h' ho
    have hdm := drY_ok (s := (s, we, r)) (by show s < _; omega) g.w g.2.2.1 g.1.1 g.1.2.1 (by show r 117 + 20 < _; omega) m hm
    refine z_iload O dX4_drawn_39 rfl ?_
    refine z_iload_n O dX4_drawn_41 rfl ?_
    refine z_icmp_geN O 110 dX4_drawn_42 (by decide) (by omega) (by omega) (fun h42 => ?_) (fun h42 => by omega)
    refine z_aload_n O dX4_drawn_110 rfl ?_
    refine z_sipush O (nI 3273) dX4_drawn_111 (by decide) ?_
    refine z_V1e0 O (m_holesIn h' hdm.2.2.2.1 (by decide)) mX4_holesIn lkX4_107 rfl (by rfl) dX4_drawn_114 (Nat.le_of_ble_eq_true rfl) (by decide) ?_
    refine z_S1e0 O (m_ones (by have := bitsN_lt (holesB (drY (s, we, r) m).2.2) 9; omega)) mX4_ones lkX4_110 dX4_drawn_117 (Nat.le_of_ble_eq_true rfl) (by decide) ?_
    exact z_iret O dX4_drawn_120 ⟨_, rfl, rfl, w', ho, rfl⟩
  · intro i hi ih w' h' ho
    have hdy := drY_ok (s := (s, we, r)) (by show s < _; omega) g.w g.2.2.1 g.1.1 g.1.2.1 (by show r 117 + 20 < _; omega) i (by omega)
    refine z_iload O dX4_drawn_39 rfl ?_
    refine z_iload_n O dX4_drawn_41 rfl ?_
    refine z_icmp_geN O 110 dX4_drawn_42 (by decide) (by omega) (by omega) (fun h42 => by omega) (fun h42 => ?_)
    refine z_iconst O (nI 0) dX4_drawn_45 (by decide) ?_
    refine z_istore (lv' := [(0, _), (1, _), (2, _), (3, _), (5, _), (6, _)]) O dX4_drawn_46 (by decide) rfl ?_
    refine zdown (P := fun c => ∀ w' : Nat → Nat, RW w' 3273 (drY (s, we, r) i).2.2 (drC (drY (s, we, r) i).1 (drY (s, we, r) i).2.1 c).2 → smW w w' → Z G F 0 0 (zEnd G F (zP (fun v M' => v = .int (nI (popN (bitsN (holesB (drY (s, we, r) m).2.2) 9))) ∧ ∃ w' : Nat → Nat, smW w w' ∧ M' = (yM G c0_ c1_ c2_ c3_ c4_ c5_ c6_ c7_ c8_ c9_ c10_ c11_ c12_ c13_ c14_ c15_ c16_ c17_ c18_ c19_ c20_ w' kp tx txl rf ya yb at2 st2 iwd ifg nb fr la nms nd wf hh tl))) 0 0) 48 [(0, .ref (zad (zb G) 21)), (1, .int (nI s)), (2, .int (nI m)), (3, .long (lN (drC (drY (s, we, r) i).1 (drY (s, we, r) i).2.1 c).1)), (5, .int (nI i)), (6, .int (nI c))] [] (yM G c0_ c1_ c2_ c3_ c4_ c5_ c6_ c7_ c8_ c9_ c10_ c11_ c12_ c13_ c14_ c15_ c16_ c17_ c18_ c19_ c20_ w' kp tx txl rf ya yb at2 st2 iwd ifg nb fr la nms nd wf hh tl)) (9) ?_ ?_ w' h' ho
    · intro w' h' ho
      refine z_iload O dX4_drawn_48 rfl ?_
      refine z_bipush O (nI 9) dX4_drawn_50 (by decide) ?_
      refine z_icmp_geN O 96 dX4_drawn_52 (by decide) (by omega) (by omega) (fun h52 => ?_) (fun h52 => by omega)
      refine z_aload_n O dX4_drawn_96 rfl ?_
      refine z_sipush O (nI 3273) dX4_drawn_97 (by decide) ?_
      refine z_iconst O (nI 1) dX4_drawn_100 (by decide) ?_
      refine z_V2pu0 O (m_passes1 h' hdy.2.2.2.1 (by decide) (drC_ok hdy.1 hdy.2.1 hdy.2.2.1 9 (by omega)).2.1) mX4_passes lkX4_103 rfl (by rfl) dX4_drawn_101 (Nat.le_of_ble_eq_true rfl) (by decide) (fun M' hq => ?_)
      obtain ⟨w2, h2, ho2, rfl⟩ := hq
      refine z_iincN (lv' := [(0, _), (1, _), (2, _), (3, _), (5, _), (6, _)]) O 1 dX4_drawn_104 (by decide) rfl rfl (by decide) ?_
      refine z_goto O 39 dX4_drawn_107 (by decide) ?_
      refine z_kp (lv' := [(0, _), (1, _), (2, _), (3, _), (5, _)]) [0, 1, 2, 3, 5] rfl ?_
      exact ih w2 h2 (fun j hj => (ho2 j (by omega)).trans (ho j hj))
    · intro c hc ih w' h' ho
      refine z_iload O dX4_drawn_48 rfl ?_
      refine z_bipush O (nI 9) dX4_drawn_50 (by decide) ?_
      refine z_icmp_geN O 96 dX4_drawn_52 (by decide) (by omega) (by omega) (fun h52 => by omega) (fun h52 => ?_)
      refine z_lload_n O dX4_drawn_55 rfl ?_
      refine z_ldc2 O dX4_drawn_56 klX4_246 ?_
      refine z_top (v' := .long (lN 1103515245)) (by decide) ?_
      refine z_lmulN O dX4_drawn_59 ?_
      refine z_ldc2 O dX4_drawn_60 klX4_248 ?_
      refine z_top (v' := .long (lN 12345)) (by decide) ?_
      refine z_laddN O dX4_drawn_63 ?_
      refine z_ldc2 O dX4_drawn_64 klX4_250 ?_
      refine z_top (v' := .long (lN 2147483648)) (by decide) ?_
      refine z_lremN O dX4_drawn_67 (by have := (drC_ok hdy.1 hdy.2.1 hdy.2.2.1 c (by omega)).1; omega) (by have := (drC_ok hdy.1 hdy.2.1 hdy.2.2.1 c (by omega)).1; omega) (by have := (drC_ok hdy.1 hdy.2.1 hdy.2.2.1 c (by omega)).1; omega) ?_
      refine z_lstore_n (lv' := [(0, _), (1, _), (2, _), (3, _), (5, _), (6, _)]) O dX4_drawn_68 (by decide) rfl ?_
      refine z_aload_n O dX4_drawn_69 rfl ?_
      refine z_get O dX4_drawn_70 flX4_7 (by rfl) (by rfl) ?_
      refine z_sipush O (nI 3391) dX4_drawn_73 (by decide) ?_
      refine z_iload O dX4_drawn_76 rfl ?_
      refine z_iaddN O dX4_drawn_78 ?_
      refine z_lload_n O dX4_drawn_79 rfl ?_
      refine z_ldc2 O dX4_drawn_80 klX4_252 ?_
      refine z_top (v' := .long (lN 65536)) (by decide) ?_
      refine z_ldivN O dX4_drawn_83 (by have := drX_lt (drC (drY (s, we, r) i).1 (drY (s, we, r) i).2.1 c).1; unfold drX at this; omega) (by have := drX_lt (drC (drY (s, we, r) i).1 (drY (s, we, r) i).2.1 c).1; unfold drX at this; omega) (by have := drX_lt (drC (drY (s, we, r) i).1 (drY (s, we, r) i).2.1 c).1; unfold drX at this; omega) ?_
      refine z_ldc2 O dX4_drawn_84 klX4_254 ?_
      refine z_top (v' := .long (lN 6)) (by decide) ?_
      refine z_lremN O dX4_drawn_87 (by have := drX_lt (drC (drY (s, we, r) i).1 (drY (s, we, r) i).2.1 c).1; unfold drX at this; omega) (by have := drX_lt (drC (drY (s, we, r) i).1 (drY (s, we, r) i).2.1 c).1; unfold drX at this; omega) (by have := drX_lt (drC (drY (s, we, r) i).1 (drY (s, we, r) i).2.1 c).1; unfold drX at this; omega) ?_
      refine z_l2iN O dX4_drawn_88 ?_
      refine z_iastN O (by rfl) dX4_drawn_89 (by rfl) (by omega) (by decide) ?_
      refine z_iincN (lv' := [(0, _), (1, _), (2, _), (3, _), (5, _), (6, _)]) O 1 dX4_drawn_90 (by decide) rfl rfl (by decide) ?_
      refine z_goto O 48 dX4_drawn_93 (by decide) ?_
      exact ih _ (by have hq := RW_setWear (c := c) (v := drW (drX (drC (drY (s, we, r) i).1 (drY (s, we, r) i).2.1 c).1)) h' hdy.2.2.2.1 hc; rw [show 3273 + 118 + c = 3391 + c by omega] at hq; exact hq) (fun j hj => by rw [updN_n (by omega)]; exact ho j hj)
end YS
