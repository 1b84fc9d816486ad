/-! ===== DarnedSock: fraction, best, split, readings ===== -/
theorem mod_half {a b : Nat} (hb : 0 < b) (h : b ≤ a) : 2 * (a % b) ≤ a := by
  have h1 := Nat.mod_lt a hb
  have h2 := Nat.div_add_mod a b
  have h3 : 1 ≤ a / b := (Nat.one_le_div_iff hb).mpr h
  have h4 : b * 1 ≤ b * (a / b) := Nat.mul_le_mul_left b h3
  omega
def gInv (i a b : Nat) : Prop := (i = 0 ∧ a * b < 2 ^ 62) ∨ (1 ≤ i ∧ b ≤ a ∧ a * b * 2 ^ i < 2 ^ 63)
theorem gInv_step {i a b : Nat} (hb : 0 < b) (h : gInv i a b) : gInv (i + 1) b (a % b) := by
  refine Or.inr ⟨by omega, Nat.le_of_lt (Nat.mod_lt a hb), ?_⟩
  rcases h with ⟨h0, h1⟩ | ⟨h0, h1, h2⟩
  · subst h0
    have h3 : b * (a % b) ≤ b * a := Nat.mul_le_mul_left b (Nat.mod_le a b)
    rw [Nat.mul_comm b a] at h3
    have : b * (a % b) * 2 ^ (0 + 1) = b * (a % b) * 2 := rfl
    rw [this]
    omega
  · have h3 := mod_half hb h1
    have h4 : b * (2 * (a % b)) ≤ b * a := Nat.mul_le_mul_left b h3
    have h5 : b * (a % b) * 2 ^ (i + 1) = b * (2 * (a % b)) * 2 ^ i := by
      rw [Nat.pow_succ, Nat.mul_comm (2 ^ i) 2, ← Nat.mul_assoc, Nat.mul_assoc b (a % b) 2, Nat.mul_comm (a % b) 2]
    rw [h5]
    have h6 : b * (2 * (a % b)) * 2 ^ i ≤ b * a * 2 ^ i := Nat.mul_le_mul_right _ h4
    rw [Nat.mul_comm b a] at h6
    omega
theorem gInv_end {a b : Nat} (ha : 0 < a) (h : gInv 100 a b) : b = 0 := by
  rcases h with ⟨h0, _⟩ | ⟨_, _, h2⟩
  · omega
  · rcases Nat.eq_zero_or_pos b with h | h
    · exact h
    · exfalso
      have h3 : 1 ≤ a * b := Nat.mul_pos ha h
      have h4 : 1 * 2 ^ 100 ≤ a * b * 2 ^ 100 := Nat.mul_le_mul_right _ h3
      have h5 : (2 : Nat) ^ 63 < 1 * 2 ^ 100 := by decide
      omega
theorem gcd_step {a b : Nat} : Nat.gcd b (a % b) = Nat.gcd a b := by
  rw [Nat.gcd_comm b (a % b), ← Nat.gcd_rec b a, Nat.gcd_comm]
def frA (u d : Nat) : Nat := if u = 0 ∨ d = 0 then 0 else u / Nat.gcd u d
def frB (u d : Nat) : Nat := if u = 0 ∨ d = 0 then 1 else d / Nat.gcd u d
theorem lcmp0 {b : Nat} (hb : b < 2 ^ 63) : lg_cmp (lN b) (lN 0) = 0 ↔ b = 0 := by
  rw [lg_cmp_eq, pk_lEQ hb (by decide)]
theorem lcmp0_le {b : Nat} (hb : b < 2 ^ 63) : lg_cmp (lN b) (lN 0) ≤ 0 ↔ b = 0 := by
  rw [lg_cmp_le, pk_lLE hb (by decide)]; omega
theorem lcmp0_gt {b : Nat} (hb : b < 2 ^ 63) : 0 < lg_cmp (lN b) (lN 0) ↔ 0 < b := by
  rw [lg_cmp_gt, pk_lLT (by decide) hb]
theorem opt_le {a : Nat} {o : Option Nat} (ha : a < 2 ^ 31) (ho : obd o) : nI a ≤ optI o ↔ ∃ l, o = some l ∧ a ≤ l := by
  cases o with
  | none =>
    refine ⟨fun h => ?_, fun ⟨l, h, _⟩ => by cases h⟩
    exfalso
    have h1 : (nI a) ≤ (-1 : Int32) := h
    rw [Int32.le_iff_toInt_le, nI_toInt ha] at h1
    have : ((-1 : Int32)).toInt = -1 := by decide
    omega
  | some l =>
    show nI a ≤ nI l ↔ _
    rw [nI_leI ha (ho l rfl)]
    constructor
    · intro h; exact ⟨l, rfl, h⟩
    · rintro ⟨l', h1, h2⟩; cases h1; exact h2
/-- longer than what was found so far -/
def longer (a : Nat) (o : Option Nat) : Bool := match o with
  | none => true
  | some l => decide (l < a)
theorem longer_le {a : Nat} {o : Option Nat} (ha : a < 2 ^ 31) (ho : obd o) : nI a ≤ optI o ↔ longer a o = false := by
  rw [opt_le ha ho]
  cases o with
  | none => simp [longer]
  | some l => simp [longer]
def spA (r we : Nat → Nat) (kd c i : Nat) : Nat := spanG r we c 41 0 (r (108 + c)) kd i
theorem spA_le (r we : Nat → Nat) (kd c i : Nat) : spA r we kd c i ≤ 41 := spanG_le 41 0 _ _ _ rfl
def lastB (r we : Nat → Nat) (n kd c : Nat) : Nat := min (lsN (spanV r we) (some c) (some c) 9) (spA r we kd c n)
def bsN (r we : Nat → Nat) (n kd : Nat) : Nat → Option Nat × Option Nat
  | 0 => (none, none)
  | c + 1 => if r (108 + c) < 3 ∧ longer (lastB r we n kd c) (bsN r we n kd c).2 = true then (some c, some (lastB r we n kd c)) else bsN r we n kd c
theorem lastB_le (r we : Nat → Nat) (n kd c : Nat) : lastB r we n kd c ≤ 41 := Nat.le_trans (Nat.min_le_right _ _) (spA_le r we kd c n)
theorem bsN_bd (r we : Nat → Nat) (n kd : Nat) : ∀ c, c ≤ 9 → obd (bsN r we n kd c).1 ∧ obd (bsN r we n kd c).2
  | 0, _ => ⟨(fun f h => by cases h), (fun f h => by cases h)⟩
  | c + 1, hc => by
    have h := bsN_bd r we n kd c (by omega)
    have h2 := lastB_le r we n kd c
    unfold bsN
    split
    · exact ⟨(fun f h => by cases h; omega), (fun f h => by cases h; omega)⟩
    · exact h
def oneS (r we : Nat → Nat) (n kd a b ot i : Nat) : Nat := min (min (spA r we kd a i) (spA r we kd b (n - i))) ot
def bspN (f : Nat → Nat) : Nat → Nat
  | 0 => 1
  | j + 1 => if f (bspN f j) < f (j + 2) then j + 2 else bspN f j
theorem bspN_in (f : Nat → Nat) : ∀ j, 1 ≤ bspN f j ∧ bspN f j ≤ j + 1
  | 0 => ⟨Nat.le_refl _, Nat.le_refl _⟩
  | j + 1 => by
    have h := bspN_in f j
    unfold bspN
    split <;> omega
def otN (r we : Nat → Nat) (a b : Nat) : Nat := lsN (spanV r we) (some a) (some b) 9
def bstI (r we : Nat → Nat) (n kd a b : Nat) : Nat := bspN (oneS r we n kd a b (otN r we a b)) (n - 2)
def bstL (r we : Nat → Nat) (n kd a b : Nat) : Nat := oneS r we n kd a b (otN r we a b) (bstI r we n kd a b)
theorem bstL_le (r we : Nat → Nat) (n kd a b : Nat) : bstL r we n kd a b ≤ 41 := Nat.le_trans (Nat.min_le_right _ _) (lsN_le _ _ _ 9)
def spI (r we : Nat → Nat) (n kd a : Nat) (s : Option (Nat × Nat × Nat)) : Nat → Option (Nat × Nat × Nat)
  | 0 => s
  | j + 1 => if (r (108 + a) < 3 ∧ r (108 + (a + 1 + j)) < 3) ∧ longer (bstL r we n kd a (a + 1 + j)) ((spI r we n kd a s j).map (fun q => q.2.2)) = true then some (10 * a + (a + 1 + j), bstI r we n kd a (a + 1 + j), bstL r we n kd a (a + 1 + j)) else spI r we n kd a s j
def spO (r we : Nat → Nat) (n kd : Nat) : Nat → Option (Nat × Nat × Nat)
  | 0 => none
  | a + 1 => spI r we n kd a (spO r we n kd a) (8 - a)
def tbd (s : Option (Nat × Nat × Nat)) : Prop := ∀ q, s = some q → q.1 < 100 ∧ q.2.1 < 100 ∧ q.2.2 < 100
theorem spI_bd {r we : Nat → Nat} {n kd a : Nat} {s : Option (Nat × Nat × Nat)} (hn : n ≤ 30) (ha : a < 9) (h : tbd s) : ∀ j, j ≤ 8 - a → tbd (spI r we n kd a s j)
  | 0, _ => h
  | j + 1, hj => by
    have ih := spI_bd (r := r) (we := we) (kd := kd) hn ha h j (by omega)
    have h1 := bspN_in (oneS r we n kd a (a + 1 + j) (otN r we a (a + 1 + j))) (n - 2)
    have h2 := bstL_le r we n kd a (a + 1 + j)
    unfold spI
    split
    · intro q hq
      cases hq
      refine ⟨by show 10 * a + (a + 1 + j) < 100; omega, ?_, by show bstL r we n kd a (a + 1 + j) < 100; omega⟩
      show bstI r we n kd a (a + 1 + j) < 100
      unfold bstI
      omega
    · exact ih
theorem spO_bd {r we : Nat → Nat} {n kd : Nat} (hn : n ≤ 30) : ∀ a, a ≤ 9 → tbd (spO r we n kd a)
  | 0, _ => fun q hq => by cases hq
  | a + 1, ha => spI_bd hn (by omega) (spO_bd hn a (by omega)) _ (Nat.le_refl _)
theorem tbd_3 {s : Option (Nat × Nat × Nat)} (h : tbd s) : obd (s.map (fun q => q.2.2)) := by
  intro f hf
  cases s with
  | none => cases hf
  | some q => cases hf; have := (h q rfl).2.2; show q.2.2 < 2 ^ 31; omega
section XS
variable {G : zG} {we r cl seen kept : Nat → Nat} {rd nw ud : Nat} {im : Nat → Option Nat} {twe tr tcl bys wo nu : Nat → Nat} {len it so at_ be va : Nat} {sp ss al od : Nat → Nat} {ab bl : Int64} {bd no fu : Nat} {rest : List va_E}
set_option maxRecDepth 20000 in
set_option maxHeartbeats 4000000 in
theorem s_commonDivisor {M : List va_E} {a0 b0 : Nat} (h0 : 0 < a0) (ha0 : a0 < 2 ^ 62) (hb0 : b0 < 2 ^ 62) (hp : a0 * b0 < 2 ^ 62) : zS G 1 yX3_commonDivisor cX3_commonDivisor 7 (some .long) [.long (lN a0), .long (lN b0)] M 0 0 (zE (.long (lN (Nat.gcd a0 b0))) M) := by
  refine zS.of (by decide) (Nat.le_of_ble_eq_true rfl) (fun F O hR1 hR2 => ?_)
  have O : zOk G F yX3_commonDivisor cX3_commonDivisor 7 (some .long) RX3 1 M.length := O
  refine z_eq (lv' := [(0, _), (2, _)]) rfl rfl rfl ?_
  refine z_iconst O (nI 0) dX3_commonDivisor_0 (by decide) ?_
  refine z_istore (lv' := [(0, _), (2, _), (4, _)]) O dX3_commonDivisor_1 (by decide) rfl ?_
  refine zdown (P := fun i => ∀ a b : Nat, 0 < a → a < 2 ^ 62 → b < 2 ^ 62 → Nat.gcd a b = Nat.gcd a0 b0 → gInv i a b → Z G F 0 0 (zEnd G F (zE (.long (lN (Nat.gcd a0 b0))) M) 0 0) 3 [(0, .long (lN a)), (2, .long (lN b)), (4, .int (nI i))] [] M) (100) ?_ ?_ a0 b0 h0 ha0 hb0 rfl (Or.inl ⟨rfl, hp⟩)
  · intro a b h0 ha hb hg hv
    have hb0 := gInv_end h0 hv
    rw [hb0, Nat.gcd_zero_right] at hg
    refine z_iload O dX3_commonDivisor_3 rfl ?_
    refine z_bipush O (nI 100) dX3_commonDivisor_5 (by decide) ?_
    refine z_icmp_geN O 32 dX3_commonDivisor_7 (by decide) (by omega) (by omega) (fun h7 => ?_) (fun h7 => by omega)
    refine z_lload_n O dX3_commonDivisor_32 rfl ?_
    refine z_lconst O (lN 0) dX3_commonDivisor_33 (by decide) ?_
    refine z_lcmp O dX3_commonDivisor_34 ?_
    refine z_if_le O 42 dX3_commonDivisor_35 (by decide) (fun h35 => by exact absurd ((lcmp0_le (by omega)).mp h35) (by omega)) (fun h35 => ?_)
    refine z_lload_n O dX3_commonDivisor_38 rfl ?_
    refine z_goto O 43 dX3_commonDivisor_39 (by decide) ?_
    exact z_lret O dX3_commonDivisor_43 ⟨by rw [hg], rfl⟩
  · intro i hi ih a b h0 ha hb hg hv
    refine z_iload O dX3_commonDivisor_3 rfl ?_
    refine z_bipush O (nI 100) dX3_commonDivisor_5 (by decide) ?_
    refine z_icmp_geN O 32 dX3_commonDivisor_7 (by decide) (by omega) (by omega) (fun h7 => by omega) (fun h7 => ?_)
    refine z_lload_n O dX3_commonDivisor_10 rfl ?_
    refine z_lconst O (lN 0) dX3_commonDivisor_11 (by decide) ?_
    refine z_lcmp O dX3_commonDivisor_12 ?_
    refine z_if_eq O 32 dX3_commonDivisor_13 (by decide) (fun h13 => ?_) (fun h13 => ?_)
    · rw [(lcmp0 (by omega)).mp h13, Nat.gcd_zero_right] at hg
      refine z_lload_n O dX3_commonDivisor_32 rfl ?_
      refine z_lconst O (lN 0) dX3_commonDivisor_33 (by decide) ?_
      refine z_lcmp O dX3_commonDivisor_34 ?_
      refine z_if_le O 42 dX3_commonDivisor_35 (by decide) (fun h35 => by exact absurd ((lcmp0_le (by omega)).mp h35) (by omega)) (fun h35 => ?_)
      refine z_lload_n O dX3_commonDivisor_38 rfl ?_
      refine z_goto O 43 dX3_commonDivisor_39 (by decide) ?_
      exact z_lret O dX3_commonDivisor_43 ⟨by rw [hg], rfl⟩
    · have hb1 : 0 < b := Nat.pos_of_ne_zero (fun q => h13 ((lcmp0 (by omega)).mpr q))
      refine z_lload_n O dX3_commonDivisor_16 rfl ?_
      refine z_lload_n O dX3_commonDivisor_17 rfl ?_
      refine z_lrem O dX3_commonDivisor_18 (lN_ne0 (by omega) (by omega)) ?_
      refine z_top (v' := .long (lN (a % b))) (congrArg Value.long (pk_lRem (by omega) (by omega) (by omega))) ?_
      refine z_lstore (lv' := [(0, _), (2, _), (4, _), (5, _)]) O dX3_commonDivisor_19 (by decide) rfl ?_
      refine z_lload_n O dX3_commonDivisor_21 rfl ?_
      refine z_lstore_n (lv' := [(0, _), (2, _), (4, _), (5, _)]) O dX3_commonDivisor_22 (by decide) rfl ?_
      refine z_lload O dX3_commonDivisor_23 rfl ?_
      refine z_lstore_n (lv' := [(0, _), (2, _), (4, _), (5, _)]) O dX3_commonDivisor_25 (by decide) rfl ?_
      refine z_iincN (lv' := [(0, _), (2, _), (4, _), (5, _)]) O 1 dX3_commonDivisor_26 (by decide) rfl rfl (by decide) ?_
      refine z_goto O 3 dX3_commonDivisor_29 (by decide) ?_
      refine z_kp (lv' := [(0, _), (2, _), (4, _)]) [0, 2, 4] rfl ?_
      exact ih _ _ hb1 hb (Nat.lt_of_le_of_lt (Nat.mod_le _ _) ha) (gcd_step.trans hg) (gInv_step hb1 hv)
set_option maxRecDepth 20000 in
set_option maxHeartbeats 4000000 in
theorem x_setFraction {u d : Nat} (hu1 : u < 2 ^ 62) (hd1 : d < 2 ^ 62) (hp : u * d < 2 ^ 62) : zS G 2 yX3_setFraction cX3_setFraction 7 none [.ref (zad (zb G) 0), .long (lN u), .long (lN d)] (xM G we r cl seen kept rd nw ud im twe tr tcl bys wo nu len it so at_ be va sp ss al od ab bl bd no fu rest) 0 0 (zU (xM G we r cl seen kept rd nw ud im twe tr tcl bys wo nu len it so at_ be va sp ss al od (lN (frA u d)) (lN (frB u d)) bd no fu rest)) := by
  refine zS.of (by decide) (Nat.le_of_ble_eq_true rfl) (fun F O hR1 hR2 => ?_)
  have O : zOk G F yX3_setFraction cX3_setFraction 7 none RX3 2 (xM G we r cl seen kept rd nw ud im twe tr tcl bys wo nu len it so at_ be va sp ss al od ab bl bd no fu rest).length := O
  refine z_eq (lv' := [(0, _), (1, _), (3, _)]) rfl rfl rfl ?_
  refine z_lload_n O dX3_setFraction_0 rfl ?_
  refine z_lconst O (lN 0) dX3_setFraction_1 (by decide) ?_
  refine z_lcmp O dX3_setFraction_2 ?_
  refine z_if_le O 12 dX3_setFraction_3 (by decide) (fun h3 => ?_) (fun h3 => ?_)
  · have hz0 : u = 0 ∨ d = 0 := by first | exact Or.inl ((lcmp0_le (by omega)).mp h3) | exact Or.inr (Nat.eq_zero_of_not_pos (fun q => h9 ((lcmp0_gt (by omega)).mpr q)))
    refine z_aload_n O dX3_setFraction_12 rfl ?_
    refine z_lconst O (lN 0) dX3_setFraction_13 (by decide) ?_
    refine z_put O (by rfl) dX3_setFraction_14 flX3_47 (by rfl) rfl rfl (by simp) ?_
    refine z_M (show _ = (xM G we r cl seen kept rd nw ud im twe tr tcl bys wo nu len it so at_ be va sp ss al od (lN 0) bl bd no fu rest) from rfl) ?_
    refine z_aload_n O dX3_setFraction_17 rfl ?_
    refine z_lconst O (lN 1) dX3_setFraction_18 (by decide) ?_
    refine z_put O (by rfl) dX3_setFraction_19 flX3_51 (by rfl) rfl rfl (by simp) ?_
    refine z_M (show _ = (xM G we r cl seen kept rd nw ud im twe tr tcl bys wo nu len it so at_ be va sp ss al od (lN 0) (lN 1) bd no fu rest) from rfl) ?_
    exact z_vret O dX3_setFraction_22 ⟨rfl, by rw [frA, frB, if_pos hz0, if_pos hz0]⟩
  · refine z_lload_n O dX3_setFraction_6 rfl ?_
    refine z_lconst O (lN 0) dX3_setFraction_7 (by decide) ?_
    refine z_lcmp O dX3_setFraction_8 ?_
    refine z_if_gt O 23 dX3_setFraction_9 (by decide) (fun h9 => ?_) (fun h9 => ?_)
    · have hu : 0 < u := Nat.pos_of_ne_zero (fun q => h3 ((lcmp0_le (by omega)).mpr q))
      have hd : 0 < d := (lcmp0_gt (by omega)).mp h9
      have hg0 : 0 < Nat.gcd u d := Nat.gcd_pos_of_pos_left d hu
      have hgl := Nat.gcd_le_left d hu
      refine z_lload_n O dX3_setFraction_23 rfl ?_
      refine z_lload_n O dX3_setFraction_24 rfl ?_
      refine z_S2e0 O (s_commonDivisor hu hu1 hd1 hp) mX3_commonDivisor lkX3_268 dX3_setFraction_25 (Nat.le_of_ble_eq_true rfl) (by decide) ?_
      refine z_lstore (lv' := [(0, _), (1, _), (3, _), (5, _)]) O dX3_setFraction_28 (by decide) rfl ?_
      refine z_aload_n O dX3_setFraction_30 rfl ?_
      refine z_lload_n O dX3_setFraction_31 rfl ?_
      refine z_lload O dX3_setFraction_32 rfl ?_
      refine z_ldivN O dX3_setFraction_34 (by omega) (by omega) (by omega) ?_
      refine z_put O (by rfl) dX3_setFraction_35 flX3_47 (by rfl) rfl rfl (by simp) ?_
      refine z_M (show _ = (xM G we r cl seen kept rd nw ud im twe tr tcl bys wo nu len it so at_ be va sp ss al od (lN (u / Nat.gcd u d)) bl bd no fu rest) from rfl) ?_
      refine z_aload_n O dX3_setFraction_38 rfl ?_
      refine z_lload_n O dX3_setFraction_39 rfl ?_
      refine z_lload O dX3_setFraction_40 rfl ?_
      refine z_ldivN O dX3_setFraction_42 (by omega) (by omega) (by omega) ?_
      refine z_put O (by rfl) dX3_setFraction_43 flX3_51 (by rfl) rfl rfl (by simp) ?_
      refine z_M (show _ = (xM G we r cl seen kept rd nw ud im twe tr tcl bys wo nu len it so at_ be va sp ss al od (lN (u / Nat.gcd u d)) (lN (d / Nat.gcd u d)) bd no fu rest) from rfl) ?_
      exact z_vret O dX3_setFraction_46 ⟨rfl, by rw [frA, frB, if_neg (by omega), if_neg (by omega)]⟩
    · have hz0 : u = 0 ∨ d = 0 := by first | exact Or.inl ((lcmp0_le (by omega)).mp h3) | exact Or.inr (Nat.eq_zero_of_not_pos (fun q => h9 ((lcmp0_gt (by omega)).mpr q)))
      refine z_aload_n O dX3_setFraction_12 rfl ?_
      refine z_lconst O (lN 0) dX3_setFraction_13 (by decide) ?_
      refine z_put O (by rfl) dX3_setFraction_14 flX3_47 (by rfl) rfl rfl (by simp) ?_
      refine z_M (show _ = (xM G we r cl seen kept rd nw ud im twe tr tcl bys wo nu len it so at_ be va sp ss al od (lN 0) bl bd no fu rest) from rfl) ?_
      refine z_aload_n O dX3_setFraction_17 rfl ?_
      refine z_lconst O (lN 1) dX3_setFraction_18 (by decide) ?_
      refine z_put O (by rfl) dX3_setFraction_19 flX3_51 (by rfl) rfl rfl (by simp) ?_
      refine z_M (show _ = (xM G we r cl seen kept rd nw ud im twe tr tcl bys wo nu len it so at_ be va sp ss al od (lN 0) (lN 1) bd no fu rest) from rfl) ?_
      exact z_vret O dX3_setFraction_22 ⟨rfl, by rw [frA, frB, if_pos hz0, if_pos hz0]⟩
set_option maxRecDepth 20000 in
set_option maxHeartbeats 4000000 in
theorem x_shareB {f : Int32} (hb : ¬ (0 ≤ f ∧ f < nI 3)) : zS G 2 yX3_share cX3_share 2 (some .int) [.ref (zad (zb G) 0), .int f] (xM G we r cl seen kept rd nw ud im twe tr tcl bys wo nu len it so at_ be va sp ss al od ab bl bd no fu rest) 0 0 (zE (.int (-2)) (xM G we r cl seen kept rd nw ud im twe tr tcl bys wo nu len it so at_ be va sp ss al od ab bl (bd + 1) no fu rest)) := by
  refine zS.of (by decide) (Nat.le_of_ble_eq_true rfl) (fun F O hR1 hR2 => ?_)
  have O : zOk G F yX3_share cX3_share 2 (some .int) RX3 2 (xM G we r cl seen kept rd nw ud im twe tr tcl bys wo nu len it so at_ be va sp ss al od ab bl bd no fu rest).length := O
  refine z_eq (lv' := [(0, _), (1, _)]) rfl rfl rfl ?_
  refine z_iload_n O dX3_share_0 rfl ?_
  refine z_iconst O (nI 3) dX3_share_1 (by decide) ?_
  refine z_S2e0 O s_within mX3_within lkX3_54 dX3_share_2 (Nat.le_of_ble_eq_true rfl) (by decide) ?_
  refine z_if_neB O 15 dX3_share_5 (by decide) (fun h5 => by exact absurd h5 hb) (fun h5 => ?_)
  refine z_aload_n O dX3_share_8 rfl ?_
  refine z_bipush O (-2) dX3_share_9 (by decide) ?_
  refine z_V1e0 O x_refuseB mX3_refuse lkX3_58 rfl (by rfl) dX3_share_11 (Nat.le_of_ble_eq_true rfl) (by decide) ?_
  exact z_iret O dX3_share_14 ⟨rfl, rfl⟩
set_option maxRecDepth 20000 in
set_option maxHeartbeats 4000000 in
theorem x_share (hr : rowOK r) (hw : weOK we) (hz : rowZ r) (hs : sinceOK r) (hwz : weZ we) (hy : r 117 + 100 < 1048576) (htw : weZ twe) (htr : rowT tr) {f : Nat} (hf : f < 3) : zS G 6 yX3_share cX3_share 2 (some .int) [.ref (zad (zb G) 0), .int (nI f)] (xM G we r cl seen kept rd nw ud im twe tr tcl bys wo nu len it so at_ be va sp ss al od ab bl bd no fu rest) 0 0 (zP (fun v M' => v = .int (nI 1) ∧ xS G we r seen kept rd nw ud im bys len (lN (frA (clm r 0 f) (clAll r 0))) (lN (frB (clm r 0 f) (clAll r 0))) bd no fu rest M')) := by
  refine zS.of (by decide) (Nat.le_of_ble_eq_true rfl) (fun F O hR1 hR2 => ?_)
  have O : zOk G F yX3_share cX3_share 2 (some .int) RX3 6 (xM G we r cl seen kept rd nw ud im twe tr tcl bys wo nu len it so at_ be va sp ss al od ab bl bd no fu rest).length := O
  refine z_eq (lv' := [(0, _), (1, _)]) rfl rfl rfl ?_
  refine z_iload_n O dX3_share_0 rfl ?_
  refine z_iconst O (nI 3) dX3_share_1 (by decide) ?_
  refine z_S2e0 O (s_withinN (by omega) (by omega)) mX3_within lkX3_54 dX3_share_2 (Nat.le_of_ble_eq_true rfl) (by decide) ?_
  refine z_if_neB O 15 dX3_share_5 (by decide) (fun h5 => ?_) (fun h5 => by omega)
  refine z_aload_n O dX3_share_15 rfl ?_
  refine z_aload_n O dX3_share_16 rfl ?_
  refine z_get O dX3_share_17 flX3_12 (by rfl) (by rfl) ?_
  refine z_get O dX3_share_20 flX3_62 (by rfl) (by rfl) ?_
  refine z_iload_n O dX3_share_23 rfl ?_
  refine z_iconst O (nI 0) dX3_share_24 (by decide) ?_
  refine z_V2p0 O (s_claimOf xN hr hs hf (by decide)) mX0_claimOf lkX3_155 rfl (by rfl) dX3_share_25 (Nat.le_of_ble_eq_true rfl) (by decide) (fun x M' hq => ?_)
  obtain ⟨rfl, q, rfl⟩ := hq
  refine z_M (show _ = (xM G we r q seen kept rd nw ud im twe tr tcl bys wo nu len it so at_ be va sp ss al od ab bl bd no fu rest) from rfl) ?_
  have hc0 := clm_lt hr 0 f
  refine z_i2lN O dX3_share_28 (by omega) ?_
  refine z_aload_n O dX3_share_29 rfl ?_
  refine z_get O dX3_share_30 flX3_12 (by rfl) (by rfl) ?_
  refine z_get O dX3_share_33 flX3_62 (by rfl) (by rfl) ?_
  refine z_iconst O (nI 0) dX3_share_36 (by decide) ?_
  refine z_V1p0 O (s_allClaims xN hr hs (by decide)) mX0_allClaims lkX3_164 rfl (by rfl) dX3_share_37 (Nat.le_of_ble_eq_true rfl) (by decide) (fun x M' hq => ?_)
  obtain ⟨rfl, q2, rfl⟩ := hq
  refine z_M (show _ = (xM G we r q2 seen kept rd nw ud im twe tr tcl bys wo nu len it so at_ be va sp ss al od ab bl bd no fu rest) from rfl) ?_
  have hc1 := clm_lt hr 0 0
  have hc2 := clm_lt hr 0 1
  have hc3 := clm_lt hr 0 2
  have hc4 : clAll r 0 ≤ 339738624 := by unfold clAll; omega
  refine z_i2lN O dX3_share_40 (by omega) ?_
  refine z_V2u0 O (x_setFraction (by omega) (by omega) (by have h4 : clm r 0 f * clAll r 0 ≤ 113246208 * 339738624 := Nat.mul_le_mul hc0 hc4; omega)) mX3_setFraction lkX3_167 rfl (by rfl) dX3_share_41 (Nat.le_of_ble_eq_true rfl) (by decide) ?_
  refine z_iconst O (nI 1) dX3_share_44 (by decide) ?_
  exact z_iret O dX3_share_45 ⟨_, rfl, rfl, ⟨_, _, _, _, _, _, _, _, _, _, _, _, _, _, _, htw, htr, rfl⟩⟩
set_option maxRecDepth 20000 in
set_option maxHeartbeats 4000000 in
theorem x_bestB {n kd f : Int32} (hb : ¬ ((nI 1 ≤ n ∧ n ≤ nI 30) ∧ (0 ≤ kd ∧ kd < nI 6) ∧ (nI 0 ≤ f ∧ f ≤ nI 1))) : zS G 2 yX3_best cX3_best 8 (some .int) [.ref (zad (zb G) 0), .int n, .int kd, .int f] (xM G we r cl seen kept rd nw ud im twe tr tcl bys wo nu len it so at_ be va sp ss al od ab bl bd no fu rest) 0 0 (zE (.int (-2)) (xM G we r cl seen kept rd nw ud im twe tr tcl bys wo nu len it so at_ be va sp ss al od ab bl (bd + 1) no fu rest)) := by
  refine zS.of (by decide) (Nat.le_of_ble_eq_true rfl) (fun F O hR1 hR2 => ?_)
  have O : zOk G F yX3_best cX3_best 8 (some .int) RX3 2 (xM G we r cl seen kept rd nw ud im twe tr tcl bys wo nu len it so at_ be va sp ss al od ab bl bd no fu rest).length := O
  refine z_eq (lv' := [(0, _), (1, _), (2, _), (3, _)]) rfl rfl rfl ?_
  refine z_iload_n O dX3_best_0 rfl ?_
  refine z_iconst O (nI 1) dX3_best_1 (by decide) ?_
  refine z_bipush O (nI 30) dX3_best_2 (by decide) ?_
  refine z_S3e0 O s_between mX3_between lkX3_96 dX3_best_4 (Nat.le_of_ble_eq_true rfl) (by decide) ?_
  refine z_if_eqB O 28 dX3_best_7 (by decide) (fun h7 => ?_) (fun h7 => ?_)
  · refine z_aload_n O dX3_best_28 rfl ?_
    refine z_bipush O (-2) dX3_best_29 (by decide) ?_
    refine z_V1e0 O x_refuseB mX3_refuse lkX3_58 rfl (by rfl) dX3_best_31 (Nat.le_of_ble_eq_true rfl) (by decide) ?_
    exact z_iret O dX3_best_34 ⟨rfl, rfl⟩
  · refine z_iload_n O dX3_best_10 rfl ?_
    refine z_bipush O (nI 6) dX3_best_11 (by decide) ?_
    refine z_S2e0 O s_within mX3_within lkX3_54 dX3_best_13 (Nat.le_of_ble_eq_true rfl) (by decide) ?_
    refine z_if_eqB O 28 dX3_best_16 (by decide) (fun h16 => ?_) (fun h16 => ?_)
    · refine z_aload_n O dX3_best_28 rfl ?_
      refine z_bipush O (-2) dX3_best_29 (by decide) ?_
      refine z_V1e0 O x_refuseB mX3_refuse lkX3_58 rfl (by rfl) dX3_best_31 (Nat.le_of_ble_eq_true rfl) (by decide) ?_
      exact z_iret O dX3_best_34 ⟨rfl, rfl⟩
    · refine z_iload_n O dX3_best_19 rfl ?_
      refine z_iconst O (nI 0) dX3_best_20 (by decide) ?_
      refine z_iconst O (nI 1) dX3_best_21 (by decide) ?_
      refine z_S3e0 O s_between mX3_between lkX3_96 dX3_best_22 (Nat.le_of_ble_eq_true rfl) (by decide) ?_
      refine z_if_neB O 35 dX3_best_25 (by decide) (fun h25 => ?_) (fun h25 => ?_)
      · exact absurd ⟨h7, h16, h25⟩ hb --stop
      · refine z_aload_n O dX3_best_28 rfl ?_
        refine z_bipush O (-2) dX3_best_29 (by decide) ?_
        refine z_V1e0 O x_refuseB mX3_refuse lkX3_58 rfl (by rfl) dX3_best_31 (Nat.le_of_ble_eq_true rfl) (by decide) ?_
        exact z_iret O dX3_best_34 ⟨rfl, rfl⟩
set_option maxRecDepth 20000 in
set_option maxHeartbeats 4000000 in
theorem x_best (hr : rowOK r) (hw : weOK we) (hz : rowZ r) (hs : sinceOK r) (hwz : weZ we) (hy : r 117 + 100 < 1048576) (htw : weZ twe) (htr : rowT tr) {n kd f : Nat} (h1 : 1 ≤ n) (h2 : n ≤ 30) (h3 : kd < 6) (h4 : f ≤ 1) : zS G 5 yX3_best cX3_best 8 (some .int) [.ref (zad (zb G) 0), .int (nI n), .int (nI kd), .int (nI f)] (xM G we r cl seen kept rd nw ud im twe tr tcl bys wo nu len it so at_ be va sp ss al od ab bl bd no fu rest) 0 0 (zP (fun v M' => v = .int (if f = 0 then optI (bsN r we n kd 9).1 else optI (bsN r we n kd 9).2) ∧ xS G we r seen kept rd nw ud im bys len ab bl bd no fu rest M')) := by
  refine zS.of (by decide) (Nat.le_of_ble_eq_true rfl) (fun F O hR1 hR2 => ?_)
  have O : zOk G F yX3_best cX3_best 8 (some .int) RX3 5 (xM G we r cl seen kept rd nw ud im twe tr tcl bys wo nu len it so at_ be va sp ss al od ab bl bd no fu rest).length := O
  refine z_eq (lv' := [(0, _), (1, _), (2, _), (3, _)]) rfl rfl rfl ?_
  refine z_iload_n O dX3_best_0 rfl ?_
  refine z_iconst O (nI 1) dX3_best_1 (by decide) ?_
  refine z_bipush O (nI 30) dX3_best_2 (by decide) ?_
  refine z_S3e0 O (s_betweenN (by omega) (by omega) (by omega)) mX3_between lkX3_96 dX3_best_4 (Nat.le_of_ble_eq_true rfl) (by decide) ?_
  refine z_if_eqB O 28 dX3_best_7 (by decide) (fun h7 => by omega) (fun h7 => ?_)
  refine z_iload_n O dX3_best_10 rfl ?_
  refine z_bipush O (nI 6) dX3_best_11 (by decide) ?_
  refine z_S2e0 O (s_withinN (by omega) (by omega)) mX3_within lkX3_54 dX3_best_13 (Nat.le_of_ble_eq_true rfl) (by decide) ?_
  refine z_if_eqB O 28 dX3_best_16 (by decide) (fun h16 => by omega) (fun h16 => ?_)
  refine z_iload_n O dX3_best_19 rfl ?_
  refine z_iconst O (nI 0) dX3_best_20 (by decide) ?_
  refine z_iconst O (nI 1) dX3_best_21 (by decide) ?_
  refine z_S3e0 O (s_betweenN (by omega) (by omega) (by omega)) mX3_between lkX3_96 dX3_best_22 (Nat.le_of_ble_eq_true rfl) (by decide) ?_
  refine z_if_neB O 35 dX3_best_25 (by decide) (fun h25 => ?_) (fun h25 => by omega)
  refine z_aload_n O dX3_best_35 rfl ?_
  refine z_V0u0 O (x_findSpans hr hw hz hs hwz hy htw htr) mX3_findSpans lkX3_174 rfl (by rfl) dX3_best_36 (Nat.le_of_ble_eq_true rfl) (by decide) ?_
  refine z_iconst O (-1) dX3_best_39 (by decide) ?_
  refine z_istore (lv' := [(0, _), (1, _), (2, _), (3, _), (4, _)]) O dX3_best_40 (by decide) rfl ?_
  refine z_iconst O (-1) dX3_best_42 (by decide) ?_
  refine z_istore (lv' := [(0, _), (1, _), (2, _), (3, _), (4, _), (5, _)]) O dX3_best_43 (by decide) rfl ?_
  refine z_iconst O (nI 0) dX3_best_45 (by decide) ?_
  refine z_istore (lv' := [(0, _), (1, _), (2, _), (3, _), (4, _), (5, _), (6, _)]) O dX3_best_46 (by decide) rfl ?_
  refine zdown (P := fun c => Z G F 0 0 (zEnd G F (zP (fun v M' => v = .int (if f = 0 then optI (bsN r we n kd 9).1 else optI (bsN r we n kd 9).2) ∧ xS G we r seen kept rd nw ud im bys len ab bl bd no fu rest M')) 0 0) 48 [(0, .ref (zad (zb G) 0)), (1, .int (nI n)), (2, .int (nI kd)), (3, .int (nI f)), (4, .int (optI (bsN r we n kd c).1)), (5, .int (optI (bsN r we n kd c).2)), (6, .int (nI c))] [] (xM G we r cl seen kept rd nw ud im twe tr tcl bys wo nu len it so at_ be va (spC r we sp 9) ss al od ab bl bd no fu rest)) (9) ?_ ?_ 
  · refine z_iload O dX3_best_48 rfl ?_
    refine z_bipush O (nI 9) dX3_best_50 (by decide) ?_
    refine z_icmp_geN O 121 dX3_best_52 (by decide) (by omega) (by omega) (fun h52 => ?_) (fun h52 => by omega)
    refine z_iload_n O dX3_best_121 rfl ?_
    refine z_if_neN O 130 dX3_best_122 (by decide) (by omega) (fun h122 => ?_) (fun h122 => ?_)
    · refine z_iload O dX3_best_130 rfl ?_
      exact z_iret O dX3_best_132 (by first | exact ⟨_, rfl, by rw [if_pos (by assumption)], ⟨_, _, _, _, _, _, _, _, _, _, _, _, _, _, _, htw, htr, rfl⟩⟩ | exact ⟨_, rfl, by rw [if_neg (by assumption)], ⟨_, _, _, _, _, _, _, _, _, _, _, _, _, _, _, htw, htr, rfl⟩⟩)
    · refine z_iload O dX3_best_125 rfl ?_
      refine z_goto O 132 dX3_best_127 (by decide) ?_
      exact z_iret O dX3_best_132 (by first | exact ⟨_, rfl, by rw [if_pos (by assumption)], ⟨_, _, _, _, _, _, _, _, _, _, _, _, _, _, _, htw, htr, rfl⟩⟩ | exact ⟨_, rfl, by rw [if_neg (by assumption)], ⟨_, _, _, _, _, _, _, _, _, _, _, _, _, _, _, htw, htr, rfl⟩⟩)
  · intro c hc ih 
    have hlb := longer_le (a := lastB r we n kd c) (o := (bsN r we n kd c).2) (by have := lastB_le r we n kd c; omega) (bsN_bd r we n kd c (by omega)).2
    refine z_iload O dX3_best_48 rfl ?_
    refine z_bipush O (nI 9) dX3_best_50 (by decide) ?_
    refine z_icmp_geN O 121 dX3_best_52 (by decide) (by omega) (by omega) (fun h52 => by omega) (fun h52 => ?_)
    refine z_aload_n O dX3_best_55 rfl ?_
    refine z_get O dX3_best_56 flX3_12 (by rfl) (by rfl) ?_
    refine z_get O dX3_best_59 flX3_62 (by rfl) (by rfl) ?_
    refine z_iload O dX3_best_62 rfl ?_
    refine z_V1e0 O (s_hasRoom xN hr hc) mX0_hasRoom lkX3_180 rfl (by rfl) dX3_best_64 (Nat.le_of_ble_eq_true rfl) (by decide) ?_
    refine z_if_neB O 73 dX3_best_67 (by decide) (fun h67 => ?_) (fun h67 => ?_)
    · refine z_aload_n O dX3_best_73 rfl ?_
      refine z_iload O dX3_best_74 rfl ?_
      refine z_iload O dX3_best_76 rfl ?_
      refine z_V2e0 O (x_leastSpanBut (a := some c) (b := some c) (fun c hc => spC_at 9 c hc) (by intro g hg; cases hg; omega) (by intro g hg; cases hg; omega)) mX3_leastSpanBut lkX3_177 rfl (by rfl) dX3_best_78 (Nat.le_of_ble_eq_true rfl) (by decide) ?_
      refine z_aload_n O dX3_best_81 rfl ?_
      refine z_get O dX3_best_82 flX3_12 (by rfl) (by rfl) ?_
      refine z_get O dX3_best_85 flX3_62 (by rfl) (by rfl) ?_
      refine z_iload O dX3_best_88 rfl ?_
      refine z_iload_n O dX3_best_90 rfl ?_
      refine z_iload_n O dX3_best_91 rfl ?_
      refine z_V3e0 O (s_span xN hr hw hc (by omega) (by omega)) mX0_span lkX3_183 rfl (by rfl) dX3_best_92 (Nat.le_of_ble_eq_true rfl) (by decide) ?_
      refine z_S2e0 O (s_minN (by have := lsN_le (spanV r we) (some c) (some c) 9; omega) (by have := spA_le r we kd c n; unfold spA at this; omega)) mJ9_min_7cf53 lkX3_186 dX3_best_95 (Nat.le_of_ble_eq_true rfl) (by decide) ?_
      refine z_istore (lv' := [(0, _), (1, _), (2, _), (3, _), (4, _), (5, _), (6, _), (7, _)]) O dX3_best_98 (by decide) rfl ?_
      refine z_iload O dX3_best_100 rfl ?_
      refine z_iload O dX3_best_102 rfl ?_
      refine z_icmp_le O 115 dX3_best_104 (by decide) (fun h104 => ?_) (fun h104 => ?_)
      · refine z_iincN (lv' := [(0, _), (1, _), (2, _), (3, _), (4, _), (5, _), (6, _), (7, _)]) O 1 dX3_best_115 (by decide) rfl rfl (by decide) ?_
        refine z_goto O 48 dX3_best_118 (by decide) ?_
        refine z_kp (lv' := [(0, _), (1, _), (2, _), (3, _), (4, _), (5, _), (6, _)]) [0, 1, 2, 3, 4, 5, 6] rfl ?_
        first | (rw [show bsN r we n kd (c + 1) = bsN r we n kd c from if_neg (fun q => h67 q.1)] at ih; exact ih) | (rw [show bsN r we n kd (c + 1) = bsN r we n kd c from if_neg (fun q => by rw [hlb.mp h104] at q; exact absurd q.2 (by decide))] at ih; exact ih) | (rw [show bsN r we n kd (c + 1) = (some c, some (lastB r we n kd c)) from if_pos ⟨h67, by cases hq : longer (lastB r we n kd c) (bsN r we n kd c).2; exact absurd (hlb.mpr hq) h104; rfl⟩] at ih; exact ih)
      · refine z_iload O dX3_best_107 rfl ?_
        refine z_istore (lv' := [(0, _), (1, _), (2, _), (3, _), (4, _), (5, _), (6, _), (7, _)]) O dX3_best_109 (by decide) rfl ?_
        refine z_iload O dX3_best_111 rfl ?_
        refine z_istore (lv' := [(0, _), (1, _), (2, _), (3, _), (4, _), (5, _), (6, _), (7, _)]) O dX3_best_113 (by decide) rfl ?_
        refine z_iincN (lv' := [(0, _), (1, _), (2, _), (3, _), (4, _), (5, _), (6, _), (7, _)]) O 1 dX3_best_115 (by decide) rfl rfl (by decide) ?_
        refine z_goto O 48 dX3_best_118 (by decide) ?_
        refine z_kp (lv' := [(0, _), (1, _), (2, _), (3, _), (4, _), (5, _), (6, _)]) [0, 1, 2, 3, 4, 5, 6] rfl ?_
        first | (rw [show bsN r we n kd (c + 1) = bsN r we n kd c from if_neg (fun q => h67 q.1)] at ih; exact ih) | (rw [show bsN r we n kd (c + 1) = bsN r we n kd c from if_neg (fun q => by rw [hlb.mp h104] at q; exact absurd q.2 (by decide))] at ih; exact ih) | (rw [show bsN r we n kd (c + 1) = (some c, some (lastB r we n kd c)) from if_pos ⟨h67, by cases hq : longer (lastB r we n kd c) (bsN r we n kd c).2; exact absurd (hlb.mpr hq) h104; rfl⟩] at ih; exact ih)
    · refine z_goto O 115 dX3_best_70 (by decide) ?_
      refine z_iincN (lv' := [(0, _), (1, _), (2, _), (3, _), (4, _), (5, _), (6, _)]) O 1 dX3_best_115 (by decide) rfl rfl (by decide) ?_
      refine z_goto O 48 dX3_best_118 (by decide) ?_
      first | (rw [show bsN r we n kd (c + 1) = bsN r we n kd c from if_neg (fun q => h67 q.1)] at ih; exact ih) | (rw [show bsN r we n kd (c + 1) = bsN r we n kd c from if_neg (fun q => by rw [hlb.mp h104] at q; exact absurd q.2 (by decide))] at ih; exact ih) | (rw [show bsN r we n kd (c + 1) = (some c, some (lastB r we n kd c)) from if_pos ⟨h67, by cases hq : longer (lastB r we n kd c) (bsN r we n kd c).2; exact absurd (hlb.mpr hq) h104; rfl⟩] at ih; exact ih)
set_option maxRecDepth 20000 in
set_option maxHeartbeats 4000000 in
theorem x_readingB {c m v : Int32} (hb : ¬ ((0 ≤ c ∧ c < nI 9) ∧ (0 ≤ m ∧ m < nI 21) ∧ (nI 0 ≤ v ∧ v ≤ nI 30))) : zS G 2 yX3_reading cX3_reading 4 (some .int) [.ref (zad (zb G) 0), .int c, .int m, .int v] (xM G we r cl seen kept rd nw ud im twe tr tcl bys wo nu len it so at_ be va sp ss al od ab bl bd no fu rest) 0 0 (zE (.int (-2)) (xM G we r cl seen kept rd nw ud im twe tr tcl bys wo nu len it so at_ be va sp ss al od ab bl (bd + 1) no fu rest)) := by
  refine zS.of (by decide) (Nat.le_of_ble_eq_true rfl) (fun F O hR1 hR2 => ?_)
  have O : zOk G F yX3_reading cX3_reading 4 (some .int) RX3 2 (xM G we r cl seen kept rd nw ud im twe tr tcl bys wo nu len it so at_ be va sp ss al od ab bl bd no fu rest).length := O
  refine z_eq (lv' := [(0, _), (1, _), (2, _), (3, _)]) rfl rfl rfl ?_
  refine z_iload_n O dX3_reading_0 rfl ?_
  refine z_bipush O (nI 9) dX3_reading_1 (by decide) ?_
  refine z_S2e0 O s_within mX3_within lkX3_54 dX3_reading_3 (Nat.le_of_ble_eq_true rfl) (by decide) ?_
  refine z_if_eqB O 28 dX3_reading_6 (by decide) (fun h6 => ?_) (fun h6 => ?_)
  · refine z_aload_n O dX3_reading_28 rfl ?_
    refine z_bipush O (-2) dX3_reading_29 (by decide) ?_
    refine z_V1e0 O x_refuseB mX3_refuse lkX3_58 rfl (by rfl) dX3_reading_31 (Nat.le_of_ble_eq_true rfl) (by decide) ?_
    exact z_iret O dX3_reading_34 ⟨rfl, rfl⟩
  · refine z_iload_n O dX3_reading_9 rfl ?_
    refine z_bipush O (nI 21) dX3_reading_10 (by decide) ?_
    refine z_S2e0 O s_within mX3_within lkX3_54 dX3_reading_12 (Nat.le_of_ble_eq_true rfl) (by decide) ?_
    refine z_if_eqB O 28 dX3_reading_15 (by decide) (fun h15 => ?_) (fun h15 => ?_)
    · refine z_aload_n O dX3_reading_28 rfl ?_
      refine z_bipush O (-2) dX3_reading_29 (by decide) ?_
      refine z_V1e0 O x_refuseB mX3_refuse lkX3_58 rfl (by rfl) dX3_reading_31 (Nat.le_of_ble_eq_true rfl) (by decide) ?_
      exact z_iret O dX3_reading_34 ⟨rfl, rfl⟩
    · refine z_iload_n O dX3_reading_18 rfl ?_
      refine z_iconst O (nI 0) dX3_reading_19 (by decide) ?_
      refine z_bipush O (nI 30) dX3_reading_20 (by decide) ?_
      refine z_S3e0 O s_between mX3_between lkX3_96 dX3_reading_22 (Nat.le_of_ble_eq_true rfl) (by decide) ?_
      refine z_if_neB O 35 dX3_reading_25 (by decide) (fun h25 => ?_) (fun h25 => ?_)
      · exact absurd ⟨h6, h15, h25⟩ hb --stop
      · refine z_aload_n O dX3_reading_28 rfl ?_
        refine z_bipush O (-2) dX3_reading_29 (by decide) ?_
        refine z_V1e0 O x_refuseB mX3_refuse lkX3_58 rfl (by rfl) dX3_reading_31 (Nat.le_of_ble_eq_true rfl) (by decide) ?_
        exact z_iret O dX3_reading_34 ⟨rfl, rfl⟩
set_option maxRecDepth 20000 in
set_option maxHeartbeats 4000000 in
theorem x_readingF {c m v : Nat} (h1 : c < 9) (h2 : m < 21) (h3 : v ≤ 30) (h4 : rd = 6) : zS G 2 yX3_reading cX3_reading 4 (some .int) [.ref (zad (zb G) 0), .int (nI c), .int (nI m), .int (nI v)] (xM G we r cl seen kept rd nw ud im twe tr tcl bys wo nu len it so at_ be va sp ss al od ab bl bd no fu rest) 0 0 (zE (.int (-4)) (xM G we r cl seen kept rd nw ud im twe tr tcl bys wo nu len it so at_ be va sp ss al od ab bl bd no (fu + 1) rest)) := by
  refine zS.of (by decide) (Nat.le_of_ble_eq_true rfl) (fun F O hR1 hR2 => ?_)
  have O : zOk G F yX3_reading cX3_reading 4 (some .int) RX3 2 (xM G we r cl seen kept rd nw ud im twe tr tcl bys wo nu len it so at_ be va sp ss al od ab bl bd no fu rest).length := O
  refine z_eq (lv' := [(0, _), (1, _), (2, _), (3, _)]) rfl rfl rfl ?_
  refine z_iload_n O dX3_reading_0 rfl ?_
  refine z_bipush O (nI 9) dX3_reading_1 (by decide) ?_
  refine z_S2e0 O (s_withinN (by omega) (by omega)) mX3_within lkX3_54 dX3_reading_3 (Nat.le_of_ble_eq_true rfl) (by decide) ?_
  refine z_if_eqB O 28 dX3_reading_6 (by decide) (fun h6 => by omega) (fun h6 => ?_)
  refine z_iload_n O dX3_reading_9 rfl ?_
  refine z_bipush O (nI 21) dX3_reading_10 (by decide) ?_
  refine z_S2e0 O (s_withinN (by omega) (by omega)) mX3_within lkX3_54 dX3_reading_12 (Nat.le_of_ble_eq_true rfl) (by decide) ?_
  refine z_if_eqB O 28 dX3_reading_15 (by decide) (fun h15 => by omega) (fun h15 => ?_)
  refine z_iload_n O dX3_reading_18 rfl ?_
  refine z_iconst O (nI 0) dX3_reading_19 (by decide) ?_
  refine z_bipush O (nI 30) dX3_reading_20 (by decide) ?_
  refine z_S3e0 O (s_betweenN (by omega) (by omega) (by omega)) mX3_between lkX3_96 dX3_reading_22 (Nat.le_of_ble_eq_true rfl) (by decide) ?_
  refine z_if_neB O 35 dX3_reading_25 (by decide) (fun h25 => ?_) (fun h25 => by omega)
  refine z_aload_n O dX3_reading_35 rfl ?_
  refine z_get O dX3_reading_36 flX3_12 (by rfl) (by rfl) ?_
  refine z_get O dX3_reading_39 flX3_202 (by rfl) (by rfl) ?_
  refine z_bipush O (nI 6) dX3_reading_42 (by decide) ?_
  refine z_icmp_ltN O 54 dX3_reading_44 (by decide) (by omega) (by omega) (fun h44 => by omega) (fun h44 => ?_)
  refine z_aload_n O dX3_reading_47 rfl ?_
  refine z_bipush O (-4) dX3_reading_48 (by decide) ?_
  refine z_V1e0 O x_refuseF mX3_refuse lkX3_58 rfl (by rfl) dX3_reading_50 (Nat.le_of_ble_eq_true rfl) (by decide) ?_
  exact z_iret O dX3_reading_53 ⟨rfl, rfl⟩
set_option maxRecDepth 20000 in
set_option maxHeartbeats 4000000 in
theorem x_reading {c m v : Nat} (h1 : c < 9) (h2 : m < 21) (h3 : v ≤ 30) (h4 : rd < 6) : zS G 2 yX3_reading cX3_reading 4 (some .int) [.ref (zad (zb G) 0), .int (nI c), .int (nI m), .int (nI v)] (xM G we r cl seen kept rd nw ud im twe tr tcl bys wo nu len it so at_ be va sp ss al od ab bl bd no fu rest) 0 0 (zE (.int (nI (rd + 1))) (xM G we r cl (seenN seen rd c m v) kept (rd + 1) nw ud im twe tr tcl bys wo nu len it so at_ be va sp ss al od ab bl bd no fu rest)) := by
  refine zS.of (by decide) (Nat.le_of_ble_eq_true rfl) (fun F O hR1 hR2 => ?_)
  have O : zOk G F yX3_reading cX3_reading 4 (some .int) RX3 2 (xM G we r cl seen kept rd nw ud im twe tr tcl bys wo nu len it so at_ be va sp ss al od ab bl bd no fu rest).length := O
  refine z_eq (lv' := [(0, _), (1, _), (2, _), (3, _)]) rfl rfl rfl ?_
  refine z_iload_n O dX3_reading_0 rfl ?_
  refine z_bipush O (nI 9) dX3_reading_1 (by decide) ?_
  refine z_S2e0 O (s_withinN (by omega) (by omega)) mX3_within lkX3_54 dX3_reading_3 (Nat.le_of_ble_eq_true rfl) (by decide) ?_
  refine z_if_eqB O 28 dX3_reading_6 (by decide) (fun h6 => by omega) (fun h6 => ?_)
  refine z_iload_n O dX3_reading_9 rfl ?_
  refine z_bipush O (nI 21) dX3_reading_10 (by decide) ?_
  refine z_S2e0 O (s_withinN (by omega) (by omega)) mX3_within lkX3_54 dX3_reading_12 (Nat.le_of_ble_eq_true rfl) (by decide) ?_
  refine z_if_eqB O 28 dX3_reading_15 (by decide) (fun h15 => by omega) (fun h15 => ?_)
  refine z_iload_n O dX3_reading_18 rfl ?_
  refine z_iconst O (nI 0) dX3_reading_19 (by decide) ?_
  refine z_bipush O (nI 30) dX3_reading_20 (by decide) ?_
  refine z_S3e0 O (s_betweenN (by omega) (by omega) (by omega)) mX3_between lkX3_96 dX3_reading_22 (Nat.le_of_ble_eq_true rfl) (by decide) ?_
  refine z_if_neB O 35 dX3_reading_25 (by decide) (fun h25 => ?_) (fun h25 => by omega)
  refine z_aload_n O dX3_reading_35 rfl ?_
  refine z_get O dX3_reading_36 flX3_12 (by rfl) (by rfl) ?_
  refine z_get O dX3_reading_39 flX3_202 (by rfl) (by rfl) ?_
  refine z_bipush O (nI 6) dX3_reading_42 (by decide) ?_
  refine z_icmp_ltN O 54 dX3_reading_44 (by decide) (by omega) (by omega) (fun h44 => ?_) (fun h44 => by omega)
  refine z_aload_n O dX3_reading_54 rfl ?_
  refine z_get O dX3_reading_55 flX3_12 (by rfl) (by rfl) ?_
  refine z_iload_n O dX3_reading_58 rfl ?_
  refine z_iload_n O dX3_reading_59 rfl ?_
  refine z_iload_n O dX3_reading_60 rfl ?_
  refine z_V3e0 O (t_addReading xI h4) mX1_addReading lkX3_205 rfl (by rfl) dX3_reading_61 (Nat.le_of_ble_eq_true rfl) (by decide) ?_
  refine z_M (show _ = (xM G we r cl (seenN seen rd c m v) kept (rd + 1) nw ud im twe tr tcl bys wo nu len it so at_ be va sp ss al od ab bl bd no fu rest) from rfl) ?_
  exact z_iret O dX3_reading_64 ⟨rfl, rfl⟩
set_option maxRecDepth 20000 in
set_option maxHeartbeats 4000000 in
theorem x_forget  : zS G 1 yX3_forget cX3_forget 2 (some .int) [.ref (zad (zb G) 0)] (xM G we r cl seen kept rd nw ud im twe tr tcl bys wo nu len it so at_ be va sp ss al od ab bl bd no fu rest) 0 0 (zE (.int (nI rd)) (xM G we r cl seen kept 0 nw ud im twe tr tcl bys wo nu len it so at_ be va sp ss al od ab bl bd no fu rest)) := by
  refine zS.of (by decide) (Nat.le_of_ble_eq_true rfl) (fun F O hR1 hR2 => ?_)
  have O : zOk G F yX3_forget cX3_forget 2 (some .int) RX3 1 (xM G we r cl seen kept rd nw ud im twe tr tcl bys wo nu len it so at_ be va sp ss al od ab bl bd no fu rest).length := O
  refine z_eq (lv' := [(0, _)]) rfl rfl rfl ?_
  refine z_aload_n O dX3_forget_0 rfl ?_
  refine z_get O dX3_forget_1 flX3_12 (by rfl) (by rfl) ?_
  refine z_get O dX3_forget_4 flX3_202 (by rfl) (by rfl) ?_
  refine z_istore_n (lv' := [(0, _), (1, _)]) O dX3_forget_7 (by decide) rfl ?_
  refine z_aload_n O dX3_forget_8 rfl ?_
  refine z_get O dX3_forget_9 flX3_12 (by rfl) (by rfl) ?_
  refine z_iconst O (nI 0) dX3_forget_12 (by decide) ?_
  refine z_put O (by rfl) dX3_forget_13 flX3_202 (by rfl) rfl rfl (by simp) ?_
  refine z_M (show _ = (xM G we r cl seen kept 0 nw ud im twe tr tcl bys wo nu len it so at_ be va sp ss al od ab bl bd no fu rest) from rfl) ?_
  refine z_iload_n O dX3_forget_16 rfl ?_
  exact z_iret O dX3_forget_17 ⟨rfl, rfl⟩
set_option maxRecDepth 20000 in
set_option maxHeartbeats 4000000 in
theorem x_mayB {c : Int32} (hb : ¬ (0 ≤ c ∧ c < nI 9)) : zS G 2 yX3_may cX3_may 2 (some .int) [.ref (zad (zb G) 0), .int c] (xM G we r cl seen kept rd nw ud im twe tr tcl bys wo nu len it so at_ be va sp ss al od ab bl bd no fu rest) 0 0 (zE (.int (-2)) (xM G we r cl seen kept rd nw ud im twe tr tcl bys wo nu len it so at_ be va sp ss al od ab bl (bd + 1) no fu rest)) := by
  refine zS.of (by decide) (Nat.le_of_ble_eq_true rfl) (fun F O hR1 hR2 => ?_)
  have O : zOk G F yX3_may cX3_may 2 (some .int) RX3 2 (xM G we r cl seen kept rd nw ud im twe tr tcl bys wo nu len it so at_ be va sp ss al od ab bl bd no fu rest).length := O
  refine z_eq (lv' := [(0, _), (1, _)]) rfl rfl rfl ?_
  refine z_iload_n O dX3_may_0 rfl ?_
  refine z_bipush O (nI 9) dX3_may_1 (by decide) ?_
  refine z_S2e0 O s_within mX3_within lkX3_54 dX3_may_3 (Nat.le_of_ble_eq_true rfl) (by decide) ?_
  refine z_if_neB O 16 dX3_may_6 (by decide) (fun h6 => by exact absurd h6 hb) (fun h6 => ?_)
  refine z_aload_n O dX3_may_9 rfl ?_
  refine z_bipush O (-2) dX3_may_10 (by decide) ?_
  refine z_V1e0 O x_refuseB mX3_refuse lkX3_58 rfl (by rfl) dX3_may_12 (Nat.le_of_ble_eq_true rfl) (by decide) ?_
  exact z_iret O dX3_may_15 ⟨rfl, rfl⟩
set_option maxRecDepth 20000 in
set_option maxHeartbeats 4000000 in
theorem x_may (hr : rowOK r) (hw : weOK we) (hz : rowZ r) (hs : sinceOK r) (hwz : weZ we) (hy : r 117 + 100 < 1048576) (htw : weZ twe) (htr : rowT tr) (hsn : ∀ j, seen j < 1048576) (hrd : rd ≤ 6) {c : Nat} (hc : c < 9) : zS G 6 yX3_may cX3_may 2 (some .int) [.ref (zad (zb G) 0), .int (nI c)] (xM G we r cl seen kept rd nw ud im twe tr tcl bys wo nu len it so at_ be va sp ss al od ab bl bd no fu rest) 0 0 (zE (.int (nI (mayN r we seen rd c))) (xM G we r cl seen kept rd nw ud im twe tr tcl bys wo nu len it so at_ be va sp ss al od ab bl bd no fu rest)) := by
  refine zS.of (by decide) (Nat.le_of_ble_eq_true rfl) (fun F O hR1 hR2 => ?_)
  have O : zOk G F yX3_may cX3_may 2 (some .int) RX3 6 (xM G we r cl seen kept rd nw ud im twe tr tcl bys wo nu len it so at_ be va sp ss al od ab bl bd no fu rest).length := O
  refine z_eq (lv' := [(0, _), (1, _)]) rfl rfl rfl ?_
  refine z_iload_n O dX3_may_0 rfl ?_
  refine z_bipush O (nI 9) dX3_may_1 (by decide) ?_
  refine z_S2e0 O (s_withinN (by omega) (by omega)) mX3_within lkX3_54 dX3_may_3 (Nat.le_of_ble_eq_true rfl) (by decide) ?_
  refine z_if_neB O 16 dX3_may_6 (by decide) (fun h6 => ?_) (fun h6 => by omega)
  refine z_aload_n O dX3_may_16 rfl ?_
  refine z_get O dX3_may_17 flX3_12 (by rfl) (by rfl) ?_
  refine z_iload_n O dX3_may_20 rfl ?_
  refine z_V1e0 O (t_possibleKinds xI hr hw hsn hrd hc) mX1_possibleKinds lkX3_208 rfl (by rfl) dX3_may_21 (Nat.le_of_ble_eq_true rfl) (by decide) ?_
  exact z_iret O dX3_may_24 ⟨rfl, rfl⟩
set_option maxRecDepth 20000 in
set_option maxHeartbeats 4000000 in
theorem x_partB {f : Int32} (hb : ¬ (nI 0 ≤ f ∧ f ≤ nI 1)) : zS G 2 yX3_part cX3_part 2 (some .long) [.ref (zad (zb G) 0), .int f] (xM G we r cl seen kept rd nw ud im twe tr tcl bys wo nu len it so at_ be va sp ss al od ab bl bd no fu rest) 0 0 (zE (.long (-2 : Int32).toInt64) (xM G we r cl seen kept rd nw ud im twe tr tcl bys wo nu len it so at_ be va sp ss al od ab bl (bd + 1) no fu rest)) := by
  refine zS.of (by decide) (Nat.le_of_ble_eq_true rfl) (fun F O hR1 hR2 => ?_)
  have O : zOk G F yX3_part cX3_part 2 (some .long) RX3 2 (xM G we r cl seen kept rd nw ud im twe tr tcl bys wo nu len it so at_ be va sp ss al od ab bl bd no fu rest).length := O
  refine z_eq (lv' := [(0, _), (1, _)]) rfl rfl rfl ?_
  refine z_iload_n O dX3_part_0 rfl ?_
  refine z_iconst O (nI 0) dX3_part_1 (by decide) ?_
  refine z_iconst O (nI 1) dX3_part_2 (by decide) ?_
  refine z_S3e0 O s_between mX3_between lkX3_96 dX3_part_3 (Nat.le_of_ble_eq_true rfl) (by decide) ?_
  refine z_if_neB O 17 dX3_part_6 (by decide) (fun h6 => by exact absurd h6 hb) (fun h6 => ?_)
  refine z_aload_n O dX3_part_9 rfl ?_
  refine z_bipush O (-2) dX3_part_10 (by decide) ?_
  refine z_V1e0 O x_refuseB mX3_refuse lkX3_58 rfl (by rfl) dX3_part_12 (Nat.le_of_ble_eq_true rfl) (by decide) ?_
  refine z_i2l O dX3_part_15 ?_
  exact z_lret O dX3_part_16 ⟨rfl, rfl⟩
set_option maxRecDepth 20000 in
set_option maxHeartbeats 4000000 in
theorem x_part {f : Nat} (hf : f ≤ 1) : zS G 2 yX3_part cX3_part 2 (some .long) [.ref (zad (zb G) 0), .int (nI f)] (xM G we r cl seen kept rd nw ud im twe tr tcl bys wo nu len it so at_ be va sp ss al od ab bl bd no fu rest) 0 0 (zE (.long (if f = 0 then ab else bl)) (xM G we r cl seen kept rd nw ud im twe tr tcl bys wo nu len it so at_ be va sp ss al od ab bl bd no fu rest)) := by
  refine zS.of (by decide) (Nat.le_of_ble_eq_true rfl) (fun F O hR1 hR2 => ?_)
  have O : zOk G F yX3_part cX3_part 2 (some .long) RX3 2 (xM G we r cl seen kept rd nw ud im twe tr tcl bys wo nu len it so at_ be va sp ss al od ab bl bd no fu rest).length := O
  refine z_eq (lv' := [(0, _), (1, _)]) rfl rfl rfl ?_
  refine z_iload_n O dX3_part_0 rfl ?_
  refine z_iconst O (nI 0) dX3_part_1 (by decide) ?_
  refine z_iconst O (nI 1) dX3_part_2 (by decide) ?_
  refine z_S3e0 O (s_betweenN (by omega) (by omega) (by omega)) mX3_between lkX3_96 dX3_part_3 (Nat.le_of_ble_eq_true rfl) (by decide) ?_
  refine z_if_neB O 17 dX3_part_6 (by decide) (fun h6 => ?_) (fun h6 => by omega)
  refine z_iload_n O dX3_part_17 rfl ?_
  refine z_if_neN O 28 dX3_part_18 (by decide) (by omega) (fun h18 => ?_) (fun h18 => ?_)
  · refine z_aload_n O dX3_part_28 rfl ?_
    refine z_get O dX3_part_29 flX3_51 (by rfl) (by rfl) ?_
    exact z_lret O dX3_part_32 (by first | exact ⟨by rw [if_pos (by assumption)], rfl⟩ | exact ⟨by rw [if_neg (by assumption)], rfl⟩)
  · refine z_aload_n O dX3_part_21 rfl ?_
    refine z_get O dX3_part_22 flX3_47 (by rfl) (by rfl) ?_
    refine z_goto O 32 dX3_part_25 (by decide) ?_
    exact z_lret O dX3_part_32 (by first | exact ⟨by rw [if_pos (by assumption)], rfl⟩ | exact ⟨by rw [if_neg (by assumption)], rfl⟩)
def hmN (r : Nat → Nat) (rd ud len f : Nat) : Nat := if f = 0 then darnsM r 511 9 else if f = 1 then popN (bitsN (holesB r) 9) else if f = 2 then r 117 else if f = 3 then rd else if f = 4 then ud else len
set_option maxRecDepth 20000 in
set_option maxHeartbeats 4000000 in
theorem x_howMany (hr : rowOK r) {f : Nat} (hf : f < 2 ^ 31) : zS G 4 yX3_howMany cX3_howMany 2 (some .int) [.ref (zad (zb G) 0), .int (nI f)] (xM G we r cl seen kept rd nw ud im twe tr tcl bys wo nu len it so at_ be va sp ss al od ab bl bd no fu rest) 0 0 (zE (.int (nI (hmN r rd ud len f))) (xM G we r cl seen kept rd nw ud im twe tr tcl bys wo nu len it so at_ be va sp ss al od ab bl bd no fu rest)) := by
  refine zS.of (by decide) (Nat.le_of_ble_eq_true rfl) (fun F O hR1 hR2 => ?_)
  have O : zOk G F yX3_howMany cX3_howMany 2 (some .int) RX3 4 (xM G we r cl seen kept rd nw ud im twe tr tcl bys wo nu len it so at_ be va sp ss al od ab bl bd no fu rest).length := O
  refine z_eq (lv' := [(0, _), (1, _)]) rfl rfl rfl ?_
  refine z_iload_n O dX3_howMany_0 rfl ?_
  refine z_tabN O 0 36 dX3_howMany_1 (by rfl) (by decide) (by decide) (by decide) (by decide) (fun hk1 => ?_) (fun hn1_0 => ?_)
  · refine z_aload_n O dX3_howMany_36 rfl ?_
    refine z_get O dX3_howMany_37 flX3_12 (by rfl) (by rfl) ?_
    refine z_get O dX3_howMany_40 flX3_62 (by rfl) (by rfl) ?_
    refine z_V0e0 O (s_darns xN) mX0_darns lkX3_65 rfl (by rfl) dX3_howMany_43 (Nat.le_of_ble_eq_true rfl) (by decide) ?_
    exact z_iret O dX3_howMany_46 ⟨by simp [hmN, *], rfl⟩
  refine z_tabN O 1 47 dX3_howMany_1 (by rfl) (by decide) (by decide) (by decide) (by decide) (fun hk1 => ?_) (fun hn1_1 => ?_)
  · refine z_aload_n O dX3_howMany_47 rfl ?_
    refine z_get O dX3_howMany_48 flX3_12 (by rfl) (by rfl) ?_
    refine z_get O dX3_howMany_51 flX3_62 (by rfl) (by rfl) ?_
    refine z_V0e0 O (s_holeBits xN hr) mX0_holeBits lkX3_103 rfl (by rfl) dX3_howMany_54 (Nat.le_of_ble_eq_true rfl) (by decide) ?_
    refine z_S1e0 O (s_bitCount (bitsN_lt _ 9)) mJ6_bitCount_0f7a4 lkX3_106 dX3_howMany_57 (Nat.le_of_ble_eq_true rfl) (by decide) ?_
    exact z_iret O dX3_howMany_60 ⟨by simp [hmN, *], rfl⟩
  refine z_tabN O 2 61 dX3_howMany_1 (by rfl) (by decide) (by decide) (by decide) (by decide) (fun hk1 => ?_) (fun hn1_2 => ?_)
  · refine z_aload_n O dX3_howMany_61 rfl ?_
    refine z_get O dX3_howMany_62 flX3_12 (by rfl) (by rfl) ?_
    refine z_get O dX3_howMany_65 flX3_62 (by rfl) (by rfl) ?_
    refine z_V0e0 O (s_year xN) mX0_year lkX3_149 rfl (by rfl) dX3_howMany_68 (Nat.le_of_ble_eq_true rfl) (by decide) ?_
    exact z_iret O dX3_howMany_71 ⟨by simp [hmN, *], rfl⟩
  refine z_tabN O 3 72 dX3_howMany_1 (by rfl) (by decide) (by decide) (by decide) (by decide) (fun hk1 => ?_) (fun hn1_3 => ?_)
  · refine z_aload_n O dX3_howMany_72 rfl ?_
    refine z_get O dX3_howMany_73 flX3_12 (by rfl) (by rfl) ?_
    refine z_get O dX3_howMany_76 flX3_202 (by rfl) (by rfl) ?_
    exact z_iret O dX3_howMany_79 ⟨by simp [hmN, *], rfl⟩
  refine z_tabN O 4 80 dX3_howMany_1 (by rfl) (by decide) (by decide) (by decide) (by decide) (fun hk1 => ?_) (fun hn1_4 => ?_)
  · refine z_aload_n O dX3_howMany_80 rfl ?_
    refine z_get O dX3_howMany_81 flX3_12 (by rfl) (by rfl) ?_
    refine z_get O dX3_howMany_84 flX3_111 (by rfl) (by rfl) ?_
    exact z_iret O dX3_howMany_87 ⟨by simp [hmN, *], rfl⟩
  refine z_tabNO O 88 dX3_howMany_1 (by omega) (by omega) (by decide) ?_
  refine z_aload_n O dX3_howMany_88 rfl ?_
  refine z_get O dX3_howMany_89 flX3_30 (by rfl) (by rfl) ?_
  refine z_get O dX3_howMany_92 flX3_118 (by rfl) (by rfl) ?_
  exact z_iret O dX3_howMany_95 ⟨by simp [hmN, *], rfl⟩
set_option maxRecDepth 20000 in
set_option maxHeartbeats 4000000 in
theorem x_countB {f : Int32} (hb : ¬ (nI 0 ≤ f ∧ f ≤ nI 5)) : zS G 2 yX3_count cX3_count 2 (some .int) [.ref (zad (zb G) 0), .int f] (xM G we r cl seen kept rd nw ud im twe tr tcl bys wo nu len it so at_ be va sp ss al od ab bl bd no fu rest) 0 0 (zE (.int (-2)) (xM G we r cl seen kept rd nw ud im twe tr tcl bys wo nu len it so at_ be va sp ss al od ab bl (bd + 1) no fu rest)) := by
  refine zS.of (by decide) (Nat.le_of_ble_eq_true rfl) (fun F O hR1 hR2 => ?_)
  have O : zOk G F yX3_count cX3_count 2 (some .int) RX3 2 (xM G we r cl seen kept rd nw ud im twe tr tcl bys wo nu len it so at_ be va sp ss al od ab bl bd no fu rest).length := O
  refine z_eq (lv' := [(0, _), (1, _)]) rfl rfl rfl ?_
  refine z_iload_n O dX3_count_0 rfl ?_
  refine z_iconst O (nI 0) dX3_count_1 (by decide) ?_
  refine z_iconst O (nI 5) dX3_count_2 (by decide) ?_
  refine z_S3e0 O s_between mX3_between lkX3_96 dX3_count_3 (Nat.le_of_ble_eq_true rfl) (by decide) ?_
  refine z_if_neB O 16 dX3_count_6 (by decide) (fun h6 => by exact absurd h6 hb) (fun h6 => ?_)
  refine z_aload_n O dX3_count_9 rfl ?_
  refine z_bipush O (-2) dX3_count_10 (by decide) ?_
  refine z_V1e0 O x_refuseB mX3_refuse lkX3_58 rfl (by rfl) dX3_count_12 (Nat.le_of_ble_eq_true rfl) (by decide) ?_
  exact z_iret O dX3_count_15 ⟨rfl, rfl⟩
set_option maxRecDepth 20000 in
set_option maxHeartbeats 4000000 in
theorem x_count (hr : rowOK r) {f : Nat} (hf : f ≤ 5) : zS G 5 yX3_count cX3_count 2 (some .int) [.ref (zad (zb G) 0), .int (nI f)] (xM G we r cl seen kept rd nw ud im twe tr tcl bys wo nu len it so at_ be va sp ss al od ab bl bd no fu rest) 0 0 (zE (.int (nI (hmN r rd ud len f))) (xM G we r cl seen kept rd nw ud im twe tr tcl bys wo nu len it so at_ be va sp ss al od ab bl bd no fu rest)) := by
  refine zS.of (by decide) (Nat.le_of_ble_eq_true rfl) (fun F O hR1 hR2 => ?_)
  have O : zOk G F yX3_count cX3_count 2 (some .int) RX3 5 (xM G we r cl seen kept rd nw ud im twe tr tcl bys wo nu len it so at_ be va sp ss al od ab bl bd no fu rest).length := O
  refine z_eq (lv' := [(0, _), (1, _)]) rfl rfl rfl ?_
  refine z_iload_n O dX3_count_0 rfl ?_
  refine z_iconst O (nI 0) dX3_count_1 (by decide) ?_
  refine z_iconst O (nI 5) dX3_count_2 (by decide) ?_
  refine z_S3e0 O (s_betweenN (by omega) (by omega) (by omega)) mX3_between lkX3_96 dX3_count_3 (Nat.le_of_ble_eq_true rfl) (by decide) ?_
  refine z_if_neB O 16 dX3_count_6 (by decide) (fun h6 => ?_) (fun h6 => by omega)
  refine z_aload_n O dX3_count_16 rfl ?_
  refine z_iload_n O dX3_count_17 rfl ?_
  refine z_V1e0 O (x_howMany hr (by omega)) mX3_howMany lkX3_254 rfl (by rfl) dX3_count_18 (Nat.le_of_ble_eq_true rfl) (by decide) ?_
  exact z_iret O dX3_count_21 ⟨rfl, rfl⟩
def dgH (r : Nat → Nat) (rd ud len : Nat) : Nat → Int64
  | 0 => lN 1061
  | f + 1 => mixL (dgH r rd ud len f) (hmN r rd ud len f)
def digX (we r seen : Nat → Nat) (rd ud len : Nat) (ab bl : Int64) : Int64 := lN 31 * (lN 31 * dgR seen (dgC r we (dgH r rd ud len 6) 9) (3 * rd) + ab) + bl
theorem hmN_lt {r : Nat → Nat} (hr : rowOK r) {rd ud len f : Nat} (h1 : rd < 1048576) (h2 : ud < 1048576) (h3 : len < 1048576) : hmN r rd ud len f < 2 ^ 31 := by
  have h4 : ∀ c, c ≤ 9 → darnsM r 511 c ≤ 3 * c := by
    intro c
    induction c with
    | zero => intro _; exact Nat.zero_le _
    | succ c ih =>
      intro hc
      have h5 := ih (by omega)
      have h6 := hr.2 c (by omega)
      unfold darnsM
      split <;> omega
  have h7 := h4 9 (by omega)
  have h8 : ∀ n, sumN (bitN (bitsN (holesB r) 9)) n ≤ n := by
    intro n
    induction n with
    | zero => exact Nat.zero_le _
    | succ n ih =>
      have h9 : bitN (bitsN (holesB r) 9) n < 2 := Nat.mod_lt _ (by decide)
      show _ + _ ≤ _
      omega
  have h10 := h8 9
  have h11 := hr.1 117
  unfold hmN popN
  repeat' split
  all_goals omega
set_option maxRecDepth 20000 in
set_option maxHeartbeats 4000000 in
theorem x_digest (hr : rowOK r) (hw : weOK we) (hsn : ∀ j, seen j < 1048576) (hrd : rd ≤ 6) (hud : ud ≤ 8) (hlen : len ≤ 150) : zS G 5 yX3_digest cX3_digest 4 (some .long) [.ref (zad (zb G) 0)] (xM G we r cl seen kept rd nw ud im twe tr tcl bys wo nu len it so at_ be va sp ss al od ab bl bd no fu rest) 0 0 (zE (.long (digX we r seen rd ud len ab bl)) (xM G we r cl seen kept rd nw ud im twe tr tcl bys wo nu len it so at_ be va sp ss al od ab bl bd no fu rest)) := by
  refine zS.of (by decide) (Nat.le_of_ble_eq_true rfl) (fun F O hR1 hR2 => ?_)
  have O : zOk G F yX3_digest cX3_digest 4 (some .long) RX3 5 (xM G we r cl seen kept rd nw ud im twe tr tcl bys wo nu len it so at_ be va sp ss al od ab bl bd no fu rest).length := O
  refine z_eq (lv' := [(0, _)]) rfl rfl rfl ?_
  refine z_ldc2 O dX3_digest_0 klX3_257 ?_
  refine z_top (v' := .long (lN 1061)) (by decide) ?_
  refine z_lstore_n (lv' := [(0, _), (1, _)]) O dX3_digest_3 (by decide) rfl ?_
  refine z_iconst O (nI 0) dX3_digest_4 (by decide) ?_
  refine z_istore_n (lv' := [(0, _), (1, _), (3, _)]) O dX3_digest_5 (by decide) rfl ?_
  refine zdown (P := fun f => Z G F 0 0 (zEnd G F (zE (.long (digX we r seen rd ud len ab bl)) (xM G we r cl seen kept rd nw ud im twe tr tcl bys wo nu len it so at_ be va sp ss al od ab bl bd no fu rest)) 0 0) 6 [(0, .ref (zad (zb G) 0)), (1, .long (dgH r rd ud len f)), (3, .int (nI f))] [] (xM G we r cl seen kept rd nw ud im twe tr tcl bys wo nu len it so at_ be va sp ss al od ab bl bd no fu rest)) (6) ?_ ?_ 
  · refine z_iload_n O dX3_digest_6 rfl ?_
    refine z_iconst O (nI 5) dX3_digest_7 (by decide) ?_
    refine z_icmp_gtN O 30 dX3_digest_8 (by decide) (by omega) (by omega) (fun h8 => ?_) (fun h8 => by omega)
    refine z_aload_n O dX3_digest_30 rfl ?_
    refine z_get O dX3_digest_31 flX3_12 (by rfl) (by rfl) ?_
    refine z_get O dX3_digest_34 flX3_62 (by rfl) (by rfl) ?_
    refine z_lload_n O dX3_digest_37 rfl ?_
    refine z_V1e0 O (s_digested xN hr hw) mX0_digested lkX3_261 rfl (by rfl) dX3_digest_38 (Nat.le_of_ble_eq_true rfl) (by decide) ?_
    refine z_lstore_n (lv' := [(0, _), (1, _), (3, _)]) O dX3_digest_41 (by decide) rfl ?_
    refine z_aload_n O dX3_digest_42 rfl ?_
    refine z_get O dX3_digest_43 flX3_12 (by rfl) (by rfl) ?_
    refine z_lload_n O dX3_digest_46 rfl ?_
    refine z_V1e0 O (t_digestedReadings xI hsn hrd) mX1_digestedReadings lkX3_265 rfl (by rfl) dX3_digest_47 (Nat.le_of_ble_eq_true rfl) (by decide) ?_
    refine z_lstore_n (lv' := [(0, _), (1, _), (3, _)]) O dX3_digest_50 (by decide) rfl ?_
    refine z_ldc2 O dX3_digest_51 klX3_259 ?_
    refine z_top (v' := .long (lN 31)) (by decide) ?_
    refine z_lload_n O dX3_digest_54 rfl ?_
    refine z_lmul O dX3_digest_55 ?_
    refine z_aload_n O dX3_digest_56 rfl ?_
    refine z_get O dX3_digest_57 flX3_47 (by rfl) (by rfl) ?_
    refine z_ladd O dX3_digest_60 ?_
    refine z_lstore_n (lv' := [(0, _), (1, _), (3, _)]) O dX3_digest_61 (by decide) rfl ?_
    refine z_ldc2 O dX3_digest_62 klX3_259 ?_
    refine z_top (v' := .long (lN 31)) (by decide) ?_
    refine z_lload_n O dX3_digest_65 rfl ?_
    refine z_lmul O dX3_digest_66 ?_
    refine z_aload_n O dX3_digest_67 rfl ?_
    refine z_get O dX3_digest_68 flX3_51 (by rfl) (by rfl) ?_
    refine z_ladd O dX3_digest_71 ?_
    exact z_lret O dX3_digest_72 ⟨rfl, rfl⟩
  · intro f hf ih 
    refine z_iload_n O dX3_digest_6 rfl ?_
    refine z_iconst O (nI 5) dX3_digest_7 (by decide) ?_
    refine z_icmp_gtN O 30 dX3_digest_8 (by decide) (by omega) (by omega) (fun h8 => by omega) (fun h8 => ?_)
    refine z_ldc2 O dX3_digest_11 klX3_259 ?_
    refine z_top (v' := .long (lN 31)) (by decide) ?_
    refine z_lload_n O dX3_digest_14 rfl ?_
    refine z_lmul O dX3_digest_15 ?_
    refine z_aload_n O dX3_digest_16 rfl ?_
    refine z_iload_n O dX3_digest_17 rfl ?_
    refine z_V1e0 O (x_howMany hr (by omega)) mX3_howMany lkX3_254 rfl (by rfl) dX3_digest_18 (Nat.le_of_ble_eq_true rfl) (by decide) ?_
    refine z_i2lN O dX3_digest_21 (hmN_lt hr (by omega) (by omega) (by omega)) ?_
    refine z_ladd O dX3_digest_22 ?_
    refine z_lstore_n (lv' := [(0, _), (1, _), (3, _)]) O dX3_digest_23 (by decide) rfl ?_
    refine z_iincN (lv' := [(0, _), (1, _), (3, _)]) O 1 dX3_digest_24 (by decide) rfl rfl (by decide) ?_
    refine z_goto O 6 dX3_digest_27 (by decide) ?_
    exact ih
end XS
