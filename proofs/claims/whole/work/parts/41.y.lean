/-! ===== the reference: darns put in, years, claims ===== -/
def putW (w : Nat → Nat) (b c m kd fm th y : Nat) : Nat → Nat :=
  updN (updN (updN (updN (updN w (b + (10 + 12 * c + 4 * m)) kd) (b + (10 + 12 * c + 4 * m) + 1) fm) (b + (10 + 12 * c + 4 * m) + 2) th) (b + (10 + 12 * c + 4 * m) + 3) y) (b + 1 + c) (m + 1)
theorem putW_out {w : Nat → Nat} {b c m kd fm th y : Nat} (hc : c < 9) (hm : m < 3) : ∀ j, ¬ (b ≤ j ∧ j < b + 118) → putW w b c m kd fm th y j = w j := fun j hj => by
  unfold putW
  rw [updN_n (by omega), updN_n (by omega), updN_n (by omega), updN_n (by omega), updN_n (by omega)]
theorem RW_put {w : Nat → Nat} {b : Nat} {r we : Nat → Nat} (h : RW w b r we) (hr : rowOK r) {c kd fm th : Nat} (hc : c < 9) (h3 : r (108 + c) < 3) : RW (putW w b c (r (108 + c)) kd fm th (r 117)) b (putN r c kd fm th) we := by
  refine ⟨⟨?_, fun e he => ?_, fun e p f he hp hf => ?_⟩, fun e he => ?_⟩
  · unfold putW putN
    rw [updN_n (by omega), updN_n (by omega), updN_n (by omega), updN_n (by omega), updN_n (by omega), updN_n (by omega), updN_n (by omega), updN_n (by omega), updN_n (by omega), updN_n (by omega)]
    exact h.1.1
  · unfold putW putN
    by_cases hec : e = c
    · subst hec
      rw [updN_s, updN_s]
    · rw [updN_n (by omega), updN_n (by omega), updN_n (by omega), updN_n (by omega), updN_n (by omega), updN_n (by omega), updN_n (by omega), updN_n (by omega), updN_n (by omega), updN_n (by omega)]
      exact h.1.2.1 e he
  · have he3 := hr.2 e he
    have hpm : putN r c kd fm th (108 + e) = if e = c then r (108 + c) + 1 else r (108 + e) := by
      unfold putN
      by_cases hec : e = c
      · subst hec; rw [updN_s, if_pos rfl]
      · rw [updN_n (by omega), updN_n (by omega), updN_n (by omega), updN_n (by omega), updN_n (by omega), if_neg hec]
    rw [hpm] at hp
    by_cases hnew : e = c ∧ p = r (108 + c)
    · obtain ⟨rfl, rfl⟩ := hnew
      unfold putW putN fld
      rcases (show f = 0 ∨ f = 1 ∨ f = 2 ∨ f = 3 by omega) with rfl | rfl | rfl | rfl
      · rw [updN_n (by omega), updN_n (by omega), updN_n (by omega), updN_n (by omega), Nat.add_zero, updN_s, updN_n (by omega), updN_n (by omega), updN_n (by omega), updN_n (by omega), updN_s]
      · rw [updN_n (by omega), updN_n (by omega), updN_n (by omega), updN_s, updN_n (by omega), updN_n (by omega), updN_n (by omega), updN_s]
      · rw [updN_n (by omega), updN_n (by omega), updN_s, updN_n (by omega), updN_n (by omega), updN_s]
      · rw [updN_n (by omega), updN_s, updN_n (by omega), updN_s]
    · have hp2 : p < r (108 + e) := by
        by_cases hec : e = c
        · rw [if_pos hec] at hp
          have : p ≠ r (108 + c) := fun q => hnew ⟨hec, q⟩
          rw [hec]; omega
        · rw [if_neg hec] at hp; exact hp
      have hd : (e = c ∧ p < r (108 + c)) ∨ e ≠ c := by
        by_cases hec : e = c
        · left; exact ⟨hec, by rw [← hec]; exact hp2⟩
        · right; exact hec
      unfold putW putN fld
      rw [updN_n (by omega), updN_n (by omega), updN_n (by omega), updN_n (by omega), updN_n (by omega), updN_n (by omega), updN_n (by omega), updN_n (by omega), updN_n (by omega), updN_n (by omega)]
      exact h.1.2.2 e p f he hp2 hf
  · rw [putW_out hc h3 _ (by omega)]
    exact h.2 e he
/-- t less l, as the machine has it -/
def sbN (t l : Nat) : Nat := if l ≤ t then t - l else t + (4294967296 - l)
theorem sb_eq {t l : Nat} (hl : l < 4294967296) : nI t - nI l = nI (sbN t l) := by
  unfold sbN
  by_cases h : l ≤ t
  · rw [if_pos h, pk_sub h]
  · rw [if_neg h, ← nI_add]
    have h1 : nI (4294967296 - l) + nI l = nI 4294967296 := by rw [nI_add]; congr 1; omega
    have h2 : nI 4294967296 = 0 := by decide
    rw [h2] at h1
    have h3 : nI (4294967296 - l) = - nI l := by
      have := congrArg (fun z => z - nI l) h1
      simp only [Int32.add_sub_cancel, Int32.zero_sub] at this
      exact this
    rw [h3, Int32.sub_eq_add_neg]
theorem RW_wear1 {w : Nat → Nat} {b : Nat} {r we : Nat → Nat} (h : RW w b r we) (hr : rowOK r) {c v : Nat} (hc : c < 9) (h0 : 0 < r (108 + c)) : RW (updN (updN w (b + (10 + 12 * c + 4 * (r (108 + c) - 1)) + 2) v) (b + 1 + c) (r (108 + c) - 1)) b (takeN r c) we := by
  have h3 := hr.2 c hc
  unfold takeN
  refine ⟨⟨?_, fun e he => ?_, fun e p f he hp hf => ?_⟩, fun e he => ?_⟩
  · rw [updN_n (by omega), updN_n (by omega), updN_n (by omega)]; exact h.1.1
  · by_cases hec : e = c
    · subst hec; rw [updN_s, updN_s]
    · rw [updN_n (by omega), updN_n (by omega), updN_n (by omega)]; exact h.1.2.1 e he
  · have he3 := hr.2 e he
    by_cases hec : e = c
    · subst hec
      rw [updN_s] at hp
      rw [updN_n (by omega), updN_n (by omega), fld_upd (by omega)]
      exact h.1.2.2 e p f he (by omega) hf
    · rw [updN_n (by omega)] at hp
      rw [updN_n (by omega), updN_n (by omega), fld_upd (by omega)]
      exact h.1.2.2 e p f he hp hf
  · rw [updN_n (by omega), updN_n (by omega)]; exact h.2 e he
theorem RW_wear2 {w : Nat → Nat} {b : Nat} {r we : Nat → Nat} (h : RW w b r we) (hr : rowOK r) {c v : Nat} (hc : c < 9) (h0 : 0 < r (108 + c)) : RW (updN (updN w (b + (10 + 12 * c + 4 * (r (108 + c) - 1)) + 2) v) (b + 1 + c) (r (108 + c) - 0)) b (updN r ((c * 3 + (r (108 + c) - 1)) * 4 + 2) v) we := by
  have h3 := hr.2 c hc
  refine ⟨⟨?_, fun e he => ?_, fun e p f he hp hf => ?_⟩, fun e he => ?_⟩
  · rw [updN_n (by omega), updN_n (by omega), updN_n (by omega)]; exact h.1.1
  · by_cases hec : e = c
    · subst hec; rw [updN_s, updN_n (by omega)]; rfl
    · rw [updN_n (by omega), updN_n (by omega), updN_n (by omega)]; exact h.1.2.1 e he
  · have he3 := hr.2 e he
    rw [updN_n (by omega)] at hp
    by_cases hx : e = c ∧ p = r (108 + c) - 1 ∧ f = 2
    · obtain ⟨rfl, rfl, rfl⟩ := hx
      rw [updN_n (by omega), updN_s]
      unfold fld
      rw [updN_s]
    · rw [updN_n (by omega), updN_n (by omega), fld_upd (by omega)]
      exact h.1.2.2 e p f he hp hf
  · rw [updN_n (by omega), updN_n (by omega)]; exact h.2 e he
theorem RW_year {w : Nat → Nat} {b : Nat} {r we : Nat → Nat} (h : RW w b r we) (hr : rowOK r) {y : Nat} : RW (updN w b y) b (updN r 117 y) we := by
  refine ⟨⟨by rw [updN_s, updN_s], fun e he => by rw [updN_n (by omega), updN_n (by omega)]; exact h.1.2.1 e he, fun e p f he hp hf => ?_⟩, fun e he => by rw [updN_n (by omega)]; exact h.2 e he⟩
  rw [updN_n (by omega)] at hp
  have := hr.2 e he
  rw [updN_n (by omega), fld_upd (by omega)]
  exact h.1.2.2 e p f he hp hf
theorem RW_copy {w : Nat → Nat} {s d n : Nat} {r we : Nat → Nat} (h : RW w s r we) (hr : rowOK r) (hn : 127 ≤ n) : RW (cpyN w w s d n) d r we := by
  have e : ∀ j, j < 127 → cpyN w w s d n (d + j) = w (s + j) := fun j hj => by
    unfold cpyN
    rw [if_pos (by omega)]
    congr 1; omega
  refine ⟨⟨(e 0 (by omega)).trans h.1.1, fun c hc => ?_, fun c p f hc hp hf => ?_⟩, fun c hc => ?_⟩
  · have := e (1 + c) (by omega)
    rw [show d + 1 + c = d + (1 + c) by omega, this, show s + (1 + c) = s + 1 + c by omega]
    exact h.1.2.1 c hc
  · have h3 := hr.2 c hc
    have := e (10 + 12 * c + 4 * p + f) (by omega)
    rw [show d + (10 + 12 * c + 4 * p) + f = d + (10 + 12 * c + 4 * p + f) by omega, this, show s + (10 + 12 * c + 4 * p + f) = s + (10 + 12 * c + 4 * p) + f by omega]
    exact h.1.2.2 c p f hc hp hf
  · have := e (118 + c) (by omega)
    rw [show d + 118 + c = d + (118 + c) by omega, this, show s + (118 + c) = s + 118 + c by omega]
    exact h.2 c hc
theorem nI_and {a b : Nat} (ha : a < 2 ^ 32) (hb : b < 2 ^ 32) : nI a &&& nI b = nI (a &&& b) := by
  have h3 : a &&& b < 2 ^ 32 := Nat.lt_of_le_of_lt Nat.and_le_left ha
  apply Int32.toBitVec_inj.mp
  apply BitVec.eq_of_toNat_eq
  rw [Int32.toBitVec_and, BitVec.toNat_and, pk_tn ha, pk_tn hb, pk_tn h3]
theorem bitsN_bit (p : Nat → Bool) : ∀ n c, c < n → bitN (bitsN p n) c = if p c = true then 1 else 0
  | 0, c, h => absurd h (Nat.not_lt_zero c)
  | n + 1, c, h => by
    have hl := bitsN_lt p n
    by_cases e : c = n
    · subst e
      unfold bitsN bitN
      split
      · rw [Nat.add_div_right _ (Nat.two_pow_pos _), Nat.div_eq_of_lt hl]
      · rw [Nat.div_eq_of_lt hl]
    · have ih := bitsN_bit p n c (by omega)
      unfold bitsN
      split
      · rw [← ih]
        unfold bitN
        have h2 : 2 ^ n = 2 ^ c * 2 ^ (n - c) := by rw [← Nat.pow_add]; congr 1; omega
        rw [h2, Nat.add_mul_div_left _ _ (Nat.two_pow_pos _)]
        have h3 : 2 ^ (n - c) = 2 * 2 ^ (n - c - 1) := by rw [← Nat.pow_succ']; congr 1; omega
        rw [h3, Nat.add_mul_mod_self_left]
      · exact ih
def ln1 (m k : Nat) : Nat := if m / 2 ^ (3 * k) &&& 7 = 7 then 1 else 0
def ln2 (m k : Nat) : Nat := if m / 2 ^ k &&& 73 = 73 then 1 else 0
def lnK (m : Nat) : Nat → Nat
  | 0 => 0
  | k + 1 => lnK m k + ln1 m k + ln2 m k
def lnA (m : Nat) : Nat := lnK m 3 + (if m &&& 273 = 273 then 1 else 0) + (if m &&& 84 = 84 then 1 else 0)
def lnB (m : Nat) : Nat → Nat
  | 0 => 0
  | l + 1 => lnB m l + (if bitN m (lineA l) = 1 ∧ bitN m (lineB l) = 1 ∧ bitN m (lineC l) = 1 then 1 else 0)
theorem ln_ok : ∀ m, m < 512 → lnA m = lnB m 8 := by decide +kernel
def owB (r : Nat → Nat) (f : Nat) : Nat → Bool := fun c => decide (tfo r c = some f)
theorem lnB_v2 (r : Nat → Nat) (f : Nat) : ∀ l, l ≤ 8 → lnB (bitsN (owB r f) 9) l = v2 r f l
  | 0, _ => rfl
  | l + 1, hl => by
    have ih := lnB_v2 r f l (by omega)
    obtain ⟨⟨hA, hB, hC⟩, -⟩ := line_ok l (by omega)
    unfold lnB v2
    rw [ih, bitsN_bit _ 9 _ hA, bitsN_bit _ 9 _ hB, bitsN_bit _ 9 _ hC]
    congr 1
    unfold owB lfo
    simp only [decide_eq_true_eq]
    by_cases h1 : tfo r (lineA l) = some f
    · rw [if_pos h1]
      by_cases h2 : tfo r (lineB l) = some f
      · rw [if_pos h2]
        by_cases h3 : tfo r (lineC l) = some f
        · simp [h1, h2, h3]
        · rw [if_neg h3, if_neg (fun q => absurd q.2.2 (by decide)), if_neg (c := tfo r (lineA l) = tfo r (lineB l) ∧ tfo r (lineA l) = tfo r (lineC l)) (fun q => h3 (q.2.symm.trans h1))]
          simp
      · rw [if_neg h2, if_neg (fun q => absurd q.2.1 (by decide)), if_neg (c := tfo r (lineA l) = tfo r (lineB l) ∧ tfo r (lineA l) = tfo r (lineC l)) (fun q => h2 (q.1.symm.trans h1))]
        simp
    · rw [if_neg h1, if_neg (fun q => absurd q.1 (by decide))]
      split
      · simp [h1]
      · simp
section YS
variable {G : zG} {c0_ c1_ c2_ c3_ c4_ c5_ c6_ c7_ c8_ c9_ c10_ c11_ c12_ c13_ c14_ c15_ c16_ c17_ c18_ c19_ c20_ : va_E} {w kp tx : Nat → Nat} {txl : Nat} {rf : Nat → Nat} {ya yb : Int64} {at2 st2 : Nat} {iwd ifg : Int32} {nb : Nat → Nat} {fr : Int32} {la nms : Nat → Nat} {nd : Nat} {wf : Nat → Nat} {hh : Int64} {tl : List va_E}
set_option maxRecDepth 20000 in
set_option maxHeartbeats 4000000 in
theorem m_puts {b : Nat} {r we : Nat → Nat} {c kd fm th : Nat} (h : RW w b r we) (hr : rowOK r) (hb : b ≤ 3420) (hc : c < 9) (h3 : r (108 + c) < 3) : zS G 2 yX4_puts cX4_puts 7 none [.ref (zad (zb G) 21), .int (nI b), .int (nI c), .int (nI kd), .int (nI fm), .int (nI th)] (yM G c0_ c1_ c2_ c3_ c4_ c5_ c6_ c7_ c8_ c9_ c10_ c11_ c12_ c13_ c14_ c15_ c16_ c17_ c18_ c19_ c20_ w kp tx txl rf ya yb at2 st2 iwd ifg nb fr la nms nd wf hh tl) 0 0 (zU (yM G c0_ c1_ c2_ c3_ c4_ c5_ c6_ c7_ c8_ c9_ c10_ c11_ c12_ c13_ c14_ c15_ c16_ c17_ c18_ c19_ c20_ (putW w b c (r (108 + c)) kd fm th (r 117)) kp tx txl rf ya yb at2 st2 iwd ifg nb fr la nms nd wf hh tl)) := by
  refine zS.of (by decide) (Nat.le_of_ble_eq_true rfl) (fun F O hR1 hR2 => ?_)
  have O : zOk G F yX4_puts cX4_puts 7 none RX4 2 (yM G c0_ c1_ c2_ c3_ c4_ c5_ c6_ c7_ c8_ c9_ c10_ c11_ c12_ c13_ c14_ c15_ c16_ c17_ c18_ c19_ c20_ w kp tx txl rf ya yb at2 st2 iwd ifg nb fr la nms nd wf hh tl).length := O
  refine z_eq (lv' := [(0, _), (1, _), (2, _), (3, _), (4, _), (5, _)]) rfl rfl rfl ?_
  refine z_iload_n O dX4_puts_0 rfl ?_
  refine z_iload_n O dX4_puts_1 rfl ?_
  refine z_aload_n O dX4_puts_2 rfl ?_
  refine z_get O dX4_puts_3 flX4_7 (by rfl) (by rfl) ?_
  refine z_iload_n O dX4_puts_6 rfl ?_
  refine z_iconst O (nI 1) dX4_puts_7 (by decide) ?_
  refine z_iaddN O dX4_puts_8 ?_
  refine z_iload_n O dX4_puts_9 rfl ?_
  refine z_iaddN O dX4_puts_10 ?_
  refine z_ialdN O dX4_puts_11 (by rfl) (by omega) (by decide) ?_
  refine z_top (v' := .int (nI (r (108 + c)))) (congrArg Value.int (congrArg nI (h.1.2.1 c hc))) ?_
  refine z_S2e0 O m_placeOf mX4_placeOf lkX4_59 dX4_puts_12 (Nat.le_of_ble_eq_true rfl) (by decide) ?_
  refine z_iaddN O dX4_puts_15 ?_
  refine z_istore (lv' := [(0, _), (1, _), (2, _), (3, _), (4, _), (5, _), (6, _)]) O dX4_puts_16 (by decide) rfl ?_
  refine z_aload_n O dX4_puts_18 rfl ?_
  refine z_get O dX4_puts_19 flX4_7 (by rfl) (by rfl) ?_
  refine z_iload O dX4_puts_22 rfl ?_
  refine z_iload_n O dX4_puts_24 rfl ?_
  refine z_iastN O (by rfl) dX4_puts_25 (by rfl) (by omega) (by decide) ?_
  refine z_aload_n O dX4_puts_26 rfl ?_
  refine z_get O dX4_puts_27 flX4_7 (by rfl) (by rfl) ?_
  refine z_iload O dX4_puts_30 rfl ?_
  refine z_iconst O (nI 1) dX4_puts_32 (by decide) ?_
  refine z_iaddN O dX4_puts_33 ?_
  refine z_iload O dX4_puts_34 rfl ?_
  refine z_iastN O (by rfl) dX4_puts_36 (by rfl) (by omega) (by decide) ?_
  refine z_aload_n O dX4_puts_37 rfl ?_
  refine z_get O dX4_puts_38 flX4_7 (by rfl) (by rfl) ?_
  refine z_iload O dX4_puts_41 rfl ?_
  refine z_iconst O (nI 2) dX4_puts_43 (by decide) ?_
  refine z_iaddN O dX4_puts_44 ?_
  refine z_iload O dX4_puts_45 rfl ?_
  refine z_iastN O (by rfl) dX4_puts_47 (by rfl) (by omega) (by decide) ?_
  refine z_aload_n O dX4_puts_48 rfl ?_
  refine z_get O dX4_puts_49 flX4_7 (by rfl) (by rfl) ?_
  refine z_iload O dX4_puts_52 rfl ?_
  refine z_iconst O (nI 3) dX4_puts_54 (by decide) ?_
  refine z_iaddN O dX4_puts_55 ?_
  refine z_aload_n O dX4_puts_56 rfl ?_
  refine z_get O dX4_puts_57 flX4_7 (by rfl) (by rfl) ?_
  refine z_iload_n O dX4_puts_60 rfl ?_
  refine z_iconst O (nI 0) dX4_puts_61 (by decide) ?_
  refine z_iaddN O dX4_puts_62 ?_
  refine z_ialdN O dX4_puts_63 (by rfl) (by omega) (by decide) ?_
  refine z_top (v' := .int (nI (r 117))) (congrArg Value.int (by rw [updN_n (by omega), updN_n (by omega), updN_n (by omega)]; exact congrArg nI h.1.1)) ?_
  refine z_iastN O (by rfl) dX4_puts_64 (by rfl) (by omega) (by decide) ?_
  refine z_aload_n O dX4_puts_65 rfl ?_
  refine z_get O dX4_puts_66 flX4_7 (by rfl) (by rfl) ?_
  refine z_iload_n O dX4_puts_69 rfl ?_
  refine z_iconst O (nI 1) dX4_puts_70 (by decide) ?_
  refine z_iaddN O dX4_puts_71 ?_
  refine z_iload_n O dX4_puts_72 rfl ?_
  refine z_iaddN O dX4_puts_73 ?_
  refine z_dup2 O dX4_puts_74 rfl rfl ?_
  refine z_ialdN O dX4_puts_75 (by rfl) (by omega) (by decide) ?_
  refine z_top (v' := .int (nI (r (108 + c)))) (congrArg Value.int (by rw [updN_n (by omega), updN_n (by omega), updN_n (by omega), updN_n (by omega)]; exact congrArg nI (h.1.2.1 c hc))) ?_
  refine z_iconst O (nI 1) dX4_puts_76 (by decide) ?_
  refine z_iaddN O dX4_puts_77 ?_
  refine z_iastN O (by rfl) dX4_puts_78 (by rfl) (by omega) (by decide) ?_
  exact z_vret O dX4_puts_79 ⟨rfl, rfl⟩
set_option maxRecDepth 20000 in
set_option maxHeartbeats 4000000 in
theorem m_tries  : zS G 2 yX4_tries cX4_tries 1 none [.ref (zad (zb G) 21)] (yM G c0_ c1_ c2_ c3_ c4_ c5_ c6_ c7_ c8_ c9_ c10_ c11_ c12_ c13_ c14_ c15_ c16_ c17_ c18_ c19_ c20_ w kp tx txl rf ya yb at2 st2 iwd ifg nb fr la nms nd wf hh tl) 0 0 (zU (yM G c0_ c1_ c2_ c3_ c4_ c5_ c6_ c7_ c8_ c9_ c10_ c11_ c12_ c13_ c14_ c15_ c16_ c17_ c18_ c19_ c20_ (cpyN w w 0 3273 147) kp tx txl rf ya yb at2 st2 iwd ifg nb fr la nms nd wf hh tl)) := by
  refine zS.of (by decide) (Nat.le_of_ble_eq_true rfl) (fun F O hR1 hR2 => ?_)
  have O : zOk G F yX4_tries cX4_tries 1 none RX4 2 (yM G c0_ c1_ c2_ c3_ c4_ c5_ c6_ c7_ c8_ c9_ c10_ c11_ c12_ c13_ c14_ c15_ c16_ c17_ c18_ c19_ c20_ w kp tx txl rf ya yb at2 st2 iwd ifg nb fr la nms nd wf hh tl).length := O
  refine z_eq (lv' := [(0, _)]) rfl rfl rfl ?_
  refine z_aload_n O dX4_tries_0 rfl ?_
  refine z_iconst O (nI 0) dX4_tries_1 (by decide) ?_
  refine z_sipush O (nI 3273) dX4_tries_2 (by decide) ?_
  refine z_sipush O (nI 147) dX4_tries_5 (by decide) ?_
  refine z_V3u0 O (m_copy (by decide) (by decide) (by decide)) mX4_copy lkX4_73 rfl (by rfl) dX4_tries_8 (Nat.le_of_ble_eq_true rfl) (by decide) ?_
  exact z_vret O dX4_tries_11 ⟨rfl, rfl⟩
set_option maxRecDepth 20000 in
set_option maxHeartbeats 4000000 in
theorem m_passes1 {b : Nat} {r we : Nat → Nat} (h : RW w b r we) (hr : rowOK r) (hb : b ≤ 3420) (hw : weOK we) : zS G 3 yX4_passes cX4_passes 5 none [.ref (zad (zb G) 21), .int (nI b), .int (nI 1)] (yM G c0_ c1_ c2_ c3_ c4_ c5_ c6_ c7_ c8_ c9_ c10_ c11_ c12_ c13_ c14_ c15_ c16_ c17_ c18_ c19_ c20_ w kp tx txl rf ya yb at2 st2 iwd ifg nb fr la nms nd wf hh tl) 0 0 (zPU (fun M' => ∃ w' : Nat → Nat, RW w' b (passN r we) we ∧ (∀ j, ¬ (b ≤ j ∧ j < b + 118) → w' j = w j) ∧ M' = (yM G c0_ c1_ c2_ c3_ c4_ c5_ c6_ c7_ c8_ c9_ c10_ c11_ c12_ c13_ c14_ c15_ c16_ c17_ c18_ c19_ c20_ w' kp tx txl rf ya yb at2 st2 iwd ifg nb fr la nms nd wf hh tl))) := by
  refine zS.of (by decide) (Nat.le_of_ble_eq_true rfl) (fun F O hR1 hR2 => ?_)
  have O : zOk G F yX4_passes cX4_passes 5 none RX4 3 (yM G c0_ c1_ c2_ c3_ c4_ c5_ c6_ c7_ c8_ c9_ c10_ c11_ c12_ c13_ c14_ c15_ c16_ c17_ c18_ c19_ c20_ w kp tx txl rf ya yb at2 st2 iwd ifg nb fr la nms nd wf hh tl).length := O
  refine z_eq (lv' := [(0, _), (1, _), (2, _)]) rfl rfl rfl ?_
  refine z_iconst O (nI 0) dX4_passes_0 (by decide) ?_
  refine z_istore_n (lv' := [(0, _), (1, _), (2, _), (3, _)]) O dX4_passes_1 (by decide) rfl ?_
  refine zdown (P := fun c => ∀ w' : Nat → Nat, RW w' b (passC r we c) we → (∀ j, ¬ (b ≤ j ∧ j < b + 118) → w' j = w j) → Z G F 0 0 (zEnd G F (zPU (fun M' => ∃ w' : Nat → Nat, RW w' b (passN r we) we ∧ (∀ j, ¬ (b ≤ j ∧ j < b + 118) → w' j = w j) ∧ M' = (yM G c0_ c1_ c2_ c3_ c4_ c5_ c6_ c7_ c8_ c9_ c10_ c11_ c12_ c13_ c14_ c15_ c16_ c17_ c18_ c19_ c20_ w' kp tx txl rf ya yb at2 st2 iwd ifg nb fr la nms nd wf hh tl))) 0 0) 2 [(0, .ref (zad (zb G) 21)), (1, .int (nI b)), (2, .int (nI 1)), (3, .int (nI c))] [] (yM G c0_ c1_ c2_ c3_ c4_ c5_ c6_ c7_ c8_ c9_ c10_ c11_ c12_ c13_ c14_ c15_ c16_ c17_ c18_ c19_ c20_ w' kp tx txl rf ya yb at2 st2 iwd ifg nb fr la nms nd wf hh tl)) (9) ?_ ?_ w h (fun _ _ => rfl)
  · intro w' h' ho
    refine z_iload_n O dX4_passes_2 rfl ?_
    refine z_bipush O (nI 9) dX4_passes_3 (by decide) ?_
    refine z_icmp_geN O 102 dX4_passes_5 (by decide) (by omega) (by omega) (fun h5 => ?_) (fun h5 => by omega)
    refine z_aload_n O dX4_passes_102 rfl ?_
    refine z_get O dX4_passes_103 flX4_7 (by rfl) (by rfl) ?_
    refine z_iload_n O dX4_passes_106 rfl ?_
    refine z_iconst O (nI 0) dX4_passes_107 (by decide) ?_
    refine z_iaddN O dX4_passes_108 ?_
    refine z_dup2 O dX4_passes_109 rfl rfl ?_
    refine z_ialdN O dX4_passes_110 (by rfl) (by omega) (by decide) ?_
    refine z_top (v' := .int (nI (passC r we 9 117))) (congrArg Value.int (congrArg nI h'.1.1)) ?_
    refine z_iconst O (nI 1) dX4_passes_111 (by decide) ?_
    refine z_iaddN O dX4_passes_112 ?_
    refine z_iastN O (by rfl) dX4_passes_113 (by rfl) (by omega) (by decide) ?_
    exact z_vret O dX4_passes_114 ⟨rfl, _, RW_year h' (rowOK_passC hr 9 (by omega)), fun j hj => by rw [updN_n (by omega)]; exact ho j hj, rfl⟩
  · intro c hc ih w' h' ho
    have hq := rowOK_passC (we := we) hr c (by omega)
    refine z_iload_n O dX4_passes_2 rfl ?_
    refine z_bipush O (nI 9) dX4_passes_3 (by decide) ?_
    refine z_icmp_geN O 102 dX4_passes_5 (by decide) (by omega) (by omega) (fun h5 => by omega) (fun h5 => ?_)
    refine z_iload_n O dX4_passes_8 rfl ?_
    refine z_if_eqN O 102 dX4_passes_9 (by decide) (by omega) (fun h9 => by omega) (fun h9 => ?_)
    by_cases hz0 : (passC r we c) (108 + c) = 0
    · refine z_aload_n O dX4_passes_12 rfl ?_
      refine z_iload_n O dX4_passes_13 rfl ?_
      refine z_iload_n O dX4_passes_14 rfl ?_
      refine z_V2e0 O (m_topOf0 h' hq hb hc hz0) mX4_topOf lkX4_94 rfl (by rfl) dX4_passes_15 (Nat.le_of_ble_eq_true rfl) (by decide) ?_
      refine z_istore (lv' := [(0, _), (1, _), (2, _), (3, _), (4, _)]) O dX4_passes_18 (by decide) rfl ?_
      refine z_iload O dX4_passes_20 rfl ?_
      refine z_if_lt O 96 dX4_passes_22 (by decide) (fun h22 => ?_) (fun h22 => by exact absurd (by decide) h22)
      refine z_iincN (lv' := [(0, _), (1, _), (2, _), (3, _), (4, _)]) O 1 dX4_passes_96 (by decide) rfl rfl (by decide) ?_
      refine z_goto O 2 dX4_passes_99 (by decide) ?_
      refine z_kp (lv' := [(0, _), (1, _), (2, _), (3, _)]) [0, 1, 2, 3] rfl ?_
      rw [show passC r we (c + 1) = (passC r we c) from if_pos hz0] at ih
      exact ih w' h' ho
    · refine z_aload_n O dX4_passes_12 rfl ?_
      refine z_iload_n O dX4_passes_13 rfl ?_
      refine z_iload_n O dX4_passes_14 rfl ?_
      refine z_V2e0 O (m_topOf h' hq hb hc (by omega)) mX4_topOf lkX4_94 rfl (by rfl) dX4_passes_15 (Nat.le_of_ble_eq_true rfl) (by decide) ?_
      have hm3 := hq.2 c hc
      have hb1 : (fld (passC r we c) c ((passC r we c) (108 + c) - 1) 2) < 1048576 := hq.1 _
      have hb2 := lossN_le (fld (passC r we c) c ((passC r we c) (108 + c) - 1) 0) (we c) ((passC r we c) 117)
      have hb3 := hw c
      refine z_istore (lv' := [(0, _), (1, _), (2, _), (3, _), (4, _)]) O dX4_passes_18 (by decide) rfl ?_
      refine z_iload O dX4_passes_20 rfl ?_
      refine z_if_ltN O dX4_passes_22 96 (by decide) (by omega) ?_
      refine z_aload_n O dX4_passes_25 rfl ?_
      refine z_get O dX4_passes_26 flX4_7 (by rfl) (by rfl) ?_
      refine z_iload O dX4_passes_29 rfl ?_
      refine z_iconst O (nI 2) dX4_passes_31 (by decide) ?_
      refine z_iaddN O dX4_passes_32 ?_
      refine z_dup2 O dX4_passes_33 rfl rfl ?_
      refine z_ialdN O dX4_passes_34 (by rfl) (by omega) (by decide) ?_
      refine z_top (v' := .int (nI (fld (passC r we c) c ((passC r we c) (108 + c) - 1) 2))) (congrArg Value.int (congrArg nI (h'.1.2.2 c _ 2 hc (by omega) (by decide)))) ?_
      refine z_aload_n O dX4_passes_35 rfl ?_
      refine z_get O dX4_passes_36 flX4_7 (by rfl) (by rfl) ?_
      refine z_iload O dX4_passes_39 rfl ?_
      refine z_ialdN O dX4_passes_41 (by rfl) (by omega) (by decide) ?_
      refine z_top (v' := .int (nI (fld (passC r we c) c ((passC r we c) (108 + c) - 1) 0))) (congrArg Value.int (congrArg nI (h'.1.2.2 c _ 0 hc (by omega) (by decide)))) ?_
      refine z_aload_n O dX4_passes_42 rfl ?_
      refine z_get O dX4_passes_43 flX4_7 (by rfl) (by rfl) ?_
      refine z_iload_n O dX4_passes_46 rfl ?_
      refine z_bipush O (nI 118) dX4_passes_47 (by decide) ?_
      refine z_iaddN O dX4_passes_49 ?_
      refine z_iload_n O dX4_passes_50 rfl ?_
      refine z_iaddN O dX4_passes_51 ?_
      refine z_ialdN O dX4_passes_52 (by rfl) (by omega) (by decide) ?_
      refine z_top (v' := .int (nI (we c))) (congrArg Value.int (congrArg nI (h'.2 c hc))) ?_
      refine z_aload_n O dX4_passes_53 rfl ?_
      refine z_get O dX4_passes_54 flX4_7 (by rfl) (by rfl) ?_
      refine z_iload_n O dX4_passes_57 rfl ?_
      refine z_iconst O (nI 0) dX4_passes_58 (by decide) ?_
      refine z_iaddN O dX4_passes_59 ?_
      refine z_ialdN O dX4_passes_60 (by rfl) (by omega) (by decide) ?_
      refine z_top (v' := .int (nI ((passC r we c) 117))) (congrArg Value.int (congrArg nI h'.1.1)) ?_
      refine z_S3e0 O (m_loses (by have hx : fld (passC r we c) c ((passC r we c) (108 + c) - 1) 0 < 1048576 := hq.1 _; omega) (by have := hw c; omega) (by have := hq.1 117; omega)) mX4_loses lkX4_97 dX4_passes_61 (Nat.le_of_ble_eq_true rfl) (by decide) ?_
      refine z_isub O dX4_passes_64 ?_
      refine z_top (v' := .int (nI (sbN (fld (passC r we c) c ((passC r we c) (108 + c) - 1) 2) (lossN (fld (passC r we c) c ((passC r we c) (108 + c) - 1) 0) (we c) ((passC r we c) 117))))) (congrArg Value.int (sb_eq (by omega))) ?_
      refine z_iastN O (by rfl) dX4_passes_65 (by rfl) (by omega) (by decide) ?_
      refine z_aload_n O dX4_passes_66 rfl ?_
      refine z_get O dX4_passes_67 flX4_7 (by rfl) (by rfl) ?_
      refine z_iload_n O dX4_passes_70 rfl ?_
      refine z_iconst O (nI 1) dX4_passes_71 (by decide) ?_
      refine z_iaddN O dX4_passes_72 ?_
      refine z_iload_n O dX4_passes_73 rfl ?_
      refine z_iaddN O dX4_passes_74 ?_
      refine z_dup2 O dX4_passes_75 rfl rfl ?_
      refine z_ialdN O dX4_passes_76 (by rfl) (by omega) (by decide) ?_
      refine z_top (v' := .int (nI ((passC r we c) (108 + c)))) (congrArg Value.int (by rw [updN_n (by omega)]; exact congrArg nI (h'.1.2.1 c hc))) ?_
      refine z_aload_n O dX4_passes_77 rfl ?_
      refine z_get O dX4_passes_78 flX4_7 (by rfl) (by rfl) ?_
      refine z_iload O dX4_passes_81 rfl ?_
      refine z_iconst O (nI 2) dX4_passes_83 (by decide) ?_
      refine z_iaddN O dX4_passes_84 ?_
      refine z_ialdN O dX4_passes_85 (by rfl) (by omega) (by decide) ?_
      refine z_top (v' := .int (nI (sbN (fld (passC r we c) c ((passC r we c) (108 + c) - 1) 2) (lossN (fld (passC r we c) c ((passC r we c) (108 + c) - 1) 0) (we c) ((passC r we c) 117))))) (congrArg Value.int (by rw [updN_s])) ?_
      by_cases hf : (fld (passC r we c) c ((passC r we c) (108 + c) - 1) 2) ≤ (lossN (fld (passC r we c) c ((passC r we c) (108 + c) - 1) 0) (we c) ((passC r we c) 117))
      · refine z_if_gt O 93 dX4_passes_86 (by decide) (fun h86 => by exact absurd ((lfx_le (lfx_sub (t := (fld (passC r we c) c ((passC r we c) (108 + c) - 1) 2)) (l := (lossN (fld (passC r we c) c ((passC r we c) (108 + c) - 1) 0) (we c) ((passC r we c) 117))) (by omega) (by omega)) (by omega)).mpr (by omega)) (Int32.not_le.mpr (by rw [sb_eq (by omega)]; exact h86))) (fun h86 => ?_)
        refine z_iconst O (nI 1) dX4_passes_89 (by decide) ?_
        refine z_goto O 94 dX4_passes_90 (by decide) ?_
        refine z_isubN O dX4_passes_94 (by omega) ?_
        refine z_iastN O (by rfl) dX4_passes_95 (by rfl) (by omega) (by decide) ?_
        refine z_iincN (lv' := [(0, _), (1, _), (2, _), (3, _), (4, _)]) O 1 dX4_passes_96 (by decide) rfl rfl (by decide) ?_
        refine z_goto O 2 dX4_passes_99 (by decide) ?_
        refine z_kp (lv' := [(0, _), (1, _), (2, _), (3, _)]) [0, 1, 2, 3] rfl ?_
        rw [show passC r we (c + 1) = takeN (passC r we c) c from (if_neg hz0).trans (if_pos hf)] at ih
        exact ih _ (RW_wear1 h' hq hc (by omega)) (fun j hj => by rw [updN_n (by omega), updN_n (by omega)]; exact ho j hj)
      · refine z_if_gt O 93 dX4_passes_86 (by decide) (fun h86 => ?_) (fun h86 => by exact absurd (by rw [sbN, if_pos (by omega)]; exact nI_lt (a := 0) (by omega) (by omega)) h86)
        refine z_iconst O (nI 0) dX4_passes_93 (by decide) ?_
        refine z_isubN O dX4_passes_94 (by omega) ?_
        refine z_iastN O (by rfl) dX4_passes_95 (by rfl) (by omega) (by decide) ?_
        refine z_iincN (lv' := [(0, _), (1, _), (2, _), (3, _), (4, _)]) O 1 dX4_passes_96 (by decide) rfl rfl (by decide) ?_
        refine z_goto O 2 dX4_passes_99 (by decide) ?_
        refine z_kp (lv' := [(0, _), (1, _), (2, _), (3, _)]) [0, 1, 2, 3] rfl ?_
        rw [show passC r we (c + 1) = updN (passC r we c) ((c * 3 + ((passC r we c) (108 + c) - 1)) * 4 + 2) ((fld (passC r we c) c ((passC r we c) (108 + c) - 1) 2) - (lossN (fld (passC r we c) c ((passC r we c) (108 + c) - 1) 0) (we c) ((passC r we c) 117))) from (if_neg hz0).trans (if_neg hf)] at ih
        have hsb : sbN (fld (passC r we c) c ((passC r we c) (108 + c) - 1) 2) (lossN (fld (passC r we c) c ((passC r we c) (108 + c) - 1) 0) (we c) ((passC r we c) 117)) = (fld (passC r we c) c ((passC r we c) (108 + c) - 1) 2) - (lossN (fld (passC r we c) c ((passC r we c) (108 + c) - 1) 0) (we c) ((passC r we c) 117)) := if_pos (by omega)
        rw [hsb]
        exact ih _ (RW_wear2 h' hq hc (by omega)) (fun j hj => by rw [updN_n (by omega), updN_n (by omega)]; exact ho j hj)
set_option maxRecDepth 20000 in
set_option maxHeartbeats 4000000 in
theorem m_passes0 {b : Nat} {r we : Nat → Nat} (h : RW w b r we) (hr : rowOK r) (hb : b ≤ 3420) : zS G 1 yX4_passes cX4_passes 5 none [.ref (zad (zb G) 21), .int (nI b), .int (nI 0)] (yM G c0_ c1_ c2_ c3_ c4_ c5_ c6_ c7_ c8_ c9_ c10_ c11_ c12_ c13_ c14_ c15_ c16_ c17_ c18_ c19_ c20_ w kp tx txl rf ya yb at2 st2 iwd ifg nb fr la nms nd wf hh tl) 0 0 (zPU (fun M' => ∃ w' : Nat → Nat, RW w' b (updN r 117 (r 117 + 1)) we ∧ (∀ j, ¬ (b ≤ j ∧ j < b + 118) → w' j = w j) ∧ M' = (yM G c0_ c1_ c2_ c3_ c4_ c5_ c6_ c7_ c8_ c9_ c10_ c11_ c12_ c13_ c14_ c15_ c16_ c17_ c18_ c19_ c20_ w' kp tx txl rf ya yb at2 st2 iwd ifg nb fr la nms nd wf hh tl))) := by
  refine zS.of (by decide) (Nat.le_of_ble_eq_true rfl) (fun F O hR1 hR2 => ?_)
  have O : zOk G F yX4_passes cX4_passes 5 none RX4 1 (yM G c0_ c1_ c2_ c3_ c4_ c5_ c6_ c7_ c8_ c9_ c10_ c11_ c12_ c13_ c14_ c15_ c16_ c17_ c18_ c19_ c20_ w kp tx txl rf ya yb at2 st2 iwd ifg nb fr la nms nd wf hh tl).length := O
  refine z_eq (lv' := [(0, _), (1, _), (2, _)]) rfl rfl rfl ?_
  refine z_iconst O (nI 0) dX4_passes_0 (by decide) ?_
  refine z_istore_n (lv' := [(0, _), (1, _), (2, _), (3, _)]) O dX4_passes_1 (by decide) rfl ?_
  refine z_iload_n O dX4_passes_2 rfl ?_
  refine z_bipush O (nI 9) dX4_passes_3 (by decide) ?_
  refine z_icmp_geN O 102 dX4_passes_5 (by decide) (by omega) (by omega) (fun h5 => by omega) (fun h5 => ?_)
  refine z_iload_n O dX4_passes_8 rfl ?_
  refine z_if_eqN O 102 dX4_passes_9 (by decide) (by omega) (fun h9 => ?_) (fun h9 => by omega)
  refine z_aload_n O dX4_passes_102 rfl ?_
  refine z_get O dX4_passes_103 flX4_7 (by rfl) (by rfl) ?_
  refine z_iload_n O dX4_passes_106 rfl ?_
  refine z_iconst O (nI 0) dX4_passes_107 (by decide) ?_
  refine z_iaddN O dX4_passes_108 ?_
  refine z_dup2 O dX4_passes_109 rfl rfl ?_
  refine z_ialdN O dX4_passes_110 (by rfl) (by omega) (by decide) ?_
  refine z_top (v' := .int (nI (r 117))) (congrArg Value.int (congrArg nI h.1.1)) ?_
  refine z_iconst O (nI 1) dX4_passes_111 (by decide) ?_
  refine z_iaddN O dX4_passes_112 ?_
  refine z_iastN O (by rfl) dX4_passes_113 (by rfl) (by omega) (by decide) ?_
  exact z_vret O dX4_passes_114 ⟨rfl, _, RW_year h hr, fun j hj => updN_n (by omega), rfl⟩
set_option maxRecDepth 20000 in
set_option maxHeartbeats 4000000 in
theorem m_countsOf {b : Nat} {r we : Nat → Nat} {c p : Nat} (h : RW w b r we) (hr : rowOK r) (hb : b ≤ 3420) (hc : c < 9) (hp : p < r (108 + c)) : zS G 2 yX4_countsOf cX4_countsOf 8 (some .int) [.ref (zad (zb G) 21), .int (nI b), .int (nI c), .int (nI p)] (yM G c0_ c1_ c2_ c3_ c4_ c5_ c6_ c7_ c8_ c9_ c10_ c11_ c12_ c13_ c14_ c15_ c16_ c17_ c18_ c19_ c20_ w kp tx txl rf ya yb at2 st2 iwd ifg nb fr la nms nd wf hh tl) 0 0 (zE (.int (nI (cntC r c (p + 1)))) (yM G c0_ c1_ c2_ c3_ c4_ c5_ c6_ c7_ c8_ c9_ c10_ c11_ c12_ c13_ c14_ c15_ c16_ c17_ c18_ c19_ c20_ w kp tx txl rf ya yb at2 st2 iwd ifg nb fr la nms nd wf hh tl)) := by
  refine zS.of (by decide) (Nat.le_of_ble_eq_true rfl) (fun F O hR1 hR2 => ?_)
  have O : zOk G F yX4_countsOf cX4_countsOf 8 (some .int) RX4 2 (yM G c0_ c1_ c2_ c3_ c4_ c5_ c6_ c7_ c8_ c9_ c10_ c11_ c12_ c13_ c14_ c15_ c16_ c17_ c18_ c19_ c20_ w kp tx txl rf ya yb at2 st2 iwd ifg nb fr la nms nd wf hh tl).length := O
  refine z_eq (lv' := [(0, _), (1, _), (2, _), (3, _)]) rfl rfl rfl ?_
  have h3 := hr.2 c hc
  refine z_iconst O (nI 0) dX4_countsOf_0 (by decide) ?_
  refine z_istore (lv' := [(0, _), (1, _), (2, _), (3, _), (4, _)]) O dX4_countsOf_1 (by decide) rfl ?_
  refine z_iconst O (nI 0) dX4_countsOf_3 (by decide) ?_
  refine z_istore (lv' := [(0, _), (1, _), (2, _), (3, _), (4, _), (5, _)]) O dX4_countsOf_4 (by decide) rfl ?_
  refine zdown (P := fun j => Z G F 0 0 (zEnd G F (zE (.int (nI (cntC r c (p + 1)))) (yM G c0_ c1_ c2_ c3_ c4_ c5_ c6_ c7_ c8_ c9_ c10_ c11_ c12_ c13_ c14_ c15_ c16_ c17_ c18_ c19_ c20_ w kp tx txl rf ya yb at2 st2 iwd ifg nb fr la nms nd wf hh tl)) 0 0) 6 [(0, .ref (zad (zb G) 21)), (1, .int (nI b)), (2, .int (nI c)), (3, .int (nI p)), (4, .int (nI (cntC r c j))), (5, .int (nI j))] [] (yM G c0_ c1_ c2_ c3_ c4_ c5_ c6_ c7_ c8_ c9_ c10_ c11_ c12_ c13_ c14_ c15_ c16_ c17_ c18_ c19_ c20_ w kp tx txl rf ya yb at2 st2 iwd ifg nb fr la nms nd wf hh tl)) (p + 1) ?_ ?_ 
  · refine z_iload O dX4_countsOf_6 rfl ?_
    refine z_iload_n O dX4_countsOf_8 rfl ?_
    refine z_icmp_gtN O 154 dX4_countsOf_9 (by decide) (by omega) (by omega) (fun h9 => ?_) (fun h9 => by omega)
    refine z_iload O dX4_countsOf_154 rfl ?_
    exact z_iret O dX4_countsOf_156 ⟨rfl, rfl⟩
  · intro j hj ih 
    have h3 := hr.2 c hc
    refine z_iload O dX4_countsOf_6 rfl ?_
    refine z_iload_n O dX4_countsOf_8 rfl ?_
    refine z_icmp_gtN O 154 dX4_countsOf_9 (by decide) (by omega) (by omega) (fun h9 => by omega) (fun h9 => ?_)
    refine z_iload_n O dX4_countsOf_12 rfl ?_
    refine z_iload_n O dX4_countsOf_13 rfl ?_
    refine z_iload O dX4_countsOf_14 rfl ?_
    refine z_S2e0 O m_placeOf mX4_placeOf lkX4_59 dX4_countsOf_16 (Nat.le_of_ble_eq_true rfl) (by decide) ?_
    refine z_iaddN O dX4_countsOf_19 ?_
    refine z_istore (lv' := [(0, _), (1, _), (2, _), (3, _), (4, _), (5, _), (6, _)]) O dX4_countsOf_20 (by decide) rfl ?_
    refine z_aload_n O dX4_countsOf_22 rfl ?_
    refine z_get O dX4_countsOf_23 flX4_7 (by rfl) (by rfl) ?_
    refine z_iload O dX4_countsOf_26 rfl ?_
    refine z_iconst O (nI 2) dX4_countsOf_28 (by decide) ?_
    refine z_iaddN O dX4_countsOf_29 ?_
    refine z_ialdN O dX4_countsOf_30 (by rfl) (by omega) (by decide) ?_
    refine z_top (v' := .int (nI (fld r c j 2))) (congrArg Value.int (congrArg nI (h.1.2.2 c j 2 hc (by omega) (by decide)))) ?_
    refine z_istore (lv' := [(0, _), (1, _), (2, _), (3, _), (4, _), (5, _), (6, _), (7, _)]) O dX4_countsOf_31 (by decide) rfl ?_
    refine z_aload_n O dX4_countsOf_33 rfl ?_
    refine z_get O dX4_countsOf_34 flX4_7 (by rfl) (by rfl) ?_
    refine z_iload O dX4_countsOf_37 rfl ?_
    refine z_ialdN O dX4_countsOf_39 (by rfl) (by omega) (by decide) ?_
    refine z_top (v' := .int (nI (fld r c j 0))) (congrArg Value.int (congrArg nI (h.1.2.2 c j 0 hc (by omega) (by decide)))) ?_
    refine z_tabN O 1 76 dX4_countsOf_40 (by rfl) (by decide) (by decide) (by decide) (by decide) (fun hk40 => ?_) (fun hn40_1 => ?_)
    · refine z_iconst O (nI 2) dX4_countsOf_76 (by decide) ?_
      refine z_iload O dX4_countsOf_77 rfl ?_
      refine z_imulN O dX4_countsOf_79 ?_
      refine z_istore (lv' := [(0, _), (1, _), (2, _), (3, _), (4, _), (5, _), (6, _), (7, _)]) O dX4_countsOf_80 (by decide) rfl ?_
      refine z_goto O 148 dX4_countsOf_82 (by decide) ?_
      refine z_iincN (lv' := [(0, _), (1, _), (2, _), (3, _), (4, _), (5, _), (6, _), (7, _)]) O 1 dX4_countsOf_148 (by decide) rfl rfl (by decide) ?_
      refine z_goto O 6 dX4_countsOf_151 (by decide) ?_
      refine z_kp (lv' := [(0, _), (1, _), (2, _), (3, _), (4, _), (5, _)]) [0, 1, 2, 3, 4, 5] rfl ?_
      first
      | (rw [show cntC r c (j + 1) = 2 * fld r c j 2 from by simp [cntC, cntO, hk40]] at ih; exact ih)
      | (rw [show cntC r c (j + 1) = fld r c j 2 / 2 from by simp [cntC, cntO, hk40]] at ih; exact ih)
      | (rw [show cntC r c (j + 1) = fld r c j 2 + cntC r c j / 2 from by simp [cntC, cntO, hk40]] at ih; exact ih)
      | (rw [show cntC r c (j + 1) = fld r c j 2 from by simp [cntC, cntO, hn40_1, hn40_2, hn40_3, hn40_4, hn40_5]] at ih; exact ih)
    refine z_tabN O 2 85 dX4_countsOf_40 (by rfl) (by decide) (by decide) (by decide) (by decide) (fun hk40 => ?_) (fun hn40_2 => ?_)
    · refine z_iload O dX4_countsOf_85 rfl ?_
      refine z_iconst O (nI 2) dX4_countsOf_87 (by decide) ?_
      refine z_idivN O dX4_countsOf_88 (by have hx : fld r c j 2 < 1048576 := hr.1 _; omega) (by have hx : fld r c j 2 < 1048576 := hr.1 _; omega) (by have hx : fld r c j 2 < 1048576 := hr.1 _; omega) ?_
      refine z_istore (lv' := [(0, _), (1, _), (2, _), (3, _), (4, _), (5, _), (6, _), (7, _)]) O dX4_countsOf_89 (by decide) rfl ?_
      refine z_goto O 148 dX4_countsOf_91 (by decide) ?_
      refine z_iincN (lv' := [(0, _), (1, _), (2, _), (3, _), (4, _), (5, _), (6, _), (7, _)]) O 1 dX4_countsOf_148 (by decide) rfl rfl (by decide) ?_
      refine z_goto O 6 dX4_countsOf_151 (by decide) ?_
      refine z_kp (lv' := [(0, _), (1, _), (2, _), (3, _), (4, _), (5, _)]) [0, 1, 2, 3, 4, 5] rfl ?_
      first
      | (rw [show cntC r c (j + 1) = 2 * fld r c j 2 from by simp [cntC, cntO, hk40]] at ih; exact ih)
      | (rw [show cntC r c (j + 1) = fld r c j 2 / 2 from by simp [cntC, cntO, hk40]] at ih; exact ih)
      | (rw [show cntC r c (j + 1) = fld r c j 2 + cntC r c j / 2 from by simp [cntC, cntO, hk40]] at ih; exact ih)
      | (rw [show cntC r c (j + 1) = fld r c j 2 from by simp [cntC, cntO, hn40_1, hn40_2, hn40_3, hn40_4, hn40_5]] at ih; exact ih)
    refine z_tabN O 3 94 dX4_countsOf_40 (by rfl) (by decide) (by decide) (by decide) (by decide) (fun hk40 => ?_) (fun hn40_3 => ?_)
    · by_cases hy : fld r c j 3 + 10 ≤ r 117
      · refine z_iconst O (nI 2) dX4_countsOf_94 (by decide) ?_
        refine z_iload O dX4_countsOf_95 rfl ?_
        refine z_imulN O dX4_countsOf_97 ?_
        refine z_aload_n O dX4_countsOf_98 rfl ?_
        refine z_get O dX4_countsOf_99 flX4_7 (by rfl) (by rfl) ?_
        refine z_iload_n O dX4_countsOf_102 rfl ?_
        refine z_iconst O (nI 0) dX4_countsOf_103 (by decide) ?_
        refine z_iaddN O dX4_countsOf_104 ?_
        refine z_ialdN O dX4_countsOf_105 (by rfl) (by omega) (by decide) ?_
        refine z_top (v' := .int (nI (r 117))) (congrArg Value.int (congrArg nI h.1.1)) ?_
        refine z_aload_n O dX4_countsOf_106 rfl ?_
        refine z_get O dX4_countsOf_107 flX4_7 (by rfl) (by rfl) ?_
        refine z_iload O dX4_countsOf_110 rfl ?_
        refine z_iconst O (nI 3) dX4_countsOf_112 (by decide) ?_
        refine z_iaddN O dX4_countsOf_113 ?_
        refine z_ialdN O dX4_countsOf_114 (by rfl) (by omega) (by decide) ?_
        refine z_top (v' := .int (nI (fld r c j 3))) (congrArg Value.int (congrArg nI (h.1.2.2 c j 3 hc (by omega) (by decide)))) ?_
        refine z_isub O dX4_countsOf_115 ?_
        refine z_bipush O (nI 10) dX4_countsOf_116 (by decide) ?_
        refine z_icmp_lt O 125 dX4_countsOf_118 (by decide) (fun h118 => by exact absurd ((sub_lt10 (hr.1 117) (hr.1 _)).mp h118) (by show ¬ r 117 < fld r c j 3 + 10; omega)) (fun h118 => ?_)
        refine z_iconst O (nI 3) dX4_countsOf_121 (by decide) ?_
        refine z_goto O 126 dX4_countsOf_122 (by decide) ?_
        refine z_iaddN O dX4_countsOf_126 ?_
        refine z_istore (lv' := [(0, _), (1, _), (2, _), (3, _), (4, _), (5, _), (6, _), (7, _)]) O dX4_countsOf_127 (by decide) rfl ?_
        refine z_goto O 148 dX4_countsOf_129 (by decide) ?_
        refine z_iincN (lv' := [(0, _), (1, _), (2, _), (3, _), (4, _), (5, _), (6, _), (7, _)]) O 1 dX4_countsOf_148 (by decide) rfl rfl (by decide) ?_
        refine z_goto O 6 dX4_countsOf_151 (by decide) ?_
        refine z_kp (lv' := [(0, _), (1, _), (2, _), (3, _), (4, _), (5, _)]) [0, 1, 2, 3, 4, 5] rfl ?_
        rw [show cntC r c (j + 1) = 2 * fld r c j 2 + 3 from by simp [cntC, cntO, hk40, hy]] at ih
        exact ih
      · refine z_iconst O (nI 2) dX4_countsOf_94 (by decide) ?_
        refine z_iload O dX4_countsOf_95 rfl ?_
        refine z_imulN O dX4_countsOf_97 ?_
        refine z_aload_n O dX4_countsOf_98 rfl ?_
        refine z_get O dX4_countsOf_99 flX4_7 (by rfl) (by rfl) ?_
        refine z_iload_n O dX4_countsOf_102 rfl ?_
        refine z_iconst O (nI 0) dX4_countsOf_103 (by decide) ?_
        refine z_iaddN O dX4_countsOf_104 ?_
        refine z_ialdN O dX4_countsOf_105 (by rfl) (by omega) (by decide) ?_
        refine z_top (v' := .int (nI (r 117))) (congrArg Value.int (congrArg nI h.1.1)) ?_
        refine z_aload_n O dX4_countsOf_106 rfl ?_
        refine z_get O dX4_countsOf_107 flX4_7 (by rfl) (by rfl) ?_
        refine z_iload O dX4_countsOf_110 rfl ?_
        refine z_iconst O (nI 3) dX4_countsOf_112 (by decide) ?_
        refine z_iaddN O dX4_countsOf_113 ?_
        refine z_ialdN O dX4_countsOf_114 (by rfl) (by omega) (by decide) ?_
        refine z_top (v' := .int (nI (fld r c j 3))) (congrArg Value.int (congrArg nI (h.1.2.2 c j 3 hc (by omega) (by decide)))) ?_
        refine z_isub O dX4_countsOf_115 ?_
        refine z_bipush O (nI 10) dX4_countsOf_116 (by decide) ?_
        refine z_icmp_lt O 125 dX4_countsOf_118 (by decide) (fun h118 => ?_) (fun h118 => by exact absurd ((sub_lt10 (hr.1 117) (hr.1 _)).mpr (show r 117 < fld r c j 3 + 10 by omega)) h118)
        refine z_iconst O (nI 0) dX4_countsOf_125 (by decide) ?_
        refine z_iaddN O dX4_countsOf_126 ?_
        refine z_istore (lv' := [(0, _), (1, _), (2, _), (3, _), (4, _), (5, _), (6, _), (7, _)]) O dX4_countsOf_127 (by decide) rfl ?_
        refine z_goto O 148 dX4_countsOf_129 (by decide) ?_
        refine z_iincN (lv' := [(0, _), (1, _), (2, _), (3, _), (4, _), (5, _), (6, _), (7, _)]) O 1 dX4_countsOf_148 (by decide) rfl rfl (by decide) ?_
        refine z_goto O 6 dX4_countsOf_151 (by decide) ?_
        refine z_kp (lv' := [(0, _), (1, _), (2, _), (3, _), (4, _), (5, _)]) [0, 1, 2, 3, 4, 5] rfl ?_
        rw [show cntC r c (j + 1) = 2 * fld r c j 2 + 0 from by simp [cntC, cntO, hk40, hy]] at ih
        exact ih
    refine z_tabN O 4 85 dX4_countsOf_40 (by rfl) (by decide) (by decide) (by decide) (by decide) (fun hk40 => ?_) (fun hn40_4 => ?_)
    · refine z_iload O dX4_countsOf_85 rfl ?_
      refine z_iconst O (nI 2) dX4_countsOf_87 (by decide) ?_
      refine z_idivN O dX4_countsOf_88 (by have hx : fld r c j 2 < 1048576 := hr.1 _; omega) (by have hx : fld r c j 2 < 1048576 := hr.1 _; omega) (by have hx : fld r c j 2 < 1048576 := hr.1 _; omega) ?_
      refine z_istore (lv' := [(0, _), (1, _), (2, _), (3, _), (4, _), (5, _), (6, _), (7, _)]) O dX4_countsOf_89 (by decide) rfl ?_
      refine z_goto O 148 dX4_countsOf_91 (by decide) ?_
      refine z_iincN (lv' := [(0, _), (1, _), (2, _), (3, _), (4, _), (5, _), (6, _), (7, _)]) O 1 dX4_countsOf_148 (by decide) rfl rfl (by decide) ?_
      refine z_goto O 6 dX4_countsOf_151 (by decide) ?_
      refine z_kp (lv' := [(0, _), (1, _), (2, _), (3, _), (4, _), (5, _)]) [0, 1, 2, 3, 4, 5] rfl ?_
      first
      | (rw [show cntC r c (j + 1) = 2 * fld r c j 2 from by simp [cntC, cntO, hk40]] at ih; exact ih)
      | (rw [show cntC r c (j + 1) = fld r c j 2 / 2 from by simp [cntC, cntO, hk40]] at ih; exact ih)
      | (rw [show cntC r c (j + 1) = fld r c j 2 + cntC r c j / 2 from by simp [cntC, cntO, hk40]] at ih; exact ih)
      | (rw [show cntC r c (j + 1) = fld r c j 2 from by simp [cntC, cntO, hn40_1, hn40_2, hn40_3, hn40_4, hn40_5]] at ih; exact ih)
    refine z_tabN O 5 132 dX4_countsOf_40 (by rfl) (by decide) (by decide) (by decide) (by decide) (fun hk40 => ?_) (fun hn40_5 => ?_)
    · refine z_iload O dX4_countsOf_132 rfl ?_
      refine z_iload O dX4_countsOf_134 rfl ?_
      refine z_iconst O (nI 2) dX4_countsOf_136 (by decide) ?_
      refine z_idivN O dX4_countsOf_137 (by have := cntC_lt hr c j; omega) (by have := cntC_lt hr c j; omega) (by have := cntC_lt hr c j; omega) ?_
      refine z_iaddN O dX4_countsOf_138 ?_
      refine z_istore (lv' := [(0, _), (1, _), (2, _), (3, _), (4, _), (5, _), (6, _), (7, _)]) O dX4_countsOf_139 (by decide) rfl ?_
      refine z_goto O 148 dX4_countsOf_141 (by decide) ?_
      refine z_iincN (lv' := [(0, _), (1, _), (2, _), (3, _), (4, _), (5, _), (6, _), (7, _)]) O 1 dX4_countsOf_148 (by decide) rfl rfl (by decide) ?_
      refine z_goto O 6 dX4_countsOf_151 (by decide) ?_
      refine z_kp (lv' := [(0, _), (1, _), (2, _), (3, _), (4, _), (5, _)]) [0, 1, 2, 3, 4, 5] rfl ?_
      first
      | (rw [show cntC r c (j + 1) = 2 * fld r c j 2 from by simp [cntC, cntO, hk40]] at ih; exact ih)
      | (rw [show cntC r c (j + 1) = fld r c j 2 / 2 from by simp [cntC, cntO, hk40]] at ih; exact ih)
      | (rw [show cntC r c (j + 1) = fld r c j 2 + cntC r c j / 2 from by simp [cntC, cntO, hk40]] at ih; exact ih)
      | (rw [show cntC r c (j + 1) = fld r c j 2 from by simp [cntC, cntO, hn40_1, hn40_2, hn40_3, hn40_4, hn40_5]] at ih; exact ih)
    refine z_tabNO O 144 dX4_countsOf_40 (by omega) (by have hx : fld r c j 0 < 1048576 := hr.1 _; omega) (by decide) ?_
    refine z_iload O dX4_countsOf_144 rfl ?_
    refine z_istore (lv' := [(0, _), (1, _), (2, _), (3, _), (4, _), (5, _), (6, _), (7, _)]) O dX4_countsOf_146 (by decide) rfl ?_
    refine z_iincN (lv' := [(0, _), (1, _), (2, _), (3, _), (4, _), (5, _), (6, _), (7, _)]) O 1 dX4_countsOf_148 (by decide) rfl rfl (by decide) ?_
    refine z_goto O 6 dX4_countsOf_151 (by decide) ?_
    refine z_kp (lv' := [(0, _), (1, _), (2, _), (3, _), (4, _), (5, _)]) [0, 1, 2, 3, 4, 5] rfl ?_
    first
    | (rw [show cntC r c (j + 1) = 2 * fld r c j 2 from by simp [cntC, cntO, hk40]] at ih; exact ih)
    | (rw [show cntC r c (j + 1) = fld r c j 2 / 2 from by simp [cntC, cntO, hk40]] at ih; exact ih)
    | (rw [show cntC r c (j + 1) = fld r c j 2 + cntC r c j / 2 from by simp [cntC, cntO, hk40]] at ih; exact ih)
    | (rw [show cntC r c (j + 1) = fld r c j 2 from by simp [cntC, cntO, hn40_1, hn40_2, hn40_3, hn40_4, hn40_5]] at ih; exact ih)
set_option maxRecDepth 20000 in
set_option maxHeartbeats 4000000 in
theorem m_familyAt {b : Nat} {r we : Nat → Nat} {c : Nat} (h : RW w b r we) (hr : rowOK r) (hb : b ≤ 3420) (hc : c < 9) : zS G 3 yX4_familyAt cX4_familyAt 4 (some .int) [.ref (zad (zb G) 21), .int (nI b), .int (nI c)] (yM G c0_ c1_ c2_ c3_ c4_ c5_ c6_ c7_ c8_ c9_ c10_ c11_ c12_ c13_ c14_ c15_ c16_ c17_ c18_ c19_ c20_ w kp tx txl rf ya yb at2 st2 iwd ifg nb fr la nms nd wf hh tl) 0 0 (zE (.int (optI (tfo r c))) (yM G c0_ c1_ c2_ c3_ c4_ c5_ c6_ c7_ c8_ c9_ c10_ c11_ c12_ c13_ c14_ c15_ c16_ c17_ c18_ c19_ c20_ w kp tx txl rf ya yb at2 st2 iwd ifg nb fr la nms nd wf hh tl)) := by
  refine zS.of (by decide) (Nat.le_of_ble_eq_true rfl) (fun F O hR1 hR2 => ?_)
  have O : zOk G F yX4_familyAt cX4_familyAt 4 (some .int) RX4 3 (yM G c0_ c1_ c2_ c3_ c4_ c5_ c6_ c7_ c8_ c9_ c10_ c11_ c12_ c13_ c14_ c15_ c16_ c17_ c18_ c19_ c20_ w kp tx txl rf ya yb at2 st2 iwd ifg nb fr la nms nd wf hh tl).length := O
  refine z_eq (lv' := [(0, _), (1, _), (2, _)]) rfl rfl rfl ?_
  by_cases hz0 : r (108 + c) = 0
  · refine z_aload_n O dX4_familyAt_0 rfl ?_
    refine z_iload_n O dX4_familyAt_1 rfl ?_
    refine z_iload_n O dX4_familyAt_2 rfl ?_
    refine z_V2e0 O (m_topOf0 h hr hb hc hz0) mX4_topOf lkX4_94 rfl (by rfl) dX4_familyAt_3 (Nat.le_of_ble_eq_true rfl) (by decide) ?_
    refine z_istore_n (lv' := [(0, _), (1, _), (2, _), (3, _)]) O dX4_familyAt_6 (by decide) rfl ?_
    refine z_iload_n O dX4_familyAt_7 rfl ?_
    refine z_if_ge O 15 dX4_familyAt_8 (by decide) (fun h8 => by exact absurd h8 (by decide)) (fun h8 => ?_)
    refine z_iconst O (-1) dX4_familyAt_11 (by decide) ?_
    refine z_goto O 23 dX4_familyAt_12 (by decide) ?_
    exact z_iret O dX4_familyAt_23 ⟨by rw [tfo, if_pos hz0]; rfl, rfl⟩
  · refine z_aload_n O dX4_familyAt_0 rfl ?_
    refine z_iload_n O dX4_familyAt_1 rfl ?_
    refine z_iload_n O dX4_familyAt_2 rfl ?_
    refine z_V2e0 O (m_topOf h hr hb hc (by omega)) mX4_topOf lkX4_94 rfl (by rfl) dX4_familyAt_3 (Nat.le_of_ble_eq_true rfl) (by decide) ?_
    have h3 := hr.2 c hc
    refine z_istore_n (lv' := [(0, _), (1, _), (2, _), (3, _)]) O dX4_familyAt_6 (by decide) rfl ?_
    refine z_iload_n O dX4_familyAt_7 rfl ?_
    refine z_if_geN O 15 dX4_familyAt_8 (by decide) (by omega) ?_
    refine z_aload_n O dX4_familyAt_15 rfl ?_
    refine z_get O dX4_familyAt_16 flX4_7 (by rfl) (by rfl) ?_
    refine z_iload_n O dX4_familyAt_19 rfl ?_
    refine z_iconst O (nI 1) dX4_familyAt_20 (by decide) ?_
    refine z_iaddN O dX4_familyAt_21 ?_
    refine z_ialdN O dX4_familyAt_22 (by rfl) (by omega) (by decide) ?_
    refine z_top (v' := .int (nI (fld r c (r (108 + c) - 1) 1))) (congrArg Value.int (congrArg nI (h.1.2.2 c _ 1 hc (by omega) (by decide)))) ?_
    exact z_iret O dX4_familyAt_23 ⟨by rw [tfo, if_neg hz0]; rfl, rfl⟩
end YS
