/-! ===== Text: tokens ===== -/
/-- from q on as long as p holds, up to len at most */ -/
def rnN (p : Nat → Bool) (len : Nat) : Nat → Nat → Nat
  | 0, q => q
  | n + 1, q => if q < len ∧ p q = true then rnN p len n (q + 1) else q
def rn (p : Nat → Bool) (len q : Nat) : Nat := rnN p len (len - q) q
theorem rnN_f (p : Nat → Bool) (len : Nat) : ∀ n q, len ≤ q + n → q ≤ rnN p len n q ∧ (∀ i, q ≤ i → i < rnN p len n q → i < len ∧ p i = true) ∧ ¬ (rnN p len n q < len ∧ p (rnN p len n q) = true)
  | 0, q, h => ⟨Nat.le_refl _, fun i h1 h2 => absurd h2 (by show ¬ i < q; omega), fun h2 => absurd h2.1 (by show ¬ q < len; omega)⟩
  | n + 1, q, h => by
    unfold rnN
    by_cases hq : q < len ∧ p q = true
    · rw [if_pos hq]
      obtain ⟨h1, h2, h3⟩ := rnN_f p len n (q + 1) (by omega)
      refine ⟨by omega, fun i a b => ?_, h3⟩
      by_cases e : i = q
      · rw [e]; exact hq
      · exact h2 i (by omega) b
    · rw [if_neg hq]
      exact ⟨Nat.le_refl _, fun i a b => absurd b (by omega), hq⟩
theorem rn_ge (p : Nat → Bool) (len q : Nat) : q ≤ rn p len q := (rnN_f p len _ q (by omega)).1
theorem rn_in {p : Nat → Bool} {len q i : Nat} (h1 : q ≤ i) (h2 : i < rn p len q) : i < len ∧ p i = true := (rnN_f p len _ q (by omega)).2.1 i h1 h2
theorem rn_end (p : Nat → Bool) (len q : Nat) : ¬ (rn p len q < len ∧ p (rn p len q) = true) := (rnN_f p len _ q (by omega)).2.2
theorem rn_le {p : Nat → Bool} {len q : Nat} (h : q ≤ len) : rn p len q ≤ len := by
  have h1 := rn_ge p len q
  by_cases e : rn p len q ≤ len
  · exact e
  · have := (rn_in (p := p) (len := len) (q := q) (i := rn p len q - 1) (by omega) (by omega)).1
    omega
theorem rn_uni {p : Nat → Bool} {len q e : Nat} (h1 : q ≤ e) (h2 : ∀ i, q ≤ i → i < e → i < len ∧ p i = true) (h3 : ¬ (e < len ∧ p e = true)) : rn p len q = e := by
  have a1 := rn_ge p len q
  rcases Nat.lt_trichotomy (rn p len q) e with h | h | h
  · exact absurd (h2 _ a1 h) (rn_end p len q)
  · exact h
  · exact absurd (rn_in h1 h) h3
def SPb (t : Nat → Nat) (q : Nat) : Bool := decide (t q = 32)
def LTb (t : Nat → Nat) (q : Nat) : Bool := decide (97 ≤ t q ∧ t q ≤ 122)
def FGb (t : Nat → Nat) (q : Nat) : Bool := decide (48 ≤ t q ∧ t q ≤ 57)
def ltN (w j : Nat) : Nat := ([115, 111, 99, 107, 119, 101, 97, 114, 100, 97, 114, 110] : List Nat).getD (4 * w + j) 0
theorem lt_ok : ∀ w, w < 3 → ∀ j, j < 4 → zLett (4 * w + j) = nI (ltN w j) ∧ ltN w j < 128 := by decide +kernel
def spJ (t : Nat → Nat) (s w : Nat) : Nat → Bool
  | 0 => true
  | j + 1 => spJ t s w j && decide (t (s + j) = ltN w j)
def spB (t : Nat → Nat) (s e w : Nat) : Bool := decide (e = s + 4) && spJ t s w 4
theorem spJ_f {t : Nat → Nat} {s w j : Nat} (h : spJ t s w j = false) : ∀ n, spJ t s w (j + n) = false
  | 0 => h
  | n + 1 => by
    show (spJ t s w (j + n) && _) = false
    rw [spJ_f h n, Bool.false_and]
def wdP (t : Nat → Nat) (s e : Nat) : Nat → Option Nat
  | 0 => none
  | k + 1 => if spB t s e k = true then some k else wdP t s e k
theorem wdP_lt {t : Nat → Nat} {s e : Nat} : ∀ k w, wdP t s e k = some w → w < k
  | 0, w, h => by cases h
  | k + 1, w, h => by
    unfold wdP at h
    split at h
    · cases h; omega
    · have := wdP_lt k w h; omega
def nvN (t : Nat → Nat) (s : Nat) : Nat → Nat
  | 0 => 0
  | k + 1 => if k < 2 then 10 * nvN t s k + t (s + k) - 48 else nvN t s k
def tS (t : Nat → Nat) (len p : Nat) : Nat := rn (SPb t) len p
def tE (t : Nat → Nat) (len p : Nat) : Nat := if tS t len p < len then (if LTb t (tS t len p) = true then rn (LTb t) len (tS t len p) else if FGb t (tS t len p) = true then rn (FGb t) len (tS t len p) else tS t len p + 1) else tS t len p
def wdO (t : Nat → Nat) (len p : Nat) : Option Nat := wdP t (tS t len p) (tE t len p) 3
def tO (t : Nat → Nat) (len p : Nat) : Nat := if tS t len p < len then (if LTb t (tS t len p) = true then (if wdO t len p = none then 4 else 1) else if FGb t (tS t len p) = true then (if 2 < tE t len p - tS t len p then 4 else 2) else if t (tS t len p) = 59 then 3 else 4) else 0
def nV (t : Nat → Nat) (len p : Nat) : Nat := nvN t (tS t len p) (tE t len p - tS t len p)
def tV (t : Nat → Nat) (len p va : Nat) : Nat := if tS t len p < len then (if LTb t (tS t len p) = true then (wdO t len p).getD va else if FGb t (tS t len p) = true then nV t len p else va) else va
theorem tE_ge (t : Nat → Nat) (len p : Nat) : tS t len p ≤ tE t len p := by
  unfold tE
  repeat' split
  all_goals first | omega | exact rn_ge _ _ _
theorem tE_le {t : Nat → Nat} {len p : Nat} (h : p ≤ len) : tS t len p ≤ len ∧ tE t len p ≤ len := by
  have h1 : tS t len p ≤ len := rn_le h
  refine ⟨h1, ?_⟩
  unfold tE
  repeat' split
  all_goals first | omega | exact rn_le h1
theorem nvN_lt {t : Nat → Nat} {s : Nat} : ∀ k, (∀ i, i < k → FGb t (s + i) = true) → nvN t s k < 100 ∧ (k ≤ 1 → nvN t s k < 10) ∧ (k = 0 → nvN t s k = 0)
  | 0, _ => ⟨by show 0 < 100; omega, fun _ => by show 0 < 10; omega, fun _ => rfl⟩
  | k + 1, h => by
    obtain ⟨h1, h2, h3⟩ := nvN_lt k (fun i hi => h i (by omega))
    have hf := of_decide_eq_true (h k (by omega))
    unfold nvN
    by_cases hk : k < 2
    · rw [if_pos hk]
      rcases (show k = 0 ∨ k = 1 by omega) with rfl | rfl
      · have := h3 rfl; omega
      · have := h2 (by omega); omega
    · rw [if_neg hk]; omega
section XS
variable {G : zG} {we r cl seen kept : Nat → Nat} {rd nw ud : Nat} {im : Nat → Option Nat} {twe tr tcl bys wo nu : Nat → Nat} {len it so at_ be va : Nat} {sp ss al od : Nat → Nat} {ab bl : Int64} {bd no fu : Nat} {rest : List va_E}
set_option maxRecDepth 20000 in
set_option maxHeartbeats 4000000 in
theorem u_isLetter {M : List va_E} {b : Nat} (hb : b < 2 ^ 31) : zS G 2 yX2_isLetter cX2_isLetter 1 (some .boolean) [.int (nI b)] M 0 0 (zE (.int (bI (97 ≤ b ∧ b ≤ 122))) M) := by
  refine zS.of (by decide) (Nat.le_of_ble_eq_true rfl) (fun F O hR1 hR2 => ?_)
  have O : zOk G F yX2_isLetter cX2_isLetter 1 (some .boolean) RX2 2 M.length := O
  refine z_eq (lv' := [(0, _)]) rfl rfl rfl ?_
  refine z_iload_n O dX2_isLetter_0 rfl ?_
  refine z_bipush O (nI 97) dX2_isLetter_1 (by decide) ?_
  refine z_bipush O (nI 122) dX2_isLetter_3 (by decide) ?_
  refine z_SN3e0 O (s_betweenN (by omega) (by omega) (by omega)) mX3_between nlX2_73 dX2_isLetter_5 (Nat.le_of_ble_eq_true rfl) (by decide) ?_
  exact z_zret O dX2_isLetter_8 bI_nar ⟨rfl, rfl⟩
set_option maxRecDepth 20000 in
set_option maxHeartbeats 4000000 in
theorem u_isFigure {M : List va_E} {b : Nat} (hb : b < 2 ^ 31) : zS G 2 yX2_isFigure cX2_isFigure 1 (some .boolean) [.int (nI b)] M 0 0 (zE (.int (bI (48 ≤ b ∧ b ≤ 57))) M) := by
  refine zS.of (by decide) (Nat.le_of_ble_eq_true rfl) (fun F O hR1 hR2 => ?_)
  have O : zOk G F yX2_isFigure cX2_isFigure 1 (some .boolean) RX2 2 M.length := O
  refine z_eq (lv' := [(0, _)]) rfl rfl rfl ?_
  refine z_iload_n O dX2_isFigure_0 rfl ?_
  refine z_bipush O (nI 48) dX2_isFigure_1 (by decide) ?_
  refine z_bipush O (nI 57) dX2_isFigure_3 (by decide) ?_
  refine z_SN3e0 O (s_betweenN (by omega) (by omega) (by omega)) mX3_between nlX2_73 dX2_isFigure_5 (Nat.le_of_ble_eq_true rfl) (by decide) ?_
  exact z_zret O dX2_isFigure_8 bI_nar ⟨rfl, rfl⟩
set_option maxRecDepth 20000 in
set_option maxHeartbeats 4000000 in
theorem u_spells (hl : len ≤ 150) (hby : ∀ j, bys j ≤ 127) (hae : at_ ≤ be) (hbe : be ≤ len) {wd : Nat} (hw : wd < 3) : zS G 2 yX2_spells cX2_spells 3 (some .boolean) [.ref (zad (zb G) 13), .int (nI wd)] (xM G we r cl seen kept rd nw ud im twe tr tcl bys wo nu len it so at_ be va sp ss al od ab bl bd no fu rest) 0 0 (zE (.int (bI (spB bys at_ be wd = true))) (xM G we r cl seen kept rd nw ud im twe tr tcl bys wo nu len it so at_ be va sp ss al od ab bl bd no fu rest)) := by
  refine zS.of (by decide) (Nat.le_of_ble_eq_true rfl) (fun F O hR1 hR2 => ?_)
  have O : zOk G F yX2_spells cX2_spells 3 (some .boolean) RX2 2 (xM G we r cl seen kept rd nw ud im twe tr tcl bys wo nu len it so at_ be va sp ss al od ab bl bd no fu rest).length := O
  refine z_eq (lv' := [(0, _), (1, _)]) rfl rfl rfl ?_
  refine z_iload_n O dX2_spells_0 rfl ?_
  refine z_iconst O (nI 3) dX2_spells_1 (by decide) ?_
  refine z_SN2e0 O (s_withinN (by omega) (by omega)) mX3_within nlX2_44 dX2_spells_2 (Nat.le_of_ble_eq_true rfl) (by decide) ?_
  refine z_if_eqB O 21 dX2_spells_5 (by decide) (fun h5 => by omega) (fun h5 => ?_)
  refine z_aload_n O dX2_spells_8 rfl ?_
  refine z_get O dX2_spells_9 flX2_25 (by rfl) (by rfl) ?_
  refine z_aload_n O dX2_spells_12 rfl ?_
  refine z_get O dX2_spells_13 flX2_35 (by rfl) (by rfl) ?_
  refine z_isubN O dX2_spells_16 (by omega) ?_
  by_cases h4 : be = at_ + 4
  · refine z_iconst O (nI 4) dX2_spells_17 (by decide) ?_
    refine z_icmp_eqN O 23 dX2_spells_18 (by decide) (by omega) (by omega) (fun h18 => ?_) (fun h18 => by omega)
    refine z_iconst O (nI 0) dX2_spells_23 (by decide) ?_
    refine z_istore_n (lv' := [(0, _), (1, _), (2, _)]) O dX2_spells_24 (by decide) rfl ?_
    refine zdown (P := fun j => spJ bys at_ wd j = true → Z G F 0 0 (zEnd G F (zE (.int (bI (spB bys at_ be wd = true))) (xM G we r cl seen kept rd nw ud im twe tr tcl bys wo nu len it so at_ be va sp ss al od ab bl bd no fu rest)) 0 0) 25 [(0, .ref (zad (zb G) 13)), (1, .int (nI wd)), (2, .int (nI j))] [] (xM G we r cl seen kept rd nw ud im twe tr tcl bys wo nu len it so at_ be va sp ss al od ab bl bd no fu rest)) (4) ?_ ?_ rfl
    · intro hs
      refine z_iload_n O dX2_spells_25 rfl ?_
      refine z_iconst O (nI 4) dX2_spells_26 (by decide) ?_
      refine z_icmp_geN O 73 dX2_spells_27 (by decide) (by omega) (by omega) (fun h27 => ?_) (fun h27 => by omega)
      refine z_iconst O (nI 1) dX2_spells_73 (by decide) ?_
      exact z_zret O dX2_spells_74 rfl ⟨by rw [bI_t (show spB bys at_ be wd = true by simp [spB, h4, hs])]; rfl, rfl⟩
    · intro j hj ih hs
      refine z_iload_n O dX2_spells_25 rfl ?_
      refine z_iconst O (nI 4) dX2_spells_26 (by decide) ?_
      refine z_icmp_geN O 73 dX2_spells_27 (by decide) (by omega) (by omega) (fun h27 => by omega) (fun h27 => ?_)
      refine z_aload_n O dX2_spells_30 rfl ?_
      refine z_get O dX2_spells_31 flX2_35 (by rfl) (by rfl) ?_
      refine z_iload_n O dX2_spells_34 rfl ?_
      refine z_iaddN O dX2_spells_35 ?_
      refine z_sipush O (nI 150) dX2_spells_36 (by decide) ?_
      refine z_icmp_geN O 73 dX2_spells_39 (by decide) (by omega) (by omega) (fun h39 => by omega) (fun h39 => ?_)
      refine z_aload_n O dX2_spells_42 rfl ?_
      refine z_get O dX2_spells_43 flX2_9 (by rfl) (by rfl) ?_
      refine z_aload_n O dX2_spells_46 rfl ?_
      refine z_get O dX2_spells_47 flX2_35 (by rfl) (by rfl) ?_
      refine z_iload_n O dX2_spells_50 rfl ?_
      refine z_iaddN O dX2_spells_51 ?_
      refine z_ialdN O dX2_spells_52 (by rfl) (by omega) (by decide) ?_
      refine z_gets O dX2_spells_53 (i := 2) (by decide) (by decide) nsX2_70 ?_
      refine z_iconst O (nI 4) dX2_spells_56 (by decide) ?_
      refine z_iload_n O dX2_spells_57 rfl ?_
      refine z_imulN O dX2_spells_58 ?_
      refine z_iload_n O dX2_spells_59 rfl ?_
      refine z_iaddN O dX2_spells_60 ?_
      refine z_cald O 2 (by decide) dX2_spells_61 (vp_in_nI (by show _ < 12; omega) (show 12 < 2 ^ 31 by decide)) ?_
      refine z_top (v' := .int (nI (ltN wd j))) (congrArg Value.int (by rw [nI_clamp (by omega)]; exact (lt_ok wd hw j hj).1)) ?_
      refine z_icmp_eqN O 67 dX2_spells_62 (by decide) (by have h1 := hby (at_ + j); have h2 := (lt_ok wd hw j hj).2; omega) (by have h1 := hby (at_ + j); have h2 := (lt_ok wd hw j hj).2; omega) (fun h62 => ?_) (fun h62 => ?_)
      · refine z_iincN (lv' := [(0, _), (1, _), (2, _)]) O 1 dX2_spells_67 (by decide) rfl rfl (by decide) ?_
        refine z_goto O 25 dX2_spells_70 (by decide) ?_
        exact ih (by show (spJ bys at_ wd j && decide (bys (at_ + j) = ltN wd j)) = true; simp [hs, h62])
      · have hnf : ¬ spB bys at_ be wd = true := fun q => by
          have h5 : spJ bys at_ wd (j + 1) = false := by show (spJ bys at_ wd j && decide (bys (at_ + j) = ltN wd j)) = false; simp [h62]
          have h6 := spJ_f h5 (4 - (j + 1))
          rw [show j + 1 + (4 - (j + 1)) = 4 by omega] at h6
          simp [spB, h6] at q
        refine z_iconst O (nI 0) dX2_spells_65 (by decide) ?_
        exact z_zret O dX2_spells_66 rfl ⟨by rw [bI_f hnf]; rfl, rfl⟩
  · refine z_iconst O (nI 4) dX2_spells_17 (by decide) ?_
    refine z_icmp_eqN O 23 dX2_spells_18 (by decide) (by omega) (by omega) (fun h18 => by omega) (fun h18 => ?_)
    refine z_iconst O (nI 0) dX2_spells_21 (by decide) ?_
    exact z_zret O dX2_spells_22 rfl ⟨by rw [bI_f (show ¬ spB bys at_ be wd = true by simp [spB, h4])]; rfl, rfl⟩
set_option maxRecDepth 20000 in
set_option maxHeartbeats 4000000 in
theorem u_takeWord (hl : len ≤ 150) (hby : ∀ j, bys j ≤ 127) (hbe : be = at_) (hal : at_ ≤ len) : zS G 3 yX2_takeWord cX2_takeWord 2 none [.ref (zad (zb G) 13)] (xM G we r cl seen kept rd nw ud im twe tr tcl bys wo nu len it so at_ be va sp ss al od ab bl bd no fu rest) 0 0 (zU (xM G we r cl seen kept rd nw ud im twe tr tcl bys wo nu len it (if wdP bys at_ (rn (LTb bys) len at_) 3 = none then 4 else 1) at_ ((rn (LTb bys) len at_)) ((wdP bys at_ (rn (LTb bys) len at_) 3).getD va) sp ss al od ab bl bd no fu rest)) := by
  refine zS.of (by decide) (Nat.le_of_ble_eq_true rfl) (fun F O hR1 hR2 => ?_)
  have O : zOk G F yX2_takeWord cX2_takeWord 2 none RX2 3 (xM G we r cl seen kept rd nw ud im twe tr tcl bys wo nu len it so at_ be va sp ss al od ab bl bd no fu rest).length := O
  refine z_eq (lv' := [(0, _)]) rfl rfl rfl ?_
  have hge := rn_ge (LTb bys) len at_
  have hle := rn_le (p := LTb bys) hal
  have hen := rn_end (LTb bys) len at_
  rw [hbe]
  refine z_M (show _ = (xM G we r cl seen kept rd nw ud im twe tr tcl bys wo nu len it so at_ (at_ + 0) va sp ss al od ab bl bd no fu rest) from rfl) ?_
  refine zdown (P := fun k => Z G F 0 0 (zEnd G F (zU (xM G we r cl seen kept rd nw ud im twe tr tcl bys wo nu len it (if wdP bys at_ (rn (LTb bys) len at_) 3 = none then 4 else 1) at_ ((rn (LTb bys) len at_)) ((wdP bys at_ (rn (LTb bys) len at_) 3).getD va) sp ss al od ab bl bd no fu rest)) 0 0) 0 [(0, .ref (zad (zb G) 13))] [] (xM G we r cl seen kept rd nw ud im twe tr tcl bys wo nu len it so at_ (at_ + k) va sp ss al od ab bl bd no fu rest)) ((rn (LTb bys) len at_) - at_) ?_ ?_ 
  · rw [show at_ + ((rn (LTb bys) len at_) - at_) = (rn (LTb bys) len at_) by omega]
    refine z_aload_n O dX2_takeWord_0 rfl ?_
    refine z_get O dX2_takeWord_1 flX2_25 (by rfl) (by rfl) ?_
    refine z_aload_n O dX2_takeWord_4 rfl ?_
    refine z_get O dX2_takeWord_5 flX2_51 (by rfl) (by rfl) ?_
    refine z_icmp_geN O 49 dX2_takeWord_8 (by decide) (by omega) (by omega) (fun h8 => ?_) (fun h8 => ?_)
    · refine z_aload_n O dX2_takeWord_49 rfl ?_
      refine z_iconst O (nI 4) dX2_takeWord_50 (by decide) ?_
      refine z_put O (by rfl) dX2_takeWord_51 flX2_38 (by rfl) rfl rfl (by simp) ?_
      refine z_iconst O (nI 0) dX2_takeWord_54 (by decide) ?_
      refine z_istore_n (lv' := [(0, _), (1, _)]) O dX2_takeWord_55 (by decide) rfl ?_
      refine z_M (show _ = (xM G we r cl seen kept rd nw ud im twe tr tcl bys wo nu len it (if wdP bys at_ (rn (LTb bys) len at_) 0 = none then 4 else 1) at_ ((rn (LTb bys) len at_)) ((wdP bys at_ (rn (LTb bys) len at_) 0).getD va) sp ss al od ab bl bd no fu rest) from rfl) ?_
      refine zdown (P := fun wd => Z G F 0 0 (zEnd G F (zU (xM G we r cl seen kept rd nw ud im twe tr tcl bys wo nu len it (if wdP bys at_ (rn (LTb bys) len at_) 3 = none then 4 else 1) at_ ((rn (LTb bys) len at_)) ((wdP bys at_ (rn (LTb bys) len at_) 3).getD va) sp ss al od ab bl bd no fu rest)) 0 0) 56 [(0, .ref (zad (zb G) 13)), (1, .int (nI wd))] [] (xM G we r cl seen kept rd nw ud im twe tr tcl bys wo nu len it (if wdP bys at_ (rn (LTb bys) len at_) wd = none then 4 else 1) at_ ((rn (LTb bys) len at_)) ((wdP bys at_ (rn (LTb bys) len at_) wd).getD va) sp ss al od ab bl bd no fu rest)) (3) ?_ ?_ 
      · refine z_iload_n O dX2_takeWord_56 rfl ?_
        refine z_iconst O (nI 3) dX2_takeWord_57 (by decide) ?_
        refine z_icmp_geN O 88 dX2_takeWord_58 (by decide) (by omega) (by omega) (fun h58 => ?_) (fun h58 => by omega)
        exact z_vret O dX2_takeWord_88 ⟨rfl, rfl⟩
      · intro wd hw ih 
        refine z_iload_n O dX2_takeWord_56 rfl ?_
        refine z_iconst O (nI 3) dX2_takeWord_57 (by decide) ?_
        refine z_icmp_geN O 88 dX2_takeWord_58 (by decide) (by omega) (by omega) (fun h58 => by omega) (fun h58 => ?_)
        by_cases hsp : spB bys at_ (rn (LTb bys) len at_) wd = true
        · refine z_aload_n O dX2_takeWord_61 rfl ?_
          refine z_iload_n O dX2_takeWord_62 rfl ?_
          refine z_V1e0 O (u_spells hl hby (by omega) (by omega) hw) mX2_spells lkX2_67 rfl (by rfl) dX2_takeWord_63 (Nat.le_of_ble_eq_true rfl) (by decide) ?_
          refine z_if_neB O 72 dX2_takeWord_66 (by decide) (fun h66 => ?_) (fun h66 => by exact absurd hsp h66)
          refine z_aload_n O dX2_takeWord_72 rfl ?_
          refine z_iconst O (nI 1) dX2_takeWord_73 (by decide) ?_
          refine z_put O (by rfl) dX2_takeWord_74 flX2_38 (by rfl) rfl rfl (by simp) ?_
          refine z_aload_n O dX2_takeWord_77 rfl ?_
          refine z_iload_n O dX2_takeWord_78 rfl ?_
          refine z_put O (by rfl) dX2_takeWord_79 flX2_41 (by rfl) rfl rfl (by simp) ?_
          refine z_iincN (lv' := [(0, _), (1, _)]) O 1 dX2_takeWord_82 (by decide) rfl rfl (by decide) ?_
          refine z_goto O 56 dX2_takeWord_85 (by decide) ?_
          rw [show wdP bys at_ (rn (LTb bys) len at_) (wd + 1) = some wd from if_pos hsp] at ih
          exact ih
        · refine z_aload_n O dX2_takeWord_61 rfl ?_
          refine z_iload_n O dX2_takeWord_62 rfl ?_
          refine z_V1e0 O (u_spells hl hby (by omega) (by omega) hw) mX2_spells lkX2_67 rfl (by rfl) dX2_takeWord_63 (Nat.le_of_ble_eq_true rfl) (by decide) ?_
          refine z_if_neB O 72 dX2_takeWord_66 (by decide) (fun h66 => by exact absurd h66 hsp) (fun h66 => ?_)
          refine z_goto O 82 dX2_takeWord_69 (by decide) ?_
          refine z_iincN (lv' := [(0, _), (1, _)]) O 1 dX2_takeWord_82 (by decide) rfl rfl (by decide) ?_
          refine z_goto O 56 dX2_takeWord_85 (by decide) ?_
          rw [show wdP bys at_ (rn (LTb bys) len at_) (wd + 1) = wdP bys at_ (rn (LTb bys) len at_) wd from if_neg hsp] at ih
          exact ih
    · refine z_aload_n O dX2_takeWord_11 rfl ?_
      refine z_get O dX2_takeWord_12 flX2_25 (by rfl) (by rfl) ?_
      refine z_sipush O (nI 150) dX2_takeWord_15 (by decide) ?_
      refine z_icmp_geN O 49 dX2_takeWord_18 (by decide) (by omega) (by omega) (fun h18 => by omega) (fun h18 => ?_)
      refine z_aload_n O dX2_takeWord_21 rfl ?_
      refine z_get O dX2_takeWord_22 flX2_9 (by rfl) (by rfl) ?_
      refine z_aload_n O dX2_takeWord_25 rfl ?_
      refine z_get O dX2_takeWord_26 flX2_25 (by rfl) (by rfl) ?_
      refine z_ialdN O dX2_takeWord_29 (by rfl) (by omega) (by decide) ?_
      refine z_S1e0 O (u_isLetter (Nat.lt_of_le_of_lt (hby _) (by decide))) mX2_isLetter lkX2_54 dX2_takeWord_30 (Nat.le_of_ble_eq_true rfl) (by decide) ?_
      refine z_if_eqB O 49 dX2_takeWord_33 (by decide) (fun h33 => ?_) (fun h33 => by exact absurd ⟨by omega, decide_eq_true h33⟩ hen)
      refine z_aload_n O dX2_takeWord_49 rfl ?_
      refine z_iconst O (nI 4) dX2_takeWord_50 (by decide) ?_
      refine z_put O (by rfl) dX2_takeWord_51 flX2_38 (by rfl) rfl rfl (by simp) ?_
      refine z_iconst O (nI 0) dX2_takeWord_54 (by decide) ?_
      refine z_istore_n (lv' := [(0, _), (1, _)]) O dX2_takeWord_55 (by decide) rfl ?_
      refine z_M (show _ = (xM G we r cl seen kept rd nw ud im twe tr tcl bys wo nu len it (if wdP bys at_ (rn (LTb bys) len at_) 0 = none then 4 else 1) at_ ((rn (LTb bys) len at_)) ((wdP bys at_ (rn (LTb bys) len at_) 0).getD va) sp ss al od ab bl bd no fu rest) from rfl) ?_
      refine zdown (P := fun wd => Z G F 0 0 (zEnd G F (zU (xM G we r cl seen kept rd nw ud im twe tr tcl bys wo nu len it (if wdP bys at_ (rn (LTb bys) len at_) 3 = none then 4 else 1) at_ ((rn (LTb bys) len at_)) ((wdP bys at_ (rn (LTb bys) len at_) 3).getD va) sp ss al od ab bl bd no fu rest)) 0 0) 56 [(0, .ref (zad (zb G) 13)), (1, .int (nI wd))] [] (xM G we r cl seen kept rd nw ud im twe tr tcl bys wo nu len it (if wdP bys at_ (rn (LTb bys) len at_) wd = none then 4 else 1) at_ ((rn (LTb bys) len at_)) ((wdP bys at_ (rn (LTb bys) len at_) wd).getD va) sp ss al od ab bl bd no fu rest)) (3) ?_ ?_ 
      · refine z_iload_n O dX2_takeWord_56 rfl ?_
        refine z_iconst O (nI 3) dX2_takeWord_57 (by decide) ?_
        refine z_icmp_geN O 88 dX2_takeWord_58 (by decide) (by omega) (by omega) (fun h58 => ?_) (fun h58 => by omega)
        exact z_vret O dX2_takeWord_88 ⟨rfl, rfl⟩
      · intro wd hw ih 
        refine z_iload_n O dX2_takeWord_56 rfl ?_
        refine z_iconst O (nI 3) dX2_takeWord_57 (by decide) ?_
        refine z_icmp_geN O 88 dX2_takeWord_58 (by decide) (by omega) (by omega) (fun h58 => by omega) (fun h58 => ?_)
        by_cases hsp : spB bys at_ (rn (LTb bys) len at_) wd = true
        · refine z_aload_n O dX2_takeWord_61 rfl ?_
          refine z_iload_n O dX2_takeWord_62 rfl ?_
          refine z_V1e0 O (u_spells hl hby (by omega) (by omega) hw) mX2_spells lkX2_67 rfl (by rfl) dX2_takeWord_63 (Nat.le_of_ble_eq_true rfl) (by decide) ?_
          refine z_if_neB O 72 dX2_takeWord_66 (by decide) (fun h66 => ?_) (fun h66 => by exact absurd hsp h66)
          refine z_aload_n O dX2_takeWord_72 rfl ?_
          refine z_iconst O (nI 1) dX2_takeWord_73 (by decide) ?_
          refine z_put O (by rfl) dX2_takeWord_74 flX2_38 (by rfl) rfl rfl (by simp) ?_
          refine z_aload_n O dX2_takeWord_77 rfl ?_
          refine z_iload_n O dX2_takeWord_78 rfl ?_
          refine z_put O (by rfl) dX2_takeWord_79 flX2_41 (by rfl) rfl rfl (by simp) ?_
          refine z_iincN (lv' := [(0, _), (1, _)]) O 1 dX2_takeWord_82 (by decide) rfl rfl (by decide) ?_
          refine z_goto O 56 dX2_takeWord_85 (by decide) ?_
          rw [show wdP bys at_ (rn (LTb bys) len at_) (wd + 1) = some wd from if_pos hsp] at ih
          exact ih
        · refine z_aload_n O dX2_takeWord_61 rfl ?_
          refine z_iload_n O dX2_takeWord_62 rfl ?_
          refine z_V1e0 O (u_spells hl hby (by omega) (by omega) hw) mX2_spells lkX2_67 rfl (by rfl) dX2_takeWord_63 (Nat.le_of_ble_eq_true rfl) (by decide) ?_
          refine z_if_neB O 72 dX2_takeWord_66 (by decide) (fun h66 => by exact absurd h66 hsp) (fun h66 => ?_)
          refine z_goto O 82 dX2_takeWord_69 (by decide) ?_
          refine z_iincN (lv' := [(0, _), (1, _)]) O 1 dX2_takeWord_82 (by decide) rfl rfl (by decide) ?_
          refine z_goto O 56 dX2_takeWord_85 (by decide) ?_
          rw [show wdP bys at_ (rn (LTb bys) len at_) (wd + 1) = wdP bys at_ (rn (LTb bys) len at_) wd from if_neg hsp] at ih
          exact ih
  · intro k hk ih 
    have hin := rn_in (p := LTb bys) (len := len) (q := at_) (i := at_ + k) (by omega) (by omega)
    have hlt : 97 ≤ bys (at_ + k) ∧ bys (at_ + k) ≤ 122 := of_decide_eq_true hin.2
    refine z_aload_n O dX2_takeWord_0 rfl ?_
    refine z_get O dX2_takeWord_1 flX2_25 (by rfl) (by rfl) ?_
    refine z_aload_n O dX2_takeWord_4 rfl ?_
    refine z_get O dX2_takeWord_5 flX2_51 (by rfl) (by rfl) ?_
    refine z_icmp_geN O 49 dX2_takeWord_8 (by decide) (by omega) (by omega) (fun h8 => by omega) (fun h8 => ?_)
    refine z_aload_n O dX2_takeWord_11 rfl ?_
    refine z_get O dX2_takeWord_12 flX2_25 (by rfl) (by rfl) ?_
    refine z_sipush O (nI 150) dX2_takeWord_15 (by decide) ?_
    refine z_icmp_geN O 49 dX2_takeWord_18 (by decide) (by omega) (by omega) (fun h18 => by omega) (fun h18 => ?_)
    refine z_aload_n O dX2_takeWord_21 rfl ?_
    refine z_get O dX2_takeWord_22 flX2_9 (by rfl) (by rfl) ?_
    refine z_aload_n O dX2_takeWord_25 rfl ?_
    refine z_get O dX2_takeWord_26 flX2_25 (by rfl) (by rfl) ?_
    refine z_ialdN O dX2_takeWord_29 (by rfl) (by omega) (by decide) ?_
    refine z_S1e0 O (u_isLetter (Nat.lt_of_le_of_lt (hby _) (by decide))) mX2_isLetter lkX2_54 dX2_takeWord_30 (Nat.le_of_ble_eq_true rfl) (by decide) ?_
    refine z_if_eqB O 49 dX2_takeWord_33 (by decide) (fun h33 => by exact absurd hlt h33) (fun h33 => ?_)
    refine z_aload_n O dX2_takeWord_36 rfl ?_
    refine z_dup O dX2_takeWord_37 rfl ?_
    refine z_get O dX2_takeWord_38 flX2_25 (by rfl) (by rfl) ?_
    refine z_iconst O (nI 1) dX2_takeWord_41 (by decide) ?_
    refine z_iaddN O dX2_takeWord_42 ?_
    refine z_put O (by rfl) dX2_takeWord_43 flX2_25 (by rfl) rfl rfl (by simp) ?_
    refine z_M (show _ = (xM G we r cl seen kept rd nw ud im twe tr tcl bys wo nu len it so at_ (at_ + (k + 1)) va sp ss al od ab bl bd no fu rest) from rfl) ?_
    refine z_goto O 0 dX2_takeWord_46 (by decide) ?_
    exact ih
set_option maxRecDepth 20000 in
set_option maxHeartbeats 4000000 in
theorem u_takeNumber (hl : len ≤ 150) (hby : ∀ j, bys j ≤ 127) (hbe : be = at_) (hal : at_ ≤ len) : zS G 3 yX2_takeNumber cX2_takeNumber 1 none [.ref (zad (zb G) 13)] (xM G we r cl seen kept rd nw ud im twe tr tcl bys wo nu len it so at_ be va sp ss al od ab bl bd no fu rest) 0 0 (zU (xM G we r cl seen kept rd nw ud im twe tr tcl bys wo nu len it (if 2 < (rn (FGb bys) len at_) - at_ then 4 else 2) at_ ((rn (FGb bys) len at_)) (nvN bys at_ ((rn (FGb bys) len at_) - at_)) sp ss al od ab bl bd no fu rest)) := by
  refine zS.of (by decide) (Nat.le_of_ble_eq_true rfl) (fun F O hR1 hR2 => ?_)
  have O : zOk G F yX2_takeNumber cX2_takeNumber 1 none RX2 3 (xM G we r cl seen kept rd nw ud im twe tr tcl bys wo nu len it so at_ be va sp ss al od ab bl bd no fu rest).length := O
  refine z_eq (lv' := [(0, _)]) rfl rfl rfl ?_
  have hge := rn_ge (FGb bys) len at_
  have hle := rn_le (p := FGb bys) hal
  have hen := rn_end (FGb bys) len at_
  refine z_aload_n O dX2_takeNumber_0 rfl ?_
  refine z_iconst O (nI 0) dX2_takeNumber_1 (by decide) ?_
  refine z_put O (by rfl) dX2_takeNumber_2 flX2_41 (by rfl) rfl rfl (by simp) ?_
  rw [hbe]
  refine z_M (show _ = (xM G we r cl seen kept rd nw ud im twe tr tcl bys wo nu len it so at_ (at_ + 0) (nvN bys at_ 0) sp ss al od ab bl bd no fu rest) from rfl) ?_
  refine zdown (P := fun k => Z G F 0 0 (zEnd G F (zU (xM G we r cl seen kept rd nw ud im twe tr tcl bys wo nu len it (if 2 < (rn (FGb bys) len at_) - at_ then 4 else 2) at_ ((rn (FGb bys) len at_)) (nvN bys at_ ((rn (FGb bys) len at_) - at_)) sp ss al od ab bl bd no fu rest)) 0 0) 5 [(0, .ref (zad (zb G) 13))] [] (xM G we r cl seen kept rd nw ud im twe tr tcl bys wo nu len it so at_ (at_ + k) (nvN bys at_ k) sp ss al od ab bl bd no fu rest)) ((rn (FGb bys) len at_) - at_) ?_ ?_ 
  · rw [show at_ + ((rn (FGb bys) len at_) - at_) = (rn (FGb bys) len at_) by omega]
    refine z_aload_n O dX2_takeNumber_5 rfl ?_
    refine z_get O dX2_takeNumber_6 flX2_25 (by rfl) (by rfl) ?_
    refine z_aload_n O dX2_takeNumber_9 rfl ?_
    refine z_get O dX2_takeNumber_10 flX2_51 (by rfl) (by rfl) ?_
    refine z_icmp_geN O 91 dX2_takeNumber_13 (by decide) (by omega) (by omega) (fun h13 => ?_) (fun h13 => ?_)
    · refine z_aload_n O dX2_takeNumber_91 rfl ?_
      refine z_aload_n O dX2_takeNumber_92 rfl ?_
      refine z_get O dX2_takeNumber_93 flX2_25 (by rfl) (by rfl) ?_
      refine z_aload_n O dX2_takeNumber_96 rfl ?_
      refine z_get O dX2_takeNumber_97 flX2_35 (by rfl) (by rfl) ?_
      refine z_isubN O dX2_takeNumber_100 (by omega) ?_
      by_cases h2x : 2 < (rn (FGb bys) len at_) - at_
      · refine z_iconst O (nI 2) dX2_takeNumber_101 (by decide) ?_
        refine z_icmp_leN O 109 dX2_takeNumber_102 (by decide) (by omega) (by omega) (fun h102 => by omega) (fun h102 => ?_)
        refine z_iconst O (nI 4) dX2_takeNumber_105 (by decide) ?_
        refine z_goto O 110 dX2_takeNumber_106 (by decide) ?_
        refine z_put O (by rfl) dX2_takeNumber_110 flX2_38 (by rfl) rfl rfl (by simp) ?_
        exact z_vret O dX2_takeNumber_113 ⟨rfl, by rw [if_pos h2x]; rfl⟩
      · refine z_iconst O (nI 2) dX2_takeNumber_101 (by decide) ?_
        refine z_icmp_leN O 109 dX2_takeNumber_102 (by decide) (by omega) (by omega) (fun h102 => ?_) (fun h102 => by omega)
        refine z_iconst O (nI 2) dX2_takeNumber_109 (by decide) ?_
        refine z_put O (by rfl) dX2_takeNumber_110 flX2_38 (by rfl) rfl rfl (by simp) ?_
        exact z_vret O dX2_takeNumber_113 ⟨rfl, by rw [if_neg h2x]; rfl⟩
    · refine z_aload_n O dX2_takeNumber_16 rfl ?_
      refine z_get O dX2_takeNumber_17 flX2_25 (by rfl) (by rfl) ?_
      refine z_sipush O (nI 150) dX2_takeNumber_20 (by decide) ?_
      refine z_icmp_geN O 91 dX2_takeNumber_23 (by decide) (by omega) (by omega) (fun h23 => by omega) (fun h23 => ?_)
      refine z_aload_n O dX2_takeNumber_26 rfl ?_
      refine z_get O dX2_takeNumber_27 flX2_9 (by rfl) (by rfl) ?_
      refine z_aload_n O dX2_takeNumber_30 rfl ?_
      refine z_get O dX2_takeNumber_31 flX2_25 (by rfl) (by rfl) ?_
      refine z_ialdN O dX2_takeNumber_34 (by rfl) (by omega) (by decide) ?_
      refine z_S1e0 O (u_isFigure (Nat.lt_of_le_of_lt (hby _) (by decide))) mX2_isFigure lkX2_61 dX2_takeNumber_35 (Nat.le_of_ble_eq_true rfl) (by decide) ?_
      refine z_if_eqB O 91 dX2_takeNumber_38 (by decide) (fun h38 => ?_) (fun h38 => by exact absurd ⟨by omega, decide_eq_true h38⟩ hen)
      refine z_aload_n O dX2_takeNumber_91 rfl ?_
      refine z_aload_n O dX2_takeNumber_92 rfl ?_
      refine z_get O dX2_takeNumber_93 flX2_25 (by rfl) (by rfl) ?_
      refine z_aload_n O dX2_takeNumber_96 rfl ?_
      refine z_get O dX2_takeNumber_97 flX2_35 (by rfl) (by rfl) ?_
      refine z_isubN O dX2_takeNumber_100 (by omega) ?_
      by_cases h2x : 2 < (rn (FGb bys) len at_) - at_
      · refine z_iconst O (nI 2) dX2_takeNumber_101 (by decide) ?_
        refine z_icmp_leN O 109 dX2_takeNumber_102 (by decide) (by omega) (by omega) (fun h102 => by omega) (fun h102 => ?_)
        refine z_iconst O (nI 4) dX2_takeNumber_105 (by decide) ?_
        refine z_goto O 110 dX2_takeNumber_106 (by decide) ?_
        refine z_put O (by rfl) dX2_takeNumber_110 flX2_38 (by rfl) rfl rfl (by simp) ?_
        exact z_vret O dX2_takeNumber_113 ⟨rfl, by rw [if_pos h2x]; rfl⟩
      · refine z_iconst O (nI 2) dX2_takeNumber_101 (by decide) ?_
        refine z_icmp_leN O 109 dX2_takeNumber_102 (by decide) (by omega) (by omega) (fun h102 => ?_) (fun h102 => by omega)
        refine z_iconst O (nI 2) dX2_takeNumber_109 (by decide) ?_
        refine z_put O (by rfl) dX2_takeNumber_110 flX2_38 (by rfl) rfl rfl (by simp) ?_
        exact z_vret O dX2_takeNumber_113 ⟨rfl, by rw [if_neg h2x]; rfl⟩
  · intro k hk ih 
    have hin := rn_in (p := FGb bys) (len := len) (q := at_) (i := at_ + k) (by omega) (by omega)
    have hlt : 48 ≤ bys (at_ + k) ∧ bys (at_ + k) ≤ 57 := of_decide_eq_true hin.2
    refine z_aload_n O dX2_takeNumber_5 rfl ?_
    refine z_get O dX2_takeNumber_6 flX2_25 (by rfl) (by rfl) ?_
    refine z_aload_n O dX2_takeNumber_9 rfl ?_
    refine z_get O dX2_takeNumber_10 flX2_51 (by rfl) (by rfl) ?_
    refine z_icmp_geN O 91 dX2_takeNumber_13 (by decide) (by omega) (by omega) (fun h13 => by omega) (fun h13 => ?_)
    refine z_aload_n O dX2_takeNumber_16 rfl ?_
    refine z_get O dX2_takeNumber_17 flX2_25 (by rfl) (by rfl) ?_
    refine z_sipush O (nI 150) dX2_takeNumber_20 (by decide) ?_
    refine z_icmp_geN O 91 dX2_takeNumber_23 (by decide) (by omega) (by omega) (fun h23 => by omega) (fun h23 => ?_)
    refine z_aload_n O dX2_takeNumber_26 rfl ?_
    refine z_get O dX2_takeNumber_27 flX2_9 (by rfl) (by rfl) ?_
    refine z_aload_n O dX2_takeNumber_30 rfl ?_
    refine z_get O dX2_takeNumber_31 flX2_25 (by rfl) (by rfl) ?_
    refine z_ialdN O dX2_takeNumber_34 (by rfl) (by omega) (by decide) ?_
    refine z_S1e0 O (u_isFigure (Nat.lt_of_le_of_lt (hby _) (by decide))) mX2_isFigure lkX2_61 dX2_takeNumber_35 (Nat.le_of_ble_eq_true rfl) (by decide) ?_
    refine z_if_eqB O 91 dX2_takeNumber_38 (by decide) (fun h38 => by exact absurd hlt h38) (fun h38 => ?_)
    refine z_aload_n O dX2_takeNumber_41 rfl ?_
    refine z_get O dX2_takeNumber_42 flX2_25 (by rfl) (by rfl) ?_
    refine z_aload_n O dX2_takeNumber_45 rfl ?_
    refine z_get O dX2_takeNumber_46 flX2_35 (by rfl) (by rfl) ?_
    refine z_isubN O dX2_takeNumber_49 (by omega) ?_
    by_cases hk2 : k < 2
    · refine z_iconst O (nI 2) dX2_takeNumber_50 (by decide) ?_
      refine z_icmp_geN O 78 dX2_takeNumber_51 (by decide) (by omega) (by omega) (fun h51 => by omega) (fun h51 => ?_)
      refine z_aload_n O dX2_takeNumber_54 rfl ?_
      refine z_bipush O (nI 10) dX2_takeNumber_55 (by decide) ?_
      refine z_aload_n O dX2_takeNumber_57 rfl ?_
      refine z_get O dX2_takeNumber_58 flX2_41 (by rfl) (by rfl) ?_
      refine z_imulN O dX2_takeNumber_61 ?_
      refine z_aload_n O dX2_takeNumber_62 rfl ?_
      refine z_get O dX2_takeNumber_63 flX2_9 (by rfl) (by rfl) ?_
      refine z_aload_n O dX2_takeNumber_66 rfl ?_
      refine z_get O dX2_takeNumber_67 flX2_25 (by rfl) (by rfl) ?_
      refine z_ialdN O dX2_takeNumber_70 (by rfl) (by omega) (by decide) ?_
      refine z_iaddN O dX2_takeNumber_71 ?_
      refine z_bipush O (nI 48) dX2_takeNumber_72 (by decide) ?_
      refine z_isubN O dX2_takeNumber_74 (by omega) ?_
      refine z_put O (by rfl) dX2_takeNumber_75 flX2_41 (by rfl) rfl rfl (by simp) ?_
      refine z_aload_n O dX2_takeNumber_78 rfl ?_
      refine z_dup O dX2_takeNumber_79 rfl ?_
      refine z_get O dX2_takeNumber_80 flX2_25 (by rfl) (by rfl) ?_
      refine z_iconst O (nI 1) dX2_takeNumber_83 (by decide) ?_
      refine z_iaddN O dX2_takeNumber_84 ?_
      refine z_put O (by rfl) dX2_takeNumber_85 flX2_25 (by rfl) rfl rfl (by simp) ?_
      refine z_M (show _ = (xM G we r cl seen kept rd nw ud im twe tr tcl bys wo nu len it so at_ (at_ + (k + 1)) (nvN bys at_ (k + 1)) sp ss al od ab bl bd no fu rest) by rw [show nvN bys at_ (k + 1) = 10 * nvN bys at_ k + bys (at_ + k) - 48 from if_pos hk2]; rfl) ?_
      refine z_goto O 5 dX2_takeNumber_88 (by decide) ?_
      exact ih
    · refine z_iconst O (nI 2) dX2_takeNumber_50 (by decide) ?_
      refine z_icmp_geN O 78 dX2_takeNumber_51 (by decide) (by omega) (by omega) (fun h51 => ?_) (fun h51 => by omega)
      refine z_aload_n O dX2_takeNumber_78 rfl ?_
      refine z_dup O dX2_takeNumber_79 rfl ?_
      refine z_get O dX2_takeNumber_80 flX2_25 (by rfl) (by rfl) ?_
      refine z_iconst O (nI 1) dX2_takeNumber_83 (by decide) ?_
      refine z_iaddN O dX2_takeNumber_84 ?_
      refine z_put O (by rfl) dX2_takeNumber_85 flX2_25 (by rfl) rfl rfl (by simp) ?_
      refine z_M (show _ = (xM G we r cl seen kept rd nw ud im twe tr tcl bys wo nu len it so at_ (at_ + (k + 1)) (nvN bys at_ (k + 1)) sp ss al od ab bl bd no fu rest) by rw [show nvN bys at_ (k + 1) = nvN bys at_ k from if_neg hk2]; rfl) ?_
      refine z_goto O 5 dX2_takeNumber_88 (by decide) ?_
      exact ih
set_option maxRecDepth 20000 in
set_option maxHeartbeats 4000000 in
theorem u_step (hl : len ≤ 150) (hby : ∀ j, bys j ≤ 127) (hbl : be ≤ len) : zS G 4 yX2_step cX2_step 1 none [.ref (zad (zb G) 13)] (xM G we r cl seen kept rd nw ud im twe tr tcl bys wo nu len it so at_ be va sp ss al od ab bl bd no fu rest) 0 0 (zU (xM G we r cl seen kept rd nw ud im twe tr tcl bys wo nu len it (tO bys len be) ((tS bys len be)) (tE bys len be) (tV bys len be va) sp ss al od ab bl bd no fu rest)) := by
  refine zS.of (by decide) (Nat.le_of_ble_eq_true rfl) (fun F O hR1 hR2 => ?_)
  have O : zOk G F yX2_step cX2_step 1 none RX2 4 (xM G we r cl seen kept rd nw ud im twe tr tcl bys wo nu len it so at_ be va sp ss al od ab bl bd no fu rest).length := O
  refine z_eq (lv' := [(0, _)]) rfl rfl rfl ?_
  have hge : be ≤ (tS bys len be) := rn_ge (SPb bys) len be
  have hle : (tS bys len be) ≤ len := rn_le hbl
  have hen : ¬ ((tS bys len be) < len ∧ SPb bys (tS bys len be) = true) := rn_end (SPb bys) len be
  have hE0 : ¬ (tS bys len be) < len → tE bys len be = (tS bys len be) := fun q => if_neg q
  have hO0 : ¬ (tS bys len be) < len → tO bys len be = 0 := fun q => if_neg q
  have hV0 : ¬ (tS bys len be) < len → tV bys len be va = va := fun q => if_neg q
  have hE1 : (tS bys len be) < len → LTb bys (tS bys len be) = true → tE bys len be = rn (LTb bys) len (tS bys len be) := fun q q1 => (if_pos q).trans (if_pos q1)
  have hO1 : (tS bys len be) < len → LTb bys (tS bys len be) = true → tO bys len be = if wdO bys len be = none then 4 else 1 := fun q q1 => (if_pos q).trans (if_pos q1)
  have hV1 : (tS bys len be) < len → LTb bys (tS bys len be) = true → tV bys len be va = (wdO bys len be).getD va := fun q q1 => (if_pos q).trans (if_pos q1)
  have hE2 : (tS bys len be) < len → ¬ LTb bys (tS bys len be) = true → FGb bys (tS bys len be) = true → tE bys len be = rn (FGb bys) len (tS bys len be) := fun q q1 q2 => (if_pos q).trans ((if_neg q1).trans (if_pos q2))
  have hO2 : (tS bys len be) < len → ¬ LTb bys (tS bys len be) = true → FGb bys (tS bys len be) = true → tO bys len be = if 2 < tE bys len be - (tS bys len be) then 4 else 2 := fun q q1 q2 => (if_pos q).trans ((if_neg q1).trans (if_pos q2))
  have hV2 : (tS bys len be) < len → ¬ LTb bys (tS bys len be) = true → FGb bys (tS bys len be) = true → tV bys len be va = nV bys len be := fun q q1 q2 => (if_pos q).trans ((if_neg q1).trans (if_pos q2))
  have hE3 : (tS bys len be) < len → ¬ LTb bys (tS bys len be) = true → ¬ FGb bys (tS bys len be) = true → tE bys len be = (tS bys len be) + 1 := fun q q1 q2 => (if_pos q).trans ((if_neg q1).trans (if_neg q2))
  have hO3 : (tS bys len be) < len → ¬ LTb bys (tS bys len be) = true → ¬ FGb bys (tS bys len be) = true → tO bys len be = if bys (tS bys len be) = 59 then 3 else 4 := fun q q1 q2 => (if_pos q).trans ((if_neg q1).trans (if_neg q2))
  have hV3 : (tS bys len be) < len → ¬ LTb bys (tS bys len be) = true → ¬ FGb bys (tS bys len be) = true → tV bys len be va = va := fun q q1 q2 => (if_pos q).trans ((if_neg q1).trans (if_neg q2))
  refine z_aload_n O dX2_step_0 rfl ?_
  refine z_aload_n O dX2_step_1 rfl ?_
  refine z_get O dX2_step_2 flX2_25 (by rfl) (by rfl) ?_
  refine z_put O (by rfl) dX2_step_5 flX2_35 (by rfl) rfl rfl (by simp) ?_
  refine z_M (show _ = (xM G we r cl seen kept rd nw ud im twe tr tcl bys wo nu len it so (be + 0) be va sp ss al od ab bl bd no fu rest) from rfl) ?_
  refine zdown (P := fun k => Z G F 0 0 (zEnd G F (zU (xM G we r cl seen kept rd nw ud im twe tr tcl bys wo nu len it (tO bys len be) ((tS bys len be)) (tE bys len be) (tV bys len be va) sp ss al od ab bl bd no fu rest)) 0 0) 8 [(0, .ref (zad (zb G) 13))] [] (xM G we r cl seen kept rd nw ud im twe tr tcl bys wo nu len it so (be + k) be va sp ss al od ab bl bd no fu rest)) ((tS bys len be) - be) ?_ ?_ 
  · rw [show be + ((tS bys len be) - be) = (tS bys len be) by omega]
    by_cases hsl : (tS bys len be) < len
    · refine z_aload_n O dX2_step_8 rfl ?_
      refine z_get O dX2_step_9 flX2_35 (by rfl) (by rfl) ?_
      refine z_aload_n O dX2_step_12 rfl ?_
      refine z_get O dX2_step_13 flX2_51 (by rfl) (by rfl) ?_
      refine z_icmp_geN O 56 dX2_step_16 (by decide) (by omega) (by omega) (fun h16 => by omega) (fun h16 => ?_)
      refine z_aload_n O dX2_step_19 rfl ?_
      refine z_get O dX2_step_20 flX2_35 (by rfl) (by rfl) ?_
      refine z_sipush O (nI 150) dX2_step_23 (by decide) ?_
      refine z_icmp_geN O 56 dX2_step_26 (by decide) (by omega) (by omega) (fun h26 => by omega) (fun h26 => ?_)
      refine z_aload_n O dX2_step_29 rfl ?_
      refine z_get O dX2_step_30 flX2_9 (by rfl) (by rfl) ?_
      refine z_aload_n O dX2_step_33 rfl ?_
      refine z_get O dX2_step_34 flX2_35 (by rfl) (by rfl) ?_
      refine z_ialdN O dX2_step_37 (by rfl) (by omega) (by decide) ?_
      refine z_bipush O (nI 32) dX2_step_38 (by decide) ?_
      refine z_icmp_neN O 56 dX2_step_40 (by decide) (by first | (have := hby (be + k); omega) | (have := hby (tS bys len be); omega)) (by first | (have := hby (be + k); omega) | (have := hby (tS bys len be); omega)) (fun h40 => ?_) (fun h40 => by exact absurd ⟨hsl, decide_eq_true h40⟩ hen)
      refine z_aload_n O dX2_step_56 rfl ?_
      refine z_aload_n O dX2_step_57 rfl ?_
      refine z_get O dX2_step_58 flX2_35 (by rfl) (by rfl) ?_
      refine z_put O (by rfl) dX2_step_61 flX2_25 (by rfl) rfl rfl (by simp) ?_
      refine z_aload_n O dX2_step_64 rfl ?_
      refine z_iconst O (nI 0) dX2_step_65 (by decide) ?_
      refine z_put O (by rfl) dX2_step_66 flX2_38 (by rfl) rfl rfl (by simp) ?_
      refine z_aload_n O dX2_step_69 rfl ?_
      refine z_get O dX2_step_70 flX2_35 (by rfl) (by rfl) ?_
      refine z_aload_n O dX2_step_73 rfl ?_
      refine z_get O dX2_step_74 flX2_51 (by rfl) (by rfl) ?_
      refine z_icmp_geN O 90 dX2_step_77 (by decide) (by omega) (by omega) (fun h77 => by omega) (fun h77 => ?_)
      refine z_aload_n O dX2_step_80 rfl ?_
      refine z_get O dX2_step_81 flX2_35 (by rfl) (by rfl) ?_
      refine z_sipush O (nI 150) dX2_step_84 (by decide) ?_
      refine z_icmp_ltN O 91 dX2_step_87 (by decide) (by omega) (by omega) (fun h87 => ?_) (fun h87 => by omega)
      by_cases hlt : LTb bys (tS bys len be) = true
      · refine z_aload_n O dX2_step_91 rfl ?_
        refine z_get O dX2_step_92 flX2_9 (by rfl) (by rfl) ?_
        refine z_aload_n O dX2_step_95 rfl ?_
        refine z_get O dX2_step_96 flX2_35 (by rfl) (by rfl) ?_
        refine z_ialdN O dX2_step_99 (by rfl) (by omega) (by decide) ?_
        refine z_S1e0 O (u_isLetter (by have := hby (tS bys len be); omega)) mX2_isLetter lkX2_54 dX2_step_100 (Nat.le_of_ble_eq_true rfl) (by decide) ?_
        refine z_if_eqB O 113 dX2_step_103 (by decide) (fun h103 => by exact absurd (of_decide_eq_true hlt) h103) (fun h103 => ?_)
        refine z_aload_n O dX2_step_106 rfl ?_
        refine z_V0u0 O (u_takeWord hl hby rfl (by omega)) mX2_takeWord lkX2_58 rfl (by rfl) dX2_step_107 (Nat.le_of_ble_eq_true rfl) (by decide) ?_
        refine z_goto O 168 dX2_step_110 (by decide) ?_
        exact z_vret O dX2_step_168 ⟨rfl, by rw [hE1 hsl hlt, hO1 hsl hlt, hV1 hsl hlt, wdO, hE1 hsl hlt]⟩
      · refine z_aload_n O dX2_step_91 rfl ?_
        refine z_get O dX2_step_92 flX2_9 (by rfl) (by rfl) ?_
        refine z_aload_n O dX2_step_95 rfl ?_
        refine z_get O dX2_step_96 flX2_35 (by rfl) (by rfl) ?_
        refine z_ialdN O dX2_step_99 (by rfl) (by omega) (by decide) ?_
        refine z_S1e0 O (u_isLetter (by have := hby (tS bys len be); omega)) mX2_isLetter lkX2_54 dX2_step_100 (Nat.le_of_ble_eq_true rfl) (by decide) ?_
        refine z_if_eqB O 113 dX2_step_103 (by decide) (fun h103 => ?_) (fun h103 => by exact absurd (decide_eq_true h103) hlt)
        by_cases hfg : FGb bys (tS bys len be) = true
        · refine z_aload_n O dX2_step_113 rfl ?_
          refine z_get O dX2_step_114 flX2_9 (by rfl) (by rfl) ?_
          refine z_aload_n O dX2_step_117 rfl ?_
          refine z_get O dX2_step_118 flX2_35 (by rfl) (by rfl) ?_
          refine z_ialdN O dX2_step_121 (by rfl) (by omega) (by decide) ?_
          refine z_S1e0 O (u_isFigure (by have := hby (tS bys len be); omega)) mX2_isFigure lkX2_61 dX2_step_122 (Nat.le_of_ble_eq_true rfl) (by decide) ?_
          refine z_if_eqB O 135 dX2_step_125 (by decide) (fun h125 => by exact absurd (of_decide_eq_true hfg) h125) (fun h125 => ?_)
          refine z_aload_n O dX2_step_128 rfl ?_
          refine z_V0u0 O (u_takeNumber hl hby rfl (by omega)) mX2_takeNumber lkX2_64 rfl (by rfl) dX2_step_129 (Nat.le_of_ble_eq_true rfl) (by decide) ?_
          refine z_goto O 168 dX2_step_132 (by decide) ?_
          exact z_vret O dX2_step_168 ⟨rfl, by rw [hE2 hsl hlt hfg, hO2 hsl hlt hfg, hV2 hsl hlt hfg, nV, hE2 hsl hlt hfg]⟩
        · refine z_aload_n O dX2_step_113 rfl ?_
          refine z_get O dX2_step_114 flX2_9 (by rfl) (by rfl) ?_
          refine z_aload_n O dX2_step_117 rfl ?_
          refine z_get O dX2_step_118 flX2_35 (by rfl) (by rfl) ?_
          refine z_ialdN O dX2_step_121 (by rfl) (by omega) (by decide) ?_
          refine z_S1e0 O (u_isFigure (by have := hby (tS bys len be); omega)) mX2_isFigure lkX2_61 dX2_step_122 (Nat.le_of_ble_eq_true rfl) (by decide) ?_
          refine z_if_eqB O 135 dX2_step_125 (by decide) (fun h125 => ?_) (fun h125 => by exact absurd (decide_eq_true h125) hfg)
          refine z_aload_n O dX2_step_135 rfl ?_
          refine z_aload_n O dX2_step_136 rfl ?_
          refine z_get O dX2_step_137 flX2_9 (by rfl) (by rfl) ?_
          refine z_aload_n O dX2_step_140 rfl ?_
          refine z_get O dX2_step_141 flX2_35 (by rfl) (by rfl) ?_
          refine z_ialdN O dX2_step_144 (by rfl) (by omega) (by decide) ?_
          by_cases h59 : bys (tS bys len be) = 59
          · refine z_bipush O (nI 59) dX2_step_145 (by decide) ?_
            refine z_icmp_neN O 154 dX2_step_147 (by decide) (by have := hby (tS bys len be); omega) (by have := hby (tS bys len be); omega) (fun h147 => by omega) (fun h147 => ?_)
            refine z_iconst O (nI 3) dX2_step_150 (by decide) ?_
            refine z_goto O 155 dX2_step_151 (by decide) ?_
            refine z_put O (by rfl) dX2_step_155 flX2_38 (by rfl) rfl rfl (by simp) ?_
            refine z_aload_n O dX2_step_158 rfl ?_
            refine z_aload_n O dX2_step_159 rfl ?_
            refine z_get O dX2_step_160 flX2_35 (by rfl) (by rfl) ?_
            refine z_iconst O (nI 1) dX2_step_163 (by decide) ?_
            refine z_iaddN O dX2_step_164 ?_
            refine z_put O (by rfl) dX2_step_165 flX2_25 (by rfl) rfl rfl (by simp) ?_
            exact z_vret O dX2_step_168 ⟨rfl, by rw [hE3 hsl hlt hfg, hO3 hsl hlt hfg, hV3 hsl hlt hfg, if_pos h59]; rfl⟩
          · refine z_bipush O (nI 59) dX2_step_145 (by decide) ?_
            refine z_icmp_neN O 154 dX2_step_147 (by decide) (by have := hby (tS bys len be); omega) (by have := hby (tS bys len be); omega) (fun h147 => ?_) (fun h147 => by omega)
            refine z_iconst O (nI 4) dX2_step_154 (by decide) ?_
            refine z_put O (by rfl) dX2_step_155 flX2_38 (by rfl) rfl rfl (by simp) ?_
            refine z_aload_n O dX2_step_158 rfl ?_
            refine z_aload_n O dX2_step_159 rfl ?_
            refine z_get O dX2_step_160 flX2_35 (by rfl) (by rfl) ?_
            refine z_iconst O (nI 1) dX2_step_163 (by decide) ?_
            refine z_iaddN O dX2_step_164 ?_
            refine z_put O (by rfl) dX2_step_165 flX2_25 (by rfl) rfl rfl (by simp) ?_
            exact z_vret O dX2_step_168 ⟨rfl, by rw [hE3 hsl hlt hfg, hO3 hsl hlt hfg, hV3 hsl hlt hfg, if_neg h59]; rfl⟩
    · refine z_aload_n O dX2_step_8 rfl ?_
      refine z_get O dX2_step_9 flX2_35 (by rfl) (by rfl) ?_
      refine z_aload_n O dX2_step_12 rfl ?_
      refine z_get O dX2_step_13 flX2_51 (by rfl) (by rfl) ?_
      refine z_icmp_geN O 56 dX2_step_16 (by decide) (by omega) (by omega) (fun h16 => ?_) (fun h16 => by omega)
      refine z_aload_n O dX2_step_56 rfl ?_
      refine z_aload_n O dX2_step_57 rfl ?_
      refine z_get O dX2_step_58 flX2_35 (by rfl) (by rfl) ?_
      refine z_put O (by rfl) dX2_step_61 flX2_25 (by rfl) rfl rfl (by simp) ?_
      refine z_aload_n O dX2_step_64 rfl ?_
      refine z_iconst O (nI 0) dX2_step_65 (by decide) ?_
      refine z_put O (by rfl) dX2_step_66 flX2_38 (by rfl) rfl rfl (by simp) ?_
      refine z_aload_n O dX2_step_69 rfl ?_
      refine z_get O dX2_step_70 flX2_35 (by rfl) (by rfl) ?_
      refine z_aload_n O dX2_step_73 rfl ?_
      refine z_get O dX2_step_74 flX2_51 (by rfl) (by rfl) ?_
      refine z_icmp_geN O 90 dX2_step_77 (by decide) (by omega) (by omega) (fun h77 => ?_) (fun h77 => by omega)
      exact z_vret O dX2_step_90 ⟨rfl, by rw [hE0 hsl, hO0 hsl, hV0 hsl]; rfl⟩
  · intro k hk ih 
    have hin := rn_in (p := SPb bys) (len := len) (q := be) (i := be + k) (by omega) (by unfold tS at hk; omega)
    have hsp : bys (be + k) = 32 := of_decide_eq_true hin.2
    refine z_aload_n O dX2_step_8 rfl ?_
    refine z_get O dX2_step_9 flX2_35 (by rfl) (by rfl) ?_
    refine z_aload_n O dX2_step_12 rfl ?_
    refine z_get O dX2_step_13 flX2_51 (by rfl) (by rfl) ?_
    refine z_icmp_geN O 56 dX2_step_16 (by decide) (by omega) (by omega) (fun h16 => by omega) (fun h16 => ?_)
    refine z_aload_n O dX2_step_19 rfl ?_
    refine z_get O dX2_step_20 flX2_35 (by rfl) (by rfl) ?_
    refine z_sipush O (nI 150) dX2_step_23 (by decide) ?_
    refine z_icmp_geN O 56 dX2_step_26 (by decide) (by omega) (by omega) (fun h26 => by omega) (fun h26 => ?_)
    refine z_aload_n O dX2_step_29 rfl ?_
    refine z_get O dX2_step_30 flX2_9 (by rfl) (by rfl) ?_
    refine z_aload_n O dX2_step_33 rfl ?_
    refine z_get O dX2_step_34 flX2_35 (by rfl) (by rfl) ?_
    refine z_ialdN O dX2_step_37 (by rfl) (by omega) (by decide) ?_
    refine z_bipush O (nI 32) dX2_step_38 (by decide) ?_
    refine z_icmp_neN O 56 dX2_step_40 (by decide) (by first | (have := hby (be + k); omega) | (have := hby (tS bys len be); omega)) (by first | (have := hby (be + k); omega) | (have := hby (tS bys len be); omega)) (fun h40 => by omega) (fun h40 => ?_)
    refine z_aload_n O dX2_step_43 rfl ?_
    refine z_dup O dX2_step_44 rfl ?_
    refine z_get O dX2_step_45 flX2_35 (by rfl) (by rfl) ?_
    refine z_iconst O (nI 1) dX2_step_48 (by decide) ?_
    refine z_iaddN O dX2_step_49 ?_
    refine z_put O (by rfl) dX2_step_50 flX2_35 (by rfl) rfl rfl (by simp) ?_
    refine z_M (show _ = (xM G we r cl seen kept rd nw ud im twe tr tcl bys wo nu len it so (be + (k + 1)) be va sp ss al od ab bl bd no fu rest) from rfl) ?_
    refine z_goto O 8 dX2_step_53 (by decide) ?_
    exact ih
end XS
