/-! ===== DarnedSock: years, claims, spans ===== -/
theorem fld_upd {r : Nat → Nat} {k v c p f : Nat} (h : (c * 3 + p) * 4 + f ≠ k) : fld (updN r k v) c p f = fld r c p f := updN_n h
theorem rowZ_take {r : Nat → Nat} (h : rowZ r) {c : Nat} (hc : c < 9) : rowZ (takeN r c) := fun j hj => by
  unfold takeN; rw [updN_n (by omega)]; exact h j hj
theorem rowZ_put {r : Nat → Nat} (h : rowZ r) {c kd fm th : Nat} (hc : c < 9) (h3 : r (108 + c) < 3) : rowZ (putN r c kd fm th) := fun j hj => by
  unfold putN
  rw [updN_n (by omega), updN_n (by omega), updN_n (by omega), updN_n (by omega), updN_n (by omega)]
  exact h j hj
theorem rowZ_wearTop {r we : Nat → Nat} (h : rowZ r) (hr : rowOK r) {c : Nat} (hc : c < 9) : rowZ (wearTopN r we c) := by
  unfold wearTopN
  split
  · exact rowZ_take h hc
  · intro j hj
    have h3 := hr.2 c hc
    rw [updN_n (by omega)]
    exact h j hj
theorem rowZ_passC {r we : Nat → Nat} (h : rowZ r) (hr : rowOK r) : ∀ c, c ≤ 9 → rowZ (passC r we c)
  | 0, _ => h
  | c + 1, hc => by
    unfold passC
    split
    · exact rowZ_passC h hr c (by omega)
    · exact rowZ_wearTop (rowZ_passC h hr c (by omega)) (rowOK_passC hr c (by omega)) (by omega)
theorem rowZ_pass {r we : Nat → Nat} (h : rowZ r) (hr : rowOK r) : rowZ (passN r we) := fun j hj => by
  unfold passN
  rw [updN_n (by omega)]
  exact rowZ_passC h hr 9 (by omega) j hj
theorem since_take {r : Nat → Nat} (h : sinceOK r) (hr : rowOK r) {c : Nat} (hc : c < 9) : sinceOK (takeN r c) := fun b p hb hp => by
  have h3 := hr.2 b hb
  unfold takeN at hp ⊢
  have hp2 : p < r (108 + b) := by
    by_cases e : 108 + b = 108 + c
    · rw [e, updN_s] at hp; rw [e]; omega
    · rw [updN_n e] at hp; exact hp
  rw [fld_upd (by omega), updN_n (by omega)]
  exact h b p hb hp2
theorem since_wearTop {r we : Nat → Nat} (h : sinceOK r) (hr : rowOK r) {c : Nat} (hc : c < 9) : sinceOK (wearTopN r we c) := by
  unfold wearTopN
  split
  · exact since_take h hr hc
  · intro b p hb hp
    have h3 := hr.2 b hb
    have h4 := hr.2 c hc
    rw [updN_n (by omega)] at hp
    rw [fld_upd (by omega), updN_n (by omega)]
    exact h b p hb hp
theorem since_passC {r we : Nat → Nat} (h : sinceOK r) (hr : rowOK r) : ∀ c, c ≤ 9 → sinceOK (passC r we c)
  | 0, _ => h
  | c + 1, hc => by
    unfold passC
    split
    · exact since_passC h hr c (by omega)
    · exact since_wearTop (since_passC h hr c (by omega)) (rowOK_passC hr c (by omega)) (by omega)
theorem since_pass {r we : Nat → Nat} (h : sinceOK r) (hr : rowOK r) : sinceOK (passN r we) := fun b p hb hp => by
  have h9 := since_passC (we := we) h hr 9 (by omega)
  have hr9 := rowOK_passC (we := we) hr 9 (by omega)
  unfold passN at hp ⊢
  rw [updN_n (by omega)] at hp
  have h3 := hr9.2 b hb
  rw [fld_upd (by omega), updN_s]
  exact Nat.le_trans (h9 b p hb hp) (Nat.le_succ _)
def ps (we r : Nat → Nat) : Nat → Nat → Nat
  | 0 => r
  | i + 1 => passN (ps we r i) we
theorem ps_ok {we r : Nat → Nat} (hr : rowOK r) (hz : rowZ r) (hs : sinceOK r) {n : Nat} (hn : r 117 + n < 1048576) : ∀ i, i ≤ n → rowOK (ps we r i) ∧ rowZ (ps we r i) ∧ sinceOK (ps we r i) ∧ ps we r i 117 = r 117 + i
  | 0, _ => ⟨hr, hz, hs, rfl⟩
  | i + 1, hi => by
    obtain ⟨h1, h2, h3, h4⟩ := ps_ok (we := we) hr hz hs hn i (by omega)
    refine ⟨rowOK_pass h1 (by omega), rowZ_pass h2 h1, since_pass h3 h1, ?_⟩
    show passN (ps we r i) we 117 = _
    unfold passN
    rw [updN_s, passC_year h1 9 (by omega), h4]
    omega
theorem cpy_row {r t : Nat → Nat} (h : rowZ r) (ht : rowZ t) : cpyN r t 0 0 118 = r := by
  funext j
  unfold cpyN
  by_cases hj : j < 118
  · rw [if_pos ⟨Nat.zero_le _, by omega⟩]; simp
  · rw [if_neg (by omega), ht j (by omega), h j (by omega)]
theorem cpy_we {r t : Nat → Nat} (h : weZ r) (ht : weZ t) : cpyN r t 0 0 9 = r := by
  funext j
  unfold cpyN
  by_cases hj : j < 9
  · rw [if_pos ⟨Nat.zero_le _, by omega⟩]; simp
  · rw [if_neg (by omega), ht j (by omega), h j (by omega)]
/-- years of the sock itself, each of which is kept: row, kept rows, newest, how many -/
def yk (we : Nat → Nat) (s : (Nat → Nat) × (Nat → Nat) × Nat × Nat) : Nat → (Nat → Nat) × (Nat → Nat) × Nat × Nat
  | 0 => s
  | i + 1 => (passN (yk we s i).1 we, keptN (yk we s i).1 (yk we s i).2.1 (yk we s i).2.2.1, ((yk we s i).2.2.1 + 1) % 8, min ((yk we s i).2.2.2 + 1) 8)
theorem yk_row (we : Nat → Nat) (s : (Nat → Nat) × (Nat → Nat) × Nat × Nat) : ∀ i, (yk we s i).1 = ps we s.1 i
  | 0 => rfl
  | i + 1 => by show passN (yk we s i).1 we = passN (ps we s.1 i) we; rw [yk_row we s i]
theorem yk_nu (we : Nat → Nat) (s : (Nat → Nat) × (Nat → Nat) × Nat × Nat) (h1 : s.2.2.1 < 8) (h2 : s.2.2.2 ≤ 8) : ∀ i, (yk we s i).2.2.1 < 8 ∧ (yk we s i).2.2.2 ≤ 8
  | 0 => ⟨h1, h2⟩
  | i + 1 => ⟨Nat.mod_lt _ (by decide), Nat.min_le_right _ _⟩
def firstN (p : Nat → Bool) : Nat → Nat → Option Nat
  | 0, _ => none
  | n + 1, m => if p m = true then some m else firstN p n (m + 1)
def twB (we r : Nat → Nat) (law m : Nat) : Bool := decide ((ownS (clm (ps we r m) law) 3).1 = none ∧ 0 < clAll (ps we r m) law)
def spanV (r we : Nat → Nat) (c : Nat) : Nat := spanG r we c 41 0 (r (108 + c)) 0 0
def spC (r we sp : Nat → Nat) : Nat → Nat → Nat
  | 0 => sp
  | c + 1 => updN (spC r we sp c) c (spanV r we c)
theorem spC_at {r we sp : Nat → Nat} : ∀ n c, c < n → spC r we sp n c = spanV r we c
  | 0, c, h => absurd h (Nat.not_lt_zero c)
  | n + 1, c, h => by
    unfold spC
    by_cases e : c = n
    · rw [e, updN_s]
    · rw [updN_n e]; exact spC_at n c (by omega)
def lsN (v : Nat → Nat) (a b : Option Nat) : Nat → Nat
  | 0 => 41
  | c + 1 => if some c = a ∨ some c = b then lsN v a b c else min (lsN v a b c) (v c)
theorem lsN_le (v : Nat → Nat) (a b : Option Nat) : ∀ n, lsN v a b n ≤ 41
  | 0 => Nat.le_refl _
  | n + 1 => by
    have := lsN_le v a b n
    unfold lsN
    split <;> omega
theorem spanV_le (r we : Nat → Nat) (c : Nat) : spanV r we c ≤ 41 := spanG_le 41 0 _ _ _ rfl
section XS
variable {G : zG} {we r cl seen kept : Nat → Nat} {rd nw ud : Nat} {im : Nat → Option Nat} {twe tr tcl bys wo nu : Nat → Nat} {len it so at_ be va : Nat} {sp ss al od : Nat → Nat} {ab bl : Int64} {bd no fu : Nat} {rest : List va_E}
def ofN (r we : Nat → Nat) (c p f : Nat) : Int32 := if r (108 + c) ≤ p then -1 else if f = 4 then nI (cntC r c (p + 1)) else if f = 5 then nI (lossN (fld r c p 0) (we c) (r 117)) else nI (fld r c p f)
set_option maxRecDepth 20000 in
set_option maxHeartbeats 4000000 in
theorem x_years (hr : rowOK r) (hw : weOK we) (hz : rowZ r) (hs : sinceOK r) (hwz : weZ we) (hy : r 117 + 100 < 1048576) (htw : weZ twe) (htr : rowT tr) (hnw : nw < 8) (hud : ud ≤ 8) {n : Nat} (h1 : 1 ≤ n) (h2 : n ≤ 20) : zS G 6 yX3_years cX3_years 3 (some .int) [.ref (zad (zb G) 0), .int (nI n)] (xM G we r cl seen kept rd nw ud im twe tr tcl bys wo nu len it so at_ be va sp ss al od ab bl bd no fu rest) 0 0 (zE (.int (nI (popN (bitsN (holesB (ps we r n)) 9)))) (xM G we ((yk we (r, kept, nw, ud) n).1 ) cl seen ((yk we (r, kept, nw, ud) n).2.1 ) rd ((yk we (r, kept, nw, ud) n).2.2.1 ) ((yk we (r, kept, nw, ud) n).2.2.2 ) im twe tr tcl bys wo nu len it so at_ be va sp ss al od ab bl bd no fu rest)) := by
  refine zS.of (by decide) (Nat.le_of_ble_eq_true rfl) (fun F O hR1 hR2 => ?_)
  have O : zOk G F yX3_years cX3_years 3 (some .int) RX3 6 (xM G we r cl seen kept rd nw ud im twe tr tcl bys wo nu len it so at_ be va sp ss al od ab bl bd no fu rest).length := O
  refine z_eq (lv' := [(0, _), (1, _)]) rfl rfl rfl ?_
  refine z_iload_n O dX3_years_0 rfl ?_
  refine z_iconst O (nI 1) dX3_years_1 (by decide) ?_
  refine z_bipush O (nI 20) dX3_years_2 (by decide) ?_
  refine z_S3e0 O (s_betweenN (by omega) (by omega) (by omega)) mX3_between lkX3_96 dX3_years_4 (Nat.le_of_ble_eq_true rfl) (by decide) ?_
  refine z_if_neB O 17 dX3_years_7 (by decide) (fun h7 => ?_) (fun h7 => by omega)
  refine z_iconst O (nI 0) dX3_years_17 (by decide) ?_
  refine z_istore_n (lv' := [(0, _), (1, _), (2, _)]) O dX3_years_18 (by decide) rfl ?_
  refine zdown (P := fun i => Z G F 0 0 (zEnd G F (zE (.int (nI (popN (bitsN (holesB (ps we r n)) 9)))) (xM G we ((yk we (r, kept, nw, ud) n).1 ) cl seen ((yk we (r, kept, nw, ud) n).2.1 ) rd ((yk we (r, kept, nw, ud) n).2.2.1 ) ((yk we (r, kept, nw, ud) n).2.2.2 ) im twe tr tcl bys wo nu len it so at_ be va sp ss al od ab bl bd no fu rest)) 0 0) 19 [(0, .ref (zad (zb G) 0)), (1, .int (nI n)), (2, .int (nI i))] [] (xM G we ((yk we (r, kept, nw, ud) i).1 ) cl seen ((yk we (r, kept, nw, ud) i).2.1 ) rd ((yk we (r, kept, nw, ud) i).2.2.1 ) ((yk we (r, kept, nw, ud) i).2.2.2 ) im twe tr tcl bys wo nu len it so at_ be va sp ss al od ab bl bd no fu rest)) (n) ?_ ?_ 
  · refine z_iload_n O dX3_years_19 rfl ?_
    refine z_iload_n O dX3_years_20 rfl ?_
    refine z_icmp_geN O 47 dX3_years_21 (by decide) (by omega) (by omega) (fun h21 => ?_) (fun h21 => by omega)
    refine z_aload_n O dX3_years_47 rfl ?_
    refine z_get O dX3_years_48 flX3_12 (by rfl) (by rfl) ?_
    refine z_get O dX3_years_51 flX3_62 (by rfl) (by rfl) ?_
    refine z_V0e0 O (s_holeBits xN (by rw [yk_row]; exact (ps_ok hr hz hs hy n (by omega)).1)) mX0_holeBits lkX3_103 rfl (by rfl) dX3_years_54 (Nat.le_of_ble_eq_true rfl) (by decide) ?_
    refine z_S1e0 O (s_bitCount (bitsN_lt _ 9)) mJ6_bitCount_0f7a4 lkX3_106 dX3_years_57 (Nat.le_of_ble_eq_true rfl) (by decide) ?_
    exact z_iret O dX3_years_60 ⟨by rw [yk_row], rfl⟩
  · intro i hi ih 
    refine z_iload_n O dX3_years_19 rfl ?_
    refine z_iload_n O dX3_years_20 rfl ?_
    refine z_icmp_geN O 47 dX3_years_21 (by decide) (by omega) (by omega) (fun h21 => by omega) (fun h21 => ?_)
    refine z_aload_n O dX3_years_24 rfl ?_
    refine z_get O dX3_years_25 flX3_12 (by rfl) (by rfl) ?_
    refine z_V0u0 O (t_keep xI (yk_nu we (r, kept, nw, ud) hnw hud i).1 (yk_nu we (r, kept, nw, ud) hnw hud i).2) mX1_keep lkX3_83 rfl (by rfl) dX3_years_28 (Nat.le_of_ble_eq_true rfl) (by decide) ?_
    refine z_M (show _ = (xM G we ((yk we (r, kept, nw, ud) i).1 ) cl seen (keptN (yk we (r, kept, nw, ud) i).1 (yk we (r, kept, nw, ud) i).2.1 (yk we (r, kept, nw, ud) i).2.2.1) rd (((yk we (r, kept, nw, ud) i).2.2.1 + 1) % 8) (min ((yk we (r, kept, nw, ud) i).2.2.2 + 1) 8) im twe tr tcl bys wo nu len it so at_ be va sp ss al od ab bl bd no fu rest) from rfl) ?_
    refine z_aload_n O dX3_years_31 rfl ?_
    refine z_get O dX3_years_32 flX3_12 (by rfl) (by rfl) ?_
    refine z_get O dX3_years_35 flX3_62 (by rfl) (by rfl) ?_
    refine z_V0u0 O (s_pass xN (by rw [yk_row]; exact (ps_ok hr hz hs hy i (by omega)).1) hw) mX0_pass lkX3_100 rfl (by rfl) dX3_years_38 (Nat.le_of_ble_eq_true rfl) (by decide) ?_
    refine z_M (show _ = (xM G we ((yk we (r, kept, nw, ud) (i + 1)).1 ) cl seen ((yk we (r, kept, nw, ud) (i + 1)).2.1 ) rd ((yk we (r, kept, nw, ud) (i + 1)).2.2.1 ) ((yk we (r, kept, nw, ud) (i + 1)).2.2.2 ) im twe tr tcl bys wo nu len it so at_ be va sp ss al od ab bl bd no fu rest) from rfl) ?_
    refine z_iincN (lv' := [(0, _), (1, _), (2, _)]) O 1 dX3_years_41 (by decide) rfl rfl (by decide) ?_
    refine z_goto O 19 dX3_years_44 (by decide) ?_
    exact ih
set_option maxRecDepth 20000 in
set_option maxHeartbeats 4000000 in
theorem x_ofB {c p f : Int32} (hb : ¬ ((0 ≤ c ∧ c < nI 9) ∧ (0 ≤ p ∧ p < nI 3) ∧ (nI 0 ≤ f ∧ f ≤ nI 5))) : zS G 2 yX3_of cX3_of 4 (some .int) [.ref (zad (zb G) 0), .int c, .int p, .int f] (xM G we r cl seen kept rd nw ud im twe tr tcl bys wo nu len it so at_ be va sp ss al od ab bl bd no fu rest) 0 0 (zE (.int (-2)) (xM G we r cl seen kept rd nw ud im twe tr tcl bys wo nu len it so at_ be va sp ss al od ab bl (bd + 1) no fu rest)) := by
  refine zS.of (by decide) (Nat.le_of_ble_eq_true rfl) (fun F O hR1 hR2 => ?_)
  have O : zOk G F yX3_of cX3_of 4 (some .int) RX3 2 (xM G we r cl seen kept rd nw ud im twe tr tcl bys wo nu len it so at_ be va sp ss al od ab bl bd no fu rest).length := O
  refine z_eq (lv' := [(0, _), (1, _), (2, _), (3, _)]) rfl rfl rfl ?_
  refine z_iload_n O dX3_of_0 rfl ?_
  refine z_bipush O (nI 9) dX3_of_1 (by decide) ?_
  refine z_S2e0 O s_within mX3_within lkX3_54 dX3_of_3 (Nat.le_of_ble_eq_true rfl) (by decide) ?_
  refine z_if_eqB O 26 dX3_of_6 (by decide) (fun h6 => ?_) (fun h6 => ?_)
  · refine z_aload_n O dX3_of_26 rfl ?_
    refine z_bipush O (-2) dX3_of_27 (by decide) ?_
    refine z_V1e0 O x_refuseB mX3_refuse lkX3_58 rfl (by rfl) dX3_of_29 (Nat.le_of_ble_eq_true rfl) (by decide) ?_
    exact z_iret O dX3_of_32 ⟨rfl, rfl⟩
  · refine z_iload_n O dX3_of_9 rfl ?_
    refine z_iconst O (nI 3) dX3_of_10 (by decide) ?_
    refine z_S2e0 O s_within mX3_within lkX3_54 dX3_of_11 (Nat.le_of_ble_eq_true rfl) (by decide) ?_
    refine z_if_eqB O 26 dX3_of_14 (by decide) (fun h14 => ?_) (fun h14 => ?_)
    · refine z_aload_n O dX3_of_26 rfl ?_
      refine z_bipush O (-2) dX3_of_27 (by decide) ?_
      refine z_V1e0 O x_refuseB mX3_refuse lkX3_58 rfl (by rfl) dX3_of_29 (Nat.le_of_ble_eq_true rfl) (by decide) ?_
      exact z_iret O dX3_of_32 ⟨rfl, rfl⟩
    · refine z_iload_n O dX3_of_17 rfl ?_
      refine z_iconst O (nI 0) dX3_of_18 (by decide) ?_
      refine z_iconst O (nI 5) dX3_of_19 (by decide) ?_
      refine z_S3e0 O s_between mX3_between lkX3_96 dX3_of_20 (Nat.le_of_ble_eq_true rfl) (by decide) ?_
      refine z_if_neB O 33 dX3_of_23 (by decide) (fun h23 => ?_) (fun h23 => ?_)
      · exact absurd ⟨h6, h14, h23⟩ hb --stop
      · refine z_aload_n O dX3_of_26 rfl ?_
        refine z_bipush O (-2) dX3_of_27 (by decide) ?_
        refine z_V1e0 O x_refuseB mX3_refuse lkX3_58 rfl (by rfl) dX3_of_29 (Nat.le_of_ble_eq_true rfl) (by decide) ?_
        exact z_iret O dX3_of_32 ⟨rfl, rfl⟩
set_option maxRecDepth 20000 in
set_option maxHeartbeats 4000000 in
theorem x_of (hr : rowOK r) (hw : weOK we) (hz : rowZ r) (hs : sinceOK r) (hwz : weZ we) (hy : r 117 + 100 < 1048576) (htw : weZ twe) (htr : rowT tr) {c p f : Nat} (hc : c < 9) (hp : p < 3) (hf : f ≤ 5) : zS G 4 yX3_of cX3_of 4 (some .int) [.ref (zad (zb G) 0), .int (nI c), .int (nI p), .int (nI f)] (xM G we r cl seen kept rd nw ud im twe tr tcl bys wo nu len it so at_ be va sp ss al od ab bl bd no fu rest) 0 0 (zE (.int (ofN r we c p f)) (xM G we r cl seen kept rd nw ud im twe tr tcl bys wo nu len it so at_ be va sp ss al od ab bl bd no fu rest)) := by
  refine zS.of (by decide) (Nat.le_of_ble_eq_true rfl) (fun F O hR1 hR2 => ?_)
  have O : zOk G F yX3_of cX3_of 4 (some .int) RX3 4 (xM G we r cl seen kept rd nw ud im twe tr tcl bys wo nu len it so at_ be va sp ss al od ab bl bd no fu rest).length := O
  refine z_eq (lv' := [(0, _), (1, _), (2, _), (3, _)]) rfl rfl rfl ?_
  refine z_iload_n O dX3_of_0 rfl ?_
  refine z_bipush O (nI 9) dX3_of_1 (by decide) ?_
  refine z_S2e0 O (s_withinN (by omega) (by omega)) mX3_within lkX3_54 dX3_of_3 (Nat.le_of_ble_eq_true rfl) (by decide) ?_
  refine z_if_eqB O 26 dX3_of_6 (by decide) (fun h6 => by omega) (fun h6 => ?_)
  refine z_iload_n O dX3_of_9 rfl ?_
  refine z_iconst O (nI 3) dX3_of_10 (by decide) ?_
  refine z_S2e0 O (s_withinN (by omega) (by omega)) mX3_within lkX3_54 dX3_of_11 (Nat.le_of_ble_eq_true rfl) (by decide) ?_
  refine z_if_eqB O 26 dX3_of_14 (by decide) (fun h14 => by omega) (fun h14 => ?_)
  refine z_iload_n O dX3_of_17 rfl ?_
  refine z_iconst O (nI 0) dX3_of_18 (by decide) ?_
  refine z_iconst O (nI 5) dX3_of_19 (by decide) ?_
  refine z_S3e0 O (s_betweenN (by omega) (by omega) (by omega)) mX3_between lkX3_96 dX3_of_20 (Nat.le_of_ble_eq_true rfl) (by decide) ?_
  refine z_if_neB O 33 dX3_of_23 (by decide) (fun h23 => ?_) (fun h23 => by omega)
  refine z_iload_n O dX3_of_33 rfl ?_
  refine z_aload_n O dX3_of_34 rfl ?_
  refine z_get O dX3_of_35 flX3_12 (by rfl) (by rfl) ?_
  refine z_get O dX3_of_38 flX3_62 (by rfl) (by rfl) ?_
  refine z_iload_n O dX3_of_41 rfl ?_
  refine z_V1e0 O (s_many xN hc) mX0_many lkX3_138 rfl (by rfl) dX3_of_42 (Nat.le_of_ble_eq_true rfl) (by decide) ?_
  refine z_icmp_ltN O 50 dX3_of_45 (by decide) (by have := hr.2 c hc; omega) (by have := hr.2 c hc; omega) (fun h45 => ?_) (fun h45 => ?_)
  · refine z_iload_n O dX3_of_50 rfl ?_
    refine z_iconst O (nI 4) dX3_of_51 (by decide) ?_
    refine z_icmp_neN O 68 dX3_of_52 (by decide) (by omega) (by omega) (fun h52 => ?_) (fun h52 => ?_)
    · refine z_iload_n O dX3_of_68 rfl ?_
      refine z_iconst O (nI 5) dX3_of_69 (by decide) ?_
      refine z_icmp_neN O 112 dX3_of_70 (by decide) (by omega) (by omega) (fun h70 => ?_) (fun h70 => ?_)
      · refine z_aload_n O dX3_of_112 rfl ?_
        refine z_get O dX3_of_113 flX3_12 (by rfl) (by rfl) ?_
        refine z_get O dX3_of_116 flX3_62 (by rfl) (by rfl) ?_
        refine z_iload_n O dX3_of_119 rfl ?_
        refine z_iload_n O dX3_of_120 rfl ?_
        refine z_iload_n O dX3_of_121 rfl ?_
        refine z_V3e0 O (s_get xN hc hp (by omega)) mX0_get lkX3_145 rfl (by rfl) dX3_of_122 (Nat.le_of_ble_eq_true rfl) (by decide) ?_
        exact z_iret O dX3_of_125 ⟨by rw [ofN, if_neg (by omega), if_neg (by omega), if_neg (by omega)], rfl⟩
      · refine z_aload_n O dX3_of_73 rfl ?_
        refine z_get O dX3_of_74 flX3_12 (by rfl) (by rfl) ?_
        refine z_get O dX3_of_77 flX3_62 (by rfl) (by rfl) ?_
        refine z_iload_n O dX3_of_80 rfl ?_
        refine z_iload_n O dX3_of_81 rfl ?_
        refine z_iconst O (nI 0) dX3_of_82 (by decide) ?_
        refine z_V3e0 O (s_get xN hc hp (by omega)) mX0_get lkX3_145 rfl (by rfl) dX3_of_83 (Nat.le_of_ble_eq_true rfl) (by decide) ?_
        refine z_aload_n O dX3_of_86 rfl ?_
        refine z_get O dX3_of_87 flX3_12 (by rfl) (by rfl) ?_
        refine z_get O dX3_of_90 flX3_62 (by rfl) (by rfl) ?_
        refine z_get O dX3_of_93 flX3_76 (by rfl) (by rfl) ?_
        refine z_iload_n O dX3_of_96 rfl ?_
        refine z_ialdN O dX3_of_97 (by rfl) (by omega) (by decide) ?_
        refine z_aload_n O dX3_of_98 rfl ?_
        refine z_get O dX3_of_99 flX3_12 (by rfl) (by rfl) ?_
        refine z_get O dX3_of_102 flX3_62 (by rfl) (by rfl) ?_
        refine z_V0e0 O (s_year xN) mX0_year lkX3_149 rfl (by rfl) dX3_of_105 (Nat.le_of_ble_eq_true rfl) (by decide) ?_
        refine z_S3e0 O (s_loss (by have hb : fld r c p 0 < 1048576 := hr.1 _; omega) (by have := hw c; omega) (by omega)) mX3_loss lkX3_152 dX3_of_108 (Nat.le_of_ble_eq_true rfl) (by decide) ?_
        exact z_iret O dX3_of_111 ⟨by rw [ofN, if_neg (by omega), if_neg (by omega), if_pos (by omega)], rfl⟩
    · refine z_aload_n O dX3_of_55 rfl ?_
      refine z_get O dX3_of_56 flX3_12 (by rfl) (by rfl) ?_
      refine z_get O dX3_of_59 flX3_62 (by rfl) (by rfl) ?_
      refine z_iload_n O dX3_of_62 rfl ?_
      refine z_iload_n O dX3_of_63 rfl ?_
      refine z_V2e0 O (s_counts xN hr hc hp) mX0_counts lkX3_141 rfl (by rfl) dX3_of_64 (Nat.le_of_ble_eq_true rfl) (by decide) ?_
      exact z_iret O dX3_of_67 ⟨by rw [ofN, if_neg (by omega), if_pos (by omega)], rfl⟩
  · refine z_iconst O (-1) dX3_of_48 (by decide) ?_
    exact z_iret O dX3_of_49 ⟨by rw [ofN, if_pos (by omega)], rfl⟩
set_option maxRecDepth 20000 in
set_option maxHeartbeats 4000000 in
theorem x_cellB {c f : Int32} (hb : ¬ ((0 ≤ c ∧ c < nI 9) ∧ (nI 0 ≤ f ∧ f ≤ nI 1))) : zS G 2 yX3_cell cX3_cell 3 (some .int) [.ref (zad (zb G) 0), .int c, .int f] (xM G we r cl seen kept rd nw ud im twe tr tcl bys wo nu len it so at_ be va sp ss al od ab bl bd no fu rest) 0 0 (zE (.int (-2)) (xM G we r cl seen kept rd nw ud im twe tr tcl bys wo nu len it so at_ be va sp ss al od ab bl (bd + 1) no fu rest)) := by
  refine zS.of (by decide) (Nat.le_of_ble_eq_true rfl) (fun F O hR1 hR2 => ?_)
  have O : zOk G F yX3_cell cX3_cell 3 (some .int) RX3 2 (xM G we r cl seen kept rd nw ud im twe tr tcl bys wo nu len it so at_ be va sp ss al od ab bl bd no fu rest).length := O
  refine z_eq (lv' := [(0, _), (1, _), (2, _)]) rfl rfl rfl ?_
  refine z_iload_n O dX3_cell_0 rfl ?_
  refine z_bipush O (nI 9) dX3_cell_1 (by decide) ?_
  refine z_S2e0 O s_within mX3_within lkX3_54 dX3_cell_3 (Nat.le_of_ble_eq_true rfl) (by decide) ?_
  refine z_if_eqB O 18 dX3_cell_6 (by decide) (fun h6 => ?_) (fun h6 => ?_)
  · refine z_aload_n O dX3_cell_18 rfl ?_
    refine z_bipush O (-2) dX3_cell_19 (by decide) ?_
    refine z_V1e0 O x_refuseB mX3_refuse lkX3_58 rfl (by rfl) dX3_cell_21 (Nat.le_of_ble_eq_true rfl) (by decide) ?_
    exact z_iret O dX3_cell_24 ⟨rfl, rfl⟩
  · refine z_iload_n O dX3_cell_9 rfl ?_
    refine z_iconst O (nI 0) dX3_cell_10 (by decide) ?_
    refine z_iconst O (nI 1) dX3_cell_11 (by decide) ?_
    refine z_S3e0 O s_between mX3_between lkX3_96 dX3_cell_12 (Nat.le_of_ble_eq_true rfl) (by decide) ?_
    refine z_if_neB O 25 dX3_cell_15 (by decide) (fun h15 => ?_) (fun h15 => ?_)
    · exact absurd ⟨h6, h15⟩ hb --stop
    · refine z_aload_n O dX3_cell_18 rfl ?_
      refine z_bipush O (-2) dX3_cell_19 (by decide) ?_
      refine z_V1e0 O x_refuseB mX3_refuse lkX3_58 rfl (by rfl) dX3_cell_21 (Nat.le_of_ble_eq_true rfl) (by decide) ?_
      exact z_iret O dX3_cell_24 ⟨rfl, rfl⟩
set_option maxRecDepth 20000 in
set_option maxHeartbeats 4000000 in
theorem x_cell {c f : Nat} (hc : c < 9) (hf : f ≤ 1) : zS G 2 yX3_cell cX3_cell 3 (some .int) [.ref (zad (zb G) 0), .int (nI c), .int (nI f)] (xM G we r cl seen kept rd nw ud im twe tr tcl bys wo nu len it so at_ be va sp ss al od ab bl bd no fu rest) 0 0 (zE (.int (nI (if f = 0 then we c else r (108 + c)))) (xM G we r cl seen kept rd nw ud im twe tr tcl bys wo nu len it so at_ be va sp ss al od ab bl bd no fu rest)) := by
  refine zS.of (by decide) (Nat.le_of_ble_eq_true rfl) (fun F O hR1 hR2 => ?_)
  have O : zOk G F yX3_cell cX3_cell 3 (some .int) RX3 2 (xM G we r cl seen kept rd nw ud im twe tr tcl bys wo nu len it so at_ be va sp ss al od ab bl bd no fu rest).length := O
  refine z_eq (lv' := [(0, _), (1, _), (2, _)]) rfl rfl rfl ?_
  refine z_iload_n O dX3_cell_0 rfl ?_
  refine z_bipush O (nI 9) dX3_cell_1 (by decide) ?_
  refine z_S2e0 O (s_withinN (by omega) (by omega)) mX3_within lkX3_54 dX3_cell_3 (Nat.le_of_ble_eq_true rfl) (by decide) ?_
  refine z_if_eqB O 18 dX3_cell_6 (by decide) (fun h6 => by omega) (fun h6 => ?_)
  refine z_iload_n O dX3_cell_9 rfl ?_
  refine z_iconst O (nI 0) dX3_cell_10 (by decide) ?_
  refine z_iconst O (nI 1) dX3_cell_11 (by decide) ?_
  refine z_S3e0 O (s_betweenN (by omega) (by omega) (by omega)) mX3_between lkX3_96 dX3_cell_12 (Nat.le_of_ble_eq_true rfl) (by decide) ?_
  refine z_if_neB O 25 dX3_cell_15 (by decide) (fun h15 => ?_) (fun h15 => by omega)
  refine z_iload_n O dX3_cell_25 rfl ?_
  refine z_if_neN O 44 dX3_cell_26 (by decide) (by omega) (fun h26 => ?_) (fun h26 => ?_)
  · refine z_aload_n O dX3_cell_44 rfl ?_
    refine z_get O dX3_cell_45 flX3_12 (by rfl) (by rfl) ?_
    refine z_get O dX3_cell_48 flX3_62 (by rfl) (by rfl) ?_
    refine z_iload_n O dX3_cell_51 rfl ?_
    refine z_V1e0 O (s_many xN hc) mX0_many lkX3_138 rfl (by rfl) dX3_cell_52 (Nat.le_of_ble_eq_true rfl) (by decide) ?_
    exact z_iret O dX3_cell_55 (by first | exact ⟨by rw [if_pos (by assumption)], rfl⟩ | exact ⟨by rw [if_neg (by assumption)], rfl⟩)
  · refine z_aload_n O dX3_cell_29 rfl ?_
    refine z_get O dX3_cell_30 flX3_12 (by rfl) (by rfl) ?_
    refine z_get O dX3_cell_33 flX3_62 (by rfl) (by rfl) ?_
    refine z_get O dX3_cell_36 flX3_76 (by rfl) (by rfl) ?_
    refine z_iload_n O dX3_cell_39 rfl ?_
    refine z_ialdN O dX3_cell_40 (by rfl) (by omega) (by decide) ?_
    refine z_goto O 55 dX3_cell_41 (by decide) ?_
    exact z_iret O dX3_cell_55 (by first | exact ⟨by rw [if_pos (by assumption)], rfl⟩ | exact ⟨by rw [if_neg (by assumption)], rfl⟩)
set_option maxRecDepth 20000 in
set_option maxHeartbeats 4000000 in
theorem x_claimsB {f l : Int32} (hb : ¬ ((0 ≤ f ∧ f < nI 3) ∧ (0 ≤ l ∧ l < nI 4))) : zS G 2 yX3_claims cX3_claims 3 (some .int) [.ref (zad (zb G) 0), .int f, .int l] (xM G we r cl seen kept rd nw ud im twe tr tcl bys wo nu len it so at_ be va sp ss al od ab bl bd no fu rest) 0 0 (zE (.int (-2)) (xM G we r cl seen kept rd nw ud im twe tr tcl bys wo nu len it so at_ be va sp ss al od ab bl (bd + 1) no fu rest)) := by
  refine zS.of (by decide) (Nat.le_of_ble_eq_true rfl) (fun F O hR1 hR2 => ?_)
  have O : zOk G F yX3_claims cX3_claims 3 (some .int) RX3 2 (xM G we r cl seen kept rd nw ud im twe tr tcl bys wo nu len it so at_ be va sp ss al od ab bl bd no fu rest).length := O
  refine z_eq (lv' := [(0, _), (1, _), (2, _)]) rfl rfl rfl ?_
  refine z_iload_n O dX3_claims_0 rfl ?_
  refine z_iconst O (nI 3) dX3_claims_1 (by decide) ?_
  refine z_S2e0 O s_within mX3_within lkX3_54 dX3_claims_2 (Nat.le_of_ble_eq_true rfl) (by decide) ?_
  refine z_if_eqB O 16 dX3_claims_5 (by decide) (fun h5 => ?_) (fun h5 => ?_)
  · refine z_aload_n O dX3_claims_16 rfl ?_
    refine z_bipush O (-2) dX3_claims_17 (by decide) ?_
    refine z_V1e0 O x_refuseB mX3_refuse lkX3_58 rfl (by rfl) dX3_claims_19 (Nat.le_of_ble_eq_true rfl) (by decide) ?_
    exact z_iret O dX3_claims_22 ⟨rfl, rfl⟩
  · refine z_iload_n O dX3_claims_8 rfl ?_
    refine z_iconst O (nI 4) dX3_claims_9 (by decide) ?_
    refine z_S2e0 O s_within mX3_within lkX3_54 dX3_claims_10 (Nat.le_of_ble_eq_true rfl) (by decide) ?_
    refine z_if_neB O 23 dX3_claims_13 (by decide) (fun h13 => ?_) (fun h13 => ?_)
    · exact absurd ⟨h5, h13⟩ hb --stop
    · refine z_aload_n O dX3_claims_16 rfl ?_
      refine z_bipush O (-2) dX3_claims_17 (by decide) ?_
      refine z_V1e0 O x_refuseB mX3_refuse lkX3_58 rfl (by rfl) dX3_claims_19 (Nat.le_of_ble_eq_true rfl) (by decide) ?_
      exact z_iret O dX3_claims_22 ⟨rfl, rfl⟩
set_option maxRecDepth 20000 in
set_option maxHeartbeats 4000000 in
theorem x_claims (hr : rowOK r) (hw : weOK we) (hz : rowZ r) (hs : sinceOK r) (hwz : weZ we) (hy : r 117 + 100 < 1048576) (htw : weZ twe) (htr : rowT tr) {f l : Nat} (hf : f < 3) (hl : l < 4) : zS G 6 yX3_claims cX3_claims 3 (some .int) [.ref (zad (zb G) 0), .int (nI f), .int (nI l)] (xM G we r cl seen kept rd nw ud im twe tr tcl bys wo nu len it so at_ be va sp ss al od ab bl bd no fu rest) 0 0 (zP (fun v M' => v = .int (nI (clm r l f)) ∧ xS G we r seen kept rd nw ud im bys len ab bl bd no fu rest M')) := by
  refine zS.of (by decide) (Nat.le_of_ble_eq_true rfl) (fun F O hR1 hR2 => ?_)
  have O : zOk G F yX3_claims cX3_claims 3 (some .int) RX3 6 (xM G we r cl seen kept rd nw ud im twe tr tcl bys wo nu len it so at_ be va sp ss al od ab bl bd no fu rest).length := O
  refine z_eq (lv' := [(0, _), (1, _), (2, _)]) rfl rfl rfl ?_
  refine z_iload_n O dX3_claims_0 rfl ?_
  refine z_iconst O (nI 3) dX3_claims_1 (by decide) ?_
  refine z_S2e0 O (s_withinN (by omega) (by omega)) mX3_within lkX3_54 dX3_claims_2 (Nat.le_of_ble_eq_true rfl) (by decide) ?_
  refine z_if_eqB O 16 dX3_claims_5 (by decide) (fun h5 => by omega) (fun h5 => ?_)
  refine z_iload_n O dX3_claims_8 rfl ?_
  refine z_iconst O (nI 4) dX3_claims_9 (by decide) ?_
  refine z_S2e0 O (s_withinN (by omega) (by omega)) mX3_within lkX3_54 dX3_claims_10 (Nat.le_of_ble_eq_true rfl) (by decide) ?_
  refine z_if_neB O 23 dX3_claims_13 (by decide) (fun h13 => ?_) (fun h13 => by omega)
  refine z_aload_n O dX3_claims_23 rfl ?_
  refine z_get O dX3_claims_24 flX3_12 (by rfl) (by rfl) ?_
  refine z_get O dX3_claims_27 flX3_62 (by rfl) (by rfl) ?_
  refine z_iload_n O dX3_claims_30 rfl ?_
  refine z_iload_n O dX3_claims_31 rfl ?_
  refine z_V2p0 O (s_claimOf xN hr hs hf hl) mX0_claimOf lkX3_155 rfl (by rfl) dX3_claims_32 (Nat.le_of_ble_eq_true rfl) (by decide) (fun x M' hq => ?_)
  obtain ⟨rfl, q, rfl⟩ := hq
  refine z_M (show _ = (xM G we r q seen kept rd nw ud im twe tr tcl bys wo nu len it so at_ be va sp ss al od ab bl bd no fu rest) from rfl) ?_
  exact z_iret O dX3_claims_35 ⟨_, rfl, rfl, ⟨_, _, _, _, _, _, _, _, _, _, _, _, _, _, _, htw, htr, rfl⟩⟩
set_option maxRecDepth 20000 in
set_option maxHeartbeats 4000000 in
theorem x_tryYears (hr : rowOK r) (hw : weOK we) (hz : rowZ r) (hs : sinceOK r) (hwz : weZ we) (hy : r 117 + 100 < 1048576) (htw : weZ twe) (htr : rowT tr) {m : Nat} (hm : m ≤ 40) : zS G 5 yX3_tryYears cX3_tryYears 3 none [.ref (zad (zb G) 0), .int (nI m)] (xM G we r cl seen kept rd nw ud im twe tr tcl bys wo nu len it so at_ be va sp ss al od ab bl bd no fu rest) 0 0 (zU (xM G we r cl seen kept rd nw ud im we (ps we r m) tcl bys wo nu len it so at_ be va sp ss al od ab bl bd no fu rest)) := by
  refine zS.of (by decide) (Nat.le_of_ble_eq_true rfl) (fun F O hR1 hR2 => ?_)
  have O : zOk G F yX3_tryYears cX3_tryYears 3 none RX3 5 (xM G we r cl seen kept rd nw ud im twe tr tcl bys wo nu len it so at_ be va sp ss al od ab bl bd no fu rest).length := O
  refine z_eq (lv' := [(0, _), (1, _)]) rfl rfl rfl ?_
  refine z_aload_n O dX3_tryYears_0 rfl ?_
  refine z_get O dX3_tryYears_1 flX3_23 (by rfl) (by rfl) ?_
  refine z_aload_n O dX3_tryYears_4 rfl ?_
  refine z_get O dX3_tryYears_5 flX3_12 (by rfl) (by rfl) ?_
  refine z_get O dX3_tryYears_8 flX3_62 (by rfl) (by rfl) ?_
  refine z_V1u0 O (s_copy xT xN) mX0_copy lkX3_131 rfl (by rfl) dX3_tryYears_11 (Nat.le_of_ble_eq_true rfl) (by decide) ?_
  refine z_M (show _ = (xM G we r cl seen kept rd nw ud im (cpyN we twe 0 0 9) (cpyN r tr 0 0 118) tcl bys wo nu len it so at_ be va sp ss al od ab bl bd no fu rest) from rfl) ?_
  rw [cpy_row hz htr.1, cpy_we hwz htw]
  refine z_iconst O (nI 0) dX3_tryYears_14 (by decide) ?_
  refine z_istore_n (lv' := [(0, _), (1, _), (2, _)]) O dX3_tryYears_15 (by decide) rfl ?_
  refine zdown (P := fun i => Z G F 0 0 (zEnd G F (zU (xM G we r cl seen kept rd nw ud im we (ps we r m) tcl bys wo nu len it so at_ be va sp ss al od ab bl bd no fu rest)) 0 0) 16 [(0, .ref (zad (zb G) 0)), (1, .int (nI m)), (2, .int (nI i))] [] (xM G we r cl seen kept rd nw ud im we (ps we r i) tcl bys wo nu len it so at_ be va sp ss al od ab bl bd no fu rest)) (m) ?_ ?_ 
  · refine z_iload_n O dX3_tryYears_16 rfl ?_
    refine z_iload_n O dX3_tryYears_17 rfl ?_
    refine z_icmp_geN O 34 dX3_tryYears_18 (by decide) (by omega) (by omega) (fun h18 => ?_) (fun h18 => by omega)
    exact z_vret O dX3_tryYears_34 ⟨rfl, rfl⟩
  · intro i hi ih 
    refine z_iload_n O dX3_tryYears_16 rfl ?_
    refine z_iload_n O dX3_tryYears_17 rfl ?_
    refine z_icmp_geN O 34 dX3_tryYears_18 (by decide) (by omega) (by omega) (fun h18 => by omega) (fun h18 => ?_)
    refine z_aload_n O dX3_tryYears_21 rfl ?_
    refine z_get O dX3_tryYears_22 flX3_23 (by rfl) (by rfl) ?_
    refine z_V0u0 O (s_pass xT (ps_ok hr hz hs hy i (by omega)).1 hw) mX0_pass lkX3_100 rfl (by rfl) dX3_tryYears_25 (Nat.le_of_ble_eq_true rfl) (by decide) ?_
    refine z_M (show _ = (xM G we r cl seen kept rd nw ud im we (ps we r (i + 1)) tcl bys wo nu len it so at_ be va sp ss al od ab bl bd no fu rest) from rfl) ?_
    refine z_iincN (lv' := [(0, _), (1, _), (2, _)]) O 1 dX3_tryYears_28 (by decide) rfl rfl (by decide) ?_
    refine z_goto O 16 dX3_tryYears_31 (by decide) ?_
    exact ih
set_option maxRecDepth 20000 in
set_option maxHeartbeats 4000000 in
theorem x_ownerB {l m : Int32} (hb : ¬ ((0 ≤ l ∧ l < nI 4) ∧ (0 ≤ m ∧ m < nI 41))) : zS G 2 yX3_owner cX3_owner 3 (some .int) [.ref (zad (zb G) 0), .int l, .int m] (xM G we r cl seen kept rd nw ud im twe tr tcl bys wo nu len it so at_ be va sp ss al od ab bl bd no fu rest) 0 0 (zE (.int (-2)) (xM G we r cl seen kept rd nw ud im twe tr tcl bys wo nu len it so at_ be va sp ss al od ab bl (bd + 1) no fu rest)) := by
  refine zS.of (by decide) (Nat.le_of_ble_eq_true rfl) (fun F O hR1 hR2 => ?_)
  have O : zOk G F yX3_owner cX3_owner 3 (some .int) RX3 2 (xM G we r cl seen kept rd nw ud im twe tr tcl bys wo nu len it so at_ be va sp ss al od ab bl bd no fu rest).length := O
  refine z_eq (lv' := [(0, _), (1, _), (2, _)]) rfl rfl rfl ?_
  refine z_iload_n O dX3_owner_0 rfl ?_
  refine z_iconst O (nI 4) dX3_owner_1 (by decide) ?_
  refine z_S2e0 O s_within mX3_within lkX3_54 dX3_owner_2 (Nat.le_of_ble_eq_true rfl) (by decide) ?_
  refine z_if_eqB O 17 dX3_owner_5 (by decide) (fun h5 => ?_) (fun h5 => ?_)
  · refine z_aload_n O dX3_owner_17 rfl ?_
    refine z_bipush O (-2) dX3_owner_18 (by decide) ?_
    refine z_V1e0 O x_refuseB mX3_refuse lkX3_58 rfl (by rfl) dX3_owner_20 (Nat.le_of_ble_eq_true rfl) (by decide) ?_
    exact z_iret O dX3_owner_23 ⟨rfl, rfl⟩
  · refine z_iload_n O dX3_owner_8 rfl ?_
    refine z_bipush O (nI 41) dX3_owner_9 (by decide) ?_
    refine z_S2e0 O s_within mX3_within lkX3_54 dX3_owner_11 (Nat.le_of_ble_eq_true rfl) (by decide) ?_
    refine z_if_neB O 24 dX3_owner_14 (by decide) (fun h14 => ?_) (fun h14 => ?_)
    · exact absurd ⟨h5, h14⟩ hb --stop
    · refine z_aload_n O dX3_owner_17 rfl ?_
      refine z_bipush O (-2) dX3_owner_18 (by decide) ?_
      refine z_V1e0 O x_refuseB mX3_refuse lkX3_58 rfl (by rfl) dX3_owner_20 (Nat.le_of_ble_eq_true rfl) (by decide) ?_
      exact z_iret O dX3_owner_23 ⟨rfl, rfl⟩
set_option maxRecDepth 20000 in
set_option maxHeartbeats 4000000 in
theorem x_owner (hr : rowOK r) (hw : weOK we) (hz : rowZ r) (hs : sinceOK r) (hwz : weZ we) (hy : r 117 + 100 < 1048576) (htw : weZ twe) (htr : rowT tr) {l m : Nat} (hl : l < 4) (hm : m < 41) : zS G 6 yX3_owner cX3_owner 3 (some .int) [.ref (zad (zb G) 0), .int (nI l), .int (nI m)] (xM G we r cl seen kept rd nw ud im twe tr tcl bys wo nu len it so at_ be va sp ss al od ab bl bd no fu rest) 0 0 (zP (fun v M' => v = .int (optI (ownS (clm (ps we r m) l) 3).1) ∧ xS G we r seen kept rd nw ud im bys len ab bl bd no fu rest M')) := by
  refine zS.of (by decide) (Nat.le_of_ble_eq_true rfl) (fun F O hR1 hR2 => ?_)
  have O : zOk G F yX3_owner cX3_owner 3 (some .int) RX3 6 (xM G we r cl seen kept rd nw ud im twe tr tcl bys wo nu len it so at_ be va sp ss al od ab bl bd no fu rest).length := O
  refine z_eq (lv' := [(0, _), (1, _), (2, _)]) rfl rfl rfl ?_
  refine z_iload_n O dX3_owner_0 rfl ?_
  refine z_iconst O (nI 4) dX3_owner_1 (by decide) ?_
  refine z_S2e0 O (s_withinN (by omega) (by omega)) mX3_within lkX3_54 dX3_owner_2 (Nat.le_of_ble_eq_true rfl) (by decide) ?_
  refine z_if_eqB O 17 dX3_owner_5 (by decide) (fun h5 => by omega) (fun h5 => ?_)
  refine z_iload_n O dX3_owner_8 rfl ?_
  refine z_bipush O (nI 41) dX3_owner_9 (by decide) ?_
  refine z_S2e0 O (s_withinN (by omega) (by omega)) mX3_within lkX3_54 dX3_owner_11 (Nat.le_of_ble_eq_true rfl) (by decide) ?_
  refine z_if_neB O 24 dX3_owner_14 (by decide) (fun h14 => ?_) (fun h14 => by omega)
  refine z_aload_n O dX3_owner_24 rfl ?_
  refine z_iload_n O dX3_owner_25 rfl ?_
  refine z_V1u0 O (x_tryYears hr hw hz hs hwz hy htw htr (by omega)) mX3_tryYears lkX3_158 rfl (by rfl) dX3_owner_26 (Nat.le_of_ble_eq_true rfl) (by decide) ?_
  refine z_aload_n O dX3_owner_29 rfl ?_
  refine z_get O dX3_owner_30 flX3_23 (by rfl) (by rfl) ?_
  refine z_iload_n O dX3_owner_33 rfl ?_
  refine z_V1p0 O (s_ownerBy xT (ps_ok hr hz hs hy m (by omega)).1 (ps_ok hr hz hs hy m (by omega)).2.2.1 hl) mX0_ownerBy lkX3_161 rfl (by rfl) dX3_owner_34 (Nat.le_of_ble_eq_true rfl) (by decide) (fun x M' hq => ?_)
  obtain ⟨rfl, q, rfl⟩ := hq
  refine z_M (show _ = (xM G we r cl seen kept rd nw ud im we (ps we r m) q bys wo nu len it so at_ be va sp ss al od ab bl bd no fu rest) from rfl) ?_
  exact z_iret O dX3_owner_37 ⟨_, rfl, rfl, ⟨_, _, _, _, _, _, _, _, _, _, _, _, _, _, _, hwz, ⟨(ps_ok hr hz hs hy m (by omega)).2.1, (ps_ok hr hz hs hy m (by omega)).1.1⟩, rfl⟩⟩
set_option maxRecDepth 20000 in
set_option maxHeartbeats 4000000 in
theorem x_lawsB {f : Int32} (hb : ¬ (0 ≤ f ∧ f < nI 3)) : zS G 2 yX3_laws cX3_laws 4 (some .int) [.ref (zad (zb G) 0), .int f] (xM G we r cl seen kept rd nw ud im twe tr tcl bys wo nu len it so at_ be va sp ss al od ab bl bd no fu rest) 0 0 (zE (.int (-2)) (xM G we r cl seen kept rd nw ud im twe tr tcl bys wo nu len it so at_ be va sp ss al od ab bl (bd + 1) no fu rest)) := by
  refine zS.of (by decide) (Nat.le_of_ble_eq_true rfl) (fun F O hR1 hR2 => ?_)
  have O : zOk G F yX3_laws cX3_laws 4 (some .int) RX3 2 (xM G we r cl seen kept rd nw ud im twe tr tcl bys wo nu len it so at_ be va sp ss al od ab bl bd no fu rest).length := O
  refine z_eq (lv' := [(0, _), (1, _)]) rfl rfl rfl ?_
  refine z_iload_n O dX3_laws_0 rfl ?_
  refine z_iconst O (nI 3) dX3_laws_1 (by decide) ?_
  refine z_S2e0 O s_within mX3_within lkX3_54 dX3_laws_2 (Nat.le_of_ble_eq_true rfl) (by decide) ?_
  refine z_if_neB O 15 dX3_laws_5 (by decide) (fun h5 => by exact absurd h5 hb) (fun h5 => ?_)
  refine z_aload_n O dX3_laws_8 rfl ?_
  refine z_bipush O (-2) dX3_laws_9 (by decide) ?_
  refine z_V1e0 O x_refuseB mX3_refuse lkX3_58 rfl (by rfl) dX3_laws_11 (Nat.le_of_ble_eq_true rfl) (by decide) ?_
  exact z_iret O dX3_laws_14 ⟨rfl, rfl⟩
set_option maxRecDepth 20000 in
set_option maxHeartbeats 4000000 in
theorem x_laws (hr : rowOK r) (hw : weOK we) (hz : rowZ r) (hs : sinceOK r) (hwz : weZ we) (hy : r 117 + 100 < 1048576) (htw : weZ twe) (htr : rowT tr) {f : Nat} (hf : f < 3) : zS G 6 yX3_laws cX3_laws 4 (some .int) [.ref (zad (zb G) 0), .int (nI f)] (xM G we r cl seen kept rd nw ud im twe tr tcl bys wo nu len it so at_ be va sp ss al od ab bl bd no fu rest) 0 0 (zP (fun v M' => v = .int (nI (bitsN (fun l => decide ((ownS (clm r l) 3).1 = some f)) 4)) ∧ xS G we r seen kept rd nw ud im bys len ab bl bd no fu rest M')) := by
  refine zS.of (by decide) (Nat.le_of_ble_eq_true rfl) (fun F O hR1 hR2 => ?_)
  have O : zOk G F yX3_laws cX3_laws 4 (some .int) RX3 6 (xM G we r cl seen kept rd nw ud im twe tr tcl bys wo nu len it so at_ be va sp ss al od ab bl bd no fu rest).length := O
  refine z_eq (lv' := [(0, _), (1, _)]) rfl rfl rfl ?_
  refine z_iload_n O dX3_laws_0 rfl ?_
  refine z_iconst O (nI 3) dX3_laws_1 (by decide) ?_
  refine z_S2e0 O (s_withinN (by omega) (by omega)) mX3_within lkX3_54 dX3_laws_2 (Nat.le_of_ble_eq_true rfl) (by decide) ?_
  refine z_if_neB O 15 dX3_laws_5 (by decide) (fun h5 => ?_) (fun h5 => by omega)
  refine z_iconst O (nI 0) dX3_laws_15 (by decide) ?_
  refine z_istore_n (lv' := [(0, _), (1, _), (2, _)]) O dX3_laws_16 (by decide) rfl ?_
  refine z_iconst O (nI 0) dX3_laws_17 (by decide) ?_
  refine z_istore_n (lv' := [(0, _), (1, _), (2, _), (3, _)]) O dX3_laws_18 (by decide) rfl ?_
  refine zdown (P := fun l => ∀ cl' : Nat → Nat, Z G F 0 0 (zEnd G F (zP (fun v M' => v = .int (nI (bitsN (fun l => decide ((ownS (clm r l) 3).1 = some f)) 4)) ∧ xS G we r seen kept rd nw ud im bys len ab bl bd no fu rest M')) 0 0) 19 [(0, .ref (zad (zb G) 0)), (1, .int (nI f)), (2, .int (nI (bitsN (fun l => decide ((ownS (clm r l) 3).1 = some f)) l))), (3, .int (nI l))] [] (xM G we r cl' seen kept rd nw ud im twe tr tcl bys wo nu len it so at_ be va sp ss al od ab bl bd no fu rest)) (4) ?_ ?_ cl
  · intro cl'
    refine z_iload_n O dX3_laws_19 rfl ?_
    refine z_iconst O (nI 4) dX3_laws_20 (by decide) ?_
    refine z_icmp_geN O 51 dX3_laws_21 (by decide) (by omega) (by omega) (fun h21 => ?_) (fun h21 => by omega)
    refine z_iload_n O dX3_laws_51 rfl ?_
    exact z_iret O dX3_laws_52 ⟨_, rfl, rfl, ⟨_, _, _, _, _, _, _, _, _, _, _, _, _, _, _, htw, htr, rfl⟩⟩
  · intro l hl ih cl'
    refine z_iload_n O dX3_laws_19 rfl ?_
    refine z_iconst O (nI 4) dX3_laws_20 (by decide) ?_
    refine z_icmp_geN O 51 dX3_laws_21 (by decide) (by omega) (by omega) (fun h21 => by omega) (fun h21 => ?_)
    refine z_aload_n O dX3_laws_24 rfl ?_
    refine z_get O dX3_laws_25 flX3_12 (by rfl) (by rfl) ?_
    refine z_get O dX3_laws_28 flX3_62 (by rfl) (by rfl) ?_
    refine z_iload_n O dX3_laws_31 rfl ?_
    refine z_V1p0 O (s_ownerBy xN hr hs hl) mX0_ownerBy lkX3_161 rfl (by rfl) dX3_laws_32 (Nat.le_of_ble_eq_true rfl) (by decide) (fun x M' hq => ?_)
    obtain ⟨rfl, q, rfl⟩ := hq
    refine z_M (show _ = (xM G we r q seen kept rd nw ud im twe tr tcl bys wo nu len it so at_ be va sp ss al od ab bl bd no fu rest) from rfl) ?_
    have hob := optI_eq (ownS_bd (clm r l) 3 (by omega)) (b := some f) (by intro g hg; cases hg; omega)
    refine z_iload_n O dX3_laws_35 rfl ?_
    refine z_icmp_ne O 45 dX3_laws_36 (by decide) (fun h36 => ?_) (fun h36 => ?_)
    · refine z_iincN (lv' := [(0, _), (1, _), (2, _), (3, _)]) O 1 dX3_laws_45 (by decide) rfl rfl (by decide) ?_
      refine z_goto O 19 dX3_laws_48 (by decide) ?_
      first | (rw [show bitsN (fun l => decide ((ownS (clm r l) 3).1 = some f)) (l + 1) = bitsN (fun l => decide ((ownS (clm r l) 3).1 = some f)) l + 2 ^ l from if_pos (decide_eq_true (hob.mp h36))] at ih; exact ih _) | (rw [show bitsN (fun l => decide ((ownS (clm r l) 3).1 = some f)) (l + 1) = bitsN (fun l => decide ((ownS (clm r l) 3).1 = some f)) l from if_neg (fun q => h36 (hob.mpr (of_decide_eq_true q)))] at ih; exact ih _)
    · refine z_iload_n O dX3_laws_39 rfl ?_
      refine z_iconst O (nI 1) dX3_laws_40 (by decide) ?_
      refine z_iload_n O dX3_laws_41 rfl ?_
      refine z_ishl O dX3_laws_42 ?_
      refine z_ior O dX3_laws_43 ?_
      refine z_top (v' := .int (nI (bitsN (fun l => decide ((ownS (clm r l) 3).1 = some f)) l + 2 ^ l))) (congrArg Value.int (zb_or (bitsN_lt _ _) (by omega))) ?_
      refine z_istore_n (lv' := [(0, _), (1, _), (2, _), (3, _)]) O dX3_laws_44 (by decide) rfl ?_
      refine z_iincN (lv' := [(0, _), (1, _), (2, _), (3, _)]) O 1 dX3_laws_45 (by decide) rfl rfl (by decide) ?_
      refine z_goto O 19 dX3_laws_48 (by decide) ?_
      first | (rw [show bitsN (fun l => decide ((ownS (clm r l) 3).1 = some f)) (l + 1) = bitsN (fun l => decide ((ownS (clm r l) 3).1 = some f)) l + 2 ^ l from if_pos (decide_eq_true (hob.mp h36))] at ih; exact ih _) | (rw [show bitsN (fun l => decide ((ownS (clm r l) 3).1 = some f)) (l + 1) = bitsN (fun l => decide ((ownS (clm r l) 3).1 = some f)) l from if_neg (fun q => h36 (hob.mpr (of_decide_eq_true q)))] at ih; exact ih _)
set_option maxRecDepth 20000 in
set_option maxHeartbeats 4000000 in
theorem x_twosB {l : Int32} (hb : ¬ (0 ≤ l ∧ l < nI 4)) : zS G 2 yX3_twos cX3_twos 3 (some .int) [.ref (zad (zb G) 0), .int l] (xM G we r cl seen kept rd nw ud im twe tr tcl bys wo nu len it so at_ be va sp ss al od ab bl bd no fu rest) 0 0 (zE (.int (-2)) (xM G we r cl seen kept rd nw ud im twe tr tcl bys wo nu len it so at_ be va sp ss al od ab bl (bd + 1) no fu rest)) := by
  refine zS.of (by decide) (Nat.le_of_ble_eq_true rfl) (fun F O hR1 hR2 => ?_)
  have O : zOk G F yX3_twos cX3_twos 3 (some .int) RX3 2 (xM G we r cl seen kept rd nw ud im twe tr tcl bys wo nu len it so at_ be va sp ss al od ab bl bd no fu rest).length := O
  refine z_eq (lv' := [(0, _), (1, _)]) rfl rfl rfl ?_
  refine z_iload_n O dX3_twos_0 rfl ?_
  refine z_iconst O (nI 4) dX3_twos_1 (by decide) ?_
  refine z_S2e0 O s_within mX3_within lkX3_54 dX3_twos_2 (Nat.le_of_ble_eq_true rfl) (by decide) ?_
  refine z_if_neB O 15 dX3_twos_5 (by decide) (fun h5 => by exact absurd h5 hb) (fun h5 => ?_)
  refine z_aload_n O dX3_twos_8 rfl ?_
  refine z_bipush O (-2) dX3_twos_9 (by decide) ?_
  refine z_V1e0 O x_refuseB mX3_refuse lkX3_58 rfl (by rfl) dX3_twos_11 (Nat.le_of_ble_eq_true rfl) (by decide) ?_
  exact z_iret O dX3_twos_14 ⟨rfl, rfl⟩
set_option maxRecDepth 20000 in
set_option maxHeartbeats 4000000 in
theorem x_twos (hr : rowOK r) (hw : weOK we) (hz : rowZ r) (hs : sinceOK r) (hwz : weZ we) (hy : r 117 + 100 < 1048576) (htw : weZ twe) (htr : rowT tr) {l : Nat} (hl : l < 4) : zS G 7 yX3_twos cX3_twos 3 (some .int) [.ref (zad (zb G) 0), .int (nI l)] (xM G we r cl seen kept rd nw ud im twe tr tcl bys wo nu len it so at_ be va sp ss al od ab bl bd no fu rest) 0 0 (zP (fun v M' => v = .int (optI (firstN (twB we r l) 41 0)) ∧ xS G we r seen kept rd nw ud im bys len ab bl bd no fu rest M')) := by
  refine zS.of (by decide) (Nat.le_of_ble_eq_true rfl) (fun F O hR1 hR2 => ?_)
  have O : zOk G F yX3_twos cX3_twos 3 (some .int) RX3 7 (xM G we r cl seen kept rd nw ud im twe tr tcl bys wo nu len it so at_ be va sp ss al od ab bl bd no fu rest).length := O
  refine z_eq (lv' := [(0, _), (1, _)]) rfl rfl rfl ?_
  refine z_iload_n O dX3_twos_0 rfl ?_
  refine z_iconst O (nI 4) dX3_twos_1 (by decide) ?_
  refine z_S2e0 O (s_withinN (by omega) (by omega)) mX3_within lkX3_54 dX3_twos_2 (Nat.le_of_ble_eq_true rfl) (by decide) ?_
  refine z_if_neB O 15 dX3_twos_5 (by decide) (fun h5 => ?_) (fun h5 => by omega)
  refine z_aload_n O dX3_twos_15 rfl ?_
  refine z_get O dX3_twos_16 flX3_23 (by rfl) (by rfl) ?_
  refine z_aload_n O dX3_twos_19 rfl ?_
  refine z_get O dX3_twos_20 flX3_12 (by rfl) (by rfl) ?_
  refine z_get O dX3_twos_23 flX3_62 (by rfl) (by rfl) ?_
  refine z_V1u0 O (s_copy xT xN) mX0_copy lkX3_131 rfl (by rfl) dX3_twos_26 (Nat.le_of_ble_eq_true rfl) (by decide) ?_
  refine z_M (show _ = (xM G we r cl seen kept rd nw ud im (cpyN we twe 0 0 9) (cpyN r tr 0 0 118) tcl bys wo nu len it so at_ be va sp ss al od ab bl bd no fu rest) from rfl) ?_
  rw [cpy_row hz htr.1, cpy_we hwz htw]
  refine z_iconst O (nI 0) dX3_twos_29 (by decide) ?_
  refine z_istore_n (lv' := [(0, _), (1, _), (2, _)]) O dX3_twos_30 (by decide) rfl ?_
  refine zdown (P := fun m => ∀ tc' : Nat → Nat, firstN (twB we r l) (41 - m) m = firstN (twB we r l) 41 0 → Z G F 0 0 (zEnd G F (zP (fun v M' => v = .int (optI (firstN (twB we r l) 41 0)) ∧ xS G we r seen kept rd nw ud im bys len ab bl bd no fu rest M')) 0 0) 31 [(0, .ref (zad (zb G) 0)), (1, .int (nI l)), (2, .int (nI m))] [] (xM G we r cl seen kept rd nw ud im we (ps we r m) tc' bys wo nu len it so at_ be va sp ss al od ab bl bd no fu rest)) (41) ?_ ?_ tcl rfl
  · intro tc' hf
    refine z_iload_n O dX3_twos_31 rfl ?_
    refine z_bipush O (nI 41) dX3_twos_32 (by decide) ?_
    refine z_icmp_geN O 63 dX3_twos_34 (by decide) (by omega) (by omega) (fun h34 => ?_) (fun h34 => by omega)
    refine z_iconst O (-1) dX3_twos_63 (by decide) ?_
    exact z_iret O dX3_twos_64 ⟨_, rfl, by rw [← hf]; rfl, ⟨_, _, _, _, _, _, _, _, _, _, _, _, _, _, _, hwz, ⟨(ps_ok hr hz hs hy 41 (by omega)).2.1, (ps_ok hr hz hs hy 41 (by omega)).1.1⟩, rfl⟩⟩
  · intro m hm ih tc' hf
    rw [show 41 - m = (41 - (m + 1)) + 1 by omega] at hf
    refine z_iload_n O dX3_twos_31 rfl ?_
    refine z_bipush O (nI 41) dX3_twos_32 (by decide) ?_
    refine z_icmp_geN O 63 dX3_twos_34 (by decide) (by omega) (by omega) (fun h34 => by omega) (fun h34 => ?_)
    refine z_aload_n O dX3_twos_37 rfl ?_
    refine z_get O dX3_twos_38 flX3_23 (by rfl) (by rfl) ?_
    refine z_iload_n O dX3_twos_41 rfl ?_
    refine z_V1p0 O (s_isTwos xT (ps_ok hr hz hs hy m (by omega)).1 (ps_ok hr hz hs hy m (by omega)).2.2.1 hl) mX0_isTwos lkX3_171 rfl (by rfl) dX3_twos_42 (Nat.le_of_ble_eq_true rfl) (by decide) (fun x M' hq => ?_)
    obtain ⟨rfl, q, rfl⟩ := hq
    refine z_M (show _ = (xM G we r cl seen kept rd nw ud im we (ps we r m) q bys wo nu len it so at_ be va sp ss al od ab bl bd no fu rest) from rfl) ?_
    refine z_if_eqB O 50 dX3_twos_45 (by decide) (fun h45 => ?_) (fun h45 => ?_)
    · refine z_aload_n O dX3_twos_50 rfl ?_
      refine z_get O dX3_twos_51 flX3_23 (by rfl) (by rfl) ?_
      refine z_V0u0 O (s_pass xT (ps_ok hr hz hs hy m (by omega)).1 hw) mX0_pass lkX3_100 rfl (by rfl) dX3_twos_54 (Nat.le_of_ble_eq_true rfl) (by decide) ?_
      refine z_M (show _ = (xM G we r cl seen kept rd nw ud im we (ps we r (m + 1)) q bys wo nu len it so at_ be va sp ss al od ab bl bd no fu rest) from rfl) ?_
      refine z_iincN (lv' := [(0, _), (1, _), (2, _)]) O 1 dX3_twos_57 (by decide) rfl rfl (by decide) ?_
      refine z_goto O 31 dX3_twos_60 (by decide) ?_
      rw [firstN, if_neg (show ¬ twB we r l m = true from fun q => h45 (of_decide_eq_true q))] at hf
      exact ih _ hf
    · refine z_iload_n O dX3_twos_48 rfl ?_
      exact z_iret O dX3_twos_49 ⟨_, rfl, by rw [← hf, firstN, if_pos (show twB we r l m = true from decide_eq_true h45)]; rfl, ⟨_, _, _, _, _, _, _, _, _, _, _, _, _, _, _, hwz, ⟨(ps_ok hr hz hs hy m (by omega)).2.1, (ps_ok hr hz hs hy m (by omega)).1.1⟩, rfl⟩⟩
set_option maxRecDepth 20000 in
set_option maxHeartbeats 4000000 in
theorem x_findSpans (hr : rowOK r) (hw : weOK we) (hz : rowZ r) (hs : sinceOK r) (hwz : weZ we) (hy : r 117 + 100 < 1048576) (htw : weZ twe) (htr : rowT tr) : zS G 4 yX3_findSpans cX3_findSpans 2 none [.ref (zad (zb G) 0)] (xM G we r cl seen kept rd nw ud im twe tr tcl bys wo nu len it so at_ be va sp ss al od ab bl bd no fu rest) 0 0 (zU (xM G we r cl seen kept rd nw ud im twe tr tcl bys wo nu len it so at_ be va (spC r we sp 9) ss al od ab bl bd no fu rest)) := by
  refine zS.of (by decide) (Nat.le_of_ble_eq_true rfl) (fun F O hR1 hR2 => ?_)
  have O : zOk G F yX3_findSpans cX3_findSpans 2 none RX3 4 (xM G we r cl seen kept rd nw ud im twe tr tcl bys wo nu len it so at_ be va sp ss al od ab bl bd no fu rest).length := O
  refine z_eq (lv' := [(0, _)]) rfl rfl rfl ?_
  refine z_iconst O (nI 0) dX3_findSpans_0 (by decide) ?_
  refine z_istore_n (lv' := [(0, _), (1, _)]) O dX3_findSpans_1 (by decide) rfl ?_
  refine zdown (P := fun c => Z G F 0 0 (zEnd G F (zU (xM G we r cl seen kept rd nw ud im twe tr tcl bys wo nu len it so at_ be va (spC r we sp 9) ss al od ab bl bd no fu rest)) 0 0) 2 [(0, .ref (zad (zb G) 0)), (1, .int (nI c))] [] (xM G we r cl seen kept rd nw ud im twe tr tcl bys wo nu len it so at_ be va (spC r we sp c) ss al od ab bl bd no fu rest)) (9) ?_ ?_ 
  · refine z_iload_n O dX3_findSpans_2 rfl ?_
    refine z_bipush O (nI 9) dX3_findSpans_3 (by decide) ?_
    refine z_icmp_geN O 33 dX3_findSpans_5 (by decide) (by omega) (by omega) (fun h5 => ?_) (fun h5 => by omega)
    exact z_vret O dX3_findSpans_33 ⟨rfl, rfl⟩
  · intro c hc ih 
    refine z_iload_n O dX3_findSpans_2 rfl ?_
    refine z_bipush O (nI 9) dX3_findSpans_3 (by decide) ?_
    refine z_icmp_geN O 33 dX3_findSpans_5 (by decide) (by omega) (by omega) (fun h5 => by omega) (fun h5 => ?_)
    refine z_aload_n O dX3_findSpans_8 rfl ?_
    refine z_get O dX3_findSpans_9 flX3_34 (by rfl) (by rfl) ?_
    refine z_iload_n O dX3_findSpans_12 rfl ?_
    refine z_aload_n O dX3_findSpans_13 rfl ?_
    refine z_get O dX3_findSpans_14 flX3_12 (by rfl) (by rfl) ?_
    refine z_get O dX3_findSpans_17 flX3_62 (by rfl) (by rfl) ?_
    refine z_iload_n O dX3_findSpans_20 rfl ?_
    refine z_iconst O (nI 0) dX3_findSpans_21 (by decide) ?_
    refine z_iconst O (nI 0) dX3_findSpans_22 (by decide) ?_
    refine z_V3e0 O (s_span xN hr hw hc (by decide) (by decide)) mX0_span lkX3_183 rfl (by rfl) dX3_findSpans_23 (Nat.le_of_ble_eq_true rfl) (by decide) ?_
    refine z_iastN O (by rfl) dX3_findSpans_26 (by rfl) (by omega) (by decide) ?_
    refine z_M (show _ = (xM G we r cl seen kept rd nw ud im twe tr tcl bys wo nu len it so at_ be va (spC r we sp (c + 1)) ss al od ab bl bd no fu rest) from rfl) ?_
    refine z_iincN (lv' := [(0, _), (1, _)]) O 1 dX3_findSpans_27 (by decide) rfl rfl (by decide) ?_
    refine z_goto O 2 dX3_findSpans_30 (by decide) ?_
    exact ih
set_option maxRecDepth 20000 in
set_option maxHeartbeats 4000000 in
theorem x_leastSpanBut (hsp : ∀ c, c < 9 → sp c = spanV r we c) {a b : Option Nat} (hab : obd a) (hbb : obd b) : zS G 2 yX3_leastSpanBut cX3_leastSpanBut 5 (some .int) [.ref (zad (zb G) 0), .int (optI a), .int (optI b)] (xM G we r cl seen kept rd nw ud im twe tr tcl bys wo nu len it so at_ be va sp ss al od ab bl bd no fu rest) 0 0 (zE (.int (nI (lsN (spanV r we) a b 9))) (xM G we r cl seen kept rd nw ud im twe tr tcl bys wo nu len it so at_ be va sp ss al od ab bl bd no fu rest)) := by
  refine zS.of (by decide) (Nat.le_of_ble_eq_true rfl) (fun F O hR1 hR2 => ?_)
  have O : zOk G F yX3_leastSpanBut cX3_leastSpanBut 5 (some .int) RX3 2 (xM G we r cl seen kept rd nw ud im twe tr tcl bys wo nu len it so at_ be va sp ss al od ab bl bd no fu rest).length := O
  refine z_eq (lv' := [(0, _), (1, _), (2, _)]) rfl rfl rfl ?_
  refine z_bipush O (nI 41) dX3_leastSpanBut_0 (by decide) ?_
  refine z_istore_n (lv' := [(0, _), (1, _), (2, _), (3, _)]) O dX3_leastSpanBut_2 (by decide) rfl ?_
  refine z_iconst O (nI 0) dX3_leastSpanBut_3 (by decide) ?_
  refine z_istore (lv' := [(0, _), (1, _), (2, _), (3, _), (4, _)]) O dX3_leastSpanBut_4 (by decide) rfl ?_
  refine zdown (P := fun c => Z G F 0 0 (zEnd G F (zE (.int (nI (lsN (spanV r we) a b 9))) (xM G we r cl seen kept rd nw ud im twe tr tcl bys wo nu len it so at_ be va sp ss al od ab bl bd no fu rest)) 0 0) 6 [(0, .ref (zad (zb G) 0)), (1, .int (optI a)), (2, .int (optI b)), (3, .int (nI (lsN (spanV r we) a b c))), (4, .int (nI c))] [] (xM G we r cl seen kept rd nw ud im twe tr tcl bys wo nu len it so at_ be va sp ss al od ab bl bd no fu rest)) (9) ?_ ?_ 
  · refine z_iload O dX3_leastSpanBut_6 rfl ?_
    refine z_bipush O (nI 9) dX3_leastSpanBut_8 (by decide) ?_
    refine z_icmp_geN O 43 dX3_leastSpanBut_10 (by decide) (by omega) (by omega) (fun h10 => ?_) (fun h10 => by omega)
    refine z_iload_n O dX3_leastSpanBut_43 rfl ?_
    exact z_iret O dX3_leastSpanBut_44 ⟨rfl, rfl⟩
  · intro c hc ih 
    have ha := optI_eq (a := some c) (b := a) (by intro g hg; cases hg; omega) hab
    have hb := optI_eq (a := some c) (b := b) (by intro g hg; cases hg; omega) hbb
    refine z_iload O dX3_leastSpanBut_6 rfl ?_
    refine z_bipush O (nI 9) dX3_leastSpanBut_8 (by decide) ?_
    refine z_icmp_geN O 43 dX3_leastSpanBut_10 (by decide) (by omega) (by omega) (fun h10 => by omega) (fun h10 => ?_)
    refine z_iload O dX3_leastSpanBut_13 rfl ?_
    refine z_iload_n O dX3_leastSpanBut_15 rfl ?_
    refine z_icmp_eq O 37 dX3_leastSpanBut_16 (by decide) (fun h16 => ?_) (fun h16 => ?_)
    · refine z_iincN (lv' := [(0, _), (1, _), (2, _), (3, _), (4, _)]) O 1 dX3_leastSpanBut_37 (by decide) rfl rfl (by decide) ?_
      refine z_goto O 6 dX3_leastSpanBut_40 (by decide) ?_
      first | (rw [show lsN (spanV r we) a b (c + 1) = lsN (spanV r we) a b c from if_pos (Or.inl (ha.mp h16))] at ih; exact ih) | (rw [show lsN (spanV r we) a b (c + 1) = lsN (spanV r we) a b c from if_pos (Or.inr (hb.mp h22))] at ih; exact ih) | (rw [show lsN (spanV r we) a b (c + 1) = min (lsN (spanV r we) a b c) (spanV r we c) from if_neg (fun q => q.elim (fun q => h16 (ha.mpr q)) (fun q => h22 (hb.mpr q))), ← hsp c hc] at ih; exact ih)
    · refine z_iload O dX3_leastSpanBut_19 rfl ?_
      refine z_iload_n O dX3_leastSpanBut_21 rfl ?_
      refine z_icmp_eq O 37 dX3_leastSpanBut_22 (by decide) (fun h22 => ?_) (fun h22 => ?_)
      · refine z_iincN (lv' := [(0, _), (1, _), (2, _), (3, _), (4, _)]) O 1 dX3_leastSpanBut_37 (by decide) rfl rfl (by decide) ?_
        refine z_goto O 6 dX3_leastSpanBut_40 (by decide) ?_
        first | (rw [show lsN (spanV r we) a b (c + 1) = lsN (spanV r we) a b c from if_pos (Or.inl (ha.mp h16))] at ih; exact ih) | (rw [show lsN (spanV r we) a b (c + 1) = lsN (spanV r we) a b c from if_pos (Or.inr (hb.mp h22))] at ih; exact ih) | (rw [show lsN (spanV r we) a b (c + 1) = min (lsN (spanV r we) a b c) (spanV r we c) from if_neg (fun q => q.elim (fun q => h16 (ha.mpr q)) (fun q => h22 (hb.mpr q))), ← hsp c hc] at ih; exact ih)
      · refine z_iload_n O dX3_leastSpanBut_25 rfl ?_
        refine z_aload_n O dX3_leastSpanBut_26 rfl ?_
        refine z_get O dX3_leastSpanBut_27 flX3_34 (by rfl) (by rfl) ?_
        refine z_iload O dX3_leastSpanBut_30 rfl ?_
        refine z_ialdN O dX3_leastSpanBut_32 (by rfl) (by omega) (by decide) ?_
        refine z_S2e0 O (s_minN (by have := lsN_le (spanV r we) a b c; omega) (by rw [hsp c hc]; have := spanV_le r we c; omega)) mJ9_min_7cf53 lkX3_186 dX3_leastSpanBut_33 (Nat.le_of_ble_eq_true rfl) (by decide) ?_
        refine z_istore_n (lv' := [(0, _), (1, _), (2, _), (3, _), (4, _)]) O dX3_leastSpanBut_36 (by decide) rfl ?_
        refine z_iincN (lv' := [(0, _), (1, _), (2, _), (3, _), (4, _)]) O 1 dX3_leastSpanBut_37 (by decide) rfl rfl (by decide) ?_
        refine z_goto O 6 dX3_leastSpanBut_40 (by decide) ?_
        first | (rw [show lsN (spanV r we) a b (c + 1) = lsN (spanV r we) a b c from if_pos (Or.inl (ha.mp h16))] at ih; exact ih) | (rw [show lsN (spanV r we) a b (c + 1) = lsN (spanV r we) a b c from if_pos (Or.inr (hb.mp h22))] at ih; exact ih) | (rw [show lsN (spanV r we) a b (c + 1) = min (lsN (spanV r we) a b c) (spanV r we c) from if_neg (fun q => q.elim (fun q => h16 (ha.mpr q)) (fun q => h22 (hb.mpr q))), ← hsp c hc] at ih; exact ih)
set_option maxRecDepth 20000 in
set_option maxHeartbeats 4000000 in
theorem x_whole (hr : rowOK r) (hw : weOK we) (hz : rowZ r) (hs : sinceOK r) (hwz : weZ we) (hy : r 117 + 100 < 1048576) (htw : weZ twe) (htr : rowT tr) : zS G 5 yX3_whole cX3_whole 1 (some .int) [.ref (zad (zb G) 0)] (xM G we r cl seen kept rd nw ud im twe tr tcl bys wo nu len it so at_ be va sp ss al od ab bl bd no fu rest) 0 0 (zP (fun v M' => v = .int (nI (lsN (spanV r we) none none 9)) ∧ xS G we r seen kept rd nw ud im bys len ab bl bd no fu rest M')) := by
  refine zS.of (by decide) (Nat.le_of_ble_eq_true rfl) (fun F O hR1 hR2 => ?_)
  have O : zOk G F yX3_whole cX3_whole 1 (some .int) RX3 5 (xM G we r cl seen kept rd nw ud im twe tr tcl bys wo nu len it so at_ be va sp ss al od ab bl bd no fu rest).length := O
  refine z_eq (lv' := [(0, _)]) rfl rfl rfl ?_
  refine z_aload_n O dX3_whole_0 rfl ?_
  refine z_V0u0 O (x_findSpans hr hw hz hs hwz hy htw htr) mX3_findSpans lkX3_174 rfl (by rfl) dX3_whole_1 (Nat.le_of_ble_eq_true rfl) (by decide) ?_
  refine z_aload_n O dX3_whole_4 rfl ?_
  refine z_iconst O (-1) dX3_whole_5 (by decide) ?_
  refine z_iconst O (-1) dX3_whole_6 (by decide) ?_
  refine z_V2e0 O (x_leastSpanBut (a := none) (b := none) (fun c hc => spC_at 9 c hc) (by intro g hg; cases hg) (by intro g hg; cases hg)) mX3_leastSpanBut lkX3_177 rfl (by rfl) dX3_whole_7 (Nat.le_of_ble_eq_true rfl) (by decide) ?_
  exact z_iret O dX3_whole_10 ⟨_, rfl, rfl, ⟨_, _, _, _, _, _, _, _, _, _, _, _, _, _, _, htw, htr, rfl⟩⟩
set_option maxRecDepth 20000 in
set_option maxHeartbeats 4000000 in
theorem x_holesB {m : Int32} (hb : ¬ (0 ≤ m ∧ m < nI 41)) : zS G 2 yX3_holes cX3_holes 2 (some .int) [.ref (zad (zb G) 0), .int m] (xM G we r cl seen kept rd nw ud im twe tr tcl bys wo nu len it so at_ be va sp ss al od ab bl bd no fu rest) 0 0 (zE (.int (-2)) (xM G we r cl seen kept rd nw ud im twe tr tcl bys wo nu len it so at_ be va sp ss al od ab bl (bd + 1) no fu rest)) := by
  refine zS.of (by decide) (Nat.le_of_ble_eq_true rfl) (fun F O hR1 hR2 => ?_)
  have O : zOk G F yX3_holes cX3_holes 2 (some .int) RX3 2 (xM G we r cl seen kept rd nw ud im twe tr tcl bys wo nu len it so at_ be va sp ss al od ab bl bd no fu rest).length := O
  refine z_eq (lv' := [(0, _), (1, _)]) rfl rfl rfl ?_
  refine z_iload_n O dX3_holes_0 rfl ?_
  refine z_bipush O (nI 41) dX3_holes_1 (by decide) ?_
  refine z_S2e0 O s_within mX3_within lkX3_54 dX3_holes_3 (Nat.le_of_ble_eq_true rfl) (by decide) ?_
  refine z_if_neB O 16 dX3_holes_6 (by decide) (fun h6 => by exact absurd h6 hb) (fun h6 => ?_)
  refine z_aload_n O dX3_holes_9 rfl ?_
  refine z_bipush O (-2) dX3_holes_10 (by decide) ?_
  refine z_V1e0 O x_refuseB mX3_refuse lkX3_58 rfl (by rfl) dX3_holes_12 (Nat.le_of_ble_eq_true rfl) (by decide) ?_
  exact z_iret O dX3_holes_15 ⟨rfl, rfl⟩
set_option maxRecDepth 20000 in
set_option maxHeartbeats 4000000 in
theorem x_holes (hr : rowOK r) (hw : weOK we) (hz : rowZ r) (hs : sinceOK r) (hwz : weZ we) (hy : r 117 + 100 < 1048576) (htw : weZ twe) (htr : rowT tr) {m : Nat} (hm : m < 41) : zS G 6 yX3_holes cX3_holes 2 (some .int) [.ref (zad (zb G) 0), .int (nI m)] (xM G we r cl seen kept rd nw ud im twe tr tcl bys wo nu len it so at_ be va sp ss al od ab bl bd no fu rest) 0 0 (zP (fun v M' => v = .int (nI (bitsN (holesB (ps we r m)) 9)) ∧ xS G we r seen kept rd nw ud im bys len ab bl bd no fu rest M')) := by
  refine zS.of (by decide) (Nat.le_of_ble_eq_true rfl) (fun F O hR1 hR2 => ?_)
  have O : zOk G F yX3_holes cX3_holes 2 (some .int) RX3 6 (xM G we r cl seen kept rd nw ud im twe tr tcl bys wo nu len it so at_ be va sp ss al od ab bl bd no fu rest).length := O
  refine z_eq (lv' := [(0, _), (1, _)]) rfl rfl rfl ?_
  refine z_iload_n O dX3_holes_0 rfl ?_
  refine z_bipush O (nI 41) dX3_holes_1 (by decide) ?_
  refine z_S2e0 O (s_withinN (by omega) (by omega)) mX3_within lkX3_54 dX3_holes_3 (Nat.le_of_ble_eq_true rfl) (by decide) ?_
  refine z_if_neB O 16 dX3_holes_6 (by decide) (fun h6 => ?_) (fun h6 => by omega)
  refine z_aload_n O dX3_holes_16 rfl ?_
  refine z_iload_n O dX3_holes_17 rfl ?_
  refine z_V1u0 O (x_tryYears hr hw hz hs hwz hy htw htr (by omega)) mX3_tryYears lkX3_158 rfl (by rfl) dX3_holes_18 (Nat.le_of_ble_eq_true rfl) (by decide) ?_
  refine z_aload_n O dX3_holes_21 rfl ?_
  refine z_get O dX3_holes_22 flX3_23 (by rfl) (by rfl) ?_
  refine z_V0e0 O (s_holeBits xT (ps_ok hr hz hs hy m (by omega)).1) mX0_holeBits lkX3_103 rfl (by rfl) dX3_holes_25 (Nat.le_of_ble_eq_true rfl) (by decide) ?_
  exact z_iret O dX3_holes_28 ⟨_, rfl, rfl, ⟨_, _, _, _, _, _, _, _, _, _, _, _, _, _, _, hwz, ⟨(ps_ok hr hz hs hy m (by omega)).2.1, (ps_ok hr hz hs hy m (by omega)).1.1⟩, rfl⟩⟩
end XS
