/-! ===== DarnedSock: split, look, odds, drawn, status ===== -/
theorem zbnf {b : Bool} (h : ¬ b = false) : b = true := by cases b with
  | false => exact absurd rfl h
  | true => rfl
def sameN (r we : Nat → Nat) (c kinds m k : Nat) : Nat → Nat
  | 0 => 0
  | j + 1 => if bitN kinds j = 1 ∧ lftC r we c j m = lftC r we c k m then sameN r we c kinds m k j + 1 else sameN r we c kinds m k j
def mostN (r we : Nat → Nat) (c kinds m : Nat) : Nat → Nat
  | 0 => 0
  | k + 1 => if bitN kinds k = 0 then mostN r we c kinds m k else max (mostN r we c kinds m k) (sameN r we c kinds m k 6)
theorem sameN_le (r we : Nat → Nat) (c kinds m k : Nat) : ∀ j, sameN r we c kinds m k j ≤ j
  | 0 => Nat.le_refl _
  | j + 1 => by
    have := sameN_le r we c kinds m k j
    unfold sameN
    split <;> omega
theorem mostN_le (r we : Nat → Nat) (c kinds m : Nat) : ∀ k, mostN r we c kinds m k ≤ 6
  | 0 => by simp [mostN]
  | k + 1 => by
    have := mostN_le r we c kinds m k
    have h2 := sameN_le r we c kinds m k 6
    unfold mostN
    split <;> omega
def lkN (f : Nat → Nat) : Nat → Option Nat × Nat
  | 0 => (none, 7)
  | m + 1 => if f m < (lkN f m).2 then (some m, f m) else lkN f m
theorem lkN_le (f : Nat → Nat) (hf : ∀ m, f m ≤ 6) : ∀ m, (lkN f m).2 ≤ 7
  | 0 => Nat.le_refl _
  | m + 1 => by
    have h1 := lkN_le f hf m
    have h2 := hf m
    unfold lkN
    split
    · show f m ≤ 7; omega
    · exact h1
theorem bit_lt (m c : Nat) : bitN m c < 2 := Nat.mod_lt _ (by decide)
def drX (x : Nat) : Nat := (x * 1103515245 + 12345) % 2147483648
def drW (x : Nat) : Nat := x / 65536 % 6
/-- a year that is drawn, cell by cell: the number, and how cells wear then -/
def drC (x : Nat) (we : Nat → Nat) : Nat → Nat × (Nat → Nat)
  | 0 => (x, we)
  | c + 1 => (drX (drC x we c).1, updN (drC x we c).2 c (drW (drX (drC x we c).1)))
def drY (s : Nat × (Nat → Nat) × (Nat → Nat)) : Nat → Nat × (Nat → Nat) × (Nat → Nat)
  | 0 => s
  | i + 1 => ((drC (drY s i).1 (drY s i).2.1 9).1, (drC (drY s i).1 (drY s i).2.1 9).2, passN (drY s i).2.2 (drC (drY s i).1 (drY s i).2.1 9).2)
theorem drX_lt (x : Nat) : drX x < 2147483648 := Nat.mod_lt _ (by decide)
theorem drC_ok {x : Nat} {we : Nat → Nat} (hx : x < 2147483648) (hw : weOK we) (hz : weZ we) : ∀ c, c ≤ 9 → (drC x we c).1 < 2147483648 ∧ weOK (drC x we c).2 ∧ weZ (drC x we c).2
  | 0, _ => ⟨hx, hw, hz⟩
  | c + 1, hc => by
    obtain ⟨h1, h2, h3⟩ := drC_ok hx hw hz c (by omega)
    have h4 : drW (drX (drC x we c).1) < 6 := Nat.mod_lt _ (by decide)
    refine ⟨drX_lt _, updN_lt h2 (by omega), fun j hj => ?_⟩
    show updN _ _ _ j = 0
    rw [updN_n (by omega)]
    exact h3 j hj
theorem drY_ok {s : Nat × (Nat → Nat) × (Nat → Nat)} (hx : s.1 < 2147483648) (hw : weOK s.2.1) (hwz : weZ s.2.1) (hr : rowOK s.2.2) (hz : rowZ s.2.2) (hy : s.2.2 117 + 20 < 1048576) : ∀ i, i ≤ 20 → (drY s i).1 < 2147483648 ∧ weOK (drY s i).2.1 ∧ weZ (drY s i).2.1 ∧ rowOK (drY s i).2.2 ∧ rowZ (drY s i).2.2 ∧ (drY s i).2.2 117 = s.2.2 117 + i
  | 0, _ => ⟨hx, hw, hwz, hr, hz, rfl⟩
  | i + 1, hi => by
    obtain ⟨h1, h2, h3, h4, h5, h6⟩ := drY_ok hx hw hwz hr hz hy i (by omega)
    obtain ⟨g1, g2, g3⟩ := drC_ok h1 h2 h3 9 (by omega)
    refine ⟨g1, g2, g3, rowOK_pass h4 (by omega), rowZ_pass h5 h4, ?_⟩
    show passN _ _ 117 = _
    unfold passN
    rw [updN_s, passC_year h4 9 (by omega), h6]
    omega
section XS
variable {G : zG} {we r cl seen kept : Nat → Nat} {rd nw ud : Nat} {im : Nat → Option Nat} {twe tr tcl bys wo nu : Nat → Nat} {len it so at_ be va : Nat} {sp ss al od : Nat → Nat} {ab bl : Int64} {bd no fu : Nat} {rest : List va_E}
set_option maxRecDepth 20000 in
set_option maxHeartbeats 4000000 in
theorem x_findSplitSpans (hr : rowOK r) (hw : weOK we) (hz : rowZ r) (hs : sinceOK r) (hwz : weZ we) (hy : r 117 + 100 < 1048576) (htw : weZ twe) (htr : rowT tr) {n kd : Nat} (h2 : 2 ≤ n) (h30 : n ≤ 30) (hkd : kd < 6) : zS G 4 yX3_findSplitSpans cX3_findSplitSpans 5 none [.ref (zad (zb G) 0), .int (nI n), .int (nI kd)] (xM G we r cl seen kept rd nw ud im twe tr tcl bys wo nu len it so at_ be va sp ss al od ab bl bd no fu rest) 0 0 (zPU (fun M' => ∃ s' : Nat → Nat, (∀ b, b < 9 → r (108 + b) < 3 → ∀ i, 1 ≤ i → i < n → s' (b * 30 + i) = spA r we kd b i) ∧ M' = (xM G we r cl seen kept rd nw ud im twe tr tcl bys wo nu len it so at_ be va sp s' al od ab bl bd no fu rest))) := by
  refine zS.of (by decide) (Nat.le_of_ble_eq_true rfl) (fun F O hR1 hR2 => ?_)
  have O : zOk G F yX3_findSplitSpans cX3_findSplitSpans 5 none RX3 4 (xM G we r cl seen kept rd nw ud im twe tr tcl bys wo nu len it so at_ be va sp ss al od ab bl bd no fu rest).length := O
  refine z_eq (lv' := [(0, _), (1, _), (2, _)]) rfl rfl rfl ?_
  refine z_iconst O (nI 0) dX3_findSplitSpans_0 (by decide) ?_
  refine z_istore_n (lv' := [(0, _), (1, _), (2, _), (3, _)]) O dX3_findSplitSpans_1 (by decide) rfl ?_
  refine zdown (P := fun c => ∀ s' : Nat → Nat, (∀ b, b < c → r (108 + b) < 3 → ∀ i, 1 ≤ i → i < n → s' (b * 30 + i) = spA r we kd b i) → Z G F 0 0 (zEnd G F (zPU (fun M' => ∃ s' : Nat → Nat, (∀ b, b < 9 → r (108 + b) < 3 → ∀ i, 1 ≤ i → i < n → s' (b * 30 + i) = spA r we kd b i) ∧ M' = (xM G we r cl seen kept rd nw ud im twe tr tcl bys wo nu len it so at_ be va sp s' al od ab bl bd no fu rest))) 0 0) 2 [(0, .ref (zad (zb G) 0)), (1, .int (nI n)), (2, .int (nI kd)), (3, .int (nI c))] [] (xM G we r cl seen kept rd nw ud im twe tr tcl bys wo nu len it so at_ be va sp s' al od ab bl bd no fu rest)) (9) ?_ ?_ ss (fun b hb => absurd hb (Nat.not_lt_zero b))
  · intro s' hs'
    refine z_iload_n O dX3_findSplitSpans_2 rfl ?_
    refine z_bipush O (nI 9) dX3_findSplitSpans_3 (by decide) ?_
    refine z_icmp_geN O 72 dX3_findSplitSpans_5 (by decide) (by omega) (by omega) (fun h5 => ?_) (fun h5 => by omega)
    exact z_vret O dX3_findSplitSpans_72 ⟨rfl, s', hs', rfl⟩
  · intro c hc ih s' hs'
    refine z_iload_n O dX3_findSplitSpans_2 rfl ?_
    refine z_bipush O (nI 9) dX3_findSplitSpans_3 (by decide) ?_
    refine z_icmp_geN O 72 dX3_findSplitSpans_5 (by decide) (by omega) (by omega) (fun h5 => by omega) (fun h5 => ?_)
    refine z_aload_n O dX3_findSplitSpans_8 rfl ?_
    refine z_get O dX3_findSplitSpans_9 flX3_12 (by rfl) (by rfl) ?_
    refine z_get O dX3_findSplitSpans_12 flX3_62 (by rfl) (by rfl) ?_
    refine z_iload_n O dX3_findSplitSpans_15 rfl ?_
    refine z_V1e0 O (s_hasRoom xN hr hc) mX0_hasRoom lkX3_180 rfl (by rfl) dX3_findSplitSpans_16 (Nat.le_of_ble_eq_true rfl) (by decide) ?_
    refine z_if_neB O 25 dX3_findSplitSpans_19 (by decide) (fun h19 => ?_) (fun h19 => ?_)
    · refine z_iconst O (nI 1) dX3_findSplitSpans_25 (by decide) ?_
      refine z_istore (lv' := [(0, _), (1, _), (2, _), (3, _), (4, _)]) O dX3_findSplitSpans_26 (by decide) rfl ?_
      refine zdownF (P := fun i => ∀ s'' : Nat → Nat, (∀ b, b < c → r (108 + b) < 3 → ∀ i, 1 ≤ i → i < n → s'' (b * 30 + i) = spA r we kd b i) → (∀ j, 1 ≤ j → j < i → s'' (c * 30 + j) = spA r we kd c j) → Z G F 0 0 (zEnd G F (zPU (fun M' => ∃ s' : Nat → Nat, (∀ b, b < 9 → r (108 + b) < 3 → ∀ i, 1 ≤ i → i < n → s' (b * 30 + i) = spA r we kd b i) ∧ M' = (xM G we r cl seen kept rd nw ud im twe tr tcl bys wo nu len it so at_ be va sp s' al od ab bl bd no fu rest))) 0 0) 28 [(0, .ref (zad (zb G) 0)), (1, .int (nI n)), (2, .int (nI kd)), (3, .int (nI c)), (4, .int (nI i))] [] (xM G we r cl seen kept rd nw ud im twe tr tcl bys wo nu len it so at_ be va sp s'' al od ab bl bd no fu rest)) n 1 (by omega) ?_ ?_ s' hs' (fun j h1 h2 => absurd h1 (by omega))
      · intro s'' hs2 hs3
        refine z_iload O dX3_findSplitSpans_28 rfl ?_
        refine z_iload_n O dX3_findSplitSpans_30 rfl ?_
        refine z_icmp_geN O 66 dX3_findSplitSpans_31 (by decide) (by omega) (by omega) (fun h31 => ?_) (fun h31 => by omega)
        refine z_iincN (lv' := [(0, _), (1, _), (2, _), (3, _), (4, _)]) O 1 dX3_findSplitSpans_66 (by decide) rfl rfl (by decide) ?_
        refine z_goto O 2 dX3_findSplitSpans_69 (by decide) ?_
        refine z_kp (lv' := [(0, _), (1, _), (2, _), (3, _)]) [0, 1, 2, 3] rfl ?_
        exact ih _ (fun b hb hrm i h1 h2 => by
          by_cases e : b = c
          · subst e; exact hs3 i h1 h2
          · exact hs2 b (by omega) hrm i h1 h2)
      · intro i h_lo hi ih s'' hs2 hs3
        refine z_iload O dX3_findSplitSpans_28 rfl ?_
        refine z_iload_n O dX3_findSplitSpans_30 rfl ?_
        refine z_icmp_geN O 66 dX3_findSplitSpans_31 (by decide) (by omega) (by omega) (fun h31 => by omega) (fun h31 => ?_)
        refine z_aload_n O dX3_findSplitSpans_34 rfl ?_
        refine z_get O dX3_findSplitSpans_35 flX3_38 (by rfl) (by rfl) ?_
        refine z_iload_n O dX3_findSplitSpans_38 rfl ?_
        refine z_bipush O (nI 30) dX3_findSplitSpans_39 (by decide) ?_
        refine z_imulN O dX3_findSplitSpans_41 ?_
        refine z_iload O dX3_findSplitSpans_42 rfl ?_
        refine z_iaddN O dX3_findSplitSpans_44 ?_
        refine z_aload_n O dX3_findSplitSpans_45 rfl ?_
        refine z_get O dX3_findSplitSpans_46 flX3_12 (by rfl) (by rfl) ?_
        refine z_get O dX3_findSplitSpans_49 flX3_62 (by rfl) (by rfl) ?_
        refine z_iload_n O dX3_findSplitSpans_52 rfl ?_
        refine z_iload_n O dX3_findSplitSpans_53 rfl ?_
        refine z_iload O dX3_findSplitSpans_54 rfl ?_
        refine z_V3e0 O (s_span xN hr hw hc (by omega) (by omega)) mX0_span lkX3_183 rfl (by rfl) dX3_findSplitSpans_56 (Nat.le_of_ble_eq_true rfl) (by decide) ?_
        refine z_iastN O (by rfl) dX3_findSplitSpans_59 (by rfl) (by omega) (by decide) ?_
        refine z_M (show _ = (xM G we r cl seen kept rd nw ud im twe tr tcl bys wo nu len it so at_ be va sp (updN s'' (c * 30 + i) (spA r we kd c i)) al od ab bl bd no fu rest) from rfl) ?_
        refine z_iincN (lv' := [(0, _), (1, _), (2, _), (3, _), (4, _)]) O 1 dX3_findSplitSpans_60 (by decide) rfl rfl (by decide) ?_
        refine z_goto O 28 dX3_findSplitSpans_63 (by decide) ?_
        exact ih _ (fun b hb hrm j h1 h2 => by rw [updN_n (by omega)]; exact hs2 b hb hrm j h1 h2) (fun j h1 h2 => by
          by_cases e : j = i
          · subst e; exact updN_s
          · rw [updN_n (by omega)]; exact hs3 j h1 (by omega))
    · refine z_goto O 66 dX3_findSplitSpans_22 (by decide) ?_
      refine z_iincN (lv' := [(0, _), (1, _), (2, _), (3, _)]) O 1 dX3_findSplitSpans_66 (by decide) rfl rfl (by decide) ?_
      refine z_goto O 2 dX3_findSplitSpans_69 (by decide) ?_
      exact ih _ (fun b hb hrm i h1 h2 => by
        by_cases e : b = c
        · subst e; exact absurd hrm h19
        · exact hs' b (by omega) hrm i h1 h2)
set_option maxRecDepth 20000 in
set_option maxHeartbeats 4000000 in
theorem x_splitSpan {n kd : Nat} (hss : ∀ b, b < 9 → r (108 + b) < 3 → ∀ i, 1 ≤ i → i < n → ss (b * 30 + i) = spA r we kd b i) {a b i ot : Nat} (ha : a < 9) (hb : b < 9) (ra : r (108 + a) < 3) (rb : r (108 + b) < 3) (h1 : 1 ≤ i) (h2 : i < n) (hn : n ≤ 30) (hot : ot ≤ 41) : zS G 2 yX3_splitSpan cX3_splitSpan 7 (some .int) [.ref (zad (zb G) 0), .int (nI a), .int (nI b), .int (nI n), .int (nI i), .int (nI ot)] (xM G we r cl seen kept rd nw ud im twe tr tcl bys wo nu len it so at_ be va sp ss al od ab bl bd no fu rest) 0 0 (zE (.int (nI (oneS r we n kd a b ot i))) (xM G we r cl seen kept rd nw ud im twe tr tcl bys wo nu len it so at_ be va sp ss al od ab bl bd no fu rest)) := by
  refine zS.of (by decide) (Nat.le_of_ble_eq_true rfl) (fun F O hR1 hR2 => ?_)
  have O : zOk G F yX3_splitSpan cX3_splitSpan 7 (some .int) RX3 2 (xM G we r cl seen kept rd nw ud im twe tr tcl bys wo nu len it so at_ be va sp ss al od ab bl bd no fu rest).length := O
  refine z_eq (lv' := [(0, _), (1, _), (2, _), (3, _), (4, _), (5, _)]) rfl rfl rfl ?_
  refine z_aload_n O dX3_splitSpan_0 rfl ?_
  refine z_get O dX3_splitSpan_1 flX3_38 (by rfl) (by rfl) ?_
  refine z_iload_n O dX3_splitSpan_4 rfl ?_
  refine z_bipush O (nI 30) dX3_splitSpan_5 (by decide) ?_
  refine z_imulN O dX3_splitSpan_7 ?_
  refine z_iload O dX3_splitSpan_8 rfl ?_
  refine z_iaddN O dX3_splitSpan_10 ?_
  refine z_ialdN O dX3_splitSpan_11 (by rfl) (by omega) (by decide) ?_
  refine z_top (v' := .int (nI (spA r we kd a i))) (congrArg Value.int (by rw [hss a ha ra i h1 h2])) ?_
  refine z_aload_n O dX3_splitSpan_12 rfl ?_
  refine z_get O dX3_splitSpan_13 flX3_38 (by rfl) (by rfl) ?_
  refine z_iload_n O dX3_splitSpan_16 rfl ?_
  refine z_bipush O (nI 30) dX3_splitSpan_17 (by decide) ?_
  refine z_imulN O dX3_splitSpan_19 ?_
  refine z_iload_n O dX3_splitSpan_20 rfl ?_
  refine z_iaddN O dX3_splitSpan_21 ?_
  refine z_iload O dX3_splitSpan_22 rfl ?_
  refine z_isubN O dX3_splitSpan_24 (by omega) ?_
  refine z_ialdN O dX3_splitSpan_25 (by rfl) (by omega) (by decide) ?_
  refine z_top (v' := .int (nI (spA r we kd b (n - i)))) (congrArg Value.int (by rw [show b * 30 + n - i = b * 30 + (n - i) by omega, hss b hb rb (n - i) (by omega) (by omega)])) ?_
  refine z_S2e0 O (s_minN (by have := spA_le r we kd a i; omega) (by have := spA_le r we kd b (n - i); omega)) mJ9_min_7cf53 lkX3_186 dX3_splitSpan_26 (Nat.le_of_ble_eq_true rfl) (by decide) ?_
  refine z_istore (lv' := [(0, _), (1, _), (2, _), (3, _), (4, _), (5, _), (6, _)]) O dX3_splitSpan_29 (by decide) rfl ?_
  refine z_iload O dX3_splitSpan_31 rfl ?_
  refine z_iload O dX3_splitSpan_33 rfl ?_
  refine z_S2e0 O (s_minN (by have := spA_le r we kd a i; omega) (by omega)) mJ9_min_7cf53 lkX3_186 dX3_splitSpan_35 (Nat.le_of_ble_eq_true rfl) (by decide) ?_
  exact z_iret O dX3_splitSpan_38 ⟨rfl, rfl⟩
set_option maxRecDepth 20000 in
set_option maxHeartbeats 4000000 in
theorem x_bestSplit  {n kd : Nat} (hss : ∀ b, b < 9 → r (108 + b) < 3 → ∀ i, 1 ≤ i → i < n → ss (b * 30 + i) = spA r we kd b i) {a b ot : Nat} (ha : a < 9) (hb : b < 9) (ra : r (108 + a) < 3) (rb : r (108 + b) < 3) (h2 : 2 ≤ n) (hn : n ≤ 30) (hot : ot ≤ 41) : zS G 3 yX3_bestSplit cX3_bestSplit 7 (some .int) [.ref (zad (zb G) 0), .int (nI a), .int (nI b), .int (nI n), .int (nI ot)] (xM G we r cl seen kept rd nw ud im twe tr tcl bys wo nu len it so at_ be va sp ss al od ab bl bd no fu rest) 0 0 (zE (.int (nI (bspN (oneS r we n kd a b ot) (n - 2)))) (xM G we r cl seen kept rd nw ud im twe tr tcl bys wo nu len it so at_ be va sp ss al od ab bl bd no fu rest)) := by
  refine zS.of (by decide) (Nat.le_of_ble_eq_true rfl) (fun F O hR1 hR2 => ?_)
  have O : zOk G F yX3_bestSplit cX3_bestSplit 7 (some .int) RX3 3 (xM G we r cl seen kept rd nw ud im twe tr tcl bys wo nu len it so at_ be va sp ss al od ab bl bd no fu rest).length := O
  refine z_eq (lv' := [(0, _), (1, _), (2, _), (3, _), (4, _)]) rfl rfl rfl ?_
  refine z_iconst O (nI 1) dX3_bestSplit_0 (by decide) ?_
  refine z_istore (lv' := [(0, _), (1, _), (2, _), (3, _), (4, _), (5, _)]) O dX3_bestSplit_1 (by decide) rfl ?_
  refine z_iconst O (nI 2) dX3_bestSplit_3 (by decide) ?_
  refine z_istore (lv' := [(0, _), (1, _), (2, _), (3, _), (4, _), (5, _), (6, _)]) O dX3_bestSplit_4 (by decide) rfl ?_
  refine zdownF (P := fun i => Z G F 0 0 (zEnd G F (zE (.int (nI (bspN (oneS r we n kd a b ot) (n - 2)))) (xM G we r cl seen kept rd nw ud im twe tr tcl bys wo nu len it so at_ be va sp ss al od ab bl bd no fu rest)) 0 0) 6 [(0, .ref (zad (zb G) 0)), (1, .int (nI a)), (2, .int (nI b)), (3, .int (nI n)), (4, .int (nI ot)), (5, .int (nI (bspN (oneS r we n kd a b ot) (i - 2)))), (6, .int (nI i))] [] (xM G we r cl seen kept rd nw ud im twe tr tcl bys wo nu len it so at_ be va sp ss al od ab bl bd no fu rest)) n 2 (by omega) ?_ ?_ 
  · refine z_iload O dX3_bestSplit_6 rfl ?_
    refine z_iload_n O dX3_bestSplit_8 rfl ?_
    refine z_icmp_geN O 47 dX3_bestSplit_9 (by decide) (by omega) (by omega) (fun h9 => ?_) (fun h9 => by omega)
    refine z_iload O dX3_bestSplit_47 rfl ?_
    exact z_iret O dX3_bestSplit_49 ⟨rfl, rfl⟩
  · intro i h_lo hi ih 
    have hbi := bspN_in (oneS r we n kd a b ot) (i - 2)
    have hbl : bspN (oneS r we n kd a b ot) (i - 2) < n := by omega
    refine z_iload O dX3_bestSplit_6 rfl ?_
    refine z_iload_n O dX3_bestSplit_8 rfl ?_
    refine z_icmp_geN O 47 dX3_bestSplit_9 (by decide) (by omega) (by omega) (fun h9 => by omega) (fun h9 => ?_)
    refine z_aload_n O dX3_bestSplit_12 rfl ?_
    refine z_iload_n O dX3_bestSplit_13 rfl ?_
    refine z_iload_n O dX3_bestSplit_14 rfl ?_
    refine z_iload_n O dX3_bestSplit_15 rfl ?_
    refine z_iload O dX3_bestSplit_16 rfl ?_
    refine z_iload O dX3_bestSplit_18 rfl ?_
    refine z_V5e0 O (x_splitSpan hss ha hb ra rb (by omega) hi hn hot) mX3_splitSpan lkX3_198 rfl (by rfl) dX3_bestSplit_20 (Nat.le_of_ble_eq_true rfl) (by decide) ?_
    refine z_aload_n O dX3_bestSplit_23 rfl ?_
    refine z_iload_n O dX3_bestSplit_24 rfl ?_
    refine z_iload_n O dX3_bestSplit_25 rfl ?_
    refine z_iload_n O dX3_bestSplit_26 rfl ?_
    refine z_iload O dX3_bestSplit_27 rfl ?_
    refine z_iload O dX3_bestSplit_29 rfl ?_
    refine z_V5e0 O (x_splitSpan hss ha hb ra rb hbi.1 (by omega) hn hot) mX3_splitSpan lkX3_198 rfl (by rfl) dX3_bestSplit_31 (Nat.le_of_ble_eq_true rfl) (by decide) ?_
    refine z_icmp_leN O 41 dX3_bestSplit_34 (by decide) (by first | (have : oneS r we n kd a b ot i ≤ ot := Nat.min_le_right _ _; omega) | (have : oneS r we n kd a b ot (bspN (oneS r we n kd a b ot) (i - 2)) ≤ ot := Nat.min_le_right _ _; omega)) (by first | (have : oneS r we n kd a b ot i ≤ ot := Nat.min_le_right _ _; omega) | (have : oneS r we n kd a b ot (bspN (oneS r we n kd a b ot) (i - 2)) ≤ ot := Nat.min_le_right _ _; omega)) (fun h34 => ?_) (fun h34 => ?_)
    · refine z_iincN (lv' := [(0, _), (1, _), (2, _), (3, _), (4, _), (5, _), (6, _)]) O 1 dX3_bestSplit_41 (by decide) rfl rfl (by decide) ?_
      refine z_goto O 6 dX3_bestSplit_44 (by decide) ?_
      have e1 : i + 1 - 2 = (i - 2) + 1 := by omega
      have e2 : i - 2 + 2 = i := by omega
      rw [e1] at ih
      first
      | (rw [show bspN (oneS r we n kd a b ot) (i - 2 + 1) = bspN (oneS r we n kd a b ot) (i - 2) from if_neg (by rw [e2]; omega)] at ih; exact ih)
      | (rw [show bspN (oneS r we n kd a b ot) (i - 2 + 1) = i - 2 + 2 from if_pos (by rw [e2]; omega), e2] at ih; exact ih)
    · refine z_iload O dX3_bestSplit_37 rfl ?_
      refine z_istore (lv' := [(0, _), (1, _), (2, _), (3, _), (4, _), (5, _), (6, _)]) O dX3_bestSplit_39 (by decide) rfl ?_
      refine z_iincN (lv' := [(0, _), (1, _), (2, _), (3, _), (4, _), (5, _), (6, _)]) O 1 dX3_bestSplit_41 (by decide) rfl rfl (by decide) ?_
      refine z_goto O 6 dX3_bestSplit_44 (by decide) ?_
      have e1 : i + 1 - 2 = (i - 2) + 1 := by omega
      have e2 : i - 2 + 2 = i := by omega
      rw [e1] at ih
      first
      | (rw [show bspN (oneS r we n kd a b ot) (i - 2 + 1) = bspN (oneS r we n kd a b ot) (i - 2) from if_neg (by rw [e2]; omega)] at ih; exact ih)
      | (rw [show bspN (oneS r we n kd a b ot) (i - 2 + 1) = i - 2 + 2 from if_pos (by rw [e2]; omega), e2] at ih; exact ih)
set_option maxRecDepth 20000 in
set_option maxHeartbeats 4000000 in
theorem x_splitB {n kd f : Int32} (hb : ¬ ((nI 2 ≤ n ∧ n ≤ nI 30) ∧ (0 ≤ kd ∧ kd < nI 6) ∧ (nI 0 ≤ f ∧ f ≤ nI 2))) : zS G 2 yX3_split cX3_split 12 (some .int) [.ref (zad (zb G) 0), .int n, .int kd, .int f] (xM G we r cl seen kept rd nw ud im twe tr tcl bys wo nu len it so at_ be va sp ss al od ab bl bd no fu rest) 0 0 (zE (.int (-2)) (xM G we r cl seen kept rd nw ud im twe tr tcl bys wo nu len it so at_ be va sp ss al od ab bl (bd + 1) no fu rest)) := by
  refine zS.of (by decide) (Nat.le_of_ble_eq_true rfl) (fun F O hR1 hR2 => ?_)
  have O : zOk G F yX3_split cX3_split 12 (some .int) RX3 2 (xM G we r cl seen kept rd nw ud im twe tr tcl bys wo nu len it so at_ be va sp ss al od ab bl bd no fu rest).length := O
  refine z_eq (lv' := [(0, _), (1, _), (2, _), (3, _)]) rfl rfl rfl ?_
  refine z_iload_n O dX3_split_0 rfl ?_
  refine z_iconst O (nI 2) dX3_split_1 (by decide) ?_
  refine z_bipush O (nI 30) dX3_split_2 (by decide) ?_
  refine z_S3e0 O s_between mX3_between lkX3_96 dX3_split_4 (Nat.le_of_ble_eq_true rfl) (by decide) ?_
  refine z_if_eqB O 28 dX3_split_7 (by decide) (fun h7 => ?_) (fun h7 => ?_)
  · refine z_aload_n O dX3_split_28 rfl ?_
    refine z_bipush O (-2) dX3_split_29 (by decide) ?_
    refine z_V1e0 O x_refuseB mX3_refuse lkX3_58 rfl (by rfl) dX3_split_31 (Nat.le_of_ble_eq_true rfl) (by decide) ?_
    exact z_iret O dX3_split_34 ⟨rfl, rfl⟩
  · refine z_iload_n O dX3_split_10 rfl ?_
    refine z_bipush O (nI 6) dX3_split_11 (by decide) ?_
    refine z_S2e0 O s_within mX3_within lkX3_54 dX3_split_13 (Nat.le_of_ble_eq_true rfl) (by decide) ?_
    refine z_if_eqB O 28 dX3_split_16 (by decide) (fun h16 => ?_) (fun h16 => ?_)
    · refine z_aload_n O dX3_split_28 rfl ?_
      refine z_bipush O (-2) dX3_split_29 (by decide) ?_
      refine z_V1e0 O x_refuseB mX3_refuse lkX3_58 rfl (by rfl) dX3_split_31 (Nat.le_of_ble_eq_true rfl) (by decide) ?_
      exact z_iret O dX3_split_34 ⟨rfl, rfl⟩
    · refine z_iload_n O dX3_split_19 rfl ?_
      refine z_iconst O (nI 0) dX3_split_20 (by decide) ?_
      refine z_iconst O (nI 2) dX3_split_21 (by decide) ?_
      refine z_S3e0 O s_between mX3_between lkX3_96 dX3_split_22 (Nat.le_of_ble_eq_true rfl) (by decide) ?_
      refine z_if_neB O 35 dX3_split_25 (by decide) (fun h25 => ?_) (fun h25 => ?_)
      · exact absurd ⟨h7, h16, h25⟩ hb --stop
      · refine z_aload_n O dX3_split_28 rfl ?_
        refine z_bipush O (-2) dX3_split_29 (by decide) ?_
        refine z_V1e0 O x_refuseB mX3_refuse lkX3_58 rfl (by rfl) dX3_split_31 (Nat.le_of_ble_eq_true rfl) (by decide) ?_
        exact z_iret O dX3_split_34 ⟨rfl, rfl⟩
set_option maxRecDepth 20000 in
set_option maxHeartbeats 4000000 in
theorem x_split (hr : rowOK r) (hw : weOK we) (hz : rowZ r) (hs : sinceOK r) (hwz : weZ we) (hy : r 117 + 100 < 1048576) (htw : weZ twe) (htr : rowT tr) {n kd f : Nat} (h1 : 2 ≤ n) (h2 : n ≤ 30) (h3 : kd < 6) (h4 : f ≤ 2) : zS G 5 yX3_split cX3_split 12 (some .int) [.ref (zad (zb G) 0), .int (nI n), .int (nI kd), .int (nI f)] (xM G we r cl seen kept rd nw ud im twe tr tcl bys wo nu len it so at_ be va sp ss al od ab bl bd no fu rest) 0 0 (zP (fun v M' => v = .int (if f = 0 then optI ((spO r we n kd 9).map (fun q => q.1)) else if f = 1 then optI ((spO r we n kd 9).map (fun q => q.2.1)) else optI ((spO r we n kd 9).map (fun q => q.2.2))) ∧ xS G we r seen kept rd nw ud im bys len ab bl bd no fu rest M')) := by
  refine zS.of (by decide) (Nat.le_of_ble_eq_true rfl) (fun F O hR1 hR2 => ?_)
  have O : zOk G F yX3_split cX3_split 12 (some .int) RX3 5 (xM G we r cl seen kept rd nw ud im twe tr tcl bys wo nu len it so at_ be va sp ss al od ab bl bd no fu rest).length := O
  refine z_eq (lv' := [(0, _), (1, _), (2, _), (3, _)]) rfl rfl rfl ?_
  refine z_iload_n O dX3_split_0 rfl ?_
  refine z_iconst O (nI 2) dX3_split_1 (by decide) ?_
  refine z_bipush O (nI 30) dX3_split_2 (by decide) ?_
  refine z_S3e0 O (s_betweenN (by omega) (by omega) (by omega)) mX3_between lkX3_96 dX3_split_4 (Nat.le_of_ble_eq_true rfl) (by decide) ?_
  refine z_if_eqB O 28 dX3_split_7 (by decide) (fun h7 => by omega) (fun h7 => ?_)
  refine z_iload_n O dX3_split_10 rfl ?_
  refine z_bipush O (nI 6) dX3_split_11 (by decide) ?_
  refine z_S2e0 O (s_withinN (by omega) (by omega)) mX3_within lkX3_54 dX3_split_13 (Nat.le_of_ble_eq_true rfl) (by decide) ?_
  refine z_if_eqB O 28 dX3_split_16 (by decide) (fun h16 => by omega) (fun h16 => ?_)
  refine z_iload_n O dX3_split_19 rfl ?_
  refine z_iconst O (nI 0) dX3_split_20 (by decide) ?_
  refine z_iconst O (nI 2) dX3_split_21 (by decide) ?_
  refine z_S3e0 O (s_betweenN (by omega) (by omega) (by omega)) mX3_between lkX3_96 dX3_split_22 (Nat.le_of_ble_eq_true rfl) (by decide) ?_
  refine z_if_neB O 35 dX3_split_25 (by decide) (fun h25 => ?_) (fun h25 => by omega)
  refine z_aload_n O dX3_split_35 rfl ?_
  refine z_V0u0 O (x_findSpans hr hw hz hs hwz hy htw htr) mX3_findSpans lkX3_174 rfl (by rfl) dX3_split_36 (Nat.le_of_ble_eq_true rfl) (by decide) ?_
  refine z_aload_n O dX3_split_39 rfl ?_
  refine z_iload_n O dX3_split_40 rfl ?_
  refine z_iload_n O dX3_split_41 rfl ?_
  refine z_V2pu0 O (x_findSplitSpans hr hw hz hs hwz hy htw htr h1 h2 h3) mX3_findSplitSpans lkX3_191 rfl (by rfl) dX3_split_42 (Nat.le_of_ble_eq_true rfl) (by decide) (fun M' hq => ?_)
  obtain ⟨s', hss, rfl⟩ := hq
  refine z_iconst O (-1) dX3_split_45 (by decide) ?_
  refine z_istore (lv' := [(0, _), (1, _), (2, _), (3, _), (4, _)]) O dX3_split_46 (by decide) rfl ?_
  refine z_iconst O (-1) dX3_split_48 (by decide) ?_
  refine z_istore (lv' := [(0, _), (1, _), (2, _), (3, _), (4, _), (5, _)]) O dX3_split_49 (by decide) rfl ?_
  refine z_iconst O (-1) dX3_split_51 (by decide) ?_
  refine z_istore (lv' := [(0, _), (1, _), (2, _), (3, _), (4, _), (5, _), (6, _)]) O dX3_split_52 (by decide) rfl ?_
  refine z_iconst O (nI 0) dX3_split_54 (by decide) ?_
  refine z_istore (lv' := [(0, _), (1, _), (2, _), (3, _), (4, _), (5, _), (6, _), (7, _)]) O dX3_split_55 (by decide) rfl ?_
  refine zdown (P := fun a => Z G F 0 0 (zEnd G F (zP (fun v M' => v = .int (if f = 0 then optI ((spO r we n kd 9).map (fun q => q.1)) else if f = 1 then optI ((spO r we n kd 9).map (fun q => q.2.1)) else optI ((spO r we n kd 9).map (fun q => q.2.2))) ∧ xS G we r seen kept rd nw ud im bys len ab bl bd no fu rest M')) 0 0) 57 [(0, .ref (zad (zb G) 0)), (1, .int (nI n)), (2, .int (nI kd)), (3, .int (nI f)), (4, .int (optI ((spO r we n kd a).map (fun q => q.1)))), (5, .int (optI ((spO r we n kd a).map (fun q => q.2.1)))), (6, .int (optI ((spO r we n kd a).map (fun q => q.2.2)))), (7, .int (nI a))] [] (xM G we r cl seen kept rd nw ud im twe tr tcl bys wo nu len it so at_ be va (spC r we sp 9) s' al od ab bl bd no fu rest)) (9) ?_ ?_ 
  · refine z_iload O dX3_split_57 rfl ?_
    refine z_bipush O (nI 9) dX3_split_59 (by decide) ?_
    refine z_icmp_geN O 185 dX3_split_61 (by decide) (by omega) (by omega) (fun h61 => ?_) (fun h61 => by omega)
    refine z_iload_n O dX3_split_185 rfl ?_
    refine z_if_neN O 194 dX3_split_186 (by decide) (by omega) (fun h186 => ?_) (fun h186 => ?_)
    · refine z_iload_n O dX3_split_194 rfl ?_
      refine z_iconst O (nI 1) dX3_split_195 (by decide) ?_
      refine z_icmp_neN O 204 dX3_split_196 (by decide) (by omega) (by omega) (fun h196 => ?_) (fun h196 => ?_)
      · refine z_iload O dX3_split_204 rfl ?_
        exact z_iret O dX3_split_206 (by first | exact ⟨_, rfl, by rw [if_pos (by assumption)], ⟨_, _, _, _, _, _, _, _, _, _, _, _, _, _, _, htw, htr, rfl⟩⟩ | exact ⟨_, rfl, by rw [if_neg (by assumption), if_pos (by assumption)], ⟨_, _, _, _, _, _, _, _, _, _, _, _, _, _, _, htw, htr, rfl⟩⟩ | exact ⟨_, rfl, by rw [if_neg (by assumption), if_neg (by assumption)], ⟨_, _, _, _, _, _, _, _, _, _, _, _, _, _, _, htw, htr, rfl⟩⟩)
      · refine z_iload O dX3_split_199 rfl ?_
        refine z_goto O 206 dX3_split_201 (by decide) ?_
        exact z_iret O dX3_split_206 (by first | exact ⟨_, rfl, by rw [if_pos (by assumption)], ⟨_, _, _, _, _, _, _, _, _, _, _, _, _, _, _, htw, htr, rfl⟩⟩ | exact ⟨_, rfl, by rw [if_neg (by assumption), if_pos (by assumption)], ⟨_, _, _, _, _, _, _, _, _, _, _, _, _, _, _, htw, htr, rfl⟩⟩ | exact ⟨_, rfl, by rw [if_neg (by assumption), if_neg (by assumption)], ⟨_, _, _, _, _, _, _, _, _, _, _, _, _, _, _, htw, htr, rfl⟩⟩)
    · refine z_iload O dX3_split_189 rfl ?_
      refine z_goto O 206 dX3_split_191 (by decide) ?_
      exact z_iret O dX3_split_206 (by first | exact ⟨_, rfl, by rw [if_pos (by assumption)], ⟨_, _, _, _, _, _, _, _, _, _, _, _, _, _, _, htw, htr, rfl⟩⟩ | exact ⟨_, rfl, by rw [if_neg (by assumption), if_pos (by assumption)], ⟨_, _, _, _, _, _, _, _, _, _, _, _, _, _, _, htw, htr, rfl⟩⟩ | exact ⟨_, rfl, by rw [if_neg (by assumption), if_neg (by assumption)], ⟨_, _, _, _, _, _, _, _, _, _, _, _, _, _, _, htw, htr, rfl⟩⟩)
  · intro a ha ih 
    refine z_iload O dX3_split_57 rfl ?_
    refine z_bipush O (nI 9) dX3_split_59 (by decide) ?_
    refine z_icmp_geN O 185 dX3_split_61 (by decide) (by omega) (by omega) (fun h61 => by omega) (fun h61 => ?_)
    refine z_iload O dX3_split_64 rfl ?_
    refine z_iconst O (nI 1) dX3_split_66 (by decide) ?_
    refine z_iaddN O dX3_split_67 ?_
    refine z_istore (lv' := [(0, _), (1, _), (2, _), (3, _), (4, _), (5, _), (6, _), (7, _), (8, _)]) O dX3_split_68 (by decide) rfl ?_
    refine zdown (P := fun j => Z G F 0 0 (zEnd G F (zP (fun v M' => v = .int (if f = 0 then optI ((spO r we n kd 9).map (fun q => q.1)) else if f = 1 then optI ((spO r we n kd 9).map (fun q => q.2.1)) else optI ((spO r we n kd 9).map (fun q => q.2.2))) ∧ xS G we r seen kept rd nw ud im bys len ab bl bd no fu rest M')) 0 0) 70 [(0, .ref (zad (zb G) 0)), (1, .int (nI n)), (2, .int (nI kd)), (3, .int (nI f)), (4, .int (optI ((spI r we n kd a (spO r we n kd a) j).map (fun q => q.1)))), (5, .int (optI ((spI r we n kd a (spO r we n kd a) j).map (fun q => q.2.1)))), (6, .int (optI ((spI r we n kd a (spO r we n kd a) j).map (fun q => q.2.2)))), (7, .int (nI a)), (8, .int (nI (a + 1 + j)))] [] (xM G we r cl seen kept rd nw ud im twe tr tcl bys wo nu len it so at_ be va (spC r we sp 9) s' al od ab bl bd no fu rest)) (8 - a) ?_ ?_ 
    · refine z_iload O dX3_split_70 rfl ?_
      refine z_bipush O (nI 9) dX3_split_72 (by decide) ?_
      refine z_icmp_geN O 179 dX3_split_74 (by decide) (by omega) (by omega) (fun h74 => ?_) (fun h74 => by omega)
      refine z_iincN (lv' := [(0, _), (1, _), (2, _), (3, _), (4, _), (5, _), (6, _), (7, _), (8, _)]) O 1 dX3_split_179 (by decide) rfl rfl (by decide) ?_
      refine z_goto O 57 dX3_split_182 (by decide) ?_
      refine z_kp (lv' := [(0, _), (1, _), (2, _), (3, _), (4, _), (5, _), (6, _), (7, _)]) [0, 1, 2, 3, 4, 5, 6, 7] rfl ?_
      exact ih
    · intro j hj ih 
      have hb : a + 1 + j < 9 := by omega
      have hbi := bspN_in (oneS r we n kd a (a + 1 + j) (lsN (spanV r we) (some a) (some (a + 1 + j)) 9)) (n - 2)
      have hlb := longer_le (a := bstL r we n kd a (a + 1 + j)) (o := (spI r we n kd a (spO r we n kd a) j).map (fun q => q.2.2)) (by have := bstL_le r we n kd a (a + 1 + j); omega) (tbd_3 (spI_bd h2 ha (spO_bd h2 a (by omega)) j (by omega)))
      refine z_iload O dX3_split_70 rfl ?_
      refine z_bipush O (nI 9) dX3_split_72 (by decide) ?_
      refine z_icmp_geN O 179 dX3_split_74 (by decide) (by omega) (by omega) (fun h74 => by omega) (fun h74 => ?_)
      refine z_aload_n O dX3_split_77 rfl ?_
      refine z_get O dX3_split_78 flX3_12 (by rfl) (by rfl) ?_
      refine z_get O dX3_split_81 flX3_62 (by rfl) (by rfl) ?_
      refine z_iload O dX3_split_84 rfl ?_
      refine z_V1e0 O (s_hasRoom xN hr ha) mX0_hasRoom lkX3_180 rfl (by rfl) dX3_split_86 (Nat.le_of_ble_eq_true rfl) (by decide) ?_
      refine z_if_eqB O 173 dX3_split_89 (by decide) (fun h89 => ?_) (fun h89 => ?_)
      · refine z_iincN (lv' := [(0, _), (1, _), (2, _), (3, _), (4, _), (5, _), (6, _), (7, _), (8, _)]) O 1 dX3_split_173 (by decide) rfl rfl (by decide) ?_
        refine z_goto O 70 dX3_split_176 (by decide) ?_
        first
        | (rw [show spI r we n kd a (spO r we n kd a) (j + 1) = (spI r we n kd a (spO r we n kd a) j) from if_neg (fun q => h89 q.1.1)] at ih; exact ih)
        | (rw [show spI r we n kd a (spO r we n kd a) (j + 1) = (spI r we n kd a (spO r we n kd a) j) from if_neg (fun q => h104 q.1.2)] at ih; exact ih)
        | (have hq := hlb.mp h152; rw [show spI r we n kd a (spO r we n kd a) (j + 1) = (spI r we n kd a (spO r we n kd a) j) from if_neg (fun q => by rw [hq] at q; exact absurd q.2 (by decide))] at ih; exact ih)
        | (have hq : longer (bstL r we n kd a (a + 1 + j)) ((spI r we n kd a (spO r we n kd a) j).map (fun q => q.2.2)) = true := zbnf (fun q => h152 (hlb.mpr q)); rw [show spI r we n kd a (spO r we n kd a) (j + 1) = some (10 * a + (a + 1 + j), bstI r we n kd a (a + 1 + j), bstL r we n kd a (a + 1 + j)) from if_pos ⟨⟨h89, h104⟩, hq⟩] at ih; exact ih)
      · refine z_aload_n O dX3_split_92 rfl ?_
        refine z_get O dX3_split_93 flX3_12 (by rfl) (by rfl) ?_
        refine z_get O dX3_split_96 flX3_62 (by rfl) (by rfl) ?_
        refine z_iload O dX3_split_99 rfl ?_
        refine z_V1e0 O (s_hasRoom xN hr hb) mX0_hasRoom lkX3_180 rfl (by rfl) dX3_split_101 (Nat.le_of_ble_eq_true rfl) (by decide) ?_
        refine z_if_neB O 110 dX3_split_104 (by decide) (fun h104 => ?_) (fun h104 => ?_)
        · refine z_aload_n O dX3_split_110 rfl ?_
          refine z_iload O dX3_split_111 rfl ?_
          refine z_iload O dX3_split_113 rfl ?_
          refine z_V2e0 O (x_leastSpanBut (a := some a) (b := some (a + 1 + j)) (fun c hc => spC_at 9 c hc) (by intro g hg; cases hg; omega) (by intro g hg; cases hg; omega)) mX3_leastSpanBut lkX3_177 rfl (by rfl) dX3_split_115 (Nat.le_of_ble_eq_true rfl) (by decide) ?_
          refine z_istore (lv' := [(0, _), (1, _), (2, _), (3, _), (4, _), (5, _), (6, _), (7, _), (8, _), (9, _)]) O dX3_split_118 (by decide) rfl ?_
          refine z_aload_n O dX3_split_120 rfl ?_
          refine z_iload O dX3_split_121 rfl ?_
          refine z_iload O dX3_split_123 rfl ?_
          refine z_iload_n O dX3_split_125 rfl ?_
          refine z_iload O dX3_split_126 rfl ?_
          refine z_V4e0 O (x_bestSplit hss ha hb h89 h104 h1 h2 (lsN_le _ _ _ 9)) mX3_bestSplit lkX3_195 rfl (by rfl) dX3_split_128 (Nat.le_of_ble_eq_true rfl) (by decide) ?_
          refine z_istore (lv' := [(0, _), (1, _), (2, _), (3, _), (4, _), (5, _), (6, _), (7, _), (8, _), (9, _), (10, _)]) O dX3_split_131 (by decide) rfl ?_
          refine z_aload_n O dX3_split_133 rfl ?_
          refine z_iload O dX3_split_134 rfl ?_
          refine z_iload O dX3_split_136 rfl ?_
          refine z_iload_n O dX3_split_138 rfl ?_
          refine z_iload O dX3_split_139 rfl ?_
          refine z_iload O dX3_split_141 rfl ?_
          refine z_V5e0 O (x_splitSpan hss ha hb h89 h104 hbi.1 (by omega) h2 (lsN_le _ _ _ 9)) mX3_splitSpan lkX3_198 rfl (by rfl) dX3_split_143 (Nat.le_of_ble_eq_true rfl) (by decide) ?_
          refine z_istore (lv' := [(0, _), (1, _), (2, _), (3, _), (4, _), (5, _), (6, _), (7, _), (8, _), (9, _), (10, _), (11, _)]) O dX3_split_146 (by decide) rfl ?_
          refine z_iload O dX3_split_148 rfl ?_
          refine z_iload O dX3_split_150 rfl ?_
          refine z_icmp_le O 173 dX3_split_152 (by decide) (fun h152 => ?_) (fun h152 => ?_)
          · refine z_iincN (lv' := [(0, _), (1, _), (2, _), (3, _), (4, _), (5, _), (6, _), (7, _), (8, _), (9, _), (10, _), (11, _)]) O 1 dX3_split_173 (by decide) rfl rfl (by decide) ?_
            refine z_goto O 70 dX3_split_176 (by decide) ?_
            refine z_kp (lv' := [(0, _), (1, _), (2, _), (3, _), (4, _), (5, _), (6, _), (7, _), (8, _)]) [0, 1, 2, 3, 4, 5, 6, 7, 8] rfl ?_
            first
            | (rw [show spI r we n kd a (spO r we n kd a) (j + 1) = (spI r we n kd a (spO r we n kd a) j) from if_neg (fun q => h89 q.1.1)] at ih; exact ih)
            | (rw [show spI r we n kd a (spO r we n kd a) (j + 1) = (spI r we n kd a (spO r we n kd a) j) from if_neg (fun q => h104 q.1.2)] at ih; exact ih)
            | (have hq := hlb.mp h152; rw [show spI r we n kd a (spO r we n kd a) (j + 1) = (spI r we n kd a (spO r we n kd a) j) from if_neg (fun q => by rw [hq] at q; exact absurd q.2 (by decide))] at ih; exact ih)
            | (have hq : longer (bstL r we n kd a (a + 1 + j)) ((spI r we n kd a (spO r we n kd a) j).map (fun q => q.2.2)) = true := zbnf (fun q => h152 (hlb.mpr q)); rw [show spI r we n kd a (spO r we n kd a) (j + 1) = some (10 * a + (a + 1 + j), bstI r we n kd a (a + 1 + j), bstL r we n kd a (a + 1 + j)) from if_pos ⟨⟨h89, h104⟩, hq⟩] at ih; exact ih)
          · refine z_bipush O (nI 10) dX3_split_155 (by decide) ?_
            refine z_iload O dX3_split_157 rfl ?_
            refine z_imulN O dX3_split_159 ?_
            refine z_iload O dX3_split_160 rfl ?_
            refine z_iaddN O dX3_split_162 ?_
            refine z_istore (lv' := [(0, _), (1, _), (2, _), (3, _), (4, _), (5, _), (6, _), (7, _), (8, _), (9, _), (10, _), (11, _)]) O dX3_split_163 (by decide) rfl ?_
            refine z_iload O dX3_split_165 rfl ?_
            refine z_istore (lv' := [(0, _), (1, _), (2, _), (3, _), (4, _), (5, _), (6, _), (7, _), (8, _), (9, _), (10, _), (11, _)]) O dX3_split_167 (by decide) rfl ?_
            refine z_iload O dX3_split_169 rfl ?_
            refine z_istore (lv' := [(0, _), (1, _), (2, _), (3, _), (4, _), (5, _), (6, _), (7, _), (8, _), (9, _), (10, _), (11, _)]) O dX3_split_171 (by decide) rfl ?_
            refine z_iincN (lv' := [(0, _), (1, _), (2, _), (3, _), (4, _), (5, _), (6, _), (7, _), (8, _), (9, _), (10, _), (11, _)]) O 1 dX3_split_173 (by decide) rfl rfl (by decide) ?_
            refine z_goto O 70 dX3_split_176 (by decide) ?_
            refine z_kp (lv' := [(0, _), (1, _), (2, _), (3, _), (4, _), (5, _), (6, _), (7, _), (8, _)]) [0, 1, 2, 3, 4, 5, 6, 7, 8] rfl ?_
            first
            | (rw [show spI r we n kd a (spO r we n kd a) (j + 1) = (spI r we n kd a (spO r we n kd a) j) from if_neg (fun q => h89 q.1.1)] at ih; exact ih)
            | (rw [show spI r we n kd a (spO r we n kd a) (j + 1) = (spI r we n kd a (spO r we n kd a) j) from if_neg (fun q => h104 q.1.2)] at ih; exact ih)
            | (have hq := hlb.mp h152; rw [show spI r we n kd a (spO r we n kd a) (j + 1) = (spI r we n kd a (spO r we n kd a) j) from if_neg (fun q => by rw [hq] at q; exact absurd q.2 (by decide))] at ih; exact ih)
            | (have hq : longer (bstL r we n kd a (a + 1 + j)) ((spI r we n kd a (spO r we n kd a) j).map (fun q => q.2.2)) = true := zbnf (fun q => h152 (hlb.mpr q)); rw [show spI r we n kd a (spO r we n kd a) (j + 1) = some (10 * a + (a + 1 + j), bstI r we n kd a (a + 1 + j), bstL r we n kd a (a + 1 + j)) from if_pos ⟨⟨h89, h104⟩, hq⟩] at ih; exact ih)
        · refine z_goto O 173 dX3_split_107 (by decide) ?_
          refine z_iincN (lv' := [(0, _), (1, _), (2, _), (3, _), (4, _), (5, _), (6, _), (7, _), (8, _)]) O 1 dX3_split_173 (by decide) rfl rfl (by decide) ?_
          refine z_goto O 70 dX3_split_176 (by decide) ?_
          first
          | (rw [show spI r we n kd a (spO r we n kd a) (j + 1) = (spI r we n kd a (spO r we n kd a) j) from if_neg (fun q => h89 q.1.1)] at ih; exact ih)
          | (rw [show spI r we n kd a (spO r we n kd a) (j + 1) = (spI r we n kd a (spO r we n kd a) j) from if_neg (fun q => h104 q.1.2)] at ih; exact ih)
          | (have hq := hlb.mp h152; rw [show spI r we n kd a (spO r we n kd a) (j + 1) = (spI r we n kd a (spO r we n kd a) j) from if_neg (fun q => by rw [hq] at q; exact absurd q.2 (by decide))] at ih; exact ih)
          | (have hq : longer (bstL r we n kd a (a + 1 + j)) ((spI r we n kd a (spO r we n kd a) j).map (fun q => q.2.2)) = true := zbnf (fun q => h152 (hlb.mpr q)); rw [show spI r we n kd a (spO r we n kd a) (j + 1) = some (10 * a + (a + 1 + j), bstI r we n kd a (a + 1 + j), bstL r we n kd a (a + 1 + j)) from if_pos ⟨⟨h89, h104⟩, hq⟩] at ih; exact ih)
set_option maxRecDepth 20000 in
set_option maxHeartbeats 4000000 in
theorem x_mostAlike (hr : rowOK r) (hw : weOK we) (hz : rowZ r) (hs : sinceOK r) (hwz : weZ we) (hy : r 117 + 100 < 1048576) (htw : weZ twe) (htr : rowT tr) {c ks m : Nat} (hc : c < 9) (h0 : 0 < r (108 + c)) (hks : ks < 64) (hm : m < 21) : zS G 4 yX3_mostAlike cX3_mostAlike 8 (some .int) [.ref (zad (zb G) 0), .int (nI c), .int (nI ks), .int (nI m)] (xM G we r cl seen kept rd nw ud im twe tr tcl bys wo nu len it so at_ be va sp ss al od ab bl bd no fu rest) 0 0 (zP (fun v M' => v = .int (nI (mostN r we c ks m 6)) ∧ ∃ a' : Nat → Nat, M' = (xM G we r cl seen kept rd nw ud im twe tr tcl bys wo nu len it so at_ be va sp ss a' od ab bl bd no fu rest))) := by
  refine zS.of (by decide) (Nat.le_of_ble_eq_true rfl) (fun F O hR1 hR2 => ?_)
  have O : zOk G F yX3_mostAlike cX3_mostAlike 8 (some .int) RX3 4 (xM G we r cl seen kept rd nw ud im twe tr tcl bys wo nu len it so at_ be va sp ss al od ab bl bd no fu rest).length := O
  refine z_eq (lv' := [(0, _), (1, _), (2, _), (3, _)]) rfl rfl rfl ?_
  refine z_iconst O (nI 0) dX3_mostAlike_0 (by decide) ?_
  refine z_istore (lv' := [(0, _), (1, _), (2, _), (3, _), (4, _)]) O dX3_mostAlike_1 (by decide) rfl ?_
  refine zdown (P := fun j => ∀ a' : Nat → Nat, (∀ i, i < j → a' i = lftC r we c i m) → Z G F 0 0 (zEnd G F (zP (fun v M' => v = .int (nI (mostN r we c ks m 6)) ∧ ∃ a' : Nat → Nat, M' = (xM G we r cl seen kept rd nw ud im twe tr tcl bys wo nu len it so at_ be va sp ss a' od ab bl bd no fu rest))) 0 0) 3 [(0, .ref (zad (zb G) 0)), (1, .int (nI c)), (2, .int (nI ks)), (3, .int (nI m)), (4, .int (nI j))] [] (xM G we r cl seen kept rd nw ud im twe tr tcl bys wo nu len it so at_ be va sp ss a' od ab bl bd no fu rest)) (6) ?_ ?_ al (fun i hi => absurd hi (Nat.not_lt_zero i))
  · intro a' ha'
    refine z_iload O dX3_mostAlike_3 rfl ?_
    refine z_bipush O (nI 6) dX3_mostAlike_5 (by decide) ?_
    refine z_icmp_geN O 37 dX3_mostAlike_7 (by decide) (by omega) (by omega) (fun h7 => ?_) (fun h7 => by omega)
    refine z_iconst O (nI 0) dX3_mostAlike_37 (by decide) ?_
    refine z_istore (lv' := [(0, _), (1, _), (2, _), (3, _), (4, _)]) O dX3_mostAlike_38 (by decide) rfl ?_
    refine z_iconst O (nI 0) dX3_mostAlike_40 (by decide) ?_
    refine z_istore (lv' := [(0, _), (1, _), (2, _), (3, _), (4, _), (5, _)]) O dX3_mostAlike_41 (by decide) rfl ?_
    refine zdown (P := fun k => Z G F 0 0 (zEnd G F (zP (fun v M' => v = .int (nI (mostN r we c ks m 6)) ∧ ∃ a' : Nat → Nat, M' = (xM G we r cl seen kept rd nw ud im twe tr tcl bys wo nu len it so at_ be va sp ss a' od ab bl bd no fu rest))) 0 0) 43 [(0, .ref (zad (zb G) 0)), (1, .int (nI c)), (2, .int (nI ks)), (3, .int (nI m)), (4, .int (nI (mostN r we c ks m k))), (5, .int (nI k))] [] (xM G we r cl seen kept rd nw ud im twe tr tcl bys wo nu len it so at_ be va sp ss a' od ab bl bd no fu rest)) (6) ?_ ?_ 
    · refine z_iload O dX3_mostAlike_43 rfl ?_
      refine z_bipush O (nI 6) dX3_mostAlike_45 (by decide) ?_
      refine z_icmp_geN O 125 dX3_mostAlike_47 (by decide) (by omega) (by omega) (fun h47 => ?_) (fun h47 => by omega)
      refine z_iload O dX3_mostAlike_125 rfl ?_
      exact z_iret O dX3_mostAlike_127 ⟨_, rfl, rfl, a', rfl⟩
    · intro k hk ih 
      refine z_iload O dX3_mostAlike_43 rfl ?_
      refine z_bipush O (nI 6) dX3_mostAlike_45 (by decide) ?_
      refine z_icmp_geN O 125 dX3_mostAlike_47 (by decide) (by omega) (by omega) (fun h47 => by omega) (fun h47 => ?_)
      refine z_iload_n O dX3_mostAlike_50 rfl ?_
      refine z_iload O dX3_mostAlike_51 rfl ?_
      refine z_ishr O dX3_mostAlike_53 ?_
      refine z_iconst O (nI 1) dX3_mostAlike_54 (by decide) ?_
      refine z_iand O dX3_mostAlike_55 ?_
      refine z_top (v' := .int (nI (bitN ks k))) (congrArg Value.int (zb_bit (by omega) (by omega))) ?_
      refine z_if_neN O 62 dX3_mostAlike_56 (by decide) (by have := bit_lt ks k; omega) (fun h56 => ?_) (fun h56 => ?_)
      · refine z_iconst O (nI 0) dX3_mostAlike_62 (by decide) ?_
        refine z_istore (lv' := [(0, _), (1, _), (2, _), (3, _), (4, _), (5, _), (6, _)]) O dX3_mostAlike_63 (by decide) rfl ?_
        refine z_iconst O (nI 0) dX3_mostAlike_65 (by decide) ?_
        refine z_istore (lv' := [(0, _), (1, _), (2, _), (3, _), (4, _), (5, _), (6, _), (7, _)]) O dX3_mostAlike_66 (by decide) rfl ?_
        refine zdown (P := fun j => Z G F 0 0 (zEnd G F (zP (fun v M' => v = .int (nI (mostN r we c ks m 6)) ∧ ∃ a' : Nat → Nat, M' = (xM G we r cl seen kept rd nw ud im twe tr tcl bys wo nu len it so at_ be va sp ss a' od ab bl bd no fu rest))) 0 0) 68 [(0, .ref (zad (zb G) 0)), (1, .int (nI c)), (2, .int (nI ks)), (3, .int (nI m)), (4, .int (nI (mostN r we c ks m k))), (5, .int (nI k)), (6, .int (nI (sameN r we c ks m k j))), (7, .int (nI j))] [] (xM G we r cl seen kept rd nw ud im twe tr tcl bys wo nu len it so at_ be va sp ss a' od ab bl bd no fu rest)) (6) ?_ ?_ 
        · refine z_iload O dX3_mostAlike_68 rfl ?_
          refine z_bipush O (nI 6) dX3_mostAlike_70 (by decide) ?_
          refine z_icmp_geN O 110 dX3_mostAlike_72 (by decide) (by omega) (by omega) (fun h72 => ?_) (fun h72 => by omega)
          refine z_iload O dX3_mostAlike_110 rfl ?_
          refine z_iload O dX3_mostAlike_112 rfl ?_
          refine z_S2e0 O (s_maxN (by have := mostN_le r we c ks m k; omega) (by have := sameN_le r we c ks m k 6; omega)) mJ9_max_7cf53 lkX3_277 dX3_mostAlike_114 (Nat.le_of_ble_eq_true rfl) (by decide) ?_
          refine z_istore (lv' := [(0, _), (1, _), (2, _), (3, _), (4, _), (5, _), (6, _), (7, _)]) O dX3_mostAlike_117 (by decide) rfl ?_
          refine z_iincN (lv' := [(0, _), (1, _), (2, _), (3, _), (4, _), (5, _), (6, _), (7, _)]) O 1 dX3_mostAlike_119 (by decide) rfl rfl (by decide) ?_
          refine z_goto O 43 dX3_mostAlike_122 (by decide) ?_
          refine z_kp (lv' := [(0, _), (1, _), (2, _), (3, _), (4, _), (5, _)]) [0, 1, 2, 3, 4, 5] rfl ?_
          rw [show mostN r we c ks m (k + 1) = max (mostN r we c ks m k) (sameN r we c ks m k 6) from if_neg h56] at ih
          exact ih
        · intro j hj ih 
          have hbj := bit_lt ks j
          refine z_iload O dX3_mostAlike_68 rfl ?_
          refine z_bipush O (nI 6) dX3_mostAlike_70 (by decide) ?_
          refine z_icmp_geN O 110 dX3_mostAlike_72 (by decide) (by omega) (by omega) (fun h72 => by omega) (fun h72 => ?_)
          refine z_iload_n O dX3_mostAlike_75 rfl ?_
          refine z_iload O dX3_mostAlike_76 rfl ?_
          refine z_ishr O dX3_mostAlike_78 ?_
          refine z_iconst O (nI 1) dX3_mostAlike_79 (by decide) ?_
          refine z_iand O dX3_mostAlike_80 ?_
          refine z_top (v' := .int (nI (bitN ks j))) (congrArg Value.int (zb_bit (by omega) (by omega))) ?_
          refine z_if_eqN O 104 dX3_mostAlike_81 (by decide) (by have := bit_lt ks j; omega) (fun h81 => ?_) (fun h81 => ?_)
          · refine z_iincN (lv' := [(0, _), (1, _), (2, _), (3, _), (4, _), (5, _), (6, _), (7, _)]) O 1 dX3_mostAlike_104 (by decide) rfl rfl (by decide) ?_
            refine z_goto O 68 dX3_mostAlike_107 (by decide) ?_
            first | (rw [show sameN r we c ks m k (j + 1) = sameN r we c ks m k j from if_neg (by omega)] at ih; exact ih) | (rw [show sameN r we c ks m k (j + 1) = sameN r we c ks m k j from if_neg (fun q => h98 q.2)] at ih; exact ih) | (rw [show sameN r we c ks m k (j + 1) = sameN r we c ks m k j + 1 from if_pos ⟨by omega, h98⟩] at ih; exact ih)
          · refine z_aload_n O dX3_mostAlike_84 rfl ?_
            refine z_get O dX3_mostAlike_85 flX3_41 (by rfl) (by rfl) ?_
            refine z_iload O dX3_mostAlike_88 rfl ?_
            refine z_ialdN O dX3_mostAlike_90 (by rfl) (by omega) (by decide) ?_
            refine z_top (v' := .int (nI (lftC r we c j m))) (congrArg Value.int (by rw [ha' j (by omega)])) ?_
            refine z_aload_n O dX3_mostAlike_91 rfl ?_
            refine z_get O dX3_mostAlike_92 flX3_41 (by rfl) (by rfl) ?_
            refine z_iload O dX3_mostAlike_95 rfl ?_
            refine z_ialdN O dX3_mostAlike_97 (by rfl) (by omega) (by decide) ?_
            refine z_top (v' := .int (nI (lftC r we c k m))) (congrArg Value.int (by rw [ha' k (by omega)])) ?_
            refine z_icmp_neN O 104 dX3_mostAlike_98 (by decide) (by have hb : fld r c (r (108 + c) - 1) 2 < 1048576 := hr.1 _; first | (have := lftC_le r we c j m; omega) | (have := lftC_le r we c k m; omega)) (by have hb : fld r c (r (108 + c) - 1) 2 < 1048576 := hr.1 _; first | (have := lftC_le r we c j m; omega) | (have := lftC_le r we c k m; omega)) (fun h98 => ?_) (fun h98 => ?_)
            · refine z_iincN (lv' := [(0, _), (1, _), (2, _), (3, _), (4, _), (5, _), (6, _), (7, _)]) O 1 dX3_mostAlike_104 (by decide) rfl rfl (by decide) ?_
              refine z_goto O 68 dX3_mostAlike_107 (by decide) ?_
              first | (rw [show sameN r we c ks m k (j + 1) = sameN r we c ks m k j from if_neg (by omega)] at ih; exact ih) | (rw [show sameN r we c ks m k (j + 1) = sameN r we c ks m k j from if_neg (fun q => h98 q.2)] at ih; exact ih) | (rw [show sameN r we c ks m k (j + 1) = sameN r we c ks m k j + 1 from if_pos ⟨by omega, h98⟩] at ih; exact ih)
            · refine z_iincN (lv' := [(0, _), (1, _), (2, _), (3, _), (4, _), (5, _), (6, _), (7, _)]) O 1 dX3_mostAlike_101 (by decide) rfl rfl (by decide) ?_
              refine z_iincN (lv' := [(0, _), (1, _), (2, _), (3, _), (4, _), (5, _), (6, _), (7, _)]) O 1 dX3_mostAlike_104 (by decide) rfl rfl (by decide) ?_
              refine z_goto O 68 dX3_mostAlike_107 (by decide) ?_
              first | (rw [show sameN r we c ks m k (j + 1) = sameN r we c ks m k j from if_neg (by omega)] at ih; exact ih) | (rw [show sameN r we c ks m k (j + 1) = sameN r we c ks m k j from if_neg (fun q => h98 q.2)] at ih; exact ih) | (rw [show sameN r we c ks m k (j + 1) = sameN r we c ks m k j + 1 from if_pos ⟨by omega, h98⟩] at ih; exact ih)
      · refine z_goto O 119 dX3_mostAlike_59 (by decide) ?_
        refine z_iincN (lv' := [(0, _), (1, _), (2, _), (3, _), (4, _), (5, _)]) O 1 dX3_mostAlike_119 (by decide) rfl rfl (by decide) ?_
        refine z_goto O 43 dX3_mostAlike_122 (by decide) ?_
        rw [show mostN r we c ks m (k + 1) = mostN r we c ks m k from if_pos h56] at ih
        exact ih
  · intro j hj ih a' ha'
    refine z_iload O dX3_mostAlike_3 rfl ?_
    refine z_bipush O (nI 6) dX3_mostAlike_5 (by decide) ?_
    refine z_icmp_geN O 37 dX3_mostAlike_7 (by decide) (by omega) (by omega) (fun h7 => by omega) (fun h7 => ?_)
    refine z_aload_n O dX3_mostAlike_10 rfl ?_
    refine z_get O dX3_mostAlike_11 flX3_41 (by rfl) (by rfl) ?_
    refine z_iload O dX3_mostAlike_14 rfl ?_
    refine z_aload_n O dX3_mostAlike_16 rfl ?_
    refine z_get O dX3_mostAlike_17 flX3_12 (by rfl) (by rfl) ?_
    refine z_get O dX3_mostAlike_20 flX3_62 (by rfl) (by rfl) ?_
    refine z_iload_n O dX3_mostAlike_23 rfl ?_
    refine z_iload O dX3_mostAlike_24 rfl ?_
    refine z_iload_n O dX3_mostAlike_26 rfl ?_
    refine z_V3e0 O (s_leftOf xN hr hw hc h0 (by omega) (by omega)) mX0_leftOf lkX3_274 rfl (by rfl) dX3_mostAlike_27 (Nat.le_of_ble_eq_true rfl) (by decide) ?_
    refine z_iastN O (by rfl) dX3_mostAlike_30 (by rfl) (by omega) (by decide) ?_
    refine z_M (show _ = (xM G we r cl seen kept rd nw ud im twe tr tcl bys wo nu len it so at_ be va sp ss (updN a' j (lftC r we c j m)) od ab bl bd no fu rest) from rfl) ?_
    refine z_iincN (lv' := [(0, _), (1, _), (2, _), (3, _), (4, _)]) O 1 dX3_mostAlike_31 (by decide) rfl rfl (by decide) ?_
    refine z_goto O 3 dX3_mostAlike_34 (by decide) ?_
    exact ih _ (fun i hi => by
      by_cases e : i = j
      · subst e; exact updN_s
      · rw [updN_n e]; exact ha' i (by omega))
set_option maxRecDepth 20000 in
set_option maxHeartbeats 4000000 in
theorem x_lookB {c : Int32} (hb : ¬ (0 ≤ c ∧ c < nI 9)) : zS G 2 yX3_look cX3_look 7 (some .int) [.ref (zad (zb G) 0), .int c] (xM G we r cl seen kept rd nw ud im twe tr tcl bys wo nu len it so at_ be va sp ss al od ab bl bd no fu rest) 0 0 (zE (.int (-2)) (xM G we r cl seen kept rd nw ud im twe tr tcl bys wo nu len it so at_ be va sp ss al od ab bl (bd + 1) no fu rest)) := by
  refine zS.of (by decide) (Nat.le_of_ble_eq_true rfl) (fun F O hR1 hR2 => ?_)
  have O : zOk G F yX3_look cX3_look 7 (some .int) RX3 2 (xM G we r cl seen kept rd nw ud im twe tr tcl bys wo nu len it so at_ be va sp ss al od ab bl bd no fu rest).length := O
  refine z_eq (lv' := [(0, _), (1, _)]) rfl rfl rfl ?_
  refine z_iload_n O dX3_look_0 rfl ?_
  refine z_bipush O (nI 9) dX3_look_1 (by decide) ?_
  refine z_S2e0 O s_within mX3_within lkX3_54 dX3_look_3 (Nat.le_of_ble_eq_true rfl) (by decide) ?_
  refine z_if_neB O 16 dX3_look_6 (by decide) (fun h6 => by exact absurd h6 hb) (fun h6 => ?_)
  refine z_aload_n O dX3_look_9 rfl ?_
  refine z_bipush O (-2) dX3_look_10 (by decide) ?_
  refine z_V1e0 O x_refuseB mX3_refuse lkX3_58 rfl (by rfl) dX3_look_12 (Nat.le_of_ble_eq_true rfl) (by decide) ?_
  exact z_iret O dX3_look_15 ⟨rfl, rfl⟩
def lookN (r we seen : Nat → Nat) (rd c : Nat) : Option Nat := if mayN r we seen rd c = 0 then none else (lkN (fun m => mostN r we c (mayN r we seen rd c) m 6) 21).1
theorem mayN_lt (r we seen : Nat → Nat) (rd c : Nat) : mayN r we seen rd c < 64 := by
  unfold mayN
  split
  · decide
  · exact bitsN_lt _ 6
theorem mayN_pos {r we seen : Nat → Nat} {rd c : Nat} (h : mayN r we seen rd c ≠ 0) : 0 < r (108 + c) := by
  unfold mayN at h
  split at h
  · exact absurd rfl h
  · omega
set_option maxRecDepth 20000 in
set_option maxHeartbeats 4000000 in
theorem x_look (hr : rowOK r) (hw : weOK we) (hz : rowZ r) (hs : sinceOK r) (hwz : weZ we) (hy : r 117 + 100 < 1048576) (htw : weZ twe) (htr : rowT tr) (hsn : ∀ j, seen j < 1048576) (hrd : rd ≤ 6) {c : Nat} (hc : c < 9) : zS G 6 yX3_look cX3_look 7 (some .int) [.ref (zad (zb G) 0), .int (nI c)] (xM G we r cl seen kept rd nw ud im twe tr tcl bys wo nu len it so at_ be va sp ss al od ab bl bd no fu rest) 0 0 (zP (fun v M' => v = .int (optI (lookN r we seen rd c)) ∧ xS G we r seen kept rd nw ud im bys len ab bl bd no fu rest M')) := by
  refine zS.of (by decide) (Nat.le_of_ble_eq_true rfl) (fun F O hR1 hR2 => ?_)
  have O : zOk G F yX3_look cX3_look 7 (some .int) RX3 6 (xM G we r cl seen kept rd nw ud im twe tr tcl bys wo nu len it so at_ be va sp ss al od ab bl bd no fu rest).length := O
  refine z_eq (lv' := [(0, _), (1, _)]) rfl rfl rfl ?_
  refine z_iload_n O dX3_look_0 rfl ?_
  refine z_bipush O (nI 9) dX3_look_1 (by decide) ?_
  refine z_S2e0 O (s_withinN (by omega) (by omega)) mX3_within lkX3_54 dX3_look_3 (Nat.le_of_ble_eq_true rfl) (by decide) ?_
  refine z_if_neB O 16 dX3_look_6 (by decide) (fun h6 => ?_) (fun h6 => by omega)
  refine z_aload_n O dX3_look_16 rfl ?_
  refine z_get O dX3_look_17 flX3_12 (by rfl) (by rfl) ?_
  refine z_iload_n O dX3_look_20 rfl ?_
  refine z_V1e0 O (t_possibleKinds xI hr hw hsn hrd hc) mX1_possibleKinds lkX3_208 rfl (by rfl) dX3_look_21 (Nat.le_of_ble_eq_true rfl) (by decide) ?_
  refine z_istore_n (lv' := [(0, _), (1, _), (2, _)]) O dX3_look_24 (by decide) rfl ?_
  refine z_iload_n O dX3_look_25 rfl ?_
  refine z_if_neN O 31 dX3_look_26 (by decide) (by have := mayN_lt r we seen rd c; omega) (fun h26 => ?_) (fun h26 => ?_)
  · refine z_iconst O (-1) dX3_look_31 (by decide) ?_
    refine z_istore_n (lv' := [(0, _), (1, _), (2, _), (3, _)]) O dX3_look_32 (by decide) rfl ?_
    refine z_bipush O (nI 7) dX3_look_33 (by decide) ?_
    refine z_istore (lv' := [(0, _), (1, _), (2, _), (3, _), (4, _)]) O dX3_look_35 (by decide) rfl ?_
    refine z_iconst O (nI 0) dX3_look_37 (by decide) ?_
    refine z_istore (lv' := [(0, _), (1, _), (2, _), (3, _), (4, _), (5, _)]) O dX3_look_38 (by decide) rfl ?_
    refine zdown (P := fun m => ∀ a' : Nat → Nat, Z G F 0 0 (zEnd G F (zP (fun v M' => v = .int (optI (lookN r we seen rd c)) ∧ xS G we r seen kept rd nw ud im bys len ab bl bd no fu rest M')) 0 0) 40 [(0, .ref (zad (zb G) 0)), (1, .int (nI c)), (2, .int (nI (mayN r we seen rd c))), (3, .int (optI (lkN (fun m => mostN r we c (mayN r we seen rd c) m 6) m).1)), (4, .int (nI (lkN (fun m => mostN r we c (mayN r we seen rd c) m 6) m).2)), (5, .int (nI m))] [] (xM G we r cl seen kept rd nw ud im twe tr tcl bys wo nu len it so at_ be va sp ss a' od ab bl bd no fu rest)) (21) ?_ ?_ al
    · intro a'
      refine z_iload O dX3_look_40 rfl ?_
      refine z_bipush O (nI 21) dX3_look_42 (by decide) ?_
      refine z_icmp_geN O 77 dX3_look_44 (by decide) (by omega) (by omega) (fun h44 => ?_) (fun h44 => by omega)
      refine z_iload_n O dX3_look_77 rfl ?_
      exact z_iret O dX3_look_78 ⟨_, rfl, by rw [lookN, if_neg h26], ⟨_, _, _, _, _, _, _, _, _, _, _, _, _, _, _, htw, htr, rfl⟩⟩
    · intro m hm ih a'
      refine z_iload O dX3_look_40 rfl ?_
      refine z_bipush O (nI 21) dX3_look_42 (by decide) ?_
      refine z_icmp_geN O 77 dX3_look_44 (by decide) (by omega) (by omega) (fun h44 => by omega) (fun h44 => ?_)
      refine z_aload_n O dX3_look_47 rfl ?_
      refine z_iload_n O dX3_look_48 rfl ?_
      refine z_iload_n O dX3_look_49 rfl ?_
      refine z_iload O dX3_look_50 rfl ?_
      refine z_V3p0 O (x_mostAlike hr hw hz hs hwz hy htw htr hc (mayN_pos h26) (mayN_lt _ _ _ _ _) hm) mX3_mostAlike lkX3_211 rfl (by rfl) dX3_look_52 (Nat.le_of_ble_eq_true rfl) (by decide) (fun x M' hq => ?_)
      obtain ⟨rfl, a2, rfl⟩ := hq
      refine z_istore (lv' := [(0, _), (1, _), (2, _), (3, _), (4, _), (5, _), (6, _)]) O dX3_look_55 (by decide) rfl ?_
      refine z_iload O dX3_look_57 rfl ?_
      refine z_iload O dX3_look_59 rfl ?_
      refine z_icmp_geN O 71 dX3_look_61 (by decide) (by first | (have := mostN_le r we c (mayN r we seen rd c) m 6; omega) | (have := lkN_le (fun m => mostN r we c (mayN r we seen rd c) m 6) (fun m => mostN_le _ _ _ _ _ _) m; omega)) (by first | (have := mostN_le r we c (mayN r we seen rd c) m 6; omega) | (have := lkN_le (fun m => mostN r we c (mayN r we seen rd c) m 6) (fun m => mostN_le _ _ _ _ _ _) m; omega)) (fun h61 => ?_) (fun h61 => ?_)
      · refine z_iincN (lv' := [(0, _), (1, _), (2, _), (3, _), (4, _), (5, _), (6, _)]) O 1 dX3_look_71 (by decide) rfl rfl (by decide) ?_
        refine z_goto O 40 dX3_look_74 (by decide) ?_
        refine z_kp (lv' := [(0, _), (1, _), (2, _), (3, _), (4, _), (5, _)]) [0, 1, 2, 3, 4, 5] rfl ?_
        first | (rw [show lkN (fun m => mostN r we c (mayN r we seen rd c) m 6) (m + 1) = lkN (fun m => mostN r we c (mayN r we seen rd c) m 6) m from if_neg (Nat.not_lt.mpr h61)] at ih; exact ih _) | (rw [show lkN (fun m => mostN r we c (mayN r we seen rd c) m 6) (m + 1) = (some m, mostN r we c (mayN r we seen rd c) m 6) from if_pos (Nat.not_le.mp h61)] at ih; exact ih _)
      · refine z_iload O dX3_look_64 rfl ?_
        refine z_istore_n (lv' := [(0, _), (1, _), (2, _), (3, _), (4, _), (5, _), (6, _)]) O dX3_look_66 (by decide) rfl ?_
        refine z_iload O dX3_look_67 rfl ?_
        refine z_istore (lv' := [(0, _), (1, _), (2, _), (3, _), (4, _), (5, _), (6, _)]) O dX3_look_69 (by decide) rfl ?_
        refine z_iincN (lv' := [(0, _), (1, _), (2, _), (3, _), (4, _), (5, _), (6, _)]) O 1 dX3_look_71 (by decide) rfl rfl (by decide) ?_
        refine z_goto O 40 dX3_look_74 (by decide) ?_
        refine z_kp (lv' := [(0, _), (1, _), (2, _), (3, _), (4, _), (5, _)]) [0, 1, 2, 3, 4, 5] rfl ?_
        first | (rw [show lkN (fun m => mostN r we c (mayN r we seen rd c) m 6) (m + 1) = lkN (fun m => mostN r we c (mayN r we seen rd c) m 6) m from if_neg (Nat.not_lt.mpr h61)] at ih; exact ih _) | (rw [show lkN (fun m => mostN r we c (mayN r we seen rd c) m 6) (m + 1) = (some m, mostN r we c (mayN r we seen rd c) m 6) from if_pos (Nat.not_le.mp h61)] at ih; exact ih _)
  · refine z_iconst O (-1) dX3_look_29 (by decide) ?_
    exact z_iret O dX3_look_30 ⟨_, rfl, by rw [lookN, if_pos h26]; rfl, ⟨_, _, _, _, _, _, _, _, _, _, _, _, _, _, _, htw, htr, rfl⟩⟩
set_option maxRecDepth 20000 in
set_option maxHeartbeats 4000000 in
theorem x_oddsB {c m k : Int32} (hb : ¬ ((0 ≤ c ∧ c < nI 9) ∧ (nI 0 ≤ m ∧ m ≤ nI 8) ∧ (nI 0 ≤ k ∧ k ≤ nI 10))) : zS G 2 yX3_odds cX3_odds 4 (some .int) [.ref (zad (zb G) 0), .int c, .int m, .int k] (xM G we r cl seen kept rd nw ud im twe tr tcl bys wo nu len it so at_ be va sp ss al od ab bl bd no fu rest) 0 0 (zE (.int (-2)) (xM G we r cl seen kept rd nw ud im twe tr tcl bys wo nu len it so at_ be va sp ss al od ab bl (bd + 1) no fu rest)) := by
  refine zS.of (by decide) (Nat.le_of_ble_eq_true rfl) (fun F O hR1 hR2 => ?_)
  have O : zOk G F yX3_odds cX3_odds 4 (some .int) RX3 2 (xM G we r cl seen kept rd nw ud im twe tr tcl bys wo nu len it so at_ be va sp ss al od ab bl bd no fu rest).length := O
  refine z_eq (lv' := [(0, _), (1, _), (2, _), (3, _)]) rfl rfl rfl ?_
  refine z_iload_n O dX3_odds_0 rfl ?_
  refine z_bipush O (nI 9) dX3_odds_1 (by decide) ?_
  refine z_S2e0 O s_within mX3_within lkX3_54 dX3_odds_3 (Nat.le_of_ble_eq_true rfl) (by decide) ?_
  refine z_if_eqB O 29 dX3_odds_6 (by decide) (fun h6 => ?_) (fun h6 => ?_)
  · refine z_aload_n O dX3_odds_29 rfl ?_
    refine z_bipush O (-2) dX3_odds_30 (by decide) ?_
    refine z_V1e0 O x_refuseB mX3_refuse lkX3_58 rfl (by rfl) dX3_odds_32 (Nat.le_of_ble_eq_true rfl) (by decide) ?_
    exact z_iret O dX3_odds_35 ⟨rfl, rfl⟩
  · refine z_iload_n O dX3_odds_9 rfl ?_
    refine z_iconst O (nI 0) dX3_odds_10 (by decide) ?_
    refine z_bipush O (nI 8) dX3_odds_11 (by decide) ?_
    refine z_S3e0 O s_between mX3_between lkX3_96 dX3_odds_13 (Nat.le_of_ble_eq_true rfl) (by decide) ?_
    refine z_if_eqB O 29 dX3_odds_16 (by decide) (fun h16 => ?_) (fun h16 => ?_)
    · refine z_aload_n O dX3_odds_29 rfl ?_
      refine z_bipush O (-2) dX3_odds_30 (by decide) ?_
      refine z_V1e0 O x_refuseB mX3_refuse lkX3_58 rfl (by rfl) dX3_odds_32 (Nat.le_of_ble_eq_true rfl) (by decide) ?_
      exact z_iret O dX3_odds_35 ⟨rfl, rfl⟩
    · refine z_iload_n O dX3_odds_19 rfl ?_
      refine z_iconst O (nI 0) dX3_odds_20 (by decide) ?_
      refine z_bipush O (nI 10) dX3_odds_21 (by decide) ?_
      refine z_S3e0 O s_between mX3_between lkX3_96 dX3_odds_23 (Nat.le_of_ble_eq_true rfl) (by decide) ?_
      refine z_if_neB O 36 dX3_odds_26 (by decide) (fun h26 => ?_) (fun h26 => ?_)
      · exact absurd ⟨h6, h16, h26⟩ hb --stop
      · refine z_aload_n O dX3_odds_29 rfl ?_
        refine z_bipush O (-2) dX3_odds_30 (by decide) ?_
        refine z_V1e0 O x_refuseB mX3_refuse lkX3_58 rfl (by rfl) dX3_odds_32 (Nat.le_of_ble_eq_true rfl) (by decide) ?_
        exact z_iret O dX3_odds_35 ⟨rfl, rfl⟩
theorem hwN_le (r we : Nat → Nat) (c cc : Nat) (hcc : cc ≤ 10) : ∀ n u th y, hwN r we c cc n u th y ≤ 10 ^ n
  | 0, u, th, y => by unfold hwN; split <;> decide
  | n + 1, u, th, y => by
    unfold hwN
    split
    · exact Nat.le_refl _
    · have h1 : (if th ≤ lossN (fld r c (u - 1) 0) (we c) y then hwN r we c cc n (u - 1) (if u - 1 = 0 then 0 else fld r c (u - 1 - 1) 2) (y + 1) else hwN r we c cc n u (th - lossN (fld r c (u - 1) 0) (we c) y) (y + 1)) ≤ 10 ^ n := by
        split
        · exact hwN_le r we c cc hcc n _ _ _
        · exact hwN_le r we c cc hcc n _ _ _
      have h2 := hwN_le r we c cc hcc n u th (y + 1)
      have h3 := Nat.mul_le_mul_left cc h1
      have h4 := Nat.mul_le_mul_left (10 - cc) h2
      have h5 : cc * 10 ^ n + (10 - cc) * 10 ^ n = 10 ^ n * 10 := by rw [← Nat.add_mul, show cc + (10 - cc) = 10 by omega, Nat.mul_comm]
      rw [Nat.pow_succ]
      omega
def oddU (r we : Nat → Nat) (c m k : Nat) : Nat := hwN r we c k m (r (108 + c)) (if r (108 + c) = 0 then 0 else fld r c (r (108 + c) - 1) 2) (r 117)
set_option maxRecDepth 20000 in
set_option maxHeartbeats 4000000 in
theorem x_odds (hr : rowOK r) (hw : weOK we) (hz : rowZ r) (hs : sinceOK r) (hwz : weZ we) (hy : r 117 + 100 < 1048576) (htw : weZ twe) (htr : rowT tr) {c m k : Nat} (hc : c < 9) (hm : m ≤ 8) (hk : k ≤ 10) : zS G 13 yX3_odds cX3_odds 4 (some .int) [.ref (zad (zb G) 0), .int (nI c), .int (nI m), .int (nI k)] (xM G we r cl seen kept rd nw ud im twe tr tcl bys wo nu len it so at_ be va sp ss al od ab bl bd no fu rest) 0 0 (zP (fun v M' => v = .int (nI 1) ∧ xS G we r seen kept rd nw ud im bys len (lN (frA (oddU r we c m k) (10 ^ m))) (lN (frB (oddU r we c m k) (10 ^ m))) bd no fu rest M')) := by
  refine zS.of (by decide) (Nat.le_of_ble_eq_true rfl) (fun F O hR1 hR2 => ?_)
  have O : zOk G F yX3_odds cX3_odds 4 (some .int) RX3 13 (xM G we r cl seen kept rd nw ud im twe tr tcl bys wo nu len it so at_ be va sp ss al od ab bl bd no fu rest).length := O
  refine z_eq (lv' := [(0, _), (1, _), (2, _), (3, _)]) rfl rfl rfl ?_
  refine z_iload_n O dX3_odds_0 rfl ?_
  refine z_bipush O (nI 9) dX3_odds_1 (by decide) ?_
  refine z_S2e0 O (s_withinN (by omega) (by omega)) mX3_within lkX3_54 dX3_odds_3 (Nat.le_of_ble_eq_true rfl) (by omega) ?_
  refine z_if_eqB O 29 dX3_odds_6 (by decide) (fun h6 => by omega) (fun h6 => ?_)
  refine z_iload_n O dX3_odds_9 rfl ?_
  refine z_iconst O (nI 0) dX3_odds_10 (by decide) ?_
  refine z_bipush O (nI 8) dX3_odds_11 (by decide) ?_
  refine z_S3e0 O (s_betweenN (by omega) (by omega) (by omega)) mX3_between lkX3_96 dX3_odds_13 (Nat.le_of_ble_eq_true rfl) (by omega) ?_
  refine z_if_eqB O 29 dX3_odds_16 (by decide) (fun h16 => by omega) (fun h16 => ?_)
  refine z_iload_n O dX3_odds_19 rfl ?_
  refine z_iconst O (nI 0) dX3_odds_20 (by decide) ?_
  refine z_bipush O (nI 10) dX3_odds_21 (by decide) ?_
  refine z_S3e0 O (s_betweenN (by omega) (by omega) (by omega)) mX3_between lkX3_96 dX3_odds_23 (Nat.le_of_ble_eq_true rfl) (by omega) ?_
  refine z_if_neB O 36 dX3_odds_26 (by decide) (fun h26 => ?_) (fun h26 => by omega)
  refine z_aload_n O dX3_odds_36 rfl ?_
  refine z_aload_n O dX3_odds_37 rfl ?_
  refine z_get O dX3_odds_38 flX3_12 (by rfl) (by rfl) ?_
  refine z_get O dX3_odds_41 flX3_62 (by rfl) (by rfl) ?_
  refine z_iload_n O dX3_odds_44 rfl ?_
  refine z_iload_n O dX3_odds_45 rfl ?_
  refine z_iload_n O dX3_odds_46 rfl ?_
  refine z_V3e0 O (s_holeWays xN hr hw hc hk hm (by omega)) mX0_holeWays lkX3_223 rfl (by rfl) dX3_odds_47 (Nat.le_of_ble_eq_true rfl) (by omega) ?_
  refine z_iload_n O dX3_odds_50 rfl ?_
  refine z_S1e0 O (s_powerOfTen (by omega)) mX3_powerOfTen lkX3_227 dX3_odds_51 (Nat.le_of_ble_eq_true rfl) (by omega) ?_
  have hb1 : oddU r we c m k ≤ 10 ^ m := hwN_le r we c k hk m _ _ _
  have hb2 : 10 ^ m ≤ 100000000 := Nat.le_trans (Nat.pow_le_pow_right (by decide) hm) (by decide)
  unfold oddU at hb1
  refine z_V2u0 O (x_setFraction (by omega) (by omega) (by have h7 := Nat.mul_le_mul hb1 (Nat.le_refl (10 ^ m)); have h8 : 10 ^ m * 10 ^ m ≤ 100000000 * 100000000 := Nat.mul_le_mul hb2 hb2; unfold oddU at h7; omega)) mX3_setFraction lkX3_167 rfl (by rfl) dX3_odds_54 (Nat.le_of_ble_eq_true rfl) (by omega) ?_
  refine z_iconst O (nI 1) dX3_odds_57 (by decide) ?_
  exact z_iret O dX3_odds_58 ⟨_, rfl, rfl, ⟨_, _, _, _, _, _, _, _, _, _, _, _, _, _, _, htw, htr, rfl⟩⟩
set_option maxRecDepth 20000 in
set_option maxHeartbeats 4000000 in
theorem x_drawnB {s m : Int32} (hb : ¬ ((nI 0 ≤ s ∧ s ≤ nI 999999) ∧ (nI 0 ≤ m ∧ m ≤ nI 20))) : zS G 2 yX3_drawn cX3_drawn 7 (some .int) [.ref (zad (zb G) 0), .int s, .int m] (xM G we r cl seen kept rd nw ud im twe tr tcl bys wo nu len it so at_ be va sp ss al od ab bl bd no fu rest) 0 0 (zE (.int (-2)) (xM G we r cl seen kept rd nw ud im twe tr tcl bys wo nu len it so at_ be va sp ss al od ab bl (bd + 1) no fu rest)) := by
  refine zS.of (by decide) (Nat.le_of_ble_eq_true rfl) (fun F O hR1 hR2 => ?_)
  have O : zOk G F yX3_drawn cX3_drawn 7 (some .int) RX3 2 (xM G we r cl seen kept rd nw ud im twe tr tcl bys wo nu len it so at_ be va sp ss al od ab bl bd no fu rest).length := O
  refine z_eq (lv' := [(0, _), (1, _), (2, _)]) rfl rfl rfl ?_
  refine z_iload_n O dX3_drawn_0 rfl ?_
  refine z_iconst O (nI 0) dX3_drawn_1 (by decide) ?_
  refine z_ldc O dX3_drawn_2 kcX3_231 ?_
  refine z_top (v' := .int (nI 999999)) (by decide) ?_
  refine z_S3e0 O s_between mX3_between lkX3_96 dX3_drawn_4 (Nat.le_of_ble_eq_true rfl) (by decide) ?_
  refine z_if_eqB O 20 dX3_drawn_7 (by decide) (fun h7 => ?_) (fun h7 => ?_)
  · refine z_aload_n O dX3_drawn_20 rfl ?_
    refine z_bipush O (-2) dX3_drawn_21 (by decide) ?_
    refine z_V1e0 O x_refuseB mX3_refuse lkX3_58 rfl (by rfl) dX3_drawn_23 (Nat.le_of_ble_eq_true rfl) (by decide) ?_
    exact z_iret O dX3_drawn_26 ⟨rfl, rfl⟩
  · refine z_iload_n O dX3_drawn_10 rfl ?_
    refine z_iconst O (nI 0) dX3_drawn_11 (by decide) ?_
    refine z_bipush O (nI 20) dX3_drawn_12 (by decide) ?_
    refine z_S3e0 O s_between mX3_between lkX3_96 dX3_drawn_14 (Nat.le_of_ble_eq_true rfl) (by decide) ?_
    refine z_if_neB O 27 dX3_drawn_17 (by decide) (fun h17 => ?_) (fun h17 => ?_)
    · exact absurd ⟨h7, h17⟩ hb --stop
    · refine z_aload_n O dX3_drawn_20 rfl ?_
      refine z_bipush O (-2) dX3_drawn_21 (by decide) ?_
      refine z_V1e0 O x_refuseB mX3_refuse lkX3_58 rfl (by rfl) dX3_drawn_23 (Nat.le_of_ble_eq_true rfl) (by decide) ?_
      exact z_iret O dX3_drawn_26 ⟨rfl, rfl⟩
set_option maxRecDepth 20000 in
set_option maxHeartbeats 4000000 in
theorem x_drawn (hr : rowOK r) (hw : weOK we) (hz : rowZ r) (hs : sinceOK r) (hwz : weZ we) (hy : r 117 + 100 < 1048576) (htw : weZ twe) (htr : rowT tr) {s m : Nat} (h1 : s ≤ 999999) (hm : m ≤ 20) : zS G 6 yX3_drawn cX3_drawn 7 (some .int) [.ref (zad (zb G) 0), .int (nI s), .int (nI m)] (xM G we r cl seen kept rd nw ud im twe tr tcl bys wo nu len it so at_ be va sp ss al od ab bl bd no fu rest) 0 0 (zP (fun v M' => v = .int (nI (popN (bitsN (holesB (drY (s, we, r) m).2.2) 9))) ∧ xS G we r seen kept rd nw ud im bys len ab bl bd no fu rest M')) := by
  refine zS.of (by decide) (Nat.le_of_ble_eq_true rfl) (fun F O hR1 hR2 => ?_)
  have O : zOk G F yX3_drawn cX3_drawn 7 (some .int) RX3 6 (xM G we r cl seen kept rd nw ud im twe tr tcl bys wo nu len it so at_ be va sp ss al od ab bl bd no fu rest).length := O
  refine z_eq (lv' := [(0, _), (1, _), (2, _)]) rfl rfl rfl ?_
  refine z_iload_n O dX3_drawn_0 rfl ?_
  refine z_iconst O (nI 0) dX3_drawn_1 (by decide) ?_
  refine z_ldc O dX3_drawn_2 kcX3_231 ?_
  refine z_top (v' := .int (nI 999999)) (by decide) ?_
  refine z_S3e0 O (s_betweenN (by omega) (by omega) (by omega)) mX3_between lkX3_96 dX3_drawn_4 (Nat.le_of_ble_eq_true rfl) (by decide) ?_
  refine z_if_eqB O 20 dX3_drawn_7 (by decide) (fun h7 => by omega) (fun h7 => ?_)
  refine z_iload_n O dX3_drawn_10 rfl ?_
  refine z_iconst O (nI 0) dX3_drawn_11 (by decide) ?_
  refine z_bipush O (nI 20) dX3_drawn_12 (by decide) ?_
  refine z_S3e0 O (s_betweenN (by omega) (by omega) (by omega)) mX3_between lkX3_96 dX3_drawn_14 (Nat.le_of_ble_eq_true rfl) (by decide) ?_
  refine z_if_neB O 27 dX3_drawn_17 (by decide) (fun h17 => ?_) (fun h17 => by omega)
  refine z_aload_n O dX3_drawn_27 rfl ?_
  refine z_get O dX3_drawn_28 flX3_23 (by rfl) (by rfl) ?_
  refine z_aload_n O dX3_drawn_31 rfl ?_
  refine z_get O dX3_drawn_32 flX3_12 (by rfl) (by rfl) ?_
  refine z_get O dX3_drawn_35 flX3_62 (by rfl) (by rfl) ?_
  refine z_V1u0 O (s_copy xT xN) mX0_copy lkX3_131 rfl (by rfl) dX3_drawn_38 (Nat.le_of_ble_eq_true rfl) (by decide) ?_
  refine z_M (show _ = (xM G we r cl seen kept rd nw ud im (cpyN we twe 0 0 9) (cpyN r tr 0 0 118) tcl bys wo nu len it so at_ be va sp ss al od ab bl bd no fu rest) from rfl) ?_
  rw [cpy_row hz htr.1, cpy_we hwz htw]
  refine z_iload_n O dX3_drawn_41 rfl ?_
  refine z_i2lN O dX3_drawn_42 (by omega) ?_
  refine z_lstore_n (lv' := [(0, _), (1, _), (2, _), (3, _)]) O dX3_drawn_43 (by decide) rfl ?_
  refine z_iconst O (nI 0) dX3_drawn_44 (by decide) ?_
  refine z_istore (lv' := [(0, _), (1, _), (2, _), (3, _), (5, _)]) O dX3_drawn_45 (by decide) rfl ?_
  refine zdown (P := fun i => Z G F 0 0 (zEnd G F (zP (fun v M' => v = .int (nI (popN (bitsN (holesB (drY (s, we, r) m).2.2) 9))) ∧ xS G we r seen kept rd nw ud im bys len ab bl bd no fu rest M')) 0 0) 47 [(0, .ref (zad (zb G) 0)), (1, .int (nI s)), (2, .int (nI m)), (3, .long (lN (drY (s, we, r) i).1)), (5, .int (nI i))] [] (xM G we r cl seen kept rd nw ud im ((drY (s, we, r) i).2.1 ) ((drY (s, we, r) i).2.2 ) tcl bys wo nu len it so at_ be va sp ss al od ab bl bd no fu rest)) (m) ?_ ?_ 
  · have hdy := drY_ok (s := (s, we, r)) (by show s < _; omega) hw hwz hr hz (by show r 117 + 20 < _; omega) m hm
    refine z_iload O dX3_drawn_47 rfl ?_
    refine z_iload_n O dX3_drawn_49 rfl ?_
    refine z_icmp_geN O 116 dX3_drawn_50 (by decide) (by omega) (by omega) (fun h50 => ?_) (fun h50 => by omega)
    refine z_aload_n O dX3_drawn_116 rfl ?_
    refine z_get O dX3_drawn_117 flX3_23 (by rfl) (by rfl) ?_
    refine z_V0e0 O (s_holeBits xT (drY_ok (s := (s, we, r)) (by show s < _; omega) hw hwz hr hz (by show r 117 + 20 < _; omega) m hm).2.2.2.1) mX0_holeBits lkX3_103 rfl (by rfl) dX3_drawn_120 (Nat.le_of_ble_eq_true rfl) (by decide) ?_
    refine z_S1e0 O (s_bitCount (bitsN_lt _ 9)) mJ6_bitCount_0f7a4 lkX3_106 dX3_drawn_123 (Nat.le_of_ble_eq_true rfl) (by decide) ?_
    exact z_iret O dX3_drawn_126 ⟨_, rfl, rfl, ⟨_, _, _, _, _, _, _, _, _, _, _, _, _, _, _, hdy.2.2.1, ⟨hdy.2.2.2.2.1, hdy.2.2.2.1.1⟩, rfl⟩⟩
  · intro i hi ih 
    have hdy := drY_ok (s := (s, we, r)) (by show s < _; omega) hw hwz hr hz (by show r 117 + 20 < _; omega) i (by omega)
    refine z_iload O dX3_drawn_47 rfl ?_
    refine z_iload_n O dX3_drawn_49 rfl ?_
    refine z_icmp_geN O 116 dX3_drawn_50 (by decide) (by omega) (by omega) (fun h50 => by omega) (fun h50 => ?_)
    refine z_iconst O (nI 0) dX3_drawn_53 (by decide) ?_
    refine z_istore (lv' := [(0, _), (1, _), (2, _), (3, _), (5, _), (6, _)]) O dX3_drawn_54 (by decide) rfl ?_
    refine zdown (P := fun c => Z G F 0 0 (zEnd G F (zP (fun v M' => v = .int (nI (popN (bitsN (holesB (drY (s, we, r) m).2.2) 9))) ∧ xS G we r seen kept rd nw ud im bys len ab bl bd no fu rest M')) 0 0) 56 [(0, .ref (zad (zb G) 0)), (1, .int (nI s)), (2, .int (nI m)), (3, .long (lN (drC (drY (s, we, r) i).1 (drY (s, we, r) i).2.1 c).1)), (5, .int (nI i)), (6, .int (nI c))] [] (xM G we r cl seen kept rd nw ud im ((drC (drY (s, we, r) i).1 (drY (s, we, r) i).2.1 c).2 ) ((drY (s, we, r) i).2.2 ) tcl bys wo nu len it so at_ be va sp ss al od ab bl bd no fu rest)) (9) ?_ ?_ 
    · refine z_iload O dX3_drawn_56 rfl ?_
      refine z_bipush O (nI 9) dX3_drawn_58 (by decide) ?_
      refine z_icmp_geN O 103 dX3_drawn_60 (by decide) (by omega) (by omega) (fun h60 => ?_) (fun h60 => by omega)
      refine z_aload_n O dX3_drawn_103 rfl ?_
      refine z_get O dX3_drawn_104 flX3_23 (by rfl) (by rfl) ?_
      refine z_V0u0 O (s_pass xT hdy.2.2.2.1 (drC_ok hdy.1 hdy.2.1 hdy.2.2.1 9 (by omega)).2.1) mX0_pass lkX3_100 rfl (by rfl) dX3_drawn_107 (Nat.le_of_ble_eq_true rfl) (by decide) ?_
      refine z_M (show _ = (xM G we r cl seen kept rd nw ud im ((drY (s, we, r) (i + 1)).2.1) ((drY (s, we, r) (i + 1)).2.2) tcl bys wo nu len it so at_ be va sp ss al od ab bl bd no fu rest) from rfl) ?_
      refine z_iincN (lv' := [(0, _), (1, _), (2, _), (3, _), (5, _), (6, _)]) O 1 dX3_drawn_110 (by decide) rfl rfl (by decide) ?_
      refine z_goto O 47 dX3_drawn_113 (by decide) ?_
      refine z_kp (lv' := [(0, _), (1, _), (2, _), (3, _), (5, _)]) [0, 1, 2, 3, 5] rfl ?_
      exact ih
    · intro c hc ih 
      refine z_iload O dX3_drawn_56 rfl ?_
      refine z_bipush O (nI 9) dX3_drawn_58 (by decide) ?_
      refine z_icmp_geN O 103 dX3_drawn_60 (by decide) (by omega) (by omega) (fun h60 => by omega) (fun h60 => ?_)
      refine z_lload_n O dX3_drawn_63 rfl ?_
      refine z_ldc2 O dX3_drawn_64 klX3_232 ?_
      refine z_top (v' := .long (lN 1103515245)) (by decide) ?_
      refine z_lmulN O dX3_drawn_67 ?_
      refine z_ldc2 O dX3_drawn_68 klX3_234 ?_
      refine z_top (v' := .long (lN 12345)) (by decide) ?_
      refine z_laddN O dX3_drawn_71 ?_
      refine z_ldc2 O dX3_drawn_72 klX3_236 ?_
      refine z_top (v' := .long (lN 2147483648)) (by decide) ?_
      refine z_lremN O dX3_drawn_75 (by have := (drC_ok hdy.1 hdy.2.1 hdy.2.2.1 c (by omega)).1; omega) (by have := (drC_ok hdy.1 hdy.2.1 hdy.2.2.1 c (by omega)).1; omega) (by have := (drC_ok hdy.1 hdy.2.1 hdy.2.2.1 c (by omega)).1; omega) ?_
      refine z_lstore_n (lv' := [(0, _), (1, _), (2, _), (3, _), (5, _), (6, _)]) O dX3_drawn_76 (by decide) rfl ?_
      refine z_aload_n O dX3_drawn_77 rfl ?_
      refine z_get O dX3_drawn_78 flX3_23 (by rfl) (by rfl) ?_
      refine z_get O dX3_drawn_81 flX3_76 (by rfl) (by rfl) ?_
      refine z_iload O dX3_drawn_84 rfl ?_
      refine z_lload_n O dX3_drawn_86 rfl ?_
      refine z_ldc2 O dX3_drawn_87 klX3_238 ?_
      refine z_top (v' := .long (lN 65536)) (by decide) ?_
      refine z_ldivN O dX3_drawn_90 (by have := drX_lt (drC (drY (s, we, r) i).1 (drY (s, we, r) i).2.1 c).1; unfold drX at this; omega) (by have := drX_lt (drC (drY (s, we, r) i).1 (drY (s, we, r) i).2.1 c).1; unfold drX at this; omega) (by have := drX_lt (drC (drY (s, we, r) i).1 (drY (s, we, r) i).2.1 c).1; unfold drX at this; omega) ?_
      refine z_ldc2 O dX3_drawn_91 klX3_240 ?_
      refine z_top (v' := .long (lN 6)) (by decide) ?_
      refine z_lremN O dX3_drawn_94 (by have := drX_lt (drC (drY (s, we, r) i).1 (drY (s, we, r) i).2.1 c).1; unfold drX at this; omega) (by have := drX_lt (drC (drY (s, we, r) i).1 (drY (s, we, r) i).2.1 c).1; unfold drX at this; omega) (by have := drX_lt (drC (drY (s, we, r) i).1 (drY (s, we, r) i).2.1 c).1; unfold drX at this; omega) ?_
      refine z_l2iN O dX3_drawn_95 ?_
      refine z_iastN O (by rfl) dX3_drawn_96 (by rfl) (by omega) (by decide) ?_
      refine z_M (show _ = (xM G we r cl seen kept rd nw ud im ((drC (drY (s, we, r) i).1 (drY (s, we, r) i).2.1 (c + 1)).2) ((drY (s, we, r) i).2.2 ) tcl bys wo nu len it so at_ be va sp ss al od ab bl bd no fu rest) from rfl) ?_
      refine z_iincN (lv' := [(0, _), (1, _), (2, _), (3, _), (5, _), (6, _)]) O 1 dX3_drawn_97 (by decide) rfl rfl (by decide) ?_
      refine z_goto O 56 dX3_drawn_100 (by decide) ?_
      exact ih
set_option maxRecDepth 20000 in
set_option maxHeartbeats 4000000 in
theorem x_statusB {f : Int32} (hsw : f.toInt < 0 ∨ 2 < f.toInt) : zS G 2 yX3_status cX3_status 2 (some .int) [.ref (zad (zb G) 0), .int f] (xM G we r cl seen kept rd nw ud im twe tr tcl bys wo nu len it so at_ be va sp ss al od ab bl bd no fu rest) 0 0 (zE (.int (-1)) (xM G we r cl seen kept rd nw ud im twe tr tcl bys wo nu len it so at_ be va sp ss al od ab bl (bd + 1) no fu rest)) := by
  refine zS.of (by decide) (Nat.le_of_ble_eq_true rfl) (fun F O hR1 hR2 => ?_)
  have O : zOk G F yX3_status cX3_status 2 (some .int) RX3 2 (xM G we r cl seen kept rd nw ud im twe tr tcl bys wo nu len it so at_ be va sp ss al od ab bl bd no fu rest).length := O
  refine z_eq (lv' := [(0, _), (1, _)]) rfl rfl rfl ?_
  refine z_iload_n O dX3_status_0 rfl ?_
  refine z_tableOut O 43 dX3_status_1 hsw (by decide) ?_
  refine z_aload_n O dX3_status_43 rfl ?_
  refine z_bipush O (-2) dX3_status_44 (by decide) ?_
  refine z_V1e0 O x_refuseB mX3_refuse lkX3_58 rfl (by rfl) dX3_status_46 (Nat.le_of_ble_eq_true rfl) (by decide) ?_
  refine z_pop O dX3_status_49 rfl ?_
  refine z_iconst O (-1) dX3_status_50 (by decide) ?_
  exact z_iret O dX3_status_51 ⟨rfl, rfl⟩
set_option maxRecDepth 20000 in
set_option maxHeartbeats 4000000 in
theorem x_status0 {f : Nat} (hf : f = 0) : zS G 2 yX3_status cX3_status 2 (some .int) [.ref (zad (zb G) 0), .int (nI f)] (xM G we r cl seen kept rd nw ud im twe tr tcl bys wo nu len it so at_ be va sp ss al od ab bl bd no fu rest) 0 0 (zE (.int (nI bd)) (xM G we r cl seen kept rd nw ud im twe tr tcl bys wo nu len it so at_ be va sp ss al od ab bl bd no fu rest)) := by
  refine zS.of (by decide) (Nat.le_of_ble_eq_true rfl) (fun F O hR1 hR2 => ?_)
  have O : zOk G F yX3_status cX3_status 2 (some .int) RX3 2 (xM G we r cl seen kept rd nw ud im twe tr tcl bys wo nu len it so at_ be va sp ss al od ab bl bd no fu rest).length := O
  refine z_eq (lv' := [(0, _), (1, _)]) rfl rfl rfl ?_
  refine z_iload_n O dX3_status_0 rfl ?_
  refine z_tabNI O 0 28 dX3_status_1 (by omega) (by rfl) (by decide) (by decide) (by decide) (by decide) ?_
  refine z_aload_n O dX3_status_28 rfl ?_
  refine z_get O dX3_status_29 flX3_245 (by rfl) (by rfl) ?_
  exact z_iret O dX3_status_32 ⟨rfl, rfl⟩
set_option maxRecDepth 20000 in
set_option maxHeartbeats 4000000 in
theorem x_status1 {f : Nat} (hf : f = 1) : zS G 2 yX3_status cX3_status 2 (some .int) [.ref (zad (zb G) 0), .int (nI f)] (xM G we r cl seen kept rd nw ud im twe tr tcl bys wo nu len it so at_ be va sp ss al od ab bl bd no fu rest) 0 0 (zE (.int (nI no)) (xM G we r cl seen kept rd nw ud im twe tr tcl bys wo nu len it so at_ be va sp ss al od ab bl bd no fu rest)) := by
  refine zS.of (by decide) (Nat.le_of_ble_eq_true rfl) (fun F O hR1 hR2 => ?_)
  have O : zOk G F yX3_status cX3_status 2 (some .int) RX3 2 (xM G we r cl seen kept rd nw ud im twe tr tcl bys wo nu len it so at_ be va sp ss al od ab bl bd no fu rest).length := O
  refine z_eq (lv' := [(0, _), (1, _)]) rfl rfl rfl ?_
  refine z_iload_n O dX3_status_0 rfl ?_
  refine z_tabNI O 1 33 dX3_status_1 (by omega) (by rfl) (by decide) (by decide) (by decide) (by decide) ?_
  refine z_aload_n O dX3_status_33 rfl ?_
  refine z_get O dX3_status_34 flX3_248 (by rfl) (by rfl) ?_
  exact z_iret O dX3_status_37 ⟨rfl, rfl⟩
set_option maxRecDepth 20000 in
set_option maxHeartbeats 4000000 in
theorem x_status2 {f : Nat} (hf : f = 2) : zS G 2 yX3_status cX3_status 2 (some .int) [.ref (zad (zb G) 0), .int (nI f)] (xM G we r cl seen kept rd nw ud im twe tr tcl bys wo nu len it so at_ be va sp ss al od ab bl bd no fu rest) 0 0 (zE (.int (nI fu)) (xM G we r cl seen kept rd nw ud im twe tr tcl bys wo nu len it so at_ be va sp ss al od ab bl bd no fu rest)) := by
  refine zS.of (by decide) (Nat.le_of_ble_eq_true rfl) (fun F O hR1 hR2 => ?_)
  have O : zOk G F yX3_status cX3_status 2 (some .int) RX3 2 (xM G we r cl seen kept rd nw ud im twe tr tcl bys wo nu len it so at_ be va sp ss al od ab bl bd no fu rest).length := O
  refine z_eq (lv' := [(0, _), (1, _)]) rfl rfl rfl ?_
  refine z_iload_n O dX3_status_0 rfl ?_
  refine z_tabNI O 2 38 dX3_status_1 (by omega) (by rfl) (by decide) (by decide) (by decide) (by decide) ?_
  refine z_aload_n O dX3_status_38 rfl ?_
  refine z_get O dX3_status_39 flX3_251 (by rfl) (by rfl) ?_
  exact z_iret O dX3_status_42 ⟨rfl, rfl⟩
end XS
