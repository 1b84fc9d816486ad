/-! ===== orders ===== -/
def yoN (r od : Nat → Nat) (i : Nat) : Nat := fld r (od i / 10) (od i % 10) 3
def sYr (r od : Nat → Nat) (i : Nat) : Bool := decide (0 < i) && decide (yoN r od i = yoN r od (i - 1))
def sCl (r od : Nat → Nat) (i : Nat) : Bool := sYr r od i && decide (od i / 10 = od (i - 1) / 10)
/-- ways, how many of the year, how many of the cell */ -/
def woS (r od : Nat → Nat) : Nat → Nat × Nat × Nat
  | 0 => (1, 0, 0)
  | i + 1 => ((woS r od i).1 * (if sYr r od i = true then (woS r od i).2.1 + 1 else 1) / (if sCl r od i = true then (woS r od i).2.2 + 1 else 1), (if sYr r od i = true then (woS r od i).2.1 + 1 else 1), (if sCl r od i = true then (woS r od i).2.2 + 1 else 1))
theorem woS_le (r od : Nat → Nat) : ∀ i, i ≤ 6 → (woS r od i).1 ≤ 6 ^ i ∧ (woS r od i).2.1 ≤ i ∧ (woS r od i).2.2 ≤ i
  | 0, _ => ⟨Nat.le_refl _, Nat.le_refl _, Nat.le_refl _⟩
  | i + 1, hi => by
    obtain ⟨h1, h2, h3⟩ := woS_le r od i (by omega)
    have e1 : (if sYr r od i = true then (woS r od i).2.1 + 1 else 1) ≤ i + 1 := by split <;> omega
    have e2 : (if sCl r od i = true then (woS r od i).2.2 + 1 else 1) ≤ i + 1 := by split <;> omega
    refine ⟨?_, e1, e2⟩
    show (woS r od i).1 * (if sYr r od i = true then (woS r od i).2.1 + 1 else 1) / (if sCl r od i = true then (woS r od i).2.2 + 1 else 1) ≤ _
    refine Nat.le_trans (Nat.div_le_self _ _) ?_
    rw [Nat.pow_succ]
    exact Nat.mul_le_mul h1 (by omega)
theorem six_pow {i : Nat} (h : i ≤ 6) : 6 ^ i ≤ 46656 := Nat.le_trans (Nat.pow_le_pow_right (by decide) h) (by decide)
theorem m1_toInt : ((-1 : Int32)).toInt = -1 := by decide
theorem m1_lt {j : Nat} (h : j < 2 ^ 31) : (-1 : Int32) < nI j := by rw [Int32.lt_iff_toInt_lt, nI_toInt h, m1_toInt]; omega
theorem m1_le {j : Nat} (h : j < 2 ^ 31) : (-1 : Int32) ≤ nI j := by rw [Int32.le_iff_toInt_le, nI_toInt h, m1_toInt]; omega
theorem m1_ne {j : Nat} (h : j < 2 ^ 31) : ¬ nI j = (-1 : Int32) := fun q => by
  have h1 := m1_lt h
  rw [q] at h1
  exact absurd h1 (by decide)
def odOK (od : Nat → Nat) (dn : Nat) : Prop := ∀ i, i < dn → od i / 10 < 9 ∧ od i % 10 < 3 ∧ od i < 100
def ordN (r od : Nat → Nat) (dn : Nat) (i : Option Nat) : Nat := match i with
  | none => (woS r od dn).1
  | some j => od j
section XS
variable {G : zG} {we r cl seen kept : Nat → Nat} {rd nw ud : Nat} {im : Nat → Option Nat} {twe tr tcl bys wo nu : Nat → Nat} {len it so at_ be va : Nat} {sp ss al od : Nat → Nat} {ab bl : Int64} {bd no fu : Nat} {rest : List va_E}
set_option maxRecDepth 20000 in
set_option maxHeartbeats 4000000 in
theorem x_yearOrdered {i : Nat} (hi : i < 6) (ho : od i / 10 < 9 ∧ od i % 10 < 3 ∧ od i < 100) : zS G 2 yX3_yearOrdered cX3_yearOrdered 2 (some .int) [.ref (zad (zb G) 0), .int (nI i)] (xM G we r cl seen kept rd nw ud im twe tr tcl bys wo nu len it so at_ be va sp ss al od ab bl bd no fu rest) 0 0 (zE (.int (nI (yoN r od i))) (xM G we r cl seen kept rd nw ud im twe tr tcl bys wo nu len it so at_ be va sp ss al od ab bl bd no fu rest)) := by
  refine zS.of (by decide) (Nat.le_of_ble_eq_true rfl) (fun F O hR1 hR2 => ?_)
  have O : zOk G F yX3_yearOrdered cX3_yearOrdered 2 (some .int) RX3 2 (xM G we r cl seen kept rd nw ud im twe tr tcl bys wo nu len it so at_ be va sp ss al od ab bl bd no fu rest).length := O
  refine z_eq (lv' := [(0, _), (1, _)]) rfl rfl rfl ?_
  refine z_aload_n O dX3_yearOrdered_0 rfl ?_
  refine z_get O dX3_yearOrdered_1 flX3_12 (by rfl) (by rfl) ?_
  refine z_get O dX3_yearOrdered_4 flX3_62 (by rfl) (by rfl) ?_
  refine z_aload_n O dX3_yearOrdered_7 rfl ?_
  refine z_get O dX3_yearOrdered_8 flX3_44 (by rfl) (by rfl) ?_
  refine z_iload_n O dX3_yearOrdered_11 rfl ?_
  refine z_ialdN O dX3_yearOrdered_12 (by rfl) (by omega) (by decide) ?_
  refine z_bipush O (nI 10) dX3_yearOrdered_13 (by decide) ?_
  refine z_idivN O dX3_yearOrdered_15 (by omega) (by omega) (by omega) ?_
  refine z_aload_n O dX3_yearOrdered_16 rfl ?_
  refine z_get O dX3_yearOrdered_17 flX3_44 (by rfl) (by rfl) ?_
  refine z_iload_n O dX3_yearOrdered_20 rfl ?_
  refine z_ialdN O dX3_yearOrdered_21 (by rfl) (by omega) (by decide) ?_
  refine z_bipush O (nI 10) dX3_yearOrdered_22 (by decide) ?_
  refine z_iremN O dX3_yearOrdered_24 (by omega) (by omega) (by omega) ?_
  refine z_iconst O (nI 3) dX3_yearOrdered_25 (by decide) ?_
  refine z_V3e0 O (s_get xN ho.1 ho.2.1 (by decide)) mX0_get lkX3_145 rfl (by rfl) dX3_yearOrdered_26 (Nat.le_of_ble_eq_true rfl) (by decide) ?_
  exact z_iret O dX3_yearOrdered_29 ⟨rfl, rfl⟩
set_option maxRecDepth 20000 in
set_option maxHeartbeats 4000000 in
theorem x_waysToOrder (hr : rowOK r) {dn : Nat} (hdn : dn ≤ 6) (ho : odOK od dn) : zS G 3 yX3_waysToOrder cX3_waysToOrder 8 (some .int) [.ref (zad (zb G) 0), .int (nI dn)] (xM G we r cl seen kept rd nw ud im twe tr tcl bys wo nu len it so at_ be va sp ss al od ab bl bd no fu rest) 0 0 (zE (.int (nI (woS r od dn).1)) (xM G we r cl seen kept rd nw ud im twe tr tcl bys wo nu len it so at_ be va sp ss al od ab bl bd no fu rest)) := by
  refine zS.of (by decide) (Nat.le_of_ble_eq_true rfl) (fun F O hR1 hR2 => ?_)
  have O : zOk G F yX3_waysToOrder cX3_waysToOrder 8 (some .int) RX3 3 (xM G we r cl seen kept rd nw ud im twe tr tcl bys wo nu len it so at_ be va sp ss al od ab bl bd no fu rest).length := O
  refine z_eq (lv' := [(0, _), (1, _)]) rfl rfl rfl ?_
  refine z_iconst O (nI 1) dX3_waysToOrder_0 (by decide) ?_
  refine z_istore_n (lv' := [(0, _), (1, _), (2, _)]) O dX3_waysToOrder_1 (by decide) rfl ?_
  refine z_iconst O (nI 0) dX3_waysToOrder_2 (by decide) ?_
  refine z_istore_n (lv' := [(0, _), (1, _), (2, _), (3, _)]) O dX3_waysToOrder_3 (by decide) rfl ?_
  refine z_iconst O (nI 0) dX3_waysToOrder_4 (by decide) ?_
  refine z_istore (lv' := [(0, _), (1, _), (2, _), (3, _), (4, _)]) O dX3_waysToOrder_5 (by decide) rfl ?_
  refine z_iconst O (nI 0) dX3_waysToOrder_7 (by decide) ?_
  refine z_istore (lv' := [(0, _), (1, _), (2, _), (3, _), (4, _), (5, _)]) O dX3_waysToOrder_8 (by decide) rfl ?_
  refine zdown (P := fun i => Z G F 0 0 (zEnd G F (zE (.int (nI (woS r od dn).1)) (xM G we r cl seen kept rd nw ud im twe tr tcl bys wo nu len it so at_ be va sp ss al od ab bl bd no fu rest)) 0 0) 10 [(0, .ref (zad (zb G) 0)), (1, .int (nI dn)), (2, .int (nI (woS r od i).1)), (3, .int (nI (woS r od i).2.1)), (4, .int (nI (woS r od i).2.2)), (5, .int (nI i))] [] (xM G we r cl seen kept rd nw ud im twe tr tcl bys wo nu len it so at_ be va sp ss al od ab bl bd no fu rest)) (dn) ?_ ?_ 
  · refine z_iload O dX3_waysToOrder_10 rfl ?_
    refine z_iload_n O dX3_waysToOrder_12 rfl ?_
    refine z_icmp_geN O 130 dX3_waysToOrder_13 (by decide) (by omega) (by omega) (fun h13 => ?_) (fun h13 => by omega)
    refine z_iload_n O dX3_waysToOrder_130 rfl ?_
    exact z_iret O dX3_waysToOrder_131 ⟨rfl, rfl⟩
  · intro i hi ih 
    have hwl := woS_le r od i (by omega)
    have h6p := six_pow (i := i) (by omega)
    have hy1 : (if sYr r od i = true then (woS r od i).2.1 + 1 else 1) ≤ 6 := by split <;> omega
    have hc1 : (if sCl r od i = true then (woS r od i).2.2 + 1 else 1) ≤ 6 := by split <;> omega
    have hc2 : 0 < (if sCl r od i = true then (woS r od i).2.2 + 1 else 1) := by split <;> omega
    have hdd0 : (woS r od i).1 * (if sYr r od i = true then (woS r od i).2.1 + 1 else 1) < 2 ^ 31 := Nat.lt_of_le_of_lt (Nat.mul_le_mul (Nat.le_trans hwl.1 h6p) hy1) (by decide)
    have hdb := hc2
    have hdc : (if sCl r od i = true then (woS r od i).2.2 + 1 else 1) < 2 ^ 31 := by omega
    refine z_iload O dX3_waysToOrder_10 rfl ?_
    refine z_iload_n O dX3_waysToOrder_12 rfl ?_
    refine z_icmp_geN O 130 dX3_waysToOrder_13 (by decide) (by omega) (by omega) (fun h13 => by omega) (fun h13 => ?_)
    refine z_iload O dX3_waysToOrder_16 rfl ?_
    refine z_bipush O (nI 6) dX3_waysToOrder_18 (by decide) ?_
    refine z_icmp_geN O 130 dX3_waysToOrder_20 (by decide) (by omega) (by omega) (fun h20 => by omega) (fun h20 => ?_)
    have hJ50 :  Z G F 0 0 (zEnd G F (zE (.int (nI (woS r od dn).1)) (xM G we r cl seen kept rd nw ud im twe tr tcl bys wo nu len it so at_ be va sp ss al od ab bl bd no fu rest)) 0 0) 50 [(0, .ref (zad (zb G) 0)), (1, .int (nI dn)), (2, .int (nI (woS r od i).1)), (3, .int (nI (woS r od i).2.1)), (4, .int (nI (woS r od i).2.2)), (5, .int (nI i))] [.int (bI (sYr r od i = true))] (xM G we r cl seen kept rd nw ud im twe tr tcl bys wo nu len it so at_ be va sp ss al od ab bl bd no fu rest) := by
      refine z_istore (lv' := [(0, _), (1, _), (2, _), (3, _), (4, _), (5, _), (6, _)]) O dX3_waysToOrder_50 (by decide) rfl ?_
      have hJ87 :  Z G F 0 0 (zEnd G F (zE (.int (nI (woS r od dn).1)) (xM G we r cl seen kept rd nw ud im twe tr tcl bys wo nu len it so at_ be va sp ss al od ab bl bd no fu rest)) 0 0) 87 [(0, .ref (zad (zb G) 0)), (1, .int (nI dn)), (2, .int (nI (woS r od i).1)), (3, .int (nI (woS r od i).2.1)), (4, .int (nI (woS r od i).2.2)), (5, .int (nI i)), (6, .int (bI (sYr r od i = true)))] [.int (bI (sCl r od i = true))] (xM G we r cl seen kept rd nw ud im twe tr tcl bys wo nu len it so at_ be va sp ss al od ab bl bd no fu rest) := by
        refine z_istore (lv' := [(0, _), (1, _), (2, _), (3, _), (4, _), (5, _), (6, _), (7, _)]) O dX3_waysToOrder_87 (by decide) rfl ?_
        have hJ101 :  Z G F 0 0 (zEnd G F (zE (.int (nI (woS r od dn).1)) (xM G we r cl seen kept rd nw ud im twe tr tcl bys wo nu len it so at_ be va sp ss al od ab bl bd no fu rest)) 0 0) 101 [(0, .ref (zad (zb G) 0)), (1, .int (nI dn)), (2, .int (nI (woS r od i).1)), (3, .int (nI (woS r od i).2.1)), (4, .int (nI (woS r od i).2.2)), (5, .int (nI i)), (6, .int (bI (sYr r od i = true))), (7, .int (bI (sCl r od i = true)))] [.int (nI (if sYr r od i = true then (woS r od i).2.1 + 1 else 1))] (xM G we r cl seen kept rd nw ud im twe tr tcl bys wo nu len it so at_ be va sp ss al od ab bl bd no fu rest) := by
          refine z_istore_n (lv' := [(0, _), (1, _), (2, _), (3, _), (4, _), (5, _), (6, _), (7, _)]) O dX3_waysToOrder_101 (by decide) rfl ?_
          have hJ115 :  Z G F 0 0 (zEnd G F (zE (.int (nI (woS r od dn).1)) (xM G we r cl seen kept rd nw ud im twe tr tcl bys wo nu len it so at_ be va sp ss al od ab bl bd no fu rest)) 0 0) 115 [(0, .ref (zad (zb G) 0)), (1, .int (nI dn)), (2, .int (nI (woS r od i).1)), (3, .int (nI (if sYr r od i = true then (woS r od i).2.1 + 1 else 1))), (4, .int (nI (woS r od i).2.2)), (5, .int (nI i)), (6, .int (bI (sYr r od i = true))), (7, .int (bI (sCl r od i = true)))] [.int (nI (if sCl r od i = true then (woS r od i).2.2 + 1 else 1))] (xM G we r cl seen kept rd nw ud im twe tr tcl bys wo nu len it so at_ be va sp ss al od ab bl bd no fu rest) := by
            refine z_istore (lv' := [(0, _), (1, _), (2, _), (3, _), (4, _), (5, _), (6, _), (7, _)]) O dX3_waysToOrder_115 (by decide) rfl ?_
            refine z_iload_n O dX3_waysToOrder_117 rfl ?_
            refine z_iload_n O dX3_waysToOrder_118 rfl ?_
            refine z_imulN O dX3_waysToOrder_119 ?_
            refine z_iload O dX3_waysToOrder_120 rfl ?_
            refine z_idivN O dX3_waysToOrder_122 (by first | exact hdb | exact hdc | exact hdd0) (by first | exact hdb | exact hdc | exact hdd0) (by first | exact hdb | exact hdc | exact hdd0) ?_
            refine z_istore_n (lv' := [(0, _), (1, _), (2, _), (3, _), (4, _), (5, _), (6, _), (7, _)]) O dX3_waysToOrder_123 (by decide) rfl ?_
            refine z_iincN (lv' := [(0, _), (1, _), (2, _), (3, _), (4, _), (5, _), (6, _), (7, _)]) O 1 dX3_waysToOrder_124 (by decide) rfl rfl (by decide) ?_
            refine z_goto O 10 dX3_waysToOrder_127 (by decide) ?_
            refine z_kp (lv' := [(0, _), (1, _), (2, _), (3, _), (4, _), (5, _)]) [0, 1, 2, 3, 4, 5] rfl ?_
            exact ih
          refine z_iload O dX3_waysToOrder_102 rfl ?_
          refine z_if_eqB O 114 dX3_waysToOrder_104 (by decide) (fun h104 => ?_) (fun h104 => ?_)
          · refine z_iconst O (nI 1) dX3_waysToOrder_114 (by decide) ?_
            first
            | (rw [if_pos h104] at hJ115; exact hJ115)
            | (rw [if_neg h104] at hJ115; exact hJ115)
          · refine z_iload O dX3_waysToOrder_107 rfl ?_
            refine z_iconst O (nI 1) dX3_waysToOrder_109 (by decide) ?_
            refine z_iaddN O dX3_waysToOrder_110 ?_
            refine z_goto O 115 dX3_waysToOrder_111 (by decide) ?_
            first
            | (rw [if_pos h104] at hJ115; exact hJ115)
            | (rw [if_neg h104] at hJ115; exact hJ115)
        refine z_iload O dX3_waysToOrder_89 rfl ?_
        refine z_if_eqB O 100 dX3_waysToOrder_91 (by decide) (fun h91 => ?_) (fun h91 => ?_)
        · refine z_iconst O (nI 1) dX3_waysToOrder_100 (by decide) ?_
          first
          | (rw [if_pos h91] at hJ101; exact hJ101)
          | (rw [if_neg h91] at hJ101; exact hJ101)
        · refine z_iload_n O dX3_waysToOrder_94 rfl ?_
          refine z_iconst O (nI 1) dX3_waysToOrder_95 (by decide) ?_
          refine z_iaddN O dX3_waysToOrder_96 ?_
          refine z_goto O 101 dX3_waysToOrder_97 (by decide) ?_
          first
          | (rw [if_pos h91] at hJ101; exact hJ101)
          | (rw [if_neg h91] at hJ101; exact hJ101)
      refine z_iload O dX3_waysToOrder_52 rfl ?_
      refine z_if_eqB O 86 dX3_waysToOrder_54 (by decide) (fun h54 => ?_) (fun h54 => ?_)
      · refine z_iconst O (nI 0) dX3_waysToOrder_86 (by decide) ?_
        first
        | (have hx : ¬ sCl r od i = true := by simp [sCl, h79]
           exact z_top (by rw [bI_f hx]; rfl) hJ87)
        | (have hx : sCl r od i = true := by simp [sCl, h54, h79]
           exact z_top (by rw [bI_t hx]; rfl) hJ87)
        | (have hx : ¬ sCl r od i = true := by simp [sCl, h54]
           exact z_top (by rw [bI_f hx]; rfl) hJ87)
      · have hi0 : 0 < i := by simp [sYr] at h54; omega
        refine z_aload_n O dX3_waysToOrder_57 rfl ?_
        refine z_get O dX3_waysToOrder_58 flX3_44 (by rfl) (by rfl) ?_
        refine z_iload O dX3_waysToOrder_61 rfl ?_
        refine z_ialdN O dX3_waysToOrder_63 (by rfl) (by omega) (by decide) ?_
        refine z_bipush O (nI 10) dX3_waysToOrder_64 (by decide) ?_
        refine z_idivN O dX3_waysToOrder_66 (by have := (ho i (by omega)).2.2; omega) (by have := (ho i (by omega)).2.2; omega) (by have := (ho i (by omega)).2.2; omega) ?_
        refine z_aload_n O dX3_waysToOrder_67 rfl ?_
        refine z_get O dX3_waysToOrder_68 flX3_44 (by rfl) (by rfl) ?_
        refine z_iload O dX3_waysToOrder_71 rfl ?_
        refine z_iconst O (nI 1) dX3_waysToOrder_73 (by decide) ?_
        refine z_isubN O dX3_waysToOrder_74 (by omega) ?_
        refine z_ialdN O dX3_waysToOrder_75 (by rfl) (by omega) (by decide) ?_
        refine z_bipush O (nI 10) dX3_waysToOrder_76 (by decide) ?_
        refine z_idivN O dX3_waysToOrder_78 (by have := (ho (i - 1) (by omega)).2.2; omega) (by have := (ho (i - 1) (by omega)).2.2; omega) (by have := (ho (i - 1) (by omega)).2.2; omega) ?_
        refine z_icmp_neN O 86 dX3_waysToOrder_79 (by decide) (by have := (ho i (by omega)).2.2; have := (ho (i - 1) (by omega)).2.2; omega) (by have := (ho i (by omega)).2.2; have := (ho (i - 1) (by omega)).2.2; omega) (fun h79 => ?_) (fun h79 => ?_)
        · refine z_iconst O (nI 0) dX3_waysToOrder_86 (by decide) ?_
          first
          | (have hx : ¬ sCl r od i = true := by simp [sCl, h79]
             exact z_top (by rw [bI_f hx]; rfl) hJ87)
          | (have hx : sCl r od i = true := by simp [sCl, h54, h79]
             exact z_top (by rw [bI_t hx]; rfl) hJ87)
          | (have hx : ¬ sCl r od i = true := by simp [sCl, h54]
             exact z_top (by rw [bI_f hx]; rfl) hJ87)
        · refine z_iconst O (nI 1) dX3_waysToOrder_82 (by decide) ?_
          refine z_goto O 87 dX3_waysToOrder_83 (by decide) ?_
          first
          | (have hx : ¬ sCl r od i = true := by simp [sCl, h79]
             exact z_top (by rw [bI_f hx]; rfl) hJ87)
          | (have hx : sCl r od i = true := by simp [sCl, h54, h79]
             exact z_top (by rw [bI_t hx]; rfl) hJ87)
          | (have hx : ¬ sCl r od i = true := by simp [sCl, h54]
             exact z_top (by rw [bI_f hx]; rfl) hJ87)
    refine z_iload O dX3_waysToOrder_23 rfl ?_
    refine z_if_leN O 49 dX3_waysToOrder_25 (by decide) (by omega) (fun h25 => ?_) (fun h25 => ?_)
    · refine z_iconst O (nI 0) dX3_waysToOrder_49 (by decide) ?_
      first
      | (have hx : ¬ sYr r od i = true := by simp [sYr, h25]
         exact z_top (by rw [bI_f hx]; rfl) hJ50)
      | (have hx : ¬ sYr r od i = true := by simp [sYr, h42]
         exact z_top (by rw [bI_f hx]; rfl) hJ50)
      | (have hx : sYr r od i = true := by simp [sYr, h42]; omega
         exact z_top (by rw [bI_t hx]; rfl) hJ50)
    · refine z_aload_n O dX3_waysToOrder_28 rfl ?_
      refine z_iload O dX3_waysToOrder_29 rfl ?_
      refine z_V1e0 O (x_yearOrdered (by omega) (ho i (by omega))) mX3_yearOrdered lkX3_283 rfl (by rfl) dX3_waysToOrder_31 (Nat.le_of_ble_eq_true rfl) (by decide) ?_
      refine z_aload_n O dX3_waysToOrder_34 rfl ?_
      refine z_iload O dX3_waysToOrder_35 rfl ?_
      refine z_iconst O (nI 1) dX3_waysToOrder_37 (by decide) ?_
      refine z_isubN O dX3_waysToOrder_38 (by omega) ?_
      refine z_V1e0 O (x_yearOrdered (by omega) (ho (i - 1) (by omega))) mX3_yearOrdered lkX3_283 rfl (by rfl) dX3_waysToOrder_39 (Nat.le_of_ble_eq_true rfl) (by decide) ?_
      refine z_icmp_neN O 49 dX3_waysToOrder_42 (by decide) (by have h1 : yoN r od i < 1048576 := hr.1 _; have h2 : yoN r od (i - 1) < 1048576 := hr.1 _; omega) (by have h1 : yoN r od i < 1048576 := hr.1 _; have h2 : yoN r od (i - 1) < 1048576 := hr.1 _; omega) (fun h42 => ?_) (fun h42 => ?_)
      · refine z_iconst O (nI 0) dX3_waysToOrder_49 (by decide) ?_
        first
        | (have hx : ¬ sYr r od i = true := by simp [sYr, h25]
           exact z_top (by rw [bI_f hx]; rfl) hJ50)
        | (have hx : ¬ sYr r od i = true := by simp [sYr, h42]
           exact z_top (by rw [bI_f hx]; rfl) hJ50)
        | (have hx : sYr r od i = true := by simp [sYr, h42]; omega
           exact z_top (by rw [bI_t hx]; rfl) hJ50)
      · refine z_iconst O (nI 1) dX3_waysToOrder_45 (by decide) ?_
        refine z_goto O 50 dX3_waysToOrder_46 (by decide) ?_
        first
        | (have hx : ¬ sYr r od i = true := by simp [sYr, h25]
           exact z_top (by rw [bI_f hx]; rfl) hJ50)
        | (have hx : ¬ sYr r od i = true := by simp [sYr, h42]
           exact z_top (by rw [bI_f hx]; rfl) hJ50)
        | (have hx : sYr r od i = true := by simp [sYr, h42]; omega
           exact z_top (by rw [bI_t hx]; rfl) hJ50)
set_option maxRecDepth 20000 in
set_option maxHeartbeats 4000000 in
theorem x_ordersB {m i : Int32} (hb : ¬ ((0 ≤ m ∧ m < nI 512) ∧ (-1) ≤ i)) : zS G 2 yX3_orders cX3_orders 4 (some .int) [.ref (zad (zb G) 0), .int m, .int i] (xM G we r cl seen kept rd nw ud im twe tr tcl bys wo nu len it so at_ be va sp ss al od ab bl bd no fu rest) 0 0 (zE (.int (-10)) (xM G we r cl seen kept rd nw ud im twe tr tcl bys wo nu len it so at_ be va sp ss al od ab bl (bd + 1) no fu rest)) := by
  refine zS.of (by decide) (Nat.le_of_ble_eq_true rfl) (fun F O hR1 hR2 => ?_)
  have O : zOk G F yX3_orders cX3_orders 4 (some .int) RX3 2 (xM G we r cl seen kept rd nw ud im twe tr tcl bys wo nu len it so at_ be va sp ss al od ab bl bd no fu rest).length := O
  refine z_eq (lv' := [(0, _), (1, _), (2, _)]) rfl rfl rfl ?_
  refine z_iload_n O dX3_orders_0 rfl ?_
  refine z_sipush O (nI 512) dX3_orders_1 (by decide) ?_
  refine z_S2e0 O s_within mX3_within lkX3_54 dX3_orders_4 (Nat.le_of_ble_eq_true rfl) (by decide) ?_
  refine z_if_eqB O 15 dX3_orders_7 (by decide) (fun h7 => ?_) (fun h7 => ?_)
  · refine z_aload_n O dX3_orders_15 rfl ?_
    refine z_bipush O (-2) dX3_orders_16 (by decide) ?_
    refine z_V1e0 O x_refuseB mX3_refuse lkX3_58 rfl (by rfl) dX3_orders_18 (Nat.le_of_ble_eq_true rfl) (by decide) ?_
    refine z_pop O dX3_orders_21 rfl ?_
    refine z_bipush O (-10) dX3_orders_22 (by decide) ?_
    exact z_iret O dX3_orders_24 ⟨rfl, rfl⟩
  · refine z_iload_n O dX3_orders_10 rfl ?_
    refine z_iconst O (-1) dX3_orders_11 (by decide) ?_
    refine z_icmp_ge O 25 dX3_orders_12 (by decide) (fun h12 => ?_) (fun h12 => ?_)
    · exact absurd ⟨h7, by assumption⟩ hb --stop
    · refine z_aload_n O dX3_orders_15 rfl ?_
      refine z_bipush O (-2) dX3_orders_16 (by decide) ?_
      refine z_V1e0 O x_refuseB mX3_refuse lkX3_58 rfl (by rfl) dX3_orders_18 (Nat.le_of_ble_eq_true rfl) (by decide) ?_
      refine z_pop O dX3_orders_21 rfl ?_
      refine z_bipush O (-10) dX3_orders_22 (by decide) ?_
      exact z_iret O dX3_orders_24 ⟨rfl, rfl⟩
set_option maxRecDepth 20000 in
set_option maxHeartbeats 4000000 in
theorem x_ordersN (hr : rowOK r) {m : Nat} (hm : m < 512) {i : Int32} (hi1 : (-1) ≤ i) (hdn : 6 < darnsM r m 9) (hd2 : darnsM r m 9 < 1000) : zS G 4 yX3_orders cX3_orders 4 (some .int) [.ref (zad (zb G) 0), .int (nI m), .int i] (xM G we r cl seen kept rd nw ud im twe tr tcl bys wo nu len it so at_ be va sp ss al od ab bl bd no fu rest) 0 0 (zE (.int (-20)) (xM G we r cl seen kept rd nw ud im twe tr tcl bys wo nu len it so at_ be va sp ss al od ab bl bd (no + 1) fu rest)) := by
  refine zS.of (by decide) (Nat.le_of_ble_eq_true rfl) (fun F O hR1 hR2 => ?_)
  have O : zOk G F yX3_orders cX3_orders 4 (some .int) RX3 4 (xM G we r cl seen kept rd nw ud im twe tr tcl bys wo nu len it so at_ be va sp ss al od ab bl bd no fu rest).length := O
  refine z_eq (lv' := [(0, _), (1, _), (2, _)]) rfl rfl rfl ?_
  refine z_iload_n O dX3_orders_0 rfl ?_
  refine z_sipush O (nI 512) dX3_orders_1 (by decide) ?_
  refine z_S2e0 O (s_withinN (by omega) (by omega)) mX3_within lkX3_54 dX3_orders_4 (Nat.le_of_ble_eq_true rfl) (by decide) ?_
  refine z_if_eqB O 15 dX3_orders_7 (by decide) (fun h7 => by omega) (fun h7 => ?_)
  refine z_iload_n O dX3_orders_10 rfl ?_
  refine z_iconst O (-1) dX3_orders_11 (by decide) ?_
  refine z_icmp_ge O 25 dX3_orders_12 (by decide) (fun h12 => ?_) (fun h12 => by exact absurd hi1 h12)
  refine z_aload_n O dX3_orders_25 rfl ?_
  refine z_get O dX3_orders_26 flX3_12 (by rfl) (by rfl) ?_
  refine z_get O dX3_orders_29 flX3_62 (by rfl) (by rfl) ?_
  refine z_iload_n O dX3_orders_32 rfl ?_
  refine z_V1e0 O (s_darnsOf xN (by omega)) mX0_darnsOf lkX3_214 rfl (by rfl) dX3_orders_33 (Nat.le_of_ble_eq_true rfl) (by decide) ?_
  refine z_istore_n (lv' := [(0, _), (1, _), (2, _), (3, _)]) O dX3_orders_36 (by decide) rfl ?_
  refine z_iload_n O dX3_orders_37 rfl ?_
  refine z_bipush O (nI 6) dX3_orders_38 (by decide) ?_
  refine z_icmp_leN O 53 dX3_orders_40 (by decide) (by omega) (by omega) (fun h40 => by omega) (fun h40 => ?_)
  refine z_aload_n O dX3_orders_43 rfl ?_
  refine z_bipush O (-3) dX3_orders_44 (by decide) ?_
  refine z_V1e0 O x_refuseN mX3_refuse lkX3_58 rfl (by rfl) dX3_orders_46 (Nat.le_of_ble_eq_true rfl) (by decide) ?_
  refine z_pop O dX3_orders_49 rfl ?_
  refine z_bipush O (-20) dX3_orders_50 (by decide) ?_
  exact z_iret O dX3_orders_52 ⟨rfl, rfl⟩
set_option maxRecDepth 20000 in
set_option maxHeartbeats 4000000 in
theorem x_ordersF (hr : rowOK r) {m : Nat} (hm : m < 512) {i : Int32} (hi1 : (-1) ≤ i) (hdn : darnsM r m 9 ≤ 6) (hi2 : nI (darnsM r m 9) ≤ i) : zS G 4 yX3_orders cX3_orders 4 (some .int) [.ref (zad (zb G) 0), .int (nI m), .int i] (xM G we r cl seen kept rd nw ud im twe tr tcl bys wo nu len it so at_ be va sp ss al od ab bl bd no fu rest) 0 0 (zE (.int (-5)) (xM G we r cl seen kept rd nw ud im twe tr tcl bys wo nu len it so at_ be va sp ss al od ab bl bd no fu rest)) := by
  refine zS.of (by decide) (Nat.le_of_ble_eq_true rfl) (fun F O hR1 hR2 => ?_)
  have O : zOk G F yX3_orders cX3_orders 4 (some .int) RX3 4 (xM G we r cl seen kept rd nw ud im twe tr tcl bys wo nu len it so at_ be va sp ss al od ab bl bd no fu rest).length := O
  refine z_eq (lv' := [(0, _), (1, _), (2, _)]) rfl rfl rfl ?_
  refine z_iload_n O dX3_orders_0 rfl ?_
  refine z_sipush O (nI 512) dX3_orders_1 (by decide) ?_
  refine z_S2e0 O (s_withinN (by omega) (by omega)) mX3_within lkX3_54 dX3_orders_4 (Nat.le_of_ble_eq_true rfl) (by decide) ?_
  refine z_if_eqB O 15 dX3_orders_7 (by decide) (fun h7 => by omega) (fun h7 => ?_)
  refine z_iload_n O dX3_orders_10 rfl ?_
  refine z_iconst O (-1) dX3_orders_11 (by decide) ?_
  refine z_icmp_ge O 25 dX3_orders_12 (by decide) (fun h12 => ?_) (fun h12 => by exact absurd hi1 h12)
  refine z_aload_n O dX3_orders_25 rfl ?_
  refine z_get O dX3_orders_26 flX3_12 (by rfl) (by rfl) ?_
  refine z_get O dX3_orders_29 flX3_62 (by rfl) (by rfl) ?_
  refine z_iload_n O dX3_orders_32 rfl ?_
  refine z_V1e0 O (s_darnsOf xN (by omega)) mX0_darnsOf lkX3_214 rfl (by rfl) dX3_orders_33 (Nat.le_of_ble_eq_true rfl) (by decide) ?_
  refine z_istore_n (lv' := [(0, _), (1, _), (2, _), (3, _)]) O dX3_orders_36 (by decide) rfl ?_
  refine z_iload_n O dX3_orders_37 rfl ?_
  refine z_bipush O (nI 6) dX3_orders_38 (by decide) ?_
  refine z_icmp_leN O 53 dX3_orders_40 (by decide) (by omega) (by omega) (fun h40 => ?_) (fun h40 => by omega)
  refine z_iload_n O dX3_orders_53 rfl ?_
  refine z_iload_n O dX3_orders_54 rfl ?_
  refine z_icmp_lt O 61 dX3_orders_55 (by decide) (fun h55 => by exact absurd h55 (Int32.not_lt.mpr hi2)) (fun h55 => ?_)
  refine z_bipush O (-5) dX3_orders_58 (by decide) ?_
  exact z_iret O dX3_orders_60 ⟨rfl, rfl⟩
set_option maxRecDepth 20000 in
set_option maxHeartbeats 4000000 in
theorem x_ordersW (hr : rowOK r) {m : Nat} (hm : m < 512) (hdn : darnsM r m 9 ≤ 6) (ho : odOK (ffG r m (darnsM r m 9) od 6).2.2 (darnsM r m 9)) : zS G 5 yX3_orders cX3_orders 4 (some .int) [.ref (zad (zb G) 0), .int (nI m), .int (-1)] (xM G we r cl seen kept rd nw ud im twe tr tcl bys wo nu len it so at_ be va sp ss al od ab bl bd no fu rest) 0 0 (zE (.int (nI (woS r (ffG r m (darnsM r m 9) od 6).2.2 (darnsM r m 9)).1)) (xM G we r cl seen kept rd nw ud im twe tr tcl bys wo nu len it so at_ be va sp ss al ((ffG r m (darnsM r m 9) od 6).2.2 ) ab bl bd no fu rest)) := by
  refine zS.of (by decide) (Nat.le_of_ble_eq_true rfl) (fun F O hR1 hR2 => ?_)
  have O : zOk G F yX3_orders cX3_orders 4 (some .int) RX3 5 (xM G we r cl seen kept rd nw ud im twe tr tcl bys wo nu len it so at_ be va sp ss al od ab bl bd no fu rest).length := O
  refine z_eq (lv' := [(0, _), (1, _), (2, _)]) rfl rfl rfl ?_
  have hi1 : (-1 : Int32) ≤ -1 := by decide
  refine z_iload_n O dX3_orders_0 rfl ?_
  refine z_sipush O (nI 512) dX3_orders_1 (by decide) ?_
  refine z_S2e0 O (s_withinN (by omega) (by omega)) mX3_within lkX3_54 dX3_orders_4 (Nat.le_of_ble_eq_true rfl) (by decide) ?_
  refine z_if_eqB O 15 dX3_orders_7 (by decide) (fun h7 => by omega) (fun h7 => ?_)
  refine z_iload_n O dX3_orders_10 rfl ?_
  refine z_iconst O (-1) dX3_orders_11 (by decide) ?_
  refine z_icmp_ge O 25 dX3_orders_12 (by decide) (fun h12 => ?_) (fun h12 => by exact absurd hi1 h12)
  refine z_aload_n O dX3_orders_25 rfl ?_
  refine z_get O dX3_orders_26 flX3_12 (by rfl) (by rfl) ?_
  refine z_get O dX3_orders_29 flX3_62 (by rfl) (by rfl) ?_
  refine z_iload_n O dX3_orders_32 rfl ?_
  refine z_V1e0 O (s_darnsOf xN (by omega)) mX0_darnsOf lkX3_214 rfl (by rfl) dX3_orders_33 (Nat.le_of_ble_eq_true rfl) (by decide) ?_
  refine z_istore_n (lv' := [(0, _), (1, _), (2, _), (3, _)]) O dX3_orders_36 (by decide) rfl ?_
  refine z_iload_n O dX3_orders_37 rfl ?_
  refine z_bipush O (nI 6) dX3_orders_38 (by decide) ?_
  refine z_icmp_leN O 53 dX3_orders_40 (by decide) (by omega) (by omega) (fun h40 => ?_) (fun h40 => by omega)
  refine z_iload_n O dX3_orders_53 rfl ?_
  refine z_iload_n O dX3_orders_54 rfl ?_
  refine z_icmp_lt O 61 dX3_orders_55 (by decide) (fun h55 => ?_) (fun h55 => by exact absurd (m1_lt (by omega)) h55)
  refine z_aload_n O dX3_orders_61 rfl ?_
  refine z_iload_n O dX3_orders_62 rfl ?_
  refine z_iload_n O dX3_orders_63 rfl ?_
  refine z_V2u0 O (x_findFirstOrder hr hm hdn) mX3_findFirstOrder lkX3_217 rfl (by rfl) dX3_orders_64 (Nat.le_of_ble_eq_true rfl) (by decide) ?_
  refine z_iload_n O dX3_orders_67 rfl ?_
  refine z_iconst O (-1) dX3_orders_68 (by decide) ?_
  refine z_icmp_ne O 80 dX3_orders_69 (by decide) (fun h69 => by exact absurd rfl h69) (fun h69 => ?_)
  refine z_aload_n O dX3_orders_72 rfl ?_
  refine z_iload_n O dX3_orders_73 rfl ?_
  refine z_V1e0 O (x_waysToOrder hr hdn ho) mX3_waysToOrder lkX3_220 rfl (by rfl) dX3_orders_74 (Nat.le_of_ble_eq_true rfl) (by decide) ?_
  refine z_goto O 86 dX3_orders_77 (by decide) ?_
  exact z_iret O dX3_orders_86 ⟨rfl, rfl⟩
set_option maxRecDepth 20000 in
set_option maxHeartbeats 4000000 in
theorem x_ordersI (hr : rowOK r) {m j : Nat} (hm : m < 512) (hdn : darnsM r m 9 ≤ 6) (hj : j < darnsM r m 9) : zS G 5 yX3_orders cX3_orders 4 (some .int) [.ref (zad (zb G) 0), .int (nI m), .int (nI j)] (xM G we r cl seen kept rd nw ud im twe tr tcl bys wo nu len it so at_ be va sp ss al od ab bl bd no fu rest) 0 0 (zE (.int (nI ((ffG r m (darnsM r m 9) od 6).2.2 j))) (xM G we r cl seen kept rd nw ud im twe tr tcl bys wo nu len it so at_ be va sp ss al ((ffG r m (darnsM r m 9) od 6).2.2 ) ab bl bd no fu rest)) := by
  refine zS.of (by decide) (Nat.le_of_ble_eq_true rfl) (fun F O hR1 hR2 => ?_)
  have O : zOk G F yX3_orders cX3_orders 4 (some .int) RX3 5 (xM G we r cl seen kept rd nw ud im twe tr tcl bys wo nu len it so at_ be va sp ss al od ab bl bd no fu rest).length := O
  refine z_eq (lv' := [(0, _), (1, _), (2, _)]) rfl rfl rfl ?_
  refine z_iload_n O dX3_orders_0 rfl ?_
  refine z_sipush O (nI 512) dX3_orders_1 (by decide) ?_
  refine z_S2e0 O (s_withinN (by omega) (by omega)) mX3_within lkX3_54 dX3_orders_4 (Nat.le_of_ble_eq_true rfl) (by decide) ?_
  refine z_if_eqB O 15 dX3_orders_7 (by decide) (fun h7 => by omega) (fun h7 => ?_)
  refine z_iload_n O dX3_orders_10 rfl ?_
  refine z_iconst O (-1) dX3_orders_11 (by decide) ?_
  refine z_icmp_ge O 25 dX3_orders_12 (by decide) (fun h12 => ?_) (fun h12 => by exact absurd (m1_le (by omega)) h12)
  refine z_aload_n O dX3_orders_25 rfl ?_
  refine z_get O dX3_orders_26 flX3_12 (by rfl) (by rfl) ?_
  refine z_get O dX3_orders_29 flX3_62 (by rfl) (by rfl) ?_
  refine z_iload_n O dX3_orders_32 rfl ?_
  refine z_V1e0 O (s_darnsOf xN (by omega)) mX0_darnsOf lkX3_214 rfl (by rfl) dX3_orders_33 (Nat.le_of_ble_eq_true rfl) (by decide) ?_
  refine z_istore_n (lv' := [(0, _), (1, _), (2, _), (3, _)]) O dX3_orders_36 (by decide) rfl ?_
  refine z_iload_n O dX3_orders_37 rfl ?_
  refine z_bipush O (nI 6) dX3_orders_38 (by decide) ?_
  refine z_icmp_leN O 53 dX3_orders_40 (by decide) (by omega) (by omega) (fun h40 => ?_) (fun h40 => by omega)
  refine z_iload_n O dX3_orders_53 rfl ?_
  refine z_iload_n O dX3_orders_54 rfl ?_
  refine z_icmp_ltN O 61 dX3_orders_55 (by decide) (by omega) (by omega) (fun h55 => ?_) (fun h55 => by omega)
  refine z_aload_n O dX3_orders_61 rfl ?_
  refine z_iload_n O dX3_orders_62 rfl ?_
  refine z_iload_n O dX3_orders_63 rfl ?_
  refine z_V2u0 O (x_findFirstOrder hr hm hdn) mX3_findFirstOrder lkX3_217 rfl (by rfl) dX3_orders_64 (Nat.le_of_ble_eq_true rfl) (by decide) ?_
  refine z_iload_n O dX3_orders_67 rfl ?_
  refine z_iconst O (-1) dX3_orders_68 (by decide) ?_
  refine z_icmp_ne O 80 dX3_orders_69 (by decide) (fun h69 => ?_) (fun h69 => by exact absurd h69 (m1_ne (by omega)))
  refine z_aload_n O dX3_orders_80 rfl ?_
  refine z_get O dX3_orders_81 flX3_44 (by rfl) (by rfl) ?_
  refine z_iload_n O dX3_orders_84 rfl ?_
  refine z_ialdN O dX3_orders_85 (by rfl) (by omega) (by decide) ?_
  exact z_iret O dX3_orders_86 ⟨rfl, rfl⟩
end XS
