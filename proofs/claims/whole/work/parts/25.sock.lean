/-! ===== Sock: years to come, digest, copies ===== -/
/-- how long a cell lasts: n turns are left, the m-th is now; u darns under a top of kind kd with left thread -/
def spanG (r we : Nat → Nat) (c : Nat) : Nat → Nat → Nat → Nat → Nat → Nat
  | 0, _, _, _, _ => 41
  | n + 1, m, u, kd, lf => if lf = 0 then (if u = 0 then m else spanG r we c n (m + 1) (u - 1) (fld r c (u - 1) 0) (fld r c (u - 1) 2 - lossN (fld r c (u - 1) 0) (we c) (r 117 + m)))
    else spanG r we c n (m + 1) u kd (lf - lossN kd (we c) (r 117 + m))
def lftC (r we : Nat → Nat) (c kd : Nat) : Nat → Nat
  | 0 => fld r c (r (108 + c) - 1) 2
  | i + 1 => lftC r we c kd i - lossN kd (we c) (r 117 + i)
theorem lftC_le (r we : Nat → Nat) (c kd : Nat) : ∀ i, lftC r we c kd i ≤ fld r c (r (108 + c) - 1) 2
  | 0 => Nat.le_refl _
  | i + 1 => Nat.le_trans (Nat.sub_le _ _) (lftC_le r we c kd i)
theorem lftC_0 {r we : Nat → Nat} {c kd i : Nat} (h : lftC r we c kd i = 0) : ∀ n, lftC r we c kd (i + n) = 0
  | 0 => h
  | n + 1 => by
    show lftC r we c kd (i + n) - _ = 0
    rw [lftC_0 h n, Nat.zero_sub]
theorem lfx_max {x : Int32} {n : Nat} (h : lfx x n) (hn : n < 2 ^ 31) : (if x < nI 0 then nI 0 else x) = nI n := by
  rcases h with ⟨h1, h2⟩ | ⟨h1, rfl⟩
  · subst h1
    by_cases hx : x < nI 0
    · rw [if_pos hx]
    · rw [if_neg hx]
      exact Int32.le_antisymm h2 (Int32.not_lt.mp hx)
  · rw [if_neg (show ¬ nI n < nI 0 from nI_pos hn)]
/-- of the ten ways of each year that is left those by which the cell is a hole at last -/
def hwN (r we : Nat → Nat) (c cc : Nat) : Nat → Nat → Nat → Nat → Nat
  | 0, u, _, _ => if u = 0 then 1 else 0
  | n + 1, u, th, y => if u = 0 then 10 ^ (n + 1) else
      cc * (if th ≤ lossN (fld r c (u - 1) 0) (we c) y then hwN r we c cc n (u - 1) (if u - 1 = 0 then 0 else fld r c (u - 1 - 1) 2) (y + 1) else hwN r we c cc n u (th - lossN (fld r c (u - 1) 0) (we c) y) (y + 1))
      + (10 - cc) * hwN r we c cc n u th (y + 1)
/-- a year, or the one ahead of all: L is the year and 1 -/
def mI (L : Nat) : Int32 := nI L + (-1)
theorem mI_toInt {L : Nat} (h : L < 2 ^ 30) : (mI L).toInt = (L : Int) - 1 := by
  have h1 : mI L = nI L - nI 1 := by
    unfold mI
    rw [show (-1 : Int32) = - nI 1 by decide, ← Int32.sub_eq_add_neg]
  rw [h1, pk_sub_toInt h (by decide)]
  omega
theorem mI_s (n : Nat) : mI (n + 1) = nI n := pk_m1 n
theorem mI_lt {a b : Nat} (ha : a < 2 ^ 30) (hb : b < 2 ^ 30) : mI a < mI b ↔ a < b := by
  rw [Int32.lt_iff_toInt_lt, mI_toInt ha, mI_toInt hb]; omega
theorem mI_le {a b : Nat} (ha : a < 2 ^ 30) (hb : b < 2 ^ 30) : mI a ≤ mI b ↔ a ≤ b := by
  rw [Int32.le_iff_toInt_le, mI_toInt ha, mI_toInt hb]; omega
theorem mI_eq {a b : Nat} (ha : a < 2 ^ 30) (hb : b < 2 ^ 30) : mI a = mI b ↔ a = b := by
  rw [← Int32.toInt_inj, mI_toInt ha, mI_toInt hb]; omega
def nyI (r : Nat → Nat) (L c a : Nat) : Nat → Nat
  | 0 => a
  | p + 1 => if L < fld r c p 3 + 1 ∧ (nyI r L c a p = L ∨ fld r c p 3 + 1 < nyI r L c a p) then fld r c p 3 + 1 else nyI r L c a p
def nyC (r : Nat → Nat) (m L : Nat) : Nat → Nat
  | 0 => L
  | c + 1 => if bitN m c = 0 then nyC r m L c else nyI r L c (nyC r m L c) (r (108 + c))
theorem nyI_lt {r : Nat → Nat} (hr : rowOK r) {L c a : Nat} (ha : a ≤ 1048576) : ∀ p, nyI r L c a p ≤ 1048576
  | 0 => ha
  | p + 1 => by
    have h := nyI_lt hr (L := L) (c := c) ha p
    have h2 : fld r c p 3 < 1048576 := hr.1 _
    unfold nyI
    split
    · omega
    · exact h
theorem nyC_lt {r : Nat → Nat} (hr : rowOK r) {m L : Nat} (hL : L ≤ 1048576) : ∀ c, nyC r m L c ≤ 1048576
  | 0 => hL
  | c + 1 => by
    have h := nyC_lt hr (m := m) hL c
    unfold nyC
    split
    · exact h
    · exact nyI_lt hr h _
def mixL (h : Int64) (v : Nat) : Int64 := lN 31 * h + lN v
def dgF (r : Nat → Nat) (c p : Nat) (h : Int64) : Nat → Int64
  | 0 => h
  | f + 1 => mixL (dgF r c p h f) (fld r c p f)
def dgP (r : Nat → Nat) (c : Nat) (h : Int64) : Nat → Int64
  | 0 => h
  | p + 1 => dgF r c p (dgP r c h p) 4
def dgC (r we : Nat → Nat) (h : Int64) : Nat → Int64
  | 0 => h
  | c + 1 => dgP r c (mixL (mixL (dgC r we h c) (we c)) (r (108 + c))) (r (108 + c))
def cpyN (f g : Nat → Nat) (sp dp n : Nat) : Nat → Nat := fun k => if dp ≤ k ∧ k < dp + n then f (sp + (k - dp)) else g k
theorem cpy_nI (f g : Nat → Nat) (sp dp n : Nat) : va_cpy (fun j => nI (f j)) (fun j => nI (g j)) sp dp n = fun j => nI (cpyN f g sp dp n j) := by
  funext j
  unfold va_cpy cpyN
  split <;> rfl
section SK
variable {G : zG} {M : List va_E} {k i1 i2 i3 : Nat} {we r cl : Nat → Nat}
set_option maxRecDepth 20000 in
set_option maxHeartbeats 4000000 in
theorem s_powerOfTen {n : Nat} (hn : n < 2 ^ 31) : zS G 1 yX3_powerOfTen cX3_powerOfTen 4 (some .long) [.int (nI n)] M 0 0 (zE (.long (lN (10 ^ n))) M) := by
  refine zS.of (by decide) (Nat.le_of_ble_eq_true rfl) (fun F O hR1 hR2 => ?_)
  have O : zOk G F yX3_powerOfTen cX3_powerOfTen 4 (some .long) RX3 1 M.length := O
  refine z_eq (lv' := [(0, _)]) rfl rfl rfl ?_
  refine z_lconst O (lN 1) dX3_powerOfTen_0 (by decide) ?_
  refine z_lstore_n (lv' := [(0, _), (1, _)]) O dX3_powerOfTen_1 (by decide) rfl ?_
  refine z_iconst O (nI 0) dX3_powerOfTen_2 (by decide) ?_
  refine z_istore_n (lv' := [(0, _), (1, _), (3, _)]) O dX3_powerOfTen_3 (by decide) rfl ?_
  refine zdown (P := fun i => Z G F 0 0 (zEnd G F (zE (.long (lN (10 ^ n))) M) 0 0) 4 [(0, .int (nI n)), (1, .long (lN (10 ^ i))), (3, .int (nI i))] [] M) (n) ?_ ?_ 
  · refine z_iload_n O dX3_powerOfTen_4 rfl ?_
    refine z_iload_n O dX3_powerOfTen_5 rfl ?_
    refine z_icmp_geN O 21 dX3_powerOfTen_6 (by decide) (by omega) (by omega) (fun h6 => ?_) (fun h6 => by omega)
    refine z_lload_n O dX3_powerOfTen_21 rfl ?_
    exact z_lret O dX3_powerOfTen_22 ⟨rfl, rfl⟩
  · intro i hi ih 
    refine z_iload_n O dX3_powerOfTen_4 rfl ?_
    refine z_iload_n O dX3_powerOfTen_5 rfl ?_
    refine z_icmp_geN O 21 dX3_powerOfTen_6 (by decide) (by omega) (by omega) (fun h6 => by omega) (fun h6 => ?_)
    refine z_lload_n O dX3_powerOfTen_9 rfl ?_
    refine z_ldc2 O dX3_powerOfTen_10 klX3_272 ?_
    refine z_top (v' := .long (lN 10)) (by decide) ?_
    refine z_lmulN O dX3_powerOfTen_13 ?_
    refine z_lstore_n (lv' := [(0, _), (1, _), (3, _)]) O dX3_powerOfTen_14 (by decide) rfl ?_
    refine z_iincN (lv' := [(0, _), (1, _), (3, _)]) O 1 dX3_powerOfTen_15 (by decide) rfl rfl (by decide) ?_
    refine z_goto O 4 dX3_powerOfTen_18 (by decide) ?_
    exact ih
set_option maxRecDepth 20000 in
set_option maxHeartbeats 4000000 in
theorem s_leftOf (hS : zSock G M k i1 i2 i3 we r cl) (hr : rowOK r) (hw : weOK we) {c kd m : Nat} (hc : c < 9) (h0 : 0 < r (108 + c)) (hkd : kd < 2 ^ 31) (hm : m < 1048576) : zS G 3 yX0_leftOf cX0_leftOf 6 (some .int) [.ref (zad (zb G) k), .int (nI c), .int (nI kd), .int (nI m)] M 0 0 (zE (.int (nI (lftC r we c kd m))) M) := by
  refine zS.of (by decide) (Nat.le_of_ble_eq_true rfl) (fun F O hR1 hR2 => ?_)
  have O : zOk G F yX0_leftOf cX0_leftOf 6 (some .int) RX0 3 M.length := O
  refine z_eq (lv' := [(0, _), (1, _), (2, _), (3, _)]) rfl rfl rfl ?_
  obtain ⟨hk0, hk1, hk2, hk3⟩ := id hS
  have h3 := hr.2 c hc
  refine z_aload_n O dX0_leftOf_0 rfl ?_
  refine z_iload_n O dX0_leftOf_1 rfl ?_
  refine z_V1e0 O (s_isHole hS hr hc) mX0_isHole lkX0_42 rfl (by assumption) dX0_leftOf_2 (Nat.le_of_ble_eq_true rfl) (by decide) ?_
  refine z_if_eqB O 10 dX0_leftOf_5 (by decide) (fun h5 => ?_) (fun h5 => by omega)
  refine z_aload_n O dX0_leftOf_10 rfl ?_
  refine z_iload_n O dX0_leftOf_11 rfl ?_
  refine z_aload_n O dX0_leftOf_12 rfl ?_
  refine z_iload_n O dX0_leftOf_13 rfl ?_
  refine z_V1e0 O (s_many hS hc) mX0_many lkX0_35 rfl (by assumption) dX0_leftOf_14 (Nat.le_of_ble_eq_true rfl) (by decide) ?_
  refine z_iconst O (nI 1) dX0_leftOf_17 (by decide) ?_
  refine z_isubN O dX0_leftOf_18 (by omega) ?_
  refine z_V2e0 O (s_threadAt hS hc (by omega)) mX0_threadAt lkX0_61 rfl (by assumption) dX0_leftOf_19 (Nat.le_of_ble_eq_true rfl) (by decide) ?_
  refine z_istore (lv' := [(0, _), (1, _), (2, _), (3, _), (4, _)]) O dX0_leftOf_22 (by decide) rfl ?_
  refine z_iconst O (nI 0) dX0_leftOf_24 (by decide) ?_
  refine z_istore (lv' := [(0, _), (1, _), (2, _), (3, _), (4, _), (5, _)]) O dX0_leftOf_25 (by decide) rfl ?_
  refine zdown (P := fun i => ∀ x : Int32, lfx x (lftC r we c kd i) → Z G F 0 0 (zEnd G F (zE (.int (nI (lftC r we c kd m))) M) 0 0) 27 [(0, .ref (zad (zb G) k)), (1, .int (nI c)), (2, .int (nI kd)), (3, .int (nI m)), (4, .int x), (5, .int (nI i))] [] M) (m) ?_ ?_ _ lfx_n
  · intro x hx
    have hb1 := lftC_le r we c kd m
    have hb4 : fld r c (r (108 + c) - 1) 2 < 1048576 := hr.1 _
    refine z_iload O dX0_leftOf_27 rfl ?_
    refine z_iload_n O dX0_leftOf_29 rfl ?_
    refine z_icmp_geN O 69 dX0_leftOf_30 (by decide) (by omega) (by omega) (fun h30 => ?_) (fun h30 => by omega)
    refine z_iload O dX0_leftOf_69 rfl ?_
    refine z_iconst O (nI 0) dX0_leftOf_71 (by decide) ?_
    refine z_S2e0 O s_max mJ9_max_7cf53 lkX0_87 dX0_leftOf_72 (Nat.le_of_ble_eq_true rfl) (by decide) ?_
    exact z_iret O dX0_leftOf_75 ⟨by rw [lfx_max hx (by omega)], rfl⟩
  · intro i hi ih x hx
    have hb1 := lftC_le r we c kd i
    have hb2 := lossN_le kd (we c) (r 117 + i)
    have hb3 := hw c
    have hb4 : fld r c (r (108 + c) - 1) 2 < 1048576 := hr.1 _
    refine z_iload O dX0_leftOf_27 rfl ?_
    refine z_iload_n O dX0_leftOf_29 rfl ?_
    refine z_icmp_geN O 69 dX0_leftOf_30 (by decide) (by omega) (by omega) (fun h30 => by omega) (fun h30 => ?_)
    refine z_iload O dX0_leftOf_33 rfl ?_
    refine z_if_le O 69 dX0_leftOf_35 (by decide) (fun h35 => ?_) (fun h35 => ?_)
    · refine z_iload O dX0_leftOf_69 rfl ?_
      refine z_iconst O (nI 0) dX0_leftOf_71 (by decide) ?_
      refine z_S2e0 O s_max mJ9_max_7cf53 lkX0_87 dX0_leftOf_72 (Nat.le_of_ble_eq_true rfl) (by decide) ?_
      exact z_iret O dX0_leftOf_75 (by have h0 := (lfx_le hx (by omega)).mp h35; have hm := lftC_0 h0 (m - i); rw [show i + (m - i) = m by omega] at hm; exact ⟨by rw [lfx_max hx (by omega), h0, hm], rfl⟩)
    · refine z_iload O dX0_leftOf_38 rfl ?_
      refine z_iload_n O dX0_leftOf_40 rfl ?_
      refine z_aload_n O dX0_leftOf_41 rfl ?_
      refine z_get O dX0_leftOf_42 flX0_9 (by assumption) (by rfl) ?_
      refine z_iload_n O dX0_leftOf_45 rfl ?_
      refine z_ialdN O dX0_leftOf_46 (by assumption) (by omega) (by decide) ?_
      refine z_aload_n O dX0_leftOf_47 rfl ?_
      refine z_get O dX0_leftOf_48 flX0_15 (by assumption) (by rfl) ?_
      refine z_bipush O (nI 117) dX0_leftOf_51 (by decide) ?_
      refine z_ialdN O dX0_leftOf_53 (by assumption) (by omega) (by decide) ?_
      refine z_iload O dX0_leftOf_54 rfl ?_
      refine z_iaddN O dX0_leftOf_56 ?_
      refine z_SN3e0 O (s_loss hkd (by have := hw c; omega) (by have := hr.1 117; omega)) mX3_loss nlX0_65 dX0_leftOf_57 (Nat.le_of_ble_eq_true rfl) (by decide) ?_
      rcases hx with ⟨hx1, hx2⟩ | ⟨hx1, rfl⟩
      · exact absurd hx2 h35 --stop
      · refine z_isub O dX0_leftOf_60 ?_
        refine z_istore (lv' := [(0, _), (1, _), (2, _), (3, _), (4, _), (5, _)]) O dX0_leftOf_61 (by decide) rfl ?_
        refine z_iincN (lv' := [(0, _), (1, _), (2, _), (3, _), (4, _), (5, _)]) O 1 dX0_leftOf_63 (by decide) rfl rfl (by decide) ?_
        refine z_goto O 27 dX0_leftOf_66 (by decide) ?_
        exact ih _ (lfx_sub (by omega) (by omega))
set_option maxRecDepth 20000 in
set_option maxHeartbeats 4000000 in
theorem s_nextYear (hS : zSock G M k i1 i2 i3 we r cl) (hr : rowOK r) {m L : Nat} (hm : m < 2 ^ 31) (hL : L ≤ 1048576) : zS G 2 yX0_nextYear cX0_nextYear 7 (some .int) [.ref (zad (zb G) k), .int (nI m), .int (mI L)] M 0 0 (zE (.int (mI (nyC r m L 9))) M) := by
  refine zS.of (by decide) (Nat.le_of_ble_eq_true rfl) (fun F O hR1 hR2 => ?_)
  have O : zOk G F yX0_nextYear cX0_nextYear 7 (some .int) RX0 2 M.length := O
  refine z_eq (lv' := [(0, _), (1, _), (2, _)]) rfl rfl rfl ?_
  obtain ⟨hk0, hk1, hk2, hk3⟩ := id hS
  refine z_iload_n O dX0_nextYear_0 rfl ?_
  refine z_istore_n (lv' := [(0, _), (1, _), (2, _), (3, _)]) O dX0_nextYear_1 (by decide) rfl ?_
  refine z_iconst O (nI 0) dX0_nextYear_2 (by decide) ?_
  refine z_istore (lv' := [(0, _), (1, _), (2, _), (3, _), (4, _)]) O dX0_nextYear_3 (by decide) rfl ?_
  refine zdown (P := fun c => Z G F 0 0 (zEnd G F (zE (.int (mI (nyC r m L 9))) M) 0 0) 5 [(0, .ref (zad (zb G) k)), (1, .int (nI m)), (2, .int (mI L)), (3, .int (mI (nyC r m L c))), (4, .int (nI c))] [] M) (9) ?_ ?_ 
  · refine z_iload O dX0_nextYear_5 rfl ?_
    refine z_bipush O (nI 9) dX0_nextYear_7 (by decide) ?_
    refine z_icmp_geN O 81 dX0_nextYear_9 (by decide) (by omega) (by omega) (fun h9 => ?_) (fun h9 => by omega)
    refine z_iload_n O dX0_nextYear_81 rfl ?_
    exact z_iret O dX0_nextYear_82 ⟨rfl, rfl⟩
  · intro c hc ih 
    refine z_iload O dX0_nextYear_5 rfl ?_
    refine z_bipush O (nI 9) dX0_nextYear_7 (by decide) ?_
    refine z_icmp_geN O 81 dX0_nextYear_9 (by decide) (by omega) (by omega) (fun h9 => by omega) (fun h9 => ?_)
    refine z_iload_n O dX0_nextYear_12 rfl ?_
    refine z_iload O dX0_nextYear_13 rfl ?_
    refine z_ishr O dX0_nextYear_15 ?_
    refine z_iconst O (nI 1) dX0_nextYear_16 (by decide) ?_
    refine z_iand O dX0_nextYear_17 ?_
    refine z_top (v' := .int (nI (bitN m c))) (congrArg Value.int (zb_bit hm (by omega))) ?_
    refine z_if_neN O 24 dX0_nextYear_18 (by decide) (by have : bitN m c < 2 := Nat.mod_lt _ (by decide); omega) (fun h18 => ?_) (fun h18 => ?_)
    · refine z_iconst O (nI 0) dX0_nextYear_24 (by decide) ?_
      refine z_istore (lv' := [(0, _), (1, _), (2, _), (3, _), (4, _), (5, _)]) O dX0_nextYear_25 (by decide) rfl ?_
      refine zdown (P := fun p => Z G F 0 0 (zEnd G F (zE (.int (mI (nyC r m L 9))) M) 0 0) 27 [(0, .ref (zad (zb G) k)), (1, .int (nI m)), (2, .int (mI L)), (3, .int (mI (nyI r L c (nyC r m L c) p))), (4, .int (nI c)), (5, .int (nI p))] [] M) (r (108 + c)) ?_ ?_ 
      · refine z_iload O dX0_nextYear_27 rfl ?_
        refine z_aload_n O dX0_nextYear_29 rfl ?_
        refine z_iload O dX0_nextYear_30 rfl ?_
        refine z_V1e0 O (s_many hS hc) mX0_many lkX0_35 rfl (by assumption) dX0_nextYear_32 (Nat.le_of_ble_eq_true rfl) (by decide) ?_
        refine z_icmp_geN O 75 dX0_nextYear_35 (by decide) (by have := hr.2 c hc; omega) (by have := hr.2 c hc; omega) (fun h35 => ?_) (fun h35 => by omega)
        refine z_iincN (lv' := [(0, _), (1, _), (2, _), (3, _), (4, _), (5, _)]) O 1 dX0_nextYear_75 (by decide) rfl rfl (by decide) ?_
        refine z_goto O 5 dX0_nextYear_78 (by decide) ?_
        refine z_kp (lv' := [(0, _), (1, _), (2, _), (3, _), (4, _)]) [0, 1, 2, 3, 4] rfl ?_
        rw [show nyC r m L (c + 1) = nyI r L c (nyC r m L c) (r (108 + c)) from if_neg h18] at ih
        exact ih
      · intro p hp ih 
        have hb1 := nyI_lt hr (L := L) (c := c) (nyC_lt hr (m := m) hL c) p
        have hb2 : fld r c p 3 < 1048576 := hr.1 _
        have h3 := hr.2 c hc
        refine z_iload O dX0_nextYear_27 rfl ?_
        refine z_aload_n O dX0_nextYear_29 rfl ?_
        refine z_iload O dX0_nextYear_30 rfl ?_
        refine z_V1e0 O (s_many hS hc) mX0_many lkX0_35 rfl (by assumption) dX0_nextYear_32 (Nat.le_of_ble_eq_true rfl) (by decide) ?_
        refine z_icmp_geN O 75 dX0_nextYear_35 (by decide) (by have := hr.2 c hc; omega) (by have := hr.2 c hc; omega) (fun h35 => by omega) (fun h35 => ?_)
        refine z_aload_n O dX0_nextYear_38 rfl ?_
        refine z_iload O dX0_nextYear_39 rfl ?_
        refine z_iload O dX0_nextYear_41 rfl ?_
        refine z_iconst O (nI 3) dX0_nextYear_43 (by decide) ?_
        refine z_V3e0 O (s_get hS hc (by omega) (by decide)) mX0_get lkX0_31 rfl (by assumption) dX0_nextYear_44 (Nat.le_of_ble_eq_true rfl) (by decide) ?_
        refine z_top (v' := .int (mI (fld r c p 3 + 1))) (by rw [mI_s]) ?_
        refine z_istore (lv' := [(0, _), (1, _), (2, _), (3, _), (4, _), (5, _), (6, _)]) O dX0_nextYear_47 (by decide) rfl ?_
        refine z_iload O dX0_nextYear_49 rfl ?_
        refine z_iload_n O dX0_nextYear_51 rfl ?_
        refine z_icmp_le O 69 dX0_nextYear_52 (by decide) (fun h52 => ?_) (fun h52 => ?_)
        · refine z_iincN (lv' := [(0, _), (1, _), (2, _), (3, _), (4, _), (5, _), (6, _)]) O 1 dX0_nextYear_69 (by decide) rfl rfl (by decide) ?_
          refine z_goto O 27 dX0_nextYear_72 (by decide) ?_
          refine z_kp (lv' := [(0, _), (1, _), (2, _), (3, _), (4, _), (5, _)]) [0, 1, 2, 3, 4, 5] rfl ?_
          first
          | (rw [mI_le (by omega) (by omega)] at h52; rw [show nyI r L c (nyC r m L c) (p + 1) = nyI r L c (nyC r m L c) p from if_neg (by omega)] at ih; exact ih)
          | (rw [mI_le (by omega) (by omega)] at h52; rw [mI_eq (by omega) (by omega)] at h57; rw [show nyI r L c (nyC r m L c) (p + 1) = fld r c p 3 + 1 from if_pos (by omega)] at ih; exact ih)
          | (rw [mI_le (by omega) (by omega)] at h52 h63; rw [mI_eq (by omega) (by omega)] at h57; rw [show nyI r L c (nyC r m L c) (p + 1) = nyI r L c (nyC r m L c) p from if_neg (by omega)] at ih; exact ih)
          | (rw [mI_le (by omega) (by omega)] at h52 h63; rw [mI_eq (by omega) (by omega)] at h57; rw [show nyI r L c (nyC r m L c) (p + 1) = fld r c p 3 + 1 from if_pos (by omega)] at ih; exact ih)
        · refine z_iload_n O dX0_nextYear_55 rfl ?_
          refine z_iload_n O dX0_nextYear_56 rfl ?_
          refine z_icmp_eq O 66 dX0_nextYear_57 (by decide) (fun h57 => ?_) (fun h57 => ?_)
          · refine z_iload O dX0_nextYear_66 rfl ?_
            refine z_istore_n (lv' := [(0, _), (1, _), (2, _), (3, _), (4, _), (5, _), (6, _)]) O dX0_nextYear_68 (by decide) rfl ?_
            refine z_iincN (lv' := [(0, _), (1, _), (2, _), (3, _), (4, _), (5, _), (6, _)]) O 1 dX0_nextYear_69 (by decide) rfl rfl (by decide) ?_
            refine z_goto O 27 dX0_nextYear_72 (by decide) ?_
            refine z_kp (lv' := [(0, _), (1, _), (2, _), (3, _), (4, _), (5, _)]) [0, 1, 2, 3, 4, 5] rfl ?_
            first
            | (rw [mI_le (by omega) (by omega)] at h52; rw [show nyI r L c (nyC r m L c) (p + 1) = nyI r L c (nyC r m L c) p from if_neg (by omega)] at ih; exact ih)
            | (rw [mI_le (by omega) (by omega)] at h52; rw [mI_eq (by omega) (by omega)] at h57; rw [show nyI r L c (nyC r m L c) (p + 1) = fld r c p 3 + 1 from if_pos (by omega)] at ih; exact ih)
            | (rw [mI_le (by omega) (by omega)] at h52 h63; rw [mI_eq (by omega) (by omega)] at h57; rw [show nyI r L c (nyC r m L c) (p + 1) = nyI r L c (nyC r m L c) p from if_neg (by omega)] at ih; exact ih)
            | (rw [mI_le (by omega) (by omega)] at h52 h63; rw [mI_eq (by omega) (by omega)] at h57; rw [show nyI r L c (nyC r m L c) (p + 1) = fld r c p 3 + 1 from if_pos (by omega)] at ih; exact ih)
          · refine z_iload O dX0_nextYear_60 rfl ?_
            refine z_iload_n O dX0_nextYear_62 rfl ?_
            refine z_icmp_ge O 69 dX0_nextYear_63 (by decide) (fun h63 => ?_) (fun h63 => ?_)
            · refine z_iincN (lv' := [(0, _), (1, _), (2, _), (3, _), (4, _), (5, _), (6, _)]) O 1 dX0_nextYear_69 (by decide) rfl rfl (by decide) ?_
              refine z_goto O 27 dX0_nextYear_72 (by decide) ?_
              refine z_kp (lv' := [(0, _), (1, _), (2, _), (3, _), (4, _), (5, _)]) [0, 1, 2, 3, 4, 5] rfl ?_
              first
              | (rw [mI_le (by omega) (by omega)] at h52; rw [show nyI r L c (nyC r m L c) (p + 1) = nyI r L c (nyC r m L c) p from if_neg (by omega)] at ih; exact ih)
              | (rw [mI_le (by omega) (by omega)] at h52; rw [mI_eq (by omega) (by omega)] at h57; rw [show nyI r L c (nyC r m L c) (p + 1) = fld r c p 3 + 1 from if_pos (by omega)] at ih; exact ih)
              | (rw [mI_le (by omega) (by omega)] at h52 h63; rw [mI_eq (by omega) (by omega)] at h57; rw [show nyI r L c (nyC r m L c) (p + 1) = nyI r L c (nyC r m L c) p from if_neg (by omega)] at ih; exact ih)
              | (rw [mI_le (by omega) (by omega)] at h52 h63; rw [mI_eq (by omega) (by omega)] at h57; rw [show nyI r L c (nyC r m L c) (p + 1) = fld r c p 3 + 1 from if_pos (by omega)] at ih; exact ih)
            · refine z_iload O dX0_nextYear_66 rfl ?_
              refine z_istore_n (lv' := [(0, _), (1, _), (2, _), (3, _), (4, _), (5, _), (6, _)]) O dX0_nextYear_68 (by decide) rfl ?_
              refine z_iincN (lv' := [(0, _), (1, _), (2, _), (3, _), (4, _), (5, _), (6, _)]) O 1 dX0_nextYear_69 (by decide) rfl rfl (by decide) ?_
              refine z_goto O 27 dX0_nextYear_72 (by decide) ?_
              refine z_kp (lv' := [(0, _), (1, _), (2, _), (3, _), (4, _), (5, _)]) [0, 1, 2, 3, 4, 5] rfl ?_
              first
              | (rw [mI_le (by omega) (by omega)] at h52; rw [show nyI r L c (nyC r m L c) (p + 1) = nyI r L c (nyC r m L c) p from if_neg (by omega)] at ih; exact ih)
              | (rw [mI_le (by omega) (by omega)] at h52; rw [mI_eq (by omega) (by omega)] at h57; rw [show nyI r L c (nyC r m L c) (p + 1) = fld r c p 3 + 1 from if_pos (by omega)] at ih; exact ih)
              | (rw [mI_le (by omega) (by omega)] at h52 h63; rw [mI_eq (by omega) (by omega)] at h57; rw [show nyI r L c (nyC r m L c) (p + 1) = nyI r L c (nyC r m L c) p from if_neg (by omega)] at ih; exact ih)
              | (rw [mI_le (by omega) (by omega)] at h52 h63; rw [mI_eq (by omega) (by omega)] at h57; rw [show nyI r L c (nyC r m L c) (p + 1) = fld r c p 3 + 1 from if_pos (by omega)] at ih; exact ih)
    · refine z_goto O 75 dX0_nextYear_21 (by decide) ?_
      refine z_iincN (lv' := [(0, _), (1, _), (2, _), (3, _), (4, _)]) O 1 dX0_nextYear_75 (by decide) rfl rfl (by decide) ?_
      refine z_goto O 5 dX0_nextYear_78 (by decide) ?_
      first | (rw [show nyC r m L (c + 1) = nyC r m L c from if_pos h18] at ih; exact ih)
set_option maxRecDepth 20000 in
set_option maxHeartbeats 4000000 in
theorem s_digested (hS : zSock G M k i1 i2 i3 we r cl) (hr : rowOK r) (hw : weOK we) {h : Int64} : zS G 2 yX0_digested cX0_digested 6 (some .long) [.ref (zad (zb G) k), .long h] M 0 0 (zE (.long (dgC r we h 9)) M) := by
  refine zS.of (by decide) (Nat.le_of_ble_eq_true rfl) (fun F O hR1 hR2 => ?_)
  have O : zOk G F yX0_digested cX0_digested 6 (some .long) RX0 2 M.length := O
  refine z_eq (lv' := [(0, _), (1, _)]) rfl rfl rfl ?_
  obtain ⟨hk0, hk1, hk2, hk3⟩ := id hS
  refine z_iconst O (nI 0) dX0_digested_0 (by decide) ?_
  refine z_istore_n (lv' := [(0, _), (1, _), (3, _)]) O dX0_digested_1 (by decide) rfl ?_
  refine zdown (P := fun c => Z G F 0 0 (zEnd G F (zE (.long (dgC r we h 9)) M) 0 0) 2 [(0, .ref (zad (zb G) k)), (1, .long (dgC r we h c)), (3, .int (nI c))] [] M) (9) ?_ ?_ 
  · refine z_iload_n O dX0_digested_2 rfl ?_
    refine z_bipush O (nI 9) dX0_digested_3 (by decide) ?_
    refine z_icmp_geN O 92 dX0_digested_5 (by decide) (by omega) (by omega) (fun h5 => ?_) (fun h5 => by omega)
    refine z_lload_n O dX0_digested_92 rfl ?_
    exact z_lret O dX0_digested_93 ⟨rfl, rfl⟩
  · intro c hc ih 
    refine z_iload_n O dX0_digested_2 rfl ?_
    refine z_bipush O (nI 9) dX0_digested_3 (by decide) ?_
    refine z_icmp_geN O 92 dX0_digested_5 (by decide) (by omega) (by omega) (fun h5 => by omega) (fun h5 => ?_)
    refine z_ldc2 O dX0_digested_8 klX0_112 ?_
    refine z_top (v' := .long (lN 31)) (by decide) ?_
    refine z_lload_n O dX0_digested_11 rfl ?_
    refine z_lmul O dX0_digested_12 ?_
    refine z_aload_n O dX0_digested_13 rfl ?_
    refine z_get O dX0_digested_14 flX0_9 (by assumption) (by rfl) ?_
    refine z_iload_n O dX0_digested_17 rfl ?_
    refine z_ialdN O dX0_digested_18 (by assumption) (by omega) (by decide) ?_
    refine z_i2lN O dX0_digested_19 (by have := hw c; omega) ?_
    refine z_ladd O dX0_digested_20 ?_
    refine z_lstore_n (lv' := [(0, _), (1, _), (3, _)]) O dX0_digested_21 (by decide) rfl ?_
    refine z_ldc2 O dX0_digested_22 klX0_112 ?_
    refine z_top (v' := .long (lN 31)) (by decide) ?_
    refine z_lload_n O dX0_digested_25 rfl ?_
    refine z_lmul O dX0_digested_26 ?_
    refine z_aload_n O dX0_digested_27 rfl ?_
    refine z_iload_n O dX0_digested_28 rfl ?_
    refine z_V1e0 O (s_many hS hc) mX0_many lkX0_35 rfl (by assumption) dX0_digested_29 (Nat.le_of_ble_eq_true rfl) (by decide) ?_
    refine z_i2lN O dX0_digested_32 (by have := hr.2 c hc; omega) ?_
    refine z_ladd O dX0_digested_33 ?_
    refine z_lstore_n (lv' := [(0, _), (1, _), (3, _)]) O dX0_digested_34 (by decide) rfl ?_
    refine z_iconst O (nI 0) dX0_digested_35 (by decide) ?_
    refine z_istore (lv' := [(0, _), (1, _), (3, _), (4, _)]) O dX0_digested_36 (by decide) rfl ?_
    refine zdown (P := fun p => Z G F 0 0 (zEnd G F (zE (.long (dgC r we h 9)) M) 0 0) 38 [(0, .ref (zad (zb G) k)), (1, .long (dgP r c (mixL (mixL (dgC r we h c) (we c)) (r (108 + c))) p)), (3, .int (nI c)), (4, .int (nI p))] [] M) (r (108 + c)) ?_ ?_ 
    · refine z_iload O dX0_digested_38 rfl ?_
      refine z_aload_n O dX0_digested_40 rfl ?_
      refine z_iload_n O dX0_digested_41 rfl ?_
      refine z_V1e0 O (s_many hS hc) mX0_many lkX0_35 rfl (by assumption) dX0_digested_42 (Nat.le_of_ble_eq_true rfl) (by decide) ?_
      refine z_icmp_geN O 86 dX0_digested_45 (by decide) (by have := hr.2 c hc; omega) (by have := hr.2 c hc; omega) (fun h45 => ?_) (fun h45 => by omega)
      refine z_iincN (lv' := [(0, _), (1, _), (3, _), (4, _)]) O 1 dX0_digested_86 (by decide) rfl rfl (by decide) ?_
      refine z_goto O 2 dX0_digested_89 (by decide) ?_
      refine z_kp (lv' := [(0, _), (1, _), (3, _)]) [0, 1, 3] rfl ?_
      exact ih
    · intro p hp ih 
      refine z_iload O dX0_digested_38 rfl ?_
      refine z_aload_n O dX0_digested_40 rfl ?_
      refine z_iload_n O dX0_digested_41 rfl ?_
      refine z_V1e0 O (s_many hS hc) mX0_many lkX0_35 rfl (by assumption) dX0_digested_42 (Nat.le_of_ble_eq_true rfl) (by decide) ?_
      refine z_icmp_geN O 86 dX0_digested_45 (by decide) (by have := hr.2 c hc; omega) (by have := hr.2 c hc; omega) (fun h45 => by omega) (fun h45 => ?_)
      refine z_iconst O (nI 0) dX0_digested_48 (by decide) ?_
      refine z_istore (lv' := [(0, _), (1, _), (3, _), (4, _), (5, _)]) O dX0_digested_49 (by decide) rfl ?_
      refine zdown (P := fun f => Z G F 0 0 (zEnd G F (zE (.long (dgC r we h 9)) M) 0 0) 51 [(0, .ref (zad (zb G) k)), (1, .long (dgF r c p (dgP r c (mixL (mixL (dgC r we h c) (we c)) (r (108 + c))) p) f)), (3, .int (nI c)), (4, .int (nI p)), (5, .int (nI f))] [] M) (4) ?_ ?_ 
      · refine z_iload O dX0_digested_51 rfl ?_
        refine z_iconst O (nI 4) dX0_digested_53 (by decide) ?_
        refine z_icmp_geN O 80 dX0_digested_54 (by decide) (by omega) (by omega) (fun h54 => ?_) (fun h54 => by omega)
        refine z_iincN (lv' := [(0, _), (1, _), (3, _), (4, _), (5, _)]) O 1 dX0_digested_80 (by decide) rfl rfl (by decide) ?_
        refine z_goto O 38 dX0_digested_83 (by decide) ?_
        refine z_kp (lv' := [(0, _), (1, _), (3, _), (4, _)]) [0, 1, 3, 4] rfl ?_
        exact ih
      · intro f hf ih 
        refine z_iload O dX0_digested_51 rfl ?_
        refine z_iconst O (nI 4) dX0_digested_53 (by decide) ?_
        refine z_icmp_geN O 80 dX0_digested_54 (by decide) (by omega) (by omega) (fun h54 => by omega) (fun h54 => ?_)
        refine z_ldc2 O dX0_digested_57 klX0_112 ?_
        refine z_top (v' := .long (lN 31)) (by decide) ?_
        refine z_lload_n O dX0_digested_60 rfl ?_
        refine z_lmul O dX0_digested_61 ?_
        refine z_aload_n O dX0_digested_62 rfl ?_
        refine z_iload_n O dX0_digested_63 rfl ?_
        refine z_iload O dX0_digested_64 rfl ?_
        refine z_iload O dX0_digested_66 rfl ?_
        refine z_V3e0 O (s_get hS hc (by have := hr.2 c hc; omega) (by omega)) mX0_get lkX0_31 rfl (by assumption) dX0_digested_68 (Nat.le_of_ble_eq_true rfl) (by decide) ?_
        refine z_i2lN O dX0_digested_71 (by have hb : fld r c p f < 1048576 := hr.1 _; omega) ?_
        refine z_ladd O dX0_digested_72 ?_
        refine z_lstore_n (lv' := [(0, _), (1, _), (3, _), (4, _), (5, _)]) O dX0_digested_73 (by decide) rfl ?_
        refine z_iincN (lv' := [(0, _), (1, _), (3, _), (4, _), (5, _)]) O 1 dX0_digested_74 (by decide) rfl rfl (by decide) ?_
        refine z_goto O 51 dX0_digested_77 (by decide) ?_
        exact ih
end SK
