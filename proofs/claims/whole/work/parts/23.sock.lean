/-! ===== Sock: claims ===== -/
def cntO (r : Nat → Nat) (u c p : Nat) : Nat :=
  if fld r c p 0 = 1 then 2 * fld r c p 2 else if fld r c p 0 = 2 ∨ fld r c p 0 = 4 then fld r c p 2 / 2
  else if fld r c p 0 = 3 then (if fld r c p 3 + 10 ≤ r 117 then 2 * fld r c p 2 + 3 else 2 * fld r c p 2)
  else if fld r c p 0 = 5 then fld r c p 2 + u / 2 else fld r c p 2
def cntC (r : Nat → Nat) (c : Nat) : Nat → Nat
  | 0 => 0
  | p + 1 => cntO r (cntC r c p) c p
theorem cntO_lt {r : Nat → Nat} (hr : rowOK r) {u c p : Nat} (hu : u < 4194304) : cntO r u c p < 4194304 := by
  have h := hr.1 ((c * 3 + p) * 4 + 2)
  have h2 : fld r c p 2 < 1048576 := h
  unfold cntO
  repeat' split
  all_goals omega
theorem cntC_lt {r : Nat → Nat} (hr : rowOK r) (c : Nat) : ∀ p, cntC r c p < 4194304
  | 0 => by show 0 < 4194304; decide
  | p + 1 => cntO_lt hr (cntC_lt hr c p)
theorem sub_lt10 {y s : Nat} (hy : y < 1048576) (hs : s < 1048576) : nI y - nI s < nI 10 ↔ y < s + 10 := by
  rw [Int32.lt_iff_toInt_lt, pk_sub_toInt (by omega) (by omega), nI_toInt (by decide)]
  omega
/-- a number, or none: -1 -/
def optI : Option Nat → Int32
  | none => -1
  | some f => nI f
def obd (o : Option Nat) : Prop := ∀ f, o = some f → f < 2 ^ 31
theorem optI_eq {a b : Option Nat} (ha : obd a) (hb : obd b) : optI a = optI b ↔ a = b := by
  cases a with
  | none => cases b with
    | none => simp [optI]
    | some f =>
      have hf := hb f rfl
      refine ⟨fun h => absurd h ?_, fun h => by cases h⟩
      intro h
      have h1 := nI_pos hf
      rw [show nI f = -1 from h.symm] at h1
      exact absurd (by decide : (-1 : Int32) < 0) h1
  | some g => cases b with
    | none =>
      have hg := ha g rfl
      refine ⟨fun h => absurd h ?_, fun h => by cases h⟩
      intro h
      have h1 := nI_pos hg
      rw [show nI g = -1 from h] at h1
      exact absurd (by decide : (-1 : Int32) < 0) h1
    | some f =>
      have := nI_eq (ha g rfl) (hb f rfl)
      show nI g = nI f ↔ _
      rw [this]
      simp
def tfo (r : Nat → Nat) (c : Nat) : Option Nat := if r (108 + c) = 0 then none else some (fld r c (r (108 + c) - 1) 1)
theorem tfo_bd {r : Nat → Nat} (hr : rowOK r) {c : Nat} : obd (tfo r c) := by
  intro f hf
  unfold tfo at hf
  split at hf
  · cases hf
  · cases hf
    have := hr.1 ((c * 3 + (r (108 + c) - 1)) * 4 + 1)
    unfold fld
    omega
def lineA (l : Nat) : Nat := ([0, 3, 6, 0, 1, 2, 0, 2] : List Nat).getD l 0
def lineB (l : Nat) : Nat := ([1, 4, 7, 3, 4, 5, 4, 4] : List Nat).getD l 0
def lineC (l : Nat) : Nat := ([2, 5, 8, 6, 7, 8, 8, 6] : List Nat).getD l 0
def lfo (r : Nat → Nat) (l : Nat) : Option Nat := if tfo r (lineA l) = tfo r (lineB l) ∧ tfo r (lineA l) = tfo r (lineC l) then tfo r (lineA l) else none
theorem line_ok : ∀ l, l < 8 → (lineA l < 9 ∧ lineB l < 9 ∧ lineC l < 9) ∧ (zLine (3 * l) = nI (lineA l) ∧ zLine (3 * l + 1) = nI (lineB l) ∧ zLine (3 * l + 2) = nI (lineC l)) := by decide +kernel
def addC (cl : Nat → Nat) (f m : Nat) : Nat → Nat := if f < 3 then updN cl f (cl f + m) else cl
theorem addC_at {cl : Nat → Nat} {f m g : Nat} (hg : g < 3) : addC cl f m g = cl g + (if f = g then m else 0) := by
  unfold addC
  by_cases h : f < 3
  · rw [if_pos h]
    by_cases e : f = g
    · subst e; rw [updN_s, if_pos rfl]
    · rw [updN_n (Ne.symm e), if_neg e]; omega
  · rw [if_neg h, if_neg (by omega)]; omega
/-- what a family claims, cell by cell -/
def v0I (r : Nat → Nat) (f c : Nat) : Nat → Nat
  | 0 => 0
  | p + 1 => v0I r f c p + (if fld r c p 1 = f then cntC r c (p + 1) else 0)
def v0 (r : Nat → Nat) (f : Nat) : Nat → Nat
  | 0 => 0
  | c + 1 => v0 r f c + v0I r f c (r (108 + c))
def v1 (r : Nat → Nat) (f : Nat) : Nat → Nat
  | 0 => 0
  | c + 1 => v1 r f c + (if tfo r c = some f then 1 else 0)
def v2 (r : Nat → Nat) (f : Nat) : Nat → Nat
  | 0 => 0
  | l + 1 => v2 r f l + (if lfo r l = some f then 1 else 0)
def ageN (r : Nat → Nat) (c p : Nat) : Nat := r 117 - fld r c p 3 + 1
def v3I (r : Nat → Nat) (f c a : Nat) : Nat → Nat
  | 0 => a
  | p + 1 => if fld r c p 1 = f then max (v3I r f c a p) (ageN r c p) else v3I r f c a p
def v3 (r : Nat → Nat) (f : Nat) : Nat → Nat
  | 0 => 0
  | c + 1 => v3I r f c (v3 r f c) (r (108 + c))
def clm (r : Nat → Nat) (law f : Nat) : Nat := if law = 0 then v0 r f 9 else if law = 1 then v1 r f 9 else if law = 2 then v2 r f 8 else v3 r f 9
def sinceOK (r : Nat → Nat) : Prop := ∀ c p, c < 9 → p < r (108 + c) → fld r c p 3 ≤ r 117
set_option maxRecDepth 20000 in
theorem v0I_lt {r : Nat → Nat} (hr : rowOK r) (f c : Nat) : ∀ p, v0I r f c p ≤ p * 4194304
  | 0 => by simp [v0I]
  | p + 1 => by
    have h := v0I_lt hr f c p
    have h2 := cntC_lt hr c (p + 1)
    show v0I r f c p + (if fld r c p 1 = f then cntC r c (p + 1) else 0) ≤ _
    generalize cntC r c (p + 1) = x at h2 ⊢
    generalize v0I r f c p = z at h ⊢
    rw [Nat.succ_mul]
    split
    · exact Nat.add_le_add h (Nat.le_of_lt h2)
    · exact Nat.le_trans h (Nat.le_add_right _ _)
set_option maxRecDepth 20000 in
theorem v0_lt {r : Nat → Nat} (hr : rowOK r) (f : Nat) : ∀ c, c ≤ 9 → v0 r f c ≤ c * 12582912
  | 0, _ => by simp [v0]
  | c + 1, hc => by
    have h := v0_lt hr f c (by omega)
    have h2 := v0I_lt hr f c (r (108 + c))
    have h3 := hr.2 c (by omega)
    have h4 : r (108 + c) * 4194304 ≤ 3 * 4194304 := Nat.mul_le_mul_right _ h3
    unfold v0
    omega
theorem v1_lt (r : Nat → Nat) (f : Nat) : ∀ c, v1 r f c ≤ c
  | 0 => by simp [v1]
  | c + 1 => by
    have := v1_lt r f c
    unfold v1
    split <;> omega
theorem v2_lt (r : Nat → Nat) (f : Nat) : ∀ c, v2 r f c ≤ c
  | 0 => by simp [v2]
  | c + 1 => by
    have := v2_lt r f c
    unfold v2
    split <;> omega
theorem v3I_lt {r : Nat → Nat} (hr : rowOK r) (f c a : Nat) (ha : a ≤ 1048576) : ∀ p, v3I r f c a p ≤ 1048576
  | 0 => ha
  | p + 1 => by
    have h := v3I_lt hr f c a ha p
    have h2 := hr.1 117
    unfold v3I ageN
    split <;> omega
theorem v3_lt {r : Nat → Nat} (hr : rowOK r) (f : Nat) : ∀ c, v3 r f c ≤ 1048576
  | 0 => by simp [v3]
  | c + 1 => v3I_lt hr f c _ (v3_lt hr f c) _
theorem clm_lt {r : Nat → Nat} (hr : rowOK r) (law f : Nat) : clm r law f ≤ 113246208 := by
  unfold clm
  repeat' split
  · exact v0_lt hr f 9 (by omega)
  · have := v1_lt r f 9; omega
  · have := v2_lt r f 8; omega
  · have := v3_lt hr f 9; omega
def ownS (q : Nat → Nat) : Nat → Option Nat × Nat
  | 0 => (none, 0)
  | f + 1 => if (ownS q f).2 < q f then (some f, q f) else if q f = (ownS q f).2 then (none, (ownS q f).2) else ownS q f
def clAll (r : Nat → Nat) (law : Nat) : Nat := clm r law 0 + clm r law 1 + clm r law 2
section SK
variable {G : zG} {M : List va_E} {k i1 i2 i3 : Nat} {we r cl : Nat → Nat}
set_option maxRecDepth 20000 in
set_option maxHeartbeats 4000000 in
theorem s_max {x y : Int32} : zS G 1 yJ9_max_7cf53 cJ9_max_7cf53 2 (some .int) [.int x, .int y] M 0 0 (zE (.int (if x < y then y else x)) M) := by
  refine zS.ofF (by decide +kernel) (Nat.le_of_ble_eq_true rfl) (fun F O hR1 hR2 => ?_)
  have O : zOk G F yJ9_max_7cf53 cJ9_max_7cf53 2 (some .int) RJ9 1 M.length := O
  refine z_eq (lv' := [(0, _), (1, _)]) rfl rfl rfl ?_
  refine z_iload_n O dJ9_max_7cf53_0 rfl ?_
  refine z_iload_n O dJ9_max_7cf53_1 rfl ?_
  refine z_icmp_lt O 9 dJ9_max_7cf53_2 (by decide) (fun h2 => ?_) (fun h2 => ?_)
  · refine z_iload_n O dJ9_max_7cf53_9 rfl ?_
    exact z_iret O dJ9_max_7cf53_10 (by first | exact ⟨by rw [if_pos h2], rfl⟩ | exact ⟨by rw [if_neg h2], rfl⟩)
  · refine z_iload_n O dJ9_max_7cf53_5 rfl ?_
    refine z_goto O 10 dJ9_max_7cf53_6 (by decide) ?_
    exact z_iret O dJ9_max_7cf53_10 (by first | exact ⟨by rw [if_pos h2], rfl⟩ | exact ⟨by rw [if_neg h2], rfl⟩)
set_option maxRecDepth 20000 in
set_option maxHeartbeats 4000000 in
theorem s_min {x y : Int32} : zS G 1 yJ9_min_7cf53 cJ9_min_7cf53 2 (some .int) [.int x, .int y] M 0 0 (zE (.int (if y < x then y else x)) M) := by
  refine zS.ofF (by decide +kernel) (Nat.le_of_ble_eq_true rfl) (fun F O hR1 hR2 => ?_)
  have O : zOk G F yJ9_min_7cf53 cJ9_min_7cf53 2 (some .int) RJ9 1 M.length := O
  refine z_eq (lv' := [(0, _), (1, _)]) rfl rfl rfl ?_
  refine z_iload_n O dJ9_min_7cf53_0 rfl ?_
  refine z_iload_n O dJ9_min_7cf53_1 rfl ?_
  refine z_icmp_gt O 9 dJ9_min_7cf53_2 (by decide) (fun h2 => ?_) (fun h2 => ?_)
  · refine z_iload_n O dJ9_min_7cf53_9 rfl ?_
    exact z_iret O dJ9_min_7cf53_10 (by first | exact ⟨by rw [if_pos h2], rfl⟩ | exact ⟨by rw [if_neg h2], rfl⟩)
  · refine z_iload_n O dJ9_min_7cf53_5 rfl ?_
    refine z_goto O 10 dJ9_min_7cf53_6 (by decide) ?_
    exact z_iret O dJ9_min_7cf53_10 (by first | exact ⟨by rw [if_pos h2], rfl⟩ | exact ⟨by rw [if_neg h2], rfl⟩)
theorem s_maxN {a b : Nat} (ha : a < 2 ^ 31) (hb : b < 2 ^ 31) : zS G 1 yJ9_max_7cf53 cJ9_max_7cf53 2 (some .int) [.int (nI a), .int (nI b)] M 0 0 (zE (.int (nI (max a b))) M) := by
  have h : nI (max a b) = if nI a < nI b then nI b else nI a := by
    by_cases hab : a < b
    · rw [if_pos ((nI_ltI ha hb).mpr hab), Nat.max_eq_right (by omega)]
    · rw [if_neg (fun q => hab ((nI_ltI ha hb).mp q)), Nat.max_eq_left (by omega)]
  rw [h]
  exact s_max
theorem s_minN {a b : Nat} (ha : a < 2 ^ 31) (hb : b < 2 ^ 31) : zS G 1 yJ9_min_7cf53 cJ9_min_7cf53 2 (some .int) [.int (nI a), .int (nI b)] M 0 0 (zE (.int (nI (min a b))) M) := by
  have h : nI (min a b) = if nI b < nI a then nI b else nI a := by
    by_cases hab : b < a
    · rw [if_pos ((nI_ltI hb ha).mpr hab), Nat.min_eq_right (by omega)]
    · rw [if_neg (fun q => hab ((nI_ltI hb ha).mp q)), Nat.min_eq_left (by omega)]
  rw [h]
  exact s_min
set_option maxRecDepth 20000 in
set_option maxHeartbeats 4000000 in
theorem s_countsOver (hS : zSock G M k i1 i2 i3 we r cl) (hr : rowOK r) {u c p : Nat} (hu : u < 4194304) (hc : c < 9) (hp : p < 3) : zS G 2 yX0_countsOver cX0_countsOver 5 (some .int) [.ref (zad (zb G) k), .int (nI u), .int (nI c), .int (nI p)] M 0 0 (zE (.int (nI (cntO r u c p))) M) := by
  refine zS.of (by decide) (Nat.le_of_ble_eq_true rfl) (fun F O hR1 hR2 => ?_)
  have O : zOk G F yX0_countsOver cX0_countsOver 5 (some .int) RX0 2 M.length := O
  refine z_eq (lv' := [(0, _), (1, _), (2, _), (3, _)]) rfl rfl rfl ?_
  obtain ⟨hk0, hk1, hk2, hk3⟩ := id hS
  refine z_aload_n O dX0_countsOver_0 rfl ?_
  refine z_iload_n O dX0_countsOver_1 rfl ?_
  refine z_iload_n O dX0_countsOver_2 rfl ?_
  refine z_iconst O (nI 2) dX0_countsOver_3 (by decide) ?_
  refine z_V3e0 O (s_get hS hc hp (by decide)) mX0_get lkX0_31 rfl (by assumption) dX0_countsOver_4 (Nat.le_of_ble_eq_true rfl) (by decide) ?_
  refine z_istore (lv' := [(0, _), (1, _), (2, _), (3, _), (4, _)]) O dX0_countsOver_7 (by decide) rfl ?_
  refine z_aload_n O dX0_countsOver_9 rfl ?_
  refine z_iload_n O dX0_countsOver_10 rfl ?_
  refine z_iload_n O dX0_countsOver_11 rfl ?_
  refine z_iconst O (nI 0) dX0_countsOver_12 (by decide) ?_
  refine z_V3e0 O (s_get hS hc hp (by decide)) mX0_get lkX0_31 rfl (by assumption) dX0_countsOver_13 (Nat.le_of_ble_eq_true rfl) (by decide) ?_
  refine z_tabN O 1 52 dX0_countsOver_16 (by rfl) (by decide) (by decide) (by decide) (by decide) (fun hk16 => ?_) (fun hn16_1 => ?_)
  · refine z_iconst O (nI 2) dX0_countsOver_52 (by decide) ?_
    refine z_iload O dX0_countsOver_53 rfl ?_
    refine z_imulN O dX0_countsOver_55 ?_
    exact z_iret O dX0_countsOver_56 (by first | (have hb3 : fld r c p 3 < 1048576 := hr.1 _; rw [sub_lt10 (hr.1 117) hb3] at h79; refine ⟨?_, rfl⟩; simp [cntO, hk16, Nat.not_le.mpr h79]; done) | (have hb3 : fld r c p 3 < 1048576 := hr.1 _; rw [sub_lt10 (hr.1 117) hb3] at h79; refine ⟨?_, rfl⟩; simp [cntO, hk16, Nat.not_lt.mp h79]; done) | (refine ⟨?_, rfl⟩; simp [cntO, *]; done))
  refine z_tabN O 2 57 dX0_countsOver_16 (by rfl) (by decide) (by decide) (by decide) (by decide) (fun hk16 => ?_) (fun hn16_2 => ?_)
  · refine z_iload O dX0_countsOver_57 rfl ?_
    refine z_iconst O (nI 2) dX0_countsOver_59 (by decide) ?_
    refine z_idivN O dX0_countsOver_60 (by have h2 : fld r c p 2 < 1048576 := hr.1 _; omega) (by have h2 : fld r c p 2 < 1048576 := hr.1 _; omega) (by have h2 : fld r c p 2 < 1048576 := hr.1 _; omega) ?_
    exact z_iret O dX0_countsOver_61 (by first | (have hb3 : fld r c p 3 < 1048576 := hr.1 _; rw [sub_lt10 (hr.1 117) hb3] at h79; refine ⟨?_, rfl⟩; simp [cntO, hk16, Nat.not_le.mpr h79]; done) | (have hb3 : fld r c p 3 < 1048576 := hr.1 _; rw [sub_lt10 (hr.1 117) hb3] at h79; refine ⟨?_, rfl⟩; simp [cntO, hk16, Nat.not_lt.mp h79]; done) | (refine ⟨?_, rfl⟩; simp [cntO, *]; done))
  refine z_tabN O 3 62 dX0_countsOver_16 (by rfl) (by decide) (by decide) (by decide) (by decide) (fun hk16 => ?_) (fun hn16_3 => ?_)
  · refine z_aload_n O dX0_countsOver_62 rfl ?_
    refine z_get O dX0_countsOver_63 flX0_15 (by assumption) (by rfl) ?_
    refine z_bipush O (nI 117) dX0_countsOver_66 (by decide) ?_
    refine z_ialdN O dX0_countsOver_68 (by assumption) (by omega) (by decide) ?_
    refine z_aload_n O dX0_countsOver_69 rfl ?_
    refine z_iload_n O dX0_countsOver_70 rfl ?_
    refine z_iload_n O dX0_countsOver_71 rfl ?_
    refine z_iconst O (nI 3) dX0_countsOver_72 (by decide) ?_
    refine z_V3e0 O (s_get hS hc hp (by decide)) mX0_get lkX0_31 rfl (by assumption) dX0_countsOver_73 (Nat.le_of_ble_eq_true rfl) (by decide) ?_
    refine z_isub O dX0_countsOver_76 ?_
    refine z_bipush O (nI 10) dX0_countsOver_77 (by decide) ?_
    refine z_icmp_lt O 91 dX0_countsOver_79 (by decide) (fun h79 => ?_) (fun h79 => ?_)
    · refine z_iconst O (nI 2) dX0_countsOver_91 (by decide) ?_
      refine z_iload O dX0_countsOver_92 rfl ?_
      refine z_imulN O dX0_countsOver_94 ?_
      exact z_iret O dX0_countsOver_95 (by first | (have hb3 : fld r c p 3 < 1048576 := hr.1 _; rw [sub_lt10 (hr.1 117) hb3] at h79; refine ⟨?_, rfl⟩; simp [cntO, hk16, Nat.not_le.mpr h79]; done) | (have hb3 : fld r c p 3 < 1048576 := hr.1 _; rw [sub_lt10 (hr.1 117) hb3] at h79; refine ⟨?_, rfl⟩; simp [cntO, hk16, Nat.not_lt.mp h79]; done) | (refine ⟨?_, rfl⟩; simp [cntO, *]; done))
    · refine z_iconst O (nI 2) dX0_countsOver_82 (by decide) ?_
      refine z_iload O dX0_countsOver_83 rfl ?_
      refine z_imulN O dX0_countsOver_85 ?_
      refine z_iconst O (nI 3) dX0_countsOver_86 (by decide) ?_
      refine z_iaddN O dX0_countsOver_87 ?_
      refine z_goto O 95 dX0_countsOver_88 (by decide) ?_
      exact z_iret O dX0_countsOver_95 (by first | (have hb3 : fld r c p 3 < 1048576 := hr.1 _; rw [sub_lt10 (hr.1 117) hb3] at h79; refine ⟨?_, rfl⟩; simp [cntO, hk16, Nat.not_le.mpr h79]; done) | (have hb3 : fld r c p 3 < 1048576 := hr.1 _; rw [sub_lt10 (hr.1 117) hb3] at h79; refine ⟨?_, rfl⟩; simp [cntO, hk16, Nat.not_lt.mp h79]; done) | (refine ⟨?_, rfl⟩; simp [cntO, *]; done))
  refine z_tabN O 4 57 dX0_countsOver_16 (by rfl) (by decide) (by decide) (by decide) (by decide) (fun hk16 => ?_) (fun hn16_4 => ?_)
  · refine z_iload O dX0_countsOver_57 rfl ?_
    refine z_iconst O (nI 2) dX0_countsOver_59 (by decide) ?_
    refine z_idivN O dX0_countsOver_60 (by have h2 : fld r c p 2 < 1048576 := hr.1 _; omega) (by have h2 : fld r c p 2 < 1048576 := hr.1 _; omega) (by have h2 : fld r c p 2 < 1048576 := hr.1 _; omega) ?_
    exact z_iret O dX0_countsOver_61 (by first | (have hb3 : fld r c p 3 < 1048576 := hr.1 _; rw [sub_lt10 (hr.1 117) hb3] at h79; refine ⟨?_, rfl⟩; simp [cntO, hk16, Nat.not_le.mpr h79]; done) | (have hb3 : fld r c p 3 < 1048576 := hr.1 _; rw [sub_lt10 (hr.1 117) hb3] at h79; refine ⟨?_, rfl⟩; simp [cntO, hk16, Nat.not_lt.mp h79]; done) | (refine ⟨?_, rfl⟩; simp [cntO, *]; done))
  refine z_tabN O 5 96 dX0_countsOver_16 (by rfl) (by decide) (by decide) (by decide) (by decide) (fun hk16 => ?_) (fun hn16_5 => ?_)
  · refine z_iload O dX0_countsOver_96 rfl ?_
    refine z_iload_n O dX0_countsOver_98 rfl ?_
    refine z_iconst O (nI 2) dX0_countsOver_99 (by decide) ?_
    refine z_idivN O dX0_countsOver_100 (by omega) (by omega) (by omega) ?_
    refine z_iaddN O dX0_countsOver_101 ?_
    exact z_iret O dX0_countsOver_102 (by first | (have hb3 : fld r c p 3 < 1048576 := hr.1 _; rw [sub_lt10 (hr.1 117) hb3] at h79; refine ⟨?_, rfl⟩; simp [cntO, hk16, Nat.not_le.mpr h79]; done) | (have hb3 : fld r c p 3 < 1048576 := hr.1 _; rw [sub_lt10 (hr.1 117) hb3] at h79; refine ⟨?_, rfl⟩; simp [cntO, hk16, Nat.not_lt.mp h79]; done) | (refine ⟨?_, rfl⟩; simp [cntO, *]; done))
  refine z_tabNO O 103 dX0_countsOver_16 (by omega) (by have := hr.1 ((c * 3 + p) * 4 + 0); unfold fld; omega) (by decide) ?_
  refine z_iload O dX0_countsOver_103 rfl ?_
  exact z_iret O dX0_countsOver_105 (by first | (have hb3 : fld r c p 3 < 1048576 := hr.1 _; rw [sub_lt10 (hr.1 117) hb3] at h79; refine ⟨?_, rfl⟩; simp [cntO, hk16, Nat.not_le.mpr h79]; done) | (have hb3 : fld r c p 3 < 1048576 := hr.1 _; rw [sub_lt10 (hr.1 117) hb3] at h79; refine ⟨?_, rfl⟩; simp [cntO, hk16, Nat.not_lt.mp h79]; done) | (refine ⟨?_, rfl⟩; simp [cntO, *]; done))
set_option maxRecDepth 20000 in
set_option maxHeartbeats 4000000 in
theorem s_counts (hS : zSock G M k i1 i2 i3 we r cl) (hr : rowOK r) {c p : Nat} (hc : c < 9) (hp : p < 3) : zS G 3 yX0_counts cX0_counts 5 (some .int) [.ref (zad (zb G) k), .int (nI c), .int (nI p)] M 0 0 (zE (.int (nI (cntC r c (p + 1)))) M) := by
  refine zS.of (by decide) (Nat.le_of_ble_eq_true rfl) (fun F O hR1 hR2 => ?_)
  have O : zOk G F yX0_counts cX0_counts 5 (some .int) RX0 3 M.length := O
  refine z_eq (lv' := [(0, _), (1, _), (2, _)]) rfl rfl rfl ?_
  obtain ⟨hk0, hk1, hk2, hk3⟩ := id hS
  refine z_iconst O (nI 0) dX0_counts_0 (by decide) ?_
  refine z_istore_n (lv' := [(0, _), (1, _), (2, _), (3, _)]) O dX0_counts_1 (by decide) rfl ?_
  refine z_iconst O (nI 0) dX0_counts_2 (by decide) ?_
  refine z_istore (lv' := [(0, _), (1, _), (2, _), (3, _), (4, _)]) O dX0_counts_3 (by decide) rfl ?_
  refine zdown (P := fun j => Z G F 0 0 (zEnd G F (zE (.int (nI (cntC r c (p + 1)))) M) 0 0) 5 [(0, .ref (zad (zb G) k)), (1, .int (nI c)), (2, .int (nI p)), (3, .int (nI (cntC r c j))), (4, .int (nI j))] [] M) (p + 1) ?_ ?_ 
  · refine z_iload O dX0_counts_5 rfl ?_
    refine z_iload_n O dX0_counts_7 rfl ?_
    refine z_icmp_gtN O 32 dX0_counts_8 (by decide) (by omega) (by omega) (fun h8 => ?_) (fun h8 => by omega)
    refine z_iload_n O dX0_counts_32 rfl ?_
    exact z_iret O dX0_counts_33 ⟨rfl, rfl⟩
  · intro j hj ih 
    refine z_iload O dX0_counts_5 rfl ?_
    refine z_iload_n O dX0_counts_7 rfl ?_
    refine z_icmp_gtN O 32 dX0_counts_8 (by decide) (by omega) (by omega) (fun h8 => by omega) (fun h8 => ?_)
    refine z_iload O dX0_counts_11 rfl ?_
    refine z_iconst O (nI 3) dX0_counts_13 (by decide) ?_
    refine z_icmp_geN O 32 dX0_counts_14 (by decide) (by omega) (by omega) (fun h14 => by omega) (fun h14 => ?_)
    refine z_aload_n O dX0_counts_17 rfl ?_
    refine z_iload_n O dX0_counts_18 rfl ?_
    refine z_iload_n O dX0_counts_19 rfl ?_
    refine z_iload O dX0_counts_20 rfl ?_
    refine z_V3e0 O (s_countsOver hS hr (cntC_lt hr c j) hc (by omega)) mX0_countsOver lkX0_68 rfl (by assumption) dX0_counts_22 (Nat.le_of_ble_eq_true rfl) (by decide) ?_
    refine z_istore_n (lv' := [(0, _), (1, _), (2, _), (3, _), (4, _)]) O dX0_counts_25 (by decide) rfl ?_
    refine z_iincN (lv' := [(0, _), (1, _), (2, _), (3, _), (4, _)]) O 1 dX0_counts_26 (by decide) rfl rfl (by decide) ?_
    refine z_goto O 5 dX0_counts_29 (by decide) ?_
    exact ih
set_option maxRecDepth 20000 in
set_option maxHeartbeats 4000000 in
theorem s_addClaim (hS : zSock G M k i1 i2 i3 we r cl) {f m : Nat} (hf : f < 2 ^ 31) : zS G 1 yX0_addClaim cX0_addClaim 3 none [.ref (zad (zb G) k), .int (nI f), .int (nI m)] M 0 0 (zU (M.set i3 (zIN G 3 (addC cl f m)))) := by
  refine zS.of (by decide) (Nat.le_of_ble_eq_true rfl) (fun F O hR1 hR2 => ?_)
  have O : zOk G F yX0_addClaim cX0_addClaim 3 none RX0 1 M.length := O
  refine z_eq (lv' := [(0, _), (1, _), (2, _)]) rfl rfl rfl ?_
  obtain ⟨hk0, hk1, hk2, hk3⟩ := id hS
  have hn20 := zIN_obj hk2 hk0
  have hn21 := zIN_inj hk2 hk1 (by decide)
  have hn23 := zIN_inj hk2 hk3 (by decide)
  have hn10 := zIN_obj hk1 hk0
  have hn12 := zIN_inj hk1 hk2 (by decide)
  have hn13 := zIN_inj hk1 hk3 (by decide)
  have hn30 := zIN_obj hk3 hk0
  have hn31 := zIN_inj hk3 hk1 (by decide)
  have hn32 := zIN_inj hk3 hk2 (by decide)
  refine z_iload_n O dX0_addClaim_0 rfl ?_
  refine z_if_ltN O dX0_addClaim_1 19 (by decide) (by omega) ?_
  refine z_iload_n O dX0_addClaim_4 rfl ?_
  refine z_iconst O (nI 3) dX0_addClaim_5 (by decide) ?_
  refine z_icmp_geN O 19 dX0_addClaim_6 (by decide) (by omega) (by omega) (fun h6 => ?_) (fun h6 => ?_)
  · exact z_vret O dX0_addClaim_19 (by first | exact ⟨rfl, by rw [addC, if_pos (by omega)]⟩ | exact ⟨rfl, by rw [addC, if_neg (by omega), zIN_self hk3]⟩)
  · refine z_aload_n O dX0_addClaim_9 rfl ?_
    refine z_get O dX0_addClaim_10 flX0_18 (by first | assumption | exact zgs (by assumption) | exact zgn (by assumption) (by assumption)) (by rfl) ?_
    refine z_iload_n O dX0_addClaim_13 rfl ?_
    refine z_dup2 O dX0_addClaim_14 rfl rfl ?_
    refine z_ialdN O dX0_addClaim_15 (by first | assumption | exact zgs (by assumption) | exact zgn (by assumption) (by assumption)) (by omega) (by decide) ?_
    refine z_iload_n O dX0_addClaim_16 rfl ?_
    refine z_iaddN O dX0_addClaim_17 ?_
    refine z_iastN O (by first | rfl | simp | (simp; omega)) dX0_addClaim_18 (by first | assumption | exact zgs (by assumption) | exact zgn (by assumption) (by assumption)) (by omega) (by decide) ?_
    exact z_vret O dX0_addClaim_19 (by first | exact ⟨rfl, by rw [addC, if_pos (by omega)]⟩ | exact ⟨rfl, by rw [addC, if_neg (by omega), zIN_self hk3]⟩)
set_option maxRecDepth 20000 in
set_option maxHeartbeats 4000000 in
theorem s_addClaimM (hS : zSock G M k i1 i2 i3 we r cl) {m : Nat} : zS G 1 yX0_addClaim cX0_addClaim 3 none [.ref (zad (zb G) k), .int (-1), .int (nI m)] M 0 0 (zU M) := by
  refine zS.of (by decide) (Nat.le_of_ble_eq_true rfl) (fun F O hR1 hR2 => ?_)
  have O : zOk G F yX0_addClaim cX0_addClaim 3 none RX0 1 M.length := O
  refine z_eq (lv' := [(0, _), (1, _), (2, _)]) rfl rfl rfl ?_
  obtain ⟨hk0, hk1, hk2, hk3⟩ := id hS
  have hn20 := zIN_obj hk2 hk0
  have hn21 := zIN_inj hk2 hk1 (by decide)
  have hn23 := zIN_inj hk2 hk3 (by decide)
  have hn10 := zIN_obj hk1 hk0
  have hn12 := zIN_inj hk1 hk2 (by decide)
  have hn13 := zIN_inj hk1 hk3 (by decide)
  have hn30 := zIN_obj hk3 hk0
  have hn31 := zIN_inj hk3 hk1 (by decide)
  have hn32 := zIN_inj hk3 hk2 (by decide)
  refine z_iload_n O dX0_addClaim_0 rfl ?_
  refine z_if_lt O 19 dX0_addClaim_1 (by decide) (fun h1 => ?_) (fun h1 => by exact absurd (by decide) h1)
  exact z_vret O dX0_addClaim_19 ⟨rfl, rfl⟩
set_option maxRecDepth 20000 in
set_option maxHeartbeats 4000000 in
theorem s_topFamily (hS : zSock G M k i1 i2 i3 we r cl) (hr : rowOK r) {c : Nat} (hc : c < 9) : zS G 2 yX0_topFamily cX0_topFamily 3 (some .int) [.ref (zad (zb G) k), .int (nI c)] M 0 0 (zE (.int (optI (tfo r c))) M) := by
  refine zS.of (by decide) (Nat.le_of_ble_eq_true rfl) (fun F O hR1 hR2 => ?_)
  have O : zOk G F yX0_topFamily cX0_topFamily 3 (some .int) RX0 2 M.length := O
  refine z_eq (lv' := [(0, _), (1, _)]) rfl rfl rfl ?_
  obtain ⟨hk0, hk1, hk2, hk3⟩ := id hS
  have h3 := hr.2 c hc
  refine z_aload_n O dX0_topFamily_0 rfl ?_
  refine z_iload_n O dX0_topFamily_1 rfl ?_
  refine z_V1e0 O (s_many hS hc) mX0_many lkX0_35 rfl (by assumption) dX0_topFamily_2 (Nat.le_of_ble_eq_true rfl) (by decide) ?_
  refine z_istore_n (lv' := [(0, _), (1, _), (2, _)]) O dX0_topFamily_5 (by decide) rfl ?_
  refine z_iload_n O dX0_topFamily_6 rfl ?_
  refine z_if_gtN O 14 dX0_topFamily_7 (by decide) (by have := hr.2 c hc; omega) (fun h7 => ?_) (fun h7 => ?_)
  · refine z_aload_n O dX0_topFamily_14 rfl ?_
    refine z_iload_n O dX0_topFamily_15 rfl ?_
    refine z_iload_n O dX0_topFamily_16 rfl ?_
    refine z_iconst O (nI 1) dX0_topFamily_17 (by decide) ?_
    refine z_isubN O dX0_topFamily_18 (by omega) ?_
    refine z_iconst O (nI 1) dX0_topFamily_19 (by decide) ?_
    refine z_V3e0 O (s_get hS hc (by omega) (by decide)) mX0_get lkX0_31 rfl (by assumption) dX0_topFamily_20 (Nat.le_of_ble_eq_true rfl) (by decide) ?_
    exact z_iret O dX0_topFamily_23 (by first | exact ⟨by rw [tfo, if_neg (by omega)]; rfl, rfl⟩ | exact ⟨by rw [tfo, if_pos (by omega)]; rfl, rfl⟩)
  · refine z_iconst O (-1) dX0_topFamily_10 (by decide) ?_
    refine z_goto O 23 dX0_topFamily_11 (by decide) ?_
    exact z_iret O dX0_topFamily_23 (by first | exact ⟨by rw [tfo, if_neg (by omega)]; rfl, rfl⟩ | exact ⟨by rw [tfo, if_pos (by omega)]; rfl, rfl⟩)
set_option maxRecDepth 20000 in
set_option maxHeartbeats 4000000 in
theorem s_lineFamily (hS : zSock G M k i1 i2 i3 we r cl) (hr : rowOK r) {l : Nat} (hl : l < 8) : zS G 3 yX0_lineFamily cX0_lineFamily 5 (some .int) [.ref (zad (zb G) k), .int (nI l)] M 0 0 (zE (.int (optI (lfo r l))) M) := by
  refine zS.of (by decide) (Nat.le_of_ble_eq_true rfl) (fun F O hR1 hR2 => ?_)
  have O : zOk G F yX0_lineFamily cX0_lineFamily 5 (some .int) RX0 3 M.length := O
  refine z_eq (lv' := [(0, _), (1, _)]) rfl rfl rfl ?_
  obtain ⟨hk0, hk1, hk2, hk3⟩ := id hS
  obtain ⟨⟨hA, hB, hC⟩, eA, eB, eC⟩ := line_ok l hl
  refine z_iload_n O dX0_lineFamily_0 rfl ?_
  refine z_bipush O (nI 8) dX0_lineFamily_1 (by decide) ?_
  refine z_SN2e0 O (s_withinN (by omega) (by omega)) mX3_within nlX0_27 dX0_lineFamily_3 (Nat.le_of_ble_eq_true rfl) (by decide) ?_
  refine z_if_neB O 11 dX0_lineFamily_6 (by decide) (fun h6 => ?_) (fun h6 => by omega)
  refine z_aload_n O dX0_lineFamily_11 rfl ?_
  refine z_gets O dX0_lineFamily_12 (i := 1) (by decide) (by decide) nsX0_92 ?_
  refine z_iconst O (nI 3) dX0_lineFamily_15 (by decide) ?_
  refine z_iload_n O dX0_lineFamily_16 rfl ?_
  refine z_imulN O dX0_lineFamily_17 ?_
  refine z_cald O 1 (by decide) dX0_lineFamily_18 (vp_in_nI (by show _ < 24; omega) (show 24 < 2 ^ 31 by decide)) ?_
  refine z_top (v' := .int (nI (lineA l))) (congrArg Value.int (by rw [nI_clamp (by omega)]; exact eA)) ?_
  refine z_V1e0 O (s_topFamily hS hr hA) mX0_topFamily lkX0_74 rfl (by assumption) dX0_lineFamily_19 (Nat.le_of_ble_eq_true rfl) (by decide) ?_
  refine z_istore_n (lv' := [(0, _), (1, _), (2, _)]) O dX0_lineFamily_22 (by decide) rfl ?_
  refine z_aload_n O dX0_lineFamily_23 rfl ?_
  refine z_gets O dX0_lineFamily_24 (i := 1) (by decide) (by decide) nsX0_92 ?_
  refine z_iconst O (nI 3) dX0_lineFamily_27 (by decide) ?_
  refine z_iload_n O dX0_lineFamily_28 rfl ?_
  refine z_imulN O dX0_lineFamily_29 ?_
  refine z_iconst O (nI 1) dX0_lineFamily_30 (by decide) ?_
  refine z_iaddN O dX0_lineFamily_31 ?_
  refine z_cald O 1 (by decide) dX0_lineFamily_32 (vp_in_nI (by show _ < 24; omega) (show 24 < 2 ^ 31 by decide)) ?_
  refine z_top (v' := .int (nI (lineB l))) (congrArg Value.int (by rw [nI_clamp (by omega)]; exact eB)) ?_
  refine z_V1e0 O (s_topFamily hS hr hB) mX0_topFamily lkX0_74 rfl (by assumption) dX0_lineFamily_33 (Nat.le_of_ble_eq_true rfl) (by decide) ?_
  refine z_istore_n (lv' := [(0, _), (1, _), (2, _), (3, _)]) O dX0_lineFamily_36 (by decide) rfl ?_
  refine z_aload_n O dX0_lineFamily_37 rfl ?_
  refine z_gets O dX0_lineFamily_38 (i := 1) (by decide) (by decide) nsX0_92 ?_
  refine z_iconst O (nI 3) dX0_lineFamily_41 (by decide) ?_
  refine z_iload_n O dX0_lineFamily_42 rfl ?_
  refine z_imulN O dX0_lineFamily_43 ?_
  refine z_iconst O (nI 2) dX0_lineFamily_44 (by decide) ?_
  refine z_iaddN O dX0_lineFamily_45 ?_
  refine z_cald O 1 (by decide) dX0_lineFamily_46 (vp_in_nI (by show _ < 24; omega) (show 24 < 2 ^ 31 by decide)) ?_
  refine z_top (v' := .int (nI (lineC l))) (congrArg Value.int (by rw [nI_clamp (by omega)]; exact eC)) ?_
  refine z_V1e0 O (s_topFamily hS hr hC) mX0_topFamily lkX0_74 rfl (by assumption) dX0_lineFamily_47 (Nat.le_of_ble_eq_true rfl) (by decide) ?_
  refine z_istore (lv' := [(0, _), (1, _), (2, _), (3, _), (4, _)]) O dX0_lineFamily_50 (by decide) rfl ?_
  refine z_iload_n O dX0_lineFamily_52 rfl ?_
  refine z_iload_n O dX0_lineFamily_53 rfl ?_
  refine z_icmp_ne O 67 dX0_lineFamily_54 (by decide) (fun h54 => ?_) (fun h54 => ?_)
  · refine z_iconst O (-1) dX0_lineFamily_67 (by decide) ?_
    exact z_iret O dX0_lineFamily_68 (by have hb : ∀ x, obd (tfo r x) := fun x => tfo_bd hr; first | (rw [optI_eq (hb _) (hb _)] at h54 h60; refine ⟨?_, rfl⟩; rw [lfo, if_pos ⟨h54, h60⟩]; done) | (rw [optI_eq (hb _) (hb _)] at h54 h60; refine ⟨?_, rfl⟩; rw [lfo, if_neg (fun q => h60 q.2)]; rfl) | (rw [optI_eq (hb _) (hb _)] at h54; refine ⟨?_, rfl⟩; rw [lfo, if_neg (fun q => h54 q.1)]; rfl))
  · refine z_iload_n O dX0_lineFamily_57 rfl ?_
    refine z_iload O dX0_lineFamily_58 rfl ?_
    refine z_icmp_ne O 67 dX0_lineFamily_60 (by decide) (fun h60 => ?_) (fun h60 => ?_)
    · refine z_iconst O (-1) dX0_lineFamily_67 (by decide) ?_
      exact z_iret O dX0_lineFamily_68 (by have hb : ∀ x, obd (tfo r x) := fun x => tfo_bd hr; first | (rw [optI_eq (hb _) (hb _)] at h54 h60; refine ⟨?_, rfl⟩; rw [lfo, if_pos ⟨h54, h60⟩]; done) | (rw [optI_eq (hb _) (hb _)] at h54 h60; refine ⟨?_, rfl⟩; rw [lfo, if_neg (fun q => h60 q.2)]; rfl) | (rw [optI_eq (hb _) (hb _)] at h54; refine ⟨?_, rfl⟩; rw [lfo, if_neg (fun q => h54 q.1)]; rfl))
    · refine z_iload_n O dX0_lineFamily_63 rfl ?_
      refine z_goto O 68 dX0_lineFamily_64 (by decide) ?_
      exact z_iret O dX0_lineFamily_68 (by have hb : ∀ x, obd (tfo r x) := fun x => tfo_bd hr; first | (rw [optI_eq (hb _) (hb _)] at h54 h60; refine ⟨?_, rfl⟩; rw [lfo, if_pos ⟨h54, h60⟩]; done) | (rw [optI_eq (hb _) (hb _)] at h54 h60; refine ⟨?_, rfl⟩; rw [lfo, if_neg (fun q => h60 q.2)]; rfl) | (rw [optI_eq (hb _) (hb _)] at h54; refine ⟨?_, rfl⟩; rw [lfo, if_neg (fun q => h54 q.1)]; rfl))
end SK
