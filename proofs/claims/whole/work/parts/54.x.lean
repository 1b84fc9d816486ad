/-! ===== Text: items ===== -/
def wnN (w : Nat) : Nat := if w = 0 then 1 else if w = 1 then 2 else 4
theorem wn_ok : ∀ w, w < 3 → zNumb w = nI (wnN w) ∧ wnN w ≤ 4 ∧ 1 ≤ wnN w := by decide +kernel
def qN (t : Nat → Nat) (len q : Nat) : Nat → Nat
  | 0 => q
  | j + 1 => tE t len (qN t len q j)
theorem qN_s (t : Nat → Nat) (len q : Nat) : ∀ j, qN t len (tE t len q) j = qN t len q (j + 1)
  | 0 => rfl
  | j + 1 => by
    show tE t len (qN t len (tE t len q) j) = _
    rw [qN_s t len q j]; rfl
def fpN (t : Nat → Nat) (len : Nat) : Nat → Nat → Option Nat
  | 0, q => if tO t len q = 3 then none else some (tS t len q)
  | k + 1, q => if tO t len q = 2 then fpN t len k (tE t len q) else some (tS t len q)
def edN (t : Nat → Nat) (len k q : Nat) : Nat := tE t len (qN t len q k)
def wdT (t : Nat → Nat) (len p : Nat) : Nat := (wdO t len p).getD 0
def itF (t : Nat → Nat) (len n p : Nat) : Option Nat := if tO t len p = 1 ∧ (wdT t len p = 0 ↔ n = 0) then fpN t len (wnN (wdT t len p)) (tE t len p) else some (tS t len p)
def itE (t : Nat → Nat) (len p : Nat) : Nat := edN t len (wnN (wdT t len p)) (tE t len p)
def nuQ (t : Nat → Nat) (len p j : Nat) : Nat := nV t len (qN t len (tE t len p) j)
theorem fp_none {t : Nat → Nat} {len : Nat} : ∀ k q, fpN t len k q = none → (∀ j, j < k → tO t len (qN t len q j) = 2) ∧ tO t len (qN t len q k) = 3
  | 0, q, h => by
    unfold fpN at h
    split at h
    · rename_i h3; exact ⟨fun j hj => absurd hj (Nat.not_lt_zero j), h3⟩
    · cases h
  | k + 1, q, h => by
    unfold fpN at h
    split at h
    · rename_i h2
      obtain ⟨a, b⟩ := fp_none k _ h
      refine ⟨fun j hj => ?_, by rw [← qN_s]; exact b⟩
      cases j with
      | zero => exact h2
      | succ j => rw [← qN_s]; exact a j (by omega)
    · cases h
theorem tE_len {t : Nat → Nat} {len q : Nat} (h : q ≤ len) : ∀ j, qN t len q j ≤ len
  | 0 => h
  | j + 1 => (tE_le (tE_len h j)).2
theorem it_none {t : Nat → Nat} {len n p : Nat} (h : itF t len n p = none) : tO t len p = 1 ∧ (wdT t len p = 0 ↔ n = 0) ∧ (∀ j, j < wnN (wdT t len p) → tO t len (qN t len (tE t len p) j) = 2) ∧ tO t len (qN t len (tE t len p) (wnN (wdT t len p))) = 3 := by
  unfold itF at h
  split at h
  · rename_i hq
    obtain ⟨a, b⟩ := fp_none _ _ h
    exact ⟨hq.1, hq.2, a, b⟩
  · cases h
theorem tO_1 {t : Nat → Nat} {len p : Nat} (h : tO t len p = 1) : (∀ va, tV t len p va = wdT t len p) ∧ wdT t len p < 3 ∧ tS t len p < len ∧ LTb t (tS t len p) = true ∧ wdO t len p = some (wdT t len p) := by
  unfold tO at h
  split at h
  · rename_i h1
    split at h
    · rename_i h2
      split at h
      · omega
      · rename_i h3
        cases hw : wdO t len p with
        | none => exact absurd hw h3
        | some w =>
          have hlt := wdP_lt 3 w hw
          have e : wdT t len p = w := by unfold wdT; rw [hw]; rfl
          refine ⟨fun va => ?_, by rw [e]; exact hlt, h1, h2, by rw [e]⟩
          rw [e]
          unfold tV
          rw [if_pos h1, if_pos h2, hw]; rfl
    · split at h
      · split at h <;> omega
      · split at h <;> omega
  · omega
theorem tO_2 {t : Nat → Nat} {len p : Nat} (h : tO t len p = 2) : (∀ va, tV t len p va = nV t len p) ∧ nV t len p < 100 ∧ tS t len p < len ∧ FGb t (tS t len p) = true ∧ ¬ LTb t (tS t len p) = true ∧ tE t len p - tS t len p ≤ 2 ∧ tE t len p = rn (FGb t) len (tS t len p) := by
  unfold tO at h
  split at h
  · rename_i h1
    split at h
    · split at h <;> omega
    · rename_i h2
      split at h
      · rename_i h3
        have e1 : tE t len p = rn (FGb t) len (tS t len p) := by unfold tE; rw [if_pos h1, if_neg h2, if_pos h3]
        have h4 : tE t len p - tS t len p ≤ 2 := by
          split at h
          · omega
          · omega
        refine ⟨fun va => ?_, ?_, h1, h3, h2, h4, e1⟩
        · unfold tV
          rw [if_pos h1, if_neg h2, if_pos h3]
        · unfold nV
          exact (nvN_lt _ (fun i hi => (rn_in (p := FGb t) (len := len) (q := tS t len p) (by omega) (by omega)).2)).1
      · split at h <;> omega
  · omega
def iQ (t : Nat → Nat) (len : Nat) : Nat → Nat
  | 0 => 0
  | k + 1 => itE t len (iQ t len k)
theorem iQ_le (t : Nat → Nat) (len : Nat) : ∀ k, iQ t len k ≤ len
  | 0 => Nat.zero_le _
  | k + 1 => (tE_le (tE_len (tE_le (iQ_le t len k)).2 _)).2
def prs (t : Nat → Nat) (len : Nat) : Nat → Nat → Option Nat × Nat
  | 0, n => (some (tS t len (iQ t len n)), n)
  | f + 1, n => match itF t len n (iQ t len n) with
    | some a => (some a, n)
    | none => if tO t len (iQ t len (n + 1)) = 0 then (none, n + 1) else prs t len f (n + 1)
theorem prs_s {t : Nat → Nat} {len f n a : Nat} (h : itF t len n (iQ t len n) = some a) : prs t len (f + 1) n = (some a, n) := by
  unfold prs; rw [h]
theorem prs_e {t : Nat → Nat} {len f n : Nat} (h : itF t len n (iQ t len n) = none) (h0 : tO t len (iQ t len (n + 1)) = 0) : prs t len (f + 1) n = (none, n + 1) := by
  show (match itF t len n (iQ t len n) with | some a => (some a, n) | none => if tO t len (iQ t len (n + 1)) = 0 then (none, n + 1) else prs t len f (n + 1)) = _
  rw [h]; exact if_pos h0
theorem prs_n {t : Nat → Nat} {len f n : Nat} (h : itF t len n (iQ t len n) = none) (h0 : ¬ tO t len (iQ t len (n + 1)) = 0) : prs t len (f + 1) n = prs t len f (n + 1) := by
  show (match itF t len n (iQ t len n) with | some a => (some a, n) | none => if tO t len (iQ t len (n + 1)) = 0 then (none, n + 1) else prs t len f (n + 1)) = _
  rw [h]; exact if_neg h0
def ITM (t : Nat → Nat) (len n : Nat) : Prop := ∀ k, k < n → itF t len k (iQ t len k) = none
def DAT (t : Nat → Nat) (len n : Nat) (wo nu : Nat → Nat) : Prop := ∀ k, k < n → wo k = wdT t len (iQ t len k) ∧ ∀ j, j < wnN (wdT t len (iQ t len k)) → nu (k * 4 + j) = nuQ t len (iQ t len k) j
/-- an item may be told to a sock; the sock then */ -/
def okI (r : Nat → Nat) (w a b c d : Nat) : Bool := if w = 0 then true else if w = 1 then decide (a < 9 ∧ b ≤ 5) else decide (a < 9 ∧ b < 6 ∧ c < 3 ∧ 1 ≤ d ∧ d ≤ 30 ∧ r (108 + a) < 3)
def tlI (s : (Nat → Nat) × (Nat → Nat)) (w a b c d : Nat) : (Nat → Nat) × (Nat → Nat) := if w = 0 then (onesC s.1 9, updN (renewC s.2 9) 117 a) else if w = 1 then (updN s.1 a b, s.2) else (s.1, putN s.2 a b c d)
def tlS (t : Nat → Nat) (len : Nat) (s : (Nat → Nat) × (Nat → Nat)) : Nat → (Nat → Nat) × (Nat → Nat)
  | 0 => s
  | i + 1 => tlI (tlS t len s i) (wdT t len (iQ t len i)) (nuQ t len (iQ t len i) 0) (nuQ t len (iQ t len i) 1) (nuQ t len (iQ t len i) 2) (nuQ t len (iQ t len i) 3)
def okS (t : Nat → Nat) (len : Nat) (s : (Nat → Nat) × (Nat → Nat)) (i : Nat) : Bool := okI (tlS t len s i).2 (wdT t len (iQ t len i)) (nuQ t len (iQ t len i) 0) (nuQ t len (iQ t len i) 1) (nuQ t len (iQ t len i) 2) (nuQ t len (iQ t len i) 3)
def rfS (t : Nat → Nat) (len : Nat) (s : (Nat → Nat) × (Nat → Nat)) (n : Nat) : Option Nat := firstN (fun i => !okS t len s i) n 0
def tlOK (s : (Nat → Nat) × (Nat → Nat)) : Prop := weZ s.1 ∧ rowT s.2
def tlG (s : (Nat → Nat) × (Nat → Nat)) : Prop := GR 99 s.2 ∧ weZ s.1 ∧ ∀ j, s.1 j ≤ 5
theorem GR_T {Y : Nat} {r : Nat → Nat} (h : GR Y r) : rowT r := ⟨h.2.1, h.1.1⟩
theorem tlS_ok {t : Nat → Nat} {len : Nat} {s : (Nat → Nat) × (Nat → Nat)} {n : Nat} (hi : ITM t len n) (hs : tlOK s) : ∀ i, i < n → (∀ k, k ≤ i → okS t len s k = true) → tlG (tlS t len s (i + 1))
  | 0, h0, hk => by
    have h1 := it_none (hi 0 h0)
    have hw : wdT t len (iQ t len 0) = 0 := h1.2.1.mpr rfl
    have h2 := (tO_2 (h1.2.2.1 0 (by rw [hw]; decide))).2.1
    show tlG (tlI s _ _ _ _ _)
    unfold tlI
    rw [hw, if_pos rfl]
    exact ⟨GR_renew hs.2 (by show nV t len (qN t len (tE t len (iQ t len 0)) 0) ≤ 99; omega) (by decide), weZ_ones hs.1, we5_ones hs.1⟩
  | i + 1, h0, hk => by
    have ih := tlS_ok hi hs i (by omega) (fun k hk' => hk k (by omega))
    have h1 := it_none (hi (i + 1) h0)
    have hok := hk (i + 1) (Nat.le_refl _)
    have hw3 := (tO_1 h1.1).2.1
    show tlG (tlI (tlS t len s (i + 1)) _ _ _ _ _)
    unfold okS okI at hok
    unfold tlI
    rcases (show wdT t len (iQ t len (i + 1)) = 0 ∨ wdT t len (iQ t len (i + 1)) = 1 ∨ wdT t len (iQ t len (i + 1)) = 2 by omega) with hw | hw | hw
    · exact absurd (h1.2.1.mp hw) (by omega)
    · rw [hw, if_neg (by decide), if_pos rfl] at hok ⊢
      have hok := of_decide_eq_true hok
      refine ⟨ih.1, fun j hj => ?_, fun j => ?_⟩
      · show updN _ _ _ j = 0
        rw [updN_n (by omega)]; exact ih.2.1 j hj
      · show updN _ _ _ j ≤ 5
        unfold updN
        split
        · exact hok.2
        · exact ih.2.2 j
    · rw [hw, if_neg (by decide), if_neg (by decide)] at hok ⊢
      have hok := of_decide_eq_true hok
      exact ⟨GR_put ih.1 hok.1 hok.2.2.2.2.2 (by omega) (by omega) (by omega), ih.2⟩
section XS
variable {G : zG} {we r cl seen kept : Nat → Nat} {rd nw ud : Nat} {im : Nat → Option Nat} {twe tr tcl bys wo nu : Nat → Nat} {len it so at_ be va : Nat} {sp ss al od : Nat → Nat} {ab bl : Int64} {bd no fu : Nat} {rest : List va_E}
theorem tO_lt (t : Nat → Nat) (len p : Nat) : tO t len p < 5 := by
  unfold tO
  repeat' split
  all_goals decide
set_option maxRecDepth 20000 in
set_option maxHeartbeats 4000000 in
theorem u_takeItem0 (hl : len ≤ 150) (hby : ∀ j, bys j ≤ 127) {p : Nat} (hpl : p ≤ len) (hit : it < 25) (hif : itF bys len it p = none) : zS G 5 yX2_takeItem cX2_takeItem 3 (some .boolean) [.ref (zad (zb G) 13)] (xM G we r cl seen kept rd nw ud im twe tr tcl bys wo nu len it (tO bys len p) (tS bys len p) (tE bys len p) ((wdT bys len p)) sp ss al od ab bl bd no fu rest) 0 0 (zP (fun v M' => v = .int (nI 1) ∧ ∃ (nu' : Nat → Nat) (so' at' va' : Nat), (∀ i, i < (wnN (wdT bys len p)) → nu' (it * 4 + i) = nuQ bys len p i) ∧ (∀ i, i < it * 4 → nu' i = nu i) ∧ M' = (xM G we r cl seen kept rd nw ud im twe tr tcl bys (updN wo it (wdT bys len p)) nu' len (it + 1) so' at' (itE bys len p) va' sp ss al od ab bl bd no fu rest))) := by
  refine zS.of (by decide) (Nat.le_of_ble_eq_true rfl) (fun F O hR1 hR2 => ?_)
  have O : zOk G F yX2_takeItem cX2_takeItem 3 (some .boolean) RX2 5 (xM G we r cl seen kept rd nw ud im twe tr tcl bys wo nu len it (tO bys len p) (tS bys len p) (tE bys len p) ((wdT bys len p)) sp ss al od ab bl bd no fu rest).length := O
  refine z_eq (lv' := [(0, _)]) rfl rfl rfl ?_
  obtain ⟨h1, h2, hnu, hst⟩ := it_none hif
  have hto := tO_1 h1
  have hw3 := hto.2.1
  have hwn := (wn_ok _ hw3).2
  refine z_aload_n O dX2_takeItem_0 rfl ?_
  refine z_get O dX2_takeItem_1 flX2_21 (by rfl) (by rfl) ?_
  refine z_bipush O (nI 25) dX2_takeItem_4 (by decide) ?_
  refine z_icmp_geN O 28 dX2_takeItem_6 (by decide) (by omega) (by omega) (fun h6 => by omega) (fun h6 => ?_)
  refine z_aload_n O dX2_takeItem_9 rfl ?_
  refine z_get O dX2_takeItem_10 flX2_38 (by rfl) (by rfl) ?_
  refine z_iconst O (nI 1) dX2_takeItem_13 (by decide) ?_
  refine z_icmp_neN O 28 dX2_takeItem_14 (by decide) (by have := tO_lt bys len p; omega) (by have := tO_lt bys len p; omega) (fun h14 => by omega) (fun h14 => ?_)
  refine z_aload_n O dX2_takeItem_17 rfl ?_
  refine z_get O dX2_takeItem_18 flX2_41 (by rfl) (by rfl) ?_
  refine z_iconst O (nI 3) dX2_takeItem_21 (by decide) ?_
  refine z_SN2e0 O (s_withinN (by omega) (by omega)) mX3_within nlX2_44 dX2_takeItem_22 (Nat.le_of_ble_eq_true rfl) (by decide) ?_
  refine z_if_neB O 30 dX2_takeItem_25 (by decide) (fun h25 => ?_) (fun h25 => by omega)
  rcases (show ((wdT bys len p) = 0 ∧ it = 0) ∨ (¬ (wdT bys len p) = 0 ∧ ¬ it = 0) by omega) with hc | hc
  · refine z_aload_n O dX2_takeItem_30 rfl ?_
    refine z_get O dX2_takeItem_31 flX2_41 (by rfl) (by rfl) ?_
    refine z_if_neN O 41 dX2_takeItem_34 (by decide) (by omega) (fun h34 => by omega) (fun h34 => ?_)
    refine z_iconst O (nI 1) dX2_takeItem_37 (by decide) ?_
    refine z_goto O 42 dX2_takeItem_38 (by decide) ?_
    refine z_aload_n O dX2_takeItem_42 rfl ?_
    refine z_get O dX2_takeItem_43 flX2_21 (by rfl) (by rfl) ?_
    refine z_if_neN O 53 dX2_takeItem_46 (by decide) (by omega) (fun h46 => by omega) (fun h46 => ?_)
    refine z_iconst O (nI 1) dX2_takeItem_49 (by decide) ?_
    refine z_goto O 54 dX2_takeItem_50 (by decide) ?_
    refine z_icmp_eqN O 59 dX2_takeItem_54 (by decide) (by omega) (by omega) (fun h54 => ?_) (fun h54 => by omega)
    refine z_aload_n O dX2_takeItem_59 rfl ?_
    refine z_get O dX2_takeItem_60 flX2_15 (by rfl) (by rfl) ?_
    refine z_aload_n O dX2_takeItem_63 rfl ?_
    refine z_get O dX2_takeItem_64 flX2_21 (by rfl) (by rfl) ?_
    refine z_aload_n O dX2_takeItem_67 rfl ?_
    refine z_get O dX2_takeItem_68 flX2_41 (by rfl) (by rfl) ?_
    refine z_iastN O (by rfl) dX2_takeItem_71 (by rfl) (by omega) (by decide) ?_
    refine z_gets O dX2_takeItem_72 (i := 3) (by decide) (by decide) nsX2_48 ?_
    refine z_aload_n O dX2_takeItem_75 rfl ?_
    refine z_get O dX2_takeItem_76 flX2_41 (by rfl) (by rfl) ?_
    refine z_cald O 3 (by decide) dX2_takeItem_79 (vp_in_nI (by show _ < 3; omega) (show 3 < 2 ^ 31 by decide)) ?_
    refine z_top (v' := .int (nI (wnN (wdT bys len p)))) (congrArg Value.int (by rw [nI_clamp (by omega)]; exact (wn_ok _ hw3).1)) ?_
    refine z_istore_n (lv' := [(0, _), (1, _)]) O dX2_takeItem_80 (by decide) rfl ?_
    refine z_iconst O (nI 0) dX2_takeItem_81 (by decide) ?_
    refine z_istore_n (lv' := [(0, _), (1, _), (2, _)]) O dX2_takeItem_82 (by decide) rfl ?_
    refine zdown (P := fun j => ∀ (nu' : Nat → Nat) (so' at' va' : Nat), (∀ i, i < j → nu' (it * 4 + i) = nuQ bys len p i) → (∀ i, i < it * 4 → nu' i = nu i) → Z G F 0 0 (zEnd G F (zP (fun v M' => v = .int (nI 1) ∧ ∃ (nu' : Nat → Nat) (so' at' va' : Nat), (∀ i, i < (wnN (wdT bys len p)) → nu' (it * 4 + i) = nuQ bys len p i) ∧ (∀ i, i < it * 4 → nu' i = nu i) ∧ M' = (xM G we r cl seen kept rd nw ud im twe tr tcl bys (updN wo it (wdT bys len p)) nu' len (it + 1) so' at' (itE bys len p) va' sp ss al od ab bl bd no fu rest))) 0 0) 83 [(0, .ref (zad (zb G) 13)), (1, .int (nI (wnN (wdT bys len p)))), (2, .int (nI j))] [] (xM G we r cl seen kept rd nw ud im twe tr tcl bys (updN wo it (wdT bys len p)) nu' len it so' at' ((qN bys len (tE bys len p) j)) va' sp ss al od ab bl bd no fu rest)) ((wnN (wdT bys len p))) ?_ ?_ nu _ _ _ (fun i hi => absurd hi (Nat.not_lt_zero i)) (fun _ _ => rfl)
    · intro nu' so' at' va' hn1 hn2
      have hqw : (qN bys len (tE bys len p) (wnN (wdT bys len p))) ≤ len := tE_len (tE_le hpl).2 _
      refine z_iload_n O dX2_takeItem_83 rfl ?_
      refine z_iload_n O dX2_takeItem_84 rfl ?_
      refine z_icmp_geN O 130 dX2_takeItem_85 (by decide) (by omega) (by omega) (fun h85 => ?_) (fun h85 => by omega)
      refine z_aload_n O dX2_takeItem_130 rfl ?_
      refine z_V0u0 O (u_step hl hby hqw) mX2_step lkX2_28 rfl (by rfl) dX2_takeItem_131 (Nat.le_of_ble_eq_true rfl) (by decide) ?_
      refine z_aload_n O dX2_takeItem_134 rfl ?_
      refine z_get O dX2_takeItem_135 flX2_38 (by rfl) (by rfl) ?_
      refine z_iconst O (nI 3) dX2_takeItem_138 (by decide) ?_
      refine z_icmp_eqN O 144 dX2_takeItem_139 (by decide) (by have := tO_lt bys len (qN bys len (tE bys len p) (wnN (wdT bys len p))); omega) (by have := tO_lt bys len (qN bys len (tE bys len p) (wnN (wdT bys len p))); omega) (fun h139 => ?_) (fun h139 => by omega)
      refine z_aload_n O dX2_takeItem_144 rfl ?_
      refine z_dup O dX2_takeItem_145 rfl ?_
      refine z_get O dX2_takeItem_146 flX2_21 (by rfl) (by rfl) ?_
      refine z_iconst O (nI 1) dX2_takeItem_149 (by decide) ?_
      refine z_iaddN O dX2_takeItem_150 ?_
      refine z_put O (by rfl) dX2_takeItem_151 flX2_21 (by rfl) rfl rfl (by simp) ?_
      refine z_iconst O (nI 1) dX2_takeItem_154 (by decide) ?_
      exact z_zret O dX2_takeItem_155 rfl ⟨_, rfl, rfl, nu', _, _, _, hn1, hn2, rfl⟩
    · intro j hj ih nu' so' at' va' hn1 hn2
      have h2j := hnu j hj
      have hql : (qN bys len (tE bys len p) j) ≤ len := tE_len (tE_le hpl).2 j
      refine z_iload_n O dX2_takeItem_83 rfl ?_
      refine z_iload_n O dX2_takeItem_84 rfl ?_
      refine z_icmp_geN O 130 dX2_takeItem_85 (by decide) (by omega) (by omega) (fun h85 => by omega) (fun h85 => ?_)
      refine z_iload_n O dX2_takeItem_88 rfl ?_
      refine z_iconst O (nI 4) dX2_takeItem_89 (by decide) ?_
      refine z_icmp_geN O 130 dX2_takeItem_90 (by decide) (by omega) (by omega) (fun h90 => by omega) (fun h90 => ?_)
      refine z_aload_n O dX2_takeItem_93 rfl ?_
      refine z_V0u0 O (u_step hl hby hql) mX2_step lkX2_28 rfl (by rfl) dX2_takeItem_94 (Nat.le_of_ble_eq_true rfl) (by decide) ?_
      refine z_aload_n O dX2_takeItem_97 rfl ?_
      refine z_get O dX2_takeItem_98 flX2_38 (by rfl) (by rfl) ?_
      refine z_iconst O (nI 2) dX2_takeItem_101 (by decide) ?_
      refine z_icmp_eqN O 107 dX2_takeItem_102 (by decide) (by have := tO_lt bys len (qN bys len (tE bys len p) j); omega) (by have := tO_lt bys len (qN bys len (tE bys len p) j); omega) (fun h102 => ?_) (fun h102 => by omega)
      refine z_aload_n O dX2_takeItem_107 rfl ?_
      refine z_get O dX2_takeItem_108 flX2_18 (by rfl) (by rfl) ?_
      refine z_aload_n O dX2_takeItem_111 rfl ?_
      refine z_get O dX2_takeItem_112 flX2_21 (by rfl) (by rfl) ?_
      refine z_iconst O (nI 4) dX2_takeItem_115 (by decide) ?_
      refine z_imulN O dX2_takeItem_116 ?_
      refine z_iload_n O dX2_takeItem_117 rfl ?_
      refine z_iaddN O dX2_takeItem_118 ?_
      refine z_aload_n O dX2_takeItem_119 rfl ?_
      refine z_get O dX2_takeItem_120 flX2_41 (by rfl) (by rfl) ?_
      refine z_iastN O (by rfl) dX2_takeItem_123 (by rfl) (by omega) (by decide) ?_
      refine z_iincN (lv' := [(0, _), (1, _), (2, _)]) O 1 dX2_takeItem_124 (by decide) rfl rfl (by decide) ?_
      refine z_goto O 83 dX2_takeItem_127 (by decide) ?_
      exact ih _ _ _ _ (fun i hi => by
        by_cases e : i = j
        · rw [e, updN_s]; exact (tO_2 h2j).1 _
        · rw [updN_n (by omega)]; exact hn1 i (by omega)) (fun i hi => by rw [updN_n (by omega)]; exact hn2 i hi)
  · refine z_aload_n O dX2_takeItem_30 rfl ?_
    refine z_get O dX2_takeItem_31 flX2_41 (by rfl) (by rfl) ?_
    refine z_if_neN O 41 dX2_takeItem_34 (by decide) (by omega) (fun h34 => ?_) (fun h34 => by omega)
    refine z_iconst O (nI 0) dX2_takeItem_41 (by decide) ?_
    refine z_aload_n O dX2_takeItem_42 rfl ?_
    refine z_get O dX2_takeItem_43 flX2_21 (by rfl) (by rfl) ?_
    refine z_if_neN O 53 dX2_takeItem_46 (by decide) (by omega) (fun h46 => ?_) (fun h46 => by omega)
    refine z_iconst O (nI 0) dX2_takeItem_53 (by decide) ?_
    refine z_icmp_eqN O 59 dX2_takeItem_54 (by decide) (by omega) (by omega) (fun h54 => ?_) (fun h54 => by omega)
    refine z_aload_n O dX2_takeItem_59 rfl ?_
    refine z_get O dX2_takeItem_60 flX2_15 (by rfl) (by rfl) ?_
    refine z_aload_n O dX2_takeItem_63 rfl ?_
    refine z_get O dX2_takeItem_64 flX2_21 (by rfl) (by rfl) ?_
    refine z_aload_n O dX2_takeItem_67 rfl ?_
    refine z_get O dX2_takeItem_68 flX2_41 (by rfl) (by rfl) ?_
    refine z_iastN O (by rfl) dX2_takeItem_71 (by rfl) (by omega) (by decide) ?_
    refine z_gets O dX2_takeItem_72 (i := 3) (by decide) (by decide) nsX2_48 ?_
    refine z_aload_n O dX2_takeItem_75 rfl ?_
    refine z_get O dX2_takeItem_76 flX2_41 (by rfl) (by rfl) ?_
    refine z_cald O 3 (by decide) dX2_takeItem_79 (vp_in_nI (by show _ < 3; omega) (show 3 < 2 ^ 31 by decide)) ?_
    refine z_top (v' := .int (nI (wnN (wdT bys len p)))) (congrArg Value.int (by rw [nI_clamp (by omega)]; exact (wn_ok _ hw3).1)) ?_
    refine z_istore_n (lv' := [(0, _), (1, _)]) O dX2_takeItem_80 (by decide) rfl ?_
    refine z_iconst O (nI 0) dX2_takeItem_81 (by decide) ?_
    refine z_istore_n (lv' := [(0, _), (1, _), (2, _)]) O dX2_takeItem_82 (by decide) rfl ?_
    refine zdown (P := fun j => ∀ (nu' : Nat → Nat) (so' at' va' : Nat), (∀ i, i < j → nu' (it * 4 + i) = nuQ bys len p i) → (∀ i, i < it * 4 → nu' i = nu i) → Z G F 0 0 (zEnd G F (zP (fun v M' => v = .int (nI 1) ∧ ∃ (nu' : Nat → Nat) (so' at' va' : Nat), (∀ i, i < (wnN (wdT bys len p)) → nu' (it * 4 + i) = nuQ bys len p i) ∧ (∀ i, i < it * 4 → nu' i = nu i) ∧ M' = (xM G we r cl seen kept rd nw ud im twe tr tcl bys (updN wo it (wdT bys len p)) nu' len (it + 1) so' at' (itE bys len p) va' sp ss al od ab bl bd no fu rest))) 0 0) 83 [(0, .ref (zad (zb G) 13)), (1, .int (nI (wnN (wdT bys len p)))), (2, .int (nI j))] [] (xM G we r cl seen kept rd nw ud im twe tr tcl bys (updN wo it (wdT bys len p)) nu' len it so' at' ((qN bys len (tE bys len p) j)) va' sp ss al od ab bl bd no fu rest)) ((wnN (wdT bys len p))) ?_ ?_ nu _ _ _ (fun i hi => absurd hi (Nat.not_lt_zero i)) (fun _ _ => rfl)
    · intro nu' so' at' va' hn1 hn2
      have hqw : (qN bys len (tE bys len p) (wnN (wdT bys len p))) ≤ len := tE_len (tE_le hpl).2 _
      refine z_iload_n O dX2_takeItem_83 rfl ?_
      refine z_iload_n O dX2_takeItem_84 rfl ?_
      refine z_icmp_geN O 130 dX2_takeItem_85 (by decide) (by omega) (by omega) (fun h85 => ?_) (fun h85 => by omega)
      refine z_aload_n O dX2_takeItem_130 rfl ?_
      refine z_V0u0 O (u_step hl hby hqw) mX2_step lkX2_28 rfl (by rfl) dX2_takeItem_131 (Nat.le_of_ble_eq_true rfl) (by decide) ?_
      refine z_aload_n O dX2_takeItem_134 rfl ?_
      refine z_get O dX2_takeItem_135 flX2_38 (by rfl) (by rfl) ?_
      refine z_iconst O (nI 3) dX2_takeItem_138 (by decide) ?_
      refine z_icmp_eqN O 144 dX2_takeItem_139 (by decide) (by have := tO_lt bys len (qN bys len (tE bys len p) (wnN (wdT bys len p))); omega) (by have := tO_lt bys len (qN bys len (tE bys len p) (wnN (wdT bys len p))); omega) (fun h139 => ?_) (fun h139 => by omega)
      refine z_aload_n O dX2_takeItem_144 rfl ?_
      refine z_dup O dX2_takeItem_145 rfl ?_
      refine z_get O dX2_takeItem_146 flX2_21 (by rfl) (by rfl) ?_
      refine z_iconst O (nI 1) dX2_takeItem_149 (by decide) ?_
      refine z_iaddN O dX2_takeItem_150 ?_
      refine z_put O (by rfl) dX2_takeItem_151 flX2_21 (by rfl) rfl rfl (by simp) ?_
      refine z_iconst O (nI 1) dX2_takeItem_154 (by decide) ?_
      exact z_zret O dX2_takeItem_155 rfl ⟨_, rfl, rfl, nu', _, _, _, hn1, hn2, rfl⟩
    · intro j hj ih nu' so' at' va' hn1 hn2
      have h2j := hnu j hj
      have hql : (qN bys len (tE bys len p) j) ≤ len := tE_len (tE_le hpl).2 j
      refine z_iload_n O dX2_takeItem_83 rfl ?_
      refine z_iload_n O dX2_takeItem_84 rfl ?_
      refine z_icmp_geN O 130 dX2_takeItem_85 (by decide) (by omega) (by omega) (fun h85 => by omega) (fun h85 => ?_)
      refine z_iload_n O dX2_takeItem_88 rfl ?_
      refine z_iconst O (nI 4) dX2_takeItem_89 (by decide) ?_
      refine z_icmp_geN O 130 dX2_takeItem_90 (by decide) (by omega) (by omega) (fun h90 => by omega) (fun h90 => ?_)
      refine z_aload_n O dX2_takeItem_93 rfl ?_
      refine z_V0u0 O (u_step hl hby hql) mX2_step lkX2_28 rfl (by rfl) dX2_takeItem_94 (Nat.le_of_ble_eq_true rfl) (by decide) ?_
      refine z_aload_n O dX2_takeItem_97 rfl ?_
      refine z_get O dX2_takeItem_98 flX2_38 (by rfl) (by rfl) ?_
      refine z_iconst O (nI 2) dX2_takeItem_101 (by decide) ?_
      refine z_icmp_eqN O 107 dX2_takeItem_102 (by decide) (by have := tO_lt bys len (qN bys len (tE bys len p) j); omega) (by have := tO_lt bys len (qN bys len (tE bys len p) j); omega) (fun h102 => ?_) (fun h102 => by omega)
      refine z_aload_n O dX2_takeItem_107 rfl ?_
      refine z_get O dX2_takeItem_108 flX2_18 (by rfl) (by rfl) ?_
      refine z_aload_n O dX2_takeItem_111 rfl ?_
      refine z_get O dX2_takeItem_112 flX2_21 (by rfl) (by rfl) ?_
      refine z_iconst O (nI 4) dX2_takeItem_115 (by decide) ?_
      refine z_imulN O dX2_takeItem_116 ?_
      refine z_iload_n O dX2_takeItem_117 rfl ?_
      refine z_iaddN O dX2_takeItem_118 ?_
      refine z_aload_n O dX2_takeItem_119 rfl ?_
      refine z_get O dX2_takeItem_120 flX2_41 (by rfl) (by rfl) ?_
      refine z_iastN O (by rfl) dX2_takeItem_123 (by rfl) (by omega) (by decide) ?_
      refine z_iincN (lv' := [(0, _), (1, _), (2, _)]) O 1 dX2_takeItem_124 (by decide) rfl rfl (by decide) ?_
      refine z_goto O 83 dX2_takeItem_127 (by decide) ?_
      exact ih _ _ _ _ (fun i hi => by
        by_cases e : i = j
        · rw [e, updN_s]; exact (tO_2 h2j).1 _
        · rw [updN_n (by omega)]; exact hn1 i (by omega)) (fun i hi => by rw [updN_n (by omega)]; exact hn2 i hi)
theorem u_takeItem (hl : len ≤ 150) (hby : ∀ j, bys j ≤ 127) {p : Nat} (hpl : p ≤ len) (hit : it < 25) (hif : itF bys len it p = none) : zS G 5 yX2_takeItem cX2_takeItem 3 (some .boolean) [.ref (zad (zb G) 13)] (xM G we r cl seen kept rd nw ud im twe tr tcl bys wo nu len it (tO bys len p) (tS bys len p) (tE bys len p) (tV bys len p va) sp ss al od ab bl bd no fu rest) 0 0 (zP (fun v M' => v = .int (nI 1) ∧ ∃ (nu' : Nat → Nat) (so' at' va' : Nat), (∀ i, i < (wnN (wdT bys len p)) → nu' (it * 4 + i) = nuQ bys len p i) ∧ (∀ i, i < it * 4 → nu' i = nu i) ∧ M' = (xM G we r cl seen kept rd nw ud im twe tr tcl bys (updN wo it (wdT bys len p)) nu' len (it + 1) so' at' (itE bys len p) va' sp ss al od ab bl bd no fu rest))) := by
  rw [(tO_1 (it_none hif).1).1 va]
  exact u_takeItem0 hl hby hpl hit hif
set_option maxRecDepth 20000 in
set_option maxHeartbeats 4000000 in
theorem u_takeItemN1 (hl : len ≤ 150) (hby : ∀ j, bys j ≤ 127) {p a : Nat} (hpl : p ≤ len) (hit : it < 25) (h1 : ¬ tO bys len p = 1) (hif : itF bys len it p = some a) : zS G 5 yX2_takeItem cX2_takeItem 3 (some .boolean) [.ref (zad (zb G) 13)] (xM G we r cl seen kept rd nw ud im twe tr tcl bys wo nu len it (tO bys len p) (tS bys len p) (tE bys len p) (tV bys len p va) sp ss al od ab bl bd no fu rest) 0 0 (zP (fun v M' => v = .int (nI 0) ∧ ∃ (wo' nu' : Nat → Nat) (so' be' va' : Nat), M' = (xM G we r cl seen kept rd nw ud im twe tr tcl bys wo' nu' len it so' a be' va' sp ss al od ab bl bd no fu rest))) := by
  refine zS.of (by decide) (Nat.le_of_ble_eq_true rfl) (fun F O hR1 hR2 => ?_)
  have O : zOk G F yX2_takeItem cX2_takeItem 3 (some .boolean) RX2 5 (xM G we r cl seen kept rd nw ud im twe tr tcl bys wo nu len it (tO bys len p) (tS bys len p) (tE bys len p) (tV bys len p va) sp ss al od ab bl bd no fu rest).length := O
  refine z_eq (lv' := [(0, _)]) rfl rfl rfl ?_
  refine z_aload_n O dX2_takeItem_0 rfl ?_
  refine z_get O dX2_takeItem_1 flX2_21 (by rfl) (by rfl) ?_
  refine z_bipush O (nI 25) dX2_takeItem_4 (by decide) ?_
  refine z_icmp_geN O 28 dX2_takeItem_6 (by decide) (by omega) (by omega) (fun h6 => by omega) (fun h6 => ?_)
  refine z_aload_n O dX2_takeItem_9 rfl ?_
  refine z_get O dX2_takeItem_10 flX2_38 (by rfl) (by rfl) ?_
  refine z_iconst O (nI 1) dX2_takeItem_13 (by decide) ?_
  refine z_icmp_neN O 28 dX2_takeItem_14 (by decide) (by have := tO_lt bys len p; omega) (by have := tO_lt bys len p; omega) (fun h14 => ?_) (fun h14 => by omega)
  refine z_iconst O (nI 0) dX2_takeItem_28 (by decide) ?_
  exact z_zret O dX2_takeItem_29 rfl (by have ha := Option.some.inj (hif.symm.trans (if_neg (fun q => h1 q.1))); subst ha; exact ⟨_, rfl, rfl, _, _, _, _, _, rfl⟩)
set_option maxRecDepth 20000 in
set_option maxHeartbeats 4000000 in
theorem u_takeItemN2 (hl : len ≤ 150) (hby : ∀ j, bys j ≤ 127) {p a : Nat} (hpl : p ≤ len) (hit : it < 25) (h1 : tO bys len p = 1) (hw3 : (wdT bys len p) < 3) (hc : ¬ ((wdT bys len p) = 0 ↔ it = 0)) (hif : itF bys len it p = some a) : zS G 5 yX2_takeItem cX2_takeItem 3 (some .boolean) [.ref (zad (zb G) 13)] (xM G we r cl seen kept rd nw ud im twe tr tcl bys wo nu len it (tO bys len p) (tS bys len p) (tE bys len p) ((wdT bys len p)) sp ss al od ab bl bd no fu rest) 0 0 (zP (fun v M' => v = .int (nI 0) ∧ ∃ (wo' nu' : Nat → Nat) (so' be' va' : Nat), M' = (xM G we r cl seen kept rd nw ud im twe tr tcl bys wo' nu' len it so' a be' va' sp ss al od ab bl bd no fu rest))) := by
  refine zS.of (by decide) (Nat.le_of_ble_eq_true rfl) (fun F O hR1 hR2 => ?_)
  have O : zOk G F yX2_takeItem cX2_takeItem 3 (some .boolean) RX2 5 (xM G we r cl seen kept rd nw ud im twe tr tcl bys wo nu len it (tO bys len p) (tS bys len p) (tE bys len p) ((wdT bys len p)) sp ss al od ab bl bd no fu rest).length := O
  refine z_eq (lv' := [(0, _)]) rfl rfl rfl ?_
  refine z_aload_n O dX2_takeItem_0 rfl ?_
  refine z_get O dX2_takeItem_1 flX2_21 (by rfl) (by rfl) ?_
  refine z_bipush O (nI 25) dX2_takeItem_4 (by decide) ?_
  refine z_icmp_geN O 28 dX2_takeItem_6 (by decide) (by omega) (by omega) (fun h6 => by omega) (fun h6 => ?_)
  refine z_aload_n O dX2_takeItem_9 rfl ?_
  refine z_get O dX2_takeItem_10 flX2_38 (by rfl) (by rfl) ?_
  refine z_iconst O (nI 1) dX2_takeItem_13 (by decide) ?_
  refine z_icmp_neN O 28 dX2_takeItem_14 (by decide) (by have := tO_lt bys len p; omega) (by have := tO_lt bys len p; omega) (fun h14 => by omega) (fun h14 => ?_)
  refine z_aload_n O dX2_takeItem_17 rfl ?_
  refine z_get O dX2_takeItem_18 flX2_41 (by rfl) (by rfl) ?_
  refine z_iconst O (nI 3) dX2_takeItem_21 (by decide) ?_
  refine z_SN2e0 O (s_withinN (by omega) (by omega)) mX3_within nlX2_44 dX2_takeItem_22 (Nat.le_of_ble_eq_true rfl) (by decide) ?_
  refine z_if_neB O 30 dX2_takeItem_25 (by decide) (fun h25 => ?_) (fun h25 => by omega)
  rcases (show ((wdT bys len p) = 0 ∧ ¬ it = 0) ∨ (¬ (wdT bys len p) = 0 ∧ it = 0) by omega) with hd | hd
  · refine z_aload_n O dX2_takeItem_30 rfl ?_
    refine z_get O dX2_takeItem_31 flX2_41 (by rfl) (by rfl) ?_
    refine z_if_neN O 41 dX2_takeItem_34 (by decide) (by omega) (fun h34 => by omega) (fun h34 => ?_)
    refine z_iconst O (nI 1) dX2_takeItem_37 (by decide) ?_
    refine z_goto O 42 dX2_takeItem_38 (by decide) ?_
    refine z_aload_n O dX2_takeItem_42 rfl ?_
    refine z_get O dX2_takeItem_43 flX2_21 (by rfl) (by rfl) ?_
    refine z_if_neN O 53 dX2_takeItem_46 (by decide) (by omega) (fun h46 => ?_) (fun h46 => by omega)
    refine z_iconst O (nI 0) dX2_takeItem_53 (by decide) ?_
    refine z_icmp_eqN O 59 dX2_takeItem_54 (by decide) (by omega) (by omega) (fun h54 => by omega) (fun h54 => ?_)
    refine z_iconst O (nI 0) dX2_takeItem_57 (by decide) ?_
    exact z_zret O dX2_takeItem_58 rfl (by have ha := Option.some.inj (hif.symm.trans (if_neg (fun q => hc q.2))); subst ha; exact ⟨_, rfl, rfl, _, _, _, _, _, rfl⟩)
  · refine z_aload_n O dX2_takeItem_30 rfl ?_
    refine z_get O dX2_takeItem_31 flX2_41 (by rfl) (by rfl) ?_
    refine z_if_neN O 41 dX2_takeItem_34 (by decide) (by omega) (fun h34 => ?_) (fun h34 => by omega)
    refine z_iconst O (nI 0) dX2_takeItem_41 (by decide) ?_
    refine z_aload_n O dX2_takeItem_42 rfl ?_
    refine z_get O dX2_takeItem_43 flX2_21 (by rfl) (by rfl) ?_
    refine z_if_neN O 53 dX2_takeItem_46 (by decide) (by omega) (fun h46 => by omega) (fun h46 => ?_)
    refine z_iconst O (nI 1) dX2_takeItem_49 (by decide) ?_
    refine z_goto O 54 dX2_takeItem_50 (by decide) ?_
    refine z_icmp_eqN O 59 dX2_takeItem_54 (by decide) (by omega) (by omega) (fun h54 => by omega) (fun h54 => ?_)
    refine z_iconst O (nI 0) dX2_takeItem_57 (by decide) ?_
    exact z_zret O dX2_takeItem_58 rfl (by have ha := Option.some.inj (hif.symm.trans (if_neg (fun q => hc q.2))); subst ha; exact ⟨_, rfl, rfl, _, _, _, _, _, rfl⟩)
set_option maxRecDepth 20000 in
set_option maxHeartbeats 4000000 in
theorem u_takeItemN3 (hl : len ≤ 150) (hby : ∀ j, bys j ≤ 127) {p a : Nat} (hpl : p ≤ len) (hit : it < 25) (h1 : tO bys len p = 1) (hw3 : (wdT bys len p) < 3) (hc : (wdT bys len p) = 0 ↔ it = 0) (hif : itF bys len it p = some a) : zS G 5 yX2_takeItem cX2_takeItem 3 (some .boolean) [.ref (zad (zb G) 13)] (xM G we r cl seen kept rd nw ud im twe tr tcl bys wo nu len it (tO bys len p) (tS bys len p) (tE bys len p) ((wdT bys len p)) sp ss al od ab bl bd no fu rest) 0 0 (zP (fun v M' => v = .int (nI 0) ∧ ∃ (wo' nu' : Nat → Nat) (so' be' va' : Nat), M' = (xM G we r cl seen kept rd nw ud im twe tr tcl bys wo' nu' len it so' a be' va' sp ss al od ab bl bd no fu rest))) := by
  refine zS.of (by decide) (Nat.le_of_ble_eq_true rfl) (fun F O hR1 hR2 => ?_)
  have O : zOk G F yX2_takeItem cX2_takeItem 3 (some .boolean) RX2 5 (xM G we r cl seen kept rd nw ud im twe tr tcl bys wo nu len it (tO bys len p) (tS bys len p) (tE bys len p) ((wdT bys len p)) sp ss al od ab bl bd no fu rest).length := O
  refine z_eq (lv' := [(0, _)]) rfl rfl rfl ?_
  have hwn := (wn_ok _ hw3).2
  have hfp0 : fpN bys len (wnN (wdT bys len p)) (tE bys len p) = some a := (if_pos (⟨h1, hc⟩ : tO bys len p = 1 ∧ ((wdT bys len p) = 0 ↔ it = 0))).symm.trans hif
  refine z_aload_n O dX2_takeItem_0 rfl ?_
  refine z_get O dX2_takeItem_1 flX2_21 (by rfl) (by rfl) ?_
  refine z_bipush O (nI 25) dX2_takeItem_4 (by decide) ?_
  refine z_icmp_geN O 28 dX2_takeItem_6 (by decide) (by omega) (by omega) (fun h6 => by omega) (fun h6 => ?_)
  refine z_aload_n O dX2_takeItem_9 rfl ?_
  refine z_get O dX2_takeItem_10 flX2_38 (by rfl) (by rfl) ?_
  refine z_iconst O (nI 1) dX2_takeItem_13 (by decide) ?_
  refine z_icmp_neN O 28 dX2_takeItem_14 (by decide) (by have := tO_lt bys len p; omega) (by have := tO_lt bys len p; omega) (fun h14 => by omega) (fun h14 => ?_)
  refine z_aload_n O dX2_takeItem_17 rfl ?_
  refine z_get O dX2_takeItem_18 flX2_41 (by rfl) (by rfl) ?_
  refine z_iconst O (nI 3) dX2_takeItem_21 (by decide) ?_
  refine z_SN2e0 O (s_withinN (by omega) (by omega)) mX3_within nlX2_44 dX2_takeItem_22 (Nat.le_of_ble_eq_true rfl) (by decide) ?_
  refine z_if_neB O 30 dX2_takeItem_25 (by decide) (fun h25 => ?_) (fun h25 => by omega)
  rcases (show ((wdT bys len p) = 0 ∧ it = 0) ∨ (¬ (wdT bys len p) = 0 ∧ ¬ it = 0) by omega) with hd | hd
  · refine z_aload_n O dX2_takeItem_30 rfl ?_
    refine z_get O dX2_takeItem_31 flX2_41 (by rfl) (by rfl) ?_
    refine z_if_neN O 41 dX2_takeItem_34 (by decide) (by omega) (fun h34 => by omega) (fun h34 => ?_)
    refine z_iconst O (nI 1) dX2_takeItem_37 (by decide) ?_
    refine z_goto O 42 dX2_takeItem_38 (by decide) ?_
    refine z_aload_n O dX2_takeItem_42 rfl ?_
    refine z_get O dX2_takeItem_43 flX2_21 (by rfl) (by rfl) ?_
    refine z_if_neN O 53 dX2_takeItem_46 (by decide) (by omega) (fun h46 => by omega) (fun h46 => ?_)
    refine z_iconst O (nI 1) dX2_takeItem_49 (by decide) ?_
    refine z_goto O 54 dX2_takeItem_50 (by decide) ?_
    refine z_icmp_eqN O 59 dX2_takeItem_54 (by decide) (by omega) (by omega) (fun h54 => ?_) (fun h54 => by omega)
    refine z_aload_n O dX2_takeItem_59 rfl ?_
    refine z_get O dX2_takeItem_60 flX2_15 (by rfl) (by rfl) ?_
    refine z_aload_n O dX2_takeItem_63 rfl ?_
    refine z_get O dX2_takeItem_64 flX2_21 (by rfl) (by rfl) ?_
    refine z_aload_n O dX2_takeItem_67 rfl ?_
    refine z_get O dX2_takeItem_68 flX2_41 (by rfl) (by rfl) ?_
    refine z_iastN O (by rfl) dX2_takeItem_71 (by rfl) (by omega) (by decide) ?_
    refine z_gets O dX2_takeItem_72 (i := 3) (by decide) (by decide) nsX2_48 ?_
    refine z_aload_n O dX2_takeItem_75 rfl ?_
    refine z_get O dX2_takeItem_76 flX2_41 (by rfl) (by rfl) ?_
    refine z_cald O 3 (by decide) dX2_takeItem_79 (vp_in_nI (by show _ < 3; omega) (show 3 < 2 ^ 31 by decide)) ?_
    refine z_top (v' := .int (nI (wnN (wdT bys len p)))) (congrArg Value.int (by rw [nI_clamp (by omega)]; exact (wn_ok _ hw3).1)) ?_
    refine z_istore_n (lv' := [(0, _), (1, _)]) O dX2_takeItem_80 (by decide) rfl ?_
    refine z_iconst O (nI 0) dX2_takeItem_81 (by decide) ?_
    refine z_istore_n (lv' := [(0, _), (1, _), (2, _)]) O dX2_takeItem_82 (by decide) rfl ?_
    refine zdown (P := fun j => ∀ (nu' : Nat → Nat) (so' at' va' : Nat), (∀ i, i < j → nu' (it * 4 + i) = nuQ bys len p i) → (∀ i, i < it * 4 → nu' i = nu i) → fpN bys len ((wnN (wdT bys len p)) - j) (qN bys len (tE bys len p) j) = some a → Z G F 0 0 (zEnd G F (zP (fun v M' => v = .int (nI 0) ∧ ∃ (wo' nu' : Nat → Nat) (so' be' va' : Nat), M' = (xM G we r cl seen kept rd nw ud im twe tr tcl bys wo' nu' len it so' a be' va' sp ss al od ab bl bd no fu rest))) 0 0) 83 [(0, .ref (zad (zb G) 13)), (1, .int (nI (wnN (wdT bys len p)))), (2, .int (nI j))] [] (xM G we r cl seen kept rd nw ud im twe tr tcl bys (updN wo it (wdT bys len p)) nu' len it so' at' ((qN bys len (tE bys len p) j)) va' sp ss al od ab bl bd no fu rest)) ((wnN (wdT bys len p))) ?_ ?_ nu _ _ _ (fun i hi => absurd hi (Nat.not_lt_zero i)) (fun _ _ => rfl) hfp0
    · intro nu' so' at' va' hn1 hn2 hfp
      have hqw : (qN bys len (tE bys len p) (wnN (wdT bys len p))) ≤ len := tE_len (tE_le hpl).2 _
      rw [Nat.sub_self] at hfp
      have h3 : ¬ tO bys len (qN bys len (tE bys len p) (wnN (wdT bys len p))) = 3 := fun q => by rw [fpN, if_pos q] at hfp; cases hfp
      refine z_iload_n O dX2_takeItem_83 rfl ?_
      refine z_iload_n O dX2_takeItem_84 rfl ?_
      refine z_icmp_geN O 130 dX2_takeItem_85 (by decide) (by omega) (by omega) (fun h85 => ?_) (fun h85 => by omega)
      refine z_aload_n O dX2_takeItem_130 rfl ?_
      refine z_V0u0 O (u_step hl hby hqw) mX2_step lkX2_28 rfl (by rfl) dX2_takeItem_131 (Nat.le_of_ble_eq_true rfl) (by decide) ?_
      refine z_aload_n O dX2_takeItem_134 rfl ?_
      refine z_get O dX2_takeItem_135 flX2_38 (by rfl) (by rfl) ?_
      refine z_iconst O (nI 3) dX2_takeItem_138 (by decide) ?_
      refine z_icmp_eqN O 144 dX2_takeItem_139 (by decide) (by have := tO_lt bys len (qN bys len (tE bys len p) (wnN (wdT bys len p))); omega) (by have := tO_lt bys len (qN bys len (tE bys len p) (wnN (wdT bys len p))); omega) (fun h139 => by omega) (fun h139 => ?_)
      refine z_iconst O (nI 0) dX2_takeItem_142 (by decide) ?_
      exact z_zret O dX2_takeItem_143 rfl (by have ha := (by rw [fpN, if_neg h3] at hfp; exact Option.some.inj hfp : tS bys len (qN bys len (tE bys len p) (wnN (wdT bys len p))) = a); subst ha; exact ⟨_, rfl, rfl, _, _, _, _, _, rfl⟩)
    · intro j hj ih nu' so' at' va' hn1 hn2 hfp
      have hql : (qN bys len (tE bys len p) j) ≤ len := tE_len (tE_le hpl).2 j
      refine z_iload_n O dX2_takeItem_83 rfl ?_
      refine z_iload_n O dX2_takeItem_84 rfl ?_
      refine z_icmp_geN O 130 dX2_takeItem_85 (by decide) (by omega) (by omega) (fun h85 => by omega) (fun h85 => ?_)
      refine z_iload_n O dX2_takeItem_88 rfl ?_
      refine z_iconst O (nI 4) dX2_takeItem_89 (by decide) ?_
      refine z_icmp_geN O 130 dX2_takeItem_90 (by decide) (by omega) (by omega) (fun h90 => by omega) (fun h90 => ?_)
      refine z_aload_n O dX2_takeItem_93 rfl ?_
      refine z_V0u0 O (u_step hl hby hql) mX2_step lkX2_28 rfl (by rfl) dX2_takeItem_94 (Nat.le_of_ble_eq_true rfl) (by decide) ?_
      by_cases h2j : tO bys len (qN bys len (tE bys len p) j) = 2
      · refine z_aload_n O dX2_takeItem_97 rfl ?_
        refine z_get O dX2_takeItem_98 flX2_38 (by rfl) (by rfl) ?_
        refine z_iconst O (nI 2) dX2_takeItem_101 (by decide) ?_
        refine z_icmp_eqN O 107 dX2_takeItem_102 (by decide) (by have := tO_lt bys len (qN bys len (tE bys len p) j); omega) (by have := tO_lt bys len (qN bys len (tE bys len p) j); omega) (fun h102 => ?_) (fun h102 => by omega)
        refine z_aload_n O dX2_takeItem_107 rfl ?_
        refine z_get O dX2_takeItem_108 flX2_18 (by rfl) (by rfl) ?_
        refine z_aload_n O dX2_takeItem_111 rfl ?_
        refine z_get O dX2_takeItem_112 flX2_21 (by rfl) (by rfl) ?_
        refine z_iconst O (nI 4) dX2_takeItem_115 (by decide) ?_
        refine z_imulN O dX2_takeItem_116 ?_
        refine z_iload_n O dX2_takeItem_117 rfl ?_
        refine z_iaddN O dX2_takeItem_118 ?_
        refine z_aload_n O dX2_takeItem_119 rfl ?_
        refine z_get O dX2_takeItem_120 flX2_41 (by rfl) (by rfl) ?_
        refine z_iastN O (by rfl) dX2_takeItem_123 (by rfl) (by omega) (by decide) ?_
        refine z_iincN (lv' := [(0, _), (1, _), (2, _)]) O 1 dX2_takeItem_124 (by decide) rfl rfl (by decide) ?_
        refine z_goto O 83 dX2_takeItem_127 (by decide) ?_
        exact ih _ _ _ _ (fun i hi => by
          by_cases e : i = j
          · rw [e, updN_s]; exact (tO_2 h2j).1 _
          · rw [updN_n (by omega)]; exact hn1 i (by omega)) (fun i hi => by rw [updN_n (by omega)]; exact hn2 i hi) (by rw [show (wnN (wdT bys len p)) - j = ((wnN (wdT bys len p)) - (j + 1)) + 1 by omega, fpN, if_pos h2j] at hfp; exact hfp)
      · refine z_aload_n O dX2_takeItem_97 rfl ?_
        refine z_get O dX2_takeItem_98 flX2_38 (by rfl) (by rfl) ?_
        refine z_iconst O (nI 2) dX2_takeItem_101 (by decide) ?_
        refine z_icmp_eqN O 107 dX2_takeItem_102 (by decide) (by have := tO_lt bys len (qN bys len (tE bys len p) j); omega) (by have := tO_lt bys len (qN bys len (tE bys len p) j); omega) (fun h102 => by omega) (fun h102 => ?_)
        refine z_iconst O (nI 0) dX2_takeItem_105 (by decide) ?_
        exact z_zret O dX2_takeItem_106 rfl (by have ha := (by rw [show (wnN (wdT bys len p)) - j = ((wnN (wdT bys len p)) - (j + 1)) + 1 by omega, fpN, if_neg h2j] at hfp; exact Option.some.inj hfp : tS bys len (qN bys len (tE bys len p) j) = a); subst ha; exact ⟨_, rfl, rfl, _, _, _, _, _, rfl⟩)
  · refine z_aload_n O dX2_takeItem_30 rfl ?_
    refine z_get O dX2_takeItem_31 flX2_41 (by rfl) (by rfl) ?_
    refine z_if_neN O 41 dX2_takeItem_34 (by decide) (by omega) (fun h34 => ?_) (fun h34 => by omega)
    refine z_iconst O (nI 0) dX2_takeItem_41 (by decide) ?_
    refine z_aload_n O dX2_takeItem_42 rfl ?_
    refine z_get O dX2_takeItem_43 flX2_21 (by rfl) (by rfl) ?_
    refine z_if_neN O 53 dX2_takeItem_46 (by decide) (by omega) (fun h46 => ?_) (fun h46 => by omega)
    refine z_iconst O (nI 0) dX2_takeItem_53 (by decide) ?_
    refine z_icmp_eqN O 59 dX2_takeItem_54 (by decide) (by omega) (by omega) (fun h54 => ?_) (fun h54 => by omega)
    refine z_aload_n O dX2_takeItem_59 rfl ?_
    refine z_get O dX2_takeItem_60 flX2_15 (by rfl) (by rfl) ?_
    refine z_aload_n O dX2_takeItem_63 rfl ?_
    refine z_get O dX2_takeItem_64 flX2_21 (by rfl) (by rfl) ?_
    refine z_aload_n O dX2_takeItem_67 rfl ?_
    refine z_get O dX2_takeItem_68 flX2_41 (by rfl) (by rfl) ?_
    refine z_iastN O (by rfl) dX2_takeItem_71 (by rfl) (by omega) (by decide) ?_
    refine z_gets O dX2_takeItem_72 (i := 3) (by decide) (by decide) nsX2_48 ?_
    refine z_aload_n O dX2_takeItem_75 rfl ?_
    refine z_get O dX2_takeItem_76 flX2_41 (by rfl) (by rfl) ?_
    refine z_cald O 3 (by decide) dX2_takeItem_79 (vp_in_nI (by show _ < 3; omega) (show 3 < 2 ^ 31 by decide)) ?_
    refine z_top (v' := .int (nI (wnN (wdT bys len p)))) (congrArg Value.int (by rw [nI_clamp (by omega)]; exact (wn_ok _ hw3).1)) ?_
    refine z_istore_n (lv' := [(0, _), (1, _)]) O dX2_takeItem_80 (by decide) rfl ?_
    refine z_iconst O (nI 0) dX2_takeItem_81 (by decide) ?_
    refine z_istore_n (lv' := [(0, _), (1, _), (2, _)]) O dX2_takeItem_82 (by decide) rfl ?_
    refine zdown (P := fun j => ∀ (nu' : Nat → Nat) (so' at' va' : Nat), (∀ i, i < j → nu' (it * 4 + i) = nuQ bys len p i) → (∀ i, i < it * 4 → nu' i = nu i) → fpN bys len ((wnN (wdT bys len p)) - j) (qN bys len (tE bys len p) j) = some a → Z G F 0 0 (zEnd G F (zP (fun v M' => v = .int (nI 0) ∧ ∃ (wo' nu' : Nat → Nat) (so' be' va' : Nat), M' = (xM G we r cl seen kept rd nw ud im twe tr tcl bys wo' nu' len it so' a be' va' sp ss al od ab bl bd no fu rest))) 0 0) 83 [(0, .ref (zad (zb G) 13)), (1, .int (nI (wnN (wdT bys len p)))), (2, .int (nI j))] [] (xM G we r cl seen kept rd nw ud im twe tr tcl bys (updN wo it (wdT bys len p)) nu' len it so' at' ((qN bys len (tE bys len p) j)) va' sp ss al od ab bl bd no fu rest)) ((wnN (wdT bys len p))) ?_ ?_ nu _ _ _ (fun i hi => absurd hi (Nat.not_lt_zero i)) (fun _ _ => rfl) hfp0
    · intro nu' so' at' va' hn1 hn2 hfp
      have hqw : (qN bys len (tE bys len p) (wnN (wdT bys len p))) ≤ len := tE_len (tE_le hpl).2 _
      rw [Nat.sub_self] at hfp
      have h3 : ¬ tO bys len (qN bys len (tE bys len p) (wnN (wdT bys len p))) = 3 := fun q => by rw [fpN, if_pos q] at hfp; cases hfp
      refine z_iload_n O dX2_takeItem_83 rfl ?_
      refine z_iload_n O dX2_takeItem_84 rfl ?_
      refine z_icmp_geN O 130 dX2_takeItem_85 (by decide) (by omega) (by omega) (fun h85 => ?_) (fun h85 => by omega)
      refine z_aload_n O dX2_takeItem_130 rfl ?_
      refine z_V0u0 O (u_step hl hby hqw) mX2_step lkX2_28 rfl (by rfl) dX2_takeItem_131 (Nat.le_of_ble_eq_true rfl) (by decide) ?_
      refine z_aload_n O dX2_takeItem_134 rfl ?_
      refine z_get O dX2_takeItem_135 flX2_38 (by rfl) (by rfl) ?_
      refine z_iconst O (nI 3) dX2_takeItem_138 (by decide) ?_
      refine z_icmp_eqN O 144 dX2_takeItem_139 (by decide) (by have := tO_lt bys len (qN bys len (tE bys len p) (wnN (wdT bys len p))); omega) (by have := tO_lt bys len (qN bys len (tE bys len p) (wnN (wdT bys len p))); omega) (fun h139 => by omega) (fun h139 => ?_)
      refine z_iconst O (nI 0) dX2_takeItem_142 (by decide) ?_
      exact z_zret O dX2_takeItem_143 rfl (by have ha := (by rw [fpN, if_neg h3] at hfp; exact Option.some.inj hfp : tS bys len (qN bys len (tE bys len p) (wnN (wdT bys len p))) = a); subst ha; exact ⟨_, rfl, rfl, _, _, _, _, _, rfl⟩)
    · intro j hj ih nu' so' at' va' hn1 hn2 hfp
      have hql : (qN bys len (tE bys len p) j) ≤ len := tE_len (tE_le hpl).2 j
      refine z_iload_n O dX2_takeItem_83 rfl ?_
      refine z_iload_n O dX2_takeItem_84 rfl ?_
      refine z_icmp_geN O 130 dX2_takeItem_85 (by decide) (by omega) (by omega) (fun h85 => by omega) (fun h85 => ?_)
      refine z_iload_n O dX2_takeItem_88 rfl ?_
      refine z_iconst O (nI 4) dX2_takeItem_89 (by decide) ?_
      refine z_icmp_geN O 130 dX2_takeItem_90 (by decide) (by omega) (by omega) (fun h90 => by omega) (fun h90 => ?_)
      refine z_aload_n O dX2_takeItem_93 rfl ?_
      refine z_V0u0 O (u_step hl hby hql) mX2_step lkX2_28 rfl (by rfl) dX2_takeItem_94 (Nat.le_of_ble_eq_true rfl) (by decide) ?_
      by_cases h2j : tO bys len (qN bys len (tE bys len p) j) = 2
      · refine z_aload_n O dX2_takeItem_97 rfl ?_
        refine z_get O dX2_takeItem_98 flX2_38 (by rfl) (by rfl) ?_
        refine z_iconst O (nI 2) dX2_takeItem_101 (by decide) ?_
        refine z_icmp_eqN O 107 dX2_takeItem_102 (by decide) (by have := tO_lt bys len (qN bys len (tE bys len p) j); omega) (by have := tO_lt bys len (qN bys len (tE bys len p) j); omega) (fun h102 => ?_) (fun h102 => by omega)
        refine z_aload_n O dX2_takeItem_107 rfl ?_
        refine z_get O dX2_takeItem_108 flX2_18 (by rfl) (by rfl) ?_
        refine z_aload_n O dX2_takeItem_111 rfl ?_
        refine z_get O dX2_takeItem_112 flX2_21 (by rfl) (by rfl) ?_
        refine z_iconst O (nI 4) dX2_takeItem_115 (by decide) ?_
        refine z_imulN O dX2_takeItem_116 ?_
        refine z_iload_n O dX2_takeItem_117 rfl ?_
        refine z_iaddN O dX2_takeItem_118 ?_
        refine z_aload_n O dX2_takeItem_119 rfl ?_
        refine z_get O dX2_takeItem_120 flX2_41 (by rfl) (by rfl) ?_
        refine z_iastN O (by rfl) dX2_takeItem_123 (by rfl) (by omega) (by decide) ?_
        refine z_iincN (lv' := [(0, _), (1, _), (2, _)]) O 1 dX2_takeItem_124 (by decide) rfl rfl (by decide) ?_
        refine z_goto O 83 dX2_takeItem_127 (by decide) ?_
        exact ih _ _ _ _ (fun i hi => by
          by_cases e : i = j
          · rw [e, updN_s]; exact (tO_2 h2j).1 _
          · rw [updN_n (by omega)]; exact hn1 i (by omega)) (fun i hi => by rw [updN_n (by omega)]; exact hn2 i hi) (by rw [show (wnN (wdT bys len p)) - j = ((wnN (wdT bys len p)) - (j + 1)) + 1 by omega, fpN, if_pos h2j] at hfp; exact hfp)
      · refine z_aload_n O dX2_takeItem_97 rfl ?_
        refine z_get O dX2_takeItem_98 flX2_38 (by rfl) (by rfl) ?_
        refine z_iconst O (nI 2) dX2_takeItem_101 (by decide) ?_
        refine z_icmp_eqN O 107 dX2_takeItem_102 (by decide) (by have := tO_lt bys len (qN bys len (tE bys len p) j); omega) (by have := tO_lt bys len (qN bys len (tE bys len p) j); omega) (fun h102 => by omega) (fun h102 => ?_)
        refine z_iconst O (nI 0) dX2_takeItem_105 (by decide) ?_
        exact z_zret O dX2_takeItem_106 rfl (by have ha := (by rw [show (wnN (wdT bys len p)) - j = ((wnN (wdT bys len p)) - (j + 1)) + 1 by omega, fpN, if_neg h2j] at hfp; exact Option.some.inj hfp : tS bys len (qN bys len (tE bys len p) j) = a); subst ha; exact ⟨_, rfl, rfl, _, _, _, _, _, rfl⟩)
theorem u_takeItemN (hl : len ≤ 150) (hby : ∀ j, bys j ≤ 127) {p a : Nat} (hpl : p ≤ len) (hit : it < 25) (hif : itF bys len it p = some a) : zS G 5 yX2_takeItem cX2_takeItem 3 (some .boolean) [.ref (zad (zb G) 13)] (xM G we r cl seen kept rd nw ud im twe tr tcl bys wo nu len it (tO bys len p) (tS bys len p) (tE bys len p) (tV bys len p va) sp ss al od ab bl bd no fu rest) 0 0 (zP (fun v M' => v = .int (nI 0) ∧ ∃ (wo' nu' : Nat → Nat) (so' be' va' : Nat), M' = (xM G we r cl seen kept rd nw ud im twe tr tcl bys wo' nu' len it so' a be' va' sp ss al od ab bl bd no fu rest))) := by
  by_cases h1 : tO bys len p = 1
  · have hto := tO_1 h1
    rw [hto.1 va]
    by_cases hc : (wdT bys len p) = 0 ↔ it = 0
    · exact u_takeItemN3 hl hby hpl hit h1 hto.2.1 hc hif
    · exact u_takeItemN2 hl hby hpl hit h1 hto.2.1 hc hif
  · exact u_takeItemN1 hl hby hpl hit h1 hif
set_option maxRecDepth 20000 in
set_option maxHeartbeats 4000000 in
theorem u_fault (hl : len ≤ 150) (hby : ∀ j, bys j ≤ 127) : zS G 6 yX2_fault cX2_fault 2 (some .int) [.ref (zad (zb G) 13)] (xM G we r cl seen kept rd nw ud im twe tr tcl bys wo nu len it so at_ be va sp ss al od ab bl bd no fu rest) 0 0 (zP (fun v M' => v = .int (optI (prs bys len 25 0).1) ∧ ∃ (it' : Nat) (wo' nu' : Nat → Nat) (so' at' be' va' : Nat), ((prs bys len 25 0).1 = none → it' = (prs bys len 25 0).2 ∧ 1 ≤ it' ∧ it' ≤ 25 ∧ ITM bys len it' ∧ DAT bys len it' wo' nu') ∧ M' = (xM G we r cl seen kept rd nw ud im twe tr tcl bys wo' nu' len it' so' at' be' va' sp ss al od ab bl bd no fu rest))) := by
  refine zS.of (by decide) (Nat.le_of_ble_eq_true rfl) (fun F O hR1 hR2 => ?_)
  have O : zOk G F yX2_fault cX2_fault 2 (some .int) RX2 6 (xM G we r cl seen kept rd nw ud im twe tr tcl bys wo nu len it so at_ be va sp ss al od ab bl bd no fu rest).length := O
  refine z_eq (lv' := [(0, _)]) rfl rfl rfl ?_
  refine z_aload_n O dX2_fault_0 rfl ?_
  refine z_iconst O (nI 0) dX2_fault_1 (by decide) ?_
  refine z_put O (by rfl) dX2_fault_2 flX2_21 (by rfl) rfl rfl (by simp) ?_
  refine z_aload_n O dX2_fault_5 rfl ?_
  refine z_iconst O (nI 0) dX2_fault_6 (by decide) ?_
  refine z_put O (by rfl) dX2_fault_7 flX2_25 (by rfl) rfl rfl (by simp) ?_
  refine z_aload_n O dX2_fault_10 rfl ?_
  refine z_V0u0 O (u_step hl hby (Nat.zero_le _)) mX2_step lkX2_28 rfl (by rfl) dX2_fault_11 (Nat.le_of_ble_eq_true rfl) (by decide) ?_
  refine z_iconst O (nI 0) dX2_fault_14 (by decide) ?_
  refine z_istore_n (lv' := [(0, _), (1, _)]) O dX2_fault_15 (by decide) rfl ?_
  refine zdown (P := fun i => ∀ (wo' nu' : Nat → Nat) (va' : Nat), ITM bys len i → DAT bys len i wo' nu' → prs bys len (25 - i) i = prs bys len 25 0 → Z G F 0 0 (zEnd G F (zP (fun v M' => v = .int (optI (prs bys len 25 0).1) ∧ ∃ (it' : Nat) (wo' nu' : Nat → Nat) (so' at' be' va' : Nat), ((prs bys len 25 0).1 = none → it' = (prs bys len 25 0).2 ∧ 1 ≤ it' ∧ it' ≤ 25 ∧ ITM bys len it' ∧ DAT bys len it' wo' nu') ∧ M' = (xM G we r cl seen kept rd nw ud im twe tr tcl bys wo' nu' len it' so' at' be' va' sp ss al od ab bl bd no fu rest))) 0 0) 16 [(0, .ref (zad (zb G) 13)), (1, .int (nI i))] [] (xM G we r cl seen kept rd nw ud im twe tr tcl bys wo' nu' len i (tO bys len (iQ bys len i)) (tS bys len (iQ bys len i)) (tE bys len (iQ bys len i)) (tV bys len (iQ bys len i) va') sp ss al od ab bl bd no fu rest)) (25) ?_ ?_ wo nu va (fun k hk => absurd hk (Nat.not_lt_zero k)) (fun k hk => absurd hk (Nat.not_lt_zero k)) rfl
  · intro wo' nu' va' hitm hdat hpr
    refine z_iload_n O dX2_fault_16 rfl ?_
    refine z_bipush O (nI 25) dX2_fault_17 (by decide) ?_
    refine z_icmp_geN O 53 dX2_fault_19 (by decide) (by omega) (by omega) (fun h19 => ?_) (fun h19 => by omega)
    refine z_aload_n O dX2_fault_53 rfl ?_
    refine z_get O dX2_fault_54 flX2_35 (by rfl) (by rfl) ?_
    exact z_iret O dX2_fault_57 ⟨_, rfl, by rw [← hpr]; rfl, _, _, _, _, _, _, _, fun q => by rw [← hpr] at q; (cases q), rfl⟩
  · intro i hi ih wo' nu' va' hitm hdat hpr
    refine z_iload_n O dX2_fault_16 rfl ?_
    refine z_bipush O (nI 25) dX2_fault_17 (by decide) ?_
    refine z_icmp_geN O 53 dX2_fault_19 (by decide) (by omega) (by omega) (fun h19 => by omega) (fun h19 => ?_)
    rcases hif : itF bys len i (iQ bys len i) with _ | a
    · refine z_aload_n O dX2_fault_22 rfl ?_
      refine z_V0p0 O (u_takeItem hl hby (iQ_le bys len i) (by omega) hif) mX2_takeItem lkX2_31 rfl (by rfl) dX2_fault_23 (Nat.le_of_ble_eq_true rfl) (by decide) (fun x M' hq => ?_)
      obtain ⟨rfl, nu2, so2, at2, va2, hn1, hn2, rfl⟩ := hq
      refine z_if_neN O 34 dX2_fault_26 (by decide) (by omega) (fun h26 => ?_) (fun h26 => by omega)
      refine z_aload_n O dX2_fault_34 rfl ?_
      refine z_V0u0 O (u_step (be := itE bys len (iQ bys len i)) hl hby (iQ_le bys len (i + 1))) mX2_step lkX2_28 rfl (by rfl) dX2_fault_35 (Nat.le_of_ble_eq_true rfl) (by decide) ?_
      refine z_M (show _ = (xM G we r cl seen kept rd nw ud im twe tr tcl bys (updN wo' i (wdT bys len (iQ bys len i))) nu2 len (i + 1) (tO bys len (iQ bys len (i + 1))) (tS bys len (iQ bys len (i + 1))) (tE bys len (iQ bys len (i + 1))) (tV bys len (iQ bys len (i + 1)) va2) sp ss al od ab bl bd no fu rest) from rfl) ?_
      refine z_aload_n O dX2_fault_38 rfl ?_
      refine z_get O dX2_fault_39 flX2_38 (by rfl) (by rfl) ?_
      have hdt : DAT bys len (i + 1) (updN wo' i (wdT bys len (iQ bys len i))) nu2 := (fun k hk => by
        by_cases e : k = i
        · subst e; exact ⟨updN_s, hn1⟩
        · have hd := hdat k (by omega)
          refine ⟨by rw [updN_n e]; exact hd.1, fun j hj => ?_⟩
          have hw4 := (wn_ok _ (tO_1 (it_none (hitm k (by omega))).1).2.1).2.1
          rw [hn2 _ (by omega)]
          exact hd.2 j hj)
      have him : ITM bys len (i + 1) := fun k hk => by
        by_cases e : k = i
        · rw [e]; exact hif
        · exact hitm k (by omega)
      by_cases h0 : tO bys len (iQ bys len (i + 1)) = 0
      · refine z_if_neN O 47 dX2_fault_42 (by decide) (by have := tO_lt bys len (iQ bys len (i + 1)); omega) (fun h42 => by omega) (fun h42 => ?_)
        refine z_iconst O (-1) dX2_fault_45 (by decide) ?_
        exact z_iret O dX2_fault_46 ⟨_, rfl, by rw [← hpr, show 25 - i = (25 - (i + 1)) + 1 by omega, prs_e hif h0]; rfl, i + 1, _, _, _, _, _, _, fun _ => ⟨by rw [← hpr, show 25 - i = (25 - (i + 1)) + 1 by omega, prs_e hif h0], by omega, by omega, him, hdt⟩, rfl⟩
      · refine z_if_neN O 47 dX2_fault_42 (by decide) (by have := tO_lt bys len (iQ bys len (i + 1)); omega) (fun h42 => ?_) (fun h42 => by omega)
        refine z_iincN (lv' := [(0, _), (1, _)]) O 1 dX2_fault_47 (by decide) rfl rfl (by decide) ?_
        refine z_goto O 16 dX2_fault_50 (by decide) ?_
        exact ih _ _ _ him hdt (by rw [← hpr, show 25 - i = (25 - (i + 1)) + 1 by omega, prs_n hif h0])
    · refine z_aload_n O dX2_fault_22 rfl ?_
      refine z_V0p0 O (u_takeItemN hl hby (iQ_le bys len i) (by omega) hif) mX2_takeItem lkX2_31 rfl (by rfl) dX2_fault_23 (Nat.le_of_ble_eq_true rfl) (by decide) (fun x M' hq => ?_)
      obtain ⟨rfl, wo2, nu2, so2, be2, va2, rfl⟩ := hq
      refine z_if_neN O 34 dX2_fault_26 (by decide) (by omega) (fun h26 => by omega) (fun h26 => ?_)
      refine z_aload_n O dX2_fault_29 rfl ?_
      refine z_get O dX2_fault_30 flX2_35 (by rfl) (by rfl) ?_
      exact z_iret O dX2_fault_33 ⟨_, rfl, by rw [← hpr, show 25 - i = (25 - (i + 1)) + 1 by omega, prs_s hif]; rfl, _, _, _, _, _, _, _, fun q => by rw [← hpr, show 25 - i = (25 - (i + 1)) + 1 by omega, prs_s hif] at q; (cases q), rfl⟩
set_option maxRecDepth 20000 in
set_option maxHeartbeats 4000000 in
theorem u_told0 {i a : Nat} (hi : i < 25) (hw : wo i = 0) (ha : nu (i * 4) = a) (ha1 : a < 100) : zS G 3 yX2_isToldTo cX2_isToldTo 6 (some .boolean) [.ref (zad (zb G) 13), .ref (zad (zb G) 9), .int (nI i)] (xM G we r cl seen kept rd nw ud im twe tr tcl bys wo nu len it so at_ be va sp ss al od ab bl bd no fu rest) 0 0 (zE (.int (nI 1)) (xM G we r cl seen kept rd nw ud im (onesC twe 9) (updN (renewC tr 9) 117 a) tcl bys wo nu len it so at_ be va sp ss al od ab bl bd no fu rest)) := by
  refine zS.of (by decide) (Nat.le_of_ble_eq_true rfl) (fun F O hR1 hR2 => ?_)
  have O : zOk G F yX2_isToldTo cX2_isToldTo 6 (some .boolean) RX2 3 (xM G we r cl seen kept rd nw ud im twe tr tcl bys wo nu len it so at_ be va sp ss al od ab bl bd no fu rest).length := O
  refine z_eq (lv' := [(0, _), (1, _), (2, _)]) rfl rfl rfl ?_
  refine z_iload_n O dX2_isToldTo_0 rfl ?_
  refine z_iconst O (nI 4) dX2_isToldTo_1 (by decide) ?_
  refine z_imulN O dX2_isToldTo_2 ?_
  refine z_istore_n (lv' := [(0, _), (1, _), (2, _), (3, _)]) O dX2_isToldTo_3 (by decide) rfl ?_
  refine z_aload_n O dX2_isToldTo_4 rfl ?_
  refine z_get O dX2_isToldTo_5 flX2_18 (by rfl) (by rfl) ?_
  refine z_iload_n O dX2_isToldTo_8 rfl ?_
  refine z_ialdN O dX2_isToldTo_9 (by rfl) (by omega) (by decide) ?_
  refine z_top (v' := .int (nI a)) (congrArg Value.int (congrArg nI ha)) ?_
  refine z_istore (lv' := [(0, _), (1, _), (2, _), (3, _), (4, _)]) O dX2_isToldTo_10 (by decide) rfl ?_
  refine z_aload_n O dX2_isToldTo_12 rfl ?_
  refine z_get O dX2_isToldTo_13 flX2_18 (by rfl) (by rfl) ?_
  refine z_iload_n O dX2_isToldTo_16 rfl ?_
  refine z_iconst O (nI 1) dX2_isToldTo_17 (by decide) ?_
  refine z_iaddN O dX2_isToldTo_18 ?_
  refine z_ialdN O dX2_isToldTo_19 (by rfl) (by omega) (by decide) ?_
  refine z_istore (lv' := [(0, _), (1, _), (2, _), (3, _), (4, _), (5, _)]) O dX2_isToldTo_20 (by decide) rfl ?_
  refine z_aload_n O dX2_isToldTo_22 rfl ?_
  refine z_get O dX2_isToldTo_23 flX2_15 (by rfl) (by rfl) ?_
  refine z_iload_n O dX2_isToldTo_26 rfl ?_
  refine z_ialdN O dX2_isToldTo_27 (by rfl) (by omega) (by decide) ?_
  refine z_top (v' := .int (nI 0)) (congrArg Value.int (congrArg nI hw)) ?_
  refine z_lookup O 56 dX2_isToldTo_28 (by decide) (by rfl) (by decide) ?_
  refine z_iload O dX2_isToldTo_56 rfl ?_
  refine z_bipush O (nI 100) dX2_isToldTo_58 (by decide) ?_
  refine z_SN2e0 O (s_withinN (by omega) (by omega)) mX3_within nlX2_44 dX2_isToldTo_60 (Nat.le_of_ble_eq_true rfl) (by decide) ?_
  refine z_if_neB O 68 dX2_isToldTo_63 (by decide) (fun h63 => ?_) (fun h63 => by omega)
  refine z_aload_n O dX2_isToldTo_68 rfl ?_
  refine z_iload O dX2_isToldTo_69 rfl ?_
  refine z_V1u0 O (s_renew xT) mX0_renew lkX2_81 rfl (by rfl) dX2_isToldTo_71 (Nat.le_of_ble_eq_true rfl) (by decide) ?_
  refine z_M (show _ = (xM G we r cl seen kept rd nw ud im (onesC twe 9) (updN (renewC tr 9) 117 a) tcl bys wo nu len it so at_ be va sp ss al od ab bl bd no fu rest) from rfl) ?_
  refine z_iconst O (nI 1) dX2_isToldTo_74 (by decide) ?_
  exact z_zret O dX2_isToldTo_75 rfl ⟨rfl, rfl⟩
set_option maxRecDepth 20000 in
set_option maxHeartbeats 4000000 in
theorem u_told1 {i a b : Nat} (hi : i < 25) (hw : wo i = 1) (ha : nu (i * 4) = a) (hb : nu (i * 4 + 1) = b) (hk : a < 9 ∧ b ≤ 5) : zS G 3 yX2_isToldTo cX2_isToldTo 6 (some .boolean) [.ref (zad (zb G) 13), .ref (zad (zb G) 9), .int (nI i)] (xM G we r cl seen kept rd nw ud im twe tr tcl bys wo nu len it so at_ be va sp ss al od ab bl bd no fu rest) 0 0 (zE (.int (nI 1)) (xM G we r cl seen kept rd nw ud im (updN twe a b) tr tcl bys wo nu len it so at_ be va sp ss al od ab bl bd no fu rest)) := by
  refine zS.of (by decide) (Nat.le_of_ble_eq_true rfl) (fun F O hR1 hR2 => ?_)
  have O : zOk G F yX2_isToldTo cX2_isToldTo 6 (some .boolean) RX2 3 (xM G we r cl seen kept rd nw ud im twe tr tcl bys wo nu len it so at_ be va sp ss al od ab bl bd no fu rest).length := O
  refine z_eq (lv' := [(0, _), (1, _), (2, _)]) rfl rfl rfl ?_
  refine z_iload_n O dX2_isToldTo_0 rfl ?_
  refine z_iconst O (nI 4) dX2_isToldTo_1 (by decide) ?_
  refine z_imulN O dX2_isToldTo_2 ?_
  refine z_istore_n (lv' := [(0, _), (1, _), (2, _), (3, _)]) O dX2_isToldTo_3 (by decide) rfl ?_
  refine z_aload_n O dX2_isToldTo_4 rfl ?_
  refine z_get O dX2_isToldTo_5 flX2_18 (by rfl) (by rfl) ?_
  refine z_iload_n O dX2_isToldTo_8 rfl ?_
  refine z_ialdN O dX2_isToldTo_9 (by rfl) (by omega) (by decide) ?_
  refine z_top (v' := .int (nI a)) (congrArg Value.int (congrArg nI ha)) ?_
  refine z_istore (lv' := [(0, _), (1, _), (2, _), (3, _), (4, _)]) O dX2_isToldTo_10 (by decide) rfl ?_
  refine z_aload_n O dX2_isToldTo_12 rfl ?_
  refine z_get O dX2_isToldTo_13 flX2_18 (by rfl) (by rfl) ?_
  refine z_iload_n O dX2_isToldTo_16 rfl ?_
  refine z_iconst O (nI 1) dX2_isToldTo_17 (by decide) ?_
  refine z_iaddN O dX2_isToldTo_18 ?_
  refine z_ialdN O dX2_isToldTo_19 (by rfl) (by omega) (by decide) ?_
  refine z_top (v' := .int (nI b)) (congrArg Value.int (congrArg nI hb)) ?_
  refine z_istore (lv' := [(0, _), (1, _), (2, _), (3, _), (4, _), (5, _)]) O dX2_isToldTo_20 (by decide) rfl ?_
  refine z_aload_n O dX2_isToldTo_22 rfl ?_
  refine z_get O dX2_isToldTo_23 flX2_15 (by rfl) (by rfl) ?_
  refine z_iload_n O dX2_isToldTo_26 rfl ?_
  refine z_ialdN O dX2_isToldTo_27 (by rfl) (by omega) (by decide) ?_
  refine z_top (v' := .int (nI 1)) (congrArg Value.int (congrArg nI hw)) ?_
  refine z_lookup O 76 dX2_isToldTo_28 (by decide) (by rfl) (by decide) ?_
  refine z_iload O dX2_isToldTo_76 rfl ?_
  refine z_iload O dX2_isToldTo_78 rfl ?_
  refine z_SN2e0 O s_wearsAsTold mX3_wearsAsTold nlX2_87 dX2_isToldTo_80 (Nat.le_of_ble_eq_true rfl) (by decide) ?_
  refine z_if_neB O 88 dX2_isToldTo_83 (by decide) (fun h83 => ?_) (fun h83 => by exact absurd ⟨⟨nI_pos' (by omega), nI_lt hk.1 (by omega)⟩, nI_le (by omega) (by omega), nI_le hk.2 (by omega)⟩ h83)
  refine z_aload_n O dX2_isToldTo_88 rfl ?_
  refine z_get O dX2_isToldTo_89 flX2_90 (by rfl) (by rfl) ?_
  refine z_iload O dX2_isToldTo_92 rfl ?_
  refine z_iload O dX2_isToldTo_94 rfl ?_
  refine z_iastN O (by rfl) dX2_isToldTo_96 (by rfl) (by omega) (by decide) ?_
  refine z_iconst O (nI 1) dX2_isToldTo_97 (by decide) ?_
  exact z_zret O dX2_isToldTo_98 rfl ⟨rfl, rfl⟩
set_option maxRecDepth 20000 in
set_option maxHeartbeats 4000000 in
theorem u_told1N {i a b : Nat} (hi : i < 25) (hw : wo i = 1) (ha : nu (i * 4) = a) (hb : nu (i * 4 + 1) = b) (ha1 : a < 100) (hb1 : b < 100) (hk : ¬ (a < 9 ∧ b ≤ 5)) : zS G 3 yX2_isToldTo cX2_isToldTo 6 (some .boolean) [.ref (zad (zb G) 13), .ref (zad (zb G) 9), .int (nI i)] (xM G we r cl seen kept rd nw ud im twe tr tcl bys wo nu len it so at_ be va sp ss al od ab bl bd no fu rest) 0 0 (zE (.int (nI 0)) (xM G we r cl seen kept rd nw ud im twe tr tcl bys wo nu len it so at_ be va sp ss al od ab bl bd no fu rest)) := by
  refine zS.of (by decide) (Nat.le_of_ble_eq_true rfl) (fun F O hR1 hR2 => ?_)
  have O : zOk G F yX2_isToldTo cX2_isToldTo 6 (some .boolean) RX2 3 (xM G we r cl seen kept rd nw ud im twe tr tcl bys wo nu len it so at_ be va sp ss al od ab bl bd no fu rest).length := O
  refine z_eq (lv' := [(0, _), (1, _), (2, _)]) rfl rfl rfl ?_
  refine z_iload_n O dX2_isToldTo_0 rfl ?_
  refine z_iconst O (nI 4) dX2_isToldTo_1 (by decide) ?_
  refine z_imulN O dX2_isToldTo_2 ?_
  refine z_istore_n (lv' := [(0, _), (1, _), (2, _), (3, _)]) O dX2_isToldTo_3 (by decide) rfl ?_
  refine z_aload_n O dX2_isToldTo_4 rfl ?_
  refine z_get O dX2_isToldTo_5 flX2_18 (by rfl) (by rfl) ?_
  refine z_iload_n O dX2_isToldTo_8 rfl ?_
  refine z_ialdN O dX2_isToldTo_9 (by rfl) (by omega) (by decide) ?_
  refine z_top (v' := .int (nI a)) (congrArg Value.int (congrArg nI ha)) ?_
  refine z_istore (lv' := [(0, _), (1, _), (2, _), (3, _), (4, _)]) O dX2_isToldTo_10 (by decide) rfl ?_
  refine z_aload_n O dX2_isToldTo_12 rfl ?_
  refine z_get O dX2_isToldTo_13 flX2_18 (by rfl) (by rfl) ?_
  refine z_iload_n O dX2_isToldTo_16 rfl ?_
  refine z_iconst O (nI 1) dX2_isToldTo_17 (by decide) ?_
  refine z_iaddN O dX2_isToldTo_18 ?_
  refine z_ialdN O dX2_isToldTo_19 (by rfl) (by omega) (by decide) ?_
  refine z_top (v' := .int (nI b)) (congrArg Value.int (congrArg nI hb)) ?_
  refine z_istore (lv' := [(0, _), (1, _), (2, _), (3, _), (4, _), (5, _)]) O dX2_isToldTo_20 (by decide) rfl ?_
  refine z_aload_n O dX2_isToldTo_22 rfl ?_
  refine z_get O dX2_isToldTo_23 flX2_15 (by rfl) (by rfl) ?_
  refine z_iload_n O dX2_isToldTo_26 rfl ?_
  refine z_ialdN O dX2_isToldTo_27 (by rfl) (by omega) (by decide) ?_
  refine z_top (v' := .int (nI 1)) (congrArg Value.int (congrArg nI hw)) ?_
  refine z_lookup O 76 dX2_isToldTo_28 (by decide) (by rfl) (by decide) ?_
  refine z_iload O dX2_isToldTo_76 rfl ?_
  refine z_iload O dX2_isToldTo_78 rfl ?_
  refine z_SN2e0 O s_wearsAsTold mX3_wearsAsTold nlX2_87 dX2_isToldTo_80 (Nat.le_of_ble_eq_true rfl) (by decide) ?_
  refine z_if_neB O 88 dX2_isToldTo_83 (by decide) (fun h83 => by exact absurd (show a < 9 ∧ b ≤ 5 from ⟨(nI_ltI (by omega) (by omega)).mp h83.1.2, (nI_leI (by omega) (by omega)).mp h83.2.2⟩) hk) (fun h83 => ?_)
  refine z_iconst O (nI 0) dX2_isToldTo_86 (by decide) ?_
  exact z_zret O dX2_isToldTo_87 rfl ⟨rfl, rfl⟩
set_option maxRecDepth 20000 in
set_option maxHeartbeats 4000000 in
theorem u_told2 {i a b c d : Nat} (hi : i < 25) (hw : wo i = 2) (ha : nu (i * 4) = a) (hb : nu (i * 4 + 1) = b) (hc : nu (i * 4 + 2) = c) (hd : nu (i * 4 + 3) = d) (hr : rowOK tr) (hk : a < 9 ∧ b < 6 ∧ c < 3 ∧ 1 ≤ d ∧ d ≤ 30 ∧ tr (108 + a) < 3) : zS G 5 yX2_isToldTo cX2_isToldTo 6 (some .boolean) [.ref (zad (zb G) 13), .ref (zad (zb G) 9), .int (nI i)] (xM G we r cl seen kept rd nw ud im twe tr tcl bys wo nu len it so at_ be va sp ss al od ab bl bd no fu rest) 0 0 (zE (.int (nI 1)) (xM G we r cl seen kept rd nw ud im twe (putN tr a b c d) tcl bys wo nu len it so at_ be va sp ss al od ab bl bd no fu rest)) := by
  refine zS.of (by decide) (Nat.le_of_ble_eq_true rfl) (fun F O hR1 hR2 => ?_)
  have O : zOk G F yX2_isToldTo cX2_isToldTo 6 (some .boolean) RX2 5 (xM G we r cl seen kept rd nw ud im twe tr tcl bys wo nu len it so at_ be va sp ss al od ab bl bd no fu rest).length := O
  refine z_eq (lv' := [(0, _), (1, _), (2, _)]) rfl rfl rfl ?_
  refine z_iload_n O dX2_isToldTo_0 rfl ?_
  refine z_iconst O (nI 4) dX2_isToldTo_1 (by decide) ?_
  refine z_imulN O dX2_isToldTo_2 ?_
  refine z_istore_n (lv' := [(0, _), (1, _), (2, _), (3, _)]) O dX2_isToldTo_3 (by decide) rfl ?_
  refine z_aload_n O dX2_isToldTo_4 rfl ?_
  refine z_get O dX2_isToldTo_5 flX2_18 (by rfl) (by rfl) ?_
  refine z_iload_n O dX2_isToldTo_8 rfl ?_
  refine z_ialdN O dX2_isToldTo_9 (by rfl) (by omega) (by decide) ?_
  refine z_top (v' := .int (nI a)) (congrArg Value.int (congrArg nI ha)) ?_
  refine z_istore (lv' := [(0, _), (1, _), (2, _), (3, _), (4, _)]) O dX2_isToldTo_10 (by decide) rfl ?_
  refine z_aload_n O dX2_isToldTo_12 rfl ?_
  refine z_get O dX2_isToldTo_13 flX2_18 (by rfl) (by rfl) ?_
  refine z_iload_n O dX2_isToldTo_16 rfl ?_
  refine z_iconst O (nI 1) dX2_isToldTo_17 (by decide) ?_
  refine z_iaddN O dX2_isToldTo_18 ?_
  refine z_ialdN O dX2_isToldTo_19 (by rfl) (by omega) (by decide) ?_
  refine z_top (v' := .int (nI b)) (congrArg Value.int (congrArg nI hb)) ?_
  refine z_istore (lv' := [(0, _), (1, _), (2, _), (3, _), (4, _), (5, _)]) O dX2_isToldTo_20 (by decide) rfl ?_
  refine z_aload_n O dX2_isToldTo_22 rfl ?_
  refine z_get O dX2_isToldTo_23 flX2_15 (by rfl) (by rfl) ?_
  refine z_iload_n O dX2_isToldTo_26 rfl ?_
  refine z_ialdN O dX2_isToldTo_27 (by rfl) (by omega) (by decide) ?_
  refine z_top (v' := .int (nI 2)) (congrArg Value.int (congrArg nI hw)) ?_
  refine z_lookup O 99 dX2_isToldTo_28 (by decide) (by rfl) (by decide) ?_
  refine z_aload_n O dX2_isToldTo_99 rfl ?_
  refine z_iload O dX2_isToldTo_100 rfl ?_
  refine z_iload O dX2_isToldTo_102 rfl ?_
  refine z_aload_n O dX2_isToldTo_104 rfl ?_
  refine z_get O dX2_isToldTo_105 flX2_18 (by rfl) (by rfl) ?_
  refine z_iload_n O dX2_isToldTo_108 rfl ?_
  refine z_iconst O (nI 2) dX2_isToldTo_109 (by decide) ?_
  refine z_iaddN O dX2_isToldTo_110 ?_
  refine z_ialdN O dX2_isToldTo_111 (by rfl) (by omega) (by decide) ?_
  refine z_top (v' := .int (nI c)) (congrArg Value.int (congrArg nI hc)) ?_
  refine z_aload_n O dX2_isToldTo_112 rfl ?_
  refine z_get O dX2_isToldTo_113 flX2_18 (by rfl) (by rfl) ?_
  refine z_iload_n O dX2_isToldTo_116 rfl ?_
  refine z_iconst O (nI 3) dX2_isToldTo_117 (by decide) ?_
  refine z_iaddN O dX2_isToldTo_118 ?_
  refine z_ialdN O dX2_isToldTo_119 (by rfl) (by omega) (by decide) ?_
  refine z_top (v' := .int (nI d)) (congrArg Value.int (congrArg nI hd)) ?_
  refine z_V4e0 O (s_verdict xT hr hk.1 hk.2.1 hk.2.2.1 hk.2.2.2.1 hk.2.2.2.2.1) mX0_verdict lkX2_93 rfl (by rfl) dX2_isToldTo_120 (Nat.le_of_ble_eq_true rfl) (by decide) ?_
  refine z_if_eq O 128 dX2_isToldTo_123 (by decide) (fun h123 => ?_) (fun h123 => by exact absurd (if_pos hk.2.2.2.2.2) h123)
  refine z_aload_n O dX2_isToldTo_128 rfl ?_
  refine z_iload O dX2_isToldTo_129 rfl ?_
  refine z_iload O dX2_isToldTo_131 rfl ?_
  refine z_aload_n O dX2_isToldTo_133 rfl ?_
  refine z_get O dX2_isToldTo_134 flX2_18 (by rfl) (by rfl) ?_
  refine z_iload_n O dX2_isToldTo_137 rfl ?_
  refine z_iconst O (nI 2) dX2_isToldTo_138 (by decide) ?_
  refine z_iaddN O dX2_isToldTo_139 ?_
  refine z_ialdN O dX2_isToldTo_140 (by rfl) (by omega) (by decide) ?_
  refine z_top (v' := .int (nI c)) (congrArg Value.int (congrArg nI hc)) ?_
  refine z_aload_n O dX2_isToldTo_141 rfl ?_
  refine z_get O dX2_isToldTo_142 flX2_18 (by rfl) (by rfl) ?_
  refine z_iload_n O dX2_isToldTo_145 rfl ?_
  refine z_iconst O (nI 3) dX2_isToldTo_146 (by decide) ?_
  refine z_iaddN O dX2_isToldTo_147 ?_
  refine z_ialdN O dX2_isToldTo_148 (by rfl) (by omega) (by decide) ?_
  refine z_top (v' := .int (nI d)) (congrArg Value.int (congrArg nI hd)) ?_
  refine z_V4e0 O (s_put xT hr hk.1 hk.2.1 hk.2.2.1 hk.2.2.2.1 hk.2.2.2.2.1 hk.2.2.2.2.2) mX0_put lkX2_97 rfl (by rfl) dX2_isToldTo_149 (Nat.le_of_ble_eq_true rfl) (by decide) ?_
  refine z_M (show _ = (xM G we r cl seen kept rd nw ud im twe (putN tr a b c d) tcl bys wo nu len it so at_ be va sp ss al od ab bl bd no fu rest) from rfl) ?_
  refine z_pop O dX2_isToldTo_152 rfl ?_
  refine z_iconst O (nI 1) dX2_isToldTo_153 (by decide) ?_
  exact z_zret O dX2_isToldTo_154 rfl ⟨rfl, rfl⟩
set_option maxRecDepth 20000 in
set_option maxHeartbeats 4000000 in
theorem u_told2F {i a b c d : Nat} (hi : i < 25) (hw : wo i = 2) (ha : nu (i * 4) = a) (hb : nu (i * 4 + 1) = b) (hc : nu (i * 4 + 2) = c) (hd : nu (i * 4 + 3) = d) (hr : rowOK tr) (hk : a < 9 ∧ b < 6 ∧ c < 3 ∧ 1 ≤ d ∧ d ≤ 30) (hf : ¬ tr (108 + a) < 3) : zS G 5 yX2_isToldTo cX2_isToldTo 6 (some .boolean) [.ref (zad (zb G) 13), .ref (zad (zb G) 9), .int (nI i)] (xM G we r cl seen kept rd nw ud im twe tr tcl bys wo nu len it so at_ be va sp ss al od ab bl bd no fu rest) 0 0 (zE (.int (nI 0)) (xM G we r cl seen kept rd nw ud im twe tr tcl bys wo nu len it so at_ be va sp ss al od ab bl bd no fu rest)) := by
  refine zS.of (by decide) (Nat.le_of_ble_eq_true rfl) (fun F O hR1 hR2 => ?_)
  have O : zOk G F yX2_isToldTo cX2_isToldTo 6 (some .boolean) RX2 5 (xM G we r cl seen kept rd nw ud im twe tr tcl bys wo nu len it so at_ be va sp ss al od ab bl bd no fu rest).length := O
  refine z_eq (lv' := [(0, _), (1, _), (2, _)]) rfl rfl rfl ?_
  refine z_iload_n O dX2_isToldTo_0 rfl ?_
  refine z_iconst O (nI 4) dX2_isToldTo_1 (by decide) ?_
  refine z_imulN O dX2_isToldTo_2 ?_
  refine z_istore_n (lv' := [(0, _), (1, _), (2, _), (3, _)]) O dX2_isToldTo_3 (by decide) rfl ?_
  refine z_aload_n O dX2_isToldTo_4 rfl ?_
  refine z_get O dX2_isToldTo_5 flX2_18 (by rfl) (by rfl) ?_
  refine z_iload_n O dX2_isToldTo_8 rfl ?_
  refine z_ialdN O dX2_isToldTo_9 (by rfl) (by omega) (by decide) ?_
  refine z_top (v' := .int (nI a)) (congrArg Value.int (congrArg nI ha)) ?_
  refine z_istore (lv' := [(0, _), (1, _), (2, _), (3, _), (4, _)]) O dX2_isToldTo_10 (by decide) rfl ?_
  refine z_aload_n O dX2_isToldTo_12 rfl ?_
  refine z_get O dX2_isToldTo_13 flX2_18 (by rfl) (by rfl) ?_
  refine z_iload_n O dX2_isToldTo_16 rfl ?_
  refine z_iconst O (nI 1) dX2_isToldTo_17 (by decide) ?_
  refine z_iaddN O dX2_isToldTo_18 ?_
  refine z_ialdN O dX2_isToldTo_19 (by rfl) (by omega) (by decide) ?_
  refine z_top (v' := .int (nI b)) (congrArg Value.int (congrArg nI hb)) ?_
  refine z_istore (lv' := [(0, _), (1, _), (2, _), (3, _), (4, _), (5, _)]) O dX2_isToldTo_20 (by decide) rfl ?_
  refine z_aload_n O dX2_isToldTo_22 rfl ?_
  refine z_get O dX2_isToldTo_23 flX2_15 (by rfl) (by rfl) ?_
  refine z_iload_n O dX2_isToldTo_26 rfl ?_
  refine z_ialdN O dX2_isToldTo_27 (by rfl) (by omega) (by decide) ?_
  refine z_top (v' := .int (nI 2)) (congrArg Value.int (congrArg nI hw)) ?_
  refine z_lookup O 99 dX2_isToldTo_28 (by decide) (by rfl) (by decide) ?_
  refine z_aload_n O dX2_isToldTo_99 rfl ?_
  refine z_iload O dX2_isToldTo_100 rfl ?_
  refine z_iload O dX2_isToldTo_102 rfl ?_
  refine z_aload_n O dX2_isToldTo_104 rfl ?_
  refine z_get O dX2_isToldTo_105 flX2_18 (by rfl) (by rfl) ?_
  refine z_iload_n O dX2_isToldTo_108 rfl ?_
  refine z_iconst O (nI 2) dX2_isToldTo_109 (by decide) ?_
  refine z_iaddN O dX2_isToldTo_110 ?_
  refine z_ialdN O dX2_isToldTo_111 (by rfl) (by omega) (by decide) ?_
  refine z_top (v' := .int (nI c)) (congrArg Value.int (congrArg nI hc)) ?_
  refine z_aload_n O dX2_isToldTo_112 rfl ?_
  refine z_get O dX2_isToldTo_113 flX2_18 (by rfl) (by rfl) ?_
  refine z_iload_n O dX2_isToldTo_116 rfl ?_
  refine z_iconst O (nI 3) dX2_isToldTo_117 (by decide) ?_
  refine z_iaddN O dX2_isToldTo_118 ?_
  refine z_ialdN O dX2_isToldTo_119 (by rfl) (by omega) (by decide) ?_
  refine z_top (v' := .int (nI d)) (congrArg Value.int (congrArg nI hd)) ?_
  refine z_V4e0 O (s_verdict xT hr hk.1 hk.2.1 hk.2.2.1 hk.2.2.2.1 hk.2.2.2.2) mX0_verdict lkX2_93 rfl (by rfl) dX2_isToldTo_120 (Nat.le_of_ble_eq_true rfl) (by decide) ?_
  refine z_if_eq O 128 dX2_isToldTo_123 (by decide) (fun h123 => by exact absurd ((if_neg hf).symm.trans h123) (by decide)) (fun h123 => ?_)
  refine z_iconst O (nI 0) dX2_isToldTo_126 (by decide) ?_
  exact z_zret O dX2_isToldTo_127 rfl ⟨rfl, rfl⟩
set_option maxRecDepth 20000 in
set_option maxHeartbeats 4000000 in
theorem u_told2B {i a b c d : Nat} (hi : i < 25) (hw : wo i = 2) (ha : nu (i * 4) = a) (hb : nu (i * 4 + 1) = b) (hc : nu (i * 4 + 2) = c) (hd : nu (i * 4 + 3) = d) (ha1 : a < 100) (hb1 : b < 100) (hc1 : c < 100) (hd1 : d < 100) (hk : ¬ (a < 9 ∧ b < 6 ∧ c < 3 ∧ 1 ≤ d ∧ d ≤ 30)) : zS G 5 yX2_isToldTo cX2_isToldTo 6 (some .boolean) [.ref (zad (zb G) 13), .ref (zad (zb G) 9), .int (nI i)] (xM G we r cl seen kept rd nw ud im twe tr tcl bys wo nu len it so at_ be va sp ss al od ab bl bd no fu rest) 0 0 (zE (.int (nI 0)) (xM G we r cl seen kept rd nw ud im twe tr tcl bys wo nu len it so at_ be va sp ss al od ab bl bd no fu rest)) := by
  refine zS.of (by decide) (Nat.le_of_ble_eq_true rfl) (fun F O hR1 hR2 => ?_)
  have O : zOk G F yX2_isToldTo cX2_isToldTo 6 (some .boolean) RX2 5 (xM G we r cl seen kept rd nw ud im twe tr tcl bys wo nu len it so at_ be va sp ss al od ab bl bd no fu rest).length := O
  refine z_eq (lv' := [(0, _), (1, _), (2, _)]) rfl rfl rfl ?_
  refine z_iload_n O dX2_isToldTo_0 rfl ?_
  refine z_iconst O (nI 4) dX2_isToldTo_1 (by decide) ?_
  refine z_imulN O dX2_isToldTo_2 ?_
  refine z_istore_n (lv' := [(0, _), (1, _), (2, _), (3, _)]) O dX2_isToldTo_3 (by decide) rfl ?_
  refine z_aload_n O dX2_isToldTo_4 rfl ?_
  refine z_get O dX2_isToldTo_5 flX2_18 (by rfl) (by rfl) ?_
  refine z_iload_n O dX2_isToldTo_8 rfl ?_
  refine z_ialdN O dX2_isToldTo_9 (by rfl) (by omega) (by decide) ?_
  refine z_top (v' := .int (nI a)) (congrArg Value.int (congrArg nI ha)) ?_
  refine z_istore (lv' := [(0, _), (1, _), (2, _), (3, _), (4, _)]) O dX2_isToldTo_10 (by decide) rfl ?_
  refine z_aload_n O dX2_isToldTo_12 rfl ?_
  refine z_get O dX2_isToldTo_13 flX2_18 (by rfl) (by rfl) ?_
  refine z_iload_n O dX2_isToldTo_16 rfl ?_
  refine z_iconst O (nI 1) dX2_isToldTo_17 (by decide) ?_
  refine z_iaddN O dX2_isToldTo_18 ?_
  refine z_ialdN O dX2_isToldTo_19 (by rfl) (by omega) (by decide) ?_
  refine z_top (v' := .int (nI b)) (congrArg Value.int (congrArg nI hb)) ?_
  refine z_istore (lv' := [(0, _), (1, _), (2, _), (3, _), (4, _), (5, _)]) O dX2_isToldTo_20 (by decide) rfl ?_
  refine z_aload_n O dX2_isToldTo_22 rfl ?_
  refine z_get O dX2_isToldTo_23 flX2_15 (by rfl) (by rfl) ?_
  refine z_iload_n O dX2_isToldTo_26 rfl ?_
  refine z_ialdN O dX2_isToldTo_27 (by rfl) (by omega) (by decide) ?_
  refine z_top (v' := .int (nI 2)) (congrArg Value.int (congrArg nI hw)) ?_
  refine z_lookup O 99 dX2_isToldTo_28 (by decide) (by rfl) (by decide) ?_
  refine z_aload_n O dX2_isToldTo_99 rfl ?_
  refine z_iload O dX2_isToldTo_100 rfl ?_
  refine z_iload O dX2_isToldTo_102 rfl ?_
  refine z_aload_n O dX2_isToldTo_104 rfl ?_
  refine z_get O dX2_isToldTo_105 flX2_18 (by rfl) (by rfl) ?_
  refine z_iload_n O dX2_isToldTo_108 rfl ?_
  refine z_iconst O (nI 2) dX2_isToldTo_109 (by decide) ?_
  refine z_iaddN O dX2_isToldTo_110 ?_
  refine z_ialdN O dX2_isToldTo_111 (by rfl) (by omega) (by decide) ?_
  refine z_top (v' := .int (nI c)) (congrArg Value.int (congrArg nI hc)) ?_
  refine z_aload_n O dX2_isToldTo_112 rfl ?_
  refine z_get O dX2_isToldTo_113 flX2_18 (by rfl) (by rfl) ?_
  refine z_iload_n O dX2_isToldTo_116 rfl ?_
  refine z_iconst O (nI 3) dX2_isToldTo_117 (by decide) ?_
  refine z_iaddN O dX2_isToldTo_118 ?_
  refine z_ialdN O dX2_isToldTo_119 (by rfl) (by omega) (by decide) ?_
  refine z_top (v' := .int (nI d)) (congrArg Value.int (congrArg nI hd)) ?_
  refine z_V4e0 O (s_verdictB xT (fun q => hk ⟨(nI_ltI (by omega) (by omega)).mp q.1.2, (nI_ltI (by omega) (by omega)).mp q.2.1.2, (nI_ltI (by omega) (by omega)).mp q.2.2.1.2, (nI_leI (by omega) (by omega)).mp q.2.2.2.1, (nI_leI (by omega) (by omega)).mp q.2.2.2.2⟩)) mX0_verdict lkX2_93 rfl (by rfl) dX2_isToldTo_120 (Nat.le_of_ble_eq_true rfl) (by decide) ?_
  refine z_if_eq O 128 dX2_isToldTo_123 (by decide) (fun h123 => by exact absurd h123 (by decide)) (fun h123 => ?_)
  refine z_iconst O (nI 0) dX2_isToldTo_126 (by decide) ?_
  exact z_zret O dX2_isToldTo_127 rfl ⟨rfl, rfl⟩
end XS
