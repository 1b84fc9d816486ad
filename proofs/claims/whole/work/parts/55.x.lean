/-! ===== Text: told; DarnedSock.read ===== -/
theorem tlS_0 {t : Nat → Nat} {len i : Nat} {s : (Nat → Nat) × (Nat → Nat)} (h : wdT t len (iQ t len i) = 0) : tlS t len s (i + 1) = (onesC (tlS t len s i).1 9, updN (renewC (tlS t len s i).2 9) 117 (nuQ t len (iQ t len i) 0)) ∧ okS t len s i = true := by
  refine ⟨?_, ?_⟩
  · show tlI (tlS t len s i) _ _ _ _ _ = _
    unfold tlI
    rw [h, if_pos rfl]
  · unfold okS okI
    rw [h, if_pos rfl]
theorem tlS_1 {t : Nat → Nat} {len i : Nat} {s : (Nat → Nat) × (Nat → Nat)} (h : wdT t len (iQ t len i) = 1) : tlS t len s (i + 1) = (updN (tlS t len s i).1 (nuQ t len (iQ t len i) 0) (nuQ t len (iQ t len i) 1), (tlS t len s i).2) ∧ okS t len s i = decide ((nuQ t len (iQ t len i) 0) < 9 ∧ (nuQ t len (iQ t len i) 1) ≤ 5) := by
  refine ⟨?_, ?_⟩
  · show tlI (tlS t len s i) _ _ _ _ _ = _
    unfold tlI
    rw [h, if_neg (by decide), if_pos rfl]
  · unfold okS okI
    rw [h, if_neg (by decide), if_pos rfl]
theorem tlS_2 {t : Nat → Nat} {len i : Nat} {s : (Nat → Nat) × (Nat → Nat)} (h : wdT t len (iQ t len i) = 2) : tlS t len s (i + 1) = ((tlS t len s i).1, putN (tlS t len s i).2 (nuQ t len (iQ t len i) 0) (nuQ t len (iQ t len i) 1) (nuQ t len (iQ t len i) 2) (nuQ t len (iQ t len i) 3)) ∧ okS t len s i = decide ((nuQ t len (iQ t len i) 0) < 9 ∧ (nuQ t len (iQ t len i) 1) < 6 ∧ (nuQ t len (iQ t len i) 2) < 3 ∧ 1 ≤ (nuQ t len (iQ t len i) 3) ∧ (nuQ t len (iQ t len i) 3) ≤ 30 ∧ (tlS t len s i).2 (108 + (nuQ t len (iQ t len i) 0)) < 3) := by
  refine ⟨?_, ?_⟩
  · show tlI (tlS t len s i) _ _ _ _ _ = _
    unfold tlI
    rw [h, if_neg (by decide), if_neg (by decide)]
  · unfold okS okI
    rw [h, if_neg (by decide), if_neg (by decide)]
theorem tlS_good {t : Nat → Nat} {len : Nat} {s : (Nat → Nat) × (Nat → Nat)} {n i : Nat} (hi : ITM t len n) (hs : tlOK s) (hin : i ≤ n) (h0 : 0 < i) (hk : ∀ k, k < i → okS t len s k = true) : tlG (tlS t len s i) := by
  have := tlS_ok hi hs (i - 1) (by omega) (fun k hk' => hk k (by omega))
  rwa [show i - 1 + 1 = i by omega] at this
theorem tlS_okk {t : Nat → Nat} {len : Nat} {s : (Nat → Nat) × (Nat → Nat)} {n i : Nat} (hi : ITM t len n) (hs : tlOK s) (hin : i ≤ n) (hk : ∀ k, k < i → okS t len s k = true) : tlOK (tlS t len s i) := by
  rcases Nat.eq_zero_or_pos i with h0 | h0
  · subst h0; exact hs
  · have := tlS_good hi hs hin h0 hk
    exact ⟨this.2.1, GR_T this.1⟩
theorem fp_le {t : Nat → Nat} {len a : Nat} : ∀ k q, q ≤ len → fpN t len k q = some a → a ≤ len
  | 0, q, hq, h => by
    unfold fpN at h
    split at h
    · cases h
    · cases h; exact (tE_le hq).1
  | k + 1, q, hq, h => by
    unfold fpN at h
    split at h
    · exact fp_le k _ (tE_le hq).2 h
    · cases h; exact (tE_le hq).1
theorem it_le {t : Nat → Nat} {len a n p : Nat} (hp : p ≤ len) (h : itF t len n p = some a) : a ≤ len := by
  unfold itF at h
  split at h
  · exact fp_le _ _ (tE_le hp).2 h
  · cases h; exact (tE_le hp).1
theorem prs_le {t : Nat → Nat} {len a : Nat} : ∀ f n, (prs t len f n).1 = some a → a ≤ len
  | 0, n, h => by
    have : tS t len (iQ t len n) = a := Option.some.inj h
    rw [← this]; exact (tE_le (iQ_le t len n)).1
  | f + 1, n, h => by
    rcases hif : itF t len n (iQ t len n) with _ | b
    · by_cases h0 : tO t len (iQ t len (n + 1)) = 0
      · rw [prs_e hif h0] at h; cases h
      · rw [prs_n hif h0] at h; exact prs_le f (n + 1) h
    · rw [prs_s hif] at h
      cases h
      exact it_le (iQ_le t len n) hif
theorem firstN_lt {p : Nat → Bool} {a : Nat} : ∀ n m, firstN p n m = some a → a < m + n
  | 0, m, h => by cases h
  | n + 1, m, h => by
    unfold firstN at h
    split at h
    · cases h; omega
    · have := firstN_lt n (m + 1) h; omega
section XS
variable {G : zG} {we r cl seen kept : Nat → Nat} {rd nw ud : Nat} {im : Nat → Option Nat} {twe tr tcl bys wo nu : Nat → Nat} {len it so at_ be va : Nat} {sp ss al od : Nat → Nat} {ab bl : Int64} {bd no fu : Nat} {rest : List va_E}
set_option maxRecDepth 20000 in
set_option maxHeartbeats 4000000 in
theorem u_refusedOn (hit25 : it ≤ 25) (hitm : ITM bys len it) (hdat : DAT bys len it wo nu) (hs0 : tlOK (twe, tr)) : zS G 6 yX2_refusedOn cX2_refusedOn 3 (some .int) [.ref (zad (zb G) 13), .ref (zad (zb G) 9)] (xM G we r cl seen kept rd nw ud im twe tr tcl bys wo nu len it so at_ be va sp ss al od ab bl bd no fu rest) 0 0 (zP (fun v M' => v = .int (optI (rfS bys len (twe, tr) it)) ∧ ∃ twe' tr' : Nat → Nat, tlOK (twe', tr') ∧ (rfS bys len (twe, tr) it = none → (twe', tr') = tlS bys len (twe, tr) it ∧ ∀ k, k < it → okS bys len (twe, tr) k = true) ∧ M' = (xM G we r cl seen kept rd nw ud im twe' tr' tcl bys wo nu len it so at_ be va sp ss al od ab bl bd no fu rest))) := by
  refine zS.of (by decide) (Nat.le_of_ble_eq_true rfl) (fun F O hR1 hR2 => ?_)
  have O : zOk G F yX2_refusedOn cX2_refusedOn 3 (some .int) RX2 6 (xM G we r cl seen kept rd nw ud im twe tr tcl bys wo nu len it so at_ be va sp ss al od ab bl bd no fu rest).length := O
  refine z_eq (lv' := [(0, _), (1, _)]) rfl rfl rfl ?_
  refine z_iconst O (nI 0) dX2_refusedOn_0 (by decide) ?_
  refine z_istore_n (lv' := [(0, _), (1, _), (2, _)]) O dX2_refusedOn_1 (by decide) rfl ?_
  refine zdown (P := fun i => (∀ k, k < i → okS bys len (twe, tr) k = true) → firstN (fun i => !okS bys len (twe, tr) i) (it - i) i = firstN (fun i => !okS bys len (twe, tr) i) it 0 → Z G F 0 0 (zEnd G F (zP (fun v M' => v = .int (optI (rfS bys len (twe, tr) it)) ∧ ∃ twe' tr' : Nat → Nat, tlOK (twe', tr') ∧ (rfS bys len (twe, tr) it = none → (twe', tr') = tlS bys len (twe, tr) it ∧ ∀ k, k < it → okS bys len (twe, tr) k = true) ∧ M' = (xM G we r cl seen kept rd nw ud im twe' tr' tcl bys wo nu len it so at_ be va sp ss al od ab bl bd no fu rest))) 0 0) 2 [(0, .ref (zad (zb G) 13)), (1, .ref (zad (zb G) 9)), (2, .int (nI i))] [] (xM G we r cl seen kept rd nw ud im ((tlS bys len (twe, tr) i).1 ) ((tlS bys len (twe, tr) i).2 ) tcl bys wo nu len it so at_ be va sp ss al od ab bl bd no fu rest)) (it) ?_ ?_ (fun k hk => absurd hk (Nat.not_lt_zero k)) rfl
  · intro hall hf
    refine z_iload_n O dX2_refusedOn_2 rfl ?_
    refine z_aload_n O dX2_refusedOn_3 rfl ?_
    refine z_get O dX2_refusedOn_4 flX2_21 (by rfl) (by rfl) ?_
    refine z_icmp_geN O 33 dX2_refusedOn_7 (by decide) (by omega) (by omega) (fun h7 => ?_) (fun h7 => by omega)
    refine z_iconst O (-1) dX2_refusedOn_33 (by decide) ?_
    exact z_iret O dX2_refusedOn_34 ⟨_, rfl, by rw [rfS, ← hf, Nat.sub_self]; rfl, _, _, tlS_okk hitm hs0 (Nat.le_refl _) hall, fun _ => ⟨rfl, hall⟩, rfl⟩
  · intro i hi ih hall hf
    have hit := it_none (hitm i hi)
    have hd := hdat i hi
    have hw3 := (tO_1 hit.1).2.1
    refine z_iload_n O dX2_refusedOn_2 rfl ?_
    refine z_aload_n O dX2_refusedOn_3 rfl ?_
    refine z_get O dX2_refusedOn_4 flX2_21 (by rfl) (by rfl) ?_
    refine z_icmp_geN O 33 dX2_refusedOn_7 (by decide) (by omega) (by omega) (fun h7 => by omega) (fun h7 => ?_)
    refine z_iload_n O dX2_refusedOn_10 rfl ?_
    refine z_bipush O (nI 25) dX2_refusedOn_11 (by decide) ?_
    refine z_icmp_geN O 33 dX2_refusedOn_13 (by decide) (by omega) (by omega) (fun h13 => by omega) (fun h13 => ?_)
    rcases (show wdT bys len (iQ bys len i) = 0 ∨ wdT bys len (iQ bys len i) = 1 ∨ wdT bys len (iQ bys len i) = 2 by omega) with hw | hw | hw
    · refine z_aload_n O dX2_refusedOn_16 rfl ?_
      have tl := tlS_0 (s := (twe, tr)) hw
      have hok := tl.2
      refine z_aload_n O dX2_refusedOn_17 rfl ?_
      refine z_iload_n O dX2_refusedOn_18 rfl ?_
      refine z_V2e0 O (u_told0 (by omega) (hd.1.trans hw) (hd.2 0 (by rw [hw]; decide)) (tO_2 (hit.2.2.1 0 (by rw [hw]; decide))).2.1) mX2_isToldTo lkX2_77 rfl (by rfl) dX2_refusedOn_19 (Nat.le_of_ble_eq_true rfl) (by decide) ?_
      refine z_if_neN O 27 dX2_refusedOn_22 (by decide) (by omega) (fun h22 => ?_) (fun h22 => by omega)
      refine z_iincN (lv' := [(0, _), (1, _), (2, _)]) O 1 dX2_refusedOn_27 (by decide) rfl rfl (by decide) ?_
      refine z_goto O 2 dX2_refusedOn_30 (by decide) ?_
      rw [show tlS bys len (twe, tr) (i + 1) = _ from tl.1] at ih
      exact ih (fun k hk => by
        by_cases e : k = i
        · rw [e]; exact hok
        · exact hall k (by omega)) (by rw [← hf, show it - i = (it - (i + 1)) + 1 by omega, firstN, if_neg (by rw [hok]; decide)])
    · refine z_aload_n O dX2_refusedOn_16 rfl ?_
      have tl := tlS_1 (s := (twe, tr)) hw
      by_cases hk : (nuQ bys len (iQ bys len i) 0) < 9 ∧ (nuQ bys len (iQ bys len i) 1) ≤ 5
      · refine z_aload_n O dX2_refusedOn_17 rfl ?_
        have hok := tl.2.trans (decide_eq_true hk)
        refine z_iload_n O dX2_refusedOn_18 rfl ?_
        refine z_V2e0 O (u_told1 (by omega) (hd.1.trans hw) (hd.2 0 (by rw [hw]; decide)) (hd.2 1 (by rw [hw]; decide)) hk) mX2_isToldTo lkX2_77 rfl (by rfl) dX2_refusedOn_19 (Nat.le_of_ble_eq_true rfl) (by decide) ?_
        refine z_if_neN O 27 dX2_refusedOn_22 (by decide) (by omega) (fun h22 => ?_) (fun h22 => by omega)
        refine z_iincN (lv' := [(0, _), (1, _), (2, _)]) O 1 dX2_refusedOn_27 (by decide) rfl rfl (by decide) ?_
        refine z_goto O 2 dX2_refusedOn_30 (by decide) ?_
        rw [show tlS bys len (twe, tr) (i + 1) = _ from tl.1] at ih
        exact ih (fun k hk => by
          by_cases e : k = i
          · rw [e]; exact hok
          · exact hall k (by omega)) (by rw [← hf, show it - i = (it - (i + 1)) + 1 by omega, firstN, if_neg (by rw [hok]; decide)])
      · refine z_aload_n O dX2_refusedOn_17 rfl ?_
        have hok := tl.2.trans (decide_eq_false hk)
        refine z_iload_n O dX2_refusedOn_18 rfl ?_
        refine z_V2e0 O (u_told1N (by omega) (hd.1.trans hw) (hd.2 0 (by rw [hw]; decide)) (hd.2 1 (by rw [hw]; decide)) (tO_2 (hit.2.2.1 0 (by rw [hw]; decide))).2.1 (tO_2 (hit.2.2.1 1 (by rw [hw]; decide))).2.1 hk) mX2_isToldTo lkX2_77 rfl (by rfl) dX2_refusedOn_19 (Nat.le_of_ble_eq_true rfl) (by decide) ?_
        refine z_if_neN O 27 dX2_refusedOn_22 (by decide) (by omega) (fun h22 => by omega) (fun h22 => ?_)
        refine z_iload_n O dX2_refusedOn_25 rfl ?_
        exact z_iret O dX2_refusedOn_26 ⟨_, rfl, by rw [rfS, ← hf, show it - i = (it - (i + 1)) + 1 by omega, firstN, if_pos (by rw [hok]; rfl)]; rfl, _, _, tlS_okk hitm hs0 (by omega) hall, fun q => by rw [rfS, ← hf, show it - i = (it - (i + 1)) + 1 by omega, firstN, if_pos (by rw [hok]; rfl)] at q; (cases q), rfl⟩
    · refine z_aload_n O dX2_refusedOn_16 rfl ?_
      have tl := tlS_2 (s := (twe, tr)) hw
      have hi0 : 0 < i := Nat.pos_of_ne_zero (fun q => by have := hit.2.1.mpr q; omega)
      have hg := tlS_good hitm hs0 (by omega) hi0 hall
      by_cases hk : (nuQ bys len (iQ bys len i) 0) < 9 ∧ (nuQ bys len (iQ bys len i) 1) < 6 ∧ (nuQ bys len (iQ bys len i) 2) < 3 ∧ 1 ≤ (nuQ bys len (iQ bys len i) 3) ∧ (nuQ bys len (iQ bys len i) 3) ≤ 30 ∧ (tlS bys len (twe, tr) i).2 (108 + (nuQ bys len (iQ bys len i) 0)) < 3
      · refine z_aload_n O dX2_refusedOn_17 rfl ?_
        have hok := tl.2.trans (decide_eq_true hk)
        refine z_iload_n O dX2_refusedOn_18 rfl ?_
        refine z_V2e0 O (u_told2 (by omega) (hd.1.trans hw) (hd.2 0 (by rw [hw]; decide)) (hd.2 1 (by rw [hw]; decide)) (hd.2 2 (by rw [hw]; decide)) (hd.2 3 (by rw [hw]; decide)) hg.1.1 hk) mX2_isToldTo lkX2_77 rfl (by rfl) dX2_refusedOn_19 (Nat.le_of_ble_eq_true rfl) (by decide) ?_
        refine z_if_neN O 27 dX2_refusedOn_22 (by decide) (by omega) (fun h22 => ?_) (fun h22 => by omega)
        refine z_iincN (lv' := [(0, _), (1, _), (2, _)]) O 1 dX2_refusedOn_27 (by decide) rfl rfl (by decide) ?_
        refine z_goto O 2 dX2_refusedOn_30 (by decide) ?_
        rw [show tlS bys len (twe, tr) (i + 1) = _ from tl.1] at ih
        exact ih (fun k hk => by
          by_cases e : k = i
          · rw [e]; exact hok
          · exact hall k (by omega)) (by rw [← hf, show it - i = (it - (i + 1)) + 1 by omega, firstN, if_neg (by rw [hok]; decide)])
      · refine z_aload_n O dX2_refusedOn_17 rfl ?_
        have hok := tl.2.trans (decide_eq_false hk)
        by_cases hk2 : (nuQ bys len (iQ bys len i) 0) < 9 ∧ (nuQ bys len (iQ bys len i) 1) < 6 ∧ (nuQ bys len (iQ bys len i) 2) < 3 ∧ 1 ≤ (nuQ bys len (iQ bys len i) 3) ∧ (nuQ bys len (iQ bys len i) 3) ≤ 30
        · refine z_iload_n O dX2_refusedOn_18 rfl ?_
          refine z_V2e0 O (u_told2F (by omega) (hd.1.trans hw) (hd.2 0 (by rw [hw]; decide)) (hd.2 1 (by rw [hw]; decide)) (hd.2 2 (by rw [hw]; decide)) (hd.2 3 (by rw [hw]; decide)) hg.1.1 hk2 (fun q => hk ⟨hk2.1, hk2.2.1, hk2.2.2.1, hk2.2.2.2.1, hk2.2.2.2.2, q⟩)) mX2_isToldTo lkX2_77 rfl (by rfl) dX2_refusedOn_19 (Nat.le_of_ble_eq_true rfl) (by decide) ?_
          refine z_if_neN O 27 dX2_refusedOn_22 (by decide) (by omega) (fun h22 => by omega) (fun h22 => ?_)
          refine z_iload_n O dX2_refusedOn_25 rfl ?_
          exact z_iret O dX2_refusedOn_26 ⟨_, rfl, by rw [rfS, ← hf, show it - i = (it - (i + 1)) + 1 by omega, firstN, if_pos (by rw [hok]; rfl)]; rfl, _, _, tlS_okk hitm hs0 (by omega) hall, fun q => by rw [rfS, ← hf, show it - i = (it - (i + 1)) + 1 by omega, firstN, if_pos (by rw [hok]; rfl)] at q; (cases q), rfl⟩
        · refine z_iload_n O dX2_refusedOn_18 rfl ?_
          refine z_V2e0 O (u_told2B (by omega) (hd.1.trans hw) (hd.2 0 (by rw [hw]; decide)) (hd.2 1 (by rw [hw]; decide)) (hd.2 2 (by rw [hw]; decide)) (hd.2 3 (by rw [hw]; decide)) (tO_2 (hit.2.2.1 0 (by rw [hw]; decide))).2.1 (tO_2 (hit.2.2.1 1 (by rw [hw]; decide))).2.1 (tO_2 (hit.2.2.1 2 (by rw [hw]; decide))).2.1 (tO_2 (hit.2.2.1 3 (by rw [hw]; decide))).2.1 hk2) mX2_isToldTo lkX2_77 rfl (by rfl) dX2_refusedOn_19 (Nat.le_of_ble_eq_true rfl) (by decide) ?_
          refine z_if_neN O 27 dX2_refusedOn_22 (by decide) (by omega) (fun h22 => by omega) (fun h22 => ?_)
          refine z_iload_n O dX2_refusedOn_25 rfl ?_
          exact z_iret O dX2_refusedOn_26 ⟨_, rfl, by rw [rfS, ← hf, show it - i = (it - (i + 1)) + 1 by omega, firstN, if_pos (by rw [hok]; rfl)]; rfl, _, _, tlS_okk hitm hs0 (by omega) hall, fun q => by rw [rfS, ← hf, show it - i = (it - (i + 1)) + 1 by omega, firstN, if_pos (by rw [hok]; rfl)] at q; (cases q), rfl⟩
set_option maxRecDepth 20000 in
set_option maxHeartbeats 4000000 in
theorem x_readF (hl : len ≤ 150) (hby : ∀ j, bys j ≤ 127) (htw : weZ twe) (htr : rowT tr) {a : Nat} (hp : (prs bys len 25 0).1 = some a) : zS G 7 yX3_read cX3_read 3 (some .int) [.ref (zad (zb G) 0)] (xM G we r cl seen kept rd nw ud im twe tr tcl bys wo nu len it so at_ be va sp ss al od ab bl bd no fu rest) 0 0 (zP (fun v M' => v = .int ((-10) - nI a) ∧ xS G we r seen kept rd nw ud im bys len ab bl bd no fu rest M')) := by
  refine zS.of (by decide) (Nat.le_of_ble_eq_true rfl) (fun F O hR1 hR2 => ?_)
  have O : zOk G F yX3_read cX3_read 3 (some .int) RX3 7 (xM G we r cl seen kept rd nw ud im twe tr tcl bys wo nu len it so at_ be va sp ss al od ab bl bd no fu rest).length := O
  refine z_eq (lv' := [(0, _)]) rfl rfl rfl ?_
  refine z_aload_n O dX3_read_0 rfl ?_
  refine z_get O dX3_read_1 flX3_30 (by rfl) (by rfl) ?_
  refine z_V0p0 O (u_fault hl hby) mX2_fault lkX3_124 rfl (by rfl) dX3_read_4 (Nat.le_of_ble_eq_true rfl) (by decide) (fun x M' hq => ?_)
  obtain ⟨rfl, it', wo', nu', so', at', be', va', hpr, rfl⟩ := hq
  rw [hp]
  refine z_istore_n (lv' := [(0, _), (1, _)]) O dX3_read_7 (by decide) rfl ?_
  refine z_iload_n O dX3_read_8 rfl ?_
  refine z_iconst O (-1) dX3_read_9 (by decide) ?_
  refine z_icmp_eq O 18 dX3_read_10 (by decide) (fun h10 => by exact absurd h10 (m1_ne (by have := prs_le _ _ hp; omega))) (fun h10 => ?_)
  refine z_bipush O (-10) dX3_read_13 (by decide) ?_
  refine z_iload_n O dX3_read_15 rfl ?_
  refine z_isub O dX3_read_16 ?_
  exact z_iret O dX3_read_17 ⟨_, rfl, rfl, ⟨_, _, _, _, _, _, _, _, _, _, _, _, _, _, _, htw, htr, rfl⟩⟩
set_option maxRecDepth 20000 in
set_option maxHeartbeats 4000000 in
theorem x_readR (hl : len ≤ 150) (hby : ∀ j, bys j ≤ 127) (htw : weZ twe) (htr : rowT tr) {n i : Nat} (hp : prs bys len 25 0 = (none, n)) (hrf : rfS bys len (twe, tr) n = some i) : zS G 7 yX3_read cX3_read 3 (some .int) [.ref (zad (zb G) 0)] (xM G we r cl seen kept rd nw ud im twe tr tcl bys wo nu len it so at_ be va sp ss al od ab bl bd no fu rest) 0 0 (zP (fun v M' => v = .int ((-1000) - nI i) ∧ xS G we r seen kept rd nw ud im bys len ab bl bd no fu rest M')) := by
  refine zS.of (by decide) (Nat.le_of_ble_eq_true rfl) (fun F O hR1 hR2 => ?_)
  have O : zOk G F yX3_read cX3_read 3 (some .int) RX3 7 (xM G we r cl seen kept rd nw ud im twe tr tcl bys wo nu len it so at_ be va sp ss al od ab bl bd no fu rest).length := O
  refine z_eq (lv' := [(0, _)]) rfl rfl rfl ?_
  refine z_aload_n O dX3_read_0 rfl ?_
  refine z_get O dX3_read_1 flX3_30 (by rfl) (by rfl) ?_
  refine z_V0p0 O (u_fault hl hby) mX2_fault lkX3_124 rfl (by rfl) dX3_read_4 (Nat.le_of_ble_eq_true rfl) (by decide) (fun x M' hq => ?_)
  obtain ⟨rfl, it', wo', nu', so', at', be', va', hpr, rfl⟩ := hq
  rw [hp]
  obtain ⟨hn1, hn2, hn3, hitm, hdat⟩ := hpr (by rw [hp])
  rw [hp] at hn1
  have hn0 : n = it' := hn1.symm
  subst hn0
  refine z_istore_n (lv' := [(0, _), (1, _)]) O dX3_read_7 (by decide) rfl ?_
  refine z_iload_n O dX3_read_8 rfl ?_
  refine z_iconst O (-1) dX3_read_9 (by decide) ?_
  refine z_icmp_eq O 18 dX3_read_10 (by decide) (fun h10 => ?_) (fun h10 => by exact absurd rfl h10)
  refine z_aload_n O dX3_read_18 rfl ?_
  refine z_get O dX3_read_19 flX3_30 (by rfl) (by rfl) ?_
  refine z_aload_n O dX3_read_22 rfl ?_
  refine z_get O dX3_read_23 flX3_23 (by rfl) (by rfl) ?_
  refine z_V1p0 O (u_refusedOn hn3 hitm hdat ⟨htw, htr⟩) mX2_refusedOn lkX3_127 rfl (by rfl) dX3_read_26 (Nat.le_of_ble_eq_true rfl) (by decide) (fun x M' hq => ?_)
  obtain ⟨rfl, twe', tr', hto, hrn, rfl⟩ := hq
  rw [hrf] at hrn ⊢
  refine z_istore_n (lv' := [(0, _), (1, _), (2, _)]) O dX3_read_29 (by decide) rfl ?_
  refine z_iload_n O dX3_read_30 rfl ?_
  refine z_iconst O (-1) dX3_read_31 (by decide) ?_
  refine z_icmp_eq O 41 dX3_read_32 (by decide) (fun h32 => by exact absurd h32 (m1_ne (by have := firstN_lt _ _ hrf; show i < _; omega))) (fun h32 => ?_)
  refine z_sipush O (-1000) dX3_read_35 (by decide) ?_
  refine z_iload_n O dX3_read_38 rfl ?_
  refine z_isub O dX3_read_39 ?_
  exact z_iret O dX3_read_40 ⟨_, rfl, rfl, ⟨_, _, _, _, _, _, _, _, _, _, _, _, _, _, _, hto.1, hto.2, rfl⟩⟩
set_option maxRecDepth 20000 in
set_option maxHeartbeats 4000000 in
theorem x_read (hl : len ≤ 150) (hby : ∀ j, bys j ≤ 127) (htw : weZ twe) (htr : rowT tr) (hwz : weZ we) (hz : rowZ r) {n : Nat} (hp : prs bys len 25 0 = (none, n)) (hrf : rfS bys len (twe, tr) n = none) : zS G 7 yX3_read cX3_read 3 (some .int) [.ref (zad (zb G) 0)] (xM G we r cl seen kept rd nw ud im twe tr tcl bys wo nu len it so at_ be va sp ss al od ab bl bd no fu rest) 0 0 (zP (fun v M' => v = .int (nI n) ∧ xS G ((tlS bys len (twe, tr) n).1 ) ((tlS bys len (twe, tr) n).2 ) seen kept 0 nw 0 im bys len ab bl bd no fu rest M')) := by
  refine zS.of (by decide) (Nat.le_of_ble_eq_true rfl) (fun F O hR1 hR2 => ?_)
  have O : zOk G F yX3_read cX3_read 3 (some .int) RX3 7 (xM G we r cl seen kept rd nw ud im twe tr tcl bys wo nu len it so at_ be va sp ss al od ab bl bd no fu rest).length := O
  refine z_eq (lv' := [(0, _)]) rfl rfl rfl ?_
  refine z_aload_n O dX3_read_0 rfl ?_
  refine z_get O dX3_read_1 flX3_30 (by rfl) (by rfl) ?_
  refine z_V0p0 O (u_fault hl hby) mX2_fault lkX3_124 rfl (by rfl) dX3_read_4 (Nat.le_of_ble_eq_true rfl) (by decide) (fun x M' hq => ?_)
  obtain ⟨rfl, it', wo', nu', so', at', be', va', hpr, rfl⟩ := hq
  rw [hp]
  obtain ⟨hn1, hn2, hn3, hitm, hdat⟩ := hpr (by rw [hp])
  rw [hp] at hn1
  have hn0 : n = it' := hn1.symm
  subst hn0
  refine z_istore_n (lv' := [(0, _), (1, _)]) O dX3_read_7 (by decide) rfl ?_
  refine z_iload_n O dX3_read_8 rfl ?_
  refine z_iconst O (-1) dX3_read_9 (by decide) ?_
  refine z_icmp_eq O 18 dX3_read_10 (by decide) (fun h10 => ?_) (fun h10 => by exact absurd rfl h10)
  refine z_aload_n O dX3_read_18 rfl ?_
  refine z_get O dX3_read_19 flX3_30 (by rfl) (by rfl) ?_
  refine z_aload_n O dX3_read_22 rfl ?_
  refine z_get O dX3_read_23 flX3_23 (by rfl) (by rfl) ?_
  refine z_V1p0 O (u_refusedOn hn3 hitm hdat ⟨htw, htr⟩) mX2_refusedOn lkX3_127 rfl (by rfl) dX3_read_26 (Nat.le_of_ble_eq_true rfl) (by decide) (fun x M' hq => ?_)
  obtain ⟨rfl, twe', tr', hto, hrn, rfl⟩ := hq
  rw [hrf]
  obtain ⟨ht1, ht2⟩ := hrn hrf
  have htg := tlS_good hitm (s := (twe, tr)) ⟨htw, htr⟩ (Nat.le_refl n) hn2 ht2
  rw [← ht1] at htg
  refine z_istore_n (lv' := [(0, _), (1, _), (2, _)]) O dX3_read_29 (by decide) rfl ?_
  refine z_iload_n O dX3_read_30 rfl ?_
  refine z_iconst O (-1) dX3_read_31 (by decide) ?_
  refine z_icmp_eq O 41 dX3_read_32 (by decide) (fun h32 => ?_) (fun h32 => by exact absurd rfl h32)
  refine z_aload_n O dX3_read_41 rfl ?_
  refine z_get O dX3_read_42 flX3_12 (by rfl) (by rfl) ?_
  refine z_iconst O (nI 0) dX3_read_45 (by decide) ?_
  refine z_V1u0 O (t_renew xI) mX1_renew lkX3_69 rfl (by rfl) dX3_read_46 (Nat.le_of_ble_eq_true rfl) (by decide) ?_
  refine z_M (show _ = (xM G (onesC we 9) (updN (renewC r 9) 117 0) cl seen kept 0 nw 0 im twe' tr' tcl bys wo' nu' len n so' at' be' va' sp ss al od ab bl bd no fu rest) from rfl) ?_
  refine z_aload_n O dX3_read_49 rfl ?_
  refine z_get O dX3_read_50 flX3_12 (by rfl) (by rfl) ?_
  refine z_get O dX3_read_53 flX3_62 (by rfl) (by rfl) ?_
  refine z_aload_n O dX3_read_56 rfl ?_
  refine z_get O dX3_read_57 flX3_23 (by rfl) (by rfl) ?_
  refine z_V1u0 O (s_copy xN xT) mX0_copy lkX3_131 rfl (by rfl) dX3_read_60 (Nat.le_of_ble_eq_true rfl) (by decide) ?_
  refine z_M (show _ = (xM G (cpyN twe' (onesC we 9) 0 0 9) (cpyN tr' (updN (renewC r 9) 117 0) 0 0 118) cl seen kept 0 nw 0 im twe' tr' tcl bys wo' nu' len n so' at' be' va' sp ss al od ab bl bd no fu rest) from rfl) ?_
  rw [cpy_we htg.2.1 (weZ_ones hwz), cpy_row htg.1.2.1 (fun j hj => by rw [updN_n (by omega), renewC_at, if_neg (by omega)]; exact hz j hj)]
  refine z_aload_n O dX3_read_63 rfl ?_
  refine z_get O dX3_read_64 flX3_30 (by rfl) (by rfl) ?_
  refine z_get O dX3_read_67 flX3_135 (by rfl) (by rfl) ?_
  exact z_iret O dX3_read_70 ⟨_, rfl, rfl, by rw [← ht1]; exact ⟨_, _, _, _, _, _, _, _, _, _, _, _, _, _, _, htg.2.1, GR_T htg.1, rfl⟩⟩
end XS
