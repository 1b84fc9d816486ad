/-! ===== images, orders, read ===== -/
theorem PT_q {G : zG} {Y d : Nat} {ym : MethodName} {cm : ByteArray} {nm : Nat} {ret : Option FieldType} {As : List Value} {M1 : List va_E} {v : Value} {Q2 : Value → List va_E → Prop} (hm : zS G d ym cm nm ret (.ref (zad (zb G) 21) :: As) M1 0 0 (zP Q2)) (hd : d ≤ 20) (hf : ∃ fs, M1[21]? = some (.inr (4, fs))) (hS : ∀ v' M2, Q2 v' M2 → v' = v ∧ MS G (Y + 20) M2) : PT G Y ym cm nm ret As v M1 :=
  ⟨hf, d, 0, 0, hd, Nat.zero_le _, Nat.zero_le _, hm.post (fun u M' q => by obtain ⟨x, rfl, h1⟩ := q; exact ⟨_, rfl, hS _ _ h1⟩)⟩
def imL (G : zG) (q : Nat) (we r cl seen kept : Nat → Nat) (rd nw ud : Nat) : List va_E :=
  [.inr (1, [.ref (zad (zb G) (q + 9 + 1 + 21)), .ref (zad (zb G) (q + 9 + 5 + 21)), .int (nI rd), .ref (zad (zb G) (q + 9 + 6 + 21)), .int (nI nw), .int (nI ud)]), .inr (0, [.ref (zad (zb G) (q + 9 + 2 + 21)), .ref (zad (zb G) (q + 9 + 3 + 21)), .ref (zad (zb G) (q + 9 + 4 + 21))]), zIN G 9 we, zIN G 118 r, zIN G 3 cl, zIN G 18 seen, zIN G 944 kept]
theorem getapp {l l' : List va_E} {k : Nat} {e : va_E} (h : l[k]? = some e) : (l ++ l')[k]? = some e := by
  rw [List.getElem?_append_left (List.getElem?_eq_some_iff.mp h).1]; exact h
theorem getnew {l l' : List va_E} {n k : Nat} {e : va_E} (hn : l.length = n) (h : l'[k]? = some e) : (l ++ l')[n + k]? = some e := by
  rw [List.getElem?_append_right (by omega), show n + k - l.length = k by omega]; exact h
section IMG
variable {G : zG} {tl l : List va_E} {q p : Nat} {we r cl seen kept we' r' cl' seen' kept' : Nat → Nat} {rd nw ud rd' nw' ud' : Nat}
theorem imT.app (h : imT G tl q we r cl seen kept rd nw ud) : imT G (tl ++ l) q we r cl seen kept rd nw ud := by
  obtain ⟨h1, h2, h3, h4, h5, h6, h7⟩ := h
  exact ⟨getapp h1, getapp h2, getapp h3, getapp h4, getapp h5, getapp h6, getapp h7⟩
theorem imT.new (hn : tl.length = q) : imT G (tl ++ imL G q we r cl seen kept rd nw ud) q we r cl seen kept rd nw ud := by
  refine ⟨?_, getnew hn rfl, getnew hn rfl, getnew hn rfl, getnew hn rfl, getnew hn rfl, getnew hn rfl⟩
  exact getnew (k := 0) hn rfl
theorem imT.lt (h : imT G tl q we r cl seen kept rd nw ud) : q + 6 < tl.length := (List.getElem?_eq_some_iff.mp h.2.2.2.2.2.2).1
theorem imT.set (h : imT G tl q we' r' cl seen' kept' rd' nw' ud') : imT G (((((tl.set (q + 2) (zIN G 9 we)).set (q + 3) (zIN G 118 r)).set (q + 5) (zIN G 18 seen)).set (q + 6) (zIN G 944 kept)).set q (.inr (1, [.ref (zad (zb G) (q + 9 + 1 + 21)), .ref (zad (zb G) (q + 9 + 5 + 21)), .int (nI rd), .ref (zad (zb G) (q + 9 + 6 + 21)), .int (nI nw), .int (nI ud)]))) q we r cl seen kept rd nw ud := by
  have hlt := h.lt
  obtain ⟨h1, h2, h3, h4, h5, h6, h7⟩ := h
  refine ⟨?_, ?_, ?_, ?_, ?_, ?_, ?_⟩
  · rw [List.getElem?_set_self (by simp only [List.length_set]; omega)]
  · rw [List.getElem?_set_ne (by omega), List.getElem?_set_ne (by omega), List.getElem?_set_ne (by omega), List.getElem?_set_ne (by omega), List.getElem?_set_ne (by omega)]; exact h2
  · rw [List.getElem?_set_ne (by omega), List.getElem?_set_ne (by omega), List.getElem?_set_ne (by omega), List.getElem?_set_ne (by omega), List.getElem?_set_self (by omega)]
  · rw [List.getElem?_set_ne (by omega), List.getElem?_set_ne (by omega), List.getElem?_set_ne (by omega), List.getElem?_set_self (by simp only [List.length_set]; omega)]
  · rw [List.getElem?_set_ne (by omega), List.getElem?_set_ne (by omega), List.getElem?_set_ne (by omega), List.getElem?_set_ne (by omega), List.getElem?_set_ne (by omega)]; exact h5
  · rw [List.getElem?_set_ne (by omega), List.getElem?_set_ne (by omega), List.getElem?_set_self (by simp only [List.length_set]; omega)]
  · rw [List.getElem?_set_ne (by omega), List.getElem?_set_self (by simp only [List.length_set]; omega)]
theorem imT.oth (h : imT G tl p we' r' cl' seen' kept' rd' nw' ud') (hpq : p + 7 ≤ q ∨ q + 7 ≤ p) : imT G (((((tl.set (q + 2) (zIN G 9 we)).set (q + 3) (zIN G 118 r)).set (q + 5) (zIN G 18 seen)).set (q + 6) (zIN G 944 kept)).set q (.inr (1, [.ref (zad (zb G) (q + 9 + 1 + 21)), .ref (zad (zb G) (q + 9 + 5 + 21)), .int (nI rd), .ref (zad (zb G) (q + 9 + 6 + 21)), .int (nI nw), .int (nI ud)]))) p we' r' cl' seen' kept' rd' nw' ud' := by
  have hq : ∀ k, k < 7 → ((((((tl.set (q + 2) (zIN G 9 we)).set (q + 3) (zIN G 118 r)).set (q + 5) (zIN G 18 seen)).set (q + 6) (zIN G 944 kept)).set q (.inr (1, [.ref (zad (zb G) (q + 9 + 1 + 21)), .ref (zad (zb G) (q + 9 + 5 + 21)), .int (nI rd), .ref (zad (zb G) (q + 9 + 6 + 21)), .int (nI nw), .int (nI ud)]))))[p + k]? = tl[p + k]? := fun k hk => by
    rw [List.getElem?_set_ne (by omega), List.getElem?_set_ne (by omega), List.getElem?_set_ne (by omega), List.getElem?_set_ne (by omega), List.getElem?_set_ne (by omega)]
  obtain ⟨h1, h2, h3, h4, h5, h6, h7⟩ := h
  exact ⟨(hq 0 (by omega)).trans h1, (hq 1 (by omega)).trans h2, (hq 2 (by omega)).trans h3, (hq 3 (by omega)).trans h4, (hq 4 (by omega)).trans h5, (hq 5 (by omega)).trans h6, (hq 6 (by omega)).trans h7⟩
end IMG
section IMW
variable {G : zG} {Y i : Nat} {w kp : Nat → Nat} {im : Nat → Option Nat} {tl : List va_E} {we r cl seen kept : Nat → Nat} {rd nw ud : Nat}
theorem RS_im (hR : RS w 0 we r seen kept rd nw ud) (g : GS Y we r seen kept rd nw ud) : RS (cpyN w w 0 (1091 * (1 + i)) 1091) (1091 * (1 + i)) we r seen kept rd nw ud :=
  RS_copy hR g (fun j hj => by unfold cpyN; rw [if_pos (by omega)]; congr 1; omega)
theorem RS_im0 (hR : RS w 0 we r seen kept rd nw ud) (g : GS Y we r seen kept rd nw ud) : RS (cpyN w w 0 (1091 * (1 + i)) 1091) 0 we r seen kept rd nw ud :=
  hR.keep g (fun j _ hj => by unfold cpyN; rw [if_neg (by omega)])
theorem RS_from (hR : RS w (1091 * (1 + i)) we r seen kept rd nw ud) (g : GS Y we r seen kept rd nw ud) : RS (cpyN w w (1091 * (1 + i)) 0 1091) 0 we r seen kept rd nw ud :=
  RS_copy hR g (fun j hj => by unfold cpyN; rw [if_pos (by omega)]; congr 1; omega)
theorem IM_new {q : Nat → Nat} {n : Nat} (hn : tl.length = 7 * n) (h1 : ∀ i, i < 2 → im1 G Y w kp im tl q i) (h2 : ∀ i j, i < 2 → j < 2 → im i ≠ none → im j ≠ none → i ≠ j → q i ≠ q j) (hR : RS w 0 we r seen kept rd nw ud) (g : GS Y we r seen kept rd nw ud) (hi : i < 2) : IM G Y (cpyN w w 0 (1091 * (1 + i)) 1091) (updN kp i 1) (va_up im i (some (zad (zb G) (7 * n + 9 + 21)))) (tl ++ imL G (7 * n) we r cl seen kept rd nw ud) := by
  have hlt : ∀ j, j < 2 → im j ≠ none → q j < n := fun j hj hne => by
    rcases h1 j hj with ⟨e, -⟩ | ⟨-, -, we1, r1, cl1, seen1, kept1, rd1, nw1, ud1, i1, -⟩
    · exact absurd e hne
    · have := i1.lt; omega
  refine ⟨updN q i n, n + 1, by rw [List.length_append, hn]; show 7 * n + 7 = _; omega, fun j hj => ?_, fun a b ha hb na nb hab => ?_⟩
  · by_cases e : j = i
    · subst e
      refine Or.inr ⟨updN_s, by rw [va_up_self, updN_s], we, r, cl, seen, kept, rd, nw, ud, by rw [updN_s]; exact imT.new hn, g, RS_im hR g⟩
    · rcases h1 j hj with ⟨e1, e2⟩ | ⟨e1, e2, we1, r1, cl1, seen1, kept1, rd1, nw1, ud1, i1, i2, i3⟩
      · exact Or.inl ⟨by rw [va_up_ne _ _ e]; exact e1, by rw [updN_n e]; exact e2⟩
      · exact Or.inr ⟨by rw [updN_n e]; exact e1, by rw [va_up_ne _ _ e, updN_n e]; exact e2, we1, r1, cl1, seen1, kept1, rd1, nw1, ud1, by rw [updN_n e]; exact i1.app, i2, i3.keep i2 (fun k h3 h4 => by unfold cpyN; rw [if_neg (by omega)])⟩
  · by_cases ea : a = i
    · have eb : b ≠ i := by omega
      rw [va_up_ne _ _ eb] at nb
      have := hlt b hb nb
      rw [ea, updN_s, updN_n eb]; omega
    · rw [va_up_ne _ _ ea] at na
      by_cases eb : b = i
      · have := hlt a ha na
        rw [eb, updN_s, updN_n ea]; omega
      · rw [va_up_ne _ _ eb] at nb
        rw [updN_n ea, updN_n eb]
        exact h2 a b ha hb na nb hab
theorem IM_set {q : Nat → Nat} {n : Nat} (hn : tl.length = 7 * n) (h1 : ∀ i, i < 2 → im1 G Y w kp im tl q i) (h2 : ∀ i j, i < 2 → j < 2 → im i ≠ none → im j ≠ none → i ≠ j → q i ≠ q j) (hR : RS w 0 we r seen kept rd nw ud) (g : GS Y we r seen kept rd nw ud) (hi : i < 2) (hne : im i = some (zad (zb G) (7 * q i + 9 + 21))) {we' r' seen' kept' : Nat → Nat} {rd' nw' ud' : Nat} (i0 : imT G tl (7 * q i) we' r' cl seen' kept' rd' nw' ud') : IM G Y (cpyN w w 0 (1091 * (1 + i)) 1091) (updN kp i 1) im (((((tl.set (7 * q i + 2) (zIN G 9 we)).set (7 * q i + 3) (zIN G 118 r)).set (7 * q i + 5) (zIN G 18 seen)).set (7 * q i + 6) (zIN G 944 kept)).set (7 * q i) (.inr (1, [.ref (zad (zb G) (7 * q i + 9 + 1 + 21)), .ref (zad (zb G) (7 * q i + 9 + 5 + 21)), .int (nI rd), .ref (zad (zb G) (7 * q i + 9 + 6 + 21)), .int (nI nw), .int (nI ud)]))) := by
  refine ⟨q, n, by simp only [List.length_set]; exact hn, fun j hj => ?_, h2⟩
  by_cases e : j = i
  · subst e
    exact Or.inr ⟨updN_s, hne, we, r, cl, seen, kept, rd, nw, ud, i0.set, g, RS_im hR g⟩
  · rcases h1 j hj with ⟨e1, e2⟩ | ⟨e1, e2, we1, r1, cl1, seen1, kept1, rd1, nw1, ud1, i1, i2, i3⟩
    · exact Or.inl ⟨e1, by rw [updN_n e]; exact e2⟩
    · have hqq := h2 j i hj hi (by rw [e2]; exact fun z => by cases z) (by rw [hne]; exact fun z => by cases z) e
      exact Or.inr ⟨by rw [updN_n e]; exact e1, e2, we1, r1, cl1, seen1, kept1, rd1, nw1, ud1, i1.oth (by omega), i2, i3.keep i2 (fun k h3 h4 => by unfold cpyN; rw [if_neg (by omega)])⟩
theorem IM.mono {Y' : Nat} (h : IM G Y w kp im tl) (hY : Y ≤ Y') : IM G Y' w kp im tl := h.mv hY kpW.rf
end IMW
set_option maxRecDepth 20000 in
set_option maxHeartbeats 4000000 in
theorem p_read {G : zG} {Y : Nat} {M : List va_E} (h : MS G Y M) (h99 : 99 ≤ Y) (hY : Y + 300 < 1048576) : PS G Y isI yX3_read cX3_read 3 yX4_read cX4_read 2 (some .int) [] M := by
  obtain ⟨we, r, cl, seen, kept, rd, nw, ud, im, twe, tr, tcl, bys, wo, nu, len, it, so, at_, be, va, sp, ss, al, od, ab, bl, bd, no, fu, w, kp, rf, at2, st2, iwd, ifg, nb, fr, la, nms, nd, wf, hh, tl, rfl, htw, htr, g, hR, hI, hl, hby, rfl, rfl, rfl⟩ := h
  have hr := g.1.1
  have hz := g.1.2.1
  have hs := g.1.2.2.1
  have hwz := g.2.2.1
  have hw : weOK we := fun j => by have := g.2.1 j; omega
  have hy : r 117 + 100 < 1048576 := by have := g.1.2.2.2.2; omega
  have hsn : ∀ j, seen j < 1048576 := fun j => by have := g.2.2.2.1 j; omega
  have hrd := g.2.2.2.2.2.2.2.1
  have hnw := g.2.2.2.2.2.2.2.2.1
  have hud := g.2.2.2.2.2.2.2.2.2
  have hs0 : tlOK (twe, tr) := ⟨htw, htr⟩
  rcases hp : prs bys len 25 0 with ⟨oo, n⟩
  cases oo with
  | some a =>
    have hpa : (prs bys len 25 0).1 = some a := by rw [hp]
    exact PS_p (x_readF hl hby htw htr hpa) ⟨_, rfl⟩ (by decide) (by decide) (by decide) (fun M1 q => by
      obtain ⟨cl2, twe2, tr2, tcl2, wo2, nu2, it2, so2, at2_, be2, va2, sp2, ss2, al2, od2, htw2, htr2, rfl⟩ := q
      refine PT_q (m_read hl hby hR g hs0) (by decide) ⟨_, by rfl⟩ (fun v2 M2 q => ?_)
      obtain ⟨w', fr', nb', at', st', iw', ig', hh', rfl⟩ := q
      rcases hh' with ⟨a2, h1, rfl, hsm⟩ | ⟨n2, i2, h1, h2, rfl, hsm⟩ | ⟨n2, h1, h0, hit, h2, rfl, hRn, hkp⟩
      · rw [hpa] at h1; cases h1; exact ⟨rfl, (MS.mk htw2 htr2 (g.mono (by omega)) (hsm.rs hR g) hI (by omega) hsm.kp hl hby rfl rfl rfl)⟩
      · rw [hp] at h1; cases h1
      · rw [hp] at h1; cases h1)
  | none =>
    rcases hrf : rfS bys len (twe, tr) n with _ | i
    · exact PS_p (x_read hl hby htw htr hwz hz hp hrf) ⟨_, rfl⟩ (by decide) (by decide) (by decide) (fun M1 q => by
      obtain ⟨cl2, twe2, tr2, tcl2, wo2, nu2, it2, so2, at2_, be2, va2, sp2, ss2, al2, od2, htw2, htr2, rfl⟩ := q
      refine PT_q (m_read hl hby hR g hs0) (by decide) ⟨_, by rfl⟩ (fun v2 M2 q => ?_)
      obtain ⟨w', fr', nb', at', st', iw', ig', hh', rfl⟩ := q
      rcases hh' with ⟨a2, h1, rfl, hsm⟩ | ⟨n2, i2, h1, h2, rfl, hsm⟩ | ⟨n2, h1, h0, hit, h2, rfl, hRn, hkp⟩
      · rw [hp] at h1; cases h1
      · rw [hp] at h1; cases h1; rw [hrf] at h2; cases h2
      · rw [hp] at h1; cases h1
        have hT := tlS_good hit hs0 (Nat.le_refl _) h0 (fun k hk => by have := firstN_no _ _ hrf k (Nat.zero_le _) (by omega); simpa using this)
        obtain ⟨g1, g2, g3, g4, g5, g6, g7, g8, g9, g10⟩ := g.mono (Y' := Y + 20) (by omega)
        exact ⟨rfl, (MS.mk htw2 htr2 ⟨hT.1.mono (by omega), hT.2.2, hT.2.1, g4, g5, g6, g7, Nat.zero_le _, g9, Nat.zero_le _⟩ hRn hI (by omega) hkp hl hby rfl rfl rfl)⟩)
    · exact PS_p (x_readR hl hby htw htr hp hrf) ⟨_, rfl⟩ (by decide) (by decide) (by decide) (fun M1 q => by
      obtain ⟨cl2, twe2, tr2, tcl2, wo2, nu2, it2, so2, at2_, be2, va2, sp2, ss2, al2, od2, htw2, htr2, rfl⟩ := q
      refine PT_q (m_read hl hby hR g hs0) (by decide) ⟨_, by rfl⟩ (fun v2 M2 q => ?_)
      obtain ⟨w', fr', nb', at', st', iw', ig', hh', rfl⟩ := q
      rcases hh' with ⟨a2, h1, rfl, hsm⟩ | ⟨n2, i2, h1, h2, rfl, hsm⟩ | ⟨n2, h1, h0, hit, h2, rfl, hRn, hkp⟩
      · rw [hp] at h1; cases h1
      · rw [hp] at h1; cases h1; rw [hrf] at h2; cases h2; exact ⟨rfl, (MS.mk htw2 htr2 (g.mono (by omega)) (hsm.rs hR g) hI (by omega) hsm.kp hl hby rfl rfl rfl)⟩
      · rw [hp] at h1; cases h1; rw [hrf] at h2; cases h2)
set_option maxRecDepth 20000 in
set_option maxHeartbeats 4000000 in
theorem p_orders {G : zG} {Y : Nat} {M : List va_E} (h : MS G Y M) (h99 : 99 ≤ Y) (hY : Y + 300 < 1048576) (m i : Int32) : PS G Y isI yX3_orders cX3_orders 4 yX4_orders cX4_orders 9 (some .int) [.int m, .int i] M := by
  obtain ⟨we, r, cl, seen, kept, rd, nw, ud, im, twe, tr, tcl, bys, wo, nu, len, it, so, at_, be, va, sp, ss, al, od, ab, bl, bd, no, fu, w, kp, rf, at2, st2, iwd, ifg, nb, fr, la, nms, nd, wf, hh, tl, rfl, htw, htr, g, hR, hI, hl, hby, rfl, rfl, rfl⟩ := h
  have hr := g.1.1
  have hz := g.1.2.1
  have hs := g.1.2.2.1
  have hwz := g.2.2.1
  have hw : weOK we := fun j => by have := g.2.1 j; omega
  have hy : r 117 + 100 < 1048576 := by have := g.1.2.2.2.2; omega
  have hsn : ∀ j, seen j < 1048576 := fun j => by have := g.2.2.2.1 j; omega
  have hrd := g.2.2.2.2.2.2.2.1
  have hnw := g.2.2.2.2.2.2.2.2.1
  have hud := g.2.2.2.2.2.2.2.2.2
  by_cases hb : (0 ≤ m ∧ m < nI 512) ∧ (-1) ≤ i
  · obtain ⟨b0, b1⟩ := hb
    obtain ⟨m, k0, rfl⟩ := exW b0 (by decide)
    have h27 := dm_27 hr (m := m) 9 (by omega)
    by_cases hdn : 6 < darnsM r m 9
    · exact PS_e (x_ordersN hr k0 b1 hdn (by omega)) ⟨_, rfl⟩ (by decide) (by decide) (by decide) (PT_p (m_ordersN hR g k0 b1 hdn) (by decide) ⟨_, by rfl⟩ (fun M2 q => by obtain ⟨nms', nd', rfl⟩ := q; exact (MS.mk htw htr (g.mono (by omega)) hR hI (by omega) kpW.rf hl hby rfl rfl rfl)))
    · have hdn : darnsM r m 9 ≤ 6 := by omega
      by_cases hm1 : i = -1
      · subst hm1
        exact PS_e (x_ordersW hr k0 hdn (ff_od hr hdn od)) ⟨_, rfl⟩ (by decide) (by decide) (by decide) (PT_p (m_ordersW hR g k0 hdn od) (by decide) ⟨_, by rfl⟩ (fun M2 q => by obtain ⟨nms', nd', wf', rfl⟩ := q; exact (MS.mk htw htr (g.mono (by omega)) hR hI (by omega) kpW.rf hl hby rfl rfl rfl)))
      · obtain ⟨J, hJ, rfl⟩ := nI_of (x := i) (fun z => hm1 (by
          rw [Int32.le_iff_toInt_le, m1_toInt] at b1
          rw [Int32.lt_iff_toInt_lt, Int32.toInt_zero] at z
          exact Int32.toInt_inj.mp (by rw [m1_toInt]; omega)))
        by_cases hj : J < darnsM r m 9
        · exact PS_e (x_ordersI hr k0 hdn hj) ⟨_, rfl⟩ (by decide) (by decide) (by decide) (PT_q (m_ordersI hR g (J := J) k0 hJ hdn od) (by decide) ⟨_, by rfl⟩ (fun v2 M2 q => by obtain ⟨rfl, nms', nd', wf', rfl⟩ := q; exact ⟨by rw [ordV, if_pos hj], (MS.mk htw htr (g.mono (by omega)) hR hI (by omega) kpW.rf hl hby rfl rfl rfl)⟩))
        · exact PS_e (x_ordersF hr k0 b1 hdn (nI_le (by omega) hJ)) ⟨_, rfl⟩ (by decide) (by decide) (by decide) (PT_q (m_ordersI hR g (J := J) k0 hJ hdn od) (by decide) ⟨_, by rfl⟩ (fun v2 M2 q => by obtain ⟨rfl, nms', nd', wf', rfl⟩ := q; exact ⟨by rw [ordV, if_neg hj], (MS.mk htw htr (g.mono (by omega)) hR hI (by omega) kpW.rf hl hby rfl rfl rfl)⟩))
  · exact PS_e (x_ordersB hb) ⟨_, rfl⟩ (by decide) (by decide) (by decide) (PT_e (m_ordersB (fun q => hb ⟨(wi 511 (by decide)).mpr q.1, q.2⟩)) (by decide) ⟨_, by rfl⟩ (MS.mk htw htr (g.mono (by omega)) hR hI (by omega) kpW.rf hl hby rfl rfl rfl))
set_option maxRecDepth 20000 in
set_option maxHeartbeats 4000000 in
theorem p_image {G : zG} {Y : Nat} {M : List va_E} (h : MS G Y M) (h99 : 99 ≤ Y) (hY : Y + 300 < 1048576) (i : Int32) : PS G Y isI yX3_image cX3_image 3 yX4_image cX4_image 2 (some .int) [.int i] M := by
  obtain ⟨we, r, cl, seen, kept, rd, nw, ud, im, twe, tr, tcl, bys, wo, nu, len, it, so, at_, be, va, sp, ss, al, od, ab, bl, bd, no, fu, w, kp, rf, at2, st2, iwd, ifg, nb, fr, la, nms, nd, wf, hh, tl, rfl, htw, htr, g, hR, hI, hl, hby, rfl, rfl, rfl⟩ := h
  have hr := g.1.1
  have hz := g.1.2.1
  have hs := g.1.2.2.1
  have hwz := g.2.2.1
  have hw : weOK we := fun j => by have := g.2.1 j; omega
  have hy : r 117 + 100 < 1048576 := by have := g.1.2.2.2.2; omega
  have hsn : ∀ j, seen j < 1048576 := fun j => by have := g.2.2.2.1 j; omega
  have hrd := g.2.2.2.2.2.2.2.1
  have hnw := g.2.2.2.2.2.2.2.2.1
  have hud := g.2.2.2.2.2.2.2.2.2
  by_cases hb : 0 ≤ i ∧ i < nI 2
  · obtain ⟨i, k0, rfl⟩ := exW hb (by decide)
    obtain ⟨q, n, hn, h1, h2⟩ := hI
    rcases h1 i k0 with ⟨e1, e2⟩ | ⟨e1, e2, we', r', cl', seen', kept', rd', nw', ud', i1, i2, i3⟩
    · have hX : zS G 5 yX3_image cX3_image 3 (some .int) [.ref (zad (zb G) 0), .int (nI i)] (xM G we r cl seen kept rd nw ud im twe tr tcl bys wo nu len it so at_ be va sp ss al od ab bl (rf 0) (rf 1) (rf 2) (mR G w kp bys len rf ab bl at2 st2 iwd ifg nb fr la nms nd wf hh tl)) 7 1101 (zE (.int (nI 1)) (xM G we r cl seen kept rd nw ud (va_up im i (some (zad (zb G) (7 * n + 9 + 21)))) twe tr tcl bys wo nu len it so at_ be va sp ss al od ab bl (rf 0) (rf 1) (rf 2) (mR G w kp bys len rf ab bl at2 st2 iwd ifg nb fr la nms nd wf hh (tl ++ imL G (7 * n) we r (fun _ => 0) seen kept rd nw ud)))) := by
        have h := x_imageN (G := G) (we := we) (r := r) (cl := cl) (seen := seen) (kept := kept) (rd := rd) (nw := nw) (ud := ud) (im := im) (twe := twe) (tr := tr) (tcl := tcl) (bys := bys) (wo := wo) (nu := nu) (len := len) (it := it) (so := so) (at_ := at_) (be := be) (va := va) (sp := sp) (ss := ss) (al := al) (od := od) (ab := ab) (bl := bl) (bd := rf 0) (no := rf 1) (fu := rf 2) (rest := (mR G w kp bys len rf ab bl at2 st2 iwd ifg nb fr la nms nd wf hh tl)) k0 e1
        have e : (mR G w kp bys len rf ab bl at2 st2 iwd ifg nb fr la nms nd wf hh tl).length = 7 * n + 9 := by show tl.length + 9 = _; omega
        rw [e, cpy_n hwz (weZ_ones (fun _ _ => rfl)), cpy_n hz (fun _ _ => rfl), cpy_n g.2.2.2.2.1 (fun _ _ => rfl), cpy_n g.2.2.2.2.2.2.1 (fun _ _ => rfl)] at h
        exact h
      exact PS_e hX ⟨_, rfl⟩ (by decide) (by decide) (by decide) (PT_e (m_image k0) (by decide) ⟨_, by rfl⟩ (MS.mk' htw htr (g.mono (by omega)) (RS_im0 hR g) ((IM_new hn h1 h2 hR g k0).mono (by omega)) hl hby rfl rfl rfl))
    · have hX : zS G 3 yX3_image cX3_image 3 (some .int) [.ref (zad (zb G) 0), .int (nI i)] (xM G we r cl seen kept rd nw ud im twe tr tcl bys wo nu len it so at_ be va sp ss al od ab bl (rf 0) (rf 1) (rf 2) (mR G w kp bys len rf ab bl at2 st2 iwd ifg nb fr la nms nd wf hh tl)) 0 0 (zE (.int (nI 1)) (xM G we r cl seen kept rd nw ud im twe tr tcl bys wo nu len it so at_ be va sp ss al od ab bl (rf 0) (rf 1) (rf 2) (mR G w kp bys len rf ab bl at2 st2 iwd ifg nb fr la nms nd wf hh (((((tl.set (7 * q i + 2) (zIN G 9 we)).set (7 * q i + 3) (zIN G 118 r)).set (7 * q i + 5) (zIN G 18 seen)).set (7 * q i + 6) (zIN G 944 kept)).set (7 * q i) (.inr (1, [.ref (zad (zb G) (7 * q i + 9 + 1 + 21)), .ref (zad (zb G) (7 * q i + 9 + 5 + 21)), .int (nI rd), .ref (zad (zb G) (7 * q i + 9 + 6 + 21)), .int (nI nw), .int (nI ud)])))))) := by
        have h := x_imageO (G := G) (we := we) (r := r) (cl := cl) (seen := seen) (kept := kept) (rd := rd) (nw := nw) (ud := ud) (im := im) (twe := twe) (tr := tr) (tcl := tcl) (bys := bys) (wo := wo) (nu := nu) (len := len) (it := it) (so := so) (at_ := at_) (be := be) (va := va) (sp := sp) (ss := ss) (al := al) (od := od) (ab := ab) (bl := bl) (bd := rf 0) (no := rf 1) (fu := rf 2) (rest := (mR G w kp bys len rf ab bl at2 st2 iwd ifg nb fr la nms nd wf hh tl)) k0 e2 (imT_at i1)
        rw [cpy_n hwz i2.2.2.1, cpy_n hz i2.1.2.1, cpy_n g.2.2.2.2.1 i2.2.2.2.2.1, cpy_n g.2.2.2.2.2.2.1 i2.2.2.2.2.2.2.1] at h
        exact h
      exact PS_e hX ⟨_, rfl⟩ (by decide) (by decide) (by decide) (PT_e (m_image k0) (by decide) ⟨_, by rfl⟩ (MS.mk' htw htr (g.mono (by omega)) (RS_im0 hR g) ((IM_set hn h1 h2 hR g k0 e2 i1).mono (by omega)) hl hby rfl rfl rfl))
  · exact PS_e (x_imageB hb) ⟨_, rfl⟩ (by decide) (by decide) (by decide) (PT_e (m_imageB (fun q => hb ((wi 1 (by decide)).mpr q))) (by decide) ⟨_, by rfl⟩ (MS.mk htw htr (g.mono (by omega)) hR hI (by omega) kpW.rf hl hby rfl rfl rfl))
set_option maxRecDepth 20000 in
set_option maxHeartbeats 4000000 in
theorem p_from {G : zG} {Y : Nat} {M : List va_E} (h : MS G Y M) (h99 : 99 ≤ Y) (hY : Y + 300 < 1048576) (i : Int32) : PS G Y isI yX3_from cX3_from 3 yX4_from cX4_from 2 (some .int) [.int i] M := by
  obtain ⟨we, r, cl, seen, kept, rd, nw, ud, im, twe, tr, tcl, bys, wo, nu, len, it, so, at_, be, va, sp, ss, al, od, ab, bl, bd, no, fu, w, kp, rf, at2, st2, iwd, ifg, nb, fr, la, nms, nd, wf, hh, tl, rfl, htw, htr, g, hR, hI, hl, hby, rfl, rfl, rfl⟩ := h
  have hr := g.1.1
  have hz := g.1.2.1
  have hs := g.1.2.2.1
  have hwz := g.2.2.1
  have hw : weOK we := fun j => by have := g.2.1 j; omega
  have hy : r 117 + 100 < 1048576 := by have := g.1.2.2.2.2; omega
  have hsn : ∀ j, seen j < 1048576 := fun j => by have := g.2.2.2.1 j; omega
  have hrd := g.2.2.2.2.2.2.2.1
  have hnw := g.2.2.2.2.2.2.2.2.1
  have hud := g.2.2.2.2.2.2.2.2.2
  by_cases hb : 0 ≤ i ∧ i < nI 2
  · obtain ⟨i, k0, rfl⟩ := exW hb (by decide)
    obtain ⟨q, n, hn, h1, h2⟩ := id hI
    rcases h1 i k0 with ⟨e1, e2⟩ | ⟨e1, e2, we', r', cl', seen', kept', rd', nw', ud', i1, i2, i3⟩
    · exact PS_e (x_fromN k0 e1) ⟨_, rfl⟩ (by decide) (by decide) (by decide) (PT_e (m_fromN k0 e2) (by decide) ⟨_, by rfl⟩ (MS.mk htw htr (g.mono (by omega)) hR hI (by omega) kpW.rf hl hby rfl rfl rfl))
    · have hX : zS G 3 yX3_from cX3_from 3 (some .int) [.ref (zad (zb G) 0), .int (nI i)] (xM G we r cl seen kept rd nw ud im twe tr tcl bys wo nu len it so at_ be va sp ss al od ab bl (rf 0) (rf 1) (rf 2) (mR G w kp bys len rf ab bl at2 st2 iwd ifg nb fr la nms nd wf hh tl)) 0 0 (zE (.int (nI 1)) (xM G (we') (r') cl (seen') (kept') (rd') (nw') (ud') im twe tr tcl bys wo nu len it so at_ be va sp ss al od ab bl (rf 0) (rf 1) (rf 2) (mR G w kp bys len rf ab bl at2 st2 iwd ifg nb fr la nms nd wf hh tl))) := by
        have h := x_from (G := G) (we := we) (r := r) (cl := cl) (seen := seen) (kept := kept) (rd := rd) (nw := nw) (ud := ud) (im := im) (twe := twe) (tr := tr) (tcl := tcl) (bys := bys) (wo := wo) (nu := nu) (len := len) (it := it) (so := so) (at_ := at_) (be := be) (va := va) (sp := sp) (ss := ss) (al := al) (od := od) (ab := ab) (bl := bl) (bd := rf 0) (no := rf 1) (fu := rf 2) (rest := (mR G w kp bys len rf ab bl at2 st2 iwd ifg nb fr la nms nd wf hh tl)) k0 e2 (imT_at i1)
        rw [cpy_n i2.2.2.1 hwz, cpy_n i2.1.2.1 hz, cpy_n i2.2.2.2.2.1 g.2.2.2.2.1, cpy_n i2.2.2.2.2.2.2.1 g.2.2.2.2.2.2.1] at h
        exact h
      exact PS_e hX ⟨_, rfl⟩ (by decide) (by decide) (by decide) (PT_e (m_from k0 e1) (by decide) ⟨_, by rfl⟩ (MS.mk htw htr (i2.mono (by omega)) (RS_from i3 i2) hI (by omega) (fun j h3 h4 => by unfold cpyN; rw [if_neg (by omega)]) hl hby rfl rfl rfl))
  · exact PS_e (x_fromB hb) ⟨_, rfl⟩ (by decide) (by decide) (by decide) (PT_e (m_fromB (fun q => hb ((wi 1 (by decide)).mpr q))) (by decide) ⟨_, by rfl⟩ (MS.mk htw htr (g.mono (by omega)) hR hI (by omega) kpW.rf hl hby rfl rfl rfl))
