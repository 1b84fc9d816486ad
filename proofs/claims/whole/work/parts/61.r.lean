set_option maxRecDepth 20000 in
set_option maxHeartbeats 4000000 in
theorem p_sock {G : zG} {Y : Nat} {M : List va_E} (h : MS G Y M) (h99 : 99 ≤ Y) (hY : Y + 300 < 1048576) (x : Int32) : PS G Y isI yX3_sock cX3_sock 3 yX4_sock cX4_sock 3 (some .int) [.int x] M := by
  obtain ⟨we, r, cl, seen, kept, rd, nw, ud, im, twe, tr, tcl, bys, wo, nu, len, it, so, at_, be, va, sp, ss, al, od, ab, bl, bd, no, fu, w, kp, rf, at2, st2, iwd, ifg, nb, fr, la, nms, nd, wf, hh, tl, rfl, htw, htr, g, hR, hI, hl, hby, rfl, rfl, rfl⟩ := h
  have hr := g.1.1
  have hz := g.1.2.1
  have hs := g.1.2.2.1
  have hwz := g.2.2.1
  have hw : weOK we := fun j => by have := g.2.1 j; omega
  have hy : r 117 + 100 < 1048576 := by have := g.1.2.2.2.2; omega
  have hsn : ∀ j, seen j < 1048576 := fun j => by have := g.2.2.2.1 j; omega
  have hrd := g.2.2.2.2.2.2.2.1
  have hnw := g.2.2.2.2.2.2.2.2.1
  have hud := g.2.2.2.2.2.2.2.2.2
  by_cases hb : 0 ≤ x ∧ x < nI 100
  · obtain ⟨x, k0, rfl⟩ := exW hb (by decide)
    exact PS_e (x_sock k0) ⟨_, rfl⟩ (by decide) (by decide) (by decide) (PT_e (m_sock hR g k0) (by decide) ⟨_, by rfl⟩ (MS.mk htw htr ((GS_beg g (Y := Y) (y := x) (by omega) (by omega)).mono (by omega)) RS_beg hI (by omega) (fun j h1 h2 => by unfold begW; rw [if_neg (by omega)]) hl hby rfl rfl rfl))
  · exact PS_e (x_sockB hb) ⟨_, rfl⟩ (by decide) (by decide) (by decide) (PT_e (m_sockB (fun q => hb ((wi 99 (by decide)).mpr q))) (by decide) ⟨_, by rfl⟩ (MS.mk htw htr (g.mono (by omega)) hR hI (by omega) kpW.rf hl hby rfl rfl rfl))
set_option maxRecDepth 20000 in
set_option maxHeartbeats 4000000 in
theorem p_wear {G : zG} {Y : Nat} {M : List va_E} (h : MS G Y M) (h99 : 99 ≤ Y) (hY : Y + 300 < 1048576) (c v : Int32) : PS G Y isI yX3_wear cX3_wear 4 yX4_wear cX4_wear 4 (some .int) [.int c, .int v] M := by
  obtain ⟨we, r, cl, seen, kept, rd, nw, ud, im, twe, tr, tcl, bys, wo, nu, len, it, so, at_, be, va, sp, ss, al, od, ab, bl, bd, no, fu, w, kp, rf, at2, st2, iwd, ifg, nb, fr, la, nms, nd, wf, hh, tl, rfl, htw, htr, g, hR, hI, hl, hby, rfl, rfl, rfl⟩ := h
  have hr := g.1.1
  have hz := g.1.2.1
  have hs := g.1.2.2.1
  have hwz := g.2.2.1
  have hw : weOK we := fun j => by have := g.2.1 j; omega
  have hy : r 117 + 100 < 1048576 := by have := g.1.2.2.2.2; omega
  have hsn : ∀ j, seen j < 1048576 := fun j => by have := g.2.2.2.1 j; omega
  have hrd := g.2.2.2.2.2.2.2.1
  have hnw := g.2.2.2.2.2.2.2.2.1
  have hud := g.2.2.2.2.2.2.2.2.2
  by_cases hb : (0 ≤ c ∧ c < nI 9) ∧ (nI 0 ≤ v ∧ v ≤ nI 5)
  · obtain ⟨b0, b1⟩ := hb
    obtain ⟨c, k0, rfl⟩ := exW b0 (by decide)
    obtain ⟨v, l1, k1, rfl⟩ := exB b1 (by decide) (by decide)
    exact PS_e (x_wear k0 k1) ⟨_, rfl⟩ (by decide) (by decide) (by decide) (PT_e (m_wear hR g k0 k1) (by decide) ⟨_, by rfl⟩ (MS.mk htw htr ((GS_wear g k0 k1).mono (by omega)) (RS_put hR g (by have h := RW_setWear (v := v) hR.1 hr k0; rw [Nat.zero_add] at h; exact h) (fun j h1 h2 => updN_n (by omega))) hI (by omega) (fun j h1 h2 => updN_n (by omega)) hl hby rfl rfl rfl))
  · exact PS_e (x_wearB hb) ⟨_, rfl⟩ (by decide) (by decide) (by decide) (PT_e (m_wearB (fun q => hb ⟨(wi 8 (by decide)).mpr q.1, q.2⟩)) (by decide) ⟨_, by rfl⟩ (MS.mk htw htr (g.mono (by omega)) hR hI (by omega) kpW.rf hl hby rfl rfl rfl))
set_option maxRecDepth 20000 in
set_option maxHeartbeats 4000000 in
theorem p_darn {G : zG} {Y : Nat} {M : List va_E} (h : MS G Y M) (h99 : 99 ≤ Y) (hY : Y + 300 < 1048576) (c kd fm th : Int32) : PS G Y isI yX3_darn cX3_darn 6 yX4_darn cX4_darn 5 (some .int) [.int c, .int kd, .int fm, .int th] M := by
  obtain ⟨we, r, cl, seen, kept, rd, nw, ud, im, twe, tr, tcl, bys, wo, nu, len, it, so, at_, be, va, sp, ss, al, od, ab, bl, bd, no, fu, w, kp, rf, at2, st2, iwd, ifg, nb, fr, la, nms, nd, wf, hh, tl, rfl, htw, htr, g, hR, hI, hl, hby, rfl, rfl, rfl⟩ := h
  have hr := g.1.1
  have hz := g.1.2.1
  have hs := g.1.2.2.1
  have hwz := g.2.2.1
  have hw : weOK we := fun j => by have := g.2.1 j; omega
  have hy : r 117 + 100 < 1048576 := by have := g.1.2.2.2.2; omega
  have hsn : ∀ j, seen j < 1048576 := fun j => by have := g.2.2.2.1 j; omega
  have hrd := g.2.2.2.2.2.2.2.1
  have hnw := g.2.2.2.2.2.2.2.2.1
  have hud := g.2.2.2.2.2.2.2.2.2
  by_cases hb : (0 ≤ c ∧ c < nI 9) ∧ (0 ≤ kd ∧ kd < nI 6) ∧ (0 ≤ fm ∧ fm < nI 3) ∧ (nI 1 ≤ th ∧ th ≤ nI 30)
  · obtain ⟨b0, b1, b2, b3⟩ := hb
    obtain ⟨c, k0, rfl⟩ := exW b0 (by decide)
    obtain ⟨kd, k1, rfl⟩ := exW b1 (by decide)
    obtain ⟨fm, k2, rfl⟩ := exW b2 (by decide)
    obtain ⟨th, l3, k3, rfl⟩ := exB b3 (by decide) (by decide)
    by_cases h3 : r (108 + c) < 3
    · exact PS_e (x_darn hr hnw hud k0 k1 k2 l3 k3 h3) ⟨_, rfl⟩ (by decide) (by decide) (by decide) (PT_p (m_darn hR g k0 k1 k2 l3 k3 h3) (by decide) ⟨_, by rfl⟩ (fun M2 q => by obtain ⟨w', hRn, hkp, rfl⟩ := q; exact (MS.mk htw htr (((GS_keep g).row (GR_put g.1 k0 h3 (by omega) (by omega) (by omega))).mono (by omega)) hRn hI (by omega) hkp hl hby rfl rfl rfl)))
    · have h3 : r (108 + c) = 3 := by have := hr.2 c k0; omega
      exact PS_e (x_darnF hr k0 k1 k2 l3 k3 h3) ⟨_, rfl⟩ (by decide) (by decide) (by decide) (PT_e (m_darnF hR g k0 k1 k2 l3 k3 h3) (by decide) ⟨_, by rfl⟩ (MS.mk htw htr (g.mono (by omega)) hR hI (by omega) kpW.rf hl hby rfl rfl rfl))
  · exact PS_e (x_darnB hb) ⟨_, rfl⟩ (by decide) (by decide) (by decide) (PT_e (m_darnB (fun q => hb ⟨(wi 8 (by decide)).mpr q.1, (wi 5 (by decide)).mpr q.2.1, (wi 2 (by decide)).mpr q.2.2.1, q.2.2.2⟩)) (by decide) ⟨_, by rfl⟩ (MS.mk htw htr (g.mono (by omega)) hR hI (by omega) kpW.rf hl hby rfl rfl rfl))
set_option maxRecDepth 20000 in
set_option maxHeartbeats 4000000 in
theorem p_unpick {G : zG} {Y : Nat} {M : List va_E} (h : MS G Y M) (h99 : 99 ≤ Y) (hY : Y + 300 < 1048576) (x : Int32) : PS G Y isI yX3_unpick cX3_unpick 2 yX4_unpick cX4_unpick 3 (some .int) [.int x] M := by
  obtain ⟨we, r, cl, seen, kept, rd, nw, ud, im, twe, tr, tcl, bys, wo, nu, len, it, so, at_, be, va, sp, ss, al, od, ab, bl, bd, no, fu, w, kp, rf, at2, st2, iwd, ifg, nb, fr, la, nms, nd, wf, hh, tl, rfl, htw, htr, g, hR, hI, hl, hby, rfl, rfl, rfl⟩ := h
  have hr := g.1.1
  have hz := g.1.2.1
  have hs := g.1.2.2.1
  have hwz := g.2.2.1
  have hw : weOK we := fun j => by have := g.2.1 j; omega
  have hy : r 117 + 100 < 1048576 := by have := g.1.2.2.2.2; omega
  have hsn : ∀ j, seen j < 1048576 := fun j => by have := g.2.2.2.1 j; omega
  have hrd := g.2.2.2.2.2.2.2.1
  have hnw := g.2.2.2.2.2.2.2.2.1
  have hud := g.2.2.2.2.2.2.2.2.2
  by_cases hb : 0 ≤ x ∧ x < nI 9
  · obtain ⟨x, k0, rfl⟩ := exW hb (by decide)
    by_cases h3 : 0 < r (108 + x)
    · exact PS_e (x_unpick hr hnw hud k0 h3) ⟨_, rfl⟩ (by decide) (by decide) (by decide) (PT_p (m_unpick hR g k0 h3) (by decide) ⟨_, by rfl⟩ (fun M2 q => by obtain ⟨w', hRn, hkp, rfl⟩ := q; exact (MS.mk htw htr (((GS_keep g).row (GR_take g.1 k0)).mono (by omega)) hRn hI (by omega) hkp hl hby rfl rfl rfl)))
    · have h3 : r (108 + x) = 0 := by omega
      exact PS_e (x_unpickN hr k0 h3) ⟨_, rfl⟩ (by decide) (by decide) (by decide) (PT_e (m_unpickN hR g k0 h3) (by decide) ⟨_, by rfl⟩ (MS.mk htw htr (g.mono (by omega)) hR hI (by omega) kpW.rf hl hby rfl rfl rfl))
  · exact PS_e (x_unpickB hb) ⟨_, rfl⟩ (by decide) (by decide) (by decide) (PT_e (m_unpickB (fun q => hb ((wi 8 (by decide)).mpr q))) (by decide) ⟨_, by rfl⟩ (MS.mk htw htr (g.mono (by omega)) hR hI (by omega) kpW.rf hl hby rfl rfl rfl))
set_option maxRecDepth 20000 in
set_option maxHeartbeats 4000000 in
theorem p_years {G : zG} {Y : Nat} {M : List va_E} (h : MS G Y M) (h99 : 99 ≤ Y) (hY : Y + 300 < 1048576) (x : Int32) : PS G Y isI yX3_years cX3_years 3 yX4_years cX4_years 3 (some .int) [.int x] M := by
  obtain ⟨we, r, cl, seen, kept, rd, nw, ud, im, twe, tr, tcl, bys, wo, nu, len, it, so, at_, be, va, sp, ss, al, od, ab, bl, bd, no, fu, w, kp, rf, at2, st2, iwd, ifg, nb, fr, la, nms, nd, wf, hh, tl, rfl, htw, htr, g, hR, hI, hl, hby, rfl, rfl, rfl⟩ := h
  have hr := g.1.1
  have hz := g.1.2.1
  have hs := g.1.2.2.1
  have hwz := g.2.2.1
  have hw : weOK we := fun j => by have := g.2.1 j; omega
  have hy : r 117 + 100 < 1048576 := by have := g.1.2.2.2.2; omega
  have hsn : ∀ j, seen j < 1048576 := fun j => by have := g.2.2.2.1 j; omega
  have hrd := g.2.2.2.2.2.2.2.1
  have hnw := g.2.2.2.2.2.2.2.2.1
  have hud := g.2.2.2.2.2.2.2.2.2
  by_cases hb : nI 1 ≤ x ∧ x ≤ nI 20
  · obtain ⟨x, l0, k0, rfl⟩ := exB hb (by decide) (by decide)
    exact PS_e (x_years hr hw hz hs hwz hy htw htr hnw hud l0 k0) ⟨_, rfl⟩ (by decide) (by decide) (by decide) (PT_p (m_years hR g hw (by omega) l0 k0) (by decide) ⟨_, by rfl⟩ (fun M2 q => by obtain ⟨w', hRn, hkp, rfl⟩ := q; exact (MS.mk htw htr ((GS_years (s := (r, kept, nw, ud)) g (by omega) x k0).mono (by omega)) hRn hI (by omega) hkp hl hby rfl rfl rfl)))
  · exact PS_e (x_yearsB hb) ⟨_, rfl⟩ (by decide) (by decide) (by decide) (PT_e (m_yearsB (fun q => hb q)) (by decide) ⟨_, by rfl⟩ (MS.mk htw htr (g.mono (by omega)) hR hI (by omega) kpW.rf hl hby rfl rfl rfl))
set_option maxRecDepth 20000 in
set_option maxHeartbeats 4000000 in
theorem p_undo {G : zG} {Y : Nat} {M : List va_E} (h : MS G Y M) (h99 : 99 ≤ Y) (hY : Y + 300 < 1048576) : PS G Y isI yX3_undo cX3_undo 1 yX4_undo cX4_undo 1 (some .int) [] M := by
  obtain ⟨we, r, cl, seen, kept, rd, nw, ud, im, twe, tr, tcl, bys, wo, nu, len, it, so, at_, be, va, sp, ss, al, od, ab, bl, bd, no, fu, w, kp, rf, at2, st2, iwd, ifg, nb, fr, la, nms, nd, wf, hh, tl, rfl, htw, htr, g, hR, hI, hl, hby, rfl, rfl, rfl⟩ := h
  have hr := g.1.1
  have hz := g.1.2.1
  have hs := g.1.2.2.1
  have hwz := g.2.2.1
  have hw : weOK we := fun j => by have := g.2.1 j; omega
  have hy : r 117 + 100 < 1048576 := by have := g.1.2.2.2.2; omega
  have hsn : ∀ j, seen j < 1048576 := fun j => by have := g.2.2.2.1 j; omega
  have hrd := g.2.2.2.2.2.2.2.1
  have hnw := g.2.2.2.2.2.2.2.2.1
  have hud := g.2.2.2.2.2.2.2.2.2
  by_cases h3 : 0 < ud
  · exact PS_e (x_undo hnw hud h3) ⟨_, rfl⟩ (by decide) (by decide) (by decide) (PT_p (m_undo hR g h3) (by decide) ⟨_, by rfl⟩ (fun M2 q => by obtain ⟨w', hRn, hkp, rfl⟩ := q; exact (MS.mk htw htr ((GS_undo g).mono (by omega)) hRn hI (by omega) hkp hl hby rfl rfl rfl)))
  · have h3 : ud = 0 := by omega
    exact PS_e (x_undoN h3) ⟨_, rfl⟩ (by decide) (by decide) (by decide) (PT_e (m_undoN hR g h3) (by decide) ⟨_, by rfl⟩ (MS.mk htw htr (g.mono (by omega)) hR hI (by omega) kpW.rf hl hby rfl rfl rfl))
set_option maxRecDepth 20000 in
set_option maxHeartbeats 4000000 in
theorem p_type {G : zG} {Y : Nat} {M : List va_E} (h : MS G Y M) (h99 : 99 ≤ Y) (hY : Y + 300 < 1048576) (x : Int32) : PS G Y isI yX3_type cX3_type 2 yX4_type cX4_type 2 (some .int) [.int x] M := by
  obtain ⟨we, r, cl, seen, kept, rd, nw, ud, im, twe, tr, tcl, bys, wo, nu, len, it, so, at_, be, va, sp, ss, al, od, ab, bl, bd, no, fu, w, kp, rf, at2, st2, iwd, ifg, nb, fr, la, nms, nd, wf, hh, tl, rfl, htw, htr, g, hR, hI, hl, hby, rfl, rfl, rfl⟩ := h
  have hr := g.1.1
  have hz := g.1.2.1
  have hs := g.1.2.2.1
  have hwz := g.2.2.1
  have hw : weOK we := fun j => by have := g.2.1 j; omega
  have hy : r 117 + 100 < 1048576 := by have := g.1.2.2.2.2; omega
  have hsn : ∀ j, seen j < 1048576 := fun j => by have := g.2.2.2.1 j; omega
  have hrd := g.2.2.2.2.2.2.2.1
  have hnw := g.2.2.2.2.2.2.2.2.1
  have hud := g.2.2.2.2.2.2.2.2.2
  by_cases hb : nI 0 ≤ x ∧ x ≤ nI 127
  · obtain ⟨x, l0, k0, rfl⟩ := exB hb (by decide) (by decide)
    by_cases h3 : len < 150
    · exact PS_e (x_type k0 h3) ⟨_, rfl⟩ (by decide) (by decide) (by decide) (PT_e (m_type k0 h3) (by decide) ⟨_, by rfl⟩ (MS.mk htw htr (g.mono (by omega)) hR hI (by omega) kpW.rf (by omega) (fun j => by unfold updN; split <;> first | exact k0 | exact hby j) rfl rfl rfl))
    · have h3 : len = 150 := by omega
      exact PS_e (x_typeF k0 h3) ⟨_, rfl⟩ (by decide) (by decide) (by decide) (PT_e (m_typeF k0 h3) (by decide) ⟨_, by rfl⟩ (MS.mk htw htr (g.mono (by omega)) hR hI (by omega) kpW.rf hl hby rfl rfl rfl))
  · exact PS_e (x_typeB hb) ⟨_, rfl⟩ (by decide) (by decide) (by decide) (PT_e (m_typeB (fun q => hb q)) (by decide) ⟨_, by rfl⟩ (MS.mk htw htr (g.mono (by omega)) hR hI (by omega) kpW.rf hl hby rfl rfl rfl))
set_option maxRecDepth 20000 in
set_option maxHeartbeats 4000000 in
theorem p_clear {G : zG} {Y : Nat} {M : List va_E} (h : MS G Y M) (h99 : 99 ≤ Y) (hY : Y + 300 < 1048576) : PS G Y isI yX3_clear cX3_clear 2 yX4_clear cX4_clear 2 (some .int) [] M := by
  obtain ⟨we, r, cl, seen, kept, rd, nw, ud, im, twe, tr, tcl, bys, wo, nu, len, it, so, at_, be, va, sp, ss, al, od, ab, bl, bd, no, fu, w, kp, rf, at2, st2, iwd, ifg, nb, fr, la, nms, nd, wf, hh, tl, rfl, htw, htr, g, hR, hI, hl, hby, rfl, rfl, rfl⟩ := h
  have hr := g.1.1
  have hz := g.1.2.1
  have hs := g.1.2.2.1
  have hwz := g.2.2.1
  have hw : weOK we := fun j => by have := g.2.1 j; omega
  have hy : r 117 + 100 < 1048576 := by have := g.1.2.2.2.2; omega
  have hsn : ∀ j, seen j < 1048576 := fun j => by have := g.2.2.2.1 j; omega
  have hrd := g.2.2.2.2.2.2.2.1
  have hnw := g.2.2.2.2.2.2.2.2.1
  have hud := g.2.2.2.2.2.2.2.2.2
  exact PS_e (x_clear) ⟨_, rfl⟩ (by decide) (by decide) (by decide) (PT_e (m_clear) (by decide) ⟨_, by rfl⟩ (MS.mk htw htr (g.mono (by omega)) hR hI (by omega) kpW.rf (Nat.zero_le _) hby rfl rfl rfl))
