set_option maxRecDepth 20000 in
set_option maxHeartbeats 4000000 in
theorem p_of {G : zG} {Y : Nat} {M : List va_E} (h : MS G Y M) (h99 : 99 ≤ Y) (hY : Y + 300 < 1048576) (c p f : Int32) : PS G Y isI yX3_of cX3_of 4 yX4_of cX4_of 5 (some .int) [.int c, .int p, .int f] M := by
  obtain ⟨we, r, cl, seen, kept, rd, nw, ud, im, twe, tr, tcl, bys, wo, nu, len, it, so, at_, be, va, sp, ss, al, od, ab, bl, bd, no, fu, w, kp, rf, at2, st2, iwd, ifg, nb, fr, la, nms, nd, wf, hh, tl, rfl, htw, htr, g, hR, hI, hl, hby, rfl, rfl, rfl⟩ := h
  have hr := g.1.1
  have hz := g.1.2.1
  have hs := g.1.2.2.1
  have hwz := g.2.2.1
  have hw : weOK we := fun j => by have := g.2.1 j; omega
  have hy : r 117 + 100 < 1048576 := by have := g.1.2.2.2.2; omega
  have hsn : ∀ j, seen j < 1048576 := fun j => by have := g.2.2.2.1 j; omega
  have hrd := g.2.2.2.2.2.2.2.1
  have hnw := g.2.2.2.2.2.2.2.2.1
  have hud := g.2.2.2.2.2.2.2.2.2
  by_cases hb : (0 ≤ c ∧ c < nI 9) ∧ (0 ≤ p ∧ p < nI 3) ∧ (nI 0 ≤ f ∧ f ≤ nI 5)
  · obtain ⟨b0, b1, b2⟩ := hb
    obtain ⟨c, k0, rfl⟩ := exW b0 (by decide)
    obtain ⟨p, k1, rfl⟩ := exW b1 (by decide)
    obtain ⟨f, l2, k2, rfl⟩ := exB b2 (by decide) (by decide)
    exact PS_e (x_of hr hw hz hs hwz hy htw htr k0 k1 k2) ⟨_, rfl⟩ (by decide) (by decide) (by decide) (PT_e (m_of hR g k0 k1 k2) (by decide) ⟨_, by rfl⟩ (MS.mk htw htr (g.mono (by omega)) hR hI (by omega) kpW.rf hl hby rfl rfl rfl))
  · exact PS_e (x_ofB hb) ⟨_, rfl⟩ (by decide) (by decide) (by decide) (PT_e (m_ofB (fun q => hb ⟨(wi 8 (by decide)).mpr q.1, (wi 2 (by decide)).mpr q.2.1, q.2.2⟩)) (by decide) ⟨_, by rfl⟩ (MS.mk htw htr (g.mono (by omega)) hR hI (by omega) kpW.rf hl hby rfl rfl rfl))
set_option maxRecDepth 20000 in
set_option maxHeartbeats 4000000 in
theorem p_cell {G : zG} {Y : Nat} {M : List va_E} (h : MS G Y M) (h99 : 99 ≤ Y) (hY : Y + 300 < 1048576) (c f : Int32) : PS G Y isI yX3_cell cX3_cell 3 yX4_cell cX4_cell 3 (some .int) [.int c, .int f] M := by
  obtain ⟨we, r, cl, seen, kept, rd, nw, ud, im, twe, tr, tcl, bys, wo, nu, len, it, so, at_, be, va, sp, ss, al, od, ab, bl, bd, no, fu, w, kp, rf, at2, st2, iwd, ifg, nb, fr, la, nms, nd, wf, hh, tl, rfl, htw, htr, g, hR, hI, hl, hby, rfl, rfl, rfl⟩ := h
  have hr := g.1.1
  have hz := g.1.2.1
  have hs := g.1.2.2.1
  have hwz := g.2.2.1
  have hw : weOK we := fun j => by have := g.2.1 j; omega
  have hy : r 117 + 100 < 1048576 := by have := g.1.2.2.2.2; omega
  have hsn : ∀ j, seen j < 1048576 := fun j => by have := g.2.2.2.1 j; omega
  have hrd := g.2.2.2.2.2.2.2.1
  have hnw := g.2.2.2.2.2.2.2.2.1
  have hud := g.2.2.2.2.2.2.2.2.2
  by_cases hb : (0 ≤ c ∧ c < nI 9) ∧ (nI 0 ≤ f ∧ f ≤ nI 1)
  · obtain ⟨b0, b1⟩ := hb
    obtain ⟨c, k0, rfl⟩ := exW b0 (by decide)
    obtain ⟨f, l1, k1, rfl⟩ := exB b1 (by decide) (by decide)
    exact PS_e (x_cell k0 k1) ⟨_, rfl⟩ (by decide) (by decide) (by decide) (PT_e (m_cell hR g k0 k1) (by decide) ⟨_, by rfl⟩ (MS.mk htw htr (g.mono (by omega)) hR hI (by omega) kpW.rf hl hby rfl rfl rfl))
  · exact PS_e (x_cellB hb) ⟨_, rfl⟩ (by decide) (by decide) (by decide) (PT_e (m_cellB (fun q => hb ⟨(wi 8 (by decide)).mpr q.1, q.2⟩)) (by decide) ⟨_, by rfl⟩ (MS.mk htw htr (g.mono (by omega)) hR hI (by omega) kpW.rf hl hby rfl rfl rfl))
set_option maxRecDepth 20000 in
set_option maxHeartbeats 4000000 in
theorem p_claims {G : zG} {Y : Nat} {M : List va_E} (h : MS G Y M) (h99 : 99 ≤ Y) (hY : Y + 300 < 1048576) (f l : Int32) : PS G Y isI yX3_claims cX3_claims 3 yX4_claims cX4_claims 3 (some .int) [.int f, .int l] M := by
  obtain ⟨we, r, cl, seen, kept, rd, nw, ud, im, twe, tr, tcl, bys, wo, nu, len, it, so, at_, be, va, sp, ss, al, od, ab, bl, bd, no, fu, w, kp, rf, at2, st2, iwd, ifg, nb, fr, la, nms, nd, wf, hh, tl, rfl, htw, htr, g, hR, hI, hl, hby, rfl, rfl, rfl⟩ := h
  have hr := g.1.1
  have hz := g.1.2.1
  have hs := g.1.2.2.1
  have hwz := g.2.2.1
  have hw : weOK we := fun j => by have := g.2.1 j; omega
  have hy : r 117 + 100 < 1048576 := by have := g.1.2.2.2.2; omega
  have hsn : ∀ j, seen j < 1048576 := fun j => by have := g.2.2.2.1 j; omega
  have hrd := g.2.2.2.2.2.2.2.1
  have hnw := g.2.2.2.2.2.2.2.2.1
  have hud := g.2.2.2.2.2.2.2.2.2
  by_cases hb : (0 ≤ f ∧ f < nI 3) ∧ (0 ≤ l ∧ l < nI 4)
  · obtain ⟨b0, b1⟩ := hb
    obtain ⟨f, k0, rfl⟩ := exW b0 (by decide)
    obtain ⟨l, k1, rfl⟩ := exW b1 (by decide)
    exact PS_p (x_claims hr hw hz hs hwz hy htw htr k0 k1) ⟨_, rfl⟩ (by decide) (by decide) (by decide) (fun M1 q => by obtain ⟨cl, twe, tr, tcl, wo, nu, it, so, at_, be, va, sp, ss, al, od, htw, htr, rfl⟩ := q; exact PT_e (m_claims hR g k0 k1) (by decide) ⟨_, by rfl⟩ (MS.mk htw htr (g.mono (by omega)) hR hI (by omega) kpW.rf hl hby rfl rfl rfl))
  · exact PS_e (x_claimsB hb) ⟨_, rfl⟩ (by decide) (by decide) (by decide) (PT_e (m_claimsB (fun q => hb ⟨(wi 2 (by decide)).mpr q.1, (wi 3 (by decide)).mpr q.2⟩)) (by decide) ⟨_, by rfl⟩ (MS.mk htw htr (g.mono (by omega)) hR hI (by omega) kpW.rf hl hby rfl rfl rfl))
set_option maxRecDepth 20000 in
set_option maxHeartbeats 4000000 in
theorem p_owner {G : zG} {Y : Nat} {M : List va_E} (h : MS G Y M) (h99 : 99 ≤ Y) (hY : Y + 300 < 1048576) (l m : Int32) : PS G Y isI yX3_owner cX3_owner 3 yX4_owner cX4_owner 3 (some .int) [.int l, .int m] M := by
  obtain ⟨we, r, cl, seen, kept, rd, nw, ud, im, twe, tr, tcl, bys, wo, nu, len, it, so, at_, be, va, sp, ss, al, od, ab, bl, bd, no, fu, w, kp, rf, at2, st2, iwd, ifg, nb, fr, la, nms, nd, wf, hh, tl, rfl, htw, htr, g, hR, hI, hl, hby, rfl, rfl, rfl⟩ := h
  have hr := g.1.1
  have hz := g.1.2.1
  have hs := g.1.2.2.1
  have hwz := g.2.2.1
  have hw : weOK we := fun j => by have := g.2.1 j; omega
  have hy : r 117 + 100 < 1048576 := by have := g.1.2.2.2.2; omega
  have hsn : ∀ j, seen j < 1048576 := fun j => by have := g.2.2.2.1 j; omega
  have hrd := g.2.2.2.2.2.2.2.1
  have hnw := g.2.2.2.2.2.2.2.2.1
  have hud := g.2.2.2.2.2.2.2.2.2
  by_cases hb : (0 ≤ l ∧ l < nI 4) ∧ (0 ≤ m ∧ m < nI 41)
  · obtain ⟨b0, b1⟩ := hb
    obtain ⟨l, k0, rfl⟩ := exW b0 (by decide)
    obtain ⟨m, k1, rfl⟩ := exW b1 (by decide)
    exact PS_p (x_owner hr hw hz hs hwz hy htw htr k0 k1) ⟨_, rfl⟩ (by decide) (by decide) (by decide) (fun M1 q => by obtain ⟨cl, twe, tr, tcl, wo, nu, it, so, at_, be, va, sp, ss, al, od, htw, htr, rfl⟩ := q; exact PT_p (m_owner hR g (by omega) k0 k1) (by decide) ⟨_, by rfl⟩ (fun M2 q => by obtain ⟨w', hsm, rfl⟩ := q; exact (MS.mk htw htr (g.mono (by omega)) (hsm.rs hR g) hI (by omega) hsm.kp hl hby rfl rfl rfl)))
  · exact PS_e (x_ownerB hb) ⟨_, rfl⟩ (by decide) (by decide) (by decide) (PT_e (m_ownerB (fun q => hb ⟨(wi 3 (by decide)).mpr q.1, (wi 40 (by decide)).mpr q.2⟩)) (by decide) ⟨_, by rfl⟩ (MS.mk htw htr (g.mono (by omega)) hR hI (by omega) kpW.rf hl hby rfl rfl rfl))
set_option maxRecDepth 20000 in
set_option maxHeartbeats 4000000 in
theorem p_laws {G : zG} {Y : Nat} {M : List va_E} (h : MS G Y M) (h99 : 99 ≤ Y) (hY : Y + 300 < 1048576) (f : Int32) : PS G Y isI yX3_laws cX3_laws 4 yX4_laws cX4_laws 4 (some .int) [.int f] M := by
  obtain ⟨we, r, cl, seen, kept, rd, nw, ud, im, twe, tr, tcl, bys, wo, nu, len, it, so, at_, be, va, sp, ss, al, od, ab, bl, bd, no, fu, w, kp, rf, at2, st2, iwd, ifg, nb, fr, la, nms, nd, wf, hh, tl, rfl, htw, htr, g, hR, hI, hl, hby, rfl, rfl, rfl⟩ := h
  have hr := g.1.1
  have hz := g.1.2.1
  have hs := g.1.2.2.1
  have hwz := g.2.2.1
  have hw : weOK we := fun j => by have := g.2.1 j; omega
  have hy : r 117 + 100 < 1048576 := by have := g.1.2.2.2.2; omega
  have hsn : ∀ j, seen j < 1048576 := fun j => by have := g.2.2.2.1 j; omega
  have hrd := g.2.2.2.2.2.2.2.1
  have hnw := g.2.2.2.2.2.2.2.2.1
  have hud := g.2.2.2.2.2.2.2.2.2
  by_cases hb : 0 ≤ f ∧ f < nI 3
  · obtain ⟨f, k0, rfl⟩ := exW hb (by decide)
    exact PS_p (x_laws hr hw hz hs hwz hy htw htr k0) ⟨_, rfl⟩ (by decide) (by decide) (by decide) (fun M1 q => by obtain ⟨cl, twe, tr, tcl, wo, nu, it, so, at_, be, va, sp, ss, al, od, htw, htr, rfl⟩ := q; exact PT_e (m_laws hR g k0) (by decide) ⟨_, by rfl⟩ (MS.mk htw htr (g.mono (by omega)) hR hI (by omega) kpW.rf hl hby rfl rfl rfl))
  · exact PS_e (x_lawsB hb) ⟨_, rfl⟩ (by decide) (by decide) (by decide) (PT_e (m_lawsB (fun q => hb ((wi 2 (by decide)).mpr q))) (by decide) ⟨_, by rfl⟩ (MS.mk htw htr (g.mono (by omega)) hR hI (by omega) kpW.rf hl hby rfl rfl rfl))
set_option maxRecDepth 20000 in
set_option maxHeartbeats 4000000 in
theorem p_share {G : zG} {Y : Nat} {M : List va_E} (h : MS G Y M) (h99 : 99 ≤ Y) (hY : Y + 300 < 1048576) (f : Int32) : PS G Y isI yX3_share cX3_share 2 yX4_share cX4_share 3 (some .int) [.int f] M := by
  obtain ⟨we, r, cl, seen, kept, rd, nw, ud, im, twe, tr, tcl, bys, wo, nu, len, it, so, at_, be, va, sp, ss, al, od, ab, bl, bd, no, fu, w, kp, rf, at2, st2, iwd, ifg, nb, fr, la, nms, nd, wf, hh, tl, rfl, htw, htr, g, hR, hI, hl, hby, rfl, rfl, rfl⟩ := h
  have hr := g.1.1
  have hz := g.1.2.1
  have hs := g.1.2.2.1
  have hwz := g.2.2.1
  have hw : weOK we := fun j => by have := g.2.1 j; omega
  have hy : r 117 + 100 < 1048576 := by have := g.1.2.2.2.2; omega
  have hsn : ∀ j, seen j < 1048576 := fun j => by have := g.2.2.2.1 j; omega
  have hrd := g.2.2.2.2.2.2.2.1
  have hnw := g.2.2.2.2.2.2.2.2.1
  have hud := g.2.2.2.2.2.2.2.2.2
  by_cases hb : 0 ≤ f ∧ f < nI 3
  · obtain ⟨f, k0, rfl⟩ := exW hb (by decide)
    exact PS_p (x_share hr hw hz hs hwz hy htw htr k0) ⟨_, rfl⟩ (by decide) (by decide) (by decide) (fun M1 q => by obtain ⟨cl, twe, tr, tcl, wo, nu, it, so, at_, be, va, sp, ss, al, od, htw, htr, rfl⟩ := q; exact PT_e (m_share hR g k0) (by decide) ⟨_, by rfl⟩ (MS.mk htw htr (g.mono (by omega)) hR hI (by omega) kpW.rf hl hby rfl rfl rfl))
  · exact PS_e (x_shareB hb) ⟨_, rfl⟩ (by decide) (by decide) (by decide) (PT_e (m_shareB (fun q => hb ((wi 2 (by decide)).mpr q))) (by decide) ⟨_, by rfl⟩ (MS.mk htw htr (g.mono (by omega)) hR hI (by omega) kpW.rf hl hby rfl rfl rfl))
set_option maxRecDepth 20000 in
set_option maxHeartbeats 4000000 in
theorem p_twos {G : zG} {Y : Nat} {M : List va_E} (h : MS G Y M) (h99 : 99 ≤ Y) (hY : Y + 300 < 1048576) (l : Int32) : PS G Y isI yX3_twos cX3_twos 3 yX4_twos cX4_twos 3 (some .int) [.int l] M := by
  obtain ⟨we, r, cl, seen, kept, rd, nw, ud, im, twe, tr, tcl, bys, wo, nu, len, it, so, at_, be, va, sp, ss, al, od, ab, bl, bd, no, fu, w, kp, rf, at2, st2, iwd, ifg, nb, fr, la, nms, nd, wf, hh, tl, rfl, htw, htr, g, hR, hI, hl, hby, rfl, rfl, rfl⟩ := h
  have hr := g.1.1
  have hz := g.1.2.1
  have hs := g.1.2.2.1
  have hwz := g.2.2.1
  have hw : weOK we := fun j => by have := g.2.1 j; omega
  have hy : r 117 + 100 < 1048576 := by have := g.1.2.2.2.2; omega
  have hsn : ∀ j, seen j < 1048576 := fun j => by have := g.2.2.2.1 j; omega
  have hrd := g.2.2.2.2.2.2.2.1
  have hnw := g.2.2.2.2.2.2.2.2.1
  have hud := g.2.2.2.2.2.2.2.2.2
  by_cases hb : 0 ≤ l ∧ l < nI 4
  · obtain ⟨l, k0, rfl⟩ := exW hb (by decide)
    exact PS_p (x_twos hr hw hz hs hwz hy htw htr k0) ⟨_, rfl⟩ (by decide) (by decide) (by decide) (fun M1 q => by obtain ⟨cl, twe, tr, tcl, wo, nu, it, so, at_, be, va, sp, ss, al, od, htw, htr, rfl⟩ := q; exact PT_p (m_twos hR g (by omega) k0) (by decide) ⟨_, by rfl⟩ (fun M2 q => by obtain ⟨w', hsm, rfl⟩ := q; exact (MS.mk htw htr (g.mono (by omega)) (hsm.rs hR g) hI (by omega) hsm.kp hl hby rfl rfl rfl)))
  · exact PS_e (x_twosB hb) ⟨_, rfl⟩ (by decide) (by decide) (by decide) (PT_e (m_twosB (fun q => hb ((wi 3 (by decide)).mpr q))) (by decide) ⟨_, by rfl⟩ (MS.mk htw htr (g.mono (by omega)) hR hI (by omega) kpW.rf hl hby rfl rfl rfl))
set_option maxRecDepth 20000 in
set_option maxHeartbeats 4000000 in
theorem p_whole {G : zG} {Y : Nat} {M : List va_E} (h : MS G Y M) (h99 : 99 ≤ Y) (hY : Y + 300 < 1048576) : PS G Y isI yX3_whole cX3_whole 1 yX4_whole cX4_whole 1 (some .int) [] M := by
  obtain ⟨we, r, cl, seen, kept, rd, nw, ud, im, twe, tr, tcl, bys, wo, nu, len, it, so, at_, be, va, sp, ss, al, od, ab, bl, bd, no, fu, w, kp, rf, at2, st2, iwd, ifg, nb, fr, la, nms, nd, wf, hh, tl, rfl, htw, htr, g, hR, hI, hl, hby, rfl, rfl, rfl⟩ := h
  have hr := g.1.1
  have hz := g.1.2.1
  have hs := g.1.2.2.1
  have hwz := g.2.2.1
  have hw : weOK we := fun j => by have := g.2.1 j; omega
  have hy : r 117 + 100 < 1048576 := by have := g.1.2.2.2.2; omega
  have hsn : ∀ j, seen j < 1048576 := fun j => by have := g.2.2.2.1 j; omega
  have hrd := g.2.2.2.2.2.2.2.1
  have hnw := g.2.2.2.2.2.2.2.2.1
  have hud := g.2.2.2.2.2.2.2.2.2
  exact PS_p (x_whole hr hw hz hs hwz hy htw htr) ⟨_, rfl⟩ (by decide) (by decide) (by decide) (fun M1 q => by obtain ⟨cl, twe, tr, tcl, wo, nu, it, so, at_, be, va, sp, ss, al, od, htw, htr, rfl⟩ := q; exact PT_p (m_whole hR g) (by decide) ⟨_, by rfl⟩ (fun M2 q => by obtain ⟨w', hsm, rfl⟩ := q; exact (MS.mk htw htr (g.mono (by omega)) (hsm.rs hR g) hI (by omega) hsm.kp hl hby rfl rfl rfl)))
set_option maxRecDepth 20000 in
set_option maxHeartbeats 4000000 in
theorem p_holes {G : zG} {Y : Nat} {M : List va_E} (h : MS G Y M) (h99 : 99 ≤ Y) (hY : Y + 300 < 1048576) (m : Int32) : PS G Y isI yX3_holes cX3_holes 2 yX4_holes cX4_holes 2 (some .int) [.int m] M := by
  obtain ⟨we, r, cl, seen, kept, rd, nw, ud, im, twe, tr, tcl, bys, wo, nu, len, it, so, at_, be, va, sp, ss, al, od, ab, bl, bd, no, fu, w, kp, rf, at2, st2, iwd, ifg, nb, fr, la, nms, nd, wf, hh, tl, rfl, htw, htr, g, hR, hI, hl, hby, rfl, rfl, rfl⟩ := h
  have hr := g.1.1
  have hz := g.1.2.1
  have hs := g.1.2.2.1
  have hwz := g.2.2.1
  have hw : weOK we := fun j => by have := g.2.1 j; omega
  have hy : r 117 + 100 < 1048576 := by have := g.1.2.2.2.2; omega
  have hsn : ∀ j, seen j < 1048576 := fun j => by have := g.2.2.2.1 j; omega
  have hrd := g.2.2.2.2.2.2.2.1
  have hnw := g.2.2.2.2.2.2.2.2.1
  have hud := g.2.2.2.2.2.2.2.2.2
  by_cases hb : 0 ≤ m ∧ m < nI 41
  · obtain ⟨m, k0, rfl⟩ := exW hb (by decide)
    exact PS_p (x_holes hr hw hz hs hwz hy htw htr k0) ⟨_, rfl⟩ (by decide) (by decide) (by decide) (fun M1 q => by obtain ⟨cl, twe, tr, tcl, wo, nu, it, so, at_, be, va, sp, ss, al, od, htw, htr, rfl⟩ := q; exact PT_p (m_holes hR g (by omega) k0) (by decide) ⟨_, by rfl⟩ (fun M2 q => by obtain ⟨w', hsm, rfl⟩ := q; exact (MS.mk htw htr (g.mono (by omega)) (hsm.rs hR g) hI (by omega) hsm.kp hl hby rfl rfl rfl)))
  · exact PS_e (x_holesB hb) ⟨_, rfl⟩ (by decide) (by decide) (by decide) (PT_e (m_holesB (fun q => hb ((wi 40 (by decide)).mpr q))) (by decide) ⟨_, by rfl⟩ (MS.mk htw htr (g.mono (by omega)) hR hI (by omega) kpW.rf hl hby rfl rfl rfl))
set_option maxRecDepth 20000 in
set_option maxHeartbeats 4000000 in
theorem p_best {G : zG} {Y : Nat} {M : List va_E} (h : MS G Y M) (h99 : 99 ≤ Y) (hY : Y + 300 < 1048576) (n kd f : Int32) : PS G Y isI yX3_best cX3_best 8 yX4_best cX4_best 8 (some .int) [.int n, .int kd, .int f] M := by
  obtain ⟨we, r, cl, seen, kept, rd, nw, ud, im, twe, tr, tcl, bys, wo, nu, len, it, so, at_, be, va, sp, ss, al, od, ab, bl, bd, no, fu, w, kp, rf, at2, st2, iwd, ifg, nb, fr, la, nms, nd, wf, hh, tl, rfl, htw, htr, g, hR, hI, hl, hby, rfl, rfl, rfl⟩ := h
  have hr := g.1.1
  have hz := g.1.2.1
  have hs := g.1.2.2.1
  have hwz := g.2.2.1
  have hw : weOK we := fun j => by have := g.2.1 j; omega
  have hy : r 117 + 100 < 1048576 := by have := g.1.2.2.2.2; omega
  have hsn : ∀ j, seen j < 1048576 := fun j => by have := g.2.2.2.1 j; omega
  have hrd := g.2.2.2.2.2.2.2.1
  have hnw := g.2.2.2.2.2.2.2.2.1
  have hud := g.2.2.2.2.2.2.2.2.2
  by_cases hb : (nI 1 ≤ n ∧ n ≤ nI 30) ∧ (0 ≤ kd ∧ kd < nI 6) ∧ (nI 0 ≤ f ∧ f ≤ nI 1)
  · obtain ⟨b0, b1, b2⟩ := hb
    obtain ⟨n, l0, k0, rfl⟩ := exB b0 (by decide) (by decide)
    obtain ⟨kd, k1, rfl⟩ := exW b1 (by decide)
    obtain ⟨f, l2, k2, rfl⟩ := exB b2 (by decide) (by decide)
    exact PS_p (x_best hr hw hz hs hwz hy htw htr l0 k0 k1 k2) ⟨_, rfl⟩ (by decide) (by decide) (by decide) (fun M1 q => by obtain ⟨cl, twe, tr, tcl, wo, nu, it, so, at_, be, va, sp, ss, al, od, htw, htr, rfl⟩ := q; exact PT_p (m_best hR g l0 k0 k1 k2) (by decide) ⟨_, by rfl⟩ (fun M2 q => by obtain ⟨w', hsm, rfl⟩ := q; exact (MS.mk htw htr (g.mono (by omega)) (hsm.rs hR g) hI (by omega) hsm.kp hl hby rfl rfl rfl)))
  · exact PS_e (x_bestB hb) ⟨_, rfl⟩ (by decide) (by decide) (by decide) (PT_e (m_bestB (fun q => hb ⟨q.1, (wi 5 (by decide)).mpr q.2.1, q.2.2⟩)) (by decide) ⟨_, by rfl⟩ (MS.mk htw htr (g.mono (by omega)) hR hI (by omega) kpW.rf hl hby rfl rfl rfl))
set_option maxRecDepth 20000 in
set_option maxHeartbeats 4000000 in
theorem p_split {G : zG} {Y : Nat} {M : List va_E} (h : MS G Y M) (h99 : 99 ≤ Y) (hY : Y + 300 < 1048576) (n kd f : Int32) : PS G Y isI yX3_split cX3_split 12 yX4_split cX4_split 14 (some .int) [.int n, .int kd, .int f] M := by
  obtain ⟨we, r, cl, seen, kept, rd, nw, ud, im, twe, tr, tcl, bys, wo, nu, len, it, so, at_, be, va, sp, ss, al, od, ab, bl, bd, no, fu, w, kp, rf, at2, st2, iwd, ifg, nb, fr, la, nms, nd, wf, hh, tl, rfl, htw, htr, g, hR, hI, hl, hby, rfl, rfl, rfl⟩ := h
  have hr := g.1.1
  have hz := g.1.2.1
  have hs := g.1.2.2.1
  have hwz := g.2.2.1
  have hw : weOK we := fun j => by have := g.2.1 j; omega
  have hy : r 117 + 100 < 1048576 := by have := g.1.2.2.2.2; omega
  have hsn : ∀ j, seen j < 1048576 := fun j => by have := g.2.2.2.1 j; omega
  have hrd := g.2.2.2.2.2.2.2.1
  have hnw := g.2.2.2.2.2.2.2.2.1
  have hud := g.2.2.2.2.2.2.2.2.2
  by_cases hb : (nI 2 ≤ n ∧ n ≤ nI 30) ∧ (0 ≤ kd ∧ kd < nI 6) ∧ (nI 0 ≤ f ∧ f ≤ nI 2)
  · obtain ⟨b0, b1, b2⟩ := hb
    obtain ⟨n, l0, k0, rfl⟩ := exB b0 (by decide) (by decide)
    obtain ⟨kd, k1, rfl⟩ := exW b1 (by decide)
    obtain ⟨f, l2, k2, rfl⟩ := exB b2 (by decide) (by decide)
    exact PS_p (x_split hr hw hz hs hwz hy htw htr l0 k0 k1 k2) ⟨_, rfl⟩ (by decide) (by decide) (by decide) (fun M1 q => by obtain ⟨cl, twe, tr, tcl, wo, nu, it, so, at_, be, va, sp, ss, al, od, htw, htr, rfl⟩ := q; exact PT_p (m_split hR g l0 k0 k1 k2) (by decide) ⟨_, by rfl⟩ (fun M2 q => by obtain ⟨w', la', hsm, rfl⟩ := q; exact (MS.mk htw htr (g.mono (by omega)) (hsm.rs hR g) hI (by omega) hsm.kp hl hby rfl rfl rfl)))
  · exact PS_e (x_splitB hb) ⟨_, rfl⟩ (by decide) (by decide) (by decide) (PT_e (m_splitB (fun q => hb ⟨q.1, (wi 5 (by decide)).mpr q.2.1, q.2.2⟩)) (by decide) ⟨_, by rfl⟩ (MS.mk htw htr (g.mono (by omega)) hR hI (by omega) kpW.rf hl hby rfl rfl rfl))
set_option maxRecDepth 20000 in
set_option maxHeartbeats 4000000 in
theorem p_reading {G : zG} {Y : Nat} {M : List va_E} (h : MS G Y M) (h99 : 99 ≤ Y) (hY : Y + 300 < 1048576) (c m v : Int32) : PS G Y isI yX3_reading cX3_reading 4 yX4_reading cX4_reading 5 (some .int) [.int c, .int m, .int v] M := by
  obtain ⟨we, r, cl, seen, kept, rd, nw, ud, im, twe, tr, tcl, bys, wo, nu, len, it, so, at_, be, va, sp, ss, al, od, ab, bl, bd, no, fu, w, kp, rf, at2, st2, iwd, ifg, nb, fr, la, nms, nd, wf, hh, tl, rfl, htw, htr, g, hR, hI, hl, hby, rfl, rfl, rfl⟩ := h
  have hr := g.1.1
  have hz := g.1.2.1
  have hs := g.1.2.2.1
  have hwz := g.2.2.1
  have hw : weOK we := fun j => by have := g.2.1 j; omega
  have hy : r 117 + 100 < 1048576 := by have := g.1.2.2.2.2; omega
  have hsn : ∀ j, seen j < 1048576 := fun j => by have := g.2.2.2.1 j; omega
  have hrd := g.2.2.2.2.2.2.2.1
  have hnw := g.2.2.2.2.2.2.2.2.1
  have hud := g.2.2.2.2.2.2.2.2.2
  by_cases hb : (0 ≤ c ∧ c < nI 9) ∧ (0 ≤ m ∧ m < nI 21) ∧ (nI 0 ≤ v ∧ v ≤ nI 30)
  · obtain ⟨b0, b1, b2⟩ := hb
    obtain ⟨c, k0, rfl⟩ := exW b0 (by decide)
    obtain ⟨m, k1, rfl⟩ := exW b1 (by decide)
    obtain ⟨v, l2, k2, rfl⟩ := exB b2 (by decide) (by decide)
    by_cases h3 : rd < 6
    · exact PS_e (x_reading k0 k1 k2 h3) ⟨_, rfl⟩ (by decide) (by decide) (by decide) (PT_e (m_reading hR g k0 k1 k2 h3) (by decide) ⟨_, by rfl⟩ (MS.mk htw htr ((GS_reading g k0 k1 k2 h3).mono (by omega)) (RS_reading hR g h3) hI (by omega) (fun j h1 h2 => by rw [updN_n (by omega), updN_n (by omega), updN_n (by omega), updN_n (by omega)]) hl hby rfl rfl rfl))
    · have h3 : rd = 6 := by omega
      exact PS_e (x_readingF k0 k1 k2 h3) ⟨_, rfl⟩ (by decide) (by decide) (by decide) (PT_e (m_readingF hR g k0 k1 k2 h3) (by decide) ⟨_, by rfl⟩ (MS.mk htw htr (g.mono (by omega)) hR hI (by omega) kpW.rf hl hby rfl rfl rfl))
  · exact PS_e (x_readingB hb) ⟨_, rfl⟩ (by decide) (by decide) (by decide) (PT_e (m_readingB (fun q => hb ⟨(wi 8 (by decide)).mpr q.1, (wi 20 (by decide)).mpr q.2.1, q.2.2⟩)) (by decide) ⟨_, by rfl⟩ (MS.mk htw htr (g.mono (by omega)) hR hI (by omega) kpW.rf hl hby rfl rfl rfl))
set_option maxRecDepth 20000 in
set_option maxHeartbeats 4000000 in
theorem p_forget {G : zG} {Y : Nat} {M : List va_E} (h : MS G Y M) (h99 : 99 ≤ Y) (hY : Y + 300 < 1048576) : PS G Y isI yX3_forget cX3_forget 2 yX4_forget cX4_forget 2 (some .int) [] M := by
  obtain ⟨we, r, cl, seen, kept, rd, nw, ud, im, twe, tr, tcl, bys, wo, nu, len, it, so, at_, be, va, sp, ss, al, od, ab, bl, bd, no, fu, w, kp, rf, at2, st2, iwd, ifg, nb, fr, la, nms, nd, wf, hh, tl, rfl, htw, htr, g, hR, hI, hl, hby, rfl, rfl, rfl⟩ := h
  have hr := g.1.1
  have hz := g.1.2.1
  have hs := g.1.2.2.1
  have hwz := g.2.2.1
  have hw : weOK we := fun j => by have := g.2.1 j; omega
  have hy : r 117 + 100 < 1048576 := by have := g.1.2.2.2.2; omega
  have hsn : ∀ j, seen j < 1048576 := fun j => by have := g.2.2.2.1 j; omega
  have hrd := g.2.2.2.2.2.2.2.1
  have hnw := g.2.2.2.2.2.2.2.2.1
  have hud := g.2.2.2.2.2.2.2.2.2
  exact PS_e (x_forget) ⟨_, rfl⟩ (by decide) (by decide) (by decide) (PT_e (m_forget hR g) (by decide) ⟨_, by rfl⟩ (MS.mk htw htr ((GS_forget g).mono (by omega)) (RS_forget hR g) hI (by omega) (fun j h1 h2 => updN_n (by omega)) hl hby rfl rfl rfl))
set_option maxRecDepth 20000 in
set_option maxHeartbeats 4000000 in
theorem p_may {G : zG} {Y : Nat} {M : List va_E} (h : MS G Y M) (h99 : 99 ≤ Y) (hY : Y + 300 < 1048576) (c : Int32) : PS G Y isI yX3_may cX3_may 2 yX4_may cX4_may 2 (some .int) [.int c] M := by
  obtain ⟨we, r, cl, seen, kept, rd, nw, ud, im, twe, tr, tcl, bys, wo, nu, len, it, so, at_, be, va, sp, ss, al, od, ab, bl, bd, no, fu, w, kp, rf, at2, st2, iwd, ifg, nb, fr, la, nms, nd, wf, hh, tl, rfl, htw, htr, g, hR, hI, hl, hby, rfl, rfl, rfl⟩ := h
  have hr := g.1.1
  have hz := g.1.2.1
  have hs := g.1.2.2.1
  have hwz := g.2.2.1
  have hw : weOK we := fun j => by have := g.2.1 j; omega
  have hy : r 117 + 100 < 1048576 := by have := g.1.2.2.2.2; omega
  have hsn : ∀ j, seen j < 1048576 := fun j => by have := g.2.2.2.1 j; omega
  have hrd := g.2.2.2.2.2.2.2.1
  have hnw := g.2.2.2.2.2.2.2.2.1
  have hud := g.2.2.2.2.2.2.2.2.2
  by_cases hb : 0 ≤ c ∧ c < nI 9
  · obtain ⟨c, k0, rfl⟩ := exW hb (by decide)
    exact PS_e (x_may hr hw hz hs hwz hy htw htr hsn hrd k0) ⟨_, rfl⟩ (by decide) (by decide) (by decide) (PT_e (m_may hR g k0) (by decide) ⟨_, by rfl⟩ (MS.mk htw htr (g.mono (by omega)) hR hI (by omega) kpW.rf hl hby rfl rfl rfl))
  · exact PS_e (x_mayB hb) ⟨_, rfl⟩ (by decide) (by decide) (by decide) (PT_e (m_mayB (fun q => hb ((wi 8 (by decide)).mpr q))) (by decide) ⟨_, by rfl⟩ (MS.mk htw htr (g.mono (by omega)) hR hI (by omega) kpW.rf hl hby rfl rfl rfl))
set_option maxRecDepth 20000 in
set_option maxHeartbeats 4000000 in
theorem p_look {G : zG} {Y : Nat} {M : List va_E} (h : MS G Y M) (h99 : 99 ≤ Y) (hY : Y + 300 < 1048576) (c : Int32) : PS G Y isI yX3_look cX3_look 7 yX4_look cX4_look 11 (some .int) [.int c] M := by
  obtain ⟨we, r, cl, seen, kept, rd, nw, ud, im, twe, tr, tcl, bys, wo, nu, len, it, so, at_, be, va, sp, ss, al, od, ab, bl, bd, no, fu, w, kp, rf, at2, st2, iwd, ifg, nb, fr, la, nms, nd, wf, hh, tl, rfl, htw, htr, g, hR, hI, hl, hby, rfl, rfl, rfl⟩ := h
  have hr := g.1.1
  have hz := g.1.2.1
  have hs := g.1.2.2.1
  have hwz := g.2.2.1
  have hw : weOK we := fun j => by have := g.2.1 j; omega
  have hy : r 117 + 100 < 1048576 := by have := g.1.2.2.2.2; omega
  have hsn : ∀ j, seen j < 1048576 := fun j => by have := g.2.2.2.1 j; omega
  have hrd := g.2.2.2.2.2.2.2.1
  have hnw := g.2.2.2.2.2.2.2.2.1
  have hud := g.2.2.2.2.2.2.2.2.2
  by_cases hb : 0 ≤ c ∧ c < nI 9
  · obtain ⟨c, k0, rfl⟩ := exW hb (by decide)
    exact PS_p (x_look hr hw hz hs hwz hy htw htr hsn hrd k0) ⟨_, rfl⟩ (by decide) (by decide) (by decide) (fun M1 q => by obtain ⟨cl, twe, tr, tcl, wo, nu, it, so, at_, be, va, sp, ss, al, od, htw, htr, rfl⟩ := q; exact PT_e (m_look hR g k0) (by decide) ⟨_, by rfl⟩ (MS.mk htw htr (g.mono (by omega)) hR hI (by omega) kpW.rf hl hby rfl rfl rfl))
  · exact PS_e (x_lookB hb) ⟨_, rfl⟩ (by decide) (by decide) (by decide) (PT_e (m_lookB (fun q => hb ((wi 8 (by decide)).mpr q))) (by decide) ⟨_, by rfl⟩ (MS.mk htw htr (g.mono (by omega)) hR hI (by omega) kpW.rf hl hby rfl rfl rfl))
set_option maxRecDepth 20000 in
set_option maxHeartbeats 4000000 in
theorem p_odds {G : zG} {Y : Nat} {M : List va_E} (h : MS G Y M) (h99 : 99 ≤ Y) (hY : Y + 300 < 1048576) (c m k : Int32) : PS G Y isI yX3_odds cX3_odds 4 yX4_odds cX4_odds 12 (some .int) [.int c, .int m, .int k] M := by
  obtain ⟨we, r, cl, seen, kept, rd, nw, ud, im, twe, tr, tcl, bys, wo, nu, len, it, so, at_, be, va, sp, ss, al, od, ab, bl, bd, no, fu, w, kp, rf, at2, st2, iwd, ifg, nb, fr, la, nms, nd, wf, hh, tl, rfl, htw, htr, g, hR, hI, hl, hby, rfl, rfl, rfl⟩ := h
  have hr := g.1.1
  have hz := g.1.2.1
  have hs := g.1.2.2.1
  have hwz := g.2.2.1
  have hw : weOK we := fun j => by have := g.2.1 j; omega
  have hy : r 117 + 100 < 1048576 := by have := g.1.2.2.2.2; omega
  have hsn : ∀ j, seen j < 1048576 := fun j => by have := g.2.2.2.1 j; omega
  have hrd := g.2.2.2.2.2.2.2.1
  have hnw := g.2.2.2.2.2.2.2.2.1
  have hud := g.2.2.2.2.2.2.2.2.2
  by_cases hb : (0 ≤ c ∧ c < nI 9) ∧ (nI 0 ≤ m ∧ m ≤ nI 8) ∧ (nI 0 ≤ k ∧ k ≤ nI 10)
  · obtain ⟨b0, b1, b2⟩ := hb
    obtain ⟨c, k0, rfl⟩ := exW b0 (by decide)
    obtain ⟨m, l1, k1, rfl⟩ := exB b1 (by decide) (by decide)
    obtain ⟨k, l2, k2, rfl⟩ := exB b2 (by decide) (by decide)
    exact PS_p (x_odds hr hw hz hs hwz hy htw htr k0 k1 k2) ⟨_, rfl⟩ (by decide) (by decide) (by decide) (fun M1 q => by obtain ⟨cl, twe, tr, tcl, wo, nu, it, so, at_, be, va, sp, ss, al, od, htw, htr, rfl⟩ := q; exact PT_p (m_odds hR g (by omega) k0 k1 k2) (by decide) ⟨_, by rfl⟩ (fun M2 q => by obtain ⟨w', hsm, rfl⟩ := q; exact (MS.mk htw htr (g.mono (by omega)) (hsm.rs hR g) hI (by omega) hsm.kp hl hby rfl rfl rfl)))
  · exact PS_e (x_oddsB hb) ⟨_, rfl⟩ (by decide) (by decide) (by decide) (PT_e (m_oddsB (fun q => hb ⟨(wi 8 (by decide)).mpr q.1, q.2.1, q.2.2⟩)) (by decide) ⟨_, by rfl⟩ (MS.mk htw htr (g.mono (by omega)) hR hI (by omega) kpW.rf hl hby rfl rfl rfl))
set_option maxRecDepth 20000 in
set_option maxHeartbeats 4000000 in
theorem p_drawn {G : zG} {Y : Nat} {M : List va_E} (h : MS G Y M) (h99 : 99 ≤ Y) (hY : Y + 300 < 1048576) (s m : Int32) : PS G Y isI yX3_drawn cX3_drawn 7 yX4_drawn cX4_drawn 7 (some .int) [.int s, .int m] M := by
  obtain ⟨we, r, cl, seen, kept, rd, nw, ud, im, twe, tr, tcl, bys, wo, nu, len, it, so, at_, be, va, sp, ss, al, od, ab, bl, bd, no, fu, w, kp, rf, at2, st2, iwd, ifg, nb, fr, la, nms, nd, wf, hh, tl, rfl, htw, htr, g, hR, hI, hl, hby, rfl, rfl, rfl⟩ := h
  have hr := g.1.1
  have hz := g.1.2.1
  have hs := g.1.2.2.1
  have hwz := g.2.2.1
  have hw : weOK we := fun j => by have := g.2.1 j; omega
  have hy : r 117 + 100 < 1048576 := by have := g.1.2.2.2.2; omega
  have hsn : ∀ j, seen j < 1048576 := fun j => by have := g.2.2.2.1 j; omega
  have hrd := g.2.2.2.2.2.2.2.1
  have hnw := g.2.2.2.2.2.2.2.2.1
  have hud := g.2.2.2.2.2.2.2.2.2
  by_cases hb : (nI 0 ≤ s ∧ s ≤ nI 999999) ∧ (nI 0 ≤ m ∧ m ≤ nI 20)
  · obtain ⟨b0, b1⟩ := hb
    obtain ⟨s, l0, k0, rfl⟩ := exB b0 (by decide) (by decide)
    obtain ⟨m, l1, k1, rfl⟩ := exB b1 (by decide) (by decide)
    exact PS_p (x_drawn hr hw hz hs hwz hy htw htr k0 k1) ⟨_, rfl⟩ (by decide) (by decide) (by decide) (fun M1 q => by obtain ⟨cl, twe, tr, tcl, wo, nu, it, so, at_, be, va, sp, ss, al, od, htw, htr, rfl⟩ := q; exact PT_p (m_drawn hR g (by omega) k0 k1) (by decide) ⟨_, by rfl⟩ (fun M2 q => by obtain ⟨w', hsm, rfl⟩ := q; exact (MS.mk htw htr (g.mono (by omega)) (hsm.rs hR g) hI (by omega) hsm.kp hl hby rfl rfl rfl)))
  · exact PS_e (x_drawnB hb) ⟨_, rfl⟩ (by decide) (by decide) (by decide) (PT_e (m_drawnB (fun q => hb ⟨q.1, q.2⟩)) (by decide) ⟨_, by rfl⟩ (MS.mk htw htr (g.mono (by omega)) hR hI (by omega) kpW.rf hl hby rfl rfl rfl))
set_option maxRecDepth 20000 in
set_option maxHeartbeats 4000000 in
theorem p_part {G : zG} {Y : Nat} {M : List va_E} (h : MS G Y M) (h99 : 99 ≤ Y) (hY : Y + 300 < 1048576) (f : Int32) : PS G Y isL yX3_part cX3_part 2 yX4_part cX4_part 2 (some .long) [.int f] M := by
  obtain ⟨we, r, cl, seen, kept, rd, nw, ud, im, twe, tr, tcl, bys, wo, nu, len, it, so, at_, be, va, sp, ss, al, od, ab, bl, bd, no, fu, w, kp, rf, at2, st2, iwd, ifg, nb, fr, la, nms, nd, wf, hh, tl, rfl, htw, htr, g, hR, hI, hl, hby, rfl, rfl, rfl⟩ := h
  have hr := g.1.1
  have hz := g.1.2.1
  have hs := g.1.2.2.1
  have hwz := g.2.2.1
  have hw : weOK we := fun j => by have := g.2.1 j; omega
  have hy : r 117 + 100 < 1048576 := by have := g.1.2.2.2.2; omega
  have hsn : ∀ j, seen j < 1048576 := fun j => by have := g.2.2.2.1 j; omega
  have hrd := g.2.2.2.2.2.2.2.1
  have hnw := g.2.2.2.2.2.2.2.2.1
  have hud := g.2.2.2.2.2.2.2.2.2
  by_cases hb : nI 0 ≤ f ∧ f ≤ nI 1
  · obtain ⟨f, l0, k0, rfl⟩ := exB hb (by decide) (by decide)
    exact PS_e (x_part k0) ⟨_, rfl⟩ (by decide) (by decide) (by decide) (PT_e (m_part k0) (by decide) ⟨_, by rfl⟩ (MS.mk htw htr (g.mono (by omega)) hR hI (by omega) kpW.rf hl hby rfl rfl rfl))
  · exact PS_e (x_partB hb) ⟨_, rfl⟩ (by decide) (by decide) (by decide) (PT_e (m_partB (fun e => hb (by rw [e]; decide)) (fun e => hb (by rw [e]; decide))) (by decide) ⟨_, by rfl⟩ (MS.mk htw htr (g.mono (by omega)) hR hI (by omega) kpW.rf hl hby rfl rfl rfl))
set_option maxRecDepth 20000 in
set_option maxHeartbeats 4000000 in
theorem p_status {G : zG} {Y : Nat} {M : List va_E} (h : MS G Y M) (h99 : 99 ≤ Y) (hY : Y + 300 < 1048576) (f : Int32) : PS G Y isI yX3_status cX3_status 2 yX4_status cX4_status 2 (some .int) [.int f] M := by
  obtain ⟨we, r, cl, seen, kept, rd, nw, ud, im, twe, tr, tcl, bys, wo, nu, len, it, so, at_, be, va, sp, ss, al, od, ab, bl, bd, no, fu, w, kp, rf, at2, st2, iwd, ifg, nb, fr, la, nms, nd, wf, hh, tl, rfl, htw, htr, g, hR, hI, hl, hby, rfl, rfl, rfl⟩ := h
  have hr := g.1.1
  have hz := g.1.2.1
  have hs := g.1.2.2.1
  have hwz := g.2.2.1
  have hw : weOK we := fun j => by have := g.2.1 j; omega
  have hy : r 117 + 100 < 1048576 := by have := g.1.2.2.2.2; omega
  have hsn : ∀ j, seen j < 1048576 := fun j => by have := g.2.2.2.1 j; omega
  have hrd := g.2.2.2.2.2.2.2.1
  have hnw := g.2.2.2.2.2.2.2.2.1
  have hud := g.2.2.2.2.2.2.2.2.2
  by_cases hb : nI 0 ≤ f ∧ f ≤ nI 2
  · obtain ⟨f, l0, k0, rfl⟩ := exB hb (by decide) (by decide)
    rcases (show f = 0 ∨ f = 1 ∨ f = 2 by omega) with e | e | e
    · exact PS_e (x_status0 e) ⟨_, rfl⟩ (by decide) (by decide) (by decide) (PT_e ((by subst e; exact m_status (f := 0) (by decide))) (by decide) ⟨_, by rfl⟩ (MS.mk htw htr (g.mono (by omega)) hR hI (by omega) kpW.rf hl hby rfl rfl rfl))
    · exact PS_e (x_status1 e) ⟨_, rfl⟩ (by decide) (by decide) (by decide) (PT_e ((by subst e; exact m_status (f := 1) (by decide))) (by decide) ⟨_, by rfl⟩ (MS.mk htw htr (g.mono (by omega)) hR hI (by omega) kpW.rf hl hby rfl rfl rfl))
    · exact PS_e (x_status2 e) ⟨_, rfl⟩ (by decide) (by decide) (by decide) (PT_e ((by subst e; exact m_status (f := 2) (by decide))) (by decide) ⟨_, by rfl⟩ (MS.mk htw htr (g.mono (by omega)) hR hI (by omega) kpW.rf hl hby rfl rfl rfl))
  · exact PS_e (x_statusB (by rw [Int32.le_iff_toInt_le, Int32.le_iff_toInt_le, nI_toInt (by decide), nI_toInt (by decide)] at hb; omega)) ⟨_, rfl⟩ (by decide) (by decide) (by decide) (PT_e (m_statusB (fun q => hb q)) (by decide) ⟨_, by rfl⟩ (MS.mk htw htr (g.mono (by omega)) hR hI (by omega) kpW.rf hl hby rfl rfl rfl))
set_option maxRecDepth 20000 in
set_option maxHeartbeats 4000000 in
theorem p_count {G : zG} {Y : Nat} {M : List va_E} (h : MS G Y M) (h99 : 99 ≤ Y) (hY : Y + 300 < 1048576) (f : Int32) : PS G Y isI yX3_count cX3_count 2 yX4_count cX4_count 2 (some .int) [.int f] M := by
  obtain ⟨we, r, cl, seen, kept, rd, nw, ud, im, twe, tr, tcl, bys, wo, nu, len, it, so, at_, be, va, sp, ss, al, od, ab, bl, bd, no, fu, w, kp, rf, at2, st2, iwd, ifg, nb, fr, la, nms, nd, wf, hh, tl, rfl, htw, htr, g, hR, hI, hl, hby, rfl, rfl, rfl⟩ := h
  have hr := g.1.1
  have hz := g.1.2.1
  have hs := g.1.2.2.1
  have hwz := g.2.2.1
  have hw : weOK we := fun j => by have := g.2.1 j; omega
  have hy : r 117 + 100 < 1048576 := by have := g.1.2.2.2.2; omega
  have hsn : ∀ j, seen j < 1048576 := fun j => by have := g.2.2.2.1 j; omega
  have hrd := g.2.2.2.2.2.2.2.1
  have hnw := g.2.2.2.2.2.2.2.2.1
  have hud := g.2.2.2.2.2.2.2.2.2
  by_cases hb : nI 0 ≤ f ∧ f ≤ nI 5
  · obtain ⟨f, l0, k0, rfl⟩ := exB hb (by decide) (by decide)
    exact PS_e (x_count hr k0) ⟨_, rfl⟩ (by decide) (by decide) (by decide) (PT_e (m_count hR g k0) (by decide) ⟨_, by rfl⟩ (MS.mk htw htr (g.mono (by omega)) hR hI (by omega) kpW.rf hl hby rfl rfl rfl))
  · exact PS_e (x_countB hb) ⟨_, rfl⟩ (by decide) (by decide) (by decide) (PT_e (m_countB (fun q => hb q)) (by decide) ⟨_, by rfl⟩ (MS.mk htw htr (g.mono (by omega)) hR hI (by omega) kpW.rf hl hby rfl rfl rfl))
set_option maxRecDepth 20000 in
set_option maxHeartbeats 4000000 in
theorem p_digest {G : zG} {Y : Nat} {M : List va_E} (h : MS G Y M) (h99 : 99 ≤ Y) (hY : Y + 300 < 1048576) : PS G Y isL yX3_digest cX3_digest 4 yX4_digest cX4_digest 3 (some .long) [] M := by
  obtain ⟨we, r, cl, seen, kept, rd, nw, ud, im, twe, tr, tcl, bys, wo, nu, len, it, so, at_, be, va, sp, ss, al, od, ab, bl, bd, no, fu, w, kp, rf, at2, st2, iwd, ifg, nb, fr, la, nms, nd, wf, hh, tl, rfl, htw, htr, g, hR, hI, hl, hby, rfl, rfl, rfl⟩ := h
  have hr := g.1.1
  have hz := g.1.2.1
  have hs := g.1.2.2.1
  have hwz := g.2.2.1
  have hw : weOK we := fun j => by have := g.2.1 j; omega
  have hy : r 117 + 100 < 1048576 := by have := g.1.2.2.2.2; omega
  have hsn : ∀ j, seen j < 1048576 := fun j => by have := g.2.2.2.1 j; omega
  have hrd := g.2.2.2.2.2.2.2.1
  have hnw := g.2.2.2.2.2.2.2.2.1
  have hud := g.2.2.2.2.2.2.2.2.2
  exact PS_e (x_digest hr hw hsn hrd hud hl) ⟨_, rfl⟩ (by decide) (by decide) (by decide) (PT_e (m_digest hR g hl) (by decide) ⟨_, by rfl⟩ (MS.mk htw htr (g.mono (by omega)) hR hI (by omega) kpW.rf hl hby rfl rfl rfl))
