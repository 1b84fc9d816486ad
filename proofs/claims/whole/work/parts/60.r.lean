/-! ===== the two sides joined ===== -/
/-- an image's cells, from place q of tl on -/
def imT (G : zG) (tl : List va_E) (q : Nat) (we r cl seen kept : Nat → Nat) (rd nw ud : Nat) : Prop :=
  tl[q]? = some (.inr (1, [.ref (zad (zb G) (q + 9 + 1 + 21)), .ref (zad (zb G) (q + 9 + 5 + 21)), .int (nI rd), .ref (zad (zb G) (q + 9 + 6 + 21)), .int (nI nw), .int (nI ud)])) ∧ tl[q + 1]? = some (.inr (0, [.ref (zad (zb G) (q + 9 + 2 + 21)), .ref (zad (zb G) (q + 9 + 3 + 21)), .ref (zad (zb G) (q + 9 + 4 + 21))])) ∧ tl[q + 2]? = some (zIN G 9 we) ∧ tl[q + 3]? = some (zIN G 118 r) ∧ tl[q + 4]? = some (zIN G 3 cl) ∧ tl[q + 5]? = some (zIN G 18 seen) ∧ tl[q + 6]? = some (zIN G 944 kept)
theorem imT_at {G : zG} {w kp tx : Nat → Nat} {txl : Nat} {rf : Nat → Nat} {ya yb : Int64} {at2 st2 : Nat} {iwd ifg : Int32} {nb : Nat → Nat} {fr : Int32} {la nms : Nat → Nat} {nd : Nat} {wf : Nat → Nat} {hh : Int64} {tl : List va_E} {q : Nat} {we r cl seen kept : Nat → Nat} {rd nw ud : Nat} (h : imT G tl q we r cl seen kept rd nw ud) : imgAt G (mR G w kp tx txl rf ya yb at2 st2 iwd ifg nb fr la nms nd wf hh tl) (q + 9) we r cl seen kept rd nw ud := h
/-- the image i: none, or one that both sides hold -/
def im1 (G : zG) (Y : Nat) (w kp : Nat → Nat) (im : Nat → Option Nat) (tl : List va_E) (q : Nat → Nat) (i : Nat) : Prop :=
  (im i = none ∧ kp i = 0) ∨ (kp i = 1 ∧ im i = some (zad (zb G) (7 * q i + 9 + 21)) ∧ ∃ (we r cl seen kept : Nat → Nat) (rd nw ud : Nat), imT G tl (7 * q i) we r cl seen kept rd nw ud ∧ GS Y we r seen kept rd nw ud ∧ RS w (1091 * (1 + i)) we r seen kept rd nw ud)
def IM (G : zG) (Y : Nat) (w kp : Nat → Nat) (im : Nat → Option Nat) (tl : List va_E) : Prop :=
  ∃ (q : Nat → Nat) (n : Nat), tl.length = 7 * n ∧ (∀ i, i < 2 → im1 G Y w kp im tl q i) ∧ ∀ i j, i < 2 → j < 2 → im i ≠ none → im j ≠ none → i ≠ j → q i ≠ q j
theorem im1.mv {G : zG} {Y Y' : Nat} {w w' kp : Nat → Nat} {im : Nat → Option Nat} {tl : List va_E} {q : Nat → Nat} {i : Nat} (h : im1 G Y w kp im tl q i) (hY : Y ≤ Y') (hk : ∀ j, 1091 * (1 + i) ≤ j → j < 1091 * (1 + i) + 1091 → w' j = w j) : im1 G Y' w' kp im tl q i := by
  rcases h with h | ⟨h1, h2, we, r, cl, seen, kept, rd, nw, ud, h3, h4, h5⟩
  · exact Or.inl h
  · exact Or.inr ⟨h1, h2, we, r, cl, seen, kept, rd, nw, ud, h3, h4.mono hY, h5.keep h4 hk⟩
theorem IM.mv {G : zG} {Y Y' : Nat} {w w' kp : Nat → Nat} {im : Nat → Option Nat} {tl : List va_E} (h : IM G Y w kp im tl) (hY : Y ≤ Y') (hk : kpW w w') : IM G Y' w' kp im tl := by
  obtain ⟨q, n, h1, h2, h3⟩ := h
  exact ⟨q, n, h1, fun i hi => (h2 i hi).mv hY (fun j a b => hk j (by omega) (by omega)), h3⟩
theorem kpW.rf {w : Nat → Nat} : kpW w w := fun _ _ _ => rfl
theorem smW.kp {w w' : Nat → Nat} (h : smW w w') : kpW w w' := fun j _ h2 => h j h2
theorem smW.rs {w w' : Nat → Nat} {Y : Nat} {we r seen kept : Nat → Nat} {rd nw ud : Nat} (h : smW w w') (hR : RS w 0 we r seen kept rd nw ud) (g : GS Y we r seen kept rd nw ud) : RS w' 0 we r seen kept rd nw ud := hR.keep g (fun j _ b => h j (by omega))
/-- both sides hold the same -/
def MS (G : zG) (Y : Nat) (M : List va_E) : Prop := ∃ (we r cl seen kept : Nat → Nat) (rd nw ud : Nat) (im : Nat → Option Nat) (twe tr tcl bys wo nu : Nat → Nat) (len it so at_ be va : Nat) (sp ss al od : Nat → Nat) (ab bl : Int64) (bd no fu : Nat) (w kp : Nat → Nat) (rf : Nat → Nat) (at2 st2 : Nat) (iwd ifg : Int32) (nb : Nat → Nat) (fr : Int32) (la nms : Nat → Nat) (nd : Nat) (wf : Nat → Nat) (hh : Int64) (tl : List va_E), M = (xM G we r cl seen kept rd nw ud im twe tr tcl bys wo nu len it so at_ be va sp ss al od ab bl bd no fu (mR G w kp bys len rf ab bl at2 st2 iwd ifg nb fr la nms nd wf hh tl)) ∧ weZ twe ∧ rowT tr ∧ GS Y we r seen kept rd nw ud ∧ RS w 0 we r seen kept rd nw ud ∧ IM G Y w kp im tl ∧ len ≤ 150 ∧ (∀ j, bys j ≤ 127) ∧ rf 0 = bd ∧ rf 1 = no ∧ rf 2 = fu
theorem MS.mk {G : zG} {Y Y0 : Nat} {we r cl seen kept : Nat → Nat} {rd nw ud : Nat} {im : Nat → Option Nat} {twe tr tcl bys wo nu : Nat → Nat} {len it so at_ be va : Nat} {sp ss al od : Nat → Nat} {ab bl : Int64} {bd no fu : Nat} {w kp : Nat → Nat} {rf : Nat → Nat} {at2 st2 : Nat} {iwd ifg : Int32} {nb : Nat → Nat} {fr : Int32} {la nms : Nat → Nat} {nd : Nat} {wf : Nat → Nat} {hh : Int64} {tl : List va_E} (htw : weZ twe) (htr : rowT tr) (g : GS Y we r seen kept rd nw ud) (hR : RS w 0 we r seen kept rd nw ud) {w0 : Nat → Nat} (hI : IM G Y0 w0 kp im tl) (hY : Y0 ≤ Y) (hk : kpW w0 w) (hl : len ≤ 150) (hby : ∀ j, bys j ≤ 127) (h0 : rf 0 = bd) (h1 : rf 1 = no) (h2 : rf 2 = fu) : MS G Y (xM G we r cl seen kept rd nw ud im twe tr tcl bys wo nu len it so at_ be va sp ss al od ab bl bd no fu (mR G w kp bys len rf ab bl at2 st2 iwd ifg nb fr la nms nd wf hh tl)) :=
  ⟨_, _, _, _, _, _, _, _, _, _, _, _, _, _, _, _, _, _, _, _, _, _, _, _, _, _, _, _, _, _, _, _, _, _, _, _, _, _, _, _, _, _, _, _, _, rfl, htw, htr, g, hR, hI.mv hY hk, hl, hby, h0, h1, h2⟩
theorem MS.mk' {G : zG} {Y : Nat} {we r cl seen kept : Nat → Nat} {rd nw ud : Nat} {im : Nat → Option Nat} {twe tr tcl bys wo nu : Nat → Nat} {len it so at_ be va : Nat} {sp ss al od : Nat → Nat} {ab bl : Int64} {bd no fu : Nat} {w kp : Nat → Nat} {rf : Nat → Nat} {at2 st2 : Nat} {iwd ifg : Int32} {nb : Nat → Nat} {fr : Int32} {la nms : Nat → Nat} {nd : Nat} {wf : Nat → Nat} {hh : Int64} {tl : List va_E} (htw : weZ twe) (htr : rowT tr) (g : GS Y we r seen kept rd nw ud) (hR : RS w 0 we r seen kept rd nw ud) (hI : IM G Y w kp im tl) (hl : len ≤ 150) (hby : ∀ j, bys j ≤ 127) (h0 : rf 0 = bd) (h1 : rf 1 = no) (h2 : rf 2 = fu) : MS G Y (xM G we r cl seen kept rd nw ud im twe tr tcl bys wo nu len it so at_ be va sp ss al od ab bl bd no fu (mR G w kp bys len rf ab bl at2 st2 iwd ifg nb fr la nms nd wf hh tl)) :=
  ⟨_, _, _, _, _, _, _, _, _, _, _, _, _, _, _, _, _, _, _, _, _, _, _, _, _, _, _, _, _, _, _, _, _, _, _, _, _, _, _, _, _, _, _, _, _, rfl, htw, htr, g, hR, hI, hl, hby, h0, h1, h2⟩
theorem MS.at0 {G : zG} {Y : Nat} {M : List va_E} (h : MS G Y M) : ∃ fs, M[0]? = some (.inr (3, fs)) := by
  obtain ⟨we, r, cl, seen, kept, rd, nw, ud, im, twe, tr, tcl, bys, wo, nu, len, it, so, at_, be, va, sp, ss, al, od, ab, bl, bd, no, fu, w, kp, rf, at2, st2, iwd, ifg, nb, fr, la, nms, nd, wf, hh, tl, rfl, -⟩ := h
  exact ⟨_, rfl⟩
/-! calls of any depth and cost up to a bound -/
def zK (G : zG) (y : MethodName) (cc : ByteArray) (nL : Nat) (ret : Option FieldType) (av : List Value) (M : List va_E) (Q1 : Option Value → List va_E → Prop) : Prop := ∃ d mc ms, d ≤ 20 ∧ mc ≤ 7 ∧ ms ≤ 1101 ∧ zS G d y cc nL ret av M mc ms Q1
def PT (G : zG) (Y : Nat) (ym : MethodName) (cm : ByteArray) (nm : Nat) (ret : Option FieldType) (As : List Value) (v : Value) (M1 : List va_E) : Prop :=
  (∃ fs, M1[21]? = some (.inr (4, fs))) ∧ zK G ym cm nm ret (.ref (zad (zb G) 21) :: As) M1 (zP (fun v' M2 => v' = v ∧ MS G (Y + 20) M2))
def isI (v : Value) : Prop := ∃ x, v = .int x
def isL (v : Value) : Prop := ∃ x, v = .long x
def PS (G : zG) (Y : Nat) (K : Value → Prop) (yx : MethodName) (cx : ByteArray) (nx : Nat) (ym : MethodName) (cm : ByteArray) (nm : Nat) (ret : Option FieldType) (As : List Value) (M : List va_E) : Prop :=
  zK G yx cx nx ret (.ref (zad (zb G) 0) :: As) M (zP (fun v M1 => K v ∧ PT G Y ym cm nm ret As v M1))
section PP
variable {G : zG} {Y d mc ms : Nat} {K : Value → Prop} {yx ym : MethodName} {cx cm : ByteArray} {nx nm : Nat} {ret : Option FieldType} {As : List Value} {M M1 M2 : List va_E} {v : Value} {P : List va_E → Prop}
theorem PT_e (hm : zS G d ym cm nm ret (.ref (zad (zb G) 21) :: As) M1 0 0 (zE v M2)) (hd : d ≤ 20) (hf : ∃ fs, M1[21]? = some (.inr (4, fs))) (hS : MS G (Y + 20) M2) : PT G Y ym cm nm ret As v M1 :=
  ⟨hf, d, 0, 0, hd, Nat.zero_le _, Nat.zero_le _, hm.post (fun u M' q => by obtain ⟨rfl, rfl⟩ := q; exact ⟨_, rfl, rfl, hS⟩)⟩
theorem PT_p (hm : zS G d ym cm nm ret (.ref (zad (zb G) 21) :: As) M1 0 0 (zP (fun v' M2 => v' = v ∧ P M2))) (hd : d ≤ 20) (hf : ∃ fs, M1[21]? = some (.inr (4, fs))) (hS : ∀ M2, P M2 → MS G (Y + 20) M2) : PT G Y ym cm nm ret As v M1 :=
  ⟨hf, d, 0, 0, hd, Nat.zero_le _, Nat.zero_le _, hm.post (fun u M' q => by obtain ⟨x, rfl, h1, h2⟩ := q; exact ⟨_, rfl, h1, hS _ h2⟩)⟩
theorem PS_e (hx : zS G d yx cx nx ret (.ref (zad (zb G) 0) :: As) M mc ms (zE v M1)) (hK : K v) (hd : d ≤ 20) (hc : mc ≤ 7) (hs : ms ≤ 1101) (hm : PT G Y ym cm nm ret As v M1) : PS G Y K yx cx nx ym cm nm ret As M :=
  ⟨d, mc, ms, hd, hc, hs, hx.post (fun u M' q => by obtain ⟨rfl, rfl⟩ := q; exact ⟨_, rfl, hK, hm⟩)⟩
theorem PS_p (hx : zS G d yx cx nx ret (.ref (zad (zb G) 0) :: As) M mc ms (zP (fun v' M1 => v' = v ∧ P M1))) (hK : K v) (hd : d ≤ 20) (hc : mc ≤ 7) (hs : ms ≤ 1101) (hm : ∀ M1, P M1 → PT G Y ym cm nm ret As v M1) : PS G Y K yx cx nx ym cm nm ret As M :=
  ⟨d, mc, ms, hd, hc, hs, hx.post (fun u M' q => by obtain ⟨x, rfl, rfl, h2⟩ := q; exact ⟨_, rfl, hK, hm _ h2⟩)⟩
end PP
/-! numbers -/
theorem wi {x : Int32} (n : Nat) (hn : n < 2000000) : (0 ≤ x ∧ x < nI (n + 1)) ↔ (nI 0 ≤ x ∧ x ≤ nI n) := by
  rw [nI_0, Int32.lt_iff_toInt_lt, Int32.le_iff_toInt_le (y := nI n), nI_toInt (by omega), nI_toInt (by omega)]
  exact and_congr_right (fun _ => by omega)
theorem exB {x : Int32} {a b : Nat} (h : nI a ≤ x ∧ x ≤ nI b) (ha : a ≤ b) (hb : b < 2000000) : ∃ y, a ≤ y ∧ y ≤ b ∧ x = nI y := by
  rw [Int32.le_iff_toInt_le, Int32.le_iff_toInt_le, nI_toInt (by omega), nI_toInt (by omega)] at h
  obtain ⟨j, h1, rfl⟩ := nI_of (x := x) (fun q => by rw [Int32.lt_iff_toInt_lt, Int32.toInt_zero] at q; omega)
  rw [nI_toInt h1] at h
  exact ⟨j, by omega, by omega, rfl⟩
theorem exW {x : Int32} {n : Nat} (h : 0 ≤ x ∧ x < nI n) (hn : n < 2000000) : ∃ y, y < n ∧ x = nI y := by
  rw [Int32.le_iff_toInt_le, Int32.lt_iff_toInt_lt, nI_toInt (by omega), Int32.toInt_zero] at h
  obtain ⟨j, h1, rfl⟩ := nI_of (x := x) (fun q => by rw [Int32.lt_iff_toInt_lt, Int32.toInt_zero] at q; omega)
  rw [nI_toInt h1] at h
  exact ⟨j, by omega, rfl⟩
theorem dm_27 {r : Nat → Nat} (hr : rowOK r) {m : Nat} : ∀ c, c ≤ 9 → darnsM r m c ≤ 3 * c
  | 0, _ => Nat.le_refl _
  | c + 1, hc => by
    have h1 := dm_27 hr (m := m) c (by omega)
    have h2 := hr.2 c (by omega)
    by_cases h : bitN m c = 0
    · rw [dm_0 h]; omega
    · rw [dm_s h]; omega
theorem firstN_no {p : Nat → Bool} : ∀ n m, firstN p n m = none → ∀ k, m ≤ k → k < m + n → p k = false := by
  intro n
  induction n with
  | zero => intro m _ k h1 h2; omega
  | succ n ih =>
    intro m h k h1 h2
    unfold firstN at h
    split at h
    · cases h
    · rename_i hp
      by_cases e : k = m
      · rw [e]; simpa using hp
      · exact ih (m + 1) h k (by omega) (by omega)
