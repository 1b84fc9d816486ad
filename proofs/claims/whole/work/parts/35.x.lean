/-! ===== images, orders ===== -/
/-- an image: seven cells of the rest, from place q on -/
def imgAt (G : zG) (rest : List va_E) (q : Nat) (we r cl seen kept : Nat → Nat) (rd nw ud : Nat) : Prop :=
  rest[q]? = some (.inr (1, [.ref (zad (zb G) (q + 1 + 21)), .ref (zad (zb G) (q + 5 + 21)), .int (nI (rd)), .ref (zad (zb G) (q + 6 + 21)), .int (nI (nw)), .int (nI (ud))])) ∧ rest[q + 1]? = some (.inr (0, [.ref (zad (zb G) (q + 2 + 21)), .ref (zad (zb G) (q + 3 + 21)), .ref (zad (zb G) (q + 4 + 21))])) ∧ rest[q + 2]? = some (zIN G 9 we) ∧ rest[q + 3]? = some (zIN G 118 r) ∧ rest[q + 4]? = some (zIN G 3 cl) ∧ rest[q + 5]? = some (zIN G 18 seen) ∧ rest[q + 6]? = some (zIN G 944 kept)
def ffP (r : Nat → Nat) (L c : Nat) (s : Nat × (Nat → Nat)) : Nat → Nat × (Nat → Nat)
  | 0 => s
  | p + 1 => if fld r c p 3 + 1 = L ∧ (ffP r L c s p).1 < 6 then ((ffP r L c s p).1 + 1, updN (ffP r L c s p).2 (ffP r L c s p).1 (10 * c + p)) else ffP r L c s p
def ffC (r : Nat → Nat) (m L : Nat) (s : Nat × (Nat → Nat)) : Nat → Nat × (Nat → Nat)
  | 0 => s
  | c + 1 => if bitN m c = 0 then ffC r m L s c else ffP r L c (ffC r m L s c) (r (108 + c))
def ffG (r : Nat → Nat) (m dn : Nat) (od : Nat → Nat) : Nat → Nat × Nat × (Nat → Nat)
  | 0 => (0, 0, od)
  | g + 1 => if (ffG r m dn od g).1 < dn then ((ffC r m (nyC r m (ffG r m dn od g).2.1 9) ((ffG r m dn od g).1, (ffG r m dn od g).2.2) 9).1, nyC r m (ffG r m dn od g).2.1 9, (ffC r m (nyC r m (ffG r m dn od g).2.1 9) ((ffG r m dn od g).1, (ffG r m dn od g).2.2) 9).2) else ffG r m dn od g
theorem ffG_stop {r : Nat → Nat} {m dn : Nat} {od : Nat → Nat} {g : Nat} (h : ¬ (ffG r m dn od g).1 < dn) : ∀ n, ffG r m dn od (g + n) = ffG r m dn od g
  | 0 => rfl
  | n + 1 => by
    have ih := ffG_stop h n
    show (if (ffG r m dn od (g + n)).1 < dn then _ else ffG r m dn od (g + n)) = _
    rw [ih, if_neg h]
theorem ffP_le {r : Nat → Nat} {L c : Nat} {s : Nat × (Nat → Nat)} (h : s.1 ≤ 6) : ∀ p, (ffP r L c s p).1 ≤ 6
  | 0 => h
  | p + 1 => by
    have ih := ffP_le (r := r) (L := L) (c := c) h p
    unfold ffP
    split
    · rename_i hq; show _ + 1 ≤ 6; omega
    · exact ih
theorem ffC_le {r : Nat → Nat} {m L : Nat} {s : Nat × (Nat → Nat)} (h : s.1 ≤ 6) : ∀ c, (ffC r m L s c).1 ≤ 6
  | 0 => h
  | c + 1 => by
    have ih := ffC_le (r := r) (m := m) (L := L) h c
    unfold ffC
    split
    · exact ih
    · exact ffP_le ih _
theorem ffG_ok {r : Nat → Nat} (hr : rowOK r) {m dn : Nat} {od : Nat → Nat} : ∀ g, (ffG r m dn od g).1 ≤ 6 ∧ (ffG r m dn od g).2.1 ≤ 1048576
  | 0 => ⟨Nat.zero_le _, Nat.zero_le _⟩
  | g + 1 => by
    have ih := ffG_ok hr (m := m) (dn := dn) (od := od) g
    unfold ffG
    split
    · exact ⟨ffC_le ih.1 9, nyC_lt hr ih.2 9⟩
    · exact ih
theorem mI_ne {s L : Nat} (hs : s < 1048576) (hL : L ≤ 1048576) : nI s = mI L ↔ s + 1 = L := by
  rw [← mI_s, mI_eq (by omega) (by omega)]
section XS
variable {G : zG} {we r cl seen kept : Nat → Nat} {rd nw ud : Nat} {im : Nat → Option Nat} {twe tr tcl bys wo nu : Nat → Nat} {len it so at_ be va : Nat} {sp ss al od : Nat → Nat} {ab bl : Int64} {bd no fu : Nat} {rest : List va_E}
theorem imgAt.st {q : Nat} {we' r' cl' seen' kept' : Nat → Nat} {rd' nw' ud' : Nat} (h : imgAt G rest q we' r' cl' seen' kept' rd' nw' ud') : zState G (xM G we r cl seen kept rd nw ud im twe tr tcl bys wo nu len it so at_ be va sp ss al od ab bl bd no fu rest) (q + 21) (q + 1 + 21) (q + 2 + 21) (q + 3 + 21) (q + 4 + 21) (q + 5 + 21) (q + 6 + 21) we' r' cl' seen' kept' rd' nw' ud' := by
  obtain ⟨h0, h1, h2, h3, h4, h5, h6⟩ := h
  exact ⟨h0, ⟨h1, h2, h3, h4⟩, h5, h6⟩
set_option maxRecDepth 20000 in
set_option maxHeartbeats 4000000 in
theorem x_imageB {i : Int32} (hb : ¬ (0 ≤ i ∧ i < nI 2)) : zS G 2 yX3_image cX3_image 3 (some .int) [.ref (zad (zb G) 0), .int i] (xM G we r cl seen kept rd nw ud im twe tr tcl bys wo nu len it so at_ be va sp ss al od ab bl bd no fu rest) 0 0 (zE (.int (-2)) (xM G we r cl seen kept rd nw ud im twe tr tcl bys wo nu len it so at_ be va sp ss al od ab bl (bd + 1) no fu rest)) := by
  refine zS.of (by decide) (Nat.le_of_ble_eq_true rfl) (fun F O hR1 hR2 => ?_)
  have O : zOk G F yX3_image cX3_image 3 (some .int) RX3 2 (xM G we r cl seen kept rd nw ud im twe tr tcl bys wo nu len it so at_ be va sp ss al od ab bl bd no fu rest).length := O
  refine z_eq (lv' := [(0, _), (1, _)]) rfl rfl rfl ?_
  refine z_iload_n O dX3_image_0 rfl ?_
  refine z_iconst O (nI 2) dX3_image_1 (by decide) ?_
  refine z_S2e0 O s_within mX3_within lkX3_54 dX3_image_2 (Nat.le_of_ble_eq_true rfl) (by decide) ?_
  refine z_if_neB O 15 dX3_image_5 (by decide) (fun h5 => by exact absurd h5 hb) (fun h5 => ?_)
  refine z_aload_n O dX3_image_8 rfl ?_
  refine z_bipush O (-2) dX3_image_9 (by decide) ?_
  refine z_V1e0 O x_refuseB mX3_refuse lkX3_58 rfl (by rfl) dX3_image_11 (Nat.le_of_ble_eq_true rfl) (by decide) ?_
  exact z_iret O dX3_image_14 ⟨rfl, rfl⟩
set_option maxRecDepth 20000 in
set_option maxHeartbeats 4000000 in
theorem x_imageO {i q : Nat} (hi : i < 2) (him : im i = some (zad (zb G) (q + 21))) {we' r' cl' seen' kept' : Nat → Nat} {rd' nw' ud' : Nat} (him2 : imgAt G rest q we' r' cl' seen' kept' rd' nw' ud') : zS G 3 yX3_image cX3_image 3 (some .int) [.ref (zad (zb G) 0), .int (nI i)] (xM G we r cl seen kept rd nw ud im twe tr tcl bys wo nu len it so at_ be va sp ss al od ab bl bd no fu rest) 0 0 (zE (.int (nI 1)) (xM G we r cl seen kept rd nw ud im twe tr tcl bys wo nu len it so at_ be va sp ss al od ab bl bd no fu (((((rest.set (q + 2) (zIN G 9 (cpyN we we' 0 0 9))).set (q + 3) (zIN G 118 (cpyN r r' 0 0 118))).set (q + 5) (zIN G 18 (cpyN seen seen' 0 0 18))).set (q + 6) (zIN G 944 (cpyN kept kept' 0 0 944))).set q (.inr (1, [.ref (zad (zb G) (q + 1 + 21)), .ref (zad (zb G) (q + 5 + 21)), .int (nI rd), .ref (zad (zb G) (q + 6 + 21)), .int (nI nw), .int (nI ud)]))))) := by
  refine zS.of (by decide) (Nat.le_of_ble_eq_true rfl) (fun F O hR1 hR2 => ?_)
  have O : zOk G F yX3_image cX3_image 3 (some .int) RX3 3 (xM G we r cl seen kept rd nw ud im twe tr tcl bys wo nu len it so at_ be va sp ss al od ab bl bd no fu rest).length := O
  refine z_eq (lv' := [(0, _), (1, _)]) rfl rfl rfl ?_
  refine z_iload_n O dX3_image_0 rfl ?_
  refine z_iconst O (nI 2) dX3_image_1 (by decide) ?_
  refine z_S2e0 O (s_withinN (by omega) (by omega)) mX3_within lkX3_54 dX3_image_2 (Nat.le_of_ble_eq_true rfl) (by decide) ?_
  refine z_if_neB O 15 dX3_image_5 (by decide) (fun h5 => ?_) (fun h5 => by omega)
  refine z_aload_n O dX3_image_15 rfl ?_
  refine z_get O dX3_image_16 flX3_16 (by rfl) (by rfl) ?_
  refine z_iload_n O dX3_image_19 rfl ?_
  refine z_aald O dX3_image_20 (by rfl) (vp_in_nI hi (by decide)) ?_
  refine z_top (v' := .ref (zad (zb G) (q + 21))) (by rw [nI_clamp (by omega), him]; rfl) ?_
  refine z_astore_n (lv' := [(0, _), (1, _), (2, _)]) O dX3_image_21 (by decide) rfl ?_
  refine z_aload_n O dX3_image_22 rfl ?_
  refine z_ifnonnull O 41 dX3_image_23 (by decide) ?_
  refine z_aload_n O dX3_image_41 rfl ?_
  refine z_aload_n O dX3_image_42 rfl ?_
  refine z_get O dX3_image_43 flX3_12 (by rfl) (by rfl) ?_
  refine z_V1u0 O (t_copy him2.st xI (by omega) (by omega) (by omega) (by omega) (by omega) (by omega) (by omega) (by omega) (by omega) (by omega) (by omega) (by omega) (by omega) (by omega) (by omega) (by omega) (by omega) (by omega) (by omega) (by omega) (by omega) (by omega) (by omega) (by omega) (by omega) (by omega) (by omega) (by omega) (by omega) (by omega) (by omega) (by omega) (by omega) (by omega) (by omega)) mX1_copy lkX3_242 rfl him2.st.1 dX3_image_46 (Nat.le_of_ble_eq_true rfl) (by decide) ?_
  refine z_M (show _ = (xM G we r cl seen kept rd nw ud im twe tr tcl bys wo nu len it so at_ be va sp ss al od ab bl bd no fu (((((rest.set (q + 2) (zIN G 9 (cpyN we we' 0 0 9))).set (q + 3) (zIN G 118 (cpyN r r' 0 0 118))).set (q + 5) (zIN G 18 (cpyN seen seen' 0 0 18))).set (q + 6) (zIN G 944 (cpyN kept kept' 0 0 944))).set q (.inr (1, [.ref (zad (zb G) (q + 1 + 21)), .ref (zad (zb G) (q + 5 + 21)), .int (nI rd), .ref (zad (zb G) (q + 6 + 21)), .int (nI nw), .int (nI ud)])))) from rfl) ?_
  refine z_iconst O (nI 1) dX3_image_49 (by decide) ?_
  exact z_iret O dX3_image_50 ⟨rfl, rfl⟩
set_option maxRecDepth 20000 in
set_option maxHeartbeats 4000000 in
theorem x_imageN {i : Nat} (hi : i < 2) (him : im i = none) : zS G 5 yX3_image cX3_image 3 (some .int) [.ref (zad (zb G) 0), .int (nI i)] (xM G we r cl seen kept rd nw ud im twe tr tcl bys wo nu len it so at_ be va sp ss al od ab bl bd no fu rest) 7 1101 (zE (.int (nI 1)) (xM G we r cl seen kept rd nw ud (va_up im i (some (zad (zb G) (rest.length + 21)))) twe tr tcl bys wo nu len it so at_ be va sp ss al od ab bl bd no fu (rest ++ [.inr (1, [.ref (zad (zb G) (rest.length + 1 + 21)), .ref (zad (zb G) (rest.length + 5 + 21)), .int (nI (rd)), .ref (zad (zb G) (rest.length + 6 + 21)), .int (nI (nw)), .int (nI (ud))]), .inr (0, [.ref (zad (zb G) (rest.length + 2 + 21)), .ref (zad (zb G) (rest.length + 3 + 21)), .ref (zad (zb G) (rest.length + 4 + 21))]), zIN G 9 (cpyN we (onesC (fun _ => 0) 9) 0 0 9), zIN G 118 (cpyN r (fun _ => 0) 0 0 118), zIN G 3 (fun _ => 0), zIN G 18 (cpyN seen (fun _ => 0) 0 0 18), zIN G 944 (cpyN kept (fun _ => 0) 0 0 944)]))) := by
  refine zS.of (by decide) (Nat.le_of_ble_eq_true rfl) (fun F O hR1 hR2 => ?_)
  have O : zOk G F yX3_image cX3_image 3 (some .int) RX3 5 (xM G we r cl seen kept rd nw ud im twe tr tcl bys wo nu len it so at_ be va sp ss al od ab bl bd no fu rest).length := O
  refine z_eq (lv' := [(0, _), (1, _)]) rfl rfl rfl ?_
  have hnew : imgAt G (rest ++ [.inr (1, [.ref (zad (zb G) (rest.length + 1 + 21)), .ref (zad (zb G) (rest.length + 5 + 21)), .int (nI (0)), .ref (zad (zb G) (rest.length + 6 + 21)), .int (nI (0)), .int (nI (0))]), .inr (0, [.ref (zad (zb G) (rest.length + 2 + 21)), .ref (zad (zb G) (rest.length + 3 + 21)), .ref (zad (zb G) (rest.length + 4 + 21))]), zIN G 9 (onesC (fun _ => 0) 9), zIN G 118 (fun _ => 0), zIN G 3 (fun _ => 0), zIN G 18 (fun _ => 0), zIN G 944 (fun _ => 0)]) rest.length (onesC (fun _ => 0) 9) (fun _ => 0) (fun _ => 0) (fun _ => 0) (fun _ => 0) 0 0 0 := ⟨zla 0, zla 1, zla 2, zla 3, zla 4, zla 5, zla 6⟩
  have hfin : ((((((xM G we r cl seen kept rd nw ud (va_up im i (some (zad (zb G) (rest.length + 21)))) twe tr tcl bys wo nu len it so at_ be va sp ss al od ab bl bd no fu (rest ++ [.inr (1, [.ref (zad (zb G) (rest.length + 1 + 21)), .ref (zad (zb G) (rest.length + 5 + 21)), .int (nI (0)), .ref (zad (zb G) (rest.length + 6 + 21)), .int (nI (0)), .int (nI (0))]), .inr (0, [.ref (zad (zb G) (rest.length + 2 + 21)), .ref (zad (zb G) (rest.length + 3 + 21)), .ref (zad (zb G) (rest.length + 4 + 21))]), zIN G 9 (onesC (fun _ => 0) 9), zIN G 118 (fun _ => 0), zIN G 3 (fun _ => 0), zIN G 18 (fun _ => 0), zIN G 944 (fun _ => 0)]))).set (rest.length + 2 + 21) (zIN G 9 (cpyN we (onesC (fun _ => 0) 9) 0 0 9))).set (rest.length + 3 + 21) (zIN G 118 (cpyN r (fun _ => 0) 0 0 118))).set (rest.length + 5 + 21) (zIN G 18 (cpyN seen (fun _ => 0) 0 0 18))).set (rest.length + 6 + 21) (zIN G 944 (cpyN kept (fun _ => 0) 0 0 944))).set (rest.length + 21) (.inr (1, [.ref (zad (zb G) (rest.length + 1 + 21)), .ref (zad (zb G) (rest.length + 5 + 21)), .int (nI rd), .ref (zad (zb G) (rest.length + 6 + 21)), .int (nI nw), .int (nI ud)])) = (xM G we r cl seen kept rd nw ud (va_up im i (some (zad (zb G) (rest.length + 21)))) twe tr tcl bys wo nu len it so at_ be va sp ss al od ab bl bd no fu (rest ++ [.inr (1, [.ref (zad (zb G) (rest.length + 1 + 21)), .ref (zad (zb G) (rest.length + 5 + 21)), .int (nI (rd)), .ref (zad (zb G) (rest.length + 6 + 21)), .int (nI (nw)), .int (nI (ud))]), .inr (0, [.ref (zad (zb G) (rest.length + 2 + 21)), .ref (zad (zb G) (rest.length + 3 + 21)), .ref (zad (zb G) (rest.length + 4 + 21))]), zIN G 9 (cpyN we (onesC (fun _ => 0) 9) 0 0 9), zIN G 118 (cpyN r (fun _ => 0) 0 0 118), zIN G 3 (fun _ => 0), zIN G 18 (cpyN seen (fun _ => 0) 0 0 18), zIN G 944 (cpyN kept (fun _ => 0) 0 0 944)])) := by
    show (xM G we r cl seen kept rd nw ud (va_up im i (some (zad (zb G) (rest.length + 21)))) twe tr tcl bys wo nu len it so at_ be va sp ss al od ab bl bd no fu ((((((rest ++ [.inr (1, [.ref (zad (zb G) (rest.length + 1 + 21)), .ref (zad (zb G) (rest.length + 5 + 21)), .int (nI (0)), .ref (zad (zb G) (rest.length + 6 + 21)), .int (nI (0)), .int (nI (0))]), .inr (0, [.ref (zad (zb G) (rest.length + 2 + 21)), .ref (zad (zb G) (rest.length + 3 + 21)), .ref (zad (zb G) (rest.length + 4 + 21))]), zIN G 9 (onesC (fun _ => 0) 9), zIN G 118 (fun _ => 0), zIN G 3 (fun _ => 0), zIN G 18 (fun _ => 0), zIN G 944 (fun _ => 0)]).set (rest.length + 2) (zIN G 9 (cpyN we (onesC (fun _ => 0) 9) 0 0 9))).set (rest.length + 3) (zIN G 118 (cpyN r (fun _ => 0) 0 0 118))).set (rest.length + 5) (zIN G 18 (cpyN seen (fun _ => 0) 0 0 18))).set (rest.length + 6) (zIN G 944 (cpyN kept (fun _ => 0) 0 0 944))).set (rest.length + 0) (.inr (1, [.ref (zad (zb G) (rest.length + 1 + 21)), .ref (zad (zb G) (rest.length + 5 + 21)), .int (nI rd), .ref (zad (zb G) (rest.length + 6 + 21)), .int (nI nw), .int (nI ud)])))) = _
    rw [zls, zls, zls, zls, zls]
    rfl
  refine z_iload_n O dX3_image_0 rfl ?_
  refine z_iconst O (nI 2) dX3_image_1 (by decide) ?_
  refine z_S2e O (s_withinN (by omega) (by omega)) mX3_within lkX3_54 dX3_image_2 (Nat.le_of_ble_eq_true rfl) (by decide) ⟨by rw [hR1]; decide, by rw [hR2]; decide⟩ ?_
  refine z_if_neB O 15 dX3_image_5 (by decide) (fun h5 => ?_) (fun h5 => by omega)
  refine z_aload_n O dX3_image_15 rfl ?_
  refine z_get O dX3_image_16 flX3_16 (by rfl) (by rfl) ?_
  refine z_iload_n O dX3_image_19 rfl ?_
  refine z_aald O dX3_image_20 (by rfl) (vp_in_nI hi (by decide)) ?_
  refine z_top (v' := .null) (by rw [nI_clamp (by omega), him]; rfl) ?_
  refine z_astore_nN (lv' := [(0, _), (1, _), (2, _)]) O dX3_image_21 (by decide) rfl ?_
  refine z_aload_nN O dX3_image_22 rfl ?_
  refine z_ifnonnullN O dX3_image_23 ?_
  refine z_new O (by simp [xM]) dX3_image_26 clX3_9 (by rw [hR1]; decide) (by rw [hR2]; decide) ?_
  refine z_top (v' := .ref (zad (zb G) (rest.length + 21))) (by simp [xM]) ?_
  refine z_M (show _ = (xM G we r cl seen kept rd nw ud im twe tr tcl bys wo nu len it so at_ be va sp ss al od ab bl bd no fu (rest ++ [.inr (1, [.null, .null, .int 0, .null, .int 0, .int 0])])) from rfl) ?_
  refine z_dup O dX3_image_29 rfl ?_
  refine z_IN0u O (show zS G 3 yX1_init cX1_init 1 none [.ref (zad (zb G) (rest.length + 21))] (xM G we r cl seen kept rd nw ud im twe tr tcl bys wo nu len it so at_ be va sp ss al od ab bl bd no fu (rest ++ [.inr (1, [.null, .null, .int 0, .null, .int 0, .int 0])])) 6 1095 (zU (xM G we r cl seen kept rd nw ud im twe tr tcl bys wo nu len it so at_ be va sp ss al od ab bl bd no fu (rest ++ [.inr (1, [.ref (zad (zb G) (rest.length + 1 + 21)), .ref (zad (zb G) (rest.length + 5 + 21)), .int (nI (0)), .ref (zad (zb G) (rest.length + 6 + 21)), .int (nI (0)), .int (nI (0))]), .inr (0, [.ref (zad (zb G) (rest.length + 2 + 21)), .ref (zad (zb G) (rest.length + 3 + 21)), .ref (zad (zb G) (rest.length + 4 + 21))]), zIN G 9 (onesC (fun _ => 0) 9), zIN G 118 (fun _ => 0), zIN G 3 (fun _ => 0), zIN G 18 (fun _ => 0), zIN G 944 (fun _ => 0)]))) by
      have h := t_init (G := G) (N := (xM G we r cl seen kept rd nw ud im twe tr tcl bys wo nu len it so at_ be va sp ss al od ab bl bd no fu rest))
      simp only [xM, List.length_cons, List.cons_append] at h ⊢
      exact h) mX1_init nlX3_11 dX3_image_30 (Nat.le_of_ble_eq_true rfl) (by decide) ⟨by rw [hR1]; decide, by rw [hR2]; decide⟩ ?_
  refine z_M (show _ = (xM G we r cl seen kept rd nw ud im twe tr tcl bys wo nu len it so at_ be va sp ss al od ab bl bd no fu (rest ++ [.inr (1, [.ref (zad (zb G) (rest.length + 1 + 21)), .ref (zad (zb G) (rest.length + 5 + 21)), .int (nI (0)), .ref (zad (zb G) (rest.length + 6 + 21)), .int (nI (0)), .int (nI (0))]), .inr (0, [.ref (zad (zb G) (rest.length + 2 + 21)), .ref (zad (zb G) (rest.length + 3 + 21)), .ref (zad (zb G) (rest.length + 4 + 21))]), zIN G 9 (onesC (fun _ => 0) 9), zIN G 118 (fun _ => 0), zIN G 3 (fun _ => 0), zIN G 18 (fun _ => 0), zIN G 944 (fun _ => 0)])) from rfl) ?_
  refine z_astore_n (lv' := [(0, _), (1, _), (2, _)]) O dX3_image_33 (by decide) rfl ?_
  refine z_aload_n O dX3_image_34 rfl ?_
  refine z_get O dX3_image_35 flX3_16 (by rfl) (by rfl) ?_
  refine z_iload_n O dX3_image_38 rfl ?_
  refine z_aload_n O dX3_image_39 rfl ?_
  refine z_aast O (by simp [xM]) dX3_image_40 (by rfl) (show ((xM G we r cl seen kept rd nw ud im twe tr tcl bys wo nu len it so at_ be va sp ss al od ab bl bd no fu (rest ++ [.inr (1, [.ref (zad (zb G) (rest.length + 1 + 21)), .ref (zad (zb G) (rest.length + 5 + 21)), .int (nI (0)), .ref (zad (zb G) (rest.length + 6 + 21)), .int (nI (0)), .int (nI (0))]), .inr (0, [.ref (zad (zb G) (rest.length + 2 + 21)), .ref (zad (zb G) (rest.length + 3 + 21)), .ref (zad (zb G) (rest.length + 4 + 21))]), zIN G 9 (onesC (fun _ => 0) 9), zIN G 118 (fun _ => 0), zIN G 3 (fun _ => 0), zIN G 18 (fun _ => 0), zIN G 944 (fun _ => 0)])))[rest.length + 21]? = _ from hnew.1) (vp_in_nI hi (by decide)) ?_
  refine z_M (show _ = (xM G we r cl seen kept rd nw ud (va_up im i (some (zad (zb G) (rest.length + 21)))) twe tr tcl bys wo nu len it so at_ be va sp ss al od ab bl bd no fu (rest ++ [.inr (1, [.ref (zad (zb G) (rest.length + 1 + 21)), .ref (zad (zb G) (rest.length + 5 + 21)), .int (nI (0)), .ref (zad (zb G) (rest.length + 6 + 21)), .int (nI (0)), .int (nI (0))]), .inr (0, [.ref (zad (zb G) (rest.length + 2 + 21)), .ref (zad (zb G) (rest.length + 3 + 21)), .ref (zad (zb G) (rest.length + 4 + 21))]), zIN G 9 (onesC (fun _ => 0) 9), zIN G 118 (fun _ => 0), zIN G 3 (fun _ => 0), zIN G 18 (fun _ => 0), zIN G 944 (fun _ => 0)])) by rw [nI_clamp (by omega)]; rfl) ?_
  refine z_aload_n O dX3_image_41 rfl ?_
  refine z_aload_n O dX3_image_42 rfl ?_
  refine z_get O dX3_image_43 flX3_12 (by rfl) (by rfl) ?_
  refine z_V1u O (t_copy hnew.st xI (by omega) (by omega) (by omega) (by omega) (by omega) (by omega) (by omega) (by omega) (by omega) (by omega) (by omega) (by omega) (by omega) (by omega) (by omega) (by omega) (by omega) (by omega) (by omega) (by omega) (by omega) (by omega) (by omega) (by omega) (by omega) (by omega) (by omega) (by omega) (by omega) (by omega) (by omega) (by omega) (by omega) (by omega) (by omega)) mX1_copy lkX3_242 rfl hnew.st.1 dX3_image_46 (Nat.le_of_ble_eq_true rfl) (by decide) ⟨by rw [hR1]; decide, by rw [hR2]; decide⟩ ?_
  refine z_M (show _ = (xM G we r cl seen kept rd nw ud (va_up im i (some (zad (zb G) (rest.length + 21)))) twe tr tcl bys wo nu len it so at_ be va sp ss al od ab bl bd no fu (rest ++ [.inr (1, [.ref (zad (zb G) (rest.length + 1 + 21)), .ref (zad (zb G) (rest.length + 5 + 21)), .int (nI (rd)), .ref (zad (zb G) (rest.length + 6 + 21)), .int (nI (nw)), .int (nI (ud))]), .inr (0, [.ref (zad (zb G) (rest.length + 2 + 21)), .ref (zad (zb G) (rest.length + 3 + 21)), .ref (zad (zb G) (rest.length + 4 + 21))]), zIN G 9 (cpyN we (onesC (fun _ => 0) 9) 0 0 9), zIN G 118 (cpyN r (fun _ => 0) 0 0 118), zIN G 3 (fun _ => 0), zIN G 18 (cpyN seen (fun _ => 0) 0 0 18), zIN G 944 (cpyN kept (fun _ => 0) 0 0 944)])) from hfin) ?_
  refine z_iconst O (nI 1) dX3_image_49 (by decide) ?_
  exact z_iret O dX3_image_50 ⟨rfl, rfl⟩
set_option maxRecDepth 20000 in
set_option maxHeartbeats 4000000 in
theorem x_fromB {i : Int32} (hb : ¬ (0 ≤ i ∧ i < nI 2)) : zS G 2 yX3_from cX3_from 3 (some .int) [.ref (zad (zb G) 0), .int i] (xM G we r cl seen kept rd nw ud im twe tr tcl bys wo nu len it so at_ be va sp ss al od ab bl bd no fu rest) 0 0 (zE (.int (-2)) (xM G we r cl seen kept rd nw ud im twe tr tcl bys wo nu len it so at_ be va sp ss al od ab bl (bd + 1) no fu rest)) := by
  refine zS.of (by decide) (Nat.le_of_ble_eq_true rfl) (fun F O hR1 hR2 => ?_)
  have O : zOk G F yX3_from cX3_from 3 (some .int) RX3 2 (xM G we r cl seen kept rd nw ud im twe tr tcl bys wo nu len it so at_ be va sp ss al od ab bl bd no fu rest).length := O
  refine z_eq (lv' := [(0, _), (1, _)]) rfl rfl rfl ?_
  refine z_iload_n O dX3_from_0 rfl ?_
  refine z_iconst O (nI 2) dX3_from_1 (by decide) ?_
  refine z_S2e0 O s_within mX3_within lkX3_54 dX3_from_2 (Nat.le_of_ble_eq_true rfl) (by decide) ?_
  refine z_if_neB O 15 dX3_from_5 (by decide) (fun h5 => by exact absurd h5 hb) (fun h5 => ?_)
  refine z_aload_n O dX3_from_8 rfl ?_
  refine z_bipush O (-2) dX3_from_9 (by decide) ?_
  refine z_V1e0 O x_refuseB mX3_refuse lkX3_58 rfl (by rfl) dX3_from_11 (Nat.le_of_ble_eq_true rfl) (by decide) ?_
  exact z_iret O dX3_from_14 ⟨rfl, rfl⟩
set_option maxRecDepth 20000 in
set_option maxHeartbeats 4000000 in
theorem x_fromN {i : Nat} (hi : i < 2) (him : im i = none) : zS G 2 yX3_from cX3_from 3 (some .int) [.ref (zad (zb G) 0), .int (nI i)] (xM G we r cl seen kept rd nw ud im twe tr tcl bys wo nu len it so at_ be va sp ss al od ab bl bd no fu rest) 0 0 (zE (.int (-3)) (xM G we r cl seen kept rd nw ud im twe tr tcl bys wo nu len it so at_ be va sp ss al od ab bl bd (no + 1) fu rest)) := by
  refine zS.of (by decide) (Nat.le_of_ble_eq_true rfl) (fun F O hR1 hR2 => ?_)
  have O : zOk G F yX3_from cX3_from 3 (some .int) RX3 2 (xM G we r cl seen kept rd nw ud im twe tr tcl bys wo nu len it so at_ be va sp ss al od ab bl bd no fu rest).length := O
  refine z_eq (lv' := [(0, _), (1, _)]) rfl rfl rfl ?_
  refine z_iload_n O dX3_from_0 rfl ?_
  refine z_iconst O (nI 2) dX3_from_1 (by decide) ?_
  refine z_S2e0 O (s_withinN (by omega) (by omega)) mX3_within lkX3_54 dX3_from_2 (Nat.le_of_ble_eq_true rfl) (by decide) ?_
  refine z_if_neB O 15 dX3_from_5 (by decide) (fun h5 => ?_) (fun h5 => by omega)
  refine z_aload_n O dX3_from_15 rfl ?_
  refine z_get O dX3_from_16 flX3_16 (by rfl) (by rfl) ?_
  refine z_iload_n O dX3_from_19 rfl ?_
  refine z_aald O dX3_from_20 (by rfl) (vp_in_nI hi (by decide)) ?_
  refine z_top (v' := .null) (by rw [nI_clamp (by omega), him]; rfl) ?_
  refine z_astore_nN (lv' := [(0, _), (1, _), (2, _)]) O dX3_from_21 (by decide) rfl ?_
  refine z_aload_nN O dX3_from_22 rfl ?_
  refine z_ifnonnullN O dX3_from_23 ?_
  refine z_aload_n O dX3_from_26 rfl ?_
  refine z_bipush O (-3) dX3_from_27 (by decide) ?_
  refine z_V1e0 O x_refuseN mX3_refuse lkX3_58 rfl (by rfl) dX3_from_29 (Nat.le_of_ble_eq_true rfl) (by decide) ?_
  exact z_iret O dX3_from_32 ⟨rfl, rfl⟩
set_option maxRecDepth 20000 in
set_option maxHeartbeats 4000000 in
theorem x_from {i q : Nat} (hi : i < 2) (him : im i = some (zad (zb G) (q + 21))) {we' r' cl' seen' kept' : Nat → Nat} {rd' nw' ud' : Nat} (him2 : imgAt G rest q we' r' cl' seen' kept' rd' nw' ud') : zS G 3 yX3_from cX3_from 3 (some .int) [.ref (zad (zb G) 0), .int (nI i)] (xM G we r cl seen kept rd nw ud im twe tr tcl bys wo nu len it so at_ be va sp ss al od ab bl bd no fu rest) 0 0 (zE (.int (nI 1)) (xM G (cpyN we' we 0 0 9) (cpyN r' r 0 0 118) cl (cpyN seen' seen 0 0 18) (cpyN kept' kept 0 0 944) rd' nw' ud' im twe tr tcl bys wo nu len it so at_ be va sp ss al od ab bl bd no fu rest)) := by
  refine zS.of (by decide) (Nat.le_of_ble_eq_true rfl) (fun F O hR1 hR2 => ?_)
  have O : zOk G F yX3_from cX3_from 3 (some .int) RX3 3 (xM G we r cl seen kept rd nw ud im twe tr tcl bys wo nu len it so at_ be va sp ss al od ab bl bd no fu rest).length := O
  refine z_eq (lv' := [(0, _), (1, _)]) rfl rfl rfl ?_
  refine z_iload_n O dX3_from_0 rfl ?_
  refine z_iconst O (nI 2) dX3_from_1 (by decide) ?_
  refine z_S2e0 O (s_withinN (by omega) (by omega)) mX3_within lkX3_54 dX3_from_2 (Nat.le_of_ble_eq_true rfl) (by decide) ?_
  refine z_if_neB O 15 dX3_from_5 (by decide) (fun h5 => ?_) (fun h5 => by omega)
  refine z_aload_n O dX3_from_15 rfl ?_
  refine z_get O dX3_from_16 flX3_16 (by rfl) (by rfl) ?_
  refine z_iload_n O dX3_from_19 rfl ?_
  refine z_aald O dX3_from_20 (by rfl) (vp_in_nI hi (by decide)) ?_
  refine z_top (v' := .ref (zad (zb G) (q + 21))) (by rw [nI_clamp (by omega), him]; rfl) ?_
  refine z_astore_n (lv' := [(0, _), (1, _), (2, _)]) O dX3_from_21 (by decide) rfl ?_
  refine z_aload_n O dX3_from_22 rfl ?_
  refine z_ifnonnull O 33 dX3_from_23 (by decide) ?_
  refine z_aload_n O dX3_from_33 rfl ?_
  refine z_get O dX3_from_34 flX3_12 (by rfl) (by rfl) ?_
  refine z_aload_n O dX3_from_37 rfl ?_
  refine z_V1u0 O (t_copy xI him2.st (by omega) (by omega) (by omega) (by omega) (by omega) (by omega) (by omega) (by omega) (by omega) (by omega) (by omega) (by omega) (by omega) (by omega) (by omega) (by omega) (by omega) (by omega) (by omega) (by omega) (by omega) (by omega) (by omega) (by omega) (by omega) (by omega) (by omega) (by omega) (by omega) (by omega) (by omega) (by omega) (by omega) (by omega) (by omega)) mX1_copy lkX3_242 rfl (by rfl) dX3_from_38 (Nat.le_of_ble_eq_true rfl) (by decide) ?_
  refine z_M (show _ = (xM G (cpyN we' we 0 0 9) (cpyN r' r 0 0 118) cl (cpyN seen' seen 0 0 18) (cpyN kept' kept 0 0 944) rd' nw' ud' im twe tr tcl bys wo nu len it so at_ be va sp ss al od ab bl bd no fu rest) from rfl) ?_
  refine z_iconst O (nI 1) dX3_from_41 (by decide) ?_
  exact z_iret O dX3_from_42 ⟨rfl, rfl⟩
set_option maxRecDepth 20000 in
set_option maxHeartbeats 4000000 in
theorem x_findFirstOrder (hr : rowOK r) {m dn : Nat} (hm : m < 512) (hdn : dn ≤ 6) : zS G 4 yX3_findFirstOrder cX3_findFirstOrder 8 none [.ref (zad (zb G) 0), .int (nI m), .int (nI dn)] (xM G we r cl seen kept rd nw ud im twe tr tcl bys wo nu len it so at_ be va sp ss al od ab bl bd no fu rest) 0 0 (zU (xM G we r cl seen kept rd nw ud im twe tr tcl bys wo nu len it so at_ be va sp ss al ((ffG r m dn od 6).2.2) ab bl bd no fu rest)) := by
  refine zS.of (by decide) (Nat.le_of_ble_eq_true rfl) (fun F O hR1 hR2 => ?_)
  have O : zOk G F yX3_findFirstOrder cX3_findFirstOrder 8 none RX3 4 (xM G we r cl seen kept rd nw ud im twe tr tcl bys wo nu len it so at_ be va sp ss al od ab bl bd no fu rest).length := O
  refine z_eq (lv' := [(0, _), (1, _), (2, _)]) rfl rfl rfl ?_
  refine z_iconst O (nI 0) dX3_findFirstOrder_0 (by decide) ?_
  refine z_istore_n (lv' := [(0, _), (1, _), (2, _), (3, _)]) O dX3_findFirstOrder_1 (by decide) rfl ?_
  refine z_iconst O (-1) dX3_findFirstOrder_2 (by decide) ?_
  refine z_top (v' := .int (mI 0)) (by decide) ?_
  refine z_istore (lv' := [(0, _), (1, _), (2, _), (3, _), (4, _)]) O dX3_findFirstOrder_3 (by decide) rfl ?_
  refine z_iconst O (nI 0) dX3_findFirstOrder_5 (by decide) ?_
  refine z_istore (lv' := [(0, _), (1, _), (2, _), (3, _), (4, _), (5, _)]) O dX3_findFirstOrder_6 (by decide) rfl ?_
  refine zdown (P := fun g => Z G F 0 0 (zEnd G F (zU (xM G we r cl seen kept rd nw ud im twe tr tcl bys wo nu len it so at_ be va sp ss al ((ffG r m dn od 6).2.2) ab bl bd no fu rest)) 0 0) 8 [(0, .ref (zad (zb G) 0)), (1, .int (nI m)), (2, .int (nI dn)), (3, .int (nI (ffG r m dn od g).1)), (4, .int (mI (ffG r m dn od g).2.1)), (5, .int (nI g))] [] (xM G we r cl seen kept rd nw ud im twe tr tcl bys wo nu len it so at_ be va sp ss al ((ffG r m dn od g).2.2 ) ab bl bd no fu rest)) (6) ?_ ?_ 
  · refine z_iload O dX3_findFirstOrder_8 rfl ?_
    refine z_bipush O (nI 6) dX3_findFirstOrder_10 (by decide) ?_
    refine z_icmp_geN O 141 dX3_findFirstOrder_12 (by decide) (by omega) (by omega) (fun h12 => ?_) (fun h12 => by omega)
    exact z_vret O dX3_findFirstOrder_141 ⟨rfl, rfl⟩
  · intro g hg ih 
    have hok := ffG_ok hr (m := m) (dn := dn) (od := od) g
    refine z_iload O dX3_findFirstOrder_8 rfl ?_
    refine z_bipush O (nI 6) dX3_findFirstOrder_10 (by decide) ?_
    refine z_icmp_geN O 141 dX3_findFirstOrder_12 (by decide) (by omega) (by omega) (fun h12 => by omega) (fun h12 => ?_)
    refine z_iload_n O dX3_findFirstOrder_15 rfl ?_
    refine z_iload_n O dX3_findFirstOrder_16 rfl ?_
    refine z_icmp_geN O 141 dX3_findFirstOrder_17 (by decide) (by omega) (by omega) (fun h17 => ?_) (fun h17 => ?_)
    · exact z_vret O dX3_findFirstOrder_141 ⟨rfl, by have h := ffG_stop (by omega : ¬ (ffG r m dn od g).1 < dn) (6 - g); rw [show g + (6 - g) = 6 by omega] at h; rw [h]⟩
    · refine z_aload_n O dX3_findFirstOrder_20 rfl ?_
      refine z_get O dX3_findFirstOrder_21 flX3_12 (by rfl) (by rfl) ?_
      refine z_get O dX3_findFirstOrder_24 flX3_62 (by rfl) (by rfl) ?_
      refine z_iload_n O dX3_findFirstOrder_27 rfl ?_
      refine z_iload O dX3_findFirstOrder_28 rfl ?_
      refine z_V2e0 O (s_nextYear xN hr (by omega) hok.2) mX0_nextYear lkX3_280 rfl (by rfl) dX3_findFirstOrder_30 (Nat.le_of_ble_eq_true rfl) (by decide) ?_
      refine z_istore (lv' := [(0, _), (1, _), (2, _), (3, _), (4, _), (5, _)]) O dX3_findFirstOrder_33 (by decide) rfl ?_
      refine z_iconst O (nI 0) dX3_findFirstOrder_35 (by decide) ?_
      refine z_istore (lv' := [(0, _), (1, _), (2, _), (3, _), (4, _), (5, _), (6, _)]) O dX3_findFirstOrder_36 (by decide) rfl ?_
      refine zdown (P := fun c => Z G F 0 0 (zEnd G F (zU (xM G we r cl seen kept rd nw ud im twe tr tcl bys wo nu len it so at_ be va sp ss al ((ffG r m dn od 6).2.2) ab bl bd no fu rest)) 0 0) 38 [(0, .ref (zad (zb G) 0)), (1, .int (nI m)), (2, .int (nI dn)), (3, .int (nI (ffC r m (nyC r m (ffG r m dn od g).2.1 9) ((ffG r m dn od g).1, (ffG r m dn od g).2.2) c).1)), (4, .int (mI (nyC r m (ffG r m dn od g).2.1 9))), (5, .int (nI g)), (6, .int (nI c))] [] (xM G we r cl seen kept rd nw ud im twe tr tcl bys wo nu len it so at_ be va sp ss al ((ffC r m (nyC r m (ffG r m dn od g).2.1 9) ((ffG r m dn od g).1, (ffG r m dn od g).2.2) c).2 ) ab bl bd no fu rest)) (9) ?_ ?_ 
      · refine z_iload O dX3_findFirstOrder_38 rfl ?_
        refine z_bipush O (nI 9) dX3_findFirstOrder_40 (by decide) ?_
        refine z_icmp_geN O 135 dX3_findFirstOrder_42 (by decide) (by omega) (by omega) (fun h42 => ?_) (fun h42 => by omega)
        refine z_iincN (lv' := [(0, _), (1, _), (2, _), (3, _), (4, _), (5, _), (6, _)]) O 1 dX3_findFirstOrder_135 (by decide) rfl rfl (by decide) ?_
        refine z_goto O 8 dX3_findFirstOrder_138 (by decide) ?_
        refine z_kp (lv' := [(0, _), (1, _), (2, _), (3, _), (4, _), (5, _)]) [0, 1, 2, 3, 4, 5] rfl ?_
        rw [show ffG r m dn od (g + 1) = ((ffC r m (nyC r m (ffG r m dn od g).2.1 9) ((ffG r m dn od g).1, (ffG r m dn od g).2.2) 9).1, (nyC r m (ffG r m dn od g).2.1 9), (ffC r m (nyC r m (ffG r m dn od g).2.1 9) ((ffG r m dn od g).1, (ffG r m dn od g).2.2) 9).2) from if_pos (by omega)] at ih
        exact ih
      · intro c hc ih 
        refine z_iload O dX3_findFirstOrder_38 rfl ?_
        refine z_bipush O (nI 9) dX3_findFirstOrder_40 (by decide) ?_
        refine z_icmp_geN O 135 dX3_findFirstOrder_42 (by decide) (by omega) (by omega) (fun h42 => by omega) (fun h42 => ?_)
        refine z_iload_n O dX3_findFirstOrder_45 rfl ?_
        refine z_iload O dX3_findFirstOrder_46 rfl ?_
        refine z_ishr O dX3_findFirstOrder_48 ?_
        refine z_iconst O (nI 1) dX3_findFirstOrder_49 (by decide) ?_
        refine z_iand O dX3_findFirstOrder_50 ?_
        refine z_top (v' := .int (nI (bitN m c))) (congrArg Value.int (zb_bit (by omega) (by omega))) ?_
        refine z_if_neN O 57 dX3_findFirstOrder_51 (by decide) (by have : bitN m c < 2 := Nat.mod_lt _ (by decide); omega) (fun h51 => ?_) (fun h51 => ?_)
        · refine z_iconst O (nI 0) dX3_findFirstOrder_57 (by decide) ?_
          refine z_istore (lv' := [(0, _), (1, _), (2, _), (3, _), (4, _), (5, _), (6, _), (7, _)]) O dX3_findFirstOrder_58 (by decide) rfl ?_
          refine zdown (P := fun p => Z G F 0 0 (zEnd G F (zU (xM G we r cl seen kept rd nw ud im twe tr tcl bys wo nu len it so at_ be va sp ss al ((ffG r m dn od 6).2.2) ab bl bd no fu rest)) 0 0) 60 [(0, .ref (zad (zb G) 0)), (1, .int (nI m)), (2, .int (nI dn)), (3, .int (nI (ffP r (nyC r m (ffG r m dn od g).2.1 9) c (ffC r m (nyC r m (ffG r m dn od g).2.1 9) ((ffG r m dn od g).1, (ffG r m dn od g).2.2) c) p).1)), (4, .int (mI (nyC r m (ffG r m dn od g).2.1 9))), (5, .int (nI g)), (6, .int (nI c)), (7, .int (nI p))] [] (xM G we r cl seen kept rd nw ud im twe tr tcl bys wo nu len it so at_ be va sp ss al ((ffP r (nyC r m (ffG r m dn od g).2.1 9) c (ffC r m (nyC r m (ffG r m dn od g).2.1 9) ((ffG r m dn od g).1, (ffG r m dn od g).2.2) c) p).2 ) ab bl bd no fu rest)) (r (108 + c)) ?_ ?_ 
          · refine z_iload O dX3_findFirstOrder_60 rfl ?_
            refine z_aload_n O dX3_findFirstOrder_62 rfl ?_
            refine z_get O dX3_findFirstOrder_63 flX3_12 (by rfl) (by rfl) ?_
            refine z_get O dX3_findFirstOrder_66 flX3_62 (by rfl) (by rfl) ?_
            refine z_iload O dX3_findFirstOrder_69 rfl ?_
            refine z_V1e0 O (s_many xN hc) mX0_many lkX3_138 rfl (by rfl) dX3_findFirstOrder_71 (Nat.le_of_ble_eq_true rfl) (by decide) ?_
            refine z_icmp_geN O 129 dX3_findFirstOrder_74 (by decide) (by have := hr.2 c hc; omega) (by have := hr.2 c hc; omega) (fun h74 => ?_) (fun h74 => by omega)
            refine z_iincN (lv' := [(0, _), (1, _), (2, _), (3, _), (4, _), (5, _), (6, _), (7, _)]) O 1 dX3_findFirstOrder_129 (by decide) rfl rfl (by decide) ?_
            refine z_goto O 38 dX3_findFirstOrder_132 (by decide) ?_
            refine z_kp (lv' := [(0, _), (1, _), (2, _), (3, _), (4, _), (5, _), (6, _)]) [0, 1, 2, 3, 4, 5, 6] rfl ?_
            rw [show ffC r m (nyC r m (ffG r m dn od g).2.1 9) ((ffG r m dn od g).1, (ffG r m dn od g).2.2) (c + 1) = ffP r (nyC r m (ffG r m dn od g).2.1 9) c (ffC r m (nyC r m (ffG r m dn od g).2.1 9) ((ffG r m dn od g).1, (ffG r m dn od g).2.2) c) (r (108 + c)) from if_neg h51] at ih
            exact ih
          · intro p hp ih 
            have hf6 := ffP_le (r := r) (L := (nyC r m (ffG r m dn od g).2.1 9)) (c := c) (ffC_le (r := r) (m := m) (L := (nyC r m (ffG r m dn od g).2.1 9)) (s := ((ffG r m dn od g).1, (ffG r m dn od g).2.2)) hok.1 c) p
            have hmn := mI_ne (s := fld r c p 3) (L := (nyC r m (ffG r m dn od g).2.1 9)) (hr.1 _) (nyC_lt hr hok.2 9)
            refine z_iload O dX3_findFirstOrder_60 rfl ?_
            refine z_aload_n O dX3_findFirstOrder_62 rfl ?_
            refine z_get O dX3_findFirstOrder_63 flX3_12 (by rfl) (by rfl) ?_
            refine z_get O dX3_findFirstOrder_66 flX3_62 (by rfl) (by rfl) ?_
            refine z_iload O dX3_findFirstOrder_69 rfl ?_
            refine z_V1e0 O (s_many xN hc) mX0_many lkX3_138 rfl (by rfl) dX3_findFirstOrder_71 (Nat.le_of_ble_eq_true rfl) (by decide) ?_
            refine z_icmp_geN O 129 dX3_findFirstOrder_74 (by decide) (by have := hr.2 c hc; omega) (by have := hr.2 c hc; omega) (fun h74 => by omega) (fun h74 => ?_)
            refine z_aload_n O dX3_findFirstOrder_77 rfl ?_
            refine z_get O dX3_findFirstOrder_78 flX3_12 (by rfl) (by rfl) ?_
            refine z_get O dX3_findFirstOrder_81 flX3_62 (by rfl) (by rfl) ?_
            refine z_iload O dX3_findFirstOrder_84 rfl ?_
            refine z_iload O dX3_findFirstOrder_86 rfl ?_
            refine z_iconst O (nI 3) dX3_findFirstOrder_88 (by decide) ?_
            refine z_V3e0 O (s_get xN hc (by have := hr.2 c hc; omega) (by decide)) mX0_get lkX3_145 rfl (by rfl) dX3_findFirstOrder_89 (Nat.le_of_ble_eq_true rfl) (by decide) ?_
            refine z_iload O dX3_findFirstOrder_92 rfl ?_
            refine z_icmp_ne O 123 dX3_findFirstOrder_94 (by decide) (fun h94 => ?_) (fun h94 => ?_)
            · refine z_iincN (lv' := [(0, _), (1, _), (2, _), (3, _), (4, _), (5, _), (6, _), (7, _)]) O 1 dX3_findFirstOrder_123 (by decide) rfl rfl (by decide) ?_
              refine z_goto O 60 dX3_findFirstOrder_126 (by decide) ?_
              first
              | (rw [show ffP r (nyC r m (ffG r m dn od g).2.1 9) c (ffC r m (nyC r m (ffG r m dn od g).2.1 9) ((ffG r m dn od g).1, (ffG r m dn od g).2.2) c) (p + 1) = (ffP r (nyC r m (ffG r m dn od g).2.1 9) c (ffC r m (nyC r m (ffG r m dn od g).2.1 9) ((ffG r m dn od g).1, (ffG r m dn od g).2.2) c) p) from if_neg (fun q => h94 (hmn.mpr q.1))] at ih; exact ih)
              | (rw [show ffP r (nyC r m (ffG r m dn od g).2.1 9) c (ffC r m (nyC r m (ffG r m dn od g).2.1 9) ((ffG r m dn od g).1, (ffG r m dn od g).2.2) c) (p + 1) = (ffP r (nyC r m (ffG r m dn od g).2.1 9) c (ffC r m (nyC r m (ffG r m dn od g).2.1 9) ((ffG r m dn od g).1, (ffG r m dn od g).2.2) c) p) from if_neg (fun q => by omega)] at ih; exact ih)
              | (rw [show ffP r (nyC r m (ffG r m dn od g).2.1 9) c (ffC r m (nyC r m (ffG r m dn od g).2.1 9) ((ffG r m dn od g).1, (ffG r m dn od g).2.2) c) (p + 1) = ((ffP r (nyC r m (ffG r m dn od g).2.1 9) c (ffC r m (nyC r m (ffG r m dn od g).2.1 9) ((ffG r m dn od g).1, (ffG r m dn od g).2.2) c) p).1 + 1, updN (ffP r (nyC r m (ffG r m dn od g).2.1 9) c (ffC r m (nyC r m (ffG r m dn od g).2.1 9) ((ffG r m dn od g).1, (ffG r m dn od g).2.2) c) p).2 (ffP r (nyC r m (ffG r m dn od g).2.1 9) c (ffC r m (nyC r m (ffG r m dn od g).2.1 9) ((ffG r m dn od g).1, (ffG r m dn od g).2.2) c) p).1 (10 * c + p)) from if_pos ⟨hmn.mp h94, by omega⟩] at ih; exact ih)
            · refine z_iload_n O dX3_findFirstOrder_97 rfl ?_
              refine z_bipush O (nI 6) dX3_findFirstOrder_98 (by decide) ?_
              refine z_icmp_ltN O 106 dX3_findFirstOrder_100 (by decide) (by omega) (by omega) (fun h100 => ?_) (fun h100 => ?_)
              · refine z_aload_n O dX3_findFirstOrder_106 rfl ?_
                refine z_get O dX3_findFirstOrder_107 flX3_44 (by rfl) (by rfl) ?_
                refine z_iload_n O dX3_findFirstOrder_110 rfl ?_
                refine z_bipush O (nI 10) dX3_findFirstOrder_111 (by decide) ?_
                refine z_iload O dX3_findFirstOrder_113 rfl ?_
                refine z_imulN O dX3_findFirstOrder_115 ?_
                refine z_iload O dX3_findFirstOrder_116 rfl ?_
                refine z_iaddN O dX3_findFirstOrder_118 ?_
                refine z_iastN O (by rfl) dX3_findFirstOrder_119 (by rfl) (by omega) (by decide) ?_
                refine z_M (show _ = (xM G we r cl seen kept rd nw ud im twe tr tcl bys wo nu len it so at_ be va sp ss al (updN (ffP r (nyC r m (ffG r m dn od g).2.1 9) c (ffC r m (nyC r m (ffG r m dn od g).2.1 9) ((ffG r m dn od g).1, (ffG r m dn od g).2.2) c) p).2 (ffP r (nyC r m (ffG r m dn od g).2.1 9) c (ffC r m (nyC r m (ffG r m dn od g).2.1 9) ((ffG r m dn od g).1, (ffG r m dn od g).2.2) c) p).1 (10 * c + p)) ab bl bd no fu rest) from rfl) ?_
                refine z_iincN (lv' := [(0, _), (1, _), (2, _), (3, _), (4, _), (5, _), (6, _), (7, _)]) O 1 dX3_findFirstOrder_120 (by decide) rfl rfl (by decide) ?_
                refine z_iincN (lv' := [(0, _), (1, _), (2, _), (3, _), (4, _), (5, _), (6, _), (7, _)]) O 1 dX3_findFirstOrder_123 (by decide) rfl rfl (by decide) ?_
                refine z_goto O 60 dX3_findFirstOrder_126 (by decide) ?_
                first
                | (rw [show ffP r (nyC r m (ffG r m dn od g).2.1 9) c (ffC r m (nyC r m (ffG r m dn od g).2.1 9) ((ffG r m dn od g).1, (ffG r m dn od g).2.2) c) (p + 1) = (ffP r (nyC r m (ffG r m dn od g).2.1 9) c (ffC r m (nyC r m (ffG r m dn od g).2.1 9) ((ffG r m dn od g).1, (ffG r m dn od g).2.2) c) p) from if_neg (fun q => h94 (hmn.mpr q.1))] at ih; exact ih)
                | (rw [show ffP r (nyC r m (ffG r m dn od g).2.1 9) c (ffC r m (nyC r m (ffG r m dn od g).2.1 9) ((ffG r m dn od g).1, (ffG r m dn od g).2.2) c) (p + 1) = (ffP r (nyC r m (ffG r m dn od g).2.1 9) c (ffC r m (nyC r m (ffG r m dn od g).2.1 9) ((ffG r m dn od g).1, (ffG r m dn od g).2.2) c) p) from if_neg (fun q => by omega)] at ih; exact ih)
                | (rw [show ffP r (nyC r m (ffG r m dn od g).2.1 9) c (ffC r m (nyC r m (ffG r m dn od g).2.1 9) ((ffG r m dn od g).1, (ffG r m dn od g).2.2) c) (p + 1) = ((ffP r (nyC r m (ffG r m dn od g).2.1 9) c (ffC r m (nyC r m (ffG r m dn od g).2.1 9) ((ffG r m dn od g).1, (ffG r m dn od g).2.2) c) p).1 + 1, updN (ffP r (nyC r m (ffG r m dn od g).2.1 9) c (ffC r m (nyC r m (ffG r m dn od g).2.1 9) ((ffG r m dn od g).1, (ffG r m dn od g).2.2) c) p).2 (ffP r (nyC r m (ffG r m dn od g).2.1 9) c (ffC r m (nyC r m (ffG r m dn od g).2.1 9) ((ffG r m dn od g).1, (ffG r m dn od g).2.2) c) p).1 (10 * c + p)) from if_pos ⟨hmn.mp h94, by omega⟩] at ih; exact ih)
              · refine z_goto O 123 dX3_findFirstOrder_103 (by decide) ?_
                refine z_iincN (lv' := [(0, _), (1, _), (2, _), (3, _), (4, _), (5, _), (6, _), (7, _)]) O 1 dX3_findFirstOrder_123 (by decide) rfl rfl (by decide) ?_
                refine z_goto O 60 dX3_findFirstOrder_126 (by decide) ?_
                first
                | (rw [show ffP r (nyC r m (ffG r m dn od g).2.1 9) c (ffC r m (nyC r m (ffG r m dn od g).2.1 9) ((ffG r m dn od g).1, (ffG r m dn od g).2.2) c) (p + 1) = (ffP r (nyC r m (ffG r m dn od g).2.1 9) c (ffC r m (nyC r m (ffG r m dn od g).2.1 9) ((ffG r m dn od g).1, (ffG r m dn od g).2.2) c) p) from if_neg (fun q => h94 (hmn.mpr q.1))] at ih; exact ih)
                | (rw [show ffP r (nyC r m (ffG r m dn od g).2.1 9) c (ffC r m (nyC r m (ffG r m dn od g).2.1 9) ((ffG r m dn od g).1, (ffG r m dn od g).2.2) c) (p + 1) = (ffP r (nyC r m (ffG r m dn od g).2.1 9) c (ffC r m (nyC r m (ffG r m dn od g).2.1 9) ((ffG r m dn od g).1, (ffG r m dn od g).2.2) c) p) from if_neg (fun q => by omega)] at ih; exact ih)
                | (rw [show ffP r (nyC r m (ffG r m dn od g).2.1 9) c (ffC r m (nyC r m (ffG r m dn od g).2.1 9) ((ffG r m dn od g).1, (ffG r m dn od g).2.2) c) (p + 1) = ((ffP r (nyC r m (ffG r m dn od g).2.1 9) c (ffC r m (nyC r m (ffG r m dn od g).2.1 9) ((ffG r m dn od g).1, (ffG r m dn od g).2.2) c) p).1 + 1, updN (ffP r (nyC r m (ffG r m dn od g).2.1 9) c (ffC r m (nyC r m (ffG r m dn od g).2.1 9) ((ffG r m dn od g).1, (ffG r m dn od g).2.2) c) p).2 (ffP r (nyC r m (ffG r m dn od g).2.1 9) c (ffC r m (nyC r m (ffG r m dn od g).2.1 9) ((ffG r m dn od g).1, (ffG r m dn od g).2.2) c) p).1 (10 * c + p)) from if_pos ⟨hmn.mp h94, by omega⟩] at ih; exact ih)
        · refine z_goto O 129 dX3_findFirstOrder_54 (by decide) ?_
          refine z_iincN (lv' := [(0, _), (1, _), (2, _), (3, _), (4, _), (5, _), (6, _)]) O 1 dX3_findFirstOrder_129 (by decide) rfl rfl (by decide) ?_
          refine z_goto O 38 dX3_findFirstOrder_132 (by decide) ?_
          rw [show ffC r m (nyC r m (ffG r m dn od g).2.1 9) ((ffG r m dn od g).1, (ffG r m dn od g).2.2) (c + 1) = (ffC r m (nyC r m (ffG r m dn od g).2.1 9) ((ffG r m dn od g).1, (ffG r m dn od g).2.2) c) from if_pos h51] at ih
          exact ih
end XS
