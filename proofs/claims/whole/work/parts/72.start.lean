set_option maxRecDepth 20000 in
set_option maxHeartbeats 4000000 in
/-- from the entry, for every script of at most 2560 ints, the law comes to its end with true -/
theorem whole_start {p : Program} {e : Env} {s : State} {m : MethodId} {below : List Frame} {meth : Method} {c : Code} (l : Launch) {b L : Nat} {xs : Nat → Int32} (hL : L ≤ 2560) (C0 : lw_At p s m meth c b L xs) : W p l e room_1 s m #[Value.ref b] below meth c s.heap [] 0 0 (lw_Z below #[Value.ref b] s) (entryFrame m ([Value.ref b] : List Value).toArray 4) := by
  obtain ⟨hx, hb, hr, hml, hown, hts, hX, hbl, hlocks, hgv⟩ := id C0
  obtain ⟨G, rfl, gb, gs, gl, hC⟩ := zC_start l hts hX hbl hgv
  have O : zOk G (p, e, room_1, s, m, #[Value.ref b], below, meth, c) ⟨"", meth.name, ""⟩ cL_law 4 ret RL 30 0 := ⟨hx, hb, hml, hown, fun w hw => hts w (zTb_in hw), hC, by rw [gb]; rfl, hlocks, hr, (Nat.le_of_ble_eq_true rfl), (Nat.le_of_ble_eq_true rfl), rfl⟩
  have hl := lv_entry ([.ref b]) (n := 4) (Nat.le_of_ble_eq_true rfl)
  rw [lg_entry_eq]
  generalize (lg_sl ([.ref b]) ++ List.replicate (4 - (lg_sl ([.ref b])).length) Slot.unset).toArray = ls at hl ⊢
  have hl : lv_has ls 4 [(0, .ref b)] := hl
  rw [← gs] at hl
  have hend : ∀ cells slots lv M, cells ≤ 600000 → slots ≤ 7302250 → Z G (p, e, room_1, s, m, #[Value.ref b], below, meth, c) cells slots (lw_Z below #[Value.ref b] s) 1077 lv [] M := fun cells slots lv M h1 h2 => by
    refine z_iconst O 1 dL_law_1077 (by decide) ?_
    intro H locs ls hH hS hl
    refine va_forget (fun q hq => ?_) (W.widen h1 h2 (lw_ret hx hb hr hlocks dL_law_1078))
    have h3 : zb G ≤ q.base := hS.2.2 q hq
    rw [← gb]; exact h3
  have key : Z G (p, e, room_1, s, m, #[Value.ref b], below, meth, c) 0 0 (lw_Z below #[Value.ref b] s) 0 [(0, .ref (zsa G 0))] [] [] := by
    refine z_new O rfl dL_law_0 clL_7 (Nat.le_of_ble_eq_true rfl) (Nat.le_of_ble_eq_true rfl) ?_
    refine z_dup O dL_law_3 rfl ?_
    refine z_eq (st' := [.ref (zad (zb G) 0), .ref (zad (zb G) 0)]) (M' := [.inr (3, [.null, .null, .null, .null, .null, .null, .null, .null, .long 0, .long 0, .int 0, .int 0, .int 0])]) rfl rfl rfl ?_
    refine z_I0u O x_init mX3_init lkL_9 dL_law_4 (Nat.le_of_ble_eq_true rfl) (by decide) ⟨Nat.le_of_ble_eq_true rfl, Nat.le_of_ble_eq_true rfl⟩ ?_
    refine z_astore_n O dL_law_7 (by decide) rfl ?_
    refine z_new O rfl dL_law_8 clL_10 (Nat.le_of_ble_eq_true rfl) (Nat.le_of_ble_eq_true rfl) ?_
    refine z_dup O dL_law_11 rfl ?_
    refine z_eq (st' := [.ref (zad (zb G) 21), .ref (zad (zb G) 21)]) (M' := (xM G (onesC (fun _ => 0) 9) (fun _ => 0) (fun _ => 0) (fun _ => 0) (fun _ => 0) 0 0 0 (fun _ => none) (onesC (fun _ => 0) 9) (fun _ => 0) (fun _ => 0) (fun _ => 0) (fun _ => 0) (fun _ => 0) 0 0 0 0 0 0 (fun _ => 0) (fun _ => 0) (fun _ => 0) (fun _ => 0) (lN 0) (lN 1) 0 0 0 []) ++ [.inr (4, [.null, .null, .null, .int 0, .null, .long 0, .long 0, .int 0, .int 0, .int 0, .int 0, .null, .int 0, .null, .null, .int 0, .null, .long 0])]) rfl rfl rfl ?_
    refine z_I0u O m_init mX4_init lkL_12 dL_law_12 (Nat.le_of_ble_eq_true rfl) (by decide) ⟨Nat.le_of_ble_eq_true rfl, Nat.le_of_ble_eq_true rfl⟩ ?_
    refine z_astore_n O dL_law_15 (by decide) rfl ?_
    refine z_iconst O (nI 0) dL_law_16 (by decide) ?_
    refine z_istore_n O dL_law_17 (by decide) rfl ?_
    refine z_eq (lv' := lvL G (5 * 0)) (st' := []) rfl rfl rfl ?_
    refine z_widen (k := 30 + 14 * 0) (n := 5938 + 2202 * 0) (by decide) (by decide) ?_
    exact law_loop O (by rw [gl]; exact hL) rfl rfl hend 600 0 _ (by rw [gl]; omega) (by decide) (MS.mk' (weZ_ones (fun _ _ => rfl)) ⟨fun _ _ => rfl, fun _ => by show 0 < 1048576; decide⟩ GS_zero RS_zero IM_zero (Nat.zero_le _) (fun _ => Nat.zero_le _) rfl rfl rfl)
  exact key s.heap [] ls ⟨fun k q hq => (by cases k <;> cases hq), (by rw [gb]; rfl)⟩ va_S.rf (by show lv_has ls c.maxLocals _; rw [hml]; exact hl)
