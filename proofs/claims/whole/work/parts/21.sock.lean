section SK
variable {G : zG} {M : List va_E} {k i1 i2 i3 : Nat} {we r cl : Nat → Nat}

set_option maxRecDepth 20000 in
set_option maxHeartbeats 4000000 in
theorem s_within {x l : Int32} : zS G 1 yX3_within cX3_within 2 (some .boolean) [.int x, .int l] M 0 0 (zE (.int (bI (0 ≤ x ∧ x < l))) M) := by
  refine zS.of (by decide) (Nat.le_of_ble_eq_true rfl) (fun F O hR1 hR2 => ?_)
  have O : zOk G F yX3_within cX3_within 2 (some .boolean) RX3 1 M.length := O
  refine z_eq (lv' := [(0, _), (1, _)]) rfl rfl rfl ?_
  refine z_iload_n O dX3_within_0 rfl ?_
  refine z_if_lt O 13 dX3_within_1 (by decide) (fun h1 => ?_) (fun h1 => ?_)
  · refine z_iconst O (nI 0) dX3_within_13 (by decide) ?_
    exact z_zret O dX3_within_14 rfl (by first | exact ⟨by rw [bI_t ⟨Int32.not_lt.mp h1, Int32.not_le.mp h6⟩]; rfl, rfl⟩ | exact ⟨by rw [bI_f (fun q => absurd h6 (Int32.not_le.mpr q.2))]; rfl, rfl⟩ | exact ⟨by rw [bI_f (fun q => absurd h1 (Int32.not_lt.mpr q.1))]; rfl, rfl⟩)
  · refine z_iload_n O dX3_within_4 rfl ?_
    refine z_iload_n O dX3_within_5 rfl ?_
    refine z_icmp_ge O 13 dX3_within_6 (by decide) (fun h6 => ?_) (fun h6 => ?_)
    · refine z_iconst O (nI 0) dX3_within_13 (by decide) ?_
      exact z_zret O dX3_within_14 rfl (by first | exact ⟨by rw [bI_t ⟨Int32.not_lt.mp h1, Int32.not_le.mp h6⟩]; rfl, rfl⟩ | exact ⟨by rw [bI_f (fun q => absurd h6 (Int32.not_le.mpr q.2))]; rfl, rfl⟩ | exact ⟨by rw [bI_f (fun q => absurd h1 (Int32.not_lt.mpr q.1))]; rfl, rfl⟩)
    · refine z_iconst O (nI 1) dX3_within_9 (by decide) ?_
      refine z_goto O 14 dX3_within_10 (by decide) ?_
      exact z_zret O dX3_within_14 rfl (by first | exact ⟨by rw [bI_t ⟨Int32.not_lt.mp h1, Int32.not_le.mp h6⟩]; rfl, rfl⟩ | exact ⟨by rw [bI_f (fun q => absurd h6 (Int32.not_le.mpr q.2))]; rfl, rfl⟩ | exact ⟨by rw [bI_f (fun q => absurd h1 (Int32.not_lt.mpr q.1))]; rfl, rfl⟩)
theorem s_withinN {a b : Nat} (ha : a < 2 ^ 31) (hb : b < 2 ^ 31) : zS G 1 yX3_within cX3_within 2 (some .boolean) [.int (nI a), .int (nI b)] M 0 0 (zE (.int (bI (a < b))) M) := by
  rw [← bI_congr (p := 0 ≤ nI a ∧ nI a < nI b) (q := a < b) ⟨fun q => (nI_ltI ha hb).mp q.2, fun q => ⟨nI_pos' ha, (nI_ltI ha hb).mpr q⟩⟩]
  exact s_within
set_option maxRecDepth 20000 in
set_option maxHeartbeats 4000000 in
theorem s_between {x l h : Int32} : zS G 1 yX3_between cX3_between 3 (some .boolean) [.int x, .int l, .int h] M 0 0 (zE (.int (bI (l ≤ x ∧ x ≤ h))) M) := by
  refine zS.of (by decide) (Nat.le_of_ble_eq_true rfl) (fun F O hR1 hR2 => ?_)
  have O : zOk G F yX3_between cX3_between 3 (some .boolean) RX3 1 M.length := O
  refine z_eq (lv' := [(0, _), (1, _), (2, _)]) rfl rfl rfl ?_
  refine z_iload_n O dX3_between_0 rfl ?_
  refine z_iload_n O dX3_between_1 rfl ?_
  refine z_icmp_lt O 14 dX3_between_2 (by decide) (fun h2 => ?_) (fun h2 => ?_)
  · refine z_iconst O (nI 0) dX3_between_14 (by decide) ?_
    exact z_zret O dX3_between_15 rfl (by first | exact ⟨by rw [bI_t ⟨Int32.not_lt.mp h2, Int32.not_lt.mp h7⟩]; rfl, rfl⟩ | exact ⟨by rw [bI_f (fun q => absurd h7 (Int32.not_lt.mpr q.2))]; rfl, rfl⟩ | exact ⟨by rw [bI_f (fun q => absurd h2 (Int32.not_lt.mpr q.1))]; rfl, rfl⟩)
  · refine z_iload_n O dX3_between_5 rfl ?_
    refine z_iload_n O dX3_between_6 rfl ?_
    refine z_icmp_gt O 14 dX3_between_7 (by decide) (fun h7 => ?_) (fun h7 => ?_)
    · refine z_iconst O (nI 0) dX3_between_14 (by decide) ?_
      exact z_zret O dX3_between_15 rfl (by first | exact ⟨by rw [bI_t ⟨Int32.not_lt.mp h2, Int32.not_lt.mp h7⟩]; rfl, rfl⟩ | exact ⟨by rw [bI_f (fun q => absurd h7 (Int32.not_lt.mpr q.2))]; rfl, rfl⟩ | exact ⟨by rw [bI_f (fun q => absurd h2 (Int32.not_lt.mpr q.1))]; rfl, rfl⟩)
    · refine z_iconst O (nI 1) dX3_between_10 (by decide) ?_
      refine z_goto O 15 dX3_between_11 (by decide) ?_
      exact z_zret O dX3_between_15 rfl (by first | exact ⟨by rw [bI_t ⟨Int32.not_lt.mp h2, Int32.not_lt.mp h7⟩]; rfl, rfl⟩ | exact ⟨by rw [bI_f (fun q => absurd h7 (Int32.not_lt.mpr q.2))]; rfl, rfl⟩ | exact ⟨by rw [bI_f (fun q => absurd h2 (Int32.not_lt.mpr q.1))]; rfl, rfl⟩)
theorem s_betweenN {a b e : Nat} (ha : a < 2 ^ 31) (hb : b < 2 ^ 31) (he : e < 2 ^ 31) : zS G 1 yX3_between cX3_between 3 (some .boolean) [.int (nI a), .int (nI b), .int (nI e)] M 0 0 (zE (.int (bI (b ≤ a ∧ a ≤ e))) M) := by
  rw [← bI_congr (p := nI b ≤ nI a ∧ nI a ≤ nI e) (q := b ≤ a ∧ a ≤ e) ⟨fun q => ⟨(nI_leI hb ha).mp q.1, (nI_leI ha he).mp q.2⟩, fun q => ⟨(nI_leI hb ha).mpr q.1, (nI_leI ha he).mpr q.2⟩⟩]
  exact s_between
set_option maxRecDepth 20000 in
set_option maxHeartbeats 4000000 in
theorem s_loss {kd w y : Nat} (h1 : kd < 2 ^ 31) (h2 : w < 2 ^ 30) (h3 : y < 2 ^ 31) : zS G 1 yX3_loss cX3_loss 3 (some .int) [.int (nI kd), .int (nI w), .int (nI y)] M 0 0 (zE (.int (nI (lossN kd w y))) M) := by
  refine zS.of (by decide) (Nat.le_of_ble_eq_true rfl) (fun F O hR1 hR2 => ?_)
  have O : zOk G F yX3_loss cX3_loss 3 (some .int) RX3 1 M.length := O
  refine z_eq (lv' := [(0, _), (1, _), (2, _)]) rfl rfl rfl ?_
  refine z_iload_n O dX3_loss_0 rfl ?_
  refine z_tabN O 1 32 dX3_loss_1 (by rfl) (by decide) (by decide) (by decide) (by decide) (fun hk1 => ?_) (fun hn1_1 => ?_)
  · refine z_iload_n O dX3_loss_32 rfl ?_
    refine z_iconst O (nI 1) dX3_loss_33 (by decide) ?_
    refine z_iaddN O dX3_loss_34 ?_
    refine z_iconst O (nI 2) dX3_loss_35 (by decide) ?_
    refine z_idivN O dX3_loss_36 (by omega) (by omega) (by omega) ?_
    exact z_iret O dX3_loss_37 ⟨by simp [lossN, *], rfl⟩
  refine z_tabN O 2 38 dX3_loss_1 (by rfl) (by decide) (by decide) (by decide) (by decide) (fun hk1 => ?_) (fun hn1_2 => ?_)
  · refine z_iload_n O dX3_loss_38 rfl ?_
    refine z_iconst O (nI 1) dX3_loss_39 (by decide) ?_
    refine z_iaddN O dX3_loss_40 ?_
    exact z_iret O dX3_loss_41 ⟨by simp [lossN, *], rfl⟩
  refine z_tabN O 3 32 dX3_loss_1 (by rfl) (by decide) (by decide) (by decide) (by decide) (fun hk1 => ?_) (fun hn1_3 => ?_)
  · refine z_iload_n O dX3_loss_32 rfl ?_
    refine z_iconst O (nI 1) dX3_loss_33 (by decide) ?_
    refine z_iaddN O dX3_loss_34 ?_
    refine z_iconst O (nI 2) dX3_loss_35 (by decide) ?_
    refine z_idivN O dX3_loss_36 (by omega) (by omega) (by omega) ?_
    exact z_iret O dX3_loss_37 ⟨by simp [lossN, *], rfl⟩
  refine z_tabN O 4 42 dX3_loss_1 (by rfl) (by decide) (by decide) (by decide) (by decide) (fun hk1 => ?_) (fun hn1_4 => ?_)
  · refine z_iload_n O dX3_loss_42 rfl ?_
    refine z_iconst O (nI 3) dX3_loss_43 (by decide) ?_
    refine z_iremN O dX3_loss_44 (by omega) (by omega) (by omega) ?_
    refine z_if_neN O 54 dX3_loss_45 (by decide) (by omega) (fun h45 => ?_) (fun h45 => ?_)
    · refine z_iconst O (nI 2) dX3_loss_54 (by decide) ?_
      refine z_iload_n O dX3_loss_55 rfl ?_
      refine z_iconst O (nI 1) dX3_loss_56 (by decide) ?_
      refine z_iaddN O dX3_loss_57 ?_
      refine z_imulN O dX3_loss_58 ?_
      exact z_iret O dX3_loss_59 ⟨by simp [lossN, *], rfl⟩
    · refine z_iload_n O dX3_loss_48 rfl ?_
      refine z_iconst O (nI 1) dX3_loss_49 (by decide) ?_
      refine z_iaddN O dX3_loss_50 ?_
      refine z_goto O 59 dX3_loss_51 (by decide) ?_
      exact z_iret O dX3_loss_59 ⟨by simp [lossN, *], rfl⟩
  refine z_tabNO O 60 dX3_loss_1 (by omega) (by omega) (by decide) ?_
  refine z_iload_n O dX3_loss_60 rfl ?_
  exact z_iret O dX3_loss_61 ⟨by simp [lossN, *], rfl⟩
set_option maxRecDepth 20000 in
set_option maxHeartbeats 4000000 in
theorem s_year (hS : zSock G M k i1 i2 i3 we r cl) : zS G 1 yX0_year cX0_year 1 (some .int) [.ref (zad (zb G) k)] M 0 0 (zE (.int (nI (r 117))) M) := by
  refine zS.of (by decide) (Nat.le_of_ble_eq_true rfl) (fun F O hR1 hR2 => ?_)
  have O : zOk G F yX0_year cX0_year 1 (some .int) RX0 1 M.length := O
  refine z_eq (lv' := [(0, _)]) rfl rfl rfl ?_
  obtain ⟨hk0, hk1, hk2, hk3⟩ := id hS
  refine z_aload_n O dX0_year_0 rfl ?_
  refine z_get O dX0_year_1 flX0_15 (by assumption) (by rfl) ?_
  refine z_bipush O (nI 117) dX0_year_4 (by decide) ?_
  refine z_ialdN O dX0_year_6 (by assumption) (by omega) (by decide) ?_
  exact z_iret O dX0_year_7 ⟨rfl, rfl⟩
set_option maxRecDepth 20000 in
set_option maxHeartbeats 4000000 in
theorem s_many (hS : zSock G M k i1 i2 i3 we r cl) {c : Nat} (hc : c < 9) : zS G 1 yX0_many cX0_many 2 (some .int) [.ref (zad (zb G) k), .int (nI c)] M 0 0 (zE (.int (nI (r (108 + c)))) M) := by
  refine zS.of (by decide) (Nat.le_of_ble_eq_true rfl) (fun F O hR1 hR2 => ?_)
  have O : zOk G F yX0_many cX0_many 2 (some .int) RX0 1 M.length := O
  refine z_eq (lv' := [(0, _), (1, _)]) rfl rfl rfl ?_
  obtain ⟨hk0, hk1, hk2, hk3⟩ := id hS
  refine z_iload_n O dX0_many_0 rfl ?_
  refine z_if_ltN O dX0_many_1 22 (by decide) (by omega) ?_
  refine z_iload_n O dX0_many_4 rfl ?_
  refine z_bipush O (nI 9) dX0_many_5 (by decide) ?_
  refine z_icmp_geN O 22 dX0_many_7 (by decide) (by omega) (by omega) (fun h7 => by omega) (fun h7 => ?_)
  refine z_aload_n O dX0_many_10 rfl ?_
  refine z_get O dX0_many_11 flX0_15 (by assumption) (by rfl) ?_
  refine z_bipush O (nI 108) dX0_many_14 (by decide) ?_
  refine z_iload_n O dX0_many_16 rfl ?_
  refine z_iaddN O dX0_many_17 ?_
  refine z_ialdN O dX0_many_18 (by assumption) (by omega) (by decide) ?_
  refine z_goto O 23 dX0_many_19 (by decide) ?_
  exact z_iret O dX0_many_23 ⟨rfl, rfl⟩
set_option maxRecDepth 20000 in
set_option maxHeartbeats 4000000 in
theorem s_get (hS : zSock G M k i1 i2 i3 we r cl) {c p f : Nat} (hc : c < 9) (hp : p < 3) (hf : f < 4) : zS G 1 yX0_get cX0_get 4 (some .int) [.ref (zad (zb G) k), .int (nI c), .int (nI p), .int (nI f)] M 0 0 (zE (.int (nI (fld r c p f))) M) := by
  refine zS.of (by decide) (Nat.le_of_ble_eq_true rfl) (fun F O hR1 hR2 => ?_)
  have O : zOk G F yX0_get cX0_get 4 (some .int) RX0 1 M.length := O
  refine z_eq (lv' := [(0, _), (1, _), (2, _), (3, _)]) rfl rfl rfl ?_
  obtain ⟨hk0, hk1, hk2, hk3⟩ := id hS
  refine z_iload_n O dX0_get_0 rfl ?_
  refine z_if_ltN O dX0_get_1 19 (by decide) (by omega) ?_
  refine z_iload_n O dX0_get_4 rfl ?_
  refine z_bipush O (nI 9) dX0_get_5 (by decide) ?_
  refine z_icmp_geN O 19 dX0_get_7 (by decide) (by omega) (by omega) (fun h7 => by omega) (fun h7 => ?_)
  refine z_iload_n O dX0_get_10 rfl ?_
  refine z_if_ltN O dX0_get_11 19 (by decide) (by omega) ?_
  refine z_iload_n O dX0_get_14 rfl ?_
  refine z_iconst O (nI 3) dX0_get_15 (by decide) ?_
  refine z_icmp_ltN O 21 dX0_get_16 (by decide) (by omega) (by omega) (fun h16 => ?_) (fun h16 => by omega)
  refine z_iload_n O dX0_get_21 rfl ?_
  refine z_if_ltN O dX0_get_22 30 (by decide) (by omega) ?_
  refine z_iload_n O dX0_get_25 rfl ?_
  refine z_iconst O (nI 4) dX0_get_26 (by decide) ?_
  refine z_icmp_ltN O 32 dX0_get_27 (by decide) (by omega) (by omega) (fun h27 => ?_) (fun h27 => by omega)
  refine z_aload_n O dX0_get_32 rfl ?_
  refine z_get O dX0_get_33 flX0_15 (by assumption) (by rfl) ?_
  refine z_iload_n O dX0_get_36 rfl ?_
  refine z_iconst O (nI 3) dX0_get_37 (by decide) ?_
  refine z_imulN O dX0_get_38 ?_
  refine z_iload_n O dX0_get_39 rfl ?_
  refine z_iaddN O dX0_get_40 ?_
  refine z_iconst O (nI 4) dX0_get_41 (by decide) ?_
  refine z_imulN O dX0_get_42 ?_
  refine z_iload_n O dX0_get_43 rfl ?_
  refine z_iaddN O dX0_get_44 ?_
  refine z_ialdN O dX0_get_45 (by assumption) (by omega) (by decide) ?_
  exact z_iret O dX0_get_46 ⟨rfl, rfl⟩
set_option maxRecDepth 20000 in
set_option maxHeartbeats 4000000 in
theorem s_threadAt (hS : zSock G M k i1 i2 i3 we r cl) {c p : Nat} (hc : c < 9) (hp : p < 3) : zS G 2 yX0_threadAt cX0_threadAt 3 (some .int) [.ref (zad (zb G) k), .int (nI c), .int (nI p)] M 0 0 (zE (.int (nI (fld r c p 2))) M) := by
  refine zS.of (by decide) (Nat.le_of_ble_eq_true rfl) (fun F O hR1 hR2 => ?_)
  have O : zOk G F yX0_threadAt cX0_threadAt 3 (some .int) RX0 2 M.length := O
  refine z_eq (lv' := [(0, _), (1, _), (2, _)]) rfl rfl rfl ?_
  obtain ⟨hk0, hk1, hk2, hk3⟩ := id hS
  refine z_iload_n O dX0_threadAt_0 rfl ?_
  refine z_iconst O (nI 3) dX0_threadAt_1 (by decide) ?_
  refine z_SN2e0 O (s_withinN (by omega) (by omega)) mX3_within nlX0_27 dX0_threadAt_2 (Nat.le_of_ble_eq_true rfl) (by decide) ?_
  refine z_if_eqB O 18 dX0_threadAt_5 (by decide) (fun h5 => by omega) (fun h5 => ?_)
  refine z_aload_n O dX0_threadAt_8 rfl ?_
  refine z_iload_n O dX0_threadAt_9 rfl ?_
  refine z_iload_n O dX0_threadAt_10 rfl ?_
  refine z_iconst O (nI 2) dX0_threadAt_11 (by decide) ?_
  refine z_V3e0 O (s_get hS hc hp (by omega)) mX0_get lkX0_31 rfl (by assumption) dX0_threadAt_12 (Nat.le_of_ble_eq_true rfl) (by decide) ?_
  refine z_goto O 19 dX0_threadAt_15 (by decide) ?_
  exact z_iret O dX0_threadAt_19 ⟨rfl, rfl⟩
set_option maxRecDepth 20000 in
set_option maxHeartbeats 4000000 in
theorem s_isHole (hS : zSock G M k i1 i2 i3 we r cl) (hr : rowOK r) {c : Nat} (hc : c < 9) : zS G 2 yX0_isHole cX0_isHole 2 (some .boolean) [.ref (zad (zb G) k), .int (nI c)] M 0 0 (zE (.int (bI (r (108 + c) = 0))) M) := by
  refine zS.of (by decide) (Nat.le_of_ble_eq_true rfl) (fun F O hR1 hR2 => ?_)
  have O : zOk G F yX0_isHole cX0_isHole 2 (some .boolean) RX0 2 M.length := O
  refine z_eq (lv' := [(0, _), (1, _)]) rfl rfl rfl ?_
  obtain ⟨hk0, hk1, hk2, hk3⟩ := id hS
  refine z_aload_n O dX0_isHole_0 rfl ?_
  refine z_iload_n O dX0_isHole_1 rfl ?_
  refine z_V1e0 O (s_many hS hc) mX0_many lkX0_35 rfl (by assumption) dX0_isHole_2 (Nat.le_of_ble_eq_true rfl) (by decide) ?_
  refine z_if_gtN O 12 dX0_isHole_5 (by decide) (by have := hr.1 (108 + c); omega) (fun h5 => ?_) (fun h5 => ?_)
  · refine z_iconst O (nI 0) dX0_isHole_12 (by decide) ?_
    exact z_zret O dX0_isHole_13 rfl (by first | exact ⟨by rw [bI_t (by omega)]; rfl, rfl⟩ | exact ⟨by rw [bI_f (by omega)]; rfl, rfl⟩)
  · refine z_iconst O (nI 1) dX0_isHole_8 (by decide) ?_
    refine z_goto O 13 dX0_isHole_9 (by decide) ?_
    exact z_zret O dX0_isHole_13 rfl (by first | exact ⟨by rw [bI_t (by omega)]; rfl, rfl⟩ | exact ⟨by rw [bI_f (by omega)]; rfl, rfl⟩)
set_option maxRecDepth 20000 in
set_option maxHeartbeats 4000000 in
theorem s_hasRoom (hS : zSock G M k i1 i2 i3 we r cl) (hr : rowOK r) {c : Nat} (hc : c < 9) : zS G 2 yX0_hasRoom cX0_hasRoom 2 (some .boolean) [.ref (zad (zb G) k), .int (nI c)] M 0 0 (zE (.int (bI (r (108 + c) < 3))) M) := by
  refine zS.of (by decide) (Nat.le_of_ble_eq_true rfl) (fun F O hR1 hR2 => ?_)
  have O : zOk G F yX0_hasRoom cX0_hasRoom 2 (some .boolean) RX0 2 M.length := O
  refine z_eq (lv' := [(0, _), (1, _)]) rfl rfl rfl ?_
  obtain ⟨hk0, hk1, hk2, hk3⟩ := id hS
  refine z_aload_n O dX0_hasRoom_0 rfl ?_
  refine z_iload_n O dX0_hasRoom_1 rfl ?_
  refine z_V1e0 O (s_many hS hc) mX0_many lkX0_35 rfl (by assumption) dX0_hasRoom_2 (Nat.le_of_ble_eq_true rfl) (by decide) ?_
  refine z_iconst O (nI 3) dX0_hasRoom_5 (by decide) ?_
  refine z_icmp_geN O 13 dX0_hasRoom_6 (by decide) (by have := hr.1 (108 + c); omega) (by have := hr.1 (108 + c); omega) (fun h6 => ?_) (fun h6 => ?_)
  · refine z_iconst O (nI 0) dX0_hasRoom_13 (by decide) ?_
    exact z_zret O dX0_hasRoom_14 rfl (by first | exact ⟨by rw [bI_t (by omega)]; rfl, rfl⟩ | exact ⟨by rw [bI_f (by omega)]; rfl, rfl⟩)
  · refine z_iconst O (nI 1) dX0_hasRoom_9 (by decide) ?_
    refine z_goto O 14 dX0_hasRoom_10 (by decide) ?_
    exact z_zret O dX0_hasRoom_14 rfl (by first | exact ⟨by rw [bI_t (by omega)]; rfl, rfl⟩ | exact ⟨by rw [bI_f (by omega)]; rfl, rfl⟩)
end SK
