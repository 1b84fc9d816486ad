/-! ===== constructors, copies, images ===== -/
theorem zla {N L : List va_E} (j : Nat) : (N ++ L)[N.length + j]? = L[j]? := by
  rw [List.getElem?_append_right (by omega)]
  congr 1
  omega
theorem zls {N L : List va_E} (j : Nat) (e : va_E) : (N ++ L).set (N.length + j) e = N ++ L.set j e := by
  rw [List.set_append_right _ _ (by omega)]
  congr 2
  omega
section INI
variable {G : zG} {N : List va_E}
set_option maxRecDepth 20000 in
set_option maxHeartbeats 4000000 in
theorem s_init : zS G 2 yX0_init cX0_init 2 none [.ref (zad (zb G) N.length)] (N ++ [.inr (0, [.null, .null, .null])] : List va_E) 3 130 (zU (N ++ [.inr (0, [.ref (zad (zb G) (N.length + 1)), .ref (zad (zb G) (N.length + 2)), .ref (zad (zb G) (N.length + 3))]), zIN G 9 (onesC (fun _ => 0) 9), zIN G 118 (fun _ => 0), zIN G 3 (fun _ => 0)])) := by
  refine zS.of (by decide) (Nat.le_of_ble_eq_true rfl) (fun F O hR1 hR2 => ?_)
  have O : zOk G F yX0_init cX0_init 2 none RX0 2 (N ++ [.inr (0, [.null, .null, .null])] : List va_E).length := O
  refine z_eq (lv' := [(0, _)]) rfl rfl rfl ?_
  refine z_aload_n O dX0_init_0 rfl ?_
  refine z_objInit O dX0_init_1 lkX0_3 ko_i ko_c (Nat.le_of_ble_eq_true rfl) (by decide) ?_
  refine z_aload_n O dX0_init_4 rfl ?_
  refine z_bipush O (nI 9) dX0_init_5 (by decide) ?_
  refine z_newI O 9 (by simp) dX0_init_7 ka_int (nI_pos (by decide)) (nI_clamp (by decide)) (by decide) (by rw [hR1]; decide) (by rw [hR2]; decide) ?_
  refine z_top (v' := .ref (zad (zb G) (N.length + 1))) (by rw [List.length_append]; rfl) ?_
  refine z_M (show _ = N ++ [.inr (0, [.null, .null, .null]), zIN G 9 (fun _ => 0)] by rw [List.append_assoc]; rfl) ?_
  refine z_putF O (by simp) rfl dX0_init_9 flX0_9 (zla 0) rfl rfl (by simp) ?_
  refine z_M (show _ = N ++ [.inr (0, [.ref (zad (zb G) (N.length + 1)), .null, .null]), zIN G 9 (fun _ => 0)] from zls 0 _) ?_
  refine z_aload_n O dX0_init_12 rfl ?_
  refine z_bipush O (nI 118) dX0_init_13 (by decide) ?_
  refine z_newI O 118 (by simp) dX0_init_15 ka_int (nI_pos (by decide)) (nI_clamp (by decide)) (by decide) (by rw [hR1]; decide) (by rw [hR2]; decide) ?_
  refine z_top (v' := .ref (zad (zb G) (N.length + 2))) (by rw [List.length_append]; rfl) ?_
  refine z_M (show _ = N ++ [.inr (0, [.ref (zad (zb G) (N.length + 1)), .null, .null]), zIN G 9 (fun _ => 0), zIN G 118 (fun _ => 0)] by rw [List.append_assoc]; rfl) ?_
  refine z_putF O (by simp) rfl dX0_init_17 flX0_15 (zla 0) rfl rfl (by simp) ?_
  refine z_M (show _ = N ++ [.inr (0, [.ref (zad (zb G) (N.length + 1)), .ref (zad (zb G) (N.length + 2)), .null]), zIN G 9 (fun _ => 0), zIN G 118 (fun _ => 0)] from zls 0 _) ?_
  refine z_aload_n O dX0_init_20 rfl ?_
  refine z_iconst O (nI 3) dX0_init_21 (by decide) ?_
  refine z_newI O 3 (by simp) dX0_init_22 ka_int (nI_pos (by decide)) (nI_clamp (by decide)) (by decide) (by rw [hR1]; decide) (by rw [hR2]; decide) ?_
  refine z_top (v' := .ref (zad (zb G) (N.length + 3))) (by rw [List.length_append]; rfl) ?_
  refine z_M (show _ = N ++ [.inr (0, [.ref (zad (zb G) (N.length + 1)), .ref (zad (zb G) (N.length + 2)), .null]), zIN G 9 (fun _ => 0), zIN G 118 (fun _ => 0), zIN G 3 (fun _ => 0)] by rw [List.append_assoc]; rfl) ?_
  refine z_putF O (by simp) rfl dX0_init_24 flX0_18 (zla 0) rfl rfl (by simp) ?_
  refine z_M (show _ = N ++ [.inr (0, [.ref (zad (zb G) (N.length + 1)), .ref (zad (zb G) (N.length + 2)), .ref (zad (zb G) (N.length + 3))]), zIN G 9 (fun _ => 0), zIN G 118 (fun _ => 0), zIN G 3 (fun _ => 0)] from zls 0 _) ?_
  refine z_iconst O (nI 0) dX0_init_27 (by decide) ?_
  refine z_istore_n (lv' := [(0, _), (1, _)]) O dX0_init_28 (by decide) rfl ?_
  refine zdown (P := fun c => Z G F 3 130 (zEnd G F (zU (N ++ [.inr (0, [.ref (zad (zb G) (N.length + 1)), .ref (zad (zb G) (N.length + 2)), .ref (zad (zb G) (N.length + 3))]), zIN G 9 (onesC (fun _ => 0) 9), zIN G 118 (fun _ => 0), zIN G 3 (fun _ => 0)])) 3 130) 29 [(0, .ref (zad (zb G) N.length)), (1, .int (nI c))] [] (N ++ [.inr (0, [.ref (zad (zb G) (N.length + 1)), .ref (zad (zb G) (N.length + 2)), .ref (zad (zb G) (N.length + 3))]), zIN G 9 (onesC (fun _ => 0) c), zIN G 118 (fun _ => 0), zIN G 3 (fun _ => 0)])) (9) ?_ ?_ 
  · refine z_iload_n O dX0_init_29 rfl ?_
    refine z_bipush O (nI 9) dX0_init_30 (by decide) ?_
    refine z_icmp_geN O 48 dX0_init_32 (by decide) (by omega) (by omega) (fun h32 => ?_) (fun h32 => by omega)
    exact z_vret O dX0_init_48 ⟨rfl, rfl⟩
  · intro c hc ih 
    refine z_iload_n O dX0_init_29 rfl ?_
    refine z_bipush O (nI 9) dX0_init_30 (by decide) ?_
    refine z_icmp_geN O 48 dX0_init_32 (by decide) (by omega) (by omega) (fun h32 => by omega) (fun h32 => ?_)
    refine z_aload_n O dX0_init_35 rfl ?_
    refine z_get O dX0_init_36 flX0_9 (zla 0) (by rfl) ?_
    refine z_iload_n O dX0_init_39 rfl ?_
    refine z_iconst O (nI 1) dX0_init_40 (by decide) ?_
    refine z_iastN O (by simp) dX0_init_41 (zla 1) (by omega) (by decide) ?_
    refine z_M (show _ = N ++ [.inr (0, [.ref (zad (zb G) (N.length + 1)), .ref (zad (zb G) (N.length + 2)), .ref (zad (zb G) (N.length + 3))]), zIN G 9 (onesC (fun _ => 0) (c + 1)), zIN G 118 (fun _ => 0), zIN G 3 (fun _ => 0)] from zls 1 _) ?_
    refine z_iincN (lv' := [(0, _), (1, _)]) O 1 dX0_init_42 (by decide) rfl rfl (by decide) ?_
    refine z_goto O 29 dX0_init_45 (by decide) ?_
    exact ih
set_option maxRecDepth 20000 in
set_option maxHeartbeats 4000000 in
theorem t_init : zS G 3 yX1_init cX1_init 1 none [.ref (zad (zb G) N.length)] (N ++ [.inr (1, [.null, .null, .int 0, .null, .int 0, .int 0])] : List va_E) 6 1095 (zU (N ++ [.inr (1, [.ref (zad (zb G) (N.length + 1)), .ref (zad (zb G) (N.length + 5)), .int 0, .ref (zad (zb G) (N.length + 6)), .int 0, .int 0]), .inr (0, [.ref (zad (zb G) (N.length + 2)), .ref (zad (zb G) (N.length + 3)), .ref (zad (zb G) (N.length + 4))]), zIN G 9 (onesC (fun _ => 0) 9), zIN G 118 (fun _ => 0), zIN G 3 (fun _ => 0), zIN G 18 (fun _ => 0), zIN G 944 (fun _ => 0)])) := by
  refine zS.of (by decide) (Nat.le_of_ble_eq_true rfl) (fun F O hR1 hR2 => ?_)
  have O : zOk G F yX1_init cX1_init 1 none RX1 3 (N ++ [.inr (1, [.null, .null, .int 0, .null, .int 0, .int 0])] : List va_E).length := O
  refine z_eq (lv' := [(0, _)]) rfl rfl rfl ?_
  refine z_aload_n O dX1_init_0 rfl ?_
  refine z_objInit O dX1_init_1 lkX1_3 ko_i ko_c (Nat.le_of_ble_eq_true rfl) (by decide) ?_
  refine z_aload_n O dX1_init_4 rfl ?_
  refine z_new O (by simp) dX1_init_5 clX1_9 (by rw [hR1]; decide) (by rw [hR2]; decide) ?_
  refine z_top (v' := .ref (zad (zb G) (N.length + 1))) (by rw [List.length_append]; rfl) ?_
  refine z_M (show _ = N ++ [.inr (1, [.null, .null, .int 0, .null, .int 0, .int 0]), .inr (0, [.null, .null, .null])] by rw [List.append_assoc]; rfl) ?_
  refine z_dup O dX1_init_8 rfl ?_
  refine z_I0u O (show zS G 2 yX0_init cX0_init 2 none [.ref (zad (zb G) (N.length + 1))] (N ++ [.inr (1, [.null, .null, .int 0, .null, .int 0, .int 0]), .inr (0, [.null, .null, .null])]) 3 130 (zU (N ++ [.inr (1, [.null, .null, .int 0, .null, .int 0, .int 0]), .inr (0, [.ref (zad (zb G) (N.length + 2)), .ref (zad (zb G) (N.length + 3)), .ref (zad (zb G) (N.length + 4))]), zIN G 9 (onesC (fun _ => 0) 9), zIN G 118 (fun _ => 0), zIN G 3 (fun _ => 0)])) by
      have h := s_init (G := G) (N := N ++ [.inr (1, [.null, .null, .int 0, .null, .int 0, .int 0])])
      rw [List.length_append, List.append_assoc, List.append_assoc] at h
      exact h) mX0_init lkX1_11 dX1_init_9 (Nat.le_of_ble_eq_true rfl) (by decide) ⟨by rw [hR1]; decide, by rw [hR2]; decide⟩ ?_
  refine z_putF O (by simp) rfl dX1_init_12 flX1_12 (zla 0) rfl rfl (by simp) ?_
  refine z_M (show _ = N ++ [.inr (1, [.ref (zad (zb G) (N.length + 1)), .null, .int 0, .null, .int 0, .int 0]), .inr (0, [.ref (zad (zb G) (N.length + 2)), .ref (zad (zb G) (N.length + 3)), .ref (zad (zb G) (N.length + 4))]), zIN G 9 (onesC (fun _ => 0) 9), zIN G 118 (fun _ => 0), zIN G 3 (fun _ => 0)] from zls 0 _) ?_
  refine z_aload_n O dX1_init_15 rfl ?_
  refine z_bipush O (nI 18) dX1_init_16 (by decide) ?_
  refine z_newI O 18 (by simp) dX1_init_18 ka_int (nI_pos (by decide)) (nI_clamp (by decide)) (by decide) (by rw [hR1]; decide) (by rw [hR2]; decide) ?_
  refine z_top (v' := .ref (zad (zb G) (N.length + 5))) (by rw [List.length_append]; rfl) ?_
  refine z_M (show _ = N ++ [.inr (1, [.ref (zad (zb G) (N.length + 1)), .null, .int 0, .null, .int 0, .int 0]), .inr (0, [.ref (zad (zb G) (N.length + 2)), .ref (zad (zb G) (N.length + 3)), .ref (zad (zb G) (N.length + 4))]), zIN G 9 (onesC (fun _ => 0) 9), zIN G 118 (fun _ => 0), zIN G 3 (fun _ => 0), zIN G 18 (fun _ => 0)] by rw [List.append_assoc]; rfl) ?_
  refine z_putF O (by simp) rfl dX1_init_20 flX1_18 (zla 0) rfl rfl (by simp) ?_
  refine z_M (show _ = N ++ [.inr (1, [.ref (zad (zb G) (N.length + 1)), .ref (zad (zb G) (N.length + 5)), .int 0, .null, .int 0, .int 0]), .inr (0, [.ref (zad (zb G) (N.length + 2)), .ref (zad (zb G) (N.length + 3)), .ref (zad (zb G) (N.length + 4))]), zIN G 9 (onesC (fun _ => 0) 9), zIN G 118 (fun _ => 0), zIN G 3 (fun _ => 0), zIN G 18 (fun _ => 0)] from zls 0 _) ?_
  refine z_aload_n O dX1_init_23 rfl ?_
  refine z_sipush O (nI 944) dX1_init_24 (by decide) ?_
  refine z_newI O 944 (by simp) dX1_init_27 ka_int (nI_pos (by decide)) (nI_clamp (by decide)) (by decide) (by rw [hR1]; decide) (by rw [hR2]; decide) ?_
  refine z_top (v' := .ref (zad (zb G) (N.length + 6))) (by rw [List.length_append]; rfl) ?_
  refine z_M (show _ = N ++ [.inr (1, [.ref (zad (zb G) (N.length + 1)), .ref (zad (zb G) (N.length + 5)), .int 0, .null, .int 0, .int 0]), .inr (0, [.ref (zad (zb G) (N.length + 2)), .ref (zad (zb G) (N.length + 3)), .ref (zad (zb G) (N.length + 4))]), zIN G 9 (onesC (fun _ => 0) 9), zIN G 118 (fun _ => 0), zIN G 3 (fun _ => 0), zIN G 18 (fun _ => 0), zIN G 944 (fun _ => 0)] by rw [List.append_assoc]; rfl) ?_
  refine z_putF O (by simp) rfl dX1_init_29 flX1_22 (zla 0) rfl rfl (by simp) ?_
  refine z_M (show _ = N ++ [.inr (1, [.ref (zad (zb G) (N.length + 1)), .ref (zad (zb G) (N.length + 5)), .int 0, .ref (zad (zb G) (N.length + 6)), .int 0, .int 0]), .inr (0, [.ref (zad (zb G) (N.length + 2)), .ref (zad (zb G) (N.length + 3)), .ref (zad (zb G) (N.length + 4))]), zIN G 9 (onesC (fun _ => 0) 9), zIN G 118 (fun _ => 0), zIN G 3 (fun _ => 0), zIN G 18 (fun _ => 0), zIN G 944 (fun _ => 0)] from zls 0 _) ?_
  exact z_vret O dX1_init_32 ⟨rfl, rfl⟩
set_option maxRecDepth 20000 in
set_option maxHeartbeats 4000000 in
theorem u_init : zS G 2 yX2_init cX2_init 1 none [.ref (zad (zb G) N.length)] (N ++ [.inr (2, [.null, .int 0, .null, .null, .int 0, .int 0, .int 0, .int 0, .int 0])] : List va_E) 3 275 (zU (N ++ [.inr (2, [.ref (zad (zb G) (N.length + 1)), .int 0, .ref (zad (zb G) (N.length + 2)), .ref (zad (zb G) (N.length + 3)), .int 0, .int 0, .int 0, .int 0, .int 0]), zIN G 150 (fun _ => 0), zIN G 25 (fun _ => 0), zIN G 100 (fun _ => 0)])) := by
  refine zS.of (by decide) (Nat.le_of_ble_eq_true rfl) (fun F O hR1 hR2 => ?_)
  have O : zOk G F yX2_init cX2_init 1 none RX2 2 (N ++ [.inr (2, [.null, .int 0, .null, .null, .int 0, .int 0, .int 0, .int 0, .int 0])] : List va_E).length := O
  refine z_eq (lv' := [(0, _)]) rfl rfl rfl ?_
  refine z_aload_n O dX2_init_0 rfl ?_
  refine z_objInit O dX2_init_1 lkX2_3 ko_i ko_c (Nat.le_of_ble_eq_true rfl) (by decide) ?_
  refine z_aload_n O dX2_init_4 rfl ?_
  refine z_sipush O (nI 150) dX2_init_5 (by decide) ?_
  refine z_newI O 150 (by simp) dX2_init_8 ka_int (nI_pos (by decide)) (nI_clamp (by decide)) (by decide) (by rw [hR1]; decide) (by rw [hR2]; decide) ?_
  refine z_top (v' := .ref (zad (zb G) (N.length + 1))) (by rw [List.length_append]; rfl) ?_
  refine z_M (show _ = N ++ [.inr (2, [.null, .int 0, .null, .null, .int 0, .int 0, .int 0, .int 0, .int 0]), zIN G 150 (fun _ => 0)] by rw [List.append_assoc]; rfl) ?_
  refine z_putF O (by simp) rfl dX2_init_10 flX2_9 (zla 0) rfl rfl (by simp) ?_
  refine z_M (show _ = N ++ [.inr (2, [.ref (zad (zb G) (N.length + 1)), .int 0, .null, .null, .int 0, .int 0, .int 0, .int 0, .int 0]), zIN G 150 (fun _ => 0)] from zls 0 _) ?_
  refine z_aload_n O dX2_init_13 rfl ?_
  refine z_bipush O (nI 25) dX2_init_14 (by decide) ?_
  refine z_newI O 25 (by simp) dX2_init_16 ka_int (nI_pos (by decide)) (nI_clamp (by decide)) (by decide) (by rw [hR1]; decide) (by rw [hR2]; decide) ?_
  refine z_top (v' := .ref (zad (zb G) (N.length + 2))) (by rw [List.length_append]; rfl) ?_
  refine z_M (show _ = N ++ [.inr (2, [.ref (zad (zb G) (N.length + 1)), .int 0, .null, .null, .int 0, .int 0, .int 0, .int 0, .int 0]), zIN G 150 (fun _ => 0), zIN G 25 (fun _ => 0)] by rw [List.append_assoc]; rfl) ?_
  refine z_putF O (by simp) rfl dX2_init_18 flX2_15 (zla 0) rfl rfl (by simp) ?_
  refine z_M (show _ = N ++ [.inr (2, [.ref (zad (zb G) (N.length + 1)), .int 0, .ref (zad (zb G) (N.length + 2)), .null, .int 0, .int 0, .int 0, .int 0, .int 0]), zIN G 150 (fun _ => 0), zIN G 25 (fun _ => 0)] from zls 0 _) ?_
  refine z_aload_n O dX2_init_21 rfl ?_
  refine z_bipush O (nI 100) dX2_init_22 (by decide) ?_
  refine z_newI O 100 (by simp) dX2_init_24 ka_int (nI_pos (by decide)) (nI_clamp (by decide)) (by decide) (by rw [hR1]; decide) (by rw [hR2]; decide) ?_
  refine z_top (v' := .ref (zad (zb G) (N.length + 3))) (by rw [List.length_append]; rfl) ?_
  refine z_M (show _ = N ++ [.inr (2, [.ref (zad (zb G) (N.length + 1)), .int 0, .ref (zad (zb G) (N.length + 2)), .null, .int 0, .int 0, .int 0, .int 0, .int 0]), zIN G 150 (fun _ => 0), zIN G 25 (fun _ => 0), zIN G 100 (fun _ => 0)] by rw [List.append_assoc]; rfl) ?_
  refine z_putF O (by simp) rfl dX2_init_26 flX2_18 (zla 0) rfl rfl (by simp) ?_
  refine z_M (show _ = N ++ [.inr (2, [.ref (zad (zb G) (N.length + 1)), .int 0, .ref (zad (zb G) (N.length + 2)), .ref (zad (zb G) (N.length + 3)), .int 0, .int 0, .int 0, .int 0, .int 0]), zIN G 150 (fun _ => 0), zIN G 25 (fun _ => 0), zIN G 100 (fun _ => 0)] from zls 0 _) ?_
  exact z_vret O dX2_init_29 ⟨rfl, rfl⟩
end INI
section XI
variable {G : zG}
set_option maxRecDepth 20000 in
set_option maxHeartbeats 4000000 in
theorem x_init : zS G 4 yX3_init cX3_init 1 none [.ref (zad (zb G) 0)] [.inr (3, [.null, .null, .null, .null, .null, .null, .null, .null, .long 0, .long 0, .int 0, .int 0, .int 0])] 20 1811 (zU (xM G (onesC (fun _ => 0) 9) (fun _ => 0) (fun _ => 0) (fun _ => 0) (fun _ => 0) 0 0 0 (fun _ => none) (onesC (fun _ => 0) 9) (fun _ => 0) (fun _ => 0) (fun _ => 0) (fun _ => 0) (fun _ => 0) 0 0 0 0 0 0 (fun _ => 0) (fun _ => 0) (fun _ => 0) (fun _ => 0) (lN 0) (lN 1) 0 0 0 [])) := by
  refine zS.of (by decide) (Nat.le_of_ble_eq_true rfl) (fun F O hR1 hR2 => ?_)
  have O : zOk G F yX3_init cX3_init 1 none RX3 4 ([.inr (3, [.null, .null, .null, .null, .null, .null, .null, .null, .long 0, .long 0, .int 0, .int 0, .int 0])] : List va_E).length := O
  refine z_eq (lv' := [(0, _)]) rfl rfl rfl ?_
  refine z_aload_n O dX3_init_0 rfl ?_
  refine z_objInit O dX3_init_1 lkX3_3 ko_i ko_c (Nat.le_of_ble_eq_true rfl) (by decide) ?_
  refine z_aload_n O dX3_init_4 rfl ?_
  refine z_new O (by rfl) dX3_init_5 clX3_9 (by rw [hR1]; decide) (by rw [hR2]; decide) ?_
  refine z_M (show _ = [.inr (3, [.null, .null, .null, .null, .null, .null, .null, .null, .long 0, .long 0, .int 0, .int 0, .int 0]), .inr (1, [.null, .null, .int 0, .null, .int 0, .int 0])] from rfl) ?_
  refine z_dup O dX3_init_8 rfl ?_
  refine z_IN0u O (show zS G 3 yX1_init cX1_init 1 none [.ref (zad (zb G) 1)] [.inr (3, [.null, .null, .null, .null, .null, .null, .null, .null, .long 0, .long 0, .int 0, .int 0, .int 0]), .inr (1, [.null, .null, .int 0, .null, .int 0, .int 0])] 6 1095 (zU [.inr (3, [.null, .null, .null, .null, .null, .null, .null, .null, .long 0, .long 0, .int 0, .int 0, .int 0]), .inr (1, [.ref (zad (zb G) 2), .ref (zad (zb G) 6), .int 0, .ref (zad (zb G) 7), .int 0, .int 0]), .inr (0, [.ref (zad (zb G) 3), .ref (zad (zb G) 4), .ref (zad (zb G) 5)]), zIN G 9 (onesC (fun _ => 0) 9), zIN G 118 (fun _ => 0), zIN G 3 (fun _ => 0), zIN G 18 (fun _ => 0), zIN G 944 (fun _ => 0)]) from t_init (N := [.inr (3, [.null, .null, .null, .null, .null, .null, .null, .null, .long 0, .long 0, .int 0, .int 0, .int 0])])) mX1_init nlX3_11 dX3_init_9 (Nat.le_of_ble_eq_true rfl) (by decide) ⟨by rw [hR1]; decide, by rw [hR2]; decide⟩ ?_
  refine z_putF O (by rfl) rfl dX3_init_12 flX3_12 (by rfl) rfl rfl (by simp) ?_
  refine z_M (show _ = [.inr (3, [.ref (zad (zb G) 1), .null, .null, .null, .null, .null, .null, .null, .long 0, .long 0, .int 0, .int 0, .int 0]), .inr (1, [.ref (zad (zb G) 2), .ref (zad (zb G) 6), .int 0, .ref (zad (zb G) 7), .int 0, .int 0]), .inr (0, [.ref (zad (zb G) 3), .ref (zad (zb G) 4), .ref (zad (zb G) 5)]), zIN G 9 (onesC (fun _ => 0) 9), zIN G 118 (fun _ => 0), zIN G 3 (fun _ => 0), zIN G 18 (fun _ => 0), zIN G 944 (fun _ => 0)] from rfl) ?_
  refine z_aload_n O dX3_init_15 rfl ?_
  refine z_iconst O (nI 2) dX3_init_16 (by decide) ?_
  refine z_newR O 2 (by rfl) dX3_init_17 ckX3_9 (nI_pos (by decide)) (nI_clamp (by decide)) (by decide) (by rw [hR1]; decide) (by rw [hR2]; decide) ?_
  refine z_M (show _ = [.inr (3, [.ref (zad (zb G) 1), .null, .null, .null, .null, .null, .null, .null, .long 0, .long 0, .int 0, .int 0, .int 0]), .inr (1, [.ref (zad (zb G) 2), .ref (zad (zb G) 6), .int 0, .ref (zad (zb G) 7), .int 0, .int 0]), .inr (0, [.ref (zad (zb G) 3), .ref (zad (zb G) 4), .ref (zad (zb G) 5)]), zIN G 9 (onesC (fun _ => 0) 9), zIN G 118 (fun _ => 0), zIN G 3 (fun _ => 0), zIN G 18 (fun _ => 0), zIN G 944 (fun _ => 0), zR G 2 (fun _ => none)] from rfl) ?_
  refine z_putF O (by rfl) rfl dX3_init_20 flX3_16 (by rfl) rfl rfl (by simp) ?_
  refine z_M (show _ = [.inr (3, [.ref (zad (zb G) 1), .ref (zad (zb G) 8), .null, .null, .null, .null, .null, .null, .long 0, .long 0, .int 0, .int 0, .int 0]), .inr (1, [.ref (zad (zb G) 2), .ref (zad (zb G) 6), .int 0, .ref (zad (zb G) 7), .int 0, .int 0]), .inr (0, [.ref (zad (zb G) 3), .ref (zad (zb G) 4), .ref (zad (zb G) 5)]), zIN G 9 (onesC (fun _ => 0) 9), zIN G 118 (fun _ => 0), zIN G 3 (fun _ => 0), zIN G 18 (fun _ => 0), zIN G 944 (fun _ => 0), zR G 2 (fun _ => none)] from rfl) ?_
  refine z_aload_n O dX3_init_23 rfl ?_
  refine z_new O (by rfl) dX3_init_24 clX3_20 (by rw [hR1]; decide) (by rw [hR2]; decide) ?_
  refine z_M (show _ = [.inr (3, [.ref (zad (zb G) 1), .ref (zad (zb G) 8), .null, .null, .null, .null, .null, .null, .long 0, .long 0, .int 0, .int 0, .int 0]), .inr (1, [.ref (zad (zb G) 2), .ref (zad (zb G) 6), .int 0, .ref (zad (zb G) 7), .int 0, .int 0]), .inr (0, [.ref (zad (zb G) 3), .ref (zad (zb G) 4), .ref (zad (zb G) 5)]), zIN G 9 (onesC (fun _ => 0) 9), zIN G 118 (fun _ => 0), zIN G 3 (fun _ => 0), zIN G 18 (fun _ => 0), zIN G 944 (fun _ => 0), zR G 2 (fun _ => none), .inr (0, [.null, .null, .null])] from rfl) ?_
  refine z_dup O dX3_init_27 rfl ?_
  refine z_I0u O (show zS G 2 yX0_init cX0_init 2 none [.ref (zad (zb G) 9)] [.inr (3, [.ref (zad (zb G) 1), .ref (zad (zb G) 8), .null, .null, .null, .null, .null, .null, .long 0, .long 0, .int 0, .int 0, .int 0]), .inr (1, [.ref (zad (zb G) 2), .ref (zad (zb G) 6), .int 0, .ref (zad (zb G) 7), .int 0, .int 0]), .inr (0, [.ref (zad (zb G) 3), .ref (zad (zb G) 4), .ref (zad (zb G) 5)]), zIN G 9 (onesC (fun _ => 0) 9), zIN G 118 (fun _ => 0), zIN G 3 (fun _ => 0), zIN G 18 (fun _ => 0), zIN G 944 (fun _ => 0), zR G 2 (fun _ => none), .inr (0, [.null, .null, .null])] 3 130 (zU [.inr (3, [.ref (zad (zb G) 1), .ref (zad (zb G) 8), .null, .null, .null, .null, .null, .null, .long 0, .long 0, .int 0, .int 0, .int 0]), .inr (1, [.ref (zad (zb G) 2), .ref (zad (zb G) 6), .int 0, .ref (zad (zb G) 7), .int 0, .int 0]), .inr (0, [.ref (zad (zb G) 3), .ref (zad (zb G) 4), .ref (zad (zb G) 5)]), zIN G 9 (onesC (fun _ => 0) 9), zIN G 118 (fun _ => 0), zIN G 3 (fun _ => 0), zIN G 18 (fun _ => 0), zIN G 944 (fun _ => 0), zR G 2 (fun _ => none), .inr (0, [.ref (zad (zb G) 10), .ref (zad (zb G) 11), .ref (zad (zb G) 12)]), zIN G 9 (onesC (fun _ => 0) 9), zIN G 118 (fun _ => 0), zIN G 3 (fun _ => 0)]) from s_init (N := [.inr (3, [.ref (zad (zb G) 1), .ref (zad (zb G) 8), .null, .null, .null, .null, .null, .null, .long 0, .long 0, .int 0, .int 0, .int 0]), .inr (1, [.ref (zad (zb G) 2), .ref (zad (zb G) 6), .int 0, .ref (zad (zb G) 7), .int 0, .int 0]), .inr (0, [.ref (zad (zb G) 3), .ref (zad (zb G) 4), .ref (zad (zb G) 5)]), zIN G 9 (onesC (fun _ => 0) 9), zIN G 118 (fun _ => 0), zIN G 3 (fun _ => 0), zIN G 18 (fun _ => 0), zIN G 944 (fun _ => 0), zR G 2 (fun _ => none)])) mX0_init lkX3_22 dX3_init_28 (Nat.le_of_ble_eq_true rfl) (by decide) ⟨by rw [hR1]; decide, by rw [hR2]; decide⟩ ?_
  refine z_putF O (by rfl) rfl dX3_init_31 flX3_23 (by rfl) rfl rfl (by simp) ?_
  refine z_M (show _ = [.inr (3, [.ref (zad (zb G) 1), .ref (zad (zb G) 8), .ref (zad (zb G) 9), .null, .null, .null, .null, .null, .long 0, .long 0, .int 0, .int 0, .int 0]), .inr (1, [.ref (zad (zb G) 2), .ref (zad (zb G) 6), .int 0, .ref (zad (zb G) 7), .int 0, .int 0]), .inr (0, [.ref (zad (zb G) 3), .ref (zad (zb G) 4), .ref (zad (zb G) 5)]), zIN G 9 (onesC (fun _ => 0) 9), zIN G 118 (fun _ => 0), zIN G 3 (fun _ => 0), zIN G 18 (fun _ => 0), zIN G 944 (fun _ => 0), zR G 2 (fun _ => none), .inr (0, [.ref (zad (zb G) 10), .ref (zad (zb G) 11), .ref (zad (zb G) 12)]), zIN G 9 (onesC (fun _ => 0) 9), zIN G 118 (fun _ => 0), zIN G 3 (fun _ => 0)] from rfl) ?_
  refine z_aload_n O dX3_init_34 rfl ?_
  refine z_new O (by rfl) dX3_init_35 clX3_27 (by rw [hR1]; decide) (by rw [hR2]; decide) ?_
  refine z_M (show _ = [.inr (3, [.ref (zad (zb G) 1), .ref (zad (zb G) 8), .ref (zad (zb G) 9), .null, .null, .null, .null, .null, .long 0, .long 0, .int 0, .int 0, .int 0]), .inr (1, [.ref (zad (zb G) 2), .ref (zad (zb G) 6), .int 0, .ref (zad (zb G) 7), .int 0, .int 0]), .inr (0, [.ref (zad (zb G) 3), .ref (zad (zb G) 4), .ref (zad (zb G) 5)]), zIN G 9 (onesC (fun _ => 0) 9), zIN G 118 (fun _ => 0), zIN G 3 (fun _ => 0), zIN G 18 (fun _ => 0), zIN G 944 (fun _ => 0), zR G 2 (fun _ => none), .inr (0, [.ref (zad (zb G) 10), .ref (zad (zb G) 11), .ref (zad (zb G) 12)]), zIN G 9 (onesC (fun _ => 0) 9), zIN G 118 (fun _ => 0), zIN G 3 (fun _ => 0), .inr (2, [.null, .int 0, .null, .null, .int 0, .int 0, .int 0, .int 0, .int 0])] from rfl) ?_
  refine z_dup O dX3_init_38 rfl ?_
  refine z_IN0u O (show zS G 2 yX2_init cX2_init 1 none [.ref (zad (zb G) 13)] [.inr (3, [.ref (zad (zb G) 1), .ref (zad (zb G) 8), .ref (zad (zb G) 9), .null, .null, .null, .null, .null, .long 0, .long 0, .int 0, .int 0, .int 0]), .inr (1, [.ref (zad (zb G) 2), .ref (zad (zb G) 6), .int 0, .ref (zad (zb G) 7), .int 0, .int 0]), .inr (0, [.ref (zad (zb G) 3), .ref (zad (zb G) 4), .ref (zad (zb G) 5)]), zIN G 9 (onesC (fun _ => 0) 9), zIN G 118 (fun _ => 0), zIN G 3 (fun _ => 0), zIN G 18 (fun _ => 0), zIN G 944 (fun _ => 0), zR G 2 (fun _ => none), .inr (0, [.ref (zad (zb G) 10), .ref (zad (zb G) 11), .ref (zad (zb G) 12)]), zIN G 9 (onesC (fun _ => 0) 9), zIN G 118 (fun _ => 0), zIN G 3 (fun _ => 0), .inr (2, [.null, .int 0, .null, .null, .int 0, .int 0, .int 0, .int 0, .int 0])] 3 275 (zU [.inr (3, [.ref (zad (zb G) 1), .ref (zad (zb G) 8), .ref (zad (zb G) 9), .null, .null, .null, .null, .null, .long 0, .long 0, .int 0, .int 0, .int 0]), .inr (1, [.ref (zad (zb G) 2), .ref (zad (zb G) 6), .int 0, .ref (zad (zb G) 7), .int 0, .int 0]), .inr (0, [.ref (zad (zb G) 3), .ref (zad (zb G) 4), .ref (zad (zb G) 5)]), zIN G 9 (onesC (fun _ => 0) 9), zIN G 118 (fun _ => 0), zIN G 3 (fun _ => 0), zIN G 18 (fun _ => 0), zIN G 944 (fun _ => 0), zR G 2 (fun _ => none), .inr (0, [.ref (zad (zb G) 10), .ref (zad (zb G) 11), .ref (zad (zb G) 12)]), zIN G 9 (onesC (fun _ => 0) 9), zIN G 118 (fun _ => 0), zIN G 3 (fun _ => 0), .inr (2, [.ref (zad (zb G) 14), .int 0, .ref (zad (zb G) 15), .ref (zad (zb G) 16), .int 0, .int 0, .int 0, .int 0, .int 0]), zIN G 150 (fun _ => 0), zIN G 25 (fun _ => 0), zIN G 100 (fun _ => 0)]) from u_init (N := [.inr (3, [.ref (zad (zb G) 1), .ref (zad (zb G) 8), .ref (zad (zb G) 9), .null, .null, .null, .null, .null, .long 0, .long 0, .int 0, .int 0, .int 0]), .inr (1, [.ref (zad (zb G) 2), .ref (zad (zb G) 6), .int 0, .ref (zad (zb G) 7), .int 0, .int 0]), .inr (0, [.ref (zad (zb G) 3), .ref (zad (zb G) 4), .ref (zad (zb G) 5)]), zIN G 9 (onesC (fun _ => 0) 9), zIN G 118 (fun _ => 0), zIN G 3 (fun _ => 0), zIN G 18 (fun _ => 0), zIN G 944 (fun _ => 0), zR G 2 (fun _ => none), .inr (0, [.ref (zad (zb G) 10), .ref (zad (zb G) 11), .ref (zad (zb G) 12)]), zIN G 9 (onesC (fun _ => 0) 9), zIN G 118 (fun _ => 0), zIN G 3 (fun _ => 0)])) mX2_init nlX3_29 dX3_init_39 (Nat.le_of_ble_eq_true rfl) (by decide) ⟨by rw [hR1]; decide, by rw [hR2]; decide⟩ ?_
  refine z_putF O (by rfl) rfl dX3_init_42 flX3_30 (by rfl) rfl rfl (by simp) ?_
  refine z_M (show _ = [.inr (3, [.ref (zad (zb G) 1), .ref (zad (zb G) 8), .ref (zad (zb G) 9), .ref (zad (zb G) 13), .null, .null, .null, .null, .long 0, .long 0, .int 0, .int 0, .int 0]), .inr (1, [.ref (zad (zb G) 2), .ref (zad (zb G) 6), .int 0, .ref (zad (zb G) 7), .int 0, .int 0]), .inr (0, [.ref (zad (zb G) 3), .ref (zad (zb G) 4), .ref (zad (zb G) 5)]), zIN G 9 (onesC (fun _ => 0) 9), zIN G 118 (fun _ => 0), zIN G 3 (fun _ => 0), zIN G 18 (fun _ => 0), zIN G 944 (fun _ => 0), zR G 2 (fun _ => none), .inr (0, [.ref (zad (zb G) 10), .ref (zad (zb G) 11), .ref (zad (zb G) 12)]), zIN G 9 (onesC (fun _ => 0) 9), zIN G 118 (fun _ => 0), zIN G 3 (fun _ => 0), .inr (2, [.ref (zad (zb G) 14), .int 0, .ref (zad (zb G) 15), .ref (zad (zb G) 16), .int 0, .int 0, .int 0, .int 0, .int 0]), zIN G 150 (fun _ => 0), zIN G 25 (fun _ => 0), zIN G 100 (fun _ => 0)] from rfl) ?_
  refine z_aload_n O dX3_init_45 rfl ?_
  refine z_bipush O (nI 9) dX3_init_46 (by decide) ?_
  refine z_newI O 9 (by rfl) dX3_init_48 ka_int (nI_pos (by decide)) (nI_clamp (by decide)) (by decide) (by rw [hR1]; decide) (by rw [hR2]; decide) ?_
  refine z_M (show _ = [.inr (3, [.ref (zad (zb G) 1), .ref (zad (zb G) 8), .ref (zad (zb G) 9), .ref (zad (zb G) 13), .null, .null, .null, .null, .long 0, .long 0, .int 0, .int 0, .int 0]), .inr (1, [.ref (zad (zb G) 2), .ref (zad (zb G) 6), .int 0, .ref (zad (zb G) 7), .int 0, .int 0]), .inr (0, [.ref (zad (zb G) 3), .ref (zad (zb G) 4), .ref (zad (zb G) 5)]), zIN G 9 (onesC (fun _ => 0) 9), zIN G 118 (fun _ => 0), zIN G 3 (fun _ => 0), zIN G 18 (fun _ => 0), zIN G 944 (fun _ => 0), zR G 2 (fun _ => none), .inr (0, [.ref (zad (zb G) 10), .ref (zad (zb G) 11), .ref (zad (zb G) 12)]), zIN G 9 (onesC (fun _ => 0) 9), zIN G 118 (fun _ => 0), zIN G 3 (fun _ => 0), .inr (2, [.ref (zad (zb G) 14), .int 0, .ref (zad (zb G) 15), .ref (zad (zb G) 16), .int 0, .int 0, .int 0, .int 0, .int 0]), zIN G 150 (fun _ => 0), zIN G 25 (fun _ => 0), zIN G 100 (fun _ => 0), zIN G 9 (fun _ => 0)] from rfl) ?_
  refine z_putF O (by rfl) rfl dX3_init_50 flX3_34 (by rfl) rfl rfl (by simp) ?_
  refine z_M (show _ = [.inr (3, [.ref (zad (zb G) 1), .ref (zad (zb G) 8), .ref (zad (zb G) 9), .ref (zad (zb G) 13), .ref (zad (zb G) 17), .null, .null, .null, .long 0, .long 0, .int 0, .int 0, .int 0]), .inr (1, [.ref (zad (zb G) 2), .ref (zad (zb G) 6), .int 0, .ref (zad (zb G) 7), .int 0, .int 0]), .inr (0, [.ref (zad (zb G) 3), .ref (zad (zb G) 4), .ref (zad (zb G) 5)]), zIN G 9 (onesC (fun _ => 0) 9), zIN G 118 (fun _ => 0), zIN G 3 (fun _ => 0), zIN G 18 (fun _ => 0), zIN G 944 (fun _ => 0), zR G 2 (fun _ => none), .inr (0, [.ref (zad (zb G) 10), .ref (zad (zb G) 11), .ref (zad (zb G) 12)]), zIN G 9 (onesC (fun _ => 0) 9), zIN G 118 (fun _ => 0), zIN G 3 (fun _ => 0), .inr (2, [.ref (zad (zb G) 14), .int 0, .ref (zad (zb G) 15), .ref (zad (zb G) 16), .int 0, .int 0, .int 0, .int 0, .int 0]), zIN G 150 (fun _ => 0), zIN G 25 (fun _ => 0), zIN G 100 (fun _ => 0), zIN G 9 (fun _ => 0)] from rfl) ?_
  refine z_aload_n O dX3_init_53 rfl ?_
  refine z_sipush O (nI 270) dX3_init_54 (by decide) ?_
  refine z_newI O 270 (by rfl) dX3_init_57 ka_int (nI_pos (by decide)) (nI_clamp (by decide)) (by decide) (by rw [hR1]; decide) (by rw [hR2]; decide) ?_
  refine z_M (show _ = [.inr (3, [.ref (zad (zb G) 1), .ref (zad (zb G) 8), .ref (zad (zb G) 9), .ref (zad (zb G) 13), .ref (zad (zb G) 17), .null, .null, .null, .long 0, .long 0, .int 0, .int 0, .int 0]), .inr (1, [.ref (zad (zb G) 2), .ref (zad (zb G) 6), .int 0, .ref (zad (zb G) 7), .int 0, .int 0]), .inr (0, [.ref (zad (zb G) 3), .ref (zad (zb G) 4), .ref (zad (zb G) 5)]), zIN G 9 (onesC (fun _ => 0) 9), zIN G 118 (fun _ => 0), zIN G 3 (fun _ => 0), zIN G 18 (fun _ => 0), zIN G 944 (fun _ => 0), zR G 2 (fun _ => none), .inr (0, [.ref (zad (zb G) 10), .ref (zad (zb G) 11), .ref (zad (zb G) 12)]), zIN G 9 (onesC (fun _ => 0) 9), zIN G 118 (fun _ => 0), zIN G 3 (fun _ => 0), .inr (2, [.ref (zad (zb G) 14), .int 0, .ref (zad (zb G) 15), .ref (zad (zb G) 16), .int 0, .int 0, .int 0, .int 0, .int 0]), zIN G 150 (fun _ => 0), zIN G 25 (fun _ => 0), zIN G 100 (fun _ => 0), zIN G 9 (fun _ => 0), zIN G 270 (fun _ => 0)] from rfl) ?_
  refine z_putF O (by rfl) rfl dX3_init_59 flX3_38 (by rfl) rfl rfl (by simp) ?_
  refine z_M (show _ = [.inr (3, [.ref (zad (zb G) 1), .ref (zad (zb G) 8), .ref (zad (zb G) 9), .ref (zad (zb G) 13), .ref (zad (zb G) 17), .ref (zad (zb G) 18), .null, .null, .long 0, .long 0, .int 0, .int 0, .int 0]), .inr (1, [.ref (zad (zb G) 2), .ref (zad (zb G) 6), .int 0, .ref (zad (zb G) 7), .int 0, .int 0]), .inr (0, [.ref (zad (zb G) 3), .ref (zad (zb G) 4), .ref (zad (zb G) 5)]), zIN G 9 (onesC (fun _ => 0) 9), zIN G 118 (fun _ => 0), zIN G 3 (fun _ => 0), zIN G 18 (fun _ => 0), zIN G 944 (fun _ => 0), zR G 2 (fun _ => none), .inr (0, [.ref (zad (zb G) 10), .ref (zad (zb G) 11), .ref (zad (zb G) 12)]), zIN G 9 (onesC (fun _ => 0) 9), zIN G 118 (fun _ => 0), zIN G 3 (fun _ => 0), .inr (2, [.ref (zad (zb G) 14), .int 0, .ref (zad (zb G) 15), .ref (zad (zb G) 16), .int 0, .int 0, .int 0, .int 0, .int 0]), zIN G 150 (fun _ => 0), zIN G 25 (fun _ => 0), zIN G 100 (fun _ => 0), zIN G 9 (fun _ => 0), zIN G 270 (fun _ => 0)] from rfl) ?_
  refine z_aload_n O dX3_init_62 rfl ?_
  refine z_bipush O (nI 6) dX3_init_63 (by decide) ?_
  refine z_newI O 6 (by rfl) dX3_init_65 ka_int (nI_pos (by decide)) (nI_clamp (by decide)) (by decide) (by rw [hR1]; decide) (by rw [hR2]; decide) ?_
  refine z_M (show _ = [.inr (3, [.ref (zad (zb G) 1), .ref (zad (zb G) 8), .ref (zad (zb G) 9), .ref (zad (zb G) 13), .ref (zad (zb G) 17), .ref (zad (zb G) 18), .null, .null, .long 0, .long 0, .int 0, .int 0, .int 0]), .inr (1, [.ref (zad (zb G) 2), .ref (zad (zb G) 6), .int 0, .ref (zad (zb G) 7), .int 0, .int 0]), .inr (0, [.ref (zad (zb G) 3), .ref (zad (zb G) 4), .ref (zad (zb G) 5)]), zIN G 9 (onesC (fun _ => 0) 9), zIN G 118 (fun _ => 0), zIN G 3 (fun _ => 0), zIN G 18 (fun _ => 0), zIN G 944 (fun _ => 0), zR G 2 (fun _ => none), .inr (0, [.ref (zad (zb G) 10), .ref (zad (zb G) 11), .ref (zad (zb G) 12)]), zIN G 9 (onesC (fun _ => 0) 9), zIN G 118 (fun _ => 0), zIN G 3 (fun _ => 0), .inr (2, [.ref (zad (zb G) 14), .int 0, .ref (zad (zb G) 15), .ref (zad (zb G) 16), .int 0, .int 0, .int 0, .int 0, .int 0]), zIN G 150 (fun _ => 0), zIN G 25 (fun _ => 0), zIN G 100 (fun _ => 0), zIN G 9 (fun _ => 0), zIN G 270 (fun _ => 0), zIN G 6 (fun _ => 0)] from rfl) ?_
  refine z_putF O (by rfl) rfl dX3_init_67 flX3_41 (by rfl) rfl rfl (by simp) ?_
  refine z_M (show _ = [.inr (3, [.ref (zad (zb G) 1), .ref (zad (zb G) 8), .ref (zad (zb G) 9), .ref (zad (zb G) 13), .ref (zad (zb G) 17), .ref (zad (zb G) 18), .ref (zad (zb G) 19), .null, .long 0, .long 0, .int 0, .int 0, .int 0]), .inr (1, [.ref (zad (zb G) 2), .ref (zad (zb G) 6), .int 0, .ref (zad (zb G) 7), .int 0, .int 0]), .inr (0, [.ref (zad (zb G) 3), .ref (zad (zb G) 4), .ref (zad (zb G) 5)]), zIN G 9 (onesC (fun _ => 0) 9), zIN G 118 (fun _ => 0), zIN G 3 (fun _ => 0), zIN G 18 (fun _ => 0), zIN G 944 (fun _ => 0), zR G 2 (fun _ => none), .inr (0, [.ref (zad (zb G) 10), .ref (zad (zb G) 11), .ref (zad (zb G) 12)]), zIN G 9 (onesC (fun _ => 0) 9), zIN G 118 (fun _ => 0), zIN G 3 (fun _ => 0), .inr (2, [.ref (zad (zb G) 14), .int 0, .ref (zad (zb G) 15), .ref (zad (zb G) 16), .int 0, .int 0, .int 0, .int 0, .int 0]), zIN G 150 (fun _ => 0), zIN G 25 (fun _ => 0), zIN G 100 (fun _ => 0), zIN G 9 (fun _ => 0), zIN G 270 (fun _ => 0), zIN G 6 (fun _ => 0)] from rfl) ?_
  refine z_aload_n O dX3_init_70 rfl ?_
  refine z_bipush O (nI 6) dX3_init_71 (by decide) ?_
  refine z_newI O 6 (by rfl) dX3_init_73 ka_int (nI_pos (by decide)) (nI_clamp (by decide)) (by decide) (by rw [hR1]; decide) (by rw [hR2]; decide) ?_
  refine z_M (show _ = [.inr (3, [.ref (zad (zb G) 1), .ref (zad (zb G) 8), .ref (zad (zb G) 9), .ref (zad (zb G) 13), .ref (zad (zb G) 17), .ref (zad (zb G) 18), .ref (zad (zb G) 19), .null, .long 0, .long 0, .int 0, .int 0, .int 0]), .inr (1, [.ref (zad (zb G) 2), .ref (zad (zb G) 6), .int 0, .ref (zad (zb G) 7), .int 0, .int 0]), .inr (0, [.ref (zad (zb G) 3), .ref (zad (zb G) 4), .ref (zad (zb G) 5)]), zIN G 9 (onesC (fun _ => 0) 9), zIN G 118 (fun _ => 0), zIN G 3 (fun _ => 0), zIN G 18 (fun _ => 0), zIN G 944 (fun _ => 0), zR G 2 (fun _ => none), .inr (0, [.ref (zad (zb G) 10), .ref (zad (zb G) 11), .ref (zad (zb G) 12)]), zIN G 9 (onesC (fun _ => 0) 9), zIN G 118 (fun _ => 0), zIN G 3 (fun _ => 0), .inr (2, [.ref (zad (zb G) 14), .int 0, .ref (zad (zb G) 15), .ref (zad (zb G) 16), .int 0, .int 0, .int 0, .int 0, .int 0]), zIN G 150 (fun _ => 0), zIN G 25 (fun _ => 0), zIN G 100 (fun _ => 0), zIN G 9 (fun _ => 0), zIN G 270 (fun _ => 0), zIN G 6 (fun _ => 0), zIN G 6 (fun _ => 0)] from rfl) ?_
  refine z_putF O (by rfl) rfl dX3_init_75 flX3_44 (by rfl) rfl rfl (by simp) ?_
  refine z_M (show _ = [.inr (3, [.ref (zad (zb G) 1), .ref (zad (zb G) 8), .ref (zad (zb G) 9), .ref (zad (zb G) 13), .ref (zad (zb G) 17), .ref (zad (zb G) 18), .ref (zad (zb G) 19), .ref (zad (zb G) 20), .long 0, .long 0, .int 0, .int 0, .int 0]), .inr (1, [.ref (zad (zb G) 2), .ref (zad (zb G) 6), .int 0, .ref (zad (zb G) 7), .int 0, .int 0]), .inr (0, [.ref (zad (zb G) 3), .ref (zad (zb G) 4), .ref (zad (zb G) 5)]), zIN G 9 (onesC (fun _ => 0) 9), zIN G 118 (fun _ => 0), zIN G 3 (fun _ => 0), zIN G 18 (fun _ => 0), zIN G 944 (fun _ => 0), zR G 2 (fun _ => none), .inr (0, [.ref (zad (zb G) 10), .ref (zad (zb G) 11), .ref (zad (zb G) 12)]), zIN G 9 (onesC (fun _ => 0) 9), zIN G 118 (fun _ => 0), zIN G 3 (fun _ => 0), .inr (2, [.ref (zad (zb G) 14), .int 0, .ref (zad (zb G) 15), .ref (zad (zb G) 16), .int 0, .int 0, .int 0, .int 0, .int 0]), zIN G 150 (fun _ => 0), zIN G 25 (fun _ => 0), zIN G 100 (fun _ => 0), zIN G 9 (fun _ => 0), zIN G 270 (fun _ => 0), zIN G 6 (fun _ => 0), zIN G 6 (fun _ => 0)] from rfl) ?_
  refine z_aload_n O dX3_init_78 rfl ?_
  refine z_lconst O (lN 0) dX3_init_79 (by decide) ?_
  refine z_put O (by rfl) dX3_init_80 flX3_47 (by rfl) rfl rfl (by simp) ?_
  refine z_M (show _ = [.inr (3, [.ref (zad (zb G) 1), .ref (zad (zb G) 8), .ref (zad (zb G) 9), .ref (zad (zb G) 13), .ref (zad (zb G) 17), .ref (zad (zb G) 18), .ref (zad (zb G) 19), .ref (zad (zb G) 20), .long (lN 0), .long 0, .int 0, .int 0, .int 0]), .inr (1, [.ref (zad (zb G) 2), .ref (zad (zb G) 6), .int 0, .ref (zad (zb G) 7), .int 0, .int 0]), .inr (0, [.ref (zad (zb G) 3), .ref (zad (zb G) 4), .ref (zad (zb G) 5)]), zIN G 9 (onesC (fun _ => 0) 9), zIN G 118 (fun _ => 0), zIN G 3 (fun _ => 0), zIN G 18 (fun _ => 0), zIN G 944 (fun _ => 0), zR G 2 (fun _ => none), .inr (0, [.ref (zad (zb G) 10), .ref (zad (zb G) 11), .ref (zad (zb G) 12)]), zIN G 9 (onesC (fun _ => 0) 9), zIN G 118 (fun _ => 0), zIN G 3 (fun _ => 0), .inr (2, [.ref (zad (zb G) 14), .int 0, .ref (zad (zb G) 15), .ref (zad (zb G) 16), .int 0, .int 0, .int 0, .int 0, .int 0]), zIN G 150 (fun _ => 0), zIN G 25 (fun _ => 0), zIN G 100 (fun _ => 0), zIN G 9 (fun _ => 0), zIN G 270 (fun _ => 0), zIN G 6 (fun _ => 0), zIN G 6 (fun _ => 0)] from rfl) ?_
  refine z_aload_n O dX3_init_83 rfl ?_
  refine z_lconst O (lN 1) dX3_init_84 (by decide) ?_
  refine z_put O (by rfl) dX3_init_85 flX3_51 (by rfl) rfl rfl (by simp) ?_
  refine z_M (show _ = [.inr (3, [.ref (zad (zb G) 1), .ref (zad (zb G) 8), .ref (zad (zb G) 9), .ref (zad (zb G) 13), .ref (zad (zb G) 17), .ref (zad (zb G) 18), .ref (zad (zb G) 19), .ref (zad (zb G) 20), .long (lN 0), .long (lN 1), .int 0, .int 0, .int 0]), .inr (1, [.ref (zad (zb G) 2), .ref (zad (zb G) 6), .int 0, .ref (zad (zb G) 7), .int 0, .int 0]), .inr (0, [.ref (zad (zb G) 3), .ref (zad (zb G) 4), .ref (zad (zb G) 5)]), zIN G 9 (onesC (fun _ => 0) 9), zIN G 118 (fun _ => 0), zIN G 3 (fun _ => 0), zIN G 18 (fun _ => 0), zIN G 944 (fun _ => 0), zR G 2 (fun _ => none), .inr (0, [.ref (zad (zb G) 10), .ref (zad (zb G) 11), .ref (zad (zb G) 12)]), zIN G 9 (onesC (fun _ => 0) 9), zIN G 118 (fun _ => 0), zIN G 3 (fun _ => 0), .inr (2, [.ref (zad (zb G) 14), .int 0, .ref (zad (zb G) 15), .ref (zad (zb G) 16), .int 0, .int 0, .int 0, .int 0, .int 0]), zIN G 150 (fun _ => 0), zIN G 25 (fun _ => 0), zIN G 100 (fun _ => 0), zIN G 9 (fun _ => 0), zIN G 270 (fun _ => 0), zIN G 6 (fun _ => 0), zIN G 6 (fun _ => 0)] from rfl) ?_
  exact z_vret O dX3_init_88 ⟨rfl, rfl⟩
end XI
section STC
variable {G : zG} {M : List va_E} {k ks i1 i2 i3 js jk : Nat} {we r cl seen kept : Nat → Nat} {rd nw ud : Nat}
theorem zState.away {k' : Nat} {e : va_E} (h : zState G M k ks i1 i2 i3 js jk we r cl seen kept rd nw ud) (h0 : k' ≠ k) (h1 : k' ≠ ks) (h2 : k' ≠ i1) (h3 : k' ≠ i2) (h4 : k' ≠ i3) (h5 : k' ≠ js) (h6 : k' ≠ jk) : zState G (M.set k' e) k ks i1 i2 i3 js jk we r cl seen kept rd nw ud := by
  obtain ⟨a0, ⟨b0, b1, b2, b3⟩, a1, a2⟩ := h
  exact ⟨zgn h0 a0, ⟨zgn h1 b0, zgn h2 b1, zgn h3 b2, zgn h4 b3⟩, zgn h5 a1, zgn h6 a2⟩
set_option maxRecDepth 20000 in
set_option maxHeartbeats 4000000 in
theorem t_copy (hT : zState G M k ks i1 i2 i3 js jk we r cl seen kept rd nw ud) {k' ks' j1 j2 j3 js' jk' : Nat} {we' r' cl' seen' kept' : Nat → Nat} {rd' nw' ud' : Nat} (hT' : zState G M k' ks' j1 j2 j3 js' jk' we' r' cl' seen' kept' rd' nw' ud') (d0 : i1 ≠ k') (d1 : i1 ≠ ks') (d2 : i1 ≠ j1) (d3 : i1 ≠ j2) (d4 : i1 ≠ j3) (d5 : i1 ≠ js') (d6 : i1 ≠ jk') (e0 : i2 ≠ k') (e1 : i2 ≠ ks') (e2 : i2 ≠ j1) (e3 : i2 ≠ j2) (e4 : i2 ≠ j3) (e5 : i2 ≠ js') (e6 : i2 ≠ jk') (f0 : js ≠ k') (f1 : js ≠ ks') (f2 : js ≠ j1) (f3 : js ≠ j2) (f4 : js ≠ j3) (f5 : js ≠ js') (f6 : js ≠ jk') (g0 : jk ≠ k') (g1 : jk ≠ ks') (g2 : jk ≠ j1) (g3 : jk ≠ j2) (g4 : jk ≠ j3) (g5 : jk ≠ js') (g6 : jk ≠ jk') (p0 : k ≠ k') (p1 : k ≠ ks') (p2 : k ≠ j1) (p3 : k ≠ j2) (p4 : k ≠ j3) (p5 : k ≠ js') (p6 : k ≠ jk') : zS G 2 yX1_copy cX1_copy 2 none [.ref (zad (zb G) k), .ref (zad (zb G) k')] M 0 0 (zU (((((M.set i1 (zIN G 9 (cpyN we' we 0 0 9))).set i2 (zIN G 118 (cpyN r' r 0 0 118))).set js (zIN G 18 (cpyN seen' seen 0 0 18))).set jk (zIN G 944 (cpyN kept' kept 0 0 944))).set k (.inr (1, [.ref (zad (zb G) ks), .ref (zad (zb G) js), .int (nI (rd')), .ref (zad (zb G) jk), .int (nI (nw')), .int (nI (ud'))])))) := by
  refine zS.of (by decide) (Nat.le_of_ble_eq_true rfl) (fun F O hR1 hR2 => ?_)
  have O : zOk G F yX1_copy cX1_copy 2 none RX1 2 M.length := O
  refine z_eq (lv' := [(0, _), (1, _)]) rfl rfl rfl ?_
  obtain ⟨hA0, ⟨hA1, -, -, -⟩, hA2, hA3⟩ := id hT
  obtain ⟨hB0, hB1, hB2, hB3⟩ := id hT'
  refine z_aload_n O dX1_copy_0 rfl ?_
  refine z_get O dX1_copy_1 flX1_12 hA0 (by rfl) ?_
  refine z_aload_n O dX1_copy_4 rfl ?_
  refine z_get O dX1_copy_5 flX1_12 hB0 (by rfl) ?_
  refine z_V1u0 O (s_copy hT.2.1 hT'.2.1) mX0_copy lkX1_36 rfl hA1 dX1_copy_8 (Nat.le_of_ble_eq_true rfl) (by decide) ?_
  have hT := (hT.wear (cpyN we' we 0 0 9)).row (cpyN r' r 0 0 118)
  have hT' := (hT'.away (e := zIN G 9 (cpyN we' we 0 0 9)) d0 d1 d2 d3 d4 d5 d6).away (e := zIN G 118 (cpyN r' r 0 0 118)) e0 e1 e2 e3 e4 e5 e6
  obtain ⟨hA0, -, hA2, hA3⟩ := id hT
  obtain ⟨hB0, -, hB2, hB3⟩ := id hT'
  refine z_aload_n O dX1_copy_11 rfl ?_
  refine z_get O dX1_copy_12 flX1_18 hB0 (by rfl) ?_
  refine z_iconst O (nI 0) dX1_copy_15 (by decide) ?_
  refine z_aload_n O dX1_copy_16 rfl ?_
  refine z_get O dX1_copy_17 flX1_18 hA0 (by rfl) ?_
  refine z_iconst O (nI 0) dX1_copy_20 (by decide) ?_
  refine z_bipush O (nI 18) dX1_copy_21 (by decide) ?_
  refine z_copyN O (by simp) dX1_copy_23 lkX1_40 hB2 hA2 (by decide) (by decide) (by decide) (Nat.le_of_ble_eq_true rfl) (by decide) ?_
  have hT := hT.sn (cpyN seen' seen 0 0 18)
  have hT' := hT'.away (e := zIN G 18 (cpyN seen' seen 0 0 18)) f0 f1 f2 f3 f4 f5 f6
  obtain ⟨hA0, -, hA2, hA3⟩ := id hT
  obtain ⟨hB0, -, hB2, hB3⟩ := id hT'
  refine z_aload_n O dX1_copy_26 rfl ?_
  refine z_get O dX1_copy_27 flX1_22 hB0 (by rfl) ?_
  refine z_iconst O (nI 0) dX1_copy_30 (by decide) ?_
  refine z_aload_n O dX1_copy_31 rfl ?_
  refine z_get O dX1_copy_32 flX1_22 hA0 (by rfl) ?_
  refine z_iconst O (nI 0) dX1_copy_35 (by decide) ?_
  refine z_sipush O (nI 944) dX1_copy_36 (by decide) ?_
  refine z_copyN O (by simp) dX1_copy_39 lkX1_40 hB3 hA3 (by decide) (by decide) (by decide) (Nat.le_of_ble_eq_true rfl) (by decide) ?_
  have hT := hT.kp (cpyN kept' kept 0 0 944)
  have hT' := hT'.away (e := zIN G 944 (cpyN kept' kept 0 0 944)) g0 g1 g2 g3 g4 g5 g6
  obtain ⟨hA0, -, hA2, hA3⟩ := id hT
  obtain ⟨hB0, -, hB2, hB3⟩ := id hT'
  have hZ0 := hA0
  have hY0 := hB0
  refine z_aload_n O dX1_copy_42 rfl ?_
  refine z_aload_n O dX1_copy_43 rfl ?_
  refine z_get O dX1_copy_44 flX1_29 hB0 (by rfl) ?_
  refine z_put O (by simp) dX1_copy_47 flX1_29 hA0 rfl rfl (by simp) ?_
  have hT := hT.obj rd' nw ud
  have hT' := hT'.away (e := .inr (1, [.ref (zad (zb G) ks), .ref (zad (zb G) js), .int (nI (rd')), .ref (zad (zb G) jk), .int (nI (nw)), .int (nI (ud))])) p0 p1 p2 p3 p4 p5 p6
  obtain ⟨hA0, -, hA2, hA3⟩ := id hT
  obtain ⟨hB0, -, hB2, hB3⟩ := id hT'
  refine z_aload_n O dX1_copy_50 rfl ?_
  refine z_aload_n O dX1_copy_51 rfl ?_
  refine z_get O dX1_copy_52 flX1_46 hB0 (by rfl) ?_
  refine z_put O (by simp) dX1_copy_55 flX1_46 hA0 rfl rfl (by simp) ?_
  refine z_M zss ?_
  have hT := hT.obj rd' nw' ud
  have hT' := hT'.away (e := .inr (1, [.ref (zad (zb G) ks), .ref (zad (zb G) js), .int (nI (rd')), .ref (zad (zb G) jk), .int (nI (nw')), .int (nI (ud))])) p0 p1 p2 p3 p4 p5 p6
  obtain ⟨hA0, -, hA2, hA3⟩ := id hT
  obtain ⟨hB0, -, hB2, hB3⟩ := id hT'
  refine z_M (show _ = ((((M.set i1 (zIN G 9 (cpyN we' we 0 0 9))).set i2 (zIN G 118 (cpyN r' r 0 0 118))).set js (zIN G 18 (cpyN seen' seen 0 0 18))).set jk (zIN G 944 (cpyN kept' kept 0 0 944))).set k (.inr (1, [.ref (zad (zb G) ks), .ref (zad (zb G) js), .int (nI (rd')), .ref (zad (zb G) jk), .int (nI (nw')), .int (nI (ud))])) from rfl) ?_
  have hA0 : (((((M.set i1 (zIN G 9 (cpyN we' we 0 0 9))).set i2 (zIN G 118 (cpyN r' r 0 0 118))).set js (zIN G 18 (cpyN seen' seen 0 0 18))).set jk (zIN G 944 (cpyN kept' kept 0 0 944))).set k (.inr (1, [.ref (zad (zb G) ks), .ref (zad (zb G) js), .int (nI (rd')), .ref (zad (zb G) jk), .int (nI (nw')), .int (nI (ud))])))[k]? = some (.inr (1, [.ref (zad (zb G) ks), .ref (zad (zb G) js), .int (nI (rd')), .ref (zad (zb G) jk), .int (nI (nw')), .int (nI (ud))])) := zgs hZ0
  have hB0 : (((((M.set i1 (zIN G 9 (cpyN we' we 0 0 9))).set i2 (zIN G 118 (cpyN r' r 0 0 118))).set js (zIN G 18 (cpyN seen' seen 0 0 18))).set jk (zIN G 944 (cpyN kept' kept 0 0 944))).set k (.inr (1, [.ref (zad (zb G) ks), .ref (zad (zb G) js), .int (nI (rd')), .ref (zad (zb G) jk), .int (nI (nw')), .int (nI (ud))])))[k']? = _ := zgn p0 hY0
  refine z_aload_n O dX1_copy_58 rfl ?_
  refine z_aload_n O dX1_copy_59 rfl ?_
  refine z_get O dX1_copy_60 flX1_33 hB0 (by rfl) ?_
  refine z_put O (by simp) dX1_copy_63 flX1_33 hA0 rfl rfl (by simp) ?_
  refine z_M zss ?_
  exact z_vret O dX1_copy_66 ⟨rfl, rfl⟩
end STC
