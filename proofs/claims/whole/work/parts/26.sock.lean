/-! ===== Sock: span, ways, copy ===== -/
section ZY
variable {G : zG} {F : zF} {y : MethodName} {cc : ByteArray} {nL : Nat} {ret : Option FieldType} {own : String} {d n0 cells slots pc : Nat} {Q : State → Prop} {lv : List (Nat × Value)} {st : List Value} {M : List va_E}
theorem z_iincV (O : zOk G F y cc nL ret own d n0) {i : Nat} {n : Int} {x : Int32} (v : Int32) {lv' : List (Nat × Value)} (hd : decode cc pc = .ok (.iinc i n, 3)) (hn : i < nL) (hk : lv.lookup i = some (.int x)) (hv : x + Int32.ofInt n = v) (hl' : zst1 lv i (.int v) = lv') (k : Z G F cells slots Q (pc + 3) lv' st M) : Z G F cells slots Q pc lv st M := by
  subst hv
  exact z_iinc O _ hd hn hk hl' rfl k
theorem z_copyN (O : zOk G F y cc nL ret own d n0) {idx a0 a1 c0 c1 : Nat} {f g : Nat → Nat} {sp dp n : Nat} (hc : n0 + cells = M.length) (hd : decode cc pc = .ok (.invokestatic idx, 3)) (hl1 : Cond.methodLink own idx arraycopyName ∈ zTb)
    (he0 : M[a0]? = some (zIN G c0 f)) (he1 : M[a1]? = some (zIN G c1 g)) (g4 : sp + n ≤ c0) (g5 : dp + n ≤ c1) (hb : c0 < 2 ^ 31 ∧ c1 < 2 ^ 31) (hr : (st.map fun v => v.category).sum ≤ 8) (hd1 : 1 ≤ d)
    (k : Z G F cells slots Q (pc + 3) lv st (M.set a1 (zIN G c1 (cpyN f g sp dp n)))) : Z G F cells slots Q pc lv (.int (nI n) :: .int (nI dp) :: .ref (zad (zb G) a1) :: .int (nI sp) :: .ref (zad (zb G) a0) :: st) M := by
  have e1 := nI_clamp (n := sp) (by omega)
  have e2 := nI_clamp (n := dp) (by omega)
  have e3 := nI_clamp (n := n) (by omega)
  refine z_copy O hc hd hl1 kp_n kp_s kp_i he0 he1 (nI_pos (by omega)) (nI_pos (by omega)) (nI_pos (by omega)) (by rw [e1, e3]; exact g4) (by rw [e2, e3]; exact g5) hr hd1 ?_
  rw [e1, e2, e3, cpy_nI]
  exact k
end ZY
theorem mI_dec (u : Nat) (h : 0 < u) : mI u + (-1) = mI (u - 1) := by
  obtain ⟨n, rfl⟩ : ∃ n, u = n + 1 := ⟨u - 1, by omega⟩
  rw [mI_s]
  rfl
theorem mI_sub1 (u : Nat) : nI u - nI 1 = mI u := by
  unfold mI
  rw [show (-1 : Int32) = - nI 1 by decide, ← Int32.sub_eq_add_neg]
theorem mI_sub1' (u : Nat) (h : 0 < u) : mI u - nI 1 = mI (u - 1) := by
  rw [← mI_dec u h, show (-1 : Int32) = - nI 1 by decide, ← Int32.sub_eq_add_neg]
theorem mI_nI (u : Nat) (h : 0 < u) : mI u = nI (u - 1) := by
  obtain ⟨n, rfl⟩ : ∃ n, u = n + 1 := ⟨u - 1, by omega⟩
  exact mI_s n
theorem mI_ge0 {u : Nat} (hu : u < 2 ^ 30) : 0 ≤ mI u ↔ 0 < u := by
  rw [Int32.le_iff_toInt_le, mI_toInt hu, Int32.toInt_zero]; omega
theorem spanG_le {r we : Nat → Nat} {c : Nat} : ∀ n m u kd lf, m + n = 41 → spanG r we c n m u kd lf ≤ 41
  | 0, _, _, _, _, _ => Nat.le_refl _
  | n + 1, m, u, kd, lf, h => by
    unfold spanG
    repeat' split
    · omega
    · exact spanG_le n _ _ _ _ (by omega)
    · exact spanG_le n _ _ _ _ (by omega)
section SK
variable {G : zG} {M : List va_E} {k i1 i2 i3 : Nat} {we r cl : Nat → Nat}
set_option maxRecDepth 20000 in
set_option maxHeartbeats 4000000 in
theorem s_span (hS : zSock G M k i1 i2 i3 we r cl) (hr : rowOK r) (hw : weOK we) {c kd0 th0 : Nat} (hc : c < 9) (hkd0 : kd0 < 2 ^ 31) (hth0 : th0 < 1048576) : zS G 3 yX0_span cX0_span 8 (some .int) [.ref (zad (zb G) k), .int (nI c), .int (nI kd0), .int (nI th0)] M 0 0 (zE (.int (nI (spanG r we c 41 0 (r (108 + c)) kd0 th0))) M) := by
  refine zS.of (by decide) (Nat.le_of_ble_eq_true rfl) (fun F O hR1 hR2 => ?_)
  have O : zOk G F yX0_span cX0_span 8 (some .int) RX0 3 M.length := O
  refine z_eq (lv' := [(0, _), (1, _), (2, _), (3, _)]) rfl rfl rfl ?_
  obtain ⟨hk0, hk1, hk2, hk3⟩ := id hS
  refine z_iload_n O dX0_span_0 rfl ?_
  refine z_bipush O (nI 9) dX0_span_1 (by decide) ?_
  refine z_SN2e0 O (s_withinN (by omega) (by decide)) mX3_within nlX0_27 dX0_span_3 (Nat.le_of_ble_eq_true rfl) (by decide) ?_
  refine z_if_neB O 11 dX0_span_6 (by decide) (fun h6 => ?_) (fun h6 => by omega)
  refine z_aload_n O dX0_span_11 rfl ?_
  refine z_iload_n O dX0_span_12 rfl ?_
  refine z_V1e0 O (s_many hS hc) mX0_many lkX0_35 rfl hk0 dX0_span_13 (Nat.le_of_ble_eq_true rfl) (by decide) ?_
  refine z_iconst O (nI 1) dX0_span_16 (by decide) ?_
  refine z_isub O dX0_span_17 ?_
  refine z_top (v' := .int (mI (r (108 + c)))) (congrArg Value.int (mI_sub1 _)) ?_
  refine z_istore (lv' := [(0, _), (1, _), (2, _), (3, _), (4, _)]) O dX0_span_18 (by decide) rfl ?_
  refine z_iload_n O dX0_span_20 rfl ?_
  refine z_istore (lv' := [(0, _), (1, _), (2, _), (3, _), (4, _), (5, _)]) O dX0_span_21 (by decide) rfl ?_
  refine z_iload_n O dX0_span_23 rfl ?_
  refine z_istore (lv' := [(0, _), (1, _), (2, _), (3, _), (4, _), (5, _), (6, _)]) O dX0_span_24 (by decide) rfl ?_
  refine z_iconst O (nI 0) dX0_span_26 (by decide) ?_
  refine z_istore (lv' := [(0, _), (1, _), (2, _), (3, _), (4, _), (5, _), (6, _), (7, _)]) O dX0_span_27 (by decide) rfl ?_
  refine z_kp (lv' := [(0, _), (1, _), (4, _), (5, _), (6, _), (7, _)]) [0, 1, 4, 5, 6, 7] rfl ?_
  refine zdown (P := fun m => ∀ (u kd lf : Nat) (x : Int32), u ≤ 3 → kd < 2 ^ 31 → lf < 1048576 → lfx x lf → spanG r we c (41 - m) m u kd lf = spanG r we c 41 0 (r (108 + c)) kd0 th0 → Z G F 0 0 (zEnd G F (zE (.int (nI (spanG r we c 41 0 (r (108 + c)) kd0 th0))) M) 0 0) 29 [(0, .ref (zad (zb G) k)), (1, .int (nI c)), (4, .int (mI u)), (5, .int (nI kd)), (6, .int x), (7, .int (nI m))] [] M) (41) ?_ ?_ _ _ _ _ (hr.2 c hc) hkd0 hth0 lfx_n rfl
  · intro u kd lf x hu hkd hlf hx hres
    refine z_iload O dX0_span_29 rfl ?_
    refine z_bipush O (nI 41) dX0_span_31 (by decide) ?_
    refine z_icmp_geN O 103 dX0_span_33 (by decide) (by omega) (by omega) (fun h33 => ?_) (fun h33 => by omega)
    refine z_bipush O (nI 41) dX0_span_103 (by decide) ?_
    exact z_iret O dX0_span_105 ⟨by rw [← hres]; rfl, rfl⟩
  · intro m hm ih u kd lf x hu hkd hlf hx hres
    rw [show 41 - m = (41 - (m + 1)) + 1 by omega] at hres
    have hb1 := hw c
    have hb2 := hr.1 117
    refine z_iload O dX0_span_29 rfl ?_
    refine z_bipush O (nI 41) dX0_span_31 (by decide) ?_
    refine z_icmp_geN O 103 dX0_span_33 (by decide) (by omega) (by omega) (fun h33 => by omega) (fun h33 => ?_)
    rcases hx with ⟨hx1, hx2⟩ | ⟨hx1, rfl⟩
    · refine z_iload O dX0_span_36 rfl ?_
      refine z_if_gt O 71 dX0_span_38 (by decide) (fun h38 => by exact absurd h38 (Int32.not_lt.mpr hx2)) (fun h38 => ?_)
      refine z_iload O dX0_span_41 rfl ?_
      refine z_if_ge O 49 dX0_span_43 (by decide) (fun h43 => ?_) (fun h43 => ?_)
      · have hu1 : 0 < u := (mI_ge0 (by omega)).mp h43
        have hb3 : fld r c (u - 1) 0 < 1048576 := hr.1 _
        have hb4 : fld r c (u - 1) 2 < 1048576 := hr.1 _
        have hb5 := lossN_le (fld r c (u - 1) 0) (we c) (r 117 + m)
        rw [spanG, if_pos hx1, if_neg (by omega)] at hres
        refine z_aload_n O dX0_span_49 rfl ?_
        refine z_iload_n O dX0_span_50 rfl ?_
        refine z_iload O dX0_span_51 rfl ?_
        refine z_top (v' := .int (nI (u - 1))) (by rw [mI_nI u hu1]) ?_
        refine z_iconst O (nI 0) dX0_span_53 (by decide) ?_
        refine z_V3e0 O (s_get hS hc (by omega) (by decide)) mX0_get lkX0_31 rfl hk0 dX0_span_54 (Nat.le_of_ble_eq_true rfl) (by decide) ?_
        refine z_istore (lv' := [(0, _), (1, _), (4, _), (5, _), (6, _), (7, _)]) O dX0_span_57 (by decide) rfl ?_
        refine z_aload_n O dX0_span_59 rfl ?_
        refine z_iload_n O dX0_span_60 rfl ?_
        refine z_iload O dX0_span_61 rfl ?_
        refine z_top (v' := .int (nI (u - 1))) (by rw [mI_nI u hu1]) ?_
        refine z_V2e0 O (s_threadAt hS hc (by omega)) mX0_threadAt lkX0_61 rfl hk0 dX0_span_63 (Nat.le_of_ble_eq_true rfl) (by decide) ?_
        refine z_istore (lv' := [(0, _), (1, _), (4, _), (5, _), (6, _), (7, _)]) O dX0_span_66 (by decide) rfl ?_
        refine z_iincV (lv' := [(0, _), (1, _), (4, _), (5, _), (6, _), (7, _)]) O (mI (u - 1)) dX0_span_68 (by decide) rfl (mI_dec u hu1) rfl ?_
        refine z_iload O dX0_span_71 rfl ?_
        refine z_iload O dX0_span_73 rfl ?_
        refine z_aload_n O dX0_span_75 rfl ?_
        refine z_get O dX0_span_76 flX0_9 hk0 (by rfl) ?_
        refine z_iload_n O dX0_span_79 rfl ?_
        refine z_ialdN O dX0_span_80 hk1 (by omega) (by decide) ?_
        refine z_aload_n O dX0_span_81 rfl ?_
        refine z_get O dX0_span_82 flX0_15 hk0 (by rfl) ?_
        refine z_bipush O (nI 117) dX0_span_85 (by decide) ?_
        refine z_ialdN O dX0_span_87 hk2 (by omega) (by decide) ?_
        refine z_iload O dX0_span_88 rfl ?_
        refine z_iaddN O dX0_span_90 ?_
        refine z_SN3e0 O (s_loss (by omega) (by omega) (by omega)) mX3_loss nlX0_65 dX0_span_91 (Nat.le_of_ble_eq_true rfl) (by decide) ?_
        refine z_isub O dX0_span_94 ?_
        refine z_istore (lv' := [(0, _), (1, _), (4, _), (5, _), (6, _), (7, _)]) O dX0_span_95 (by decide) rfl ?_
        refine z_iincN (lv' := [(0, _), (1, _), (4, _), (5, _), (6, _), (7, _)]) O 1 dX0_span_97 (by decide) rfl rfl (by decide) ?_
        refine z_goto O 29 dX0_span_100 (by decide) ?_
        exact ih _ _ _ _ (by omega) (by omega) (by omega) (lfx_sub (by omega) (by omega)) hres
      · refine z_iload O dX0_span_46 rfl ?_
        exact z_iret O dX0_span_48 (by have hu0 : u = 0 := Nat.eq_zero_of_not_pos (fun q => h43 ((mI_ge0 (by omega)).mpr q)); rw [spanG, if_pos hx1, if_pos hu0] at hres; exact ⟨by rw [← hres], rfl⟩)
    · refine z_iload O dX0_span_36 rfl ?_
      refine z_if_gtN O 71 dX0_span_38 (by decide) (by omega) (fun h38 => ?_) (fun h38 => by omega)
      have hb5 := lossN_le kd (we c) (r 117 + m)
      rw [spanG, if_neg (by omega)] at hres
      refine z_iload O dX0_span_71 rfl ?_
      refine z_iload O dX0_span_73 rfl ?_
      refine z_aload_n O dX0_span_75 rfl ?_
      refine z_get O dX0_span_76 flX0_9 hk0 (by rfl) ?_
      refine z_iload_n O dX0_span_79 rfl ?_
      refine z_ialdN O dX0_span_80 hk1 (by omega) (by decide) ?_
      refine z_aload_n O dX0_span_81 rfl ?_
      refine z_get O dX0_span_82 flX0_15 hk0 (by rfl) ?_
      refine z_bipush O (nI 117) dX0_span_85 (by decide) ?_
      refine z_ialdN O dX0_span_87 hk2 (by omega) (by decide) ?_
      refine z_iload O dX0_span_88 rfl ?_
      refine z_iaddN O dX0_span_90 ?_
      refine z_SN3e0 O (s_loss (by omega) (by omega) (by omega)) mX3_loss nlX0_65 dX0_span_91 (Nat.le_of_ble_eq_true rfl) (by decide) ?_
      refine z_isub O dX0_span_94 ?_
      refine z_istore (lv' := [(0, _), (1, _), (4, _), (5, _), (6, _), (7, _)]) O dX0_span_95 (by decide) rfl ?_
      refine z_iincN (lv' := [(0, _), (1, _), (4, _), (5, _), (6, _), (7, _)]) O 1 dX0_span_97 (by decide) rfl rfl (by decide) ?_
      refine z_goto O 29 dX0_span_100 (by decide) ?_
      exact ih _ _ _ _ hu hkd (by omega) (lfx_sub (by omega) (by omega)) hres
set_option maxRecDepth 20000 in
set_option maxHeartbeats 4000000 in
theorem s_threadAtM (hS : zSock G M k i1 i2 i3 we r cl) {c : Nat} : zS G 2 yX0_threadAt cX0_threadAt 3 (some .int) [.ref (zad (zb G) k), .int (nI c), .int (mI 0)] M 0 0 (zE (.int (nI 0)) M) := by
  refine zS.of (by decide) (Nat.le_of_ble_eq_true rfl) (fun F O hR1 hR2 => ?_)
  have O : zOk G F yX0_threadAt cX0_threadAt 3 (some .int) RX0 2 M.length := O
  refine z_eq (lv' := [(0, _), (1, _), (2, _)]) rfl rfl rfl ?_
  obtain ⟨hk0, hk1, hk2, hk3⟩ := id hS
  refine z_iload_n O dX0_threadAt_0 rfl ?_
  refine z_iconst O (nI 3) dX0_threadAt_1 (by decide) ?_
  refine z_SN2e0 O s_within mX3_within nlX0_27 dX0_threadAt_2 (Nat.le_of_ble_eq_true rfl) (by decide) ?_
  refine z_if_eqB O 18 dX0_threadAt_5 (by decide) (fun h5 => ?_) (fun h5 => by exact absurd h5.1 (by decide))
  refine z_iconst O (nI 0) dX0_threadAt_18 (by decide) ?_
  exact z_iret O dX0_threadAt_19 ⟨rfl, rfl⟩
theorem s_threadAtO (hS : zSock G M k i1 i2 i3 we r cl) {c v : Nat} (hc : c < 9) (hv : v ≤ 3) : zS G 2 yX0_threadAt cX0_threadAt 3 (some .int) [.ref (zad (zb G) k), .int (nI c), .int (mI v)] M 0 0 (zE (.int (nI (if v = 0 then 0 else fld r c (v - 1) 2))) M) := by
  by_cases h : v = 0
  · subst h
    exact s_threadAtM hS
  · rw [if_neg h, mI_nI v (by omega)]
    exact s_threadAt hS hc (by omega)
set_option maxRecDepth 20000 in
set_option maxHeartbeats 4000000 in
theorem s_waysFrom (hS : zSock G M k i1 i2 i3 we r cl) (hr : rowOK r) (hw : weOK we) {c cc : Nat} (hc : c < 9) (hcc : cc ≤ 10) : ∀ n, n ≤ 8 → ∀ u th y : Nat, u ≤ 3 → th < 1048576 → y + n < 1048576 → zS G (n + 3) yX0_waysFrom cX0_waysFrom 12 (some .long) [.ref (zad (zb G) k), .int (nI c), .int (mI u), .int (nI th), .int (nI n), .int (nI y), .int (nI cc)] M 0 0 (zE (.long (lN (hwN r we c cc n u th y))) M)
  | 0, _, u, th, y, hu, hth, hy => by
    refine zS.of (by decide) (Nat.le_of_ble_eq_true rfl) (fun F O hR1 hR2 => ?_)
    have O : zOk G F yX0_waysFrom cX0_waysFrom 12 (some .long) RX0 3 M.length := O
    refine z_eq (lv' := [(0, _), (1, _), (2, _), (3, _), (4, _), (5, _), (6, _)]) rfl rfl rfl ?_
    obtain ⟨hk0, hk1, hk2, hk3⟩ := id hS
    by_cases hu0 : u = 0
    · refine z_iload_n O dX0_waysFrom_0 rfl ?_
      refine z_if_ge O 10 dX0_waysFrom_1 (by decide) (fun h1 => by exact absurd ((mI_ge0 (by omega)).mp h1) (by omega)) (fun h1 => ?_)
      refine z_iload O dX0_waysFrom_4 rfl ?_
      refine z_SN1e0 O (s_powerOfTen (by omega)) mX3_powerOfTen nlX0_108 dX0_waysFrom_6 (Nat.le_of_ble_eq_true rfl) (by decide) ?_
      exact z_lret O dX0_waysFrom_9 ⟨by rw [hwN, if_pos hu0], rfl⟩
    · refine z_iload_n O dX0_waysFrom_0 rfl ?_
      refine z_if_ge O 10 dX0_waysFrom_1 (by decide) (fun h1 => ?_) (fun h1 => by exact absurd ((mI_ge0 (by omega)).mpr (by omega)) h1)
      refine z_iload O dX0_waysFrom_10 rfl ?_
      refine z_iconst O (nI 1) dX0_waysFrom_12 (by decide) ?_
      refine z_bipush O (nI 8) dX0_waysFrom_13 (by decide) ?_
      refine z_SN3e0 O (s_betweenN (by omega) (by omega) (by omega)) mX3_between nlX0_46 dX0_waysFrom_15 (Nat.le_of_ble_eq_true rfl) (by decide) ?_
      refine z_if_eqB O 30 dX0_waysFrom_18 (by decide) (fun h18 => ?_) (fun h18 => by omega)
      refine z_lconst O (lN 0) dX0_waysFrom_30 (by decide) ?_
      exact z_lret O dX0_waysFrom_31 ⟨by rw [hwN, if_neg hu0], rfl⟩
  | n + 1, hn, u, th, y, hu, hth, hy => by
    have ih := s_waysFrom hS hr hw hc hcc n (by omega)
    refine zS.of (by decide) (Nat.le_of_ble_eq_true rfl) (fun F O hR1 hR2 => ?_)
    have O : zOk G F yX0_waysFrom cX0_waysFrom 12 (some .long) RX0 (n + 1 + 3) M.length := O
    refine z_eq (lv' := [(0, _), (1, _), (2, _), (3, _), (4, _), (5, _), (6, _)]) rfl rfl rfl ?_
    obtain ⟨hk0, hk1, hk2, hk3⟩ := id hS
    by_cases hu0 : u = 0
    · refine z_iload_n O dX0_waysFrom_0 rfl ?_
      refine z_if_ge O 10 dX0_waysFrom_1 (by decide) (fun h1 => by exact absurd ((mI_ge0 (by omega)).mp h1) (by omega)) (fun h1 => ?_)
      refine z_iload O dX0_waysFrom_4 rfl ?_
      refine z_SN1e0 O (s_powerOfTen (by omega)) mX3_powerOfTen nlX0_108 dX0_waysFrom_6 (Nat.le_of_ble_eq_true rfl) (by omega) ?_
      exact z_lret O dX0_waysFrom_9 ⟨by rw [hwN, if_pos hu0], rfl⟩
    · refine z_iload_n O dX0_waysFrom_0 rfl ?_
      refine z_if_ge O 10 dX0_waysFrom_1 (by decide) (fun h1 => ?_) (fun h1 => by exact absurd ((mI_ge0 (by omega)).mpr (by omega)) h1)
      have hb1 := hw c
      have hb3 : fld r c (u - 1) 0 < 1048576 := hr.1 _
      have hb5 := lossN_le (fld r c (u - 1) 0) (we c) y
      refine z_iload O dX0_waysFrom_10 rfl ?_
      refine z_iconst O (nI 1) dX0_waysFrom_12 (by decide) ?_
      refine z_bipush O (nI 8) dX0_waysFrom_13 (by decide) ?_
      refine z_SN3e0 O (s_betweenN (by omega) (by omega) (by omega)) mX3_between nlX0_46 dX0_waysFrom_15 (Nat.le_of_ble_eq_true rfl) (by omega) ?_
      refine z_if_eqB O 30 dX0_waysFrom_18 (by decide) (fun h18 => by omega) (fun h18 => ?_)
      refine z_iload_n O dX0_waysFrom_21 rfl ?_
      refine z_bipush O (nI 9) dX0_waysFrom_22 (by decide) ?_
      refine z_SN2e0 O (s_withinN (by omega) (by decide)) mX3_within nlX0_27 dX0_waysFrom_24 (Nat.le_of_ble_eq_true rfl) (by omega) ?_
      refine z_if_neB O 32 dX0_waysFrom_27 (by decide) (fun h27 => ?_) (fun h27 => by omega)
      refine z_iload_n O dX0_waysFrom_32 rfl ?_
      refine z_aload_n O dX0_waysFrom_33 rfl ?_
      refine z_iload_n O dX0_waysFrom_34 rfl ?_
      refine z_iload_n O dX0_waysFrom_35 rfl ?_
      refine z_top (v' := .int (nI (u - 1))) (by rw [mI_nI u (by omega)]) ?_
      refine z_iconst O (nI 0) dX0_waysFrom_36 (by decide) ?_
      refine z_V3e0 O (s_get hS hc (by omega) (by decide)) mX0_get lkX0_31 rfl hk0 dX0_waysFrom_37 (Nat.le_of_ble_eq_true rfl) (by omega) ?_
      refine z_aload_n O dX0_waysFrom_40 rfl ?_
      refine z_get O dX0_waysFrom_41 flX0_9 hk0 (by rfl) ?_
      refine z_iload_n O dX0_waysFrom_44 rfl ?_
      refine z_ialdN O dX0_waysFrom_45 hk1 (by omega) (by decide) ?_
      refine z_iload O dX0_waysFrom_46 rfl ?_
      refine z_SN3e0 O (s_loss (by omega) (by omega) (by omega)) mX3_loss nlX0_65 dX0_waysFrom_48 (Nat.le_of_ble_eq_true rfl) (by omega) ?_
      by_cases hf : th ≤ lossN (fld r c (u - 1) 0) (we c) y
      · refine z_isub O dX0_waysFrom_51 ?_
        refine z_istore (lv' := [(0, _), (1, _), (2, _), (3, _), (4, _), (5, _), (6, _), (7, _)]) O dX0_waysFrom_52 (by decide) rfl ?_
        refine z_iload O dX0_waysFrom_54 rfl ?_
        refine z_if_le O 80 dX0_waysFrom_56 (by decide) (fun h56 => ?_) (fun h56 => by exact absurd ((lfx_le (lfx_sub (by omega) (by omega)) (by omega)).mpr (by omega)) h56)
        refine z_aload_n O dX0_waysFrom_80 rfl ?_
        refine z_iload_n O dX0_waysFrom_81 rfl ?_
        refine z_iload_n O dX0_waysFrom_82 rfl ?_
        refine z_iconst O (nI 1) dX0_waysFrom_83 (by decide) ?_
        refine z_isub O dX0_waysFrom_84 ?_
        refine z_top (v' := .int (mI (u - 1))) (congrArg Value.int (mI_sub1' u (by omega))) ?_
        refine z_aload_n O dX0_waysFrom_85 rfl ?_
        refine z_iload_n O dX0_waysFrom_86 rfl ?_
        refine z_iload_n O dX0_waysFrom_87 rfl ?_
        refine z_iconst O (nI 1) dX0_waysFrom_88 (by decide) ?_
        refine z_isub O dX0_waysFrom_89 ?_
        refine z_top (v' := .int (mI (u - 1))) (congrArg Value.int (mI_sub1' u (by omega))) ?_
        refine z_V2e0 O (s_threadAtO hS hc (by omega)) mX0_threadAt lkX0_61 rfl hk0 dX0_waysFrom_90 (Nat.le_of_ble_eq_true rfl) (by omega) ?_
        refine z_iload O dX0_waysFrom_93 rfl ?_
        refine z_iconst O (nI 1) dX0_waysFrom_95 (by decide) ?_
        refine z_isubN O dX0_waysFrom_96 (by omega) ?_
        refine z_iload O dX0_waysFrom_97 rfl ?_
        refine z_iconst O (nI 1) dX0_waysFrom_99 (by decide) ?_
        refine z_iaddN O dX0_waysFrom_100 ?_
        refine z_iload O dX0_waysFrom_101 rfl ?_
        refine z_V6e0 O (ih _ _ _ (by omega) (by split; exact Nat.zero_lt_succ _; exact hr.1 _) (by omega)) mX0_waysFrom lkX0_104 rfl hk0 dX0_waysFrom_103 (Nat.le_of_ble_eq_true rfl) (by omega) ?_
        refine z_lstore (lv' := [(0, _), (1, _), (2, _), (3, _), (4, _), (5, _), (6, _), (7, _), (8, _)]) O dX0_waysFrom_106 (by decide) rfl ?_
        refine z_aload_n O dX0_waysFrom_108 rfl ?_
        refine z_iload_n O dX0_waysFrom_109 rfl ?_
        refine z_iload_n O dX0_waysFrom_110 rfl ?_
        refine z_iload_n O dX0_waysFrom_111 rfl ?_
        refine z_iload O dX0_waysFrom_112 rfl ?_
        refine z_iconst O (nI 1) dX0_waysFrom_114 (by decide) ?_
        refine z_isubN O dX0_waysFrom_115 (by omega) ?_
        refine z_iload O dX0_waysFrom_116 rfl ?_
        refine z_iconst O (nI 1) dX0_waysFrom_118 (by decide) ?_
        refine z_iaddN O dX0_waysFrom_119 ?_
        refine z_iload O dX0_waysFrom_120 rfl ?_
        refine z_V6e0 O (ih _ _ _ hu hth (by omega)) mX0_waysFrom lkX0_104 rfl hk0 dX0_waysFrom_122 (Nat.le_of_ble_eq_true rfl) (by omega) ?_
        refine z_lstore (lv' := [(0, _), (1, _), (2, _), (3, _), (4, _), (5, _), (6, _), (7, _), (8, _), (10, _)]) O dX0_waysFrom_125 (by decide) rfl ?_
        refine z_iload O dX0_waysFrom_127 rfl ?_
        refine z_i2lN O dX0_waysFrom_129 (by omega) ?_
        refine z_lload O dX0_waysFrom_130 rfl ?_
        refine z_lmulN O dX0_waysFrom_132 ?_
        refine z_bipush O (nI 10) dX0_waysFrom_133 (by decide) ?_
        refine z_iload O dX0_waysFrom_135 rfl ?_
        refine z_isubN O dX0_waysFrom_137 (by omega) ?_
        refine z_i2lN O dX0_waysFrom_138 (by omega) ?_
        refine z_lload O dX0_waysFrom_139 rfl ?_
        refine z_lmulN O dX0_waysFrom_141 ?_
        refine z_laddN O dX0_waysFrom_142 ?_
        exact z_lret O dX0_waysFrom_143 ⟨by rw [hwN, if_neg hu0, if_pos hf], rfl⟩
      · refine z_isubN O dX0_waysFrom_51 (by omega) ?_
        refine z_istore (lv' := [(0, _), (1, _), (2, _), (3, _), (4, _), (5, _), (6, _), (7, _)]) O dX0_waysFrom_52 (by decide) rfl ?_
        refine z_iload O dX0_waysFrom_54 rfl ?_
        refine z_if_leN O 80 dX0_waysFrom_56 (by decide) (by omega) (fun h56 => by omega) (fun h56 => ?_)
        refine z_aload_n O dX0_waysFrom_59 rfl ?_
        refine z_iload_n O dX0_waysFrom_60 rfl ?_
        refine z_iload_n O dX0_waysFrom_61 rfl ?_
        refine z_iload O dX0_waysFrom_62 rfl ?_
        refine z_iload O dX0_waysFrom_64 rfl ?_
        refine z_iconst O (nI 1) dX0_waysFrom_66 (by decide) ?_
        refine z_isubN O dX0_waysFrom_67 (by omega) ?_
        refine z_iload O dX0_waysFrom_68 rfl ?_
        refine z_iconst O (nI 1) dX0_waysFrom_70 (by decide) ?_
        refine z_iaddN O dX0_waysFrom_71 ?_
        refine z_iload O dX0_waysFrom_72 rfl ?_
        refine z_V6e0 O (ih _ _ _ hu (by omega) (by omega)) mX0_waysFrom lkX0_104 rfl hk0 dX0_waysFrom_74 (Nat.le_of_ble_eq_true rfl) (by omega) ?_
        refine z_goto O 106 dX0_waysFrom_77 (by decide) ?_
        refine z_lstore (lv' := [(0, _), (1, _), (2, _), (3, _), (4, _), (5, _), (6, _), (7, _), (8, _)]) O dX0_waysFrom_106 (by decide) rfl ?_
        refine z_aload_n O dX0_waysFrom_108 rfl ?_
        refine z_iload_n O dX0_waysFrom_109 rfl ?_
        refine z_iload_n O dX0_waysFrom_110 rfl ?_
        refine z_iload_n O dX0_waysFrom_111 rfl ?_
        refine z_iload O dX0_waysFrom_112 rfl ?_
        refine z_iconst O (nI 1) dX0_waysFrom_114 (by decide) ?_
        refine z_isubN O dX0_waysFrom_115 (by omega) ?_
        refine z_iload O dX0_waysFrom_116 rfl ?_
        refine z_iconst O (nI 1) dX0_waysFrom_118 (by decide) ?_
        refine z_iaddN O dX0_waysFrom_119 ?_
        refine z_iload O dX0_waysFrom_120 rfl ?_
        refine z_V6e0 O (ih _ _ _ hu hth (by omega)) mX0_waysFrom lkX0_104 rfl hk0 dX0_waysFrom_122 (Nat.le_of_ble_eq_true rfl) (by omega) ?_
        refine z_lstore (lv' := [(0, _), (1, _), (2, _), (3, _), (4, _), (5, _), (6, _), (7, _), (8, _), (10, _)]) O dX0_waysFrom_125 (by decide) rfl ?_
        refine z_iload O dX0_waysFrom_127 rfl ?_
        refine z_i2lN O dX0_waysFrom_129 (by omega) ?_
        refine z_lload O dX0_waysFrom_130 rfl ?_
        refine z_lmulN O dX0_waysFrom_132 ?_
        refine z_bipush O (nI 10) dX0_waysFrom_133 (by decide) ?_
        refine z_iload O dX0_waysFrom_135 rfl ?_
        refine z_isubN O dX0_waysFrom_137 (by omega) ?_
        refine z_i2lN O dX0_waysFrom_138 (by omega) ?_
        refine z_lload O dX0_waysFrom_139 rfl ?_
        refine z_lmulN O dX0_waysFrom_141 ?_
        refine z_laddN O dX0_waysFrom_142 ?_
        exact z_lret O dX0_waysFrom_143 ⟨by rw [hwN, if_neg hu0, if_neg hf], rfl⟩
set_option maxRecDepth 20000 in
set_option maxHeartbeats 4000000 in
theorem s_holeWays (hS : zSock G M k i1 i2 i3 we r cl) (hr : rowOK r) (hw : weOK we) {c cc : Nat} (hc : c < 9) (hcc : cc ≤ 10) {m : Nat} (hm : m ≤ 8) (hyr : r 117 + m < 1048576) : zS G (m + 4) yX0_holeWays cX0_holeWays 5 (some .long) [.ref (zad (zb G) k), .int (nI c), .int (nI m), .int (nI cc)] M 0 0 (zE (.long (lN (hwN r we c cc m (r (108 + c)) (if r (108 + c) = 0 then 0 else fld r c (r (108 + c) - 1) 2) (r 117)))) M) := by
  refine zS.of (by decide) (Nat.le_of_ble_eq_true rfl) (fun F O hR1 hR2 => ?_)
  have O : zOk G F yX0_holeWays cX0_holeWays 5 (some .long) RX0 (m + 4) M.length := O
  refine z_eq (lv' := [(0, _), (1, _), (2, _), (3, _)]) rfl rfl rfl ?_
  obtain ⟨hk0, hk1, hk2, hk3⟩ := id hS
  refine z_aload_n O dX0_holeWays_0 rfl ?_
  refine z_iload_n O dX0_holeWays_1 rfl ?_
  refine z_V1e0 O (s_many hS hc) mX0_many lkX0_35 rfl hk0 dX0_holeWays_2 (Nat.le_of_ble_eq_true rfl) (by omega) ?_
  refine z_iconst O (nI 1) dX0_holeWays_5 (by decide) ?_
  refine z_isub O dX0_holeWays_6 ?_
  refine z_top (v' := .int (mI (r (108 + c)))) (congrArg Value.int (mI_sub1 _)) ?_
  refine z_istore (lv' := [(0, _), (1, _), (2, _), (3, _), (4, _)]) O dX0_holeWays_7 (by decide) rfl ?_
  refine z_aload_n O dX0_holeWays_9 rfl ?_
  refine z_iload_n O dX0_holeWays_10 rfl ?_
  refine z_iload O dX0_holeWays_11 rfl ?_
  refine z_aload_n O dX0_holeWays_13 rfl ?_
  refine z_iload_n O dX0_holeWays_14 rfl ?_
  refine z_iload O dX0_holeWays_15 rfl ?_
  refine z_V2e0 O (s_threadAtO hS hc (hr.2 c hc)) mX0_threadAt lkX0_61 rfl hk0 dX0_holeWays_17 (Nat.le_of_ble_eq_true rfl) (by omega) ?_
  refine z_iload_n O dX0_holeWays_20 rfl ?_
  refine z_aload_n O dX0_holeWays_21 rfl ?_
  refine z_get O dX0_holeWays_22 flX0_15 hk0 (by rfl) ?_
  refine z_bipush O (nI 117) dX0_holeWays_25 (by decide) ?_
  refine z_ialdN O dX0_holeWays_27 hk2 (by omega) (by decide) ?_
  refine z_iload_n O dX0_holeWays_28 rfl ?_
  refine z_V6e0 O (s_waysFrom hS hr hw hc hcc m hm _ _ _ (hr.2 c hc) (by split; exact Nat.zero_lt_succ _; exact hr.1 _) (by omega)) mX0_waysFrom lkX0_104 rfl hk0 dX0_holeWays_29 (Nat.le_of_ble_eq_true rfl) (by omega) ?_
  exact z_lret O dX0_holeWays_32 ⟨rfl, rfl⟩
set_option maxRecDepth 20000 in
set_option maxHeartbeats 4000000 in
theorem s_copy (hS : zSock G M k i1 i2 i3 we r cl) {k' j1 j2 j3 : Nat} {we' r' cl' : Nat → Nat} (hS' : zSock G M k' j1 j2 j3 we' r' cl') : zS G 1 yX0_copy cX0_copy 2 none [.ref (zad (zb G) k), .ref (zad (zb G) k')] M 0 0 (zU ((M.set i1 (zIN G 9 (cpyN we' we 0 0 9))).set i2 (zIN G 118 (cpyN r' r 0 0 118)))) := by
  refine zS.of (by decide) (Nat.le_of_ble_eq_true rfl) (fun F O hR1 hR2 => ?_)
  have O : zOk G F yX0_copy cX0_copy 2 none RX0 1 M.length := O
  refine z_eq (lv' := [(0, _), (1, _)]) rfl rfl rfl ?_
  obtain ⟨hk0, hk1, hk2, hk3⟩ := id hS
  obtain ⟨hj0, hj1, hj2, hj3⟩ := id hS'
  have hn12 := zIN_inj hk1 hk2 (by decide)
  refine z_aload_n O dX0_copy_0 rfl ?_
  refine z_get O dX0_copy_1 flX0_9 (by first | assumption | exact zgs (by assumption) | exact zgn (by assumption) (by assumption)) (by rfl) ?_
  refine z_iconst O (nI 0) dX0_copy_4 (by decide) ?_
  refine z_aload_n O dX0_copy_5 rfl ?_
  refine z_get O dX0_copy_6 flX0_9 (by first | assumption | exact zgs (by assumption) | exact zgn (by assumption) (by assumption)) (by rfl) ?_
  refine z_iconst O (nI 0) dX0_copy_9 (by decide) ?_
  refine z_bipush O (nI 9) dX0_copy_10 (by decide) ?_
  refine z_copyN O (by first | rfl | simp | (simp; omega)) dX0_copy_12 lkX0_21 (by assumption) (by assumption) (by decide) (by decide) (by decide) (Nat.le_of_ble_eq_true rfl) (by decide) ?_
  refine z_aload_n O dX0_copy_15 rfl ?_
  refine z_get O dX0_copy_16 flX0_15 (by first | assumption | exact zgn (zIN_obj hk1 hj0) hj0) (by rfl) ?_
  refine z_iconst O (nI 0) dX0_copy_19 (by decide) ?_
  refine z_aload_n O dX0_copy_20 rfl ?_
  refine z_get O dX0_copy_21 flX0_15 (by first | assumption | exact zgn (zIN_obj hk1 hk0) hk0) (by rfl) ?_
  refine z_iconst O (nI 0) dX0_copy_24 (by decide) ?_
  refine z_bipush O (nI 118) dX0_copy_25 (by decide) ?_
  refine z_copyN O (by first | rfl | simp | (simp; omega)) dX0_copy_27 lkX0_21 (by first | assumption | exact zgn (zIN_inj hk1 hj2 (by decide)) hj2) (by first | assumption | exact zgn (by assumption) (by assumption)) (by decide) (by decide) (by decide) (Nat.le_of_ble_eq_true rfl) (by decide) ?_
  exact z_vret O dX0_copy_30 ⟨rfl, rfl⟩
end SK
