/-! ===== the reference: how long it lasts, what was seen, fractions ===== -/
/-- how long a cell lasts, as the reference goes: U darns are there, the uppermost has lf */ -/
def spanR (r we : Nat → Nat) (c : Nat) : Nat → Nat → Nat → Nat → Nat
  | 0, _, _, _ => 41
  | n + 1, m, U, lf => if U = 0 then m else if lf ≤ lossN (fld r c (U - 1) 0) (we c) (r 117 + m) then spanR r we c n (m + 1) (U - 1) (if U - 1 = 0 then 0 else fld r c (U - 1 - 1) 2)
    else spanR r we c n (m + 1) U (lf - lossN (fld r c (U - 1) 0) (we c) (r 117 + m))
theorem spanR_eq (r we : Nat → Nat) (c : Nat) : ∀ n m, (∀ U kd, spanR r we c n m U (if U = 0 then 0 else fld r c (U - 1) 2) = spanG r we c n m U kd 0) ∧ ∀ u lf, 0 < lf → spanR r we c n m (u + 1) lf = spanG r we c n m u (fld r c u 0) lf
  | 0, m => ⟨fun _ _ => rfl, fun _ _ _ => rfl⟩
  | n + 1, m => by
    obtain ⟨ih1, ih2⟩ := spanR_eq r we c n (m + 1)
    have key : ∀ u lf, (if lf ≤ lossN (fld r c u 0) (we c) (r 117 + m) then spanR r we c n (m + 1) u (if u = 0 then 0 else fld r c (u - 1) 2) else spanR r we c n (m + 1) (u + 1) (lf - lossN (fld r c u 0) (we c) (r 117 + m))) = spanG r we c n (m + 1) u (fld r c u 0) (lf - lossN (fld r c u 0) (we c) (r 117 + m)) := by
      intro u lf
      by_cases hf : lf ≤ lossN (fld r c u 0) (we c) (r 117 + m)
      · rw [if_pos hf, Nat.sub_eq_zero_of_le hf]
        exact ih1 u _
      · rw [if_neg hf]
        exact ih2 u _ (by omega)
    refine ⟨fun U kd => ?_, fun u lf hl => ?_⟩
    · by_cases hU : U = 0
      · subst hU
        unfold spanR spanG
        simp
      · rw [if_neg hU]
        unfold spanR spanG
        rw [if_neg hU, if_pos rfl, if_neg hU]
        have hk := key (U - 1) (fld r c (U - 1) 2)
        rw [Nat.sub_add_cancel (by omega)] at hk
        exact hk
    · unfold spanR spanG
      rw [if_neg (by omega : ¬ u + 1 = 0), if_neg (by omega : ¬ lf = 0)]
      exact key u lf
theorem spanR_V (r we : Nat → Nat) (c : Nat) : spanR r we c 41 0 (r (108 + c)) (if r (108 + c) = 0 then 0 else fld r c (r (108 + c) - 1) 2) = spanV r we c := (spanR_eq r we c 41 0).1 _ _
/-- all that is lost in the first k years by a thread of a kind -/
def lsS (r we : Nat → Nat) (c kd : Nat) : Nat → Nat
  | 0 => 0
  | k + 1 => lsS r we c kd k + lossN kd (we c) (r 117 + k)
theorem lft_ls (r we : Nat → Nat) (c kd : Nat) : ∀ k, lftC r we c kd k = fld r c (r (108 + c) - 1) 2 - lsS r we c kd k
  | 0 => rfl
  | k + 1 => by
    show lftC r we c kd k - _ = _ - (lsS r we c kd k + _)
    rw [lft_ls r we c kd k]
    omega
theorem lsS_le {r we : Nat → Nat} (hw : ∀ j, we j ≤ 5) (c kd : Nat) : ∀ k, lsS r we c kd k ≤ 12 * k
  | 0 => Nat.le_refl _
  | k + 1 => by
    have h := lsS_le (r := r) hw c kd k
    have h2 := lossN_le kd (we c) (r 117 + k)
    have h3 := hw c
    show _ + _ ≤ _
    omega
theorem sub_sub_nI (t s l : Nat) : nI t - nI s - nI l = nI t - nI (s + l) := by
  rw [← nI_add, Int32.sub_eq_add_neg, Int32.sub_eq_add_neg, Int32.sub_eq_add_neg, Int32.neg_add, Int32.add_assoc]
  congr 1
  exact (Int32.sub_eq_add_neg _ _).symm
section YS
variable {G : zG} {c0_ c1_ c2_ c3_ c4_ c5_ c6_ c7_ c8_ c9_ c10_ c11_ c12_ c13_ c14_ c15_ c16_ c17_ c18_ c19_ c20_ : va_E} {w kp tx : Nat → Nat} {txl : Nat} {rf : Nat → Nat} {ya yb : Int64} {at2 st2 : Nat} {iwd ifg : Int32} {nb : Nat → Nat} {fr : Int32} {la nms : Nat → Nat} {nd : Nat} {wf : Nat → Nat} {hh : Int64} {tl : List va_E}
set_option maxRecDepth 20000 in
set_option maxHeartbeats 4000000 in
theorem m_lastsOf {r we : Nat → Nat} {c : Nat} (h : RW w 3273 r we) (hr : rowOK r) (hw : weOK we) (hc : c < 9) : zS G 2 yX4_lastsOf cX4_lastsOf 5 (some .int) [.ref (zad (zb G) 21), .int (nI c)] (yM G c0_ c1_ c2_ c3_ c4_ c5_ c6_ c7_ c8_ c9_ c10_ c11_ c12_ c13_ c14_ c15_ c16_ c17_ c18_ c19_ c20_ w kp tx txl rf ya yb at2 st2 iwd ifg nb fr la nms nd wf hh tl) 0 0 (zE (.int (nI (spanV r we c))) (yM G c0_ c1_ c2_ c3_ c4_ c5_ c6_ c7_ c8_ c9_ c10_ c11_ c12_ c13_ c14_ c15_ c16_ c17_ c18_ c19_ c20_ w kp tx txl rf ya yb at2 st2 iwd ifg nb fr la nms nd wf hh tl)) := by
  refine zS.of (by decide) (Nat.le_of_ble_eq_true rfl) (fun F O hR1 hR2 => ?_)
  have O : zOk G F yX4_lastsOf cX4_lastsOf 5 (some .int) RX4 2 (yM G c0_ c1_ c2_ c3_ c4_ c5_ c6_ c7_ c8_ c9_ c10_ c11_ c12_ c13_ c14_ c15_ c16_ c17_ c18_ c19_ c20_ w kp tx txl rf ya yb at2 st2 iwd ifg nb fr la nms nd wf hh tl).length := O
  refine z_eq (lv' := [(0, _), (1, _)]) rfl rfl rfl ?_
  have h3 := hr.2 c hc
  refine z_aload_n O dX4_lastsOf_0 rfl ?_
  refine z_get O dX4_lastsOf_1 flX4_7 (by rfl) (by rfl) ?_
  refine z_sipush O (nI 3274) dX4_lastsOf_4 (by decide) ?_
  refine z_iload_n O dX4_lastsOf_7 rfl ?_
  refine z_iaddN O dX4_lastsOf_8 ?_
  refine z_ialdN O dX4_lastsOf_9 (by rfl) (by omega) (by decide) ?_
  refine z_top (v' := .int (nI (r (108 + c)))) (congrArg Value.int (congrArg nI (by have := h.1.2.1 c hc; rw [show 3274 + c = 3273 + 1 + c by omega]; exact this))) ?_
  refine z_iconst O (nI 1) dX4_lastsOf_10 (by decide) ?_
  refine z_isub O dX4_lastsOf_11 ?_
  refine z_top (v' := .int (mI (r (108 + c)))) (congrArg Value.int (mI_sub1 _)) ?_
  refine z_istore_n (lv' := [(0, _), (1, _), (2, _)]) O dX4_lastsOf_12 (by decide) rfl ?_
  by_cases hz0 : r (108 + c) = 0
  · refine z_iload_n O dX4_lastsOf_13 rfl ?_
    refine z_if_ge O 21 dX4_lastsOf_14 (by decide) (fun h14 => by exact absurd ((mI_ge0 (by omega)).mp h14) (by omega)) (fun h14 => ?_)
    refine z_iconst O (nI 0) dX4_lastsOf_17 (by decide) ?_
    refine z_goto O 37 dX4_lastsOf_18 (by decide) ?_
    refine z_istore_n (lv' := [(0, _), (1, _), (2, _), (3, _)]) O dX4_lastsOf_37 (by decide) rfl ?_
    refine z_iconst O (nI 0) dX4_lastsOf_38 (by decide) ?_
    refine z_istore (lv' := [(0, _), (1, _), (2, _), (3, _), (4, _)]) O dX4_lastsOf_39 (by decide) rfl ?_
    refine zdown (P := fun m => ∀ U lf : Nat, U ≤ r (108 + c) → lf < 1048576 → spanR r we c (41 - m) m U lf = spanV r we c → Z G F 0 0 (zEnd G F (zE (.int (nI (spanV r we c))) (yM G c0_ c1_ c2_ c3_ c4_ c5_ c6_ c7_ c8_ c9_ c10_ c11_ c12_ c13_ c14_ c15_ c16_ c17_ c18_ c19_ c20_ w kp tx txl rf ya yb at2 st2 iwd ifg nb fr la nms nd wf hh tl)) 0 0) 41 [(0, .ref (zad (zb G) 21)), (1, .int (nI c)), (2, .int (mI U)), (3, .int (nI lf)), (4, .int (nI m))] [] (yM G c0_ c1_ c2_ c3_ c4_ c5_ c6_ c7_ c8_ c9_ c10_ c11_ c12_ c13_ c14_ c15_ c16_ c17_ c18_ c19_ c20_ w kp tx txl rf ya yb at2 st2 iwd ifg nb fr la nms nd wf hh tl)) (41) ?_ ?_ _ 0 (Nat.le_refl _) (by decide) (by rw [← spanR_V, if_pos hz0])
    · intro U lf hU hlf hres
      refine z_iload O dX4_lastsOf_41 rfl ?_
      refine z_bipush O (nI 41) dX4_lastsOf_43 (by decide) ?_
      refine z_icmp_geN O 134 dX4_lastsOf_45 (by decide) (by omega) (by omega) (fun h45 => ?_) (fun h45 => by omega)
      refine z_bipush O (nI 41) dX4_lastsOf_134 (by decide) ?_
      exact z_iret O dX4_lastsOf_136 ⟨by rw [← hres]; rfl, rfl⟩
    · intro m hm ih U lf hU hlf hres
      have h3 := hr.2 c hc
      rw [show 41 - m = (41 - (m + 1)) + 1 by omega] at hres
      refine z_iload O dX4_lastsOf_41 rfl ?_
      refine z_bipush O (nI 41) dX4_lastsOf_43 (by decide) ?_
      refine z_icmp_geN O 134 dX4_lastsOf_45 (by decide) (by omega) (by omega) (fun h45 => by omega) (fun h45 => ?_)
      by_cases hU0 : U = 0
      · refine z_iload_n O dX4_lastsOf_48 rfl ?_
        refine z_if_ge O 55 dX4_lastsOf_49 (by decide) (fun h49 => by exact absurd ((mI_ge0 (by omega)).mp h49) (by omega)) (fun h49 => ?_)
        refine z_iload O dX4_lastsOf_52 rfl ?_
        exact z_iret O dX4_lastsOf_54 ⟨by rw [← hres, spanR, if_pos hU0], rfl⟩
      · refine z_iload_n O dX4_lastsOf_48 rfl ?_
        refine z_if_ge O 55 dX4_lastsOf_49 (by decide) (fun h49 => ?_) (fun h49 => by exact absurd ((mI_ge0 (by omega)).mpr (by omega)) h49)
        have hb1 : fld r c (U - 1) 0 < 1048576 := hr.1 _
        have hb2 := hw c
        have hb3 := hr.1 117
        have hb4 := lossN_le (fld r c (U - 1) 0) (we c) (r 117 + m)
        rw [spanR, if_neg hU0] at hres
        refine z_iload_n O dX4_lastsOf_55 rfl ?_
        refine z_aload_n O dX4_lastsOf_56 rfl ?_
        refine z_get O dX4_lastsOf_57 flX4_7 (by rfl) (by rfl) ?_
        refine z_sipush O (nI 3273) dX4_lastsOf_60 (by decide) ?_
        refine z_iload_n O dX4_lastsOf_63 rfl ?_
        refine z_iload_n O dX4_lastsOf_64 rfl ?_
        refine z_top (v' := .int (nI (U - 1))) (by rw [mI_nI _ (by omega)]) ?_
        refine z_S2e0 O m_placeOf mX4_placeOf lkX4_59 dX4_lastsOf_65 (Nat.le_of_ble_eq_true rfl) (by decide) ?_
        refine z_iaddN O dX4_lastsOf_68 ?_
        refine z_ialdN O dX4_lastsOf_69 (by rfl) (by omega) (by decide) ?_
        refine z_top (v' := .int (nI (fld r c (U - 1) 0))) (congrArg Value.int (congrArg nI (h.1.2.2 c (U - 1) 0 hc (by omega) (by decide)))) ?_
        refine z_aload_n O dX4_lastsOf_70 rfl ?_
        refine z_get O dX4_lastsOf_71 flX4_7 (by rfl) (by rfl) ?_
        refine z_sipush O (nI 3391) dX4_lastsOf_74 (by decide) ?_
        refine z_iload_n O dX4_lastsOf_77 rfl ?_
        refine z_iaddN O dX4_lastsOf_78 ?_
        refine z_ialdN O dX4_lastsOf_79 (by rfl) (by omega) (by decide) ?_
        refine z_top (v' := .int (nI (we c))) (congrArg Value.int (congrArg nI (by have := h.2 c hc; rw [show 3391 + c = 3273 + 118 + c by omega]; exact this))) ?_
        refine z_aload_n O dX4_lastsOf_80 rfl ?_
        refine z_get O dX4_lastsOf_81 flX4_7 (by rfl) (by rfl) ?_
        refine z_sipush O (nI 3273) dX4_lastsOf_84 (by decide) ?_
        refine z_ialdN O dX4_lastsOf_87 (by rfl) (by omega) (by decide) ?_
        refine z_top (v' := .int (nI (r 117))) (congrArg Value.int (congrArg nI h.1.1)) ?_
        refine z_iload O dX4_lastsOf_88 rfl ?_
        refine z_iaddN O dX4_lastsOf_90 ?_
        refine z_S3e0 O (m_loses (by omega) (by omega) (by omega)) mX4_loses lkX4_97 dX4_lastsOf_91 (Nat.le_of_ble_eq_true rfl) (by decide) ?_
        by_cases hf : lf ≤ lossN (fld r c (U - 1) 0) (we c) (r 117 + m)
        · refine z_isub O dX4_lastsOf_94 ?_
          refine z_istore_n (lv' := [(0, _), (1, _), (2, _), (3, _), (4, _)]) O dX4_lastsOf_95 (by decide) rfl ?_
          refine z_iload_n O dX4_lastsOf_96 rfl ?_
          refine z_if_gt O 128 dX4_lastsOf_97 (by decide) (fun h97 => by exact absurd ((lfx_le (lfx_sub (by omega) (by omega)) (by omega)).mpr (by omega)) (Int32.not_le.mpr h97)) (fun h97 => ?_)
          rw [if_pos hf] at hres
          refine z_iincV (lv' := [(0, _), (1, _), (2, _), (3, _), (4, _)]) O (mI (U - 1)) dX4_lastsOf_100 (by decide) rfl (mI_dec U (by omega)) rfl ?_
          by_cases hU1 : U - 1 = 0
          · refine z_iload_n O dX4_lastsOf_103 rfl ?_
            refine z_if_ge O 111 dX4_lastsOf_104 (by decide) (fun h104 => by exact absurd ((mI_ge0 (by omega)).mp h104) (by omega)) (fun h104 => ?_)
            refine z_iconst O (nI 0) dX4_lastsOf_107 (by decide) ?_
            refine z_goto O 127 dX4_lastsOf_108 (by decide) ?_
            refine z_istore_n (lv' := [(0, _), (1, _), (2, _), (3, _), (4, _)]) O dX4_lastsOf_127 (by decide) rfl ?_
            refine z_iincN (lv' := [(0, _), (1, _), (2, _), (3, _), (4, _)]) O 1 dX4_lastsOf_128 (by decide) rfl rfl (by decide) ?_
            refine z_goto O 41 dX4_lastsOf_131 (by decide) ?_
            rw [if_pos hU1] at hres
            exact ih _ _ (by omega) (by omega) hres
          · refine z_iload_n O dX4_lastsOf_103 rfl ?_
            refine z_if_ge O 111 dX4_lastsOf_104 (by decide) (fun h104 => ?_) (fun h104 => by exact absurd ((mI_ge0 (by omega)).mpr (by omega)) h104)
            refine z_aload_n O dX4_lastsOf_111 rfl ?_
            refine z_get O dX4_lastsOf_112 flX4_7 (by rfl) (by rfl) ?_
            refine z_sipush O (nI 3273) dX4_lastsOf_115 (by decide) ?_
            refine z_iload_n O dX4_lastsOf_118 rfl ?_
            refine z_iload_n O dX4_lastsOf_119 rfl ?_
            refine z_top (v' := .int (nI (U - 1 - 1))) (by rw [mI_nI _ (by omega)]) ?_
            refine z_S2e0 O m_placeOf mX4_placeOf lkX4_59 dX4_lastsOf_120 (Nat.le_of_ble_eq_true rfl) (by decide) ?_
            refine z_iaddN O dX4_lastsOf_123 ?_
            refine z_iconst O (nI 2) dX4_lastsOf_124 (by decide) ?_
            refine z_iaddN O dX4_lastsOf_125 ?_
            refine z_ialdN O dX4_lastsOf_126 (by rfl) (by omega) (by decide) ?_
            refine z_top (v' := .int (nI (fld r c (U - 1 - 1) 2))) (congrArg Value.int (congrArg nI (h.1.2.2 c (U - 1 - 1) 2 hc (by omega) (by decide)))) ?_
            refine z_istore_n (lv' := [(0, _), (1, _), (2, _), (3, _), (4, _)]) O dX4_lastsOf_127 (by decide) rfl ?_
            refine z_iincN (lv' := [(0, _), (1, _), (2, _), (3, _), (4, _)]) O 1 dX4_lastsOf_128 (by decide) rfl rfl (by decide) ?_
            refine z_goto O 41 dX4_lastsOf_131 (by decide) ?_
            rw [if_neg hU1] at hres
            exact ih _ _ (by omega) (hr.1 _) hres
        · refine z_isubN O dX4_lastsOf_94 (by omega) ?_
          refine z_istore_n (lv' := [(0, _), (1, _), (2, _), (3, _), (4, _)]) O dX4_lastsOf_95 (by decide) rfl ?_
          refine z_iload_n O dX4_lastsOf_96 rfl ?_
          refine z_if_gtN O 128 dX4_lastsOf_97 (by decide) (by omega) (fun h97 => ?_) (fun h97 => by omega)
          refine z_iincN (lv' := [(0, _), (1, _), (2, _), (3, _), (4, _)]) O 1 dX4_lastsOf_128 (by decide) rfl rfl (by decide) ?_
          refine z_goto O 41 dX4_lastsOf_131 (by decide) ?_
          rw [if_neg hf] at hres
          exact ih U _ hU (by omega) hres
  · refine z_iload_n O dX4_lastsOf_13 rfl ?_
    refine z_if_ge O 21 dX4_lastsOf_14 (by decide) (fun h14 => ?_) (fun h14 => by exact absurd ((mI_ge0 (by omega)).mpr (by omega)) h14)
    refine z_aload_n O dX4_lastsOf_21 rfl ?_
    refine z_get O dX4_lastsOf_22 flX4_7 (by rfl) (by rfl) ?_
    refine z_sipush O (nI 3273) dX4_lastsOf_25 (by decide) ?_
    refine z_iload_n O dX4_lastsOf_28 rfl ?_
    refine z_iload_n O dX4_lastsOf_29 rfl ?_
    refine z_top (v' := .int (nI (r (108 + c) - 1))) (by rw [mI_nI _ (by omega)]) ?_
    refine z_S2e0 O m_placeOf mX4_placeOf lkX4_59 dX4_lastsOf_30 (Nat.le_of_ble_eq_true rfl) (by decide) ?_
    refine z_iaddN O dX4_lastsOf_33 ?_
    refine z_iconst O (nI 2) dX4_lastsOf_34 (by decide) ?_
    refine z_iaddN O dX4_lastsOf_35 ?_
    refine z_ialdN O dX4_lastsOf_36 (by rfl) (by omega) (by decide) ?_
    refine z_top (v' := .int (nI (fld r c (r (108 + c) - 1) 2))) (congrArg Value.int (congrArg nI (h.1.2.2 c (r (108 + c) - 1) 2 hc (by omega) (by decide)))) ?_
    refine z_istore_n (lv' := [(0, _), (1, _), (2, _), (3, _)]) O dX4_lastsOf_37 (by decide) rfl ?_
    refine z_iconst O (nI 0) dX4_lastsOf_38 (by decide) ?_
    refine z_istore (lv' := [(0, _), (1, _), (2, _), (3, _), (4, _)]) O dX4_lastsOf_39 (by decide) rfl ?_
    refine zdown (P := fun m => ∀ U lf : Nat, U ≤ r (108 + c) → lf < 1048576 → spanR r we c (41 - m) m U lf = spanV r we c → Z G F 0 0 (zEnd G F (zE (.int (nI (spanV r we c))) (yM G c0_ c1_ c2_ c3_ c4_ c5_ c6_ c7_ c8_ c9_ c10_ c11_ c12_ c13_ c14_ c15_ c16_ c17_ c18_ c19_ c20_ w kp tx txl rf ya yb at2 st2 iwd ifg nb fr la nms nd wf hh tl)) 0 0) 41 [(0, .ref (zad (zb G) 21)), (1, .int (nI c)), (2, .int (mI U)), (3, .int (nI lf)), (4, .int (nI m))] [] (yM G c0_ c1_ c2_ c3_ c4_ c5_ c6_ c7_ c8_ c9_ c10_ c11_ c12_ c13_ c14_ c15_ c16_ c17_ c18_ c19_ c20_ w kp tx txl rf ya yb at2 st2 iwd ifg nb fr la nms nd wf hh tl)) (41) ?_ ?_ _ (fld r c (r (108 + c) - 1) 2) (Nat.le_refl _) (hr.1 _) (by rw [← spanR_V, if_neg hz0])
    · intro U lf hU hlf hres
      refine z_iload O dX4_lastsOf_41 rfl ?_
      refine z_bipush O (nI 41) dX4_lastsOf_43 (by decide) ?_
      refine z_icmp_geN O 134 dX4_lastsOf_45 (by decide) (by omega) (by omega) (fun h45 => ?_) (fun h45 => by omega)
      refine z_bipush O (nI 41) dX4_lastsOf_134 (by decide) ?_
      exact z_iret O dX4_lastsOf_136 ⟨by rw [← hres]; rfl, rfl⟩
    · intro m hm ih U lf hU hlf hres
      have h3 := hr.2 c hc
      rw [show 41 - m = (41 - (m + 1)) + 1 by omega] at hres
      refine z_iload O dX4_lastsOf_41 rfl ?_
      refine z_bipush O (nI 41) dX4_lastsOf_43 (by decide) ?_
      refine z_icmp_geN O 134 dX4_lastsOf_45 (by decide) (by omega) (by omega) (fun h45 => by omega) (fun h45 => ?_)
      by_cases hU0 : U = 0
      · refine z_iload_n O dX4_lastsOf_48 rfl ?_
        refine z_if_ge O 55 dX4_lastsOf_49 (by decide) (fun h49 => by exact absurd ((mI_ge0 (by omega)).mp h49) (by omega)) (fun h49 => ?_)
        refine z_iload O dX4_lastsOf_52 rfl ?_
        exact z_iret O dX4_lastsOf_54 ⟨by rw [← hres, spanR, if_pos hU0], rfl⟩
      · refine z_iload_n O dX4_lastsOf_48 rfl ?_
        refine z_if_ge O 55 dX4_lastsOf_49 (by decide) (fun h49 => ?_) (fun h49 => by exact absurd ((mI_ge0 (by omega)).mpr (by omega)) h49)
        have hb1 : fld r c (U - 1) 0 < 1048576 := hr.1 _
        have hb2 := hw c
        have hb3 := hr.1 117
        have hb4 := lossN_le (fld r c (U - 1) 0) (we c) (r 117 + m)
        rw [spanR, if_neg hU0] at hres
        refine z_iload_n O dX4_lastsOf_55 rfl ?_
        refine z_aload_n O dX4_lastsOf_56 rfl ?_
        refine z_get O dX4_lastsOf_57 flX4_7 (by rfl) (by rfl) ?_
        refine z_sipush O (nI 3273) dX4_lastsOf_60 (by decide) ?_
        refine z_iload_n O dX4_lastsOf_63 rfl ?_
        refine z_iload_n O dX4_lastsOf_64 rfl ?_
        refine z_top (v' := .int (nI (U - 1))) (by rw [mI_nI _ (by omega)]) ?_
        refine z_S2e0 O m_placeOf mX4_placeOf lkX4_59 dX4_lastsOf_65 (Nat.le_of_ble_eq_true rfl) (by decide) ?_
        refine z_iaddN O dX4_lastsOf_68 ?_
        refine z_ialdN O dX4_lastsOf_69 (by rfl) (by omega) (by decide) ?_
        refine z_top (v' := .int (nI (fld r c (U - 1) 0))) (congrArg Value.int (congrArg nI (h.1.2.2 c (U - 1) 0 hc (by omega) (by decide)))) ?_
        refine z_aload_n O dX4_lastsOf_70 rfl ?_
        refine z_get O dX4_lastsOf_71 flX4_7 (by rfl) (by rfl) ?_
        refine z_sipush O (nI 3391) dX4_lastsOf_74 (by decide) ?_
        refine z_iload_n O dX4_lastsOf_77 rfl ?_
        refine z_iaddN O dX4_lastsOf_78 ?_
        refine z_ialdN O dX4_lastsOf_79 (by rfl) (by omega) (by decide) ?_
        refine z_top (v' := .int (nI (we c))) (congrArg Value.int (congrArg nI (by have := h.2 c hc; rw [show 3391 + c = 3273 + 118 + c by omega]; exact this))) ?_
        refine z_aload_n O dX4_lastsOf_80 rfl ?_
        refine z_get O dX4_lastsOf_81 flX4_7 (by rfl) (by rfl) ?_
        refine z_sipush O (nI 3273) dX4_lastsOf_84 (by decide) ?_
        refine z_ialdN O dX4_lastsOf_87 (by rfl) (by omega) (by decide) ?_
        refine z_top (v' := .int (nI (r 117))) (congrArg Value.int (congrArg nI h.1.1)) ?_
        refine z_iload O dX4_lastsOf_88 rfl ?_
        refine z_iaddN O dX4_lastsOf_90 ?_
        refine z_S3e0 O (m_loses (by omega) (by omega) (by omega)) mX4_loses lkX4_97 dX4_lastsOf_91 (Nat.le_of_ble_eq_true rfl) (by decide) ?_
        by_cases hf : lf ≤ lossN (fld r c (U - 1) 0) (we c) (r 117 + m)
        · refine z_isub O dX4_lastsOf_94 ?_
          refine z_istore_n (lv' := [(0, _), (1, _), (2, _), (3, _), (4, _)]) O dX4_lastsOf_95 (by decide) rfl ?_
          refine z_iload_n O dX4_lastsOf_96 rfl ?_
          refine z_if_gt O 128 dX4_lastsOf_97 (by decide) (fun h97 => by exact absurd ((lfx_le (lfx_sub (by omega) (by omega)) (by omega)).mpr (by omega)) (Int32.not_le.mpr h97)) (fun h97 => ?_)
          rw [if_pos hf] at hres
          refine z_iincV (lv' := [(0, _), (1, _), (2, _), (3, _), (4, _)]) O (mI (U - 1)) dX4_lastsOf_100 (by decide) rfl (mI_dec U (by omega)) rfl ?_
          by_cases hU1 : U - 1 = 0
          · refine z_iload_n O dX4_lastsOf_103 rfl ?_
            refine z_if_ge O 111 dX4_lastsOf_104 (by decide) (fun h104 => by exact absurd ((mI_ge0 (by omega)).mp h104) (by omega)) (fun h104 => ?_)
            refine z_iconst O (nI 0) dX4_lastsOf_107 (by decide) ?_
            refine z_goto O 127 dX4_lastsOf_108 (by decide) ?_
            refine z_istore_n (lv' := [(0, _), (1, _), (2, _), (3, _), (4, _)]) O dX4_lastsOf_127 (by decide) rfl ?_
            refine z_iincN (lv' := [(0, _), (1, _), (2, _), (3, _), (4, _)]) O 1 dX4_lastsOf_128 (by decide) rfl rfl (by decide) ?_
            refine z_goto O 41 dX4_lastsOf_131 (by decide) ?_
            rw [if_pos hU1] at hres
            exact ih _ _ (by omega) (by omega) hres
          · refine z_iload_n O dX4_lastsOf_103 rfl ?_
            refine z_if_ge O 111 dX4_lastsOf_104 (by decide) (fun h104 => ?_) (fun h104 => by exact absurd ((mI_ge0 (by omega)).mpr (by omega)) h104)
            refine z_aload_n O dX4_lastsOf_111 rfl ?_
            refine z_get O dX4_lastsOf_112 flX4_7 (by rfl) (by rfl) ?_
            refine z_sipush O (nI 3273) dX4_lastsOf_115 (by decide) ?_
            refine z_iload_n O dX4_lastsOf_118 rfl ?_
            refine z_iload_n O dX4_lastsOf_119 rfl ?_
            refine z_top (v' := .int (nI (U - 1 - 1))) (by rw [mI_nI _ (by omega)]) ?_
            refine z_S2e0 O m_placeOf mX4_placeOf lkX4_59 dX4_lastsOf_120 (Nat.le_of_ble_eq_true rfl) (by decide) ?_
            refine z_iaddN O dX4_lastsOf_123 ?_
            refine z_iconst O (nI 2) dX4_lastsOf_124 (by decide) ?_
            refine z_iaddN O dX4_lastsOf_125 ?_
            refine z_ialdN O dX4_lastsOf_126 (by rfl) (by omega) (by decide) ?_
            refine z_top (v' := .int (nI (fld r c (U - 1 - 1) 2))) (congrArg Value.int (congrArg nI (h.1.2.2 c (U - 1 - 1) 2 hc (by omega) (by decide)))) ?_
            refine z_istore_n (lv' := [(0, _), (1, _), (2, _), (3, _), (4, _)]) O dX4_lastsOf_127 (by decide) rfl ?_
            refine z_iincN (lv' := [(0, _), (1, _), (2, _), (3, _), (4, _)]) O 1 dX4_lastsOf_128 (by decide) rfl rfl (by decide) ?_
            refine z_goto O 41 dX4_lastsOf_131 (by decide) ?_
            rw [if_neg hU1] at hres
            exact ih _ _ (by omega) (hr.1 _) hres
        · refine z_isubN O dX4_lastsOf_94 (by omega) ?_
          refine z_istore_n (lv' := [(0, _), (1, _), (2, _), (3, _), (4, _)]) O dX4_lastsOf_95 (by decide) rfl ?_
          refine z_iload_n O dX4_lastsOf_96 rfl ?_
          refine z_if_gtN O 128 dX4_lastsOf_97 (by decide) (by omega) (fun h97 => ?_) (fun h97 => by omega)
          refine z_iincN (lv' := [(0, _), (1, _), (2, _), (3, _), (4, _)]) O 1 dX4_lastsOf_128 (by decide) rfl rfl (by decide) ?_
          refine z_goto O 41 dX4_lastsOf_131 (by decide) ?_
          rw [if_neg hf] at hres
          exact ih U _ hU (by omega) hres
set_option maxRecDepth 20000 in
set_option maxHeartbeats 4000000 in
theorem m_wholeTried {r we : Nat → Nat} (h : RW w 3273 r we) (hr : rowOK r) (hw : weOK we) : zS G 3 yX4_wholeTried cX4_wholeTried 4 (some .int) [.ref (zad (zb G) 21)] (yM G c0_ c1_ c2_ c3_ c4_ c5_ c6_ c7_ c8_ c9_ c10_ c11_ c12_ c13_ c14_ c15_ c16_ c17_ c18_ c19_ c20_ w kp tx txl rf ya yb at2 st2 iwd ifg nb fr la nms nd wf hh tl) 0 0 (zE (.int (nI (lsN (spanV r we) none none 9))) (yM G c0_ c1_ c2_ c3_ c4_ c5_ c6_ c7_ c8_ c9_ c10_ c11_ c12_ c13_ c14_ c15_ c16_ c17_ c18_ c19_ c20_ w kp tx txl rf ya yb at2 st2 iwd ifg nb fr la nms nd wf hh tl)) := by
  refine zS.of (by decide) (Nat.le_of_ble_eq_true rfl) (fun F O hR1 hR2 => ?_)
  have O : zOk G F yX4_wholeTried cX4_wholeTried 4 (some .int) RX4 3 (yM G c0_ c1_ c2_ c3_ c4_ c5_ c6_ c7_ c8_ c9_ c10_ c11_ c12_ c13_ c14_ c15_ c16_ c17_ c18_ c19_ c20_ w kp tx txl rf ya yb at2 st2 iwd ifg nb fr la nms nd wf hh tl).length := O
  refine z_eq (lv' := [(0, _)]) rfl rfl rfl ?_
  refine z_bipush O (nI 41) dX4_wholeTried_0 (by decide) ?_
  refine z_istore_n (lv' := [(0, _), (1, _)]) O dX4_wholeTried_2 (by decide) rfl ?_
  refine z_iconst O (nI 0) dX4_wholeTried_3 (by decide) ?_
  refine z_istore_n (lv' := [(0, _), (1, _), (2, _)]) O dX4_wholeTried_4 (by decide) rfl ?_
  refine zdown (P := fun c => Z G F 0 0 (zEnd G F (zE (.int (nI (lsN (spanV r we) none none 9))) (yM G c0_ c1_ c2_ c3_ c4_ c5_ c6_ c7_ c8_ c9_ c10_ c11_ c12_ c13_ c14_ c15_ c16_ c17_ c18_ c19_ c20_ w kp tx txl rf ya yb at2 st2 iwd ifg nb fr la nms nd wf hh tl)) 0 0) 5 [(0, .ref (zad (zb G) 21)), (1, .int (nI (lsN (spanV r we) none none c))), (2, .int (nI c))] [] (yM G c0_ c1_ c2_ c3_ c4_ c5_ c6_ c7_ c8_ c9_ c10_ c11_ c12_ c13_ c14_ c15_ c16_ c17_ c18_ c19_ c20_ w kp tx txl rf ya yb at2 st2 iwd ifg nb fr la nms nd wf hh tl)) (9) ?_ ?_ 
  · refine z_iload_n O dX4_wholeTried_5 rfl ?_
    refine z_bipush O (nI 9) dX4_wholeTried_6 (by decide) ?_
    refine z_icmp_geN O 34 dX4_wholeTried_8 (by decide) (by omega) (by omega) (fun h8 => ?_) (fun h8 => by omega)
    refine z_iload_n O dX4_wholeTried_34 rfl ?_
    exact z_iret O dX4_wholeTried_35 ⟨rfl, rfl⟩
  · intro c hc ih 
    refine z_iload_n O dX4_wholeTried_5 rfl ?_
    refine z_bipush O (nI 9) dX4_wholeTried_6 (by decide) ?_
    refine z_icmp_geN O 34 dX4_wholeTried_8 (by decide) (by omega) (by omega) (fun h8 => by omega) (fun h8 => ?_)
    refine z_aload_n O dX4_wholeTried_11 rfl ?_
    refine z_iload_n O dX4_wholeTried_12 rfl ?_
    refine z_V1e0 O (m_lastsOf h hr hw hc) mX4_lastsOf lkX4_206 rfl (by rfl) dX4_wholeTried_13 (Nat.le_of_ble_eq_true rfl) (by decide) ?_
    refine z_istore_n (lv' := [(0, _), (1, _), (2, _), (3, _)]) O dX4_wholeTried_16 (by decide) rfl ?_
    by_cases hlt : spanV r we c < lsN (spanV r we) none none c
    · refine z_iload_n O dX4_wholeTried_17 rfl ?_
      refine z_iload_n O dX4_wholeTried_18 rfl ?_
      refine z_icmp_geN O 26 dX4_wholeTried_19 (by decide) (by have := spanV_le r we c; have := lsN_le (spanV r we) none none c; omega) (by have := spanV_le r we c; have := lsN_le (spanV r we) none none c; omega) (fun h19 => by omega) (fun h19 => ?_)
      refine z_iload_n O dX4_wholeTried_22 rfl ?_
      refine z_goto O 27 dX4_wholeTried_23 (by decide) ?_
      refine z_istore_n (lv' := [(0, _), (1, _), (2, _), (3, _)]) O dX4_wholeTried_27 (by decide) rfl ?_
      refine z_iincN (lv' := [(0, _), (1, _), (2, _), (3, _)]) O 1 dX4_wholeTried_28 (by decide) rfl rfl (by decide) ?_
      refine z_goto O 5 dX4_wholeTried_31 (by decide) ?_
      refine z_kp (lv' := [(0, _), (1, _), (2, _)]) [0, 1, 2] rfl ?_
      rw [show lsN (spanV r we) none none (c + 1) = min (lsN (spanV r we) none none c) (spanV r we c) from if_neg (by simp), Nat.min_eq_right (by omega)] at ih
      exact ih
    · refine z_iload_n O dX4_wholeTried_17 rfl ?_
      refine z_iload_n O dX4_wholeTried_18 rfl ?_
      refine z_icmp_geN O 26 dX4_wholeTried_19 (by decide) (by have := spanV_le r we c; have := lsN_le (spanV r we) none none c; omega) (by have := spanV_le r we c; have := lsN_le (spanV r we) none none c; omega) (fun h19 => ?_) (fun h19 => by omega)
      refine z_iload_n O dX4_wholeTried_26 rfl ?_
      refine z_istore_n (lv' := [(0, _), (1, _), (2, _), (3, _)]) O dX4_wholeTried_27 (by decide) rfl ?_
      refine z_iincN (lv' := [(0, _), (1, _), (2, _), (3, _)]) O 1 dX4_wholeTried_28 (by decide) rfl rfl (by decide) ?_
      refine z_goto O 5 dX4_wholeTried_31 (by decide) ?_
      refine z_kp (lv' := [(0, _), (1, _), (2, _)]) [0, 1, 2] rfl ?_
      rw [show lsN (spanV r we) none none (c + 1) = min (lsN (spanV r we) none none c) (spanV r we c) from if_neg (by simp), Nat.min_eq_left (by omega)] at ih
      exact ih
set_option maxRecDepth 20000 in
set_option maxHeartbeats 4000000 in
theorem m_leftOf {r we : Nat → Nat} {c kd m : Nat} (h : RW w 0 r we) (hr : rowOK r) (h5 : ∀ j, we j ≤ 5) (hc : c < 9) (h0 : 0 < r (108 + c)) (hkd : kd < 2 ^ 31) (hm : m < 1000000) : zS G 3 yX4_leftOf cX4_leftOf 6 (some .int) [.ref (zad (zb G) 21), .int (nI c), .int (nI kd), .int (nI m)] (yM G c0_ c1_ c2_ c3_ c4_ c5_ c6_ c7_ c8_ c9_ c10_ c11_ c12_ c13_ c14_ c15_ c16_ c17_ c18_ c19_ c20_ w kp tx txl rf ya yb at2 st2 iwd ifg nb fr la nms nd wf hh tl) 0 0 (zE (.int (nI (lftC r we c kd m))) (yM G c0_ c1_ c2_ c3_ c4_ c5_ c6_ c7_ c8_ c9_ c10_ c11_ c12_ c13_ c14_ c15_ c16_ c17_ c18_ c19_ c20_ w kp tx txl rf ya yb at2 st2 iwd ifg nb fr la nms nd wf hh tl)) := by
  refine zS.of (by decide) (Nat.le_of_ble_eq_true rfl) (fun F O hR1 hR2 => ?_)
  have O : zOk G F yX4_leftOf cX4_leftOf 6 (some .int) RX4 3 (yM G c0_ c1_ c2_ c3_ c4_ c5_ c6_ c7_ c8_ c9_ c10_ c11_ c12_ c13_ c14_ c15_ c16_ c17_ c18_ c19_ c20_ w kp tx txl rf ya yb at2 st2 iwd ifg nb fr la nms nd wf hh tl).length := O
  refine z_eq (lv' := [(0, _), (1, _), (2, _), (3, _)]) rfl rfl rfl ?_
  have h3 := hr.2 c hc
  refine z_aload_n O dX4_leftOf_0 rfl ?_
  refine z_get O dX4_leftOf_1 flX4_7 (by rfl) (by rfl) ?_
  refine z_aload_n O dX4_leftOf_4 rfl ?_
  refine z_iconst O (nI 0) dX4_leftOf_5 (by decide) ?_
  refine z_iload_n O dX4_leftOf_6 rfl ?_
  refine z_V2e0 O (m_topOf h hr (by decide) hc h0) mX4_topOf lkX4_94 rfl (by rfl) dX4_leftOf_7 (Nat.le_of_ble_eq_true rfl) (by decide) ?_
  refine z_iconst O (nI 2) dX4_leftOf_10 (by decide) ?_
  refine z_iaddN O dX4_leftOf_11 ?_
  refine z_ialdN O dX4_leftOf_12 (by rfl) (by omega) (by decide) ?_
  refine z_top (v' := .int (nI (fld r c (r (108 + c) - 1) 2))) (congrArg Value.int (congrArg nI (by have := h.1.2.2 c (r (108 + c) - 1) 2 hc (by omega) (by decide); exact this))) ?_
  refine z_istore (lv' := [(0, _), (1, _), (2, _), (3, _), (4, _)]) O dX4_leftOf_13 (by decide) rfl ?_
  refine z_iconst O (nI 0) dX4_leftOf_15 (by decide) ?_
  refine z_istore (lv' := [(0, _), (1, _), (2, _), (3, _), (4, _), (5, _)]) O dX4_leftOf_16 (by decide) rfl ?_
  refine z_eq (lv' := [(0, .ref (zad (zb G) 21)), (1, .int (nI c)), (2, .int (nI kd)), (3, .int (nI m)), (4, .int (nI (fld r c (r (108 + c) - 1) 2) - nI (lsS r we c kd 0))), (5, .int (nI 0))]) (by rw [show nI (fld r c (r (108 + c) - 1) 2) - nI (lsS r we c kd 0) = nI (fld r c (r (108 + c) - 1) 2) from pk_sub (Nat.zero_le _)]) rfl rfl ?_
  refine zdown (P := fun i => Z G F 0 0 (zEnd G F (zE (.int (nI (lftC r we c kd m))) (yM G c0_ c1_ c2_ c3_ c4_ c5_ c6_ c7_ c8_ c9_ c10_ c11_ c12_ c13_ c14_ c15_ c16_ c17_ c18_ c19_ c20_ w kp tx txl rf ya yb at2 st2 iwd ifg nb fr la nms nd wf hh tl)) 0 0) 18 [(0, .ref (zad (zb G) 21)), (1, .int (nI c)), (2, .int (nI kd)), (3, .int (nI m)), (4, .int (nI (fld r c (r (108 + c) - 1) 2) - nI (lsS r we c kd i))), (5, .int (nI i))] [] (yM G c0_ c1_ c2_ c3_ c4_ c5_ c6_ c7_ c8_ c9_ c10_ c11_ c12_ c13_ c14_ c15_ c16_ c17_ c18_ c19_ c20_ w kp tx txl rf ya yb at2 st2 iwd ifg nb fr la nms nd wf hh tl)) (m) ?_ ?_ 
  · have hl := lsS_le (r := r) h5 c kd m
    have hb4 : (fld r c (r (108 + c) - 1) 2) < 1048576 := hr.1 _
    have hsx := lfx_sub (t := (fld r c (r (108 + c) - 1) 2)) (l := lsS r we c kd m) (by omega) (by omega)
    rw [← lft_ls] at hsx
    refine z_iload O dX4_leftOf_18 rfl ?_
    refine z_iload_n O dX4_leftOf_20 rfl ?_
    refine z_icmp_geN O 57 dX4_leftOf_21 (by decide) (by omega) (by omega) (fun h21 => ?_) (fun h21 => by omega)
    refine z_iload O dX4_leftOf_57 rfl ?_
    refine z_if_ge O 66 dX4_leftOf_59 (by decide) (fun h59 => ?_) (fun h59 => ?_)
    · refine z_iload O dX4_leftOf_66 rfl ?_
      exact z_iret O dX4_leftOf_68 (by first
          | (refine ⟨?_, rfl⟩; rcases hsx with ⟨a1, a2⟩ | ⟨a1, a2⟩
             · rw [a1]; exact congrArg (fun z => some (Value.int z)) (Int32.le_antisymm a2 h59)
             · rw [a2])
          | (refine ⟨?_, rfl⟩; rcases hsx with ⟨a1, a2⟩ | ⟨a1, a2⟩
             · rw [a1]
             · exact absurd (by rw [a2]; exact nI_pos' (by rw [lft_ls]; omega)) h59))
    · refine z_iconst O (nI 0) dX4_leftOf_62 (by decide) ?_
      refine z_goto O 68 dX4_leftOf_63 (by decide) ?_
      exact z_iret O dX4_leftOf_68 (by first
          | (refine ⟨?_, rfl⟩; rcases hsx with ⟨a1, a2⟩ | ⟨a1, a2⟩
             · rw [a1]; exact congrArg (fun z => some (Value.int z)) (Int32.le_antisymm a2 h59)
             · rw [a2])
          | (refine ⟨?_, rfl⟩; rcases hsx with ⟨a1, a2⟩ | ⟨a1, a2⟩
             · rw [a1]
             · exact absurd (by rw [a2]; exact nI_pos' (by rw [lft_ls]; omega)) h59))
  · intro i hi ih 
    refine z_iload O dX4_leftOf_18 rfl ?_
    refine z_iload_n O dX4_leftOf_20 rfl ?_
    refine z_icmp_geN O 57 dX4_leftOf_21 (by decide) (by omega) (by omega) (fun h21 => by omega) (fun h21 => ?_)
    refine z_iload O dX4_leftOf_24 rfl ?_
    refine z_iload_n O dX4_leftOf_26 rfl ?_
    refine z_aload_n O dX4_leftOf_27 rfl ?_
    refine z_get O dX4_leftOf_28 flX4_7 (by rfl) (by rfl) ?_
    refine z_bipush O (nI 118) dX4_leftOf_31 (by decide) ?_
    refine z_iload_n O dX4_leftOf_33 rfl ?_
    refine z_iaddN O dX4_leftOf_34 ?_
    refine z_ialdN O dX4_leftOf_35 (by rfl) (by omega) (by decide) ?_
    refine z_top (v' := .int (nI (we c))) (congrArg Value.int (congrArg nI (by have := h.2 c hc; rw [show 118 + c = 0 + 118 + c by omega]; exact this))) ?_
    refine z_aload_n O dX4_leftOf_36 rfl ?_
    refine z_get O dX4_leftOf_37 flX4_7 (by rfl) (by rfl) ?_
    refine z_iconst O (nI 0) dX4_leftOf_40 (by decide) ?_
    refine z_ialdN O dX4_leftOf_41 (by rfl) (by omega) (by decide) ?_
    refine z_top (v' := .int (nI (r 117))) (congrArg Value.int (congrArg nI h.1.1)) ?_
    refine z_iload O dX4_leftOf_42 rfl ?_
    refine z_iaddN O dX4_leftOf_44 ?_
    refine z_S3e0 O (m_loses (by omega) (by have := h5 c; omega) (by have := hr.1 117; omega)) mX4_loses lkX4_97 dX4_leftOf_45 (Nat.le_of_ble_eq_true rfl) (by decide) ?_
    refine z_isub O dX4_leftOf_48 ?_
    refine z_top (v' := .int (nI (fld r c (r (108 + c) - 1) 2) - nI (lsS r we c kd (i + 1)))) (congrArg Value.int (sub_sub_nI _ _ _)) ?_
    refine z_istore (lv' := [(0, _), (1, _), (2, _), (3, _), (4, _), (5, _)]) O dX4_leftOf_49 (by decide) rfl ?_
    refine z_iincN (lv' := [(0, _), (1, _), (2, _), (3, _), (4, _), (5, _)]) O 1 dX4_leftOf_51 (by decide) rfl rfl (by decide) ?_
    refine z_goto O 18 dX4_leftOf_54 (by decide) ?_
    exact ih
set_option maxRecDepth 20000 in
set_option maxHeartbeats 4000000 in
theorem m_tells {u d : Nat} (hu1 : u < 2 ^ 62) (hd1 : d < 2 ^ 62) (hd : 0 < d) : zS G 1 yX4_tells cX4_tells 11 (some .int) [.ref (zad (zb G) 21), .long (lN u), .long (lN d)] (yM G c0_ c1_ c2_ c3_ c4_ c5_ c6_ c7_ c8_ c9_ c10_ c11_ c12_ c13_ c14_ c15_ c16_ c17_ c18_ c19_ c20_ w kp tx txl rf ya yb at2 st2 iwd ifg nb fr la nms nd wf hh tl) 0 0 (zE (.int (nI 1)) (yM G c0_ c1_ c2_ c3_ c4_ c5_ c6_ c7_ c8_ c9_ c10_ c11_ c12_ c13_ c14_ c15_ c16_ c17_ c18_ c19_ c20_ w kp tx txl rf (lN (u / Nat.gcd u d)) (lN (d / Nat.gcd u d)) at2 st2 iwd ifg nb fr la nms nd wf hh tl)) := by
  refine zS.of (by decide) (Nat.le_of_ble_eq_true rfl) (fun F O hR1 hR2 => ?_)
  have O : zOk G F yX4_tells cX4_tells 11 (some .int) RX4 1 (yM G c0_ c1_ c2_ c3_ c4_ c5_ c6_ c7_ c8_ c9_ c10_ c11_ c12_ c13_ c14_ c15_ c16_ c17_ c18_ c19_ c20_ w kp tx txl rf ya yb at2 st2 iwd ifg nb fr la nms nd wf hh tl).length := O
  refine z_eq (lv' := [(0, _), (1, _), (3, _)]) rfl rfl rfl ?_
  refine z_lload_n O dX4_tells_0 rfl ?_
  refine z_lstore (lv' := [(0, _), (1, _), (3, _), (5, _)]) O dX4_tells_1 (by decide) rfl ?_
  refine z_lload_n O dX4_tells_3 rfl ?_
  refine z_lstore (lv' := [(0, _), (1, _), (3, _), (5, _), (7, _)]) O dX4_tells_4 (by decide) rfl ?_
  refine zdown (P := fun k => ∀ a e : Nat, a < 2 ^ 62 → e < 2 ^ 62 → e + k ≤ d → Nat.gcd a e = Nat.gcd u d → Z G F 0 0 (zEnd G F (zE (.int (nI 1)) (yM G c0_ c1_ c2_ c3_ c4_ c5_ c6_ c7_ c8_ c9_ c10_ c11_ c12_ c13_ c14_ c15_ c16_ c17_ c18_ c19_ c20_ w kp tx txl rf (lN (u / Nat.gcd u d)) (lN (d / Nat.gcd u d)) at2 st2 iwd ifg nb fr la nms nd wf hh tl)) 0 0) 6 [(0, .ref (zad (zb G) 21)), (1, .long (lN u)), (3, .long (lN d)), (5, .long (lN a)), (7, .long (lN e))] [] (yM G c0_ c1_ c2_ c3_ c4_ c5_ c6_ c7_ c8_ c9_ c10_ c11_ c12_ c13_ c14_ c15_ c16_ c17_ c18_ c19_ c20_ w kp tx txl rf ya yb at2 st2 iwd ifg nb fr la nms nd wf hh tl)) (d) ?_ ?_ u d hu1 hd1 (by omega) rfl
  · intro a e ha he hk2 hg
    have hb0 : e = 0 := by omega
    have hg0 : Nat.gcd u d = a := by rw [← hg, hb0, Nat.gcd_zero_right]
    rw [← hg0]
    have hgp : 0 < Nat.gcd u d := Nat.gcd_pos_of_pos_right u hd
    have hgl := Nat.gcd_le_right u hd
    subst hb0
    refine z_lload O dX4_tells_6 rfl ?_
    refine z_lconst O (lN 0) dX4_tells_8 (by decide) ?_
    refine z_lcmp O dX4_tells_9 ?_
    refine z_if_eq O 31 dX4_tells_10 (by decide) (fun h10 => ?_) (fun h10 => by exact absurd ((lcmp0 (by decide)).mpr rfl) h10)
    refine z_aload_n O dX4_tells_31 rfl ?_
    refine z_lload_n O dX4_tells_32 rfl ?_
    refine z_lload O dX4_tells_33 rfl ?_
    refine z_ldivN O dX4_tells_35 (by omega) (by omega) (by omega) ?_
    refine z_put O (by rfl) dX4_tells_36 flX4_196 (by rfl) rfl rfl (by simp) ?_
    refine z_M (show _ = (yM G c0_ c1_ c2_ c3_ c4_ c5_ c6_ c7_ c8_ c9_ c10_ c11_ c12_ c13_ c14_ c15_ c16_ c17_ c18_ c19_ c20_ w kp tx txl rf (lN (u / Nat.gcd u d)) yb at2 st2 iwd ifg nb fr la nms nd wf hh tl) from rfl) ?_
    refine z_aload_n O dX4_tells_39 rfl ?_
    refine z_lload_n O dX4_tells_40 rfl ?_
    refine z_lload O dX4_tells_41 rfl ?_
    refine z_ldivN O dX4_tells_43 (by omega) (by omega) (by omega) ?_
    refine z_put O (by rfl) dX4_tells_44 flX4_23 (by rfl) rfl rfl (by simp) ?_
    refine z_M (show _ = (yM G c0_ c1_ c2_ c3_ c4_ c5_ c6_ c7_ c8_ c9_ c10_ c11_ c12_ c13_ c14_ c15_ c16_ c17_ c18_ c19_ c20_ w kp tx txl rf (lN (u / Nat.gcd u d)) (lN (d / Nat.gcd u d)) at2 st2 iwd ifg nb fr la nms nd wf hh tl) from rfl) ?_
    refine z_iconst O (nI 1) dX4_tells_47 (by decide) ?_
    exact z_iret O dX4_tells_48 ⟨rfl, rfl⟩
  · intro k hk ih a e ha he hk2 hg
    rcases Nat.eq_zero_or_pos e with hb0 | hb1
    · have hg0 : Nat.gcd u d = a := by rw [← hg, hb0, Nat.gcd_zero_right]
      rw [← hg0]
      have hgp : 0 < Nat.gcd u d := Nat.gcd_pos_of_pos_right u hd
      have hgl := Nat.gcd_le_right u hd
      subst hb0
      refine z_lload O dX4_tells_6 rfl ?_
      refine z_lconst O (lN 0) dX4_tells_8 (by decide) ?_
      refine z_lcmp O dX4_tells_9 ?_
      refine z_if_eq O 31 dX4_tells_10 (by decide) (fun h10 => ?_) (fun h10 => by exact absurd ((lcmp0 (by decide)).mpr rfl) h10)
      refine z_aload_n O dX4_tells_31 rfl ?_
      refine z_lload_n O dX4_tells_32 rfl ?_
      refine z_lload O dX4_tells_33 rfl ?_
      refine z_ldivN O dX4_tells_35 (by omega) (by omega) (by omega) ?_
      refine z_put O (by rfl) dX4_tells_36 flX4_196 (by rfl) rfl rfl (by simp) ?_
      refine z_M (show _ = (yM G c0_ c1_ c2_ c3_ c4_ c5_ c6_ c7_ c8_ c9_ c10_ c11_ c12_ c13_ c14_ c15_ c16_ c17_ c18_ c19_ c20_ w kp tx txl rf (lN (u / Nat.gcd u d)) yb at2 st2 iwd ifg nb fr la nms nd wf hh tl) from rfl) ?_
      refine z_aload_n O dX4_tells_39 rfl ?_
      refine z_lload_n O dX4_tells_40 rfl ?_
      refine z_lload O dX4_tells_41 rfl ?_
      refine z_ldivN O dX4_tells_43 (by omega) (by omega) (by omega) ?_
      refine z_put O (by rfl) dX4_tells_44 flX4_23 (by rfl) rfl rfl (by simp) ?_
      refine z_M (show _ = (yM G c0_ c1_ c2_ c3_ c4_ c5_ c6_ c7_ c8_ c9_ c10_ c11_ c12_ c13_ c14_ c15_ c16_ c17_ c18_ c19_ c20_ w kp tx txl rf (lN (u / Nat.gcd u d)) (lN (d / Nat.gcd u d)) at2 st2 iwd ifg nb fr la nms nd wf hh tl) from rfl) ?_
      refine z_iconst O (nI 1) dX4_tells_47 (by decide) ?_
      exact z_iret O dX4_tells_48 ⟨rfl, rfl⟩
    · refine z_lload O dX4_tells_6 rfl ?_
      refine z_lconst O (lN 0) dX4_tells_8 (by decide) ?_
      refine z_lcmp O dX4_tells_9 ?_
      refine z_if_eq O 31 dX4_tells_10 (by decide) (fun h10 => by exact absurd ((lcmp0 (by omega)).mp h10) (by omega)) (fun h10 => ?_)
      refine z_lload O dX4_tells_13 rfl ?_
      refine z_lload O dX4_tells_15 rfl ?_
      refine z_lrem O dX4_tells_17 (lN_ne0 (by omega) (by omega)) ?_
      refine z_top (v' := .long (lN (a % e))) (congrArg Value.long (pk_lRem (by omega) (by omega) (by omega))) ?_
      refine z_lstore (lv' := [(0, _), (1, _), (3, _), (5, _), (7, _), (9, _)]) O dX4_tells_18 (by decide) rfl ?_
      refine z_lload O dX4_tells_20 rfl ?_
      refine z_lstore (lv' := [(0, _), (1, _), (3, _), (5, _), (7, _), (9, _)]) O dX4_tells_22 (by decide) rfl ?_
      refine z_lload O dX4_tells_24 rfl ?_
      refine z_lstore (lv' := [(0, _), (1, _), (3, _), (5, _), (7, _), (9, _)]) O dX4_tells_26 (by decide) rfl ?_
      refine z_goto O 6 dX4_tells_28 (by decide) ?_
      refine z_kp (lv' := [(0, _), (1, _), (3, _), (5, _), (7, _)]) [0, 1, 3, 5, 7] rfl ?_
      exact ih _ _ he (Nat.lt_of_le_of_lt (Nat.mod_le _ _) ha) (by have := Nat.mod_lt a hb1; omega) (gcd_step.trans hg)
end YS
