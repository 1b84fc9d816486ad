/-! ===== the reference: items, read, the beginning ===== -/
section YS
variable {G : zG} {c0_ c1_ c2_ c3_ c4_ c5_ c6_ c7_ c8_ c9_ c10_ c11_ c12_ c13_ c14_ c15_ c16_ c17_ c18_ c19_ c20_ : va_E} {w kp tx : Nat → Nat} {txl : Nat} {rf : Nat → Nat} {ya yb : Int64} {at2 st2 : Nat} {iwd ifg : Int32} {nb : Nat → Nat} {fr : Int32} {la nms : Nat → Nat} {nd : Nat} {wf : Nat → Nat} {hh : Int64} {tl : List va_E}
theorem rdI_s {t : Nat → Nat} {len n : Nat} {s : (Nat → Nat) × (Nat → Nat)} {v : Nat → Nat} {fr : Int32} (h : rdI t len s n v fr) (hf : ¬ fr = -1) : rdI t len s (n + 1) v fr := by
  rcases h with ⟨h1, -⟩ | ⟨i, h1, h2⟩
  · exact absurd h1 hf
  · exact Or.inr ⟨i, by omega, h2⟩
set_option maxRecDepth 20000 in
set_option maxHeartbeats 4000000 in
theorem m_takesItem (hl : txl ≤ 150) (hby : ∀ j, tx j ≤ 127) {s : (Nat → Nat) × (Nat → Nat)} {n : Nat} (hs : tlOK s) (hn : n < 25) (hitm : ITM tx txl (n + 1)) (hri : rdI tx txl s n w fr) : zS G 6 yX4_takesItem cX4_takesItem 5 (some .boolean) [.ref (zad (zb G) 21), .int (nI n)] (yM G c0_ c1_ c2_ c3_ c4_ c5_ c6_ c7_ c8_ c9_ c10_ c11_ c12_ c13_ c14_ c15_ c16_ c17_ c18_ c19_ c20_ w kp tx txl rf ya yb (tE tx txl (iQ tx txl n)) (tS tx txl (iQ tx txl n)) (iW tx txl (iQ tx txl n)) (iF tx txl (iQ tx txl n)) nb fr la nms nd wf hh tl) 0 0 (zP (fun v M' => v = .int (nI 1) ∧ ∃ (w' : Nat → Nat) (fr' : Int32) (nb' : Nat → Nat) (st' : Nat) (iw' ig' : Int32), rdI tx txl s (n + 1) w' fr' ∧ smR w w' ∧ M' = (yM G c0_ c1_ c2_ c3_ c4_ c5_ c6_ c7_ c8_ c9_ c10_ c11_ c12_ c13_ c14_ c15_ c16_ c17_ c18_ c19_ c20_ w' kp tx txl rf ya yb (iQ tx txl (n + 1)) st' iw' ig' nb' fr' la nms nd wf hh tl))) := by
  refine zS.of (by decide) (Nat.le_of_ble_eq_true rfl) (fun F O hR1 hR2 => ?_)
  have O : zOk G F yX4_takesItem cX4_takesItem 5 (some .boolean) RX4 6 (yM G c0_ c1_ c2_ c3_ c4_ c5_ c6_ c7_ c8_ c9_ c10_ c11_ c12_ c13_ c14_ c15_ c16_ c17_ c18_ c19_ c20_ w kp tx txl rf ya yb (tE tx txl (iQ tx txl n)) (tS tx txl (iQ tx txl n)) (iW tx txl (iQ tx txl n)) (iF tx txl (iQ tx txl n)) nb fr la nms nd wf hh tl).length := O
  refine z_eq (lv' := [(0, _), (1, _)]) rfl rfl rfl ?_
  have hit := it_none (hitm n (by omega))
  obtain ⟨h1, h2, hnu, hst⟩ := hit
  have hto := tO_1 h1
  have hw3 := hto.2.1
  have hwn := (wn_ok _ hw3).2
  refine z_aload_n O dX4_takesItem_0 rfl ?_
  refine z_V0e0 O (m_wordNow hl hby (iQ_le tx txl n)) mX4_wordNow lkX4_149 rfl (by rfl) dX4_takesItem_1 (Nat.le_of_ble_eq_true rfl) (by decide) ?_
  refine z_top (v' := .int (nI (wdT tx txl (iQ tx txl n)))) (by rw [wdW_s h1]; rfl) ?_
  refine z_istore_n (lv' := [(0, _), (1, _), (2, _)]) O dX4_takesItem_4 (by decide) rfl ?_
  refine z_iload_n O dX4_takesItem_5 rfl ?_
  refine z_iconst O (-1) dX4_takesItem_6 (by decide) ?_
  refine z_icmp_eq O 31 dX4_takesItem_7 (by decide) (fun h7 => by exact absurd h7 (m1_ne (by omega))) (fun h7 => ?_)
  rcases (show ((wdT tx txl (iQ tx txl n)) = 0 ∧ n = 0) ∨ (¬ (wdT tx txl (iQ tx txl n)) = 0 ∧ ¬ n = 0) by omega) with hc | hc
  · refine z_iload_n O dX4_takesItem_10 rfl ?_
    refine z_if_neN O 18 dX4_takesItem_11 (by decide) (by omega) (fun h11 => by omega) (fun h11 => ?_)
    refine z_iconst O (nI 1) dX4_takesItem_14 (by decide) ?_
    refine z_goto O 19 dX4_takesItem_15 (by decide) ?_
    refine z_iload_n O dX4_takesItem_19 rfl ?_
    refine z_if_neN O 27 dX4_takesItem_20 (by decide) (by omega) (fun h20 => by omega) (fun h20 => ?_)
    refine z_iconst O (nI 1) dX4_takesItem_23 (by decide) ?_
    refine z_goto O 28 dX4_takesItem_24 (by decide) ?_
    refine z_icmp_eqN O 33 dX4_takesItem_28 (by decide) (by omega) (by omega) (fun h28 => ?_) (fun h28 => by omega)
    rcases (show (wdT tx txl (iQ tx txl n)) = 0 ∨ (wdT tx txl (iQ tx txl n)) = 1 ∨ (wdT tx txl (iQ tx txl n)) = 2 by omega) with hwd | hwd | hwd
    · refine z_iload_n O dX4_takesItem_33 rfl ?_
      refine z_if_neN O 41 dX4_takesItem_34 (by decide) (by omega) (fun h34 => by omega) (fun h34 => ?_)
      refine z_iconst O (nI 1) dX4_takesItem_37 (by decide) ?_
      refine z_goto O 51 dX4_takesItem_38 (by decide) ?_
      refine z_top (v' := .int (nI (wnN (wdT tx txl (iQ tx txl n))))) (by rw [hwd]; rfl) ?_
      refine z_istore_n (lv' := [(0, _), (1, _), (2, _), (3, _)]) O dX4_takesItem_51 (by decide) rfl ?_
      refine z_iconst O (nI 0) dX4_takesItem_52 (by decide) ?_
      refine z_istore (lv' := [(0, _), (1, _), (2, _), (3, _), (4, _)]) O dX4_takesItem_53 (by decide) rfl ?_
      refine zdown (P := fun j => ∀ (nb' : Nat → Nat) (st' : Nat) (iw' ig' : Int32), (∀ i, i < j → nb' i = nuQ tx txl (iQ tx txl n) i) → Z G F 0 0 (zEnd G F (zP (fun v M' => v = .int (nI 1) ∧ ∃ (w' : Nat → Nat) (fr' : Int32) (nb' : Nat → Nat) (st' : Nat) (iw' ig' : Int32), rdI tx txl s (n + 1) w' fr' ∧ smR w w' ∧ M' = (yM G c0_ c1_ c2_ c3_ c4_ c5_ c6_ c7_ c8_ c9_ c10_ c11_ c12_ c13_ c14_ c15_ c16_ c17_ c18_ c19_ c20_ w' kp tx txl rf ya yb (iQ tx txl (n + 1)) st' iw' ig' nb' fr' la nms nd wf hh tl))) 0 0) 55 [(0, .ref (zad (zb G) 21)), (1, .int (nI n)), (2, .int (nI (wdT tx txl (iQ tx txl n)))), (3, .int (nI (wnN (wdT tx txl (iQ tx txl n))))), (4, .int (nI j))] [] (yM G c0_ c1_ c2_ c3_ c4_ c5_ c6_ c7_ c8_ c9_ c10_ c11_ c12_ c13_ c14_ c15_ c16_ c17_ c18_ c19_ c20_ w kp tx txl rf ya yb ((qN tx txl (tE tx txl (iQ tx txl n)) j)) st' iw' ig' nb' fr la nms nd wf hh tl)) ((wnN (wdT tx txl (iQ tx txl n)))) ?_ ?_ nb _ _ _ (fun i hi => absurd hi (Nat.not_lt_zero i))
      · intro nb' st' iw' ig' hn1
        have hqw : (qN tx txl (tE tx txl (iQ tx txl n)) (wnN (wdT tx txl (iQ tx txl n)))) ≤ txl := tE_len (tE_le (iQ_le tx txl n)).2 _
        refine z_iload O dX4_takesItem_55 rfl ?_
        refine z_iload_n O dX4_takesItem_57 rfl ?_
        refine z_icmp_geN O 78 dX4_takesItem_58 (by decide) (by omega) (by omega) (fun h58 => ?_) (fun h58 => by omega)
        refine z_aload_n O dX4_takesItem_78 rfl ?_
        refine z_V0u0 O (m_token hl hby hqw) mX4_token lkX4_146 rfl (by rfl) dX4_takesItem_79 (Nat.le_of_ble_eq_true rfl) (by decide) ?_
        refine z_M (show _ = (yM G c0_ c1_ c2_ c3_ c4_ c5_ c6_ c7_ c8_ c9_ c10_ c11_ c12_ c13_ c14_ c15_ c16_ c17_ c18_ c19_ c20_ w kp tx txl rf ya yb (iQ tx txl (n + 1)) (tS tx txl (qN tx txl (tE tx txl (iQ tx txl n)) (wnN (wdT tx txl (iQ tx txl n))))) (iW tx txl (qN tx txl (tE tx txl (iQ tx txl n)) (wnN (wdT tx txl (iQ tx txl n))))) (iF tx txl (qN tx txl (tE tx txl (iQ tx txl n)) (wnN (wdT tx txl (iQ tx txl n))))) nb' fr la nms nd wf hh tl) from rfl) ?_
        refine z_aload_n O dX4_takesItem_82 rfl ?_
        refine z_aload_n O dX4_takesItem_83 rfl ?_
        refine z_get O dX4_takesItem_84 flX4_125 (by rfl) (by rfl) ?_
        refine z_V1e0 O (m_byteAt hl (by have := (tE_le (t := tx) hqw).1; omega)) mX4_byteAt lkX4_122 rfl (by rfl) dX4_takesItem_87 (Nat.le_of_ble_eq_true rfl) (by decide) ?_
        refine z_bipush O (nI 59) dX4_takesItem_90 (by decide) ?_
        refine z_icmp_eq O 97 dX4_takesItem_92 (by decide) (fun h92 => ?_) (fun h92 => by exact absurd ((bt_eq hby (by decide)).mpr (tO_3.mp hst)) h92)
        by_cases hfr : fr = -1
        · subst hfr
          refine z_aload_n O dX4_takesItem_97 rfl ?_
          refine z_get O dX4_takesItem_98 flX4_155 (by rfl) (by rfl) ?_
          refine z_iconst O (-1) dX4_takesItem_101 (by decide) ?_
          refine z_icmp_ne O 118 dX4_takesItem_102 (by decide) (fun h102 => by exact absurd rfl h102) (fun h102 => ?_)
          refine z_aload_n O dX4_takesItem_105 rfl ?_
          refine z_iload_n O dX4_takesItem_106 rfl ?_
          refine z_V1p0 O (m_tellsItem hl hs hitm hri hn1) mX4_tellsItem lkX4_158 rfl (by rfl) dX4_takesItem_107 (Nat.le_of_ble_eq_true rfl) (by decide) (fun x M' hq => ?_)
          obtain ⟨w2, hor, hsm, rfl⟩ := hq
          rcases hor with ⟨rfl, hr2⟩ | ⟨rfl, hr2⟩
          · refine z_if_neN O 118 dX4_takesItem_110 (by decide) (by omega) (fun h110 => ?_) (fun h110 => by omega)
            refine z_iconst O (nI 1) dX4_takesItem_118 (by decide) ?_
            exact z_zret O dX4_takesItem_119 rfl ⟨_, rfl, rfl, w2, _, _, _, _, _, hr2, hsm, rfl⟩
          · refine z_if_neN O 118 dX4_takesItem_110 (by decide) (by omega) (fun h110 => by omega) (fun h110 => ?_)
            refine z_aload_n O dX4_takesItem_113 rfl ?_
            refine z_iload_n O dX4_takesItem_114 rfl ?_
            refine z_put O (by rfl) dX4_takesItem_115 flX4_155 (by rfl) rfl rfl (by simp) ?_
            refine z_iconst O (nI 1) dX4_takesItem_118 (by decide) ?_
            exact z_zret O dX4_takesItem_119 rfl ⟨_, rfl, rfl, w2, _, _, _, _, _, hr2, hsm, rfl⟩
        · refine z_aload_n O dX4_takesItem_97 rfl ?_
          refine z_get O dX4_takesItem_98 flX4_155 (by rfl) (by rfl) ?_
          refine z_iconst O (-1) dX4_takesItem_101 (by decide) ?_
          refine z_icmp_ne O 118 dX4_takesItem_102 (by decide) (fun h102 => ?_) (fun h102 => by exact absurd h102 hfr)
          refine z_iconst O (nI 1) dX4_takesItem_118 (by decide) ?_
          exact z_zret O dX4_takesItem_119 rfl ⟨_, rfl, rfl, w, _, _, _, _, _, rdI_s hri hfr, fun _ _ => rfl, rfl⟩
      · intro j hj ih nb' st' iw' ig' hn1
        have hql : (qN tx txl (tE tx txl (iQ tx txl n)) j) ≤ txl := tE_len (tE_le (iQ_le tx txl n)).2 j
        refine z_iload O dX4_takesItem_55 rfl ?_
        refine z_iload_n O dX4_takesItem_57 rfl ?_
        refine z_icmp_geN O 78 dX4_takesItem_58 (by decide) (by omega) (by omega) (fun h58 => by omega) (fun h58 => ?_)
        refine z_aload_n O dX4_takesItem_61 rfl ?_
        refine z_iload O dX4_takesItem_62 rfl ?_
        refine z_V1e0 O (m_takesNumber hl hby hql (by omega) (hnu j hj)) mX4_takesNumber lkX4_152 rfl (by rfl) dX4_takesItem_64 (Nat.le_of_ble_eq_true rfl) (by decide) ?_
        refine z_if_neN O 72 dX4_takesItem_67 (by decide) (by omega) (fun h67 => ?_) (fun h67 => by omega)
        refine z_iincN (lv' := [(0, _), (1, _), (2, _), (3, _), (4, _)]) O 1 dX4_takesItem_72 (by decide) rfl rfl (by decide) ?_
        refine z_goto O 55 dX4_takesItem_75 (by decide) ?_
        exact ih _ _ _ _ (fun i hi => by
          by_cases e : i = j
          · rw [e, updN_s]; rfl
          · rw [updN_n e]; exact hn1 i (by omega))
    · refine z_iload_n O dX4_takesItem_33 rfl ?_
      refine z_if_neN O 41 dX4_takesItem_34 (by decide) (by omega) (fun h34 => ?_) (fun h34 => by omega)
      refine z_iload_n O dX4_takesItem_41 rfl ?_
      refine z_iconst O (nI 1) dX4_takesItem_42 (by decide) ?_
      refine z_icmp_neN O 50 dX4_takesItem_43 (by decide) (by omega) (by omega) (fun h43 => by omega) (fun h43 => ?_)
      refine z_iconst O (nI 2) dX4_takesItem_46 (by decide) ?_
      refine z_goto O 51 dX4_takesItem_47 (by decide) ?_
      refine z_top (v' := .int (nI (wnN (wdT tx txl (iQ tx txl n))))) (by rw [hwd]; rfl) ?_
      refine z_istore_n (lv' := [(0, _), (1, _), (2, _), (3, _)]) O dX4_takesItem_51 (by decide) rfl ?_
      refine z_iconst O (nI 0) dX4_takesItem_52 (by decide) ?_
      refine z_istore (lv' := [(0, _), (1, _), (2, _), (3, _), (4, _)]) O dX4_takesItem_53 (by decide) rfl ?_
      refine zdown (P := fun j => ∀ (nb' : Nat → Nat) (st' : Nat) (iw' ig' : Int32), (∀ i, i < j → nb' i = nuQ tx txl (iQ tx txl n) i) → Z G F 0 0 (zEnd G F (zP (fun v M' => v = .int (nI 1) ∧ ∃ (w' : Nat → Nat) (fr' : Int32) (nb' : Nat → Nat) (st' : Nat) (iw' ig' : Int32), rdI tx txl s (n + 1) w' fr' ∧ smR w w' ∧ M' = (yM G c0_ c1_ c2_ c3_ c4_ c5_ c6_ c7_ c8_ c9_ c10_ c11_ c12_ c13_ c14_ c15_ c16_ c17_ c18_ c19_ c20_ w' kp tx txl rf ya yb (iQ tx txl (n + 1)) st' iw' ig' nb' fr' la nms nd wf hh tl))) 0 0) 55 [(0, .ref (zad (zb G) 21)), (1, .int (nI n)), (2, .int (nI (wdT tx txl (iQ tx txl n)))), (3, .int (nI (wnN (wdT tx txl (iQ tx txl n))))), (4, .int (nI j))] [] (yM G c0_ c1_ c2_ c3_ c4_ c5_ c6_ c7_ c8_ c9_ c10_ c11_ c12_ c13_ c14_ c15_ c16_ c17_ c18_ c19_ c20_ w kp tx txl rf ya yb ((qN tx txl (tE tx txl (iQ tx txl n)) j)) st' iw' ig' nb' fr la nms nd wf hh tl)) ((wnN (wdT tx txl (iQ tx txl n)))) ?_ ?_ nb _ _ _ (fun i hi => absurd hi (Nat.not_lt_zero i))
      · intro nb' st' iw' ig' hn1
        have hqw : (qN tx txl (tE tx txl (iQ tx txl n)) (wnN (wdT tx txl (iQ tx txl n)))) ≤ txl := tE_len (tE_le (iQ_le tx txl n)).2 _
        refine z_iload O dX4_takesItem_55 rfl ?_
        refine z_iload_n O dX4_takesItem_57 rfl ?_
        refine z_icmp_geN O 78 dX4_takesItem_58 (by decide) (by omega) (by omega) (fun h58 => ?_) (fun h58 => by omega)
        refine z_aload_n O dX4_takesItem_78 rfl ?_
        refine z_V0u0 O (m_token hl hby hqw) mX4_token lkX4_146 rfl (by rfl) dX4_takesItem_79 (Nat.le_of_ble_eq_true rfl) (by decide) ?_
        refine z_M (show _ = (yM G c0_ c1_ c2_ c3_ c4_ c5_ c6_ c7_ c8_ c9_ c10_ c11_ c12_ c13_ c14_ c15_ c16_ c17_ c18_ c19_ c20_ w kp tx txl rf ya yb (iQ tx txl (n + 1)) (tS tx txl (qN tx txl (tE tx txl (iQ tx txl n)) (wnN (wdT tx txl (iQ tx txl n))))) (iW tx txl (qN tx txl (tE tx txl (iQ tx txl n)) (wnN (wdT tx txl (iQ tx txl n))))) (iF tx txl (qN tx txl (tE tx txl (iQ tx txl n)) (wnN (wdT tx txl (iQ tx txl n))))) nb' fr la nms nd wf hh tl) from rfl) ?_
        refine z_aload_n O dX4_takesItem_82 rfl ?_
        refine z_aload_n O dX4_takesItem_83 rfl ?_
        refine z_get O dX4_takesItem_84 flX4_125 (by rfl) (by rfl) ?_
        refine z_V1e0 O (m_byteAt hl (by have := (tE_le (t := tx) hqw).1; omega)) mX4_byteAt lkX4_122 rfl (by rfl) dX4_takesItem_87 (Nat.le_of_ble_eq_true rfl) (by decide) ?_
        refine z_bipush O (nI 59) dX4_takesItem_90 (by decide) ?_
        refine z_icmp_eq O 97 dX4_takesItem_92 (by decide) (fun h92 => ?_) (fun h92 => by exact absurd ((bt_eq hby (by decide)).mpr (tO_3.mp hst)) h92)
        by_cases hfr : fr = -1
        · subst hfr
          refine z_aload_n O dX4_takesItem_97 rfl ?_
          refine z_get O dX4_takesItem_98 flX4_155 (by rfl) (by rfl) ?_
          refine z_iconst O (-1) dX4_takesItem_101 (by decide) ?_
          refine z_icmp_ne O 118 dX4_takesItem_102 (by decide) (fun h102 => by exact absurd rfl h102) (fun h102 => ?_)
          refine z_aload_n O dX4_takesItem_105 rfl ?_
          refine z_iload_n O dX4_takesItem_106 rfl ?_
          refine z_V1p0 O (m_tellsItem hl hs hitm hri hn1) mX4_tellsItem lkX4_158 rfl (by rfl) dX4_takesItem_107 (Nat.le_of_ble_eq_true rfl) (by decide) (fun x M' hq => ?_)
          obtain ⟨w2, hor, hsm, rfl⟩ := hq
          rcases hor with ⟨rfl, hr2⟩ | ⟨rfl, hr2⟩
          · refine z_if_neN O 118 dX4_takesItem_110 (by decide) (by omega) (fun h110 => ?_) (fun h110 => by omega)
            refine z_iconst O (nI 1) dX4_takesItem_118 (by decide) ?_
            exact z_zret O dX4_takesItem_119 rfl ⟨_, rfl, rfl, w2, _, _, _, _, _, hr2, hsm, rfl⟩
          · refine z_if_neN O 118 dX4_takesItem_110 (by decide) (by omega) (fun h110 => by omega) (fun h110 => ?_)
            refine z_aload_n O dX4_takesItem_113 rfl ?_
            refine z_iload_n O dX4_takesItem_114 rfl ?_
            refine z_put O (by rfl) dX4_takesItem_115 flX4_155 (by rfl) rfl rfl (by simp) ?_
            refine z_iconst O (nI 1) dX4_takesItem_118 (by decide) ?_
            exact z_zret O dX4_takesItem_119 rfl ⟨_, rfl, rfl, w2, _, _, _, _, _, hr2, hsm, rfl⟩
        · refine z_aload_n O dX4_takesItem_97 rfl ?_
          refine z_get O dX4_takesItem_98 flX4_155 (by rfl) (by rfl) ?_
          refine z_iconst O (-1) dX4_takesItem_101 (by decide) ?_
          refine z_icmp_ne O 118 dX4_takesItem_102 (by decide) (fun h102 => ?_) (fun h102 => by exact absurd h102 hfr)
          refine z_iconst O (nI 1) dX4_takesItem_118 (by decide) ?_
          exact z_zret O dX4_takesItem_119 rfl ⟨_, rfl, rfl, w, _, _, _, _, _, rdI_s hri hfr, fun _ _ => rfl, rfl⟩
      · intro j hj ih nb' st' iw' ig' hn1
        have hql : (qN tx txl (tE tx txl (iQ tx txl n)) j) ≤ txl := tE_len (tE_le (iQ_le tx txl n)).2 j
        refine z_iload O dX4_takesItem_55 rfl ?_
        refine z_iload_n O dX4_takesItem_57 rfl ?_
        refine z_icmp_geN O 78 dX4_takesItem_58 (by decide) (by omega) (by omega) (fun h58 => by omega) (fun h58 => ?_)
        refine z_aload_n O dX4_takesItem_61 rfl ?_
        refine z_iload O dX4_takesItem_62 rfl ?_
        refine z_V1e0 O (m_takesNumber hl hby hql (by omega) (hnu j hj)) mX4_takesNumber lkX4_152 rfl (by rfl) dX4_takesItem_64 (Nat.le_of_ble_eq_true rfl) (by decide) ?_
        refine z_if_neN O 72 dX4_takesItem_67 (by decide) (by omega) (fun h67 => ?_) (fun h67 => by omega)
        refine z_iincN (lv' := [(0, _), (1, _), (2, _), (3, _), (4, _)]) O 1 dX4_takesItem_72 (by decide) rfl rfl (by decide) ?_
        refine z_goto O 55 dX4_takesItem_75 (by decide) ?_
        exact ih _ _ _ _ (fun i hi => by
          by_cases e : i = j
          · rw [e, updN_s]; rfl
          · rw [updN_n e]; exact hn1 i (by omega))
    · refine z_iload_n O dX4_takesItem_33 rfl ?_
      refine z_if_neN O 41 dX4_takesItem_34 (by decide) (by omega) (fun h34 => ?_) (fun h34 => by omega)
      refine z_iload_n O dX4_takesItem_41 rfl ?_
      refine z_iconst O (nI 1) dX4_takesItem_42 (by decide) ?_
      refine z_icmp_neN O 50 dX4_takesItem_43 (by decide) (by omega) (by omega) (fun h43 => ?_) (fun h43 => by omega)
      refine z_iconst O (nI 4) dX4_takesItem_50 (by decide) ?_
      refine z_top (v' := .int (nI (wnN (wdT tx txl (iQ tx txl n))))) (by rw [hwd]; rfl) ?_
      refine z_istore_n (lv' := [(0, _), (1, _), (2, _), (3, _)]) O dX4_takesItem_51 (by decide) rfl ?_
      refine z_iconst O (nI 0) dX4_takesItem_52 (by decide) ?_
      refine z_istore (lv' := [(0, _), (1, _), (2, _), (3, _), (4, _)]) O dX4_takesItem_53 (by decide) rfl ?_
      refine zdown (P := fun j => ∀ (nb' : Nat → Nat) (st' : Nat) (iw' ig' : Int32), (∀ i, i < j → nb' i = nuQ tx txl (iQ tx txl n) i) → Z G F 0 0 (zEnd G F (zP (fun v M' => v = .int (nI 1) ∧ ∃ (w' : Nat → Nat) (fr' : Int32) (nb' : Nat → Nat) (st' : Nat) (iw' ig' : Int32), rdI tx txl s (n + 1) w' fr' ∧ smR w w' ∧ M' = (yM G c0_ c1_ c2_ c3_ c4_ c5_ c6_ c7_ c8_ c9_ c10_ c11_ c12_ c13_ c14_ c15_ c16_ c17_ c18_ c19_ c20_ w' kp tx txl rf ya yb (iQ tx txl (n + 1)) st' iw' ig' nb' fr' la nms nd wf hh tl))) 0 0) 55 [(0, .ref (zad (zb G) 21)), (1, .int (nI n)), (2, .int (nI (wdT tx txl (iQ tx txl n)))), (3, .int (nI (wnN (wdT tx txl (iQ tx txl n))))), (4, .int (nI j))] [] (yM G c0_ c1_ c2_ c3_ c4_ c5_ c6_ c7_ c8_ c9_ c10_ c11_ c12_ c13_ c14_ c15_ c16_ c17_ c18_ c19_ c20_ w kp tx txl rf ya yb ((qN tx txl (tE tx txl (iQ tx txl n)) j)) st' iw' ig' nb' fr la nms nd wf hh tl)) ((wnN (wdT tx txl (iQ tx txl n)))) ?_ ?_ nb _ _ _ (fun i hi => absurd hi (Nat.not_lt_zero i))
      · intro nb' st' iw' ig' hn1
        have hqw : (qN tx txl (tE tx txl (iQ tx txl n)) (wnN (wdT tx txl (iQ tx txl n)))) ≤ txl := tE_len (tE_le (iQ_le tx txl n)).2 _
        refine z_iload O dX4_takesItem_55 rfl ?_
        refine z_iload_n O dX4_takesItem_57 rfl ?_
        refine z_icmp_geN O 78 dX4_takesItem_58 (by decide) (by omega) (by omega) (fun h58 => ?_) (fun h58 => by omega)
        refine z_aload_n O dX4_takesItem_78 rfl ?_
        refine z_V0u0 O (m_token hl hby hqw) mX4_token lkX4_146 rfl (by rfl) dX4_takesItem_79 (Nat.le_of_ble_eq_true rfl) (by decide) ?_
        refine z_M (show _ = (yM G c0_ c1_ c2_ c3_ c4_ c5_ c6_ c7_ c8_ c9_ c10_ c11_ c12_ c13_ c14_ c15_ c16_ c17_ c18_ c19_ c20_ w kp tx txl rf ya yb (iQ tx txl (n + 1)) (tS tx txl (qN tx txl (tE tx txl (iQ tx txl n)) (wnN (wdT tx txl (iQ tx txl n))))) (iW tx txl (qN tx txl (tE tx txl (iQ tx txl n)) (wnN (wdT tx txl (iQ tx txl n))))) (iF tx txl (qN tx txl (tE tx txl (iQ tx txl n)) (wnN (wdT tx txl (iQ tx txl n))))) nb' fr la nms nd wf hh tl) from rfl) ?_
        refine z_aload_n O dX4_takesItem_82 rfl ?_
        refine z_aload_n O dX4_takesItem_83 rfl ?_
        refine z_get O dX4_takesItem_84 flX4_125 (by rfl) (by rfl) ?_
        refine z_V1e0 O (m_byteAt hl (by have := (tE_le (t := tx) hqw).1; omega)) mX4_byteAt lkX4_122 rfl (by rfl) dX4_takesItem_87 (Nat.le_of_ble_eq_true rfl) (by decide) ?_
        refine z_bipush O (nI 59) dX4_takesItem_90 (by decide) ?_
        refine z_icmp_eq O 97 dX4_takesItem_92 (by decide) (fun h92 => ?_) (fun h92 => by exact absurd ((bt_eq hby (by decide)).mpr (tO_3.mp hst)) h92)
        by_cases hfr : fr = -1
        · subst hfr
          refine z_aload_n O dX4_takesItem_97 rfl ?_
          refine z_get O dX4_takesItem_98 flX4_155 (by rfl) (by rfl) ?_
          refine z_iconst O (-1) dX4_takesItem_101 (by decide) ?_
          refine z_icmp_ne O 118 dX4_takesItem_102 (by decide) (fun h102 => by exact absurd rfl h102) (fun h102 => ?_)
          refine z_aload_n O dX4_takesItem_105 rfl ?_
          refine z_iload_n O dX4_takesItem_106 rfl ?_
          refine z_V1p0 O (m_tellsItem hl hs hitm hri hn1) mX4_tellsItem lkX4_158 rfl (by rfl) dX4_takesItem_107 (Nat.le_of_ble_eq_true rfl) (by decide) (fun x M' hq => ?_)
          obtain ⟨w2, hor, hsm, rfl⟩ := hq
          rcases hor with ⟨rfl, hr2⟩ | ⟨rfl, hr2⟩
          · refine z_if_neN O 118 dX4_takesItem_110 (by decide) (by omega) (fun h110 => ?_) (fun h110 => by omega)
            refine z_iconst O (nI 1) dX4_takesItem_118 (by decide) ?_
            exact z_zret O dX4_takesItem_119 rfl ⟨_, rfl, rfl, w2, _, _, _, _, _, hr2, hsm, rfl⟩
          · refine z_if_neN O 118 dX4_takesItem_110 (by decide) (by omega) (fun h110 => by omega) (fun h110 => ?_)
            refine z_aload_n O dX4_takesItem_113 rfl ?_
            refine z_iload_n O dX4_takesItem_114 rfl ?_
            refine z_put O (by rfl) dX4_takesItem_115 flX4_155 (by rfl) rfl rfl (by simp) ?_
            refine z_iconst O (nI 1) dX4_takesItem_118 (by decide) ?_
            exact z_zret O dX4_takesItem_119 rfl ⟨_, rfl, rfl, w2, _, _, _, _, _, hr2, hsm, rfl⟩
        · refine z_aload_n O dX4_takesItem_97 rfl ?_
          refine z_get O dX4_takesItem_98 flX4_155 (by rfl) (by rfl) ?_
          refine z_iconst O (-1) dX4_takesItem_101 (by decide) ?_
          refine z_icmp_ne O 118 dX4_takesItem_102 (by decide) (fun h102 => ?_) (fun h102 => by exact absurd h102 hfr)
          refine z_iconst O (nI 1) dX4_takesItem_118 (by decide) ?_
          exact z_zret O dX4_takesItem_119 rfl ⟨_, rfl, rfl, w, _, _, _, _, _, rdI_s hri hfr, fun _ _ => rfl, rfl⟩
      · intro j hj ih nb' st' iw' ig' hn1
        have hql : (qN tx txl (tE tx txl (iQ tx txl n)) j) ≤ txl := tE_len (tE_le (iQ_le tx txl n)).2 j
        refine z_iload O dX4_takesItem_55 rfl ?_
        refine z_iload_n O dX4_takesItem_57 rfl ?_
        refine z_icmp_geN O 78 dX4_takesItem_58 (by decide) (by omega) (by omega) (fun h58 => by omega) (fun h58 => ?_)
        refine z_aload_n O dX4_takesItem_61 rfl ?_
        refine z_iload O dX4_takesItem_62 rfl ?_
        refine z_V1e0 O (m_takesNumber hl hby hql (by omega) (hnu j hj)) mX4_takesNumber lkX4_152 rfl (by rfl) dX4_takesItem_64 (Nat.le_of_ble_eq_true rfl) (by decide) ?_
        refine z_if_neN O 72 dX4_takesItem_67 (by decide) (by omega) (fun h67 => ?_) (fun h67 => by omega)
        refine z_iincN (lv' := [(0, _), (1, _), (2, _), (3, _), (4, _)]) O 1 dX4_takesItem_72 (by decide) rfl rfl (by decide) ?_
        refine z_goto O 55 dX4_takesItem_75 (by decide) ?_
        exact ih _ _ _ _ (fun i hi => by
          by_cases e : i = j
          · rw [e, updN_s]; rfl
          · rw [updN_n e]; exact hn1 i (by omega))
  · refine z_iload_n O dX4_takesItem_10 rfl ?_
    refine z_if_neN O 18 dX4_takesItem_11 (by decide) (by omega) (fun h11 => ?_) (fun h11 => by omega)
    refine z_iconst O (nI 0) dX4_takesItem_18 (by decide) ?_
    refine z_iload_n O dX4_takesItem_19 rfl ?_
    refine z_if_neN O 27 dX4_takesItem_20 (by decide) (by omega) (fun h20 => ?_) (fun h20 => by omega)
    refine z_iconst O (nI 0) dX4_takesItem_27 (by decide) ?_
    refine z_icmp_eqN O 33 dX4_takesItem_28 (by decide) (by omega) (by omega) (fun h28 => ?_) (fun h28 => by omega)
    rcases (show (wdT tx txl (iQ tx txl n)) = 0 ∨ (wdT tx txl (iQ tx txl n)) = 1 ∨ (wdT tx txl (iQ tx txl n)) = 2 by omega) with hwd | hwd | hwd
    · refine z_iload_n O dX4_takesItem_33 rfl ?_
      refine z_if_neN O 41 dX4_takesItem_34 (by decide) (by omega) (fun h34 => by omega) (fun h34 => ?_)
      refine z_iconst O (nI 1) dX4_takesItem_37 (by decide) ?_
      refine z_goto O 51 dX4_takesItem_38 (by decide) ?_
      refine z_top (v' := .int (nI (wnN (wdT tx txl (iQ tx txl n))))) (by rw [hwd]; rfl) ?_
      refine z_istore_n (lv' := [(0, _), (1, _), (2, _), (3, _)]) O dX4_takesItem_51 (by decide) rfl ?_
      refine z_iconst O (nI 0) dX4_takesItem_52 (by decide) ?_
      refine z_istore (lv' := [(0, _), (1, _), (2, _), (3, _), (4, _)]) O dX4_takesItem_53 (by decide) rfl ?_
      refine zdown (P := fun j => ∀ (nb' : Nat → Nat) (st' : Nat) (iw' ig' : Int32), (∀ i, i < j → nb' i = nuQ tx txl (iQ tx txl n) i) → Z G F 0 0 (zEnd G F (zP (fun v M' => v = .int (nI 1) ∧ ∃ (w' : Nat → Nat) (fr' : Int32) (nb' : Nat → Nat) (st' : Nat) (iw' ig' : Int32), rdI tx txl s (n + 1) w' fr' ∧ smR w w' ∧ M' = (yM G c0_ c1_ c2_ c3_ c4_ c5_ c6_ c7_ c8_ c9_ c10_ c11_ c12_ c13_ c14_ c15_ c16_ c17_ c18_ c19_ c20_ w' kp tx txl rf ya yb (iQ tx txl (n + 1)) st' iw' ig' nb' fr' la nms nd wf hh tl))) 0 0) 55 [(0, .ref (zad (zb G) 21)), (1, .int (nI n)), (2, .int (nI (wdT tx txl (iQ tx txl n)))), (3, .int (nI (wnN (wdT tx txl (iQ tx txl n))))), (4, .int (nI j))] [] (yM G c0_ c1_ c2_ c3_ c4_ c5_ c6_ c7_ c8_ c9_ c10_ c11_ c12_ c13_ c14_ c15_ c16_ c17_ c18_ c19_ c20_ w kp tx txl rf ya yb ((qN tx txl (tE tx txl (iQ tx txl n)) j)) st' iw' ig' nb' fr la nms nd wf hh tl)) ((wnN (wdT tx txl (iQ tx txl n)))) ?_ ?_ nb _ _ _ (fun i hi => absurd hi (Nat.not_lt_zero i))
      · intro nb' st' iw' ig' hn1
        have hqw : (qN tx txl (tE tx txl (iQ tx txl n)) (wnN (wdT tx txl (iQ tx txl n)))) ≤ txl := tE_len (tE_le (iQ_le tx txl n)).2 _
        refine z_iload O dX4_takesItem_55 rfl ?_
        refine z_iload_n O dX4_takesItem_57 rfl ?_
        refine z_icmp_geN O 78 dX4_takesItem_58 (by decide) (by omega) (by omega) (fun h58 => ?_) (fun h58 => by omega)
        refine z_aload_n O dX4_takesItem_78 rfl ?_
        refine z_V0u0 O (m_token hl hby hqw) mX4_token lkX4_146 rfl (by rfl) dX4_takesItem_79 (Nat.le_of_ble_eq_true rfl) (by decide) ?_
        refine z_M (show _ = (yM G c0_ c1_ c2_ c3_ c4_ c5_ c6_ c7_ c8_ c9_ c10_ c11_ c12_ c13_ c14_ c15_ c16_ c17_ c18_ c19_ c20_ w kp tx txl rf ya yb (iQ tx txl (n + 1)) (tS tx txl (qN tx txl (tE tx txl (iQ tx txl n)) (wnN (wdT tx txl (iQ tx txl n))))) (iW tx txl (qN tx txl (tE tx txl (iQ tx txl n)) (wnN (wdT tx txl (iQ tx txl n))))) (iF tx txl (qN tx txl (tE tx txl (iQ tx txl n)) (wnN (wdT tx txl (iQ tx txl n))))) nb' fr la nms nd wf hh tl) from rfl) ?_
        refine z_aload_n O dX4_takesItem_82 rfl ?_
        refine z_aload_n O dX4_takesItem_83 rfl ?_
        refine z_get O dX4_takesItem_84 flX4_125 (by rfl) (by rfl) ?_
        refine z_V1e0 O (m_byteAt hl (by have := (tE_le (t := tx) hqw).1; omega)) mX4_byteAt lkX4_122 rfl (by rfl) dX4_takesItem_87 (Nat.le_of_ble_eq_true rfl) (by decide) ?_
        refine z_bipush O (nI 59) dX4_takesItem_90 (by decide) ?_
        refine z_icmp_eq O 97 dX4_takesItem_92 (by decide) (fun h92 => ?_) (fun h92 => by exact absurd ((bt_eq hby (by decide)).mpr (tO_3.mp hst)) h92)
        by_cases hfr : fr = -1
        · subst hfr
          refine z_aload_n O dX4_takesItem_97 rfl ?_
          refine z_get O dX4_takesItem_98 flX4_155 (by rfl) (by rfl) ?_
          refine z_iconst O (-1) dX4_takesItem_101 (by decide) ?_
          refine z_icmp_ne O 118 dX4_takesItem_102 (by decide) (fun h102 => by exact absurd rfl h102) (fun h102 => ?_)
          refine z_aload_n O dX4_takesItem_105 rfl ?_
          refine z_iload_n O dX4_takesItem_106 rfl ?_
          refine z_V1p0 O (m_tellsItem hl hs hitm hri hn1) mX4_tellsItem lkX4_158 rfl (by rfl) dX4_takesItem_107 (Nat.le_of_ble_eq_true rfl) (by decide) (fun x M' hq => ?_)
          obtain ⟨w2, hor, hsm, rfl⟩ := hq
          rcases hor with ⟨rfl, hr2⟩ | ⟨rfl, hr2⟩
          · refine z_if_neN O 118 dX4_takesItem_110 (by decide) (by omega) (fun h110 => ?_) (fun h110 => by omega)
            refine z_iconst O (nI 1) dX4_takesItem_118 (by decide) ?_
            exact z_zret O dX4_takesItem_119 rfl ⟨_, rfl, rfl, w2, _, _, _, _, _, hr2, hsm, rfl⟩
          · refine z_if_neN O 118 dX4_takesItem_110 (by decide) (by omega) (fun h110 => by omega) (fun h110 => ?_)
            refine z_aload_n O dX4_takesItem_113 rfl ?_
            refine z_iload_n O dX4_takesItem_114 rfl ?_
            refine z_put O (by rfl) dX4_takesItem_115 flX4_155 (by rfl) rfl rfl (by simp) ?_
            refine z_iconst O (nI 1) dX4_takesItem_118 (by decide) ?_
            exact z_zret O dX4_takesItem_119 rfl ⟨_, rfl, rfl, w2, _, _, _, _, _, hr2, hsm, rfl⟩
        · refine z_aload_n O dX4_takesItem_97 rfl ?_
          refine z_get O dX4_takesItem_98 flX4_155 (by rfl) (by rfl) ?_
          refine z_iconst O (-1) dX4_takesItem_101 (by decide) ?_
          refine z_icmp_ne O 118 dX4_takesItem_102 (by decide) (fun h102 => ?_) (fun h102 => by exact absurd h102 hfr)
          refine z_iconst O (nI 1) dX4_takesItem_118 (by decide) ?_
          exact z_zret O dX4_takesItem_119 rfl ⟨_, rfl, rfl, w, _, _, _, _, _, rdI_s hri hfr, fun _ _ => rfl, rfl⟩
      · intro j hj ih nb' st' iw' ig' hn1
        have hql : (qN tx txl (tE tx txl (iQ tx txl n)) j) ≤ txl := tE_len (tE_le (iQ_le tx txl n)).2 j
        refine z_iload O dX4_takesItem_55 rfl ?_
        refine z_iload_n O dX4_takesItem_57 rfl ?_
        refine z_icmp_geN O 78 dX4_takesItem_58 (by decide) (by omega) (by omega) (fun h58 => by omega) (fun h58 => ?_)
        refine z_aload_n O dX4_takesItem_61 rfl ?_
        refine z_iload O dX4_takesItem_62 rfl ?_
        refine z_V1e0 O (m_takesNumber hl hby hql (by omega) (hnu j hj)) mX4_takesNumber lkX4_152 rfl (by rfl) dX4_takesItem_64 (Nat.le_of_ble_eq_true rfl) (by decide) ?_
        refine z_if_neN O 72 dX4_takesItem_67 (by decide) (by omega) (fun h67 => ?_) (fun h67 => by omega)
        refine z_iincN (lv' := [(0, _), (1, _), (2, _), (3, _), (4, _)]) O 1 dX4_takesItem_72 (by decide) rfl rfl (by decide) ?_
        refine z_goto O 55 dX4_takesItem_75 (by decide) ?_
        exact ih _ _ _ _ (fun i hi => by
          by_cases e : i = j
          · rw [e, updN_s]; rfl
          · rw [updN_n e]; exact hn1 i (by omega))
    · refine z_iload_n O dX4_takesItem_33 rfl ?_
      refine z_if_neN O 41 dX4_takesItem_34 (by decide) (by omega) (fun h34 => ?_) (fun h34 => by omega)
      refine z_iload_n O dX4_takesItem_41 rfl ?_
      refine z_iconst O (nI 1) dX4_takesItem_42 (by decide) ?_
      refine z_icmp_neN O 50 dX4_takesItem_43 (by decide) (by omega) (by omega) (fun h43 => by omega) (fun h43 => ?_)
      refine z_iconst O (nI 2) dX4_takesItem_46 (by decide) ?_
      refine z_goto O 51 dX4_takesItem_47 (by decide) ?_
      refine z_top (v' := .int (nI (wnN (wdT tx txl (iQ tx txl n))))) (by rw [hwd]; rfl) ?_
      refine z_istore_n (lv' := [(0, _), (1, _), (2, _), (3, _)]) O dX4_takesItem_51 (by decide) rfl ?_
      refine z_iconst O (nI 0) dX4_takesItem_52 (by decide) ?_
      refine z_istore (lv' := [(0, _), (1, _), (2, _), (3, _), (4, _)]) O dX4_takesItem_53 (by decide) rfl ?_
      refine zdown (P := fun j => ∀ (nb' : Nat → Nat) (st' : Nat) (iw' ig' : Int32), (∀ i, i < j → nb' i = nuQ tx txl (iQ tx txl n) i) → Z G F 0 0 (zEnd G F (zP (fun v M' => v = .int (nI 1) ∧ ∃ (w' : Nat → Nat) (fr' : Int32) (nb' : Nat → Nat) (st' : Nat) (iw' ig' : Int32), rdI tx txl s (n + 1) w' fr' ∧ smR w w' ∧ M' = (yM G c0_ c1_ c2_ c3_ c4_ c5_ c6_ c7_ c8_ c9_ c10_ c11_ c12_ c13_ c14_ c15_ c16_ c17_ c18_ c19_ c20_ w' kp tx txl rf ya yb (iQ tx txl (n + 1)) st' iw' ig' nb' fr' la nms nd wf hh tl))) 0 0) 55 [(0, .ref (zad (zb G) 21)), (1, .int (nI n)), (2, .int (nI (wdT tx txl (iQ tx txl n)))), (3, .int (nI (wnN (wdT tx txl (iQ tx txl n))))), (4, .int (nI j))] [] (yM G c0_ c1_ c2_ c3_ c4_ c5_ c6_ c7_ c8_ c9_ c10_ c11_ c12_ c13_ c14_ c15_ c16_ c17_ c18_ c19_ c20_ w kp tx txl rf ya yb ((qN tx txl (tE tx txl (iQ tx txl n)) j)) st' iw' ig' nb' fr la nms nd wf hh tl)) ((wnN (wdT tx txl (iQ tx txl n)))) ?_ ?_ nb _ _ _ (fun i hi => absurd hi (Nat.not_lt_zero i))
      · intro nb' st' iw' ig' hn1
        have hqw : (qN tx txl (tE tx txl (iQ tx txl n)) (wnN (wdT tx txl (iQ tx txl n)))) ≤ txl := tE_len (tE_le (iQ_le tx txl n)).2 _
        refine z_iload O dX4_takesItem_55 rfl ?_
        refine z_iload_n O dX4_takesItem_57 rfl ?_
        refine z_icmp_geN O 78 dX4_takesItem_58 (by decide) (by omega) (by omega) (fun h58 => ?_) (fun h58 => by omega)
        refine z_aload_n O dX4_takesItem_78 rfl ?_
        refine z_V0u0 O (m_token hl hby hqw) mX4_token lkX4_146 rfl (by rfl) dX4_takesItem_79 (Nat.le_of_ble_eq_true rfl) (by decide) ?_
        refine z_M (show _ = (yM G c0_ c1_ c2_ c3_ c4_ c5_ c6_ c7_ c8_ c9_ c10_ c11_ c12_ c13_ c14_ c15_ c16_ c17_ c18_ c19_ c20_ w kp tx txl rf ya yb (iQ tx txl (n + 1)) (tS tx txl (qN tx txl (tE tx txl (iQ tx txl n)) (wnN (wdT tx txl (iQ tx txl n))))) (iW tx txl (qN tx txl (tE tx txl (iQ tx txl n)) (wnN (wdT tx txl (iQ tx txl n))))) (iF tx txl (qN tx txl (tE tx txl (iQ tx txl n)) (wnN (wdT tx txl (iQ tx txl n))))) nb' fr la nms nd wf hh tl) from rfl) ?_
        refine z_aload_n O dX4_takesItem_82 rfl ?_
        refine z_aload_n O dX4_takesItem_83 rfl ?_
        refine z_get O dX4_takesItem_84 flX4_125 (by rfl) (by rfl) ?_
        refine z_V1e0 O (m_byteAt hl (by have := (tE_le (t := tx) hqw).1; omega)) mX4_byteAt lkX4_122 rfl (by rfl) dX4_takesItem_87 (Nat.le_of_ble_eq_true rfl) (by decide) ?_
        refine z_bipush O (nI 59) dX4_takesItem_90 (by decide) ?_
        refine z_icmp_eq O 97 dX4_takesItem_92 (by decide) (fun h92 => ?_) (fun h92 => by exact absurd ((bt_eq hby (by decide)).mpr (tO_3.mp hst)) h92)
        by_cases hfr : fr = -1
        · subst hfr
          refine z_aload_n O dX4_takesItem_97 rfl ?_
          refine z_get O dX4_takesItem_98 flX4_155 (by rfl) (by rfl) ?_
          refine z_iconst O (-1) dX4_takesItem_101 (by decide) ?_
          refine z_icmp_ne O 118 dX4_takesItem_102 (by decide) (fun h102 => by exact absurd rfl h102) (fun h102 => ?_)
          refine z_aload_n O dX4_takesItem_105 rfl ?_
          refine z_iload_n O dX4_takesItem_106 rfl ?_
          refine z_V1p0 O (m_tellsItem hl hs hitm hri hn1) mX4_tellsItem lkX4_158 rfl (by rfl) dX4_takesItem_107 (Nat.le_of_ble_eq_true rfl) (by decide) (fun x M' hq => ?_)
          obtain ⟨w2, hor, hsm, rfl⟩ := hq
          rcases hor with ⟨rfl, hr2⟩ | ⟨rfl, hr2⟩
          · refine z_if_neN O 118 dX4_takesItem_110 (by decide) (by omega) (fun h110 => ?_) (fun h110 => by omega)
            refine z_iconst O (nI 1) dX4_takesItem_118 (by decide) ?_
            exact z_zret O dX4_takesItem_119 rfl ⟨_, rfl, rfl, w2, _, _, _, _, _, hr2, hsm, rfl⟩
          · refine z_if_neN O 118 dX4_takesItem_110 (by decide) (by omega) (fun h110 => by omega) (fun h110 => ?_)
            refine z_aload_n O dX4_takesItem_113 rfl ?_
            refine z_iload_n O dX4_takesItem_114 rfl ?_
            refine z_put O (by rfl) dX4_takesItem_115 flX4_155 (by rfl) rfl rfl (by simp) ?_
            refine z_iconst O (nI 1) dX4_takesItem_118 (by decide) ?_
            exact z_zret O dX4_takesItem_119 rfl ⟨_, rfl, rfl, w2, _, _, _, _, _, hr2, hsm, rfl⟩
        · refine z_aload_n O dX4_takesItem_97 rfl ?_
          refine z_get O dX4_takesItem_98 flX4_155 (by rfl) (by rfl) ?_
          refine z_iconst O (-1) dX4_takesItem_101 (by decide) ?_
          refine z_icmp_ne O 118 dX4_takesItem_102 (by decide) (fun h102 => ?_) (fun h102 => by exact absurd h102 hfr)
          refine z_iconst O (nI 1) dX4_takesItem_118 (by decide) ?_
          exact z_zret O dX4_takesItem_119 rfl ⟨_, rfl, rfl, w, _, _, _, _, _, rdI_s hri hfr, fun _ _ => rfl, rfl⟩
      · intro j hj ih nb' st' iw' ig' hn1
        have hql : (qN tx txl (tE tx txl (iQ tx txl n)) j) ≤ txl := tE_len (tE_le (iQ_le tx txl n)).2 j
        refine z_iload O dX4_takesItem_55 rfl ?_
        refine z_iload_n O dX4_takesItem_57 rfl ?_
        refine z_icmp_geN O 78 dX4_takesItem_58 (by decide) (by omega) (by omega) (fun h58 => by omega) (fun h58 => ?_)
        refine z_aload_n O dX4_takesItem_61 rfl ?_
        refine z_iload O dX4_takesItem_62 rfl ?_
        refine z_V1e0 O (m_takesNumber hl hby hql (by omega) (hnu j hj)) mX4_takesNumber lkX4_152 rfl (by rfl) dX4_takesItem_64 (Nat.le_of_ble_eq_true rfl) (by decide) ?_
        refine z_if_neN O 72 dX4_takesItem_67 (by decide) (by omega) (fun h67 => ?_) (fun h67 => by omega)
        refine z_iincN (lv' := [(0, _), (1, _), (2, _), (3, _), (4, _)]) O 1 dX4_takesItem_72 (by decide) rfl rfl (by decide) ?_
        refine z_goto O 55 dX4_takesItem_75 (by decide) ?_
        exact ih _ _ _ _ (fun i hi => by
          by_cases e : i = j
          · rw [e, updN_s]; rfl
          · rw [updN_n e]; exact hn1 i (by omega))
    · refine z_iload_n O dX4_takesItem_33 rfl ?_
      refine z_if_neN O 41 dX4_takesItem_34 (by decide) (by omega) (fun h34 => ?_) (fun h34 => by omega)
      refine z_iload_n O dX4_takesItem_41 rfl ?_
      refine z_iconst O (nI 1) dX4_takesItem_42 (by decide) ?_
      refine z_icmp_neN O 50 dX4_takesItem_43 (by decide) (by omega) (by omega) (fun h43 => ?_) (fun h43 => by omega)
      refine z_iconst O (nI 4) dX4_takesItem_50 (by decide) ?_
      refine z_top (v' := .int (nI (wnN (wdT tx txl (iQ tx txl n))))) (by rw [hwd]; rfl) ?_
      refine z_istore_n (lv' := [(0, _), (1, _), (2, _), (3, _)]) O dX4_takesItem_51 (by decide) rfl ?_
      refine z_iconst O (nI 0) dX4_takesItem_52 (by decide) ?_
      refine z_istore (lv' := [(0, _), (1, _), (2, _), (3, _), (4, _)]) O dX4_takesItem_53 (by decide) rfl ?_
      refine zdown (P := fun j => ∀ (nb' : Nat → Nat) (st' : Nat) (iw' ig' : Int32), (∀ i, i < j → nb' i = nuQ tx txl (iQ tx txl n) i) → Z G F 0 0 (zEnd G F (zP (fun v M' => v = .int (nI 1) ∧ ∃ (w' : Nat → Nat) (fr' : Int32) (nb' : Nat → Nat) (st' : Nat) (iw' ig' : Int32), rdI tx txl s (n + 1) w' fr' ∧ smR w w' ∧ M' = (yM G c0_ c1_ c2_ c3_ c4_ c5_ c6_ c7_ c8_ c9_ c10_ c11_ c12_ c13_ c14_ c15_ c16_ c17_ c18_ c19_ c20_ w' kp tx txl rf ya yb (iQ tx txl (n + 1)) st' iw' ig' nb' fr' la nms nd wf hh tl))) 0 0) 55 [(0, .ref (zad (zb G) 21)), (1, .int (nI n)), (2, .int (nI (wdT tx txl (iQ tx txl n)))), (3, .int (nI (wnN (wdT tx txl (iQ tx txl n))))), (4, .int (nI j))] [] (yM G c0_ c1_ c2_ c3_ c4_ c5_ c6_ c7_ c8_ c9_ c10_ c11_ c12_ c13_ c14_ c15_ c16_ c17_ c18_ c19_ c20_ w kp tx txl rf ya yb ((qN tx txl (tE tx txl (iQ tx txl n)) j)) st' iw' ig' nb' fr la nms nd wf hh tl)) ((wnN (wdT tx txl (iQ tx txl n)))) ?_ ?_ nb _ _ _ (fun i hi => absurd hi (Nat.not_lt_zero i))
      · intro nb' st' iw' ig' hn1
        have hqw : (qN tx txl (tE tx txl (iQ tx txl n)) (wnN (wdT tx txl (iQ tx txl n)))) ≤ txl := tE_len (tE_le (iQ_le tx txl n)).2 _
        refine z_iload O dX4_takesItem_55 rfl ?_
        refine z_iload_n O dX4_takesItem_57 rfl ?_
        refine z_icmp_geN O 78 dX4_takesItem_58 (by decide) (by omega) (by omega) (fun h58 => ?_) (fun h58 => by omega)
        refine z_aload_n O dX4_takesItem_78 rfl ?_
        refine z_V0u0 O (m_token hl hby hqw) mX4_token lkX4_146 rfl (by rfl) dX4_takesItem_79 (Nat.le_of_ble_eq_true rfl) (by decide) ?_
        refine z_M (show _ = (yM G c0_ c1_ c2_ c3_ c4_ c5_ c6_ c7_ c8_ c9_ c10_ c11_ c12_ c13_ c14_ c15_ c16_ c17_ c18_ c19_ c20_ w kp tx txl rf ya yb (iQ tx txl (n + 1)) (tS tx txl (qN tx txl (tE tx txl (iQ tx txl n)) (wnN (wdT tx txl (iQ tx txl n))))) (iW tx txl (qN tx txl (tE tx txl (iQ tx txl n)) (wnN (wdT tx txl (iQ tx txl n))))) (iF tx txl (qN tx txl (tE tx txl (iQ tx txl n)) (wnN (wdT tx txl (iQ tx txl n))))) nb' fr la nms nd wf hh tl) from rfl) ?_
        refine z_aload_n O dX4_takesItem_82 rfl ?_
        refine z_aload_n O dX4_takesItem_83 rfl ?_
        refine z_get O dX4_takesItem_84 flX4_125 (by rfl) (by rfl) ?_
        refine z_V1e0 O (m_byteAt hl (by have := (tE_le (t := tx) hqw).1; omega)) mX4_byteAt lkX4_122 rfl (by rfl) dX4_takesItem_87 (Nat.le_of_ble_eq_true rfl) (by decide) ?_
        refine z_bipush O (nI 59) dX4_takesItem_90 (by decide) ?_
        refine z_icmp_eq O 97 dX4_takesItem_92 (by decide) (fun h92 => ?_) (fun h92 => by exact absurd ((bt_eq hby (by decide)).mpr (tO_3.mp hst)) h92)
        by_cases hfr : fr = -1
        · subst hfr
          refine z_aload_n O dX4_takesItem_97 rfl ?_
          refine z_get O dX4_takesItem_98 flX4_155 (by rfl) (by rfl) ?_
          refine z_iconst O (-1) dX4_takesItem_101 (by decide) ?_
          refine z_icmp_ne O 118 dX4_takesItem_102 (by decide) (fun h102 => by exact absurd rfl h102) (fun h102 => ?_)
          refine z_aload_n O dX4_takesItem_105 rfl ?_
          refine z_iload_n O dX4_takesItem_106 rfl ?_
          refine z_V1p0 O (m_tellsItem hl hs hitm hri hn1) mX4_tellsItem lkX4_158 rfl (by rfl) dX4_takesItem_107 (Nat.le_of_ble_eq_true rfl) (by decide) (fun x M' hq => ?_)
          obtain ⟨w2, hor, hsm, rfl⟩ := hq
          rcases hor with ⟨rfl, hr2⟩ | ⟨rfl, hr2⟩
          · refine z_if_neN O 118 dX4_takesItem_110 (by decide) (by omega) (fun h110 => ?_) (fun h110 => by omega)
            refine z_iconst O (nI 1) dX4_takesItem_118 (by decide) ?_
            exact z_zret O dX4_takesItem_119 rfl ⟨_, rfl, rfl, w2, _, _, _, _, _, hr2, hsm, rfl⟩
          · refine z_if_neN O 118 dX4_takesItem_110 (by decide) (by omega) (fun h110 => by omega) (fun h110 => ?_)
            refine z_aload_n O dX4_takesItem_113 rfl ?_
            refine z_iload_n O dX4_takesItem_114 rfl ?_
            refine z_put O (by rfl) dX4_takesItem_115 flX4_155 (by rfl) rfl rfl (by simp) ?_
            refine z_iconst O (nI 1) dX4_takesItem_118 (by decide) ?_
            exact z_zret O dX4_takesItem_119 rfl ⟨_, rfl, rfl, w2, _, _, _, _, _, hr2, hsm, rfl⟩
        · refine z_aload_n O dX4_takesItem_97 rfl ?_
          refine z_get O dX4_takesItem_98 flX4_155 (by rfl) (by rfl) ?_
          refine z_iconst O (-1) dX4_takesItem_101 (by decide) ?_
          refine z_icmp_ne O 118 dX4_takesItem_102 (by decide) (fun h102 => ?_) (fun h102 => by exact absurd h102 hfr)
          refine z_iconst O (nI 1) dX4_takesItem_118 (by decide) ?_
          exact z_zret O dX4_takesItem_119 rfl ⟨_, rfl, rfl, w, _, _, _, _, _, rdI_s hri hfr, fun _ _ => rfl, rfl⟩
      · intro j hj ih nb' st' iw' ig' hn1
        have hql : (qN tx txl (tE tx txl (iQ tx txl n)) j) ≤ txl := tE_len (tE_le (iQ_le tx txl n)).2 j
        refine z_iload O dX4_takesItem_55 rfl ?_
        refine z_iload_n O dX4_takesItem_57 rfl ?_
        refine z_icmp_geN O 78 dX4_takesItem_58 (by decide) (by omega) (by omega) (fun h58 => by omega) (fun h58 => ?_)
        refine z_aload_n O dX4_takesItem_61 rfl ?_
        refine z_iload O dX4_takesItem_62 rfl ?_
        refine z_V1e0 O (m_takesNumber hl hby hql (by omega) (hnu j hj)) mX4_takesNumber lkX4_152 rfl (by rfl) dX4_takesItem_64 (Nat.le_of_ble_eq_true rfl) (by decide) ?_
        refine z_if_neN O 72 dX4_takesItem_67 (by decide) (by omega) (fun h67 => ?_) (fun h67 => by omega)
        refine z_iincN (lv' := [(0, _), (1, _), (2, _), (3, _), (4, _)]) O 1 dX4_takesItem_72 (by decide) rfl rfl (by decide) ?_
        refine z_goto O 55 dX4_takesItem_75 (by decide) ?_
        exact ih _ _ _ _ (fun i hi => by
          by_cases e : i = j
          · rw [e, updN_s]; rfl
          · rw [updN_n e]; exact hn1 i (by omega))
set_option maxRecDepth 20000 in
set_option maxHeartbeats 4000000 in
theorem m_takesItemN1 (hl : txl ≤ 150) (hby : ∀ j, tx j ≤ 127) {n a : Nat} (hn : n < 25) (h1 : ¬ tO tx txl (iQ tx txl n) = 1) (hif : itF tx txl n (iQ tx txl n) = some a) : zS G 6 yX4_takesItem cX4_takesItem 5 (some .boolean) [.ref (zad (zb G) 21), .int (nI n)] (yM G c0_ c1_ c2_ c3_ c4_ c5_ c6_ c7_ c8_ c9_ c10_ c11_ c12_ c13_ c14_ c15_ c16_ c17_ c18_ c19_ c20_ w kp tx txl rf ya yb (tE tx txl (iQ tx txl n)) (tS tx txl (iQ tx txl n)) (iW tx txl (iQ tx txl n)) (iF tx txl (iQ tx txl n)) nb fr la nms nd wf hh tl) 0 0 (zP (fun v M' => v = .int (nI 0) ∧ ∃ (nb' : Nat → Nat) (at' : Nat) (iw' ig' : Int32), M' = (yM G c0_ c1_ c2_ c3_ c4_ c5_ c6_ c7_ c8_ c9_ c10_ c11_ c12_ c13_ c14_ c15_ c16_ c17_ c18_ c19_ c20_ w kp tx txl rf ya yb at' a iw' ig' nb' fr la nms nd wf hh tl))) := by
  refine zS.of (by decide) (Nat.le_of_ble_eq_true rfl) (fun F O hR1 hR2 => ?_)
  have O : zOk G F yX4_takesItem cX4_takesItem 5 (some .boolean) RX4 6 (yM G c0_ c1_ c2_ c3_ c4_ c5_ c6_ c7_ c8_ c9_ c10_ c11_ c12_ c13_ c14_ c15_ c16_ c17_ c18_ c19_ c20_ w kp tx txl rf ya yb (tE tx txl (iQ tx txl n)) (tS tx txl (iQ tx txl n)) (iW tx txl (iQ tx txl n)) (iF tx txl (iQ tx txl n)) nb fr la nms nd wf hh tl).length := O
  refine z_eq (lv' := [(0, _), (1, _)]) rfl rfl rfl ?_
  refine z_aload_n O dX4_takesItem_0 rfl ?_
  refine z_V0e0 O (m_wordNow hl hby (iQ_le tx txl n)) mX4_wordNow lkX4_149 rfl (by rfl) dX4_takesItem_1 (Nat.le_of_ble_eq_true rfl) (by decide) ?_
  refine z_top (v' := .int (-1)) (by rw [show wdW tx txl (iQ tx txl n) = none from Classical.byContradiction (fun q => h1 (wdW_1.mpr q))]; rfl) ?_
  refine z_istore_n (lv' := [(0, _), (1, _), (2, _)]) O dX4_takesItem_4 (by decide) rfl ?_
  refine z_iload_n O dX4_takesItem_5 rfl ?_
  refine z_iconst O (-1) dX4_takesItem_6 (by decide) ?_
  refine z_icmp_eq O 31 dX4_takesItem_7 (by decide) (fun h7 => ?_) (fun h7 => by exact absurd rfl h7)
  refine z_iconst O (nI 0) dX4_takesItem_31 (by decide) ?_
  exact z_zret O dX4_takesItem_32 rfl (by have ha := Option.some.inj (hif.symm.trans (if_neg (fun q => h1 q.1))); subst ha; exact ⟨_, rfl, rfl, _, _, _, _, rfl⟩)
set_option maxRecDepth 20000 in
set_option maxHeartbeats 4000000 in
theorem m_takesItemN2 (hl : txl ≤ 150) (hby : ∀ j, tx j ≤ 127) {n a : Nat} (hn : n < 25) (h1 : tO tx txl (iQ tx txl n) = 1) (hw3 : (wdT tx txl (iQ tx txl n)) < 3) (hc : ¬ ((wdT tx txl (iQ tx txl n)) = 0 ↔ n = 0)) (hif : itF tx txl n (iQ tx txl n) = some a) : zS G 6 yX4_takesItem cX4_takesItem 5 (some .boolean) [.ref (zad (zb G) 21), .int (nI n)] (yM G c0_ c1_ c2_ c3_ c4_ c5_ c6_ c7_ c8_ c9_ c10_ c11_ c12_ c13_ c14_ c15_ c16_ c17_ c18_ c19_ c20_ w kp tx txl rf ya yb (tE tx txl (iQ tx txl n)) (tS tx txl (iQ tx txl n)) (iW tx txl (iQ tx txl n)) (iF tx txl (iQ tx txl n)) nb fr la nms nd wf hh tl) 0 0 (zP (fun v M' => v = .int (nI 0) ∧ ∃ (nb' : Nat → Nat) (at' : Nat) (iw' ig' : Int32), M' = (yM G c0_ c1_ c2_ c3_ c4_ c5_ c6_ c7_ c8_ c9_ c10_ c11_ c12_ c13_ c14_ c15_ c16_ c17_ c18_ c19_ c20_ w kp tx txl rf ya yb at' a iw' ig' nb' fr la nms nd wf hh tl))) := by
  refine zS.of (by decide) (Nat.le_of_ble_eq_true rfl) (fun F O hR1 hR2 => ?_)
  have O : zOk G F yX4_takesItem cX4_takesItem 5 (some .boolean) RX4 6 (yM G c0_ c1_ c2_ c3_ c4_ c5_ c6_ c7_ c8_ c9_ c10_ c11_ c12_ c13_ c14_ c15_ c16_ c17_ c18_ c19_ c20_ w kp tx txl rf ya yb (tE tx txl (iQ tx txl n)) (tS tx txl (iQ tx txl n)) (iW tx txl (iQ tx txl n)) (iF tx txl (iQ tx txl n)) nb fr la nms nd wf hh tl).length := O
  refine z_eq (lv' := [(0, _), (1, _)]) rfl rfl rfl ?_
  refine z_aload_n O dX4_takesItem_0 rfl ?_
  refine z_V0e0 O (m_wordNow hl hby (iQ_le tx txl n)) mX4_wordNow lkX4_149 rfl (by rfl) dX4_takesItem_1 (Nat.le_of_ble_eq_true rfl) (by decide) ?_
  refine z_top (v' := .int (nI (wdT tx txl (iQ tx txl n)))) (by rw [wdW_s h1]; rfl) ?_
  refine z_istore_n (lv' := [(0, _), (1, _), (2, _)]) O dX4_takesItem_4 (by decide) rfl ?_
  refine z_iload_n O dX4_takesItem_5 rfl ?_
  refine z_iconst O (-1) dX4_takesItem_6 (by decide) ?_
  refine z_icmp_eq O 31 dX4_takesItem_7 (by decide) (fun h7 => by exact absurd h7 (m1_ne (by omega))) (fun h7 => ?_)
  rcases (show ((wdT tx txl (iQ tx txl n)) = 0 ∧ ¬ n = 0) ∨ (¬ (wdT tx txl (iQ tx txl n)) = 0 ∧ n = 0) by omega) with hd | hd
  · refine z_iload_n O dX4_takesItem_10 rfl ?_
    refine z_if_neN O 18 dX4_takesItem_11 (by decide) (by omega) (fun h11 => by omega) (fun h11 => ?_)
    refine z_iconst O (nI 1) dX4_takesItem_14 (by decide) ?_
    refine z_goto O 19 dX4_takesItem_15 (by decide) ?_
    refine z_iload_n O dX4_takesItem_19 rfl ?_
    refine z_if_neN O 27 dX4_takesItem_20 (by decide) (by omega) (fun h20 => ?_) (fun h20 => by omega)
    refine z_iconst O (nI 0) dX4_takesItem_27 (by decide) ?_
    refine z_icmp_eqN O 33 dX4_takesItem_28 (by decide) (by omega) (by omega) (fun h28 => by omega) (fun h28 => ?_)
    refine z_iconst O (nI 0) dX4_takesItem_31 (by decide) ?_
    exact z_zret O dX4_takesItem_32 rfl (by have ha := Option.some.inj (hif.symm.trans (if_neg (fun q => hc q.2))); subst ha; exact ⟨_, rfl, rfl, _, _, _, _, rfl⟩)
  · refine z_iload_n O dX4_takesItem_10 rfl ?_
    refine z_if_neN O 18 dX4_takesItem_11 (by decide) (by omega) (fun h11 => ?_) (fun h11 => by omega)
    refine z_iconst O (nI 0) dX4_takesItem_18 (by decide) ?_
    refine z_iload_n O dX4_takesItem_19 rfl ?_
    refine z_if_neN O 27 dX4_takesItem_20 (by decide) (by omega) (fun h20 => by omega) (fun h20 => ?_)
    refine z_iconst O (nI 1) dX4_takesItem_23 (by decide) ?_
    refine z_goto O 28 dX4_takesItem_24 (by decide) ?_
    refine z_icmp_eqN O 33 dX4_takesItem_28 (by decide) (by omega) (by omega) (fun h28 => by omega) (fun h28 => ?_)
    refine z_iconst O (nI 0) dX4_takesItem_31 (by decide) ?_
    exact z_zret O dX4_takesItem_32 rfl (by have ha := Option.some.inj (hif.symm.trans (if_neg (fun q => hc q.2))); subst ha; exact ⟨_, rfl, rfl, _, _, _, _, rfl⟩)
set_option maxRecDepth 20000 in
set_option maxHeartbeats 4000000 in
theorem m_takesItemN3 (hl : txl ≤ 150) (hby : ∀ j, tx j ≤ 127) {n a : Nat} (hn : n < 25) (h1 : tO tx txl (iQ tx txl n) = 1) (hw3 : (wdT tx txl (iQ tx txl n)) < 3) (hcc : (wdT tx txl (iQ tx txl n)) = 0 ↔ n = 0) (hif : itF tx txl n (iQ tx txl n) = some a) : zS G 6 yX4_takesItem cX4_takesItem 5 (some .boolean) [.ref (zad (zb G) 21), .int (nI n)] (yM G c0_ c1_ c2_ c3_ c4_ c5_ c6_ c7_ c8_ c9_ c10_ c11_ c12_ c13_ c14_ c15_ c16_ c17_ c18_ c19_ c20_ w kp tx txl rf ya yb (tE tx txl (iQ tx txl n)) (tS tx txl (iQ tx txl n)) (iW tx txl (iQ tx txl n)) (iF tx txl (iQ tx txl n)) nb fr la nms nd wf hh tl) 0 0 (zP (fun v M' => v = .int (nI 0) ∧ ∃ (nb' : Nat → Nat) (at' : Nat) (iw' ig' : Int32), M' = (yM G c0_ c1_ c2_ c3_ c4_ c5_ c6_ c7_ c8_ c9_ c10_ c11_ c12_ c13_ c14_ c15_ c16_ c17_ c18_ c19_ c20_ w kp tx txl rf ya yb at' a iw' ig' nb' fr la nms nd wf hh tl))) := by
  refine zS.of (by decide) (Nat.le_of_ble_eq_true rfl) (fun F O hR1 hR2 => ?_)
  have O : zOk G F yX4_takesItem cX4_takesItem 5 (some .boolean) RX4 6 (yM G c0_ c1_ c2_ c3_ c4_ c5_ c6_ c7_ c8_ c9_ c10_ c11_ c12_ c13_ c14_ c15_ c16_ c17_ c18_ c19_ c20_ w kp tx txl rf ya yb (tE tx txl (iQ tx txl n)) (tS tx txl (iQ tx txl n)) (iW tx txl (iQ tx txl n)) (iF tx txl (iQ tx txl n)) nb fr la nms nd wf hh tl).length := O
  refine z_eq (lv' := [(0, _), (1, _)]) rfl rfl rfl ?_
  have hwn := (wn_ok _ hw3).2
  have hfp0 : fpN tx txl (wnN (wdT tx txl (iQ tx txl n))) (tE tx txl (iQ tx txl n)) = some a := (if_pos (⟨h1, hcc⟩ : tO tx txl (iQ tx txl n) = 1 ∧ ((wdT tx txl (iQ tx txl n)) = 0 ↔ n = 0))).symm.trans hif
  refine z_aload_n O dX4_takesItem_0 rfl ?_
  refine z_V0e0 O (m_wordNow hl hby (iQ_le tx txl n)) mX4_wordNow lkX4_149 rfl (by rfl) dX4_takesItem_1 (Nat.le_of_ble_eq_true rfl) (by decide) ?_
  refine z_top (v' := .int (nI (wdT tx txl (iQ tx txl n)))) (by rw [wdW_s h1]; rfl) ?_
  refine z_istore_n (lv' := [(0, _), (1, _), (2, _)]) O dX4_takesItem_4 (by decide) rfl ?_
  refine z_iload_n O dX4_takesItem_5 rfl ?_
  refine z_iconst O (-1) dX4_takesItem_6 (by decide) ?_
  refine z_icmp_eq O 31 dX4_takesItem_7 (by decide) (fun h7 => by exact absurd h7 (m1_ne (by omega))) (fun h7 => ?_)
  rcases (show ((wdT tx txl (iQ tx txl n)) = 0 ∧ n = 0) ∨ (¬ (wdT tx txl (iQ tx txl n)) = 0 ∧ ¬ n = 0) by omega) with hc | hc
  · refine z_iload_n O dX4_takesItem_10 rfl ?_
    refine z_if_neN O 18 dX4_takesItem_11 (by decide) (by omega) (fun h11 => by omega) (fun h11 => ?_)
    refine z_iconst O (nI 1) dX4_takesItem_14 (by decide) ?_
    refine z_goto O 19 dX4_takesItem_15 (by decide) ?_
    refine z_iload_n O dX4_takesItem_19 rfl ?_
    refine z_if_neN O 27 dX4_takesItem_20 (by decide) (by omega) (fun h20 => by omega) (fun h20 => ?_)
    refine z_iconst O (nI 1) dX4_takesItem_23 (by decide) ?_
    refine z_goto O 28 dX4_takesItem_24 (by decide) ?_
    refine z_icmp_eqN O 33 dX4_takesItem_28 (by decide) (by omega) (by omega) (fun h28 => ?_) (fun h28 => by omega)
    rcases (show (wdT tx txl (iQ tx txl n)) = 0 ∨ (wdT tx txl (iQ tx txl n)) = 1 ∨ (wdT tx txl (iQ tx txl n)) = 2 by omega) with hwd | hwd | hwd
    · refine z_iload_n O dX4_takesItem_33 rfl ?_
      refine z_if_neN O 41 dX4_takesItem_34 (by decide) (by omega) (fun h34 => by omega) (fun h34 => ?_)
      refine z_iconst O (nI 1) dX4_takesItem_37 (by decide) ?_
      refine z_goto O 51 dX4_takesItem_38 (by decide) ?_
      refine z_top (v' := .int (nI (wnN (wdT tx txl (iQ tx txl n))))) (by rw [hwd]; rfl) ?_
      refine z_istore_n (lv' := [(0, _), (1, _), (2, _), (3, _)]) O dX4_takesItem_51 (by decide) rfl ?_
      refine z_iconst O (nI 0) dX4_takesItem_52 (by decide) ?_
      refine z_istore (lv' := [(0, _), (1, _), (2, _), (3, _), (4, _)]) O dX4_takesItem_53 (by decide) rfl ?_
      refine zdown (P := fun j => ∀ (nb' : Nat → Nat) (st' : Nat) (iw' ig' : Int32), (∀ i, i < j → nb' i = nuQ tx txl (iQ tx txl n) i) → fpN tx txl ((wnN (wdT tx txl (iQ tx txl n))) - j) (qN tx txl (tE tx txl (iQ tx txl n)) j) = some a → Z G F 0 0 (zEnd G F (zP (fun v M' => v = .int (nI 0) ∧ ∃ (nb' : Nat → Nat) (at' : Nat) (iw' ig' : Int32), M' = (yM G c0_ c1_ c2_ c3_ c4_ c5_ c6_ c7_ c8_ c9_ c10_ c11_ c12_ c13_ c14_ c15_ c16_ c17_ c18_ c19_ c20_ w kp tx txl rf ya yb at' a iw' ig' nb' fr la nms nd wf hh tl))) 0 0) 55 [(0, .ref (zad (zb G) 21)), (1, .int (nI n)), (2, .int (nI (wdT tx txl (iQ tx txl n)))), (3, .int (nI (wnN (wdT tx txl (iQ tx txl n))))), (4, .int (nI j))] [] (yM G c0_ c1_ c2_ c3_ c4_ c5_ c6_ c7_ c8_ c9_ c10_ c11_ c12_ c13_ c14_ c15_ c16_ c17_ c18_ c19_ c20_ w kp tx txl rf ya yb ((qN tx txl (tE tx txl (iQ tx txl n)) j)) st' iw' ig' nb' fr la nms nd wf hh tl)) ((wnN (wdT tx txl (iQ tx txl n)))) ?_ ?_ nb _ _ _ (fun i hi => absurd hi (Nat.not_lt_zero i)) hfp0
      · intro nb' st' iw' ig' hn1 hfp
        have hqw : (qN tx txl (tE tx txl (iQ tx txl n)) (wnN (wdT tx txl (iQ tx txl n)))) ≤ txl := tE_len (tE_le (iQ_le tx txl n)).2 _
        rw [Nat.sub_self] at hfp
        have h3 : ¬ tO tx txl (qN tx txl (tE tx txl (iQ tx txl n)) (wnN (wdT tx txl (iQ tx txl n)))) = 3 := fun q => by rw [fpN, if_pos q] at hfp; cases hfp
        refine z_iload O dX4_takesItem_55 rfl ?_
        refine z_iload_n O dX4_takesItem_57 rfl ?_
        refine z_icmp_geN O 78 dX4_takesItem_58 (by decide) (by omega) (by omega) (fun h58 => ?_) (fun h58 => by omega)
        refine z_aload_n O dX4_takesItem_78 rfl ?_
        refine z_V0u0 O (m_token hl hby hqw) mX4_token lkX4_146 rfl (by rfl) dX4_takesItem_79 (Nat.le_of_ble_eq_true rfl) (by decide) ?_
        refine z_aload_n O dX4_takesItem_82 rfl ?_
        refine z_aload_n O dX4_takesItem_83 rfl ?_
        refine z_get O dX4_takesItem_84 flX4_125 (by rfl) (by rfl) ?_
        refine z_V1e0 O (m_byteAt hl (by have := (tE_le (t := tx) hqw).1; omega)) mX4_byteAt lkX4_122 rfl (by rfl) dX4_takesItem_87 (Nat.le_of_ble_eq_true rfl) (by decide) ?_
        refine z_bipush O (nI 59) dX4_takesItem_90 (by decide) ?_
        refine z_icmp_eq O 97 dX4_takesItem_92 (by decide) (fun h92 => by exact absurd (tO_3.mpr ((bt_eq hby (by decide)).mp h92)) h3) (fun h92 => ?_)
        refine z_iconst O (nI 0) dX4_takesItem_95 (by decide) ?_
        exact z_zret O dX4_takesItem_96 rfl (by have ha := (by rw [fpN, if_neg h3] at hfp; exact Option.some.inj hfp : tS tx txl (qN tx txl (tE tx txl (iQ tx txl n)) (wnN (wdT tx txl (iQ tx txl n)))) = a); subst ha; exact ⟨_, rfl, rfl, _, _, _, _, rfl⟩)
      · intro j hj ih nb' st' iw' ig' hn1 hfp
        have hql : (qN tx txl (tE tx txl (iQ tx txl n)) j) ≤ txl := tE_len (tE_le (iQ_le tx txl n)).2 j
        refine z_iload O dX4_takesItem_55 rfl ?_
        refine z_iload_n O dX4_takesItem_57 rfl ?_
        refine z_icmp_geN O 78 dX4_takesItem_58 (by decide) (by omega) (by omega) (fun h58 => by omega) (fun h58 => ?_)
        by_cases h2j : tO tx txl (qN tx txl (tE tx txl (iQ tx txl n)) j) = 2
        · refine z_aload_n O dX4_takesItem_61 rfl ?_
          refine z_iload O dX4_takesItem_62 rfl ?_
          refine z_V1e0 O (m_takesNumber hl hby hql (by omega) h2j) mX4_takesNumber lkX4_152 rfl (by rfl) dX4_takesItem_64 (Nat.le_of_ble_eq_true rfl) (by decide) ?_
          refine z_if_neN O 72 dX4_takesItem_67 (by decide) (by omega) (fun h67 => ?_) (fun h67 => by omega)
          refine z_iincN (lv' := [(0, _), (1, _), (2, _), (3, _), (4, _)]) O 1 dX4_takesItem_72 (by decide) rfl rfl (by decide) ?_
          refine z_goto O 55 dX4_takesItem_75 (by decide) ?_
          exact ih _ _ _ _ (fun i hi => by
            by_cases e : i = j
            · rw [e, updN_s]; rfl
            · rw [updN_n e]; exact hn1 i (by omega)) (by rw [show (wnN (wdT tx txl (iQ tx txl n))) - j = ((wnN (wdT tx txl (iQ tx txl n))) - (j + 1)) + 1 by omega, fpN, if_pos h2j] at hfp; exact hfp)
        · refine z_aload_n O dX4_takesItem_61 rfl ?_
          refine z_iload O dX4_takesItem_62 rfl ?_
          refine z_V1e0 O (m_takesNumberN hl hby hql (by omega) h2j) mX4_takesNumber lkX4_152 rfl (by rfl) dX4_takesItem_64 (Nat.le_of_ble_eq_true rfl) (by decide) ?_
          refine z_if_neN O 72 dX4_takesItem_67 (by decide) (by omega) (fun h67 => by omega) (fun h67 => ?_)
          refine z_iconst O (nI 0) dX4_takesItem_70 (by decide) ?_
          exact z_zret O dX4_takesItem_71 rfl (by have ha := (by rw [show (wnN (wdT tx txl (iQ tx txl n))) - j = ((wnN (wdT tx txl (iQ tx txl n))) - (j + 1)) + 1 by omega, fpN, if_neg h2j] at hfp; exact Option.some.inj hfp : tS tx txl (qN tx txl (tE tx txl (iQ tx txl n)) j) = a); subst ha; exact ⟨_, rfl, rfl, _, _, _, _, rfl⟩)
    · refine z_iload_n O dX4_takesItem_33 rfl ?_
      refine z_if_neN O 41 dX4_takesItem_34 (by decide) (by omega) (fun h34 => ?_) (fun h34 => by omega)
      refine z_iload_n O dX4_takesItem_41 rfl ?_
      refine z_iconst O (nI 1) dX4_takesItem_42 (by decide) ?_
      refine z_icmp_neN O 50 dX4_takesItem_43 (by decide) (by omega) (by omega) (fun h43 => by omega) (fun h43 => ?_)
      refine z_iconst O (nI 2) dX4_takesItem_46 (by decide) ?_
      refine z_goto O 51 dX4_takesItem_47 (by decide) ?_
      refine z_top (v' := .int (nI (wnN (wdT tx txl (iQ tx txl n))))) (by rw [hwd]; rfl) ?_
      refine z_istore_n (lv' := [(0, _), (1, _), (2, _), (3, _)]) O dX4_takesItem_51 (by decide) rfl ?_
      refine z_iconst O (nI 0) dX4_takesItem_52 (by decide) ?_
      refine z_istore (lv' := [(0, _), (1, _), (2, _), (3, _), (4, _)]) O dX4_takesItem_53 (by decide) rfl ?_
      refine zdown (P := fun j => ∀ (nb' : Nat → Nat) (st' : Nat) (iw' ig' : Int32), (∀ i, i < j → nb' i = nuQ tx txl (iQ tx txl n) i) → fpN tx txl ((wnN (wdT tx txl (iQ tx txl n))) - j) (qN tx txl (tE tx txl (iQ tx txl n)) j) = some a → Z G F 0 0 (zEnd G F (zP (fun v M' => v = .int (nI 0) ∧ ∃ (nb' : Nat → Nat) (at' : Nat) (iw' ig' : Int32), M' = (yM G c0_ c1_ c2_ c3_ c4_ c5_ c6_ c7_ c8_ c9_ c10_ c11_ c12_ c13_ c14_ c15_ c16_ c17_ c18_ c19_ c20_ w kp tx txl rf ya yb at' a iw' ig' nb' fr la nms nd wf hh tl))) 0 0) 55 [(0, .ref (zad (zb G) 21)), (1, .int (nI n)), (2, .int (nI (wdT tx txl (iQ tx txl n)))), (3, .int (nI (wnN (wdT tx txl (iQ tx txl n))))), (4, .int (nI j))] [] (yM G c0_ c1_ c2_ c3_ c4_ c5_ c6_ c7_ c8_ c9_ c10_ c11_ c12_ c13_ c14_ c15_ c16_ c17_ c18_ c19_ c20_ w kp tx txl rf ya yb ((qN tx txl (tE tx txl (iQ tx txl n)) j)) st' iw' ig' nb' fr la nms nd wf hh tl)) ((wnN (wdT tx txl (iQ tx txl n)))) ?_ ?_ nb _ _ _ (fun i hi => absurd hi (Nat.not_lt_zero i)) hfp0
      · intro nb' st' iw' ig' hn1 hfp
        have hqw : (qN tx txl (tE tx txl (iQ tx txl n)) (wnN (wdT tx txl (iQ tx txl n)))) ≤ txl := tE_len (tE_le (iQ_le tx txl n)).2 _
        rw [Nat.sub_self] at hfp
        have h3 : ¬ tO tx txl (qN tx txl (tE tx txl (iQ tx txl n)) (wnN (wdT tx txl (iQ tx txl n)))) = 3 := fun q => by rw [fpN, if_pos q] at hfp; cases hfp
        refine z_iload O dX4_takesItem_55 rfl ?_
        refine z_iload_n O dX4_takesItem_57 rfl ?_
        refine z_icmp_geN O 78 dX4_takesItem_58 (by decide) (by omega) (by omega) (fun h58 => ?_) (fun h58 => by omega)
        refine z_aload_n O dX4_takesItem_78 rfl ?_
        refine z_V0u0 O (m_token hl hby hqw) mX4_token lkX4_146 rfl (by rfl) dX4_takesItem_79 (Nat.le_of_ble_eq_true rfl) (by decide) ?_
        refine z_aload_n O dX4_takesItem_82 rfl ?_
        refine z_aload_n O dX4_takesItem_83 rfl ?_
        refine z_get O dX4_takesItem_84 flX4_125 (by rfl) (by rfl) ?_
        refine z_V1e0 O (m_byteAt hl (by have := (tE_le (t := tx) hqw).1; omega)) mX4_byteAt lkX4_122 rfl (by rfl) dX4_takesItem_87 (Nat.le_of_ble_eq_true rfl) (by decide) ?_
        refine z_bipush O (nI 59) dX4_takesItem_90 (by decide) ?_
        refine z_icmp_eq O 97 dX4_takesItem_92 (by decide) (fun h92 => by exact absurd (tO_3.mpr ((bt_eq hby (by decide)).mp h92)) h3) (fun h92 => ?_)
        refine z_iconst O (nI 0) dX4_takesItem_95 (by decide) ?_
        exact z_zret O dX4_takesItem_96 rfl (by have ha := (by rw [fpN, if_neg h3] at hfp; exact Option.some.inj hfp : tS tx txl (qN tx txl (tE tx txl (iQ tx txl n)) (wnN (wdT tx txl (iQ tx txl n)))) = a); subst ha; exact ⟨_, rfl, rfl, _, _, _, _, rfl⟩)
      · intro j hj ih nb' st' iw' ig' hn1 hfp
        have hql : (qN tx txl (tE tx txl (iQ tx txl n)) j) ≤ txl := tE_len (tE_le (iQ_le tx txl n)).2 j
        refine z_iload O dX4_takesItem_55 rfl ?_
        refine z_iload_n O dX4_takesItem_57 rfl ?_
        refine z_icmp_geN O 78 dX4_takesItem_58 (by decide) (by omega) (by omega) (fun h58 => by omega) (fun h58 => ?_)
        by_cases h2j : tO tx txl (qN tx txl (tE tx txl (iQ tx txl n)) j) = 2
        · refine z_aload_n O dX4_takesItem_61 rfl ?_
          refine z_iload O dX4_takesItem_62 rfl ?_
          refine z_V1e0 O (m_takesNumber hl hby hql (by omega) h2j) mX4_takesNumber lkX4_152 rfl (by rfl) dX4_takesItem_64 (Nat.le_of_ble_eq_true rfl) (by decide) ?_
          refine z_if_neN O 72 dX4_takesItem_67 (by decide) (by omega) (fun h67 => ?_) (fun h67 => by omega)
          refine z_iincN (lv' := [(0, _), (1, _), (2, _), (3, _), (4, _)]) O 1 dX4_takesItem_72 (by decide) rfl rfl (by decide) ?_
          refine z_goto O 55 dX4_takesItem_75 (by decide) ?_
          exact ih _ _ _ _ (fun i hi => by
            by_cases e : i = j
            · rw [e, updN_s]; rfl
            · rw [updN_n e]; exact hn1 i (by omega)) (by rw [show (wnN (wdT tx txl (iQ tx txl n))) - j = ((wnN (wdT tx txl (iQ tx txl n))) - (j + 1)) + 1 by omega, fpN, if_pos h2j] at hfp; exact hfp)
        · refine z_aload_n O dX4_takesItem_61 rfl ?_
          refine z_iload O dX4_takesItem_62 rfl ?_
          refine z_V1e0 O (m_takesNumberN hl hby hql (by omega) h2j) mX4_takesNumber lkX4_152 rfl (by rfl) dX4_takesItem_64 (Nat.le_of_ble_eq_true rfl) (by decide) ?_
          refine z_if_neN O 72 dX4_takesItem_67 (by decide) (by omega) (fun h67 => by omega) (fun h67 => ?_)
          refine z_iconst O (nI 0) dX4_takesItem_70 (by decide) ?_
          exact z_zret O dX4_takesItem_71 rfl (by have ha := (by rw [show (wnN (wdT tx txl (iQ tx txl n))) - j = ((wnN (wdT tx txl (iQ tx txl n))) - (j + 1)) + 1 by omega, fpN, if_neg h2j] at hfp; exact Option.some.inj hfp : tS tx txl (qN tx txl (tE tx txl (iQ tx txl n)) j) = a); subst ha; exact ⟨_, rfl, rfl, _, _, _, _, rfl⟩)
    · refine z_iload_n O dX4_takesItem_33 rfl ?_
      refine z_if_neN O 41 dX4_takesItem_34 (by decide) (by omega) (fun h34 => ?_) (fun h34 => by omega)
      refine z_iload_n O dX4_takesItem_41 rfl ?_
      refine z_iconst O (nI 1) dX4_takesItem_42 (by decide) ?_
      refine z_icmp_neN O 50 dX4_takesItem_43 (by decide) (by omega) (by omega) (fun h43 => ?_) (fun h43 => by omega)
      refine z_iconst O (nI 4) dX4_takesItem_50 (by decide) ?_
      refine z_top (v' := .int (nI (wnN (wdT tx txl (iQ tx txl n))))) (by rw [hwd]; rfl) ?_
      refine z_istore_n (lv' := [(0, _), (1, _), (2, _), (3, _)]) O dX4_takesItem_51 (by decide) rfl ?_
      refine z_iconst O (nI 0) dX4_takesItem_52 (by decide) ?_
      refine z_istore (lv' := [(0, _), (1, _), (2, _), (3, _), (4, _)]) O dX4_takesItem_53 (by decide) rfl ?_
      refine zdown (P := fun j => ∀ (nb' : Nat → Nat) (st' : Nat) (iw' ig' : Int32), (∀ i, i < j → nb' i = nuQ tx txl (iQ tx txl n) i) → fpN tx txl ((wnN (wdT tx txl (iQ tx txl n))) - j) (qN tx txl (tE tx txl (iQ tx txl n)) j) = some a → Z G F 0 0 (zEnd G F (zP (fun v M' => v = .int (nI 0) ∧ ∃ (nb' : Nat → Nat) (at' : Nat) (iw' ig' : Int32), M' = (yM G c0_ c1_ c2_ c3_ c4_ c5_ c6_ c7_ c8_ c9_ c10_ c11_ c12_ c13_ c14_ c15_ c16_ c17_ c18_ c19_ c20_ w kp tx txl rf ya yb at' a iw' ig' nb' fr la nms nd wf hh tl))) 0 0) 55 [(0, .ref (zad (zb G) 21)), (1, .int (nI n)), (2, .int (nI (wdT tx txl (iQ tx txl n)))), (3, .int (nI (wnN (wdT tx txl (iQ tx txl n))))), (4, .int (nI j))] [] (yM G c0_ c1_ c2_ c3_ c4_ c5_ c6_ c7_ c8_ c9_ c10_ c11_ c12_ c13_ c14_ c15_ c16_ c17_ c18_ c19_ c20_ w kp tx txl rf ya yb ((qN tx txl (tE tx txl (iQ tx txl n)) j)) st' iw' ig' nb' fr la nms nd wf hh tl)) ((wnN (wdT tx txl (iQ tx txl n)))) ?_ ?_ nb _ _ _ (fun i hi => absurd hi (Nat.not_lt_zero i)) hfp0
      · intro nb' st' iw' ig' hn1 hfp
        have hqw : (qN tx txl (tE tx txl (iQ tx txl n)) (wnN (wdT tx txl (iQ tx txl n)))) ≤ txl := tE_len (tE_le (iQ_le tx txl n)).2 _
        rw [Nat.sub_self] at hfp
        have h3 : ¬ tO tx txl (qN tx txl (tE tx txl (iQ tx txl n)) (wnN (wdT tx txl (iQ tx txl n)))) = 3 := fun q => by rw [fpN, if_pos q] at hfp; cases hfp
        refine z_iload O dX4_takesItem_55 rfl ?_
        refine z_iload_n O dX4_takesItem_57 rfl ?_
        refine z_icmp_geN O 78 dX4_takesItem_58 (by decide) (by omega) (by omega) (fun h58 => ?_) (fun h58 => by omega)
        refine z_aload_n O dX4_takesItem_78 rfl ?_
        refine z_V0u0 O (m_token hl hby hqw) mX4_token lkX4_146 rfl (by rfl) dX4_takesItem_79 (Nat.le_of_ble_eq_true rfl) (by decide) ?_
        refine z_aload_n O dX4_takesItem_82 rfl ?_
        refine z_aload_n O dX4_takesItem_83 rfl ?_
        refine z_get O dX4_takesItem_84 flX4_125 (by rfl) (by rfl) ?_
        refine z_V1e0 O (m_byteAt hl (by have := (tE_le (t := tx) hqw).1; omega)) mX4_byteAt lkX4_122 rfl (by rfl) dX4_takesItem_87 (Nat.le_of_ble_eq_true rfl) (by decide) ?_
        refine z_bipush O (nI 59) dX4_takesItem_90 (by decide) ?_
        refine z_icmp_eq O 97 dX4_takesItem_92 (by decide) (fun h92 => by exact absurd (tO_3.mpr ((bt_eq hby (by decide)).mp h92)) h3) (fun h92 => ?_)
        refine z_iconst O (nI 0) dX4_takesItem_95 (by decide) ?_
        exact z_zret O dX4_takesItem_96 rfl (by have ha := (by rw [fpN, if_neg h3] at hfp; exact Option.some.inj hfp : tS tx txl (qN tx txl (tE tx txl (iQ tx txl n)) (wnN (wdT tx txl (iQ tx txl n)))) = a); subst ha; exact ⟨_, rfl, rfl, _, _, _, _, rfl⟩)
      · intro j hj ih nb' st' iw' ig' hn1 hfp
        have hql : (qN tx txl (tE tx txl (iQ tx txl n)) j) ≤ txl := tE_len (tE_le (iQ_le tx txl n)).2 j
        refine z_iload O dX4_takesItem_55 rfl ?_
        refine z_iload_n O dX4_takesItem_57 rfl ?_
        refine z_icmp_geN O 78 dX4_takesItem_58 (by decide) (by omega) (by omega) (fun h58 => by omega) (fun h58 => ?_)
        by_cases h2j : tO tx txl (qN tx txl (tE tx txl (iQ tx txl n)) j) = 2
        · refine z_aload_n O dX4_takesItem_61 rfl ?_
          refine z_iload O dX4_takesItem_62 rfl ?_
          refine z_V1e0 O (m_takesNumber hl hby hql (by omega) h2j) mX4_takesNumber lkX4_152 rfl (by rfl) dX4_takesItem_64 (Nat.le_of_ble_eq_true rfl) (by decide) ?_
          refine z_if_neN O 72 dX4_takesItem_67 (by decide) (by omega) (fun h67 => ?_) (fun h67 => by omega)
          refine z_iincN (lv' := [(0, _), (1, _), (2, _), (3, _), (4, _)]) O 1 dX4_takesItem_72 (by decide) rfl rfl (by decide) ?_
          refine z_goto O 55 dX4_takesItem_75 (by decide) ?_
          exact ih _ _ _ _ (fun i hi => by
            by_cases e : i = j
            · rw [e, updN_s]; rfl
            · rw [updN_n e]; exact hn1 i (by omega)) (by rw [show (wnN (wdT tx txl (iQ tx txl n))) - j = ((wnN (wdT tx txl (iQ tx txl n))) - (j + 1)) + 1 by omega, fpN, if_pos h2j] at hfp; exact hfp)
        · refine z_aload_n O dX4_takesItem_61 rfl ?_
          refine z_iload O dX4_takesItem_62 rfl ?_
          refine z_V1e0 O (m_takesNumberN hl hby hql (by omega) h2j) mX4_takesNumber lkX4_152 rfl (by rfl) dX4_takesItem_64 (Nat.le_of_ble_eq_true rfl) (by decide) ?_
          refine z_if_neN O 72 dX4_takesItem_67 (by decide) (by omega) (fun h67 => by omega) (fun h67 => ?_)
          refine z_iconst O (nI 0) dX4_takesItem_70 (by decide) ?_
          exact z_zret O dX4_takesItem_71 rfl (by have ha := (by rw [show (wnN (wdT tx txl (iQ tx txl n))) - j = ((wnN (wdT tx txl (iQ tx txl n))) - (j + 1)) + 1 by omega, fpN, if_neg h2j] at hfp; exact Option.some.inj hfp : tS tx txl (qN tx txl (tE tx txl (iQ tx txl n)) j) = a); subst ha; exact ⟨_, rfl, rfl, _, _, _, _, rfl⟩)
  · refine z_iload_n O dX4_takesItem_10 rfl ?_
    refine z_if_neN O 18 dX4_takesItem_11 (by decide) (by omega) (fun h11 => ?_) (fun h11 => by omega)
    refine z_iconst O (nI 0) dX4_takesItem_18 (by decide) ?_
    refine z_iload_n O dX4_takesItem_19 rfl ?_
    refine z_if_neN O 27 dX4_takesItem_20 (by decide) (by omega) (fun h20 => ?_) (fun h20 => by omega)
    refine z_iconst O (nI 0) dX4_takesItem_27 (by decide) ?_
    refine z_icmp_eqN O 33 dX4_takesItem_28 (by decide) (by omega) (by omega) (fun h28 => ?_) (fun h28 => by omega)
    rcases (show (wdT tx txl (iQ tx txl n)) = 0 ∨ (wdT tx txl (iQ tx txl n)) = 1 ∨ (wdT tx txl (iQ tx txl n)) = 2 by omega) with hwd | hwd | hwd
    · refine z_iload_n O dX4_takesItem_33 rfl ?_
      refine z_if_neN O 41 dX4_takesItem_34 (by decide) (by omega) (fun h34 => by omega) (fun h34 => ?_)
      refine z_iconst O (nI 1) dX4_takesItem_37 (by decide) ?_
      refine z_goto O 51 dX4_takesItem_38 (by decide) ?_
      refine z_top (v' := .int (nI (wnN (wdT tx txl (iQ tx txl n))))) (by rw [hwd]; rfl) ?_
      refine z_istore_n (lv' := [(0, _), (1, _), (2, _), (3, _)]) O dX4_takesItem_51 (by decide) rfl ?_
      refine z_iconst O (nI 0) dX4_takesItem_52 (by decide) ?_
      refine z_istore (lv' := [(0, _), (1, _), (2, _), (3, _), (4, _)]) O dX4_takesItem_53 (by decide) rfl ?_
      refine zdown (P := fun j => ∀ (nb' : Nat → Nat) (st' : Nat) (iw' ig' : Int32), (∀ i, i < j → nb' i = nuQ tx txl (iQ tx txl n) i) → fpN tx txl ((wnN (wdT tx txl (iQ tx txl n))) - j) (qN tx txl (tE tx txl (iQ tx txl n)) j) = some a → Z G F 0 0 (zEnd G F (zP (fun v M' => v = .int (nI 0) ∧ ∃ (nb' : Nat → Nat) (at' : Nat) (iw' ig' : Int32), M' = (yM G c0_ c1_ c2_ c3_ c4_ c5_ c6_ c7_ c8_ c9_ c10_ c11_ c12_ c13_ c14_ c15_ c16_ c17_ c18_ c19_ c20_ w kp tx txl rf ya yb at' a iw' ig' nb' fr la nms nd wf hh tl))) 0 0) 55 [(0, .ref (zad (zb G) 21)), (1, .int (nI n)), (2, .int (nI (wdT tx txl (iQ tx txl n)))), (3, .int (nI (wnN (wdT tx txl (iQ tx txl n))))), (4, .int (nI j))] [] (yM G c0_ c1_ c2_ c3_ c4_ c5_ c6_ c7_ c8_ c9_ c10_ c11_ c12_ c13_ c14_ c15_ c16_ c17_ c18_ c19_ c20_ w kp tx txl rf ya yb ((qN tx txl (tE tx txl (iQ tx txl n)) j)) st' iw' ig' nb' fr la nms nd wf hh tl)) ((wnN (wdT tx txl (iQ tx txl n)))) ?_ ?_ nb _ _ _ (fun i hi => absurd hi (Nat.not_lt_zero i)) hfp0
      · intro nb' st' iw' ig' hn1 hfp
        have hqw : (qN tx txl (tE tx txl (iQ tx txl n)) (wnN (wdT tx txl (iQ tx txl n)))) ≤ txl := tE_len (tE_le (iQ_le tx txl n)).2 _
        rw [Nat.sub_self] at hfp
        have h3 : ¬ tO tx txl (qN tx txl (tE tx txl (iQ tx txl n)) (wnN (wdT tx txl (iQ tx txl n)))) = 3 := fun q => by rw [fpN, if_pos q] at hfp; cases hfp
        refine z_iload O dX4_takesItem_55 rfl ?_
        refine z_iload_n O dX4_takesItem_57 rfl ?_
        refine z_icmp_geN O 78 dX4_takesItem_58 (by decide) (by omega) (by omega) (fun h58 => ?_) (fun h58 => by omega)
        refine z_aload_n O dX4_takesItem_78 rfl ?_
        refine z_V0u0 O (m_token hl hby hqw) mX4_token lkX4_146 rfl (by rfl) dX4_takesItem_79 (Nat.le_of_ble_eq_true rfl) (by decide) ?_
        refine z_aload_n O dX4_takesItem_82 rfl ?_
        refine z_aload_n O dX4_takesItem_83 rfl ?_
        refine z_get O dX4_takesItem_84 flX4_125 (by rfl) (by rfl) ?_
        refine z_V1e0 O (m_byteAt hl (by have := (tE_le (t := tx) hqw).1; omega)) mX4_byteAt lkX4_122 rfl (by rfl) dX4_takesItem_87 (Nat.le_of_ble_eq_true rfl) (by decide) ?_
        refine z_bipush O (nI 59) dX4_takesItem_90 (by decide) ?_
        refine z_icmp_eq O 97 dX4_takesItem_92 (by decide) (fun h92 => by exact absurd (tO_3.mpr ((bt_eq hby (by decide)).mp h92)) h3) (fun h92 => ?_)
        refine z_iconst O (nI 0) dX4_takesItem_95 (by decide) ?_
        exact z_zret O dX4_takesItem_96 rfl (by have ha := (by rw [fpN, if_neg h3] at hfp; exact Option.some.inj hfp : tS tx txl (qN tx txl (tE tx txl (iQ tx txl n)) (wnN (wdT tx txl (iQ tx txl n)))) = a); subst ha; exact ⟨_, rfl, rfl, _, _, _, _, rfl⟩)
      · intro j hj ih nb' st' iw' ig' hn1 hfp
        have hql : (qN tx txl (tE tx txl (iQ tx txl n)) j) ≤ txl := tE_len (tE_le (iQ_le tx txl n)).2 j
        refine z_iload O dX4_takesItem_55 rfl ?_
        refine z_iload_n O dX4_takesItem_57 rfl ?_
        refine z_icmp_geN O 78 dX4_takesItem_58 (by decide) (by omega) (by omega) (fun h58 => by omega) (fun h58 => ?_)
        by_cases h2j : tO tx txl (qN tx txl (tE tx txl (iQ tx txl n)) j) = 2
        · refine z_aload_n O dX4_takesItem_61 rfl ?_
          refine z_iload O dX4_takesItem_62 rfl ?_
          refine z_V1e0 O (m_takesNumber hl hby hql (by omega) h2j) mX4_takesNumber lkX4_152 rfl (by rfl) dX4_takesItem_64 (Nat.le_of_ble_eq_true rfl) (by decide) ?_
          refine z_if_neN O 72 dX4_takesItem_67 (by decide) (by omega) (fun h67 => ?_) (fun h67 => by omega)
          refine z_iincN (lv' := [(0, _), (1, _), (2, _), (3, _), (4, _)]) O 1 dX4_takesItem_72 (by decide) rfl rfl (by decide) ?_
          refine z_goto O 55 dX4_takesItem_75 (by decide) ?_
          exact ih _ _ _ _ (fun i hi => by
            by_cases e : i = j
            · rw [e, updN_s]; rfl
            · rw [updN_n e]; exact hn1 i (by omega)) (by rw [show (wnN (wdT tx txl (iQ tx txl n))) - j = ((wnN (wdT tx txl (iQ tx txl n))) - (j + 1)) + 1 by omega, fpN, if_pos h2j] at hfp; exact hfp)
        · refine z_aload_n O dX4_takesItem_61 rfl ?_
          refine z_iload O dX4_takesItem_62 rfl ?_
          refine z_V1e0 O (m_takesNumberN hl hby hql (by omega) h2j) mX4_takesNumber lkX4_152 rfl (by rfl) dX4_takesItem_64 (Nat.le_of_ble_eq_true rfl) (by decide) ?_
          refine z_if_neN O 72 dX4_takesItem_67 (by decide) (by omega) (fun h67 => by omega) (fun h67 => ?_)
          refine z_iconst O (nI 0) dX4_takesItem_70 (by decide) ?_
          exact z_zret O dX4_takesItem_71 rfl (by have ha := (by rw [show (wnN (wdT tx txl (iQ tx txl n))) - j = ((wnN (wdT tx txl (iQ tx txl n))) - (j + 1)) + 1 by omega, fpN, if_neg h2j] at hfp; exact Option.some.inj hfp : tS tx txl (qN tx txl (tE tx txl (iQ tx txl n)) j) = a); subst ha; exact ⟨_, rfl, rfl, _, _, _, _, rfl⟩)
    · refine z_iload_n O dX4_takesItem_33 rfl ?_
      refine z_if_neN O 41 dX4_takesItem_34 (by decide) (by omega) (fun h34 => ?_) (fun h34 => by omega)
      refine z_iload_n O dX4_takesItem_41 rfl ?_
      refine z_iconst O (nI 1) dX4_takesItem_42 (by decide) ?_
      refine z_icmp_neN O 50 dX4_takesItem_43 (by decide) (by omega) (by omega) (fun h43 => by omega) (fun h43 => ?_)
      refine z_iconst O (nI 2) dX4_takesItem_46 (by decide) ?_
      refine z_goto O 51 dX4_takesItem_47 (by decide) ?_
      refine z_top (v' := .int (nI (wnN (wdT tx txl (iQ tx txl n))))) (by rw [hwd]; rfl) ?_
      refine z_istore_n (lv' := [(0, _), (1, _), (2, _), (3, _)]) O dX4_takesItem_51 (by decide) rfl ?_
      refine z_iconst O (nI 0) dX4_takesItem_52 (by decide) ?_
      refine z_istore (lv' := [(0, _), (1, _), (2, _), (3, _), (4, _)]) O dX4_takesItem_53 (by decide) rfl ?_
      refine zdown (P := fun j => ∀ (nb' : Nat → Nat) (st' : Nat) (iw' ig' : Int32), (∀ i, i < j → nb' i = nuQ tx txl (iQ tx txl n) i) → fpN tx txl ((wnN (wdT tx txl (iQ tx txl n))) - j) (qN tx txl (tE tx txl (iQ tx txl n)) j) = some a → Z G F 0 0 (zEnd G F (zP (fun v M' => v = .int (nI 0) ∧ ∃ (nb' : Nat → Nat) (at' : Nat) (iw' ig' : Int32), M' = (yM G c0_ c1_ c2_ c3_ c4_ c5_ c6_ c7_ c8_ c9_ c10_ c11_ c12_ c13_ c14_ c15_ c16_ c17_ c18_ c19_ c20_ w kp tx txl rf ya yb at' a iw' ig' nb' fr la nms nd wf hh tl))) 0 0) 55 [(0, .ref (zad (zb G) 21)), (1, .int (nI n)), (2, .int (nI (wdT tx txl (iQ tx txl n)))), (3, .int (nI (wnN (wdT tx txl (iQ tx txl n))))), (4, .int (nI j))] [] (yM G c0_ c1_ c2_ c3_ c4_ c5_ c6_ c7_ c8_ c9_ c10_ c11_ c12_ c13_ c14_ c15_ c16_ c17_ c18_ c19_ c20_ w kp tx txl rf ya yb ((qN tx txl (tE tx txl (iQ tx txl n)) j)) st' iw' ig' nb' fr la nms nd wf hh tl)) ((wnN (wdT tx txl (iQ tx txl n)))) ?_ ?_ nb _ _ _ (fun i hi => absurd hi (Nat.not_lt_zero i)) hfp0
      · intro nb' st' iw' ig' hn1 hfp
        have hqw : (qN tx txl (tE tx txl (iQ tx txl n)) (wnN (wdT tx txl (iQ tx txl n)))) ≤ txl := tE_len (tE_le (iQ_le tx txl n)).2 _
        rw [Nat.sub_self] at hfp
        have h3 : ¬ tO tx txl (qN tx txl (tE tx txl (iQ tx txl n)) (wnN (wdT tx txl (iQ tx txl n)))) = 3 := fun q => by rw [fpN, if_pos q] at hfp; cases hfp
        refine z_iload O dX4_takesItem_55 rfl ?_
        refine z_iload_n O dX4_takesItem_57 rfl ?_
        refine z_icmp_geN O 78 dX4_takesItem_58 (by decide) (by omega) (by omega) (fun h58 => ?_) (fun h58 => by omega)
        refine z_aload_n O dX4_takesItem_78 rfl ?_
        refine z_V0u0 O (m_token hl hby hqw) mX4_token lkX4_146 rfl (by rfl) dX4_takesItem_79 (Nat.le_of_ble_eq_true rfl) (by decide) ?_
        refine z_aload_n O dX4_takesItem_82 rfl ?_
        refine z_aload_n O dX4_takesItem_83 rfl ?_
        refine z_get O dX4_takesItem_84 flX4_125 (by rfl) (by rfl) ?_
        refine z_V1e0 O (m_byteAt hl (by have := (tE_le (t := tx) hqw).1; omega)) mX4_byteAt lkX4_122 rfl (by rfl) dX4_takesItem_87 (Nat.le_of_ble_eq_true rfl) (by decide) ?_
        refine z_bipush O (nI 59) dX4_takesItem_90 (by decide) ?_
        refine z_icmp_eq O 97 dX4_takesItem_92 (by decide) (fun h92 => by exact absurd (tO_3.mpr ((bt_eq hby (by decide)).mp h92)) h3) (fun h92 => ?_)
        refine z_iconst O (nI 0) dX4_takesItem_95 (by decide) ?_
        exact z_zret O dX4_takesItem_96 rfl (by have ha := (by rw [fpN, if_neg h3] at hfp; exact Option.some.inj hfp : tS tx txl (qN tx txl (tE tx txl (iQ tx txl n)) (wnN (wdT tx txl (iQ tx txl n)))) = a); subst ha; exact ⟨_, rfl, rfl, _, _, _, _, rfl⟩)
      · intro j hj ih nb' st' iw' ig' hn1 hfp
        have hql : (qN tx txl (tE tx txl (iQ tx txl n)) j) ≤ txl := tE_len (tE_le (iQ_le tx txl n)).2 j
        refine z_iload O dX4_takesItem_55 rfl ?_
        refine z_iload_n O dX4_takesItem_57 rfl ?_
        refine z_icmp_geN O 78 dX4_takesItem_58 (by decide) (by omega) (by omega) (fun h58 => by omega) (fun h58 => ?_)
        by_cases h2j : tO tx txl (qN tx txl (tE tx txl (iQ tx txl n)) j) = 2
        · refine z_aload_n O dX4_takesItem_61 rfl ?_
          refine z_iload O dX4_takesItem_62 rfl ?_
          refine z_V1e0 O (m_takesNumber hl hby hql (by omega) h2j) mX4_takesNumber lkX4_152 rfl (by rfl) dX4_takesItem_64 (Nat.le_of_ble_eq_true rfl) (by decide) ?_
          refine z_if_neN O 72 dX4_takesItem_67 (by decide) (by omega) (fun h67 => ?_) (fun h67 => by omega)
          refine z_iincN (lv' := [(0, _), (1, _), (2, _), (3, _), (4, _)]) O 1 dX4_takesItem_72 (by decide) rfl rfl (by decide) ?_
          refine z_goto O 55 dX4_takesItem_75 (by decide) ?_
          exact ih _ _ _ _ (fun i hi => by
            by_cases e : i = j
            · rw [e, updN_s]; rfl
            · rw [updN_n e]; exact hn1 i (by omega)) (by rw [show (wnN (wdT tx txl (iQ tx txl n))) - j = ((wnN (wdT tx txl (iQ tx txl n))) - (j + 1)) + 1 by omega, fpN, if_pos h2j] at hfp; exact hfp)
        · refine z_aload_n O dX4_takesItem_61 rfl ?_
          refine z_iload O dX4_takesItem_62 rfl ?_
          refine z_V1e0 O (m_takesNumberN hl hby hql (by omega) h2j) mX4_takesNumber lkX4_152 rfl (by rfl) dX4_takesItem_64 (Nat.le_of_ble_eq_true rfl) (by decide) ?_
          refine z_if_neN O 72 dX4_takesItem_67 (by decide) (by omega) (fun h67 => by omega) (fun h67 => ?_)
          refine z_iconst O (nI 0) dX4_takesItem_70 (by decide) ?_
          exact z_zret O dX4_takesItem_71 rfl (by have ha := (by rw [show (wnN (wdT tx txl (iQ tx txl n))) - j = ((wnN (wdT tx txl (iQ tx txl n))) - (j + 1)) + 1 by omega, fpN, if_neg h2j] at hfp; exact Option.some.inj hfp : tS tx txl (qN tx txl (tE tx txl (iQ tx txl n)) j) = a); subst ha; exact ⟨_, rfl, rfl, _, _, _, _, rfl⟩)
    · refine z_iload_n O dX4_takesItem_33 rfl ?_
      refine z_if_neN O 41 dX4_takesItem_34 (by decide) (by omega) (fun h34 => ?_) (fun h34 => by omega)
      refine z_iload_n O dX4_takesItem_41 rfl ?_
      refine z_iconst O (nI 1) dX4_takesItem_42 (by decide) ?_
      refine z_icmp_neN O 50 dX4_takesItem_43 (by decide) (by omega) (by omega) (fun h43 => ?_) (fun h43 => by omega)
      refine z_iconst O (nI 4) dX4_takesItem_50 (by decide) ?_
      refine z_top (v' := .int (nI (wnN (wdT tx txl (iQ tx txl n))))) (by rw [hwd]; rfl) ?_
      refine z_istore_n (lv' := [(0, _), (1, _), (2, _), (3, _)]) O dX4_takesItem_51 (by decide) rfl ?_
      refine z_iconst O (nI 0) dX4_takesItem_52 (by decide) ?_
      refine z_istore (lv' := [(0, _), (1, _), (2, _), (3, _), (4, _)]) O dX4_takesItem_53 (by decide) rfl ?_
      refine zdown (P := fun j => ∀ (nb' : Nat → Nat) (st' : Nat) (iw' ig' : Int32), (∀ i, i < j → nb' i = nuQ tx txl (iQ tx txl n) i) → fpN tx txl ((wnN (wdT tx txl (iQ tx txl n))) - j) (qN tx txl (tE tx txl (iQ tx txl n)) j) = some a → Z G F 0 0 (zEnd G F (zP (fun v M' => v = .int (nI 0) ∧ ∃ (nb' : Nat → Nat) (at' : Nat) (iw' ig' : Int32), M' = (yM G c0_ c1_ c2_ c3_ c4_ c5_ c6_ c7_ c8_ c9_ c10_ c11_ c12_ c13_ c14_ c15_ c16_ c17_ c18_ c19_ c20_ w kp tx txl rf ya yb at' a iw' ig' nb' fr la nms nd wf hh tl))) 0 0) 55 [(0, .ref (zad (zb G) 21)), (1, .int (nI n)), (2, .int (nI (wdT tx txl (iQ tx txl n)))), (3, .int (nI (wnN (wdT tx txl (iQ tx txl n))))), (4, .int (nI j))] [] (yM G c0_ c1_ c2_ c3_ c4_ c5_ c6_ c7_ c8_ c9_ c10_ c11_ c12_ c13_ c14_ c15_ c16_ c17_ c18_ c19_ c20_ w kp tx txl rf ya yb ((qN tx txl (tE tx txl (iQ tx txl n)) j)) st' iw' ig' nb' fr la nms nd wf hh tl)) ((wnN (wdT tx txl (iQ tx txl n)))) ?_ ?_ nb _ _ _ (fun i hi => absurd hi (Nat.not_lt_zero i)) hfp0
      · intro nb' st' iw' ig' hn1 hfp
        have hqw : (qN tx txl (tE tx txl (iQ tx txl n)) (wnN (wdT tx txl (iQ tx txl n)))) ≤ txl := tE_len (tE_le (iQ_le tx txl n)).2 _
        rw [Nat.sub_self] at hfp
        have h3 : ¬ tO tx txl (qN tx txl (tE tx txl (iQ tx txl n)) (wnN (wdT tx txl (iQ tx txl n)))) = 3 := fun q => by rw [fpN, if_pos q] at hfp; cases hfp
        refine z_iload O dX4_takesItem_55 rfl ?_
        refine z_iload_n O dX4_takesItem_57 rfl ?_
        refine z_icmp_geN O 78 dX4_takesItem_58 (by decide) (by omega) (by omega) (fun h58 => ?_) (fun h58 => by omega)
        refine z_aload_n O dX4_takesItem_78 rfl ?_
        refine z_V0u0 O (m_token hl hby hqw) mX4_token lkX4_146 rfl (by rfl) dX4_takesItem_79 (Nat.le_of_ble_eq_true rfl) (by decide) ?_
        refine z_aload_n O dX4_takesItem_82 rfl ?_
        refine z_aload_n O dX4_takesItem_83 rfl ?_
        refine z_get O dX4_takesItem_84 flX4_125 (by rfl) (by rfl) ?_
        refine z_V1e0 O (m_byteAt hl (by have := (tE_le (t := tx) hqw).1; omega)) mX4_byteAt lkX4_122 rfl (by rfl) dX4_takesItem_87 (Nat.le_of_ble_eq_true rfl) (by decide) ?_
        refine z_bipush O (nI 59) dX4_takesItem_90 (by decide) ?_
        refine z_icmp_eq O 97 dX4_takesItem_92 (by decide) (fun h92 => by exact absurd (tO_3.mpr ((bt_eq hby (by decide)).mp h92)) h3) (fun h92 => ?_)
        refine z_iconst O (nI 0) dX4_takesItem_95 (by decide) ?_
        exact z_zret O dX4_takesItem_96 rfl (by have ha := (by rw [fpN, if_neg h3] at hfp; exact Option.some.inj hfp : tS tx txl (qN tx txl (tE tx txl (iQ tx txl n)) (wnN (wdT tx txl (iQ tx txl n)))) = a); subst ha; exact ⟨_, rfl, rfl, _, _, _, _, rfl⟩)
      · intro j hj ih nb' st' iw' ig' hn1 hfp
        have hql : (qN tx txl (tE tx txl (iQ tx txl n)) j) ≤ txl := tE_len (tE_le (iQ_le tx txl n)).2 j
        refine z_iload O dX4_takesItem_55 rfl ?_
        refine z_iload_n O dX4_takesItem_57 rfl ?_
        refine z_icmp_geN O 78 dX4_takesItem_58 (by decide) (by omega) (by omega) (fun h58 => by omega) (fun h58 => ?_)
        by_cases h2j : tO tx txl (qN tx txl (tE tx txl (iQ tx txl n)) j) = 2
        · refine z_aload_n O dX4_takesItem_61 rfl ?_
          refine z_iload O dX4_takesItem_62 rfl ?_
          refine z_V1e0 O (m_takesNumber hl hby hql (by omega) h2j) mX4_takesNumber lkX4_152 rfl (by rfl) dX4_takesItem_64 (Nat.le_of_ble_eq_true rfl) (by decide) ?_
          refine z_if_neN O 72 dX4_takesItem_67 (by decide) (by omega) (fun h67 => ?_) (fun h67 => by omega)
          refine z_iincN (lv' := [(0, _), (1, _), (2, _), (3, _), (4, _)]) O 1 dX4_takesItem_72 (by decide) rfl rfl (by decide) ?_
          refine z_goto O 55 dX4_takesItem_75 (by decide) ?_
          exact ih _ _ _ _ (fun i hi => by
            by_cases e : i = j
            · rw [e, updN_s]; rfl
            · rw [updN_n e]; exact hn1 i (by omega)) (by rw [show (wnN (wdT tx txl (iQ tx txl n))) - j = ((wnN (wdT tx txl (iQ tx txl n))) - (j + 1)) + 1 by omega, fpN, if_pos h2j] at hfp; exact hfp)
        · refine z_aload_n O dX4_takesItem_61 rfl ?_
          refine z_iload O dX4_takesItem_62 rfl ?_
          refine z_V1e0 O (m_takesNumberN hl hby hql (by omega) h2j) mX4_takesNumber lkX4_152 rfl (by rfl) dX4_takesItem_64 (Nat.le_of_ble_eq_true rfl) (by decide) ?_
          refine z_if_neN O 72 dX4_takesItem_67 (by decide) (by omega) (fun h67 => by omega) (fun h67 => ?_)
          refine z_iconst O (nI 0) dX4_takesItem_70 (by decide) ?_
          exact z_zret O dX4_takesItem_71 rfl (by have ha := (by rw [show (wnN (wdT tx txl (iQ tx txl n))) - j = ((wnN (wdT tx txl (iQ tx txl n))) - (j + 1)) + 1 by omega, fpN, if_neg h2j] at hfp; exact Option.some.inj hfp : tS tx txl (qN tx txl (tE tx txl (iQ tx txl n)) j) = a); subst ha; exact ⟨_, rfl, rfl, _, _, _, _, rfl⟩)
theorem m_takesItemN (hl : txl ≤ 150) (hby : ∀ j, tx j ≤ 127) {n a : Nat} (hn : n < 25) (hif : itF tx txl n (iQ tx txl n) = some a) : zS G 6 yX4_takesItem cX4_takesItem 5 (some .boolean) [.ref (zad (zb G) 21), .int (nI n)] (yM G c0_ c1_ c2_ c3_ c4_ c5_ c6_ c7_ c8_ c9_ c10_ c11_ c12_ c13_ c14_ c15_ c16_ c17_ c18_ c19_ c20_ w kp tx txl rf ya yb (tE tx txl (iQ tx txl n)) (tS tx txl (iQ tx txl n)) (iW tx txl (iQ tx txl n)) (iF tx txl (iQ tx txl n)) nb fr la nms nd wf hh tl) 0 0 (zP (fun v M' => v = .int (nI 0) ∧ ∃ (nb' : Nat → Nat) (at' : Nat) (iw' ig' : Int32), M' = (yM G c0_ c1_ c2_ c3_ c4_ c5_ c6_ c7_ c8_ c9_ c10_ c11_ c12_ c13_ c14_ c15_ c16_ c17_ c18_ c19_ c20_ w kp tx txl rf ya yb at' a iw' ig' nb' fr la nms nd wf hh tl))) := by
  by_cases h1 : tO tx txl (iQ tx txl n) = 1
  · have hto := tO_1 h1
    by_cases hc : (wdT tx txl (iQ tx txl n)) = 0 ↔ n = 0
    · exact m_takesItemN3 hl hby hn h1 hto.2.1 hc hif
    · exact m_takesItemN2 hl hby hn h1 hto.2.1 hc hif
  · exact m_takesItemN1 hl hby hn h1 hif
theorem rd_fin {t : Nat → Nat} {len n : Nat} {s : (Nat → Nat) × (Nat → Nat)} {v seen kept : Nat → Nat} {fr : Int32} {nw : Nat} (hs : tlOK s) (hi : ITM t len n) (h0 : 0 < n) (hn : n ≤ 25) (h : rdI t len s n v fr) (hf : fr = -1) : RS (cpyN v v 3420 0 147) 0 (tlS t len s n).1 (tlS t len s n).2 seen kept 0 nw 0 := by
  rcases h with ⟨-, h1, h2⟩ | ⟨i, h1, h2, -⟩
  · have hg := tlS_good hi hs (Nat.le_refl n) h0 h1
    have hr := h2 h0
    refine ⟨RW_copy' hr.1 hg.1.1 (fun j hj => by rw [cpyN, if_pos (by omega)]; congr 1; omega), ?_, fun j hj => by omega, ?_, fun t ht => by omega⟩
    · rw [cpyN, if_pos (by omega)]; exact hr.2 127 (by omega) (by omega)
    · rw [cpyN, if_pos (by omega)]; exact hr.2 146 (by omega) (by omega)
  · rw [hf] at h2
    exact absurd h2.symm (m1_ne (by omega))

set_option maxRecDepth 20000 in
set_option maxHeartbeats 4000000 in
theorem m_read (hl : txl ≤ 150) (hby : ∀ j, tx j ≤ 127) {we r seen kept : Nat → Nat} {rd nw ud Y : Nat} (h : RS w 0 we r seen kept rd nw ud) (g : GS Y we r seen kept rd nw ud) {s : (Nat → Nat) × (Nat → Nat)} (hs : tlOK s) : zS G 7 yX4_read cX4_read 2 (some .int) [.ref (zad (zb G) 21)] (yM G c0_ c1_ c2_ c3_ c4_ c5_ c6_ c7_ c8_ c9_ c10_ c11_ c12_ c13_ c14_ c15_ c16_ c17_ c18_ c19_ c20_ w kp tx txl rf ya yb at2 st2 iwd ifg nb fr la nms nd wf hh tl) 0 0 (zP (fun v M' => ∃ (w' : Nat → Nat) (fr' : Int32) (nb' : Nat → Nat) (at' st' : Nat) (iw' ig' : Int32), ((∃ a, (prs tx txl 25 0).1 = some a ∧ v = .int ((-10) - nI a) ∧ smW w w') ∨ (∃ n i, prs tx txl 25 0 = (none, n) ∧ rfS tx txl s n = some i ∧ v = .int ((-1000) - nI i) ∧ smW w w') ∨ (∃ n, prs tx txl 25 0 = (none, n) ∧ 0 < n ∧ ITM tx txl n ∧ rfS tx txl s n = none ∧ v = .int (nI n) ∧ RS w' 0 (tlS tx txl s n).1 (tlS tx txl s n).2 seen kept 0 nw 0 ∧ kpW w w')) ∧ M' = (yM G c0_ c1_ c2_ c3_ c4_ c5_ c6_ c7_ c8_ c9_ c10_ c11_ c12_ c13_ c14_ c15_ c16_ c17_ c18_ c19_ c20_ w' kp tx txl rf ya yb at' st' iw' ig' nb' fr' la nms nd wf hh tl))) := by
  refine zS.of (by decide) (Nat.le_of_ble_eq_true rfl) (fun F O hR1 hR2 => ?_)
  have O : zOk G F yX4_read cX4_read 2 (some .int) RX4 7 (yM G c0_ c1_ c2_ c3_ c4_ c5_ c6_ c7_ c8_ c9_ c10_ c11_ c12_ c13_ c14_ c15_ c16_ c17_ c18_ c19_ c20_ w kp tx txl rf ya yb at2 st2 iwd ifg nb fr la nms nd wf hh tl).length := O
  refine z_eq (lv' := [(0, _)]) rfl rfl rfl ?_
  refine z_aload_n O dX4_read_0 rfl ?_
  refine z_iconst O (nI 0) dX4_read_1 (by decide) ?_
  refine z_put O (by rfl) dX4_read_2 flX4_119 (by rfl) rfl rfl (by simp) ?_
  refine z_iconst O (nI 0) dX4_read_5 (by decide) ?_
  refine z_istore_n (lv' := [(0, _), (1, _)]) O dX4_read_6 (by decide) rfl ?_
  refine z_aload_n O dX4_read_7 rfl ?_
  refine z_iconst O (-1) dX4_read_8 (by decide) ?_
  refine z_put O (by rfl) dX4_read_9 flX4_155 (by rfl) rfl rfl (by simp) ?_
  refine z_aload_n O dX4_read_12 rfl ?_
  refine z_sipush O (nI 3420) dX4_read_13 (by decide) ?_
  refine z_iconst O (nI 0) dX4_read_16 (by decide) ?_
  refine z_V2u0 O (m_begins (by decide)) mX4_begins lkX4_39 rfl (by rfl) dX4_read_17 (Nat.le_of_ble_eq_true rfl) (by decide) ?_
  refine z_aload_n O dX4_read_20 rfl ?_
  refine z_V0u0 O (m_token hl hby (Nat.zero_le _)) mX4_token lkX4_146 rfl (by rfl) dX4_read_21 (Nat.le_of_ble_eq_true rfl) (by decide) ?_
  refine z_M (show _ = (yM G c0_ c1_ c2_ c3_ c4_ c5_ c6_ c7_ c8_ c9_ c10_ c11_ c12_ c13_ c14_ c15_ c16_ c17_ c18_ c19_ c20_ (begW w 3420 0) kp tx txl rf ya yb (tE tx txl (iQ tx txl 0)) (tS tx txl (iQ tx txl 0)) (iW tx txl (iQ tx txl 0)) (iF tx txl (iQ tx txl 0)) nb (-1) la nms nd wf hh tl) from rfl) ?_
  refine zdown (P := fun i => ∀ (w' : Nat → Nat) (fr' : Int32) (nb' : Nat → Nat), ITM tx txl i → rdI tx txl s i w' fr' → smR w w' → ((0 < i ∧ tO tx txl (iQ tx txl i) = 0 ∧ prs tx txl 25 0 = (none, i)) ∨ ((i = 0 ∨ ¬ tO tx txl (iQ tx txl i) = 0) ∧ prs tx txl (25 - i) i = prs tx txl 25 0)) → Z G F 0 0 (zEnd G F (zP (fun v M' => ∃ (w' : Nat → Nat) (fr' : Int32) (nb' : Nat → Nat) (at' st' : Nat) (iw' ig' : Int32), ((∃ a, (prs tx txl 25 0).1 = some a ∧ v = .int ((-10) - nI a) ∧ smW w w') ∨ (∃ n i, prs tx txl 25 0 = (none, n) ∧ rfS tx txl s n = some i ∧ v = .int ((-1000) - nI i) ∧ smW w w') ∨ (∃ n, prs tx txl 25 0 = (none, n) ∧ 0 < n ∧ ITM tx txl n ∧ rfS tx txl s n = none ∧ v = .int (nI n) ∧ RS w' 0 (tlS tx txl s n).1 (tlS tx txl s n).2 seen kept 0 nw 0 ∧ kpW w w')) ∧ M' = (yM G c0_ c1_ c2_ c3_ c4_ c5_ c6_ c7_ c8_ c9_ c10_ c11_ c12_ c13_ c14_ c15_ c16_ c17_ c18_ c19_ c20_ w' kp tx txl rf ya yb at' st' iw' ig' nb' fr' la nms nd wf hh tl))) 0 0) 24 [(0, .ref (zad (zb G) 21)), (1, .int (nI i))] [] (yM G c0_ c1_ c2_ c3_ c4_ c5_ c6_ c7_ c8_ c9_ c10_ c11_ c12_ c13_ c14_ c15_ c16_ c17_ c18_ c19_ c20_ w' kp tx txl rf ya yb (tE tx txl (iQ tx txl i)) (tS tx txl (iQ tx txl i)) (iW tx txl (iQ tx txl i)) (iF tx txl (iQ tx txl i)) nb' fr' la nms nd wf hh tl)) (25) ?_ ?_ _ _ nb (fun k hk => absurd hk (Nat.not_lt_zero k)) (Or.inl ⟨rfl, fun k hk => absurd hk (Nat.not_lt_zero k), fun q => absurd q (Nat.lt_irrefl 0)⟩) (fun j hj => by unfold begW; rw [if_neg (by omega)]) (Or.inr ⟨Or.inl rfl, rfl⟩)
  · intro w' fr' nb' hitm hri hsm hpr
    have hi0 : 0 < 25 := by decide
    have h150 := iQ_ge 25 hitm
    have hno : ¬ tS tx txl (iQ tx txl 25) < txl := fun q => by have hh : (iQ tx txl 25) ≤ tS tx txl (iQ tx txl 25) := rn_ge _ _ _; omega
    have hpe : prs tx txl 25 0 = (none, 25) := by
      rcases hpr with q | q
      · exact q.2.2
      · exact absurd (tO_0.mpr hno) (q.1.resolve_left (by omega))
    refine z_aload_n O dX4_read_24 rfl ?_
    refine z_get O dX4_read_25 flX4_125 (by rfl) (by rfl) ?_
    refine z_aload_n O dX4_read_28 rfl ?_
    refine z_get O dX4_read_29 flX4_115 (by rfl) (by rfl) ?_
    refine z_icmp_ltN O 39 dX4_read_32 (by decide) (by first | (have := (tE_le (t := tx) (iQ_le tx txl i)).1; omega) | (have := (tE_le (t := tx) (iQ_le tx txl 25)).1; omega)) (by first | (have := (tE_le (t := tx) (iQ_le tx txl i)).1; omega) | (have := (tE_le (t := tx) (iQ_le tx txl 25)).1; omega)) (fun h32 => by exact absurd h32 hno) (fun h32 => ?_)
    refine z_iload_n O dX4_read_35 rfl ?_
    refine z_if_neN O 65 dX4_read_36 (by decide) (by omega) (fun h36 => ?_) (fun h36 => by omega)
    rcases rdI_rf hri with ⟨hfr, hrf⟩ | ⟨k, hki, hfr, hrf⟩
    · refine z_aload_n O dX4_read_65 rfl ?_
      refine z_get O dX4_read_66 flX4_155 (by rfl) (by rfl) ?_
      refine z_iconst O (-1) dX4_read_69 (by decide) ?_
      refine z_icmp_eq O 82 dX4_read_70 (by decide) (fun h70 => ?_) (fun h70 => by exact absurd hfr h70)
      refine z_aload_n O dX4_read_82 rfl ?_
      refine z_sipush O (nI 3420) dX4_read_83 (by decide) ?_
      refine z_iconst O (nI 0) dX4_read_86 (by decide) ?_
      refine z_sipush O (nI 147) dX4_read_87 (by decide) ?_
      refine z_V3u0 O (m_copy (by decide) (by decide) (by decide)) mX4_copy lkX4_73 rfl (by rfl) dX4_read_90 (Nat.le_of_ble_eq_true rfl) (by decide) ?_
      refine z_iload_n O dX4_read_93 rfl ?_
      exact z_iret O dX4_read_94 ⟨_, rfl, _, _, _, _, _, _, _, Or.inr (Or.inr ⟨25, hpe, hi0, hitm, hrf, rfl, rd_fin hs hitm hi0 (by omega) hri hfr, fun j a b => by rw [cpyN, if_neg (by omega)]; exact hsm j (by omega)⟩), rfl⟩
    · refine z_aload_n O dX4_read_65 rfl ?_
      refine z_get O dX4_read_66 flX4_155 (by rfl) (by rfl) ?_
      refine z_iconst O (-1) dX4_read_69 (by decide) ?_
      refine z_icmp_eq O 82 dX4_read_70 (by decide) (fun h70 => by exact absurd h70 (by rw [hfr]; exact m1_ne (by omega))) (fun h70 => ?_)
      refine z_sipush O (-1000) dX4_read_73 (by decide) ?_
      refine z_aload_n O dX4_read_76 rfl ?_
      refine z_get O dX4_read_77 flX4_155 (by rfl) (by rfl) ?_
      refine z_isub O dX4_read_80 ?_
      exact z_iret O dX4_read_81 ⟨_, rfl, _, _, _, _, _, _, _, Or.inr (Or.inl ⟨25, k, hpe, hrf, by rw [hfr], fun j hj => hsm j (by omega)⟩), rfl⟩
  · intro i hi ih w' fr' nb' hitm hri hsm hpr
    by_cases hst : 0 < i ∧ tO tx txl (iQ tx txl i) = 0
    · refine z_aload_n O dX4_read_24 rfl ?_
      refine z_get O dX4_read_25 flX4_125 (by rfl) (by rfl) ?_
      refine z_aload_n O dX4_read_28 rfl ?_
      refine z_get O dX4_read_29 flX4_115 (by rfl) (by rfl) ?_
      refine z_icmp_ltN O 39 dX4_read_32 (by decide) (by first | (have := (tE_le (t := tx) (iQ_le tx txl i)).1; omega) | (have := (tE_le (t := tx) (iQ_le tx txl 25)).1; omega)) (by first | (have := (tE_le (t := tx) (iQ_le tx txl i)).1; omega) | (have := (tE_le (t := tx) (iQ_le tx txl 25)).1; omega)) (fun h32 => by exact absurd h32 (tO_0.mp hst.2)) (fun h32 => ?_)
      refine z_iload_n O dX4_read_35 rfl ?_
      refine z_if_neN O 65 dX4_read_36 (by decide) (by omega) (fun h36 => ?_) (fun h36 => by omega)
      have hi0 := hst.1
      have hpe : prs tx txl 25 0 = (none, i) := by
        rcases hpr with q | q
        · exact q.2.2
        · exact absurd hst.2 (q.1.resolve_left (by omega))
      refine z_aload_n O dX4_read_65 rfl ?_
      rcases rdI_rf hri with ⟨hfr, hrf⟩ | ⟨k, hki, hfr, hrf⟩
      · refine z_get O dX4_read_66 flX4_155 (by rfl) (by rfl) ?_
        refine z_iconst O (-1) dX4_read_69 (by decide) ?_
        refine z_icmp_eq O 82 dX4_read_70 (by decide) (fun h70 => ?_) (fun h70 => by exact absurd hfr h70)
        refine z_aload_n O dX4_read_82 rfl ?_
        refine z_sipush O (nI 3420) dX4_read_83 (by decide) ?_
        refine z_iconst O (nI 0) dX4_read_86 (by decide) ?_
        refine z_sipush O (nI 147) dX4_read_87 (by decide) ?_
        refine z_V3u0 O (m_copy (by decide) (by decide) (by decide)) mX4_copy lkX4_73 rfl (by rfl) dX4_read_90 (Nat.le_of_ble_eq_true rfl) (by decide) ?_
        refine z_iload_n O dX4_read_93 rfl ?_
        exact z_iret O dX4_read_94 ⟨_, rfl, _, _, _, _, _, _, _, Or.inr (Or.inr ⟨i, hpe, hi0, hitm, hrf, rfl, rd_fin hs hitm hi0 (by omega) hri hfr, fun j a b => by rw [cpyN, if_neg (by omega)]; exact hsm j (by omega)⟩), rfl⟩
      · refine z_get O dX4_read_66 flX4_155 (by rfl) (by rfl) ?_
        refine z_iconst O (-1) dX4_read_69 (by decide) ?_
        refine z_icmp_eq O 82 dX4_read_70 (by decide) (fun h70 => by exact absurd h70 (by rw [hfr]; exact m1_ne (by omega))) (fun h70 => ?_)
        refine z_sipush O (-1000) dX4_read_73 (by decide) ?_
        refine z_aload_n O dX4_read_76 rfl ?_
        refine z_get O dX4_read_77 flX4_155 (by rfl) (by rfl) ?_
        refine z_isub O dX4_read_80 ?_
        exact z_iret O dX4_read_81 ⟨_, rfl, _, _, _, _, _, _, _, Or.inr (Or.inl ⟨i, k, hpe, hrf, by rw [hfr], fun j hj => hsm j (by omega)⟩), rfl⟩
    · refine z_aload_n O dX4_read_24 rfl ?_
      refine z_get O dX4_read_25 flX4_125 (by rfl) (by rfl) ?_
      refine z_aload_n O dX4_read_28 rfl ?_
      refine z_get O dX4_read_29 flX4_115 (by rfl) (by rfl) ?_
      refine z_icmp_ltN O 39 dX4_read_32 (by decide) (by first | (have := (tE_le (t := tx) (iQ_le tx txl i)).1; omega) | (have := (tE_le (t := tx) (iQ_le tx txl 25)).1; omega)) (by first | (have := (tE_le (t := tx) (iQ_le tx txl i)).1; omega) | (have := (tE_le (t := tx) (iQ_le tx txl 25)).1; omega)) (fun h32 => ?_) (fun h32 => ?_)
      · have hpc : (i = 0 ∨ ¬ tO tx txl (iQ tx txl i) = 0) ∧ prs tx txl (25 - i) i = prs tx txl 25 0 := by
          rcases hpr with q | q
          · exact absurd ⟨q.1, q.2.1⟩ hst
          · exact q
        rcases hif : itF tx txl i (iQ tx txl i) with _ | a
        · refine z_aload_n O dX4_read_39 rfl ?_
          have him : ITM tx txl (i + 1) := fun k hk => by
            by_cases e : k = i
            · rw [e]; exact hif
            · exact hitm k (by omega)
          · refine z_iload_n O dX4_read_40 rfl ?_
            refine z_V1p0 O (m_takesItem hl hby hs hi him hri) mX4_takesItem lkX4_161 rfl (by rfl) dX4_read_41 (Nat.le_of_ble_eq_true rfl) (by decide) (fun x M' hq => ?_)
            obtain ⟨rfl, w2, fr2, nb2, st2', iw2, ig2, hr2, hsm2, rfl⟩ := hq
            refine z_if_neN O 55 dX4_read_44 (by decide) (by omega) (fun h44 => ?_) (fun h44 => by omega)
            refine z_iincN (lv' := [(0, _), (1, _)]) O 1 dX4_read_55 (by decide) rfl rfl (by decide) ?_
            refine z_aload_n O dX4_read_58 rfl ?_
            refine z_V0u0 O (m_token (at2 := iQ tx txl (i + 1)) hl hby (iQ_le tx txl (i + 1))) mX4_token lkX4_146 rfl (by rfl) dX4_read_59 (Nat.le_of_ble_eq_true rfl) (by decide) ?_
            refine z_goto O 24 dX4_read_62 (by decide) ?_
            exact ih w2 fr2 nb2 him hr2 (fun j hj => (hsm2 j hj).trans (hsm j hj)) (by
              by_cases h0 : tO tx txl (iQ tx txl (i + 1)) = 0
              · exact Or.inl ⟨by omega, h0, by rw [← hpc.2, show 25 - i = (25 - (i + 1)) + 1 by omega, prs_e hif h0]⟩
              · exact Or.inr ⟨Or.inr h0, by rw [← hpc.2, show 25 - i = (25 - (i + 1)) + 1 by omega, prs_n hif h0]⟩)
        · refine z_aload_n O dX4_read_39 rfl ?_
          refine z_iload_n O dX4_read_40 rfl ?_
          refine z_V1p0 O (m_takesItemN hl hby hi hif) mX4_takesItem lkX4_161 rfl (by rfl) dX4_read_41 (Nat.le_of_ble_eq_true rfl) (by decide) (fun x M' hq => ?_)
          obtain ⟨rfl, nb2, at3, iw2, ig2, rfl⟩ := hq
          refine z_if_neN O 55 dX4_read_44 (by decide) (by omega) (fun h44 => by omega) (fun h44 => ?_)
          refine z_bipush O (-10) dX4_read_47 (by decide) ?_
          refine z_aload_n O dX4_read_49 rfl ?_
          refine z_get O dX4_read_50 flX4_125 (by rfl) (by rfl) ?_
          refine z_isub O dX4_read_53 ?_
          exact z_iret O dX4_read_54 ⟨_, rfl, w', fr', _, _, _, _, _, Or.inl ⟨a, by rw [← hpc.2, show 25 - i = (25 - (i + 1)) + 1 by omega, prs_s hif], rfl, fun j hj => hsm j (by omega)⟩, rfl⟩
      · refine z_iload_n O dX4_read_35 rfl ?_
        refine z_if_neN O 65 dX4_read_36 (by decide) (by omega) (fun h36 => by exact absurd ⟨by omega, tO_0.mpr h32⟩ hst) (fun h36 => ?_)
        have hpc : (i = 0 ∨ ¬ tO tx txl (iQ tx txl i) = 0) ∧ prs tx txl (25 - i) i = prs tx txl 25 0 := by
          rcases hpr with q | q
          · exact absurd ⟨q.1, q.2.1⟩ hst
          · exact q
        rcases hif : itF tx txl i (iQ tx txl i) with _ | a
        · refine z_aload_n O dX4_read_39 rfl ?_
          have him : ITM tx txl (i + 1) := fun k hk => by
            by_cases e : k = i
            · rw [e]; exact hif
            · exact hitm k (by omega)
          · refine z_iload_n O dX4_read_40 rfl ?_
            refine z_V1p0 O (m_takesItem hl hby hs hi him hri) mX4_takesItem lkX4_161 rfl (by rfl) dX4_read_41 (Nat.le_of_ble_eq_true rfl) (by decide) (fun x M' hq => ?_)
            obtain ⟨rfl, w2, fr2, nb2, st2', iw2, ig2, hr2, hsm2, rfl⟩ := hq
            refine z_if_neN O 55 dX4_read_44 (by decide) (by omega) (fun h44 => ?_) (fun h44 => by omega)
            refine z_iincN (lv' := [(0, _), (1, _)]) O 1 dX4_read_55 (by decide) rfl rfl (by decide) ?_
            refine z_aload_n O dX4_read_58 rfl ?_
            refine z_V0u0 O (m_token (at2 := iQ tx txl (i + 1)) hl hby (iQ_le tx txl (i + 1))) mX4_token lkX4_146 rfl (by rfl) dX4_read_59 (Nat.le_of_ble_eq_true rfl) (by decide) ?_
            refine z_goto O 24 dX4_read_62 (by decide) ?_
            exact ih w2 fr2 nb2 him hr2 (fun j hj => (hsm2 j hj).trans (hsm j hj)) (by
              by_cases h0 : tO tx txl (iQ tx txl (i + 1)) = 0
              · exact Or.inl ⟨by omega, h0, by rw [← hpc.2, show 25 - i = (25 - (i + 1)) + 1 by omega, prs_e hif h0]⟩
              · exact Or.inr ⟨Or.inr h0, by rw [← hpc.2, show 25 - i = (25 - (i + 1)) + 1 by omega, prs_n hif h0]⟩)
        · refine z_aload_n O dX4_read_39 rfl ?_
          refine z_iload_n O dX4_read_40 rfl ?_
          refine z_V1p0 O (m_takesItemN hl hby hi hif) mX4_takesItem lkX4_161 rfl (by rfl) dX4_read_41 (Nat.le_of_ble_eq_true rfl) (by decide) (fun x M' hq => ?_)
          obtain ⟨rfl, nb2, at3, iw2, ig2, rfl⟩ := hq
          refine z_if_neN O 55 dX4_read_44 (by decide) (by omega) (fun h44 => by omega) (fun h44 => ?_)
          refine z_bipush O (-10) dX4_read_47 (by decide) ?_
          refine z_aload_n O dX4_read_49 rfl ?_
          refine z_get O dX4_read_50 flX4_125 (by rfl) (by rfl) ?_
          refine z_isub O dX4_read_53 ?_
          exact z_iret O dX4_read_54 ⟨_, rfl, w', fr', _, _, _, _, _, Or.inl ⟨a, by rw [← hpc.2, show 25 - i = (25 - (i + 1)) + 1 by omega, prs_s hif], rfl, fun j hj => hsm j (by omega)⟩, rfl⟩
end YS
section XI
variable {G : zG} {c0_ c1_ c2_ c3_ c4_ c5_ c6_ c7_ c8_ c9_ c10_ c11_ c12_ c13_ c14_ c15_ c16_ c17_ c18_ c19_ c20_ : va_E}
set_option maxRecDepth 20000 in
set_option maxHeartbeats 4000000 in
theorem m_init : zS G 2 yX4_init cX4_init 1 none [.ref (zad (zb G) 21)] ([c0_, c1_, c2_, c3_, c4_, c5_, c6_, c7_, c8_, c9_, c10_, c11_, c12_, c13_, c14_, c15_, c16_, c17_, c18_, c19_, c20_, .inr (4, [.null, .null, .null, .int 0, .null, .long 0, .long 0, .int 0, .int 0, .int 0, .int 0, .null, .int 0, .null, .null, .int 0, .null, .long 0])] : List va_E) 8 4096 (zU (yM G c0_ c1_ c2_ c3_ c4_ c5_ c6_ c7_ c8_ c9_ c10_ c11_ c12_ c13_ c14_ c15_ c16_ c17_ c18_ c19_ c20_ (begW (fun _ => 0) 0 0) (fun _ => 0) (fun _ => 0) 0 (fun _ => 0) (lN 0) (lN 1) 0 0 0 0 (fun _ => 0) 0 (fun _ => 0) (fun _ => 0) 0 (fun _ => 0) (lN 0) [])) := by
  refine zS.of (by decide) (Nat.le_of_ble_eq_true rfl) (fun F O hR1 hR2 => ?_)
  have O : zOk G F yX4_init cX4_init 1 none RX4 2 ([c0_, c1_, c2_, c3_, c4_, c5_, c6_, c7_, c8_, c9_, c10_, c11_, c12_, c13_, c14_, c15_, c16_, c17_, c18_, c19_, c20_, .inr (4, [.null, .null, .null, .int 0, .null, .long 0, .long 0, .int 0, .int 0, .int 0, .int 0, .null, .int 0, .null, .null, .int 0, .null, .long 0])] : List va_E).length := O
  refine z_eq (lv' := [(0, _)]) rfl rfl rfl ?_
  refine z_aload_n O dX4_init_0 rfl ?_
  refine z_objInit O dX4_init_1 lkX4_1 ko_i ko_c (Nat.le_of_ble_eq_true rfl) (by decide) ?_
  refine z_aload_n O dX4_init_4 rfl ?_
  refine z_sipush O (nI 3567) dX4_init_5 (by decide) ?_
  refine z_newI O 3567 (by rfl) dX4_init_8 ka_int (nI_pos (by decide)) (nI_clamp (by decide)) (by decide) (by rw [hR1]; decide) (by rw [hR2]; decide) ?_
  refine z_M (show _ = [c0_, c1_, c2_, c3_, c4_, c5_, c6_, c7_, c8_, c9_, c10_, c11_, c12_, c13_, c14_, c15_, c16_, c17_, c18_, c19_, c20_, .inr (4, [.null, .null, .null, .int 0, .null, .long 0, .long 0, .int 0, .int 0, .int 0, .int 0, .null, .int 0, .null, .null, .int 0, .null, .long 0]), zIN G 3567 (fun _ => 0)] from rfl) ?_
  refine z_putF O (by rfl) rfl dX4_init_10 flX4_7 (by rfl) rfl rfl (by simp) ?_
  refine z_M (show _ = [c0_, c1_, c2_, c3_, c4_, c5_, c6_, c7_, c8_, c9_, c10_, c11_, c12_, c13_, c14_, c15_, c16_, c17_, c18_, c19_, c20_, .inr (4, [.ref (zad (zb G) 22), .null, .null, .int 0, .null, .long 0, .long 0, .int 0, .int 0, .int 0, .int 0, .null, .int 0, .null, .null, .int 0, .null, .long 0]), zIN G 3567 (fun _ => 0)] from rfl) ?_
  refine z_aload_n O dX4_init_13 rfl ?_
  refine z_iconst O (nI 2) dX4_init_14 (by decide) ?_
  refine z_newB O 2 (by rfl) dX4_init_15 ka_boolean (nI_pos (by decide)) (nI_clamp (by decide)) (by decide) (by rw [hR1]; decide) (by rw [hR2]; decide) ?_
  refine z_M (show _ = [c0_, c1_, c2_, c3_, c4_, c5_, c6_, c7_, c8_, c9_, c10_, c11_, c12_, c13_, c14_, c15_, c16_, c17_, c18_, c19_, c20_, .inr (4, [.ref (zad (zb G) 22), .null, .null, .int 0, .null, .long 0, .long 0, .int 0, .int 0, .int 0, .int 0, .null, .int 0, .null, .null, .int 0, .null, .long 0]), zIN G 3567 (fun _ => 0), zBN G 2 (fun _ => 0)] from rfl) ?_
  refine z_putF O (by rfl) rfl dX4_init_17 flX4_13 (by rfl) rfl rfl (by simp) ?_
  refine z_M (show _ = [c0_, c1_, c2_, c3_, c4_, c5_, c6_, c7_, c8_, c9_, c10_, c11_, c12_, c13_, c14_, c15_, c16_, c17_, c18_, c19_, c20_, .inr (4, [.ref (zad (zb G) 22), .ref (zad (zb G) 23), .null, .int 0, .null, .long 0, .long 0, .int 0, .int 0, .int 0, .int 0, .null, .int 0, .null, .null, .int 0, .null, .long 0]), zIN G 3567 (fun _ => 0), zBN G 2 (fun _ => 0)] from rfl) ?_
  refine z_aload_n O dX4_init_20 rfl ?_
  refine z_sipush O (nI 150) dX4_init_21 (by decide) ?_
  refine z_newI O 150 (by rfl) dX4_init_24 ka_int (nI_pos (by decide)) (nI_clamp (by decide)) (by decide) (by rw [hR1]; decide) (by rw [hR2]; decide) ?_
  refine z_M (show _ = [c0_, c1_, c2_, c3_, c4_, c5_, c6_, c7_, c8_, c9_, c10_, c11_, c12_, c13_, c14_, c15_, c16_, c17_, c18_, c19_, c20_, .inr (4, [.ref (zad (zb G) 22), .ref (zad (zb G) 23), .null, .int 0, .null, .long 0, .long 0, .int 0, .int 0, .int 0, .int 0, .null, .int 0, .null, .null, .int 0, .null, .long 0]), zIN G 3567 (fun _ => 0), zBN G 2 (fun _ => 0), zIN G 150 (fun _ => 0)] from rfl) ?_
  refine z_putF O (by rfl) rfl dX4_init_26 flX4_17 (by rfl) rfl rfl (by simp) ?_
  refine z_M (show _ = [c0_, c1_, c2_, c3_, c4_, c5_, c6_, c7_, c8_, c9_, c10_, c11_, c12_, c13_, c14_, c15_, c16_, c17_, c18_, c19_, c20_, .inr (4, [.ref (zad (zb G) 22), .ref (zad (zb G) 23), .ref (zad (zb G) 24), .int 0, .null, .long 0, .long 0, .int 0, .int 0, .int 0, .int 0, .null, .int 0, .null, .null, .int 0, .null, .long 0]), zIN G 3567 (fun _ => 0), zBN G 2 (fun _ => 0), zIN G 150 (fun _ => 0)] from rfl) ?_
  refine z_aload_n O dX4_init_29 rfl ?_
  refine z_iconst O (nI 3) dX4_init_30 (by decide) ?_
  refine z_newI O 3 (by rfl) dX4_init_31 ka_int (nI_pos (by decide)) (nI_clamp (by decide)) (by decide) (by rw [hR1]; decide) (by rw [hR2]; decide) ?_
  refine z_M (show _ = [c0_, c1_, c2_, c3_, c4_, c5_, c6_, c7_, c8_, c9_, c10_, c11_, c12_, c13_, c14_, c15_, c16_, c17_, c18_, c19_, c20_, .inr (4, [.ref (zad (zb G) 22), .ref (zad (zb G) 23), .ref (zad (zb G) 24), .int 0, .null, .long 0, .long 0, .int 0, .int 0, .int 0, .int 0, .null, .int 0, .null, .null, .int 0, .null, .long 0]), zIN G 3567 (fun _ => 0), zBN G 2 (fun _ => 0), zIN G 150 (fun _ => 0), zIN G 3 (fun _ => 0)] from rfl) ?_
  refine z_putF O (by rfl) rfl dX4_init_33 flX4_20 (by rfl) rfl rfl (by simp) ?_
  refine z_M (show _ = [c0_, c1_, c2_, c3_, c4_, c5_, c6_, c7_, c8_, c9_, c10_, c11_, c12_, c13_, c14_, c15_, c16_, c17_, c18_, c19_, c20_, .inr (4, [.ref (zad (zb G) 22), .ref (zad (zb G) 23), .ref (zad (zb G) 24), .int 0, .ref (zad (zb G) 25), .long 0, .long 0, .int 0, .int 0, .int 0, .int 0, .null, .int 0, .null, .null, .int 0, .null, .long 0]), zIN G 3567 (fun _ => 0), zBN G 2 (fun _ => 0), zIN G 150 (fun _ => 0), zIN G 3 (fun _ => 0)] from rfl) ?_
  refine z_aload_n O dX4_init_36 rfl ?_
  refine z_lconst O (lN 1) dX4_init_37 (by decide) ?_
  refine z_put O (by rfl) dX4_init_38 flX4_23 (by rfl) rfl rfl (by simp) ?_
  refine z_M (show _ = [c0_, c1_, c2_, c3_, c4_, c5_, c6_, c7_, c8_, c9_, c10_, c11_, c12_, c13_, c14_, c15_, c16_, c17_, c18_, c19_, c20_, .inr (4, [.ref (zad (zb G) 22), .ref (zad (zb G) 23), .ref (zad (zb G) 24), .int 0, .ref (zad (zb G) 25), .long 0, .long (lN 1), .int 0, .int 0, .int 0, .int 0, .null, .int 0, .null, .null, .int 0, .null, .long 0]), zIN G 3567 (fun _ => 0), zBN G 2 (fun _ => 0), zIN G 150 (fun _ => 0), zIN G 3 (fun _ => 0)] from rfl) ?_
  refine z_aload_n O dX4_init_41 rfl ?_
  refine z_iconst O (nI 4) dX4_init_42 (by decide) ?_
  refine z_newI O 4 (by rfl) dX4_init_43 ka_int (nI_pos (by decide)) (nI_clamp (by decide)) (by decide) (by rw [hR1]; decide) (by rw [hR2]; decide) ?_
  refine z_M (show _ = [c0_, c1_, c2_, c3_, c4_, c5_, c6_, c7_, c8_, c9_, c10_, c11_, c12_, c13_, c14_, c15_, c16_, c17_, c18_, c19_, c20_, .inr (4, [.ref (zad (zb G) 22), .ref (zad (zb G) 23), .ref (zad (zb G) 24), .int 0, .ref (zad (zb G) 25), .long 0, .long (lN 1), .int 0, .int 0, .int 0, .int 0, .null, .int 0, .null, .null, .int 0, .null, .long 0]), zIN G 3567 (fun _ => 0), zBN G 2 (fun _ => 0), zIN G 150 (fun _ => 0), zIN G 3 (fun _ => 0), zIN G 4 (fun _ => 0)] from rfl) ?_
  refine z_putF O (by rfl) rfl dX4_init_45 flX4_27 (by rfl) rfl rfl (by simp) ?_
  refine z_M (show _ = [c0_, c1_, c2_, c3_, c4_, c5_, c6_, c7_, c8_, c9_, c10_, c11_, c12_, c13_, c14_, c15_, c16_, c17_, c18_, c19_, c20_, .inr (4, [.ref (zad (zb G) 22), .ref (zad (zb G) 23), .ref (zad (zb G) 24), .int 0, .ref (zad (zb G) 25), .long 0, .long (lN 1), .int 0, .int 0, .int 0, .int 0, .ref (zad (zb G) 26), .int 0, .null, .null, .int 0, .null, .long 0]), zIN G 3567 (fun _ => 0), zBN G 2 (fun _ => 0), zIN G 150 (fun _ => 0), zIN G 3 (fun _ => 0), zIN G 4 (fun _ => 0)] from rfl) ?_
  refine z_aload_n O dX4_init_48 rfl ?_
  refine z_sipush O (nI 279) dX4_init_49 (by decide) ?_
  refine z_newI O 279 (by rfl) dX4_init_52 ka_int (nI_pos (by decide)) (nI_clamp (by decide)) (by decide) (by rw [hR1]; decide) (by rw [hR2]; decide) ?_
  refine z_M (show _ = [c0_, c1_, c2_, c3_, c4_, c5_, c6_, c7_, c8_, c9_, c10_, c11_, c12_, c13_, c14_, c15_, c16_, c17_, c18_, c19_, c20_, .inr (4, [.ref (zad (zb G) 22), .ref (zad (zb G) 23), .ref (zad (zb G) 24), .int 0, .ref (zad (zb G) 25), .long 0, .long (lN 1), .int 0, .int 0, .int 0, .int 0, .ref (zad (zb G) 26), .int 0, .null, .null, .int 0, .null, .long 0]), zIN G 3567 (fun _ => 0), zBN G 2 (fun _ => 0), zIN G 150 (fun _ => 0), zIN G 3 (fun _ => 0), zIN G 4 (fun _ => 0), zIN G 279 (fun _ => 0)] from rfl) ?_
  refine z_putF O (by rfl) rfl dX4_init_54 flX4_30 (by rfl) rfl rfl (by simp) ?_
  refine z_M (show _ = [c0_, c1_, c2_, c3_, c4_, c5_, c6_, c7_, c8_, c9_, c10_, c11_, c12_, c13_, c14_, c15_, c16_, c17_, c18_, c19_, c20_, .inr (4, [.ref (zad (zb G) 22), .ref (zad (zb G) 23), .ref (zad (zb G) 24), .int 0, .ref (zad (zb G) 25), .long 0, .long (lN 1), .int 0, .int 0, .int 0, .int 0, .ref (zad (zb G) 26), .int 0, .ref (zad (zb G) 27), .null, .int 0, .null, .long 0]), zIN G 3567 (fun _ => 0), zBN G 2 (fun _ => 0), zIN G 150 (fun _ => 0), zIN G 3 (fun _ => 0), zIN G 4 (fun _ => 0), zIN G 279 (fun _ => 0)] from rfl) ?_
  refine z_aload_n O dX4_init_57 rfl ?_
  refine z_bipush O (nI 27) dX4_init_58 (by decide) ?_
  refine z_newI O 27 (by rfl) dX4_init_60 ka_int (nI_pos (by decide)) (nI_clamp (by decide)) (by decide) (by rw [hR1]; decide) (by rw [hR2]; decide) ?_
  refine z_M (show _ = [c0_, c1_, c2_, c3_, c4_, c5_, c6_, c7_, c8_, c9_, c10_, c11_, c12_, c13_, c14_, c15_, c16_, c17_, c18_, c19_, c20_, .inr (4, [.ref (zad (zb G) 22), .ref (zad (zb G) 23), .ref (zad (zb G) 24), .int 0, .ref (zad (zb G) 25), .long 0, .long (lN 1), .int 0, .int 0, .int 0, .int 0, .ref (zad (zb G) 26), .int 0, .ref (zad (zb G) 27), .null, .int 0, .null, .long 0]), zIN G 3567 (fun _ => 0), zBN G 2 (fun _ => 0), zIN G 150 (fun _ => 0), zIN G 3 (fun _ => 0), zIN G 4 (fun _ => 0), zIN G 279 (fun _ => 0), zIN G 27 (fun _ => 0)] from rfl) ?_
  refine z_putF O (by rfl) rfl dX4_init_62 flX4_33 (by rfl) rfl rfl (by simp) ?_
  refine z_M (show _ = [c0_, c1_, c2_, c3_, c4_, c5_, c6_, c7_, c8_, c9_, c10_, c11_, c12_, c13_, c14_, c15_, c16_, c17_, c18_, c19_, c20_, .inr (4, [.ref (zad (zb G) 22), .ref (zad (zb G) 23), .ref (zad (zb G) 24), .int 0, .ref (zad (zb G) 25), .long 0, .long (lN 1), .int 0, .int 0, .int 0, .int 0, .ref (zad (zb G) 26), .int 0, .ref (zad (zb G) 27), .ref (zad (zb G) 28), .int 0, .null, .long 0]), zIN G 3567 (fun _ => 0), zBN G 2 (fun _ => 0), zIN G 150 (fun _ => 0), zIN G 3 (fun _ => 0), zIN G 4 (fun _ => 0), zIN G 279 (fun _ => 0), zIN G 27 (fun _ => 0)] from rfl) ?_
  refine z_aload_n O dX4_init_65 rfl ?_
  refine z_bipush O (nI 64) dX4_init_66 (by decide) ?_
  refine z_newI O 64 (by rfl) dX4_init_68 ka_int (nI_pos (by decide)) (nI_clamp (by decide)) (by decide) (by rw [hR1]; decide) (by rw [hR2]; decide) ?_
  refine z_M (show _ = [c0_, c1_, c2_, c3_, c4_, c5_, c6_, c7_, c8_, c9_, c10_, c11_, c12_, c13_, c14_, c15_, c16_, c17_, c18_, c19_, c20_, .inr (4, [.ref (zad (zb G) 22), .ref (zad (zb G) 23), .ref (zad (zb G) 24), .int 0, .ref (zad (zb G) 25), .long 0, .long (lN 1), .int 0, .int 0, .int 0, .int 0, .ref (zad (zb G) 26), .int 0, .ref (zad (zb G) 27), .ref (zad (zb G) 28), .int 0, .null, .long 0]), zIN G 3567 (fun _ => 0), zBN G 2 (fun _ => 0), zIN G 150 (fun _ => 0), zIN G 3 (fun _ => 0), zIN G 4 (fun _ => 0), zIN G 279 (fun _ => 0), zIN G 27 (fun _ => 0), zIN G 64 (fun _ => 0)] from rfl) ?_
  refine z_putF O (by rfl) rfl dX4_init_70 flX4_36 (by rfl) rfl rfl (by simp) ?_
  refine z_M (show _ = [c0_, c1_, c2_, c3_, c4_, c5_, c6_, c7_, c8_, c9_, c10_, c11_, c12_, c13_, c14_, c15_, c16_, c17_, c18_, c19_, c20_, .inr (4, [.ref (zad (zb G) 22), .ref (zad (zb G) 23), .ref (zad (zb G) 24), .int 0, .ref (zad (zb G) 25), .long 0, .long (lN 1), .int 0, .int 0, .int 0, .int 0, .ref (zad (zb G) 26), .int 0, .ref (zad (zb G) 27), .ref (zad (zb G) 28), .int 0, .ref (zad (zb G) 29), .long 0]), zIN G 3567 (fun _ => 0), zBN G 2 (fun _ => 0), zIN G 150 (fun _ => 0), zIN G 3 (fun _ => 0), zIN G 4 (fun _ => 0), zIN G 279 (fun _ => 0), zIN G 27 (fun _ => 0), zIN G 64 (fun _ => 0)] from rfl) ?_
  refine z_M (show _ = (yM G c0_ c1_ c2_ c3_ c4_ c5_ c6_ c7_ c8_ c9_ c10_ c11_ c12_ c13_ c14_ c15_ c16_ c17_ c18_ c19_ c20_ (fun _ => 0) (fun _ => 0) (fun _ => 0) 0 (fun _ => 0) (lN 0) (lN 1) 0 0 0 0 (fun _ => 0) 0 (fun _ => 0) (fun _ => 0) 0 (fun _ => 0) (lN 0) []) from rfl) ?_
  refine z_aload_n O dX4_init_73 rfl ?_
  refine z_iconst O (nI 0) dX4_init_74 (by decide) ?_
  refine z_iconst O (nI 0) dX4_init_75 (by decide) ?_
  refine z_V2u O (m_begins (by decide)) mX4_begins lkX4_39 rfl (by rfl) dX4_init_76 (Nat.le_of_ble_eq_true rfl) (by decide) ⟨by rw [hR1]; decide, by rw [hR2]; decide⟩ ?_
  exact z_vret O dX4_init_79 ⟨rfl, rfl⟩
end XI
