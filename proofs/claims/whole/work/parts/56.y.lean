/-! ===== the reference: tokens ===== -/
def btI (t : Nat → Nat) (len k : Nat) : Int32 := if k < len then nI (t k) else -1
theorem bt_in {t : Nat → Nat} {len k : Nat} (h : k < len) : btI t len k = nI (t k) := if_pos h
theorem bt_eq {t : Nat → Nat} {len k b : Nat} (ht : ∀ j, t j ≤ 127) (hb : b < 128) : btI t len k = nI b ↔ k < len ∧ t k = b := by
  unfold btI
  by_cases h : k < len
  · rw [if_pos h]
    have := ht k
    exact ⟨fun q => ⟨h, (nI_eq (by omega) (by omega)).mp q⟩, fun q => by rw [q.2]⟩
  · rw [if_neg h]
    exact ⟨fun q => absurd q.symm (m1_ne (by omega)), fun q => absurd q.1 h⟩
theorem bt_rng {t : Nat → Nat} {len k a b : Nat} (ht : ∀ j, t j ≤ 127) (ha : a < 128) (hb : b < 128) : (nI a ≤ btI t len k ∧ btI t len k ≤ nI b) ↔ k < len ∧ a ≤ t k ∧ t k ≤ b := by
  unfold btI
  by_cases h : k < len
  · rw [if_pos h]
    have := ht k
    rw [nI_leI (by omega) (by omega), nI_leI (by omega) (by omega)]
    exact ⟨fun q => ⟨h, q⟩, fun q => q.2⟩
  · rw [if_neg h]
    refine ⟨fun q => ?_, fun q => absurd q.1 h⟩
    have h1 := q.1
    rw [Int32.le_iff_toInt_le, nI_toInt (by omega), m1_toInt] at h1
    omega
theorem bt_L {t : Nat → Nat} {len k : Nat} (ht : ∀ j, t j ≤ 127) : (nI 97 ≤ btI t len k ∧ btI t len k ≤ nI 122) ↔ k < len ∧ LTb t k = true := by
  rw [bt_rng ht (by decide) (by decide)]
  unfold LTb
  rw [decide_eq_true_eq]
theorem bt_F {t : Nat → Nat} {len k : Nat} (ht : ∀ j, t j ≤ 127) : (nI 48 ≤ btI t len k ∧ btI t len k ≤ nI 57) ↔ k < len ∧ FGb t k = true := by
  rw [bt_rng ht (by decide) (by decide)]
  unfold FGb
  rw [decide_eq_true_eq]
theorem LF_no {t : Nat → Nat} {k : Nat} (h : LTb t k = true) : ¬ FGb t k = true := fun q => by
  have h1 := of_decide_eq_true h
  have h2 := of_decide_eq_true q
  omega
def wB (t : Nat → Nat) (len p : Nat) : Prop := tS t len p < len ∧ LTb t (tS t len p) = true
def fB (t : Nat → Nat) (len p : Nat) : Prop := tS t len p < len ∧ FGb t (tS t len p) = true
def iW (t : Nat → Nat) (len p : Nat) : Int32 := bI (tS t len p < len ∧ LTb t (tS t len p) = true)
def iF (t : Nat → Nat) (len p : Nat) : Int32 := bI (tS t len p < len ∧ FGb t (tS t len p) = true)
theorem ltN_0 : ∀ w, w < 3 → ∀ v, v < 3 → ltN w 0 = ltN v 0 → w = v := by decide +kernel
theorem sp_0 {t : Nat → Nat} {s e w : Nat} (h : spB t s e w = true) : e = s + 4 ∧ t (s + 0) = ltN w 0 ∧ t (s + 1) = ltN w 1 ∧ t (s + 2) = ltN w 2 ∧ t (s + 3) = ltN w 3 := by
  unfold spB spJ spJ spJ spJ spJ at h
  simp only [Bool.and_eq_true, decide_eq_true_eq] at h
  exact ⟨h.1, h.2.1.1.1.2, h.2.1.1.2, h.2.1.2, h.2.2⟩
theorem sp_1 {t : Nat → Nat} {s e w : Nat} (h : e = s + 4 ∧ t (s + 0) = ltN w 0 ∧ t (s + 1) = ltN w 1 ∧ t (s + 2) = ltN w 2 ∧ t (s + 3) = ltN w 3) : spB t s e w = true := by
  unfold spB spJ spJ spJ spJ spJ
  simp only [Bool.and_eq_true, decide_eq_true_eq]
  exact ⟨h.1, ⟨⟨⟨trivial, h.2.1⟩, h.2.2.1⟩, h.2.2.2.1⟩, h.2.2.2.2⟩
theorem sp_uni {t : Nat → Nat} {s e w v : Nat} (h1 : spB t s e w = true) (h2 : spB t s e v = true) (hw : w < 3) (hv : v < 3) : w = v := ltN_0 w hw v hv ((sp_0 h1).2.1.symm.trans (sp_0 h2).2.1)
/-- the word that is met */ -/
def wdW (t : Nat → Nat) (len p : Nat) : Option Nat := if tS t len p < len ∧ LTb t (tS t len p) = true then wdO t len p else none
theorem wdW_1 {t : Nat → Nat} {len p : Nat} : tO t len p = 1 ↔ wdW t len p ≠ none := by
  unfold tO wdW
  by_cases h1 : tS t len p < len
  · rw [if_pos h1]
    by_cases h2 : LTb t (tS t len p) = true
    · rw [if_pos h2, if_pos (c := tS t len p < len ∧ LTb t (tS t len p) = true) ⟨h1, h2⟩]
      by_cases h3 : wdO t len p = none
      · rw [if_pos h3]
        exact ⟨fun q => absurd q (by decide), fun q => absurd h3 q⟩
      · rw [if_neg h3]
        exact ⟨fun _ => h3, fun _ => rfl⟩
    · rw [if_neg h2, if_neg (c := tS t len p < len ∧ LTb t (tS t len p) = true) (fun q => h2 q.2)]
      refine ⟨fun q => ?_, fun q => absurd rfl q⟩
      split at q
      · split at q <;> omega
      · split at q <;> omega
  · rw [if_neg h1, if_neg (fun q => h1 q.1)]
    exact ⟨fun q => absurd q (by decide), fun q => absurd rfl q⟩
theorem wdW_s {t : Nat → Nat} {len p : Nat} (h : tO t len p = 1) : wdW t len p = some (wdT t len p) := by
  have hto := tO_1 h
  unfold wdW
  rw [if_pos ⟨hto.2.2.1, hto.2.2.2.1⟩]
  exact hto.2.2.2.2
theorem tO_0 {t : Nat → Nat} {len p : Nat} : tO t len p = 0 ↔ ¬ tS t len p < len := by
  unfold tO
  by_cases h1 : tS t len p < len
  · rw [if_pos h1]
    refine ⟨fun q => ?_, fun q => absurd h1 q⟩
    repeat' (split at q)
    all_goals omega
  · rw [if_neg h1]
    exact ⟨fun _ => h1, fun _ => rfl⟩
theorem tO_2i {t : Nat → Nat} {len p : Nat} (h1 : tS t len p < len) (h2 : FGb t (tS t len p) = true) (h3 : ¬ 2 < tE t len p - tS t len p) : tO t len p = 2 := by
  unfold tO
  rw [if_pos h1, if_neg (fun q => LF_no q h2), if_pos h2, if_neg h3]
theorem tO_3 {t : Nat → Nat} {len p : Nat} : tO t len p = 3 ↔ tS t len p < len ∧ t (tS t len p) = 59 := by
  constructor
  · intro h
    unfold tO at h
    split at h
    · rename_i h1
      refine ⟨h1, ?_⟩
      split at h
      · split at h <;> omega
      · split at h
        · split at h <;> omega
        · split at h
          · rename_i h4; exact h4
          · omega
    · omega
  · rintro ⟨h1, h2⟩
    unfold tO
    rw [if_pos h1, if_neg (fun q => by have := of_decide_eq_true q; omega), if_neg (fun q => by have := of_decide_eq_true q; omega), if_pos h2]
theorem updN_u (f : Nat → Nat) (k a b : Nat) : updN (updN f k a) k b = updN f k b := by
  funext j
  unfold updN
  split <;> rfl
section YS
variable {G : zG} {c0_ c1_ c2_ c3_ c4_ c5_ c6_ c7_ c8_ c9_ c10_ c11_ c12_ c13_ c14_ c15_ c16_ c17_ c18_ c19_ c20_ : va_E} {w kp tx : Nat → Nat} {txl : Nat} {rf : Nat → Nat} {ya yb : Int64} {at2 st2 : Nat} {iwd ifg : Int32} {nb : Nat → Nat} {fr : Int32} {la nms : Nat → Nat} {nd : Nat} {wf : Nat → Nat} {hh : Int64} {tl : List va_E}
set_option maxRecDepth 20000 in
set_option maxHeartbeats 4000000 in
theorem m_byteAt (hl : txl ≤ 150) {k : Nat} (hk1 : k < 2 ^ 31) : zS G 1 yX4_byteAt cX4_byteAt 2 (some .int) [.ref (zad (zb G) 21), .int (nI k)] (yM G c0_ c1_ c2_ c3_ c4_ c5_ c6_ c7_ c8_ c9_ c10_ c11_ c12_ c13_ c14_ c15_ c16_ c17_ c18_ c19_ c20_ w kp tx txl rf ya yb at2 st2 iwd ifg nb fr la nms nd wf hh tl) 0 0 (zE (.int (btI tx txl k)) (yM G c0_ c1_ c2_ c3_ c4_ c5_ c6_ c7_ c8_ c9_ c10_ c11_ c12_ c13_ c14_ c15_ c16_ c17_ c18_ c19_ c20_ w kp tx txl rf ya yb at2 st2 iwd ifg nb fr la nms nd wf hh tl)) := by
  refine zS.of (by decide) (Nat.le_of_ble_eq_true rfl) (fun F O hR1 hR2 => ?_)
  have O : zOk G F yX4_byteAt cX4_byteAt 2 (some .int) RX4 1 (yM G c0_ c1_ c2_ c3_ c4_ c5_ c6_ c7_ c8_ c9_ c10_ c11_ c12_ c13_ c14_ c15_ c16_ c17_ c18_ c19_ c20_ w kp tx txl rf ya yb at2 st2 iwd ifg nb fr la nms nd wf hh tl).length := O
  refine z_eq (lv' := [(0, _), (1, _)]) rfl rfl rfl ?_
  by_cases hk : k < txl
  · refine z_iload_n O dX4_byteAt_0 rfl ?_
    refine z_aload_n O dX4_byteAt_1 rfl ?_
    refine z_get O dX4_byteAt_2 flX4_115 (by rfl) (by rfl) ?_
    refine z_icmp_geN O 17 dX4_byteAt_5 (by decide) (by omega) (by omega) (fun h5 => by omega) (fun h5 => ?_)
    refine z_aload_n O dX4_byteAt_8 rfl ?_
    refine z_get O dX4_byteAt_9 flX4_17 (by rfl) (by rfl) ?_
    refine z_iload_n O dX4_byteAt_12 rfl ?_
    refine z_ialdN O dX4_byteAt_13 (by rfl) (by omega) (by decide) ?_
    refine z_goto O 18 dX4_byteAt_14 (by decide) ?_
    exact z_iret O dX4_byteAt_18 ⟨by rw [bt_in hk], rfl⟩
  · refine z_iload_n O dX4_byteAt_0 rfl ?_
    refine z_aload_n O dX4_byteAt_1 rfl ?_
    refine z_get O dX4_byteAt_2 flX4_115 (by rfl) (by rfl) ?_
    refine z_icmp_geN O 17 dX4_byteAt_5 (by decide) (by omega) (by omega) (fun h5 => ?_) (fun h5 => by omega)
    refine z_iconst O (-1) dX4_byteAt_17 (by decide) ?_
    exact z_iret O dX4_byteAt_18 ⟨by rw [btI, if_neg hk], rfl⟩
set_option maxRecDepth 20000 in
set_option maxHeartbeats 4000000 in
theorem m_token (hl : txl ≤ 150) (hby : ∀ j, tx j ≤ 127) (hal : at2 ≤ txl) : zS G 2 yX4_token cX4_token 1 none [.ref (zad (zb G) 21)] (yM G c0_ c1_ c2_ c3_ c4_ c5_ c6_ c7_ c8_ c9_ c10_ c11_ c12_ c13_ c14_ c15_ c16_ c17_ c18_ c19_ c20_ w kp tx txl rf ya yb at2 st2 iwd ifg nb fr la nms nd wf hh tl) 0 0 (zU (yM G c0_ c1_ c2_ c3_ c4_ c5_ c6_ c7_ c8_ c9_ c10_ c11_ c12_ c13_ c14_ c15_ c16_ c17_ c18_ c19_ c20_ w kp tx txl rf ya yb (tE tx txl at2) (tS tx txl at2) (iW tx txl at2) (iF tx txl at2) nb fr la nms nd wf hh tl)) := by
  refine zS.of (by decide) (Nat.le_of_ble_eq_true rfl) (fun F O hR1 hR2 => ?_)
  have O : zOk G F yX4_token cX4_token 1 none RX4 2 (yM G c0_ c1_ c2_ c3_ c4_ c5_ c6_ c7_ c8_ c9_ c10_ c11_ c12_ c13_ c14_ c15_ c16_ c17_ c18_ c19_ c20_ w kp tx txl rf ya yb at2 st2 iwd ifg nb fr la nms nd wf hh tl).length := O
  refine z_eq (lv' := [(0, _)]) rfl rfl rfl ?_
  have hge : at2 ≤ (tS tx txl at2) := rn_ge (SPb tx) txl at2
  have hle : (tS tx txl at2) ≤ txl := rn_le hal
  have hen : ¬ ((tS tx txl at2) < txl ∧ SPb tx (tS tx txl at2) = true) := rn_end (SPb tx) txl at2
  refine z_M (show _ = (yM G c0_ c1_ c2_ c3_ c4_ c5_ c6_ c7_ c8_ c9_ c10_ c11_ c12_ c13_ c14_ c15_ c16_ c17_ c18_ c19_ c20_ w kp tx txl rf ya yb (at2 + 0) st2 iwd ifg nb fr la nms nd wf hh tl) from rfl) ?_
  refine zdown (P := fun k => Z G F 0 0 (zEnd G F (zU (yM G c0_ c1_ c2_ c3_ c4_ c5_ c6_ c7_ c8_ c9_ c10_ c11_ c12_ c13_ c14_ c15_ c16_ c17_ c18_ c19_ c20_ w kp tx txl rf ya yb (tE tx txl at2) (tS tx txl at2) (iW tx txl at2) (iF tx txl at2) nb fr la nms nd wf hh tl)) 0 0) 0 [(0, .ref (zad (zb G) 21))] [] (yM G c0_ c1_ c2_ c3_ c4_ c5_ c6_ c7_ c8_ c9_ c10_ c11_ c12_ c13_ c14_ c15_ c16_ c17_ c18_ c19_ c20_ w kp tx txl rf ya yb (at2 + k) st2 iwd ifg nb fr la nms nd wf hh tl)) ((tS tx txl at2) - at2) ?_ ?_ 
  · rw [show at2 + ((tS tx txl at2) - at2) = (tS tx txl at2) by omega]
    refine z_aload_n O dX4_token_0 rfl ?_
    refine z_aload_n O dX4_token_1 rfl ?_
    refine z_get O dX4_token_2 flX4_119 (by rfl) (by rfl) ?_
    refine z_V1e0 O (m_byteAt hl (by omega)) mX4_byteAt lkX4_122 rfl (by rfl) dX4_token_5 (Nat.le_of_ble_eq_true rfl) (by decide) ?_
    refine z_bipush O (nI 32) dX4_token_8 (by decide) ?_
    refine z_icmp_ne O 26 dX4_token_10 (by decide) (fun h10 => ?_) (fun h10 => by exact absurd (by have q := (bt_eq hby (by decide)).mp h10; exact ⟨q.1, decide_eq_true q.2⟩) hen)
    refine z_aload_n O dX4_token_26 rfl ?_
    refine z_aload_n O dX4_token_27 rfl ?_
    refine z_get O dX4_token_28 flX4_119 (by rfl) (by rfl) ?_
    refine z_put O (by rfl) dX4_token_31 flX4_125 (by rfl) rfl rfl (by simp) ?_
    refine z_aload_n O dX4_token_34 rfl ?_
    refine z_aload_n O dX4_token_35 rfl ?_
    refine z_aload_n O dX4_token_36 rfl ?_
    refine z_get O dX4_token_37 flX4_119 (by rfl) (by rfl) ?_
    refine z_V1e0 O (m_byteAt hl (by omega)) mX4_byteAt lkX4_122 rfl (by rfl) dX4_token_40 (Nat.le_of_ble_eq_true rfl) (by decide) ?_
    refine z_i2l O dX4_token_43 ?_
    refine z_ldc2 O dX4_token_44 klX4_128 ?_
    refine z_top (v' := .long (lN 97)) (by decide) ?_
    refine z_ldc2 O dX4_token_47 klX4_130 ?_
    refine z_top (v' := .long (lN 122)) (by decide) ?_
    refine z_S3e0 O (m_inI (by decide) (by decide)) mX4_in lkX4_45 dX4_token_50 (Nat.le_of_ble_eq_true rfl) (by decide) ?_
    refine z_top (v' := .int (bI ((tS tx txl at2) < txl ∧ LTb tx (tS tx txl at2) = true))) (congrArg Value.int (bI_congr (bt_L hby))) ?_
    refine z_put O (by rfl) dX4_token_53 flX4_132 (by rfl) bI_nar bI_fit (by simp) ?_
    refine z_aload_n O dX4_token_56 rfl ?_
    refine z_aload_n O dX4_token_57 rfl ?_
    refine z_aload_n O dX4_token_58 rfl ?_
    refine z_get O dX4_token_59 flX4_119 (by rfl) (by rfl) ?_
    refine z_V1e0 O (m_byteAt hl (by omega)) mX4_byteAt lkX4_122 rfl (by rfl) dX4_token_62 (Nat.le_of_ble_eq_true rfl) (by decide) ?_
    refine z_i2l O dX4_token_65 ?_
    refine z_ldc2 O dX4_token_66 klX4_136 ?_
    refine z_top (v' := .long (lN 48)) (by decide) ?_
    refine z_ldc2 O dX4_token_69 klX4_138 ?_
    refine z_top (v' := .long (lN 57)) (by decide) ?_
    refine z_S3e0 O (m_inI (by decide) (by decide)) mX4_in lkX4_45 dX4_token_72 (Nat.le_of_ble_eq_true rfl) (by decide) ?_
    refine z_top (v' := .int (bI ((tS tx txl at2) < txl ∧ FGb tx (tS tx txl at2) = true))) (congrArg Value.int (bI_congr (bt_F hby))) ?_
    refine z_put O (by rfl) dX4_token_75 flX4_140 (by rfl) bI_nar bI_fit (by simp) ?_
    by_cases hsl : (tS tx txl at2) < txl
    · refine z_aload_n O dX4_token_78 rfl ?_
      by_cases hlt : LTb tx (tS tx txl at2) = true
      · refine z_dup O dX4_token_79 rfl ?_
        have hE : (tE tx txl at2) = (rn (LTb tx) txl (tS tx txl at2)) := (if_pos hsl).trans (if_pos hlt)
        have hgt : (tS tx txl at2) < (tE tx txl at2) := by
          rw [hE]
          rcases Nat.lt_or_ge (tS tx txl at2) (rn (LTb tx) txl (tS tx txl at2)) with q | q
          · exact q
          · have q2 : (rn (LTb tx) txl (tS tx txl at2)) = (tS tx txl at2) := Nat.le_antisymm q (rn_ge _ _ _)
            have q3 := rn_end (LTb tx) txl (tS tx txl at2)
            rw [q2] at q3
            exact absurd ⟨hsl, hlt⟩ q3
        have hel : (tE tx txl at2) ≤ txl := (tE_le hal).2
        refine z_get O dX4_token_80 flX4_119 (by rfl) (by rfl) ?_
        refine z_aload_n O dX4_token_83 rfl ?_
        refine z_get O dX4_token_84 flX4_119 (by rfl) (by rfl) ?_
        refine z_aload_n O dX4_token_87 rfl ?_
        refine z_get O dX4_token_88 flX4_115 (by rfl) (by rfl) ?_
        refine z_icmp_geN O 98 dX4_token_91 (by decide) (by omega) (by omega) (fun h91 => by omega) (fun h91 => ?_)
        refine z_iconst O (nI 1) dX4_token_94 (by decide) ?_
        refine z_goto O 99 dX4_token_95 (by decide) ?_
        refine z_iaddN O dX4_token_99 ?_
        refine z_put O (by rfl) dX4_token_100 flX4_119 (by rfl) rfl rfl (by simp) ?_
        refine z_M (show _ = (yM G c0_ c1_ c2_ c3_ c4_ c5_ c6_ c7_ c8_ c9_ c10_ c11_ c12_ c13_ c14_ c15_ c16_ c17_ c18_ c19_ c20_ w kp tx txl rf ya yb ((tS tx txl at2) + 1 + 0) ((tS tx txl at2)) (bI ((tS tx txl at2) < txl ∧ LTb tx (tS tx txl at2) = true)) (bI ((tS tx txl at2) < txl ∧ FGb tx (tS tx txl at2) = true)) nb fr la nms nd wf hh tl) from rfl) ?_
        refine zdown (P := fun k => Z G F 0 0 (zEnd G F (zU (yM G c0_ c1_ c2_ c3_ c4_ c5_ c6_ c7_ c8_ c9_ c10_ c11_ c12_ c13_ c14_ c15_ c16_ c17_ c18_ c19_ c20_ w kp tx txl rf ya yb (tE tx txl at2) (tS tx txl at2) (iW tx txl at2) (iF tx txl at2) nb fr la nms nd wf hh tl)) 0 0) 103 [(0, .ref (zad (zb G) 21))] [] (yM G c0_ c1_ c2_ c3_ c4_ c5_ c6_ c7_ c8_ c9_ c10_ c11_ c12_ c13_ c14_ c15_ c16_ c17_ c18_ c19_ c20_ w kp tx txl rf ya yb ((tS tx txl at2) + 1 + k) ((tS tx txl at2)) (bI ((tS tx txl at2) < txl ∧ LTb tx (tS tx txl at2) = true)) (bI ((tS tx txl at2) < txl ∧ FGb tx (tS tx txl at2) = true)) nb fr la nms nd wf hh tl)) ((tE tx txl at2) - ((tS tx txl at2) + 1)) ?_ ?_ 
        · rw [show (tS tx txl at2) + 1 + ((tE tx txl at2) - ((tS tx txl at2) + 1)) = (tE tx txl at2) by omega]
          have hend : ¬ ((tE tx txl at2) < txl ∧ LTb tx (tE tx txl at2) = true) := by rw [hE]; exact rn_end (LTb tx) txl (tS tx txl at2)
          refine z_aload_n O dX4_token_103 rfl ?_
          refine z_get O dX4_token_104 flX4_132 (by rfl) (by rfl) ?_
          refine z_if_eqB O 131 dX4_token_107 (by decide) (fun h107 => by exact absurd ⟨hsl, hlt⟩ h107) (fun h107 => ?_)
          refine z_aload_n O dX4_token_110 rfl ?_
          refine z_aload_n O dX4_token_111 rfl ?_
          refine z_get O dX4_token_112 flX4_119 (by rfl) (by rfl) ?_
          refine z_V1e0 O (m_byteAt hl (by omega)) mX4_byteAt lkX4_122 rfl (by rfl) dX4_token_115 (Nat.le_of_ble_eq_true rfl) (by decide) ?_
          refine z_i2l O dX4_token_118 ?_
          refine z_ldc2 O dX4_token_119 klX4_128 ?_
          refine z_top (v' := .long (lN 97)) (by decide) ?_
          refine z_ldc2 O dX4_token_122 klX4_130 ?_
          refine z_top (v' := .long (lN 122)) (by decide) ?_
          refine z_S3e0 O (m_inI (by decide) (by decide)) mX4_in lkX4_45 dX4_token_125 (Nat.le_of_ble_eq_true rfl) (by decide) ?_
          refine z_top (v' := .int (bI ((tE tx txl at2) < txl ∧ LTb tx (tE tx txl at2) = true))) (congrArg Value.int (bI_congr (bt_L hby))) ?_
          refine z_if_neB O 159 dX4_token_128 (by decide) (fun h128 => by exact absurd h128 hend) (fun h128 => ?_)
          refine z_aload_n O dX4_token_131 rfl ?_
          refine z_get O dX4_token_132 flX4_140 (by rfl) (by rfl) ?_
          refine z_if_eqB O 172 dX4_token_135 (by decide) (fun h135 => ?_) (fun h135 => by exact absurd h135.2 (LF_no hlt))
          exact z_vret O dX4_token_172 ⟨rfl, rfl⟩
        · intro k hk ih 
          have hin := rn_in (p := LTb tx) (len := txl) (q := (tS tx txl at2)) (i := (tS tx txl at2) + 1 + k) (by omega) (by omega)
          refine z_aload_n O dX4_token_103 rfl ?_
          refine z_get O dX4_token_104 flX4_132 (by rfl) (by rfl) ?_
          refine z_if_eqB O 131 dX4_token_107 (by decide) (fun h107 => by exact absurd ⟨hsl, hlt⟩ h107) (fun h107 => ?_)
          refine z_aload_n O dX4_token_110 rfl ?_
          refine z_aload_n O dX4_token_111 rfl ?_
          refine z_get O dX4_token_112 flX4_119 (by rfl) (by rfl) ?_
          refine z_V1e0 O (m_byteAt hl (by omega)) mX4_byteAt lkX4_122 rfl (by rfl) dX4_token_115 (Nat.le_of_ble_eq_true rfl) (by decide) ?_
          refine z_i2l O dX4_token_118 ?_
          refine z_ldc2 O dX4_token_119 klX4_128 ?_
          refine z_top (v' := .long (lN 97)) (by decide) ?_
          refine z_ldc2 O dX4_token_122 klX4_130 ?_
          refine z_top (v' := .long (lN 122)) (by decide) ?_
          refine z_S3e0 O (m_inI (by decide) (by decide)) mX4_in lkX4_45 dX4_token_125 (Nat.le_of_ble_eq_true rfl) (by decide) ?_
          refine z_top (v' := .int (bI (((tS tx txl at2) + 1 + k) < txl ∧ LTb tx ((tS tx txl at2) + 1 + k) = true))) (congrArg Value.int (bI_congr (bt_L hby))) ?_
          refine z_if_neB O 159 dX4_token_128 (by decide) (fun h128 => ?_) (fun h128 => by exact absurd hin h128)
          refine z_aload_n O dX4_token_159 rfl ?_
          refine z_dup O dX4_token_160 rfl ?_
          refine z_get O dX4_token_161 flX4_119 (by rfl) (by rfl) ?_
          refine z_iconst O (nI 1) dX4_token_164 (by decide) ?_
          refine z_iaddN O dX4_token_165 ?_
          refine z_put O (by rfl) dX4_token_166 flX4_119 (by rfl) rfl rfl (by simp) ?_
          refine z_M (show _ = (yM G c0_ c1_ c2_ c3_ c4_ c5_ c6_ c7_ c8_ c9_ c10_ c11_ c12_ c13_ c14_ c15_ c16_ c17_ c18_ c19_ c20_ w kp tx txl rf ya yb ((tS tx txl at2) + 1 + (k + 1)) ((tS tx txl at2)) (bI ((tS tx txl at2) < txl ∧ LTb tx (tS tx txl at2) = true)) (bI ((tS tx txl at2) < txl ∧ FGb tx (tS tx txl at2) = true)) nb fr la nms nd wf hh tl) from rfl) ?_
          refine z_goto O 103 dX4_token_169 (by decide) ?_
          exact ih
      · refine z_dup O dX4_token_79 rfl ?_
        have hnl := hlt
        by_cases hfg : FGb tx (tS tx txl at2) = true
        · refine z_get O dX4_token_80 flX4_119 (by rfl) (by rfl) ?_
          have hE : (tE tx txl at2) = (rn (FGb tx) txl (tS tx txl at2)) := (if_pos hsl).trans ((if_neg hnl).trans (if_pos hfg))
          have hgt : (tS tx txl at2) < (tE tx txl at2) := by
            rw [hE]
            rcases Nat.lt_or_ge (tS tx txl at2) (rn (FGb tx) txl (tS tx txl at2)) with q | q
            · exact q
            · have q2 : (rn (FGb tx) txl (tS tx txl at2)) = (tS tx txl at2) := Nat.le_antisymm q (rn_ge _ _ _)
              have q3 := rn_end (FGb tx) txl (tS tx txl at2)
              rw [q2] at q3
              exact absurd ⟨hsl, hfg⟩ q3
          have hel : (tE tx txl at2) ≤ txl := (tE_le hal).2
          refine z_aload_n O dX4_token_83 rfl ?_
          refine z_get O dX4_token_84 flX4_119 (by rfl) (by rfl) ?_
          refine z_aload_n O dX4_token_87 rfl ?_
          refine z_get O dX4_token_88 flX4_115 (by rfl) (by rfl) ?_
          refine z_icmp_geN O 98 dX4_token_91 (by decide) (by omega) (by omega) (fun h91 => by omega) (fun h91 => ?_)
          refine z_iconst O (nI 1) dX4_token_94 (by decide) ?_
          refine z_goto O 99 dX4_token_95 (by decide) ?_
          refine z_iaddN O dX4_token_99 ?_
          refine z_put O (by rfl) dX4_token_100 flX4_119 (by rfl) rfl rfl (by simp) ?_
          refine z_M (show _ = (yM G c0_ c1_ c2_ c3_ c4_ c5_ c6_ c7_ c8_ c9_ c10_ c11_ c12_ c13_ c14_ c15_ c16_ c17_ c18_ c19_ c20_ w kp tx txl rf ya yb ((tS tx txl at2) + 1 + 0) ((tS tx txl at2)) (bI ((tS tx txl at2) < txl ∧ LTb tx (tS tx txl at2) = true)) (bI ((tS tx txl at2) < txl ∧ FGb tx (tS tx txl at2) = true)) nb fr la nms nd wf hh tl) from rfl) ?_
          refine zdown (P := fun k => Z G F 0 0 (zEnd G F (zU (yM G c0_ c1_ c2_ c3_ c4_ c5_ c6_ c7_ c8_ c9_ c10_ c11_ c12_ c13_ c14_ c15_ c16_ c17_ c18_ c19_ c20_ w kp tx txl rf ya yb (tE tx txl at2) (tS tx txl at2) (iW tx txl at2) (iF tx txl at2) nb fr la nms nd wf hh tl)) 0 0) 103 [(0, .ref (zad (zb G) 21))] [] (yM G c0_ c1_ c2_ c3_ c4_ c5_ c6_ c7_ c8_ c9_ c10_ c11_ c12_ c13_ c14_ c15_ c16_ c17_ c18_ c19_ c20_ w kp tx txl rf ya yb ((tS tx txl at2) + 1 + k) ((tS tx txl at2)) (bI ((tS tx txl at2) < txl ∧ LTb tx (tS tx txl at2) = true)) (bI ((tS tx txl at2) < txl ∧ FGb tx (tS tx txl at2) = true)) nb fr la nms nd wf hh tl)) ((tE tx txl at2) - ((tS tx txl at2) + 1)) ?_ ?_ 
          · rw [show (tS tx txl at2) + 1 + ((tE tx txl at2) - ((tS tx txl at2) + 1)) = (tE tx txl at2) by omega]
            have hend : ¬ ((tE tx txl at2) < txl ∧ FGb tx (tE tx txl at2) = true) := by rw [hE]; exact rn_end (FGb tx) txl (tS tx txl at2)
            refine z_aload_n O dX4_token_103 rfl ?_
            refine z_get O dX4_token_104 flX4_132 (by rfl) (by rfl) ?_
            refine z_if_eqB O 131 dX4_token_107 (by decide) (fun h107 => ?_) (fun h107 => by exact absurd h107.2 hnl)
            refine z_aload_n O dX4_token_131 rfl ?_
            refine z_get O dX4_token_132 flX4_140 (by rfl) (by rfl) ?_
            refine z_if_eqB O 172 dX4_token_135 (by decide) (fun h135 => by exact absurd ⟨hsl, hfg⟩ h135) (fun h135 => ?_)
            refine z_aload_n O dX4_token_138 rfl ?_
            refine z_aload_n O dX4_token_139 rfl ?_
            refine z_get O dX4_token_140 flX4_119 (by rfl) (by rfl) ?_
            refine z_V1e0 O (m_byteAt hl (by omega)) mX4_byteAt lkX4_122 rfl (by rfl) dX4_token_143 (Nat.le_of_ble_eq_true rfl) (by decide) ?_
            refine z_i2l O dX4_token_146 ?_
            refine z_ldc2 O dX4_token_147 klX4_136 ?_
            refine z_top (v' := .long (lN 48)) (by decide) ?_
            refine z_ldc2 O dX4_token_150 klX4_138 ?_
            refine z_top (v' := .long (lN 57)) (by decide) ?_
            refine z_S3e0 O (m_inI (by decide) (by decide)) mX4_in lkX4_45 dX4_token_153 (Nat.le_of_ble_eq_true rfl) (by decide) ?_
            refine z_top (v' := .int (bI ((tE tx txl at2) < txl ∧ FGb tx (tE tx txl at2) = true))) (congrArg Value.int (bI_congr (bt_F hby))) ?_
            refine z_if_eqB O 172 dX4_token_156 (by decide) (fun h156 => ?_) (fun h156 => by exact absurd h156 hend)
            exact z_vret O dX4_token_172 ⟨rfl, rfl⟩
          · intro k hk ih 
            have hin := rn_in (p := FGb tx) (len := txl) (q := (tS tx txl at2)) (i := (tS tx txl at2) + 1 + k) (by omega) (by omega)
            refine z_aload_n O dX4_token_103 rfl ?_
            refine z_get O dX4_token_104 flX4_132 (by rfl) (by rfl) ?_
            refine z_if_eqB O 131 dX4_token_107 (by decide) (fun h107 => ?_) (fun h107 => by exact absurd h107.2 hnl)
            refine z_aload_n O dX4_token_131 rfl ?_
            refine z_get O dX4_token_132 flX4_140 (by rfl) (by rfl) ?_
            refine z_if_eqB O 172 dX4_token_135 (by decide) (fun h135 => by exact absurd ⟨hsl, hfg⟩ h135) (fun h135 => ?_)
            refine z_aload_n O dX4_token_138 rfl ?_
            refine z_aload_n O dX4_token_139 rfl ?_
            refine z_get O dX4_token_140 flX4_119 (by rfl) (by rfl) ?_
            refine z_V1e0 O (m_byteAt hl (by omega)) mX4_byteAt lkX4_122 rfl (by rfl) dX4_token_143 (Nat.le_of_ble_eq_true rfl) (by decide) ?_
            refine z_i2l O dX4_token_146 ?_
            refine z_ldc2 O dX4_token_147 klX4_136 ?_
            refine z_top (v' := .long (lN 48)) (by decide) ?_
            refine z_ldc2 O dX4_token_150 klX4_138 ?_
            refine z_top (v' := .long (lN 57)) (by decide) ?_
            refine z_S3e0 O (m_inI (by decide) (by decide)) mX4_in lkX4_45 dX4_token_153 (Nat.le_of_ble_eq_true rfl) (by decide) ?_
            refine z_top (v' := .int (bI (((tS tx txl at2) + 1 + k) < txl ∧ FGb tx ((tS tx txl at2) + 1 + k) = true))) (congrArg Value.int (bI_congr (bt_F hby))) ?_
            refine z_if_eqB O 172 dX4_token_156 (by decide) (fun h156 => by exact absurd hin h156) (fun h156 => ?_)
            refine z_aload_n O dX4_token_159 rfl ?_
            refine z_dup O dX4_token_160 rfl ?_
            refine z_get O dX4_token_161 flX4_119 (by rfl) (by rfl) ?_
            refine z_iconst O (nI 1) dX4_token_164 (by decide) ?_
            refine z_iaddN O dX4_token_165 ?_
            refine z_put O (by rfl) dX4_token_166 flX4_119 (by rfl) rfl rfl (by simp) ?_
            refine z_M (show _ = (yM G c0_ c1_ c2_ c3_ c4_ c5_ c6_ c7_ c8_ c9_ c10_ c11_ c12_ c13_ c14_ c15_ c16_ c17_ c18_ c19_ c20_ w kp tx txl rf ya yb ((tS tx txl at2) + 1 + (k + 1)) ((tS tx txl at2)) (bI ((tS tx txl at2) < txl ∧ LTb tx (tS tx txl at2) = true)) (bI ((tS tx txl at2) < txl ∧ FGb tx (tS tx txl at2) = true)) nb fr la nms nd wf hh tl) from rfl) ?_
            refine z_goto O 103 dX4_token_169 (by decide) ?_
            exact ih
        · refine z_get O dX4_token_80 flX4_119 (by rfl) (by rfl) ?_
          have hnf := hfg
          · refine z_aload_n O dX4_token_83 rfl ?_
            refine z_get O dX4_token_84 flX4_119 (by rfl) (by rfl) ?_
            refine z_aload_n O dX4_token_87 rfl ?_
            refine z_get O dX4_token_88 flX4_115 (by rfl) (by rfl) ?_
            refine z_icmp_geN O 98 dX4_token_91 (by decide) (by omega) (by omega) (fun h91 => by omega) (fun h91 => ?_)
            refine z_iconst O (nI 1) dX4_token_94 (by decide) ?_
            refine z_goto O 99 dX4_token_95 (by decide) ?_
            refine z_iaddN O dX4_token_99 ?_
            refine z_put O (by rfl) dX4_token_100 flX4_119 (by rfl) rfl rfl (by simp) ?_
            refine z_aload_n O dX4_token_103 rfl ?_
            refine z_get O dX4_token_104 flX4_132 (by rfl) (by rfl) ?_
            refine z_if_eqB O 131 dX4_token_107 (by decide) (fun h107 => ?_) (fun h107 => by exact absurd h107.2 hnl)
            refine z_aload_n O dX4_token_131 rfl ?_
            refine z_get O dX4_token_132 flX4_140 (by rfl) (by rfl) ?_
            refine z_if_eqB O 172 dX4_token_135 (by decide) (fun h135 => ?_) (fun h135 => by exact absurd h135.2 hnf)
            exact z_vret O dX4_token_172 ⟨rfl, by rw [show (tE tx txl at2) = (tS tx txl at2) + 1 from (if_pos hsl).trans ((if_neg hnl).trans (if_neg hnf))]; rfl⟩
    · refine z_aload_n O dX4_token_78 rfl ?_
      refine z_dup O dX4_token_79 rfl ?_
      refine z_get O dX4_token_80 flX4_119 (by rfl) (by rfl) ?_
      refine z_aload_n O dX4_token_83 rfl ?_
      refine z_get O dX4_token_84 flX4_119 (by rfl) (by rfl) ?_
      refine z_aload_n O dX4_token_87 rfl ?_
      refine z_get O dX4_token_88 flX4_115 (by rfl) (by rfl) ?_
      refine z_icmp_geN O 98 dX4_token_91 (by decide) (by omega) (by omega) (fun h91 => ?_) (fun h91 => by omega)
      refine z_iconst O (nI 0) dX4_token_98 (by decide) ?_
      refine z_iaddN O dX4_token_99 ?_
      refine z_put O (by rfl) dX4_token_100 flX4_119 (by rfl) rfl rfl (by simp) ?_
      refine z_aload_n O dX4_token_103 rfl ?_
      refine z_get O dX4_token_104 flX4_132 (by rfl) (by rfl) ?_
      refine z_if_eqB O 131 dX4_token_107 (by decide) (fun h107 => ?_) (fun h107 => by exact absurd h107.1 hsl)
      refine z_aload_n O dX4_token_131 rfl ?_
      refine z_get O dX4_token_132 flX4_140 (by rfl) (by rfl) ?_
      refine z_if_eqB O 172 dX4_token_135 (by decide) (fun h135 => ?_) (fun h135 => by exact absurd h135.1 hsl)
      exact z_vret O dX4_token_172 ⟨rfl, by rw [show (tE tx txl at2) = (tS tx txl at2) from if_neg hsl]; rfl⟩
  · intro k hk ih 
    have hin := rn_in (p := SPb tx) (len := txl) (q := at2) (i := at2 + k) (by omega) (by unfold tS at hk; omega)
    have hsp : tx (at2 + k) = 32 := of_decide_eq_true hin.2
    refine z_aload_n O dX4_token_0 rfl ?_
    refine z_aload_n O dX4_token_1 rfl ?_
    refine z_get O dX4_token_2 flX4_119 (by rfl) (by rfl) ?_
    refine z_V1e0 O (m_byteAt hl (by omega)) mX4_byteAt lkX4_122 rfl (by rfl) dX4_token_5 (Nat.le_of_ble_eq_true rfl) (by decide) ?_
    refine z_bipush O (nI 32) dX4_token_8 (by decide) ?_
    refine z_icmp_ne O 26 dX4_token_10 (by decide) (fun h10 => by exact absurd ((bt_eq hby (by decide)).mpr ⟨hin.1, hsp⟩) h10) (fun h10 => ?_)
    refine z_aload_n O dX4_token_13 rfl ?_
    refine z_dup O dX4_token_14 rfl ?_
    refine z_get O dX4_token_15 flX4_119 (by rfl) (by rfl) ?_
    refine z_iconst O (nI 1) dX4_token_18 (by decide) ?_
    refine z_iaddN O dX4_token_19 ?_
    refine z_put O (by rfl) dX4_token_20 flX4_119 (by rfl) rfl rfl (by simp) ?_
    refine z_M (show _ = (yM G c0_ c1_ c2_ c3_ c4_ c5_ c6_ c7_ c8_ c9_ c10_ c11_ c12_ c13_ c14_ c15_ c16_ c17_ c18_ c19_ c20_ w kp tx txl rf ya yb (at2 + (k + 1)) st2 iwd ifg nb fr la nms nd wf hh tl) from rfl) ?_
    refine z_goto O 0 dX4_token_23 (by decide) ?_
    exact ih
set_option maxRecDepth 20000 in
set_option maxHeartbeats 4000000 in
theorem m_isNamed (hl : txl ≤ 150) (hby : ∀ j, tx j ≤ 127) {p wd : Nat} (hpl : p ≤ txl) (hw : wd < 3) : zS G 2 yX4_isNamed cX4_isNamed 5 (some .boolean) [.ref (zad (zb G) 21), .int (nI (ltN wd 0)), .int (nI (ltN wd 1)), .int (nI (ltN wd 2)), .int (nI (ltN wd 3))] (yM G c0_ c1_ c2_ c3_ c4_ c5_ c6_ c7_ c8_ c9_ c10_ c11_ c12_ c13_ c14_ c15_ c16_ c17_ c18_ c19_ c20_ w kp tx txl rf ya yb (tE tx txl p) (tS tx txl p) (iW tx txl p) (iF tx txl p) nb fr la nms nd wf hh tl) 0 0 (zE (.int (bI (((tS tx txl p) < txl ∧ LTb tx (tS tx txl p) = true) ∧ spB tx (tS tx txl p) (tE tx txl p) wd = true))) (yM G c0_ c1_ c2_ c3_ c4_ c5_ c6_ c7_ c8_ c9_ c10_ c11_ c12_ c13_ c14_ c15_ c16_ c17_ c18_ c19_ c20_ w kp tx txl rf ya yb (tE tx txl p) (tS tx txl p) (iW tx txl p) (iF tx txl p) nb fr la nms nd wf hh tl)) := by
  refine zS.of (by decide) (Nat.le_of_ble_eq_true rfl) (fun F O hR1 hR2 => ?_)
  have O : zOk G F yX4_isNamed cX4_isNamed 5 (some .boolean) RX4 2 (yM G c0_ c1_ c2_ c3_ c4_ c5_ c6_ c7_ c8_ c9_ c10_ c11_ c12_ c13_ c14_ c15_ c16_ c17_ c18_ c19_ c20_ w kp tx txl rf ya yb (tE tx txl p) (tS tx txl p) (iW tx txl p) (iF tx txl p) nb fr la nms nd wf hh tl).length := O
  refine z_eq (lv' := [(0, _), (1, _), (2, _), (3, _), (4, _)]) rfl rfl rfl ?_
  have hge := tE_ge tx txl p
  have hel : (tE tx txl p) ≤ txl := (tE_le hpl).2
  refine z_aload_n O dX4_isNamed_0 rfl ?_
  refine z_get O dX4_isNamed_1 flX4_132 (by rfl) (by rfl) ?_
  refine z_if_eqB O 79 dX4_isNamed_4 (by decide) (fun h4 => ?_) (fun h4 => ?_)
  · refine z_iconst O (nI 0) dX4_isNamed_79 (by decide) ?_
    exact z_zret O dX4_isNamed_80 rfl (by first
        | (have hp := bI_t (p := (((tS tx txl p) < txl ∧ LTb tx (tS tx txl p) = true) ∧ spB tx (tS tx txl p) (tE tx txl p) wd = true)) ⟨h4, sp_1 ⟨by omega, h29, h43, h57, h72⟩⟩; exact ⟨by rw [hp]; rfl, rfl⟩)
        | (have hp := bI_f (p := (((tS tx txl p) < txl ∧ LTb tx (tS tx txl p) = true) ∧ spB tx (tS tx txl p) (tE tx txl p) wd = true)) (fun q => h72 (sp_0 q.2).2.2.2.2); exact ⟨by rw [hp]; rfl, rfl⟩)
        | (have hp := bI_f (p := (((tS tx txl p) < txl ∧ LTb tx (tS tx txl p) = true) ∧ spB tx (tS tx txl p) (tE tx txl p) wd = true)) (fun q => h57 (sp_0 q.2).2.2.2.1); exact ⟨by rw [hp]; rfl, rfl⟩)
        | (have hp := bI_f (p := (((tS tx txl p) < txl ∧ LTb tx (tS tx txl p) = true) ∧ spB tx (tS tx txl p) (tE tx txl p) wd = true)) (fun q => h43 (sp_0 q.2).2.2.1); exact ⟨by rw [hp]; rfl, rfl⟩)
        | (have hp := bI_f (p := (((tS tx txl p) < txl ∧ LTb tx (tS tx txl p) = true) ∧ spB tx (tS tx txl p) (tE tx txl p) wd = true)) (fun q => h29 (sp_0 q.2).2.1); exact ⟨by rw [hp]; rfl, rfl⟩)
        | (have hp := bI_f (p := (((tS tx txl p) < txl ∧ LTb tx (tS tx txl p) = true) ∧ spB tx (tS tx txl p) (tE tx txl p) wd = true)) (fun q => by have := (sp_0 q.2).1; omega); exact ⟨by rw [hp]; rfl, rfl⟩)
        | (have hp := bI_f (p := (((tS tx txl p) < txl ∧ LTb tx (tS tx txl p) = true) ∧ spB tx (tS tx txl p) (tE tx txl p) wd = true)) (fun q => h4 q.1); exact ⟨by rw [hp]; rfl, rfl⟩))
  · refine z_aload_n O dX4_isNamed_7 rfl ?_
    refine z_get O dX4_isNamed_8 flX4_119 (by rfl) (by rfl) ?_
    refine z_aload_n O dX4_isNamed_11 rfl ?_
    refine z_get O dX4_isNamed_12 flX4_125 (by rfl) (by rfl) ?_
    refine z_isubN O dX4_isNamed_15 (by omega) ?_
    refine z_iconst O (nI 4) dX4_isNamed_16 (by decide) ?_
    refine z_icmp_neN O 79 dX4_isNamed_17 (by decide) (by omega) (by omega) (fun h17 => ?_) (fun h17 => ?_)
    · refine z_iconst O (nI 0) dX4_isNamed_79 (by decide) ?_
      exact z_zret O dX4_isNamed_80 rfl (by first
          | (have hp := bI_t (p := (((tS tx txl p) < txl ∧ LTb tx (tS tx txl p) = true) ∧ spB tx (tS tx txl p) (tE tx txl p) wd = true)) ⟨h4, sp_1 ⟨by omega, h29, h43, h57, h72⟩⟩; exact ⟨by rw [hp]; rfl, rfl⟩)
          | (have hp := bI_f (p := (((tS tx txl p) < txl ∧ LTb tx (tS tx txl p) = true) ∧ spB tx (tS tx txl p) (tE tx txl p) wd = true)) (fun q => h72 (sp_0 q.2).2.2.2.2); exact ⟨by rw [hp]; rfl, rfl⟩)
          | (have hp := bI_f (p := (((tS tx txl p) < txl ∧ LTb tx (tS tx txl p) = true) ∧ spB tx (tS tx txl p) (tE tx txl p) wd = true)) (fun q => h57 (sp_0 q.2).2.2.2.1); exact ⟨by rw [hp]; rfl, rfl⟩)
          | (have hp := bI_f (p := (((tS tx txl p) < txl ∧ LTb tx (tS tx txl p) = true) ∧ spB tx (tS tx txl p) (tE tx txl p) wd = true)) (fun q => h43 (sp_0 q.2).2.2.1); exact ⟨by rw [hp]; rfl, rfl⟩)
          | (have hp := bI_f (p := (((tS tx txl p) < txl ∧ LTb tx (tS tx txl p) = true) ∧ spB tx (tS tx txl p) (tE tx txl p) wd = true)) (fun q => h29 (sp_0 q.2).2.1); exact ⟨by rw [hp]; rfl, rfl⟩)
          | (have hp := bI_f (p := (((tS tx txl p) < txl ∧ LTb tx (tS tx txl p) = true) ∧ spB tx (tS tx txl p) (tE tx txl p) wd = true)) (fun q => by have := (sp_0 q.2).1; omega); exact ⟨by rw [hp]; rfl, rfl⟩)
          | (have hp := bI_f (p := (((tS tx txl p) < txl ∧ LTb tx (tS tx txl p) = true) ∧ spB tx (tS tx txl p) (tE tx txl p) wd = true)) (fun q => h4 q.1); exact ⟨by rw [hp]; rfl, rfl⟩))
    · refine z_aload_n O dX4_isNamed_20 rfl ?_
      refine z_aload_n O dX4_isNamed_21 rfl ?_
      refine z_get O dX4_isNamed_22 flX4_125 (by rfl) (by rfl) ?_
      refine z_V1e0 O (m_byteAt hl (by omega)) mX4_byteAt lkX4_122 rfl (by rfl) dX4_isNamed_25 (Nat.le_of_ble_eq_true rfl) (by decide) ?_
      rw [bt_in (show (tS tx txl p) < txl by omega)]
      refine z_iload_n O dX4_isNamed_28 rfl ?_
      refine z_icmp_neN O 79 dX4_isNamed_29 (by decide) (by have h1 := hby (tS tx txl p); have h2 := (lt_ok wd hw 0 (by decide)).2; omega) (by have h1 := hby (tS tx txl p); have h2 := (lt_ok wd hw 0 (by decide)).2; omega) (fun h29 => ?_) (fun h29 => ?_)
      · refine z_iconst O (nI 0) dX4_isNamed_79 (by decide) ?_
        exact z_zret O dX4_isNamed_80 rfl (by first
            | (have hp := bI_t (p := (((tS tx txl p) < txl ∧ LTb tx (tS tx txl p) = true) ∧ spB tx (tS tx txl p) (tE tx txl p) wd = true)) ⟨h4, sp_1 ⟨by omega, h29, h43, h57, h72⟩⟩; exact ⟨by rw [hp]; rfl, rfl⟩)
            | (have hp := bI_f (p := (((tS tx txl p) < txl ∧ LTb tx (tS tx txl p) = true) ∧ spB tx (tS tx txl p) (tE tx txl p) wd = true)) (fun q => h72 (sp_0 q.2).2.2.2.2); exact ⟨by rw [hp]; rfl, rfl⟩)
            | (have hp := bI_f (p := (((tS tx txl p) < txl ∧ LTb tx (tS tx txl p) = true) ∧ spB tx (tS tx txl p) (tE tx txl p) wd = true)) (fun q => h57 (sp_0 q.2).2.2.2.1); exact ⟨by rw [hp]; rfl, rfl⟩)
            | (have hp := bI_f (p := (((tS tx txl p) < txl ∧ LTb tx (tS tx txl p) = true) ∧ spB tx (tS tx txl p) (tE tx txl p) wd = true)) (fun q => h43 (sp_0 q.2).2.2.1); exact ⟨by rw [hp]; rfl, rfl⟩)
            | (have hp := bI_f (p := (((tS tx txl p) < txl ∧ LTb tx (tS tx txl p) = true) ∧ spB tx (tS tx txl p) (tE tx txl p) wd = true)) (fun q => h29 (sp_0 q.2).2.1); exact ⟨by rw [hp]; rfl, rfl⟩)
            | (have hp := bI_f (p := (((tS tx txl p) < txl ∧ LTb tx (tS tx txl p) = true) ∧ spB tx (tS tx txl p) (tE tx txl p) wd = true)) (fun q => by have := (sp_0 q.2).1; omega); exact ⟨by rw [hp]; rfl, rfl⟩)
            | (have hp := bI_f (p := (((tS tx txl p) < txl ∧ LTb tx (tS tx txl p) = true) ∧ spB tx (tS tx txl p) (tE tx txl p) wd = true)) (fun q => h4 q.1); exact ⟨by rw [hp]; rfl, rfl⟩))
      · refine z_aload_n O dX4_isNamed_32 rfl ?_
        refine z_aload_n O dX4_isNamed_33 rfl ?_
        refine z_get O dX4_isNamed_34 flX4_125 (by rfl) (by rfl) ?_
        refine z_iconst O (nI 1) dX4_isNamed_37 (by decide) ?_
        refine z_iaddN O dX4_isNamed_38 ?_
        refine z_V1e0 O (m_byteAt hl (by omega)) mX4_byteAt lkX4_122 rfl (by rfl) dX4_isNamed_39 (Nat.le_of_ble_eq_true rfl) (by decide) ?_
        rw [bt_in (show (tS tx txl p) + 1 < txl by omega)]
        refine z_iload_n O dX4_isNamed_42 rfl ?_
        refine z_icmp_neN O 79 dX4_isNamed_43 (by decide) (by have h1 := hby ((tS tx txl p) + 1); have h2 := (lt_ok wd hw 1 (by decide)).2; omega) (by have h1 := hby ((tS tx txl p) + 1); have h2 := (lt_ok wd hw 1 (by decide)).2; omega) (fun h43 => ?_) (fun h43 => ?_)
        · refine z_iconst O (nI 0) dX4_isNamed_79 (by decide) ?_
          exact z_zret O dX4_isNamed_80 rfl (by first
              | (have hp := bI_t (p := (((tS tx txl p) < txl ∧ LTb tx (tS tx txl p) = true) ∧ spB tx (tS tx txl p) (tE tx txl p) wd = true)) ⟨h4, sp_1 ⟨by omega, h29, h43, h57, h72⟩⟩; exact ⟨by rw [hp]; rfl, rfl⟩)
              | (have hp := bI_f (p := (((tS tx txl p) < txl ∧ LTb tx (tS tx txl p) = true) ∧ spB tx (tS tx txl p) (tE tx txl p) wd = true)) (fun q => h72 (sp_0 q.2).2.2.2.2); exact ⟨by rw [hp]; rfl, rfl⟩)
              | (have hp := bI_f (p := (((tS tx txl p) < txl ∧ LTb tx (tS tx txl p) = true) ∧ spB tx (tS tx txl p) (tE tx txl p) wd = true)) (fun q => h57 (sp_0 q.2).2.2.2.1); exact ⟨by rw [hp]; rfl, rfl⟩)
              | (have hp := bI_f (p := (((tS tx txl p) < txl ∧ LTb tx (tS tx txl p) = true) ∧ spB tx (tS tx txl p) (tE tx txl p) wd = true)) (fun q => h43 (sp_0 q.2).2.2.1); exact ⟨by rw [hp]; rfl, rfl⟩)
              | (have hp := bI_f (p := (((tS tx txl p) < txl ∧ LTb tx (tS tx txl p) = true) ∧ spB tx (tS tx txl p) (tE tx txl p) wd = true)) (fun q => h29 (sp_0 q.2).2.1); exact ⟨by rw [hp]; rfl, rfl⟩)
              | (have hp := bI_f (p := (((tS tx txl p) < txl ∧ LTb tx (tS tx txl p) = true) ∧ spB tx (tS tx txl p) (tE tx txl p) wd = true)) (fun q => by have := (sp_0 q.2).1; omega); exact ⟨by rw [hp]; rfl, rfl⟩)
              | (have hp := bI_f (p := (((tS tx txl p) < txl ∧ LTb tx (tS tx txl p) = true) ∧ spB tx (tS tx txl p) (tE tx txl p) wd = true)) (fun q => h4 q.1); exact ⟨by rw [hp]; rfl, rfl⟩))
        · refine z_aload_n O dX4_isNamed_46 rfl ?_
          refine z_aload_n O dX4_isNamed_47 rfl ?_
          refine z_get O dX4_isNamed_48 flX4_125 (by rfl) (by rfl) ?_
          refine z_iconst O (nI 2) dX4_isNamed_51 (by decide) ?_
          refine z_iaddN O dX4_isNamed_52 ?_
          refine z_V1e0 O (m_byteAt hl (by omega)) mX4_byteAt lkX4_122 rfl (by rfl) dX4_isNamed_53 (Nat.le_of_ble_eq_true rfl) (by decide) ?_
          rw [bt_in (show (tS tx txl p) + 2 < txl by omega)]
          refine z_iload_n O dX4_isNamed_56 rfl ?_
          refine z_icmp_neN O 79 dX4_isNamed_57 (by decide) (by have h1 := hby ((tS tx txl p) + 2); have h2 := (lt_ok wd hw 2 (by decide)).2; omega) (by have h1 := hby ((tS tx txl p) + 2); have h2 := (lt_ok wd hw 2 (by decide)).2; omega) (fun h57 => ?_) (fun h57 => ?_)
          · refine z_iconst O (nI 0) dX4_isNamed_79 (by decide) ?_
            exact z_zret O dX4_isNamed_80 rfl (by first
                | (have hp := bI_t (p := (((tS tx txl p) < txl ∧ LTb tx (tS tx txl p) = true) ∧ spB tx (tS tx txl p) (tE tx txl p) wd = true)) ⟨h4, sp_1 ⟨by omega, h29, h43, h57, h72⟩⟩; exact ⟨by rw [hp]; rfl, rfl⟩)
                | (have hp := bI_f (p := (((tS tx txl p) < txl ∧ LTb tx (tS tx txl p) = true) ∧ spB tx (tS tx txl p) (tE tx txl p) wd = true)) (fun q => h72 (sp_0 q.2).2.2.2.2); exact ⟨by rw [hp]; rfl, rfl⟩)
                | (have hp := bI_f (p := (((tS tx txl p) < txl ∧ LTb tx (tS tx txl p) = true) ∧ spB tx (tS tx txl p) (tE tx txl p) wd = true)) (fun q => h57 (sp_0 q.2).2.2.2.1); exact ⟨by rw [hp]; rfl, rfl⟩)
                | (have hp := bI_f (p := (((tS tx txl p) < txl ∧ LTb tx (tS tx txl p) = true) ∧ spB tx (tS tx txl p) (tE tx txl p) wd = true)) (fun q => h43 (sp_0 q.2).2.2.1); exact ⟨by rw [hp]; rfl, rfl⟩)
                | (have hp := bI_f (p := (((tS tx txl p) < txl ∧ LTb tx (tS tx txl p) = true) ∧ spB tx (tS tx txl p) (tE tx txl p) wd = true)) (fun q => h29 (sp_0 q.2).2.1); exact ⟨by rw [hp]; rfl, rfl⟩)
                | (have hp := bI_f (p := (((tS tx txl p) < txl ∧ LTb tx (tS tx txl p) = true) ∧ spB tx (tS tx txl p) (tE tx txl p) wd = true)) (fun q => by have := (sp_0 q.2).1; omega); exact ⟨by rw [hp]; rfl, rfl⟩)
                | (have hp := bI_f (p := (((tS tx txl p) < txl ∧ LTb tx (tS tx txl p) = true) ∧ spB tx (tS tx txl p) (tE tx txl p) wd = true)) (fun q => h4 q.1); exact ⟨by rw [hp]; rfl, rfl⟩))
          · refine z_aload_n O dX4_isNamed_60 rfl ?_
            refine z_aload_n O dX4_isNamed_61 rfl ?_
            refine z_get O dX4_isNamed_62 flX4_125 (by rfl) (by rfl) ?_
            refine z_iconst O (nI 3) dX4_isNamed_65 (by decide) ?_
            refine z_iaddN O dX4_isNamed_66 ?_
            refine z_V1e0 O (m_byteAt hl (by omega)) mX4_byteAt lkX4_122 rfl (by rfl) dX4_isNamed_67 (Nat.le_of_ble_eq_true rfl) (by decide) ?_
            rw [bt_in (show (tS tx txl p) + 3 < txl by omega)]
            refine z_iload O dX4_isNamed_70 rfl ?_
            refine z_icmp_neN O 79 dX4_isNamed_72 (by decide) (by have h1 := hby ((tS tx txl p) + 3); have h2 := (lt_ok wd hw 3 (by decide)).2; omega) (by have h1 := hby ((tS tx txl p) + 3); have h2 := (lt_ok wd hw 3 (by decide)).2; omega) (fun h72 => ?_) (fun h72 => ?_)
            · refine z_iconst O (nI 0) dX4_isNamed_79 (by decide) ?_
              exact z_zret O dX4_isNamed_80 rfl (by first
                  | (have hp := bI_t (p := (((tS tx txl p) < txl ∧ LTb tx (tS tx txl p) = true) ∧ spB tx (tS tx txl p) (tE tx txl p) wd = true)) ⟨h4, sp_1 ⟨by omega, h29, h43, h57, h72⟩⟩; exact ⟨by rw [hp]; rfl, rfl⟩)
                  | (have hp := bI_f (p := (((tS tx txl p) < txl ∧ LTb tx (tS tx txl p) = true) ∧ spB tx (tS tx txl p) (tE tx txl p) wd = true)) (fun q => h72 (sp_0 q.2).2.2.2.2); exact ⟨by rw [hp]; rfl, rfl⟩)
                  | (have hp := bI_f (p := (((tS tx txl p) < txl ∧ LTb tx (tS tx txl p) = true) ∧ spB tx (tS tx txl p) (tE tx txl p) wd = true)) (fun q => h57 (sp_0 q.2).2.2.2.1); exact ⟨by rw [hp]; rfl, rfl⟩)
                  | (have hp := bI_f (p := (((tS tx txl p) < txl ∧ LTb tx (tS tx txl p) = true) ∧ spB tx (tS tx txl p) (tE tx txl p) wd = true)) (fun q => h43 (sp_0 q.2).2.2.1); exact ⟨by rw [hp]; rfl, rfl⟩)
                  | (have hp := bI_f (p := (((tS tx txl p) < txl ∧ LTb tx (tS tx txl p) = true) ∧ spB tx (tS tx txl p) (tE tx txl p) wd = true)) (fun q => h29 (sp_0 q.2).2.1); exact ⟨by rw [hp]; rfl, rfl⟩)
                  | (have hp := bI_f (p := (((tS tx txl p) < txl ∧ LTb tx (tS tx txl p) = true) ∧ spB tx (tS tx txl p) (tE tx txl p) wd = true)) (fun q => by have := (sp_0 q.2).1; omega); exact ⟨by rw [hp]; rfl, rfl⟩)
                  | (have hp := bI_f (p := (((tS tx txl p) < txl ∧ LTb tx (tS tx txl p) = true) ∧ spB tx (tS tx txl p) (tE tx txl p) wd = true)) (fun q => h4 q.1); exact ⟨by rw [hp]; rfl, rfl⟩))
            · refine z_iconst O (nI 1) dX4_isNamed_75 (by decide) ?_
              refine z_goto O 80 dX4_isNamed_76 (by decide) ?_
              exact z_zret O dX4_isNamed_80 rfl (by first
                  | (have hp := bI_t (p := (((tS tx txl p) < txl ∧ LTb tx (tS tx txl p) = true) ∧ spB tx (tS tx txl p) (tE tx txl p) wd = true)) ⟨h4, sp_1 ⟨by omega, h29, h43, h57, h72⟩⟩; exact ⟨by rw [hp]; rfl, rfl⟩)
                  | (have hp := bI_f (p := (((tS tx txl p) < txl ∧ LTb tx (tS tx txl p) = true) ∧ spB tx (tS tx txl p) (tE tx txl p) wd = true)) (fun q => h72 (sp_0 q.2).2.2.2.2); exact ⟨by rw [hp]; rfl, rfl⟩)
                  | (have hp := bI_f (p := (((tS tx txl p) < txl ∧ LTb tx (tS tx txl p) = true) ∧ spB tx (tS tx txl p) (tE tx txl p) wd = true)) (fun q => h57 (sp_0 q.2).2.2.2.1); exact ⟨by rw [hp]; rfl, rfl⟩)
                  | (have hp := bI_f (p := (((tS tx txl p) < txl ∧ LTb tx (tS tx txl p) = true) ∧ spB tx (tS tx txl p) (tE tx txl p) wd = true)) (fun q => h43 (sp_0 q.2).2.2.1); exact ⟨by rw [hp]; rfl, rfl⟩)
                  | (have hp := bI_f (p := (((tS tx txl p) < txl ∧ LTb tx (tS tx txl p) = true) ∧ spB tx (tS tx txl p) (tE tx txl p) wd = true)) (fun q => h29 (sp_0 q.2).2.1); exact ⟨by rw [hp]; rfl, rfl⟩)
                  | (have hp := bI_f (p := (((tS tx txl p) < txl ∧ LTb tx (tS tx txl p) = true) ∧ spB tx (tS tx txl p) (tE tx txl p) wd = true)) (fun q => by have := (sp_0 q.2).1; omega); exact ⟨by rw [hp]; rfl, rfl⟩)
                  | (have hp := bI_f (p := (((tS tx txl p) < txl ∧ LTb tx (tS tx txl p) = true) ∧ spB tx (tS tx txl p) (tE tx txl p) wd = true)) (fun q => h4 q.1); exact ⟨by rw [hp]; rfl, rfl⟩))
set_option maxRecDepth 20000 in
set_option maxHeartbeats 4000000 in
theorem m_wordNow (hl : txl ≤ 150) (hby : ∀ j, tx j ≤ 127) {p : Nat} (hpl : p ≤ txl) : zS G 3 yX4_wordNow cX4_wordNow 1 (some .int) [.ref (zad (zb G) 21)] (yM G c0_ c1_ c2_ c3_ c4_ c5_ c6_ c7_ c8_ c9_ c10_ c11_ c12_ c13_ c14_ c15_ c16_ c17_ c18_ c19_ c20_ w kp tx txl rf ya yb (tE tx txl p) (tS tx txl p) (iW tx txl p) (iF tx txl p) nb fr la nms nd wf hh tl) 0 0 (zE (.int (optI (wdW tx txl p))) (yM G c0_ c1_ c2_ c3_ c4_ c5_ c6_ c7_ c8_ c9_ c10_ c11_ c12_ c13_ c14_ c15_ c16_ c17_ c18_ c19_ c20_ w kp tx txl rf ya yb (tE tx txl p) (tS tx txl p) (iW tx txl p) (iF tx txl p) nb fr la nms nd wf hh tl)) := by
  refine zS.of (by decide) (Nat.le_of_ble_eq_true rfl) (fun F O hR1 hR2 => ?_)
  have O : zOk G F yX4_wordNow cX4_wordNow 1 (some .int) RX4 3 (yM G c0_ c1_ c2_ c3_ c4_ c5_ c6_ c7_ c8_ c9_ c10_ c11_ c12_ c13_ c14_ c15_ c16_ c17_ c18_ c19_ c20_ w kp tx txl rf ya yb (tE tx txl p) (tS tx txl p) (iW tx txl p) (iF tx txl p) nb fr la nms nd wf hh tl).length := O
  refine z_eq (lv' := [(0, _)]) rfl rfl rfl ?_
  have hW : wdW tx txl p = if (tS tx txl p) < txl ∧ LTb tx (tS tx txl p) = true then wdO tx txl p else none := rfl
  have hO : wdO tx txl p = if spB tx (tS tx txl p) (tE tx txl p) 2 = true then some 2 else if spB tx (tS tx txl p) (tE tx txl p) 1 = true then some 1 else if spB tx (tS tx txl p) (tE tx txl p) 0 = true then some 0 else none := rfl
  refine z_aload_n O dX4_wordNow_0 rfl ?_
  refine z_bipush O (nI 115) dX4_wordNow_1 (by decide) ?_
  refine z_bipush O (nI 111) dX4_wordNow_3 (by decide) ?_
  refine z_bipush O (nI 99) dX4_wordNow_5 (by decide) ?_
  refine z_bipush O (nI 107) dX4_wordNow_7 (by decide) ?_
  refine z_V4e0 O (m_isNamed (wd := 0) hl hby hpl (by decide)) mX4_isNamed lkX4_143 rfl (by rfl) dX4_wordNow_9 (Nat.le_of_ble_eq_true rfl) (by decide) ?_
  refine z_if_eqB O 17 dX4_wordNow_12 (by decide) (fun h12 => ?_) (fun h12 => ?_)
  · refine z_aload_n O dX4_wordNow_17 rfl ?_
    refine z_bipush O (nI 119) dX4_wordNow_18 (by decide) ?_
    refine z_bipush O (nI 101) dX4_wordNow_20 (by decide) ?_
    refine z_bipush O (nI 97) dX4_wordNow_22 (by decide) ?_
    refine z_bipush O (nI 114) dX4_wordNow_24 (by decide) ?_
    refine z_V4e0 O (m_isNamed (wd := 1) hl hby hpl (by decide)) mX4_isNamed lkX4_143 rfl (by rfl) dX4_wordNow_26 (Nat.le_of_ble_eq_true rfl) (by decide) ?_
    refine z_if_eqB O 36 dX4_wordNow_29 (by decide) (fun h29 => ?_) (fun h29 => ?_)
    · refine z_aload_n O dX4_wordNow_36 rfl ?_
      refine z_bipush O (nI 100) dX4_wordNow_37 (by decide) ?_
      refine z_bipush O (nI 97) dX4_wordNow_39 (by decide) ?_
      refine z_bipush O (nI 114) dX4_wordNow_41 (by decide) ?_
      refine z_bipush O (nI 110) dX4_wordNow_43 (by decide) ?_
      refine z_V4e0 O (m_isNamed (wd := 2) hl hby hpl (by decide)) mX4_isNamed lkX4_143 rfl (by rfl) dX4_wordNow_45 (Nat.le_of_ble_eq_true rfl) (by decide) ?_
      refine z_if_eqB O 55 dX4_wordNow_48 (by decide) (fun h48 => ?_) (fun h48 => ?_)
      · refine z_iconst O (-1) dX4_wordNow_55 (by decide) ?_
        exact z_iret O dX4_wordNow_56 (by first
            | exact ⟨by rw [hW, if_pos h29.1, hO, if_neg (fun q => absurd (sp_uni q h29.2 (by decide) (by decide)) (by decide)), if_pos h29.2]; rfl, rfl⟩
            | exact ⟨by rw [hW, if_pos h48.1, hO, if_pos h48.2]; rfl, rfl⟩
            | exact ⟨by
                rw [hW]
                by_cases hq : tS tx txl p < txl ∧ LTb tx (tS tx txl p) = true
                · rw [if_pos hq, hO, if_neg (fun q => h48 ⟨hq, q⟩), if_neg (fun q => h29 ⟨hq, q⟩), if_neg (fun q => h12 ⟨hq, q⟩)]; rfl
                · rw [if_neg hq]; rfl, rfl⟩)
      · refine z_iconst O (nI 2) dX4_wordNow_51 (by decide) ?_
        refine z_goto O 56 dX4_wordNow_52 (by decide) ?_
        exact z_iret O dX4_wordNow_56 (by first
            | exact ⟨by rw [hW, if_pos h29.1, hO, if_neg (fun q => absurd (sp_uni q h29.2 (by decide) (by decide)) (by decide)), if_pos h29.2]; rfl, rfl⟩
            | exact ⟨by rw [hW, if_pos h48.1, hO, if_pos h48.2]; rfl, rfl⟩
            | exact ⟨by
                rw [hW]
                by_cases hq : tS tx txl p < txl ∧ LTb tx (tS tx txl p) = true
                · rw [if_pos hq, hO, if_neg (fun q => h48 ⟨hq, q⟩), if_neg (fun q => h29 ⟨hq, q⟩), if_neg (fun q => h12 ⟨hq, q⟩)]; rfl
                · rw [if_neg hq]; rfl, rfl⟩)
    · refine z_iconst O (nI 1) dX4_wordNow_32 (by decide) ?_
      refine z_goto O 56 dX4_wordNow_33 (by decide) ?_
      exact z_iret O dX4_wordNow_56 (by first
          | exact ⟨by rw [hW, if_pos h29.1, hO, if_neg (fun q => absurd (sp_uni q h29.2 (by decide) (by decide)) (by decide)), if_pos h29.2]; rfl, rfl⟩
          | exact ⟨by rw [hW, if_pos h48.1, hO, if_pos h48.2]; rfl, rfl⟩
          | exact ⟨by
              rw [hW]
              by_cases hq : tS tx txl p < txl ∧ LTb tx (tS tx txl p) = true
              · rw [if_pos hq, hO, if_neg (fun q => h48 ⟨hq, q⟩), if_neg (fun q => h29 ⟨hq, q⟩), if_neg (fun q => h12 ⟨hq, q⟩)]; rfl
              · rw [if_neg hq]; rfl, rfl⟩)
  · refine z_iconst O (nI 0) dX4_wordNow_15 (by decide) ?_
    exact z_iret O dX4_wordNow_16 ⟨by rw [hW, if_pos h12.1, hO, if_neg (fun q => absurd (sp_uni q h12.2 (by decide) (by decide)) (by decide)), if_neg (fun q => absurd (sp_uni q h12.2 (by decide) (by decide)) (by decide)), if_pos h12.2]; rfl, rfl⟩
set_option maxRecDepth 20000 in
set_option maxHeartbeats 4000000 in
theorem m_takesNumber (hl : txl ≤ 150) (hby : ∀ j, tx j ≤ 127) (hal : at2 ≤ txl) {k : Nat} (hk : k < 4) (h2 : tO tx txl at2 = 2) : zS G 3 yX4_takesNumber cX4_takesNumber 3 (some .boolean) [.ref (zad (zb G) 21), .int (nI k)] (yM G c0_ c1_ c2_ c3_ c4_ c5_ c6_ c7_ c8_ c9_ c10_ c11_ c12_ c13_ c14_ c15_ c16_ c17_ c18_ c19_ c20_ w kp tx txl rf ya yb at2 st2 iwd ifg nb fr la nms nd wf hh tl) 0 0 (zE (.int (nI 1)) (yM G c0_ c1_ c2_ c3_ c4_ c5_ c6_ c7_ c8_ c9_ c10_ c11_ c12_ c13_ c14_ c15_ c16_ c17_ c18_ c19_ c20_ w kp tx txl rf ya yb (tE tx txl at2) (tS tx txl at2) (iW tx txl at2) (iF tx txl at2) (updN nb k (nV tx txl at2)) fr la nms nd wf hh tl)) := by
  refine zS.of (by decide) (Nat.le_of_ble_eq_true rfl) (fun F O hR1 hR2 => ?_)
  have O : zOk G F yX4_takesNumber cX4_takesNumber 3 (some .boolean) RX4 3 (yM G c0_ c1_ c2_ c3_ c4_ c5_ c6_ c7_ c8_ c9_ c10_ c11_ c12_ c13_ c14_ c15_ c16_ c17_ c18_ c19_ c20_ w kp tx txl rf ya yb at2 st2 iwd ifg nb fr la nms nd wf hh tl).length := O
  refine z_eq (lv' := [(0, _), (1, _)]) rfl rfl rfl ?_
  have ht := tO_2 h2
  have hel := (tE_le (t := tx) hal).2
  have hge := tE_ge tx txl at2
  have h2e := ht.2.2.2.2.2.1
  have hre := ht.2.2.2.2.2.2
  refine z_aload_n O dX4_takesNumber_0 rfl ?_
  refine z_V0u0 O (m_token hl hby hal) mX4_token lkX4_146 rfl (by rfl) dX4_takesNumber_1 (Nat.le_of_ble_eq_true rfl) (by decide) ?_
  refine z_aload_n O dX4_takesNumber_4 rfl ?_
  refine z_get O dX4_takesNumber_5 flX4_140 (by rfl) (by rfl) ?_
  refine z_if_eqB O 24 dX4_takesNumber_8 (by decide) (fun h8 => by exact absurd ⟨ht.2.2.1, ht.2.2.2.1⟩ h8) (fun h8 => ?_)
  refine z_aload_n O dX4_takesNumber_11 rfl ?_
  refine z_get O dX4_takesNumber_12 flX4_119 (by rfl) (by rfl) ?_
  refine z_aload_n O dX4_takesNumber_15 rfl ?_
  refine z_get O dX4_takesNumber_16 flX4_125 (by rfl) (by rfl) ?_
  refine z_isubN O dX4_takesNumber_19 (by omega) ?_
  refine z_iconst O (nI 2) dX4_takesNumber_20 (by decide) ?_
  refine z_icmp_leN O 26 dX4_takesNumber_21 (by decide) (by omega) (by omega) (fun h21 => ?_) (fun h21 => by omega)
  refine z_aload_n O dX4_takesNumber_26 rfl ?_
  refine z_get O dX4_takesNumber_27 flX4_27 (by rfl) (by rfl) ?_
  refine z_iload_n O dX4_takesNumber_30 rfl ?_
  refine z_iconst O (nI 0) dX4_takesNumber_31 (by decide) ?_
  refine z_iastN O (by rfl) dX4_takesNumber_32 (by rfl) (by omega) (by decide) ?_
  refine z_M (show _ = (yM G c0_ c1_ c2_ c3_ c4_ c5_ c6_ c7_ c8_ c9_ c10_ c11_ c12_ c13_ c14_ c15_ c16_ c17_ c18_ c19_ c20_ w kp tx txl rf ya yb (tE tx txl at2) (tS tx txl at2) (iW tx txl at2) (iF tx txl at2) (updN nb k (nvN tx (tS tx txl at2) 0)) fr la nms nd wf hh tl) from rfl) ?_
  refine z_aload_n O dX4_takesNumber_33 rfl ?_
  refine z_get O dX4_takesNumber_34 flX4_125 (by rfl) (by rfl) ?_
  refine z_istore_n (lv' := [(0, _), (1, _), (2, _)]) O dX4_takesNumber_37 (by decide) rfl ?_
  refine zdown (P := fun i => Z G F 0 0 (zEnd G F (zE (.int (nI 1)) (yM G c0_ c1_ c2_ c3_ c4_ c5_ c6_ c7_ c8_ c9_ c10_ c11_ c12_ c13_ c14_ c15_ c16_ c17_ c18_ c19_ c20_ w kp tx txl rf ya yb (tE tx txl at2) (tS tx txl at2) (iW tx txl at2) (iF tx txl at2) (updN nb k (nV tx txl at2)) fr la nms nd wf hh tl)) 0 0) 38 [(0, .ref (zad (zb G) 21)), (1, .int (nI k)), (2, .int (nI ((tS tx txl at2) + i)))] [] (yM G c0_ c1_ c2_ c3_ c4_ c5_ c6_ c7_ c8_ c9_ c10_ c11_ c12_ c13_ c14_ c15_ c16_ c17_ c18_ c19_ c20_ w kp tx txl rf ya yb (tE tx txl at2) (tS tx txl at2) (iW tx txl at2) (iF tx txl at2) (updN nb k (nvN tx (tS tx txl at2) i)) fr la nms nd wf hh tl)) ((tE tx txl at2) - (tS tx txl at2)) ?_ ?_ 
  · refine z_iload_n O dX4_takesNumber_38 rfl ?_
    refine z_aload_n O dX4_takesNumber_39 rfl ?_
    refine z_get O dX4_takesNumber_40 flX4_119 (by rfl) (by rfl) ?_
    refine z_icmp_geN O 76 dX4_takesNumber_43 (by decide) (by omega) (by omega) (fun h43 => ?_) (fun h43 => by omega)
    refine z_iconst O (nI 1) dX4_takesNumber_76 (by decide) ?_
    exact z_zret O dX4_takesNumber_77 rfl ⟨rfl, rfl⟩
  · intro i hi ih 
    have hin := rn_in (p := FGb tx) (len := txl) (q := (tS tx txl at2)) (i := (tS tx txl at2) + i) (by omega) (by omega)
    have hfg : 48 ≤ tx ((tS tx txl at2) + i) ∧ tx ((tS tx txl at2) + i) ≤ 57 := of_decide_eq_true hin.2
    refine z_iload_n O dX4_takesNumber_38 rfl ?_
    refine z_aload_n O dX4_takesNumber_39 rfl ?_
    refine z_get O dX4_takesNumber_40 flX4_119 (by rfl) (by rfl) ?_
    refine z_icmp_geN O 76 dX4_takesNumber_43 (by decide) (by omega) (by omega) (fun h43 => by omega) (fun h43 => ?_)
    refine z_aload_n O dX4_takesNumber_46 rfl ?_
    refine z_get O dX4_takesNumber_47 flX4_27 (by rfl) (by rfl) ?_
    refine z_iload_n O dX4_takesNumber_50 rfl ?_
    refine z_bipush O (nI 10) dX4_takesNumber_51 (by decide) ?_
    refine z_aload_n O dX4_takesNumber_53 rfl ?_
    refine z_get O dX4_takesNumber_54 flX4_27 (by rfl) (by rfl) ?_
    refine z_iload_n O dX4_takesNumber_57 rfl ?_
    refine z_ialdN O dX4_takesNumber_58 (by rfl) (by omega) (by decide) ?_
    refine z_top (v' := .int (nI (nvN tx (tS tx txl at2) i))) (congrArg Value.int (congrArg nI updN_s)) ?_
    refine z_imulN O dX4_takesNumber_59 ?_
    refine z_aload_n O dX4_takesNumber_60 rfl ?_
    refine z_iload_n O dX4_takesNumber_61 rfl ?_
    refine z_V1e0 O (m_byteAt hl (by omega)) mX4_byteAt lkX4_122 rfl (by rfl) dX4_takesNumber_62 (Nat.le_of_ble_eq_true rfl) (by decide) ?_
    rw [bt_in (show (tS tx txl at2) + i < txl by omega)]
    refine z_iaddN O dX4_takesNumber_65 ?_
    refine z_bipush O (nI 48) dX4_takesNumber_66 (by decide) ?_
    refine z_isubN O dX4_takesNumber_68 (by omega) ?_
    refine z_iastN O (by rfl) dX4_takesNumber_69 (by rfl) (by omega) (by decide) ?_
    refine z_M (show _ = (yM G c0_ c1_ c2_ c3_ c4_ c5_ c6_ c7_ c8_ c9_ c10_ c11_ c12_ c13_ c14_ c15_ c16_ c17_ c18_ c19_ c20_ w kp tx txl rf ya yb (tE tx txl at2) (tS tx txl at2) (iW tx txl at2) (iF tx txl at2) (updN (updN nb k (nvN tx (tS tx txl at2) i)) k (10 * nvN tx (tS tx txl at2) i + tx ((tS tx txl at2) + i) - 48)) fr la nms nd wf hh tl) from rfl) ?_
    rw [updN_u, show 10 * nvN tx (tS tx txl at2) i + tx ((tS tx txl at2) + i) - 48 = nvN tx (tS tx txl at2) (i + 1) from (if_pos (by omega)).symm]
    refine z_iincN (lv' := [(0, _), (1, _), (2, _)]) O 1 dX4_takesNumber_70 (by decide) rfl rfl (by decide) ?_
    refine z_goto O 38 dX4_takesNumber_73 (by decide) ?_
    exact ih
set_option maxRecDepth 20000 in
set_option maxHeartbeats 4000000 in
theorem m_takesNumberN (hl : txl ≤ 150) (hby : ∀ j, tx j ≤ 127) (hal : at2 ≤ txl) {k : Nat} (hk : k < 4) (h2 : ¬ tO tx txl at2 = 2) : zS G 3 yX4_takesNumber cX4_takesNumber 3 (some .boolean) [.ref (zad (zb G) 21), .int (nI k)] (yM G c0_ c1_ c2_ c3_ c4_ c5_ c6_ c7_ c8_ c9_ c10_ c11_ c12_ c13_ c14_ c15_ c16_ c17_ c18_ c19_ c20_ w kp tx txl rf ya yb at2 st2 iwd ifg nb fr la nms nd wf hh tl) 0 0 (zE (.int (nI 0)) (yM G c0_ c1_ c2_ c3_ c4_ c5_ c6_ c7_ c8_ c9_ c10_ c11_ c12_ c13_ c14_ c15_ c16_ c17_ c18_ c19_ c20_ w kp tx txl rf ya yb (tE tx txl at2) (tS tx txl at2) (iW tx txl at2) (iF tx txl at2) nb fr la nms nd wf hh tl)) := by
  refine zS.of (by decide) (Nat.le_of_ble_eq_true rfl) (fun F O hR1 hR2 => ?_)
  have O : zOk G F yX4_takesNumber cX4_takesNumber 3 (some .boolean) RX4 3 (yM G c0_ c1_ c2_ c3_ c4_ c5_ c6_ c7_ c8_ c9_ c10_ c11_ c12_ c13_ c14_ c15_ c16_ c17_ c18_ c19_ c20_ w kp tx txl rf ya yb at2 st2 iwd ifg nb fr la nms nd wf hh tl).length := O
  refine z_eq (lv' := [(0, _), (1, _)]) rfl rfl rfl ?_
  have hel := (tE_le (t := tx) hal).2
  have hge := tE_ge tx txl at2
  refine z_aload_n O dX4_takesNumber_0 rfl ?_
  refine z_V0u0 O (m_token hl hby hal) mX4_token lkX4_146 rfl (by rfl) dX4_takesNumber_1 (Nat.le_of_ble_eq_true rfl) (by decide) ?_
  by_cases hf : (tS tx txl at2) < txl ∧ FGb tx (tS tx txl at2) = true
  · refine z_aload_n O dX4_takesNumber_4 rfl ?_
    refine z_get O dX4_takesNumber_5 flX4_140 (by rfl) (by rfl) ?_
    refine z_if_eqB O 24 dX4_takesNumber_8 (by decide) (fun h8 => by exact absurd hf h8) (fun h8 => ?_)
    refine z_aload_n O dX4_takesNumber_11 rfl ?_
    refine z_get O dX4_takesNumber_12 flX4_119 (by rfl) (by rfl) ?_
    refine z_aload_n O dX4_takesNumber_15 rfl ?_
    refine z_get O dX4_takesNumber_16 flX4_125 (by rfl) (by rfl) ?_
    refine z_isubN O dX4_takesNumber_19 (by omega) ?_
    refine z_iconst O (nI 2) dX4_takesNumber_20 (by decide) ?_
    refine z_icmp_leN O 26 dX4_takesNumber_21 (by decide) (by omega) (by omega) (fun h21 => by exact absurd (tO_2i hf.1 hf.2 (by omega)) h2) (fun h21 => ?_)
    refine z_iconst O (nI 0) dX4_takesNumber_24 (by decide) ?_
    exact z_zret O dX4_takesNumber_25 rfl ⟨rfl, rfl⟩
  · refine z_aload_n O dX4_takesNumber_4 rfl ?_
    refine z_get O dX4_takesNumber_5 flX4_140 (by rfl) (by rfl) ?_
    refine z_if_eqB O 24 dX4_takesNumber_8 (by decide) (fun h8 => ?_) (fun h8 => by exact absurd h8 hf)
    refine z_iconst O (nI 0) dX4_takesNumber_24 (by decide) ?_
    exact z_zret O dX4_takesNumber_25 rfl ⟨rfl, rfl⟩
end YS
