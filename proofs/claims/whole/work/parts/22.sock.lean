/-! ===== Sock: what changes it ===== -/
def darnsM (r : Nat → Nat) (m : Nat) : Nat → Nat
  | 0 => 0
  | c + 1 => if bitN m c = 0 then darnsM r m c else darnsM r m c + r (108 + c)
def holesB (r : Nat → Nat) : Nat → Bool := fun c => r (108 + c) == 0
def vd (r : Nat → Nat) (c : Nat) : Int32 := if r (108 + c) < 3 then 0 else -4
def putN (r : Nat → Nat) (c kd fam th : Nat) : Nat → Nat :=
  updN (updN (updN (updN (updN r ((c * 3 + r (108 + c)) * 4 + 0) kd) ((c * 3 + r (108 + c)) * 4 + 1) fam) ((c * 3 + r (108 + c)) * 4 + 2) th) ((c * 3 + r (108 + c)) * 4 + 3) (r 117)) (108 + c) (r (108 + c) + 1)
def takeN (r : Nat → Nat) (c : Nat) : Nat → Nat := updN r (108 + c) (r (108 + c) - 1)
def wearTopN (r we : Nat → Nat) (c : Nat) : Nat → Nat :=
  if fld r c (r (108 + c) - 1) 2 ≤ lossN (fld r c (r (108 + c) - 1) 0) (we c) (r 117) then takeN r c
  else updN r ((c * 3 + (r (108 + c) - 1)) * 4 + 2) (fld r c (r (108 + c) - 1) 2 - lossN (fld r c (r (108 + c) - 1) 0) (we c) (r 117))
def passC (r we : Nat → Nat) : Nat → Nat → Nat
  | 0 => r
  | c + 1 => if passC r we c (108 + c) = 0 then passC r we c else wearTopN (passC r we c) we c
def passN (r we : Nat → Nat) : Nat → Nat := updN (passC r we 9) 117 (passC r we 9 117 + 1)
def renewC (r : Nat → Nat) : Nat → Nat → Nat
  | 0 => r
  | c + 1 => updN (renewC r c) (108 + c) 0
def onesC (we : Nat → Nat) : Nat → Nat → Nat
  | 0 => we
  | c + 1 => updN (onesC we c) c 1
theorem updN_lt {r : Nat → Nat} {k v B : Nat} (h : ∀ j, r j < B) (hv : v < B) : ∀ j, updN r k v j < B := fun j => by
  unfold updN
  split
  · exact hv
  · exact h j
theorem rowOK_put {r : Nat → Nat} (h : rowOK r) {c kd fam th : Nat} (hc : c < 9) (h3 : r (108 + c) < 3) (h1 : kd < 1048576) (h2 : fam < 1048576) (h4 : th < 1048576) : rowOK (putN r c kd fam th) := by
  refine ⟨updN_lt (updN_lt (updN_lt (updN_lt (updN_lt h.1 h1) h2) h4) (h.1 _)) (by omega), fun b hb => ?_⟩
  have hb3 := h.2 b hb
  unfold putN
  by_cases he : 108 + b = 108 + c
  · rw [he, updN_s]; omega
  · rw [updN_n he, updN_n (by omega), updN_n (by omega), updN_n (by omega), updN_n (by omega)]; exact hb3
theorem rowOK_take {r : Nat → Nat} (h : rowOK r) {c : Nat} (hc : c < 9) : rowOK (takeN r c) := by
  have h0 := h.1 (108 + c)
  refine ⟨updN_lt h.1 (by omega), fun b hb => ?_⟩
  have hb3 := h.2 b hb
  have hc3 := h.2 c hc
  unfold takeN
  by_cases he : 108 + b = 108 + c
  · rw [he, updN_s]; omega
  · rw [updN_n he]; exact hb3
theorem rowOK_wearTop {r we : Nat → Nat} (h : rowOK r) {c : Nat} (hc : c < 9) : rowOK (wearTopN r we c) := by
  unfold wearTopN
  split
  · exact rowOK_take h hc
  · have h0 : fld r c (r (108 + c) - 1) 2 < 1048576 := h.1 _
    have hc3 := h.2 c hc
    refine ⟨updN_lt h.1 (by omega), fun b hb => ?_⟩
    rw [updN_n (by omega)]
    exact h.2 b hb
theorem rowOK_passC {r we : Nat → Nat} (h : rowOK r) : ∀ c, c ≤ 9 → rowOK (passC r we c)
  | 0, _ => h
  | c + 1, hc => by
    unfold passC
    split
    · exact rowOK_passC h c (by omega)
    · exact rowOK_wearTop (rowOK_passC h c (by omega)) (by omega)
theorem wearTop_year {r we : Nat → Nat} {c : Nat} (hc : c < 9) (h : rowOK r) : wearTopN r we c 117 = r 117 := by
  have hc3 := h.2 c hc
  unfold wearTopN takeN
  split
  · exact updN_n (by omega)
  · exact updN_n (by omega)
theorem passC_year {r we : Nat → Nat} (h : rowOK r) : ∀ c, c ≤ 9 → passC r we c 117 = r 117
  | 0, _ => rfl
  | c + 1, hc => by
    unfold passC
    split
    · exact passC_year h c (by omega)
    · rw [wearTop_year (by omega) (rowOK_passC h c (by omega))]; exact passC_year h c (by omega)
theorem rowOK_pass {r we : Nat → Nat} (h : rowOK r) (hy : r 117 + 1 < 1048576) : rowOK (passN r we) := by
  have h9 := rowOK_passC (we := we) h 9 (by omega)
  have e9 := passC_year (we := we) h 9 (by omega)
  refine ⟨updN_lt h9.1 (by omega), fun b hb => ?_⟩
  unfold passN
  rw [updN_n (by omega)]
  exact h9.2 b hb
theorem zren {M : List va_E} {i1 i2 : Nat} {e1 e2 e1' e2' : va_E} (h : i1 ≠ i2) : (((M.set i1 e1).set i2 e2).set i1 e1').set i2 e2' = (M.set i1 e1').set i2 e2' := by
  rw [List.set_comm _ _ (Ne.symm h), zss, zss]
section SK
variable {G : zG} {M : List va_E} {k i1 i2 i3 : Nat} {we r cl : Nat → Nat}
set_option maxRecDepth 20000 in
set_option maxHeartbeats 4000000 in
theorem s_darnsOf (hS : zSock G M k i1 i2 i3 we r cl) {m : Nat} (hm : m < 2 ^ 31) : zS G 2 yX0_darnsOf cX0_darnsOf 4 (some .int) [.ref (zad (zb G) k), .int (nI m)] M 0 0 (zE (.int (nI (darnsM r m 9))) M) := by
  refine zS.of (by decide) (Nat.le_of_ble_eq_true rfl) (fun F O hR1 hR2 => ?_)
  have O : zOk G F yX0_darnsOf cX0_darnsOf 4 (some .int) RX0 2 M.length := O
  refine z_eq (lv' := [(0, _), (1, _)]) rfl rfl rfl ?_
  obtain ⟨hk0, hk1, hk2, hk3⟩ := id hS
  refine z_iconst O (nI 0) dX0_darnsOf_0 (by decide) ?_
  refine z_istore_n (lv' := [(0, _), (1, _), (2, _)]) O dX0_darnsOf_1 (by decide) rfl ?_
  refine z_iconst O (nI 0) dX0_darnsOf_2 (by decide) ?_
  refine z_istore_n (lv' := [(0, _), (1, _), (2, _), (3, _)]) O dX0_darnsOf_3 (by decide) rfl ?_
  refine zdown (P := fun c => Z G F 0 0 (zEnd G F (zE (.int (nI (darnsM r m 9))) M) 0 0) 4 [(0, .ref (zad (zb G) k)), (1, .int (nI m)), (2, .int (nI (darnsM r m c))), (3, .int (nI c))] [] M) (9) ?_ ?_ 
  · refine z_iload_n O dX0_darnsOf_4 rfl ?_
    refine z_bipush O (nI 9) dX0_darnsOf_5 (by decide) ?_
    refine z_icmp_geN O 32 dX0_darnsOf_7 (by decide) (by omega) (by omega) (fun h7 => ?_) (fun h7 => by omega)
    refine z_iload_n O dX0_darnsOf_32 rfl ?_
    exact z_iret O dX0_darnsOf_33 ⟨rfl, rfl⟩
  · intro c hc ih 
    refine z_iload_n O dX0_darnsOf_4 rfl ?_
    refine z_bipush O (nI 9) dX0_darnsOf_5 (by decide) ?_
    refine z_icmp_geN O 32 dX0_darnsOf_7 (by decide) (by omega) (by omega) (fun h7 => by omega) (fun h7 => ?_)
    refine z_iload_n O dX0_darnsOf_10 rfl ?_
    refine z_iload_n O dX0_darnsOf_11 rfl ?_
    refine z_ishr O dX0_darnsOf_12 ?_
    refine z_iconst O (nI 1) dX0_darnsOf_13 (by decide) ?_
    refine z_iand O dX0_darnsOf_14 ?_
    refine z_top (v' := .int (nI (bitN m c))) (congrArg Value.int (zb_bit hm (by omega))) ?_
    refine z_if_eqN O 26 dX0_darnsOf_15 (by decide) (by have : bitN m c < 2 := Nat.mod_lt _ (by decide); omega) (fun h15 => ?_) (fun h15 => ?_)
    · refine z_iincN (lv' := [(0, _), (1, _), (2, _), (3, _)]) O 1 dX0_darnsOf_26 (by decide) rfl rfl (by decide) ?_
      refine z_goto O 4 dX0_darnsOf_29 (by decide) ?_
      first | (rw [show darnsM r m (c + 1) = darnsM r m c from if_pos h15] at ih; exact ih) | (rw [show darnsM r m (c + 1) = darnsM r m c + r (108 + c) from if_neg h15] at ih; exact ih)
    · refine z_iload_n O dX0_darnsOf_18 rfl ?_
      refine z_aload_n O dX0_darnsOf_19 rfl ?_
      refine z_iload_n O dX0_darnsOf_20 rfl ?_
      refine z_V1e0 O (s_many hS hc) mX0_many lkX0_35 rfl (by assumption) dX0_darnsOf_21 (Nat.le_of_ble_eq_true rfl) (by decide) ?_
      refine z_iaddN O dX0_darnsOf_24 ?_
      refine z_istore_n (lv' := [(0, _), (1, _), (2, _), (3, _)]) O dX0_darnsOf_25 (by decide) rfl ?_
      refine z_iincN (lv' := [(0, _), (1, _), (2, _), (3, _)]) O 1 dX0_darnsOf_26 (by decide) rfl rfl (by decide) ?_
      refine z_goto O 4 dX0_darnsOf_29 (by decide) ?_
      first | (rw [show darnsM r m (c + 1) = darnsM r m c from if_pos h15] at ih; exact ih) | (rw [show darnsM r m (c + 1) = darnsM r m c + r (108 + c) from if_neg h15] at ih; exact ih)
set_option maxRecDepth 20000 in
set_option maxHeartbeats 4000000 in
theorem s_darns (hS : zSock G M k i1 i2 i3 we r cl) : zS G 3 yX0_darns cX0_darns 1 (some .int) [.ref (zad (zb G) k)] M 0 0 (zE (.int (nI (darnsM r 511 9))) M) := by
  refine zS.of (by decide) (Nat.le_of_ble_eq_true rfl) (fun F O hR1 hR2 => ?_)
  have O : zOk G F yX0_darns cX0_darns 1 (some .int) RX0 3 M.length := O
  refine z_eq (lv' := [(0, _)]) rfl rfl rfl ?_
  obtain ⟨hk0, hk1, hk2, hk3⟩ := id hS
  refine z_aload_n O dX0_darns_0 rfl ?_
  refine z_sipush O (nI 511) dX0_darns_1 (by decide) ?_
  refine z_V1e0 O (s_darnsOf hS (by decide)) mX0_darnsOf lkX0_39 rfl (by assumption) dX0_darns_4 (Nat.le_of_ble_eq_true rfl) (by decide) ?_
  exact z_iret O dX0_darns_7 ⟨rfl, rfl⟩
set_option maxRecDepth 20000 in
set_option maxHeartbeats 4000000 in
theorem s_holeBits (hS : zSock G M k i1 i2 i3 we r cl) (hr : rowOK r) : zS G 3 yX0_holeBits cX0_holeBits 3 (some .int) [.ref (zad (zb G) k)] M 0 0 (zE (.int (nI (bitsN (holesB r) 9))) M) := by
  refine zS.of (by decide) (Nat.le_of_ble_eq_true rfl) (fun F O hR1 hR2 => ?_)
  have O : zOk G F yX0_holeBits cX0_holeBits 3 (some .int) RX0 3 M.length := O
  refine z_eq (lv' := [(0, _)]) rfl rfl rfl ?_
  obtain ⟨hk0, hk1, hk2, hk3⟩ := id hS
  refine z_iconst O (nI 0) dX0_holeBits_0 (by decide) ?_
  refine z_istore_n (lv' := [(0, _), (1, _)]) O dX0_holeBits_1 (by decide) rfl ?_
  refine z_iconst O (nI 0) dX0_holeBits_2 (by decide) ?_
  refine z_istore_n (lv' := [(0, _), (1, _), (2, _)]) O dX0_holeBits_3 (by decide) rfl ?_
  refine zdown (P := fun c => Z G F 0 0 (zEnd G F (zE (.int (nI (bitsN (holesB r) 9))) M) 0 0) 4 [(0, .ref (zad (zb G) k)), (1, .int (nI (bitsN (holesB r) c))), (2, .int (nI c))] [] M) (9) ?_ ?_ 
  · refine z_iload_n O dX0_holeBits_4 rfl ?_
    refine z_bipush O (nI 9) dX0_holeBits_5 (by decide) ?_
    refine z_icmp_geN O 30 dX0_holeBits_7 (by decide) (by omega) (by omega) (fun h7 => ?_) (fun h7 => by omega)
    refine z_iload_n O dX0_holeBits_30 rfl ?_
    exact z_iret O dX0_holeBits_31 ⟨rfl, rfl⟩
  · intro c hc ih 
    refine z_iload_n O dX0_holeBits_4 rfl ?_
    refine z_bipush O (nI 9) dX0_holeBits_5 (by decide) ?_
    refine z_icmp_geN O 30 dX0_holeBits_7 (by decide) (by omega) (by omega) (fun h7 => by omega) (fun h7 => ?_)
    refine z_aload_n O dX0_holeBits_10 rfl ?_
    refine z_iload_n O dX0_holeBits_11 rfl ?_
    refine z_V1e0 O (s_isHole hS hr hc) mX0_isHole lkX0_42 rfl (by assumption) dX0_holeBits_12 (Nat.le_of_ble_eq_true rfl) (by decide) ?_
    refine z_if_eqB O 24 dX0_holeBits_15 (by decide) (fun h15 => ?_) (fun h15 => ?_)
    · refine z_iincN (lv' := [(0, _), (1, _), (2, _)]) O 1 dX0_holeBits_24 (by decide) rfl rfl (by decide) ?_
      refine z_goto O 4 dX0_holeBits_27 (by decide) ?_
      first | (rw [show bitsN (holesB r) (c + 1) = bitsN (holesB r) c + 2 ^ c from if_pos (by simp [holesB, h15])] at ih; exact ih) | (rw [show bitsN (holesB r) (c + 1) = bitsN (holesB r) c from if_neg (by simp [holesB, h15])] at ih; exact ih)
    · refine z_iload_n O dX0_holeBits_18 rfl ?_
      refine z_iconst O (nI 1) dX0_holeBits_19 (by decide) ?_
      refine z_iload_n O dX0_holeBits_20 rfl ?_
      refine z_ishl O dX0_holeBits_21 ?_
      refine z_ior O dX0_holeBits_22 ?_
      refine z_top (v' := .int (nI (bitsN (holesB r) c + 2 ^ c))) (congrArg Value.int (zb_or (bitsN_lt _ _) (by omega))) ?_
      refine z_istore_n (lv' := [(0, _), (1, _), (2, _)]) O dX0_holeBits_23 (by decide) rfl ?_
      refine z_iincN (lv' := [(0, _), (1, _), (2, _)]) O 1 dX0_holeBits_24 (by decide) rfl rfl (by decide) ?_
      refine z_goto O 4 dX0_holeBits_27 (by decide) ?_
      first | (rw [show bitsN (holesB r) (c + 1) = bitsN (holesB r) c + 2 ^ c from if_pos (by simp [holesB, h15])] at ih; exact ih) | (rw [show bitsN (holesB r) (c + 1) = bitsN (holesB r) c from if_neg (by simp [holesB, h15])] at ih; exact ih)
set_option maxRecDepth 20000 in
set_option maxHeartbeats 4000000 in
theorem s_verdictB (hS : zSock G M k i1 i2 i3 we r cl) {c kd fm th : Int32} (hbad : ¬ ((0 ≤ c ∧ c < nI 9) ∧ (0 ≤ kd ∧ kd < nI 6) ∧ (0 ≤ fm ∧ fm < nI 3) ∧ (nI 1 ≤ th ∧ th ≤ nI 30))) : zS G 2 yX0_verdict cX0_verdict 5 (some .int) [.ref (zad (zb G) k), .int c, .int kd, .int fm, .int th] M 0 0 (zE (.int (-2)) M) := by
  refine zS.of (by decide) (Nat.le_of_ble_eq_true rfl) (fun F O hR1 hR2 => ?_)
  have O : zOk G F yX0_verdict cX0_verdict 5 (some .int) RX0 2 M.length := O
  refine z_eq (lv' := [(0, _), (1, _), (2, _), (3, _), (4, _)]) rfl rfl rfl ?_
  obtain ⟨hk0, hk1, hk2, hk3⟩ := id hS
  refine z_iload_n O dX0_verdict_0 rfl ?_
  refine z_bipush O (nI 9) dX0_verdict_1 (by decide) ?_
  refine z_SN2e0 O s_within mX3_within nlX0_27 dX0_verdict_3 (Nat.le_of_ble_eq_true rfl) (by decide) ?_
  refine z_if_eqB O 26 dX0_verdict_6 (by decide) (fun h6 => ?_) (fun h6 => ?_)
  · refine z_bipush O (-2) dX0_verdict_26 (by decide) ?_
    exact z_iret O dX0_verdict_28 ⟨rfl, rfl⟩
  · refine z_iload_n O dX0_verdict_9 rfl ?_
    refine z_bipush O (nI 6) dX0_verdict_10 (by decide) ?_
    refine z_SN2e0 O s_within mX3_within nlX0_27 dX0_verdict_12 (Nat.le_of_ble_eq_true rfl) (by decide) ?_
    refine z_if_eqB O 26 dX0_verdict_15 (by decide) (fun h15 => ?_) (fun h15 => ?_)
    · refine z_bipush O (-2) dX0_verdict_26 (by decide) ?_
      exact z_iret O dX0_verdict_28 ⟨rfl, rfl⟩
    · refine z_iload_n O dX0_verdict_18 rfl ?_
      refine z_iconst O (nI 3) dX0_verdict_19 (by decide) ?_
      refine z_SN2e0 O s_within mX3_within nlX0_27 dX0_verdict_20 (Nat.le_of_ble_eq_true rfl) (by decide) ?_
      refine z_if_neB O 29 dX0_verdict_23 (by decide) (fun h23 => ?_) (fun h23 => ?_)
      · refine z_iload O dX0_verdict_29 rfl ?_
        refine z_iconst O (nI 1) dX0_verdict_31 (by decide) ?_
        refine z_bipush O (nI 30) dX0_verdict_32 (by decide) ?_
        refine z_SN3e0 O s_between mX3_between nlX0_46 dX0_verdict_34 (Nat.le_of_ble_eq_true rfl) (by decide) ?_
        refine z_if_neB O 43 dX0_verdict_37 (by decide) (fun h37 => ?_) (fun h37 => ?_)
        · exact absurd ⟨h6, h15, h23, h37⟩ hbad --stop
        · refine z_bipush O (-2) dX0_verdict_40 (by decide) ?_
          exact z_iret O dX0_verdict_42 ⟨rfl, rfl⟩
      · refine z_bipush O (-2) dX0_verdict_26 (by decide) ?_
        exact z_iret O dX0_verdict_28 ⟨rfl, rfl⟩
set_option maxRecDepth 20000 in
set_option maxHeartbeats 4000000 in
theorem s_verdict (hS : zSock G M k i1 i2 i3 we r cl) (hr : rowOK r) {c kd fm th : Nat} (hc : c < 9) (h1 : kd < 6) (h2 : fm < 3) (h3 : 1 ≤ th) (h4 : th ≤ 30) : zS G 3 yX0_verdict cX0_verdict 5 (some .int) [.ref (zad (zb G) k), .int (nI c), .int (nI kd), .int (nI fm), .int (nI th)] M 0 0 (zE (.int (vd r c)) M) := by
  refine zS.of (by decide) (Nat.le_of_ble_eq_true rfl) (fun F O hR1 hR2 => ?_)
  have O : zOk G F yX0_verdict cX0_verdict 5 (some .int) RX0 3 M.length := O
  refine z_eq (lv' := [(0, _), (1, _), (2, _), (3, _), (4, _)]) rfl rfl rfl ?_
  obtain ⟨hk0, hk1, hk2, hk3⟩ := id hS
  refine z_iload_n O dX0_verdict_0 rfl ?_
  refine z_bipush O (nI 9) dX0_verdict_1 (by decide) ?_
  refine z_SN2e0 O (s_withinN (by omega) (by omega)) mX3_within nlX0_27 dX0_verdict_3 (Nat.le_of_ble_eq_true rfl) (by decide) ?_
  refine z_if_eqB O 26 dX0_verdict_6 (by decide) (fun h6 => by omega) (fun h6 => ?_)
  refine z_iload_n O dX0_verdict_9 rfl ?_
  refine z_bipush O (nI 6) dX0_verdict_10 (by decide) ?_
  refine z_SN2e0 O (s_withinN (by omega) (by omega)) mX3_within nlX0_27 dX0_verdict_12 (Nat.le_of_ble_eq_true rfl) (by decide) ?_
  refine z_if_eqB O 26 dX0_verdict_15 (by decide) (fun h15 => by omega) (fun h15 => ?_)
  refine z_iload_n O dX0_verdict_18 rfl ?_
  refine z_iconst O (nI 3) dX0_verdict_19 (by decide) ?_
  refine z_SN2e0 O (s_withinN (by omega) (by omega)) mX3_within nlX0_27 dX0_verdict_20 (Nat.le_of_ble_eq_true rfl) (by decide) ?_
  refine z_if_neB O 29 dX0_verdict_23 (by decide) (fun h23 => ?_) (fun h23 => by omega)
  refine z_iload O dX0_verdict_29 rfl ?_
  refine z_iconst O (nI 1) dX0_verdict_31 (by decide) ?_
  refine z_bipush O (nI 30) dX0_verdict_32 (by decide) ?_
  refine z_SN3e0 O (s_betweenN (by omega) (by omega) (by omega)) mX3_between nlX0_46 dX0_verdict_34 (Nat.le_of_ble_eq_true rfl) (by decide) ?_
  refine z_if_neB O 43 dX0_verdict_37 (by decide) (fun h37 => ?_) (fun h37 => by omega)
  refine z_aload_n O dX0_verdict_43 rfl ?_
  refine z_iload_n O dX0_verdict_44 rfl ?_
  refine z_V1e0 O (s_hasRoom hS hr hc) mX0_hasRoom lkX0_50 rfl (by assumption) dX0_verdict_45 (Nat.le_of_ble_eq_true rfl) (by decide) ?_
  refine z_if_eqB O 55 dX0_verdict_48 (by decide) (fun h48 => ?_) (fun h48 => ?_)
  · refine z_bipush O (-4) dX0_verdict_55 (by decide) ?_
    exact z_iret O dX0_verdict_57 (by first | exact ⟨by simp only [vd, h48, if_true]; rfl, rfl⟩ | exact ⟨by simp only [vd, h48, if_false], rfl⟩)
  · refine z_iconst O (nI 0) dX0_verdict_51 (by decide) ?_
    refine z_goto O 57 dX0_verdict_52 (by decide) ?_
    exact z_iret O dX0_verdict_57 (by first | exact ⟨by simp only [vd, h48, if_true]; rfl, rfl⟩ | exact ⟨by simp only [vd, h48, if_false], rfl⟩)
set_option maxRecDepth 20000 in
set_option maxHeartbeats 4000000 in
theorem s_put (hS : zSock G M k i1 i2 i3 we r cl) (hr : rowOK r) {c kd fm th : Nat} (hc : c < 9) (h1 : kd < 6) (h2 : fm < 3) (h3 : 1 ≤ th) (h4 : th ≤ 30) (h5 : r (108 + c) < 3) : zS G 4 yX0_put cX0_put 6 (some .int) [.ref (zad (zb G) k), .int (nI c), .int (nI kd), .int (nI fm), .int (nI th)] M 0 0 (zE (.int (nI (r (108 + c) + 1))) (M.set i2 (zIN G 118 (putN r c kd fm th)))) := by
  refine zS.of (by decide) (Nat.le_of_ble_eq_true rfl) (fun F O hR1 hR2 => ?_)
  have O : zOk G F yX0_put cX0_put 6 (some .int) RX0 4 M.length := O
  refine z_eq (lv' := [(0, _), (1, _), (2, _), (3, _), (4, _)]) rfl rfl rfl ?_
  obtain ⟨hk0, hk1, hk2, hk3⟩ := id hS
  have hn20 := zIN_obj hk2 hk0
  have hn21 := zIN_inj hk2 hk1 (by decide)
  have hn23 := zIN_inj hk2 hk3 (by decide)
  have hn10 := zIN_obj hk1 hk0
  have hn12 := zIN_inj hk1 hk2 (by decide)
  have hn13 := zIN_inj hk1 hk3 (by decide)
  have hn30 := zIN_obj hk3 hk0
  have hn31 := zIN_inj hk3 hk1 (by decide)
  have hn32 := zIN_inj hk3 hk2 (by decide)
  refine z_aload_n O dX0_put_0 rfl ?_
  refine z_iload_n O dX0_put_1 rfl ?_
  refine z_iload_n O dX0_put_2 rfl ?_
  refine z_iload_n O dX0_put_3 rfl ?_
  refine z_iload O dX0_put_4 rfl ?_
  refine z_V4e0 O (s_verdict hS hr hc h1 h2 h3 h4) mX0_verdict lkX0_53 rfl (by first | assumption | exact zgs (by assumption) | exact zgn (by assumption) (by assumption)) dX0_put_6 (Nat.le_of_ble_eq_true rfl) (by decide) ?_
  refine z_if_eq O 18 dX0_put_9 (by decide) (fun h9 => ?_) (fun h9 => by exact absurd (if_pos h5) h9)
  refine z_iload_n O dX0_put_18 rfl ?_
  refine z_iconst O (nI 3) dX0_put_19 (by decide) ?_
  refine z_imulN O dX0_put_20 ?_
  refine z_aload_n O dX0_put_21 rfl ?_
  refine z_get O dX0_put_22 flX0_15 (by first | assumption | exact zgs (by assumption) | exact zgn (by assumption) (by assumption)) (by rfl) ?_
  refine z_bipush O (nI 108) dX0_put_25 (by decide) ?_
  refine z_iload_n O dX0_put_27 rfl ?_
  refine z_iaddN O dX0_put_28 ?_
  refine z_ialdN O dX0_put_29 (by first | assumption | exact zgs (by assumption) | exact zgn (by assumption) (by assumption)) (by omega) (by decide) ?_
  refine z_iaddN O dX0_put_30 ?_
  refine z_iconst O (nI 4) dX0_put_31 (by decide) ?_
  refine z_imulN O dX0_put_32 ?_
  refine z_istore (lv' := [(0, _), (1, _), (2, _), (3, _), (4, _), (5, _)]) O dX0_put_33 (by decide) rfl ?_
  refine z_aload_n O dX0_put_35 rfl ?_
  refine z_get O dX0_put_36 flX0_15 (by first | assumption | exact zgs (by assumption) | exact zgn (by assumption) (by assumption)) (by rfl) ?_
  refine z_iload O dX0_put_39 rfl ?_
  refine z_iconst O (nI 0) dX0_put_41 (by decide) ?_
  refine z_iaddN O dX0_put_42 ?_
  refine z_iload_n O dX0_put_43 rfl ?_
  refine z_iastN O (by first | rfl | simp | (simp; omega)) dX0_put_44 (by first | assumption | exact zgs (by assumption) | exact zgn (by assumption) (by assumption)) (by omega) (by decide) ?_
  refine z_aload_n O dX0_put_45 rfl ?_
  refine z_get O dX0_put_46 flX0_15 (by first | assumption | exact zgs (by assumption) | exact zgn (by assumption) (by assumption)) (by rfl) ?_
  refine z_iload O dX0_put_49 rfl ?_
  refine z_iconst O (nI 1) dX0_put_51 (by decide) ?_
  refine z_iaddN O dX0_put_52 ?_
  refine z_iload_n O dX0_put_53 rfl ?_
  refine z_iastN O (by first | rfl | simp | (simp; omega)) dX0_put_54 (by first | assumption | exact zgs (by assumption) | exact zgn (by assumption) (by assumption)) (by omega) (by decide) ?_
  refine z_M zss ?_
  refine z_aload_n O dX0_put_55 rfl ?_
  refine z_get O dX0_put_56 flX0_15 (by first | assumption | exact zgs (by assumption) | exact zgn (by assumption) (by assumption)) (by rfl) ?_
  refine z_iload O dX0_put_59 rfl ?_
  refine z_iconst O (nI 2) dX0_put_61 (by decide) ?_
  refine z_iaddN O dX0_put_62 ?_
  refine z_iload O dX0_put_63 rfl ?_
  refine z_iastN O (by first | rfl | simp | (simp; omega)) dX0_put_65 (by first | assumption | exact zgs (by assumption) | exact zgn (by assumption) (by assumption)) (by omega) (by decide) ?_
  refine z_M zss ?_
  refine z_aload_n O dX0_put_66 rfl ?_
  refine z_get O dX0_put_67 flX0_15 (by first | assumption | exact zgs (by assumption) | exact zgn (by assumption) (by assumption)) (by rfl) ?_
  refine z_iload O dX0_put_70 rfl ?_
  refine z_iconst O (nI 3) dX0_put_72 (by decide) ?_
  refine z_iaddN O dX0_put_73 ?_
  refine z_aload_n O dX0_put_74 rfl ?_
  refine z_get O dX0_put_75 flX0_15 (by first | assumption | exact zgs (by assumption) | exact zgn (by assumption) (by assumption)) (by rfl) ?_
  refine z_bipush O (nI 117) dX0_put_78 (by decide) ?_
  refine z_ialdN O dX0_put_80 (by first | assumption | exact zgs (by assumption) | exact zgn (by assumption) (by assumption)) (by omega) (by decide) ?_
  refine z_top (v' := .int (nI (r 117))) (congrArg Value.int (by rw [updN_n (by omega), updN_n (by omega), updN_n (by omega)])) ?_
  refine z_iastN O (by first | rfl | simp | (simp; omega)) dX0_put_81 (by first | assumption | exact zgs (by assumption) | exact zgn (by assumption) (by assumption)) (by omega) (by decide) ?_
  refine z_M zss ?_
  refine z_aload_n O dX0_put_82 rfl ?_
  refine z_get O dX0_put_83 flX0_15 (by first | assumption | exact zgs (by assumption) | exact zgn (by assumption) (by assumption)) (by rfl) ?_
  refine z_bipush O (nI 108) dX0_put_86 (by decide) ?_
  refine z_iload_n O dX0_put_88 rfl ?_
  refine z_iaddN O dX0_put_89 ?_
  refine z_dup2 O dX0_put_90 rfl rfl ?_
  refine z_ialdN O dX0_put_91 (by first | assumption | exact zgs (by assumption) | exact zgn (by assumption) (by assumption)) (by omega) (by decide) ?_
  refine z_top (v' := .int (nI (r (108 + c)))) (congrArg Value.int (by rw [updN_n (by omega), updN_n (by omega), updN_n (by omega), updN_n (by omega)])) ?_
  refine z_iconst O (nI 1) dX0_put_92 (by decide) ?_
  refine z_iaddN O dX0_put_93 ?_
  refine z_iastN O (by first | rfl | simp | (simp; omega)) dX0_put_94 (by first | assumption | exact zgs (by assumption) | exact zgn (by assumption) (by assumption)) (by omega) (by decide) ?_
  refine z_M zss ?_
  refine z_aload_n O dX0_put_95 rfl ?_
  refine z_get O dX0_put_96 flX0_15 (by first | assumption | exact zgs (by assumption) | exact zgn (by assumption) (by assumption)) (by rfl) ?_
  refine z_bipush O (nI 108) dX0_put_99 (by decide) ?_
  refine z_iload_n O dX0_put_101 rfl ?_
  refine z_iaddN O dX0_put_102 ?_
  refine z_ialdN O dX0_put_103 (by first | assumption | exact zgs (by assumption) | exact zgn (by assumption) (by assumption)) (by omega) (by decide) ?_
  refine z_top (v' := .int (nI (r (108 + c) + 1))) (congrArg Value.int (by rw [updN_s])) ?_
  exact z_iret O dX0_put_104 ⟨rfl, rfl⟩
set_option maxRecDepth 20000 in
set_option maxHeartbeats 4000000 in
theorem s_take (hS : zSock G M k i1 i2 i3 we r cl) (hr : rowOK r) {c : Nat} (hc : c < 9) (h0 : 0 < r (108 + c)) : zS G 3 yX0_take cX0_take 2 (some .int) [.ref (zad (zb G) k), .int (nI c)] M 0 0 (zE (.int (nI (fld r c (r (108 + c) - 1) 2))) (M.set i2 (zIN G 118 (takeN r c)))) := by
  refine zS.of (by decide) (Nat.le_of_ble_eq_true rfl) (fun F O hR1 hR2 => ?_)
  have O : zOk G F yX0_take cX0_take 2 (some .int) RX0 3 M.length := O
  refine z_eq (lv' := [(0, _), (1, _)]) rfl rfl rfl ?_
  obtain ⟨hk0, hk1, hk2, hk3⟩ := id hS
  have hn20 := zIN_obj hk2 hk0
  have hn21 := zIN_inj hk2 hk1 (by decide)
  have hn23 := zIN_inj hk2 hk3 (by decide)
  have hn10 := zIN_obj hk1 hk0
  have hn12 := zIN_inj hk1 hk2 (by decide)
  have hn13 := zIN_inj hk1 hk3 (by decide)
  have hn30 := zIN_obj hk3 hk0
  have hn31 := zIN_inj hk3 hk1 (by decide)
  have hn32 := zIN_inj hk3 hk2 (by decide)
  refine z_aload_n O dX0_take_0 rfl ?_
  refine z_iload_n O dX0_take_1 rfl ?_
  refine z_V1e0 O (s_isHole hS hr hc) mX0_isHole lkX0_42 rfl (by first | assumption | exact zgs (by assumption) | exact zgn (by assumption) (by assumption)) dX0_take_2 (Nat.le_of_ble_eq_true rfl) (by decide) ?_
  refine z_if_eqB O 10 dX0_take_5 (by decide) (fun h5 => ?_) (fun h5 => by omega)
  refine z_aload_n O dX0_take_10 rfl ?_
  refine z_get O dX0_take_11 flX0_15 (by first | assumption | exact zgs (by assumption) | exact zgn (by assumption) (by assumption)) (by rfl) ?_
  refine z_bipush O (nI 108) dX0_take_14 (by decide) ?_
  refine z_iload_n O dX0_take_16 rfl ?_
  refine z_iaddN O dX0_take_17 ?_
  refine z_dup2 O dX0_take_18 rfl rfl ?_
  refine z_ialdN O dX0_take_19 (by first | assumption | exact zgs (by assumption) | exact zgn (by assumption) (by assumption)) (by omega) (by decide) ?_
  refine z_iconst O (nI 1) dX0_take_20 (by decide) ?_
  refine z_isubN O dX0_take_21 (by omega) ?_
  refine z_iastN O (by first | rfl | simp | (simp; omega)) dX0_take_22 (by first | assumption | exact zgs (by assumption) | exact zgn (by assumption) (by assumption)) (by omega) (by decide) ?_
  refine z_aload_n O dX0_take_23 rfl ?_
  refine z_iload_n O dX0_take_24 rfl ?_
  refine z_aload_n O dX0_take_25 rfl ?_
  refine z_get O dX0_take_26 flX0_15 (by first | assumption | exact zgs (by assumption) | exact zgn (by assumption) (by assumption)) (by rfl) ?_
  refine z_bipush O (nI 108) dX0_take_29 (by decide) ?_
  refine z_iload_n O dX0_take_31 rfl ?_
  refine z_iaddN O dX0_take_32 ?_
  refine z_ialdN O dX0_take_33 (by first | assumption | exact zgs (by assumption) | exact zgn (by assumption) (by assumption)) (by omega) (by decide) ?_
  refine z_top (v' := .int (nI (updN r (108 + c) (r (108 + c) - 1) (108 + c)))) (congrArg Value.int rfl) ?_
  refine z_iconst O (nI 2) dX0_take_34 (by decide) ?_
  refine z_V3e0 O (s_get (hS.row _) hc (by have := hr.2 c hc; rw [updN_s]; omega) (by decide)) mX0_get lkX0_31 rfl (by first | assumption | exact zgs (by assumption) | exact zgn (by assumption) (by assumption)) dX0_take_35 (Nat.le_of_ble_eq_true rfl) (by decide) ?_
  exact z_iret O dX0_take_38 ⟨by have := hr.2 c hc; unfold fld; rw [updN_s, updN_n (by omega)], rfl⟩
set_option maxRecDepth 20000 in
set_option maxHeartbeats 4000000 in
theorem s_wearTop (hS : zSock G M k i1 i2 i3 we r cl) (hr : rowOK r) (hw : weOK we) {c : Nat} (hc : c < 9) (h0 : 0 < r (108 + c)) : zS G 3 yX0_wearTop cX0_wearTop 4 none [.ref (zad (zb G) k), .int (nI c)] M 0 0 (zU (M.set i2 (zIN G 118 (wearTopN r we c)))) := by
  refine zS.of (by decide) (Nat.le_of_ble_eq_true rfl) (fun F O hR1 hR2 => ?_)
  have O : zOk G F yX0_wearTop cX0_wearTop 4 none RX0 3 M.length := O
  refine z_eq (lv' := [(0, _), (1, _)]) rfl rfl rfl ?_
  obtain ⟨hk0, hk1, hk2, hk3⟩ := id hS
  have hn20 := zIN_obj hk2 hk0
  have hn21 := zIN_inj hk2 hk1 (by decide)
  have hn23 := zIN_inj hk2 hk3 (by decide)
  have hn10 := zIN_obj hk1 hk0
  have hn12 := zIN_inj hk1 hk2 (by decide)
  have hn13 := zIN_inj hk1 hk3 (by decide)
  have hn30 := zIN_obj hk3 hk0
  have hn31 := zIN_inj hk3 hk1 (by decide)
  have hn32 := zIN_inj hk3 hk2 (by decide)
  have h3 := hr.2 c hc
  have hb1 : fld r c (r (108 + c) - 1) 2 < 1048576 := hr.1 _
  have hb2 := lossN_le (fld r c (r (108 + c) - 1) 0) (we c) (r 117)
  have hb3 := hw c
  refine z_aload_n O dX0_wearTop_0 rfl ?_
  refine z_get O dX0_wearTop_1 flX0_15 (by first | assumption | exact zgs (by assumption) | exact zgn (by assumption) (by assumption)) (by rfl) ?_
  refine z_bipush O (nI 108) dX0_wearTop_4 (by decide) ?_
  refine z_iload_n O dX0_wearTop_6 rfl ?_
  refine z_iaddN O dX0_wearTop_7 ?_
  refine z_ialdN O dX0_wearTop_8 (by first | assumption | exact zgs (by assumption) | exact zgn (by assumption) (by assumption)) (by omega) (by decide) ?_
  refine z_iconst O (nI 1) dX0_wearTop_9 (by decide) ?_
  refine z_isubN O dX0_wearTop_10 (by omega) ?_
  refine z_istore_n (lv' := [(0, _), (1, _), (2, _)]) O dX0_wearTop_11 (by decide) rfl ?_
  refine z_aload_n O dX0_wearTop_12 rfl ?_
  refine z_iload_n O dX0_wearTop_13 rfl ?_
  refine z_iload_n O dX0_wearTop_14 rfl ?_
  refine z_V2e0 O (s_threadAt hS hc (by omega)) mX0_threadAt lkX0_61 rfl (by first | assumption | exact zgs (by assumption) | exact zgn (by assumption) (by assumption)) dX0_wearTop_15 (Nat.le_of_ble_eq_true rfl) (by decide) ?_
  refine z_aload_n O dX0_wearTop_18 rfl ?_
  refine z_iload_n O dX0_wearTop_19 rfl ?_
  refine z_iload_n O dX0_wearTop_20 rfl ?_
  refine z_iconst O (nI 0) dX0_wearTop_21 (by decide) ?_
  refine z_V3e0 O (s_get hS hc (by omega) (by decide)) mX0_get lkX0_31 rfl (by first | assumption | exact zgs (by assumption) | exact zgn (by assumption) (by assumption)) dX0_wearTop_22 (Nat.le_of_ble_eq_true rfl) (by decide) ?_
  refine z_aload_n O dX0_wearTop_25 rfl ?_
  refine z_get O dX0_wearTop_26 flX0_9 (by first | assumption | exact zgs (by assumption) | exact zgn (by assumption) (by assumption)) (by rfl) ?_
  refine z_iload_n O dX0_wearTop_29 rfl ?_
  refine z_ialdN O dX0_wearTop_30 (by first | assumption | exact zgs (by assumption) | exact zgn (by assumption) (by assumption)) (by omega) (by decide) ?_
  refine z_aload_n O dX0_wearTop_31 rfl ?_
  refine z_get O dX0_wearTop_32 flX0_15 (by first | assumption | exact zgs (by assumption) | exact zgn (by assumption) (by assumption)) (by rfl) ?_
  refine z_bipush O (nI 117) dX0_wearTop_35 (by decide) ?_
  refine z_ialdN O dX0_wearTop_37 (by first | assumption | exact zgs (by assumption) | exact zgn (by assumption) (by assumption)) (by omega) (by decide) ?_
  refine z_SN3e0 O (s_loss (by have := hr.1 ((c * 3 + (r (108 + c) - 1)) * 4 + 0); unfold fld; omega) (by have := hw c; omega) (by have := hr.1 117; omega)) mX3_loss nlX0_65 dX0_wearTop_38 (Nat.le_of_ble_eq_true rfl) (by decide) ?_
  by_cases hf : fld r c (r (108 + c) - 1) 2 ≤ lossN (fld r c (r (108 + c) - 1) 0) (we c) (r 117)
  · refine z_isub O dX0_wearTop_41 ?_
    refine z_istore_n (lv' := [(0, _), (1, _), (2, _), (3, _)]) O dX0_wearTop_42 (by decide) rfl ?_
    refine z_iload_n O dX0_wearTop_43 rfl ?_
    refine z_if_le O 65 dX0_wearTop_44 (by decide) (fun h44 => ?_) (fun h44 => by exact absurd ((lfx_le (lfx_sub (by omega) (by omega)) (by omega)).mpr (by omega)) h44)
    refine z_aload_n O dX0_wearTop_65 rfl ?_
    refine z_get O dX0_wearTop_66 flX0_15 (by first | assumption | exact zgs (by assumption) | exact zgn (by assumption) (by assumption)) (by rfl) ?_
    refine z_bipush O (nI 108) dX0_wearTop_69 (by decide) ?_
    refine z_iload_n O dX0_wearTop_71 rfl ?_
    refine z_iaddN O dX0_wearTop_72 ?_
    refine z_dup2 O dX0_wearTop_73 rfl rfl ?_
    refine z_ialdN O dX0_wearTop_74 (by first | assumption | exact zgs (by assumption) | exact zgn (by assumption) (by assumption)) (by omega) (by decide) ?_
    refine z_iconst O (nI 1) dX0_wearTop_75 (by decide) ?_
    refine z_isubN O dX0_wearTop_76 (by omega) ?_
    refine z_iastN O (by first | rfl | simp | (simp; omega)) dX0_wearTop_77 (by first | assumption | exact zgs (by assumption) | exact zgn (by assumption) (by assumption)) (by omega) (by decide) ?_
    exact z_vret O dX0_wearTop_78 ⟨rfl, by rw [wearTopN, if_pos hf]; rfl⟩
  · refine z_isubN O dX0_wearTop_41 (by omega) ?_
    refine z_istore_n (lv' := [(0, _), (1, _), (2, _), (3, _)]) O dX0_wearTop_42 (by decide) rfl ?_
    refine z_iload_n O dX0_wearTop_43 rfl ?_
    refine z_if_leN O 65 dX0_wearTop_44 (by decide) (by omega) (fun h44 => by omega) (fun h44 => ?_)
    refine z_aload_n O dX0_wearTop_47 rfl ?_
    refine z_get O dX0_wearTop_48 flX0_15 (by first | assumption | exact zgs (by assumption) | exact zgn (by assumption) (by assumption)) (by rfl) ?_
    refine z_iload_n O dX0_wearTop_51 rfl ?_
    refine z_iconst O (nI 3) dX0_wearTop_52 (by decide) ?_
    refine z_imulN O dX0_wearTop_53 ?_
    refine z_iload_n O dX0_wearTop_54 rfl ?_
    refine z_iaddN O dX0_wearTop_55 ?_
    refine z_iconst O (nI 4) dX0_wearTop_56 (by decide) ?_
    refine z_imulN O dX0_wearTop_57 ?_
    refine z_iconst O (nI 2) dX0_wearTop_58 (by decide) ?_
    refine z_iaddN O dX0_wearTop_59 ?_
    refine z_iload_n O dX0_wearTop_60 rfl ?_
    refine z_iastN O (by first | rfl | simp | (simp; omega)) dX0_wearTop_61 (by first | assumption | exact zgs (by assumption) | exact zgn (by assumption) (by assumption)) (by omega) (by decide) ?_
    refine z_goto O 78 dX0_wearTop_62 (by decide) ?_
    exact z_vret O dX0_wearTop_78 ⟨rfl, by rw [wearTopN, if_neg hf]⟩
set_option maxRecDepth 20000 in
set_option maxHeartbeats 4000000 in
theorem s_pass (hS : zSock G M k i1 i2 i3 we r cl) (hr : rowOK r) (hw : weOK we) : zS G 4 yX0_pass cX0_pass 2 none [.ref (zad (zb G) k)] M 0 0 (zU (M.set i2 (zIN G 118 (passN r we)))) := by
  refine zS.of (by decide) (Nat.le_of_ble_eq_true rfl) (fun F O hR1 hR2 => ?_)
  have O : zOk G F yX0_pass cX0_pass 2 none RX0 4 M.length := O
  refine z_eq (lv' := [(0, _)]) rfl rfl rfl ?_
  obtain ⟨hk0, hk1, hk2, hk3⟩ := id hS
  have hn20 := zIN_obj hk2 hk0
  have hn21 := zIN_inj hk2 hk1 (by decide)
  have hn23 := zIN_inj hk2 hk3 (by decide)
  have hn10 := zIN_obj hk1 hk0
  have hn12 := zIN_inj hk1 hk2 (by decide)
  have hn13 := zIN_inj hk1 hk3 (by decide)
  have hn30 := zIN_obj hk3 hk0
  have hn31 := zIN_inj hk3 hk1 (by decide)
  have hn32 := zIN_inj hk3 hk2 (by decide)
  refine z_iconst O (nI 0) dX0_pass_0 (by decide) ?_
  refine z_istore_n (lv' := [(0, _), (1, _)]) O dX0_pass_1 (by decide) rfl ?_
  refine z_M (zIN_self hk2).symm ?_
  refine zdown (P := fun c => Z G F 0 0 (zEnd G F (zU (M.set i2 (zIN G 118 (passN r we)))) 0 0) 2 [(0, .ref (zad (zb G) k)), (1, .int (nI c))] [] (M.set i2 (zIN G 118 (passC r we c)))) (9) ?_ ?_ 
  · refine z_iload_n O dX0_pass_2 rfl ?_
    refine z_bipush O (nI 9) dX0_pass_3 (by decide) ?_
    refine z_icmp_geN O 27 dX0_pass_5 (by decide) (by omega) (by omega) (fun h5 => ?_) (fun h5 => by omega)
    refine z_aload_n O dX0_pass_27 rfl ?_
    refine z_get O dX0_pass_28 flX0_15 (by first | assumption | exact zgs (by assumption) | exact zgn (by assumption) (by assumption)) (by rfl) ?_
    refine z_bipush O (nI 117) dX0_pass_31 (by decide) ?_
    refine z_dup2 O dX0_pass_33 rfl rfl ?_
    refine z_ialdN O dX0_pass_34 (by first | assumption | exact zgs (by assumption) | exact zgn (by assumption) (by assumption)) (by omega) (by decide) ?_
    refine z_iconst O (nI 1) dX0_pass_35 (by decide) ?_
    refine z_iaddN O dX0_pass_36 ?_
    refine z_iastN O (by first | rfl | simp | (simp; omega)) dX0_pass_37 (by first | assumption | exact zgs (by assumption) | exact zgn (by assumption) (by assumption)) (by omega) (by decide) ?_
    refine z_M zss ?_
    exact z_vret O dX0_pass_38 ⟨rfl, rfl⟩
  · intro c hc ih 
    refine z_iload_n O dX0_pass_2 rfl ?_
    refine z_bipush O (nI 9) dX0_pass_3 (by decide) ?_
    refine z_icmp_geN O 27 dX0_pass_5 (by decide) (by omega) (by omega) (fun h5 => by omega) (fun h5 => ?_)
    refine z_aload_n O dX0_pass_8 rfl ?_
    refine z_iload_n O dX0_pass_9 rfl ?_
    refine z_V1e0 O (s_isHole (hS.row _) (rowOK_passC hr c (by omega)) hc) mX0_isHole lkX0_42 rfl (by first | assumption | exact zgs (by assumption) | exact zgn (by assumption) (by assumption)) dX0_pass_10 (Nat.le_of_ble_eq_true rfl) (by decide) ?_
    refine z_if_neB O 21 dX0_pass_13 (by decide) (fun h13 => ?_) (fun h13 => ?_)
    · refine z_iincN (lv' := [(0, _), (1, _)]) O 1 dX0_pass_21 (by decide) rfl rfl (by decide) ?_
      refine z_goto O 2 dX0_pass_24 (by decide) ?_
      first | (rw [show passC r we (c + 1) = passC r we c from if_pos h13] at ih; exact ih) | (rw [show passC r we (c + 1) = wearTopN (passC r we c) we c from if_neg h13] at ih; exact ih)
    · refine z_aload_n O dX0_pass_16 rfl ?_
      refine z_iload_n O dX0_pass_17 rfl ?_
      refine z_V1u0 O (s_wearTop (hS.row _) (rowOK_passC hr c (by omega)) hw hc (by omega)) mX0_wearTop lkX0_57 rfl (by first | assumption | exact zgs (by assumption) | exact zgn (by assumption) (by assumption)) dX0_pass_18 (Nat.le_of_ble_eq_true rfl) (by decide) ?_
      refine z_M zss ?_
      refine z_iincN (lv' := [(0, _), (1, _)]) O 1 dX0_pass_21 (by decide) rfl rfl (by decide) ?_
      refine z_goto O 2 dX0_pass_24 (by decide) ?_
      first | (rw [show passC r we (c + 1) = passC r we c from if_pos h13] at ih; exact ih) | (rw [show passC r we (c + 1) = wearTopN (passC r we c) we c from if_neg h13] at ih; exact ih)
set_option maxRecDepth 20000 in
set_option maxHeartbeats 4000000 in
theorem s_renew (hS : zSock G M k i1 i2 i3 we r cl) {y : Nat} : zS G 1 yX0_renew cX0_renew 3 none [.ref (zad (zb G) k), .int (nI y)] M 0 0 (zU ((M.set i1 (zIN G 9 (onesC we 9))).set i2 (zIN G 118 (updN (renewC r 9) 117 y)))) := by
  refine zS.of (by decide) (Nat.le_of_ble_eq_true rfl) (fun F O hR1 hR2 => ?_)
  have O : zOk G F yX0_renew cX0_renew 3 none RX0 1 M.length := O
  refine z_eq (lv' := [(0, _), (1, _)]) rfl rfl rfl ?_
  obtain ⟨hk0, hk1, hk2, hk3⟩ := id hS
  have hn20 := zIN_obj hk2 hk0
  have hn21 := zIN_inj hk2 hk1 (by decide)
  have hn23 := zIN_inj hk2 hk3 (by decide)
  have hn10 := zIN_obj hk1 hk0
  have hn12 := zIN_inj hk1 hk2 (by decide)
  have hn13 := zIN_inj hk1 hk3 (by decide)
  have hn30 := zIN_obj hk3 hk0
  have hn31 := zIN_inj hk3 hk1 (by decide)
  have hn32 := zIN_inj hk3 hk2 (by decide)
  have hSc : ∀ c, zSock G ((M.set i1 (zIN G 9 (onesC we c))).set i2 (zIN G 118 (renewC r c))) k i1 i2 i3 (onesC we c) (renewC r c) cl := fun c => (hS.wear _).row _
  refine z_iconst O (nI 0) dX0_renew_0 (by decide) ?_
  refine z_istore_n (lv' := [(0, _), (1, _), (2, _)]) O dX0_renew_1 (by decide) rfl ?_
  refine z_M (show M = (M.set i1 (zIN G 9 we)).set i2 (zIN G 118 r) by rw [zIN_self hk1, zIN_self hk2]) ?_
  refine zdown (P := fun c => Z G F 0 0 (zEnd G F (zU ((M.set i1 (zIN G 9 (onesC we 9))).set i2 (zIN G 118 (updN (renewC r 9) 117 y)))) 0 0) 2 [(0, .ref (zad (zb G) k)), (1, .int (nI y)), (2, .int (nI c))] [] ((M.set i1 (zIN G 9 (onesC we c))).set i2 (zIN G 118 (renewC r c)))) (9) ?_ ?_ 
  · refine z_iload_n O dX0_renew_2 rfl ?_
    refine z_bipush O (nI 9) dX0_renew_3 (by decide) ?_
    refine z_icmp_geN O 31 dX0_renew_5 (by decide) (by omega) (by omega) (fun h5 => ?_) (fun h5 => by omega)
    refine z_aload_n O dX0_renew_31 rfl ?_
    refine z_get O dX0_renew_32 flX0_15 (by first | assumption | exact (hSc c).1 | exact (hSc c).2.1 | exact ((hSc c).wear _).1 | exact ((hSc c).wear _).2.2.1 | exact (hSc 9).1 | exact (hSc 9).2.2.1) (by rfl) ?_
    refine z_bipush O (nI 117) dX0_renew_35 (by decide) ?_
    refine z_iload_n O dX0_renew_37 rfl ?_
    refine z_iastN O (by first | rfl | simp | (simp; omega)) dX0_renew_38 (by first | assumption | exact (hSc c).1 | exact (hSc c).2.1 | exact ((hSc c).wear _).1 | exact ((hSc c).wear _).2.2.1 | exact (hSc 9).1 | exact (hSc 9).2.2.1) (by omega) (by decide) ?_
    refine z_M zss ?_
    exact z_vret O dX0_renew_39 ⟨rfl, rfl⟩
  · intro c hc ih 
    refine z_iload_n O dX0_renew_2 rfl ?_
    refine z_bipush O (nI 9) dX0_renew_3 (by decide) ?_
    refine z_icmp_geN O 31 dX0_renew_5 (by decide) (by omega) (by omega) (fun h5 => by omega) (fun h5 => ?_)
    refine z_aload_n O dX0_renew_8 rfl ?_
    refine z_get O dX0_renew_9 flX0_9 (by first | assumption | exact (hSc c).1 | exact (hSc c).2.1 | exact ((hSc c).wear _).1 | exact ((hSc c).wear _).2.2.1 | exact (hSc 9).1 | exact (hSc 9).2.2.1) (by rfl) ?_
    refine z_iload_n O dX0_renew_12 rfl ?_
    refine z_iconst O (nI 1) dX0_renew_13 (by decide) ?_
    refine z_iastN O (by first | rfl | simp | (simp; omega)) dX0_renew_14 (by first | assumption | exact (hSc c).1 | exact (hSc c).2.1 | exact ((hSc c).wear _).1 | exact ((hSc c).wear _).2.2.1 | exact (hSc 9).1 | exact (hSc 9).2.2.1) (by omega) (by decide) ?_
    refine z_aload_n O dX0_renew_15 rfl ?_
    refine z_get O dX0_renew_16 flX0_15 (by first | assumption | exact (hSc c).1 | exact (hSc c).2.1 | exact ((hSc c).wear _).1 | exact ((hSc c).wear _).2.2.1 | exact (hSc 9).1 | exact (hSc 9).2.2.1) (by rfl) ?_
    refine z_bipush O (nI 108) dX0_renew_19 (by decide) ?_
    refine z_iload_n O dX0_renew_21 rfl ?_
    refine z_iaddN O dX0_renew_22 ?_
    refine z_iconst O (nI 0) dX0_renew_23 (by decide) ?_
    refine z_iastN O (by first | rfl | simp | (simp; omega)) dX0_renew_24 (by first | assumption | exact (hSc c).1 | exact (hSc c).2.1 | exact ((hSc c).wear _).1 | exact ((hSc c).wear _).2.2.1 | exact (hSc 9).1 | exact (hSc 9).2.2.1) (by omega) (by decide) ?_
    refine z_M (zren hn12) ?_
    refine z_iincN (lv' := [(0, _), (1, _), (2, _)]) O 1 dX0_renew_25 (by decide) rfl rfl (by decide) ?_
    refine z_goto O 2 dX0_renew_28 (by decide) ?_
    exact ih
end SK
