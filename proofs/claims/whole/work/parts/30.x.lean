/-! ===== DarnedSock ===== -/
/-- the object of the class with all its cells, from place 0 on -/
def xM (G : zG) (we r cl seen kept : Nat → Nat) (rd nw ud : Nat) (im : Nat → Option Nat) (twe tr tcl bys wo nu : Nat → Nat) (len it so at_ be va : Nat) (sp ss al od : Nat → Nat) (ab bl : Int64) (bd no fu : Nat) (rest : List va_E) : List va_E :=
  .inr (3, [.ref (zad (zb G) 1), .ref (zad (zb G) 8), .ref (zad (zb G) 9), .ref (zad (zb G) 13), .ref (zad (zb G) 17), .ref (zad (zb G) 18), .ref (zad (zb G) 19), .ref (zad (zb G) 20), .long ab, .long bl, .int (nI bd), .int (nI no), .int (nI fu)]) ::
  .inr (1, [.ref (zad (zb G) 2), .ref (zad (zb G) 6), .int (nI rd), .ref (zad (zb G) 7), .int (nI nw), .int (nI ud)]) ::
  .inr (0, [.ref (zad (zb G) 3), .ref (zad (zb G) 4), .ref (zad (zb G) 5)]) :: zIN G 9 we :: zIN G 118 r :: zIN G 3 cl :: zIN G 18 seen :: zIN G 944 kept :: zR G 2 im ::
  .inr (0, [.ref (zad (zb G) 10), .ref (zad (zb G) 11), .ref (zad (zb G) 12)]) :: zIN G 9 twe :: zIN G 118 tr :: zIN G 3 tcl ::
  .inr (2, [.ref (zad (zb G) 14), .int (nI len), .ref (zad (zb G) 15), .ref (zad (zb G) 16), .int (nI it), .int (nI so), .int (nI at_), .int (nI be), .int (nI va)]) :: zIN G 150 bys :: zIN G 25 wo :: zIN G 100 nu ::
  zIN G 9 sp :: zIN G 270 ss :: zIN G 6 al :: zIN G 6 od :: rest
def rowZ (r : Nat → Nat) : Prop := ∀ j, 118 ≤ j → r j = 0
def rowT (r : Nat → Nat) : Prop := rowZ r ∧ ∀ j, r j < 1048576
def weZ (we : Nat → Nat) : Prop := ∀ j, 9 ≤ j → we j = 0
def xS (G : zG) (we r seen kept : Nat → Nat) (rd nw ud : Nat) (im : Nat → Option Nat) (bys : Nat → Nat) (len : Nat) (ab bl : Int64) (bd no fu : Nat) (rest : List va_E) (M : List va_E) : Prop :=
  ∃ (cl twe tr tcl wo nu : Nat → Nat) (it so at_ be va : Nat) (sp ss al od : Nat → Nat), weZ twe ∧ rowT tr ∧ M = (xM G we r cl seen kept rd nw ud im twe tr tcl bys wo nu len it so at_ be va sp ss al od ab bl bd no fu rest)

def popN (m : Nat) : Nat := sumN (bitN m) 9
def us (x : Int32) (y : Int32) : Int32 := (x.toUInt32 >>> (y.toUInt32 &&& Int32.toUInt32 31)).toInt32
def bc1 (x : Int32) : Int32 := x - ((us x (nI 1)) &&& nI 1431655765)
def bc2 (x : Int32) : Int32 := (x &&& nI 858993459) + ((us x (nI 2)) &&& nI 858993459)
def bc3 (x : Int32) : Int32 := (x + us x (nI 4)) &&& nI 252645135
def bc4 (x : Int32) : Int32 := x + us x (nI 8)
def bc5 (x : Int32) : Int32 := x + us x (nI 16)
def bcE (x : Int32) : Int32 := bc5 (bc4 (bc3 (bc2 (bc1 x)))) &&& nI 63
theorem bcE_ok : ∀ m, m < 512 → bcE (nI m) = nI (popN m) := by decide +kernel
section XS
variable {G : zG} {we r cl seen kept : Nat → Nat} {rd nw ud : Nat} {im : Nat → Option Nat} {twe tr tcl bys wo nu : Nat → Nat} {len it so at_ be va : Nat} {sp ss al od : Nat → Nat} {ab bl : Int64} {bd no fu : Nat} {rest : List va_E}
theorem xN : zSock G (xM G we r cl seen kept rd nw ud im twe tr tcl bys wo nu len it so at_ be va sp ss al od ab bl bd no fu rest) 2 3 4 5 we r cl := ⟨rfl, rfl, rfl, rfl⟩
theorem xT : zSock G (xM G we r cl seen kept rd nw ud im twe tr tcl bys wo nu len it so at_ be va sp ss al od ab bl bd no fu rest) 9 10 11 12 twe tr tcl := ⟨rfl, rfl, rfl, rfl⟩
theorem xI : zState G (xM G we r cl seen kept rd nw ud im twe tr tcl bys wo nu len it so at_ be va sp ss al od ab bl bd no fu rest) 1 2 3 4 5 6 7 we r cl seen kept rd nw ud := ⟨rfl, xN, rfl, rfl⟩
set_option maxRecDepth 20000 in
set_option maxHeartbeats 4000000 in
theorem s_bitCount {M : List va_E} {m : Nat} (hm : m < 512) : zS G 1 yJ6_bitCount_0f7a4 cJ6_bitCount_0f7a4 1 (some .int) [.int (nI m)] M 0 0 (zE (.int (nI (popN m))) M) := by
  refine zS.of (by decide) (Nat.le_of_ble_eq_true rfl) (fun F O hR1 hR2 => ?_)
  have O : zOk G F yJ6_bitCount_0f7a4 cJ6_bitCount_0f7a4 1 (some .int) RJ6 1 M.length := O
  refine z_eq (lv' := [(0, _)]) rfl rfl rfl ?_
  refine z_iload_n O dJ6_bitCount_0f7a4_0 rfl ?_
  refine z_iload_n O dJ6_bitCount_0f7a4_1 rfl ?_
  refine z_iconst O (nI 1) dJ6_bitCount_0f7a4_2 (by decide) ?_
  refine z_iushr O dJ6_bitCount_0f7a4_3 ?_
  refine z_ldcw O dJ6_bitCount_0f7a4_4 kcJ6_265 ?_
  refine z_top (v' := .int (nI 1431655765)) (by decide) ?_
  refine z_iand O dJ6_bitCount_0f7a4_7 ?_
  refine z_isub O dJ6_bitCount_0f7a4_8 ?_
  refine z_istore_n (lv' := [(0, _)]) O dJ6_bitCount_0f7a4_9 (by decide) rfl ?_
  refine z_iload_n O dJ6_bitCount_0f7a4_10 rfl ?_
  refine z_ldcw O dJ6_bitCount_0f7a4_11 kcJ6_266 ?_
  refine z_top (v' := .int (nI 858993459)) (by decide) ?_
  refine z_iand O dJ6_bitCount_0f7a4_14 ?_
  refine z_iload_n O dJ6_bitCount_0f7a4_15 rfl ?_
  refine z_iconst O (nI 2) dJ6_bitCount_0f7a4_16 (by decide) ?_
  refine z_iushr O dJ6_bitCount_0f7a4_17 ?_
  refine z_ldcw O dJ6_bitCount_0f7a4_18 kcJ6_266 ?_
  refine z_top (v' := .int (nI 858993459)) (by decide) ?_
  refine z_iand O dJ6_bitCount_0f7a4_21 ?_
  refine z_iadd O dJ6_bitCount_0f7a4_22 ?_
  refine z_istore_n (lv' := [(0, _)]) O dJ6_bitCount_0f7a4_23 (by decide) rfl ?_
  refine z_iload_n O dJ6_bitCount_0f7a4_24 rfl ?_
  refine z_iload_n O dJ6_bitCount_0f7a4_25 rfl ?_
  refine z_iconst O (nI 4) dJ6_bitCount_0f7a4_26 (by decide) ?_
  refine z_iushr O dJ6_bitCount_0f7a4_27 ?_
  refine z_iadd O dJ6_bitCount_0f7a4_28 ?_
  refine z_ldcw O dJ6_bitCount_0f7a4_29 kcJ6_267 ?_
  refine z_top (v' := .int (nI 252645135)) (by decide) ?_
  refine z_iand O dJ6_bitCount_0f7a4_32 ?_
  refine z_istore_n (lv' := [(0, _)]) O dJ6_bitCount_0f7a4_33 (by decide) rfl ?_
  refine z_iload_n O dJ6_bitCount_0f7a4_34 rfl ?_
  refine z_iload_n O dJ6_bitCount_0f7a4_35 rfl ?_
  refine z_bipush O (nI 8) dJ6_bitCount_0f7a4_36 (by decide) ?_
  refine z_iushr O dJ6_bitCount_0f7a4_38 ?_
  refine z_iadd O dJ6_bitCount_0f7a4_39 ?_
  refine z_istore_n (lv' := [(0, _)]) O dJ6_bitCount_0f7a4_40 (by decide) rfl ?_
  refine z_iload_n O dJ6_bitCount_0f7a4_41 rfl ?_
  refine z_iload_n O dJ6_bitCount_0f7a4_42 rfl ?_
  refine z_bipush O (nI 16) dJ6_bitCount_0f7a4_43 (by decide) ?_
  refine z_iushr O dJ6_bitCount_0f7a4_45 ?_
  refine z_iadd O dJ6_bitCount_0f7a4_46 ?_
  refine z_istore_n (lv' := [(0, _)]) O dJ6_bitCount_0f7a4_47 (by decide) rfl ?_
  refine z_iload_n O dJ6_bitCount_0f7a4_48 rfl ?_
  refine z_bipush O (nI 63) dJ6_bitCount_0f7a4_49 (by decide) ?_
  refine z_iand O dJ6_bitCount_0f7a4_51 ?_
  exact z_iret O dJ6_bitCount_0f7a4_52 ⟨by rw [← bcE_ok m hm]; rfl, rfl⟩
set_option maxRecDepth 20000 in
set_option maxHeartbeats 4000000 in
theorem x_refuseB  : zS G 1 yX3_refuse cX3_refuse 2 (some .int) [.ref (zad (zb G) 0), .int (-2)] (xM G we r cl seen kept rd nw ud im twe tr tcl bys wo nu len it so at_ be va sp ss al od ab bl bd no fu rest) 0 0 (zE (.int (-2)) (xM G we r cl seen kept rd nw ud im twe tr tcl bys wo nu len it so at_ be va sp ss al od ab bl (bd + 1) no fu rest)) := by
  refine zS.of (by decide) (Nat.le_of_ble_eq_true rfl) (fun F O hR1 hR2 => ?_)
  have O : zOk G F yX3_refuse cX3_refuse 2 (some .int) RX3 1 (xM G we r cl seen kept rd nw ud im twe tr tcl bys wo nu len it so at_ be va sp ss al od ab bl bd no fu rest).length := O
  refine z_eq (lv' := [(0, _), (1, _)]) rfl rfl rfl ?_
  refine z_iload_n O dX3_refuse_0 rfl ?_
  refine z_bipush O (-2) dX3_refuse_1 (by decide) ?_
  refine z_icmp_ne O 19 dX3_refuse_3 (by decide) (fun h3 => by exact absurd rfl h3) (fun h3 => ?_)
  refine z_aload_n O dX3_refuse_6 rfl ?_
  refine z_dup O dX3_refuse_7 rfl ?_
  refine z_get O dX3_refuse_8 flX3_245 (by rfl) (by rfl) ?_
  refine z_iconst O (nI 1) dX3_refuse_11 (by decide) ?_
  refine z_iaddN O dX3_refuse_12 ?_
  refine z_put O (by rfl) dX3_refuse_13 flX3_245 (by rfl) rfl rfl (by simp) ?_
  refine z_M (show _ = (xM G we r cl seen kept rd nw ud im twe tr tcl bys wo nu len it so at_ be va sp ss al od ab bl (bd + 1) no fu rest) from rfl) ?_
  refine z_goto O 54 dX3_refuse_16 (by decide) ?_
  refine z_iload_n O dX3_refuse_54 rfl ?_
  exact z_iret O dX3_refuse_55 ⟨rfl, rfl⟩
set_option maxRecDepth 20000 in
set_option maxHeartbeats 4000000 in
theorem x_refuseN  : zS G 1 yX3_refuse cX3_refuse 2 (some .int) [.ref (zad (zb G) 0), .int (-3)] (xM G we r cl seen kept rd nw ud im twe tr tcl bys wo nu len it so at_ be va sp ss al od ab bl bd no fu rest) 0 0 (zE (.int (-3)) (xM G we r cl seen kept rd nw ud im twe tr tcl bys wo nu len it so at_ be va sp ss al od ab bl bd (no + 1) fu rest)) := by
  refine zS.of (by decide) (Nat.le_of_ble_eq_true rfl) (fun F O hR1 hR2 => ?_)
  have O : zOk G F yX3_refuse cX3_refuse 2 (some .int) RX3 1 (xM G we r cl seen kept rd nw ud im twe tr tcl bys wo nu len it so at_ be va sp ss al od ab bl bd no fu rest).length := O
  refine z_eq (lv' := [(0, _), (1, _)]) rfl rfl rfl ?_
  refine z_iload_n O dX3_refuse_0 rfl ?_
  refine z_bipush O (-2) dX3_refuse_1 (by decide) ?_
  refine z_icmp_ne O 19 dX3_refuse_3 (by decide) (fun h3 => ?_) (fun h3 => by exact absurd h3 (by decide))
  refine z_iload_n O dX3_refuse_19 rfl ?_
  refine z_bipush O (-3) dX3_refuse_20 (by decide) ?_
  refine z_icmp_ne O 38 dX3_refuse_22 (by decide) (fun h22 => by exact absurd rfl h22) (fun h22 => ?_)
  refine z_aload_n O dX3_refuse_25 rfl ?_
  refine z_dup O dX3_refuse_26 rfl ?_
  refine z_get O dX3_refuse_27 flX3_248 (by rfl) (by rfl) ?_
  refine z_iconst O (nI 1) dX3_refuse_30 (by decide) ?_
  refine z_iaddN O dX3_refuse_31 ?_
  refine z_put O (by rfl) dX3_refuse_32 flX3_248 (by rfl) rfl rfl (by simp) ?_
  refine z_M (show _ = (xM G we r cl seen kept rd nw ud im twe tr tcl bys wo nu len it so at_ be va sp ss al od ab bl bd (no + 1) fu rest) from rfl) ?_
  refine z_goto O 54 dX3_refuse_35 (by decide) ?_
  refine z_iload_n O dX3_refuse_54 rfl ?_
  exact z_iret O dX3_refuse_55 ⟨rfl, rfl⟩
set_option maxRecDepth 20000 in
set_option maxHeartbeats 4000000 in
theorem x_refuseF  : zS G 1 yX3_refuse cX3_refuse 2 (some .int) [.ref (zad (zb G) 0), .int (-4)] (xM G we r cl seen kept rd nw ud im twe tr tcl bys wo nu len it so at_ be va sp ss al od ab bl bd no fu rest) 0 0 (zE (.int (-4)) (xM G we r cl seen kept rd nw ud im twe tr tcl bys wo nu len it so at_ be va sp ss al od ab bl bd no (fu + 1) rest)) := by
  refine zS.of (by decide) (Nat.le_of_ble_eq_true rfl) (fun F O hR1 hR2 => ?_)
  have O : zOk G F yX3_refuse cX3_refuse 2 (some .int) RX3 1 (xM G we r cl seen kept rd nw ud im twe tr tcl bys wo nu len it so at_ be va sp ss al od ab bl bd no fu rest).length := O
  refine z_eq (lv' := [(0, _), (1, _)]) rfl rfl rfl ?_
  refine z_iload_n O dX3_refuse_0 rfl ?_
  refine z_bipush O (-2) dX3_refuse_1 (by decide) ?_
  refine z_icmp_ne O 19 dX3_refuse_3 (by decide) (fun h3 => ?_) (fun h3 => by exact absurd h3 (by decide))
  refine z_iload_n O dX3_refuse_19 rfl ?_
  refine z_bipush O (-3) dX3_refuse_20 (by decide) ?_
  refine z_icmp_ne O 38 dX3_refuse_22 (by decide) (fun h22 => ?_) (fun h22 => by exact absurd h22 (by decide))
  refine z_iload_n O dX3_refuse_38 rfl ?_
  refine z_bipush O (-4) dX3_refuse_39 (by decide) ?_
  refine z_icmp_ne O 54 dX3_refuse_41 (by decide) (fun h41 => by exact absurd rfl h41) (fun h41 => ?_)
  refine z_aload_n O dX3_refuse_44 rfl ?_
  refine z_dup O dX3_refuse_45 rfl ?_
  refine z_get O dX3_refuse_46 flX3_251 (by rfl) (by rfl) ?_
  refine z_iconst O (nI 1) dX3_refuse_49 (by decide) ?_
  refine z_iaddN O dX3_refuse_50 ?_
  refine z_put O (by rfl) dX3_refuse_51 flX3_251 (by rfl) rfl rfl (by simp) ?_
  refine z_M (show _ = (xM G we r cl seen kept rd nw ud im twe tr tcl bys wo nu len it so at_ be va sp ss al od ab bl bd no (fu + 1) rest) from rfl) ?_
  refine z_iload_n O dX3_refuse_54 rfl ?_
  exact z_iret O dX3_refuse_55 ⟨rfl, rfl⟩
set_option maxRecDepth 20000 in
set_option maxHeartbeats 4000000 in
theorem s_wearsAsTold {M : List va_E} {c v : Int32} : zS G 2 yX3_wearsAsTold cX3_wearsAsTold 2 (some .boolean) [.int c, .int v] M 0 0 (zE (.int (bI ((0 ≤ c ∧ c < nI 9) ∧ (nI 0 ≤ v ∧ v ≤ nI 5)))) M) := by
  refine zS.of (by decide) (Nat.le_of_ble_eq_true rfl) (fun F O hR1 hR2 => ?_)
  have O : zOk G F yX3_wearsAsTold cX3_wearsAsTold 2 (some .boolean) RX3 2 M.length := O
  refine z_eq (lv' := [(0, _), (1, _)]) rfl rfl rfl ?_
  refine z_iload_n O dX3_wearsAsTold_0 rfl ?_
  refine z_bipush O (nI 9) dX3_wearsAsTold_1 (by decide) ?_
  refine z_S2e0 O s_within mX3_within lkX3_54 dX3_wearsAsTold_3 (Nat.le_of_ble_eq_true rfl) (by decide) ?_
  refine z_if_eqB O 22 dX3_wearsAsTold_6 (by decide) (fun h6 => ?_) (fun h6 => ?_)
  · refine z_iconst O (nI 0) dX3_wearsAsTold_22 (by decide) ?_
    exact z_zret O dX3_wearsAsTold_23 rfl (by first
        | (refine ⟨?_, rfl⟩; rw [bI_t (p := (0 ≤ c ∧ c < nI 9) ∧ (nI 0 ≤ v ∧ v ≤ nI 5)) ⟨h6, h15⟩]; rfl)
        | (refine ⟨?_, rfl⟩; rw [bI_f (p := (0 ≤ c ∧ c < nI 9) ∧ (nI 0 ≤ v ∧ v ≤ nI 5)) (fun q => h15 q.2)]; rfl)
        | (refine ⟨?_, rfl⟩; rw [bI_f (p := (0 ≤ c ∧ c < nI 9) ∧ (nI 0 ≤ v ∧ v ≤ nI 5)) (fun q => h6 q.1)]; rfl))
  · refine z_iload_n O dX3_wearsAsTold_9 rfl ?_
    refine z_iconst O (nI 0) dX3_wearsAsTold_10 (by decide) ?_
    refine z_iconst O (nI 5) dX3_wearsAsTold_11 (by decide) ?_
    refine z_S3e0 O s_between mX3_between lkX3_96 dX3_wearsAsTold_12 (Nat.le_of_ble_eq_true rfl) (by decide) ?_
    refine z_if_eqB O 22 dX3_wearsAsTold_15 (by decide) (fun h15 => ?_) (fun h15 => ?_)
    · refine z_iconst O (nI 0) dX3_wearsAsTold_22 (by decide) ?_
      exact z_zret O dX3_wearsAsTold_23 rfl (by first
          | (refine ⟨?_, rfl⟩; rw [bI_t (p := (0 ≤ c ∧ c < nI 9) ∧ (nI 0 ≤ v ∧ v ≤ nI 5)) ⟨h6, h15⟩]; rfl)
          | (refine ⟨?_, rfl⟩; rw [bI_f (p := (0 ≤ c ∧ c < nI 9) ∧ (nI 0 ≤ v ∧ v ≤ nI 5)) (fun q => h15 q.2)]; rfl)
          | (refine ⟨?_, rfl⟩; rw [bI_f (p := (0 ≤ c ∧ c < nI 9) ∧ (nI 0 ≤ v ∧ v ≤ nI 5)) (fun q => h6 q.1)]; rfl))
    · refine z_iconst O (nI 1) dX3_wearsAsTold_18 (by decide) ?_
      refine z_goto O 23 dX3_wearsAsTold_19 (by decide) ?_
      exact z_zret O dX3_wearsAsTold_23 rfl (by first
          | (refine ⟨?_, rfl⟩; rw [bI_t (p := (0 ≤ c ∧ c < nI 9) ∧ (nI 0 ≤ v ∧ v ≤ nI 5)) ⟨h6, h15⟩]; rfl)
          | (refine ⟨?_, rfl⟩; rw [bI_f (p := (0 ≤ c ∧ c < nI 9) ∧ (nI 0 ≤ v ∧ v ≤ nI 5)) (fun q => h15 q.2)]; rfl)
          | (refine ⟨?_, rfl⟩; rw [bI_f (p := (0 ≤ c ∧ c < nI 9) ∧ (nI 0 ≤ v ∧ v ≤ nI 5)) (fun q => h6 q.1)]; rfl))
set_option maxRecDepth 20000 in
set_option maxHeartbeats 4000000 in
theorem x_sockB {x : Int32} (hb : ¬ (0 ≤ x ∧ x < nI 100)) : zS G 2 yX3_sock cX3_sock 3 (some .int) [.ref (zad (zb G) 0), .int x] (xM G we r cl seen kept rd nw ud im twe tr tcl bys wo nu len it so at_ be va sp ss al od ab bl bd no fu rest) 0 0 (zE (.int (-2)) (xM G we r cl seen kept rd nw ud im twe tr tcl bys wo nu len it so at_ be va sp ss al od ab bl (bd + 1) no fu rest)) := by
  refine zS.of (by decide) (Nat.le_of_ble_eq_true rfl) (fun F O hR1 hR2 => ?_)
  have O : zOk G F yX3_sock cX3_sock 3 (some .int) RX3 2 (xM G we r cl seen kept rd nw ud im twe tr tcl bys wo nu len it so at_ be va sp ss al od ab bl bd no fu rest).length := O
  refine z_eq (lv' := [(0, _), (1, _)]) rfl rfl rfl ?_
  refine z_iload_n O dX3_sock_0 rfl ?_
  refine z_bipush O (nI 100) dX3_sock_1 (by decide) ?_
  refine z_S2e0 O s_within mX3_within lkX3_54 dX3_sock_3 (Nat.le_of_ble_eq_true rfl) (by decide) ?_
  refine z_if_neB O 16 dX3_sock_6 (by decide) (fun h6 => by exact absurd h6 hb) (fun h6 => ?_)
  refine z_aload_n O dX3_sock_9 rfl ?_
  refine z_bipush O (-2) dX3_sock_10 (by decide) ?_
  refine z_V1e0 O x_refuseB mX3_refuse lkX3_58 rfl (by rfl) dX3_sock_12 (Nat.le_of_ble_eq_true rfl) (by decide) ?_
  exact z_iret O dX3_sock_15 ⟨rfl, rfl⟩
set_option maxRecDepth 20000 in
set_option maxHeartbeats 4000000 in
theorem x_sock {y : Nat} (hy : y < 100) : zS G 4 yX3_sock cX3_sock 3 (some .int) [.ref (zad (zb G) 0), .int (nI y)] (xM G we r cl seen kept rd nw ud im twe tr tcl bys wo nu len it so at_ be va sp ss al od ab bl bd no fu rest) 0 0 (zE (.int (nI (darnsM r 511 9))) (xM G (onesC we 9) (updN (renewC r 9) 117 y) cl seen kept 0 nw 0 im twe tr tcl bys wo nu len it so at_ be va sp ss al od ab bl bd no fu rest)) := by
  refine zS.of (by decide) (Nat.le_of_ble_eq_true rfl) (fun F O hR1 hR2 => ?_)
  have O : zOk G F yX3_sock cX3_sock 3 (some .int) RX3 4 (xM G we r cl seen kept rd nw ud im twe tr tcl bys wo nu len it so at_ be va sp ss al od ab bl bd no fu rest).length := O
  refine z_eq (lv' := [(0, _), (1, _)]) rfl rfl rfl ?_
  refine z_iload_n O dX3_sock_0 rfl ?_
  refine z_bipush O (nI 100) dX3_sock_1 (by decide) ?_
  refine z_S2e0 O (s_withinN (by omega) (by omega)) mX3_within lkX3_54 dX3_sock_3 (Nat.le_of_ble_eq_true rfl) (by decide) ?_
  refine z_if_neB O 16 dX3_sock_6 (by decide) (fun h6 => ?_) (fun h6 => by exact absurd h6 (by omega))
  refine z_aload_n O dX3_sock_16 rfl ?_
  refine z_get O dX3_sock_17 flX3_12 (by rfl) (by rfl) ?_
  refine z_get O dX3_sock_20 flX3_62 (by rfl) (by rfl) ?_
  refine z_V0e0 O (s_darns xN) mX0_darns lkX3_65 rfl (by rfl) dX3_sock_23 (Nat.le_of_ble_eq_true rfl) (by decide) ?_
  refine z_istore_n (lv' := [(0, _), (1, _), (2, _)]) O dX3_sock_26 (by decide) rfl ?_
  refine z_aload_n O dX3_sock_27 rfl ?_
  refine z_get O dX3_sock_28 flX3_12 (by rfl) (by rfl) ?_
  refine z_iload_n O dX3_sock_31 rfl ?_
  refine z_V1u0 O (t_renew xI) mX1_renew lkX3_69 rfl (by rfl) dX3_sock_32 (Nat.le_of_ble_eq_true rfl) (by decide) ?_
  refine z_M (show _ = (xM G (onesC we 9) (updN (renewC r 9) 117 y) cl seen kept 0 nw 0 im twe tr tcl bys wo nu len it so at_ be va sp ss al od ab bl bd no fu rest) from rfl) ?_
  refine z_iload_n O dX3_sock_35 rfl ?_
  exact z_iret O dX3_sock_36 ⟨rfl, rfl⟩
set_option maxRecDepth 20000 in
set_option maxHeartbeats 4000000 in
theorem x_wearB {c v : Int32} (hb : ¬ ((0 ≤ c ∧ c < nI 9) ∧ (nI 0 ≤ v ∧ v ≤ nI 5))) : zS G 3 yX3_wear cX3_wear 4 (some .int) [.ref (zad (zb G) 0), .int c, .int v] (xM G we r cl seen kept rd nw ud im twe tr tcl bys wo nu len it so at_ be va sp ss al od ab bl bd no fu rest) 0 0 (zE (.int (-2)) (xM G we r cl seen kept rd nw ud im twe tr tcl bys wo nu len it so at_ be va sp ss al od ab bl (bd + 1) no fu rest)) := by
  refine zS.of (by decide) (Nat.le_of_ble_eq_true rfl) (fun F O hR1 hR2 => ?_)
  have O : zOk G F yX3_wear cX3_wear 4 (some .int) RX3 3 (xM G we r cl seen kept rd nw ud im twe tr tcl bys wo nu len it so at_ be va sp ss al od ab bl bd no fu rest).length := O
  refine z_eq (lv' := [(0, _), (1, _), (2, _)]) rfl rfl rfl ?_
  refine z_iload_n O dX3_wear_0 rfl ?_
  refine z_iload_n O dX3_wear_1 rfl ?_
  refine z_S2e0 O s_wearsAsTold mX3_wearsAsTold lkX3_73 dX3_wear_2 (Nat.le_of_ble_eq_true rfl) (by decide) ?_
  refine z_if_neB O 15 dX3_wear_5 (by decide) (fun h5 => by exact absurd h5 hb) (fun h5 => ?_)
  refine z_aload_n O dX3_wear_8 rfl ?_
  refine z_bipush O (-2) dX3_wear_9 (by decide) ?_
  refine z_V1e0 O x_refuseB mX3_refuse lkX3_58 rfl (by rfl) dX3_wear_11 (Nat.le_of_ble_eq_true rfl) (by decide) ?_
  exact z_iret O dX3_wear_14 ⟨rfl, rfl⟩
set_option maxRecDepth 20000 in
set_option maxHeartbeats 4000000 in
theorem x_wear {c v : Nat} (hc : c < 9) (hv : v ≤ 5) : zS G 3 yX3_wear cX3_wear 4 (some .int) [.ref (zad (zb G) 0), .int (nI c), .int (nI v)] (xM G we r cl seen kept rd nw ud im twe tr tcl bys wo nu len it so at_ be va sp ss al od ab bl bd no fu rest) 0 0 (zE (.int (nI (we c))) (xM G (updN we c v) r cl seen kept rd nw ud im twe tr tcl bys wo nu len it so at_ be va sp ss al od ab bl bd no fu rest)) := by
  refine zS.of (by decide) (Nat.le_of_ble_eq_true rfl) (fun F O hR1 hR2 => ?_)
  have O : zOk G F yX3_wear cX3_wear 4 (some .int) RX3 3 (xM G we r cl seen kept rd nw ud im twe tr tcl bys wo nu len it so at_ be va sp ss al od ab bl bd no fu rest).length := O
  refine z_eq (lv' := [(0, _), (1, _), (2, _)]) rfl rfl rfl ?_
  refine z_iload_n O dX3_wear_0 rfl ?_
  refine z_iload_n O dX3_wear_1 rfl ?_
  refine z_S2e0 O s_wearsAsTold mX3_wearsAsTold lkX3_73 dX3_wear_2 (Nat.le_of_ble_eq_true rfl) (by decide) ?_
  refine z_if_neB O 15 dX3_wear_5 (by decide) (fun h5 => ?_) (fun h5 => by exact absurd ⟨⟨nI_pos' (by omega), nI_lt hc (by omega)⟩, nI_le (by omega) (by omega), nI_le hv (by omega)⟩ h5)
  refine z_aload_n O dX3_wear_15 rfl ?_
  refine z_get O dX3_wear_16 flX3_12 (by rfl) (by rfl) ?_
  refine z_get O dX3_wear_19 flX3_62 (by rfl) (by rfl) ?_
  refine z_get O dX3_wear_22 flX3_76 (by rfl) (by rfl) ?_
  refine z_iload_n O dX3_wear_25 rfl ?_
  refine z_ialdN O dX3_wear_26 (by rfl) (by omega) (by decide) ?_
  refine z_istore_n (lv' := [(0, _), (1, _), (2, _), (3, _)]) O dX3_wear_27 (by decide) rfl ?_
  refine z_aload_n O dX3_wear_28 rfl ?_
  refine z_get O dX3_wear_29 flX3_12 (by rfl) (by rfl) ?_
  refine z_get O dX3_wear_32 flX3_62 (by rfl) (by rfl) ?_
  refine z_get O dX3_wear_35 flX3_76 (by rfl) (by rfl) ?_
  refine z_iload_n O dX3_wear_38 rfl ?_
  refine z_iload_n O dX3_wear_39 rfl ?_
  refine z_iastN O (by rfl) dX3_wear_40 (by rfl) (by omega) (by decide) ?_
  refine z_M (show _ = (xM G (updN we c v) r cl seen kept rd nw ud im twe tr tcl bys wo nu len it so at_ be va sp ss al od ab bl bd no fu rest) from rfl) ?_
  refine z_iload_n O dX3_wear_41 rfl ?_
  exact z_iret O dX3_wear_42 ⟨rfl, rfl⟩
set_option maxRecDepth 20000 in
set_option maxHeartbeats 4000000 in
theorem x_darnB {c kd fm th : Int32} (hb : ¬ ((0 ≤ c ∧ c < nI 9) ∧ (0 ≤ kd ∧ kd < nI 6) ∧ (0 ≤ fm ∧ fm < nI 3) ∧ (nI 1 ≤ th ∧ th ≤ nI 30))) : zS G 4 yX3_darn cX3_darn 6 (some .int) [.ref (zad (zb G) 0), .int c, .int kd, .int fm, .int th] (xM G we r cl seen kept rd nw ud im twe tr tcl bys wo nu len it so at_ be va sp ss al od ab bl bd no fu rest) 0 0 (zE (.int (-2)) (xM G we r cl seen kept rd nw ud im twe tr tcl bys wo nu len it so at_ be va sp ss al od ab bl (bd + 1) no fu rest)) := by
  refine zS.of (by decide) (Nat.le_of_ble_eq_true rfl) (fun F O hR1 hR2 => ?_)
  have O : zOk G F yX3_darn cX3_darn 6 (some .int) RX3 4 (xM G we r cl seen kept rd nw ud im twe tr tcl bys wo nu len it so at_ be va sp ss al od ab bl bd no fu rest).length := O
  refine z_eq (lv' := [(0, _), (1, _), (2, _), (3, _), (4, _)]) rfl rfl rfl ?_
  refine z_aload_n O dX3_darn_0 rfl ?_
  refine z_get O dX3_darn_1 flX3_12 (by rfl) (by rfl) ?_
  refine z_get O dX3_darn_4 flX3_62 (by rfl) (by rfl) ?_
  refine z_iload_n O dX3_darn_7 rfl ?_
  refine z_iload_n O dX3_darn_8 rfl ?_
  refine z_iload_n O dX3_darn_9 rfl ?_
  refine z_iload O dX3_darn_10 rfl ?_
  refine z_V4e0 O (s_verdictB xN hb) mX0_verdict lkX3_79 rfl (by rfl) dX3_darn_12 (Nat.le_of_ble_eq_true rfl) (by decide) ?_
  refine z_istore (lv' := [(0, _), (1, _), (2, _), (3, _), (4, _), (5, _)]) O dX3_darn_15 (by decide) rfl ?_
  refine z_iload O dX3_darn_17 rfl ?_
  refine z_if_eq O 29 dX3_darn_19 (by decide) (fun h19 => by exact absurd h19 (by decide)) (fun h19 => ?_)
  refine z_aload_n O dX3_darn_22 rfl ?_
  refine z_iload O dX3_darn_23 rfl ?_
  refine z_V1e0 O x_refuseB mX3_refuse lkX3_58 rfl (by rfl) dX3_darn_25 (Nat.le_of_ble_eq_true rfl) (by decide) ?_
  exact z_iret O dX3_darn_28 ⟨rfl, rfl⟩
set_option maxRecDepth 20000 in
set_option maxHeartbeats 4000000 in
theorem x_darnF (hr : rowOK r) {c kd fm th : Nat} (hc : c < 9) (h1 : kd < 6) (h2 : fm < 3) (h3 : 1 ≤ th) (h4 : th ≤ 30) (h5 : r (108 + c) = 3) : zS G 5 yX3_darn cX3_darn 6 (some .int) [.ref (zad (zb G) 0), .int (nI c), .int (nI kd), .int (nI fm), .int (nI th)] (xM G we r cl seen kept rd nw ud im twe tr tcl bys wo nu len it so at_ be va sp ss al od ab bl bd no fu rest) 0 0 (zE (.int (-4)) (xM G we r cl seen kept rd nw ud im twe tr tcl bys wo nu len it so at_ be va sp ss al od ab bl bd no (fu + 1) rest)) := by
  refine zS.of (by decide) (Nat.le_of_ble_eq_true rfl) (fun F O hR1 hR2 => ?_)
  have O : zOk G F yX3_darn cX3_darn 6 (some .int) RX3 5 (xM G we r cl seen kept rd nw ud im twe tr tcl bys wo nu len it so at_ be va sp ss al od ab bl bd no fu rest).length := O
  refine z_eq (lv' := [(0, _), (1, _), (2, _), (3, _), (4, _)]) rfl rfl rfl ?_
  refine z_aload_n O dX3_darn_0 rfl ?_
  refine z_get O dX3_darn_1 flX3_12 (by rfl) (by rfl) ?_
  refine z_get O dX3_darn_4 flX3_62 (by rfl) (by rfl) ?_
  refine z_iload_n O dX3_darn_7 rfl ?_
  refine z_iload_n O dX3_darn_8 rfl ?_
  refine z_iload_n O dX3_darn_9 rfl ?_
  refine z_iload O dX3_darn_10 rfl ?_
  refine z_V4e0 O (s_verdict xN hr hc h1 h2 h3 h4) mX0_verdict lkX3_79 rfl (by rfl) dX3_darn_12 (Nat.le_of_ble_eq_true rfl) (by decide) ?_
  refine z_top (v' := .int (-4)) (congrArg Value.int (if_neg (by omega))) ?_
  refine z_istore (lv' := [(0, _), (1, _), (2, _), (3, _), (4, _), (5, _)]) O dX3_darn_15 (by decide) rfl ?_
  refine z_iload O dX3_darn_17 rfl ?_
  refine z_if_eq O 29 dX3_darn_19 (by decide) (fun h19 => by exact absurd h19 (by decide)) (fun h19 => ?_)
  refine z_aload_n O dX3_darn_22 rfl ?_
  refine z_iload O dX3_darn_23 rfl ?_
  refine z_V1e0 O x_refuseF mX3_refuse lkX3_58 rfl (by rfl) dX3_darn_25 (Nat.le_of_ble_eq_true rfl) (by decide) ?_
  exact z_iret O dX3_darn_28 ⟨rfl, rfl⟩
set_option maxRecDepth 20000 in
set_option maxHeartbeats 4000000 in
theorem x_darn (hr : rowOK r) (hnw : nw < 8) (hud : ud ≤ 8) {c kd fm th : Nat} (hc : c < 9) (h1 : kd < 6) (h2 : fm < 3) (h3 : 1 ≤ th) (h4 : th ≤ 30) (h5 : r (108 + c) < 3) : zS G 5 yX3_darn cX3_darn 6 (some .int) [.ref (zad (zb G) 0), .int (nI c), .int (nI kd), .int (nI fm), .int (nI th)] (xM G we r cl seen kept rd nw ud im twe tr tcl bys wo nu len it so at_ be va sp ss al od ab bl bd no fu rest) 0 0 (zE (.int (nI (r (108 + c) + 1))) (xM G we (putN r c kd fm th) cl seen (keptN r kept nw) rd ((nw + 1) % 8) (min (ud + 1) 8) im twe tr tcl bys wo nu len it so at_ be va sp ss al od ab bl bd no fu rest)) := by
  refine zS.of (by decide) (Nat.le_of_ble_eq_true rfl) (fun F O hR1 hR2 => ?_)
  have O : zOk G F yX3_darn cX3_darn 6 (some .int) RX3 5 (xM G we r cl seen kept rd nw ud im twe tr tcl bys wo nu len it so at_ be va sp ss al od ab bl bd no fu rest).length := O
  refine z_eq (lv' := [(0, _), (1, _), (2, _), (3, _), (4, _)]) rfl rfl rfl ?_
  refine z_aload_n O dX3_darn_0 rfl ?_
  refine z_get O dX3_darn_1 flX3_12 (by rfl) (by rfl) ?_
  refine z_get O dX3_darn_4 flX3_62 (by rfl) (by rfl) ?_
  refine z_iload_n O dX3_darn_7 rfl ?_
  refine z_iload_n O dX3_darn_8 rfl ?_
  refine z_iload_n O dX3_darn_9 rfl ?_
  refine z_iload O dX3_darn_10 rfl ?_
  refine z_V4e0 O (s_verdict xN hr hc h1 h2 h3 h4) mX0_verdict lkX3_79 rfl (by rfl) dX3_darn_12 (Nat.le_of_ble_eq_true rfl) (by decide) ?_
  refine z_top (v' := .int 0) (congrArg Value.int (if_pos h5)) ?_
  refine z_istore (lv' := [(0, _), (1, _), (2, _), (3, _), (4, _), (5, _)]) O dX3_darn_15 (by decide) rfl ?_
  refine z_iload O dX3_darn_17 rfl ?_
  refine z_if_eq O 29 dX3_darn_19 (by decide) (fun h19 => ?_) (fun h19 => by exact absurd rfl h19)
  refine z_aload_n O dX3_darn_29 rfl ?_
  refine z_get O dX3_darn_30 flX3_12 (by rfl) (by rfl) ?_
  refine z_V0u0 O (t_keep xI hnw hud) mX1_keep lkX3_83 rfl (by rfl) dX3_darn_33 (Nat.le_of_ble_eq_true rfl) (by decide) ?_
  refine z_M (show _ = (xM G we r cl seen (keptN r kept nw) rd ((nw + 1) % 8) (min (ud + 1) 8) im twe tr tcl bys wo nu len it so at_ be va sp ss al od ab bl bd no fu rest) from rfl) ?_
  refine z_aload_n O dX3_darn_36 rfl ?_
  refine z_get O dX3_darn_37 flX3_12 (by rfl) (by rfl) ?_
  refine z_get O dX3_darn_40 flX3_62 (by rfl) (by rfl) ?_
  refine z_iload_n O dX3_darn_43 rfl ?_
  refine z_iload_n O dX3_darn_44 rfl ?_
  refine z_iload_n O dX3_darn_45 rfl ?_
  refine z_iload O dX3_darn_46 rfl ?_
  refine z_V4e0 O (s_put xN hr hc h1 h2 h3 h4 h5) mX0_put lkX3_86 rfl (by rfl) dX3_darn_48 (Nat.le_of_ble_eq_true rfl) (by decide) ?_
  refine z_M (show _ = (xM G we (putN r c kd fm th) cl seen (keptN r kept nw) rd ((nw + 1) % 8) (min (ud + 1) 8) im twe tr tcl bys wo nu len it so at_ be va sp ss al od ab bl bd no fu rest) from rfl) ?_
  exact z_iret O dX3_darn_51 ⟨rfl, rfl⟩
set_option maxRecDepth 20000 in
set_option maxHeartbeats 4000000 in
theorem x_unpickB {x : Int32} (hb : ¬ (0 ≤ x ∧ x < nI 9)) : zS G 2 yX3_unpick cX3_unpick 2 (some .int) [.ref (zad (zb G) 0), .int x] (xM G we r cl seen kept rd nw ud im twe tr tcl bys wo nu len it so at_ be va sp ss al od ab bl bd no fu rest) 0 0 (zE (.int (-2)) (xM G we r cl seen kept rd nw ud im twe tr tcl bys wo nu len it so at_ be va sp ss al od ab bl (bd + 1) no fu rest)) := by
  refine zS.of (by decide) (Nat.le_of_ble_eq_true rfl) (fun F O hR1 hR2 => ?_)
  have O : zOk G F yX3_unpick cX3_unpick 2 (some .int) RX3 2 (xM G we r cl seen kept rd nw ud im twe tr tcl bys wo nu len it so at_ be va sp ss al od ab bl bd no fu rest).length := O
  refine z_eq (lv' := [(0, _), (1, _)]) rfl rfl rfl ?_
  refine z_iload_n O dX3_unpick_0 rfl ?_
  refine z_bipush O (nI 9) dX3_unpick_1 (by decide) ?_
  refine z_S2e0 O s_within mX3_within lkX3_54 dX3_unpick_3 (Nat.le_of_ble_eq_true rfl) (by decide) ?_
  refine z_if_neB O 16 dX3_unpick_6 (by decide) (fun h6 => by exact absurd h6 hb) (fun h6 => ?_)
  refine z_aload_n O dX3_unpick_9 rfl ?_
  refine z_bipush O (-2) dX3_unpick_10 (by decide) ?_
  refine z_V1e0 O x_refuseB mX3_refuse lkX3_58 rfl (by rfl) dX3_unpick_12 (Nat.le_of_ble_eq_true rfl) (by decide) ?_
  exact z_iret O dX3_unpick_15 ⟨rfl, rfl⟩
set_option maxRecDepth 20000 in
set_option maxHeartbeats 4000000 in
theorem x_unpickN (hr : rowOK r) {c : Nat} (hc : c < 9) (h0 : r (108 + c) = 0) : zS G 3 yX3_unpick cX3_unpick 2 (some .int) [.ref (zad (zb G) 0), .int (nI c)] (xM G we r cl seen kept rd nw ud im twe tr tcl bys wo nu len it so at_ be va sp ss al od ab bl bd no fu rest) 0 0 (zE (.int (-3)) (xM G we r cl seen kept rd nw ud im twe tr tcl bys wo nu len it so at_ be va sp ss al od ab bl bd (no + 1) fu rest)) := by
  refine zS.of (by decide) (Nat.le_of_ble_eq_true rfl) (fun F O hR1 hR2 => ?_)
  have O : zOk G F yX3_unpick cX3_unpick 2 (some .int) RX3 3 (xM G we r cl seen kept rd nw ud im twe tr tcl bys wo nu len it so at_ be va sp ss al od ab bl bd no fu rest).length := O
  refine z_eq (lv' := [(0, _), (1, _)]) rfl rfl rfl ?_
  refine z_iload_n O dX3_unpick_0 rfl ?_
  refine z_bipush O (nI 9) dX3_unpick_1 (by decide) ?_
  refine z_S2e0 O (s_withinN (by omega) (by omega)) mX3_within lkX3_54 dX3_unpick_3 (Nat.le_of_ble_eq_true rfl) (by decide) ?_
  refine z_if_neB O 16 dX3_unpick_6 (by decide) (fun h6 => ?_) (fun h6 => by omega)
  refine z_aload_n O dX3_unpick_16 rfl ?_
  refine z_get O dX3_unpick_17 flX3_12 (by rfl) (by rfl) ?_
  refine z_get O dX3_unpick_20 flX3_62 (by rfl) (by rfl) ?_
  refine z_iload_n O dX3_unpick_23 rfl ?_
  refine z_V1e0 O (s_isHole xN hr hc) mX0_isHole lkX3_89 rfl (by rfl) dX3_unpick_24 (Nat.le_of_ble_eq_true rfl) (by decide) ?_
  refine z_if_eqB O 37 dX3_unpick_27 (by decide) (fun h27 => by exact absurd h0 h27) (fun h27 => ?_)
  refine z_aload_n O dX3_unpick_30 rfl ?_
  refine z_bipush O (-3) dX3_unpick_31 (by decide) ?_
  refine z_V1e0 O x_refuseN mX3_refuse lkX3_58 rfl (by rfl) dX3_unpick_33 (Nat.le_of_ble_eq_true rfl) (by decide) ?_
  exact z_iret O dX3_unpick_36 ⟨rfl, rfl⟩
set_option maxRecDepth 20000 in
set_option maxHeartbeats 4000000 in
theorem x_unpick (hr : rowOK r) (hnw : nw < 8) (hud : ud ≤ 8) {c : Nat} (hc : c < 9) (h0 : 0 < r (108 + c)) : zS G 4 yX3_unpick cX3_unpick 2 (some .int) [.ref (zad (zb G) 0), .int (nI c)] (xM G we r cl seen kept rd nw ud im twe tr tcl bys wo nu len it so at_ be va sp ss al od ab bl bd no fu rest) 0 0 (zE (.int (nI (fld r c (r (108 + c) - 1) 2))) (xM G we (takeN r c) cl seen (keptN r kept nw) rd ((nw + 1) % 8) (min (ud + 1) 8) im twe tr tcl bys wo nu len it so at_ be va sp ss al od ab bl bd no fu rest)) := by
  refine zS.of (by decide) (Nat.le_of_ble_eq_true rfl) (fun F O hR1 hR2 => ?_)
  have O : zOk G F yX3_unpick cX3_unpick 2 (some .int) RX3 4 (xM G we r cl seen kept rd nw ud im twe tr tcl bys wo nu len it so at_ be va sp ss al od ab bl bd no fu rest).length := O
  refine z_eq (lv' := [(0, _), (1, _)]) rfl rfl rfl ?_
  refine z_iload_n O dX3_unpick_0 rfl ?_
  refine z_bipush O (nI 9) dX3_unpick_1 (by decide) ?_
  refine z_S2e0 O (s_withinN (by omega) (by omega)) mX3_within lkX3_54 dX3_unpick_3 (Nat.le_of_ble_eq_true rfl) (by decide) ?_
  refine z_if_neB O 16 dX3_unpick_6 (by decide) (fun h6 => ?_) (fun h6 => by omega)
  refine z_aload_n O dX3_unpick_16 rfl ?_
  refine z_get O dX3_unpick_17 flX3_12 (by rfl) (by rfl) ?_
  refine z_get O dX3_unpick_20 flX3_62 (by rfl) (by rfl) ?_
  refine z_iload_n O dX3_unpick_23 rfl ?_
  refine z_V1e0 O (s_isHole xN hr hc) mX0_isHole lkX3_89 rfl (by rfl) dX3_unpick_24 (Nat.le_of_ble_eq_true rfl) (by decide) ?_
  refine z_if_eqB O 37 dX3_unpick_27 (by decide) (fun h27 => ?_) (fun h27 => by exact absurd h27 (by omega))
  refine z_aload_n O dX3_unpick_37 rfl ?_
  refine z_get O dX3_unpick_38 flX3_12 (by rfl) (by rfl) ?_
  refine z_V0u0 O (t_keep xI hnw hud) mX1_keep lkX3_83 rfl (by rfl) dX3_unpick_41 (Nat.le_of_ble_eq_true rfl) (by decide) ?_
  refine z_M (show _ = (xM G we r cl seen (keptN r kept nw) rd ((nw + 1) % 8) (min (ud + 1) 8) im twe tr tcl bys wo nu len it so at_ be va sp ss al od ab bl bd no fu rest) from rfl) ?_
  refine z_aload_n O dX3_unpick_44 rfl ?_
  refine z_get O dX3_unpick_45 flX3_12 (by rfl) (by rfl) ?_
  refine z_get O dX3_unpick_48 flX3_62 (by rfl) (by rfl) ?_
  refine z_iload_n O dX3_unpick_51 rfl ?_
  refine z_V1e0 O (s_take xN hr hc h0) mX0_take lkX3_93 rfl (by rfl) dX3_unpick_52 (Nat.le_of_ble_eq_true rfl) (by decide) ?_
  refine z_M (show _ = (xM G we (takeN r c) cl seen (keptN r kept nw) rd ((nw + 1) % 8) (min (ud + 1) 8) im twe tr tcl bys wo nu len it so at_ be va sp ss al od ab bl bd no fu rest) from rfl) ?_
  exact z_iret O dX3_unpick_55 ⟨rfl, rfl⟩
set_option maxRecDepth 20000 in
set_option maxHeartbeats 4000000 in
theorem x_undoN (h0 : ud = 0) : zS G 2 yX3_undo cX3_undo 1 (some .int) [.ref (zad (zb G) 0)] (xM G we r cl seen kept rd nw ud im twe tr tcl bys wo nu len it so at_ be va sp ss al od ab bl bd no fu rest) 0 0 (zE (.int (-3)) (xM G we r cl seen kept rd nw ud im twe tr tcl bys wo nu len it so at_ be va sp ss al od ab bl bd (no + 1) fu rest)) := by
  refine zS.of (by decide) (Nat.le_of_ble_eq_true rfl) (fun F O hR1 hR2 => ?_)
  have O : zOk G F yX3_undo cX3_undo 1 (some .int) RX3 2 (xM G we r cl seen kept rd nw ud im twe tr tcl bys wo nu len it so at_ be va sp ss al od ab bl bd no fu rest).length := O
  refine z_eq (lv' := [(0, _)]) rfl rfl rfl ?_
  refine z_aload_n O dX3_undo_0 rfl ?_
  refine z_get O dX3_undo_1 flX3_12 (by rfl) (by rfl) ?_
  refine z_get O dX3_undo_4 flX3_111 (by rfl) (by rfl) ?_
  refine z_if_gtN O 17 dX3_undo_7 (by decide) (by omega) (fun h7 => by omega) (fun h7 => ?_)
  refine z_aload_n O dX3_undo_10 rfl ?_
  refine z_bipush O (-3) dX3_undo_11 (by decide) ?_
  refine z_V1e0 O x_refuseN mX3_refuse lkX3_58 rfl (by rfl) dX3_undo_13 (Nat.le_of_ble_eq_true rfl) (by decide) ?_
  exact z_iret O dX3_undo_16 ⟨rfl, rfl⟩
set_option maxRecDepth 20000 in
set_option maxHeartbeats 4000000 in
theorem x_undo (hnw : nw < 8) (hud : ud ≤ 8) (h0 : 0 < ud) : zS G 4 yX3_undo cX3_undo 1 (some .int) [.ref (zad (zb G) 0)] (xM G we r cl seen kept rd nw ud im twe tr tcl bys wo nu len it so at_ be va sp ss al od ab bl bd no fu rest) 0 0 (zE (.int (nI (darnsM (backN r kept nw) 511 9))) (xM G we (backN r kept nw) cl seen kept rd ((nw + 7) % 8) (ud - 1) im twe tr tcl bys wo nu len it so at_ be va sp ss al od ab bl bd no fu rest)) := by
  refine zS.of (by decide) (Nat.le_of_ble_eq_true rfl) (fun F O hR1 hR2 => ?_)
  have O : zOk G F yX3_undo cX3_undo 1 (some .int) RX3 4 (xM G we r cl seen kept rd nw ud im twe tr tcl bys wo nu len it so at_ be va sp ss al od ab bl bd no fu rest).length := O
  refine z_eq (lv' := [(0, _)]) rfl rfl rfl ?_
  refine z_aload_n O dX3_undo_0 rfl ?_
  refine z_get O dX3_undo_1 flX3_12 (by rfl) (by rfl) ?_
  refine z_get O dX3_undo_4 flX3_111 (by rfl) (by rfl) ?_
  refine z_if_gtN O 17 dX3_undo_7 (by decide) (by omega) (fun h7 => ?_) (fun h7 => by omega)
  refine z_aload_n O dX3_undo_17 rfl ?_
  refine z_get O dX3_undo_18 flX3_12 (by rfl) (by rfl) ?_
  refine z_V0u0 O (t_bringBack xI hnw hud h0) mX1_bringBack lkX3_115 rfl (by rfl) dX3_undo_21 (Nat.le_of_ble_eq_true rfl) (by decide) ?_
  refine z_M (show _ = (xM G we (backN r kept nw) cl seen kept rd ((nw + 7) % 8) (ud - 1) im twe tr tcl bys wo nu len it so at_ be va sp ss al od ab bl bd no fu rest) from rfl) ?_
  refine z_aload_n O dX3_undo_24 rfl ?_
  refine z_get O dX3_undo_25 flX3_12 (by rfl) (by rfl) ?_
  refine z_get O dX3_undo_28 flX3_62 (by rfl) (by rfl) ?_
  refine z_V0e0 O (s_darns xN) mX0_darns lkX3_65 rfl (by rfl) dX3_undo_31 (Nat.le_of_ble_eq_true rfl) (by decide) ?_
  exact z_iret O dX3_undo_34 ⟨rfl, rfl⟩
set_option maxRecDepth 20000 in
set_option maxHeartbeats 4000000 in
theorem x_typeB {x : Int32} (hb : ¬ (nI 0 ≤ x ∧ x ≤ nI 127)) : zS G 2 yX3_type cX3_type 2 (some .int) [.ref (zad (zb G) 0), .int x] (xM G we r cl seen kept rd nw ud im twe tr tcl bys wo nu len it so at_ be va sp ss al od ab bl bd no fu rest) 0 0 (zE (.int (-2)) (xM G we r cl seen kept rd nw ud im twe tr tcl bys wo nu len it so at_ be va sp ss al od ab bl (bd + 1) no fu rest)) := by
  refine zS.of (by decide) (Nat.le_of_ble_eq_true rfl) (fun F O hR1 hR2 => ?_)
  have O : zOk G F yX3_type cX3_type 2 (some .int) RX3 2 (xM G we r cl seen kept rd nw ud im twe tr tcl bys wo nu len it so at_ be va sp ss al od ab bl bd no fu rest).length := O
  refine z_eq (lv' := [(0, _), (1, _)]) rfl rfl rfl ?_
  refine z_iload_n O dX3_type_0 rfl ?_
  refine z_iconst O (nI 0) dX3_type_1 (by decide) ?_
  refine z_bipush O (nI 127) dX3_type_2 (by decide) ?_
  refine z_S3e0 O s_between mX3_between lkX3_96 dX3_type_4 (Nat.le_of_ble_eq_true rfl) (by decide) ?_
  refine z_if_neB O 17 dX3_type_7 (by decide) (fun h7 => by exact absurd h7 hb) (fun h7 => ?_)
  refine z_aload_n O dX3_type_10 rfl ?_
  refine z_bipush O (-2) dX3_type_11 (by decide) ?_
  refine z_V1e0 O x_refuseB mX3_refuse lkX3_58 rfl (by rfl) dX3_type_13 (Nat.le_of_ble_eq_true rfl) (by decide) ?_
  exact z_iret O dX3_type_16 ⟨rfl, rfl⟩
set_option maxRecDepth 20000 in
set_option maxHeartbeats 4000000 in
theorem x_typeF {b : Nat} (hb : b ≤ 127) (hl : len = 150) : zS G 2 yX3_type cX3_type 2 (some .int) [.ref (zad (zb G) 0), .int (nI b)] (xM G we r cl seen kept rd nw ud im twe tr tcl bys wo nu len it so at_ be va sp ss al od ab bl bd no fu rest) 0 0 (zE (.int (-4)) (xM G we r cl seen kept rd nw ud im twe tr tcl bys wo nu len it so at_ be va sp ss al od ab bl bd no (fu + 1) rest)) := by
  refine zS.of (by decide) (Nat.le_of_ble_eq_true rfl) (fun F O hR1 hR2 => ?_)
  have O : zOk G F yX3_type cX3_type 2 (some .int) RX3 2 (xM G we r cl seen kept rd nw ud im twe tr tcl bys wo nu len it so at_ be va sp ss al od ab bl bd no fu rest).length := O
  refine z_eq (lv' := [(0, _), (1, _)]) rfl rfl rfl ?_
  refine z_iload_n O dX3_type_0 rfl ?_
  refine z_iconst O (nI 0) dX3_type_1 (by decide) ?_
  refine z_bipush O (nI 127) dX3_type_2 (by decide) ?_
  refine z_S3e0 O (s_betweenN (by omega) (by omega) (by omega)) mX3_between lkX3_96 dX3_type_4 (Nat.le_of_ble_eq_true rfl) (by decide) ?_
  refine z_if_neB O 17 dX3_type_7 (by decide) (fun h7 => ?_) (fun h7 => by omega)
  refine z_aload_n O dX3_type_17 rfl ?_
  refine z_get O dX3_type_18 flX3_30 (by rfl) (by rfl) ?_
  refine z_get O dX3_type_21 flX3_118 (by rfl) (by rfl) ?_
  refine z_sipush O (nI 150) dX3_type_24 (by decide) ?_
  refine z_icmp_ltN O 37 dX3_type_27 (by decide) (by omega) (by omega) (fun h27 => by omega) (fun h27 => ?_)
  refine z_aload_n O dX3_type_30 rfl ?_
  refine z_bipush O (-4) dX3_type_31 (by decide) ?_
  refine z_V1e0 O x_refuseF mX3_refuse lkX3_58 rfl (by rfl) dX3_type_33 (Nat.le_of_ble_eq_true rfl) (by decide) ?_
  exact z_iret O dX3_type_36 ⟨rfl, rfl⟩
set_option maxRecDepth 20000 in
set_option maxHeartbeats 4000000 in
theorem x_type {b : Nat} (hb : b ≤ 127) (hl : len < 150) : zS G 2 yX3_type cX3_type 2 (some .int) [.ref (zad (zb G) 0), .int (nI b)] (xM G we r cl seen kept rd nw ud im twe tr tcl bys wo nu len it so at_ be va sp ss al od ab bl bd no fu rest) 0 0 (zE (.int (nI (len + 1))) (xM G we r cl seen kept rd nw ud im twe tr tcl (updN bys len b) wo nu (len + 1) it so at_ be va sp ss al od ab bl bd no fu rest)) := by
  refine zS.of (by decide) (Nat.le_of_ble_eq_true rfl) (fun F O hR1 hR2 => ?_)
  have O : zOk G F yX3_type cX3_type 2 (some .int) RX3 2 (xM G we r cl seen kept rd nw ud im twe tr tcl bys wo nu len it so at_ be va sp ss al od ab bl bd no fu rest).length := O
  refine z_eq (lv' := [(0, _), (1, _)]) rfl rfl rfl ?_
  refine z_iload_n O dX3_type_0 rfl ?_
  refine z_iconst O (nI 0) dX3_type_1 (by decide) ?_
  refine z_bipush O (nI 127) dX3_type_2 (by decide) ?_
  refine z_S3e0 O (s_betweenN (by omega) (by omega) (by omega)) mX3_between lkX3_96 dX3_type_4 (Nat.le_of_ble_eq_true rfl) (by decide) ?_
  refine z_if_neB O 17 dX3_type_7 (by decide) (fun h7 => ?_) (fun h7 => by omega)
  refine z_aload_n O dX3_type_17 rfl ?_
  refine z_get O dX3_type_18 flX3_30 (by rfl) (by rfl) ?_
  refine z_get O dX3_type_21 flX3_118 (by rfl) (by rfl) ?_
  refine z_sipush O (nI 150) dX3_type_24 (by decide) ?_
  refine z_icmp_ltN O 37 dX3_type_27 (by decide) (by omega) (by omega) (fun h27 => ?_) (fun h27 => by omega)
  refine z_aload_n O dX3_type_37 rfl ?_
  refine z_get O dX3_type_38 flX3_30 (by rfl) (by rfl) ?_
  refine z_get O dX3_type_41 flX3_121 (by rfl) (by rfl) ?_
  refine z_aload_n O dX3_type_44 rfl ?_
  refine z_get O dX3_type_45 flX3_30 (by rfl) (by rfl) ?_
  refine z_get O dX3_type_48 flX3_118 (by rfl) (by rfl) ?_
  refine z_iload_n O dX3_type_51 rfl ?_
  refine z_iastN O (by rfl) dX3_type_52 (by rfl) (by omega) (by decide) ?_
  refine z_M (show _ = (xM G we r cl seen kept rd nw ud im twe tr tcl (updN bys len b) wo nu len it so at_ be va sp ss al od ab bl bd no fu rest) from rfl) ?_
  refine z_aload_n O dX3_type_53 rfl ?_
  refine z_get O dX3_type_54 flX3_30 (by rfl) (by rfl) ?_
  refine z_dup O dX3_type_57 rfl ?_
  refine z_get O dX3_type_58 flX3_118 (by rfl) (by rfl) ?_
  refine z_iconst O (nI 1) dX3_type_61 (by decide) ?_
  refine z_iaddN O dX3_type_62 ?_
  refine z_put O (by rfl) dX3_type_63 flX3_118 (by rfl) rfl rfl (by simp) ?_
  refine z_M (show _ = (xM G we r cl seen kept rd nw ud im twe tr tcl (updN bys len b) wo nu (len + 1) it so at_ be va sp ss al od ab bl bd no fu rest) from rfl) ?_
  refine z_aload_n O dX3_type_66 rfl ?_
  refine z_get O dX3_type_67 flX3_30 (by rfl) (by rfl) ?_
  refine z_get O dX3_type_70 flX3_118 (by rfl) (by rfl) ?_
  exact z_iret O dX3_type_73 ⟨rfl, rfl⟩
set_option maxRecDepth 20000 in
set_option maxHeartbeats 4000000 in
theorem x_clear  : zS G 1 yX3_clear cX3_clear 2 (some .int) [.ref (zad (zb G) 0)] (xM G we r cl seen kept rd nw ud im twe tr tcl bys wo nu len it so at_ be va sp ss al od ab bl bd no fu rest) 0 0 (zE (.int (nI len)) (xM G we r cl seen kept rd nw ud im twe tr tcl bys wo nu 0 it so at_ be va sp ss al od ab bl bd no fu rest)) := by
  refine zS.of (by decide) (Nat.le_of_ble_eq_true rfl) (fun F O hR1 hR2 => ?_)
  have O : zOk G F yX3_clear cX3_clear 2 (some .int) RX3 1 (xM G we r cl seen kept rd nw ud im twe tr tcl bys wo nu len it so at_ be va sp ss al od ab bl bd no fu rest).length := O
  refine z_eq (lv' := [(0, _)]) rfl rfl rfl ?_
  refine z_aload_n O dX3_clear_0 rfl ?_
  refine z_get O dX3_clear_1 flX3_30 (by rfl) (by rfl) ?_
  refine z_get O dX3_clear_4 flX3_118 (by rfl) (by rfl) ?_
  refine z_istore_n (lv' := [(0, _), (1, _)]) O dX3_clear_7 (by decide) rfl ?_
  refine z_aload_n O dX3_clear_8 rfl ?_
  refine z_get O dX3_clear_9 flX3_30 (by rfl) (by rfl) ?_
  refine z_iconst O (nI 0) dX3_clear_12 (by decide) ?_
  refine z_put O (by rfl) dX3_clear_13 flX3_118 (by rfl) rfl rfl (by simp) ?_
  refine z_M (show _ = (xM G we r cl seen kept rd nw ud im twe tr tcl bys wo nu 0 it so at_ be va sp ss al od ab bl bd no fu rest) from rfl) ?_
  refine z_iload_n O dX3_clear_16 rfl ?_
  exact z_iret O dX3_clear_17 ⟨rfl, rfl⟩
set_option maxRecDepth 20000 in
set_option maxHeartbeats 4000000 in
theorem x_yearsB {x : Int32} (hb : ¬ (nI 1 ≤ x ∧ x ≤ nI 20)) : zS G 2 yX3_years cX3_years 3 (some .int) [.ref (zad (zb G) 0), .int x] (xM G we r cl seen kept rd nw ud im twe tr tcl bys wo nu len it so at_ be va sp ss al od ab bl bd no fu rest) 0 0 (zE (.int (-2)) (xM G we r cl seen kept rd nw ud im twe tr tcl bys wo nu len it so at_ be va sp ss al od ab bl (bd + 1) no fu rest)) := by
  refine zS.of (by decide) (Nat.le_of_ble_eq_true rfl) (fun F O hR1 hR2 => ?_)
  have O : zOk G F yX3_years cX3_years 3 (some .int) RX3 2 (xM G we r cl seen kept rd nw ud im twe tr tcl bys wo nu len it so at_ be va sp ss al od ab bl bd no fu rest).length := O
  refine z_eq (lv' := [(0, _), (1, _)]) rfl rfl rfl ?_
  refine z_iload_n O dX3_years_0 rfl ?_
  refine z_iconst O (nI 1) dX3_years_1 (by decide) ?_
  refine z_bipush O (nI 20) dX3_years_2 (by decide) ?_
  refine z_S3e0 O s_between mX3_between lkX3_96 dX3_years_4 (Nat.le_of_ble_eq_true rfl) (by decide) ?_
  refine z_if_neB O 17 dX3_years_7 (by decide) (fun h7 => by exact absurd h7 hb) (fun h7 => ?_)
  refine z_aload_n O dX3_years_10 rfl ?_
  refine z_bipush O (-2) dX3_years_11 (by decide) ?_
  refine z_V1e0 O x_refuseB mX3_refuse lkX3_58 rfl (by rfl) dX3_years_13 (Nat.le_of_ble_eq_true rfl) (by decide) ?_
  exact z_iret O dX3_years_16 ⟨rfl, rfl⟩
end XS
