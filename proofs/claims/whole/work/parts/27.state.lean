/-! ===== State ===== -/
def zState (G : zG) (M : List va_E) (k ks i1 i2 i3 js jk : Nat) (we r cl seen kept : Nat → Nat) (rd nw ud : Nat) : Prop :=
  M[k]? = some (.inr (1, [.ref (zad (zb G) ks), .ref (zad (zb G) js), .int (nI (rd)), .ref (zad (zb G) jk), .int (nI (nw)), .int (nI (ud))])) ∧ zSock G M ks i1 i2 i3 we r cl ∧ M[js]? = some (zIN G 18 seen) ∧ M[jk]? = some (zIN G 944 kept)
theorem zobj_ne {M : List va_E} {i j c c' : Nat} {fs fs' : List Value} (h1 : M[i]? = some (.inr (c, fs))) (h2 : M[j]? = some (.inr (c', fs'))) (hn : c ≠ c') : i ≠ j := by
  intro h
  subst h
  rw [h1] at h2
  cases h2
  exact hn rfl
section ST
variable {G : zG} {M : List va_E} {k ks i1 i2 i3 js jk : Nat} {we r cl seen kept : Nat → Nat} {rd nw ud : Nat}
theorem zState.obj (h : zState G M k ks i1 i2 i3 js jk we r cl seen kept rd nw ud) (rd' nw' ud' : Nat) : zState G (M.set k (.inr (1, [.ref (zad (zb G) ks), .ref (zad (zb G) js), .int (nI (rd')), .ref (zad (zb G) jk), .int (nI (nw')), .int (nI (ud'))]))) k ks i1 i2 i3 js jk we r cl seen kept rd' nw' ud' := by
  obtain ⟨h0, ⟨a0, a1, a2, a3⟩, h1, h2⟩ := h
  exact ⟨zgs h0, ⟨zgn (zobj_ne h0 a0 (by decide)) a0, zgn (Ne.symm (zIN_obj a1 h0)) a1, zgn (Ne.symm (zIN_obj a2 h0)) a2, zgn (Ne.symm (zIN_obj a3 h0)) a3⟩, zgn (Ne.symm (zIN_obj h1 h0)) h1, zgn (Ne.symm (zIN_obj h2 h0)) h2⟩
theorem zState.row (h : zState G M k ks i1 i2 i3 js jk we r cl seen kept rd nw ud) (r' : Nat → Nat) : zState G (M.set i2 (zIN G 118 r')) k ks i1 i2 i3 js jk we r' cl seen kept rd nw ud := by
  obtain ⟨h0, hs, h1, h2⟩ := h
  have a2 := hs.2.2.1
  exact ⟨zgn (zIN_obj a2 h0) h0, hs.row r', zgn (zIN_inj a2 h1 (by decide)) h1, zgn (zIN_inj a2 h2 (by decide)) h2⟩
theorem zState.wear (h : zState G M k ks i1 i2 i3 js jk we r cl seen kept rd nw ud) (we' : Nat → Nat) : zState G (M.set i1 (zIN G 9 we')) k ks i1 i2 i3 js jk we' r cl seen kept rd nw ud := by
  obtain ⟨h0, hs, h1, h2⟩ := h
  have a2 := hs.2.1
  exact ⟨zgn (zIN_obj a2 h0) h0, hs.wear we', zgn (zIN_inj a2 h1 (by decide)) h1, zgn (zIN_inj a2 h2 (by decide)) h2⟩
theorem zState.sn (h : zState G M k ks i1 i2 i3 js jk we r cl seen kept rd nw ud) (s' : Nat → Nat) : zState G (M.set js (zIN G 18 s')) k ks i1 i2 i3 js jk we r cl s' kept rd nw ud := by
  obtain ⟨h0, ⟨a0, a1, a2, a3⟩, h1, h2⟩ := h
  exact ⟨zgn (zIN_obj h1 h0) h0, ⟨zgn (zIN_obj h1 a0) a0, zgn (zIN_inj h1 a1 (by decide)) a1, zgn (zIN_inj h1 a2 (by decide)) a2, zgn (zIN_inj h1 a3 (by decide)) a3⟩, zgs h1, zgn (zIN_inj h1 h2 (by decide)) h2⟩
theorem zState.kp (h : zState G M k ks i1 i2 i3 js jk we r cl seen kept rd nw ud) (s' : Nat → Nat) : zState G (M.set jk (zIN G 944 s')) k ks i1 i2 i3 js jk we r cl seen s' rd nw ud := by
  obtain ⟨h0, ⟨a0, a1, a2, a3⟩, h1, h2⟩ := h
  exact ⟨zgn (zIN_obj h2 h0) h0, ⟨zgn (zIN_obj h2 a0) a0, zgn (zIN_inj h2 a1 (by decide)) a1, zgn (zIN_inj h2 a2 (by decide)) a2, zgn (zIN_inj h2 a3 (by decide)) a3⟩, zgn (zIN_inj h2 h1 (by decide)) h1, zgs h2⟩
theorem zren2 {i j : Nat} {a b e : va_E} (h : i ≠ j) : ((M.set i a).set j b).set i e = (M.set j b).set i e := by
  rw [List.set_comm _ _ h, zss]
end ST
def keptN (r kept : Nat → Nat) (nw : Nat) : Nat → Nat := cpyN r kept 0 ((nw + 1) % 8 * 118) 118
def backN (r kept : Nat → Nat) (nw : Nat) : Nat → Nat := cpyN kept r (nw * 118) 0 118
def seenN (seen : Nat → Nat) (rd c m v : Nat) : Nat → Nat := updN (updN (updN seen (3 * rd) c) (3 * rd + 1) m) (3 * rd + 2) v
def agrP (r we seen : Nat → Nat) (c kd i : Nat) : Prop := seen (3 * i) = c → lftC r we c kd (seen (3 * i + 1)) = seen (3 * i + 2)
def agrB (r we seen : Nat → Nat) (c kd : Nat) : Nat → Bool
  | 0 => true
  | i + 1 => agrB r we seen c kd i && (!(seen (3 * i) == c) || lftC r we c kd (seen (3 * i + 1)) == seen (3 * i + 2))
def mayN (r we seen : Nat → Nat) (rd c : Nat) : Nat := if r (108 + c) = 0 then 0 else bitsN (fun kd => agrB r we seen c kd rd) 6
def dgR (seen : Nat → Nat) (h : Int64) : Nat → Int64
  | 0 => h
  | i + 1 => mixL (dgR seen h i) (seen i)
theorem agrB_f {r we seen : Nat → Nat} {c kd i : Nat} (h : agrB r we seen c kd i = false) : ∀ n, agrB r we seen c kd (i + n) = false
  | 0 => h
  | n + 1 => by
    show (agrB r we seen c kd (i + n) && _) = false
    rw [agrB_f h n, Bool.false_and]
section ST
variable {G : zG} {M : List va_E} {k ks i1 i2 i3 js jk : Nat} {we r cl seen kept : Nat → Nat} {rd nw ud : Nat}
set_option maxRecDepth 20000 in
set_option maxHeartbeats 4000000 in
theorem t_renew (hT : zState G M k ks i1 i2 i3 js jk we r cl seen kept rd nw ud) {y : Nat} : zS G 2 yX1_renew cX1_renew 2 none [.ref (zad (zb G) k), .int (nI y)] M 0 0 (zU (((M.set i1 (zIN G 9 (onesC we 9))).set i2 (zIN G 118 (updN (renewC r 9) 117 y))).set k (.inr (1, [.ref (zad (zb G) ks), .ref (zad (zb G) js), .int (nI (0)), .ref (zad (zb G) jk), .int (nI (nw)), .int (nI (0))])))) := by
  refine zS.of (by decide) (Nat.le_of_ble_eq_true rfl) (fun F O hR1 hR2 => ?_)
  have O : zOk G F yX1_renew cX1_renew 2 none RX1 2 M.length := O
  refine z_eq (lv' := [(0, _), (1, _)]) rfl rfl rfl ?_
  obtain ⟨hk0, hS, hk1, hk2⟩ := id hT
  obtain ⟨hs0, hs1, hs2, hs3⟩ := id hS
  refine z_aload_n O dX1_renew_0 rfl ?_
  refine z_get O dX1_renew_1 flX1_12 hk0 (by rfl) ?_
  refine z_iload_n O dX1_renew_4 rfl ?_
  refine z_V1u0 O (s_renew hS) mX0_renew lkX1_25 rfl hs0 dX1_renew_5 (Nat.le_of_ble_eq_true rfl) (by decide) ?_
  refine z_aload_n O dX1_renew_8 rfl ?_
  refine z_iconst O (nI 0) dX1_renew_9 (by decide) ?_
  refine z_put O (by simp) dX1_renew_10 flX1_29 ((hT.wear _).row _).1 rfl rfl (by simp) ?_
  refine z_aload_n O dX1_renew_13 rfl ?_
  refine z_iconst O (nI 0) dX1_renew_14 (by decide) ?_
  refine z_put O (by simp) dX1_renew_15 flX1_33 (((hT.wear _).row _).obj _ _ _).1 rfl rfl (by simp) ?_
  refine z_M zss ?_
  exact z_vret O dX1_renew_18 ⟨rfl, rfl⟩
set_option maxRecDepth 20000 in
set_option maxHeartbeats 4000000 in
theorem t_keep (hT : zState G M k ks i1 i2 i3 js jk we r cl seen kept rd nw ud) (hnw : nw < 8) (hud : ud ≤ 8) : zS G 2 yX1_keep cX1_keep 1 none [.ref (zad (zb G) k)] M 0 0 (zU ((M.set jk (zIN G 944 (keptN r kept nw))).set k (.inr (1, [.ref (zad (zb G) ks), .ref (zad (zb G) js), .int (nI (rd)), .ref (zad (zb G) jk), .int (nI ((nw + 1) % 8)), .int (nI (min (ud + 1) 8))])))) := by
  refine zS.of (by decide) (Nat.le_of_ble_eq_true rfl) (fun F O hR1 hR2 => ?_)
  have O : zOk G F yX1_keep cX1_keep 1 none RX1 2 M.length := O
  refine z_eq (lv' := [(0, _)]) rfl rfl rfl ?_
  obtain ⟨hk0, hS, hk1, hk2⟩ := id hT
  obtain ⟨hs0, hs1, hs2, hs3⟩ := id hS
  refine z_aload_n O dX1_keep_0 rfl ?_
  refine z_aload_n O dX1_keep_1 rfl ?_
  refine z_get O dX1_keep_2 flX1_46 (by first | exact hk0 | exact (hT.obj _ _ _).1 | exact ((hT.obj _ _ _).kp _).1) (by rfl) ?_
  refine z_iconst O (nI 1) dX1_keep_5 (by decide) ?_
  refine z_iaddN O dX1_keep_6 ?_
  refine z_bipush O (nI 8) dX1_keep_7 (by decide) ?_
  refine z_iremN O dX1_keep_9 (by omega) (by omega) (by omega) ?_
  refine z_put O (by simp) dX1_keep_10 flX1_46 (by first | exact hk0 | exact (hT.obj _ _ _).1 | exact ((hT.obj _ _ _).kp _).1) rfl rfl (by simp) ?_
  refine z_aload_n O dX1_keep_13 rfl ?_
  refine z_get O dX1_keep_14 flX1_12 (by first | exact hk0 | exact (hT.obj _ _ _).1 | exact ((hT.obj _ _ _).kp _).1) (by rfl) ?_
  refine z_get O dX1_keep_17 flX1_49 (hT.obj _ _ _).2.1.1 (by rfl) ?_
  refine z_iconst O (nI 0) dX1_keep_20 (by decide) ?_
  refine z_aload_n O dX1_keep_21 rfl ?_
  refine z_get O dX1_keep_22 flX1_22 (by first | exact hk0 | exact (hT.obj _ _ _).1 | exact ((hT.obj _ _ _).kp _).1) (by rfl) ?_
  refine z_aload_n O dX1_keep_25 rfl ?_
  refine z_get O dX1_keep_26 flX1_46 (by first | exact hk0 | exact (hT.obj _ _ _).1 | exact ((hT.obj _ _ _).kp _).1) (by rfl) ?_
  refine z_bipush O (nI 118) dX1_keep_29 (by decide) ?_
  refine z_imulN O dX1_keep_31 ?_
  refine z_bipush O (nI 118) dX1_keep_32 (by decide) ?_
  refine z_copyN O (by simp) dX1_keep_34 lkX1_40 (hT.obj _ _ _).2.1.2.2.1 (hT.obj _ _ _).2.2.2 (by decide) (by omega) (by decide) (Nat.le_of_ble_eq_true rfl) (by decide) ?_
  refine z_M (show _ = (M.set k _).set jk (zIN G 944 (keptN r kept nw)) from rfl) ?_
  refine z_aload_n O dX1_keep_37 rfl ?_
  refine z_aload_n O dX1_keep_38 rfl ?_
  refine z_get O dX1_keep_39 flX1_33 (by first | exact hk0 | exact (hT.obj _ _ _).1 | exact ((hT.obj _ _ _).kp _).1) (by rfl) ?_
  refine z_iconst O (nI 1) dX1_keep_42 (by decide) ?_
  refine z_iaddN O dX1_keep_43 ?_
  refine z_bipush O (nI 8) dX1_keep_44 (by decide) ?_
  refine z_S2e0 O (s_minN (by omega) (by decide)) mJ9_min_7cf53 lkX1_52 dX1_keep_46 (Nat.le_of_ble_eq_true rfl) (by decide) ?_
  refine z_put O (by simp) dX1_keep_49 flX1_33 (by first | exact hk0 | exact (hT.obj _ _ _).1 | exact ((hT.obj _ _ _).kp _).1) rfl rfl (by simp) ?_
  refine z_M (zren2 (Ne.symm (zIN_obj hk2 hk0))) ?_
  exact z_vret O dX1_keep_52 ⟨rfl, rfl⟩
set_option maxRecDepth 20000 in
set_option maxHeartbeats 4000000 in
theorem t_bringBack (hT : zState G M k ks i1 i2 i3 js jk we r cl seen kept rd nw ud) (hnw : nw < 8) (hud : ud ≤ 8) (h0 : 0 < ud) : zS G 1 yX1_bringBack cX1_bringBack 1 none [.ref (zad (zb G) k)] M 0 0 (zU ((M.set i2 (zIN G 118 (backN r kept nw))).set k (.inr (1, [.ref (zad (zb G) ks), .ref (zad (zb G) js), .int (nI (rd)), .ref (zad (zb G) jk), .int (nI ((nw + 7) % 8)), .int (nI (ud - 1))])))) := by
  refine zS.of (by decide) (Nat.le_of_ble_eq_true rfl) (fun F O hR1 hR2 => ?_)
  have O : zOk G F yX1_bringBack cX1_bringBack 1 none RX1 1 M.length := O
  refine z_eq (lv' := [(0, _)]) rfl rfl rfl ?_
  obtain ⟨hk0, hS, hk1, hk2⟩ := id hT
  obtain ⟨hs0, hs1, hs2, hs3⟩ := id hS
  refine z_aload_n O dX1_bringBack_0 rfl ?_
  refine z_get O dX1_bringBack_1 flX1_33 (by first | exact hk0 | exact (hT.row _).1 | exact ((hT.row _).obj _ _ _).1) (by rfl) ?_
  refine z_if_gtN O 8 dX1_bringBack_4 (by decide) (by omega) (fun h4 => ?_) (fun h4 => by omega)
  refine z_aload_n O dX1_bringBack_8 rfl ?_
  refine z_get O dX1_bringBack_9 flX1_22 (by first | exact hk0 | exact (hT.row _).1 | exact ((hT.row _).obj _ _ _).1) (by rfl) ?_
  refine z_aload_n O dX1_bringBack_12 rfl ?_
  refine z_get O dX1_bringBack_13 flX1_46 (by first | exact hk0 | exact (hT.row _).1 | exact ((hT.row _).obj _ _ _).1) (by rfl) ?_
  refine z_bipush O (nI 118) dX1_bringBack_16 (by decide) ?_
  refine z_imulN O dX1_bringBack_18 ?_
  refine z_aload_n O dX1_bringBack_19 rfl ?_
  refine z_get O dX1_bringBack_20 flX1_12 (by first | exact hk0 | exact (hT.row _).1 | exact ((hT.row _).obj _ _ _).1) (by rfl) ?_
  refine z_get O dX1_bringBack_23 flX1_49 hs0 (by rfl) ?_
  refine z_iconst O (nI 0) dX1_bringBack_26 (by decide) ?_
  refine z_bipush O (nI 118) dX1_bringBack_27 (by decide) ?_
  refine z_copyN O (by simp) dX1_bringBack_29 lkX1_40 hk2 hs2 (by omega) (by decide) (by decide) (Nat.le_of_ble_eq_true rfl) (by decide) ?_
  refine z_aload_n O dX1_bringBack_32 rfl ?_
  refine z_aload_n O dX1_bringBack_33 rfl ?_
  refine z_get O dX1_bringBack_34 flX1_46 (by first | exact hk0 | exact (hT.row _).1 | exact ((hT.row _).obj _ _ _).1) (by rfl) ?_
  refine z_bipush O (nI 8) dX1_bringBack_37 (by decide) ?_
  refine z_iaddN O dX1_bringBack_39 ?_
  refine z_iconst O (nI 1) dX1_bringBack_40 (by decide) ?_
  refine z_isubN O dX1_bringBack_41 (by omega) ?_
  refine z_bipush O (nI 8) dX1_bringBack_42 (by decide) ?_
  refine z_iremN O dX1_bringBack_44 (by omega) (by omega) (by omega) ?_
  refine z_put O (by simp) dX1_bringBack_45 flX1_46 (by first | exact hk0 | exact (hT.row _).1 | exact ((hT.row _).obj _ _ _).1) rfl rfl (by simp) ?_
  refine z_aload_n O dX1_bringBack_48 rfl ?_
  refine z_dup O dX1_bringBack_49 rfl ?_
  refine z_get O dX1_bringBack_50 flX1_33 (by first | exact hk0 | exact (hT.row _).1 | exact ((hT.row _).obj _ _ _).1) (by rfl) ?_
  refine z_iconst O (nI 1) dX1_bringBack_53 (by decide) ?_
  refine z_isubN O dX1_bringBack_54 (by omega) ?_
  refine z_put O (by simp) dX1_bringBack_55 flX1_33 (by first | exact hk0 | exact (hT.row _).1 | exact ((hT.row _).obj _ _ _).1) rfl rfl (by simp) ?_
  refine z_M zss ?_
  exact z_vret O dX1_bringBack_58 ⟨rfl, by rw [show nw + 8 - 1 = nw + 7 by omega]; rfl⟩
set_option maxRecDepth 20000 in
set_option maxHeartbeats 4000000 in
theorem t_addReading (hT : zState G M k ks i1 i2 i3 js jk we r cl seen kept rd nw ud) (hrd : rd < 6) {c m v : Nat} : zS G 1 yX1_addReading cX1_addReading 4 (some .int) [.ref (zad (zb G) k), .int (nI c), .int (nI m), .int (nI v)] M 0 0 (zE (.int (nI (rd + 1))) ((M.set js (zIN G 18 (seenN seen rd c m v))).set k (.inr (1, [.ref (zad (zb G) ks), .ref (zad (zb G) js), .int (nI (rd + 1)), .ref (zad (zb G) jk), .int (nI (nw)), .int (nI (ud))])))) := by
  refine zS.of (by decide) (Nat.le_of_ble_eq_true rfl) (fun F O hR1 hR2 => ?_)
  have O : zOk G F yX1_addReading cX1_addReading 4 (some .int) RX1 1 M.length := O
  refine z_eq (lv' := [(0, _), (1, _), (2, _), (3, _)]) rfl rfl rfl ?_
  obtain ⟨hk0, hS, hk1, hk2⟩ := id hT
  obtain ⟨hs0, hs1, hs2, hs3⟩ := id hS
  refine z_aload_n O dX1_addReading_0 rfl ?_
  refine z_get O dX1_addReading_1 flX1_29 (by first | exact hk0 | exact (hT.sn _).1 | exact ((hT.sn _).obj _ _ _).1) (by rfl) ?_
  refine z_bipush O (nI 6) dX1_addReading_4 (by decide) ?_
  refine z_icmp_ltN O 14 dX1_addReading_6 (by decide) (by omega) (by omega) (fun h6 => ?_) (fun h6 => by omega)
  refine z_aload_n O dX1_addReading_14 rfl ?_
  refine z_get O dX1_addReading_15 flX1_18 (by first | exact hk0 | exact (hT.sn _).1 | exact ((hT.sn _).obj _ _ _).1) (by rfl) ?_
  refine z_iconst O (nI 3) dX1_addReading_18 (by decide) ?_
  refine z_aload_n O dX1_addReading_19 rfl ?_
  refine z_get O dX1_addReading_20 flX1_29 (by first | exact hk0 | exact (hT.sn _).1 | exact ((hT.sn _).obj _ _ _).1) (by rfl) ?_
  refine z_imulN O dX1_addReading_23 ?_
  refine z_iload_n O dX1_addReading_24 rfl ?_
  refine z_iastN O (by simp) dX1_addReading_25 (by first | exact hk1 | exact (hT.sn _).2.2.1) (by omega) (by decide) ?_
  refine z_aload_n O dX1_addReading_26 rfl ?_
  refine z_get O dX1_addReading_27 flX1_18 (by first | exact hk0 | exact (hT.sn _).1 | exact ((hT.sn _).obj _ _ _).1) (by rfl) ?_
  refine z_iconst O (nI 3) dX1_addReading_30 (by decide) ?_
  refine z_aload_n O dX1_addReading_31 rfl ?_
  refine z_get O dX1_addReading_32 flX1_29 (by first | exact hk0 | exact (hT.sn _).1 | exact ((hT.sn _).obj _ _ _).1) (by rfl) ?_
  refine z_imulN O dX1_addReading_35 ?_
  refine z_iconst O (nI 1) dX1_addReading_36 (by decide) ?_
  refine z_iaddN O dX1_addReading_37 ?_
  refine z_iload_n O dX1_addReading_38 rfl ?_
  refine z_iastN O (by simp) dX1_addReading_39 (by first | exact hk1 | exact (hT.sn _).2.2.1) (by omega) (by decide) ?_
  refine z_M zss ?_
  refine z_aload_n O dX1_addReading_40 rfl ?_
  refine z_get O dX1_addReading_41 flX1_18 (by first | exact hk0 | exact (hT.sn _).1 | exact ((hT.sn _).obj _ _ _).1) (by rfl) ?_
  refine z_iconst O (nI 3) dX1_addReading_44 (by decide) ?_
  refine z_aload_n O dX1_addReading_45 rfl ?_
  refine z_get O dX1_addReading_46 flX1_29 (by first | exact hk0 | exact (hT.sn _).1 | exact ((hT.sn _).obj _ _ _).1) (by rfl) ?_
  refine z_imulN O dX1_addReading_49 ?_
  refine z_iconst O (nI 2) dX1_addReading_50 (by decide) ?_
  refine z_iaddN O dX1_addReading_51 ?_
  refine z_iload_n O dX1_addReading_52 rfl ?_
  refine z_iastN O (by simp) dX1_addReading_53 (by first | exact hk1 | exact (hT.sn _).2.2.1) (by omega) (by decide) ?_
  refine z_M zss ?_
  refine z_aload_n O dX1_addReading_54 rfl ?_
  refine z_dup O dX1_addReading_55 rfl ?_
  refine z_get O dX1_addReading_56 flX1_29 (by first | exact hk0 | exact (hT.sn _).1 | exact ((hT.sn _).obj _ _ _).1) (by rfl) ?_
  refine z_iconst O (nI 1) dX1_addReading_59 (by decide) ?_
  refine z_iaddN O dX1_addReading_60 ?_
  refine z_put O (by simp) dX1_addReading_61 flX1_29 (by first | exact hk0 | exact (hT.sn _).1 | exact ((hT.sn _).obj _ _ _).1) rfl rfl (by simp) ?_
  refine z_aload_n O dX1_addReading_64 rfl ?_
  refine z_get O dX1_addReading_65 flX1_29 (by first | exact hk0 | exact (hT.sn _).1 | exact ((hT.sn _).obj _ _ _).1) (by rfl) ?_
  exact z_iret O dX1_addReading_68 ⟨rfl, rfl⟩
set_option maxRecDepth 20000 in
set_option maxHeartbeats 4000000 in
theorem t_agrees (hT : zState G M k ks i1 i2 i3 js jk we r cl seen kept rd nw ud) (hr : rowOK r) (hw : weOK we) (hsn : ∀ j, seen j < 1048576) (hrd : rd ≤ 6) {c kd : Nat} (hc : c < 9) (hkd : kd < 6) (h0 : 0 < r (108 + c)) : zS G 4 yX1_agrees cX1_agrees 4 (some .boolean) [.ref (zad (zb G) k), .int (nI c), .int (nI kd)] M 0 0 (zE (.int (bI (agrB r we seen c kd rd = true))) M) := by
  refine zS.of (by decide) (Nat.le_of_ble_eq_true rfl) (fun F O hR1 hR2 => ?_)
  have O : zOk G F yX1_agrees cX1_agrees 4 (some .boolean) RX1 4 M.length := O
  refine z_eq (lv' := [(0, _), (1, _), (2, _)]) rfl rfl rfl ?_
  obtain ⟨hk0, hS, hk1, hk2⟩ := id hT
  obtain ⟨hs0, hs1, hs2, hs3⟩ := id hS
  refine z_iconst O (nI 0) dX1_agrees_0 (by decide) ?_
  refine z_istore_n (lv' := [(0, _), (1, _), (2, _), (3, _)]) O dX1_agrees_1 (by decide) rfl ?_
  refine zdown (P := fun i => agrB r we seen c kd i = true → Z G F 0 0 (zEnd G F (zE (.int (bI (agrB r we seen c kd rd = true))) M) 0 0) 2 [(0, .ref (zad (zb G) k)), (1, .int (nI c)), (2, .int (nI kd)), (3, .int (nI i))] [] M) (rd) ?_ ?_ rfl
  · intro hp
    refine z_iload_n O dX1_agrees_2 rfl ?_
    refine z_aload_n O dX1_agrees_3 rfl ?_
    refine z_get O dX1_agrees_4 flX1_29 hk0 (by rfl) ?_
    refine z_icmp_geN O 65 dX1_agrees_7 (by decide) (by omega) (by omega) (fun h7 => ?_) (fun h7 => by omega)
    refine z_iconst O (nI 1) dX1_agrees_65 (by decide) ?_
    exact z_zret O dX1_agrees_66 rfl ⟨by rw [bI_t hp]; rfl, rfl⟩
  · intro i hi ih hp
    refine z_iload_n O dX1_agrees_2 rfl ?_
    refine z_aload_n O dX1_agrees_3 rfl ?_
    refine z_get O dX1_agrees_4 flX1_29 hk0 (by rfl) ?_
    refine z_icmp_geN O 65 dX1_agrees_7 (by decide) (by omega) (by omega) (fun h7 => by omega) (fun h7 => ?_)
    refine z_aload_n O dX1_agrees_10 rfl ?_
    refine z_get O dX1_agrees_11 flX1_18 hk0 (by rfl) ?_
    refine z_iconst O (nI 3) dX1_agrees_14 (by decide) ?_
    refine z_iload_n O dX1_agrees_15 rfl ?_
    refine z_imulN O dX1_agrees_16 ?_
    refine z_ialdN O dX1_agrees_17 hk1 (by omega) (by decide) ?_
    refine z_iload_n O dX1_agrees_18 rfl ?_
    refine z_icmp_eqN O 25 dX1_agrees_19 (by decide) (by have := hsn (3 * i); omega) (by have := hsn (3 * i); omega) (fun h19 => ?_) (fun h19 => ?_)
    · refine z_aload_n O dX1_agrees_25 rfl ?_
      refine z_get O dX1_agrees_26 flX1_12 hk0 (by rfl) ?_
      refine z_iload_n O dX1_agrees_29 rfl ?_
      refine z_iload_n O dX1_agrees_30 rfl ?_
      refine z_aload_n O dX1_agrees_31 rfl ?_
      refine z_get O dX1_agrees_32 flX1_18 hk0 (by rfl) ?_
      refine z_iconst O (nI 3) dX1_agrees_35 (by decide) ?_
      refine z_iload_n O dX1_agrees_36 rfl ?_
      refine z_imulN O dX1_agrees_37 ?_
      refine z_iconst O (nI 1) dX1_agrees_38 (by decide) ?_
      refine z_iaddN O dX1_agrees_39 ?_
      refine z_ialdN O dX1_agrees_40 hk1 (by omega) (by decide) ?_
      refine z_V3e0 O (s_leftOf hS hr hw hc h0 (by omega) (hsn _)) mX0_leftOf lkX1_66 rfl hs0 dX1_agrees_41 (Nat.le_of_ble_eq_true rfl) (by decide) ?_
      refine z_aload_n O dX1_agrees_44 rfl ?_
      refine z_get O dX1_agrees_45 flX1_18 hk0 (by rfl) ?_
      refine z_iconst O (nI 3) dX1_agrees_48 (by decide) ?_
      refine z_iload_n O dX1_agrees_49 rfl ?_
      refine z_imulN O dX1_agrees_50 ?_
      refine z_iconst O (nI 2) dX1_agrees_51 (by decide) ?_
      refine z_iaddN O dX1_agrees_52 ?_
      refine z_ialdN O dX1_agrees_53 hk1 (by omega) (by decide) ?_
      refine z_icmp_eqN O 59 dX1_agrees_54 (by decide) (by first | (have := hsn (3 * i + 2); omega) | (have := lftC_le r we c kd (seen (3 * i + 1)); have hb : fld r c (r (108 + c) - 1) 2 < 1048576 := hr.1 _; omega)) (by first | (have := hsn (3 * i + 2); omega) | (have := lftC_le r we c kd (seen (3 * i + 1)); have hb : fld r c (r (108 + c) - 1) 2 < 1048576 := hr.1 _; omega)) (fun h54 => ?_) (fun h54 => ?_)
      · refine z_iincN (lv' := [(0, _), (1, _), (2, _), (3, _)]) O 1 dX1_agrees_59 (by decide) rfl rfl (by decide) ?_
        refine z_goto O 2 dX1_agrees_62 (by decide) ?_
        by_cases hq : seen (3 * i) = c
        · first | exact absurd hq h19 | exact ih (by simp [agrB, hp, hq, h54])
        · exact ih (by simp [agrB, hp, hq])
      · refine z_iconst O (nI 0) dX1_agrees_57 (by decide) ?_
        exact z_zret O dX1_agrees_58 rfl (by have hf : agrB r we seen c kd (i + 1) = false := (by simp [agrB, hp, h19, h54]); have hg := agrB_f hf (rd - (i + 1)); rw [show i + 1 + (rd - (i + 1)) = rd by omega] at hg; exact ⟨by rw [bI_f (by rw [hg]; decide)]; rfl, rfl⟩)
    · refine z_goto O 59 dX1_agrees_22 (by decide) ?_
      refine z_iincN (lv' := [(0, _), (1, _), (2, _), (3, _)]) O 1 dX1_agrees_59 (by decide) rfl rfl (by decide) ?_
      refine z_goto O 2 dX1_agrees_62 (by decide) ?_
      by_cases hq : seen (3 * i) = c
      · first | exact absurd hq h19 | exact ih (by simp [agrB, hp, hq, h54])
      · exact ih (by simp [agrB, hp, hq])
set_option maxRecDepth 20000 in
set_option maxHeartbeats 4000000 in
theorem t_possibleKinds (hT : zState G M k ks i1 i2 i3 js jk we r cl seen kept rd nw ud) (hr : rowOK r) (hw : weOK we) (hsn : ∀ j, seen j < 1048576) (hrd : rd ≤ 6) {c : Nat} (hc : c < 9) : zS G 5 yX1_possibleKinds cX1_possibleKinds 4 (some .int) [.ref (zad (zb G) k), .int (nI c)] M 0 0 (zE (.int (nI (mayN r we seen rd c))) M) := by
  refine zS.of (by decide) (Nat.le_of_ble_eq_true rfl) (fun F O hR1 hR2 => ?_)
  have O : zOk G F yX1_possibleKinds cX1_possibleKinds 4 (some .int) RX1 5 M.length := O
  refine z_eq (lv' := [(0, _), (1, _)]) rfl rfl rfl ?_
  obtain ⟨hk0, hS, hk1, hk2⟩ := id hT
  obtain ⟨hs0, hs1, hs2, hs3⟩ := id hS
  refine z_aload_n O dX1_possibleKinds_0 rfl ?_
  refine z_get O dX1_possibleKinds_1 flX1_12 hk0 (by rfl) ?_
  refine z_iload_n O dX1_possibleKinds_4 rfl ?_
  refine z_V1e0 O (s_isHole hS hr hc) mX0_isHole lkX1_58 rfl hs0 dX1_possibleKinds_5 (Nat.le_of_ble_eq_true rfl) (by decide) ?_
  refine z_if_eqB O 13 dX1_possibleKinds_8 (by decide) (fun h8 => ?_) (fun h8 => ?_)
  · refine z_iconst O (nI 0) dX1_possibleKinds_13 (by decide) ?_
    refine z_istore_n (lv' := [(0, _), (1, _), (2, _)]) O dX1_possibleKinds_14 (by decide) rfl ?_
    refine z_iconst O (nI 0) dX1_possibleKinds_15 (by decide) ?_
    refine z_istore_n (lv' := [(0, _), (1, _), (2, _), (3, _)]) O dX1_possibleKinds_16 (by decide) rfl ?_
    refine zdown (P := fun j => Z G F 0 0 (zEnd G F (zE (.int (nI (mayN r we seen rd c))) M) 0 0) 17 [(0, .ref (zad (zb G) k)), (1, .int (nI c)), (2, .int (nI (bitsN (fun kd => agrB r we seen c kd rd) j))), (3, .int (nI j))] [] M) (6) ?_ ?_ 
    · refine z_iload_n O dX1_possibleKinds_17 rfl ?_
      refine z_bipush O (nI 6) dX1_possibleKinds_18 (by decide) ?_
      refine z_icmp_geN O 44 dX1_possibleKinds_20 (by decide) (by omega) (by omega) (fun h20 => ?_) (fun h20 => by omega)
      refine z_iload_n O dX1_possibleKinds_44 rfl ?_
      exact z_iret O dX1_possibleKinds_45 ⟨by rw [mayN, if_neg h8], rfl⟩
    · intro j hj ih 
      refine z_iload_n O dX1_possibleKinds_17 rfl ?_
      refine z_bipush O (nI 6) dX1_possibleKinds_18 (by decide) ?_
      refine z_icmp_geN O 44 dX1_possibleKinds_20 (by decide) (by omega) (by omega) (fun h20 => by omega) (fun h20 => ?_)
      refine z_aload_n O dX1_possibleKinds_23 rfl ?_
      refine z_iload_n O dX1_possibleKinds_24 rfl ?_
      refine z_iload_n O dX1_possibleKinds_25 rfl ?_
      refine z_V2e0 O (t_agrees hT hr hw hsn hrd hc hj (by omega)) mX1_agrees lkX1_62 rfl hk0 dX1_possibleKinds_26 (Nat.le_of_ble_eq_true rfl) (by decide) ?_
      refine z_if_eqB O 38 dX1_possibleKinds_29 (by decide) (fun h29 => ?_) (fun h29 => ?_)
      · refine z_iincN (lv' := [(0, _), (1, _), (2, _), (3, _)]) O 1 dX1_possibleKinds_38 (by decide) rfl rfl (by decide) ?_
        refine z_goto O 17 dX1_possibleKinds_41 (by decide) ?_
        first | (rw [show bitsN (fun kd => agrB r we seen c kd rd) (j + 1) = bitsN (fun kd => agrB r we seen c kd rd) j + 2 ^ j from if_pos h29] at ih; exact ih) | (rw [show bitsN (fun kd => agrB r we seen c kd rd) (j + 1) = bitsN (fun kd => agrB r we seen c kd rd) j from if_neg h29] at ih; exact ih)
      · refine z_iload_n O dX1_possibleKinds_32 rfl ?_
        refine z_iconst O (nI 1) dX1_possibleKinds_33 (by decide) ?_
        refine z_iload_n O dX1_possibleKinds_34 rfl ?_
        refine z_ishl O dX1_possibleKinds_35 ?_
        refine z_ior O dX1_possibleKinds_36 ?_
        refine z_top (v' := .int (nI (bitsN (fun kd => agrB r we seen c kd rd) j + 2 ^ j))) (congrArg Value.int (zb_or (bitsN_lt _ _) (by omega))) ?_
        refine z_istore_n (lv' := [(0, _), (1, _), (2, _), (3, _)]) O dX1_possibleKinds_37 (by decide) rfl ?_
        refine z_iincN (lv' := [(0, _), (1, _), (2, _), (3, _)]) O 1 dX1_possibleKinds_38 (by decide) rfl rfl (by decide) ?_
        refine z_goto O 17 dX1_possibleKinds_41 (by decide) ?_
        first | (rw [show bitsN (fun kd => agrB r we seen c kd rd) (j + 1) = bitsN (fun kd => agrB r we seen c kd rd) j + 2 ^ j from if_pos h29] at ih; exact ih) | (rw [show bitsN (fun kd => agrB r we seen c kd rd) (j + 1) = bitsN (fun kd => agrB r we seen c kd rd) j from if_neg h29] at ih; exact ih)
  · refine z_iconst O (nI 0) dX1_possibleKinds_11 (by decide) ?_
    exact z_iret O dX1_possibleKinds_12 ⟨by rw [mayN, if_pos h8], rfl⟩
set_option maxRecDepth 20000 in
set_option maxHeartbeats 4000000 in
theorem t_digestedReadings (hT : zState G M k ks i1 i2 i3 js jk we r cl seen kept rd nw ud) (hsn : ∀ j, seen j < 1048576) (hrd : rd ≤ 6) {h : Int64} : zS G 1 yX1_digestedReadings cX1_digestedReadings 4 (some .long) [.ref (zad (zb G) k), .long h] M 0 0 (zE (.long (dgR seen h (3 * rd))) M) := by
  refine zS.of (by decide) (Nat.le_of_ble_eq_true rfl) (fun F O hR1 hR2 => ?_)
  have O : zOk G F yX1_digestedReadings cX1_digestedReadings 4 (some .long) RX1 1 M.length := O
  refine z_eq (lv' := [(0, _), (1, _)]) rfl rfl rfl ?_
  obtain ⟨hk0, hS, hk1, hk2⟩ := id hT
  obtain ⟨hs0, hs1, hs2, hs3⟩ := id hS
  refine z_iconst O (nI 0) dX1_digestedReadings_0 (by decide) ?_
  refine z_istore_n (lv' := [(0, _), (1, _), (3, _)]) O dX1_digestedReadings_1 (by decide) rfl ?_
  refine zdown (P := fun i => Z G F 0 0 (zEnd G F (zE (.long (dgR seen h (3 * rd))) M) 0 0) 2 [(0, .ref (zad (zb G) k)), (1, .long (dgR seen h i)), (3, .int (nI i))] [] M) (3 * rd) ?_ ?_ 
  · refine z_iload_n O dX1_digestedReadings_2 rfl ?_
    refine z_iconst O (nI 3) dX1_digestedReadings_3 (by decide) ?_
    refine z_aload_n O dX1_digestedReadings_4 rfl ?_
    refine z_get O dX1_digestedReadings_5 flX1_29 hk0 (by rfl) ?_
    refine z_imulN O dX1_digestedReadings_8 ?_
    refine z_icmp_geN O 32 dX1_digestedReadings_9 (by decide) (by omega) (by omega) (fun h9 => ?_) (fun h9 => by omega)
    refine z_lload_n O dX1_digestedReadings_32 rfl ?_
    exact z_lret O dX1_digestedReadings_33 ⟨rfl, rfl⟩
  · intro i hi ih 
    refine z_iload_n O dX1_digestedReadings_2 rfl ?_
    refine z_iconst O (nI 3) dX1_digestedReadings_3 (by decide) ?_
    refine z_aload_n O dX1_digestedReadings_4 rfl ?_
    refine z_get O dX1_digestedReadings_5 flX1_29 hk0 (by rfl) ?_
    refine z_imulN O dX1_digestedReadings_8 ?_
    refine z_icmp_geN O 32 dX1_digestedReadings_9 (by decide) (by omega) (by omega) (fun h9 => by omega) (fun h9 => ?_)
    refine z_ldc2 O dX1_digestedReadings_12 klX1_70 ?_
    refine z_top (v' := .long (lN 31)) (by decide) ?_
    refine z_lload_n O dX1_digestedReadings_15 rfl ?_
    refine z_lmul O dX1_digestedReadings_16 ?_
    refine z_aload_n O dX1_digestedReadings_17 rfl ?_
    refine z_get O dX1_digestedReadings_18 flX1_18 hk0 (by rfl) ?_
    refine z_iload_n O dX1_digestedReadings_21 rfl ?_
    refine z_ialdN O dX1_digestedReadings_22 hk1 (by omega) (by decide) ?_
    refine z_i2lN O dX1_digestedReadings_23 (by have := hsn i; omega) ?_
    refine z_ladd O dX1_digestedReadings_24 ?_
    refine z_lstore_n (lv' := [(0, _), (1, _), (3, _)]) O dX1_digestedReadings_25 (by decide) rfl ?_
    refine z_iincN (lv' := [(0, _), (1, _), (3, _)]) O 1 dX1_digestedReadings_26 (by decide) rfl rfl (by decide) ?_
    refine z_goto O 2 dX1_digestedReadings_29 (by decide) ?_
    exact ih
end ST
