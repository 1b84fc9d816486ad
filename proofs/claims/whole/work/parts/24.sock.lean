/-! ===== Sock: weighing ===== -/
theorem zeroC_at {cl : Nat → Nat} {f g : Nat} (h : ∀ j, j < f → cl j = 0) (hg : g < f + 1) : updN cl f 0 g = 0 := by
  by_cases e : g = f
  · rw [e, updN_s]
  · rw [updN_n e]; exact h g (by omega)
theorem MetFree_post {l : Launch} {y : MethodName} {S : Spec} {P : Array Value → State → Prop} {K : Program → Env → List Frame → State → Array Value → Prop} {Q Q' : Array Value → State → Outcome → State → Prop} (h : MetFree l y S P K Q) (hQ : ∀ a s o t, Q a s o t → Q' a s o t) : MetFree l y S P K Q' := by
  intro p e ha hc hk s m args below hf hpre hP hK
  obtain ⟨t, o, h1, h2, h3, h4⟩ := h p e ha hc hk s m args below hf hpre hP hK
  exact ⟨t, o, h1, h2, h3, hQ _ _ _ _ h4⟩
theorem zS.post {G : zG} {d : Nat} {y : MethodName} {cc : ByteArray} {nL : Nat} {ret : Option FieldType} {av : List Value} {M : List va_E} {mc ms : Nat} {Q1 Q2 : Option Value → List va_E → Prop} (h : zS G d y cc nL ret av M mc ms Q1) (hQ : ∀ v M', Q1 v M' → Q2 v M') : zS G d y cc nL ret av M mc ms Q2 := by
  unfold zS Met at h ⊢
  refine MetFree_post h (fun a s o t q => ⟨⟨?_, q.1.2⟩, q.2⟩)
  obtain ⟨v, M', h1, h2, h3⟩ := q.1.1
  exact ⟨v, M', h1, hQ v M' h2, h3⟩
section SK
variable {G : zG} {M : List va_E} {k i1 i2 i3 : Nat} {we r cl : Nat → Nat}
set_option maxRecDepth 20000 in
set_option maxHeartbeats 4000000 in
theorem s_weighThread (hS : zSock G M k i1 i2 i3 we r cl) (hr : rowOK r) (hcl : ∀ f, f < 3 → cl f = 0) : zS G 3 yX0_weighThread cX0_weighThread 4 none [.ref (zad (zb G) k)] M 0 0 (zPU (fun M' => ∃ q : Nat → Nat, (∀ f, f < 3 → q f = v0 r f 9) ∧ M' = M.set i3 (zIN G 3 q))) := by
  refine zS.of (by decide) (Nat.le_of_ble_eq_true rfl) (fun F O hR1 hR2 => ?_)
  have O : zOk G F yX0_weighThread cX0_weighThread 4 none RX0 3 M.length := O
  refine z_eq (lv' := [(0, _)]) rfl rfl rfl ?_
  obtain ⟨hk0, hk1, hk2, hk3⟩ := id hS
  have hn20 := zIN_obj hk2 hk0
  have hn21 := zIN_inj hk2 hk1 (by decide)
  have hn23 := zIN_inj hk2 hk3 (by decide)
  have hn10 := zIN_obj hk1 hk0
  have hn12 := zIN_inj hk1 hk2 (by decide)
  have hn13 := zIN_inj hk1 hk3 (by decide)
  have hn30 := zIN_obj hk3 hk0
  have hn31 := zIN_inj hk3 hk1 (by decide)
  have hn32 := zIN_inj hk3 hk2 (by decide)
  refine z_iconst O (nI 0) dX0_weighThread_0 (by decide) ?_
  refine z_istore_n (lv' := [(0, _), (1, _)]) O dX0_weighThread_1 (by decide) rfl ?_
  refine z_M (zIN_self hk3).symm ?_
  refine zdown (P := fun c => ∀ q : Nat → Nat, (∀ f, f < 3 → q f = v0 r f c) → Z G F 0 0 (zEnd G F (zPU (fun M' => ∃ q : Nat → Nat, (∀ f, f < 3 → q f = v0 r f 9) ∧ M' = M.set i3 (zIN G 3 q))) 0 0) 2 [(0, .ref (zad (zb G) k)), (1, .int (nI c))] [] (M.set i3 (zIN G 3 q))) (9) ?_ ?_ cl hcl
  · intro q hq
    refine z_iload_n O dX0_weighThread_2 rfl ?_
    refine z_bipush O (nI 9) dX0_weighThread_3 (by decide) ?_
    refine z_icmp_geN O 53 dX0_weighThread_5 (by decide) (by omega) (by omega) (fun h5 => ?_) (fun h5 => by omega)
    exact z_vret O dX0_weighThread_53 ⟨rfl, q, hq, rfl⟩
  · intro c hc ih q hq
    refine z_iload_n O dX0_weighThread_2 rfl ?_
    refine z_bipush O (nI 9) dX0_weighThread_3 (by decide) ?_
    refine z_icmp_geN O 53 dX0_weighThread_5 (by decide) (by omega) (by omega) (fun h5 => by omega) (fun h5 => ?_)
    refine z_iconst O (nI 0) dX0_weighThread_8 (by decide) ?_
    refine z_istore_n (lv' := [(0, _), (1, _), (2, _)]) O dX0_weighThread_9 (by decide) rfl ?_
    refine z_iconst O (nI 0) dX0_weighThread_10 (by decide) ?_
    refine z_istore_n (lv' := [(0, _), (1, _), (2, _), (3, _)]) O dX0_weighThread_11 (by decide) rfl ?_
    refine zdown (P := fun p => ∀ q' : Nat → Nat, (∀ f, f < 3 → q' f = v0 r f c + v0I r f c p) → Z G F 0 0 (zEnd G F (zPU (fun M' => ∃ q : Nat → Nat, (∀ f, f < 3 → q f = v0 r f 9) ∧ M' = M.set i3 (zIN G 3 q))) 0 0) 12 [(0, .ref (zad (zb G) k)), (1, .int (nI c)), (2, .int (nI (cntC r c p))), (3, .int (nI p))] [] (M.set i3 (zIN G 3 q'))) (r (108 + c)) ?_ ?_ q (fun f hf => by rw [hq f hf]; rfl)
    · intro q' hq'
      refine z_iload_n O dX0_weighThread_12 rfl ?_
      refine z_aload_n O dX0_weighThread_13 rfl ?_
      refine z_iload_n O dX0_weighThread_14 rfl ?_
      refine z_V1e0 O (s_many (hS.clm _) hc) mX0_many lkX0_35 rfl (by first | assumption | exact zgs (by assumption) | exact zgn (by assumption) (by assumption)) dX0_weighThread_15 (Nat.le_of_ble_eq_true rfl) (by decide) ?_
      refine z_icmp_geN O 47 dX0_weighThread_18 (by decide) (by have := hr.2 c hc; omega) (by have := hr.2 c hc; omega) (fun h18 => ?_) (fun h18 => by omega)
      refine z_iincN (lv' := [(0, _), (1, _), (2, _), (3, _)]) O 1 dX0_weighThread_47 (by decide) rfl rfl (by decide) ?_
      refine z_goto O 2 dX0_weighThread_50 (by decide) ?_
      refine z_kp (lv' := [(0, _), (1, _)]) [0, 1] rfl ?_
      exact ih _ hq'
    · intro p hp ih q' hq'
      refine z_iload_n O dX0_weighThread_12 rfl ?_
      refine z_aload_n O dX0_weighThread_13 rfl ?_
      refine z_iload_n O dX0_weighThread_14 rfl ?_
      refine z_V1e0 O (s_many (hS.clm _) hc) mX0_many lkX0_35 rfl (by first | assumption | exact zgs (by assumption) | exact zgn (by assumption) (by assumption)) dX0_weighThread_15 (Nat.le_of_ble_eq_true rfl) (by decide) ?_
      refine z_icmp_geN O 47 dX0_weighThread_18 (by decide) (by have := hr.2 c hc; omega) (by have := hr.2 c hc; omega) (fun h18 => by omega) (fun h18 => ?_)
      refine z_aload_n O dX0_weighThread_21 rfl ?_
      refine z_iload_n O dX0_weighThread_22 rfl ?_
      refine z_iload_n O dX0_weighThread_23 rfl ?_
      refine z_iload_n O dX0_weighThread_24 rfl ?_
      refine z_V3e0 O (s_countsOver (hS.clm _) hr (cntC_lt hr c p) hc (by have := hr.2 c hc; omega)) mX0_countsOver lkX0_68 rfl (by first | assumption | exact zgs (by assumption) | exact zgn (by assumption) (by assumption)) dX0_weighThread_25 (Nat.le_of_ble_eq_true rfl) (by decide) ?_
      refine z_istore_n (lv' := [(0, _), (1, _), (2, _), (3, _)]) O dX0_weighThread_28 (by decide) rfl ?_
      refine z_aload_n O dX0_weighThread_29 rfl ?_
      refine z_aload_n O dX0_weighThread_30 rfl ?_
      refine z_iload_n O dX0_weighThread_31 rfl ?_
      refine z_iload_n O dX0_weighThread_32 rfl ?_
      refine z_iconst O (nI 1) dX0_weighThread_33 (by decide) ?_
      refine z_V3e0 O (s_get (hS.clm _) hc (by have := hr.2 c hc; omega) (by decide)) mX0_get lkX0_31 rfl (by first | assumption | exact zgs (by assumption) | exact zgn (by assumption) (by assumption)) dX0_weighThread_34 (Nat.le_of_ble_eq_true rfl) (by decide) ?_
      refine z_iload_n O dX0_weighThread_37 rfl ?_
      refine z_V2u0 O (s_addClaim (hS.clm _) (by have hb : fld r c p 1 < 1048576 := hr.1 _; omega)) mX0_addClaim lkX0_77 rfl (by first | assumption | exact zgs (by assumption) | exact zgn (by assumption) (by assumption)) dX0_weighThread_38 (Nat.le_of_ble_eq_true rfl) (by decide) ?_
      refine z_M zss ?_
      refine z_iincN (lv' := [(0, _), (1, _), (2, _), (3, _)]) O 1 dX0_weighThread_41 (by decide) rfl rfl (by decide) ?_
      refine z_goto O 12 dX0_weighThread_44 (by decide) ?_
      exact ih _ (fun f hf => by rw [addC_at hf, hq' f hf]; show v0 r f c + v0I r f c p + _ = v0 r f c + (v0I r f c p + _); rw [Nat.add_assoc]; rfl)
set_option maxRecDepth 20000 in
set_option maxHeartbeats 4000000 in
theorem s_weighAges (hS : zSock G M k i1 i2 i3 we r cl) (hr : rowOK r) (hs : sinceOK r) (hcl : ∀ f, f < 3 → cl f = 0) : zS G 2 yX0_weighAges cX0_weighAges 5 none [.ref (zad (zb G) k)] M 0 0 (zPU (fun M' => ∃ q : Nat → Nat, (∀ f, f < 3 → q f = v3 r f 9) ∧ M' = M.set i3 (zIN G 3 q))) := by
  refine zS.of (by decide) (Nat.le_of_ble_eq_true rfl) (fun F O hR1 hR2 => ?_)
  have O : zOk G F yX0_weighAges cX0_weighAges 5 none RX0 2 M.length := O
  refine z_eq (lv' := [(0, _)]) rfl rfl rfl ?_
  obtain ⟨hk0, hk1, hk2, hk3⟩ := id hS
  have hn20 := zIN_obj hk2 hk0
  have hn21 := zIN_inj hk2 hk1 (by decide)
  have hn23 := zIN_inj hk2 hk3 (by decide)
  have hn10 := zIN_obj hk1 hk0
  have hn12 := zIN_inj hk1 hk2 (by decide)
  have hn13 := zIN_inj hk1 hk3 (by decide)
  have hn30 := zIN_obj hk3 hk0
  have hn31 := zIN_inj hk3 hk1 (by decide)
  have hn32 := zIN_inj hk3 hk2 (by decide)
  refine z_iconst O (nI 0) dX0_weighAges_0 (by decide) ?_
  refine z_istore_n (lv' := [(0, _), (1, _)]) O dX0_weighAges_1 (by decide) rfl ?_
  refine z_M (zIN_self hk3).symm ?_
  refine zdown (P := fun c => ∀ q : Nat → Nat, (∀ f, f < 3 → q f = v3 r f c) → Z G F 0 0 (zEnd G F (zPU (fun M' => ∃ q : Nat → Nat, (∀ f, f < 3 → q f = v3 r f 9) ∧ M' = M.set i3 (zIN G 3 q))) 0 0) 2 [(0, .ref (zad (zb G) k)), (1, .int (nI c))] [] (M.set i3 (zIN G 3 q))) (9) ?_ ?_ cl hcl
  · intro q hq
    refine z_iload_n O dX0_weighAges_2 rfl ?_
    refine z_bipush O (nI 9) dX0_weighAges_3 (by decide) ?_
    refine z_icmp_geN O 83 dX0_weighAges_5 (by decide) (by omega) (by omega) (fun h5 => ?_) (fun h5 => by omega)
    exact z_vret O dX0_weighAges_83 ⟨rfl, q, hq, rfl⟩
  · intro c hc ih q hq
    refine z_iload_n O dX0_weighAges_2 rfl ?_
    refine z_bipush O (nI 9) dX0_weighAges_3 (by decide) ?_
    refine z_icmp_geN O 83 dX0_weighAges_5 (by decide) (by omega) (by omega) (fun h5 => by omega) (fun h5 => ?_)
    refine z_iconst O (nI 0) dX0_weighAges_8 (by decide) ?_
    refine z_istore_n (lv' := [(0, _), (1, _), (2, _)]) O dX0_weighAges_9 (by decide) rfl ?_
    refine zdown (P := fun p => ∀ q' : Nat → Nat, (∀ f, f < 3 → q' f = v3I r f c (v3 r f c) p) → Z G F 0 0 (zEnd G F (zPU (fun M' => ∃ q : Nat → Nat, (∀ f, f < 3 → q f = v3 r f 9) ∧ M' = M.set i3 (zIN G 3 q))) 0 0) 10 [(0, .ref (zad (zb G) k)), (1, .int (nI c)), (2, .int (nI p))] [] (M.set i3 (zIN G 3 q'))) (r (108 + c)) ?_ ?_ q hq
    · intro q' hq'
      refine z_iload_n O dX0_weighAges_10 rfl ?_
      refine z_aload_n O dX0_weighAges_11 rfl ?_
      refine z_iload_n O dX0_weighAges_12 rfl ?_
      refine z_V1e0 O (s_many (hS.clm _) hc) mX0_many lkX0_35 rfl (by first | assumption | exact zgs (by assumption) | exact zgn (by assumption) (by assumption)) dX0_weighAges_13 (Nat.le_of_ble_eq_true rfl) (by decide) ?_
      refine z_icmp_geN O 77 dX0_weighAges_16 (by decide) (by have := hr.2 c hc; omega) (by have := hr.2 c hc; omega) (fun h16 => ?_) (fun h16 => by omega)
      refine z_iincN (lv' := [(0, _), (1, _), (2, _)]) O 1 dX0_weighAges_77 (by decide) rfl rfl (by decide) ?_
      refine z_goto O 2 dX0_weighAges_80 (by decide) ?_
      refine z_kp (lv' := [(0, _), (1, _)]) [0, 1] rfl ?_
      exact ih _ hq'
    · intro p hp ih q' hq'
      refine z_iload_n O dX0_weighAges_10 rfl ?_
      refine z_aload_n O dX0_weighAges_11 rfl ?_
      refine z_iload_n O dX0_weighAges_12 rfl ?_
      refine z_V1e0 O (s_many (hS.clm _) hc) mX0_many lkX0_35 rfl (by first | assumption | exact zgs (by assumption) | exact zgn (by assumption) (by assumption)) dX0_weighAges_13 (Nat.le_of_ble_eq_true rfl) (by decide) ?_
      refine z_icmp_geN O 77 dX0_weighAges_16 (by decide) (by have := hr.2 c hc; omega) (by have := hr.2 c hc; omega) (fun h16 => by omega) (fun h16 => ?_)
      refine z_aload_n O dX0_weighAges_19 rfl ?_
      refine z_iload_n O dX0_weighAges_20 rfl ?_
      refine z_iload_n O dX0_weighAges_21 rfl ?_
      refine z_iconst O (nI 1) dX0_weighAges_22 (by decide) ?_
      refine z_V3e0 O (s_get (hS.clm _) hc (by have := hr.2 c hc; omega) (by decide)) mX0_get lkX0_31 rfl (by first | assumption | exact zgs (by assumption) | exact zgn (by assumption) (by assumption)) dX0_weighAges_23 (Nat.le_of_ble_eq_true rfl) (by decide) ?_
      refine z_istore_n (lv' := [(0, _), (1, _), (2, _), (3, _)]) O dX0_weighAges_26 (by decide) rfl ?_
      refine z_aload_n O dX0_weighAges_27 rfl ?_
      refine z_get O dX0_weighAges_28 flX0_15 (by first | assumption | exact zgs (by assumption) | exact zgn (by assumption) (by assumption)) (by rfl) ?_
      refine z_bipush O (nI 117) dX0_weighAges_31 (by decide) ?_
      refine z_ialdN O dX0_weighAges_33 (by first | assumption | exact zgs (by assumption) | exact zgn (by assumption) (by assumption)) (by omega) (by decide) ?_
      refine z_aload_n O dX0_weighAges_34 rfl ?_
      refine z_iload_n O dX0_weighAges_35 rfl ?_
      refine z_iload_n O dX0_weighAges_36 rfl ?_
      refine z_iconst O (nI 3) dX0_weighAges_37 (by decide) ?_
      refine z_V3e0 O (s_get (hS.clm _) hc (by have := hr.2 c hc; omega) (by decide)) mX0_get lkX0_31 rfl (by first | assumption | exact zgs (by assumption) | exact zgn (by assumption) (by assumption)) dX0_weighAges_38 (Nat.le_of_ble_eq_true rfl) (by decide) ?_
      refine z_isubN O dX0_weighAges_41 (hs c p hc hp) ?_
      refine z_iconst O (nI 1) dX0_weighAges_42 (by decide) ?_
      refine z_iaddN O dX0_weighAges_43 ?_
      refine z_istore (lv' := [(0, _), (1, _), (2, _), (3, _), (4, _)]) O dX0_weighAges_44 (by decide) rfl ?_
      refine z_iload_n O dX0_weighAges_46 rfl ?_
      refine z_iconst O (nI 3) dX0_weighAges_47 (by decide) ?_
      refine z_SN2e0 O (s_withinN (by have hb : fld r c p 1 < 1048576 := hr.1 _; omega) (by decide)) mX3_within nlX0_27 dX0_weighAges_48 (Nat.le_of_ble_eq_true rfl) (by decide) ?_
      refine z_if_eqB O 71 dX0_weighAges_51 (by decide) (fun h51 => ?_) (fun h51 => ?_)
      · refine z_iincN (lv' := [(0, _), (1, _), (2, _), (3, _), (4, _)]) O 1 dX0_weighAges_71 (by decide) rfl rfl (by decide) ?_
        refine z_goto O 10 dX0_weighAges_74 (by decide) ?_
        refine z_kp (lv' := [(0, _), (1, _), (2, _)]) [0, 1, 2] rfl ?_
        first
        | (refine ih _ (fun f hf => ?_)
           by_cases e : fld r c p 1 = f
           · subst e
             rw [updN_s, hq' _ hf]
             exact (if_pos rfl).symm
           · rw [updN_n (Ne.symm e), hq' f hf]
             exact (if_neg e).symm)
        | (refine ih _ (fun f hf => ?_)
           rw [hq' f hf]
           exact (if_neg (fun e => absurd (e ▸ hf) h51)).symm)
      · refine z_aload_n O dX0_weighAges_54 rfl ?_
        refine z_get O dX0_weighAges_55 flX0_18 (by first | assumption | exact zgs (by assumption) | exact zgn (by assumption) (by assumption)) (by rfl) ?_
        refine z_iload_n O dX0_weighAges_58 rfl ?_
        refine z_aload_n O dX0_weighAges_59 rfl ?_
        refine z_get O dX0_weighAges_60 flX0_18 (by first | assumption | exact zgs (by assumption) | exact zgn (by assumption) (by assumption)) (by rfl) ?_
        refine z_iload_n O dX0_weighAges_63 rfl ?_
        refine z_ialdN O dX0_weighAges_64 (by first | assumption | exact zgs (by assumption) | exact zgn (by assumption) (by assumption)) (by omega) (by decide) ?_
        refine z_iload O dX0_weighAges_65 rfl ?_
        refine z_S2e0 O (s_maxN (by rw [hq' _ h51]; have := v3I_lt hr (fld r c p 1) c _ (v3_lt hr (fld r c p 1) c) p; omega) (by have := hr.1 117; omega)) mJ9_max_7cf53 lkX0_87 dX0_weighAges_67 (Nat.le_of_ble_eq_true rfl) (by decide) ?_
        refine z_iastN O (by first | rfl | simp | (simp; omega)) dX0_weighAges_70 (by first | assumption | exact zgs (by assumption) | exact zgn (by assumption) (by assumption)) (by omega) (by decide) ?_
        refine z_M zss ?_
        refine z_iincN (lv' := [(0, _), (1, _), (2, _), (3, _), (4, _)]) O 1 dX0_weighAges_71 (by decide) rfl rfl (by decide) ?_
        refine z_goto O 10 dX0_weighAges_74 (by decide) ?_
        refine z_kp (lv' := [(0, _), (1, _), (2, _)]) [0, 1, 2] rfl ?_
        first
        | (refine ih _ (fun f hf => ?_)
           by_cases e : fld r c p 1 = f
           · subst e
             rw [updN_s, hq' _ hf]
             exact (if_pos rfl).symm
           · rw [updN_n (Ne.symm e), hq' f hf]
             exact (if_neg e).symm)
        | (refine ih _ (fun f hf => ?_)
           rw [hq' f hf]
           exact (if_neg (fun e => absurd (e ▸ hf) h51)).symm)
theorem s_addClaimO (hS : zSock G M k i1 i2 i3 we r cl) {o : Option Nat} {m : Nat} (ho : obd o) : zS G 1 yX0_addClaim cX0_addClaim 3 none [.ref (zad (zb G) k), .int (optI o), .int (nI m)] M 0 0 (zPU (fun M' => ∃ q : Nat → Nat, (∀ f, f < 3 → q f = cl f + (if o = some f then m else 0)) ∧ M' = M.set i3 (zIN G 3 q))) := by
  cases o with
  | none => exact zS.post (s_addClaimM hS) (fun v M' h => ⟨h.1, cl, fun f _ => by simp, by rw [h.2, zIN_self hS.2.2.2]⟩)
  | some f0 => exact zS.post (s_addClaim hS (ho f0 rfl)) (fun v M' h => ⟨h.1, _, fun f hf => by rw [addC_at hf]; simp, h.2⟩)
theorem lfo_bd {r : Nat → Nat} (hr : rowOK r) {l : Nat} : obd (lfo r l) := by
  unfold lfo
  split
  · exact tfo_bd hr
  · intro f hf; cases hf
set_option maxRecDepth 20000 in
set_option maxHeartbeats 4000000 in
theorem s_weigh (hS : zSock G M k i1 i2 i3 we r cl) (hr : rowOK r) (hs : sinceOK r) {law : Nat} (hlaw : law < 4) : zS G 4 yX0_weigh cX0_weigh 3 none [.ref (zad (zb G) k), .int (nI law)] M 0 0 (zPU (fun M' => ∃ q : Nat → Nat, (∀ f, f < 3 → q f = clm r law f) ∧ M' = M.set i3 (zIN G 3 q))) := by
  refine zS.of (by decide) (Nat.le_of_ble_eq_true rfl) (fun F O hR1 hR2 => ?_)
  have O : zOk G F yX0_weigh cX0_weigh 3 none RX0 4 M.length := O
  refine z_eq (lv' := [(0, _), (1, _)]) rfl rfl rfl ?_
  obtain ⟨hk0, hk1, hk2, hk3⟩ := id hS
  have hn20 := zIN_obj hk2 hk0
  have hn21 := zIN_inj hk2 hk1 (by decide)
  have hn23 := zIN_inj hk2 hk3 (by decide)
  have hn10 := zIN_obj hk1 hk0
  have hn12 := zIN_inj hk1 hk2 (by decide)
  have hn13 := zIN_inj hk1 hk3 (by decide)
  have hn30 := zIN_obj hk3 hk0
  have hn31 := zIN_inj hk3 hk1 (by decide)
  have hn32 := zIN_inj hk3 hk2 (by decide)
  refine z_iconst O (nI 0) dX0_weigh_0 (by decide) ?_
  refine z_istore_n (lv' := [(0, _), (1, _), (2, _)]) O dX0_weigh_1 (by decide) rfl ?_
  refine z_M (zIN_self hk3).symm ?_
  refine zdown (P := fun f => ∀ q : Nat → Nat, (∀ j, j < f → q j = 0) → Z G F 0 0 (zEnd G F (zPU (fun M' => ∃ q : Nat → Nat, (∀ f, f < 3 → q f = clm r law f) ∧ M' = M.set i3 (zIN G 3 q))) 0 0) 2 [(0, .ref (zad (zb G) k)), (1, .int (nI law)), (2, .int (nI f))] [] (M.set i3 (zIN G 3 q))) (3) ?_ ?_ cl (fun j hj => absurd hj (Nat.not_lt_zero j))
  · intro q hz
    refine z_iload_n O dX0_weigh_2 rfl ?_
    refine z_iconst O (nI 3) dX0_weigh_3 (by decide) ?_
    refine z_icmp_geN O 20 dX0_weigh_4 (by decide) (by omega) (by omega) (fun h4 => ?_) (fun h4 => by omega)
    refine z_iload_n O dX0_weigh_20 rfl ?_
    refine z_tabN O 0 48 dX0_weigh_21 (by rfl) (by decide) (by decide) (by decide) (by decide) (fun hk21 => ?_) (fun hn21_0 => ?_)
    · refine z_aload_n O dX0_weigh_48 rfl ?_
      refine z_V0pu0 O (s_weighThread (hS.clm _) hr hz) mX0_weighThread lkX0_71 rfl (by first | assumption | exact zgs (by assumption) | exact zgn (by assumption) (by assumption)) dX0_weigh_49 (Nat.le_of_ble_eq_true rfl) (by decide) (fun M' hq => ?_)
      obtain ⟨q2, hq2, rfl⟩ := hq
      refine z_M zss ?_
      refine z_goto O 113 dX0_weigh_52 (by decide) ?_
      exact z_vret O dX0_weigh_113 (by first | exact ⟨rfl, q2, fun f hf => (hq2 f hf).trans (if_pos hk21).symm, rfl⟩ | exact ⟨rfl, q2, fun f hf => (hq2 f hf).trans (((if_neg hn21_0).trans ((if_neg hn21_1).trans (if_neg hn21_2))).symm), rfl⟩)
    refine z_tabN O 1 55 dX0_weigh_21 (by rfl) (by decide) (by decide) (by decide) (by decide) (fun hk21 => ?_) (fun hn21_1 => ?_)
    · refine z_iconst O (nI 0) dX0_weigh_55 (by decide) ?_
      refine z_istore_n (lv' := [(0, _), (1, _), (2, _)]) O dX0_weigh_56 (by decide) rfl ?_
      refine zdown (P := fun c => ∀ q' : Nat → Nat, (∀ f, f < 3 → q' f = v1 r f c) → Z G F 0 0 (zEnd G F (zPU (fun M' => ∃ q : Nat → Nat, (∀ f, f < 3 → q f = clm r law f) ∧ M' = M.set i3 (zIN G 3 q))) 0 0) 57 [(0, .ref (zad (zb G) k)), (1, .int (nI law)), (2, .int (nI c))] [] (M.set i3 (zIN G 3 q'))) (9) ?_ ?_ q hz
      · intro q' hq'
        refine z_iload_n O dX0_weigh_57 rfl ?_
        refine z_bipush O (nI 9) dX0_weigh_58 (by decide) ?_
        refine z_icmp_geN O 79 dX0_weigh_60 (by decide) (by omega) (by omega) (fun h60 => ?_) (fun h60 => by omega)
        refine z_goto O 113 dX0_weigh_79 (by decide) ?_
        exact z_vret O dX0_weigh_113 ⟨rfl, q', fun f hf => by rw [hq' f hf, clm, if_neg (by omega), if_pos hk21], rfl⟩
      · intro c hc ih q' hq'
        refine z_iload_n O dX0_weigh_57 rfl ?_
        refine z_bipush O (nI 9) dX0_weigh_58 (by decide) ?_
        refine z_icmp_geN O 79 dX0_weigh_60 (by decide) (by omega) (by omega) (fun h60 => by omega) (fun h60 => ?_)
        refine z_aload_n O dX0_weigh_63 rfl ?_
        refine z_aload_n O dX0_weigh_64 rfl ?_
        refine z_iload_n O dX0_weigh_65 rfl ?_
        refine z_V1e0 O (s_topFamily (hS.clm _) hr hc) mX0_topFamily lkX0_74 rfl (by first | assumption | exact zgs (by assumption) | exact zgn (by assumption) (by assumption)) dX0_weigh_66 (Nat.le_of_ble_eq_true rfl) (by decide) ?_
        refine z_iconst O (nI 1) dX0_weigh_69 (by decide) ?_
        refine z_V2pu0 O (s_addClaimO (hS.clm _) (tfo_bd hr)) mX0_addClaim lkX0_77 rfl (by first | assumption | exact zgs (by assumption) | exact zgn (by assumption) (by assumption)) dX0_weigh_70 (Nat.le_of_ble_eq_true rfl) (by decide) (fun M' hq => ?_)
        obtain ⟨q2, hq2, rfl⟩ := hq
        refine z_M zss ?_
        refine z_iincN (lv' := [(0, _), (1, _), (2, _)]) O 1 dX0_weigh_73 (by decide) rfl rfl (by decide) ?_
        refine z_goto O 57 dX0_weigh_76 (by decide) ?_
        exact ih _ (fun f hf => by rw [hq2 f hf, hq' f hf]; rfl)
    refine z_tabN O 2 82 dX0_weigh_21 (by rfl) (by decide) (by decide) (by decide) (by decide) (fun hk21 => ?_) (fun hn21_2 => ?_)
    · refine z_iconst O (nI 0) dX0_weigh_82 (by decide) ?_
      refine z_istore_n (lv' := [(0, _), (1, _), (2, _)]) O dX0_weigh_83 (by decide) rfl ?_
      refine zdown (P := fun l => ∀ q' : Nat → Nat, (∀ f, f < 3 → q' f = v2 r f l) → Z G F 0 0 (zEnd G F (zPU (fun M' => ∃ q : Nat → Nat, (∀ f, f < 3 → q f = clm r law f) ∧ M' = M.set i3 (zIN G 3 q))) 0 0) 84 [(0, .ref (zad (zb G) k)), (1, .int (nI law)), (2, .int (nI l))] [] (M.set i3 (zIN G 3 q'))) (8) ?_ ?_ q hz
      · intro q' hq'
        refine z_iload_n O dX0_weigh_84 rfl ?_
        refine z_bipush O (nI 8) dX0_weigh_85 (by decide) ?_
        refine z_icmp_geN O 106 dX0_weigh_87 (by decide) (by omega) (by omega) (fun h87 => ?_) (fun h87 => by omega)
        refine z_goto O 113 dX0_weigh_106 (by decide) ?_
        exact z_vret O dX0_weigh_113 ⟨rfl, q', fun f hf => by rw [hq' f hf, clm, if_neg (by omega), if_neg (by omega), if_pos hk21], rfl⟩
      · intro l hl ih q' hq'
        refine z_iload_n O dX0_weigh_84 rfl ?_
        refine z_bipush O (nI 8) dX0_weigh_85 (by decide) ?_
        refine z_icmp_geN O 106 dX0_weigh_87 (by decide) (by omega) (by omega) (fun h87 => by omega) (fun h87 => ?_)
        refine z_aload_n O dX0_weigh_90 rfl ?_
        refine z_aload_n O dX0_weigh_91 rfl ?_
        refine z_iload_n O dX0_weigh_92 rfl ?_
        refine z_V1e0 O (s_lineFamily (hS.clm _) hr hl) mX0_lineFamily lkX0_81 rfl (by first | assumption | exact zgs (by assumption) | exact zgn (by assumption) (by assumption)) dX0_weigh_93 (Nat.le_of_ble_eq_true rfl) (by decide) ?_
        refine z_iconst O (nI 1) dX0_weigh_96 (by decide) ?_
        refine z_V2pu0 O (s_addClaimO (hS.clm _) (lfo_bd hr)) mX0_addClaim lkX0_77 rfl (by first | assumption | exact zgs (by assumption) | exact zgn (by assumption) (by assumption)) dX0_weigh_97 (Nat.le_of_ble_eq_true rfl) (by decide) (fun M' hq => ?_)
        obtain ⟨q2, hq2, rfl⟩ := hq
        refine z_M zss ?_
        refine z_iincN (lv' := [(0, _), (1, _), (2, _)]) O 1 dX0_weigh_100 (by decide) rfl rfl (by decide) ?_
        refine z_goto O 84 dX0_weigh_103 (by decide) ?_
        exact ih _ (fun f hf => by rw [hq2 f hf, hq' f hf]; rfl)
    refine z_tabNO O 109 dX0_weigh_21 (by omega) (by omega) (by decide) ?_
    refine z_aload_n O dX0_weigh_109 rfl ?_
    refine z_V0pu0 O (s_weighAges (hS.clm _) hr hs hz) mX0_weighAges lkX0_84 rfl (by first | assumption | exact zgs (by assumption) | exact zgn (by assumption) (by assumption)) dX0_weigh_110 (Nat.le_of_ble_eq_true rfl) (by decide) (fun M' hq => ?_)
    obtain ⟨q2, hq2, rfl⟩ := hq
    refine z_M zss ?_
    exact z_vret O dX0_weigh_113 (by first | exact ⟨rfl, q2, fun f hf => (hq2 f hf).trans (if_pos hk21).symm, rfl⟩ | exact ⟨rfl, q2, fun f hf => (hq2 f hf).trans (((if_neg hn21_0).trans ((if_neg hn21_1).trans (if_neg hn21_2))).symm), rfl⟩)
  · intro f hf ih q hz
    refine z_iload_n O dX0_weigh_2 rfl ?_
    refine z_iconst O (nI 3) dX0_weigh_3 (by decide) ?_
    refine z_icmp_geN O 20 dX0_weigh_4 (by decide) (by omega) (by omega) (fun h4 => by omega) (fun h4 => ?_)
    refine z_aload_n O dX0_weigh_7 rfl ?_
    refine z_get O dX0_weigh_8 flX0_18 (by first | assumption | exact zgs (by assumption) | exact zgn (by assumption) (by assumption)) (by rfl) ?_
    refine z_iload_n O dX0_weigh_11 rfl ?_
    refine z_iconst O (nI 0) dX0_weigh_12 (by decide) ?_
    refine z_iastN O (by first | rfl | simp | (simp; omega)) dX0_weigh_13 (by first | assumption | exact zgs (by assumption) | exact zgn (by assumption) (by assumption)) (by omega) (by decide) ?_
    refine z_M zss ?_
    refine z_iincN (lv' := [(0, _), (1, _), (2, _)]) O 1 dX0_weigh_14 (by decide) rfl rfl (by decide) ?_
    refine z_goto O 2 dX0_weigh_17 (by decide) ?_
    exact ih _ (fun j hj => zeroC_at hz hj)
set_option maxRecDepth 20000 in
set_option maxHeartbeats 4000000 in
theorem s_claimOf (hS : zSock G M k i1 i2 i3 we r cl) (hr : rowOK r) (hs : sinceOK r) {f law : Nat} (hf : f < 3) (hlaw : law < 4) : zS G 5 yX0_claimOf cX0_claimOf 3 (some .int) [.ref (zad (zb G) k), .int (nI f), .int (nI law)] M 0 0 (zP (fun v M' => v = .int (nI (clm r law f)) ∧ ∃ q : Nat → Nat, M' = M.set i3 (zIN G 3 q))) := by
  refine zS.of (by decide) (Nat.le_of_ble_eq_true rfl) (fun F O hR1 hR2 => ?_)
  have O : zOk G F yX0_claimOf cX0_claimOf 3 (some .int) RX0 5 M.length := O
  refine z_eq (lv' := [(0, _), (1, _), (2, _)]) rfl rfl rfl ?_
  obtain ⟨hk0, hk1, hk2, hk3⟩ := id hS
  have hn20 := zIN_obj hk2 hk0
  have hn21 := zIN_inj hk2 hk1 (by decide)
  have hn23 := zIN_inj hk2 hk3 (by decide)
  have hn10 := zIN_obj hk1 hk0
  have hn12 := zIN_inj hk1 hk2 (by decide)
  have hn13 := zIN_inj hk1 hk3 (by decide)
  have hn30 := zIN_obj hk3 hk0
  have hn31 := zIN_inj hk3 hk1 (by decide)
  have hn32 := zIN_inj hk3 hk2 (by decide)
  refine z_aload_n O dX0_claimOf_0 rfl ?_
  refine z_iload_n O dX0_claimOf_1 rfl ?_
  refine z_V1pu0 O (s_weigh hS hr hs hlaw) mX0_weigh lkX0_95 rfl (by first | assumption | exact zgs (by assumption) | exact zgn (by assumption) (by assumption)) dX0_claimOf_2 (Nat.le_of_ble_eq_true rfl) (by decide) (fun M' hq => ?_)
  obtain ⟨q, hq', rfl⟩ := hq
  refine z_iload_n O dX0_claimOf_5 rfl ?_
  refine z_iconst O (nI 3) dX0_claimOf_6 (by decide) ?_
  refine z_SN2e0 O (s_withinN (by omega) (by decide)) mX3_within nlX0_27 dX0_claimOf_7 (Nat.le_of_ble_eq_true rfl) (by decide) ?_
  refine z_if_eqB O 22 dX0_claimOf_10 (by decide) (fun h10 => by omega) (fun h10 => ?_)
  refine z_aload_n O dX0_claimOf_13 rfl ?_
  refine z_get O dX0_claimOf_14 flX0_18 (by first | assumption | exact zgs (by assumption) | exact zgn (by assumption) (by assumption)) (by rfl) ?_
  refine z_iload_n O dX0_claimOf_17 rfl ?_
  refine z_ialdN O dX0_claimOf_18 (by first | assumption | exact zgs (by assumption) | exact zgn (by assumption) (by assumption)) (by omega) (by decide) ?_
  refine z_goto O 23 dX0_claimOf_19 (by decide) ?_
  exact z_iret O dX0_claimOf_23 ⟨_, rfl, by rw [hq' _ hf], q, rfl⟩
set_option maxRecDepth 20000 in
set_option maxHeartbeats 4000000 in
theorem s_allClaims (hS : zSock G M k i1 i2 i3 we r cl) (hr : rowOK r) (hs : sinceOK r) {law : Nat} (hlaw : law < 4) : zS G 5 yX0_allClaims cX0_allClaims 4 (some .int) [.ref (zad (zb G) k), .int (nI law)] M 0 0 (zP (fun v M' => v = .int (nI (clAll r law)) ∧ ∃ q : Nat → Nat, M' = M.set i3 (zIN G 3 q))) := by
  refine zS.of (by decide) (Nat.le_of_ble_eq_true rfl) (fun F O hR1 hR2 => ?_)
  have O : zOk G F yX0_allClaims cX0_allClaims 4 (some .int) RX0 5 M.length := O
  refine z_eq (lv' := [(0, _), (1, _)]) rfl rfl rfl ?_
  obtain ⟨hk0, hk1, hk2, hk3⟩ := id hS
  have hn20 := zIN_obj hk2 hk0
  have hn21 := zIN_inj hk2 hk1 (by decide)
  have hn23 := zIN_inj hk2 hk3 (by decide)
  have hn10 := zIN_obj hk1 hk0
  have hn12 := zIN_inj hk1 hk2 (by decide)
  have hn13 := zIN_inj hk1 hk3 (by decide)
  have hn30 := zIN_obj hk3 hk0
  have hn31 := zIN_inj hk3 hk1 (by decide)
  have hn32 := zIN_inj hk3 hk2 (by decide)
  refine z_aload_n O dX0_allClaims_0 rfl ?_
  refine z_iload_n O dX0_allClaims_1 rfl ?_
  refine z_V1pu0 O (s_weigh hS hr hs hlaw) mX0_weigh lkX0_95 rfl (by first | assumption | exact zgs (by assumption) | exact zgn (by assumption) (by assumption)) dX0_allClaims_2 (Nat.le_of_ble_eq_true rfl) (by decide) (fun M' hq => ?_)
  obtain ⟨q, hq', rfl⟩ := hq
  refine z_iconst O (nI 0) dX0_allClaims_5 (by decide) ?_
  refine z_istore_n (lv' := [(0, _), (1, _), (2, _)]) O dX0_allClaims_6 (by decide) rfl ?_
  refine z_iconst O (nI 0) dX0_allClaims_7 (by decide) ?_
  refine z_istore_n (lv' := [(0, _), (1, _), (2, _), (3, _)]) O dX0_allClaims_8 (by decide) rfl ?_
  refine zdown (P := fun f => Z G F 0 0 (zEnd G F (zP (fun v M' => v = .int (nI (clAll r law)) ∧ ∃ q : Nat → Nat, M' = M.set i3 (zIN G 3 q))) 0 0) 9 [(0, .ref (zad (zb G) k)), (1, .int (nI law)), (2, .int (nI (sumN (clm r law) f))), (3, .int (nI f))] [] (M.set i3 (zIN G 3 q))) (3) ?_ ?_ 
  · refine z_iload_n O dX0_allClaims_9 rfl ?_
    refine z_iconst O (nI 3) dX0_allClaims_10 (by decide) ?_
    refine z_icmp_geN O 29 dX0_allClaims_11 (by decide) (by omega) (by omega) (fun h11 => ?_) (fun h11 => by omega)
    refine z_iload_n O dX0_allClaims_29 rfl ?_
    exact z_iret O dX0_allClaims_30 ⟨_, rfl, by simp [sumN, clAll], q, rfl⟩
  · intro f hf ih 
    refine z_iload_n O dX0_allClaims_9 rfl ?_
    refine z_iconst O (nI 3) dX0_allClaims_10 (by decide) ?_
    refine z_icmp_geN O 29 dX0_allClaims_11 (by decide) (by omega) (by omega) (fun h11 => by omega) (fun h11 => ?_)
    refine z_iload_n O dX0_allClaims_14 rfl ?_
    refine z_aload_n O dX0_allClaims_15 rfl ?_
    refine z_get O dX0_allClaims_16 flX0_18 (by first | assumption | exact zgs (by assumption) | exact zgn (by assumption) (by assumption)) (by rfl) ?_
    refine z_iload_n O dX0_allClaims_19 rfl ?_
    refine z_ialdN O dX0_allClaims_20 (by first | assumption | exact zgs (by assumption) | exact zgn (by assumption) (by assumption)) (by omega) (by decide) ?_
    refine z_top (v' := .int (nI (clm r law f))) (congrArg Value.int (by rw [hq' f hf])) ?_
    refine z_iaddN O dX0_allClaims_21 ?_
    refine z_istore_n (lv' := [(0, _), (1, _), (2, _), (3, _)]) O dX0_allClaims_22 (by decide) rfl ?_
    refine z_iincN (lv' := [(0, _), (1, _), (2, _), (3, _)]) O 1 dX0_allClaims_23 (by decide) rfl rfl (by decide) ?_
    refine z_goto O 9 dX0_allClaims_26 (by decide) ?_
    exact ih
theorem ownS_lt {r : Nat → Nat} (hr : rowOK r) (law : Nat) : ∀ f, (ownS (clm r law) f).2 ≤ 113246208
  | 0 => Nat.zero_le _
  | f + 1 => by
    have h := ownS_lt hr law f
    have h2 := clm_lt hr law f
    unfold ownS
    repeat' split
    · exact h2
    · exact h
    · exact h
set_option maxRecDepth 20000 in
set_option maxHeartbeats 4000000 in
theorem s_ownerBy (hS : zSock G M k i1 i2 i3 we r cl) (hr : rowOK r) (hs : sinceOK r) {law : Nat} (hlaw : law < 4) : zS G 5 yX0_ownerBy cX0_ownerBy 5 (some .int) [.ref (zad (zb G) k), .int (nI law)] M 0 0 (zP (fun v M' => v = .int (optI (ownS (clm r law) 3).1) ∧ ∃ q : Nat → Nat, M' = M.set i3 (zIN G 3 q))) := by
  refine zS.of (by decide) (Nat.le_of_ble_eq_true rfl) (fun F O hR1 hR2 => ?_)
  have O : zOk G F yX0_ownerBy cX0_ownerBy 5 (some .int) RX0 5 M.length := O
  refine z_eq (lv' := [(0, _), (1, _)]) rfl rfl rfl ?_
  obtain ⟨hk0, hk1, hk2, hk3⟩ := id hS
  have hn20 := zIN_obj hk2 hk0
  have hn21 := zIN_inj hk2 hk1 (by decide)
  have hn23 := zIN_inj hk2 hk3 (by decide)
  have hn10 := zIN_obj hk1 hk0
  have hn12 := zIN_inj hk1 hk2 (by decide)
  have hn13 := zIN_inj hk1 hk3 (by decide)
  have hn30 := zIN_obj hk3 hk0
  have hn31 := zIN_inj hk3 hk1 (by decide)
  have hn32 := zIN_inj hk3 hk2 (by decide)
  refine z_aload_n O dX0_ownerBy_0 rfl ?_
  refine z_iload_n O dX0_ownerBy_1 rfl ?_
  refine z_V1pu0 O (s_weigh hS hr hs hlaw) mX0_weigh lkX0_95 rfl (by first | assumption | exact zgs (by assumption) | exact zgn (by assumption) (by assumption)) dX0_ownerBy_2 (Nat.le_of_ble_eq_true rfl) (by decide) (fun M' hq => ?_)
  obtain ⟨q, hq', rfl⟩ := hq
  refine z_iconst O (-1) dX0_ownerBy_5 (by decide) ?_
  refine z_istore_n (lv' := [(0, _), (1, _), (2, _)]) O dX0_ownerBy_6 (by decide) rfl ?_
  refine z_iconst O (nI 0) dX0_ownerBy_7 (by decide) ?_
  refine z_istore_n (lv' := [(0, _), (1, _), (2, _), (3, _)]) O dX0_ownerBy_8 (by decide) rfl ?_
  refine z_iconst O (nI 0) dX0_ownerBy_9 (by decide) ?_
  refine z_istore (lv' := [(0, _), (1, _), (2, _), (3, _), (4, _)]) O dX0_ownerBy_10 (by decide) rfl ?_
  refine zdown (P := fun f => Z G F 0 0 (zEnd G F (zP (fun v M' => v = .int (optI (ownS (clm r law) 3).1) ∧ ∃ q : Nat → Nat, M' = M.set i3 (zIN G 3 q))) 0 0) 12 [(0, .ref (zad (zb G) k)), (1, .int (nI law)), (2, .int (optI (ownS (clm r law) f).1)), (3, .int (nI (ownS (clm r law) f).2)), (4, .int (nI f))] [] (M.set i3 (zIN G 3 q))) (3) ?_ ?_ 
  · refine z_iload O dX0_ownerBy_12 rfl ?_
    refine z_iconst O (nI 3) dX0_ownerBy_14 (by decide) ?_
    refine z_icmp_geN O 59 dX0_ownerBy_15 (by decide) (by omega) (by omega) (fun h15 => ?_) (fun h15 => by omega)
    refine z_iload_n O dX0_ownerBy_59 rfl ?_
    exact z_iret O dX0_ownerBy_60 ⟨_, rfl, rfl, q, rfl⟩
  · intro f hf ih 
    refine z_iload O dX0_ownerBy_12 rfl ?_
    refine z_iconst O (nI 3) dX0_ownerBy_14 (by decide) ?_
    refine z_icmp_geN O 59 dX0_ownerBy_15 (by decide) (by omega) (by omega) (fun h15 => by omega) (fun h15 => ?_)
    refine z_aload_n O dX0_ownerBy_18 rfl ?_
    refine z_get O dX0_ownerBy_19 flX0_18 (by first | assumption | exact zgs (by assumption) | exact zgn (by assumption) (by assumption)) (by rfl) ?_
    refine z_iload O dX0_ownerBy_22 rfl ?_
    refine z_ialdN O dX0_ownerBy_24 (by first | assumption | exact zgs (by assumption) | exact zgn (by assumption) (by assumption)) (by omega) (by decide) ?_
    refine z_top (v' := .int (nI (clm r law f))) (congrArg Value.int (by rw [hq' f hf])) ?_
    refine z_iload_n O dX0_ownerBy_25 rfl ?_
    refine z_icmp_neN O 31 dX0_ownerBy_26 (by decide) (by first | (have := clm_lt hr law f; omega) | (have := ownS_lt hr law f; omega)) (by first | (have := clm_lt hr law f; omega) | (have := ownS_lt hr law f; omega)) (fun h26 => ?_) (fun h26 => ?_)
    · refine z_aload_n O dX0_ownerBy_31 rfl ?_
      refine z_get O dX0_ownerBy_32 flX0_18 (by first | assumption | exact zgs (by assumption) | exact zgn (by assumption) (by assumption)) (by rfl) ?_
      refine z_iload O dX0_ownerBy_35 rfl ?_
      refine z_ialdN O dX0_ownerBy_37 (by first | assumption | exact zgs (by assumption) | exact zgn (by assumption) (by assumption)) (by omega) (by decide) ?_
      refine z_top (v' := .int (nI (clm r law f))) (congrArg Value.int (by rw [hq' f hf])) ?_
      refine z_iload_n O dX0_ownerBy_38 rfl ?_
      refine z_icmp_leN O 53 dX0_ownerBy_39 (by decide) (by first | (have := clm_lt hr law f; omega) | (have := ownS_lt hr law f; omega)) (by first | (have := clm_lt hr law f; omega) | (have := ownS_lt hr law f; omega)) (fun h39 => ?_) (fun h39 => ?_)
      · refine z_iincN (lv' := [(0, _), (1, _), (2, _), (3, _), (4, _)]) O 1 dX0_ownerBy_53 (by decide) rfl rfl (by decide) ?_
        refine z_goto O 12 dX0_ownerBy_56 (by decide) ?_
        first | (rw [show ownS (clm r law) (f + 1) = (some f, clm r law f) from if_pos (by omega)] at ih; exact ih) | (rw [show ownS (clm r law) (f + 1) = (none, (ownS (clm r law) f).2) from (if_neg (by omega)).trans (if_pos (by omega))] at ih; exact ih) | (rw [show ownS (clm r law) (f + 1) = ownS (clm r law) f from (if_neg (by omega)).trans (if_neg (by omega))] at ih; exact ih)
      · refine z_iload O dX0_ownerBy_42 rfl ?_
        refine z_istore_n (lv' := [(0, _), (1, _), (2, _), (3, _), (4, _)]) O dX0_ownerBy_44 (by decide) rfl ?_
        refine z_aload_n O dX0_ownerBy_45 rfl ?_
        refine z_get O dX0_ownerBy_46 flX0_18 (by first | assumption | exact zgs (by assumption) | exact zgn (by assumption) (by assumption)) (by rfl) ?_
        refine z_iload O dX0_ownerBy_49 rfl ?_
        refine z_ialdN O dX0_ownerBy_51 (by first | assumption | exact zgs (by assumption) | exact zgn (by assumption) (by assumption)) (by omega) (by decide) ?_
        refine z_top (v' := .int (nI (clm r law f))) (congrArg Value.int (by rw [hq' f hf])) ?_
        refine z_istore_n (lv' := [(0, _), (1, _), (2, _), (3, _), (4, _)]) O dX0_ownerBy_52 (by decide) rfl ?_
        refine z_iincN (lv' := [(0, _), (1, _), (2, _), (3, _), (4, _)]) O 1 dX0_ownerBy_53 (by decide) rfl rfl (by decide) ?_
        refine z_goto O 12 dX0_ownerBy_56 (by decide) ?_
        first | (rw [show ownS (clm r law) (f + 1) = (some f, clm r law f) from if_pos (by omega)] at ih; exact ih) | (rw [show ownS (clm r law) (f + 1) = (none, (ownS (clm r law) f).2) from (if_neg (by omega)).trans (if_pos (by omega))] at ih; exact ih) | (rw [show ownS (clm r law) (f + 1) = ownS (clm r law) f from (if_neg (by omega)).trans (if_neg (by omega))] at ih; exact ih)
    · refine z_iconst O (-1) dX0_ownerBy_29 (by decide) ?_
      refine z_istore_n (lv' := [(0, _), (1, _), (2, _), (3, _), (4, _)]) O dX0_ownerBy_30 (by decide) rfl ?_
      refine z_aload_n O dX0_ownerBy_31 rfl ?_
      refine z_get O dX0_ownerBy_32 flX0_18 (by first | assumption | exact zgs (by assumption) | exact zgn (by assumption) (by assumption)) (by rfl) ?_
      refine z_iload O dX0_ownerBy_35 rfl ?_
      refine z_ialdN O dX0_ownerBy_37 (by first | assumption | exact zgs (by assumption) | exact zgn (by assumption) (by assumption)) (by omega) (by decide) ?_
      refine z_top (v' := .int (nI (clm r law f))) (congrArg Value.int (by rw [hq' f hf])) ?_
      refine z_iload_n O dX0_ownerBy_38 rfl ?_
      refine z_icmp_leN O 53 dX0_ownerBy_39 (by decide) (by first | (have := clm_lt hr law f; omega) | (have := ownS_lt hr law f; omega)) (by first | (have := clm_lt hr law f; omega) | (have := ownS_lt hr law f; omega)) (fun h39 => ?_) (fun h39 => ?_)
      · refine z_iincN (lv' := [(0, _), (1, _), (2, _), (3, _), (4, _)]) O 1 dX0_ownerBy_53 (by decide) rfl rfl (by decide) ?_
        refine z_goto O 12 dX0_ownerBy_56 (by decide) ?_
        first | (rw [show ownS (clm r law) (f + 1) = (some f, clm r law f) from if_pos (by omega)] at ih; exact ih) | (rw [show ownS (clm r law) (f + 1) = (none, (ownS (clm r law) f).2) from (if_neg (by omega)).trans (if_pos (by omega))] at ih; exact ih) | (rw [show ownS (clm r law) (f + 1) = ownS (clm r law) f from (if_neg (by omega)).trans (if_neg (by omega))] at ih; exact ih)
      · refine z_iload O dX0_ownerBy_42 rfl ?_
        refine z_istore_n (lv' := [(0, _), (1, _), (2, _), (3, _), (4, _)]) O dX0_ownerBy_44 (by decide) rfl ?_
        refine z_aload_n O dX0_ownerBy_45 rfl ?_
        refine z_get O dX0_ownerBy_46 flX0_18 (by first | assumption | exact zgs (by assumption) | exact zgn (by assumption) (by assumption)) (by rfl) ?_
        refine z_iload O dX0_ownerBy_49 rfl ?_
        refine z_ialdN O dX0_ownerBy_51 (by first | assumption | exact zgs (by assumption) | exact zgn (by assumption) (by assumption)) (by omega) (by decide) ?_
        refine z_top (v' := .int (nI (clm r law f))) (congrArg Value.int (by rw [hq' f hf])) ?_
        refine z_istore_n (lv' := [(0, _), (1, _), (2, _), (3, _), (4, _)]) O dX0_ownerBy_52 (by decide) rfl ?_
        refine z_iincN (lv' := [(0, _), (1, _), (2, _), (3, _), (4, _)]) O 1 dX0_ownerBy_53 (by decide) rfl rfl (by decide) ?_
        refine z_goto O 12 dX0_ownerBy_56 (by decide) ?_
        first | (rw [show ownS (clm r law) (f + 1) = (some f, clm r law f) from if_pos (by omega)] at ih; exact ih) | (rw [show ownS (clm r law) (f + 1) = (none, (ownS (clm r law) f).2) from (if_neg (by omega)).trans (if_pos (by omega))] at ih; exact ih) | (rw [show ownS (clm r law) (f + 1) = ownS (clm r law) f from (if_neg (by omega)).trans (if_neg (by omega))] at ih; exact ih)
theorem ownS_bd (q : Nat → Nat) : ∀ f, f ≤ 3 → obd (ownS q f).1
  | 0, _ => by intro g hg; cases hg
  | f + 1, hf => by
    have h := ownS_bd q f (by omega)
    unfold ownS
    repeat' split
    · intro g hg; cases hg; omega
    · intro g hg; cases hg
    · exact h
set_option maxRecDepth 20000 in
set_option maxHeartbeats 4000000 in
theorem s_isTwos (hS : zSock G M k i1 i2 i3 we r cl) (hr : rowOK r) (hs : sinceOK r) {law : Nat} (hlaw : law < 4) : zS G 6 yX0_isTwos cX0_isTwos 2 (some .boolean) [.ref (zad (zb G) k), .int (nI law)] M 0 0 (zP (fun v M' => v = .int (bI ((ownS (clm r law) 3).1 = none ∧ 0 < clAll r law)) ∧ ∃ q : Nat → Nat, M' = M.set i3 (zIN G 3 q))) := by
  refine zS.of (by decide) (Nat.le_of_ble_eq_true rfl) (fun F O hR1 hR2 => ?_)
  have O : zOk G F yX0_isTwos cX0_isTwos 2 (some .boolean) RX0 6 M.length := O
  refine z_eq (lv' := [(0, _), (1, _)]) rfl rfl rfl ?_
  obtain ⟨hk0, hk1, hk2, hk3⟩ := id hS
  have hn20 := zIN_obj hk2 hk0
  have hn21 := zIN_inj hk2 hk1 (by decide)
  have hn23 := zIN_inj hk2 hk3 (by decide)
  have hn10 := zIN_obj hk1 hk0
  have hn12 := zIN_inj hk1 hk2 (by decide)
  have hn13 := zIN_inj hk1 hk3 (by decide)
  have hn30 := zIN_obj hk3 hk0
  have hn31 := zIN_inj hk3 hk1 (by decide)
  have hn32 := zIN_inj hk3 hk2 (by decide)
  refine z_aload_n O dX0_isTwos_0 rfl ?_
  refine z_iload_n O dX0_isTwos_1 rfl ?_
  refine z_V1p0 O (s_ownerBy hS hr hs hlaw) mX0_ownerBy lkX0_98 rfl (by first | assumption | exact zgs (by assumption) | exact zgn (by assumption) (by assumption)) dX0_isTwos_2 (Nat.le_of_ble_eq_true rfl) (by decide) (fun x M' hq => ?_)
  obtain ⟨rfl, q, rfl⟩ := hq
  refine z_iconst O (-1) dX0_isTwos_5 (by decide) ?_
  refine z_icmp_ne O 21 dX0_isTwos_6 (by decide) (fun h6 => ?_) (fun h6 => ?_)
  · refine z_iconst O (nI 0) dX0_isTwos_21 (by decide) ?_
    exact z_zret O dX0_isTwos_22 rfl (by
        have hb := optI_eq (ownS_bd (clm r law) 3 (by omega)) (b := none) (by intro g hg; cases hg)
        first
        | (have hp := bI_t (p := (ownS (clm r law) 3).1 = none ∧ 0 < clAll r law) ⟨hb.mp h6, Nat.pos_of_ne_zero h14⟩; exact ⟨_, rfl, by rw [hp]; rfl, _, rfl⟩)
        | (have hp := bI_f (p := (ownS (clm r law) 3).1 = none ∧ 0 < clAll r law) (fun q => absurd h14 (Nat.ne_of_gt q.2)); exact ⟨_, rfl, by rw [hp]; rfl, _, rfl⟩)
        | (have hp := bI_f (p := (ownS (clm r law) 3).1 = none ∧ 0 < clAll r law) (fun q => h6 (hb.mpr q.1)); exact ⟨_, rfl, by rw [hp]; rfl, _, rfl⟩))
  · refine z_aload_n O dX0_isTwos_9 rfl ?_
    refine z_iload_n O dX0_isTwos_10 rfl ?_
    refine z_V1p0 O (s_allClaims (hS.clm _) hr hs hlaw) mX0_allClaims lkX0_101 rfl (by first | assumption | exact zgs (by assumption) | exact zgn (by assumption) (by assumption)) dX0_isTwos_11 (Nat.le_of_ble_eq_true rfl) (by decide) (fun x M' hq => ?_)
    obtain ⟨rfl, q2, rfl⟩ := hq
    refine z_M zss ?_
    refine z_if_leN O 21 dX0_isTwos_14 (by decide) (by have h0 := clm_lt hr law 0; have h1 := clm_lt hr law 1; have h2 := clm_lt hr law 2; unfold clAll; omega) (fun h14 => ?_) (fun h14 => ?_)
    · refine z_iconst O (nI 0) dX0_isTwos_21 (by decide) ?_
      exact z_zret O dX0_isTwos_22 rfl (by
          have hb := optI_eq (ownS_bd (clm r law) 3 (by omega)) (b := none) (by intro g hg; cases hg)
          first
          | (have hp := bI_t (p := (ownS (clm r law) 3).1 = none ∧ 0 < clAll r law) ⟨hb.mp h6, Nat.pos_of_ne_zero h14⟩; exact ⟨_, rfl, by rw [hp]; rfl, _, rfl⟩)
          | (have hp := bI_f (p := (ownS (clm r law) 3).1 = none ∧ 0 < clAll r law) (fun q => absurd h14 (Nat.ne_of_gt q.2)); exact ⟨_, rfl, by rw [hp]; rfl, _, rfl⟩)
          | (have hp := bI_f (p := (ownS (clm r law) 3).1 = none ∧ 0 < clAll r law) (fun q => h6 (hb.mpr q.1)); exact ⟨_, rfl, by rw [hp]; rfl, _, rfl⟩))
    · refine z_iconst O (nI 1) dX0_isTwos_17 (by decide) ?_
      refine z_goto O 22 dX0_isTwos_18 (by decide) ?_
      exact z_zret O dX0_isTwos_22 rfl (by
          have hb := optI_eq (ownS_bd (clm r law) 3 (by omega)) (b := none) (by intro g hg; cases hg)
          first
          | (have hp := bI_t (p := (ownS (clm r law) 3).1 = none ∧ 0 < clAll r law) ⟨hb.mp h6, Nat.pos_of_ne_zero h14⟩; exact ⟨_, rfl, by rw [hp]; rfl, _, rfl⟩)
          | (have hp := bI_f (p := (ownS (clm r law) 3).1 = none ∧ 0 < clAll r law) (fun q => absurd h14 (Nat.ne_of_gt q.2)); exact ⟨_, rfl, by rw [hp]; rfl, _, rfl⟩)
          | (have hp := bI_f (p := (ownS (clm r law) 3).1 = none ∧ 0 < clAll r law) (fun q => h6 (hb.mpr q.1)); exact ⟨_, rfl, by rw [hp]; rfl, _, rfl⟩))
end SK
