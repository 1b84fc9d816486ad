/-! ===== the start ===== -/
theorem st_el1 : ∀ j : Nat, j < 24 → Cond.eq (.elem (Term.static "DarnedSock" "LINE_CELLS" "[I") (.int (Int32.ofNat j))) (.int (zLine j)) ∈ flatC (Jvm.Cond.and given_1 narrow_1) := by decide +kernel
theorem st_ar1 : Cond.arrayOf (Term.static "DarnedSock" "LINE_CELLS" "[I") .int ∈ flatC (Jvm.Cond.and given_1 narrow_1) := by decide +kernel
theorem st_le1 : Cond.eq (.length (Term.static "DarnedSock" "LINE_CELLS" "[I")) (.int (Int32.ofNat 24)) ∈ flatC (Jvm.Cond.and given_1 narrow_1) := by decide +kernel
theorem st_T1 {args : Array Value} {s : State} {A : Nat → Prop} (hgv : (Jvm.Cond.and given_1 narrow_1).before args s = true) (hl : (Cond.laysStatic RX3 "LINE_CELLS" "[I").before args s = true) (hini : (Cond.initialized RX3).before args s = true) (hA : ∀ a : Nat, a < s.heap.size → ¬ A a) : ∃ t : Nat, va_T .int t 24 (fun j => .int (zLine j)) A s s.heap ∧ va_Z RX3 "LINE_CELLS" "[I" (.ref t) A s s.heap := by
  have hs := flat_of_before _ hgv
  obtain ⟨t, ht, hT⟩ := va_Tof (f := fun j => .int (zLine j)) (A := A) (N := 24) (by decide) (hs _ st_ar1) (va_eqt (hs _ st_le1)) (fun j hj => va_eqt (hs _ (st_el1 j hj))) hA
  exact ⟨t, hT, va_Zof hl hini ht hA⟩
theorem st_el2 : ∀ j : Nat, j < 12 → Cond.eq (.elem (Term.static "DarnedSock" "WORD_LETTERS" "[I") (.int (Int32.ofNat j))) (.int (zLett j)) ∈ flatC (Jvm.Cond.and given_1 narrow_1) := by decide +kernel
theorem st_ar2 : Cond.arrayOf (Term.static "DarnedSock" "WORD_LETTERS" "[I") .int ∈ flatC (Jvm.Cond.and given_1 narrow_1) := by decide +kernel
theorem st_le2 : Cond.eq (.length (Term.static "DarnedSock" "WORD_LETTERS" "[I")) (.int (Int32.ofNat 12)) ∈ flatC (Jvm.Cond.and given_1 narrow_1) := by decide +kernel
theorem st_T2 {args : Array Value} {s : State} {A : Nat → Prop} (hgv : (Jvm.Cond.and given_1 narrow_1).before args s = true) (hl : (Cond.laysStatic RX3 "WORD_LETTERS" "[I").before args s = true) (hini : (Cond.initialized RX3).before args s = true) (hA : ∀ a : Nat, a < s.heap.size → ¬ A a) : ∃ t : Nat, va_T .int t 12 (fun j => .int (zLett j)) A s s.heap ∧ va_Z RX3 "WORD_LETTERS" "[I" (.ref t) A s s.heap := by
  have hs := flat_of_before _ hgv
  obtain ⟨t, ht, hT⟩ := va_Tof (f := fun j => .int (zLett j)) (A := A) (N := 12) (by decide) (hs _ st_ar2) (va_eqt (hs _ st_le2)) (fun j hj => va_eqt (hs _ (st_el2 j hj))) hA
  exact ⟨t, hT, va_Zof hl hini ht hA⟩
theorem st_el3 : ∀ j : Nat, j < 3 → Cond.eq (.elem (Term.static "DarnedSock" "WORD_NUMBERS" "[I") (.int (Int32.ofNat j))) (.int (zNumb j)) ∈ flatC (Jvm.Cond.and given_1 narrow_1) := by decide +kernel
theorem st_ar3 : Cond.arrayOf (Term.static "DarnedSock" "WORD_NUMBERS" "[I") .int ∈ flatC (Jvm.Cond.and given_1 narrow_1) := by decide +kernel
theorem st_le3 : Cond.eq (.length (Term.static "DarnedSock" "WORD_NUMBERS" "[I")) (.int (Int32.ofNat 3)) ∈ flatC (Jvm.Cond.and given_1 narrow_1) := by decide +kernel
theorem st_T3 {args : Array Value} {s : State} {A : Nat → Prop} (hgv : (Jvm.Cond.and given_1 narrow_1).before args s = true) (hl : (Cond.laysStatic RX3 "WORD_NUMBERS" "[I").before args s = true) (hini : (Cond.initialized RX3).before args s = true) (hA : ∀ a : Nat, a < s.heap.size → ¬ A a) : ∃ t : Nat, va_T .int t 3 (fun j => .int (zNumb j)) A s s.heap ∧ va_Z RX3 "WORD_NUMBERS" "[I" (.ref t) A s s.heap := by
  have hs := flat_of_before _ hgv
  obtain ⟨t, ht, hT⟩ := va_Tof (f := fun j => .int (zNumb j)) (A := A) (N := 3) (by decide) (hs _ st_ar3) (va_eqt (hs _ st_le3)) (fun j hj => va_eqt (hs _ (st_el3 j hj))) hA
  exact ⟨t, hT, va_Zof hl hini ht hA⟩
theorem nm_in : ∀ q ∈ zNm, Cond.methodLinkNest q.1 q.2.1 q.2.2.1 q.2.2.2 ∈ lw_tbl := by decide +kernel
theorem nf_in : ∀ q ∈ zNf, Cond.fieldLinkNest q.1 q.2.1 q.2.2.1 q.2.2.2.1 q.2.2.2.2.1 q.2.2.2.2.2 ∈ lw_tbl := by decide +kernel
theorem ar_at {args : Array Value} {s : State} {ty : FieldType} (h : (Cond.arrayClass ty).before args s = true) : ∃ cA : ClassId, ArrOfT s cA ty ∧ s.vm.findClass ("[" ++ ty.toString) = some cA := by
  obtain ⟨cA, kA, comp, h1, h2, h3⟩ := Cond.arrayClass_spec h
  exact ⟨cA, fun N z => ⟨(fun k h => by cases h), kA, h2, comp, h3⟩, h1⟩
theorem ar_ob {s : State} {C : String} (h : va_AO C s) : ∃ cA : ClassId, ArrOfT s cA (.object C) ∧ va_RA s cA (.object C) := by
  obtain ⟨comp, c, k, h1, h2, h3, h4, h5⟩ := Cond.arrayOver_spec h
  exact ⟨c, fun N z => ⟨(fun k h => by cases h), k, h3, comp, h4⟩, k, comp, h3, h4, h1, h5⟩
theorem in_i0 : Cond.instantiable RX0 3 ∈ lw_tbl := by decide +kernel
theorem in_i1 : Cond.instantiable RX1 6 ∈ lw_tbl := by decide +kernel
theorem in_i2 : Cond.instantiable RX2 9 ∈ lw_tbl := by decide +kernel
theorem in_i3 : Cond.instantiable RX3 13 ∈ lw_tbl := by decide +kernel
theorem in_i4 : Cond.instantiable RX4 18 ∈ lw_tbl := by decide +kernel
theorem in_ao : Cond.arrayOver (.object RX1) ∈ lw_tbl := by decide +kernel
theorem in_aI : Cond.arrayClass .int ∈ lw_tbl := by decide +kernel
theorem in_aB : Cond.arrayClass .boolean ∈ lw_tbl := by decide +kernel
theorem in_l1 : Cond.laysStatic RX3 "LINE_CELLS" "[I" ∈ lw_tbl := by decide +kernel
theorem in_l2 : Cond.laysStatic RX3 "WORD_LETTERS" "[I" ∈ lw_tbl := by decide +kernel
theorem in_l3 : Cond.laysStatic RX3 "WORD_NUMBERS" "[I" ∈ lw_tbl := by decide +kernel
theorem in_in : Cond.initialized RX3 ∈ lw_tbl := by decide +kernel
/-- the world at the law's entry -/
theorem zC_start {s : State} {b L : Nat} {xs : Nat → Int32} (l : Launch) (hts : ∀ w ∈ lw_tbl, w.before #[Value.ref b] s = true) (hX : va_X b L xs s s.heap) (hbl : b < s.heap.size) (hgv : (Jvm.Cond.and given_1 narrow_1).before #[Value.ref b] s = true) : ∃ G : zG, G.1 = l ∧ zb G = s.heap.size ∧ zsa G 0 = b ∧ zLen G 0 = L ∧ zC G s := by
  obtain ⟨c0, i0, k0⟩ := u_known (C := RX0) (T := TX0) (N := 3) (n := 3) hts inX0 (hts _ in_i0)
  obtain ⟨c1, i1, k1⟩ := u_known (C := RX1) (T := TX1) (N := 6) (n := 6) hts inX1 (hts _ in_i1)
  obtain ⟨c2, i2, k2⟩ := u_known (C := RX2) (T := TX2) (N := 9) (n := 9) hts inX2 (hts _ in_i2)
  obtain ⟨c3, i3, k3⟩ := u_known (C := RX3) (T := TX3) (N := 13) (n := 13) hts inX3 (hts _ in_i3)
  obtain ⟨c4, i4, k4⟩ := u_known (C := RX4) (T := TX4) (N := 18) (n := 18) hts inX4 (hts _ in_i4)
  have hao : va_AO RX1 s := va_AO.of (hts _ in_ao)
  obtain ⟨aI, rI1, rI2⟩ := ar_at (hts _ in_aI)
  obtain ⟨aB, rB1, rB2⟩ := ar_at (hts _ in_aB)
  obtain ⟨aR, rR1, rR2⟩ := ar_ob hao
  have hA : ∀ a : Nat, a < s.heap.size → ¬ (fun q : Nat => s.heap.size ≤ q) a := fun a h => Nat.not_le.mpr h
  obtain ⟨t1, hT1, hZ1⟩ := st_T1 (A := fun q : Nat => s.heap.size ≤ q) hgv (hts _ in_l1) (hts _ in_in) hA
  obtain ⟨t2, hT2, hZ2⟩ := st_T2 (A := fun q : Nat => s.heap.size ≤ q) hgv (hts _ in_l2) (hts _ in_in) hA
  obtain ⟨t3, hT3, hZ3⟩ := st_T3 (A := fun q : Nat => s.heap.size ≤ q) hgv (hts _ in_l3) (hts _ in_in) hA
  obtain ⟨scr, x1, x2, x3, x4, x5⟩ := hX
  have hT0 : va_T .int b L (fun j => .int (xs j)) (fun q : Nat => s.heap.size ≤ q) s s.heap := ⟨scr, x1, x2, x3, Nat.le_of_eq x4.symm, by rw [x4], x5, hA b hbl⟩
  refine ⟨(l, (fun k => match k with | 0 => c0 | 1 => c1 | 2 => c2 | 3 => c3 | _ => c4, fun k => match k with | 0 => i0 | 1 => i1 | 2 => i2 | 3 => i3 | _ => i4), s.heap.size, (fun k => match k with | 0 => aI | 1 => aB | _ => aR), (fun k => match k with | 0 => b | 1 => t1 | 2 => t2 | _ => t3), L, xs), rfl, rfl, rfl, rfl, ⟨fun k q hq => ?_, fun k q hq => ?_⟩, ⟨fun q hq => va_Nw.of rfl (hts _ (nm_in q hq)), fun q hq => va_Nw.of rfl (hts _ (nf_in q hq))⟩, hao, fun i hi => ?_, fun i h0 hi => ?_, Nat.le_refl _⟩
  · match k, hq with
    | 0, hq => cases hq; exact k0
    | 1, hq => cases hq; exact k1
    | 2, hq => cases hq; exact k2
    | 3, hq => cases hq; exact k3
    | 4, hq => cases hq; exact k4
    | k + 5, hq => simp [vwCl] at hq
  · match k, hq with
    | 0, hq => cases hq; exact ⟨rI1, rI2⟩
    | 1, hq => cases hq; exact ⟨rB1, rB2⟩
    | 2, hq => cases hq; exact ⟨rR1, rR2⟩
    | k + 3, hq => simp [zT] at hq
  · rcases (show i = 0 ∨ i = 1 ∨ i = 2 ∨ i = 3 by omega) with rfl | rfl | rfl | rfl
    · exact hT0
    · exact hT1
    · exact hT2
    · exact hT3
  · rcases (show i = 1 ∨ i = 2 ∨ i = 3 by omega) with rfl | rfl | rfl
    · exact hZ1
    · exact hZ2
    · exact hZ3
theorem GR_zero : GR 99 (fun _ => 0) := ⟨⟨fun _ => by show 0 < 1048576; decide, fun _ _ => Nat.zero_le _⟩, fun _ _ => rfl, fun _ _ _ hp => absurd hp (Nat.not_lt_zero _), fun _ _ _ hp => absurd hp (Nat.not_lt_zero _), Nat.zero_le _⟩
theorem kRow_zero (s : Nat) : kRow (fun _ => 0) s = fun _ => 0 := by
  funext j
  unfold kRow
  split <;> rfl
theorem GS_zero : GS 99 (onesC (fun _ => 0) 9) (fun _ => 0) (fun _ => 0) (fun _ => 0) 0 0 0 :=
  ⟨GR_zero, we5_ones (fun _ _ => rfl), weZ_ones (fun _ _ => rfl), fun _ => Nat.zero_le _, fun _ _ => rfl, fun s _ => by rw [kRow_zero]; exact GR_zero, fun _ _ => rfl, Nat.zero_le _, by decide, Nat.zero_le _⟩
theorem RS_zero : RS (begW (fun _ => 0) 0 0) 0 (onesC (fun _ => 0) 9) (fun _ => 0) (fun _ => 0) (fun _ => 0) 0 0 0 := by
  have h := RS_beg (w := fun _ => 0) (y := 0) (r := fun _ => 0) (we := fun _ => 0) (seen := fun _ => 0) (kept := fun _ => 0) (nw := 0)
  have e : updN (renewC (fun _ => 0) 9) 117 0 = fun _ => 0 := by
    funext j
    unfold updN
    split
    · rfl
    · rw [renewC_at]; split <;> rfl
  rw [e] at h
  exact h
theorem IM_zero {G : zG} {w : Nat → Nat} : IM G 99 w (fun _ => 0) (fun _ => none) [] := ⟨fun _ => 0, 0, rfl, fun _ _ => Or.inl ⟨rfl, rfl⟩, fun _ _ _ _ h => absurd rfl h⟩
def R_law : String := "DarnedSockLaw"
def lw_P (b : Addr) (xs : List Int32) (args : Array Value) (s : State) : Prop := args = #[.ref b] ∧ s.IntsAt b xs ∧ xs.length ≤ 2560 ∧ (Jvm.Cond.and given_1 narrow_1).before args s = true
def lw_Q (_ : Array Value) (s : State) (o : Outcome) (t : State) : Prop := o = .returned (some (.int 1)) ∧ Framed s o t [] 600000 7302250
def lw_Z (below : List Frame) (a : Array Value) (s : State) : State → Prop := fun t => ∃ o, t.status = .running ∧ Ended t below o ∧ lw_Q a s o t
/-- the law's own end, with 1 on the stack, nothing written that was there before, its room as the claim has it -/
theorem lw_ret {p : Program} {l : Launch} {e : Env} {s : State} {m : MethodId} {below : List Frame} {meth : Method} {c : Code} {b : Nat} (hx : p.tables.exec = Jvm.exec) (hb : c.code = code) (hr : meth.sig.returnType = ret) (hlocks : meth.locks = false) {pc : Nat} {H : Heap} {ls : Array Slot} (hdg : decode code pc = .ok (.ireturn, 1)) : W p l e room_1 s m #[Value.ref b] below meth c H [] 600000 7302250 (lw_Z below #[Value.ref b] s) (F0 m pc ls [.int 1]) := by
  intro T hT X
  obtain ⟨fs, hret, hrun, hended, hW, hframe⟩ := X.leave (v := some (.int 1)) (hlocks := hlocks) (fun h => by rw [hr] at h; cases h)
  have hmeth' : T.vm.method? m = some meth := X.method'
  refine ⟨T.setFrames fs, ?_, .returned (some (.int 1)), hrun, hended, rfl, ⟨_, rfl⟩, hW, hframe⟩
  jvm_step X.here [X.here.top, hx, hb, hdg, hmeth', hr, ret, narrow_b1]
  (try refine ⟨rfl, ?_⟩); (try refine ⟨rfl, ?_⟩)
  first | (intro acts; rw [hret _ acts rfl rfl rfl]) | rw [hret _ _ rfl rfl rfl]
  exact Steps.refl _
/-- what holds at the law's entry: the machine, the code, the tables' words (any of lw_tbl by 'hts w (by decide +kernel)'), the script of L ints xs at the cell b, what the Statement gives of the start (any of its parts by flat_of_before) -/
def lw_At (p : Program) (s : State) (m : MethodId) (meth : Method) (c : Code) (b L : Nat) (xs : Nat → Int32) : Prop :=
  p.tables.exec = Jvm.exec ∧ c.code = code ∧ meth.sig.returnType = ret ∧ c.maxLocals = 4 ∧ s.vm.findClass R_law = some m.cls ∧ (∀ w ∈ lw_tbl, w.before #[Value.ref b] s = true) ∧ va_X b L xs s s.heap ∧ b < s.heap.size ∧ meth.locks = false ∧ (Jvm.Cond.and given_1 narrow_1).before #[Value.ref b] s = true
