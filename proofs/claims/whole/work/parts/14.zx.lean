section ZX
variable {G : zG} {F : zF} {y : MethodName} {cc : ByteArray} {nL : Nat} {ret : Option FieldType} {own : String} {d n0 cells slots pc : Nat} {Q : State → Prop} {lv : List (Nat × Value)} {st : List Value} {M : List va_E}
def zkp (lv : List (Nat × Value)) (ks : List Nat) : List (Nat × Value) := lv.filter (fun q => ks.contains q.1)
theorem z_kp {lv' : List (Nat × Value)} (ks : List Nat) (h : zkp lv ks = lv') (kk : Z G F cells slots Q pc lv' st M) : Z G F cells slots Q pc lv st M :=
  z_lv (fun q hq => (List.mem_filter.mp (show q ∈ zkp lv ks by rw [h]; exact hq)).1) kk
theorem z_tabN (O : zOk G F y cc nL ret own d n0) {dflt lo hi : Int} {offs : Array Int} {len : Nat} {a : Nat} {off : Int} (v tgt : Nat) (hd : decode cc pc = .ok (.tableswitch dflt lo hi offs, len)) (ho : offs[((v : Int) - lo).toNat]? = some off) (h1 : lo ≤ (v : Int)) (h2 : (v : Int) ≤ hi) (hv : v < 2 ^ 31) (ht : (pc : Int) + off = (tgt : Int)) (kt : a = v → Z G F cells slots Q (tgt) lv (st) M) (kf : ¬ a = v → Z G F cells slots Q (pc) lv (.int (nI a) :: st) M) : Z G F cells slots Q (pc) lv (.int (nI a) :: st) M := by
  by_cases h : a = v
  · have e : (nI a).toInt = (v : Int) := by rw [h]; exact nI_toInt hv
    exact z_tableIn O tgt hd (by rw [e]; omega) (by rw [e]; omega) (by rw [e]; exact ho) ht (kt h)
  · exact kf h
theorem z_tabNI (O : zOk G F y cc nL ret own d n0) {dflt lo hi : Int} {offs : Array Int} {len : Nat} {a : Nat} {off : Int} (v tgt : Nat) (hd : decode cc pc = .ok (.tableswitch dflt lo hi offs, len)) (h : a = v) (ho : offs[((v : Int) - lo).toNat]? = some off) (h1 : lo ≤ (v : Int)) (h2 : (v : Int) ≤ hi) (hv : v < 2 ^ 31) (ht : (pc : Int) + off = (tgt : Int)) (kt : Z G F cells slots Q (tgt) lv (st) M) : Z G F cells slots Q (pc) lv (.int (nI a) :: st) M :=
  z_tabN O v tgt hd ho h1 h2 hv ht (fun _ => kt) (fun h' => absurd h h')
theorem z_tabNO (O : zOk G F y cc nL ret own d n0) {dflt lo hi : Int} {offs : Array Int} {len : Nat} {a : Nat} (tgt : Nat) (hd : decode cc pc = .ok (.tableswitch dflt lo hi offs, len)) (h : (a : Int) < lo ∨ hi < (a : Int)) (ha : a < 2 ^ 31) (ht : (pc : Int) + dflt = (tgt : Int)) (k : Z G F cells slots Q (tgt) lv (st) M) : Z G F cells slots Q (pc) lv (.int (nI a) :: st) M :=
  z_tableOut O tgt hd (by rw [nI_toInt ha]; exact h) ht k
theorem z_idecN (O : zOk G F y cc nL ret own d n0) {i : Nat} {n : Int} {a : Nat} (c0 : Nat) {lv' : List (Nat × Value)} (hd : decode cc pc = .ok (.iinc i n, 3)) (hn : i < nL) (hk : lv.lookup i = some (.int (nI a))) (h : c0 ≤ a) (hl' : zst1 lv i (.int (nI (a - c0))) = lv') (hc : Int32.ofInt n = - nI c0) (k : Z G F cells slots Q (pc + 3) lv' (st) M) : Z G F cells slots Q (pc) lv (st) M :=
  z_iinc O (- nI c0) hd hn hk (by rw [show nI a + -nI c0 = nI a - nI c0 from (Int32.sub_eq_add_neg _ _).symm, pk_sub h]; exact hl') hc k
/-- a number of threads that is left, or less than none -/
def lfx (x : Int32) (n : Nat) : Prop := (n = 0 ∧ x ≤ 0) ∨ (0 < n ∧ x = nI n)
theorem lfx_n {n : Nat} : lfx (nI n) n := by
  by_cases h : n = 0
  · exact Or.inl ⟨h, by rw [h, nI_0]; exact Int32.le_refl 0⟩
  · exact Or.inr ⟨by omega, rfl⟩
theorem lfx_le {x : Int32} {n : Nat} (h : lfx x n) (hn : n < 2 ^ 31) : x ≤ 0 ↔ n = 0 := by
  rcases h with ⟨h1, h2⟩ | ⟨h1, rfl⟩
  · exact ⟨fun _ => h1, fun _ => h2⟩
  · exact ⟨fun h => absurd h (nI_nle h1 hn), fun h => by omega⟩
theorem lfx_sub {t l : Nat} (ht : t < 2 ^ 30) (hl : l < 2 ^ 30) : lfx (nI t - nI l) (t - l) := by
  by_cases h : t ≤ l
  · refine Or.inl ⟨by omega, ?_⟩
    rw [Int32.le_iff_toInt_le, pk_sub_toInt ht hl, Int32.toInt_zero]
    omega
  · exact Or.inr ⟨by omega, pk_sub (by omega)⟩
end ZX
/-- as zS.of, for a class that isn't plain by its name -/
theorem zS.ofF {G : zG} {d : Nat} {y : MethodName} {cc : ByteArray} {nL : Nat} {ret : Option FieldType} {av : List Value} {M : List va_E} {mc ms : Nat} {Q1 : Option Value → List va_E → Prop}
    (hy : plainFor y = true) (hn : (lg_sl av).length ≤ nL)
    (h : ∀ F : zF, zOk G F y cc nL ret y.cls d M.length → (zfR F).cells = mc → (zfR F).slots = ms → Z G F 0 0 (zEnd G F Q1 mc ms) 0 (lv_args 0 av) [] M) : zS G d y cc nL ret av M mc ms Q1 := by
  unfold zS Met
  refine MetFree.of_bodySF (code := cc) (maxLocals := nL) (ret := ret) hy ?_ ?_
  · intro args s m hp hnm
    obtain ⟨meth, c, h1, h2, h3, h4, h5, h6, -, -⟩ := Cond.code_spec hnm (atoms_spec (ws := Cond.code y cc nL ret :: zTb) hp _ List.mem_cons_self)
    exact ⟨meth, c, h1, h2, h3, h4, h5, h6⟩
  · intro p e s m args below meth c s₁ B hml hv _
    obtain ⟨rfl, hH, hC⟩ := hv
    have hts := atoms_spec (ws := Cond.code y cc nL ret :: zTb) B.pre
    have hown : s.vm.findClass y.cls = some m.cls := findClass_of_methodNamed B.named
    have hl := lv_entry av (n := nL) hn
    have hh0 : s₁.heap = s.heap := by rw [B.state]; rfl
    rw [lg_entry_eq]
    generalize (lg_sl av ++ List.replicate (nL - (lg_sl av).length) Slot.unset).toArray = ls at hl ⊢
    obtain ⟨t, a1, o, b1, b2, b3⟩ := h (p, e, _, s, m, av.toArray, below, meth, c) ⟨B.exec, B.bytes, hml, hown, fun w hw => hts w (List.mem_cons_of_mem _ hw), hC, hH.2, B.notSynchronized, B.returns, Nat.le_refl _, Nat.le_refl _, (name_of_methodNamed B.named B.method).1⟩ rfl rfl s.heap [] ls hH va_S.rf (by show lv_has ls c.maxLocals _; rw [hml]; exact hl) s₁ hh0 (Stand.of_body B)
    exact ⟨t, o, a1, b1, b2, ⟨b3.1, b3.2⟩⟩
