/-! ===== the mini layer: the machine as seen by one method: locals, stack, a list of cells M whose k-th lies at base + k ===== -/
def zad (b k : Nat) : Nat := b + k
abbrev zG : Type := Launch × va_G × Nat × (Nat → ClassId) × (Nat → Nat) × Nat × (Nat → Int32)
abbrev zF : Type := Program × Env × Room × State × MethodId × Array Value × List Frame × Method × Code
abbrev zfp (F : zF) : Program := F.1
abbrev zfe (F : zF) : Env := F.2.1
abbrev zfR (F : zF) : Room := F.2.2.1
abbrev zfs (F : zF) : State := F.2.2.2.1
abbrev zfm (F : zF) : MethodId := F.2.2.2.2.1
abbrev zfa (F : zF) : Array Value := F.2.2.2.2.2.1
abbrev zfb (F : zF) : List Frame := F.2.2.2.2.2.2.1
abbrev zfM (F : zF) : Method := F.2.2.2.2.2.2.2.1
abbrev zfc (F : zF) : Code := F.2.2.2.2.2.2.2.2
abbrev zb (G : zG) : Nat := G.2.2.1
abbrev zca (G : zG) : Nat → ClassId := G.2.2.2.1
abbrev zsa (G : zG) : Nat → Nat := G.2.2.2.2.1
def zW (b : Nat) (M : List va_E) : va_W := M.mapIdx (fun k e => (zad b k, e))
def zA (G : zG) : Nat → Prop := fun q => zb G ≤ q
def zT (G : zG) : List (ClassId × FieldType) := [(zca G 0, .int), (zca G 1, .boolean), (zca G 2, .object RX1)]
def zH (G : zG) (M : List va_E) (H : Heap) : Prop := va_P G.2.1 vwCl (zW (zb G) M) H ∧ H.size = zb G + M.length
def zTb : List Cond := lw_tbl.filter goodWord
theorem zTb_in {w : Cond} (h : w ∈ zTb) : w ∈ lw_tbl := (List.mem_filter.mp h).1
theorem zTb_mem {w : Cond} (h : w ∈ lw_tbl) (hg : goodWord w = true) : w ∈ zTb := List.mem_filter.mpr ⟨h, hg⟩
theorem zTb_mem2 {w : Cond} (i : Nat) (h : lw_tbl[i]? = some w) (hg : goodWord w = true) : w ∈ zTb := zTb_mem (List.mem_of_getElem? h) hg
theorem zTb_good : GoodIn zTb zTb := fun w h => ⟨h, good_of_word (List.mem_filter.mp h).2⟩
/-- the static rows of the class, and the script (row 0) -/
def zLen (G : zG) : Nat → Nat
  | 0 => G.2.2.2.2.2.1
  | 1 => 24
  | 2 => 12
  | _ => 3
def zLine (j : Nat) : Int32 := ([0, 1, 2, 3, 4, 5, 6, 7, 8, 0, 3, 6, 1, 4, 7, 2, 5, 8, 0, 4, 8, 2, 4, 6] : List Int32).getD j 0
def zLett (j : Nat) : Int32 := ([115, 111, 99, 107, 119, 101, 97, 114, 100, 97, 114, 110] : List Int32).getD j 0
def zNumb (j : Nat) : Int32 := ([1, 2, 4] : List Int32).getD j 0
def zCon (G : zG) : Nat → Nat → Int32
  | 0 => G.2.2.2.2.2.2
  | 1 => zLine
  | 2 => zLett
  | _ => zNumb
def zNm : List (String × Nat × MethodName × String) := [(RX3, 11, yX1_init, RX3), (RX3, 29, yX2_init, RX3), (RX0, 27, yX3_within, RX3), (RX0, 46, yX3_between, RX3), (RX0, 65, yX3_loss, RX3), (RX2, 73, yX3_between, RX3), (RX2, 44, yX3_within, RX3), (RX2, 87, yX3_wearsAsTold, RX3), (RX0, 108, yX3_powerOfTen, RX3)]
def zNf : List (String × Nat × String × String × String × String) := [(RX2, 70, RX3, "WORD_LETTERS", "[I", RX3), (RX2, 48, RX3, "WORD_NUMBERS", "[I", RX3), (RX0, 92, RX3, "LINE_CELLS", "[I", RX3)]
def zSt (i : Nat) : String := match i with
  | 1 => "LINE_CELLS"
  | 2 => "WORD_LETTERS"
  | _ => "WORD_NUMBERS"
def zN (U : State) : Prop := (∀ q ∈ zNm, va_Nw (.methodLinkNest q.1 q.2.1 q.2.2.1 q.2.2.2) U) ∧ ∀ q ∈ zNf, va_Nw (.fieldLinkNest q.1 q.2.1 q.2.2.1 q.2.2.2.1 q.2.2.2.2.1 q.2.2.2.2.2) U
def zC (G : zG) (U : State) : Prop := va_K G.2.1 vwCl (zT G) U ∧ zN U ∧ va_AO RX1 U ∧ (∀ i, i < 4 → va_T .int (zsa G i) (zLen G i) (fun j => .int (zCon G i j)) (zA G) U U.heap) ∧ (∀ i, 0 < i → i < 4 → va_Z RX3 (zSt i) "[I" (.ref (zsa G i)) (zA G) U U.heap) ∧ zb G ≤ U.heap.size
theorem zC.warm {G : zG} {s U : State} {H0 : Heap} {locs : List Loc} (h : zC G s) (hW : s.WarmedH U.vm) (hH : U.heap = H0) (hS : va_S (zA G) s.heap H0 locs) : zC G U := by
  subst hH
  obtain ⟨h1, h2, h3, h4, h5, h6⟩ := h
  refine ⟨va_K.moved hW.alike h1, ⟨fun q hq => va_Nw.warmM hW (h2.1 q hq), fun q hq => va_Nw.warmF hW (h2.2 q hq)⟩, va_AO.moved hW.alike h3, fun i hi => ?_, fun i h0 hi => ?_, Nat.le_trans h6 hS.1⟩
  · exact va_T.moved hW.alike (va_T.kept (h4 i hi) (fun a ha hn => hS.2.1 a ha hn))
  · exact va_Z.moved hW.alike (va_Z.kept (h5 i h0 hi) (fun a ha hn => hS.2.1 a ha hn))
theorem zC.blind {G : zG} {U : State} (h : zC G U) (g : JFrame) (mk : MethodId) (a : Array Value) : zC G (U.calling g mk a) := by
  obtain ⟨h1, h2, h3, h4, h5, h6⟩ := h
  have hv : U.vm.Alike (U.calling g mk a).vm := Vm.Alike.refl U.vm
  refine ⟨va_K.moved hv h1, ⟨fun q hq => va_Nw.same rfl rfl (h2.1 q hq), fun q hq => va_Nw.same rfl rfl (h2.2 q hq)⟩, va_AO.moved hv h3, fun i hi => va_T.moved hv (h4 i hi), fun i h0 hi => va_Z.moved hv (h5 i h0 hi), h6⟩
/-! the list of cells -/
theorem zW_get {b : Nat} {M : List va_E} {k : Nat} {e : va_E} (h : M[k]? = some e) : (zW b M)[k]? = some (zad b k, e) := by
  simp [zW, List.getElem?_mapIdx, h]
theorem zW_of {b : Nat} {M : List va_E} {k : Nat} {q : Nat × va_E} (h : (zW b M)[k]? = some q) : M[k]? = some q.2 ∧ q.1 = zad b k := by
  simp only [zW, List.getElem?_mapIdx] at h
  cases hm : M[k]? with
  | none => rw [hm] at h; cases h
  | some e => rw [hm] at h; cases h; exact ⟨rfl, rfl⟩
theorem zW_set {b : Nat} {M : List va_E} {k : Nat} {e : va_E} : (zW b M).set k (zad b k, e) = zW b (M.set k e) := by
  apply List.ext_getElem?
  intro i
  by_cases hi : i = k
  · subst hi
    by_cases hl : i < M.length
    · simp [zW, List.getElem?_mapIdx, List.getElem?_set, hl]
    · simp [zW, List.getElem?_mapIdx, List.getElem?_set, hl]
  · simp [zW, List.getElem?_mapIdx, List.getElem?_set, Ne.symm hi]
theorem zW_push {b : Nat} {M : List va_E} {e : va_E} : zW b M ++ [(zad b M.length, e)] = zW b (M ++ [e]) := by
  simp [zW, List.mapIdx_append]
theorem zD (G : zG) (M : List va_E) : va_D (zA G) (zW (zb G) M) := by
  refine ⟨fun i j p q hp hq he => ?_, fun k q hq => ?_⟩
  · have h1 := (zW_of hp).2
    have h2 := (zW_of hq).2
    rw [h1, h2] at he
    unfold zad at he
    omega
  · have h1 := (zW_of hq).2
    show zb G ≤ q.1
    rw [h1]
    unfold zad
    omega
/-! Z -/
def Z (G : zG) (F : zF) (cells slots : Nat) (Q : State → Prop) (pc : Nat) (lv : List (Nat × Value)) (st : List Value) (M : List va_E) : Prop :=
  ∀ (H : Heap) (locs : List Loc) (ls : Array Slot), zH G M H → va_S (zA G) (zfs F).heap H locs → lv_has ls (zfc F).maxLocals lv →
    W (zfp F) G.1 (zfe F) (zfR F) (zfs F) (zfm F) (zfa F) (zfb F) (zfM F) (zfc F) H locs cells slots Q (F0 (zfm F) pc ls st)
def zOk (G : zG) (F : zF) (y : MethodName) (cc : ByteArray) (nL : Nat) (ret : Option FieldType) (own : String) (d n0 : Nat) : Prop :=
  (zfp F).tables.exec = Jvm.exec ∧ (zfc F).code = cc ∧ (zfc F).maxLocals = nL ∧ (zfs F).vm.findClass own = some (zfm F).cls ∧ (∀ w ∈ zTb, w.before (zfa F) (zfs F) = true) ∧ zC G (zfs F) ∧ (zfs F).heap.size = zb G + n0 ∧ (zfM F).locks = false ∧ (zfM F).sig.returnType = ret ∧ d ≤ (zfR F).frames ∧ 64 * d ≤ (zfR F).locals ∧ (zfM F).name = y.name
/-- the size of the heap is held by the count of the new cells -/
theorem W.size {p : Program} {l : Launch} {e : Env} {R : Room} {s : State} {m : MethodId} {args : Array Value} {below : List Frame} {meth : Method} {c : Code} {H : Heap} {locs : List Loc} {cells slots : Nat} {Q : State → Prop} {g : JFrame}
    (k : H.size ≤ s.heap.size + cells → W p l e R s m args below meth c H locs cells slots Q g) : W p l e R s m args below meth c H locs cells slots Q g := by
  intro T hT X
  exact k (by rw [← hT]; exact X.heapSize) T hT X
def zQc (G : zG) (Q1 : Option Value → List va_E → Prop) : Array Value → State → Outcome → State → Prop := fun _ st oc t => (∃ v M', oc = .returned v ∧ Q1 v M' ∧ zH G M' t.heap) ∧ va_F (zA G) st t
def zEnd (G : zG) (F : zF) (Q1 : Option Value → List va_E → Prop) (mc ms : Nat) : State → Prop := MQ (zfb F) (zQc G Q1) (zfa F) (zfs F) mc ms (zA G)
/-- the contract of a method, in the mini layer's words -/
def zS (G : zG) (d : Nat) (y : MethodName) (cc : ByteArray) (nL : Nat) (ret : Option FieldType) (av : List Value) (M : List va_E) (mc ms : Nat) (Q1 : Option Value → List va_E → Prop) : Prop :=
  Met G.1 y (.code y cc nL ret :: zTb) { frames := d, cells := mc, slots := ms, locals := 64 * d } (va_Pc av (fun U => zH G M U.heap ∧ zC G U)) (zQc G Q1) mc ms (zA G)
theorem zS.of {G : zG} {d : Nat} {y : MethodName} {cc : ByteArray} {nL : Nat} {ret : Option FieldType} {av : List Value} {M : List va_E} {mc ms : Nat} {Q1 : Option Value → List va_E → Prop}
    (hy : plainName y.cls = true) (hn : (lg_sl av).length ≤ nL)
    (h : ∀ F : zF, zOk G F y cc nL ret y.cls d M.length → (zfR F).cells = mc → (zfR F).slots = ms → Z G F 0 0 (zEnd G F Q1 mc ms) 0 (lv_args 0 av) [] M) : zS G d y cc nL ret av M mc ms Q1 := by
  refine Met.ofW (cc := cc) (maxL := nL) (ret := ret) hy rfl ?_
  intro p e s m args below meth c s₁ B hml hv
  obtain ⟨rfl, hH, hC⟩ := hv
  have hts := atoms_spec (ws := Cond.code y cc nL ret :: zTb) B.pre
  have hown : s.vm.findClass y.cls = some m.cls := findClass_of_methodNamed B.named
  have hl := lv_entry av (n := nL) hn
  rw [lg_entry_eq]
  generalize (lg_sl av ++ List.replicate (nL - (lg_sl av).length) Slot.unset).toArray = ls at hl ⊢
  exact h (p, e, _, s, m, av.toArray, below, meth, c) ⟨B.exec, B.bytes, hml, hown, fun w hw => hts w (List.mem_cons_of_mem _ hw), hC, hH.2, B.notSynchronized, B.returns, Nat.le_refl _, Nat.le_refl _, (name_of_methodNamed B.named B.method).1⟩ rfl rfl s.heap [] ls hH va_S.rf (by show lv_has ls c.maxLocals _; rw [hml]; exact hl)
section ZR
variable {G : zG} {F : zF} {y : MethodName} {cc : ByteArray} {nL : Nat} {ret : Option FieldType} {own : String} {d n0 cells slots pc : Nat} {Q : State → Prop} {lv : List (Nat × Value)} {st : List Value} {M : List va_E}
theorem zlk_mem : ∀ {l : List (Nat × Value)} {i : Nat} {v : Value}, l.lookup i = some v → (i, v) ∈ l
  | [], i, v, h => by cases h
  | (j, u) :: l, i, v, h => by
    rw [List.lookup_cons] at h
    by_cases hj : (i == j) = true
    · rw [hj] at h
      have e : i = j := by simpa using hj
      subst e
      cases h
      exact List.mem_cons_self
    · have hj' : (i == j) = false := by simpa using hj
      rw [hj'] at h
      exact List.mem_cons_of_mem _ (zlk_mem h)
theorem zlk {ls : Array Slot} {n i : Nat} {v : Value} (h : lv_has ls n lv) (hk : lv.lookup i = some v) : ls[i]? = some (.val v) := h.2.2 (i, v) (zlk_mem hk)
theorem z_iconst (O : zOk G F y cc nL ret own d n0) {n : Int} (v : Int32) (hd : decode cc pc = .ok (.iconst n, 1)) (hv : Int32.ofInt n = v := by decide) (k : Z G F cells slots Q (pc + 1) lv (.int v :: st) M) : Z G F cells slots Q (pc) lv (st) M :=
  fun H locs ls hH hS hl => lv_iconst O.1 O.2.1 hd hv (k H locs ls hH hS hl)
theorem z_bipush (O : zOk G F y cc nL ret own d n0) {n : Int} (v : Int32) (hd : decode cc pc = .ok (.bipush n, 2)) (hv : (Int8.ofInt n).toInt32 = v := by decide) (k : Z G F cells slots Q (pc + 2) lv (.int v :: st) M) : Z G F cells slots Q (pc) lv (st) M :=
  fun H locs ls hH hS hl => lv_bipush O.1 O.2.1 hd hv (k H locs ls hH hS hl)
theorem z_sipush (O : zOk G F y cc nL ret own d n0) {n : Int} (v : Int32) (hd : decode cc pc = .ok (.sipush n, 3)) (hv : (Int16.ofInt n).toInt32 = v := by decide) (k : Z G F cells slots Q (pc + 3) lv (.int v :: st) M) : Z G F cells slots Q (pc) lv (st) M :=
  fun H locs ls hH hS hl => lv_sipush O.1 O.2.1 hd hv (k H locs ls hH hS hl)
theorem z_lconst (O : zOk G F y cc nL ret own d n0) {n : Fin 2} (v : Int64) (hd : decode cc pc = .ok (.lconst n, 1)) (hv : Int64.ofNat (n : Nat) = v := by decide) (k : Z G F cells slots Q (pc + 1) lv (.long v :: st) M) : Z G F cells slots Q (pc) lv (st) M :=
  fun H locs ls hH hS hl => lv_lconst O.1 O.2.1 hd hv (k H locs ls hH hS hl)
theorem z_iload_n (O : zOk G F y cc nL ret own d n0) {k0 : Fin 4} {x : Int32} (hd : decode cc pc = .ok (.iload_n k0, 1)) (hk : lv.lookup (k0 : Nat) = some (.int x) := by rfl) (k : Z G F cells slots Q (pc + 1) lv (.int x :: st) M) : Z G F cells slots Q (pc) lv (st) M :=
  fun H locs ls hH hS hl => lv_iload_n O.1 O.2.1 hd rfl (zlk hl hk) (k H locs ls hH hS hl)
theorem z_iload (O : zOk G F y cc nL ret own d n0) {i : Nat} {x : Int32} (hd : decode cc pc = .ok (.iload i, 2)) (hk : lv.lookup i = some (.int x) := by rfl) (k : Z G F cells slots Q (pc + 2) lv (.int x :: st) M) : Z G F cells slots Q (pc) lv (st) M :=
  fun H locs ls hH hS hl => lv_iload O.1 O.2.1 hd (zlk hl hk) (k H locs ls hH hS hl)
theorem z_lload_n (O : zOk G F y cc nL ret own d n0) {k0 : Fin 4} {x : Int64} (hd : decode cc pc = .ok (.lload_n k0, 1)) (hk : lv.lookup (k0 : Nat) = some (.long x) := by rfl) (k : Z G F cells slots Q (pc + 1) lv (.long x :: st) M) : Z G F cells slots Q (pc) lv (st) M :=
  fun H locs ls hH hS hl => lv_lload_n O.1 O.2.1 hd rfl (zlk hl hk) (k H locs ls hH hS hl)
theorem z_lload (O : zOk G F y cc nL ret own d n0) {i : Nat} {x : Int64} (hd : decode cc pc = .ok (.lload i, 2)) (hk : lv.lookup i = some (.long x) := by rfl) (k : Z G F cells slots Q (pc + 2) lv (.long x :: st) M) : Z G F cells slots Q (pc) lv (st) M :=
  fun H locs ls hH hS hl => lv_lload O.1 O.2.1 hd (zlk hl hk) (k H locs ls hH hS hl)
theorem z_aload_n (O : zOk G F y cc nL ret own d n0) {k0 : Fin 4} {x : Nat} (hd : decode cc pc = .ok (.aload_n k0, 1)) (hk : lv.lookup (k0 : Nat) = some (.ref x) := by rfl) (k : Z G F cells slots Q (pc + 1) lv (.ref x :: st) M) : Z G F cells slots Q (pc) lv (st) M :=
  fun H locs ls hH hS hl => lv_aload_n O.1 O.2.1 hd rfl (zlk hl hk) (k H locs ls hH hS hl)
theorem z_aload (O : zOk G F y cc nL ret own d n0) {i : Nat} {x : Nat} (hd : decode cc pc = .ok (.aload i, 2)) (hk : lv.lookup i = some (.ref x) := by rfl) (k : Z G F cells slots Q (pc + 2) lv (.ref x :: st) M) : Z G F cells slots Q (pc) lv (st) M :=
  fun H locs ls hH hS hl => lv_aload O.1 O.2.1 hd (zlk hl hk) (k H locs ls hH hS hl)
theorem z_aload_nN (O : zOk G F y cc nL ret own d n0) {k0 : Fin 4} (hd : decode cc pc = .ok (.aload_n k0, 1)) (hk : lv.lookup (k0 : Nat) = some .null := by rfl) (k : Z G F cells slots Q (pc + 1) lv (.null :: st) M) : Z G F cells slots Q (pc) lv (st) M :=
  fun H locs ls hH hS hl => lv_aload_nN O.1 O.2.1 hd rfl (zlk hl hk) (k H locs ls hH hS hl)
def zins : List (Nat × Value) → Nat → Value → List (Nat × Value)
  | [], i, v => [(i, v)]
  | (j, u) :: l, i, v => bif Nat.blt j i then (j, u) :: zins l i v else (i, v) :: (j, u) :: l
def zst1 (lv : List (Nat × Value)) (i : Nat) (v : Value) : List (Nat × Value) := zins (lv.filter (fun q => !(q.1 == i) && !(q.1 + 1 == i && q.2.category == 2))) i v
def zst2 (lv : List (Nat × Value)) (i : Nat) (v : Value) : List (Nat × Value) := zins (lv.filter (fun q => !(q.1 == i) && (!(q.1 == i + 1) && !(q.1 + 1 == i && q.2.category == 2)))) i v
theorem zins_mem : ∀ {l : List (Nat × Value)} {i : Nat} {v : Value} {q : Nat × Value}, q ∈ zins l i v → q ∈ (i, v) :: l
  | [], i, v, q, h => h
  | (j, u) :: l, i, v, q, h => by
    unfold zins at h
    cases hb : Nat.blt j i with
    | false => rw [hb] at h; exact h
    | true =>
      rw [hb] at h
      rcases List.mem_cons.mp h with rfl | h
      · exact List.mem_cons_of_mem _ List.mem_cons_self
      · rcases List.mem_cons.mp (zins_mem h) with rfl | h
        · exact List.mem_cons_self
        · exact List.mem_cons_of_mem _ (List.mem_cons_of_mem _ h)
theorem lv_has.less {ls : Array Slot} {n : Nat} {l l' : List (Nat × Value)} (h : lv_has ls n l) (hl : ∀ q, q ∈ l' → q ∈ l) : lv_has ls n l' := ⟨h.1, h.2.1, fun q hq => h.2.2 q (hl q hq)⟩
theorem z_istore_n (O : zOk G F y cc nL ret own d n0) {k0 : Fin 4} {x : Int32} {lv' : List (Nat × Value)} (hd : decode cc pc = .ok (.istore_n k0, 1)) (hn : (k0 : Nat) < nL) (hl' : zst1 lv (k0 : Nat) (.int x) = lv') (k : Z G F cells slots Q (pc + 1) lv' (st) M) : Z G F cells slots Q (pc) lv (.int x :: st) M := by
  intro H locs ls hH hS hl
  refine lv_istore_n O.1 O.2.1 hd rfl hl (by rw [O.2.2.1]; exact hn) rfl (fun ls' h' => k H locs ls' hH hS ?_)
  exact h'.less (fun q hq => zins_mem (by rw [← hl'] at hq; exact hq))
theorem z_istore (O : zOk G F y cc nL ret own d n0) {i : Nat} {x : Int32} {lv' : List (Nat × Value)} (hd : decode cc pc = .ok (.istore i, 2)) (hn : i < nL) (hl' : zst1 lv i (.int x) = lv') (k : Z G F cells slots Q (pc + 2) lv' (st) M) : Z G F cells slots Q (pc) lv (.int x :: st) M := by
  intro H locs ls hH hS hl
  refine lv_istore O.1 O.2.1 hd hl (by rw [O.2.2.1]; exact hn) rfl (fun ls' h' => k H locs ls' hH hS ?_)
  exact h'.less (fun q hq => zins_mem (by rw [← hl'] at hq; exact hq))
theorem z_lstore_n (O : zOk G F y cc nL ret own d n0) {k0 : Fin 4} {x : Int64} {lv' : List (Nat × Value)} (hd : decode cc pc = .ok (.lstore_n k0, 1)) (hn : (k0 : Nat) + 1 < nL) (hl' : zst2 lv (k0 : Nat) (.long x) = lv') (k : Z G F cells slots Q (pc + 1) lv' (st) M) : Z G F cells slots Q (pc) lv (.long x :: st) M := by
  intro H locs ls hH hS hl
  refine lv_lstore_n O.1 O.2.1 hd rfl hl (by rw [O.2.2.1]; exact hn) rfl (fun ls' h' => k H locs ls' hH hS ?_)
  exact h'.less (fun q hq => zins_mem (by rw [← hl'] at hq; exact hq))
theorem z_lstore (O : zOk G F y cc nL ret own d n0) {i : Nat} {x : Int64} {lv' : List (Nat × Value)} (hd : decode cc pc = .ok (.lstore i, 2)) (hn : i + 1 < nL) (hl' : zst2 lv i (.long x) = lv') (k : Z G F cells slots Q (pc + 2) lv' (st) M) : Z G F cells slots Q (pc) lv (.long x :: st) M := by
  intro H locs ls hH hS hl
  refine lv_lstore O.1 O.2.1 hd hl (by rw [O.2.2.1]; exact hn) rfl (fun ls' h' => k H locs ls' hH hS ?_)
  exact h'.less (fun q hq => zins_mem (by rw [← hl'] at hq; exact hq))
theorem z_astore_n (O : zOk G F y cc nL ret own d n0) {k0 : Fin 4} {x : Nat} {lv' : List (Nat × Value)} (hd : decode cc pc = .ok (.astore_n k0, 1)) (hn : (k0 : Nat) < nL) (hl' : zst1 lv (k0 : Nat) (.ref x) = lv') (k : Z G F cells slots Q (pc + 1) lv' (st) M) : Z G F cells slots Q (pc) lv (.ref x :: st) M := by
  intro H locs ls hH hS hl
  refine lv_astore_n O.1 O.2.1 hd rfl hl (by rw [O.2.2.1]; exact hn) rfl (fun ls' h' => k H locs ls' hH hS ?_)
  exact h'.less (fun q hq => zins_mem (by rw [← hl'] at hq; exact hq))
theorem z_astore_nN (O : zOk G F y cc nL ret own d n0) {k0 : Fin 4} {lv' : List (Nat × Value)} (hd : decode cc pc = .ok (.astore_n k0, 1)) (hn : (k0 : Nat) < nL) (hl' : zst1 lv (k0 : Nat) (.null) = lv') (k : Z G F cells slots Q (pc + 1) lv' (st) M) : Z G F cells slots Q (pc) lv (.null :: st) M := by
  intro H locs ls hH hS hl
  refine lv_astore_nN O.1 O.2.1 hd rfl hl (by rw [O.2.2.1]; exact hn) rfl (fun ls' h' => k H locs ls' hH hS ?_)
  exact h'.less (fun q hq => zins_mem (by rw [← hl'] at hq; exact hq))
theorem z_iinc (O : zOk G F y cc nL ret own d n0) {i : Nat} {n : Int} {x : Int32} (c0 : Int32) {lv' : List (Nat × Value)} (hd : decode cc pc = .ok (.iinc i n, 3)) (hn : i < nL) (hk : lv.lookup i = some (.int x)) (hl' : zst1 lv i (.int (x + c0)) = lv') (hc : Int32.ofInt n = c0 := by decide) (k : Z G F cells slots Q (pc + 3) lv' (st) M) : Z G F cells slots Q (pc) lv (st) M := by
  intro H locs ls hH hS hl
  subst hc
  obtain ⟨k', hk'⟩ := List.mem_iff_getElem?.mp (zlk_mem hk)
  refine lv_iinc O.1 O.2.1 hd hl hk' rfl (by rw [O.2.2.1]; exact hn) rfl (fun ls' h' => k H locs ls' hH hS ?_)
  exact h'.less (fun q hq => zins_mem (by rw [← hl'] at hq; exact hq))
theorem z_iadd (O : zOk G F y cc nL ret own d n0) {x y : Int32} (hd : decode cc pc = .ok (.iadd, 1)) (k : Z G F cells slots Q (pc + 1) lv (.int (x + y) :: st) M) : Z G F cells slots Q (pc) lv (.int y :: .int x :: st) M :=
  fun H locs ls hH hS hl => lv_iadd O.1 O.2.1 hd (k H locs ls hH hS hl)
theorem z_isub (O : zOk G F y cc nL ret own d n0) {x y : Int32} (hd : decode cc pc = .ok (.isub, 1)) (k : Z G F cells slots Q (pc + 1) lv (.int (x - y) :: st) M) : Z G F cells slots Q (pc) lv (.int y :: .int x :: st) M :=
  fun H locs ls hH hS hl => lv_isub O.1 O.2.1 hd (k H locs ls hH hS hl)
theorem z_imul (O : zOk G F y cc nL ret own d n0) {x y : Int32} (hd : decode cc pc = .ok (.imul, 1)) (k : Z G F cells slots Q (pc + 1) lv (.int (x * y) :: st) M) : Z G F cells slots Q (pc) lv (.int y :: .int x :: st) M :=
  fun H locs ls hH hS hl => lv_imul O.1 O.2.1 hd (k H locs ls hH hS hl)
theorem z_iand (O : zOk G F y cc nL ret own d n0) {x y : Int32} (hd : decode cc pc = .ok (.iand, 1)) (k : Z G F cells slots Q (pc + 1) lv (.int (x &&& y) :: st) M) : Z G F cells slots Q (pc) lv (.int y :: .int x :: st) M :=
  fun H locs ls hH hS hl => lv_iand O.1 O.2.1 hd (k H locs ls hH hS hl)
theorem z_ior (O : zOk G F y cc nL ret own d n0) {x y : Int32} (hd : decode cc pc = .ok (.ior, 1)) (k : Z G F cells slots Q (pc + 1) lv (.int (x ||| y) :: st) M) : Z G F cells slots Q (pc) lv (.int y :: .int x :: st) M :=
  fun H locs ls hH hS hl => lv_ior O.1 O.2.1 hd (k H locs ls hH hS hl)
theorem z_ishl (O : zOk G F y cc nL ret own d n0) {x y : Int32} (hd : decode cc pc = .ok (.ishl, 1)) (k : Z G F cells slots Q (pc + 1) lv (.int (x <<< (y &&& 31)) :: st) M) : Z G F cells slots Q (pc) lv (.int y :: .int x :: st) M :=
  fun H locs ls hH hS hl => lv_ishl O.1 O.2.1 hd (k H locs ls hH hS hl)
theorem z_ishr (O : zOk G F y cc nL ret own d n0) {x y : Int32} (hd : decode cc pc = .ok (.ishr, 1)) (k : Z G F cells slots Q (pc + 1) lv (.int (x >>> (y &&& 31)) :: st) M) : Z G F cells slots Q (pc) lv (.int y :: .int x :: st) M :=
  fun H locs ls hH hS hl => lv_ishr O.1 O.2.1 hd (k H locs ls hH hS hl)
theorem z_iushr (O : zOk G F y cc nL ret own d n0) {x y : Int32} (hd : decode cc pc = .ok (.iushr, 1)) (k : Z G F cells slots Q (pc + 1) lv (.int ((x.toUInt32 >>> (y.toUInt32 &&& Int32.toUInt32 31)).toInt32) :: st) M) : Z G F cells slots Q (pc) lv (.int y :: .int x :: st) M :=
  fun H locs ls hH hS hl => lv_iushr O.1 O.2.1 hd rfl (k H locs ls hH hS hl)
theorem z_idiv (O : zOk G F y cc nL ret own d n0) {x y : Int32} (hd : decode cc pc = .ok (.idiv, 1)) (h0 : ¬ y = 0) (k : Z G F cells slots Q (pc + 1) lv (.int (x / y) :: st) M) : Z G F cells slots Q (pc) lv (.int y :: .int x :: st) M :=
  fun H locs ls hH hS hl => lv_idiv O.1 O.2.1 hd h0 (k H locs ls hH hS hl)
theorem z_irem (O : zOk G F y cc nL ret own d n0) {x y : Int32} (hd : decode cc pc = .ok (.irem, 1)) (h0 : ¬ y = 0) (k : Z G F cells slots Q (pc + 1) lv (.int (x - x / y * y) :: st) M) : Z G F cells slots Q (pc) lv (.int y :: .int x :: st) M :=
  fun H locs ls hH hS hl => lv_irem O.1 O.2.1 hd h0 (k H locs ls hH hS hl)
theorem z_ladd (O : zOk G F y cc nL ret own d n0) {x y : Int64} (hd : decode cc pc = .ok (.ladd, 1)) (k : Z G F cells slots Q (pc + 1) lv (.long (x + y) :: st) M) : Z G F cells slots Q (pc) lv (.long y :: .long x :: st) M :=
  fun H locs ls hH hS hl => lv_ladd O.1 O.2.1 hd (k H locs ls hH hS hl)
theorem z_lsub (O : zOk G F y cc nL ret own d n0) {x y : Int64} (hd : decode cc pc = .ok (.lsub, 1)) (k : Z G F cells slots Q (pc + 1) lv (.long (x - y) :: st) M) : Z G F cells slots Q (pc) lv (.long y :: .long x :: st) M :=
  fun H locs ls hH hS hl => lv_lsub O.1 O.2.1 hd (k H locs ls hH hS hl)
theorem z_lmul (O : zOk G F y cc nL ret own d n0) {x y : Int64} (hd : decode cc pc = .ok (.lmul, 1)) (k : Z G F cells slots Q (pc + 1) lv (.long (x * y) :: st) M) : Z G F cells slots Q (pc) lv (.long y :: .long x :: st) M :=
  fun H locs ls hH hS hl => lv_lmul O.1 O.2.1 hd (k H locs ls hH hS hl)
theorem z_ldiv (O : zOk G F y cc nL ret own d n0) {x y : Int64} (hd : decode cc pc = .ok (.ldiv, 1)) (h0 : ¬ y = 0) (k : Z G F cells slots Q (pc + 1) lv (.long (x / y) :: st) M) : Z G F cells slots Q (pc) lv (.long y :: .long x :: st) M :=
  fun H locs ls hH hS hl => lv_ldiv O.1 O.2.1 hd h0 (k H locs ls hH hS hl)
theorem z_lrem (O : zOk G F y cc nL ret own d n0) {x y : Int64} (hd : decode cc pc = .ok (.lrem, 1)) (h0 : ¬ y = 0) (k : Z G F cells slots Q (pc + 1) lv (.long (x - x / y * y) :: st) M) : Z G F cells slots Q (pc) lv (.long y :: .long x :: st) M :=
  fun H locs ls hH hS hl => lv_lrem O.1 O.2.1 hd h0 (k H locs ls hH hS hl)
theorem z_i2l (O : zOk G F y cc nL ret own d n0) {x : Int32} (hd : decode cc pc = .ok (.i2l, 1)) (k : Z G F cells slots Q (pc + 1) lv (.long x.toInt64 :: st) M) : Z G F cells slots Q (pc) lv (.int x :: st) M :=
  fun H locs ls hH hS hl => lv_i2l O.1 O.2.1 hd rfl (k H locs ls hH hS hl)
theorem z_l2i (O : zOk G F y cc nL ret own d n0) {x : Int64} (hd : decode cc pc = .ok (.l2i, 1)) (k : Z G F cells slots Q (pc + 1) lv (.int x.toInt32 :: st) M) : Z G F cells slots Q (pc) lv (.long x :: st) M :=
  fun H locs ls hH hS hl => lv_l2i O.1 O.2.1 hd rfl (k H locs ls hH hS hl)
theorem z_lcmp (O : zOk G F y cc nL ret own d n0) {x y : Int64} (hd : decode cc pc = .ok (.lcmp, 1)) (k : Z G F cells slots Q (pc + 1) lv (.int (lg_cmp x y) :: st) M) : Z G F cells slots Q (pc) lv (.long y :: .long x :: st) M :=
  fun H locs ls hH hS hl => W.lcmp O.1 O.2.1 hd (k H locs ls hH hS hl)
theorem z_dup (O : zOk G F y cc nL ret own d n0) {u : Value} (hd : decode cc pc = .ok (.dup, 1)) (h1 : u.category = 1 := by rfl) (k : Z G F cells slots Q (pc + 1) lv (u :: u :: st) M) : Z G F cells slots Q (pc) lv (u :: st) M :=
  fun H locs ls hH hS hl => lv_dup O.1 O.2.1 hd h1 (k H locs ls hH hS hl)
theorem z_pop (O : zOk G F y cc nL ret own d n0) {u : Value} (hd : decode cc pc = .ok (.pop, 1)) (h1 : u.category = 1 := by rfl) (k : Z G F cells slots Q (pc + 1) lv (st) M) : Z G F cells slots Q (pc) lv (u :: st) M :=
  fun H locs ls hH hS hl => lv_pop O.1 O.2.1 hd h1 (k H locs ls hH hS hl)
theorem z_dup2 (O : zOk G F y cc nL ret own d n0) {u v : Value} (hd : decode cc pc = .ok (.dup2, 1)) (h1 : u.category = 1 := by rfl) (h2 : v.category = 1 := by rfl) (k : Z G F cells slots Q (pc + 1) lv (u :: v :: u :: v :: st) M) : Z G F cells slots Q (pc) lv (u :: v :: st) M :=
  fun H locs ls hH hS hl => lv_dup2_11 O.1 O.2.1 hd h1 h2 (k H locs ls hH hS hl)
theorem z_if_eq (O : zOk G F y cc nL ret own d n0) {x : Int32} {off : Int} (tgt : Nat) (hd : decode cc pc = .ok (.ifCond .eq off, 3)) (ht : (pc : Int) + off = (tgt : Int)) (kt : (x = 0) → Z G F cells slots Q (tgt) lv (st) M) (kf : (¬ (x = 0)) → Z G F cells slots Q (pc + 3) lv (st) M) : Z G F cells slots Q (pc) lv (.int x :: st) M :=
  fun H locs ls hH hS hl => lv_if_eq O.1 O.2.1 hd ht (fun h => kt h H locs ls hH hS hl) (fun h => kf h H locs ls hH hS hl)
theorem z_icmp_eq (O : zOk G F y cc nL ret own d n0) {x y : Int32} {off : Int} (tgt : Nat) (hd : decode cc pc = .ok (.if_icmp .eq off, 3)) (ht : (pc : Int) + off = (tgt : Int)) (kt : (x = y) → Z G F cells slots Q (tgt) lv (st) M) (kf : (¬ (x = y)) → Z G F cells slots Q (pc + 3) lv (st) M) : Z G F cells slots Q (pc) lv (.int y :: .int x :: st) M :=
  fun H locs ls hH hS hl => lv_icmp_eq O.1 O.2.1 hd ht (fun h => kt h H locs ls hH hS hl) (fun h => kf h H locs ls hH hS hl)
theorem z_if_ne (O : zOk G F y cc nL ret own d n0) {x : Int32} {off : Int} (tgt : Nat) (hd : decode cc pc = .ok (.ifCond .ne off, 3)) (ht : (pc : Int) + off = (tgt : Int)) (kt : (¬ x = 0) → Z G F cells slots Q (tgt) lv (st) M) (kf : (x = 0) → Z G F cells slots Q (pc + 3) lv (st) M) : Z G F cells slots Q (pc) lv (.int x :: st) M :=
  fun H locs ls hH hS hl => lv_if_ne O.1 O.2.1 hd ht (fun h => kt h H locs ls hH hS hl) (fun h => kf h H locs ls hH hS hl)
theorem z_icmp_ne (O : zOk G F y cc nL ret own d n0) {x y : Int32} {off : Int} (tgt : Nat) (hd : decode cc pc = .ok (.if_icmp .ne off, 3)) (ht : (pc : Int) + off = (tgt : Int)) (kt : (¬ x = y) → Z G F cells slots Q (tgt) lv (st) M) (kf : (x = y) → Z G F cells slots Q (pc + 3) lv (st) M) : Z G F cells slots Q (pc) lv (.int y :: .int x :: st) M :=
  fun H locs ls hH hS hl => lv_icmp_ne O.1 O.2.1 hd ht (fun h => kt h H locs ls hH hS hl) (fun h => kf h H locs ls hH hS hl)
theorem z_if_lt (O : zOk G F y cc nL ret own d n0) {x : Int32} {off : Int} (tgt : Nat) (hd : decode cc pc = .ok (.ifCond .lt off, 3)) (ht : (pc : Int) + off = (tgt : Int)) (kt : (x < 0) → Z G F cells slots Q (tgt) lv (st) M) (kf : (¬ (x < 0)) → Z G F cells slots Q (pc + 3) lv (st) M) : Z G F cells slots Q (pc) lv (.int x :: st) M :=
  fun H locs ls hH hS hl => lv_if_lt O.1 O.2.1 hd ht (fun h => kt h H locs ls hH hS hl) (fun h => kf h H locs ls hH hS hl)
theorem z_icmp_lt (O : zOk G F y cc nL ret own d n0) {x y : Int32} {off : Int} (tgt : Nat) (hd : decode cc pc = .ok (.if_icmp .lt off, 3)) (ht : (pc : Int) + off = (tgt : Int)) (kt : (x < y) → Z G F cells slots Q (tgt) lv (st) M) (kf : (¬ (x < y)) → Z G F cells slots Q (pc + 3) lv (st) M) : Z G F cells slots Q (pc) lv (.int y :: .int x :: st) M :=
  fun H locs ls hH hS hl => lv_icmp_lt O.1 O.2.1 hd ht (fun h => kt h H locs ls hH hS hl) (fun h => kf h H locs ls hH hS hl)
theorem z_if_ge (O : zOk G F y cc nL ret own d n0) {x : Int32} {off : Int} (tgt : Nat) (hd : decode cc pc = .ok (.ifCond .ge off, 3)) (ht : (pc : Int) + off = (tgt : Int)) (kt : (0 ≤ x) → Z G F cells slots Q (tgt) lv (st) M) (kf : (¬ (0 ≤ x)) → Z G F cells slots Q (pc + 3) lv (st) M) : Z G F cells slots Q (pc) lv (.int x :: st) M :=
  fun H locs ls hH hS hl => lv_if_ge O.1 O.2.1 hd ht (fun h => kt h H locs ls hH hS hl) (fun h => kf h H locs ls hH hS hl)
theorem z_icmp_ge (O : zOk G F y cc nL ret own d n0) {x y : Int32} {off : Int} (tgt : Nat) (hd : decode cc pc = .ok (.if_icmp .ge off, 3)) (ht : (pc : Int) + off = (tgt : Int)) (kt : (y ≤ x) → Z G F cells slots Q (tgt) lv (st) M) (kf : (¬ (y ≤ x)) → Z G F cells slots Q (pc + 3) lv (st) M) : Z G F cells slots Q (pc) lv (.int y :: .int x :: st) M :=
  fun H locs ls hH hS hl => lv_icmp_ge O.1 O.2.1 hd ht (fun h => kt h H locs ls hH hS hl) (fun h => kf h H locs ls hH hS hl)
theorem z_if_gt (O : zOk G F y cc nL ret own d n0) {x : Int32} {off : Int} (tgt : Nat) (hd : decode cc pc = .ok (.ifCond .gt off, 3)) (ht : (pc : Int) + off = (tgt : Int)) (kt : (0 < x) → Z G F cells slots Q (tgt) lv (st) M) (kf : (¬ (0 < x)) → Z G F cells slots Q (pc + 3) lv (st) M) : Z G F cells slots Q (pc) lv (.int x :: st) M :=
  fun H locs ls hH hS hl => lv_if_gt O.1 O.2.1 hd ht (fun h => kt h H locs ls hH hS hl) (fun h => kf h H locs ls hH hS hl)
theorem z_icmp_gt (O : zOk G F y cc nL ret own d n0) {x y : Int32} {off : Int} (tgt : Nat) (hd : decode cc pc = .ok (.if_icmp .gt off, 3)) (ht : (pc : Int) + off = (tgt : Int)) (kt : (y < x) → Z G F cells slots Q (tgt) lv (st) M) (kf : (¬ (y < x)) → Z G F cells slots Q (pc + 3) lv (st) M) : Z G F cells slots Q (pc) lv (.int y :: .int x :: st) M :=
  fun H locs ls hH hS hl => lv_icmp_gt O.1 O.2.1 hd ht (fun h => kt h H locs ls hH hS hl) (fun h => kf h H locs ls hH hS hl)
theorem z_if_le (O : zOk G F y cc nL ret own d n0) {x : Int32} {off : Int} (tgt : Nat) (hd : decode cc pc = .ok (.ifCond .le off, 3)) (ht : (pc : Int) + off = (tgt : Int)) (kt : (x ≤ 0) → Z G F cells slots Q (tgt) lv (st) M) (kf : (¬ (x ≤ 0)) → Z G F cells slots Q (pc + 3) lv (st) M) : Z G F cells slots Q (pc) lv (.int x :: st) M :=
  fun H locs ls hH hS hl => lv_if_le O.1 O.2.1 hd ht (fun h => kt h H locs ls hH hS hl) (fun h => kf h H locs ls hH hS hl)
theorem z_icmp_le (O : zOk G F y cc nL ret own d n0) {x y : Int32} {off : Int} (tgt : Nat) (hd : decode cc pc = .ok (.if_icmp .le off, 3)) (ht : (pc : Int) + off = (tgt : Int)) (kt : (x ≤ y) → Z G F cells slots Q (tgt) lv (st) M) (kf : (¬ (x ≤ y)) → Z G F cells slots Q (pc + 3) lv (st) M) : Z G F cells slots Q (pc) lv (.int y :: .int x :: st) M :=
  fun H locs ls hH hS hl => lv_icmp_le O.1 O.2.1 hd ht (fun h => kt h H locs ls hH hS hl) (fun h => kf h H locs ls hH hS hl)
theorem z_goto (O : zOk G F y cc nL ret own d n0) {off : Int} (tgt : Nat) (hd : decode cc pc = .ok (.goto off, 3)) (ht : (pc : Int) + off = (tgt : Int)) (k : Z G F cells slots Q (tgt) lv (st) M) : Z G F cells slots Q (pc) lv (st) M :=
  fun H locs ls hH hS hl => lv_goto O.1 O.2.1 hd ht (k H locs ls hH hS hl)
theorem z_ifnonnull (O : zOk G F y cc nL ret own d n0) {x : Nat} {off : Int} (tgt : Nat) (hd : decode cc pc = .ok (.ifnonnull off, 3)) (ht : (pc : Int) + off = (tgt : Int)) (k : Z G F cells slots Q (tgt) lv (st) M) : Z G F cells slots Q (pc) lv (.ref x :: st) M :=
  fun H locs ls hH hS hl => lv_ifnonnull O.1 O.2.1 hd ht (k H locs ls hH hS hl)
theorem z_ifnonnullN (O : zOk G F y cc nL ret own d n0) {off : Int} (hd : decode cc pc = .ok (.ifnonnull off, 3)) (k : Z G F cells slots Q (pc + 3) lv (st) M) : Z G F cells slots Q (pc) lv (.null :: st) M :=
  fun H locs ls hH hS hl => lv_ifnonnullN O.1 O.2.1 hd (k H locs ls hH hS hl)
theorem z_tableOut (O : zOk G F y cc nL ret own d n0) {dflt lo hi : Int} {offs : Array Int} {len : Nat} {x : Int32} (tgt : Nat) (hd : decode cc pc = .ok (.tableswitch dflt lo hi offs, len)) (h : x.toInt < lo ∨ hi < x.toInt) (ht : (pc : Int) + dflt = (tgt : Int)) (k : Z G F cells slots Q (tgt) lv (st) M) : Z G F cells slots Q (pc) lv (.int x :: st) M :=
  fun H locs ls hH hS hl => lv_tableOut O.1 O.2.1 hd h ht (k H locs ls hH hS hl)
theorem z_tableIn (O : zOk G F y cc nL ret own d n0) {dflt lo hi : Int} {offs : Array Int} {len : Nat} {x : Int32} {off : Int} (tgt : Nat) (hd : decode cc pc = .ok (.tableswitch dflt lo hi offs, len)) (h1 : ¬ x.toInt < lo) (h2 : ¬ hi < x.toInt) (ho : offs[(x.toInt - lo).toNat]? = some off) (ht : (pc : Int) + off = (tgt : Int)) (k : Z G F cells slots Q (tgt) lv (st) M) : Z G F cells slots Q (pc) lv (.int x :: st) M :=
  fun H locs ls hH hS hl => lv_tableIn O.1 O.2.1 hd h1 h2 ho ht (k H locs ls hH hS hl)
theorem z_lookup (O : zOk G F y cc nL ret own d n0) {dflt : Int} {ps : Array (Int × Int)} {len : Nat} {x : Int32} {off : Int} (tgt : Nat) (hd : decode cc pc = .ok (.lookupswitch dflt ps, len)) (hp : (ps.toList.zip (ps.toList.drop 1)).all (fun (a, next) => a.1 < next.1) = true) (ho : Op.lookupswitch.offset ps.toList dflt x.toInt = off) (ht : (pc : Int) + off = (tgt : Int)) (k : Z G F cells slots Q (tgt) lv (st) M) : Z G F cells slots Q (pc) lv (.int x :: st) M :=
  fun H locs ls hH hS hl => lv_lookup O.1 O.2.1 hd hp ho ht (k H locs ls hH hS hl)
theorem z_ldc (O : zOk G F y cc nL ret own d n0) {idx : Nat} {v : Int32} (hd : decode cc pc = .ok (.ldc idx, 2)) (hc : Cond.constant own idx v ∈ zTb) (k : Z G F cells slots Q (pc + 2) lv (.int v :: st) M) : Z G F cells slots Q (pc) lv (st) M :=
  fun H locs ls hH hS hl => lv_ldc O.1 O.2.1 O.2.2.2.1 (O.2.2.2.2.1 _ hc) hd (k H locs ls hH hS hl)
theorem z_ldcw (O : zOk G F y cc nL ret own d n0) {idx : Nat} {v : Int32} (hd : decode cc pc = .ok (.ldc_w idx, 3)) (hc : Cond.constant own idx v ∈ zTb) (k : Z G F cells slots Q (pc + 3) lv (.int v :: st) M) : Z G F cells slots Q (pc) lv (st) M :=
  fun H locs ls hH hS hl => lv_ldcw O.1 O.2.1 O.2.2.2.1 (O.2.2.2.2.1 _ hc) hd (k H locs ls hH hS hl)
theorem z_ldc2 (O : zOk G F y cc nL ret own d n0) {idx : Nat} {v : Int64} (hd : decode cc pc = .ok (.ldc2_w idx, 3)) (hc : Cond.constantLong own idx v ∈ zTb) (k : Z G F cells slots Q (pc + 3) lv (.long v :: st) M) : Z G F cells slots Q (pc) lv (st) M :=
  fun H locs ls hH hS hl => lv_ldc2 O.1 O.2.1 O.2.2.2.1 (O.2.2.2.2.1 _ hc) hd (k H locs ls hH hS hl)
/-- entry idx of own's pool is field i of class ci -/
def zFld (own : String) (idx ci i : Nat) (ty : FieldType) (fin : Nat) : Prop := ∃ (C : String) (T : u_T) (N : Nat) (t0 : Nat → FieldType), vwCl[ci]? = some (C, T, N) ∧ i < N ∧ (∀ w ∈ u_ws C T N, w ∈ zTb) ∧ (∀ k, k < N → parseFieldDescriptor (T k).2.2.1 = some (t0 k)) ∧ (∀ a, a < N → ∀ b, b < N → a ≠ b → (T a).2.1 ≠ (T b).2.1) ∧ Cond.fieldLink own idx (T i).1 (T i).2.1 (T i).2.2.1 ∈ zTb ∧ parseFieldDescriptor (T i).2.2.1 = some ty ∧ (T i).2.2.2 = Nat.blt 0 fin ∧ (fin = 1 → (T i).1 = own)
theorem z_get (O : zOk G F y cc nL ret own d n0) {idx ci i a : Nat} {ty : FieldType} {fin : Nat} {fs : List Value} {v : Value} (hd : decode cc pc = .ok (.getfield idx, 3)) (hf : zFld own idx ci i ty fin) (he : M[a]? = some (.inr (ci, fs))) (hv : fs[i]? = some v) (k : Z G F cells slots Q (pc + 3) lv (v :: st) M) : Z G F cells slots Q (pc) lv (.ref (zad (zb G) a) :: st) M := by
  intro H locs ls hH hS hl
  obtain ⟨C, T, N, t0, h1, h2, h3, h4, h5, h6, h7, h8, h9⟩ := hf
  exact va_get O.1 O.2.1 O.2.2.2.2.1 h3 O.2.2.2.1 O.2.2.2.2.2.1.1 hH.1 a (zW_get he) h1 i h2 (O.2.2.2.2.1 _ h6) (fun _ h => h) hv hd (k H locs ls hH hS hl)
/-- the heap behind a store -/
theorem zH_set {H1 : Heap} {k : Nat} {e e' : va_E} (he : M[k]? = some e) (hP : va_P G.2.1 vwCl ((zW (zb G) M).set k (zad (zb G) k, e')) H1) (hsz : (zfs F).heap.size = zb G + n0) (hc : n0 + cells = M.length) (hle : H1.size ≤ (zfs F).heap.size + cells) : zH G (M.set k e') H1 := by
  rw [zW_set] at hP
  refine ⟨hP, ?_⟩
  have hl : 0 < M.length := Nat.lt_of_le_of_lt (Nat.zero_le k) (List.getElem?_eq_some_iff.mp he).1
  have hlt : M.length - 1 < (M.set k e').length := by rw [List.length_set]; omega
  have h1 := (hP (M.length - 1) _ (zW_get (List.getElem?_eq_getElem hlt))).lt
  rw [List.length_set]
  unfold zad at h1
  dsimp only at h1
  omega
theorem z_put (O : zOk G F y cc nL ret own d n0) {idx ci i a : Nat} {ty : FieldType} {fs : List Value} {v : Value} (hc : n0 + cells = M.length) (hd : decode cc pc = .ok (.putfield idx, 3)) (hf : zFld own idx ci i ty 0) (he : M[a]? = some (.inr (ci, fs))) (hn : narrow ty v = v) (hfit : fits ty v = true) (hlt : i < fs.length) (k : Z G F cells slots Q (pc + 3) lv (st) (M.set a (.inr (ci, fs.set i v)))) : Z G F cells slots Q (pc) lv (v :: .ref (zad (zb G) a) :: st) M := by
  intro H locs ls hH hS hl
  obtain ⟨C, T, N, t0, h1, h2, h3, h4, h5, h6, h7, h8, h9⟩ := hf
  refine va_put O.1 O.2.1 O.2.2.2.2.1 h3 t0 h4 h5 O.2.2.2.1 O.2.2.2.2.2.1.1 hH.1 (zD G M) hS a (zW_get he) h1 i h2 (O.2.2.2.2.1 _ h6) (fun _ h => h) h8 h7 hn hfit hlt hd (fun H1 locs1 hP1 hD1 hS1 => W.size (fun hle => k H1 locs1 ls ?_ hS1 hl))
  exact zH_set he hP1 O.2.2.2.2.2.2.1 hc hle
theorem z_putF (O : zOk G F y cc nL ret own d n0) {idx ci i a : Nat} {ty : FieldType} {fs : List Value} {v : Value} (hc : n0 + cells = M.length) (hi : y.name = "<init>") (hd : decode cc pc = .ok (.putfield idx, 3)) (hf : zFld own idx ci i ty 1) (he : M[a]? = some (.inr (ci, fs))) (hn : narrow ty v = v) (hfit : fits ty v = true) (hlt : i < fs.length) (k : Z G F cells slots Q (pc + 3) lv (st) (M.set a (.inr (ci, fs.set i v)))) : Z G F cells slots Q (pc) lv (v :: .ref (zad (zb G) a) :: st) M := by
  intro H locs ls hH hS hl
  obtain ⟨C, T, N, t0, h1, h2, h3, h4, h5, h6, h7, h8, h9⟩ := hf
  refine va_putF O.1 O.2.1 O.2.2.2.2.1 h3 t0 h4 h5 O.2.2.2.1 O.2.2.2.2.2.1.1 hH.1 (zD G M) hS a (zW_get he) h1 i h2 (O.2.2.2.2.1 _ h6) (fun _ h => h) h8 (O.2.2.2.2.2.2.2.2.2.2.2.trans hi) (h9 rfl) h7 hn hfit hlt hd (fun H1 locs1 hP1 hD1 hS1 => W.size (fun hle => k H1 locs1 ls ?_ hS1 hl))
  exact zH_set he hP1 O.2.2.2.2.2.2.1 hc hle
/-- the static rows -/
theorem z_gets (O : zOk G F y cc nL ret own d n0) {idx i : Nat} (hd : decode cc pc = .ok (.getstatic idx, 3)) (h0 : 0 < i) (h4 : i < 4) (hq : (own, idx, RX3, zSt i, "[I", RX3) ∈ zNf) (k : Z G F cells slots Q (pc + 3) lv (.ref (zsa G i) :: st) M) : Z G F cells slots Q (pc) lv (st) M := by
  intro H locs ls hH hS hl
  have hC := O.2.2.2.2.2.1
  exact va_getsN O.1 O.2.1 (hC.2.2.2.2.1 i h0 h4) hS O.2.2.2.1 (va_Nw.use rfl (hC.2.1.2 _ hq)) (fun _ h => h) hd (k H locs ls hH hS hl)
theorem z_cald (O : zOk G F y cc nL ret own d n0) (i : Nat) {x : Int32} (h4 : i < 4) (hd : decode cc pc = .ok (.iaload, 1)) (hin : vp_in x (zLen G i)) (k : Z G F cells slots Q (pc + 1) lv (.int (zCon G i x.toNatClampNeg) :: st) M) : Z G F cells slots Q (pc) lv (.int x :: .ref (zsa G i) :: st) M := by
  intro H locs ls hH hS hl
  exact va_ti O.1 O.2.1 (O.2.2.2.2.2.1.2.2.2.1 i h4) hS hin rfl hd (k H locs ls hH hS hl)
theorem z_clen (O : zOk G F y cc nL ret own d n0) (i : Nat) (h4 : i < 4) (hd : decode cc pc = .ok (.arraylength, 1)) (k : Z G F cells slots Q (pc + 1) lv (.int (Int32.ofNat (zLen G i)) :: st) M) : Z G F cells slots Q (pc) lv (.ref (zsa G i) :: st) M := by
  intro H locs ls hH hS hl
  exact va_tlen O.1 O.2.1 (O.2.2.2.2.2.1.2.2.2.1 i h4) hS rfl hd (k H locs ls hH hS hl)
/-- arrays -/
abbrev zI (G : zG) (n : Nat) (f : Nat → Int32) : va_E := .inl (zca G 0, n, .inl f)
abbrev zB (G : zG) (n : Nat) (f : Nat → Int32) : va_E := .inl (zca G 1, n, .inl f)
abbrev zR (G : zG) (n : Nat) (f : Nat → Option Nat) : va_E := .inl (zca G 2, n, .inr (.inr (.inr (.inr f))))
theorem z_iald (O : zOk G F y cc nL ret own d n0) {a n : Nat} {f : Nat → Int32} {x : Int32} (hd : decode cc pc = .ok (.iaload, 1)) (he : M[a]? = some (zI G n f)) (hin : vp_in x n) (k : Z G F cells slots Q (pc + 1) lv (.int (f x.toNatClampNeg) :: st) M) : Z G F cells slots Q (pc) lv (.int x :: .ref (zad (zb G) a) :: st) M :=
  fun H locs ls hH hS hl => va_iald O.1 O.2.1 O.2.2.2.2.2.1.1 hH.1 a 0 (zW_get he) rfl hin hd (k H locs ls hH hS hl)
theorem z_zald (O : zOk G F y cc nL ret own d n0) {a n : Nat} {f : Nat → Int32} {x : Int32} (hd : decode cc pc = .ok (.baload, 1)) (he : M[a]? = some (zB G n f)) (hin : vp_in x n) (k : Z G F cells slots Q (pc + 1) lv (.int (f x.toNatClampNeg) :: st) M) : Z G F cells slots Q (pc) lv (.int x :: .ref (zad (zb G) a) :: st) M :=
  fun H locs ls hH hS hl => va_zald O.1 O.2.1 O.2.2.2.2.2.1.1 hH.1 a 1 (zW_get he) rfl hin hd (k H locs ls hH hS hl)
theorem z_aald (O : zOk G F y cc nL ret own d n0) {a n : Nat} {f : Nat → Option Nat} {x : Int32} (hd : decode cc pc = .ok (.aaload, 1)) (he : M[a]? = some (zR G n f)) (hin : vp_in x n) (k : Z G F cells slots Q (pc + 1) lv (va_rf (f x.toNatClampNeg) :: st) M) : Z G F cells slots Q (pc) lv (.int x :: .ref (zad (zb G) a) :: st) M :=
  fun H locs ls hH hS hl => va_aldq O.1 O.2.1 O.2.2.2.2.2.1.1 hH.1 a 2 (zW_get he) rfl hin hd (k H locs ls hH hS hl)
theorem z_iast (O : zOk G F y cc nL ret own d n0) {a n : Nat} {f : Nat → Int32} {x v : Int32} (hc : n0 + cells = M.length) (hd : decode cc pc = .ok (.iastore, 1)) (he : M[a]? = some (zI G n f)) (hin : vp_in x n) (k : Z G F cells slots Q (pc + 1) lv (st) (M.set a (zI G n (upd f x.toNatClampNeg v)))) : Z G F cells slots Q (pc) lv (.int v :: .int x :: .ref (zad (zb G) a) :: st) M :=
  fun H locs ls hH hS hl => va_iast O.1 O.2.1 O.2.2.2.2.2.1.1 hH.1 (zD G M) hS a 0 (zW_get he) rfl hin hd (fun H1 locs1 hP1 hD1 hS1 => W.size (fun hle => k H1 locs1 ls (zH_set he hP1 O.2.2.2.2.2.2.1 hc hle) hS1 hl))
theorem z_zast (O : zOk G F y cc nL ret own d n0) {a n : Nat} {f : Nat → Int32} {x v : Int32} (hc : n0 + cells = M.length) (hd : decode cc pc = .ok (.bastore, 1)) (he : M[a]? = some (zB G n f)) (hin : vp_in x n) (k : Z G F cells slots Q (pc + 1) lv (st) (M.set a (zB G n (upd f x.toNatClampNeg (vp_nar .boolean v))))) : Z G F cells slots Q (pc) lv (.int v :: .int x :: .ref (zad (zb G) a) :: st) M :=
  fun H locs ls hH hS hl => va_zast O.1 O.2.1 O.2.2.2.2.2.1.1 hH.1 (zD G M) hS a 1 (zW_get he) rfl hin hd (fun H1 locs1 hP1 hD1 hS1 => W.size (fun hle => k H1 locs1 ls (zH_set he hP1 O.2.2.2.2.2.2.1 hc hle) hS1 hl))
theorem z_aast (O : zOk G F y cc nL ret own d n0) {a n q : Nat} {f : Nat → Option Nat} {x : Int32} {vs : List Value} (hc : n0 + cells = M.length) (hd : decode cc pc = .ok (.aastore, 1)) (he : M[a]? = some (zR G n f)) (hq : M[q]? = some (.inr (1, vs))) (hin : vp_in x n) (k : Z G F cells slots Q (pc + 1) lv (st) (M.set a (zR G n (va_up f x.toNatClampNeg (some (zad (zb G) q)))))) : Z G F cells slots Q (pc) lv (.ref (zad (zb G) q) :: .int x :: .ref (zad (zb G) a) :: st) M :=
  fun H locs ls hH hS hl => va_astq (r := (RX1, TX1, 6)) O.1 O.2.1 O.2.2.2.2.2.1.1 hH.1 (zD G M) hS a 2 q 1 (zW_get he) rfl (zW_get hq) rfl hin hd (fun H1 locs1 hP1 hD1 hS1 => W.size (fun hle => k H1 locs1 ls (zH_set he hP1 O.2.2.2.2.2.2.1 hc hle) hS1 hl))
end ZR
