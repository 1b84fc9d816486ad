/-! ===== the law ===== -/
abbrev lvL (G : zG) (i : Nat) : List (Nat × Value) := [(0, .ref (zsa G 0)), (1, .ref (zad (zb G) 0)), (2, .ref (zad (zb G) 21)), (3, .int (nI i))]
def sx (G : zG) (j : Nat) : Int32 := zCon G 0 (nI j).toNatClampNeg
theorem MS.mono {G : zG} {Y Y' : Nat} {M : List va_E} (h : MS G Y M) (hY : Y ≤ Y') : MS G Y' M := by
  obtain ⟨we, r, cl, seen, kept, rd, nw, ud, im, twe, tr, tcl, bys, wo, nu, len, it, so, at_, be, va, sp, ss, al, od, ab, bl, bd, no, fu, w, kp, rf, at2, st2, iwd, ifg, nb, fr, la, nms, nd, wf, hh, tl, h0, h1, h2, h3, h4, h5, h6⟩ := h
  exact ⟨we, r, cl, seen, kept, rd, nw, ud, im, twe, tr, tcl, bys, wo, nu, len, it, so, at_, be, va, sp, ss, al, od, ab, bl, bd, no, fu, w, kp, rf, at2, st2, iwd, ifg, nb, fr, la, nms, nd, wf, hh, tl, h0, h1, h2, h3.mono hY, h4, h5.mono hY, h6⟩
theorem lg_cmp_s (x : Int64) : lg_cmp x x = 0 := by
  unfold lg_cmp
  rw [if_neg (fun h => by rw [gt_iff_lt, Int64.lt_iff_toInt_lt] at h; omega), if_pos rfl]
theorem and63 (x : Int32) : ∃ n : Nat, n < 64 ∧ x &&& 63 = nI n := by
  refine ⟨(x &&& 63).toBitVec.toNat, ?_, ?_⟩
  · rw [Int32.toBitVec_and, BitVec.toNat_and]
    exact Nat.lt_of_le_of_lt Nat.and_le_right (by decide)
  · apply Int32.toBitVec_inj.mp
    show _ = BitVec.ofNat 32 _
    rw [BitVec.ofNat_toNat, BitVec.setWidth_eq]
section LAW
variable {G : zG} {F : zF} {yy : MethodName} {rt : Option FieldType} {cells slots pc : Nat} {Q : State → Prop} {lv : List (Nat × Value)} {st : List Value} {M : List va_E} {i Y : Nat}
theorem z_Vk (O : zOk G F yy cL_law 4 rt RL 30 0) {y' : MethodName} {cc' : ByteArray} {nL' n idx : Nat} {ret' : Option FieldType} {Q1 : Option Value → List va_E → Prop} {a ci N : Nat} {C : String} {T : u_T} {fs As st0 : List Value} (hM : zK G y' cc' nL' ret' (.ref (zad (zb G) a) :: As) M Q1) (hk : zMv y' cc' nL' ret' n C) (hl1 : Cond.methodLink RL idx y' ∈ zTb) (hci : vwCl[ci]? = some (C, T, N)) (he : M[a]? = some (.inr (ci, fs))) (hn : As.length = n) (hst : st0 = As.reverse ++ .ref (zad (zb G) a) :: st) (hr : (st.map fun v => v.category).sum ≤ 8) (hd : decode cL_law pc = .ok (.invokevirtual idx, 3)) (hf : cells + 7 ≤ (zfR F).cells ∧ slots + 1101 ≤ (zfR F).slots)
    (k : ∀ v M', Q1 v M' → Z G F (cells + 7) (slots + 1101) Q (pc + 3) lv (v.toList ++ st) M') : Z G F cells slots Q pc lv st0 M := by
  obtain ⟨d', mc, ms, h1, h2, h3, hS⟩ := hM
  exact z_V O hS hk hl1 hci he hn hst hr (by omega) hd ⟨by omega, by omega⟩ (fun v M' q => z_widen (by omega) (by omega) (k v M' q))
theorem z_scr (O : zOk G F yy cL_law 4 rt RL 30 0) {jj : Int} (j : Nat) (h0 : decode cL_law pc = .ok (.aload_n 0, 1)) (h1 : decode cL_law (pc + 1) = .ok (.iload_n 3, 1)) (h2 : decode cL_law (pc + 2) = .ok (.iconst jj, 1)) (h3 : decode cL_law (pc + 3) = .ok (.iadd, 1)) (h4 : decode cL_law (pc + 4) = .ok (.iaload, 1)) (hj : Int32.ofInt jj = nI j) (hij : i + j < zLen G 0) (hL : zLen G 0 ≤ 2560) (k : Z G F cells slots Q (pc + 5) (lvL G i) (.int (sx G (i + j)) :: st) M) : Z G F cells slots Q pc (lvL G i) st M :=
  z_aload_n O h0 rfl (z_iload_n O h1 rfl (z_iconst O (nI j) h2 hj (z_iaddN O h3 (z_cald O 0 (by decide) h4 (nI_in hij (by omega)) k))))
set_option maxRecDepth 20000 in
set_option maxHeartbeats 4000000 in
theorem law_sock (O : zOk G F yy cL_law 4 rt RL 30 0) (hL : zLen G 0 ≤ 2560) (hij : i + 5 ≤ zLen G 0) (h : MS G Y M) (h99 : 99 ≤ Y) (hY : Y + 300 < 1048576) (hc : cells + 14 ≤ (zfR F).cells) (hs : slots + 2202 ≤ (zfR F).slots) (kk : ∀ M', MS G (Y + 20) M' → Z G F (cells + 7 + 7) (slots + 1101 + 1101) Q 1071 (lvL G i) [] M') : Z G F cells slots Q 180 (lvL G i) [] M := by
  obtain ⟨fs0, hf0⟩ := h.at0
  refine z_aload_n O dL_law_180 rfl ?_
  refine z_scr O 1 dL_law_181 dL_law_182 dL_law_183 dL_law_184 dL_law_185 (by decide) (by omega) hL ?_
  refine z_Vk (st := []) O (p_sock h h99 hY (sx G (i + 1))) mX3_sock lkL_13 (ci := 3) rfl hf0 rfl rfl (by decide) dL_law_186 ⟨by omega, by omega⟩ (fun v M1 q => ?_)
  obtain ⟨v, rfl, ⟨x, rfl⟩, ⟨fs1, hf1⟩, q⟩ := q
  refine z_eq (st' := [.int x]) rfl rfl rfl ?_
  refine z_aload_n O dL_law_189 rfl ?_
  refine z_scr O 1 dL_law_190 dL_law_191 dL_law_192 dL_law_193 dL_law_194 (by decide) (by omega) hL ?_
  refine z_Vk (st := [.int x]) O q mX4_sock lkL_17 (ci := 4) rfl hf1 rfl rfl (Nat.le_of_ble_eq_true rfl) dL_law_195 ⟨by omega, by omega⟩ (fun v M2 q => ?_)
  obtain ⟨v, rfl, rfl, hS⟩ := q
  refine z_eq (st' := [.int x, .int x]) rfl rfl rfl ?_
  exact z_icmp_eq O 1071 dL_law_198 (by decide) (fun _ => kk M2 hS) (fun h => absurd rfl h)
set_option maxRecDepth 20000 in
set_option maxHeartbeats 4000000 in
theorem law_wear (O : zOk G F yy cL_law 4 rt RL 30 0) (hL : zLen G 0 ≤ 2560) (hij : i + 5 ≤ zLen G 0) (h : MS G Y M) (h99 : 99 ≤ Y) (hY : Y + 300 < 1048576) (hc : cells + 14 ≤ (zfR F).cells) (hs : slots + 2202 ≤ (zfR F).slots) (kk : ∀ M', MS G (Y + 20) M' → Z G F (cells + 7 + 7) (slots + 1101 + 1101) Q 1071 (lvL G i) [] M') : Z G F cells slots Q 203 (lvL G i) [] M := by
  obtain ⟨fs0, hf0⟩ := h.at0
  refine z_aload_n O dL_law_203 rfl ?_
  refine z_scr O 1 dL_law_204 dL_law_205 dL_law_206 dL_law_207 dL_law_208 (by decide) (by omega) hL ?_
  refine z_scr O 2 dL_law_209 dL_law_210 dL_law_211 dL_law_212 dL_law_213 (by decide) (by omega) hL ?_
  refine z_Vk (st := []) O (p_wear h h99 hY (sx G (i + 1)) (sx G (i + 2))) mX3_wear lkL_18 (ci := 3) rfl hf0 rfl rfl (by decide) dL_law_214 ⟨by omega, by omega⟩ (fun v M1 q => ?_)
  obtain ⟨v, rfl, ⟨x, rfl⟩, ⟨fs1, hf1⟩, q⟩ := q
  refine z_eq (st' := [.int x]) rfl rfl rfl ?_
  refine z_aload_n O dL_law_217 rfl ?_
  refine z_scr O 1 dL_law_218 dL_law_219 dL_law_220 dL_law_221 dL_law_222 (by decide) (by omega) hL ?_
  refine z_scr O 2 dL_law_223 dL_law_224 dL_law_225 dL_law_226 dL_law_227 (by decide) (by omega) hL ?_
  refine z_Vk (st := [.int x]) O q mX4_wear lkL_22 (ci := 4) rfl hf1 rfl rfl (Nat.le_of_ble_eq_true rfl) dL_law_228 ⟨by omega, by omega⟩ (fun v M2 q => ?_)
  obtain ⟨v, rfl, rfl, hS⟩ := q
  refine z_eq (st' := [.int x, .int x]) rfl rfl rfl ?_
  exact z_icmp_eq O 1071 dL_law_231 (by decide) (fun _ => kk M2 hS) (fun h => absurd rfl h)
set_option maxRecDepth 20000 in
set_option maxHeartbeats 4000000 in
theorem law_darn (O : zOk G F yy cL_law 4 rt RL 30 0) (hL : zLen G 0 ≤ 2560) (hij : i + 5 ≤ zLen G 0) (h : MS G Y M) (h99 : 99 ≤ Y) (hY : Y + 300 < 1048576) (hc : cells + 14 ≤ (zfR F).cells) (hs : slots + 2202 ≤ (zfR F).slots) (kk : ∀ M', MS G (Y + 20) M' → Z G F (cells + 7 + 7) (slots + 1101 + 1101) Q 1071 (lvL G i) [] M') : Z G F cells slots Q 236 (lvL G i) [] M := by
  obtain ⟨fs0, hf0⟩ := h.at0
  refine z_aload_n O dL_law_236 rfl ?_
  refine z_scr O 1 dL_law_237 dL_law_238 dL_law_239 dL_law_240 dL_law_241 (by decide) (by omega) hL ?_
  refine z_scr O 2 dL_law_242 dL_law_243 dL_law_244 dL_law_245 dL_law_246 (by decide) (by omega) hL ?_
  refine z_scr O 3 dL_law_247 dL_law_248 dL_law_249 dL_law_250 dL_law_251 (by decide) (by omega) hL ?_
  refine z_scr O 4 dL_law_252 dL_law_253 dL_law_254 dL_law_255 dL_law_256 (by decide) (by omega) hL ?_
  refine z_Vk (st := []) O (p_darn h h99 hY (sx G (i + 1)) (sx G (i + 2)) (sx G (i + 3)) (sx G (i + 4))) mX3_darn lkL_23 (ci := 3) rfl hf0 rfl rfl (by decide) dL_law_257 ⟨by omega, by omega⟩ (fun v M1 q => ?_)
  obtain ⟨v, rfl, ⟨x, rfl⟩, ⟨fs1, hf1⟩, q⟩ := q
  refine z_eq (st' := [.int x]) rfl rfl rfl ?_
  refine z_aload_n O dL_law_260 rfl ?_
  refine z_scr O 1 dL_law_261 dL_law_262 dL_law_263 dL_law_264 dL_law_265 (by decide) (by omega) hL ?_
  refine z_scr O 2 dL_law_266 dL_law_267 dL_law_268 dL_law_269 dL_law_270 (by decide) (by omega) hL ?_
  refine z_scr O 3 dL_law_271 dL_law_272 dL_law_273 dL_law_274 dL_law_275 (by decide) (by omega) hL ?_
  refine z_scr O 4 dL_law_276 dL_law_277 dL_law_278 dL_law_279 dL_law_280 (by decide) (by omega) hL ?_
  refine z_Vk (st := [.int x]) O q mX4_darn lkL_27 (ci := 4) rfl hf1 rfl rfl (Nat.le_of_ble_eq_true rfl) dL_law_281 ⟨by omega, by omega⟩ (fun v M2 q => ?_)
  obtain ⟨v, rfl, rfl, hS⟩ := q
  refine z_eq (st' := [.int x, .int x]) rfl rfl rfl ?_
  exact z_icmp_eq O 1071 dL_law_284 (by decide) (fun _ => kk M2 hS) (fun h => absurd rfl h)
set_option maxRecDepth 20000 in
set_option maxHeartbeats 4000000 in
theorem law_unpick (O : zOk G F yy cL_law 4 rt RL 30 0) (hL : zLen G 0 ≤ 2560) (hij : i + 5 ≤ zLen G 0) (h : MS G Y M) (h99 : 99 ≤ Y) (hY : Y + 300 < 1048576) (hc : cells + 14 ≤ (zfR F).cells) (hs : slots + 2202 ≤ (zfR F).slots) (kk : ∀ M', MS G (Y + 20) M' → Z G F (cells + 7 + 7) (slots + 1101 + 1101) Q 1071 (lvL G i) [] M') : Z G F cells slots Q 289 (lvL G i) [] M := by
  obtain ⟨fs0, hf0⟩ := h.at0
  refine z_aload_n O dL_law_289 rfl ?_
  refine z_scr O 1 dL_law_290 dL_law_291 dL_law_292 dL_law_293 dL_law_294 (by decide) (by omega) hL ?_
  refine z_Vk (st := []) O (p_unpick h h99 hY (sx G (i + 1))) mX3_unpick lkL_28 (ci := 3) rfl hf0 rfl rfl (by decide) dL_law_295 ⟨by omega, by omega⟩ (fun v M1 q => ?_)
  obtain ⟨v, rfl, ⟨x, rfl⟩, ⟨fs1, hf1⟩, q⟩ := q
  refine z_eq (st' := [.int x]) rfl rfl rfl ?_
  refine z_aload_n O dL_law_298 rfl ?_
  refine z_scr O 1 dL_law_299 dL_law_300 dL_law_301 dL_law_302 dL_law_303 (by decide) (by omega) hL ?_
  refine z_Vk (st := [.int x]) O q mX4_unpick lkL_31 (ci := 4) rfl hf1 rfl rfl (Nat.le_of_ble_eq_true rfl) dL_law_304 ⟨by omega, by omega⟩ (fun v M2 q => ?_)
  obtain ⟨v, rfl, rfl, hS⟩ := q
  refine z_eq (st' := [.int x, .int x]) rfl rfl rfl ?_
  exact z_icmp_eq O 1071 dL_law_307 (by decide) (fun _ => kk M2 hS) (fun h => absurd rfl h)
set_option maxRecDepth 20000 in
set_option maxHeartbeats 4000000 in
theorem law_years (O : zOk G F yy cL_law 4 rt RL 30 0) (hL : zLen G 0 ≤ 2560) (hij : i + 5 ≤ zLen G 0) (h : MS G Y M) (h99 : 99 ≤ Y) (hY : Y + 300 < 1048576) (hc : cells + 14 ≤ (zfR F).cells) (hs : slots + 2202 ≤ (zfR F).slots) (kk : ∀ M', MS G (Y + 20) M' → Z G F (cells + 7 + 7) (slots + 1101 + 1101) Q 1071 (lvL G i) [] M') : Z G F cells slots Q 312 (lvL G i) [] M := by
  obtain ⟨fs0, hf0⟩ := h.at0
  refine z_aload_n O dL_law_312 rfl ?_
  refine z_scr O 1 dL_law_313 dL_law_314 dL_law_315 dL_law_316 dL_law_317 (by decide) (by omega) hL ?_
  refine z_Vk (st := []) O (p_years h h99 hY (sx G (i + 1))) mX3_years lkL_32 (ci := 3) rfl hf0 rfl rfl (by decide) dL_law_318 ⟨by omega, by omega⟩ (fun v M1 q => ?_)
  obtain ⟨v, rfl, ⟨x, rfl⟩, ⟨fs1, hf1⟩, q⟩ := q
  refine z_eq (st' := [.int x]) rfl rfl rfl ?_
  refine z_aload_n O dL_law_321 rfl ?_
  refine z_scr O 1 dL_law_322 dL_law_323 dL_law_324 dL_law_325 dL_law_326 (by decide) (by omega) hL ?_
  refine z_Vk (st := [.int x]) O q mX4_years lkL_35 (ci := 4) rfl hf1 rfl rfl (Nat.le_of_ble_eq_true rfl) dL_law_327 ⟨by omega, by omega⟩ (fun v M2 q => ?_)
  obtain ⟨v, rfl, rfl, hS⟩ := q
  refine z_eq (st' := [.int x, .int x]) rfl rfl rfl ?_
  exact z_icmp_eq O 1071 dL_law_330 (by decide) (fun _ => kk M2 hS) (fun h => absurd rfl h)
set_option maxRecDepth 20000 in
set_option maxHeartbeats 4000000 in
theorem law_undo (O : zOk G F yy cL_law 4 rt RL 30 0) (hL : zLen G 0 ≤ 2560) (hij : i + 5 ≤ zLen G 0) (h : MS G Y M) (h99 : 99 ≤ Y) (hY : Y + 300 < 1048576) (hc : cells + 14 ≤ (zfR F).cells) (hs : slots + 2202 ≤ (zfR F).slots) (kk : ∀ M', MS G (Y + 20) M' → Z G F (cells + 7 + 7) (slots + 1101 + 1101) Q 1071 (lvL G i) [] M') : Z G F cells slots Q 335 (lvL G i) [] M := by
  obtain ⟨fs0, hf0⟩ := h.at0
  refine z_aload_n O dL_law_335 rfl ?_
  refine z_Vk (st := []) O (p_undo h h99 hY ) mX3_undo lkL_36 (ci := 3) rfl hf0 rfl rfl (by decide) dL_law_336 ⟨by omega, by omega⟩ (fun v M1 q => ?_)
  obtain ⟨v, rfl, ⟨x, rfl⟩, ⟨fs1, hf1⟩, q⟩ := q
  refine z_eq (st' := [.int x]) rfl rfl rfl ?_
  refine z_aload_n O dL_law_339 rfl ?_
  refine z_Vk (st := [.int x]) O q mX4_undo lkL_40 (ci := 4) rfl hf1 rfl rfl (Nat.le_of_ble_eq_true rfl) dL_law_340 ⟨by omega, by omega⟩ (fun v M2 q => ?_)
  obtain ⟨v, rfl, rfl, hS⟩ := q
  refine z_eq (st' := [.int x, .int x]) rfl rfl rfl ?_
  exact z_icmp_eq O 1071 dL_law_343 (by decide) (fun _ => kk M2 hS) (fun h => absurd rfl h)
set_option maxRecDepth 20000 in
set_option maxHeartbeats 4000000 in
theorem law_type (O : zOk G F yy cL_law 4 rt RL 30 0) (hL : zLen G 0 ≤ 2560) (hij : i + 5 ≤ zLen G 0) (h : MS G Y M) (h99 : 99 ≤ Y) (hY : Y + 300 < 1048576) (hc : cells + 14 ≤ (zfR F).cells) (hs : slots + 2202 ≤ (zfR F).slots) (kk : ∀ M', MS G (Y + 20) M' → Z G F (cells + 7 + 7) (slots + 1101 + 1101) Q 1071 (lvL G i) [] M') : Z G F cells slots Q 348 (lvL G i) [] M := by
  obtain ⟨fs0, hf0⟩ := h.at0
  refine z_aload_n O dL_law_348 rfl ?_
  refine z_scr O 1 dL_law_349 dL_law_350 dL_law_351 dL_law_352 dL_law_353 (by decide) (by omega) hL ?_
  refine z_Vk (st := []) O (p_type h h99 hY (sx G (i + 1))) mX3_type lkL_41 (ci := 3) rfl hf0 rfl rfl (by decide) dL_law_354 ⟨by omega, by omega⟩ (fun v M1 q => ?_)
  obtain ⟨v, rfl, ⟨x, rfl⟩, ⟨fs1, hf1⟩, q⟩ := q
  refine z_eq (st' := [.int x]) rfl rfl rfl ?_
  refine z_aload_n O dL_law_357 rfl ?_
  refine z_scr O 1 dL_law_358 dL_law_359 dL_law_360 dL_law_361 dL_law_362 (by decide) (by omega) hL ?_
  refine z_Vk (st := [.int x]) O q mX4_type lkL_44 (ci := 4) rfl hf1 rfl rfl (Nat.le_of_ble_eq_true rfl) dL_law_363 ⟨by omega, by omega⟩ (fun v M2 q => ?_)
  obtain ⟨v, rfl, rfl, hS⟩ := q
  refine z_eq (st' := [.int x, .int x]) rfl rfl rfl ?_
  exact z_icmp_eq O 1071 dL_law_366 (by decide) (fun _ => kk M2 hS) (fun h => absurd rfl h)
set_option maxRecDepth 20000 in
set_option maxHeartbeats 4000000 in
theorem law_clear (O : zOk G F yy cL_law 4 rt RL 30 0) (hL : zLen G 0 ≤ 2560) (hij : i + 5 ≤ zLen G 0) (h : MS G Y M) (h99 : 99 ≤ Y) (hY : Y + 300 < 1048576) (hc : cells + 14 ≤ (zfR F).cells) (hs : slots + 2202 ≤ (zfR F).slots) (kk : ∀ M', MS G (Y + 20) M' → Z G F (cells + 7 + 7) (slots + 1101 + 1101) Q 1071 (lvL G i) [] M') : Z G F cells slots Q 371 (lvL G i) [] M := by
  obtain ⟨fs0, hf0⟩ := h.at0
  refine z_aload_n O dL_law_371 rfl ?_
  refine z_Vk (st := []) O (p_clear h h99 hY ) mX3_clear lkL_45 (ci := 3) rfl hf0 rfl rfl (by decide) dL_law_372 ⟨by omega, by omega⟩ (fun v M1 q => ?_)
  obtain ⟨v, rfl, ⟨x, rfl⟩, ⟨fs1, hf1⟩, q⟩ := q
  refine z_eq (st' := [.int x]) rfl rfl rfl ?_
  refine z_aload_n O dL_law_375 rfl ?_
  refine z_Vk (st := [.int x]) O q mX4_clear lkL_48 (ci := 4) rfl hf1 rfl rfl (Nat.le_of_ble_eq_true rfl) dL_law_376 ⟨by omega, by omega⟩ (fun v M2 q => ?_)
  obtain ⟨v, rfl, rfl, hS⟩ := q
  refine z_eq (st' := [.int x, .int x]) rfl rfl rfl ?_
  exact z_icmp_eq O 1071 dL_law_379 (by decide) (fun _ => kk M2 hS) (fun h => absurd rfl h)
set_option maxRecDepth 20000 in
set_option maxHeartbeats 4000000 in
theorem law_read (O : zOk G F yy cL_law 4 rt RL 30 0) (hL : zLen G 0 ≤ 2560) (hij : i + 5 ≤ zLen G 0) (h : MS G Y M) (h99 : 99 ≤ Y) (hY : Y + 300 < 1048576) (hc : cells + 14 ≤ (zfR F).cells) (hs : slots + 2202 ≤ (zfR F).slots) (kk : ∀ M', MS G (Y + 20) M' → Z G F (cells + 7 + 7) (slots + 1101 + 1101) Q 1071 (lvL G i) [] M') : Z G F cells slots Q 384 (lvL G i) [] M := by
  obtain ⟨fs0, hf0⟩ := h.at0
  refine z_aload_n O dL_law_384 rfl ?_
  refine z_Vk (st := []) O (p_read h h99 hY ) mX3_read lkL_49 (ci := 3) rfl hf0 rfl rfl (by decide) dL_law_385 ⟨by omega, by omega⟩ (fun v M1 q => ?_)
  obtain ⟨v, rfl, ⟨x, rfl⟩, ⟨fs1, hf1⟩, q⟩ := q
  refine z_eq (st' := [.int x]) rfl rfl rfl ?_
  refine z_aload_n O dL_law_388 rfl ?_
  refine z_Vk (st := [.int x]) O q mX4_read lkL_52 (ci := 4) rfl hf1 rfl rfl (Nat.le_of_ble_eq_true rfl) dL_law_389 ⟨by omega, by omega⟩ (fun v M2 q => ?_)
  obtain ⟨v, rfl, rfl, hS⟩ := q
  refine z_eq (st' := [.int x, .int x]) rfl rfl rfl ?_
  exact z_icmp_eq O 1071 dL_law_392 (by decide) (fun _ => kk M2 hS) (fun h => absurd rfl h)
set_option maxRecDepth 20000 in
set_option maxHeartbeats 4000000 in
theorem law_of (O : zOk G F yy cL_law 4 rt RL 30 0) (hL : zLen G 0 ≤ 2560) (hij : i + 5 ≤ zLen G 0) (h : MS G Y M) (h99 : 99 ≤ Y) (hY : Y + 300 < 1048576) (hc : cells + 14 ≤ (zfR F).cells) (hs : slots + 2202 ≤ (zfR F).slots) (kk : ∀ M', MS G (Y + 20) M' → Z G F (cells + 7 + 7) (slots + 1101 + 1101) Q 1071 (lvL G i) [] M') : Z G F cells slots Q 397 (lvL G i) [] M := by
  obtain ⟨fs0, hf0⟩ := h.at0
  refine z_aload_n O dL_law_397 rfl ?_
  refine z_scr O 1 dL_law_398 dL_law_399 dL_law_400 dL_law_401 dL_law_402 (by decide) (by omega) hL ?_
  refine z_scr O 2 dL_law_403 dL_law_404 dL_law_405 dL_law_406 dL_law_407 (by decide) (by omega) hL ?_
  refine z_scr O 3 dL_law_408 dL_law_409 dL_law_410 dL_law_411 dL_law_412 (by decide) (by omega) hL ?_
  refine z_Vk (st := []) O (p_of h h99 hY (sx G (i + 1)) (sx G (i + 2)) (sx G (i + 3))) mX3_of lkL_53 (ci := 3) rfl hf0 rfl rfl (by decide) dL_law_413 ⟨by omega, by omega⟩ (fun v M1 q => ?_)
  obtain ⟨v, rfl, ⟨x, rfl⟩, ⟨fs1, hf1⟩, q⟩ := q
  refine z_eq (st' := [.int x]) rfl rfl rfl ?_
  refine z_aload_n O dL_law_416 rfl ?_
  refine z_scr O 1 dL_law_417 dL_law_418 dL_law_419 dL_law_420 dL_law_421 (by decide) (by omega) hL ?_
  refine z_scr O 2 dL_law_422 dL_law_423 dL_law_424 dL_law_425 dL_law_426 (by decide) (by omega) hL ?_
  refine z_scr O 3 dL_law_427 dL_law_428 dL_law_429 dL_law_430 dL_law_431 (by decide) (by omega) hL ?_
  refine z_Vk (st := [.int x]) O q mX4_of lkL_57 (ci := 4) rfl hf1 rfl rfl (Nat.le_of_ble_eq_true rfl) dL_law_432 ⟨by omega, by omega⟩ (fun v M2 q => ?_)
  obtain ⟨v, rfl, rfl, hS⟩ := q
  refine z_eq (st' := [.int x, .int x]) rfl rfl rfl ?_
  exact z_icmp_eq O 1071 dL_law_435 (by decide) (fun _ => kk M2 hS) (fun h => absurd rfl h)
set_option maxRecDepth 20000 in
set_option maxHeartbeats 4000000 in
theorem law_cell (O : zOk G F yy cL_law 4 rt RL 30 0) (hL : zLen G 0 ≤ 2560) (hij : i + 5 ≤ zLen G 0) (h : MS G Y M) (h99 : 99 ≤ Y) (hY : Y + 300 < 1048576) (hc : cells + 14 ≤ (zfR F).cells) (hs : slots + 2202 ≤ (zfR F).slots) (kk : ∀ M', MS G (Y + 20) M' → Z G F (cells + 7 + 7) (slots + 1101 + 1101) Q 1071 (lvL G i) [] M') : Z G F cells slots Q 440 (lvL G i) [] M := by
  obtain ⟨fs0, hf0⟩ := h.at0
  refine z_aload_n O dL_law_440 rfl ?_
  refine z_scr O 1 dL_law_441 dL_law_442 dL_law_443 dL_law_444 dL_law_445 (by decide) (by omega) hL ?_
  refine z_scr O 2 dL_law_446 dL_law_447 dL_law_448 dL_law_449 dL_law_450 (by decide) (by omega) hL ?_
  refine z_Vk (st := []) O (p_cell h h99 hY (sx G (i + 1)) (sx G (i + 2))) mX3_cell lkL_58 (ci := 3) rfl hf0 rfl rfl (by decide) dL_law_451 ⟨by omega, by omega⟩ (fun v M1 q => ?_)
  obtain ⟨v, rfl, ⟨x, rfl⟩, ⟨fs1, hf1⟩, q⟩ := q
  refine z_eq (st' := [.int x]) rfl rfl rfl ?_
  refine z_aload_n O dL_law_454 rfl ?_
  refine z_scr O 1 dL_law_455 dL_law_456 dL_law_457 dL_law_458 dL_law_459 (by decide) (by omega) hL ?_
  refine z_scr O 2 dL_law_460 dL_law_461 dL_law_462 dL_law_463 dL_law_464 (by decide) (by omega) hL ?_
  refine z_Vk (st := [.int x]) O q mX4_cell lkL_61 (ci := 4) rfl hf1 rfl rfl (Nat.le_of_ble_eq_true rfl) dL_law_465 ⟨by omega, by omega⟩ (fun v M2 q => ?_)
  obtain ⟨v, rfl, rfl, hS⟩ := q
  refine z_eq (st' := [.int x, .int x]) rfl rfl rfl ?_
  exact z_icmp_eq O 1071 dL_law_468 (by decide) (fun _ => kk M2 hS) (fun h => absurd rfl h)
set_option maxRecDepth 20000 in
set_option maxHeartbeats 4000000 in
theorem law_claims (O : zOk G F yy cL_law 4 rt RL 30 0) (hL : zLen G 0 ≤ 2560) (hij : i + 5 ≤ zLen G 0) (h : MS G Y M) (h99 : 99 ≤ Y) (hY : Y + 300 < 1048576) (hc : cells + 14 ≤ (zfR F).cells) (hs : slots + 2202 ≤ (zfR F).slots) (kk : ∀ M', MS G (Y + 20) M' → Z G F (cells + 7 + 7) (slots + 1101 + 1101) Q 1071 (lvL G i) [] M') : Z G F cells slots Q 473 (lvL G i) [] M := by
  obtain ⟨fs0, hf0⟩ := h.at0
  refine z_aload_n O dL_law_473 rfl ?_
  refine z_scr O 1 dL_law_474 dL_law_475 dL_law_476 dL_law_477 dL_law_478 (by decide) (by omega) hL ?_
  refine z_scr O 2 dL_law_479 dL_law_480 dL_law_481 dL_law_482 dL_law_483 (by decide) (by omega) hL ?_
  refine z_Vk (st := []) O (p_claims h h99 hY (sx G (i + 1)) (sx G (i + 2))) mX3_claims lkL_62 (ci := 3) rfl hf0 rfl rfl (by decide) dL_law_484 ⟨by omega, by omega⟩ (fun v M1 q => ?_)
  obtain ⟨v, rfl, ⟨x, rfl⟩, ⟨fs1, hf1⟩, q⟩ := q
  refine z_eq (st' := [.int x]) rfl rfl rfl ?_
  refine z_aload_n O dL_law_487 rfl ?_
  refine z_scr O 1 dL_law_488 dL_law_489 dL_law_490 dL_law_491 dL_law_492 (by decide) (by omega) hL ?_
  refine z_scr O 2 dL_law_493 dL_law_494 dL_law_495 dL_law_496 dL_law_497 (by decide) (by omega) hL ?_
  refine z_Vk (st := [.int x]) O q mX4_claims lkL_65 (ci := 4) rfl hf1 rfl rfl (Nat.le_of_ble_eq_true rfl) dL_law_498 ⟨by omega, by omega⟩ (fun v M2 q => ?_)
  obtain ⟨v, rfl, rfl, hS⟩ := q
  refine z_eq (st' := [.int x, .int x]) rfl rfl rfl ?_
  exact z_icmp_eq O 1071 dL_law_501 (by decide) (fun _ => kk M2 hS) (fun h => absurd rfl h)
set_option maxRecDepth 20000 in
set_option maxHeartbeats 4000000 in
theorem law_owner (O : zOk G F yy cL_law 4 rt RL 30 0) (hL : zLen G 0 ≤ 2560) (hij : i + 5 ≤ zLen G 0) (h : MS G Y M) (h99 : 99 ≤ Y) (hY : Y + 300 < 1048576) (hc : cells + 14 ≤ (zfR F).cells) (hs : slots + 2202 ≤ (zfR F).slots) (kk : ∀ M', MS G (Y + 20) M' → Z G F (cells + 7 + 7) (slots + 1101 + 1101) Q 1071 (lvL G i) [] M') : Z G F cells slots Q 506 (lvL G i) [] M := by
  obtain ⟨fs0, hf0⟩ := h.at0
  refine z_aload_n O dL_law_506 rfl ?_
  refine z_scr O 1 dL_law_507 dL_law_508 dL_law_509 dL_law_510 dL_law_511 (by decide) (by omega) hL ?_
  refine z_scr O 2 dL_law_512 dL_law_513 dL_law_514 dL_law_515 dL_law_516 (by decide) (by omega) hL ?_
  refine z_Vk (st := []) O (p_owner h h99 hY (sx G (i + 1)) (sx G (i + 2))) mX3_owner lkL_66 (ci := 3) rfl hf0 rfl rfl (by decide) dL_law_517 ⟨by omega, by omega⟩ (fun v M1 q => ?_)
  obtain ⟨v, rfl, ⟨x, rfl⟩, ⟨fs1, hf1⟩, q⟩ := q
  refine z_eq (st' := [.int x]) rfl rfl rfl ?_
  refine z_aload_n O dL_law_520 rfl ?_
  refine z_scr O 1 dL_law_521 dL_law_522 dL_law_523 dL_law_524 dL_law_525 (by decide) (by omega) hL ?_
  refine z_scr O 2 dL_law_526 dL_law_527 dL_law_528 dL_law_529 dL_law_530 (by decide) (by omega) hL ?_
  refine z_Vk (st := [.int x]) O q mX4_owner lkL_69 (ci := 4) rfl hf1 rfl rfl (Nat.le_of_ble_eq_true rfl) dL_law_531 ⟨by omega, by omega⟩ (fun v M2 q => ?_)
  obtain ⟨v, rfl, rfl, hS⟩ := q
  refine z_eq (st' := [.int x, .int x]) rfl rfl rfl ?_
  exact z_icmp_eq O 1071 dL_law_534 (by decide) (fun _ => kk M2 hS) (fun h => absurd rfl h)
set_option maxRecDepth 20000 in
set_option maxHeartbeats 4000000 in
theorem law_laws (O : zOk G F yy cL_law 4 rt RL 30 0) (hL : zLen G 0 ≤ 2560) (hij : i + 5 ≤ zLen G 0) (h : MS G Y M) (h99 : 99 ≤ Y) (hY : Y + 300 < 1048576) (hc : cells + 14 ≤ (zfR F).cells) (hs : slots + 2202 ≤ (zfR F).slots) (kk : ∀ M', MS G (Y + 20) M' → Z G F (cells + 7 + 7) (slots + 1101 + 1101) Q 1071 (lvL G i) [] M') : Z G F cells slots Q 539 (lvL G i) [] M := by
  obtain ⟨fs0, hf0⟩ := h.at0
  refine z_aload_n O dL_law_539 rfl ?_
  refine z_scr O 1 dL_law_540 dL_law_541 dL_law_542 dL_law_543 dL_law_544 (by decide) (by omega) hL ?_
  refine z_Vk (st := []) O (p_laws h h99 hY (sx G (i + 1))) mX3_laws lkL_70 (ci := 3) rfl hf0 rfl rfl (by decide) dL_law_545 ⟨by omega, by omega⟩ (fun v M1 q => ?_)
  obtain ⟨v, rfl, ⟨x, rfl⟩, ⟨fs1, hf1⟩, q⟩ := q
  refine z_eq (st' := [.int x]) rfl rfl rfl ?_
  refine z_aload_n O dL_law_548 rfl ?_
  refine z_scr O 1 dL_law_549 dL_law_550 dL_law_551 dL_law_552 dL_law_553 (by decide) (by omega) hL ?_
  refine z_Vk (st := [.int x]) O q mX4_laws lkL_73 (ci := 4) rfl hf1 rfl rfl (Nat.le_of_ble_eq_true rfl) dL_law_554 ⟨by omega, by omega⟩ (fun v M2 q => ?_)
  obtain ⟨v, rfl, rfl, hS⟩ := q
  refine z_eq (st' := [.int x, .int x]) rfl rfl rfl ?_
  exact z_icmp_eq O 1071 dL_law_557 (by decide) (fun _ => kk M2 hS) (fun h => absurd rfl h)
set_option maxRecDepth 20000 in
set_option maxHeartbeats 4000000 in
theorem law_share (O : zOk G F yy cL_law 4 rt RL 30 0) (hL : zLen G 0 ≤ 2560) (hij : i + 5 ≤ zLen G 0) (h : MS G Y M) (h99 : 99 ≤ Y) (hY : Y + 300 < 1048576) (hc : cells + 14 ≤ (zfR F).cells) (hs : slots + 2202 ≤ (zfR F).slots) (kk : ∀ M', MS G (Y + 20) M' → Z G F (cells + 7 + 7) (slots + 1101 + 1101) Q 1071 (lvL G i) [] M') : Z G F cells slots Q 562 (lvL G i) [] M := by
  obtain ⟨fs0, hf0⟩ := h.at0
  refine z_aload_n O dL_law_562 rfl ?_
  refine z_scr O 1 dL_law_563 dL_law_564 dL_law_565 dL_law_566 dL_law_567 (by decide) (by omega) hL ?_
  refine z_Vk (st := []) O (p_share h h99 hY (sx G (i + 1))) mX3_share lkL_74 (ci := 3) rfl hf0 rfl rfl (by decide) dL_law_568 ⟨by omega, by omega⟩ (fun v M1 q => ?_)
  obtain ⟨v, rfl, ⟨x, rfl⟩, ⟨fs1, hf1⟩, q⟩ := q
  refine z_eq (st' := [.int x]) rfl rfl rfl ?_
  refine z_aload_n O dL_law_571 rfl ?_
  refine z_scr O 1 dL_law_572 dL_law_573 dL_law_574 dL_law_575 dL_law_576 (by decide) (by omega) hL ?_
  refine z_Vk (st := [.int x]) O q mX4_share lkL_77 (ci := 4) rfl hf1 rfl rfl (Nat.le_of_ble_eq_true rfl) dL_law_577 ⟨by omega, by omega⟩ (fun v M2 q => ?_)
  obtain ⟨v, rfl, rfl, hS⟩ := q
  refine z_eq (st' := [.int x, .int x]) rfl rfl rfl ?_
  exact z_icmp_eq O 1071 dL_law_580 (by decide) (fun _ => kk M2 hS) (fun h => absurd rfl h)
set_option maxRecDepth 20000 in
set_option maxHeartbeats 4000000 in
theorem law_twos (O : zOk G F yy cL_law 4 rt RL 30 0) (hL : zLen G 0 ≤ 2560) (hij : i + 5 ≤ zLen G 0) (h : MS G Y M) (h99 : 99 ≤ Y) (hY : Y + 300 < 1048576) (hc : cells + 14 ≤ (zfR F).cells) (hs : slots + 2202 ≤ (zfR F).slots) (kk : ∀ M', MS G (Y + 20) M' → Z G F (cells + 7 + 7) (slots + 1101 + 1101) Q 1071 (lvL G i) [] M') : Z G F cells slots Q 585 (lvL G i) [] M := by
  obtain ⟨fs0, hf0⟩ := h.at0
  refine z_aload_n O dL_law_585 rfl ?_
  refine z_scr O 1 dL_law_586 dL_law_587 dL_law_588 dL_law_589 dL_law_590 (by decide) (by omega) hL ?_
  refine z_Vk (st := []) O (p_twos h h99 hY (sx G (i + 1))) mX3_twos lkL_78 (ci := 3) rfl hf0 rfl rfl (by decide) dL_law_591 ⟨by omega, by omega⟩ (fun v M1 q => ?_)
  obtain ⟨v, rfl, ⟨x, rfl⟩, ⟨fs1, hf1⟩, q⟩ := q
  refine z_eq (st' := [.int x]) rfl rfl rfl ?_
  refine z_aload_n O dL_law_594 rfl ?_
  refine z_scr O 1 dL_law_595 dL_law_596 dL_law_597 dL_law_598 dL_law_599 (by decide) (by omega) hL ?_
  refine z_Vk (st := [.int x]) O q mX4_twos lkL_81 (ci := 4) rfl hf1 rfl rfl (Nat.le_of_ble_eq_true rfl) dL_law_600 ⟨by omega, by omega⟩ (fun v M2 q => ?_)
  obtain ⟨v, rfl, rfl, hS⟩ := q
  refine z_eq (st' := [.int x, .int x]) rfl rfl rfl ?_
  exact z_icmp_eq O 1071 dL_law_603 (by decide) (fun _ => kk M2 hS) (fun h => absurd rfl h)
set_option maxRecDepth 20000 in
set_option maxHeartbeats 4000000 in
theorem law_whole (O : zOk G F yy cL_law 4 rt RL 30 0) (hL : zLen G 0 ≤ 2560) (hij : i + 5 ≤ zLen G 0) (h : MS G Y M) (h99 : 99 ≤ Y) (hY : Y + 300 < 1048576) (hc : cells + 14 ≤ (zfR F).cells) (hs : slots + 2202 ≤ (zfR F).slots) (kk : ∀ M', MS G (Y + 20) M' → Z G F (cells + 7 + 7) (slots + 1101 + 1101) Q 1071 (lvL G i) [] M') : Z G F cells slots Q 608 (lvL G i) [] M := by
  obtain ⟨fs0, hf0⟩ := h.at0
  refine z_aload_n O dL_law_608 rfl ?_
  refine z_Vk (st := []) O (p_whole h h99 hY ) mX3_whole lkL_82 (ci := 3) rfl hf0 rfl rfl (by decide) dL_law_609 ⟨by omega, by omega⟩ (fun v M1 q => ?_)
  obtain ⟨v, rfl, ⟨x, rfl⟩, ⟨fs1, hf1⟩, q⟩ := q
  refine z_eq (st' := [.int x]) rfl rfl rfl ?_
  refine z_aload_n O dL_law_612 rfl ?_
  refine z_Vk (st := [.int x]) O q mX4_whole lkL_85 (ci := 4) rfl hf1 rfl rfl (Nat.le_of_ble_eq_true rfl) dL_law_613 ⟨by omega, by omega⟩ (fun v M2 q => ?_)
  obtain ⟨v, rfl, rfl, hS⟩ := q
  refine z_eq (st' := [.int x, .int x]) rfl rfl rfl ?_
  exact z_icmp_eq O 1071 dL_law_616 (by decide) (fun _ => kk M2 hS) (fun h => absurd rfl h)
set_option maxRecDepth 20000 in
set_option maxHeartbeats 4000000 in
theorem law_holes (O : zOk G F yy cL_law 4 rt RL 30 0) (hL : zLen G 0 ≤ 2560) (hij : i + 5 ≤ zLen G 0) (h : MS G Y M) (h99 : 99 ≤ Y) (hY : Y + 300 < 1048576) (hc : cells + 14 ≤ (zfR F).cells) (hs : slots + 2202 ≤ (zfR F).slots) (kk : ∀ M', MS G (Y + 20) M' → Z G F (cells + 7 + 7) (slots + 1101 + 1101) Q 1071 (lvL G i) [] M') : Z G F cells slots Q 621 (lvL G i) [] M := by
  obtain ⟨fs0, hf0⟩ := h.at0
  refine z_aload_n O dL_law_621 rfl ?_
  refine z_scr O 1 dL_law_622 dL_law_623 dL_law_624 dL_law_625 dL_law_626 (by decide) (by omega) hL ?_
  refine z_Vk (st := []) O (p_holes h h99 hY (sx G (i + 1))) mX3_holes lkL_86 (ci := 3) rfl hf0 rfl rfl (by decide) dL_law_627 ⟨by omega, by omega⟩ (fun v M1 q => ?_)
  obtain ⟨v, rfl, ⟨x, rfl⟩, ⟨fs1, hf1⟩, q⟩ := q
  refine z_eq (st' := [.int x]) rfl rfl rfl ?_
  refine z_aload_n O dL_law_630 rfl ?_
  refine z_scr O 1 dL_law_631 dL_law_632 dL_law_633 dL_law_634 dL_law_635 (by decide) (by omega) hL ?_
  refine z_Vk (st := [.int x]) O q mX4_holes lkL_89 (ci := 4) rfl hf1 rfl rfl (Nat.le_of_ble_eq_true rfl) dL_law_636 ⟨by omega, by omega⟩ (fun v M2 q => ?_)
  obtain ⟨v, rfl, rfl, hS⟩ := q
  refine z_eq (st' := [.int x, .int x]) rfl rfl rfl ?_
  exact z_icmp_eq O 1071 dL_law_639 (by decide) (fun _ => kk M2 hS) (fun h => absurd rfl h)
set_option maxRecDepth 20000 in
set_option maxHeartbeats 4000000 in
theorem law_best (O : zOk G F yy cL_law 4 rt RL 30 0) (hL : zLen G 0 ≤ 2560) (hij : i + 5 ≤ zLen G 0) (h : MS G Y M) (h99 : 99 ≤ Y) (hY : Y + 300 < 1048576) (hc : cells + 14 ≤ (zfR F).cells) (hs : slots + 2202 ≤ (zfR F).slots) (kk : ∀ M', MS G (Y + 20) M' → Z G F (cells + 7 + 7) (slots + 1101 + 1101) Q 1071 (lvL G i) [] M') : Z G F cells slots Q 644 (lvL G i) [] M := by
  obtain ⟨fs0, hf0⟩ := h.at0
  refine z_aload_n O dL_law_644 rfl ?_
  refine z_scr O 1 dL_law_645 dL_law_646 dL_law_647 dL_law_648 dL_law_649 (by decide) (by omega) hL ?_
  refine z_scr O 2 dL_law_650 dL_law_651 dL_law_652 dL_law_653 dL_law_654 (by decide) (by omega) hL ?_
  refine z_scr O 3 dL_law_655 dL_law_656 dL_law_657 dL_law_658 dL_law_659 (by decide) (by omega) hL ?_
  refine z_Vk (st := []) O (p_best h h99 hY (sx G (i + 1)) (sx G (i + 2)) (sx G (i + 3))) mX3_best lkL_90 (ci := 3) rfl hf0 rfl rfl (by decide) dL_law_660 ⟨by omega, by omega⟩ (fun v M1 q => ?_)
  obtain ⟨v, rfl, ⟨x, rfl⟩, ⟨fs1, hf1⟩, q⟩ := q
  refine z_eq (st' := [.int x]) rfl rfl rfl ?_
  refine z_aload_n O dL_law_663 rfl ?_
  refine z_scr O 1 dL_law_664 dL_law_665 dL_law_666 dL_law_667 dL_law_668 (by decide) (by omega) hL ?_
  refine z_scr O 2 dL_law_669 dL_law_670 dL_law_671 dL_law_672 dL_law_673 (by decide) (by omega) hL ?_
  refine z_scr O 3 dL_law_674 dL_law_675 dL_law_676 dL_law_677 dL_law_678 (by decide) (by omega) hL ?_
  refine z_Vk (st := [.int x]) O q mX4_best lkL_93 (ci := 4) rfl hf1 rfl rfl (Nat.le_of_ble_eq_true rfl) dL_law_679 ⟨by omega, by omega⟩ (fun v M2 q => ?_)
  obtain ⟨v, rfl, rfl, hS⟩ := q
  refine z_eq (st' := [.int x, .int x]) rfl rfl rfl ?_
  exact z_icmp_eq O 1071 dL_law_682 (by decide) (fun _ => kk M2 hS) (fun h => absurd rfl h)
set_option maxRecDepth 20000 in
set_option maxHeartbeats 4000000 in
theorem law_split (O : zOk G F yy cL_law 4 rt RL 30 0) (hL : zLen G 0 ≤ 2560) (hij : i + 5 ≤ zLen G 0) (h : MS G Y M) (h99 : 99 ≤ Y) (hY : Y + 300 < 1048576) (hc : cells + 14 ≤ (zfR F).cells) (hs : slots + 2202 ≤ (zfR F).slots) (kk : ∀ M', MS G (Y + 20) M' → Z G F (cells + 7 + 7) (slots + 1101 + 1101) Q 1071 (lvL G i) [] M') : Z G F cells slots Q 687 (lvL G i) [] M := by
  obtain ⟨fs0, hf0⟩ := h.at0
  refine z_aload_n O dL_law_687 rfl ?_
  refine z_scr O 1 dL_law_688 dL_law_689 dL_law_690 dL_law_691 dL_law_692 (by decide) (by omega) hL ?_
  refine z_scr O 2 dL_law_693 dL_law_694 dL_law_695 dL_law_696 dL_law_697 (by decide) (by omega) hL ?_
  refine z_scr O 3 dL_law_698 dL_law_699 dL_law_700 dL_law_701 dL_law_702 (by decide) (by omega) hL ?_
  refine z_Vk (st := []) O (p_split h h99 hY (sx G (i + 1)) (sx G (i + 2)) (sx G (i + 3))) mX3_split lkL_94 (ci := 3) rfl hf0 rfl rfl (by decide) dL_law_703 ⟨by omega, by omega⟩ (fun v M1 q => ?_)
  obtain ⟨v, rfl, ⟨x, rfl⟩, ⟨fs1, hf1⟩, q⟩ := q
  refine z_eq (st' := [.int x]) rfl rfl rfl ?_
  refine z_aload_n O dL_law_706 rfl ?_
  refine z_scr O 1 dL_law_707 dL_law_708 dL_law_709 dL_law_710 dL_law_711 (by decide) (by omega) hL ?_
  refine z_scr O 2 dL_law_712 dL_law_713 dL_law_714 dL_law_715 dL_law_716 (by decide) (by omega) hL ?_
  refine z_scr O 3 dL_law_717 dL_law_718 dL_law_719 dL_law_720 dL_law_721 (by decide) (by omega) hL ?_
  refine z_Vk (st := [.int x]) O q mX4_split lkL_97 (ci := 4) rfl hf1 rfl rfl (Nat.le_of_ble_eq_true rfl) dL_law_722 ⟨by omega, by omega⟩ (fun v M2 q => ?_)
  obtain ⟨v, rfl, rfl, hS⟩ := q
  refine z_eq (st' := [.int x, .int x]) rfl rfl rfl ?_
  exact z_icmp_eq O 1071 dL_law_725 (by decide) (fun _ => kk M2 hS) (fun h => absurd rfl h)
set_option maxRecDepth 20000 in
set_option maxHeartbeats 4000000 in
theorem law_reading (O : zOk G F yy cL_law 4 rt RL 30 0) (hL : zLen G 0 ≤ 2560) (hij : i + 5 ≤ zLen G 0) (h : MS G Y M) (h99 : 99 ≤ Y) (hY : Y + 300 < 1048576) (hc : cells + 14 ≤ (zfR F).cells) (hs : slots + 2202 ≤ (zfR F).slots) (kk : ∀ M', MS G (Y + 20) M' → Z G F (cells + 7 + 7) (slots + 1101 + 1101) Q 1071 (lvL G i) [] M') : Z G F cells slots Q 730 (lvL G i) [] M := by
  obtain ⟨fs0, hf0⟩ := h.at0
  refine z_aload_n O dL_law_730 rfl ?_
  refine z_scr O 1 dL_law_731 dL_law_732 dL_law_733 dL_law_734 dL_law_735 (by decide) (by omega) hL ?_
  refine z_scr O 2 dL_law_736 dL_law_737 dL_law_738 dL_law_739 dL_law_740 (by decide) (by omega) hL ?_
  refine z_scr O 3 dL_law_741 dL_law_742 dL_law_743 dL_law_744 dL_law_745 (by decide) (by omega) hL ?_
  refine z_Vk (st := []) O (p_reading h h99 hY (sx G (i + 1)) (sx G (i + 2)) (sx G (i + 3))) mX3_reading lkL_98 (ci := 3) rfl hf0 rfl rfl (by decide) dL_law_746 ⟨by omega, by omega⟩ (fun v M1 q => ?_)
  obtain ⟨v, rfl, ⟨x, rfl⟩, ⟨fs1, hf1⟩, q⟩ := q
  refine z_eq (st' := [.int x]) rfl rfl rfl ?_
  refine z_aload_n O dL_law_749 rfl ?_
  refine z_scr O 1 dL_law_750 dL_law_751 dL_law_752 dL_law_753 dL_law_754 (by decide) (by omega) hL ?_
  refine z_scr O 2 dL_law_755 dL_law_756 dL_law_757 dL_law_758 dL_law_759 (by decide) (by omega) hL ?_
  refine z_scr O 3 dL_law_760 dL_law_761 dL_law_762 dL_law_763 dL_law_764 (by decide) (by omega) hL ?_
  refine z_Vk (st := [.int x]) O q mX4_reading lkL_101 (ci := 4) rfl hf1 rfl rfl (Nat.le_of_ble_eq_true rfl) dL_law_765 ⟨by omega, by omega⟩ (fun v M2 q => ?_)
  obtain ⟨v, rfl, rfl, hS⟩ := q
  refine z_eq (st' := [.int x, .int x]) rfl rfl rfl ?_
  exact z_icmp_eq O 1071 dL_law_768 (by decide) (fun _ => kk M2 hS) (fun h => absurd rfl h)
set_option maxRecDepth 20000 in
set_option maxHeartbeats 4000000 in
theorem law_forget (O : zOk G F yy cL_law 4 rt RL 30 0) (hL : zLen G 0 ≤ 2560) (hij : i + 5 ≤ zLen G 0) (h : MS G Y M) (h99 : 99 ≤ Y) (hY : Y + 300 < 1048576) (hc : cells + 14 ≤ (zfR F).cells) (hs : slots + 2202 ≤ (zfR F).slots) (kk : ∀ M', MS G (Y + 20) M' → Z G F (cells + 7 + 7) (slots + 1101 + 1101) Q 1071 (lvL G i) [] M') : Z G F cells slots Q 773 (lvL G i) [] M := by
  obtain ⟨fs0, hf0⟩ := h.at0
  refine z_aload_n O dL_law_773 rfl ?_
  refine z_Vk (st := []) O (p_forget h h99 hY ) mX3_forget lkL_102 (ci := 3) rfl hf0 rfl rfl (by decide) dL_law_774 ⟨by omega, by omega⟩ (fun v M1 q => ?_)
  obtain ⟨v, rfl, ⟨x, rfl⟩, ⟨fs1, hf1⟩, q⟩ := q
  refine z_eq (st' := [.int x]) rfl rfl rfl ?_
  refine z_aload_n O dL_law_777 rfl ?_
  refine z_Vk (st := [.int x]) O q mX4_forget lkL_105 (ci := 4) rfl hf1 rfl rfl (Nat.le_of_ble_eq_true rfl) dL_law_778 ⟨by omega, by omega⟩ (fun v M2 q => ?_)
  obtain ⟨v, rfl, rfl, hS⟩ := q
  refine z_eq (st' := [.int x, .int x]) rfl rfl rfl ?_
  exact z_icmp_eq O 1071 dL_law_781 (by decide) (fun _ => kk M2 hS) (fun h => absurd rfl h)
set_option maxRecDepth 20000 in
set_option maxHeartbeats 4000000 in
theorem law_may (O : zOk G F yy cL_law 4 rt RL 30 0) (hL : zLen G 0 ≤ 2560) (hij : i + 5 ≤ zLen G 0) (h : MS G Y M) (h99 : 99 ≤ Y) (hY : Y + 300 < 1048576) (hc : cells + 14 ≤ (zfR F).cells) (hs : slots + 2202 ≤ (zfR F).slots) (kk : ∀ M', MS G (Y + 20) M' → Z G F (cells + 7 + 7) (slots + 1101 + 1101) Q 1071 (lvL G i) [] M') : Z G F cells slots Q 786 (lvL G i) [] M := by
  obtain ⟨fs0, hf0⟩ := h.at0
  refine z_aload_n O dL_law_786 rfl ?_
  refine z_scr O 1 dL_law_787 dL_law_788 dL_law_789 dL_law_790 dL_law_791 (by decide) (by omega) hL ?_
  refine z_Vk (st := []) O (p_may h h99 hY (sx G (i + 1))) mX3_may lkL_106 (ci := 3) rfl hf0 rfl rfl (by decide) dL_law_792 ⟨by omega, by omega⟩ (fun v M1 q => ?_)
  obtain ⟨v, rfl, ⟨x, rfl⟩, ⟨fs1, hf1⟩, q⟩ := q
  refine z_eq (st' := [.int x]) rfl rfl rfl ?_
  refine z_aload_n O dL_law_795 rfl ?_
  refine z_scr O 1 dL_law_796 dL_law_797 dL_law_798 dL_law_799 dL_law_800 (by decide) (by omega) hL ?_
  refine z_Vk (st := [.int x]) O q mX4_may lkL_109 (ci := 4) rfl hf1 rfl rfl (Nat.le_of_ble_eq_true rfl) dL_law_801 ⟨by omega, by omega⟩ (fun v M2 q => ?_)
  obtain ⟨v, rfl, rfl, hS⟩ := q
  refine z_eq (st' := [.int x, .int x]) rfl rfl rfl ?_
  exact z_icmp_eq O 1071 dL_law_804 (by decide) (fun _ => kk M2 hS) (fun h => absurd rfl h)
set_option maxRecDepth 20000 in
set_option maxHeartbeats 4000000 in
theorem law_look (O : zOk G F yy cL_law 4 rt RL 30 0) (hL : zLen G 0 ≤ 2560) (hij : i + 5 ≤ zLen G 0) (h : MS G Y M) (h99 : 99 ≤ Y) (hY : Y + 300 < 1048576) (hc : cells + 14 ≤ (zfR F).cells) (hs : slots + 2202 ≤ (zfR F).slots) (kk : ∀ M', MS G (Y + 20) M' → Z G F (cells + 7 + 7) (slots + 1101 + 1101) Q 1071 (lvL G i) [] M') : Z G F cells slots Q 809 (lvL G i) [] M := by
  obtain ⟨fs0, hf0⟩ := h.at0
  refine z_aload_n O dL_law_809 rfl ?_
  refine z_scr O 1 dL_law_810 dL_law_811 dL_law_812 dL_law_813 dL_law_814 (by decide) (by omega) hL ?_
  refine z_Vk (st := []) O (p_look h h99 hY (sx G (i + 1))) mX3_look lkL_110 (ci := 3) rfl hf0 rfl rfl (by decide) dL_law_815 ⟨by omega, by omega⟩ (fun v M1 q => ?_)
  obtain ⟨v, rfl, ⟨x, rfl⟩, ⟨fs1, hf1⟩, q⟩ := q
  refine z_eq (st' := [.int x]) rfl rfl rfl ?_
  refine z_aload_n O dL_law_818 rfl ?_
  refine z_scr O 1 dL_law_819 dL_law_820 dL_law_821 dL_law_822 dL_law_823 (by decide) (by omega) hL ?_
  refine z_Vk (st := [.int x]) O q mX4_look lkL_113 (ci := 4) rfl hf1 rfl rfl (Nat.le_of_ble_eq_true rfl) dL_law_824 ⟨by omega, by omega⟩ (fun v M2 q => ?_)
  obtain ⟨v, rfl, rfl, hS⟩ := q
  refine z_eq (st' := [.int x, .int x]) rfl rfl rfl ?_
  exact z_icmp_eq O 1071 dL_law_827 (by decide) (fun _ => kk M2 hS) (fun h => absurd rfl h)
set_option maxRecDepth 20000 in
set_option maxHeartbeats 4000000 in
theorem law_orders (O : zOk G F yy cL_law 4 rt RL 30 0) (hL : zLen G 0 ≤ 2560) (hij : i + 5 ≤ zLen G 0) (h : MS G Y M) (h99 : 99 ≤ Y) (hY : Y + 300 < 1048576) (hc : cells + 14 ≤ (zfR F).cells) (hs : slots + 2202 ≤ (zfR F).slots) (kk : ∀ M', MS G (Y + 20) M' → Z G F (cells + 7 + 7) (slots + 1101 + 1101) Q 1071 (lvL G i) [] M') : Z G F cells slots Q 832 (lvL G i) [] M := by
  obtain ⟨fs0, hf0⟩ := h.at0
  refine z_aload_n O dL_law_832 rfl ?_
  refine z_scr O 1 dL_law_833 dL_law_834 dL_law_835 dL_law_836 dL_law_837 (by decide) (by omega) hL ?_
  refine z_scr O 2 dL_law_838 dL_law_839 dL_law_840 dL_law_841 dL_law_842 (by decide) (by omega) hL ?_
  refine z_Vk (st := []) O (p_orders h h99 hY (sx G (i + 1)) (sx G (i + 2))) mX3_orders lkL_114 (ci := 3) rfl hf0 rfl rfl (by decide) dL_law_843 ⟨by omega, by omega⟩ (fun v M1 q => ?_)
  obtain ⟨v, rfl, ⟨x, rfl⟩, ⟨fs1, hf1⟩, q⟩ := q
  refine z_eq (st' := [.int x]) rfl rfl rfl ?_
  refine z_aload_n O dL_law_846 rfl ?_
  refine z_scr O 1 dL_law_847 dL_law_848 dL_law_849 dL_law_850 dL_law_851 (by decide) (by omega) hL ?_
  refine z_scr O 2 dL_law_852 dL_law_853 dL_law_854 dL_law_855 dL_law_856 (by decide) (by omega) hL ?_
  refine z_Vk (st := [.int x]) O q mX4_orders lkL_117 (ci := 4) rfl hf1 rfl rfl (Nat.le_of_ble_eq_true rfl) dL_law_857 ⟨by omega, by omega⟩ (fun v M2 q => ?_)
  obtain ⟨v, rfl, rfl, hS⟩ := q
  refine z_eq (st' := [.int x, .int x]) rfl rfl rfl ?_
  exact z_icmp_eq O 1071 dL_law_860 (by decide) (fun _ => kk M2 hS) (fun h => absurd rfl h)
set_option maxRecDepth 20000 in
set_option maxHeartbeats 4000000 in
theorem law_odds (O : zOk G F yy cL_law 4 rt RL 30 0) (hL : zLen G 0 ≤ 2560) (hij : i + 5 ≤ zLen G 0) (h : MS G Y M) (h99 : 99 ≤ Y) (hY : Y + 300 < 1048576) (hc : cells + 14 ≤ (zfR F).cells) (hs : slots + 2202 ≤ (zfR F).slots) (kk : ∀ M', MS G (Y + 20) M' → Z G F (cells + 7 + 7) (slots + 1101 + 1101) Q 1071 (lvL G i) [] M') : Z G F cells slots Q 865 (lvL G i) [] M := by
  obtain ⟨fs0, hf0⟩ := h.at0
  refine z_aload_n O dL_law_865 rfl ?_
  refine z_scr O 1 dL_law_866 dL_law_867 dL_law_868 dL_law_869 dL_law_870 (by decide) (by omega) hL ?_
  refine z_scr O 2 dL_law_871 dL_law_872 dL_law_873 dL_law_874 dL_law_875 (by decide) (by omega) hL ?_
  refine z_scr O 3 dL_law_876 dL_law_877 dL_law_878 dL_law_879 dL_law_880 (by decide) (by omega) hL ?_
  refine z_Vk (st := []) O (p_odds h h99 hY (sx G (i + 1)) (sx G (i + 2)) (sx G (i + 3))) mX3_odds lkL_118 (ci := 3) rfl hf0 rfl rfl (by decide) dL_law_881 ⟨by omega, by omega⟩ (fun v M1 q => ?_)
  obtain ⟨v, rfl, ⟨x, rfl⟩, ⟨fs1, hf1⟩, q⟩ := q
  refine z_eq (st' := [.int x]) rfl rfl rfl ?_
  refine z_aload_n O dL_law_884 rfl ?_
  refine z_scr O 1 dL_law_885 dL_law_886 dL_law_887 dL_law_888 dL_law_889 (by decide) (by omega) hL ?_
  refine z_scr O 2 dL_law_890 dL_law_891 dL_law_892 dL_law_893 dL_law_894 (by decide) (by omega) hL ?_
  refine z_scr O 3 dL_law_895 dL_law_896 dL_law_897 dL_law_898 dL_law_899 (by decide) (by omega) hL ?_
  refine z_Vk (st := [.int x]) O q mX4_odds lkL_121 (ci := 4) rfl hf1 rfl rfl (Nat.le_of_ble_eq_true rfl) dL_law_900 ⟨by omega, by omega⟩ (fun v M2 q => ?_)
  obtain ⟨v, rfl, rfl, hS⟩ := q
  refine z_eq (st' := [.int x, .int x]) rfl rfl rfl ?_
  exact z_icmp_eq O 1071 dL_law_903 (by decide) (fun _ => kk M2 hS) (fun h => absurd rfl h)
set_option maxRecDepth 20000 in
set_option maxHeartbeats 4000000 in
theorem law_drawn (O : zOk G F yy cL_law 4 rt RL 30 0) (hL : zLen G 0 ≤ 2560) (hij : i + 5 ≤ zLen G 0) (h : MS G Y M) (h99 : 99 ≤ Y) (hY : Y + 300 < 1048576) (hc : cells + 14 ≤ (zfR F).cells) (hs : slots + 2202 ≤ (zfR F).slots) (kk : ∀ M', MS G (Y + 20) M' → Z G F (cells + 7 + 7) (slots + 1101 + 1101) Q 1071 (lvL G i) [] M') : Z G F cells slots Q 908 (lvL G i) [] M := by
  obtain ⟨fs0, hf0⟩ := h.at0
  refine z_aload_n O dL_law_908 rfl ?_
  refine z_scr O 1 dL_law_909 dL_law_910 dL_law_911 dL_law_912 dL_law_913 (by decide) (by omega) hL ?_
  refine z_scr O 2 dL_law_914 dL_law_915 dL_law_916 dL_law_917 dL_law_918 (by decide) (by omega) hL ?_
  refine z_Vk (st := []) O (p_drawn h h99 hY (sx G (i + 1)) (sx G (i + 2))) mX3_drawn lkL_122 (ci := 3) rfl hf0 rfl rfl (by decide) dL_law_919 ⟨by omega, by omega⟩ (fun v M1 q => ?_)
  obtain ⟨v, rfl, ⟨x, rfl⟩, ⟨fs1, hf1⟩, q⟩ := q
  refine z_eq (st' := [.int x]) rfl rfl rfl ?_
  refine z_aload_n O dL_law_922 rfl ?_
  refine z_scr O 1 dL_law_923 dL_law_924 dL_law_925 dL_law_926 dL_law_927 (by decide) (by omega) hL ?_
  refine z_scr O 2 dL_law_928 dL_law_929 dL_law_930 dL_law_931 dL_law_932 (by decide) (by omega) hL ?_
  refine z_Vk (st := [.int x]) O q mX4_drawn lkL_125 (ci := 4) rfl hf1 rfl rfl (Nat.le_of_ble_eq_true rfl) dL_law_933 ⟨by omega, by omega⟩ (fun v M2 q => ?_)
  obtain ⟨v, rfl, rfl, hS⟩ := q
  refine z_eq (st' := [.int x, .int x]) rfl rfl rfl ?_
  exact z_icmp_eq O 1071 dL_law_936 (by decide) (fun _ => kk M2 hS) (fun h => absurd rfl h)
set_option maxRecDepth 20000 in
set_option maxHeartbeats 4000000 in
theorem law_part (O : zOk G F yy cL_law 4 rt RL 30 0) (hL : zLen G 0 ≤ 2560) (hij : i + 5 ≤ zLen G 0) (h : MS G Y M) (h99 : 99 ≤ Y) (hY : Y + 300 < 1048576) (hc : cells + 14 ≤ (zfR F).cells) (hs : slots + 2202 ≤ (zfR F).slots) (kk : ∀ M', MS G (Y + 20) M' → Z G F (cells + 7 + 7) (slots + 1101 + 1101) Q 1071 (lvL G i) [] M') : Z G F cells slots Q 941 (lvL G i) [] M := by
  obtain ⟨fs0, hf0⟩ := h.at0
  refine z_aload_n O dL_law_941 rfl ?_
  refine z_scr O 1 dL_law_942 dL_law_943 dL_law_944 dL_law_945 dL_law_946 (by decide) (by omega) hL ?_
  refine z_Vk (st := []) O (p_part h h99 hY (sx G (i + 1))) mX3_part lkL_126 (ci := 3) rfl hf0 rfl rfl (by decide) dL_law_947 ⟨by omega, by omega⟩ (fun v M1 q => ?_)
  obtain ⟨v, rfl, ⟨x, rfl⟩, ⟨fs1, hf1⟩, q⟩ := q
  refine z_eq (st' := [.long x]) rfl rfl rfl ?_
  refine z_aload_n O dL_law_950 rfl ?_
  refine z_scr O 1 dL_law_951 dL_law_952 dL_law_953 dL_law_954 dL_law_955 (by decide) (by omega) hL ?_
  refine z_Vk (st := [.long x]) O q mX4_part lkL_130 (ci := 4) rfl hf1 rfl rfl (Nat.le_of_ble_eq_true rfl) dL_law_956 ⟨by omega, by omega⟩ (fun v M2 q => ?_)
  obtain ⟨v, rfl, rfl, hS⟩ := q
  refine z_eq (st' := [.long x, .long x]) rfl rfl rfl ?_
  refine z_lcmp O dL_law_959 ?_
  exact z_if_eq O 1071 dL_law_960 (by decide) (fun _ => kk M2 hS) (fun h => absurd (lg_cmp_s x) h)
set_option maxRecDepth 20000 in
set_option maxHeartbeats 4000000 in
theorem law_image (O : zOk G F yy cL_law 4 rt RL 30 0) (hL : zLen G 0 ≤ 2560) (hij : i + 5 ≤ zLen G 0) (h : MS G Y M) (h99 : 99 ≤ Y) (hY : Y + 300 < 1048576) (hc : cells + 14 ≤ (zfR F).cells) (hs : slots + 2202 ≤ (zfR F).slots) (kk : ∀ M', MS G (Y + 20) M' → Z G F (cells + 7 + 7) (slots + 1101 + 1101) Q 1071 (lvL G i) [] M') : Z G F cells slots Q 965 (lvL G i) [] M := by
  obtain ⟨fs0, hf0⟩ := h.at0
  refine z_aload_n O dL_law_965 rfl ?_
  refine z_scr O 1 dL_law_966 dL_law_967 dL_law_968 dL_law_969 dL_law_970 (by decide) (by omega) hL ?_
  refine z_Vk (st := []) O (p_image h h99 hY (sx G (i + 1))) mX3_image lkL_131 (ci := 3) rfl hf0 rfl rfl (by decide) dL_law_971 ⟨by omega, by omega⟩ (fun v M1 q => ?_)
  obtain ⟨v, rfl, ⟨x, rfl⟩, ⟨fs1, hf1⟩, q⟩ := q
  refine z_eq (st' := [.int x]) rfl rfl rfl ?_
  refine z_aload_n O dL_law_974 rfl ?_
  refine z_scr O 1 dL_law_975 dL_law_976 dL_law_977 dL_law_978 dL_law_979 (by decide) (by omega) hL ?_
  refine z_Vk (st := [.int x]) O q mX4_image lkL_134 (ci := 4) rfl hf1 rfl rfl (Nat.le_of_ble_eq_true rfl) dL_law_980 ⟨by omega, by omega⟩ (fun v M2 q => ?_)
  obtain ⟨v, rfl, rfl, hS⟩ := q
  refine z_eq (st' := [.int x, .int x]) rfl rfl rfl ?_
  exact z_icmp_eq O 1071 dL_law_983 (by decide) (fun _ => kk M2 hS) (fun h => absurd rfl h)
set_option maxRecDepth 20000 in
set_option maxHeartbeats 4000000 in
theorem law_from (O : zOk G F yy cL_law 4 rt RL 30 0) (hL : zLen G 0 ≤ 2560) (hij : i + 5 ≤ zLen G 0) (h : MS G Y M) (h99 : 99 ≤ Y) (hY : Y + 300 < 1048576) (hc : cells + 14 ≤ (zfR F).cells) (hs : slots + 2202 ≤ (zfR F).slots) (kk : ∀ M', MS G (Y + 20) M' → Z G F (cells + 7 + 7) (slots + 1101 + 1101) Q 1071 (lvL G i) [] M') : Z G F cells slots Q 988 (lvL G i) [] M := by
  obtain ⟨fs0, hf0⟩ := h.at0
  refine z_aload_n O dL_law_988 rfl ?_
  refine z_scr O 1 dL_law_989 dL_law_990 dL_law_991 dL_law_992 dL_law_993 (by decide) (by omega) hL ?_
  refine z_Vk (st := []) O (p_from h h99 hY (sx G (i + 1))) mX3_from lkL_135 (ci := 3) rfl hf0 rfl rfl (by decide) dL_law_994 ⟨by omega, by omega⟩ (fun v M1 q => ?_)
  obtain ⟨v, rfl, ⟨x, rfl⟩, ⟨fs1, hf1⟩, q⟩ := q
  refine z_eq (st' := [.int x]) rfl rfl rfl ?_
  refine z_aload_n O dL_law_997 rfl ?_
  refine z_scr O 1 dL_law_998 dL_law_999 dL_law_1000 dL_law_1001 dL_law_1002 (by decide) (by omega) hL ?_
  refine z_Vk (st := [.int x]) O q mX4_from lkL_138 (ci := 4) rfl hf1 rfl rfl (Nat.le_of_ble_eq_true rfl) dL_law_1003 ⟨by omega, by omega⟩ (fun v M2 q => ?_)
  obtain ⟨v, rfl, rfl, hS⟩ := q
  refine z_eq (st' := [.int x, .int x]) rfl rfl rfl ?_
  exact z_icmp_eq O 1071 dL_law_1006 (by decide) (fun _ => kk M2 hS) (fun h => absurd rfl h)
set_option maxRecDepth 20000 in
set_option maxHeartbeats 4000000 in
theorem law_status (O : zOk G F yy cL_law 4 rt RL 30 0) (hL : zLen G 0 ≤ 2560) (hij : i + 5 ≤ zLen G 0) (h : MS G Y M) (h99 : 99 ≤ Y) (hY : Y + 300 < 1048576) (hc : cells + 14 ≤ (zfR F).cells) (hs : slots + 2202 ≤ (zfR F).slots) (kk : ∀ M', MS G (Y + 20) M' → Z G F (cells + 7 + 7) (slots + 1101 + 1101) Q 1071 (lvL G i) [] M') : Z G F cells slots Q 1011 (lvL G i) [] M := by
  obtain ⟨fs0, hf0⟩ := h.at0
  refine z_aload_n O dL_law_1011 rfl ?_
  refine z_scr O 1 dL_law_1012 dL_law_1013 dL_law_1014 dL_law_1015 dL_law_1016 (by decide) (by omega) hL ?_
  refine z_Vk (st := []) O (p_status h h99 hY (sx G (i + 1))) mX3_status lkL_139 (ci := 3) rfl hf0 rfl rfl (by decide) dL_law_1017 ⟨by omega, by omega⟩ (fun v M1 q => ?_)
  obtain ⟨v, rfl, ⟨x, rfl⟩, ⟨fs1, hf1⟩, q⟩ := q
  refine z_eq (st' := [.int x]) rfl rfl rfl ?_
  refine z_aload_n O dL_law_1020 rfl ?_
  refine z_scr O 1 dL_law_1021 dL_law_1022 dL_law_1023 dL_law_1024 dL_law_1025 (by decide) (by omega) hL ?_
  refine z_Vk (st := [.int x]) O q mX4_status lkL_142 (ci := 4) rfl hf1 rfl rfl (Nat.le_of_ble_eq_true rfl) dL_law_1026 ⟨by omega, by omega⟩ (fun v M2 q => ?_)
  obtain ⟨v, rfl, rfl, hS⟩ := q
  refine z_eq (st' := [.int x, .int x]) rfl rfl rfl ?_
  exact z_icmp_eq O 1071 dL_law_1029 (by decide) (fun _ => kk M2 hS) (fun h => absurd rfl h)
set_option maxRecDepth 20000 in
set_option maxHeartbeats 4000000 in
theorem law_count (O : zOk G F yy cL_law 4 rt RL 30 0) (hL : zLen G 0 ≤ 2560) (hij : i + 5 ≤ zLen G 0) (h : MS G Y M) (h99 : 99 ≤ Y) (hY : Y + 300 < 1048576) (hc : cells + 14 ≤ (zfR F).cells) (hs : slots + 2202 ≤ (zfR F).slots) (kk : ∀ M', MS G (Y + 20) M' → Z G F (cells + 7 + 7) (slots + 1101 + 1101) Q 1071 (lvL G i) [] M') : Z G F cells slots Q 1034 (lvL G i) [] M := by
  obtain ⟨fs0, hf0⟩ := h.at0
  refine z_aload_n O dL_law_1034 rfl ?_
  refine z_scr O 1 dL_law_1035 dL_law_1036 dL_law_1037 dL_law_1038 dL_law_1039 (by decide) (by omega) hL ?_
  refine z_Vk (st := []) O (p_count h h99 hY (sx G (i + 1))) mX3_count lkL_143 (ci := 3) rfl hf0 rfl rfl (by decide) dL_law_1040 ⟨by omega, by omega⟩ (fun v M1 q => ?_)
  obtain ⟨v, rfl, ⟨x, rfl⟩, ⟨fs1, hf1⟩, q⟩ := q
  refine z_eq (st' := [.int x]) rfl rfl rfl ?_
  refine z_aload_n O dL_law_1043 rfl ?_
  refine z_scr O 1 dL_law_1044 dL_law_1045 dL_law_1046 dL_law_1047 dL_law_1048 (by decide) (by omega) hL ?_
  refine z_Vk (st := [.int x]) O q mX4_count lkL_146 (ci := 4) rfl hf1 rfl rfl (Nat.le_of_ble_eq_true rfl) dL_law_1049 ⟨by omega, by omega⟩ (fun v M2 q => ?_)
  obtain ⟨v, rfl, rfl, hS⟩ := q
  refine z_eq (st' := [.int x, .int x]) rfl rfl rfl ?_
  exact z_icmp_eq O 1071 dL_law_1052 (by decide) (fun _ => kk M2 hS) (fun h => absurd rfl h)
set_option maxRecDepth 20000 in
set_option maxHeartbeats 4000000 in
theorem law_digest (O : zOk G F yy cL_law 4 rt RL 30 0) (hL : zLen G 0 ≤ 2560) (hij : i + 5 ≤ zLen G 0) (h : MS G Y M) (h99 : 99 ≤ Y) (hY : Y + 300 < 1048576) (hc : cells + 14 ≤ (zfR F).cells) (hs : slots + 2202 ≤ (zfR F).slots) (kk : ∀ M', MS G (Y + 20) M' → Z G F (cells + 7 + 7) (slots + 1101 + 1101) Q 1071 (lvL G i) [] M') : Z G F cells slots Q 1057 (lvL G i) [] M := by
  obtain ⟨fs0, hf0⟩ := h.at0
  refine z_aload_n O dL_law_1057 rfl ?_
  refine z_Vk (st := []) O (p_digest h h99 hY ) mX3_digest lkL_147 (ci := 3) rfl hf0 rfl rfl (by decide) dL_law_1058 ⟨by omega, by omega⟩ (fun v M1 q => ?_)
  obtain ⟨v, rfl, ⟨x, rfl⟩, ⟨fs1, hf1⟩, q⟩ := q
  refine z_eq (st' := [.long x]) rfl rfl rfl ?_
  refine z_aload_n O dL_law_1061 rfl ?_
  refine z_Vk (st := [.long x]) O q mX4_digest lkL_151 (ci := 4) rfl hf1 rfl rfl (Nat.le_of_ble_eq_true rfl) dL_law_1062 ⟨by omega, by omega⟩ (fun v M2 q => ?_)
  obtain ⟨v, rfl, rfl, hS⟩ := q
  refine z_eq (st' := [.long x, .long x]) rfl rfl rfl ?_
  refine z_lcmp O dL_law_1065 ?_
  exact z_if_eq O 1071 dL_law_1066 (by decide) (fun _ => kk M2 hS) (fun h => absurd (lg_cmp_s x) h)
set_option maxRecDepth 20000 in
set_option maxHeartbeats 4000000 in
theorem law_loop (O : zOk G F yy cL_law 4 rt RL 30 0) (hL : zLen G 0 ≤ 2560) (hRc : (zfR F).cells = 600000) (hRs : (zfR F).slots = 7302250) (hend : ∀ cells slots lv M, cells ≤ 600000 → slots ≤ 7302250 → Z G F cells slots Q 1077 lv [] M) : ∀ fuel k M, zLen G 0 < 5 * (k + fuel) → k ≤ 512 → MS G (99 + 20 * k) M → Z G F (30 + 14 * k) (5938 + 2202 * k) Q 18 (lvL G (5 * k)) [] M := by
  intro fuel
  induction fuel with
  | zero =>
    intro k M hf hk h
    refine z_iload_n O dL_law_18 rfl ?_
    refine z_aload_n O dL_law_19 rfl ?_
    refine z_clen O 0 (by decide) dL_law_20 ?_
    refine z_iconst O (nI 5) dL_law_21 (by decide) ?_
    refine z_isub O dL_law_22 ?_
    refine z_icmp_gt O 1077 dL_law_23 (by decide) (fun _ => hend _ _ _ _ (by omega) (by omega)) (fun hn => ?_)
    rw [Int32.lt_iff_toInt_lt, show Int32.ofNat (zLen G 0) - nI 5 = nI (zLen G 0) - nI 5 from rfl, pk_sub_toInt (by omega) (by decide), nI_toInt (by omega)] at hn
    omega
  | succ fuel ih =>
    intro k M hf hk h
    refine z_iload_n O dL_law_18 rfl ?_
    refine z_aload_n O dL_law_19 rfl ?_
    refine z_clen O 0 (by decide) dL_law_20 ?_
    refine z_iconst O (nI 5) dL_law_21 (by decide) ?_
    refine z_isub O dL_law_22 ?_
    refine z_icmp_gt O 1077 dL_law_23 (by decide) (fun _ => hend _ _ _ _ (by omega) (by omega)) (fun hn => ?_)
    rw [Int32.lt_iff_toInt_lt, show Int32.ofNat (zLen G 0) - nI 5 = nI (zLen G 0) - nI 5 from rfl, pk_sub_toInt (by omega) (by decide), nI_toInt (by omega)] at hn
    have hij : 5 * k + 5 ≤ zLen G 0 := by omega
    have kk : ∀ M', MS G (99 + 20 * k + 20) M' → Z G F (30 + 14 * k + 7 + 7) (5938 + 2202 * k + 1101 + 1101) Q 1071 (lvL G (5 * k)) [] M' := fun M' hM' => by
      refine z_iincN O 5 (lv' := lvL G (5 * (k + 1))) dL_law_1071 (by decide) rfl rfl (by decide) ?_
      refine z_goto O 18 dL_law_1074 (by decide) ?_
      refine z_widen (k := 30 + 14 * (k + 1)) (n := 5938 + 2202 * (k + 1)) (by omega) (by omega) ?_
      exact ih (k + 1) M' (by omega) (by omega) (by rw [show 99 + 20 * (k + 1) = 99 + 20 * k + 20 by omega]; exact hM')
    refine z_aload_n O dL_law_26 rfl ?_
    refine z_iload_n O dL_law_27 rfl ?_
    refine z_cald O 0 (by decide) dL_law_28 (nI_in (by omega) (by omega)) ?_
    refine z_bipush O 63 dL_law_29 (by decide) ?_
    refine z_iand O dL_law_31 ?_
    obtain ⟨n, hn64, en⟩ := and63 (zCon G 0 (nI (5 * k)).toNatClampNeg)
    rw [en]
    refine z_tabN O 0 180 dL_law_32 rfl (by decide) (by decide) (by decide) (by decide) (fun _ => law_sock O hL hij h (by omega) (by omega) (by omega) (by omega) kk) (fun e0 => ?_)
    refine z_tabN O 1 203 dL_law_32 rfl (by decide) (by decide) (by decide) (by decide) (fun _ => law_wear O hL hij h (by omega) (by omega) (by omega) (by omega) kk) (fun e1 => ?_)
    refine z_tabN O 2 236 dL_law_32 rfl (by decide) (by decide) (by decide) (by decide) (fun _ => law_darn O hL hij h (by omega) (by omega) (by omega) (by omega) kk) (fun e2 => ?_)
    refine z_tabN O 3 289 dL_law_32 rfl (by decide) (by decide) (by decide) (by decide) (fun _ => law_unpick O hL hij h (by omega) (by omega) (by omega) (by omega) kk) (fun e3 => ?_)
    refine z_tabN O 4 312 dL_law_32 rfl (by decide) (by decide) (by decide) (by decide) (fun _ => law_years O hL hij h (by omega) (by omega) (by omega) (by omega) kk) (fun e4 => ?_)
    refine z_tabN O 5 335 dL_law_32 rfl (by decide) (by decide) (by decide) (by decide) (fun _ => law_undo O hL hij h (by omega) (by omega) (by omega) (by omega) kk) (fun e5 => ?_)
    refine z_tabN O 6 348 dL_law_32 rfl (by decide) (by decide) (by decide) (by decide) (fun _ => law_type O hL hij h (by omega) (by omega) (by omega) (by omega) kk) (fun e6 => ?_)
    refine z_tabN O 7 371 dL_law_32 rfl (by decide) (by decide) (by decide) (by decide) (fun _ => law_clear O hL hij h (by omega) (by omega) (by omega) (by omega) kk) (fun e7 => ?_)
    refine z_tabN O 8 384 dL_law_32 rfl (by decide) (by decide) (by decide) (by decide) (fun _ => law_read O hL hij h (by omega) (by omega) (by omega) (by omega) kk) (fun e8 => ?_)
    refine z_tabN O 9 397 dL_law_32 rfl (by decide) (by decide) (by decide) (by decide) (fun _ => law_of O hL hij h (by omega) (by omega) (by omega) (by omega) kk) (fun e9 => ?_)
    refine z_tabN O 10 440 dL_law_32 rfl (by decide) (by decide) (by decide) (by decide) (fun _ => law_cell O hL hij h (by omega) (by omega) (by omega) (by omega) kk) (fun e10 => ?_)
    refine z_tabN O 11 473 dL_law_32 rfl (by decide) (by decide) (by decide) (by decide) (fun _ => law_claims O hL hij h (by omega) (by omega) (by omega) (by omega) kk) (fun e11 => ?_)
    refine z_tabN O 12 506 dL_law_32 rfl (by decide) (by decide) (by decide) (by decide) (fun _ => law_owner O hL hij h (by omega) (by omega) (by omega) (by omega) kk) (fun e12 => ?_)
    refine z_tabN O 13 539 dL_law_32 rfl (by decide) (by decide) (by decide) (by decide) (fun _ => law_laws O hL hij h (by omega) (by omega) (by omega) (by omega) kk) (fun e13 => ?_)
    refine z_tabN O 14 562 dL_law_32 rfl (by decide) (by decide) (by decide) (by decide) (fun _ => law_share O hL hij h (by omega) (by omega) (by omega) (by omega) kk) (fun e14 => ?_)
    refine z_tabN O 15 585 dL_law_32 rfl (by decide) (by decide) (by decide) (by decide) (fun _ => law_twos O hL hij h (by omega) (by omega) (by omega) (by omega) kk) (fun e15 => ?_)
    refine z_tabN O 16 608 dL_law_32 rfl (by decide) (by decide) (by decide) (by decide) (fun _ => law_whole O hL hij h (by omega) (by omega) (by omega) (by omega) kk) (fun e16 => ?_)
    refine z_tabN O 17 621 dL_law_32 rfl (by decide) (by decide) (by decide) (by decide) (fun _ => law_holes O hL hij h (by omega) (by omega) (by omega) (by omega) kk) (fun e17 => ?_)
    refine z_tabN O 18 644 dL_law_32 rfl (by decide) (by decide) (by decide) (by decide) (fun _ => law_best O hL hij h (by omega) (by omega) (by omega) (by omega) kk) (fun e18 => ?_)
    refine z_tabN O 19 687 dL_law_32 rfl (by decide) (by decide) (by decide) (by decide) (fun _ => law_split O hL hij h (by omega) (by omega) (by omega) (by omega) kk) (fun e19 => ?_)
    refine z_tabN O 20 730 dL_law_32 rfl (by decide) (by decide) (by decide) (by decide) (fun _ => law_reading O hL hij h (by omega) (by omega) (by omega) (by omega) kk) (fun e20 => ?_)
    refine z_tabN O 21 773 dL_law_32 rfl (by decide) (by decide) (by decide) (by decide) (fun _ => law_forget O hL hij h (by omega) (by omega) (by omega) (by omega) kk) (fun e21 => ?_)
    refine z_tabN O 22 786 dL_law_32 rfl (by decide) (by decide) (by decide) (by decide) (fun _ => law_may O hL hij h (by omega) (by omega) (by omega) (by omega) kk) (fun e22 => ?_)
    refine z_tabN O 23 809 dL_law_32 rfl (by decide) (by decide) (by decide) (by decide) (fun _ => law_look O hL hij h (by omega) (by omega) (by omega) (by omega) kk) (fun e23 => ?_)
    refine z_tabN O 24 832 dL_law_32 rfl (by decide) (by decide) (by decide) (by decide) (fun _ => law_orders O hL hij h (by omega) (by omega) (by omega) (by omega) kk) (fun e24 => ?_)
    refine z_tabN O 25 865 dL_law_32 rfl (by decide) (by decide) (by decide) (by decide) (fun _ => law_odds O hL hij h (by omega) (by omega) (by omega) (by omega) kk) (fun e25 => ?_)
    refine z_tabN O 26 908 dL_law_32 rfl (by decide) (by decide) (by decide) (by decide) (fun _ => law_drawn O hL hij h (by omega) (by omega) (by omega) (by omega) kk) (fun e26 => ?_)
    refine z_tabN O 27 941 dL_law_32 rfl (by decide) (by decide) (by decide) (by decide) (fun _ => law_part O hL hij h (by omega) (by omega) (by omega) (by omega) kk) (fun e27 => ?_)
    refine z_tabN O 28 965 dL_law_32 rfl (by decide) (by decide) (by decide) (by decide) (fun _ => law_image O hL hij h (by omega) (by omega) (by omega) (by omega) kk) (fun e28 => ?_)
    refine z_tabN O 29 988 dL_law_32 rfl (by decide) (by decide) (by decide) (by decide) (fun _ => law_from O hL hij h (by omega) (by omega) (by omega) (by omega) kk) (fun e29 => ?_)
    refine z_tabN O 30 1011 dL_law_32 rfl (by decide) (by decide) (by decide) (by decide) (fun _ => law_status O hL hij h (by omega) (by omega) (by omega) (by omega) kk) (fun e30 => ?_)
    refine z_tabN O 31 1034 dL_law_32 rfl (by decide) (by decide) (by decide) (by decide) (fun _ => law_count O hL hij h (by omega) (by omega) (by omega) (by omega) kk) (fun e31 => ?_)
    refine z_tabN O 32 1057 dL_law_32 rfl (by decide) (by decide) (by decide) (by decide) (fun _ => law_digest O hL hij h (by omega) (by omega) (by omega) (by omega) kk) (fun e32 => ?_)
    exact z_tabNO O 1071 dL_law_32 (Or.inr (by omega)) (by omega) (by decide) (z_widen (by omega) (by omega) (kk M (h.mono (by omega))))
end LAW
