/-! ===== THE LAW: the loop over the script ===== -/
abbrev lz_L (i : Nat) : List (Option Value) := [some (.ref 5000), some (.ref 0), some (.ref 202), some (.int (nI i))]
def lz_S (G : vm_G) (C : vm_C) (b L : Nat) (xs : Nat → Int32) : Prop := va_X b L xs (vm_cs C) (vm_cs C).heap ∧ b < (vm_cs C).heap.size ∧ ¬ vm_cA C b ∧ G.2.2.1 5000 = b ∧ L ≤ 3072
section
variable {G : vm_G} {C : vm_C} {cc : ByteArray} {own : String} {nL d pc b L : Nat} {xs : Nat → Int32} {ls : List (Option Value)} {st : List Value} {σ : vm_M}
theorem lz_ald {i : Nat} (F : vm_F G C cc own nL d) (S : lz_S G C b L xs) (dd : decode cc pc = .ok (.iaload, 1)) (hi : i < L) (kk : vm_Ex G C nL (pc + 1) ls (.int (xs i) :: st) σ) : vm_Ex G C nL pc ls (.int (nI i) :: .ref 5000 :: st) σ := by
  intro H locs la hP hS hl
  obtain ⟨hX, hb, hA, rfl, hL⟩ := S
  refine va_sld F.1 F.2.1 hX hb hA hS (vp_in_nI hi (by omega)) dd ?_
  rw [nI_clamp (by omega)]
  exact kk H locs la hP hS hl
theorem lz_len (F : vm_F G C cc own nL d) (S : lz_S G C b L xs) (dd : decode cc pc = .ok (.arraylength, 1)) (kk : vm_Ex G C nL (pc + 1) ls (.int (nI L) :: st) σ) : vm_Ex G C nL pc ls (.ref 5000 :: st) σ := by
  intro H locs la hP hS hl
  obtain ⟨hX, hb, hA, rfl, hL⟩ := S
  exact va_slen F.1 F.2.1 hX hb hA hS dd (kk H locs la hP hS hl)
theorem lz_arg {i j : Nat} {x : Int} (F : vm_F G C cc own nL d) (S : lz_S G C b L xs) (d1 : decode cc pc = .ok (.aload_n 0, 1)) (d2 : decode cc (pc + 1) = .ok (.iload_n 3, 1)) (d3 : decode cc (pc + 2) = .ok (.iconst x, 1)) (d4 : decode cc (pc + 3) = .ok (.iadd, 1)) (d5 : decode cc (pc + 4) = .ok (.iaload, 1)) (hx : Int32.ofInt x = nI j) (hi : i + 6 ≤ L) (hj : j < 6) (kk : vm_Ex G C nL (pc + 5) (lz_L i) (.int (xs (i + j)) :: st) σ) : vm_Ex G C nL pc (lz_L i) st σ := by
  refine q_aload_n F 0 d1 rfl rfl ?_
  refine q_iload_n F 3 d2 rfl rfl ?_
  refine q_iconst F (nI j) d3 hx ?_
  refine n_iadd F d4 ?_
  exact lz_ald F S d5 (by omega) kk
end
theorem lz_and (v : Int32) : ∃ j, j < 32 ∧ v &&& nI 31 = nI j := by
  refine ⟨(v.toBitVec &&& 31#32).toNat, ?_, ?_⟩
  · rw [BitVec.toNat_and]
    exact Nat.lt_of_le_of_lt Nat.and_le_right (by decide)
  · apply Int32.toBitVec_inj.mp
    show v.toBitVec &&& 31#32 = BitVec.ofNat 32 (v.toBitVec &&& 31#32).toNat
    rw [BitVec.ofNat_toNat, BitVec.setWidth_eq]
theorem lz_bd {i L : Nat} (hi : i ≤ L) (hL : L ≤ 3072) (h : ¬ nI L - nI 6 < nI i) : i + 6 ≤ L := by
  rcases Nat.lt_or_ge L 6 with q | q
  · exfalso
    apply h
    have : (nI L - nI 6).toInt < 0 := by
      rcases (show L = 0 ∨ L = 1 ∨ L = 2 ∨ L = 3 ∨ L = 4 ∨ L = 5 by omega) with rfl | rfl | rfl | rfl | rfl | rfl <;> decide
    rw [Int32.lt_iff_toInt_lt, nI_toInt (n := i) (by omega)]
    omega
  · rw [pk_sub q] at h
    rcases Nat.lt_or_ge (L - 6) i with r | r
    · exact absurd (nI_lt r (by omega)) h
    · omega
section
variable {G : vm_G} {C : vm_C} {b L i : Nat} {xs : Nat → Int32} {σ : vm_M} {T : vm_T}

theorem lz_row (F : vm_F G C cL_law RL 4 10) (S : lz_S G C b L xs) (hi : i + 6 ≤ L) (hC : CInv σ T) (hM : MInv σ T) (hI : SInv T) (K : ∀ σ2 T2, CInv σ2 T2 → MInv σ2 T2 → SInv T2 → vm_Ex G C 4 980 (lz_L i) [] σ2) : vm_Ex G C 4 152 (lz_L i) [] σ := by
  refine q_aload_n F 1 dL_law_152 rfl rfl ?_
  refine lz_arg (j := 1) F S dL_law_153 dL_law_154 dL_law_155 dL_law_156 dL_law_157 (by decide) hi (by decide) ?_
  refine lz_arg (j := 2) F S dL_law_158 dL_law_159 dL_law_160 dL_law_161 dL_law_162 (by decide) hi (by decide) ?_
  refine lz_arg (j := 3) F S dL_law_163 dL_law_164 dL_law_165 dL_law_166 dL_law_167 (by decide) hi (by decide) ?_
  refine iL_13 F dL_law_168 (k_row hC hI _ _ _) (by decide) sh_0 rfl rfl (by decide) (fun v σ1 h => ?_)
  obtain ⟨rfl, hC1, hf1⟩ := h
  refine q_aload_n F 2 dL_law_171 rfl rfl ?_
  refine lz_arg (j := 1) F S dL_law_172 dL_law_173 dL_law_174 dL_law_175 dL_law_176 (by decide) hi (by decide) ?_
  refine lz_arg (j := 2) F S dL_law_177 dL_law_178 dL_law_179 dL_law_180 dL_law_181 (by decide) hi (by decide) ?_
  refine lz_arg (j := 3) F S dL_law_182 dL_law_183 dL_law_184 dL_law_185 dL_law_186 (by decide) hi (by decide) ?_
  refine iL_17 F dL_law_187 (m_row (hM.of hf1) hI _ _ _) (by decide) sh_202 rfl rfl (Nat.le_of_ble_eq_true rfl) (fun v σ2 h => ?_)
  obtain ⟨rfl, hM2, hf2⟩ := h
  refine q_icmp_eq F 980 dL_law_190 (by decide) (fun _ => ?_) (fun h => absurd rfl h)
  exact K _ _ (hC1.of hf2) hM2 (s_row hI _ _ _)
theorem lz_set (F : vm_F G C cL_law RL 4 10) (S : lz_S G C b L xs) (hi : i + 6 ≤ L) (hC : CInv σ T) (hM : MInv σ T) (hI : SInv T) (K : ∀ σ2 T2, CInv σ2 T2 → MInv σ2 T2 → SInv T2 → vm_Ex G C 4 980 (lz_L i) [] σ2) : vm_Ex G C 4 195 (lz_L i) [] σ := by
  refine q_aload_n F 1 dL_law_195 rfl rfl ?_
  refine lz_arg (j := 1) F S dL_law_196 dL_law_197 dL_law_198 dL_law_199 dL_law_200 (by decide) hi (by decide) ?_
  refine lz_arg (j := 2) F S dL_law_201 dL_law_202 dL_law_203 dL_law_204 dL_law_205 (by decide) hi (by decide) ?_
  refine lz_arg (j := 3) F S dL_law_206 dL_law_207 dL_law_208 dL_law_209 dL_law_210 (by decide) hi (by decide) ?_
  refine iL_18 F dL_law_211 (k_set hC hI _ _ _) (by decide) sh_0 rfl rfl (by decide) (fun v σ1 h => ?_)
  obtain ⟨rfl, hC1, hf1⟩ := h
  refine q_aload_n F 2 dL_law_214 rfl rfl ?_
  refine lz_arg (j := 1) F S dL_law_215 dL_law_216 dL_law_217 dL_law_218 dL_law_219 (by decide) hi (by decide) ?_
  refine lz_arg (j := 2) F S dL_law_220 dL_law_221 dL_law_222 dL_law_223 dL_law_224 (by decide) hi (by decide) ?_
  refine lz_arg (j := 3) F S dL_law_225 dL_law_226 dL_law_227 dL_law_228 dL_law_229 (by decide) hi (by decide) ?_
  refine iL_21 F dL_law_230 (m_set (hM.of hf1) hI _ _ _) (by decide) sh_202 rfl rfl (Nat.le_of_ble_eq_true rfl) (fun v σ2 h => ?_)
  obtain ⟨rfl, hM2, hf2⟩ := h
  refine q_icmp_eq F 980 dL_law_233 (by decide) (fun _ => ?_) (fun h => absurd rfl h)
  exact K _ _ (hC1.of hf2) hM2 (s_set hI _ _ _)
theorem lz_copy (F : vm_F G C cL_law RL 4 10) (S : lz_S G C b L xs) (hi : i + 6 ≤ L) (hC : CInv σ T) (hM : MInv σ T) (hI : SInv T) (K : ∀ σ2 T2, CInv σ2 T2 → MInv σ2 T2 → SInv T2 → vm_Ex G C 4 980 (lz_L i) [] σ2) : vm_Ex G C 4 238 (lz_L i) [] σ := by
  refine q_aload_n F 1 dL_law_238 rfl rfl ?_
  refine lz_arg (j := 1) F S dL_law_239 dL_law_240 dL_law_241 dL_law_242 dL_law_243 (by decide) hi (by decide) ?_
  refine lz_arg (j := 2) F S dL_law_244 dL_law_245 dL_law_246 dL_law_247 dL_law_248 (by decide) hi (by decide) ?_
  refine lz_arg (j := 3) F S dL_law_249 dL_law_250 dL_law_251 dL_law_252 dL_law_253 (by decide) hi (by decide) ?_
  refine lz_arg (j := 4) F S dL_law_254 dL_law_255 dL_law_256 dL_law_257 dL_law_258 (by decide) hi (by decide) ?_
  refine lz_arg (j := 5) F S dL_law_259 dL_law_260 dL_law_261 dL_law_262 dL_law_263 (by decide) hi (by decide) ?_
  refine iL_22 F dL_law_264 (k_copy hC hI _ _ _ _ _) (by decide) sh_0 rfl rfl (by decide) (fun v σ1 h => ?_)
  obtain ⟨rfl, hC1, hf1⟩ := h
  refine q_aload_n F 2 dL_law_267 rfl rfl ?_
  refine lz_arg (j := 1) F S dL_law_268 dL_law_269 dL_law_270 dL_law_271 dL_law_272 (by decide) hi (by decide) ?_
  refine lz_arg (j := 2) F S dL_law_273 dL_law_274 dL_law_275 dL_law_276 dL_law_277 (by decide) hi (by decide) ?_
  refine lz_arg (j := 3) F S dL_law_278 dL_law_279 dL_law_280 dL_law_281 dL_law_282 (by decide) hi (by decide) ?_
  refine lz_arg (j := 4) F S dL_law_283 dL_law_284 dL_law_285 dL_law_286 dL_law_287 (by decide) hi (by decide) ?_
  refine lz_arg (j := 5) F S dL_law_288 dL_law_289 dL_law_290 dL_law_291 dL_law_292 (by decide) hi (by decide) ?_
  refine iL_26 F dL_law_293 (m_copy (hM.of hf1) hI _ _ _ _ _) (by decide) sh_202 rfl rfl (Nat.le_of_ble_eq_true rfl) (fun v σ2 h => ?_)
  obtain ⟨rfl, hM2, hf2⟩ := h
  refine q_icmp_eq F 980 dL_law_296 (by decide) (fun _ => ?_) (fun h => absurd rfl h)
  exact K _ _ (hC1.of hf2) hM2 (s_copy hI _ _ _ _ _)
theorem lz_drop (F : vm_F G C cL_law RL 4 10) (S : lz_S G C b L xs) (hi : i + 6 ≤ L) (hC : CInv σ T) (hM : MInv σ T) (hI : SInv T) (K : ∀ σ2 T2, CInv σ2 T2 → MInv σ2 T2 → SInv T2 → vm_Ex G C 4 980 (lz_L i) [] σ2) : vm_Ex G C 4 301 (lz_L i) [] σ := by
  refine q_aload_n F 1 dL_law_301 rfl rfl ?_
  refine lz_arg (j := 1) F S dL_law_302 dL_law_303 dL_law_304 dL_law_305 dL_law_306 (by decide) hi (by decide) ?_
  refine iL_27 F dL_law_307 (k_drop hC hI _) (by decide) sh_0 rfl rfl (by decide) (fun v σ1 h => ?_)
  obtain ⟨rfl, hC1, hf1⟩ := h
  refine q_aload_n F 2 dL_law_310 rfl rfl ?_
  refine lz_arg (j := 1) F S dL_law_311 dL_law_312 dL_law_313 dL_law_314 dL_law_315 (by decide) hi (by decide) ?_
  refine iL_31 F dL_law_316 (m_drop (hM.of hf1) hI _) (by decide) sh_202 rfl rfl (Nat.le_of_ble_eq_true rfl) (fun v σ2 h => ?_)
  obtain ⟨rfl, hM2, hf2⟩ := h
  refine q_icmp_eq F 980 dL_law_319 (by decide) (fun _ => ?_) (fun h => absurd rfl h)
  exact K _ _ (hC1.of hf2) hM2 (s_drop hI _)
theorem lz_feed (F : vm_F G C cL_law RL 4 10) (S : lz_S G C b L xs) (hi : i + 6 ≤ L) (hC : CInv σ T) (hM : MInv σ T) (hI : SInv T) (K : ∀ σ2 T2, CInv σ2 T2 → MInv σ2 T2 → SInv T2 → vm_Ex G C 4 980 (lz_L i) [] σ2) : vm_Ex G C 4 324 (lz_L i) [] σ := by
  refine q_aload_n F 1 dL_law_324 rfl rfl ?_
  refine lz_arg (j := 1) F S dL_law_325 dL_law_326 dL_law_327 dL_law_328 dL_law_329 (by decide) hi (by decide) ?_
  refine q_i2l F dL_law_330 ?_
  refine q_bipush F (nI 32) dL_law_331 (by decide) ?_
  refine q_lshl F dL_law_333 ?_
  refine lz_arg (j := 2) F S dL_law_334 dL_law_335 dL_law_336 dL_law_337 dL_law_338 (by decide) hi (by decide) ?_
  refine q_i2l F dL_law_339 ?_
  refine q_ldc2 F dL_law_340 wL_32 ?_
  refine q_land F dL_law_343 ?_
  refine q_lor F dL_law_344 ?_
  refine lz_arg (j := 3) F S dL_law_345 dL_law_346 dL_law_347 dL_law_348 dL_law_349 (by decide) hi (by decide) ?_
  refine iL_34 F dL_law_350 (k_feed hC hI _ _) (by decide) sh_0 rfl rfl (by decide) (fun v σ1 h => ?_)
  obtain ⟨rfl, hC1, hf1⟩ := h
  refine q_aload_n F 2 dL_law_353 rfl rfl ?_
  refine lz_arg (j := 1) F S dL_law_354 dL_law_355 dL_law_356 dL_law_357 dL_law_358 (by decide) hi (by decide) ?_
  refine q_i2l F dL_law_359 ?_
  refine q_bipush F (nI 32) dL_law_360 (by decide) ?_
  refine q_lshl F dL_law_362 ?_
  refine lz_arg (j := 2) F S dL_law_363 dL_law_364 dL_law_365 dL_law_366 dL_law_367 (by decide) hi (by decide) ?_
  refine q_i2l F dL_law_368 ?_
  refine q_ldc2 F dL_law_369 wL_32 ?_
  refine q_land F dL_law_372 ?_
  refine q_lor F dL_law_373 ?_
  refine lz_arg (j := 3) F S dL_law_374 dL_law_375 dL_law_376 dL_law_377 dL_law_378 (by decide) hi (by decide) ?_
  refine iL_38 F dL_law_379 (m_feed (hM.of hf1) hI _ _) (by decide) sh_202 rfl rfl (Nat.le_of_ble_eq_true rfl) (fun v σ2 h => ?_)
  obtain ⟨rfl, hM2, hf2⟩ := h
  refine q_icmp_eq F 980 dL_law_382 (by decide) (fun _ => ?_) (fun h => absurd rfl h)
  exact K _ _ (hC1.of hf2) hM2 (s_feed hI _ _)
theorem lz_path (F : vm_F G C cL_law RL 4 10) (S : lz_S G C b L xs) (hi : i + 6 ≤ L) (hC : CInv σ T) (hM : MInv σ T) (hI : SInv T) (K : ∀ σ2 T2, CInv σ2 T2 → MInv σ2 T2 → SInv T2 → vm_Ex G C 4 980 (lz_L i) [] σ2) : vm_Ex G C 4 387 (lz_L i) [] σ := by
  refine q_aload_n F 1 dL_law_387 rfl rfl ?_
  refine iL_39 F dL_law_388 (k_path hC) (by decide) sh_0 rfl rfl (by decide) (fun v σ1 h => ?_)
  obtain ⟨T1, hR, hC1, hf1⟩ := h
  refine q_aload_n F 2 dL_law_391 rfl rfl ?_
  refine iL_43 F dL_law_392 (m_path (hM.of hf1) hI) (by decide) sh_202 rfl rfl (Nat.le_of_ble_eq_true rfl) (fun v σ2 h => ?_)
  obtain ⟨hall, hf2⟩ := h
  obtain ⟨rfl, hM2⟩ := hall _ _ hR
  refine q_icmp_eq F 980 dL_law_395 (by decide) (fun _ => ?_) (fun h => absurd rfl h)
  exact K _ _ (hC1.of hf2) hM2 (s_path hI hR)
theorem lz_fault (F : vm_F G C cL_law RL 4 10) (S : lz_S G C b L xs) (hi : i + 6 ≤ L) (hC : CInv σ T) (hM : MInv σ T) (hI : SInv T) (K : ∀ σ2 T2, CInv σ2 T2 → MInv σ2 T2 → SInv T2 → vm_Ex G C 4 980 (lz_L i) [] σ2) : vm_Ex G C 4 400 (lz_L i) [] σ := by
  refine q_aload_n F 1 dL_law_400 rfl rfl ?_
  refine iL_44 F dL_law_401 (k_fault hC hI ) (by decide) sh_0 rfl rfl (by decide) (fun v σ1 h => ?_)
  obtain ⟨rfl, hC1, hf1⟩ := h
  refine q_aload_n F 2 dL_law_404 rfl rfl ?_
  refine iL_47 F dL_law_405 (m_fault (hM.of hf1) hI ) (by decide) sh_202 rfl rfl (Nat.le_of_ble_eq_true rfl) (fun v σ2 h => ?_)
  obtain ⟨rfl, hM2, hf2⟩ := h
  refine q_icmp_eq F 980 dL_law_408 (by decide) (fun _ => ?_) (fun h => absurd rfl h)
  exact K _ _ (hC1.of hf2) hM2 hI
theorem lz_halves (F : vm_F G C cL_law RL 4 10) (S : lz_S G C b L xs) (hi : i + 6 ≤ L) (hC : CInv σ T) (hM : MInv σ T) (hI : SInv T) (K : ∀ σ2 T2, CInv σ2 T2 → MInv σ2 T2 → SInv T2 → vm_Ex G C 4 980 (lz_L i) [] σ2) : vm_Ex G C 4 413 (lz_L i) [] σ := by
  refine q_aload_n F 1 dL_law_413 rfl rfl ?_
  refine lz_arg (j := 1) F S dL_law_414 dL_law_415 dL_law_416 dL_law_417 dL_law_418 (by decide) hi (by decide) ?_
  refine iL_48 F dL_law_419 (k_halves hC hI _) (by decide) sh_0 rfl rfl (by decide) (fun v σ1 h => ?_)
  obtain ⟨rfl, hC1, hf1⟩ := h
  refine q_aload_n F 2 dL_law_422 rfl rfl ?_
  refine lz_arg (j := 1) F S dL_law_423 dL_law_424 dL_law_425 dL_law_426 dL_law_427 (by decide) hi (by decide) ?_
  refine iL_51 F dL_law_428 (m_halves (hM.of hf1) hI _) (by decide) sh_202 rfl rfl (Nat.le_of_ble_eq_true rfl) (fun v σ2 h => ?_)
  obtain ⟨rfl, hM2, hf2⟩ := h
  refine q_icmp_eq F 980 dL_law_431 (by decide) (fun _ => ?_) (fun h => absurd rfl h)
  exact K _ _ (hC1.of hf2) hM2 (s_halves hI _)
theorem lz_undo (F : vm_F G C cL_law RL 4 10) (S : lz_S G C b L xs) (hi : i + 6 ≤ L) (hC : CInv σ T) (hM : MInv σ T) (hI : SInv T) (K : ∀ σ2 T2, CInv σ2 T2 → MInv σ2 T2 → SInv T2 → vm_Ex G C 4 980 (lz_L i) [] σ2) : vm_Ex G C 4 436 (lz_L i) [] σ := by
  refine q_aload_n F 1 dL_law_436 rfl rfl ?_
  refine iL_52 F dL_law_437 (k_undo hC hI ) (by decide) sh_0 rfl rfl (by decide) (fun v σ1 h => ?_)
  obtain ⟨rfl, hC1, hf1⟩ := h
  refine q_aload_n F 2 dL_law_440 rfl rfl ?_
  refine iL_55 F dL_law_441 (m_undo (hM.of hf1) hI ) (by decide) sh_202 rfl rfl (Nat.le_of_ble_eq_true rfl) (fun v σ2 h => ?_)
  obtain ⟨rfl, hM2, hf2⟩ := h
  refine q_icmp_eq F 980 dL_law_444 (by decide) (fun _ => ?_) (fun h => absurd rfl h)
  exact K _ _ (hC1.of hf2) hM2 (s_undo hI)
theorem lz_person (F : vm_F G C cL_law RL 4 10) (S : lz_S G C b L xs) (hi : i + 6 ≤ L) (hC : CInv σ T) (hM : MInv σ T) (hI : SInv T) (K : ∀ σ2 T2, CInv σ2 T2 → MInv σ2 T2 → SInv T2 → vm_Ex G C 4 980 (lz_L i) [] σ2) : vm_Ex G C 4 449 (lz_L i) [] σ := by
  refine q_aload_n F 1 dL_law_449 rfl rfl ?_
  refine lz_arg (j := 1) F S dL_law_450 dL_law_451 dL_law_452 dL_law_453 dL_law_454 (by decide) hi (by decide) ?_
  refine lz_arg (j := 2) F S dL_law_455 dL_law_456 dL_law_457 dL_law_458 dL_law_459 (by decide) hi (by decide) ?_
  refine iL_56 F dL_law_460 (k_person hC hI _ _) (by decide) sh_0 rfl rfl (by decide) (fun v σ1 h => ?_)
  obtain ⟨rfl, hC1, hf1⟩ := h
  refine q_aload_n F 2 dL_law_463 rfl rfl ?_
  refine lz_arg (j := 1) F S dL_law_464 dL_law_465 dL_law_466 dL_law_467 dL_law_468 (by decide) hi (by decide) ?_
  refine lz_arg (j := 2) F S dL_law_469 dL_law_470 dL_law_471 dL_law_472 dL_law_473 (by decide) hi (by decide) ?_
  refine iL_60 F dL_law_474 (m_person (hM.of hf1) hI _ _) (by decide) sh_202 rfl rfl (Nat.le_of_ble_eq_true rfl) (fun v σ2 h => ?_)
  obtain ⟨rfl, hM2, hf2⟩ := h
  refine q_icmp_eq F 980 dL_law_477 (by decide) (fun _ => ?_) (fun h => absurd rfl h)
  exact K _ _ (hC1.of hf2) hM2 (s_person hI _ _)
theorem lz_errand (F : vm_F G C cL_law RL 4 10) (S : lz_S G C b L xs) (hi : i + 6 ≤ L) (hC : CInv σ T) (hM : MInv σ T) (hI : SInv T) (K : ∀ σ2 T2, CInv σ2 T2 → MInv σ2 T2 → SInv T2 → vm_Ex G C 4 980 (lz_L i) [] σ2) : vm_Ex G C 4 482 (lz_L i) [] σ := by
  refine q_aload_n F 1 dL_law_482 rfl rfl ?_
  refine lz_arg (j := 1) F S dL_law_483 dL_law_484 dL_law_485 dL_law_486 dL_law_487 (by decide) hi (by decide) ?_
  refine lz_arg (j := 2) F S dL_law_488 dL_law_489 dL_law_490 dL_law_491 dL_law_492 (by decide) hi (by decide) ?_
  refine iL_61 F dL_law_493 (k_errand hC hI _ _) (by decide) sh_0 rfl rfl (by decide) (fun v σ1 h => ?_)
  obtain ⟨rfl, hC1, hf1⟩ := h
  refine q_aload_n F 2 dL_law_496 rfl rfl ?_
  refine lz_arg (j := 1) F S dL_law_497 dL_law_498 dL_law_499 dL_law_500 dL_law_501 (by decide) hi (by decide) ?_
  refine lz_arg (j := 2) F S dL_law_502 dL_law_503 dL_law_504 dL_law_505 dL_law_506 (by decide) hi (by decide) ?_
  refine iL_64 F dL_law_507 (m_errand (hM.of hf1) hI _ _) (by decide) sh_202 rfl rfl (Nat.le_of_ble_eq_true rfl) (fun v σ2 h => ?_)
  obtain ⟨rfl, hM2, hf2⟩ := h
  refine q_icmp_eq F 980 dL_law_510 (by decide) (fun _ => ?_) (fun h => absurd rfl h)
  exact K _ _ (hC1.of hf2) hM2 (s_errand hI _ _)
theorem lz_ahead (F : vm_F G C cL_law RL 4 10) (S : lz_S G C b L xs) (hi : i + 6 ≤ L) (hC : CInv σ T) (hM : MInv σ T) (hI : SInv T) (K : ∀ σ2 T2, CInv σ2 T2 → MInv σ2 T2 → SInv T2 → vm_Ex G C 4 980 (lz_L i) [] σ2) : vm_Ex G C 4 515 (lz_L i) [] σ := by
  refine q_aload_n F 1 dL_law_515 rfl rfl ?_
  refine lz_arg (j := 1) F S dL_law_516 dL_law_517 dL_law_518 dL_law_519 dL_law_520 (by decide) hi (by decide) ?_
  refine lz_arg (j := 2) F S dL_law_521 dL_law_522 dL_law_523 dL_law_524 dL_law_525 (by decide) hi (by decide) ?_
  refine lz_arg (j := 3) F S dL_law_526 dL_law_527 dL_law_528 dL_law_529 dL_law_530 (by decide) hi (by decide) ?_
  refine iL_65 F dL_law_531 (k_ahead hC hI _ _ _) (by decide) sh_0 rfl rfl (by decide) (fun v σ1 h => ?_)
  obtain ⟨rfl, hC1, hf1⟩ := h
  refine q_aload_n F 2 dL_law_534 rfl rfl ?_
  refine lz_arg (j := 1) F S dL_law_535 dL_law_536 dL_law_537 dL_law_538 dL_law_539 (by decide) hi (by decide) ?_
  refine lz_arg (j := 2) F S dL_law_540 dL_law_541 dL_law_542 dL_law_543 dL_law_544 (by decide) hi (by decide) ?_
  refine lz_arg (j := 3) F S dL_law_545 dL_law_546 dL_law_547 dL_law_548 dL_law_549 (by decide) hi (by decide) ?_
  refine iL_68 F dL_law_550 (m_ahead (hM.of hf1) hI _ _ _) (by decide) sh_202 rfl rfl (Nat.le_of_ble_eq_true rfl) (fun v σ2 h => ?_)
  obtain ⟨rfl, hM2, hf2⟩ := h
  refine q_icmp_eq F 980 dL_law_553 (by decide) (fun _ => ?_) (fun h => absurd rfl h)
  exact K _ _ (hC1.of hf2) hM2 (s_ahead hI _ _ _)
theorem lz_done (F : vm_F G C cL_law RL 4 10) (S : lz_S G C b L xs) (hi : i + 6 ≤ L) (hC : CInv σ T) (hM : MInv σ T) (hI : SInv T) (K : ∀ σ2 T2, CInv σ2 T2 → MInv σ2 T2 → SInv T2 → vm_Ex G C 4 980 (lz_L i) [] σ2) : vm_Ex G C 4 558 (lz_L i) [] σ := by
  refine q_aload_n F 1 dL_law_558 rfl rfl ?_
  refine lz_arg (j := 1) F S dL_law_559 dL_law_560 dL_law_561 dL_law_562 dL_law_563 (by decide) hi (by decide) ?_
  refine lz_arg (j := 2) F S dL_law_564 dL_law_565 dL_law_566 dL_law_567 dL_law_568 (by decide) hi (by decide) ?_
  refine iL_69 F dL_law_569 (k_done hC hI _ _) (by decide) sh_0 rfl rfl (by decide) (fun v σ1 h => ?_)
  obtain ⟨rfl, hC1, hf1⟩ := h
  refine q_aload_n F 2 dL_law_572 rfl rfl ?_
  refine lz_arg (j := 1) F S dL_law_573 dL_law_574 dL_law_575 dL_law_576 dL_law_577 (by decide) hi (by decide) ?_
  refine lz_arg (j := 2) F S dL_law_578 dL_law_579 dL_law_580 dL_law_581 dL_law_582 (by decide) hi (by decide) ?_
  refine iL_72 F dL_law_583 (m_done (hM.of hf1) hI _ _) (by decide) sh_202 rfl rfl (Nat.le_of_ble_eq_true rfl) (fun v σ2 h => ?_)
  obtain ⟨rfl, hM2, hf2⟩ := h
  refine q_icmp_eq F 980 dL_law_586 (by decide) (fun _ => ?_) (fun h => absurd rfl h)
  exact K _ _ (hC1.of hf2) hM2 (s_done hI _ _)
theorem lz_secret (F : vm_F G C cL_law RL 4 10) (S : lz_S G C b L xs) (hi : i + 6 ≤ L) (hC : CInv σ T) (hM : MInv σ T) (hI : SInv T) (K : ∀ σ2 T2, CInv σ2 T2 → MInv σ2 T2 → SInv T2 → vm_Ex G C 4 980 (lz_L i) [] σ2) : vm_Ex G C 4 591 (lz_L i) [] σ := by
  refine q_aload_n F 1 dL_law_591 rfl rfl ?_
  refine lz_arg (j := 1) F S dL_law_592 dL_law_593 dL_law_594 dL_law_595 dL_law_596 (by decide) hi (by decide) ?_
  refine lz_arg (j := 2) F S dL_law_597 dL_law_598 dL_law_599 dL_law_600 dL_law_601 (by decide) hi (by decide) ?_
  refine iL_73 F dL_law_602 (k_secret hC hI _ _) (by decide) sh_0 rfl rfl (by decide) (fun v σ1 h => ?_)
  obtain ⟨rfl, hC1, hf1⟩ := h
  refine q_aload_n F 2 dL_law_605 rfl rfl ?_
  refine lz_arg (j := 1) F S dL_law_606 dL_law_607 dL_law_608 dL_law_609 dL_law_610 (by decide) hi (by decide) ?_
  refine lz_arg (j := 2) F S dL_law_611 dL_law_612 dL_law_613 dL_law_614 dL_law_615 (by decide) hi (by decide) ?_
  refine iL_76 F dL_law_616 (m_secret (hM.of hf1) hI _ _) (by decide) sh_202 rfl rfl (Nat.le_of_ble_eq_true rfl) (fun v σ2 h => ?_)
  obtain ⟨rfl, hM2, hf2⟩ := h
  refine q_icmp_eq F 980 dL_law_619 (by decide) (fun _ => ?_) (fun h => absurd rfl h)
  exact K _ _ (hC1.of hf2) hM2 (s_secret hI _ _)
theorem lz_soon (F : vm_F G C cL_law RL 4 10) (S : lz_S G C b L xs) (hi : i + 6 ≤ L) (hC : CInv σ T) (hM : MInv σ T) (hI : SInv T) (K : ∀ σ2 T2, CInv σ2 T2 → MInv σ2 T2 → SInv T2 → vm_Ex G C 4 980 (lz_L i) [] σ2) : vm_Ex G C 4 624 (lz_L i) [] σ := by
  refine q_aload_n F 1 dL_law_624 rfl rfl ?_
  refine lz_arg (j := 1) F S dL_law_625 dL_law_626 dL_law_627 dL_law_628 dL_law_629 (by decide) hi (by decide) ?_
  refine iL_77 F dL_law_630 (k_soon hC hI _) (by decide) sh_0 rfl rfl (by decide) (fun v σ1 h => ?_)
  obtain ⟨rfl, hC1, hf1⟩ := h
  refine q_aload_n F 2 dL_law_633 rfl rfl ?_
  refine lz_arg (j := 1) F S dL_law_634 dL_law_635 dL_law_636 dL_law_637 dL_law_638 (by decide) hi (by decide) ?_
  refine iL_80 F dL_law_639 (m_soon (hM.of hf1) hI _) (by decide) sh_202 rfl rfl (Nat.le_of_ble_eq_true rfl) (fun v σ2 h => ?_)
  obtain ⟨rfl, hM2, hf2⟩ := h
  refine q_icmp_eq F 980 dL_law_642 (by decide) (fun _ => ?_) (fun h => absurd rfl h)
  exact K _ _ (hC1.of hf2) hM2 (s_soon hI _)
theorem lz_clean (F : vm_F G C cL_law RL 4 10) (S : lz_S G C b L xs) (hi : i + 6 ≤ L) (hC : CInv σ T) (hM : MInv σ T) (hI : SInv T) (K : ∀ σ2 T2, CInv σ2 T2 → MInv σ2 T2 → SInv T2 → vm_Ex G C 4 980 (lz_L i) [] σ2) : vm_Ex G C 4 647 (lz_L i) [] σ := by
  refine q_aload_n F 1 dL_law_647 rfl rfl ?_
  refine lz_arg (j := 1) F S dL_law_648 dL_law_649 dL_law_650 dL_law_651 dL_law_652 (by decide) hi (by decide) ?_
  refine lz_arg (j := 2) F S dL_law_653 dL_law_654 dL_law_655 dL_law_656 dL_law_657 (by decide) hi (by decide) ?_
  refine lz_arg (j := 3) F S dL_law_658 dL_law_659 dL_law_660 dL_law_661 dL_law_662 (by decide) hi (by decide) ?_
  refine lz_arg (j := 4) F S dL_law_663 dL_law_664 dL_law_665 dL_law_666 dL_law_667 (by decide) hi (by decide) ?_
  refine iL_81 F dL_law_668 (k_clean hC hI _ _ _ _) (by decide) sh_0 rfl rfl (by decide) (fun v σ1 h => ?_)
  obtain ⟨rfl, hC1, hf1⟩ := h
  refine q_aload_n F 2 dL_law_671 rfl rfl ?_
  refine lz_arg (j := 1) F S dL_law_672 dL_law_673 dL_law_674 dL_law_675 dL_law_676 (by decide) hi (by decide) ?_
  refine lz_arg (j := 2) F S dL_law_677 dL_law_678 dL_law_679 dL_law_680 dL_law_681 (by decide) hi (by decide) ?_
  refine lz_arg (j := 3) F S dL_law_682 dL_law_683 dL_law_684 dL_law_685 dL_law_686 (by decide) hi (by decide) ?_
  refine lz_arg (j := 4) F S dL_law_687 dL_law_688 dL_law_689 dL_law_690 dL_law_691 (by decide) hi (by decide) ?_
  refine iL_85 F dL_law_692 (m_clean (hM.of hf1) hI _ _ _ _) (by decide) sh_202 rfl rfl (Nat.le_of_ble_eq_true rfl) (fun v σ2 h => ?_)
  obtain ⟨rfl, hM2, hf2⟩ := h
  refine q_icmp_eq F 980 dL_law_695 (by decide) (fun _ => ?_) (fun h => absurd rfl h)
  exact K _ _ (hC1.of hf2) hM2 (s_clean hI _ _ _ _)
theorem lz_hands (F : vm_F G C cL_law RL 4 10) (S : lz_S G C b L xs) (hi : i + 6 ≤ L) (hC : CInv σ T) (hM : MInv σ T) (hI : SInv T) (K : ∀ σ2 T2, CInv σ2 T2 → MInv σ2 T2 → SInv T2 → vm_Ex G C 4 980 (lz_L i) [] σ2) : vm_Ex G C 4 700 (lz_L i) [] σ := by
  refine q_aload_n F 1 dL_law_700 rfl rfl ?_
  refine lz_arg (j := 1) F S dL_law_701 dL_law_702 dL_law_703 dL_law_704 dL_law_705 (by decide) hi (by decide) ?_
  refine lz_arg (j := 2) F S dL_law_706 dL_law_707 dL_law_708 dL_law_709 dL_law_710 (by decide) hi (by decide) ?_
  refine lz_arg (j := 3) F S dL_law_711 dL_law_712 dL_law_713 dL_law_714 dL_law_715 (by decide) hi (by decide) ?_
  refine iL_86 F dL_law_716 (k_hands hC hI _ _ _) (by decide) sh_0 rfl rfl (by decide) (fun v σ1 h => ?_)
  obtain ⟨rfl, hC1, hf1⟩ := h
  refine q_aload_n F 2 dL_law_719 rfl rfl ?_
  refine lz_arg (j := 1) F S dL_law_720 dL_law_721 dL_law_722 dL_law_723 dL_law_724 (by decide) hi (by decide) ?_
  refine lz_arg (j := 2) F S dL_law_725 dL_law_726 dL_law_727 dL_law_728 dL_law_729 (by decide) hi (by decide) ?_
  refine lz_arg (j := 3) F S dL_law_730 dL_law_731 dL_law_732 dL_law_733 dL_law_734 (by decide) hi (by decide) ?_
  refine iL_89 F dL_law_735 (m_hands (hM.of hf1) hI _ _ _) (by decide) sh_202 rfl rfl (Nat.le_of_ble_eq_true rfl) (fun v σ2 h => ?_)
  obtain ⟨rfl, hM2, hf2⟩ := h
  refine q_icmp_eq F 980 dL_law_738 (by decide) (fun _ => ?_) (fun h => absurd rfl h)
  exact K _ _ (hC1.of hf2) hM2 (s_hands hI _ _ _)
theorem lz_began (F : vm_F G C cL_law RL 4 10) (S : lz_S G C b L xs) (hi : i + 6 ≤ L) (hC : CInv σ T) (hM : MInv σ T) (hI : SInv T) (K : ∀ σ2 T2, CInv σ2 T2 → MInv σ2 T2 → SInv T2 → vm_Ex G C 4 980 (lz_L i) [] σ2) : vm_Ex G C 4 743 (lz_L i) [] σ := by
  refine q_aload_n F 1 dL_law_743 rfl rfl ?_
  refine lz_arg (j := 1) F S dL_law_744 dL_law_745 dL_law_746 dL_law_747 dL_law_748 (by decide) hi (by decide) ?_
  refine lz_arg (j := 2) F S dL_law_749 dL_law_750 dL_law_751 dL_law_752 dL_law_753 (by decide) hi (by decide) ?_
  refine lz_arg (j := 3) F S dL_law_754 dL_law_755 dL_law_756 dL_law_757 dL_law_758 (by decide) hi (by decide) ?_
  refine iL_90 F dL_law_759 (k_began hC hI _ _ _) (by decide) sh_0 rfl rfl (by decide) (fun v σ1 h => ?_)
  obtain ⟨rfl, hC1, hf1⟩ := h
  refine q_aload_n F 2 dL_law_762 rfl rfl ?_
  refine lz_arg (j := 1) F S dL_law_763 dL_law_764 dL_law_765 dL_law_766 dL_law_767 (by decide) hi (by decide) ?_
  refine lz_arg (j := 2) F S dL_law_768 dL_law_769 dL_law_770 dL_law_771 dL_law_772 (by decide) hi (by decide) ?_
  refine lz_arg (j := 3) F S dL_law_773 dL_law_774 dL_law_775 dL_law_776 dL_law_777 (by decide) hi (by decide) ?_
  refine iL_93 F dL_law_778 (m_began (hM.of hf1) hI _ _ _) (by decide) sh_202 rfl rfl (Nat.le_of_ble_eq_true rfl) (fun v σ2 h => ?_)
  obtain ⟨rfl, hM2, hf2⟩ := h
  refine q_icmp_eq F 980 dL_law_781 (by decide) (fun _ => ?_) (fun h => absurd rfl h)
  exact K _ _ (hC1.of hf2) hM2 (s_began hI _ _ _)
theorem lz_image (F : vm_F G C cL_law RL 4 10) (S : lz_S G C b L xs) (hi : i + 6 ≤ L) (hC : CInv σ T) (hM : MInv σ T) (hI : SInv T) (K : ∀ σ2 T2, CInv σ2 T2 → MInv σ2 T2 → SInv T2 → vm_Ex G C 4 980 (lz_L i) [] σ2) : vm_Ex G C 4 786 (lz_L i) [] σ := by
  refine q_aload_n F 1 dL_law_786 rfl rfl ?_
  refine lz_arg (j := 1) F S dL_law_787 dL_law_788 dL_law_789 dL_law_790 dL_law_791 (by decide) hi (by decide) ?_
  refine iL_94 F dL_law_792 (k_image hC hI _) (by decide) sh_0 rfl rfl (by decide) (fun v σ1 h => ?_)
  obtain ⟨rfl, hC1, hf1⟩ := h
  refine q_aload_n F 2 dL_law_795 rfl rfl ?_
  refine lz_arg (j := 1) F S dL_law_796 dL_law_797 dL_law_798 dL_law_799 dL_law_800 (by decide) hi (by decide) ?_
  refine iL_97 F dL_law_801 (m_image (hM.of hf1) hI _) (by decide) sh_202 rfl rfl (Nat.le_of_ble_eq_true rfl) (fun v σ2 h => ?_)
  obtain ⟨rfl, hM2, hf2⟩ := h
  refine q_icmp_eq F 980 dL_law_804 (by decide) (fun _ => ?_) (fun h => absurd rfl h)
  exact K _ _ (hC1.of hf2) hM2 (s_image hI _)
theorem lz_restore (F : vm_F G C cL_law RL 4 10) (S : lz_S G C b L xs) (hi : i + 6 ≤ L) (hC : CInv σ T) (hM : MInv σ T) (hI : SInv T) (K : ∀ σ2 T2, CInv σ2 T2 → MInv σ2 T2 → SInv T2 → vm_Ex G C 4 980 (lz_L i) [] σ2) : vm_Ex G C 4 809 (lz_L i) [] σ := by
  refine q_aload_n F 1 dL_law_809 rfl rfl ?_
  refine lz_arg (j := 1) F S dL_law_810 dL_law_811 dL_law_812 dL_law_813 dL_law_814 (by decide) hi (by decide) ?_
  refine iL_98 F dL_law_815 (k_restore hC hI _) (by decide) sh_0 rfl rfl (by decide) (fun v σ1 h => ?_)
  obtain ⟨rfl, hC1, hf1⟩ := h
  refine q_aload_n F 2 dL_law_818 rfl rfl ?_
  refine lz_arg (j := 1) F S dL_law_819 dL_law_820 dL_law_821 dL_law_822 dL_law_823 (by decide) hi (by decide) ?_
  refine iL_101 F dL_law_824 (m_restore (hM.of hf1) hI _) (by decide) sh_202 rfl rfl (Nat.le_of_ble_eq_true rfl) (fun v σ2 h => ?_)
  obtain ⟨rfl, hM2, hf2⟩ := h
  refine q_icmp_eq F 980 dL_law_827 (by decide) (fun _ => ?_) (fun h => absurd rfl h)
  exact K _ _ (hC1.of hf2) hM2 (s_restore hI _)
theorem lz_kind (F : vm_F G C cL_law RL 4 10) (S : lz_S G C b L xs) (hi : i + 6 ≤ L) (hC : CInv σ T) (hM : MInv σ T) (hI : SInv T) (K : ∀ σ2 T2, CInv σ2 T2 → MInv σ2 T2 → SInv T2 → vm_Ex G C 4 980 (lz_L i) [] σ2) : vm_Ex G C 4 832 (lz_L i) [] σ := by
  refine q_aload_n F 1 dL_law_832 rfl rfl ?_
  refine lz_arg (j := 1) F S dL_law_833 dL_law_834 dL_law_835 dL_law_836 dL_law_837 (by decide) hi (by decide) ?_
  refine iL_102 F dL_law_838 (k_kind hC hI _) (by decide) sh_0 rfl rfl (by decide) (fun v σ1 h => ?_)
  obtain ⟨rfl, hC1, hf1⟩ := h
  refine q_aload_n F 2 dL_law_841 rfl rfl ?_
  refine lz_arg (j := 1) F S dL_law_842 dL_law_843 dL_law_844 dL_law_845 dL_law_846 (by decide) hi (by decide) ?_
  refine iL_105 F dL_law_847 (m_kind (hM.of hf1) hI _) (by decide) sh_202 rfl rfl (Nat.le_of_ble_eq_true rfl) (fun v σ2 h => ?_)
  obtain ⟨rfl, hM2, hf2⟩ := h
  refine q_icmp_eq F 980 dL_law_850 (by decide) (fun _ => ?_) (fun h => absurd rfl h)
  exact K _ _ (hC1.of hf2) hM2 (s_kind hI _)
theorem lz_as (F : vm_F G C cL_law RL 4 10) (S : lz_S G C b L xs) (hi : i + 6 ≤ L) (hC : CInv σ T) (hM : MInv σ T) (hI : SInv T) (K : ∀ σ2 T2, CInv σ2 T2 → MInv σ2 T2 → SInv T2 → vm_Ex G C 4 980 (lz_L i) [] σ2) : vm_Ex G C 4 855 (lz_L i) [] σ := by
  refine q_aload_n F 1 dL_law_855 rfl rfl ?_
  refine lz_arg (j := 1) F S dL_law_856 dL_law_857 dL_law_858 dL_law_859 dL_law_860 (by decide) hi (by decide) ?_
  refine lz_arg (j := 2) F S dL_law_861 dL_law_862 dL_law_863 dL_law_864 dL_law_865 (by decide) hi (by decide) ?_
  refine iL_106 F dL_law_866 (k_as hC hI _ _) (by decide) sh_0 rfl rfl (by decide) (fun v σ1 h => ?_)
  obtain ⟨rfl, hC1, hf1⟩ := h
  refine q_aload_n F 2 dL_law_869 rfl rfl ?_
  refine lz_arg (j := 1) F S dL_law_870 dL_law_871 dL_law_872 dL_law_873 dL_law_874 (by decide) hi (by decide) ?_
  refine lz_arg (j := 2) F S dL_law_875 dL_law_876 dL_law_877 dL_law_878 dL_law_879 (by decide) hi (by decide) ?_
  refine iL_109 F dL_law_880 (m_as (hM.of hf1) hI _ _) (by decide) sh_202 rfl rfl (Nat.le_of_ble_eq_true rfl) (fun v σ2 h => ?_)
  obtain ⟨rfl, hM2, hf2⟩ := h
  refine q_icmp_eq F 980 dL_law_883 (by decide) (fun _ => ?_) (fun h => absurd rfl h)
  exact K _ _ (hC1.of hf2) hM2 (s_as hI _ _)
theorem lz_ask (F : vm_F G C cL_law RL 4 10) (S : lz_S G C b L xs) (hi : i + 6 ≤ L) (hC : CInv σ T) (hM : MInv σ T) (hI : SInv T) (K : ∀ σ2 T2, CInv σ2 T2 → MInv σ2 T2 → SInv T2 → vm_Ex G C 4 980 (lz_L i) [] σ2) : vm_Ex G C 4 888 (lz_L i) [] σ := by
  refine q_aload_n F 1 dL_law_888 rfl rfl ?_
  refine lz_arg (j := 1) F S dL_law_889 dL_law_890 dL_law_891 dL_law_892 dL_law_893 (by decide) hi (by decide) ?_
  refine lz_arg (j := 2) F S dL_law_894 dL_law_895 dL_law_896 dL_law_897 dL_law_898 (by decide) hi (by decide) ?_
  refine iL_110 F dL_law_899 (k_ask hC hI _ _) (by decide) sh_0 rfl rfl (by decide) (fun v σ1 h => ?_)
  obtain ⟨rfl, hC1, hf1⟩ := h
  refine q_aload_n F 2 dL_law_902 rfl rfl ?_
  refine lz_arg (j := 1) F S dL_law_903 dL_law_904 dL_law_905 dL_law_906 dL_law_907 (by decide) hi (by decide) ?_
  refine lz_arg (j := 2) F S dL_law_908 dL_law_909 dL_law_910 dL_law_911 dL_law_912 (by decide) hi (by decide) ?_
  refine iL_113 F dL_law_913 (m_ask (hM.of hf1) hI _ _) (by decide) sh_202 rfl rfl (Nat.le_of_ble_eq_true rfl) (fun v σ2 h => ?_)
  obtain ⟨rfl, hM2, hf2⟩ := h
  refine q_icmp_eq F 980 dL_law_916 (by decide) (fun _ => ?_) (fun h => absurd rfl h)
  exact K _ _ (hC1.of hf2) hM2 (s_ask hI _ _)
theorem lz_trace (F : vm_F G C cL_law RL 4 10) (S : lz_S G C b L xs) (hi : i + 6 ≤ L) (hC : CInv σ T) (hM : MInv σ T) (hI : SInv T) (K : ∀ σ2 T2, CInv σ2 T2 → MInv σ2 T2 → SInv T2 → vm_Ex G C 4 980 (lz_L i) [] σ2) : vm_Ex G C 4 921 (lz_L i) [] σ := by
  refine q_aload_n F 1 dL_law_921 rfl rfl ?_
  refine lz_arg (j := 1) F S dL_law_922 dL_law_923 dL_law_924 dL_law_925 dL_law_926 (by decide) hi (by decide) ?_
  refine iL_114 F dL_law_927 (k_trace hC hI _) (by decide) sh_0 rfl rfl (by decide) (fun v σ1 h => ?_)
  obtain ⟨rfl, hC1, hf1⟩ := h
  refine q_aload_n F 2 dL_law_930 rfl rfl ?_
  refine lz_arg (j := 1) F S dL_law_931 dL_law_932 dL_law_933 dL_law_934 dL_law_935 (by decide) hi (by decide) ?_
  refine iL_117 F dL_law_936 (m_trace (hM.of hf1) hI _) (by decide) sh_202 rfl rfl (Nat.le_of_ble_eq_true rfl) (fun v σ2 h => ?_)
  obtain ⟨rfl, hM2, hf2⟩ := h
  refine q_icmp_eq F 980 dL_law_939 (by decide) (fun _ => ?_) (fun h => absurd rfl h)
  exact K _ _ (hC1.of hf2) hM2 (s_trace hI _)
theorem lz_count (F : vm_F G C cL_law RL 4 10) (S : lz_S G C b L xs) (hi : i + 6 ≤ L) (hC : CInv σ T) (hM : MInv σ T) (hI : SInv T) (K : ∀ σ2 T2, CInv σ2 T2 → MInv σ2 T2 → SInv T2 → vm_Ex G C 4 980 (lz_L i) [] σ2) : vm_Ex G C 4 944 (lz_L i) [] σ := by
  refine q_aload_n F 1 dL_law_944 rfl rfl ?_
  refine lz_arg (j := 1) F S dL_law_945 dL_law_946 dL_law_947 dL_law_948 dL_law_949 (by decide) hi (by decide) ?_
  refine iL_118 F dL_law_950 (k_count hC hI _) (by decide) sh_0 rfl rfl (by decide) (fun v σ1 h => ?_)
  obtain ⟨rfl, hC1, hf1⟩ := h
  refine q_aload_n F 2 dL_law_953 rfl rfl ?_
  refine lz_arg (j := 1) F S dL_law_954 dL_law_955 dL_law_956 dL_law_957 dL_law_958 (by decide) hi (by decide) ?_
  refine iL_121 F dL_law_959 (m_count (hM.of hf1) hI _) (by decide) sh_202 rfl rfl (Nat.le_of_ble_eq_true rfl) (fun v σ2 h => ?_)
  obtain ⟨rfl, hM2, hf2⟩ := h
  refine q_icmp_eq F 980 dL_law_962 (by decide) (fun _ => ?_) (fun h => absurd rfl h)
  exact K _ _ (hC1.of hf2) hM2 hI
theorem lz_status (F : vm_F G C cL_law RL 4 10) (S : lz_S G C b L xs) (hi : i + 6 ≤ L) (hC : CInv σ T) (hM : MInv σ T) (hI : SInv T) (K : ∀ σ2 T2, CInv σ2 T2 → MInv σ2 T2 → SInv T2 → vm_Ex G C 4 980 (lz_L i) [] σ2) : vm_Ex G C 4 967 (lz_L i) [] σ := by
  refine q_aload_n F 1 dL_law_967 rfl rfl ?_
  refine iL_122 F dL_law_968 (k_status hC hI ) (by decide) sh_0 rfl rfl (by decide) (fun v σ1 h => ?_)
  obtain ⟨rfl, hC1, hf1⟩ := h
  refine q_aload_n F 2 dL_law_971 rfl rfl ?_
  refine iL_125 F dL_law_972 (m_status (hM.of hf1) hI ) (by decide) sh_202 rfl rfl (Nat.le_of_ble_eq_true rfl) (fun v σ2 h => ?_)
  obtain ⟨rfl, hM2, hf2⟩ := h
  refine q_icmp_eq F 980 dL_law_975 (by decide) (fun _ => ?_) (fun h => absurd rfl h)
  exact K _ _ (hC1.of hf2) hM2 hI
theorem lz_case (F : vm_F G C cL_law RL 4 10) (S : lz_S G C b L xs) (hi : i + 6 ≤ L) (hC : CInv σ T) (hM : MInv σ T) (hI : SInv T) (K : ∀ σ2 T2, CInv σ2 T2 → MInv σ2 T2 → SInv T2 → vm_Ex G C 4 980 (lz_L i) [] σ2) : ∀ j, j < 32 → vm_Ex G C 4 33 (lz_L i) [.int (nI j)] σ := by
  intro j hj
  rcases (show j = 0 ∨ j = 1 ∨ j = 2 ∨ j = 3 ∨ j = 4 ∨ j = 5 ∨ j = 6 ∨ j = 7 ∨ j = 8 ∨ j = 9 ∨ j = 10 ∨ j = 11 ∨ j = 12 ∨ j = 13 ∨ j = 14 ∨ j = 15 ∨ j = 16 ∨ j = 17 ∨ j = 18 ∨ j = 19 ∨ j = 20 ∨ j = 21 ∨ j = 22 ∨ j = 23 ∨ j = 24 ∨ j = 25 ∨ j = 26 ∨ j = 27 ∨ j = 28 ∨ j = 29 ∨ j = 30 ∨ j = 31 by omega) with rfl | rfl | rfl | rfl | rfl | rfl | rfl | rfl | rfl | rfl | rfl | rfl | rfl | rfl | rfl | rfl | rfl | rfl | rfl | rfl | rfl | rfl | rfl | rfl | rfl | rfl | rfl | rfl | rfl | rfl | rfl | rfl
  · exact q_tableIn F 152 dL_law_33 (off := 119) (by decide) (by decide) (by decide) (by decide) (lz_row F S hi hC hM hI K)
  · exact q_tableIn F 195 dL_law_33 (off := 162) (by decide) (by decide) (by decide) (by decide) (lz_set F S hi hC hM hI K)
  · exact q_tableIn F 238 dL_law_33 (off := 205) (by decide) (by decide) (by decide) (by decide) (lz_copy F S hi hC hM hI K)
  · exact q_tableIn F 301 dL_law_33 (off := 268) (by decide) (by decide) (by decide) (by decide) (lz_drop F S hi hC hM hI K)
  · exact q_tableIn F 324 dL_law_33 (off := 291) (by decide) (by decide) (by decide) (by decide) (lz_feed F S hi hC hM hI K)
  · exact q_tableIn F 387 dL_law_33 (off := 354) (by decide) (by decide) (by decide) (by decide) (lz_path F S hi hC hM hI K)
  · exact q_tableIn F 400 dL_law_33 (off := 367) (by decide) (by decide) (by decide) (by decide) (lz_fault F S hi hC hM hI K)
  · exact q_tableIn F 413 dL_law_33 (off := 380) (by decide) (by decide) (by decide) (by decide) (lz_halves F S hi hC hM hI K)
  · exact q_tableIn F 436 dL_law_33 (off := 403) (by decide) (by decide) (by decide) (by decide) (lz_undo F S hi hC hM hI K)
  · exact q_tableIn F 449 dL_law_33 (off := 416) (by decide) (by decide) (by decide) (by decide) (lz_person F S hi hC hM hI K)
  · exact q_tableIn F 482 dL_law_33 (off := 449) (by decide) (by decide) (by decide) (by decide) (lz_errand F S hi hC hM hI K)
  · exact q_tableIn F 515 dL_law_33 (off := 482) (by decide) (by decide) (by decide) (by decide) (lz_ahead F S hi hC hM hI K)
  · exact q_tableIn F 558 dL_law_33 (off := 525) (by decide) (by decide) (by decide) (by decide) (lz_done F S hi hC hM hI K)
  · exact q_tableIn F 591 dL_law_33 (off := 558) (by decide) (by decide) (by decide) (by decide) (lz_secret F S hi hC hM hI K)
  · exact q_tableIn F 624 dL_law_33 (off := 591) (by decide) (by decide) (by decide) (by decide) (lz_soon F S hi hC hM hI K)
  · exact q_tableIn F 647 dL_law_33 (off := 614) (by decide) (by decide) (by decide) (by decide) (lz_clean F S hi hC hM hI K)
  · exact q_tableIn F 700 dL_law_33 (off := 667) (by decide) (by decide) (by decide) (by decide) (lz_hands F S hi hC hM hI K)
  · exact q_tableIn F 743 dL_law_33 (off := 710) (by decide) (by decide) (by decide) (by decide) (lz_began F S hi hC hM hI K)
  · exact q_tableIn F 786 dL_law_33 (off := 753) (by decide) (by decide) (by decide) (by decide) (lz_image F S hi hC hM hI K)
  · exact q_tableIn F 809 dL_law_33 (off := 776) (by decide) (by decide) (by decide) (by decide) (lz_restore F S hi hC hM hI K)
  · exact q_tableIn F 832 dL_law_33 (off := 799) (by decide) (by decide) (by decide) (by decide) (lz_kind F S hi hC hM hI K)
  · exact q_tableIn F 855 dL_law_33 (off := 822) (by decide) (by decide) (by decide) (by decide) (lz_as F S hi hC hM hI K)
  · exact q_tableIn F 888 dL_law_33 (off := 855) (by decide) (by decide) (by decide) (by decide) (lz_ask F S hi hC hM hI K)
  · exact q_tableIn F 921 dL_law_33 (off := 888) (by decide) (by decide) (by decide) (by decide) (lz_trace F S hi hC hM hI K)
  · exact q_tableIn F 944 dL_law_33 (off := 911) (by decide) (by decide) (by decide) (by decide) (lz_count F S hi hC hM hI K)
  · exact q_tableIn F 967 dL_law_33 (off := 934) (by decide) (by decide) (by decide) (by decide) (lz_status F S hi hC hM hI K)
  · exact q_tableOut F 980 dL_law_33 (by decide) (by decide) (K _ _ hC hM hI)
  · exact q_tableOut F 980 dL_law_33 (by decide) (by decide) (K _ _ hC hM hI)
  · exact q_tableOut F 980 dL_law_33 (by decide) (by decide) (K _ _ hC hM hI)
  · exact q_tableOut F 980 dL_law_33 (by decide) (by decide) (K _ _ hC hM hI)
  · exact q_tableOut F 980 dL_law_33 (by decide) (by decide) (K _ _ hC hM hI)
  · exact q_tableOut F 980 dL_law_33 (by decide) (by decide) (K _ _ hC hM hI)
end
theorem lz_loop {G : vm_G} {C : vm_C} {b L : Nat} {xs : Nat → Int32} (F : vm_F G C cL_law RL 4 10) (S : lz_S G C b L xs) (E : ∀ i σ, vm_Ex G C 4 986 (lz_L i) [] σ) : ∀ (n i : Nat) (σ : vm_M) (T : vm_T), i ≤ L → L < i + n → CInv σ T → MInv σ T → SInv T → vm_Ex G C 4 18 (lz_L i) [] σ
  | 0, i, σ, T, h1, h2, _, _, _ => absurd h2 (by omega)
  | n + 1, i, σ, T, h1, h2, hC, hM, hI => by
    have hL : L ≤ 3072 := S.2.2.2.2
    refine q_iload_n F 3 dL_law_18 rfl rfl ?_
    refine q_aload_n F 0 dL_law_19 rfl rfl ?_
    refine lz_len F S dL_law_20 ?_
    refine q_bipush F (nI 6) dL_law_21 (by decide) ?_
    refine q_isub F dL_law_23 ?_
    refine q_icmp_gt F 986 dL_law_24 (by decide) (fun _ => E _ _) (fun h => ?_)
    have hi := lz_bd h1 hL h
    refine q_aload_n F 0 dL_law_27 rfl rfl ?_
    refine q_iload_n F 3 dL_law_28 rfl rfl ?_
    refine lz_ald F S dL_law_29 (by omega) ?_
    refine q_bipush F (nI 31) dL_law_30 (by decide) ?_
    refine q_iand F dL_law_32 ?_
    obtain ⟨j, hj, e⟩ := lz_and (xs i)
    rw [e]
    refine lz_case F S hi hC hM hI (fun σ2 T2 hC2 hM2 hI2 => ?_) j hj
    refine q_iinc3 F (nI (i + 6)) dL_law_980 ?_ (by decide) rfl ?_
    · exact nI_add i 6
    refine q_goto F 18 dL_law_983 (by decide) ?_
    exact lz_loop F S E n (i + 6) σ2 T2 hi (by omega) hC2 hM2 hI2
