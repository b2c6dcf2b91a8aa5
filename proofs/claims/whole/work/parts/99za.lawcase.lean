/-! ===== the law: its cases ===== -/
theorem lc_feed {x : zm_X} {g : zm_G} {Q : State → Prop} {ce sl n i : Nat} {xs : Nat → Int32} {a5 a6 : Option Value} {gi : zm_I} {gl : zm_J} {r : Nat} (hS : zSc g x n xs) (hb : n < 2 ^ 31) (hI : zIv gi) (hi : i + 8 ≤ n) (hce : ce ≤ 601024) (hsl : sl ≤ 7293034) (k : ∀ gi' gl' r', zIv gi' → zA x g mL_law 13 601024 7293034 Q ce sl 1314 [some (.ref ((zm_cB + 12))), some (.ref 0), some (.ref 87), some (.ref 135), some (.int (nI i)), a5, a6] [] (zSH, gi', gl', zRT r')) : zA x g mL_law 13 601024 7293034 Q ce sl 160 [some (.ref ((zm_cB + 12))), some (.ref 0), some (.ref 87), some (.ref 135), some (.int (nI i)), a5, a6] [] (zSH, gi, gl, zRT r) := by
  refine zA_aload_1 dL_law_160 ?_
  refine zA_aload_0 dL_law_161 ?_
  refine zA_iload_4 dL_law_162 ?_
  refine zA_iconst (nI 1) dL_law_164 ic_1 ?_
  refine zA_iaddN dL_law_165 ?_
  refine zA_sld hS (i + 1) rfl (by omega) hb dL_law_166 ?_
  refine zA_aload_0 dL_law_167 ?_
  refine zA_iload_4 dL_law_168 ?_
  refine zA_iconst (nI 2) dL_law_170 ic_2 ?_
  refine zA_iaddN dL_law_171 ?_
  refine zA_sld hS (i + 2) rfl (by omega) hb dL_law_172 ?_
  refine zA_aload_0 dL_law_173 ?_
  refine zA_iload_4 dL_law_174 ?_
  refine zA_iconst (nI 3) dL_law_176 ic_3 ?_
  refine zA_iaddN dL_law_177 ?_
  refine zA_sld hS (i + 3) rfl (by omega) hb dL_law_178 ?_
  refine zA_aload_0 dL_law_179 ?_
  refine zA_iload_4 dL_law_180 ?_
  refine zA_iconst (nI 4) dL_law_182 ic_4 ?_
  refine zA_iaddN dL_law_183 ?_
  refine zA_sld hS (i + 4) rfl (by omega) hb dL_law_184 ?_
  refine zA_aload_0 dL_law_185 ?_
  refine zA_iload_4 dL_law_186 ?_
  refine zA_iconst (nI 5) dL_law_188 ic_5 ?_
  refine zA_iaddN dL_law_189 ?_
  refine zA_sld hS (i + 5) rfl (by omega) hb dL_law_190 ?_
  obtain ⟨P1, c1, k1⟩ := pr_feed g gi gl r hI ((xs (i + 1))) ((xs (i + 2))) ((xs (i + 3))) ((xs (i + 4))) ((xs (i + 5)))
  refine zA_cVi (c1) calX10_feed stX10_feed lL_21 dL_law_191 (by decide) (by simp [Value.category]) rfl hce hsl sh_0 rfl (fun z1 gi1 gl1 gr1 hp1 => ?_)
  obtain ⟨r1, rfl, P2, c2, k2⟩ := k1 _ _ _ _ hp1
  refine zA_aload_2 dL_law_194 ?_
  refine zA_aload_0 dL_law_195 ?_
  refine zA_iload_4 dL_law_196 ?_
  refine zA_iconst (nI 1) dL_law_198 ic_1 ?_
  refine zA_iaddN dL_law_199 ?_
  refine zA_sld hS (i + 1) rfl (by omega) hb dL_law_200 ?_
  refine zA_aload_0 dL_law_201 ?_
  refine zA_iload_4 dL_law_202 ?_
  refine zA_iconst (nI 2) dL_law_204 ic_2 ?_
  refine zA_iaddN dL_law_205 ?_
  refine zA_sld hS (i + 2) rfl (by omega) hb dL_law_206 ?_
  refine zA_aload_0 dL_law_207 ?_
  refine zA_iload_4 dL_law_208 ?_
  refine zA_iconst (nI 3) dL_law_210 ic_3 ?_
  refine zA_iaddN dL_law_211 ?_
  refine zA_sld hS (i + 3) rfl (by omega) hb dL_law_212 ?_
  refine zA_aload_0 dL_law_213 ?_
  refine zA_iload_4 dL_law_214 ?_
  refine zA_iconst (nI 4) dL_law_216 ic_4 ?_
  refine zA_iaddN dL_law_217 ?_
  refine zA_sld hS (i + 4) rfl (by omega) hb dL_law_218 ?_
  refine zA_aload_0 dL_law_219 ?_
  refine zA_iload_4 dL_law_220 ?_
  refine zA_iconst (nI 5) dL_law_222 ic_5 ?_
  refine zA_iaddN dL_law_223 ?_
  refine zA_sld hS (i + 5) rfl (by omega) hb dL_law_224 ?_
  refine zA_cVi (c2) calX11_feed stX11_feed lL_25 dL_law_225 (by decide) (by simp [Value.category]) rfl hce hsl sh_87 rfl (fun z2 gi2 gl2 gr2 hp2 => ?_)
  obtain ⟨rfl, hI2, r2, rfl⟩ := k2 _ _ _ _ hp2
  exact zA_icmp_eq 1314 dL_law_228 (by decide) (fun _ => k _ _ _ hI2) (fun h => absurd rfl h)
theorem lc_terms {x : zm_X} {g : zm_G} {Q : State → Prop} {ce sl n i : Nat} {xs : Nat → Int32} {a5 a6 : Option Value} {gi : zm_I} {gl : zm_J} {r : Nat} (hS : zSc g x n xs) (hb : n < 2 ^ 31) (hI : zIv gi) (hi : i + 8 ≤ n) (hce : ce ≤ 601024) (hsl : sl ≤ 7293034) (k : ∀ gi' gl' r', zIv gi' → zA x g mL_law 13 601024 7293034 Q ce sl 1314 [some (.ref ((zm_cB + 12))), some (.ref 0), some (.ref 87), some (.ref 135), some (.int (nI i)), a5, a6] [] (zSH, gi', gl', zRT r')) : zA x g mL_law 13 601024 7293034 Q ce sl 233 [some (.ref ((zm_cB + 12))), some (.ref 0), some (.ref 87), some (.ref 135), some (.int (nI i)), a5, a6] [] (zSH, gi, gl, zRT r) := by
  refine zA_aload_1 dL_law_233 ?_
  refine zA_aload_0 dL_law_234 ?_
  refine zA_iload_4 dL_law_235 ?_
  refine zA_iconst (nI 1) dL_law_237 ic_1 ?_
  refine zA_iaddN dL_law_238 ?_
  refine zA_sld hS (i + 1) rfl (by omega) hb dL_law_239 ?_
  obtain ⟨P1, c1, k1⟩ := pr_terms g gi gl r hI ((xs (i + 1)))
  refine zA_cVi (c1) calX10_terms stX10_terms lL_26 dL_law_240 (by decide) (by simp [Value.category]) rfl hce hsl sh_0 rfl (fun z1 gi1 gl1 gr1 hp1 => ?_)
  obtain ⟨r1, rfl, P2, c2, k2⟩ := k1 _ _ _ _ hp1
  refine zA_aload_2 dL_law_243 ?_
  refine zA_aload_0 dL_law_244 ?_
  refine zA_iload_4 dL_law_245 ?_
  refine zA_iconst (nI 1) dL_law_247 ic_1 ?_
  refine zA_iaddN dL_law_248 ?_
  refine zA_sld hS (i + 1) rfl (by omega) hb dL_law_249 ?_
  refine zA_cVi (c2) calX11_terms stX11_terms lL_30 dL_law_250 (by decide) (by simp [Value.category]) rfl hce hsl sh_87 rfl (fun z2 gi2 gl2 gr2 hp2 => ?_)
  obtain ⟨rfl, hI2, r2, rfl⟩ := k2 _ _ _ _ hp2
  exact zA_icmp_eq 1314 dL_law_253 (by decide) (fun _ => k _ _ _ hI2) (fun h => absurd rfl h)
theorem lc_fault {x : zm_X} {g : zm_G} {Q : State → Prop} {ce sl n i : Nat} {xs : Nat → Int32} {a5 a6 : Option Value} {gi : zm_I} {gl : zm_J} {r : Nat} (hS : zSc g x n xs) (hb : n < 2 ^ 31) (hI : zIv gi) (hi : i + 8 ≤ n) (hce : ce ≤ 601024) (hsl : sl ≤ 7293034) (k : ∀ gi' gl' r', zIv gi' → zA x g mL_law 13 601024 7293034 Q ce sl 1314 [some (.ref ((zm_cB + 12))), some (.ref 0), some (.ref 87), some (.ref 135), some (.int (nI i)), a5, a6] [] (zSH, gi', gl', zRT r')) : zA x g mL_law 13 601024 7293034 Q ce sl 258 [some (.ref ((zm_cB + 12))), some (.ref 0), some (.ref 87), some (.ref 135), some (.int (nI i)), a5, a6] [] (zSH, gi, gl, zRT r) := by
  refine zA_aload_1 dL_law_258 ?_
  refine zA_aload_0 dL_law_259 ?_
  refine zA_iload_4 dL_law_260 ?_
  refine zA_iconst (nI 1) dL_law_262 ic_1 ?_
  refine zA_iaddN dL_law_263 ?_
  refine zA_sld hS (i + 1) rfl (by omega) hb dL_law_264 ?_
  obtain ⟨P1, c1, k1⟩ := pr_fault g gi gl r hI ((xs (i + 1)))
  refine zA_cVi (c1) calX10_fault stX10_fault lL_31 dL_law_265 (by decide) (by simp [Value.category]) rfl hce hsl sh_0 rfl (fun z1 gi1 gl1 gr1 hp1 => ?_)
  obtain ⟨r1, rfl, P2, c2, k2⟩ := k1 _ _ _ _ hp1
  refine zA_aload_2 dL_law_268 ?_
  refine zA_aload_0 dL_law_269 ?_
  refine zA_iload_4 dL_law_270 ?_
  refine zA_iconst (nI 1) dL_law_272 ic_1 ?_
  refine zA_iaddN dL_law_273 ?_
  refine zA_sld hS (i + 1) rfl (by omega) hb dL_law_274 ?_
  refine zA_cVi (c2) calX11_fault stX11_fault lL_34 dL_law_275 (by decide) (by simp [Value.category]) rfl hce hsl sh_87 rfl (fun z2 gi2 gl2 gr2 hp2 => ?_)
  obtain ⟨rfl, hI2, r2, rfl⟩ := k2 _ _ _ _ hp2
  exact zA_icmp_eq 1314 dL_law_278 (by decide) (fun _ => k _ _ _ hI2) (fun h => absurd rfl h)
theorem lc_village {x : zm_X} {g : zm_G} {Q : State → Prop} {ce sl n i : Nat} {xs : Nat → Int32} {a5 a6 : Option Value} {gi : zm_I} {gl : zm_J} {r : Nat} (hS : zSc g x n xs) (hb : n < 2 ^ 31) (hI : zIv gi) (hi : i + 8 ≤ n) (hce : ce ≤ 601024) (hsl : sl ≤ 7293034) (k : ∀ gi' gl' r', zIv gi' → zA x g mL_law 13 601024 7293034 Q ce sl 1314 [some (.ref ((zm_cB + 12))), some (.ref 0), some (.ref 87), some (.ref 135), some (.int (nI i)), a5, a6] [] (zSH, gi', gl', zRT r')) : zA x g mL_law 13 601024 7293034 Q ce sl 283 [some (.ref ((zm_cB + 12))), some (.ref 0), some (.ref 87), some (.ref 135), some (.int (nI i)), a5, a6] [] (zSH, gi, gl, zRT r) := by
  refine zA_aload_1 dL_law_283 ?_
  refine zA_aload_0 dL_law_284 ?_
  refine zA_iload_4 dL_law_285 ?_
  refine zA_iconst (nI 1) dL_law_287 ic_1 ?_
  refine zA_iaddN dL_law_288 ?_
  refine zA_sld hS (i + 1) rfl (by omega) hb dL_law_289 ?_
  refine zA_aload_0 dL_law_290 ?_
  refine zA_iload_4 dL_law_291 ?_
  refine zA_iconst (nI 2) dL_law_293 ic_2 ?_
  refine zA_iaddN dL_law_294 ?_
  refine zA_sld hS (i + 2) rfl (by omega) hb dL_law_295 ?_
  refine zA_aload_0 dL_law_296 ?_
  refine zA_iload_4 dL_law_297 ?_
  refine zA_iconst (nI 3) dL_law_299 ic_3 ?_
  refine zA_iaddN dL_law_300 ?_
  refine zA_sld hS (i + 3) rfl (by omega) hb dL_law_301 ?_
  refine zA_aload_0 dL_law_302 ?_
  refine zA_iload_4 dL_law_303 ?_
  refine zA_iconst (nI 4) dL_law_305 ic_4 ?_
  refine zA_iaddN dL_law_306 ?_
  refine zA_sld hS (i + 4) rfl (by omega) hb dL_law_307 ?_
  obtain ⟨P1, c1, k1⟩ := pr_village g gi gl r hI ((xs (i + 1))) ((xs (i + 2))) ((xs (i + 3))) ((xs (i + 4)))
  refine zA_cVi (c1) calX10_village stX10_village lL_35 dL_law_308 (by decide) (by simp [Value.category]) rfl hce hsl sh_0 rfl (fun z1 gi1 gl1 gr1 hp1 => ?_)
  obtain ⟨r1, rfl, P2, c2, k2⟩ := k1 _ _ _ _ hp1
  refine zA_aload_2 dL_law_311 ?_
  refine zA_aload_0 dL_law_312 ?_
  refine zA_iload_4 dL_law_313 ?_
  refine zA_iconst (nI 1) dL_law_315 ic_1 ?_
  refine zA_iaddN dL_law_316 ?_
  refine zA_sld hS (i + 1) rfl (by omega) hb dL_law_317 ?_
  refine zA_aload_0 dL_law_318 ?_
  refine zA_iload_4 dL_law_319 ?_
  refine zA_iconst (nI 2) dL_law_321 ic_2 ?_
  refine zA_iaddN dL_law_322 ?_
  refine zA_sld hS (i + 2) rfl (by omega) hb dL_law_323 ?_
  refine zA_aload_0 dL_law_324 ?_
  refine zA_iload_4 dL_law_325 ?_
  refine zA_iconst (nI 3) dL_law_327 ic_3 ?_
  refine zA_iaddN dL_law_328 ?_
  refine zA_sld hS (i + 3) rfl (by omega) hb dL_law_329 ?_
  refine zA_aload_0 dL_law_330 ?_
  refine zA_iload_4 dL_law_331 ?_
  refine zA_iconst (nI 4) dL_law_333 ic_4 ?_
  refine zA_iaddN dL_law_334 ?_
  refine zA_sld hS (i + 4) rfl (by omega) hb dL_law_335 ?_
  refine zA_cVi (c2) calX11_village stX11_village lL_39 dL_law_336 (by decide) (by simp [Value.category]) rfl hce hsl sh_87 rfl (fun z2 gi2 gl2 gr2 hp2 => ?_)
  obtain ⟨rfl, hI2, r2, rfl⟩ := k2 _ _ _ _ hp2
  exact zA_icmp_eq 1314 dL_law_339 (by decide) (fun _ => k _ _ _ hI2) (fun h => absurd rfl h)
theorem lc_like {x : zm_X} {g : zm_G} {Q : State → Prop} {ce sl n i : Nat} {xs : Nat → Int32} {a5 a6 : Option Value} {gi : zm_I} {gl : zm_J} {r : Nat} (hS : zSc g x n xs) (hb : n < 2 ^ 31) (hI : zIv gi) (hi : i + 8 ≤ n) (hce : ce ≤ 601024) (hsl : sl ≤ 7293034) (k : ∀ gi' gl' r', zIv gi' → zA x g mL_law 13 601024 7293034 Q ce sl 1314 [some (.ref ((zm_cB + 12))), some (.ref 0), some (.ref 87), some (.ref 135), some (.int (nI i)), a5, a6] [] (zSH, gi', gl', zRT r')) : zA x g mL_law 13 601024 7293034 Q ce sl 344 [some (.ref ((zm_cB + 12))), some (.ref 0), some (.ref 87), some (.ref 135), some (.int (nI i)), a5, a6] [] (zSH, gi, gl, zRT r) := by
  refine zA_aload_1 dL_law_344 ?_
  refine zA_aload_0 dL_law_345 ?_
  refine zA_iload_4 dL_law_346 ?_
  refine zA_iconst (nI 1) dL_law_348 ic_1 ?_
  refine zA_iaddN dL_law_349 ?_
  refine zA_sld hS (i + 1) rfl (by omega) hb dL_law_350 ?_
  refine zA_aload_0 dL_law_351 ?_
  refine zA_iload_4 dL_law_352 ?_
  refine zA_iconst (nI 2) dL_law_354 ic_2 ?_
  refine zA_iaddN dL_law_355 ?_
  refine zA_sld hS (i + 2) rfl (by omega) hb dL_law_356 ?_
  refine zA_aload_0 dL_law_357 ?_
  refine zA_iload_4 dL_law_358 ?_
  refine zA_iconst (nI 3) dL_law_360 ic_3 ?_
  refine zA_iaddN dL_law_361 ?_
  refine zA_sld hS (i + 3) rfl (by omega) hb dL_law_362 ?_
  obtain ⟨P1, c1, k1⟩ := pr_like g gi gl r hI ((xs (i + 1))) ((xs (i + 2))) ((xs (i + 3)))
  refine zA_cVi (c1) calX10_like stX10_like lL_40 dL_law_363 (by decide) (by simp [Value.category]) rfl hce hsl sh_0 rfl (fun z1 gi1 gl1 gr1 hp1 => ?_)
  obtain ⟨r1, rfl, P2, c2, k2⟩ := k1 _ _ _ _ hp1
  refine zA_aload_2 dL_law_366 ?_
  refine zA_aload_0 dL_law_367 ?_
  refine zA_iload_4 dL_law_368 ?_
  refine zA_iconst (nI 1) dL_law_370 ic_1 ?_
  refine zA_iaddN dL_law_371 ?_
  refine zA_sld hS (i + 1) rfl (by omega) hb dL_law_372 ?_
  refine zA_aload_0 dL_law_373 ?_
  refine zA_iload_4 dL_law_374 ?_
  refine zA_iconst (nI 2) dL_law_376 ic_2 ?_
  refine zA_iaddN dL_law_377 ?_
  refine zA_sld hS (i + 2) rfl (by omega) hb dL_law_378 ?_
  refine zA_aload_0 dL_law_379 ?_
  refine zA_iload_4 dL_law_380 ?_
  refine zA_iconst (nI 3) dL_law_382 ic_3 ?_
  refine zA_iaddN dL_law_383 ?_
  refine zA_sld hS (i + 3) rfl (by omega) hb dL_law_384 ?_
  refine zA_cVi (c2) calX11_like stX11_like lL_44 dL_law_385 (by decide) (by simp [Value.category]) rfl hce hsl sh_87 rfl (fun z2 gi2 gl2 gr2 hp2 => ?_)
  obtain ⟨rfl, hI2, r2, rfl⟩ := k2 _ _ _ _ hp2
  exact zA_icmp_eq 1314 dL_law_388 (by decide) (fun _ => k _ _ _ hI2) (fun h => absurd rfl h)
theorem lc_road {x : zm_X} {g : zm_G} {Q : State → Prop} {ce sl n i : Nat} {xs : Nat → Int32} {a5 a6 : Option Value} {gi : zm_I} {gl : zm_J} {r : Nat} (hS : zSc g x n xs) (hb : n < 2 ^ 31) (hI : zIv gi) (hi : i + 8 ≤ n) (hce : ce ≤ 601024) (hsl : sl ≤ 7293034) (k : ∀ gi' gl' r', zIv gi' → zA x g mL_law 13 601024 7293034 Q ce sl 1314 [some (.ref ((zm_cB + 12))), some (.ref 0), some (.ref 87), some (.ref 135), some (.int (nI i)), a5, a6] [] (zSH, gi', gl', zRT r')) : zA x g mL_law 13 601024 7293034 Q ce sl 393 [some (.ref ((zm_cB + 12))), some (.ref 0), some (.ref 87), some (.ref 135), some (.int (nI i)), a5, a6] [] (zSH, gi, gl, zRT r) := by
  refine zA_aload_1 dL_law_393 ?_
  refine zA_aload_0 dL_law_394 ?_
  refine zA_iload_4 dL_law_395 ?_
  refine zA_iconst (nI 1) dL_law_397 ic_1 ?_
  refine zA_iaddN dL_law_398 ?_
  refine zA_sld hS (i + 1) rfl (by omega) hb dL_law_399 ?_
  refine zA_aload_0 dL_law_400 ?_
  refine zA_iload_4 dL_law_401 ?_
  refine zA_iconst (nI 2) dL_law_403 ic_2 ?_
  refine zA_iaddN dL_law_404 ?_
  refine zA_sld hS (i + 2) rfl (by omega) hb dL_law_405 ?_
  refine zA_aload_0 dL_law_406 ?_
  refine zA_iload_4 dL_law_407 ?_
  refine zA_iconst (nI 3) dL_law_409 ic_3 ?_
  refine zA_iaddN dL_law_410 ?_
  refine zA_sld hS (i + 3) rfl (by omega) hb dL_law_411 ?_
  refine zA_aload_0 dL_law_412 ?_
  refine zA_iload_4 dL_law_413 ?_
  refine zA_iconst (nI 4) dL_law_415 ic_4 ?_
  refine zA_iaddN dL_law_416 ?_
  refine zA_sld hS (i + 4) rfl (by omega) hb dL_law_417 ?_
  obtain ⟨P1, c1, k1⟩ := pr_road g gi gl r hI ((xs (i + 1))) ((xs (i + 2))) ((xs (i + 3))) ((xs (i + 4)))
  refine zA_cVi (c1) calX10_road stX10_road lL_45 dL_law_418 (by decide) (by simp [Value.category]) rfl hce hsl sh_0 rfl (fun z1 gi1 gl1 gr1 hp1 => ?_)
  obtain ⟨r1, rfl, P2, c2, k2⟩ := k1 _ _ _ _ hp1
  refine zA_aload_2 dL_law_421 ?_
  refine zA_aload_0 dL_law_422 ?_
  refine zA_iload_4 dL_law_423 ?_
  refine zA_iconst (nI 1) dL_law_425 ic_1 ?_
  refine zA_iaddN dL_law_426 ?_
  refine zA_sld hS (i + 1) rfl (by omega) hb dL_law_427 ?_
  refine zA_aload_0 dL_law_428 ?_
  refine zA_iload_4 dL_law_429 ?_
  refine zA_iconst (nI 2) dL_law_431 ic_2 ?_
  refine zA_iaddN dL_law_432 ?_
  refine zA_sld hS (i + 2) rfl (by omega) hb dL_law_433 ?_
  refine zA_aload_0 dL_law_434 ?_
  refine zA_iload_4 dL_law_435 ?_
  refine zA_iconst (nI 3) dL_law_437 ic_3 ?_
  refine zA_iaddN dL_law_438 ?_
  refine zA_sld hS (i + 3) rfl (by omega) hb dL_law_439 ?_
  refine zA_aload_0 dL_law_440 ?_
  refine zA_iload_4 dL_law_441 ?_
  refine zA_iconst (nI 4) dL_law_443 ic_4 ?_
  refine zA_iaddN dL_law_444 ?_
  refine zA_sld hS (i + 4) rfl (by omega) hb dL_law_445 ?_
  refine zA_cVi (c2) calX11_road stX11_road lL_48 dL_law_446 (by decide) (by simp [Value.category]) rfl hce hsl sh_87 rfl (fun z2 gi2 gl2 gr2 hp2 => ?_)
  obtain ⟨rfl, hI2, r2, rfl⟩ := k2 _ _ _ _ hp2
  exact zA_icmp_eq 1314 dL_law_449 (by decide) (fun _ => k _ _ _ hI2) (fun h => absurd rfl h)
theorem lc_van {x : zm_X} {g : zm_G} {Q : State → Prop} {ce sl n i : Nat} {xs : Nat → Int32} {a5 a6 : Option Value} {gi : zm_I} {gl : zm_J} {r : Nat} (hS : zSc g x n xs) (hb : n < 2 ^ 31) (hI : zIv gi) (hi : i + 8 ≤ n) (hce : ce ≤ 601024) (hsl : sl ≤ 7293034) (k : ∀ gi' gl' r', zIv gi' → zA x g mL_law 13 601024 7293034 Q ce sl 1314 [some (.ref ((zm_cB + 12))), some (.ref 0), some (.ref 87), some (.ref 135), some (.int (nI i)), a5, a6] [] (zSH, gi', gl', zRT r')) : zA x g mL_law 13 601024 7293034 Q ce sl 454 [some (.ref ((zm_cB + 12))), some (.ref 0), some (.ref 87), some (.ref 135), some (.int (nI i)), a5, a6] [] (zSH, gi, gl, zRT r) := by
  refine zA_aload_1 dL_law_454 ?_
  refine zA_aload_0 dL_law_455 ?_
  refine zA_iload_4 dL_law_456 ?_
  refine zA_iconst (nI 1) dL_law_458 ic_1 ?_
  refine zA_iaddN dL_law_459 ?_
  refine zA_sld hS (i + 1) rfl (by omega) hb dL_law_460 ?_
  obtain ⟨P1, c1, k1⟩ := pr_van g gi gl r hI ((xs (i + 1)))
  refine zA_cVi (c1) calX10_van stX10_van lL_49 dL_law_461 (by decide) (by simp [Value.category]) rfl hce hsl sh_0 rfl (fun z1 gi1 gl1 gr1 hp1 => ?_)
  obtain ⟨r1, rfl, P2, c2, k2⟩ := k1 _ _ _ _ hp1
  refine zA_aload_2 dL_law_464 ?_
  refine zA_aload_0 dL_law_465 ?_
  refine zA_iload_4 dL_law_466 ?_
  refine zA_iconst (nI 1) dL_law_468 ic_1 ?_
  refine zA_iaddN dL_law_469 ?_
  refine zA_sld hS (i + 1) rfl (by omega) hb dL_law_470 ?_
  refine zA_cVi (c2) calX11_van stX11_van lL_52 dL_law_471 (by decide) (by simp [Value.category]) rfl hce hsl sh_87 rfl (fun z2 gi2 gl2 gr2 hp2 => ?_)
  obtain ⟨rfl, hI2, r2, rfl⟩ := k2 _ _ _ _ hp2
  exact zA_icmp_eq 1314 dL_law_474 (by decide) (fun _ => k _ _ _ hI2) (fun h => absurd rfl h)
theorem lc_broken {x : zm_X} {g : zm_G} {Q : State → Prop} {ce sl n i : Nat} {xs : Nat → Int32} {a5 a6 : Option Value} {gi : zm_I} {gl : zm_J} {r : Nat} (hS : zSc g x n xs) (hb : n < 2 ^ 31) (hI : zIv gi) (hi : i + 8 ≤ n) (hce : ce ≤ 601024) (hsl : sl ≤ 7293034) (k : ∀ gi' gl' r', zIv gi' → zA x g mL_law 13 601024 7293034 Q ce sl 1314 [some (.ref ((zm_cB + 12))), some (.ref 0), some (.ref 87), some (.ref 135), some (.int (nI i)), a5, a6] [] (zSH, gi', gl', zRT r')) : zA x g mL_law 13 601024 7293034 Q ce sl 479 [some (.ref ((zm_cB + 12))), some (.ref 0), some (.ref 87), some (.ref 135), some (.int (nI i)), a5, a6] [] (zSH, gi, gl, zRT r) := by
  refine zA_aload_1 dL_law_479 ?_
  refine zA_aload_0 dL_law_480 ?_
  refine zA_iload_4 dL_law_481 ?_
  refine zA_iconst (nI 1) dL_law_483 ic_1 ?_
  refine zA_iaddN dL_law_484 ?_
  refine zA_sld hS (i + 1) rfl (by omega) hb dL_law_485 ?_
  refine zA_aload_0 dL_law_486 ?_
  refine zA_iload_4 dL_law_487 ?_
  refine zA_iconst (nI 2) dL_law_489 ic_2 ?_
  refine zA_iaddN dL_law_490 ?_
  refine zA_sld hS (i + 2) rfl (by omega) hb dL_law_491 ?_
  obtain ⟨P1, c1, k1⟩ := pr_broken g gi gl r hI ((xs (i + 1))) ((xs (i + 2)))
  refine zA_cVi (c1) calX10_broken stX10_broken lL_53 dL_law_492 (by decide) (by simp [Value.category]) rfl hce hsl sh_0 rfl (fun z1 gi1 gl1 gr1 hp1 => ?_)
  obtain ⟨r1, rfl, P2, c2, k2⟩ := k1 _ _ _ _ hp1
  refine zA_aload_2 dL_law_495 ?_
  refine zA_aload_0 dL_law_496 ?_
  refine zA_iload_4 dL_law_497 ?_
  refine zA_iconst (nI 1) dL_law_499 ic_1 ?_
  refine zA_iaddN dL_law_500 ?_
  refine zA_sld hS (i + 1) rfl (by omega) hb dL_law_501 ?_
  refine zA_aload_0 dL_law_502 ?_
  refine zA_iload_4 dL_law_503 ?_
  refine zA_iconst (nI 2) dL_law_505 ic_2 ?_
  refine zA_iaddN dL_law_506 ?_
  refine zA_sld hS (i + 2) rfl (by omega) hb dL_law_507 ?_
  refine zA_cVi (c2) calX11_broken stX11_broken lL_57 dL_law_508 (by decide) (by simp [Value.category]) rfl hce hsl sh_87 rfl (fun z2 gi2 gl2 gr2 hp2 => ?_)
  obtain ⟨rfl, hI2, r2, rfl⟩ := k2 _ _ _ _ hp2
  exact zA_icmp_eq 1314 dL_law_511 (by decide) (fun _ => k _ _ _ hI2) (fun h => absurd rfl h)
theorem lc_print {x : zm_X} {g : zm_G} {Q : State → Prop} {ce sl n i : Nat} {xs : Nat → Int32} {a5 a6 : Option Value} {gi : zm_I} {gl : zm_J} {r : Nat} (hS : zSc g x n xs) (hb : n < 2 ^ 31) (hI : zIv gi) (hi : i + 8 ≤ n) (hce : ce ≤ 601024) (hsl : sl ≤ 7293034) (k : ∀ gi' gl' r', zIv gi' → zA x g mL_law 13 601024 7293034 Q ce sl 1314 [some (.ref ((zm_cB + 12))), some (.ref 0), some (.ref 87), some (.ref 135), some (.int (nI i)), a5, a6] [] (zSH, gi', gl', zRT r')) : zA x g mL_law 13 601024 7293034 Q ce sl 516 [some (.ref ((zm_cB + 12))), some (.ref 0), some (.ref 87), some (.ref 135), some (.int (nI i)), a5, a6] [] (zSH, gi, gl, zRT r) := by
  refine zA_aload_1 dL_law_516 ?_
  refine zA_aload_0 dL_law_517 ?_
  refine zA_iload_4 dL_law_518 ?_
  refine zA_iconst (nI 1) dL_law_520 ic_1 ?_
  refine zA_iaddN dL_law_521 ?_
  refine zA_sld hS (i + 1) rfl (by omega) hb dL_law_522 ?_
  refine zA_aload_0 dL_law_523 ?_
  refine zA_iload_4 dL_law_524 ?_
  refine zA_iconst (nI 2) dL_law_526 ic_2 ?_
  refine zA_iaddN dL_law_527 ?_
  refine zA_sld hS (i + 2) rfl (by omega) hb dL_law_528 ?_
  refine zA_aload_0 dL_law_529 ?_
  refine zA_iload_4 dL_law_530 ?_
  refine zA_iconst (nI 3) dL_law_532 ic_3 ?_
  refine zA_iaddN dL_law_533 ?_
  refine zA_sld hS (i + 3) rfl (by omega) hb dL_law_534 ?_
  refine zA_aload_0 dL_law_535 ?_
  refine zA_iload_4 dL_law_536 ?_
  refine zA_iconst (nI 4) dL_law_538 ic_4 ?_
  refine zA_iaddN dL_law_539 ?_
  refine zA_sld hS (i + 4) rfl (by omega) hb dL_law_540 ?_
  refine zA_aload_0 dL_law_541 ?_
  refine zA_iload_4 dL_law_542 ?_
  refine zA_iconst (nI 5) dL_law_544 ic_5 ?_
  refine zA_iaddN dL_law_545 ?_
  refine zA_sld hS (i + 5) rfl (by omega) hb dL_law_546 ?_
  refine zA_aload_0 dL_law_547 ?_
  refine zA_iload_4 dL_law_548 ?_
  refine zA_bipush (nI 6) dL_law_550 bc_6 ?_
  refine zA_iaddN dL_law_552 ?_
  refine zA_sld hS (i + 6) rfl (by omega) hb dL_law_553 ?_
  refine zA_aload_0 dL_law_554 ?_
  refine zA_iload_4 dL_law_555 ?_
  refine zA_bipush (nI 7) dL_law_557 bc_7 ?_
  refine zA_iaddN dL_law_559 ?_
  refine zA_sld hS (i + 7) rfl (by omega) hb dL_law_560 ?_
  obtain ⟨P1, c1, k1⟩ := pr_print g gi gl r hI ((xs (i + 1))) ((xs (i + 2))) ((xs (i + 3))) ((xs (i + 4))) ((xs (i + 5))) ((xs (i + 6))) ((xs (i + 7)))
  refine zA_cVi (c1) calX10_print stX10_print lL_58 dL_law_561 (by decide) (by simp [Value.category]) rfl hce hsl sh_0 rfl (fun z1 gi1 gl1 gr1 hp1 => ?_)
  obtain ⟨r1, rfl, P2, c2, k2⟩ := k1 _ _ _ _ hp1
  refine zA_aload_2 dL_law_564 ?_
  refine zA_aload_0 dL_law_565 ?_
  refine zA_iload_4 dL_law_566 ?_
  refine zA_iconst (nI 1) dL_law_568 ic_1 ?_
  refine zA_iaddN dL_law_569 ?_
  refine zA_sld hS (i + 1) rfl (by omega) hb dL_law_570 ?_
  refine zA_aload_0 dL_law_571 ?_
  refine zA_iload_4 dL_law_572 ?_
  refine zA_iconst (nI 2) dL_law_574 ic_2 ?_
  refine zA_iaddN dL_law_575 ?_
  refine zA_sld hS (i + 2) rfl (by omega) hb dL_law_576 ?_
  refine zA_aload_0 dL_law_577 ?_
  refine zA_iload_4 dL_law_578 ?_
  refine zA_iconst (nI 3) dL_law_580 ic_3 ?_
  refine zA_iaddN dL_law_581 ?_
  refine zA_sld hS (i + 3) rfl (by omega) hb dL_law_582 ?_
  refine zA_aload_0 dL_law_583 ?_
  refine zA_iload_4 dL_law_584 ?_
  refine zA_iconst (nI 4) dL_law_586 ic_4 ?_
  refine zA_iaddN dL_law_587 ?_
  refine zA_sld hS (i + 4) rfl (by omega) hb dL_law_588 ?_
  refine zA_aload_0 dL_law_589 ?_
  refine zA_iload_4 dL_law_590 ?_
  refine zA_iconst (nI 5) dL_law_592 ic_5 ?_
  refine zA_iaddN dL_law_593 ?_
  refine zA_sld hS (i + 5) rfl (by omega) hb dL_law_594 ?_
  refine zA_aload_0 dL_law_595 ?_
  refine zA_iload_4 dL_law_596 ?_
  refine zA_bipush (nI 6) dL_law_598 bc_6 ?_
  refine zA_iaddN dL_law_600 ?_
  refine zA_sld hS (i + 6) rfl (by omega) hb dL_law_601 ?_
  refine zA_aload_0 dL_law_602 ?_
  refine zA_iload_4 dL_law_603 ?_
  refine zA_bipush (nI 7) dL_law_605 bc_7 ?_
  refine zA_iaddN dL_law_607 ?_
  refine zA_sld hS (i + 7) rfl (by omega) hb dL_law_608 ?_
  refine zA_cVi (c2) calX11_print stX11_print lL_62 dL_law_609 (by decide) (by simp [Value.category]) rfl hce hsl sh_87 rfl (fun z2 gi2 gl2 gr2 hp2 => ?_)
  obtain ⟨rfl, hI2, r2, rfl⟩ := k2 _ _ _ _ hp2
  exact zA_icmp_eq 1314 dL_law_612 (by decide) (fun _ => k _ _ _ hI2) (fun h => absurd rfl h)
theorem lc_egg {x : zm_X} {g : zm_G} {Q : State → Prop} {ce sl n i : Nat} {xs : Nat → Int32} {a5 a6 : Option Value} {gi : zm_I} {gl : zm_J} {r : Nat} (hS : zSc g x n xs) (hb : n < 2 ^ 31) (hI : zIv gi) (hi : i + 8 ≤ n) (hce : ce ≤ 601024) (hsl : sl ≤ 7293034) (k : ∀ gi' gl' r', zIv gi' → zA x g mL_law 13 601024 7293034 Q ce sl 1314 [some (.ref ((zm_cB + 12))), some (.ref 0), some (.ref 87), some (.ref 135), some (.int (nI i)), a5, a6] [] (zSH, gi', gl', zRT r')) : zA x g mL_law 13 601024 7293034 Q ce sl 617 [some (.ref ((zm_cB + 12))), some (.ref 0), some (.ref 87), some (.ref 135), some (.int (nI i)), a5, a6] [] (zSH, gi, gl, zRT r) := by
  refine zA_aload_1 dL_law_617 ?_
  refine zA_aload_0 dL_law_618 ?_
  refine zA_iload_4 dL_law_619 ?_
  refine zA_iconst (nI 1) dL_law_621 ic_1 ?_
  refine zA_iaddN dL_law_622 ?_
  refine zA_sld hS (i + 1) rfl (by omega) hb dL_law_623 ?_
  refine zA_aload_0 dL_law_624 ?_
  refine zA_iload_4 dL_law_625 ?_
  refine zA_iconst (nI 2) dL_law_627 ic_2 ?_
  refine zA_iaddN dL_law_628 ?_
  refine zA_sld hS (i + 2) rfl (by omega) hb dL_law_629 ?_
  obtain ⟨P1, c1, k1⟩ := pr_egg g gi gl r hI ((xs (i + 1))) ((xs (i + 2)))
  refine zA_cVi (c1) calX10_egg stX10_egg lL_63 dL_law_630 (by decide) (by simp [Value.category]) rfl hce hsl sh_0 rfl (fun z1 gi1 gl1 gr1 hp1 => ?_)
  obtain ⟨r1, rfl, P2, c2, k2⟩ := k1 _ _ _ _ hp1
  refine zA_aload_2 dL_law_633 ?_
  refine zA_aload_0 dL_law_634 ?_
  refine zA_iload_4 dL_law_635 ?_
  refine zA_iconst (nI 1) dL_law_637 ic_1 ?_
  refine zA_iaddN dL_law_638 ?_
  refine zA_sld hS (i + 1) rfl (by omega) hb dL_law_639 ?_
  refine zA_aload_0 dL_law_640 ?_
  refine zA_iload_4 dL_law_641 ?_
  refine zA_iconst (nI 2) dL_law_643 ic_2 ?_
  refine zA_iaddN dL_law_644 ?_
  refine zA_sld hS (i + 2) rfl (by omega) hb dL_law_645 ?_
  refine zA_cVi (c2) calX11_egg stX11_egg lL_66 dL_law_646 (by decide) (by simp [Value.category]) rfl hce hsl sh_87 rfl (fun z2 gi2 gl2 gr2 hp2 => ?_)
  obtain ⟨rfl, hI2, r2, rfl⟩ := k2 _ _ _ _ hp2
  exact zA_icmp_eq 1314 dL_law_649 (by decide) (fun _ => k _ _ _ hI2) (fun h => absurd rfl h)
theorem lc_way {x : zm_X} {g : zm_G} {Q : State → Prop} {ce sl n i : Nat} {xs : Nat → Int32} {a5 a6 : Option Value} {gi : zm_I} {gl : zm_J} {r : Nat} (hS : zSc g x n xs) (hb : n < 2 ^ 31) (hI : zIv gi) (hi : i + 8 ≤ n) (hce : ce ≤ 601024) (hsl : sl ≤ 7293034) (k : ∀ gi' gl' r', zIv gi' → zA x g mL_law 13 601024 7293034 Q ce sl 1314 [some (.ref ((zm_cB + 12))), some (.ref 0), some (.ref 87), some (.ref 135), some (.int (nI i)), a5, a6] [] (zSH, gi', gl', zRT r')) : zA x g mL_law 13 601024 7293034 Q ce sl 654 [some (.ref ((zm_cB + 12))), some (.ref 0), some (.ref 87), some (.ref 135), some (.int (nI i)), a5, a6] [] (zSH, gi, gl, zRT r) := by
  refine zA_aload_1 dL_law_654 ?_
  refine zA_aload_0 dL_law_655 ?_
  refine zA_iload_4 dL_law_656 ?_
  refine zA_iconst (nI 1) dL_law_658 ic_1 ?_
  refine zA_iaddN dL_law_659 ?_
  refine zA_sld hS (i + 1) rfl (by omega) hb dL_law_660 ?_
  refine zA_aload_0 dL_law_661 ?_
  refine zA_iload_4 dL_law_662 ?_
  refine zA_iconst (nI 2) dL_law_664 ic_2 ?_
  refine zA_iaddN dL_law_665 ?_
  refine zA_sld hS (i + 2) rfl (by omega) hb dL_law_666 ?_
  refine zA_aload_0 dL_law_667 ?_
  refine zA_iload_4 dL_law_668 ?_
  refine zA_iconst (nI 3) dL_law_670 ic_3 ?_
  refine zA_iaddN dL_law_671 ?_
  refine zA_sld hS (i + 3) rfl (by omega) hb dL_law_672 ?_
  obtain ⟨P1, c1, k1⟩ := pr_way g gi gl r hI ((xs (i + 1))) ((xs (i + 2))) ((xs (i + 3)))
  refine zA_cVi (c1) calX10_way stX10_way lL_67 dL_law_673 (by decide) (by simp [Value.category]) rfl hce hsl sh_0 rfl (fun z1 gi1 gl1 gr1 hp1 => ?_)
  obtain ⟨r1, rfl, P2, c2, k2⟩ := k1 _ _ _ _ hp1
  refine zA_aload_2 dL_law_676 ?_
  refine zA_aload_0 dL_law_677 ?_
  refine zA_iload_4 dL_law_678 ?_
  refine zA_iconst (nI 1) dL_law_680 ic_1 ?_
  refine zA_iaddN dL_law_681 ?_
  refine zA_sld hS (i + 1) rfl (by omega) hb dL_law_682 ?_
  refine zA_aload_0 dL_law_683 ?_
  refine zA_iload_4 dL_law_684 ?_
  refine zA_iconst (nI 2) dL_law_686 ic_2 ?_
  refine zA_iaddN dL_law_687 ?_
  refine zA_sld hS (i + 2) rfl (by omega) hb dL_law_688 ?_
  refine zA_aload_0 dL_law_689 ?_
  refine zA_iload_4 dL_law_690 ?_
  refine zA_iconst (nI 3) dL_law_692 ic_3 ?_
  refine zA_iaddN dL_law_693 ?_
  refine zA_sld hS (i + 3) rfl (by omega) hb dL_law_694 ?_
  refine zA_cVi (c2) calX11_way stX11_way lL_71 dL_law_695 (by decide) (by simp [Value.category]) rfl hce hsl sh_87 rfl (fun z2 gi2 gl2 gr2 hp2 => ?_)
  obtain ⟨rfl, hI2, r2, rfl⟩ := k2 _ _ _ _ hp2
  exact zA_icmp_eq 1314 dL_law_698 (by decide) (fun _ => k _ _ _ hI2) (fun h => absurd rfl h)
theorem lc_entry {x : zm_X} {g : zm_G} {Q : State → Prop} {ce sl n i : Nat} {xs : Nat → Int32} {a5 a6 : Option Value} {gi : zm_I} {gl : zm_J} {r : Nat} (hS : zSc g x n xs) (hb : n < 2 ^ 31) (hI : zIv gi) (hi : i + 8 ≤ n) (hce : ce ≤ 601024) (hsl : sl ≤ 7293034) (k : ∀ gi' gl' r', zIv gi' → zA x g mL_law 13 601024 7293034 Q ce sl 1314 [some (.ref ((zm_cB + 12))), some (.ref 0), some (.ref 87), some (.ref 135), some (.int (nI i)), a5, a6] [] (zSH, gi', gl', zRT r')) : zA x g mL_law 13 601024 7293034 Q ce sl 703 [some (.ref ((zm_cB + 12))), some (.ref 0), some (.ref 87), some (.ref 135), some (.int (nI i)), a5, a6] [] (zSH, gi, gl, zRT r) := by
  refine zA_aload_1 dL_law_703 ?_
  refine zA_aload_0 dL_law_704 ?_
  refine zA_iload_4 dL_law_705 ?_
  refine zA_iconst (nI 1) dL_law_707 ic_1 ?_
  refine zA_iaddN dL_law_708 ?_
  refine zA_sld hS (i + 1) rfl (by omega) hb dL_law_709 ?_
  refine zA_aload_0 dL_law_710 ?_
  refine zA_iload_4 dL_law_711 ?_
  refine zA_iconst (nI 2) dL_law_713 ic_2 ?_
  refine zA_iaddN dL_law_714 ?_
  refine zA_sld hS (i + 2) rfl (by omega) hb dL_law_715 ?_
  refine zA_aload_0 dL_law_716 ?_
  refine zA_iload_4 dL_law_717 ?_
  refine zA_iconst (nI 3) dL_law_719 ic_3 ?_
  refine zA_iaddN dL_law_720 ?_
  refine zA_sld hS (i + 3) rfl (by omega) hb dL_law_721 ?_
  refine zA_aload_0 dL_law_722 ?_
  refine zA_iload_4 dL_law_723 ?_
  refine zA_iconst (nI 4) dL_law_725 ic_4 ?_
  refine zA_iaddN dL_law_726 ?_
  refine zA_sld hS (i + 4) rfl (by omega) hb dL_law_727 ?_
  obtain ⟨P1, c1, k1⟩ := pr_entry g gi gl r hI ((xs (i + 1))) ((xs (i + 2))) ((xs (i + 3))) ((xs (i + 4)))
  refine zA_cVi (c1) calX10_entry stX10_entry lL_72 dL_law_728 (by decide) (by simp [Value.category]) rfl hce hsl sh_0 rfl (fun z1 gi1 gl1 gr1 hp1 => ?_)
  obtain ⟨r1, rfl, P2, c2, k2⟩ := k1 _ _ _ _ hp1
  refine zA_aload_2 dL_law_731 ?_
  refine zA_aload_0 dL_law_732 ?_
  refine zA_iload_4 dL_law_733 ?_
  refine zA_iconst (nI 1) dL_law_735 ic_1 ?_
  refine zA_iaddN dL_law_736 ?_
  refine zA_sld hS (i + 1) rfl (by omega) hb dL_law_737 ?_
  refine zA_aload_0 dL_law_738 ?_
  refine zA_iload_4 dL_law_739 ?_
  refine zA_iconst (nI 2) dL_law_741 ic_2 ?_
  refine zA_iaddN dL_law_742 ?_
  refine zA_sld hS (i + 2) rfl (by omega) hb dL_law_743 ?_
  refine zA_aload_0 dL_law_744 ?_
  refine zA_iload_4 dL_law_745 ?_
  refine zA_iconst (nI 3) dL_law_747 ic_3 ?_
  refine zA_iaddN dL_law_748 ?_
  refine zA_sld hS (i + 3) rfl (by omega) hb dL_law_749 ?_
  refine zA_aload_0 dL_law_750 ?_
  refine zA_iload_4 dL_law_751 ?_
  refine zA_iconst (nI 4) dL_law_753 ic_4 ?_
  refine zA_iaddN dL_law_754 ?_
  refine zA_sld hS (i + 4) rfl (by omega) hb dL_law_755 ?_
  refine zA_cVi (c2) calX11_entry stX11_entry lL_75 dL_law_756 (by decide) (by simp [Value.category]) rfl hce hsl sh_87 rfl (fun z2 gi2 gl2 gr2 hp2 => ?_)
  obtain ⟨rfl, hI2, r2, rfl⟩ := k2 _ _ _ _ hp2
  exact zA_icmp_eq 1314 dL_law_759 (by decide) (fun _ => k _ _ _ hI2) (fun h => absurd rfl h)
theorem lc_hand {x : zm_X} {g : zm_G} {Q : State → Prop} {ce sl n i : Nat} {xs : Nat → Int32} {a5 a6 : Option Value} {gi : zm_I} {gl : zm_J} {r : Nat} (hS : zSc g x n xs) (hb : n < 2 ^ 31) (hI : zIv gi) (hi : i + 8 ≤ n) (hce : ce ≤ 601024) (hsl : sl ≤ 7293034) (k : ∀ gi' gl' r', zIv gi' → zA x g mL_law 13 601024 7293034 Q ce sl 1314 [some (.ref ((zm_cB + 12))), some (.ref 0), some (.ref 87), some (.ref 135), some (.int (nI i)), a5, a6] [] (zSH, gi', gl', zRT r')) : zA x g mL_law 13 601024 7293034 Q ce sl 764 [some (.ref ((zm_cB + 12))), some (.ref 0), some (.ref 87), some (.ref 135), some (.int (nI i)), a5, a6] [] (zSH, gi, gl, zRT r) := by
  refine zA_aload_1 dL_law_764 ?_
  refine zA_aload_0 dL_law_765 ?_
  refine zA_iload_4 dL_law_766 ?_
  refine zA_iconst (nI 1) dL_law_768 ic_1 ?_
  refine zA_iaddN dL_law_769 ?_
  refine zA_sld hS (i + 1) rfl (by omega) hb dL_law_770 ?_
  refine zA_aload_0 dL_law_771 ?_
  refine zA_iload_4 dL_law_772 ?_
  refine zA_iconst (nI 2) dL_law_774 ic_2 ?_
  refine zA_iaddN dL_law_775 ?_
  refine zA_sld hS (i + 2) rfl (by omega) hb dL_law_776 ?_
  refine zA_aload_0 dL_law_777 ?_
  refine zA_iload_4 dL_law_778 ?_
  refine zA_iconst (nI 3) dL_law_780 ic_3 ?_
  refine zA_iaddN dL_law_781 ?_
  refine zA_sld hS (i + 3) rfl (by omega) hb dL_law_782 ?_
  obtain ⟨P1, c1, k1⟩ := pr_hand g gi gl r hI ((xs (i + 1))) ((xs (i + 2))) ((xs (i + 3)))
  refine zA_cVi (c1) calX10_hand stX10_hand lL_76 dL_law_783 (by decide) (by simp [Value.category]) rfl hce hsl sh_0 rfl (fun z1 gi1 gl1 gr1 hp1 => ?_)
  obtain ⟨r1, rfl, P2, c2, k2⟩ := k1 _ _ _ _ hp1
  refine zA_aload_2 dL_law_786 ?_
  refine zA_aload_0 dL_law_787 ?_
  refine zA_iload_4 dL_law_788 ?_
  refine zA_iconst (nI 1) dL_law_790 ic_1 ?_
  refine zA_iaddN dL_law_791 ?_
  refine zA_sld hS (i + 1) rfl (by omega) hb dL_law_792 ?_
  refine zA_aload_0 dL_law_793 ?_
  refine zA_iload_4 dL_law_794 ?_
  refine zA_iconst (nI 2) dL_law_796 ic_2 ?_
  refine zA_iaddN dL_law_797 ?_
  refine zA_sld hS (i + 2) rfl (by omega) hb dL_law_798 ?_
  refine zA_aload_0 dL_law_799 ?_
  refine zA_iload_4 dL_law_800 ?_
  refine zA_iconst (nI 3) dL_law_802 ic_3 ?_
  refine zA_iaddN dL_law_803 ?_
  refine zA_sld hS (i + 3) rfl (by omega) hb dL_law_804 ?_
  refine zA_cVi (c2) calX11_hand stX11_hand lL_79 dL_law_805 (by decide) (by simp [Value.category]) rfl hce hsl sh_87 rfl (fun z2 gi2 gl2 gr2 hp2 => ?_)
  obtain ⟨rfl, hI2, r2, rfl⟩ := k2 _ _ _ _ hp2
  exact zA_icmp_eq 1314 dL_law_808 (by decide) (fun _ => k _ _ _ hI2) (fun h => absurd rfl h)
theorem lc_clear {x : zm_X} {g : zm_G} {Q : State → Prop} {ce sl n i : Nat} {xs : Nat → Int32} {a5 a6 : Option Value} {gi : zm_I} {gl : zm_J} {r : Nat} (hS : zSc g x n xs) (hb : n < 2 ^ 31) (hI : zIv gi) (hi : i + 8 ≤ n) (hce : ce ≤ 601024) (hsl : sl ≤ 7293034) (k : ∀ gi' gl' r', zIv gi' → zA x g mL_law 13 601024 7293034 Q ce sl 1314 [some (.ref ((zm_cB + 12))), some (.ref 0), some (.ref 87), some (.ref 135), some (.int (nI i)), a5, a6] [] (zSH, gi', gl', zRT r')) : zA x g mL_law 13 601024 7293034 Q ce sl 813 [some (.ref ((zm_cB + 12))), some (.ref 0), some (.ref 87), some (.ref 135), some (.int (nI i)), a5, a6] [] (zSH, gi, gl, zRT r) := by
  refine zA_aload_1 dL_law_813 ?_
  refine zA_aload_0 dL_law_814 ?_
  refine zA_iload_4 dL_law_815 ?_
  refine zA_iconst (nI 1) dL_law_817 ic_1 ?_
  refine zA_iaddN dL_law_818 ?_
  refine zA_sld hS (i + 1) rfl (by omega) hb dL_law_819 ?_
  obtain ⟨P1, c1, k1⟩ := pr_clear g gi gl r hI ((xs (i + 1)))
  refine zA_cVi (c1) calX10_clear stX10_clear lL_80 dL_law_820 (by decide) (by simp [Value.category]) rfl hce hsl sh_0 rfl (fun z1 gi1 gl1 gr1 hp1 => ?_)
  obtain ⟨r1, rfl, P2, c2, k2⟩ := k1 _ _ _ _ hp1
  refine zA_aload_2 dL_law_823 ?_
  refine zA_aload_0 dL_law_824 ?_
  refine zA_iload_4 dL_law_825 ?_
  refine zA_iconst (nI 1) dL_law_827 ic_1 ?_
  refine zA_iaddN dL_law_828 ?_
  refine zA_sld hS (i + 1) rfl (by omega) hb dL_law_829 ?_
  refine zA_cVi (c2) calX11_clear stX11_clear lL_83 dL_law_830 (by decide) (by simp [Value.category]) rfl hce hsl sh_87 rfl (fun z2 gi2 gl2 gr2 hp2 => ?_)
  obtain ⟨rfl, hI2, r2, rfl⟩ := k2 _ _ _ _ hp2
  exact zA_icmp_eq 1314 dL_law_833 (by decide) (fun _ => k _ _ _ hI2) (fun h => absurd rfl h)
theorem lc_shown {x : zm_X} {g : zm_G} {Q : State → Prop} {ce sl n i : Nat} {xs : Nat → Int32} {a5 a6 : Option Value} {gi : zm_I} {gl : zm_J} {r : Nat} (hS : zSc g x n xs) (hb : n < 2 ^ 31) (hI : zIv gi) (hi : i + 8 ≤ n) (hce : ce ≤ 601024) (hsl : sl ≤ 7293034) (k : ∀ gi' gl' r', zIv gi' → zA x g mL_law 13 601024 7293034 Q ce sl 1314 [some (.ref ((zm_cB + 12))), some (.ref 0), some (.ref 87), some (.ref 135), some (.int (nI i)), a5, a6] [] (zSH, gi', gl', zRT r')) : zA x g mL_law 13 601024 7293034 Q ce sl 838 [some (.ref ((zm_cB + 12))), some (.ref 0), some (.ref 87), some (.ref 135), some (.int (nI i)), a5, a6] [] (zSH, gi, gl, zRT r) := by
  refine zA_aload_1 dL_law_838 ?_
  refine zA_aload_0 dL_law_839 ?_
  refine zA_iload_4 dL_law_840 ?_
  refine zA_iconst (nI 1) dL_law_842 ic_1 ?_
  refine zA_iaddN dL_law_843 ?_
  refine zA_sld hS (i + 1) rfl (by omega) hb dL_law_844 ?_
  refine zA_aload_0 dL_law_845 ?_
  refine zA_iload_4 dL_law_846 ?_
  refine zA_iconst (nI 2) dL_law_848 ic_2 ?_
  refine zA_iaddN dL_law_849 ?_
  refine zA_sld hS (i + 2) rfl (by omega) hb dL_law_850 ?_
  refine zA_aload_0 dL_law_851 ?_
  refine zA_iload_4 dL_law_852 ?_
  refine zA_iconst (nI 3) dL_law_854 ic_3 ?_
  refine zA_iaddN dL_law_855 ?_
  refine zA_sld hS (i + 3) rfl (by omega) hb dL_law_856 ?_
  obtain ⟨P1, c1, k1⟩ := pr_shown g gi gl r hI ((xs (i + 1))) ((xs (i + 2))) ((xs (i + 3)))
  refine zA_cVi (c1) calX10_shown stX10_shown lL_84 dL_law_857 (by decide) (by simp [Value.category]) rfl hce hsl sh_0 rfl (fun z1 gi1 gl1 gr1 hp1 => ?_)
  obtain ⟨r1, rfl, P2, c2, k2⟩ := k1 _ _ _ _ hp1
  refine zA_aload_2 dL_law_860 ?_
  refine zA_aload_0 dL_law_861 ?_
  refine zA_iload_4 dL_law_862 ?_
  refine zA_iconst (nI 1) dL_law_864 ic_1 ?_
  refine zA_iaddN dL_law_865 ?_
  refine zA_sld hS (i + 1) rfl (by omega) hb dL_law_866 ?_
  refine zA_aload_0 dL_law_867 ?_
  refine zA_iload_4 dL_law_868 ?_
  refine zA_iconst (nI 2) dL_law_870 ic_2 ?_
  refine zA_iaddN dL_law_871 ?_
  refine zA_sld hS (i + 2) rfl (by omega) hb dL_law_872 ?_
  refine zA_aload_0 dL_law_873 ?_
  refine zA_iload_4 dL_law_874 ?_
  refine zA_iconst (nI 3) dL_law_876 ic_3 ?_
  refine zA_iaddN dL_law_877 ?_
  refine zA_sld hS (i + 3) rfl (by omega) hb dL_law_878 ?_
  refine zA_cVi (c2) calX11_shown stX11_shown lL_87 dL_law_879 (by decide) (by simp [Value.category]) rfl hce hsl sh_87 rfl (fun z2 gi2 gl2 gr2 hp2 => ?_)
  obtain ⟨rfl, hI2, r2, rfl⟩ := k2 _ _ _ _ hp2
  exact zA_icmp_eq 1314 dL_law_882 (by decide) (fun _ => k _ _ _ hI2) (fun h => absurd rfl h)
theorem lc_run {x : zm_X} {g : zm_G} {Q : State → Prop} {ce sl n i : Nat} {xs : Nat → Int32} {a5 a6 : Option Value} {gi : zm_I} {gl : zm_J} {r : Nat} (hS : zSc g x n xs) (hb : n < 2 ^ 31) (hI : zIv gi) (hi : i + 8 ≤ n) (hce : ce ≤ 601024) (hsl : sl ≤ 7293034) (k : ∀ gi' gl' r', zIv gi' → zA x g mL_law 13 601024 7293034 Q ce sl 1314 [some (.ref ((zm_cB + 12))), some (.ref 0), some (.ref 87), some (.ref 135), some (.int (nI i)), a5, a6] [] (zSH, gi', gl', zRT r')) : zA x g mL_law 13 601024 7293034 Q ce sl 887 [some (.ref ((zm_cB + 12))), some (.ref 0), some (.ref 87), some (.ref 135), some (.int (nI i)), a5, a6] [] (zSH, gi, gl, zRT r) := by
  refine zA_aload_1 dL_law_887 ?_
  refine zA_aload_0 dL_law_888 ?_
  refine zA_iload_4 dL_law_889 ?_
  refine zA_iconst (nI 1) dL_law_891 ic_1 ?_
  refine zA_iaddN dL_law_892 ?_
  refine zA_sld hS (i + 1) rfl (by omega) hb dL_law_893 ?_
  refine zA_aload_0 dL_law_894 ?_
  refine zA_iload_4 dL_law_895 ?_
  refine zA_iconst (nI 2) dL_law_897 ic_2 ?_
  refine zA_iaddN dL_law_898 ?_
  refine zA_sld hS (i + 2) rfl (by omega) hb dL_law_899 ?_
  obtain ⟨P1, c1, k1⟩ := pr_run g gi gl r hI ((xs (i + 1))) ((xs (i + 2)))
  refine zA_cVi (c1) calX10_run stX10_run lL_88 dL_law_900 (by decide) (by simp [Value.category]) rfl hce hsl sh_0 rfl (fun z1 gi1 gl1 gr1 hp1 => ?_)
  obtain ⟨r1, rfl, P2, c2, k2⟩ := k1 _ _ _ _ hp1
  refine zA_aload_2 dL_law_903 ?_
  refine zA_aload_0 dL_law_904 ?_
  refine zA_iload_4 dL_law_905 ?_
  refine zA_iconst (nI 1) dL_law_907 ic_1 ?_
  refine zA_iaddN dL_law_908 ?_
  refine zA_sld hS (i + 1) rfl (by omega) hb dL_law_909 ?_
  refine zA_aload_0 dL_law_910 ?_
  refine zA_iload_4 dL_law_911 ?_
  refine zA_iconst (nI 2) dL_law_913 ic_2 ?_
  refine zA_iaddN dL_law_914 ?_
  refine zA_sld hS (i + 2) rfl (by omega) hb dL_law_915 ?_
  refine zA_cVi (c2) calX11_run stX11_run lL_91 dL_law_916 (by decide) (by simp [Value.category]) rfl hce hsl sh_87 rfl (fun z2 gi2 gl2 gr2 hp2 => ?_)
  obtain ⟨rfl, hI2, r2, rfl⟩ := k2 _ _ _ _ hp2
  exact zA_icmp_eq 1314 dL_law_919 (by decide) (fun _ => k _ _ _ hI2) (fun h => absurd rfl h)
theorem lc_where {x : zm_X} {g : zm_G} {Q : State → Prop} {ce sl n i : Nat} {xs : Nat → Int32} {a5 a6 : Option Value} {gi : zm_I} {gl : zm_J} {r : Nat} (hS : zSc g x n xs) (hb : n < 2 ^ 31) (hI : zIv gi) (hi : i + 8 ≤ n) (hce : ce ≤ 601024) (hsl : sl ≤ 7293034) (k : ∀ gi' gl' r', zIv gi' → zA x g mL_law 13 601024 7293034 Q ce sl 1314 [some (.ref ((zm_cB + 12))), some (.ref 0), some (.ref 87), some (.ref 135), some (.int (nI i)), a5, a6] [] (zSH, gi', gl', zRT r')) : zA x g mL_law 13 601024 7293034 Q ce sl 924 [some (.ref ((zm_cB + 12))), some (.ref 0), some (.ref 87), some (.ref 135), some (.int (nI i)), a5, a6] [] (zSH, gi, gl, zRT r) := by
  refine zA_aload_1 dL_law_924 ?_
  refine zA_aload_0 dL_law_925 ?_
  refine zA_iload_4 dL_law_926 ?_
  refine zA_iconst (nI 1) dL_law_928 ic_1 ?_
  refine zA_iaddN dL_law_929 ?_
  refine zA_sld hS (i + 1) rfl (by omega) hb dL_law_930 ?_
  refine zA_aload_0 dL_law_931 ?_
  refine zA_iload_4 dL_law_932 ?_
  refine zA_iconst (nI 2) dL_law_934 ic_2 ?_
  refine zA_iaddN dL_law_935 ?_
  refine zA_sld hS (i + 2) rfl (by omega) hb dL_law_936 ?_
  refine zA_aload_0 dL_law_937 ?_
  refine zA_iload_4 dL_law_938 ?_
  refine zA_iconst (nI 3) dL_law_940 ic_3 ?_
  refine zA_iaddN dL_law_941 ?_
  refine zA_sld hS (i + 3) rfl (by omega) hb dL_law_942 ?_
  obtain ⟨P1, c1, k1⟩ := pr_where g gi gl r hI ((xs (i + 1))) ((xs (i + 2))) ((xs (i + 3)))
  refine zA_cVi (c1) calX10_where stX10_where lL_92 dL_law_943 (by decide) (by simp [Value.category]) rfl hce hsl sh_0 rfl (fun z1 gi1 gl1 gr1 hp1 => ?_)
  obtain ⟨r1, rfl, P2, c2, k2⟩ := k1 _ _ _ _ hp1
  refine zA_aload_2 dL_law_946 ?_
  refine zA_aload_0 dL_law_947 ?_
  refine zA_iload_4 dL_law_948 ?_
  refine zA_iconst (nI 1) dL_law_950 ic_1 ?_
  refine zA_iaddN dL_law_951 ?_
  refine zA_sld hS (i + 1) rfl (by omega) hb dL_law_952 ?_
  refine zA_aload_0 dL_law_953 ?_
  refine zA_iload_4 dL_law_954 ?_
  refine zA_iconst (nI 2) dL_law_956 ic_2 ?_
  refine zA_iaddN dL_law_957 ?_
  refine zA_sld hS (i + 2) rfl (by omega) hb dL_law_958 ?_
  refine zA_aload_0 dL_law_959 ?_
  refine zA_iload_4 dL_law_960 ?_
  refine zA_iconst (nI 3) dL_law_962 ic_3 ?_
  refine zA_iaddN dL_law_963 ?_
  refine zA_sld hS (i + 3) rfl (by omega) hb dL_law_964 ?_
  refine zA_cVi (c2) calX11_where stX11_where lL_95 dL_law_965 (by decide) (by simp [Value.category]) rfl hce hsl sh_87 rfl (fun z2 gi2 gl2 gr2 hp2 => ?_)
  obtain ⟨rfl, hI2, r2, rfl⟩ := k2 _ _ _ _ hp2
  exact zA_icmp_eq 1314 dL_law_968 (by decide) (fun _ => k _ _ _ hI2) (fun h => absurd rfl h)
theorem lc_printed {x : zm_X} {g : zm_G} {Q : State → Prop} {ce sl n i : Nat} {xs : Nat → Int32} {a5 a6 : Option Value} {gi : zm_I} {gl : zm_J} {r : Nat} (hS : zSc g x n xs) (hb : n < 2 ^ 31) (hI : zIv gi) (hi : i + 8 ≤ n) (hce : ce ≤ 601024) (hsl : sl ≤ 7293034) (k : ∀ gi' gl' r', zIv gi' → zA x g mL_law 13 601024 7293034 Q ce sl 1314 [some (.ref ((zm_cB + 12))), some (.ref 0), some (.ref 87), some (.ref 135), some (.int (nI i)), a5, a6] [] (zSH, gi', gl', zRT r')) : zA x g mL_law 13 601024 7293034 Q ce sl 973 [some (.ref ((zm_cB + 12))), some (.ref 0), some (.ref 87), some (.ref 135), some (.int (nI i)), a5, a6] [] (zSH, gi, gl, zRT r) := by
  refine zA_aload_1 dL_law_973 ?_
  refine zA_aload_0 dL_law_974 ?_
  refine zA_iload_4 dL_law_975 ?_
  refine zA_iconst (nI 1) dL_law_977 ic_1 ?_
  refine zA_iaddN dL_law_978 ?_
  refine zA_sld hS (i + 1) rfl (by omega) hb dL_law_979 ?_
  refine zA_aload_0 dL_law_980 ?_
  refine zA_iload_4 dL_law_981 ?_
  refine zA_iconst (nI 2) dL_law_983 ic_2 ?_
  refine zA_iaddN dL_law_984 ?_
  refine zA_sld hS (i + 2) rfl (by omega) hb dL_law_985 ?_
  refine zA_aload_0 dL_law_986 ?_
  refine zA_iload_4 dL_law_987 ?_
  refine zA_iconst (nI 3) dL_law_989 ic_3 ?_
  refine zA_iaddN dL_law_990 ?_
  refine zA_sld hS (i + 3) rfl (by omega) hb dL_law_991 ?_
  obtain ⟨P1, c1, k1⟩ := pr_printed g gi gl r hI ((xs (i + 1))) ((xs (i + 2))) ((xs (i + 3)))
  refine zA_cVi (c1) calX10_printed stX10_printed lL_96 dL_law_992 (by decide) (by simp [Value.category]) rfl hce hsl sh_0 rfl (fun z1 gi1 gl1 gr1 hp1 => ?_)
  obtain ⟨r1, rfl, P2, c2, k2⟩ := k1 _ _ _ _ hp1
  refine zA_aload_2 dL_law_995 ?_
  refine zA_aload_0 dL_law_996 ?_
  refine zA_iload_4 dL_law_997 ?_
  refine zA_iconst (nI 1) dL_law_999 ic_1 ?_
  refine zA_iaddN dL_law_1000 ?_
  refine zA_sld hS (i + 1) rfl (by omega) hb dL_law_1001 ?_
  refine zA_aload_0 dL_law_1002 ?_
  refine zA_iload_4 dL_law_1003 ?_
  refine zA_iconst (nI 2) dL_law_1005 ic_2 ?_
  refine zA_iaddN dL_law_1006 ?_
  refine zA_sld hS (i + 2) rfl (by omega) hb dL_law_1007 ?_
  refine zA_aload_0 dL_law_1008 ?_
  refine zA_iload_4 dL_law_1009 ?_
  refine zA_iconst (nI 3) dL_law_1011 ic_3 ?_
  refine zA_iaddN dL_law_1012 ?_
  refine zA_sld hS (i + 3) rfl (by omega) hb dL_law_1013 ?_
  refine zA_cVi (c2) calX11_printed stX11_printed lL_99 dL_law_1014 (by decide) (by simp [Value.category]) rfl hce hsl sh_87 rfl (fun z2 gi2 gl2 gr2 hp2 => ?_)
  obtain ⟨rfl, hI2, r2, rfl⟩ := k2 _ _ _ _ hp2
  exact zA_icmp_eq 1314 dL_law_1017 (by decide) (fun _ => k _ _ _ hI2) (fun h => absurd rfl h)
theorem lc_expected {x : zm_X} {g : zm_G} {Q : State → Prop} {ce sl n i : Nat} {xs : Nat → Int32} {a5 a6 : Option Value} {gi : zm_I} {gl : zm_J} {r : Nat} (hS : zSc g x n xs) (hb : n < 2 ^ 31) (hI : zIv gi) (hi : i + 8 ≤ n) (hce : ce ≤ 601024) (hsl : sl ≤ 7293034) (k : ∀ gi' gl' r', zIv gi' → zA x g mL_law 13 601024 7293034 Q ce sl 1314 [some (.ref ((zm_cB + 12))), some (.ref 0), some (.ref 87), some (.ref 135), some (.int (nI i)), a5, a6] [] (zSH, gi', gl', zRT r')) : zA x g mL_law 13 601024 7293034 Q ce sl 1022 [some (.ref ((zm_cB + 12))), some (.ref 0), some (.ref 87), some (.ref 135), some (.int (nI i)), a5, a6] [] (zSH, gi, gl, zRT r) := by
  refine zA_aload_1 dL_law_1022 ?_
  refine zA_aload_0 dL_law_1023 ?_
  refine zA_iload_4 dL_law_1024 ?_
  refine zA_iconst (nI 1) dL_law_1026 ic_1 ?_
  refine zA_iaddN dL_law_1027 ?_
  refine zA_sld hS (i + 1) rfl (by omega) hb dL_law_1028 ?_
  obtain ⟨P1, c1, k1⟩ := pr_expected g gi gl r hI ((xs (i + 1)))
  refine zA_cVl (c1) calX10_expected stX10_expected lL_100 dL_law_1029 (by decide) (by simp [Value.category]) rfl hce hsl sh_0 rfl (fun z1 gi1 gl1 gr1 hp1 => ?_)
  obtain ⟨r1, rfl, P2, c2, k2⟩ := k1 _ _ _ _ hp1
  refine zA_aload_2 dL_law_1032 ?_
  refine zA_aload_0 dL_law_1033 ?_
  refine zA_iload_4 dL_law_1034 ?_
  refine zA_iconst (nI 1) dL_law_1036 ic_1 ?_
  refine zA_iaddN dL_law_1037 ?_
  refine zA_sld hS (i + 1) rfl (by omega) hb dL_law_1038 ?_
  refine zA_cVl (c2) calX11_expected stX11_expected lL_104 dL_law_1039 (by decide) (by simp [Value.category]) rfl hce hsl sh_87 rfl (fun z2 gi2 gl2 gr2 hp2 => ?_)
  obtain ⟨rfl, hI2, r2, rfl⟩ := k2 _ _ _ _ hp2
  refine zA_lcmp dL_law_1042 ?_
  exact zA_if_eq 1314 dL_law_1043 (by decide) (fun _ => k _ _ _ hI2) (fun h => absurd (lg_cmp_self _) h)
theorem lc_round {x : zm_X} {g : zm_G} {Q : State → Prop} {ce sl n i : Nat} {xs : Nat → Int32} {a5 a6 : Option Value} {gi : zm_I} {gl : zm_J} {r : Nat} (hS : zSc g x n xs) (hb : n < 2 ^ 31) (hI : zIv gi) (hi : i + 8 ≤ n) (hce : ce ≤ 601024) (hsl : sl ≤ 7293034) (k : ∀ gi' gl' r', zIv gi' → zA x g mL_law 13 601024 7293034 Q ce sl 1314 [some (.ref ((zm_cB + 12))), some (.ref 0), some (.ref 87), some (.ref 135), some (.int (nI i)), a5, a6] [] (zSH, gi', gl', zRT r')) : zA x g mL_law 13 601024 7293034 Q ce sl 1048 [some (.ref ((zm_cB + 12))), some (.ref 0), some (.ref 87), some (.ref 135), some (.int (nI i)), a5, a6] [] (zSH, gi, gl, zRT r) := by
  refine zA_aload_1 dL_law_1048 ?_
  refine zA_aload_0 dL_law_1049 ?_
  refine zA_iload_4 dL_law_1050 ?_
  refine zA_iconst (nI 1) dL_law_1052 ic_1 ?_
  refine zA_iaddN dL_law_1053 ?_
  refine zA_sld hS (i + 1) rfl (by omega) hb dL_law_1054 ?_
  refine zA_aload_0 dL_law_1055 ?_
  refine zA_iload_4 dL_law_1056 ?_
  refine zA_iconst (nI 2) dL_law_1058 ic_2 ?_
  refine zA_iaddN dL_law_1059 ?_
  refine zA_sld hS (i + 2) rfl (by omega) hb dL_law_1060 ?_
  obtain ⟨P1, c1, k1⟩ := pr_round g gi gl r hI ((xs (i + 1))) ((xs (i + 2)))
  refine zA_cVi (c1) calX10_round stX10_round lL_105 dL_law_1061 (by decide) (by simp [Value.category]) rfl hce hsl sh_0 rfl (fun z1 gi1 gl1 gr1 hp1 => ?_)
  obtain ⟨r1, rfl, P2, c2, k2⟩ := k1 _ _ _ _ hp1
  refine zA_aload_2 dL_law_1064 ?_
  refine zA_aload_0 dL_law_1065 ?_
  refine zA_iload_4 dL_law_1066 ?_
  refine zA_iconst (nI 1) dL_law_1068 ic_1 ?_
  refine zA_iaddN dL_law_1069 ?_
  refine zA_sld hS (i + 1) rfl (by omega) hb dL_law_1070 ?_
  refine zA_aload_0 dL_law_1071 ?_
  refine zA_iload_4 dL_law_1072 ?_
  refine zA_iconst (nI 2) dL_law_1074 ic_2 ?_
  refine zA_iaddN dL_law_1075 ?_
  refine zA_sld hS (i + 2) rfl (by omega) hb dL_law_1076 ?_
  refine zA_cVi (c2) calX11_round stX11_round lL_108 dL_law_1077 (by decide) (by simp [Value.category]) rfl hce hsl sh_87 rfl (fun z2 gi2 gl2 gr2 hp2 => ?_)
  obtain ⟨rfl, hI2, r2, rfl⟩ := k2 _ _ _ _ hp2
  exact zA_icmp_eq 1314 dL_law_1080 (by decide) (fun _ => k _ _ _ hI2) (fun h => absurd rfl h)
theorem lc_rounded {x : zm_X} {g : zm_G} {Q : State → Prop} {ce sl n i : Nat} {xs : Nat → Int32} {a5 a6 : Option Value} {gi : zm_I} {gl : zm_J} {r : Nat} (hS : zSc g x n xs) (hb : n < 2 ^ 31) (hI : zIv gi) (hi : i + 8 ≤ n) (hce : ce ≤ 601024) (hsl : sl ≤ 7293034) (k : ∀ gi' gl' r', zIv gi' → zA x g mL_law 13 601024 7293034 Q ce sl 1314 [some (.ref ((zm_cB + 12))), some (.ref 0), some (.ref 87), some (.ref 135), some (.int (nI i)), a5, a6] [] (zSH, gi', gl', zRT r')) : zA x g mL_law 13 601024 7293034 Q ce sl 1085 [some (.ref ((zm_cB + 12))), some (.ref 0), some (.ref 87), some (.ref 135), some (.int (nI i)), a5, a6] [] (zSH, gi, gl, zRT r) := by
  refine zA_aload_1 dL_law_1085 ?_
  refine zA_aload_0 dL_law_1086 ?_
  refine zA_iload_4 dL_law_1087 ?_
  refine zA_iconst (nI 1) dL_law_1089 ic_1 ?_
  refine zA_iaddN dL_law_1090 ?_
  refine zA_sld hS (i + 1) rfl (by omega) hb dL_law_1091 ?_
  obtain ⟨P1, c1, k1⟩ := pr_rounded g gi gl r hI ((xs (i + 1)))
  refine zA_cVi (c1) calX10_rounded stX10_rounded lL_109 dL_law_1092 (by decide) (by simp [Value.category]) rfl hce hsl sh_0 rfl (fun z1 gi1 gl1 gr1 hp1 => ?_)
  obtain ⟨r1, rfl, P2, c2, k2⟩ := k1 _ _ _ _ hp1
  refine zA_aload_2 dL_law_1095 ?_
  refine zA_aload_0 dL_law_1096 ?_
  refine zA_iload_4 dL_law_1097 ?_
  refine zA_iconst (nI 1) dL_law_1099 ic_1 ?_
  refine zA_iaddN dL_law_1100 ?_
  refine zA_sld hS (i + 1) rfl (by omega) hb dL_law_1101 ?_
  refine zA_cVi (c2) calX11_rounded stX11_rounded lL_112 dL_law_1102 (by decide) (by simp [Value.category]) rfl hce hsl sh_87 rfl (fun z2 gi2 gl2 gr2 hp2 => ?_)
  obtain ⟨rfl, hI2, r2, rfl⟩ := k2 _ _ _ _ hp2
  exact zA_icmp_eq 1314 dL_law_1105 (by decide) (fun _ => k _ _ _ hI2) (fun h => absurd rfl h)
theorem lc_report {x : zm_X} {g : zm_G} {Q : State → Prop} {ce sl n i : Nat} {xs : Nat → Int32} {a5 a6 : Option Value} {gi : zm_I} {gl : zm_J} {r : Nat} (hS : zSc g x n xs) (hb : n < 2 ^ 31) (hI : zIv gi) (hi : i + 8 ≤ n) (hce : ce ≤ 601024) (hsl : sl ≤ 7293034) (k : ∀ gi' gl' r', zIv gi' → zA x g mL_law 13 601024 7293034 Q ce sl 1314 [some (.ref ((zm_cB + 12))), some (.ref 0), some (.ref 87), some (.ref 135), some (.int (nI i)), a5, a6] [] (zSH, gi', gl', zRT r')) : zA x g mL_law 13 601024 7293034 Q ce sl 1110 [some (.ref ((zm_cB + 12))), some (.ref 0), some (.ref 87), some (.ref 135), some (.int (nI i)), a5, a6] [] (zSH, gi, gl, zRT r) := by
  refine zA_aload_1 dL_law_1110 ?_
  refine zA_aload_0 dL_law_1111 ?_
  refine zA_iload_4 dL_law_1112 ?_
  refine zA_iconst (nI 1) dL_law_1114 ic_1 ?_
  refine zA_iaddN dL_law_1115 ?_
  refine zA_sld hS (i + 1) rfl (by omega) hb dL_law_1116 ?_
  refine zA_aload_0 dL_law_1117 ?_
  refine zA_iload_4 dL_law_1118 ?_
  refine zA_iconst (nI 2) dL_law_1120 ic_2 ?_
  refine zA_iaddN dL_law_1121 ?_
  refine zA_sld hS (i + 2) rfl (by omega) hb dL_law_1122 ?_
  refine zA_aload_0 dL_law_1123 ?_
  refine zA_iload_4 dL_law_1124 ?_
  refine zA_iconst (nI 3) dL_law_1126 ic_3 ?_
  refine zA_iaddN dL_law_1127 ?_
  refine zA_sld hS (i + 3) rfl (by omega) hb dL_law_1128 ?_
  obtain ⟨P1, c1, k1⟩ := pr_report g gi gl r hI ((xs (i + 1))) ((xs (i + 2))) ((xs (i + 3)))
  refine zA_cVi (c1) calX10_report stX10_report lL_113 dL_law_1129 (by decide) (by simp [Value.category]) rfl hce hsl sh_0 rfl (fun z1 gi1 gl1 gr1 hp1 => ?_)
  obtain ⟨r1, rfl, P2, c2, k2⟩ := k1 _ _ _ _ hp1
  refine zA_aload_2 dL_law_1132 ?_
  refine zA_aload_0 dL_law_1133 ?_
  refine zA_iload_4 dL_law_1134 ?_
  refine zA_iconst (nI 1) dL_law_1136 ic_1 ?_
  refine zA_iaddN dL_law_1137 ?_
  refine zA_sld hS (i + 1) rfl (by omega) hb dL_law_1138 ?_
  refine zA_aload_0 dL_law_1139 ?_
  refine zA_iload_4 dL_law_1140 ?_
  refine zA_iconst (nI 2) dL_law_1142 ic_2 ?_
  refine zA_iaddN dL_law_1143 ?_
  refine zA_sld hS (i + 2) rfl (by omega) hb dL_law_1144 ?_
  refine zA_aload_0 dL_law_1145 ?_
  refine zA_iload_4 dL_law_1146 ?_
  refine zA_iconst (nI 3) dL_law_1148 ic_3 ?_
  refine zA_iaddN dL_law_1149 ?_
  refine zA_sld hS (i + 3) rfl (by omega) hb dL_law_1150 ?_
  refine zA_cVi (c2) calX11_report stX11_report lL_116 dL_law_1151 (by decide) (by simp [Value.category]) rfl hce hsl sh_87 rfl (fun z2 gi2 gl2 gr2 hp2 => ?_)
  obtain ⟨rfl, hI2, r2, rfl⟩ := k2 _ _ _ _ hp2
  exact zA_icmp_eq 1314 dL_law_1154 (by decide) (fun _ => k _ _ _ hI2) (fun h => absurd rfl h)
theorem lc_strike {x : zm_X} {g : zm_G} {Q : State → Prop} {ce sl n i : Nat} {xs : Nat → Int32} {a5 a6 : Option Value} {gi : zm_I} {gl : zm_J} {r : Nat} (hS : zSc g x n xs) (hb : n < 2 ^ 31) (hI : zIv gi) (hi : i + 8 ≤ n) (hce : ce ≤ 601024) (hsl : sl ≤ 7293034) (k : ∀ gi' gl' r', zIv gi' → zA x g mL_law 13 601024 7293034 Q ce sl 1314 [some (.ref ((zm_cB + 12))), some (.ref 0), some (.ref 87), some (.ref 135), some (.int (nI i)), a5, a6] [] (zSH, gi', gl', zRT r')) : zA x g mL_law 13 601024 7293034 Q ce sl 1159 [some (.ref ((zm_cB + 12))), some (.ref 0), some (.ref 87), some (.ref 135), some (.int (nI i)), a5, a6] [] (zSH, gi, gl, zRT r) := by
  refine zA_aload_1 dL_law_1159 ?_
  refine zA_aload_0 dL_law_1160 ?_
  refine zA_iload_4 dL_law_1161 ?_
  refine zA_iconst (nI 1) dL_law_1163 ic_1 ?_
  refine zA_iaddN dL_law_1164 ?_
  refine zA_sld hS (i + 1) rfl (by omega) hb dL_law_1165 ?_
  obtain ⟨P1, c1, k1⟩ := pr_strike g gi gl r hI ((xs (i + 1)))
  refine zA_cVi (c1) calX10_strike stX10_strike lL_117 dL_law_1166 (by decide) (by simp [Value.category]) rfl hce hsl sh_0 rfl (fun z1 gi1 gl1 gr1 hp1 => ?_)
  obtain ⟨r1, rfl, P2, c2, k2⟩ := k1 _ _ _ _ hp1
  refine zA_aload_2 dL_law_1169 ?_
  refine zA_aload_0 dL_law_1170 ?_
  refine zA_iload_4 dL_law_1171 ?_
  refine zA_iconst (nI 1) dL_law_1173 ic_1 ?_
  refine zA_iaddN dL_law_1174 ?_
  refine zA_sld hS (i + 1) rfl (by omega) hb dL_law_1175 ?_
  refine zA_cVi (c2) calX11_strike stX11_strike lL_120 dL_law_1176 (by decide) (by simp [Value.category]) rfl hce hsl sh_87 rfl (fun z2 gi2 gl2 gr2 hp2 => ?_)
  obtain ⟨rfl, hI2, r2, rfl⟩ := k2 _ _ _ _ hp2
  exact zA_icmp_eq 1314 dL_law_1179 (by decide) (fun _ => k _ _ _ hI2) (fun h => absurd rfl h)
theorem lc_ends {x : zm_X} {g : zm_G} {Q : State → Prop} {ce sl n i : Nat} {xs : Nat → Int32} {a5 a6 : Option Value} {gi : zm_I} {gl : zm_J} {r : Nat} (hS : zSc g x n xs) (hb : n < 2 ^ 31) (hI : zIv gi) (hi : i + 8 ≤ n) (hce : ce ≤ 601024) (hsl : sl ≤ 7293034) (k : ∀ gi' gl' r', zIv gi' → zA x g mL_law 13 601024 7293034 Q ce sl 1314 [some (.ref ((zm_cB + 12))), some (.ref 0), some (.ref 87), some (.ref 135), some (.int (nI i)), a5, a6] [] (zSH, gi', gl', zRT r')) : zA x g mL_law 13 601024 7293034 Q ce sl 1184 [some (.ref ((zm_cB + 12))), some (.ref 0), some (.ref 87), some (.ref 135), some (.int (nI i)), a5, a6] [] (zSH, gi, gl, zRT r) := by
  refine zA_aload_1 dL_law_1184 ?_
  refine zA_aload_0 dL_law_1185 ?_
  refine zA_iload_4 dL_law_1186 ?_
  refine zA_iconst (nI 1) dL_law_1188 ic_1 ?_
  refine zA_iaddN dL_law_1189 ?_
  refine zA_sld hS (i + 1) rfl (by omega) hb dL_law_1190 ?_
  refine zA_aload_0 dL_law_1191 ?_
  refine zA_iload_4 dL_law_1192 ?_
  refine zA_iconst (nI 2) dL_law_1194 ic_2 ?_
  refine zA_iaddN dL_law_1195 ?_
  refine zA_sld hS (i + 2) rfl (by omega) hb dL_law_1196 ?_
  obtain ⟨P1, c1, k1⟩ := pr_ends g gi gl r hI ((xs (i + 1))) ((xs (i + 2)))
  refine zA_cVi (c1) calX10_ends stX10_ends lL_121 dL_law_1197 (by decide) (by simp [Value.category]) rfl hce hsl sh_0 rfl (fun z1 gi1 gl1 gr1 hp1 => ?_)
  obtain ⟨r1, rfl, P2, c2, k2⟩ := k1 _ _ _ _ hp1
  refine zA_aload_2 dL_law_1200 ?_
  refine zA_aload_0 dL_law_1201 ?_
  refine zA_iload_4 dL_law_1202 ?_
  refine zA_iconst (nI 1) dL_law_1204 ic_1 ?_
  refine zA_iaddN dL_law_1205 ?_
  refine zA_sld hS (i + 1) rfl (by omega) hb dL_law_1206 ?_
  refine zA_aload_0 dL_law_1207 ?_
  refine zA_iload_4 dL_law_1208 ?_
  refine zA_iconst (nI 2) dL_law_1210 ic_2 ?_
  refine zA_iaddN dL_law_1211 ?_
  refine zA_sld hS (i + 2) rfl (by omega) hb dL_law_1212 ?_
  refine zA_cVi (c2) calX11_ends stX11_ends lL_124 dL_law_1213 (by decide) (by simp [Value.category]) rfl hce hsl sh_87 rfl (fun z2 gi2 gl2 gr2 hp2 => ?_)
  obtain ⟨rfl, hI2, r2, rfl⟩ := k2 _ _ _ _ hp2
  exact zA_icmp_eq 1314 dL_law_1216 (by decide) (fun _ => k _ _ _ hI2) (fun h => absurd rfl h)
theorem lc_count {x : zm_X} {g : zm_G} {Q : State → Prop} {ce sl n i : Nat} {xs : Nat → Int32} {a5 a6 : Option Value} {gi : zm_I} {gl : zm_J} {r : Nat} (hS : zSc g x n xs) (hb : n < 2 ^ 31) (hI : zIv gi) (hi : i + 8 ≤ n) (hce : ce ≤ 601024) (hsl : sl ≤ 7293034) (k : ∀ gi' gl' r', zIv gi' → zA x g mL_law 13 601024 7293034 Q ce sl 1314 [some (.ref ((zm_cB + 12))), some (.ref 0), some (.ref 87), some (.ref 135), some (.int (nI i)), a5, a6] [] (zSH, gi', gl', zRT r')) : zA x g mL_law 13 601024 7293034 Q ce sl 1289 [some (.ref ((zm_cB + 12))), some (.ref 0), some (.ref 87), some (.ref 135), some (.int (nI i)), a5, a6] [] (zSH, gi, gl, zRT r) := by
  refine zA_aload_1 dL_law_1289 ?_
  refine zA_aload_0 dL_law_1290 ?_
  refine zA_iload_4 dL_law_1291 ?_
  refine zA_iconst (nI 1) dL_law_1293 ic_1 ?_
  refine zA_iaddN dL_law_1294 ?_
  refine zA_sld hS (i + 1) rfl (by omega) hb dL_law_1295 ?_
  obtain ⟨P1, c1, k1⟩ := pr_count g gi gl r hI ((xs (i + 1)))
  refine zA_cVi (c1) calX10_count stX10_count lL_135 dL_law_1296 (by decide) (by simp [Value.category]) rfl hce hsl sh_0 rfl (fun z1 gi1 gl1 gr1 hp1 => ?_)
  obtain ⟨r1, rfl, P2, c2, k2⟩ := k1 _ _ _ _ hp1
  refine zA_aload_2 dL_law_1299 ?_
  refine zA_aload_0 dL_law_1300 ?_
  refine zA_iload_4 dL_law_1301 ?_
  refine zA_iconst (nI 1) dL_law_1303 ic_1 ?_
  refine zA_iaddN dL_law_1304 ?_
  refine zA_sld hS (i + 1) rfl (by omega) hb dL_law_1305 ?_
  refine zA_cVi (c2) calX11_count stX11_count lL_138 dL_law_1306 (by decide) (by simp [Value.category]) rfl hce hsl sh_87 rfl (fun z2 gi2 gl2 gr2 hp2 => ?_)
  obtain ⟨rfl, hI2, r2, rfl⟩ := k2 _ _ _ _ hp2
  exact zA_icmp_eq 1314 dL_law_1309 (by decide) (fun _ => k _ _ _ hI2) (fun h => absurd rfl h)
