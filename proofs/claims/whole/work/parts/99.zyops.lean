/-! the law: each call, both ways -/
theorem slv_less {Y : sl_Y} {X : Option (Nat × (Nat → Int32))} {d kc ks kc' ks' : Nat} {Q : Option Value → sl_M → Prop} {pc : Nat} {lv : List (Option Value)} {st : List Value} {M : sl_M} (h1 : kc' ≤ kc) (h2 : ks' ≤ ks) (h : sl_V Y X d kc' ks' Q pc lv st M) : sl_V Y X d kc ks Q pc lv st M := by
  intro p l e R s m args below meth c H locs cells slots mc ms D dA ad ad0 n n0 A d0 ls hC
  obtain ⟨c1, ⟨e1, e2, e3, e4, e5, e6⟩, c3⟩ := hC
  have z := h p l e R s m args below meth c H locs (cells + (kc - kc')) (slots + (ks - ks')) mc ms D dA ad ad0 n n0 A d0 ls ⟨c1, ⟨e1, e2, by omega, by omega, e5, e6⟩, c3⟩
  intro T hT hSt
  exact z T hT { hSt with same := hSt.same.mono (by omega) (by omega) }
section LWO
variable {L : Nat} {xs : Nat → Int32} {kc ks i : Nat} {Q : Option Value → sl_M → Prop} {M : sl_M} {z5 z6 : Option Value}
theorem slv_sldN {Y : sl_Y} {X : Option (Nat × (Nat → Int32))} {d pc q j : Nat} {lv : List (Option Value)} {st : List Value} (h : sl_D Y pc .iaload 1 q) (hX : X = some (L, xs)) (hj : j < L) (hL : L < 2147483648) (kk : sl_V Y X d kc ks Q q lv (.int (xs j) :: st) M) : sl_V Y X d kc ks Q pc lv (.int (nI j) :: .ref (sl_X + 500) :: st) M := slv_sld h hX (vp_in_nI hj (by omega)) (by rw [nI_clamp (by omega)]; exact kk)
set_option maxRecDepth 100000 in
theorem lo_feed (hI : lwI M) (hi : i + 6 ≤ L) (hL : L ≤ 3072) (fin : ∀ M', lwI M' → sl_V YL_law (some (L, xs)) 70 kc ks Q 1115 [some (.ref (sl_X + 500)), some (.ref 0), some (.ref 68), some (.ref 113), some (.int (nI i)), z5, z6] [] M') : sl_V YL_law (some (L, xs)) 70 kc ks Q 196 [some (.ref (sl_X + 500)), some (.ref 0), some (.ref 68), some (.ref 113), some (.int (nI i)), z5, z6] [] M := by
  refine slv_aload_n eL_law_196 rfl ?_
  refine slv_aload_n eL_law_197 rfl ?_
  refine slv_iload eL_law_198 rfl ?_
  refine slv_iconst (v := nI 1) eL_law_200 (by decide) ?_
  refine slv_iaddN eL_law_201 ?_
  refine slv_sldN eL_law_202 rfl (by omega) (by omega) ?_
  refine slv_aload_n eL_law_203 rfl ?_
  refine slv_iload eL_law_204 rfl ?_
  refine slv_iconst (v := nI 2) eL_law_206 (by decide) ?_
  refine slv_iaddN eL_law_207 ?_
  refine slv_sldN eL_law_208 rfl (by omega) (by omega) ?_
  refine slv_aload_n eL_law_209 rfl ?_
  refine slv_iload eL_law_210 rfl ?_
  refine slv_iconst (v := nI 3) eL_law_212 (by decide) ?_
  refine slv_iaddN eL_law_213 ?_
  refine slv_sldN eL_law_214 rfl (by omega) (by omega) ?_
  refine slv_aload_n eL_law_215 rfl ?_
  refine slv_iload eL_law_216 rfl ?_
  refine slv_iconst (v := nI 4) eL_law_218 (by decide) ?_
  refine slv_iaddN eL_law_219 ?_
  refine slv_sldN eL_law_220 rfl (by omega) (by omega) ?_
  refine slv_aload_n eL_law_221 rfl ?_
  refine slv_iload eL_law_222 rfl ?_
  refine slv_iconst (v := nI 5) eL_law_224 (by decide) ?_
  refine slv_iaddN eL_law_225 ?_
  refine slv_sldN eL_law_226 rfl (by omega) (by omega) ?_
  obtain ⟨C, v, w, a, nm, hA, hS, h113, hK, hR⟩ := hI
  obtain ⟨P1, hT1, hr1⟩ := ag_feed  hA hS h113 hK hR (xs (i + 1)) (xs (i + 2)) (xs (i + 3)) (xs (i + 4)) (xs (i + 5))
  refine slv_callV (As := [_, _, _, _, _]) eL_law_227 lL_19 rfl rfl hA.1 rfl hT1 (by decide) (Nat.le_of_ble_eq_true rfl) (Nat.zero_add _).symm (Nat.zero_add _).symm (Or.inl rfl) ?_
  intro r1 M1 hP1
  obtain ⟨x, rfl, ⟨fs, h68⟩, P2, hT2, hr2⟩ := hr1 r1 M1 hP1
  refine slv_aload_n eL_law_230 rfl ?_
  refine slv_aload_n eL_law_231 rfl ?_
  refine slv_iload eL_law_232 rfl ?_
  refine slv_iconst (v := nI 1) eL_law_234 (by decide) ?_
  refine slv_iaddN eL_law_235 ?_
  refine slv_sldN eL_law_236 rfl (by omega) (by omega) ?_
  refine slv_aload_n eL_law_237 rfl ?_
  refine slv_iload eL_law_238 rfl ?_
  refine slv_iconst (v := nI 2) eL_law_240 (by decide) ?_
  refine slv_iaddN eL_law_241 ?_
  refine slv_sldN eL_law_242 rfl (by omega) (by omega) ?_
  refine slv_aload_n eL_law_243 rfl ?_
  refine slv_iload eL_law_244 rfl ?_
  refine slv_iconst (v := nI 3) eL_law_246 (by decide) ?_
  refine slv_iaddN eL_law_247 ?_
  refine slv_sldN eL_law_248 rfl (by omega) (by omega) ?_
  refine slv_aload_n eL_law_249 rfl ?_
  refine slv_iload eL_law_250 rfl ?_
  refine slv_iconst (v := nI 4) eL_law_252 (by decide) ?_
  refine slv_iaddN eL_law_253 ?_
  refine slv_sldN eL_law_254 rfl (by omega) (by omega) ?_
  refine slv_aload_n eL_law_255 rfl ?_
  refine slv_iload eL_law_256 rfl ?_
  refine slv_iconst (v := nI 5) eL_law_258 (by decide) ?_
  refine slv_iaddN eL_law_259 ?_
  refine slv_sldN eL_law_260 rfl (by omega) (by omega) ?_
  refine slv_callV (As := [_, _, _, _, _]) eL_law_261 lL_23 rfl rfl h68 rfl hT2 (by decide) (Nat.le_of_ble_eq_true rfl) (Nat.zero_add _).symm (Nat.zero_add _).symm (Or.inl rfl) ?_
  intro r2 M2 hP2
  obtain ⟨rfl, hI2⟩ := hr2 r2 M2 hP2
  refine slv_icmp_eq eL_law_264 (fun _ => ?_) (fun h => absurd rfl h)
  exact fin M2 hI2
set_option maxRecDepth 100000 in
theorem lo_grammar (hSS : st_all) (hI : lwI M) (hi : i + 6 ≤ L) (hL : L ≤ 3072) (fin : ∀ M', lwI M' → sl_V YL_law (some (L, xs)) 70 kc ks Q 1115 [some (.ref (sl_X + 500)), some (.ref 0), some (.ref 68), some (.ref 113), some (.int (nI i)), z5, z6] [] M') : sl_V YL_law (some (L, xs)) 70 kc ks Q 269 [some (.ref (sl_X + 500)), some (.ref 0), some (.ref 68), some (.ref 113), some (.int (nI i)), z5, z6] [] M := by
  refine slv_aload_n eL_law_269 rfl ?_
  refine slv_aload_n eL_law_270 rfl ?_
  refine slv_iload eL_law_271 rfl ?_
  refine slv_iconst (v := nI 1) eL_law_273 (by decide) ?_
  refine slv_iaddN eL_law_274 ?_
  refine slv_sldN eL_law_275 rfl (by omega) (by omega) ?_
  obtain ⟨C, v, w, a, nm, hA, hS, h113, hK, hR⟩ := hI
  obtain ⟨P1, hT1, hr1⟩ := ag_grammar hSS hA hS h113 hK hR (xs (i + 1))
  refine slv_callV (As := [_]) eL_law_276 lL_24 rfl rfl hA.1 rfl hT1 (by decide) (Nat.le_of_ble_eq_true rfl) (Nat.zero_add _).symm (Nat.zero_add _).symm (Or.inl rfl) ?_
  intro r1 M1 hP1
  obtain ⟨x, rfl, ⟨fs, h68⟩, P2, hT2, hr2⟩ := hr1 r1 M1 hP1
  refine slv_aload_n eL_law_279 rfl ?_
  refine slv_aload_n eL_law_280 rfl ?_
  refine slv_iload eL_law_281 rfl ?_
  refine slv_iconst (v := nI 1) eL_law_283 (by decide) ?_
  refine slv_iaddN eL_law_284 ?_
  refine slv_sldN eL_law_285 rfl (by omega) (by omega) ?_
  refine slv_callV (As := [_]) eL_law_286 lL_27 rfl rfl h68 rfl hT2 (by decide) (Nat.le_of_ble_eq_true rfl) (Nat.zero_add _).symm (Nat.zero_add _).symm (Or.inl rfl) ?_
  intro r2 M2 hP2
  obtain ⟨rfl, hI2⟩ := hr2 r2 M2 hP2
  refine slv_icmp_eq eL_law_289 (fun _ => ?_) (fun h => absurd rfl h)
  exact fin M2 hI2
set_option maxRecDepth 100000 in
theorem lo_fault (hI : lwI M) (hi : i + 6 ≤ L) (hL : L ≤ 3072) (fin : ∀ M', lwI M' → sl_V YL_law (some (L, xs)) 70 kc ks Q 1115 [some (.ref (sl_X + 500)), some (.ref 0), some (.ref 68), some (.ref 113), some (.int (nI i)), z5, z6] [] M') : sl_V YL_law (some (L, xs)) 70 kc ks Q 294 [some (.ref (sl_X + 500)), some (.ref 0), some (.ref 68), some (.ref 113), some (.int (nI i)), z5, z6] [] M := by
  refine slv_aload_n eL_law_294 rfl ?_
  obtain ⟨C, v, w, a, nm, hA, hS, h113, hK, hR⟩ := hI
  obtain ⟨P1, hT1, hr1⟩ := ag_fault  hA hS h113 hK hR 
  refine slv_callV (As := []) eL_law_295 lL_28 rfl rfl hA.1 rfl hT1 (by decide) (Nat.le_of_ble_eq_true rfl) (Nat.zero_add _).symm (Nat.zero_add _).symm (Or.inl rfl) ?_
  intro r1 M1 hP1
  obtain ⟨x, rfl, ⟨fs, h68⟩, P2, hT2, hr2⟩ := hr1 r1 M1 hP1
  refine slv_aload_n eL_law_298 rfl ?_
  refine slv_callV (As := []) eL_law_299 lL_32 rfl rfl h68 rfl hT2 (by decide) (Nat.le_of_ble_eq_true rfl) (Nat.zero_add _).symm (Nat.zero_add _).symm (Or.inl rfl) ?_
  intro r2 M2 hP2
  obtain ⟨rfl, hI2⟩ := hr2 r2 M2 hP2
  refine slv_icmp_eq eL_law_302 (fun _ => ?_) (fun h => absurd rfl h)
  exact fin M2 hI2
set_option maxRecDepth 100000 in
theorem lo_where (hI : lwI M) (hi : i + 6 ≤ L) (hL : L ≤ 3072) (fin : ∀ M', lwI M' → sl_V YL_law (some (L, xs)) 70 kc ks Q 1115 [some (.ref (sl_X + 500)), some (.ref 0), some (.ref 68), some (.ref 113), some (.int (nI i)), z5, z6] [] M') : sl_V YL_law (some (L, xs)) 70 kc ks Q 307 [some (.ref (sl_X + 500)), some (.ref 0), some (.ref 68), some (.ref 113), some (.int (nI i)), z5, z6] [] M := by
  refine slv_aload_n eL_law_307 rfl ?_
  obtain ⟨C, v, w, a, nm, hA, hS, h113, hK, hR⟩ := hI
  obtain ⟨P1, hT1, hr1⟩ := ag_where  hA hS h113 hK hR 
  refine slv_callV (As := []) eL_law_308 lL_33 rfl rfl hA.1 rfl hT1 (by decide) (Nat.le_of_ble_eq_true rfl) (Nat.zero_add _).symm (Nat.zero_add _).symm (Or.inl rfl) ?_
  intro r1 M1 hP1
  obtain ⟨x, rfl, ⟨fs, h68⟩, P2, hT2, hr2⟩ := hr1 r1 M1 hP1
  refine slv_aload_n eL_law_311 rfl ?_
  refine slv_callV (As := []) eL_law_312 lL_36 rfl rfl h68 rfl hT2 (by decide) (Nat.le_of_ble_eq_true rfl) (Nat.zero_add _).symm (Nat.zero_add _).symm (Or.inl rfl) ?_
  intro r2 M2 hP2
  obtain ⟨rfl, hI2⟩ := hr2 r2 M2 hP2
  refine slv_icmp_eq eL_law_315 (fun _ => ?_) (fun h => absurd rfl h)
  exact fin M2 hI2
set_option maxRecDepth 100000 in
theorem lo_about (hI : lwI M) (hi : i + 6 ≤ L) (hL : L ≤ 3072) (fin : ∀ M', lwI M' → sl_V YL_law (some (L, xs)) 70 kc ks Q 1115 [some (.ref (sl_X + 500)), some (.ref 0), some (.ref 68), some (.ref 113), some (.int (nI i)), z5, z6] [] M') : sl_V YL_law (some (L, xs)) 70 kc ks Q 320 [some (.ref (sl_X + 500)), some (.ref 0), some (.ref 68), some (.ref 113), some (.int (nI i)), z5, z6] [] M := by
  refine slv_aload_n eL_law_320 rfl ?_
  refine slv_aload_n eL_law_321 rfl ?_
  refine slv_iload eL_law_322 rfl ?_
  refine slv_iconst (v := nI 1) eL_law_324 (by decide) ?_
  refine slv_iaddN eL_law_325 ?_
  refine slv_sldN eL_law_326 rfl (by omega) (by omega) ?_
  obtain ⟨C, v, w, a, nm, hA, hS, h113, hK, hR⟩ := hI
  obtain ⟨P1, hT1, hr1⟩ := ag_about  hA hS h113 hK hR (xs (i + 1))
  refine slv_callV (As := [_]) eL_law_327 lL_37 rfl rfl hA.1 rfl hT1 (by decide) (Nat.le_of_ble_eq_true rfl) (Nat.zero_add _).symm (Nat.zero_add _).symm (Or.inl rfl) ?_
  intro r1 M1 hP1
  obtain ⟨x, rfl, ⟨fs, h68⟩, P2, hT2, hr2⟩ := hr1 r1 M1 hP1
  refine slv_aload_n eL_law_330 rfl ?_
  refine slv_aload_n eL_law_331 rfl ?_
  refine slv_iload eL_law_332 rfl ?_
  refine slv_iconst (v := nI 1) eL_law_334 (by decide) ?_
  refine slv_iaddN eL_law_335 ?_
  refine slv_sldN eL_law_336 rfl (by omega) (by omega) ?_
  refine slv_callV (As := [_]) eL_law_337 lL_40 rfl rfl h68 rfl hT2 (by decide) (Nat.le_of_ble_eq_true rfl) (Nat.zero_add _).symm (Nat.zero_add _).symm (Or.inl rfl) ?_
  intro r2 M2 hP2
  obtain ⟨rfl, hI2⟩ := hr2 r2 M2 hP2
  refine slv_icmp_eq eL_law_340 (fun _ => ?_) (fun h => absurd rfl h)
  exact fin M2 hI2
set_option maxRecDepth 100000 in
theorem lo_rule (hI : lwI M) (hi : i + 6 ≤ L) (hL : L ≤ 3072) (fin : ∀ M', lwI M' → sl_V YL_law (some (L, xs)) 70 kc ks Q 1115 [some (.ref (sl_X + 500)), some (.ref 0), some (.ref 68), some (.ref 113), some (.int (nI i)), z5, z6] [] M') : sl_V YL_law (some (L, xs)) 70 kc ks Q 345 [some (.ref (sl_X + 500)), some (.ref 0), some (.ref 68), some (.ref 113), some (.int (nI i)), z5, z6] [] M := by
  refine slv_aload_n eL_law_345 rfl ?_
  refine slv_aload_n eL_law_346 rfl ?_
  refine slv_iload eL_law_347 rfl ?_
  refine slv_iconst (v := nI 1) eL_law_349 (by decide) ?_
  refine slv_iaddN eL_law_350 ?_
  refine slv_sldN eL_law_351 rfl (by omega) (by omega) ?_
  refine slv_aload_n eL_law_352 rfl ?_
  refine slv_iload eL_law_353 rfl ?_
  refine slv_iconst (v := nI 2) eL_law_355 (by decide) ?_
  refine slv_iaddN eL_law_356 ?_
  refine slv_sldN eL_law_357 rfl (by omega) (by omega) ?_
  obtain ⟨C, v, w, a, nm, hA, hS, h113, hK, hR⟩ := hI
  obtain ⟨P1, hT1, hr1⟩ := ag_rule  hA hS h113 hK hR (xs (i + 1)) (xs (i + 2))
  refine slv_callV (As := [_, _]) eL_law_358 lL_41 rfl rfl hA.1 rfl hT1 (by decide) (Nat.le_of_ble_eq_true rfl) (Nat.zero_add _).symm (Nat.zero_add _).symm (Or.inl rfl) ?_
  intro r1 M1 hP1
  obtain ⟨x, rfl, ⟨fs, h68⟩, P2, hT2, hr2⟩ := hr1 r1 M1 hP1
  refine slv_aload_n eL_law_361 rfl ?_
  refine slv_aload_n eL_law_362 rfl ?_
  refine slv_iload eL_law_363 rfl ?_
  refine slv_iconst (v := nI 1) eL_law_365 (by decide) ?_
  refine slv_iaddN eL_law_366 ?_
  refine slv_sldN eL_law_367 rfl (by omega) (by omega) ?_
  refine slv_aload_n eL_law_368 rfl ?_
  refine slv_iload eL_law_369 rfl ?_
  refine slv_iconst (v := nI 2) eL_law_371 (by decide) ?_
  refine slv_iaddN eL_law_372 ?_
  refine slv_sldN eL_law_373 rfl (by omega) (by omega) ?_
  refine slv_callV (As := [_, _]) eL_law_374 lL_45 rfl rfl h68 rfl hT2 (by decide) (Nat.le_of_ble_eq_true rfl) (Nat.zero_add _).symm (Nat.zero_add _).symm (Or.inl rfl) ?_
  intro r2 M2 hP2
  obtain ⟨rfl, hI2⟩ := hr2 r2 M2 hP2
  refine slv_icmp_eq eL_law_377 (fun _ => ?_) (fun h => absurd rfl h)
  exact fin M2 hI2
set_option maxRecDepth 100000 in
theorem lo_item (hI : lwI M) (hi : i + 6 ≤ L) (hL : L ≤ 3072) (fin : ∀ M', lwI M' → sl_V YL_law (some (L, xs)) 70 kc ks Q 1115 [some (.ref (sl_X + 500)), some (.ref 0), some (.ref 68), some (.ref 113), some (.int (nI i)), z5, z6] [] M') : sl_V YL_law (some (L, xs)) 70 kc ks Q 382 [some (.ref (sl_X + 500)), some (.ref 0), some (.ref 68), some (.ref 113), some (.int (nI i)), z5, z6] [] M := by
  refine slv_aload_n eL_law_382 rfl ?_
  refine slv_aload_n eL_law_383 rfl ?_
  refine slv_iload eL_law_384 rfl ?_
  refine slv_iconst (v := nI 1) eL_law_386 (by decide) ?_
  refine slv_iaddN eL_law_387 ?_
  refine slv_sldN eL_law_388 rfl (by omega) (by omega) ?_
  refine slv_aload_n eL_law_389 rfl ?_
  refine slv_iload eL_law_390 rfl ?_
  refine slv_iconst (v := nI 2) eL_law_392 (by decide) ?_
  refine slv_iaddN eL_law_393 ?_
  refine slv_sldN eL_law_394 rfl (by omega) (by omega) ?_
  obtain ⟨C, v, w, a, nm, hA, hS, h113, hK, hR⟩ := hI
  obtain ⟨P1, hT1, hr1⟩ := ag_item  hA hS h113 hK hR (xs (i + 1)) (xs (i + 2))
  refine slv_callV (As := [_, _]) eL_law_395 lL_46 rfl rfl hA.1 rfl hT1 (by decide) (Nat.le_of_ble_eq_true rfl) (Nat.zero_add _).symm (Nat.zero_add _).symm (Or.inl rfl) ?_
  intro r1 M1 hP1
  obtain ⟨x, rfl, ⟨fs, h68⟩, P2, hT2, hr2⟩ := hr1 r1 M1 hP1
  refine slv_aload_n eL_law_398 rfl ?_
  refine slv_aload_n eL_law_399 rfl ?_
  refine slv_iload eL_law_400 rfl ?_
  refine slv_iconst (v := nI 1) eL_law_402 (by decide) ?_
  refine slv_iaddN eL_law_403 ?_
  refine slv_sldN eL_law_404 rfl (by omega) (by omega) ?_
  refine slv_aload_n eL_law_405 rfl ?_
  refine slv_iload eL_law_406 rfl ?_
  refine slv_iconst (v := nI 2) eL_law_408 (by decide) ?_
  refine slv_iaddN eL_law_409 ?_
  refine slv_sldN eL_law_410 rfl (by omega) (by omega) ?_
  refine slv_callV (As := [_, _]) eL_law_411 lL_49 rfl rfl h68 rfl hT2 (by decide) (Nat.le_of_ble_eq_true rfl) (Nat.zero_add _).symm (Nat.zero_add _).symm (Or.inl rfl) ?_
  intro r2 M2 hP2
  obtain ⟨rfl, hI2⟩ := hr2 r2 M2 hP2
  refine slv_icmp_eq eL_law_414 (fun _ => ?_) (fun h => absurd rfl h)
  exact fin M2 hI2
set_option maxRecDepth 100000 in
theorem lo_sign (hI : lwI M) (hi : i + 6 ≤ L) (hL : L ≤ 3072) (fin : ∀ M', lwI M' → sl_V YL_law (some (L, xs)) 70 kc ks Q 1115 [some (.ref (sl_X + 500)), some (.ref 0), some (.ref 68), some (.ref 113), some (.int (nI i)), z5, z6] [] M') : sl_V YL_law (some (L, xs)) 70 kc ks Q 419 [some (.ref (sl_X + 500)), some (.ref 0), some (.ref 68), some (.ref 113), some (.int (nI i)), z5, z6] [] M := by
  refine slv_aload_n eL_law_419 rfl ?_
  refine slv_aload_n eL_law_420 rfl ?_
  refine slv_iload eL_law_421 rfl ?_
  refine slv_iconst (v := nI 1) eL_law_423 (by decide) ?_
  refine slv_iaddN eL_law_424 ?_
  refine slv_sldN eL_law_425 rfl (by omega) (by omega) ?_
  obtain ⟨C, v, w, a, nm, hA, hS, h113, hK, hR⟩ := hI
  obtain ⟨P1, hT1, hr1⟩ := ag_sign  hA hS h113 hK hR (xs (i + 1))
  refine slv_callV (As := [_]) eL_law_426 lL_50 rfl rfl hA.1 rfl hT1 (by decide) (Nat.le_of_ble_eq_true rfl) (Nat.zero_add _).symm (Nat.zero_add _).symm (Or.inl rfl) ?_
  intro r1 M1 hP1
  obtain ⟨x, rfl, ⟨fs, h68⟩, P2, hT2, hr2⟩ := hr1 r1 M1 hP1
  refine slv_aload_n eL_law_429 rfl ?_
  refine slv_aload_n eL_law_430 rfl ?_
  refine slv_iload eL_law_431 rfl ?_
  refine slv_iconst (v := nI 1) eL_law_433 (by decide) ?_
  refine slv_iaddN eL_law_434 ?_
  refine slv_sldN eL_law_435 rfl (by omega) (by omega) ?_
  refine slv_callV (As := [_]) eL_law_436 lL_53 rfl rfl h68 rfl hT2 (by decide) (Nat.le_of_ble_eq_true rfl) (Nat.zero_add _).symm (Nat.zero_add _).symm (Or.inl rfl) ?_
  intro r2 M2 hP2
  obtain ⟨rfl, hI2⟩ := hr2 r2 M2 hP2
  refine slv_icmp_eq eL_law_439 (fun _ => ?_) (fun h => absurd rfl h)
  exact fin M2 hI2
set_option maxRecDepth 100000 in
theorem lo_edge (hI : lwI M) (hi : i + 6 ≤ L) (hL : L ≤ 3072) (fin : ∀ M', lwI M' → sl_V YL_law (some (L, xs)) 70 kc ks Q 1115 [some (.ref (sl_X + 500)), some (.ref 0), some (.ref 68), some (.ref 113), some (.int (nI i)), z5, z6] [] M') : sl_V YL_law (some (L, xs)) 70 kc ks Q 444 [some (.ref (sl_X + 500)), some (.ref 0), some (.ref 68), some (.ref 113), some (.int (nI i)), z5, z6] [] M := by
  refine slv_aload_n eL_law_444 rfl ?_
  refine slv_aload_n eL_law_445 rfl ?_
  refine slv_iload eL_law_446 rfl ?_
  refine slv_iconst (v := nI 1) eL_law_448 (by decide) ?_
  refine slv_iaddN eL_law_449 ?_
  refine slv_sldN eL_law_450 rfl (by omega) (by omega) ?_
  refine slv_aload_n eL_law_451 rfl ?_
  refine slv_iload eL_law_452 rfl ?_
  refine slv_iconst (v := nI 2) eL_law_454 (by decide) ?_
  refine slv_iaddN eL_law_455 ?_
  refine slv_sldN eL_law_456 rfl (by omega) (by omega) ?_
  obtain ⟨C, v, w, a, nm, hA, hS, h113, hK, hR⟩ := hI
  obtain ⟨P1, hT1, hr1⟩ := ag_edge  hA hS h113 hK hR (xs (i + 1)) (xs (i + 2))
  refine slv_callV (As := [_, _]) eL_law_457 lL_54 rfl rfl hA.1 rfl hT1 (by decide) (Nat.le_of_ble_eq_true rfl) (Nat.zero_add _).symm (Nat.zero_add _).symm (Or.inl rfl) ?_
  intro r1 M1 hP1
  obtain ⟨x, rfl, ⟨fs, h68⟩, P2, hT2, hr2⟩ := hr1 r1 M1 hP1
  refine slv_aload_n eL_law_460 rfl ?_
  refine slv_aload_n eL_law_461 rfl ?_
  refine slv_iload eL_law_462 rfl ?_
  refine slv_iconst (v := nI 1) eL_law_464 (by decide) ?_
  refine slv_iaddN eL_law_465 ?_
  refine slv_sldN eL_law_466 rfl (by omega) (by omega) ?_
  refine slv_aload_n eL_law_467 rfl ?_
  refine slv_iload eL_law_468 rfl ?_
  refine slv_iconst (v := nI 2) eL_law_470 (by decide) ?_
  refine slv_iaddN eL_law_471 ?_
  refine slv_sldN eL_law_472 rfl (by omega) (by omega) ?_
  refine slv_callV (As := [_, _]) eL_law_473 lL_57 rfl rfl h68 rfl hT2 (by decide) (Nat.le_of_ble_eq_true rfl) (Nat.zero_add _).symm (Nat.zero_add _).symm (Or.inl rfl) ?_
  intro r2 M2 hP2
  obtain ⟨rfl, hI2⟩ := hr2 r2 M2 hP2
  refine slv_icmp_eq eL_law_476 (fun _ => ?_) (fun h => absurd rfl h)
  exact fin M2 hI2
set_option maxRecDepth 100000 in
theorem lo_relation (hI : lwI M) (hi : i + 6 ≤ L) (hL : L ≤ 3072) (fin : ∀ M', lwI M' → sl_V YL_law (some (L, xs)) 70 kc ks Q 1115 [some (.ref (sl_X + 500)), some (.ref 0), some (.ref 68), some (.ref 113), some (.int (nI i)), z5, z6] [] M') : sl_V YL_law (some (L, xs)) 70 kc ks Q 481 [some (.ref (sl_X + 500)), some (.ref 0), some (.ref 68), some (.ref 113), some (.int (nI i)), z5, z6] [] M := by
  refine slv_aload_n eL_law_481 rfl ?_
  refine slv_aload_n eL_law_482 rfl ?_
  refine slv_iload eL_law_483 rfl ?_
  refine slv_iconst (v := nI 1) eL_law_485 (by decide) ?_
  refine slv_iaddN eL_law_486 ?_
  refine slv_sldN eL_law_487 rfl (by omega) (by omega) ?_
  refine slv_aload_n eL_law_488 rfl ?_
  refine slv_iload eL_law_489 rfl ?_
  refine slv_iconst (v := nI 2) eL_law_491 (by decide) ?_
  refine slv_iaddN eL_law_492 ?_
  refine slv_sldN eL_law_493 rfl (by omega) (by omega) ?_
  obtain ⟨C, v, w, a, nm, hA, hS, h113, hK, hR⟩ := hI
  obtain ⟨P1, hT1, hr1⟩ := ag_relation  hA hS h113 hK hR (xs (i + 1)) (xs (i + 2))
  refine slv_callV (As := [_, _]) eL_law_494 lL_58 rfl rfl hA.1 rfl hT1 (by decide) (Nat.le_of_ble_eq_true rfl) (Nat.zero_add _).symm (Nat.zero_add _).symm (Or.inl rfl) ?_
  intro r1 M1 hP1
  obtain ⟨x, rfl, ⟨fs, h68⟩, P2, hT2, hr2⟩ := hr1 r1 M1 hP1
  refine slv_aload_n eL_law_497 rfl ?_
  refine slv_aload_n eL_law_498 rfl ?_
  refine slv_iload eL_law_499 rfl ?_
  refine slv_iconst (v := nI 1) eL_law_501 (by decide) ?_
  refine slv_iaddN eL_law_502 ?_
  refine slv_sldN eL_law_503 rfl (by omega) (by omega) ?_
  refine slv_aload_n eL_law_504 rfl ?_
  refine slv_iload eL_law_505 rfl ?_
  refine slv_iconst (v := nI 2) eL_law_507 (by decide) ?_
  refine slv_iaddN eL_law_508 ?_
  refine slv_sldN eL_law_509 rfl (by omega) (by omega) ?_
  refine slv_callV (As := [_, _]) eL_law_510 lL_61 rfl rfl h68 rfl hT2 (by decide) (Nat.le_of_ble_eq_true rfl) (Nat.zero_add _).symm (Nat.zero_add _).symm (Or.inl rfl) ?_
  intro r2 M2 hP2
  obtain ⟨rfl, hI2⟩ := hr2 r2 M2 hP2
  refine slv_icmp_eq eL_law_513 (fun _ => ?_) (fun h => absurd rfl h)
  exact fin M2 hI2
set_option maxRecDepth 100000 in
theorem lo_related (hI : lwI M) (hi : i + 6 ≤ L) (hL : L ≤ 3072) (fin : ∀ M', lwI M' → sl_V YL_law (some (L, xs)) 70 kc ks Q 1115 [some (.ref (sl_X + 500)), some (.ref 0), some (.ref 68), some (.ref 113), some (.int (nI i)), z5, z6] [] M') : sl_V YL_law (some (L, xs)) 70 kc ks Q 518 [some (.ref (sl_X + 500)), some (.ref 0), some (.ref 68), some (.ref 113), some (.int (nI i)), z5, z6] [] M := by
  refine slv_aload_n eL_law_518 rfl ?_
  refine slv_aload_n eL_law_519 rfl ?_
  refine slv_iload eL_law_520 rfl ?_
  refine slv_iconst (v := nI 1) eL_law_522 (by decide) ?_
  refine slv_iaddN eL_law_523 ?_
  refine slv_sldN eL_law_524 rfl (by omega) (by omega) ?_
  obtain ⟨C, v, w, a, nm, hA, hS, h113, hK, hR⟩ := hI
  obtain ⟨P1, hT1, hr1⟩ := ag_related  hA hS h113 hK hR (xs (i + 1))
  refine slv_callV (As := [_]) eL_law_525 lL_62 rfl rfl hA.1 rfl hT1 (by decide) (Nat.le_of_ble_eq_true rfl) (Nat.zero_add _).symm (Nat.zero_add _).symm (Or.inl rfl) ?_
  intro r1 M1 hP1
  obtain ⟨x, rfl, ⟨fs, h68⟩, P2, hT2, hr2⟩ := hr1 r1 M1 hP1
  refine slv_aload_n eL_law_528 rfl ?_
  refine slv_aload_n eL_law_529 rfl ?_
  refine slv_iload eL_law_530 rfl ?_
  refine slv_iconst (v := nI 1) eL_law_532 (by decide) ?_
  refine slv_iaddN eL_law_533 ?_
  refine slv_sldN eL_law_534 rfl (by omega) (by omega) ?_
  refine slv_callV (As := [_]) eL_law_535 lL_65 rfl rfl h68 rfl hT2 (by decide) (Nat.le_of_ble_eq_true rfl) (Nat.zero_add _).symm (Nat.zero_add _).symm (Or.inl rfl) ?_
  intro r2 M2 hP2
  obtain ⟨rfl, hI2⟩ := hr2 r2 M2 hP2
  refine slv_icmp_eq eL_law_538 (fun _ => ?_) (fun h => absurd rfl h)
  exact fin M2 hI2
set_option maxRecDepth 100000 in
theorem lo_clashes (hI : lwI M) (hi : i + 6 ≤ L) (hL : L ≤ 3072) (fin : ∀ M', lwI M' → sl_V YL_law (some (L, xs)) 70 kc ks Q 1115 [some (.ref (sl_X + 500)), some (.ref 0), some (.ref 68), some (.ref 113), some (.int (nI i)), z5, z6] [] M') : sl_V YL_law (some (L, xs)) 70 kc ks Q 543 [some (.ref (sl_X + 500)), some (.ref 0), some (.ref 68), some (.ref 113), some (.int (nI i)), z5, z6] [] M := by
  refine slv_aload_n eL_law_543 rfl ?_
  obtain ⟨C, v, w, a, nm, hA, hS, h113, hK, hR⟩ := hI
  obtain ⟨P1, hT1, hr1⟩ := ag_clashes  hA hS h113 hK hR 
  refine slv_callV (As := []) eL_law_544 lL_66 rfl rfl hA.1 rfl hT1 (by decide) (Nat.le_of_ble_eq_true rfl) (Nat.zero_add _).symm (Nat.zero_add _).symm (Or.inl rfl) ?_
  intro r1 M1 hP1
  obtain ⟨x, rfl, ⟨fs, h68⟩, P2, hT2, hr2⟩ := hr1 r1 M1 hP1
  refine slv_aload_n eL_law_547 rfl ?_
  refine slv_callV (As := []) eL_law_548 lL_69 rfl rfl h68 rfl hT2 (by decide) (Nat.le_of_ble_eq_true rfl) (Nat.zero_add _).symm (Nat.zero_add _).symm (Or.inl rfl) ?_
  intro r2 M2 hP2
  obtain ⟨rfl, hI2⟩ := hr2 r2 M2 hP2
  refine slv_icmp_eq eL_law_551 (fun _ => ?_) (fun h => absurd rfl h)
  exact fin M2 hI2
set_option maxRecDepth 100000 in
theorem lo_clash (hI : lwI M) (hi : i + 6 ≤ L) (hL : L ≤ 3072) (fin : ∀ M', lwI M' → sl_V YL_law (some (L, xs)) 70 kc ks Q 1115 [some (.ref (sl_X + 500)), some (.ref 0), some (.ref 68), some (.ref 113), some (.int (nI i)), z5, z6] [] M') : sl_V YL_law (some (L, xs)) 70 kc ks Q 556 [some (.ref (sl_X + 500)), some (.ref 0), some (.ref 68), some (.ref 113), some (.int (nI i)), z5, z6] [] M := by
  refine slv_aload_n eL_law_556 rfl ?_
  refine slv_aload_n eL_law_557 rfl ?_
  refine slv_iload eL_law_558 rfl ?_
  refine slv_iconst (v := nI 1) eL_law_560 (by decide) ?_
  refine slv_iaddN eL_law_561 ?_
  refine slv_sldN eL_law_562 rfl (by omega) (by omega) ?_
  obtain ⟨C, v, w, a, nm, hA, hS, h113, hK, hR⟩ := hI
  obtain ⟨P1, hT1, hr1⟩ := ag_clash  hA hS h113 hK hR (xs (i + 1))
  refine slv_callV (As := [_]) eL_law_563 lL_70 rfl rfl hA.1 rfl hT1 (by decide) (Nat.le_of_ble_eq_true rfl) (Nat.zero_add _).symm (Nat.zero_add _).symm (Or.inl rfl) ?_
  intro r1 M1 hP1
  obtain ⟨x, rfl, ⟨fs, h68⟩, P2, hT2, hr2⟩ := hr1 r1 M1 hP1
  refine slv_aload_n eL_law_566 rfl ?_
  refine slv_aload_n eL_law_567 rfl ?_
  refine slv_iload eL_law_568 rfl ?_
  refine slv_iconst (v := nI 1) eL_law_570 (by decide) ?_
  refine slv_iaddN eL_law_571 ?_
  refine slv_sldN eL_law_572 rfl (by omega) (by omega) ?_
  refine slv_callV (As := [_]) eL_law_573 lL_73 rfl rfl h68 rfl hT2 (by decide) (Nat.le_of_ble_eq_true rfl) (Nat.zero_add _).symm (Nat.zero_add _).symm (Or.inl rfl) ?_
  intro r2 M2 hP2
  obtain ⟨rfl, hI2⟩ := hr2 r2 M2 hP2
  refine slv_icmp_eq eL_law_576 (fun _ => ?_) (fun h => absurd rfl h)
  exact fin M2 hI2
set_option maxRecDepth 100000 in
theorem lo_doubles (hI : lwI M) (hi : i + 6 ≤ L) (hL : L ≤ 3072) (fin : ∀ M', lwI M' → sl_V YL_law (some (L, xs)) 70 kc ks Q 1115 [some (.ref (sl_X + 500)), some (.ref 0), some (.ref 68), some (.ref 113), some (.int (nI i)), z5, z6] [] M') : sl_V YL_law (some (L, xs)) 70 kc ks Q 581 [some (.ref (sl_X + 500)), some (.ref 0), some (.ref 68), some (.ref 113), some (.int (nI i)), z5, z6] [] M := by
  refine slv_aload_n eL_law_581 rfl ?_
  obtain ⟨C, v, w, a, nm, hA, hS, h113, hK, hR⟩ := hI
  obtain ⟨P1, hT1, hr1⟩ := ag_doubles  hA hS h113 hK hR 
  refine slv_callV (As := []) eL_law_582 lL_74 rfl rfl hA.1 rfl hT1 (by decide) (Nat.le_of_ble_eq_true rfl) (Nat.zero_add _).symm (Nat.zero_add _).symm (Or.inl rfl) ?_
  intro r1 M1 hP1
  obtain ⟨x, rfl, ⟨fs, h68⟩, P2, hT2, hr2⟩ := hr1 r1 M1 hP1
  refine slv_aload_n eL_law_585 rfl ?_
  refine slv_callV (As := []) eL_law_586 lL_77 rfl rfl h68 rfl hT2 (by decide) (Nat.le_of_ble_eq_true rfl) (Nat.zero_add _).symm (Nat.zero_add _).symm (Or.inl rfl) ?_
  intro r2 M2 hP2
  obtain ⟨rfl, hI2⟩ := hr2 r2 M2 hP2
  refine slv_icmp_eq eL_law_589 (fun _ => ?_) (fun h => absurd rfl h)
  exact fin M2 hI2
set_option maxRecDepth 100000 in
theorem lo_function (hI : lwI M) (hi : i + 6 ≤ L) (hL : L ≤ 3072) (fin : ∀ M', lwI M' → sl_V YL_law (some (L, xs)) 70 kc ks Q 1115 [some (.ref (sl_X + 500)), some (.ref 0), some (.ref 68), some (.ref 113), some (.int (nI i)), z5, z6] [] M') : sl_V YL_law (some (L, xs)) 70 kc ks Q 594 [some (.ref (sl_X + 500)), some (.ref 0), some (.ref 68), some (.ref 113), some (.int (nI i)), z5, z6] [] M := by
  refine slv_aload_n eL_law_594 rfl ?_
  refine slv_aload_n eL_law_595 rfl ?_
  refine slv_iload eL_law_596 rfl ?_
  refine slv_iconst (v := nI 1) eL_law_598 (by decide) ?_
  refine slv_iaddN eL_law_599 ?_
  refine slv_sldN eL_law_600 rfl (by omega) (by omega) ?_
  refine slv_aload_n eL_law_601 rfl ?_
  refine slv_iload eL_law_602 rfl ?_
  refine slv_iconst (v := nI 2) eL_law_604 (by decide) ?_
  refine slv_iaddN eL_law_605 ?_
  refine slv_sldN eL_law_606 rfl (by omega) (by omega) ?_
  obtain ⟨C, v, w, a, nm, hA, hS, h113, hK, hR⟩ := hI
  obtain ⟨P1, hT1, hr1⟩ := ag_function  hA hS h113 hK hR (xs (i + 1)) (xs (i + 2))
  refine slv_callV (As := [_, _]) eL_law_607 lL_78 rfl rfl hA.1 rfl hT1 (by decide) (Nat.le_of_ble_eq_true rfl) (Nat.zero_add _).symm (Nat.zero_add _).symm (Or.inl rfl) ?_
  intro r1 M1 hP1
  obtain ⟨x, rfl, ⟨fs, h68⟩, P2, hT2, hr2⟩ := hr1 r1 M1 hP1
  refine slv_aload_n eL_law_610 rfl ?_
  refine slv_aload_n eL_law_611 rfl ?_
  refine slv_iload eL_law_612 rfl ?_
  refine slv_iconst (v := nI 1) eL_law_614 (by decide) ?_
  refine slv_iaddN eL_law_615 ?_
  refine slv_sldN eL_law_616 rfl (by omega) (by omega) ?_
  refine slv_aload_n eL_law_617 rfl ?_
  refine slv_iload eL_law_618 rfl ?_
  refine slv_iconst (v := nI 2) eL_law_620 (by decide) ?_
  refine slv_iaddN eL_law_621 ?_
  refine slv_sldN eL_law_622 rfl (by omega) (by omega) ?_
  refine slv_callV (As := [_, _]) eL_law_623 lL_81 rfl rfl h68 rfl hT2 (by decide) (Nat.le_of_ble_eq_true rfl) (Nat.zero_add _).symm (Nat.zero_add _).symm (Or.inl rfl) ?_
  intro r2 M2 hP2
  obtain ⟨rfl, hI2⟩ := hr2 r2 M2 hP2
  refine slv_icmp_eq eL_law_626 (fun _ => ?_) (fun h => absurd rfl h)
  exact fin M2 hI2
set_option maxRecDepth 100000 in
theorem lo_highest (hI : lwI M) (hi : i + 6 ≤ L) (hL : L ≤ 3072) (fin : ∀ M', lwI M' → sl_V YL_law (some (L, xs)) 70 kc ks Q 1115 [some (.ref (sl_X + 500)), some (.ref 0), some (.ref 68), some (.ref 113), some (.int (nI i)), z5, z6] [] M') : sl_V YL_law (some (L, xs)) 70 kc ks Q 631 [some (.ref (sl_X + 500)), some (.ref 0), some (.ref 68), some (.ref 113), some (.int (nI i)), z5, z6] [] M := by
  refine slv_aload_n eL_law_631 rfl ?_
  obtain ⟨C, v, w, a, nm, hA, hS, h113, hK, hR⟩ := hI
  obtain ⟨P1, hT1, hr1⟩ := ag_highest  hA hS h113 hK hR 
  refine slv_callV (As := []) eL_law_632 lL_82 rfl rfl hA.1 rfl hT1 (by decide) (Nat.le_of_ble_eq_true rfl) (Nat.zero_add _).symm (Nat.zero_add _).symm (Or.inl rfl) ?_
  intro r1 M1 hP1
  obtain ⟨x, rfl, ⟨fs, h68⟩, P2, hT2, hr2⟩ := hr1 r1 M1 hP1
  refine slv_aload_n eL_law_635 rfl ?_
  refine slv_callV (As := []) eL_law_636 lL_85 rfl rfl h68 rfl hT2 (by decide) (Nat.le_of_ble_eq_true rfl) (Nat.zero_add _).symm (Nat.zero_add _).symm (Or.inl rfl) ?_
  intro r2 M2 hP2
  obtain ⟨rfl, hI2⟩ := hr2 r2 M2 hP2
  refine slv_icmp_eq eL_law_639 (fun _ => ?_) (fun h => absurd rfl h)
  exact fin M2 hI2
set_option maxRecDepth 100000 in
theorem lo_hidden (hI : lwI M) (hi : i + 6 ≤ L) (hL : L ≤ 3072) (fin : ∀ M', lwI M' → sl_V YL_law (some (L, xs)) 70 kc ks Q 1115 [some (.ref (sl_X + 500)), some (.ref 0), some (.ref 68), some (.ref 113), some (.int (nI i)), z5, z6] [] M') : sl_V YL_law (some (L, xs)) 70 kc ks Q 644 [some (.ref (sl_X + 500)), some (.ref 0), some (.ref 68), some (.ref 113), some (.int (nI i)), z5, z6] [] M := by
  refine slv_aload_n eL_law_644 rfl ?_
  refine slv_aload_n eL_law_645 rfl ?_
  refine slv_iload eL_law_646 rfl ?_
  refine slv_iconst (v := nI 1) eL_law_648 (by decide) ?_
  refine slv_iaddN eL_law_649 ?_
  refine slv_sldN eL_law_650 rfl (by omega) (by omega) ?_
  obtain ⟨C, v, w, a, nm, hA, hS, h113, hK, hR⟩ := hI
  obtain ⟨P1, hT1, hr1⟩ := ag_hidden  hA hS h113 hK hR (xs (i + 1))
  refine slv_callV (As := [_]) eL_law_651 lL_86 rfl rfl hA.1 rfl hT1 (by decide) (Nat.le_of_ble_eq_true rfl) (Nat.zero_add _).symm (Nat.zero_add _).symm (Or.inl rfl) ?_
  intro r1 M1 hP1
  obtain ⟨x, rfl, ⟨fs, h68⟩, P2, hT2, hr2⟩ := hr1 r1 M1 hP1
  refine slv_aload_n eL_law_654 rfl ?_
  refine slv_aload_n eL_law_655 rfl ?_
  refine slv_iload eL_law_656 rfl ?_
  refine slv_iconst (v := nI 1) eL_law_658 (by decide) ?_
  refine slv_iaddN eL_law_659 ?_
  refine slv_sldN eL_law_660 rfl (by omega) (by omega) ?_
  refine slv_callV (As := [_]) eL_law_661 lL_89 rfl rfl h68 rfl hT2 (by decide) (Nat.le_of_ble_eq_true rfl) (Nat.zero_add _).symm (Nat.zero_add _).symm (Or.inl rfl) ?_
  intro r2 M2 hP2
  obtain ⟨rfl, hI2⟩ := hr2 r2 M2 hP2
  refine slv_icmp_eq eL_law_664 (fun _ => ?_) (fun h => absurd rfl h)
  exact fin M2 hI2
set_option maxRecDepth 100000 in
theorem lo_knotted (hI : lwI M) (hi : i + 6 ≤ L) (hL : L ≤ 3072) (fin : ∀ M', lwI M' → sl_V YL_law (some (L, xs)) 70 kc ks Q 1115 [some (.ref (sl_X + 500)), some (.ref 0), some (.ref 68), some (.ref 113), some (.int (nI i)), z5, z6] [] M') : sl_V YL_law (some (L, xs)) 70 kc ks Q 669 [some (.ref (sl_X + 500)), some (.ref 0), some (.ref 68), some (.ref 113), some (.int (nI i)), z5, z6] [] M := by
  refine slv_aload_n eL_law_669 rfl ?_
  obtain ⟨C, v, w, a, nm, hA, hS, h113, hK, hR⟩ := hI
  obtain ⟨P1, hT1, hr1⟩ := ag_knotted  hA hS h113 hK hR 
  refine slv_callV (As := []) eL_law_670 lL_90 rfl rfl hA.1 rfl hT1 (by decide) (Nat.le_of_ble_eq_true rfl) (Nat.zero_add _).symm (Nat.zero_add _).symm (Or.inl rfl) ?_
  intro r1 M1 hP1
  obtain ⟨x, rfl, ⟨fs, h68⟩, P2, hT2, hr2⟩ := hr1 r1 M1 hP1
  refine slv_aload_n eL_law_673 rfl ?_
  refine slv_callV (As := []) eL_law_674 lL_93 rfl rfl h68 rfl hT2 (by decide) (Nat.le_of_ble_eq_true rfl) (Nat.zero_add _).symm (Nat.zero_add _).symm (Or.inl rfl) ?_
  intro r2 M2 hP2
  obtain ⟨rfl, hI2⟩ := hr2 r2 M2 hP2
  refine slv_icmp_eq eL_law_677 (fun _ => ?_) (fun h => absurd rfl h)
  exact fin M2 hI2
set_option maxRecDepth 100000 in
theorem lo_ring (hI : lwI M) (hi : i + 6 ≤ L) (hL : L ≤ 3072) (fin : ∀ M', lwI M' → sl_V YL_law (some (L, xs)) 70 kc ks Q 1115 [some (.ref (sl_X + 500)), some (.ref 0), some (.ref 68), some (.ref 113), some (.int (nI i)), z5, z6] [] M') : sl_V YL_law (some (L, xs)) 70 kc ks Q 682 [some (.ref (sl_X + 500)), some (.ref 0), some (.ref 68), some (.ref 113), some (.int (nI i)), z5, z6] [] M := by
  refine slv_aload_n eL_law_682 rfl ?_
  obtain ⟨C, v, w, a, nm, hA, hS, h113, hK, hR⟩ := hI
  obtain ⟨P1, hT1, hr1⟩ := ag_ring  hA hS h113 hK hR 
  refine slv_callV (As := []) eL_law_683 lL_94 rfl rfl hA.1 rfl hT1 (by decide) (Nat.le_of_ble_eq_true rfl) (Nat.zero_add _).symm (Nat.zero_add _).symm (Or.inl rfl) ?_
  intro r1 M1 hP1
  obtain ⟨x, rfl, ⟨fs, h68⟩, P2, hT2, hr2⟩ := hr1 r1 M1 hP1
  refine slv_aload_n eL_law_686 rfl ?_
  refine slv_callV (As := []) eL_law_687 lL_97 rfl rfl h68 rfl hT2 (by decide) (Nat.le_of_ble_eq_true rfl) (Nat.zero_add _).symm (Nat.zero_add _).symm (Or.inl rfl) ?_
  intro r2 M2 hP2
  obtain ⟨rfl, hI2⟩ := hr2 r2 M2 hP2
  refine slv_icmp_eq eL_law_690 (fun _ => ?_) (fun h => absurd rfl h)
  exact fin M2 hI2
set_option maxRecDepth 100000 in
theorem lo_ringAt (hI : lwI M) (hi : i + 6 ≤ L) (hL : L ≤ 3072) (fin : ∀ M', lwI M' → sl_V YL_law (some (L, xs)) 70 kc ks Q 1115 [some (.ref (sl_X + 500)), some (.ref 0), some (.ref 68), some (.ref 113), some (.int (nI i)), z5, z6] [] M') : sl_V YL_law (some (L, xs)) 70 kc ks Q 695 [some (.ref (sl_X + 500)), some (.ref 0), some (.ref 68), some (.ref 113), some (.int (nI i)), z5, z6] [] M := by
  refine slv_aload_n eL_law_695 rfl ?_
  refine slv_aload_n eL_law_696 rfl ?_
  refine slv_iload eL_law_697 rfl ?_
  refine slv_iconst (v := nI 1) eL_law_699 (by decide) ?_
  refine slv_iaddN eL_law_700 ?_
  refine slv_sldN eL_law_701 rfl (by omega) (by omega) ?_
  obtain ⟨C, v, w, a, nm, hA, hS, h113, hK, hR⟩ := hI
  obtain ⟨P1, hT1, hr1⟩ := ag_ringAt  hA hS h113 hK hR (xs (i + 1))
  refine slv_callV (As := [_]) eL_law_702 lL_98 rfl rfl hA.1 rfl hT1 (by decide) (Nat.le_of_ble_eq_true rfl) (Nat.zero_add _).symm (Nat.zero_add _).symm (Or.inl rfl) ?_
  intro r1 M1 hP1
  obtain ⟨x, rfl, ⟨fs, h68⟩, P2, hT2, hr2⟩ := hr1 r1 M1 hP1
  refine slv_aload_n eL_law_705 rfl ?_
  refine slv_aload_n eL_law_706 rfl ?_
  refine slv_iload eL_law_707 rfl ?_
  refine slv_iconst (v := nI 1) eL_law_709 (by decide) ?_
  refine slv_iaddN eL_law_710 ?_
  refine slv_sldN eL_law_711 rfl (by omega) (by omega) ?_
  refine slv_callV (As := [_]) eL_law_712 lL_101 rfl rfl h68 rfl hT2 (by decide) (Nat.le_of_ble_eq_true rfl) (Nat.zero_add _).symm (Nat.zero_add _).symm (Or.inl rfl) ?_
  intro r2 M2 hP2
  obtain ⟨rfl, hI2⟩ := hr2 r2 M2 hP2
  refine slv_icmp_eq eL_law_715 (fun _ => ?_) (fun h => absurd rfl h)
  exact fin M2 hI2
set_option maxRecDepth 100000 in
theorem lo_formula (hRR : rr_all) (hSS : st_all) (hI : lwI M) (hi : i + 6 ≤ L) (hL : L ≤ 3072) (fin : ∀ M', lwI M' → sl_V YL_law (some (L, xs)) 70 kc ks Q 1115 [some (.ref (sl_X + 500)), some (.ref 0), some (.ref 68), some (.ref 113), some (.int (nI i)), z5, z6] [] M') : sl_V YL_law (some (L, xs)) 70 kc ks Q 720 [some (.ref (sl_X + 500)), some (.ref 0), some (.ref 68), some (.ref 113), some (.int (nI i)), z5, z6] [] M := by
  refine slv_aload_n eL_law_720 rfl ?_
  refine slv_aload_n eL_law_721 rfl ?_
  refine slv_iload eL_law_722 rfl ?_
  refine slv_iconst (v := nI 1) eL_law_724 (by decide) ?_
  refine slv_iaddN eL_law_725 ?_
  refine slv_sldN eL_law_726 rfl (by omega) (by omega) ?_
  refine slv_aload_n eL_law_727 rfl ?_
  refine slv_iload eL_law_728 rfl ?_
  refine slv_iconst (v := nI 2) eL_law_730 (by decide) ?_
  refine slv_iaddN eL_law_731 ?_
  refine slv_sldN eL_law_732 rfl (by omega) (by omega) ?_
  obtain ⟨C, v, w, a, nm, hA, hS, h113, hK, hR⟩ := hI
  obtain ⟨P1, hT1, hr1⟩ := ag_formula hRR hSS hA hS h113 hK hR (xs (i + 1)) (xs (i + 2))
  refine slv_callV (As := [_, _]) eL_law_733 lL_102 rfl rfl hA.1 rfl hT1 (by decide) (Nat.le_of_ble_eq_true rfl) (Nat.zero_add _).symm (Nat.zero_add _).symm (Or.inl rfl) ?_
  intro r1 M1 hP1
  obtain ⟨x, rfl, ⟨fs, h68⟩, P2, hT2, hr2⟩ := hr1 r1 M1 hP1
  refine slv_aload_n eL_law_736 rfl ?_
  refine slv_aload_n eL_law_737 rfl ?_
  refine slv_iload eL_law_738 rfl ?_
  refine slv_iconst (v := nI 1) eL_law_740 (by decide) ?_
  refine slv_iaddN eL_law_741 ?_
  refine slv_sldN eL_law_742 rfl (by omega) (by omega) ?_
  refine slv_aload_n eL_law_743 rfl ?_
  refine slv_iload eL_law_744 rfl ?_
  refine slv_iconst (v := nI 2) eL_law_746 (by decide) ?_
  refine slv_iaddN eL_law_747 ?_
  refine slv_sldN eL_law_748 rfl (by omega) (by omega) ?_
  refine slv_callV (As := [_, _]) eL_law_749 lL_105 rfl rfl h68 rfl hT2 (by decide) (Nat.le_of_ble_eq_true rfl) (Nat.zero_add _).symm (Nat.zero_add _).symm (Or.inl rfl) ?_
  intro r2 M2 hP2
  obtain ⟨rfl, hI2⟩ := hr2 r2 M2 hP2
  refine slv_icmp_eq eL_law_752 (fun _ => ?_) (fun h => absurd rfl h)
  exact fin M2 hI2
set_option maxRecDepth 100000 in
theorem lo_read (hI : lwI M) (hi : i + 6 ≤ L) (hL : L ≤ 3072) (fin : ∀ M', lwI M' → sl_V YL_law (some (L, xs)) 70 kc ks Q 1115 [some (.ref (sl_X + 500)), some (.ref 0), some (.ref 68), some (.ref 113), some (.int (nI i)), z5, z6] [] M') : sl_V YL_law (some (L, xs)) 70 kc ks Q 757 [some (.ref (sl_X + 500)), some (.ref 0), some (.ref 68), some (.ref 113), some (.int (nI i)), z5, z6] [] M := by
  refine slv_aload_n eL_law_757 rfl ?_
  refine slv_aload_n eL_law_758 rfl ?_
  refine slv_iload eL_law_759 rfl ?_
  refine slv_iconst (v := nI 1) eL_law_761 (by decide) ?_
  refine slv_iaddN eL_law_762 ?_
  refine slv_sldN eL_law_763 rfl (by omega) (by omega) ?_
  obtain ⟨C, v, w, a, nm, hA, hS, h113, hK, hR⟩ := hI
  obtain ⟨P1, hT1, hr1⟩ := ag_read  hA hS h113 hK hR (xs (i + 1))
  refine slv_callV (As := [_]) eL_law_764 lL_106 rfl rfl hA.1 rfl hT1 (by decide) (Nat.le_of_ble_eq_true rfl) (Nat.zero_add _).symm (Nat.zero_add _).symm (Or.inl rfl) ?_
  intro r1 M1 hP1
  obtain ⟨x, rfl, ⟨fs, h68⟩, P2, hT2, hr2⟩ := hr1 r1 M1 hP1
  refine slv_aload_n eL_law_767 rfl ?_
  refine slv_aload_n eL_law_768 rfl ?_
  refine slv_iload eL_law_769 rfl ?_
  refine slv_iconst (v := nI 1) eL_law_771 (by decide) ?_
  refine slv_iaddN eL_law_772 ?_
  refine slv_sldN eL_law_773 rfl (by omega) (by omega) ?_
  refine slv_callV (As := [_]) eL_law_774 lL_109 rfl rfl h68 rfl hT2 (by decide) (Nat.le_of_ble_eq_true rfl) (Nat.zero_add _).symm (Nat.zero_add _).symm (Or.inl rfl) ?_
  intro r2 M2 hP2
  obtain ⟨rfl, hI2⟩ := hr2 r2 M2 hP2
  refine slv_icmp_eq eL_law_777 (fun _ => ?_) (fun h => absurd rfl h)
  exact fin M2 hI2
set_option maxRecDepth 100000 in
theorem lo_reduced (hI : lwI M) (hi : i + 6 ≤ L) (hL : L ≤ 3072) (fin : ∀ M', lwI M' → sl_V YL_law (some (L, xs)) 70 kc ks Q 1115 [some (.ref (sl_X + 500)), some (.ref 0), some (.ref 68), some (.ref 113), some (.int (nI i)), z5, z6] [] M') : sl_V YL_law (some (L, xs)) 70 kc ks Q 782 [some (.ref (sl_X + 500)), some (.ref 0), some (.ref 68), some (.ref 113), some (.int (nI i)), z5, z6] [] M := by
  refine slv_aload_n eL_law_782 rfl ?_
  refine slv_aload_n eL_law_783 rfl ?_
  refine slv_iload eL_law_784 rfl ?_
  refine slv_iconst (v := nI 1) eL_law_786 (by decide) ?_
  refine slv_iaddN eL_law_787 ?_
  refine slv_sldN eL_law_788 rfl (by omega) (by omega) ?_
  obtain ⟨C, v, w, a, nm, hA, hS, h113, hK, hR⟩ := hI
  obtain ⟨P1, hT1, hr1⟩ := ag_reduced  hA hS h113 hK hR (xs (i + 1))
  refine slv_callV (As := [_]) eL_law_789 lL_110 rfl rfl hA.1 rfl hT1 (by decide) (Nat.le_of_ble_eq_true rfl) (Nat.zero_add _).symm (Nat.zero_add _).symm (Or.inl rfl) ?_
  intro r1 M1 hP1
  obtain ⟨x, rfl, ⟨fs, h68⟩, P2, hT2, hr2⟩ := hr1 r1 M1 hP1
  refine slv_aload_n eL_law_792 rfl ?_
  refine slv_aload_n eL_law_793 rfl ?_
  refine slv_iload eL_law_794 rfl ?_
  refine slv_iconst (v := nI 1) eL_law_796 (by decide) ?_
  refine slv_iaddN eL_law_797 ?_
  refine slv_sldN eL_law_798 rfl (by omega) (by omega) ?_
  refine slv_callV (As := [_]) eL_law_799 lL_113 rfl rfl h68 rfl hT2 (by decide) (Nat.le_of_ble_eq_true rfl) (Nat.zero_add _).symm (Nat.zero_add _).symm (Or.inl rfl) ?_
  intro r2 M2 hP2
  obtain ⟨rfl, hI2⟩ := hr2 r2 M2 hP2
  refine slv_icmp_eq eL_law_802 (fun _ => ?_) (fun h => absurd rfl h)
  exact fin M2 hI2
set_option maxRecDepth 100000 in
theorem lo_node (hI : lwI M) (hi : i + 6 ≤ L) (hL : L ≤ 3072) (fin : ∀ M', lwI M' → sl_V YL_law (some (L, xs)) 70 kc ks Q 1115 [some (.ref (sl_X + 500)), some (.ref 0), some (.ref 68), some (.ref 113), some (.int (nI i)), z5, z6] [] M') : sl_V YL_law (some (L, xs)) 70 kc ks Q 807 [some (.ref (sl_X + 500)), some (.ref 0), some (.ref 68), some (.ref 113), some (.int (nI i)), z5, z6] [] M := by
  refine slv_aload_n eL_law_807 rfl ?_
  refine slv_aload_n eL_law_808 rfl ?_
  refine slv_iload eL_law_809 rfl ?_
  refine slv_iconst (v := nI 1) eL_law_811 (by decide) ?_
  refine slv_iaddN eL_law_812 ?_
  refine slv_sldN eL_law_813 rfl (by omega) (by omega) ?_
  refine slv_aload_n eL_law_814 rfl ?_
  refine slv_iload eL_law_815 rfl ?_
  refine slv_iconst (v := nI 2) eL_law_817 (by decide) ?_
  refine slv_iaddN eL_law_818 ?_
  refine slv_sldN eL_law_819 rfl (by omega) (by omega) ?_
  obtain ⟨C, v, w, a, nm, hA, hS, h113, hK, hR⟩ := hI
  obtain ⟨P1, hT1, hr1⟩ := ag_node  hA hS h113 hK hR (xs (i + 1)) (xs (i + 2))
  refine slv_callV (As := [_, _]) eL_law_820 lL_114 rfl rfl hA.1 rfl hT1 (by decide) (Nat.le_of_ble_eq_true rfl) (Nat.zero_add _).symm (Nat.zero_add _).symm (Or.inl rfl) ?_
  intro r1 M1 hP1
  obtain ⟨x, rfl, ⟨fs, h68⟩, P2, hT2, hr2⟩ := hr1 r1 M1 hP1
  refine slv_aload_n eL_law_823 rfl ?_
  refine slv_aload_n eL_law_824 rfl ?_
  refine slv_iload eL_law_825 rfl ?_
  refine slv_iconst (v := nI 1) eL_law_827 (by decide) ?_
  refine slv_iaddN eL_law_828 ?_
  refine slv_sldN eL_law_829 rfl (by omega) (by omega) ?_
  refine slv_aload_n eL_law_830 rfl ?_
  refine slv_iload eL_law_831 rfl ?_
  refine slv_iconst (v := nI 2) eL_law_833 (by decide) ?_
  refine slv_iaddN eL_law_834 ?_
  refine slv_sldN eL_law_835 rfl (by omega) (by omega) ?_
  refine slv_callV (As := [_, _]) eL_law_836 lL_117 rfl rfl h68 rfl hT2 (by decide) (Nat.le_of_ble_eq_true rfl) (Nat.zero_add _).symm (Nat.zero_add _).symm (Or.inl rfl) ?_
  intro r2 M2 hP2
  obtain ⟨rfl, hI2⟩ := hr2 r2 M2 hP2
  refine slv_icmp_eq eL_law_839 (fun _ => ?_) (fun h => absurd rfl h)
  exact fin M2 hI2
set_option maxRecDepth 100000 in
theorem lo_under (hI : lwI M) (hi : i + 6 ≤ L) (hL : L ≤ 3072) (fin : ∀ M', lwI M' → sl_V YL_law (some (L, xs)) 70 kc ks Q 1115 [some (.ref (sl_X + 500)), some (.ref 0), some (.ref 68), some (.ref 113), some (.int (nI i)), z5, z6] [] M') : sl_V YL_law (some (L, xs)) 70 kc ks Q 844 [some (.ref (sl_X + 500)), some (.ref 0), some (.ref 68), some (.ref 113), some (.int (nI i)), z5, z6] [] M := by
  refine slv_aload_n eL_law_844 rfl ?_
  refine slv_aload_n eL_law_845 rfl ?_
  refine slv_iload eL_law_846 rfl ?_
  refine slv_iconst (v := nI 1) eL_law_848 (by decide) ?_
  refine slv_iaddN eL_law_849 ?_
  refine slv_sldN eL_law_850 rfl (by omega) (by omega) ?_
  refine slv_aload_n eL_law_851 rfl ?_
  refine slv_iload eL_law_852 rfl ?_
  refine slv_iconst (v := nI 2) eL_law_854 (by decide) ?_
  refine slv_iaddN eL_law_855 ?_
  refine slv_sldN eL_law_856 rfl (by omega) (by omega) ?_
  obtain ⟨C, v, w, a, nm, hA, hS, h113, hK, hR⟩ := hI
  obtain ⟨P1, hT1, hr1⟩ := ag_under  hA hS h113 hK hR (xs (i + 1)) (xs (i + 2))
  refine slv_callV (As := [_, _]) eL_law_857 lL_118 rfl rfl hA.1 rfl hT1 (by decide) (Nat.le_of_ble_eq_true rfl) (Nat.zero_add _).symm (Nat.zero_add _).symm (Or.inl rfl) ?_
  intro r1 M1 hP1
  obtain ⟨x, rfl, ⟨fs, h68⟩, P2, hT2, hr2⟩ := hr1 r1 M1 hP1
  refine slv_aload_n eL_law_860 rfl ?_
  refine slv_aload_n eL_law_861 rfl ?_
  refine slv_iload eL_law_862 rfl ?_
  refine slv_iconst (v := nI 1) eL_law_864 (by decide) ?_
  refine slv_iaddN eL_law_865 ?_
  refine slv_sldN eL_law_866 rfl (by omega) (by omega) ?_
  refine slv_aload_n eL_law_867 rfl ?_
  refine slv_iload eL_law_868 rfl ?_
  refine slv_iconst (v := nI 2) eL_law_870 (by decide) ?_
  refine slv_iaddN eL_law_871 ?_
  refine slv_sldN eL_law_872 rfl (by omega) (by omega) ?_
  refine slv_callV (As := [_, _]) eL_law_873 lL_121 rfl rfl h68 rfl hT2 (by decide) (Nat.le_of_ble_eq_true rfl) (Nat.zero_add _).symm (Nat.zero_add _).symm (Or.inl rfl) ?_
  intro r2 M2 hP2
  obtain ⟨rfl, hI2⟩ := hr2 r2 M2 hP2
  refine slv_icmp_eq eL_law_876 (fun _ => ?_) (fun h => absurd rfl h)
  exact fin M2 hI2
set_option maxRecDepth 100000 in
theorem lo_value (hRR : rr_all) (hI : lwI M) (hi : i + 6 ≤ L) (hL : L ≤ 3072) (fin : ∀ M', lwI M' → sl_V YL_law (some (L, xs)) 70 kc ks Q 1115 [some (.ref (sl_X + 500)), some (.ref 0), some (.ref 68), some (.ref 113), some (.int (nI i)), z5, z6] [] M') : sl_V YL_law (some (L, xs)) 70 kc ks Q 881 [some (.ref (sl_X + 500)), some (.ref 0), some (.ref 68), some (.ref 113), some (.int (nI i)), z5, z6] [] M := by
  refine slv_aload_n eL_law_881 rfl ?_
  refine slv_aload_n eL_law_882 rfl ?_
  refine slv_iload eL_law_883 rfl ?_
  refine slv_iconst (v := nI 1) eL_law_885 (by decide) ?_
  refine slv_iaddN eL_law_886 ?_
  refine slv_sldN eL_law_887 rfl (by omega) (by omega) ?_
  obtain ⟨C, v, w, a, nm, hA, hS, h113, hK, hR⟩ := hI
  obtain ⟨P1, hT1, hr1⟩ := ag_value hRR hA hS h113 hK hR (xs (i + 1))
  refine slv_callV (As := [_]) eL_law_888 lL_122 rfl rfl hA.1 rfl hT1 (by decide) (Nat.le_of_ble_eq_true rfl) (Nat.zero_add _).symm (Nat.zero_add _).symm (Or.inl rfl) ?_
  intro r1 M1 hP1
  obtain ⟨x, rfl, ⟨fs, h68⟩, P2, hT2, hr2⟩ := hr1 r1 M1 hP1
  refine slv_aload_n eL_law_891 rfl ?_
  refine slv_aload_n eL_law_892 rfl ?_
  refine slv_iload eL_law_893 rfl ?_
  refine slv_iconst (v := nI 1) eL_law_895 (by decide) ?_
  refine slv_iaddN eL_law_896 ?_
  refine slv_sldN eL_law_897 rfl (by omega) (by omega) ?_
  refine slv_callV (As := [_]) eL_law_898 lL_125 rfl rfl h68 rfl hT2 (by decide) (Nat.le_of_ble_eq_true rfl) (Nat.zero_add _).symm (Nat.zero_add _).symm (Or.inl rfl) ?_
  intro r2 M2 hP2
  obtain ⟨rfl, hI2⟩ := hr2 r2 M2 hP2
  refine slv_icmp_eq eL_law_901 (fun _ => ?_) (fun h => absurd rfl h)
  exact fin M2 hI2
set_option maxRecDepth 100000 in
theorem lo_otherwise (hRR : rr_all) (hI : lwI M) (hi : i + 6 ≤ L) (hL : L ≤ 3072) (fin : ∀ M', lwI M' → sl_V YL_law (some (L, xs)) 70 kc ks Q 1115 [some (.ref (sl_X + 500)), some (.ref 0), some (.ref 68), some (.ref 113), some (.int (nI i)), z5, z6] [] M') : sl_V YL_law (some (L, xs)) 70 kc ks Q 920 [some (.ref (sl_X + 500)), some (.ref 0), some (.ref 68), some (.ref 113), some (.int (nI i)), z5, z6] [] M := by
  refine slv_aload_n eL_law_920 rfl ?_
  obtain ⟨C, v, w, a, nm, hA, hS, h113, hK, hR⟩ := hI
  obtain ⟨P1, hT1, hr1⟩ := ag_otherwise hRR hA hS h113 hK hR 
  refine slv_callV (As := []) eL_law_921 lL_131 rfl rfl hA.1 rfl hT1 (by decide) (Nat.le_of_ble_eq_true rfl) (Nat.zero_add _).symm (Nat.zero_add _).symm (Or.inl rfl) ?_
  intro r1 M1 hP1
  obtain ⟨x, rfl, ⟨fs, h68⟩, P2, hT2, hr2⟩ := hr1 r1 M1 hP1
  refine slv_aload_n eL_law_924 rfl ?_
  refine slv_callV (As := []) eL_law_925 lL_134 rfl rfl h68 rfl hT2 (by decide) (Nat.le_of_ble_eq_true rfl) (Nat.zero_add _).symm (Nat.zero_add _).symm (Or.inl rfl) ?_
  intro r2 M2 hP2
  obtain ⟨rfl, hI2⟩ := hr2 r2 M2 hP2
  refine slv_icmp_eq eL_law_928 (fun _ => ?_) (fun h => absurd rfl h)
  exact fin M2 hI2
set_option maxRecDepth 100000 in
theorem lo_later (hRR : rr_all) (hI : lwI M) (hi : i + 6 ≤ L) (hL : L ≤ 3072) (fin : ∀ M', lwI M' → sl_V YL_law (some (L, xs)) 70 kc ks Q 1115 [some (.ref (sl_X + 500)), some (.ref 0), some (.ref 68), some (.ref 113), some (.int (nI i)), z5, z6] [] M') : sl_V YL_law (some (L, xs)) 70 kc ks Q 933 [some (.ref (sl_X + 500)), some (.ref 0), some (.ref 68), some (.ref 113), some (.int (nI i)), z5, z6] [] M := by
  refine slv_aload_n eL_law_933 rfl ?_
  obtain ⟨C, v, w, a, nm, hA, hS, h113, hK, hR⟩ := hI
  obtain ⟨P1, hT1, hr1⟩ := ag_later hRR hA hS h113 hK hR 
  refine slv_callV (As := []) eL_law_934 lL_135 rfl rfl hA.1 rfl hT1 (by decide) (Nat.le_of_ble_eq_true rfl) (Nat.zero_add _).symm (Nat.zero_add _).symm (Or.inl rfl) ?_
  intro r1 M1 hP1
  obtain ⟨x, rfl, ⟨fs, h68⟩, P2, hT2, hr2⟩ := hr1 r1 M1 hP1
  refine slv_aload_n eL_law_937 rfl ?_
  refine slv_callV (As := []) eL_law_938 lL_138 rfl rfl h68 rfl hT2 (by decide) (Nat.le_of_ble_eq_true rfl) (Nat.zero_add _).symm (Nat.zero_add _).symm (Or.inl rfl) ?_
  intro r2 M2 hP2
  obtain ⟨rfl, hI2⟩ := hr2 r2 M2 hP2
  refine slv_icmp_eq eL_law_941 (fun _ => ?_) (fun h => absurd rfl h)
  exact fin M2 hI2
set_option maxRecDepth 100000 in
theorem lo_aside (hI : lwI M) (hi : i + 6 ≤ L) (hL : L ≤ 3072) (fin : ∀ M', lwI M' → sl_V YL_law (some (L, xs)) 70 kc ks Q 1115 [some (.ref (sl_X + 500)), some (.ref 0), some (.ref 68), some (.ref 113), some (.int (nI i)), z5, z6] [] M') : sl_V YL_law (some (L, xs)) 70 kc ks Q 946 [some (.ref (sl_X + 500)), some (.ref 0), some (.ref 68), some (.ref 113), some (.int (nI i)), z5, z6] [] M := by
  refine slv_aload_n eL_law_946 rfl ?_
  refine slv_aload_n eL_law_947 rfl ?_
  refine slv_iload eL_law_948 rfl ?_
  refine slv_iconst (v := nI 1) eL_law_950 (by decide) ?_
  refine slv_iaddN eL_law_951 ?_
  refine slv_sldN eL_law_952 rfl (by omega) (by omega) ?_
  refine slv_aload_n eL_law_953 rfl ?_
  refine slv_iload eL_law_954 rfl ?_
  refine slv_iconst (v := nI 2) eL_law_956 (by decide) ?_
  refine slv_iaddN eL_law_957 ?_
  refine slv_sldN eL_law_958 rfl (by omega) (by omega) ?_
  obtain ⟨C, v, w, a, nm, hA, hS, h113, hK, hR⟩ := hI
  obtain ⟨P1, hT1, hr1⟩ := ag_aside  hA hS h113 hK hR (xs (i + 1)) (xs (i + 2))
  refine slv_callV (As := [_, _]) eL_law_959 lL_139 rfl rfl hA.1 rfl hT1 (by decide) (Nat.le_of_ble_eq_true rfl) (Nat.zero_add _).symm (Nat.zero_add _).symm (Or.inl rfl) ?_
  intro r1 M1 hP1
  obtain ⟨x, rfl, ⟨fs, h68⟩, P2, hT2, hr2⟩ := hr1 r1 M1 hP1
  refine slv_aload_n eL_law_962 rfl ?_
  refine slv_aload_n eL_law_963 rfl ?_
  refine slv_iload eL_law_964 rfl ?_
  refine slv_iconst (v := nI 1) eL_law_966 (by decide) ?_
  refine slv_iaddN eL_law_967 ?_
  refine slv_sldN eL_law_968 rfl (by omega) (by omega) ?_
  refine slv_aload_n eL_law_969 rfl ?_
  refine slv_iload eL_law_970 rfl ?_
  refine slv_iconst (v := nI 2) eL_law_972 (by decide) ?_
  refine slv_iaddN eL_law_973 ?_
  refine slv_sldN eL_law_974 rfl (by omega) (by omega) ?_
  refine slv_callV (As := [_, _]) eL_law_975 lL_142 rfl rfl h68 rfl hT2 (by decide) (Nat.le_of_ble_eq_true rfl) (Nat.zero_add _).symm (Nat.zero_add _).symm (Or.inl rfl) ?_
  intro r2 M2 hP2
  obtain ⟨rfl, hI2⟩ := hr2 r2 M2 hP2
  refine slv_icmp_eq eL_law_978 (fun _ => ?_) (fun h => absurd rfl h)
  exact fin M2 hI2
set_option maxRecDepth 100000 in
theorem lo_kind (hI : lwI M) (hi : i + 6 ≤ L) (hL : L ≤ 3072) (fin : ∀ M', lwI M' → sl_V YL_law (some (L, xs)) 70 kc ks Q 1115 [some (.ref (sl_X + 500)), some (.ref 0), some (.ref 68), some (.ref 113), some (.int (nI i)), z5, z6] [] M') : sl_V YL_law (some (L, xs)) 70 kc ks Q 983 [some (.ref (sl_X + 500)), some (.ref 0), some (.ref 68), some (.ref 113), some (.int (nI i)), z5, z6] [] M := by
  refine slv_aload_n eL_law_983 rfl ?_
  refine slv_aload_n eL_law_984 rfl ?_
  refine slv_iload eL_law_985 rfl ?_
  refine slv_iconst (v := nI 1) eL_law_987 (by decide) ?_
  refine slv_iaddN eL_law_988 ?_
  refine slv_sldN eL_law_989 rfl (by omega) (by omega) ?_
  obtain ⟨C, v, w, a, nm, hA, hS, h113, hK, hR⟩ := hI
  obtain ⟨P1, hT1, hr1⟩ := ag_kind  hA hS h113 hK hR (xs (i + 1))
  refine slv_callV (As := [_]) eL_law_990 lL_143 rfl rfl hA.1 rfl hT1 (by decide) (Nat.le_of_ble_eq_true rfl) (Nat.zero_add _).symm (Nat.zero_add _).symm (Or.inl rfl) ?_
  intro r1 M1 hP1
  obtain ⟨x, rfl, ⟨fs, h68⟩, P2, hT2, hr2⟩ := hr1 r1 M1 hP1
  refine slv_aload_n eL_law_993 rfl ?_
  refine slv_aload_n eL_law_994 rfl ?_
  refine slv_iload eL_law_995 rfl ?_
  refine slv_iconst (v := nI 1) eL_law_997 (by decide) ?_
  refine slv_iaddN eL_law_998 ?_
  refine slv_sldN eL_law_999 rfl (by omega) (by omega) ?_
  refine slv_callV (As := [_]) eL_law_1000 lL_146 rfl rfl h68 rfl hT2 (by decide) (Nat.le_of_ble_eq_true rfl) (Nat.zero_add _).symm (Nat.zero_add _).symm (Or.inl rfl) ?_
  intro r2 M2 hP2
  obtain ⟨rfl, hI2⟩ := hr2 r2 M2 hP2
  refine slv_icmp_eq eL_law_1003 (fun _ => ?_) (fun h => absurd rfl h)
  exact fin M2 hI2
set_option maxRecDepth 100000 in
theorem lo_undo (hI : lwI M) (hi : i + 6 ≤ L) (hL : L ≤ 3072) (fin : ∀ M', lwI M' → sl_V YL_law (some (L, xs)) 70 kc ks Q 1115 [some (.ref (sl_X + 500)), some (.ref 0), some (.ref 68), some (.ref 113), some (.int (nI i)), z5, z6] [] M') : sl_V YL_law (some (L, xs)) 70 kc ks Q 1008 [some (.ref (sl_X + 500)), some (.ref 0), some (.ref 68), some (.ref 113), some (.int (nI i)), z5, z6] [] M := by
  refine slv_aload_n eL_law_1008 rfl ?_
  obtain ⟨C, v, w, a, nm, hA, hS, h113, hK, hR⟩ := hI
  obtain ⟨P1, hT1, hr1⟩ := ag_undo  hA hS h113 hK hR 
  refine slv_callV (As := []) eL_law_1009 lL_147 rfl rfl hA.1 rfl hT1 (by decide) (Nat.le_of_ble_eq_true rfl) (Nat.zero_add _).symm (Nat.zero_add _).symm (Or.inl rfl) ?_
  intro r1 M1 hP1
  obtain ⟨x, rfl, ⟨fs, h68⟩, P2, hT2, hr2⟩ := hr1 r1 M1 hP1
  refine slv_aload_n eL_law_1012 rfl ?_
  refine slv_callV (As := []) eL_law_1013 lL_151 rfl rfl h68 rfl hT2 (by decide) (Nat.le_of_ble_eq_true rfl) (Nat.zero_add _).symm (Nat.zero_add _).symm (Or.inl rfl) ?_
  intro r2 M2 hP2
  obtain ⟨rfl, hI2⟩ := hr2 r2 M2 hP2
  refine slv_icmp_eq eL_law_1016 (fun _ => ?_) (fun h => absurd rfl h)
  exact fin M2 hI2
set_option maxRecDepth 100000 in
theorem lo_size (hI : lwI M) (hi : i + 6 ≤ L) (hL : L ≤ 3072) (fin : ∀ M', lwI M' → sl_V YL_law (some (L, xs)) 70 kc ks Q 1115 [some (.ref (sl_X + 500)), some (.ref 0), some (.ref 68), some (.ref 113), some (.int (nI i)), z5, z6] [] M') : sl_V YL_law (some (L, xs)) 70 kc ks Q 1077 [some (.ref (sl_X + 500)), some (.ref 0), some (.ref 68), some (.ref 113), some (.int (nI i)), z5, z6] [] M := by
  refine slv_aload_n eL_law_1077 rfl ?_
  refine slv_aload_n eL_law_1078 rfl ?_
  refine slv_iload eL_law_1079 rfl ?_
  refine slv_iconst (v := nI 1) eL_law_1081 (by decide) ?_
  refine slv_iaddN eL_law_1082 ?_
  refine slv_sldN eL_law_1083 rfl (by omega) (by omega) ?_
  obtain ⟨C, v, w, a, nm, hA, hS, h113, hK, hR⟩ := hI
  obtain ⟨P1, hT1, hr1⟩ := ag_size  hA hS h113 hK hR (xs (i + 1))
  refine slv_callV (As := [_]) eL_law_1084 lL_161 rfl rfl hA.1 rfl hT1 (by decide) (Nat.le_of_ble_eq_true rfl) (Nat.zero_add _).symm (Nat.zero_add _).symm (Or.inl rfl) ?_
  intro r1 M1 hP1
  obtain ⟨x, rfl, ⟨fs, h68⟩, P2, hT2, hr2⟩ := hr1 r1 M1 hP1
  refine slv_aload_n eL_law_1087 rfl ?_
  refine slv_aload_n eL_law_1088 rfl ?_
  refine slv_iload eL_law_1089 rfl ?_
  refine slv_iconst (v := nI 1) eL_law_1091 (by decide) ?_
  refine slv_iaddN eL_law_1092 ?_
  refine slv_sldN eL_law_1093 rfl (by omega) (by omega) ?_
  refine slv_callV (As := [_]) eL_law_1094 lL_164 rfl rfl h68 rfl hT2 (by decide) (Nat.le_of_ble_eq_true rfl) (Nat.zero_add _).symm (Nat.zero_add _).symm (Or.inl rfl) ?_
  intro r2 M2 hP2
  obtain ⟨rfl, hI2⟩ := hr2 r2 M2 hP2
  refine slv_icmp_eq eL_law_1097 (fun _ => ?_) (fun h => absurd rfl h)
  exact fin M2 hI2
set_option maxRecDepth 100000 in
theorem lo_trouble (hI : lwI M) (hi : i + 6 ≤ L) (hL : L ≤ 3072) (fin : ∀ M', lwI M' → sl_V YL_law (some (L, xs)) 70 kc ks Q 1115 [some (.ref (sl_X + 500)), some (.ref 0), some (.ref 68), some (.ref 113), some (.int (nI i)), z5, z6] [] M') : sl_V YL_law (some (L, xs)) 70 kc ks Q 1102 [some (.ref (sl_X + 500)), some (.ref 0), some (.ref 68), some (.ref 113), some (.int (nI i)), z5, z6] [] M := by
  refine slv_aload_n eL_law_1102 rfl ?_
  obtain ⟨C, v, w, a, nm, hA, hS, h113, hK, hR⟩ := hI
  obtain ⟨P1, hT1, hr1⟩ := ag_trouble  hA hS h113 hK hR 
  refine slv_callV (As := []) eL_law_1103 lL_165 rfl rfl hA.1 rfl hT1 (by decide) (Nat.le_of_ble_eq_true rfl) (Nat.zero_add _).symm (Nat.zero_add _).symm (Or.inl rfl) ?_
  intro r1 M1 hP1
  obtain ⟨x, rfl, ⟨fs, h68⟩, P2, hT2, hr2⟩ := hr1 r1 M1 hP1
  refine slv_aload_n eL_law_1106 rfl ?_
  refine slv_callV (As := []) eL_law_1107 lL_168 rfl rfl h68 rfl hT2 (by decide) (Nat.le_of_ble_eq_true rfl) (Nat.zero_add _).symm (Nat.zero_add _).symm (Or.inl rfl) ?_
  intro r2 M2 hP2
  obtain ⟨rfl, hI2⟩ := hr2 r2 M2 hP2
  refine slv_icmp_eq eL_law_1110 (fun _ => ?_) (fun h => absurd rfl h)
  exact fin M2 hI2
end LWO
