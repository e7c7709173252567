abbrev qLaw : QM := (⟨RL, "law", "([I)Z"⟩, cL_law, 4, some .boolean)
theorem l_ix {sL k : Nat} (j : Nat) (hj : j ≤ 5) (hk : 6 * k + 6 ≤ sL) (hL : sL ≤ 3072) : vp_in (nI (6 * k) + nI j) sL := by
  rw [nI_add]
  exact vp_in_nI (by omega) (by omega)
theorem l_i0 {sL k : Nat} (hk : 6 * k + 6 ≤ sL) (hL : sL ≤ 3072) : vp_in (nI (6 * k)) sL := vp_in_nI (by omega) (by omega)
theorem l_m95 (X : XZ) (M : MZ) (D : HP) : (xh X M D)[95]? = some (.inr (14, mobj M)) := by
  show (xcells X ++ (Sum.inr (14, mobj M) :: _))[95]? = _
  exact pl_get (xcells_len X)
theorem l_c0 {sb sL : Nat} {sx : Nat → Int32} {X : XZ} {M : MZ} {D : HP} {mc ms : Nat} (k : Nat) (hk : 6 * k + 6 ≤ sL) (hL : sL ≤ 3072) (h : RR X M D) (kk : ∀ X2 M2 D2, RR X2 M2 D2 → SemL sb sL sx 41 qLaw mc ms 1494 [(3, .int (nI (6 * k))), (2, .ref 95), (1, .ref 0), (0, .float 400)] [] (xh X2 M2 D2)) : SemL sb sL sx 41 qLaw (mc + 12) (ms + 180) 204 [(3, .int (nI (6 * k))), (2, .ref 95), (1, .ref 0), (0, .float 400)] [] (xh X M D) := by
  obtain ⟨mc1, ms1, a, Φ, h12, h180, hx, hm⟩ := pr_server h (sx (nI (6 * k) + 1).toNatClampNeg) (sx (nI (6 * k) + 2).toNatClampNeg) (sx (nI (6 * k) + 3).toNatClampNeg) (sx (nI (6 * k) + 4).toNatClampNeg)
  refine zl_aload_nr (j := 2) dL_law_204 rfl ?_
  refine zl_aload_ne (j := 3) dL_law_205 rfl ?_
  refine zl_iload_n (j := 0) dL_law_206 rfl ?_
  refine zl_iconst (v := 1) dL_law_207 (by decide) ?_
  refine zl_iadd dL_law_208 ?_
  refine zl_sld dL_law_209 (l_ix 1 (by decide) hk hL) ?_
  refine zl_aload_ne (j := 3) dL_law_210 rfl ?_
  refine zl_iload_n (j := 0) dL_law_211 rfl ?_
  refine zl_iconst (v := 2) dL_law_212 (by decide) ?_
  refine zl_iadd dL_law_213 ?_
  refine zl_sld dL_law_214 (l_ix 2 (by decide) hk hL) ?_
  refine zl_aload_ne (j := 3) dL_law_215 rfl ?_
  refine zl_iload_n (j := 0) dL_law_216 rfl ?_
  refine zl_iconst (v := 3) dL_law_217 (by decide) ?_
  refine zl_iadd dL_law_218 ?_
  refine zl_sld dL_law_219 (l_ix 3 (by decide) hk hL) ?_
  refine zl_aload_ne (j := 3) dL_law_220 rfl ?_
  refine zl_iload_n (j := 0) dL_law_221 rfl ?_
  refine zl_iconst (v := 4) dL_law_222 (by decide) ?_
  refine zl_iadd dL_law_223 ?_
  refine zl_sld dL_law_224 (l_ix 4 (by decide) hk hL) ?_
  refine zl_V4im (mc := mc + (12 - mc1)) (ms := ms + (180 - ms1)) cv_L_13 rfl dL_law_225 xg_X11 rfl (Nat.le_of_ble_eq_true rfl) hx (by omega) (by omega) (fun y1 h1 q1 => ?_)
  obtain ⟨rfl, X2, D2, rfl, hΦ⟩ := q1
  refine zl_aload_nr (j := 1) dL_law_228 rfl ?_
  refine zl_aload_ne (j := 3) dL_law_229 rfl ?_
  refine zl_iload_n (j := 0) dL_law_230 rfl ?_
  refine zl_iconst (v := 1) dL_law_231 (by decide) ?_
  refine zl_iadd dL_law_232 ?_
  refine zl_sld dL_law_233 (l_ix 1 (by decide) hk hL) ?_
  refine zl_aload_ne (j := 3) dL_law_234 rfl ?_
  refine zl_iload_n (j := 0) dL_law_235 rfl ?_
  refine zl_iconst (v := 2) dL_law_236 (by decide) ?_
  refine zl_iadd dL_law_237 ?_
  refine zl_sld dL_law_238 (l_ix 2 (by decide) hk hL) ?_
  refine zl_aload_ne (j := 3) dL_law_239 rfl ?_
  refine zl_iload_n (j := 0) dL_law_240 rfl ?_
  refine zl_iconst (v := 3) dL_law_241 (by decide) ?_
  refine zl_iadd dL_law_242 ?_
  refine zl_sld dL_law_243 (l_ix 3 (by decide) hk hL) ?_
  refine zl_aload_ne (j := 3) dL_law_244 rfl ?_
  refine zl_iload_n (j := 0) dL_law_245 rfl ?_
  refine zl_iconst (v := 4) dL_law_246 (by decide) ?_
  refine zl_iadd dL_law_247 ?_
  refine zl_sld dL_law_248 (l_ix 4 (by decide) hk hL) ?_
  refine zl_V4i cv_L_17 rfl dL_law_249 (l_m95 X2 M D2) rfl (Nat.le_of_ble_eq_true rfl) (hm X2 D2 hΦ) (fun y2 h2 q2 => ?_)
  obtain ⟨rfl, M2, rfl, hR⟩ := q2
  refine zl_icmp_eq dL_law_252 (tgt := 1494) (by decide) (fun _ => ?_) (fun c9 => absurd rfl c9)
  exact zl_room (by omega) (by omega) (kk _ _ _ hR)
theorem l_c1 {sb sL : Nat} {sx : Nat → Int32} {X : XZ} {M : MZ} {D : HP} {mc ms : Nat} (k : Nat) (hk : 6 * k + 6 ≤ sL) (hL : sL ≤ 3072) (h : RR X M D) (kk : ∀ X2 M2 D2, RR X2 M2 D2 → SemL sb sL sx 41 qLaw mc ms 1494 [(3, .int (nI (6 * k))), (2, .ref 95), (1, .ref 0), (0, .float 400)] [] (xh X2 M2 D2)) : SemL sb sL sx 41 qLaw (mc + 12) (ms + 180) 257 [(3, .int (nI (6 * k))), (2, .ref 95), (1, .ref 0), (0, .float 400)] [] (xh X M D) := by
  obtain ⟨mc1, ms1, a, Φ, h12, h180, hx, hm⟩ := pr_of h (sx (nI (6 * k) + 1).toNatClampNeg) (sx (nI (6 * k) + 2).toNatClampNeg)
  refine zl_aload_nr (j := 2) dL_law_257 rfl ?_
  refine zl_aload_ne (j := 3) dL_law_258 rfl ?_
  refine zl_iload_n (j := 0) dL_law_259 rfl ?_
  refine zl_iconst (v := 1) dL_law_260 (by decide) ?_
  refine zl_iadd dL_law_261 ?_
  refine zl_sld dL_law_262 (l_ix 1 (by decide) hk hL) ?_
  refine zl_aload_ne (j := 3) dL_law_263 rfl ?_
  refine zl_iload_n (j := 0) dL_law_264 rfl ?_
  refine zl_iconst (v := 2) dL_law_265 (by decide) ?_
  refine zl_iadd dL_law_266 ?_
  refine zl_sld dL_law_267 (l_ix 2 (by decide) hk hL) ?_
  refine zl_V2im (mc := mc + (12 - mc1)) (ms := ms + (180 - ms1)) cv_L_18 rfl dL_law_268 xg_X11 rfl (Nat.le_of_ble_eq_true rfl) hx (by omega) (by omega) (fun y1 h1 q1 => ?_)
  obtain ⟨rfl, X2, D2, rfl, hΦ⟩ := q1
  refine zl_aload_nr (j := 1) dL_law_271 rfl ?_
  refine zl_aload_ne (j := 3) dL_law_272 rfl ?_
  refine zl_iload_n (j := 0) dL_law_273 rfl ?_
  refine zl_iconst (v := 1) dL_law_274 (by decide) ?_
  refine zl_iadd dL_law_275 ?_
  refine zl_sld dL_law_276 (l_ix 1 (by decide) hk hL) ?_
  refine zl_aload_ne (j := 3) dL_law_277 rfl ?_
  refine zl_iload_n (j := 0) dL_law_278 rfl ?_
  refine zl_iconst (v := 2) dL_law_279 (by decide) ?_
  refine zl_iadd dL_law_280 ?_
  refine zl_sld dL_law_281 (l_ix 2 (by decide) hk hL) ?_
  refine zl_V2i cv_L_22 rfl dL_law_282 (l_m95 X2 M D2) rfl (Nat.le_of_ble_eq_true rfl) (hm X2 D2 hΦ) (fun y2 h2 q2 => ?_)
  obtain ⟨rfl, M2, rfl, hR⟩ := q2
  refine zl_icmp_eq dL_law_285 (tgt := 1494) (by decide) (fun _ => ?_) (fun c9 => absurd rfl c9)
  exact zl_room (by omega) (by omega) (kk _ _ _ hR)
theorem l_c2 {sb sL : Nat} {sx : Nat → Int32} {X : XZ} {M : MZ} {D : HP} {mc ms : Nat} (k : Nat) (hk : 6 * k + 6 ≤ sL) (hL : sL ≤ 3072) (h : RR X M D) (kk : ∀ X2 M2 D2, RR X2 M2 D2 → SemL sb sL sx 41 qLaw mc ms 1494 [(3, .int (nI (6 * k))), (2, .ref 95), (1, .ref 0), (0, .float 400)] [] (xh X2 M2 D2)) : SemL sb sL sx 41 qLaw (mc + 12) (ms + 180) 290 [(3, .int (nI (6 * k))), (2, .ref 95), (1, .ref 0), (0, .float 400)] [] (xh X M D) := by
  obtain ⟨mc1, ms1, a, Φ, h12, h180, hx, hm⟩ := pr_set h (sx (nI (6 * k) + 1).toNatClampNeg) (sx (nI (6 * k) + 2).toNatClampNeg) (sx (nI (6 * k) + 3).toNatClampNeg)
  refine zl_aload_nr (j := 2) dL_law_290 rfl ?_
  refine zl_aload_ne (j := 3) dL_law_291 rfl ?_
  refine zl_iload_n (j := 0) dL_law_292 rfl ?_
  refine zl_iconst (v := 1) dL_law_293 (by decide) ?_
  refine zl_iadd dL_law_294 ?_
  refine zl_sld dL_law_295 (l_ix 1 (by decide) hk hL) ?_
  refine zl_aload_ne (j := 3) dL_law_296 rfl ?_
  refine zl_iload_n (j := 0) dL_law_297 rfl ?_
  refine zl_iconst (v := 2) dL_law_298 (by decide) ?_
  refine zl_iadd dL_law_299 ?_
  refine zl_sld dL_law_300 (l_ix 2 (by decide) hk hL) ?_
  refine zl_aload_ne (j := 3) dL_law_301 rfl ?_
  refine zl_iload_n (j := 0) dL_law_302 rfl ?_
  refine zl_iconst (v := 3) dL_law_303 (by decide) ?_
  refine zl_iadd dL_law_304 ?_
  refine zl_sld dL_law_305 (l_ix 3 (by decide) hk hL) ?_
  refine zl_V3im (mc := mc + (12 - mc1)) (ms := ms + (180 - ms1)) cv_L_23 rfl dL_law_306 xg_X11 rfl (Nat.le_of_ble_eq_true rfl) hx (by omega) (by omega) (fun y1 h1 q1 => ?_)
  obtain ⟨rfl, X2, D2, rfl, hΦ⟩ := q1
  refine zl_aload_nr (j := 1) dL_law_309 rfl ?_
  refine zl_aload_ne (j := 3) dL_law_310 rfl ?_
  refine zl_iload_n (j := 0) dL_law_311 rfl ?_
  refine zl_iconst (v := 1) dL_law_312 (by decide) ?_
  refine zl_iadd dL_law_313 ?_
  refine zl_sld dL_law_314 (l_ix 1 (by decide) hk hL) ?_
  refine zl_aload_ne (j := 3) dL_law_315 rfl ?_
  refine zl_iload_n (j := 0) dL_law_316 rfl ?_
  refine zl_iconst (v := 2) dL_law_317 (by decide) ?_
  refine zl_iadd dL_law_318 ?_
  refine zl_sld dL_law_319 (l_ix 2 (by decide) hk hL) ?_
  refine zl_aload_ne (j := 3) dL_law_320 rfl ?_
  refine zl_iload_n (j := 0) dL_law_321 rfl ?_
  refine zl_iconst (v := 3) dL_law_322 (by decide) ?_
  refine zl_iadd dL_law_323 ?_
  refine zl_sld dL_law_324 (l_ix 3 (by decide) hk hL) ?_
  refine zl_V3i cv_L_27 rfl dL_law_325 (l_m95 X2 M D2) rfl (Nat.le_of_ble_eq_true rfl) (hm X2 D2 hΦ) (fun y2 h2 q2 => ?_)
  obtain ⟨rfl, M2, rfl, hR⟩ := q2
  refine zl_icmp_eq dL_law_328 (tgt := 1494) (by decide) (fun _ => ?_) (fun c9 => absurd rfl c9)
  exact zl_room (by omega) (by omega) (kk _ _ _ hR)
theorem l_c3 {sb sL : Nat} {sx : Nat → Int32} {X : XZ} {M : MZ} {D : HP} {mc ms : Nat} (k : Nat) (hk : 6 * k + 6 ≤ sL) (hL : sL ≤ 3072) (h : RR X M D) (kk : ∀ X2 M2 D2, RR X2 M2 D2 → SemL sb sL sx 41 qLaw mc ms 1494 [(3, .int (nI (6 * k))), (2, .ref 95), (1, .ref 0), (0, .float 400)] [] (xh X2 M2 D2)) : SemL sb sL sx 41 qLaw (mc + 12) (ms + 180) 333 [(3, .int (nI (6 * k))), (2, .ref 95), (1, .ref 0), (0, .float 400)] [] (xh X M D) := by
  obtain ⟨mc1, ms1, a, Φ, h12, h180, hx, hm⟩ := pr_row h (sx (nI (6 * k) + 1).toNatClampNeg) (sx (nI (6 * k) + 2).toNatClampNeg) (sx (nI (6 * k) + 3).toNatClampNeg)
  refine zl_aload_nr (j := 2) dL_law_333 rfl ?_
  refine zl_aload_ne (j := 3) dL_law_334 rfl ?_
  refine zl_iload_n (j := 0) dL_law_335 rfl ?_
  refine zl_iconst (v := 1) dL_law_336 (by decide) ?_
  refine zl_iadd dL_law_337 ?_
  refine zl_sld dL_law_338 (l_ix 1 (by decide) hk hL) ?_
  refine zl_aload_ne (j := 3) dL_law_339 rfl ?_
  refine zl_iload_n (j := 0) dL_law_340 rfl ?_
  refine zl_iconst (v := 2) dL_law_341 (by decide) ?_
  refine zl_iadd dL_law_342 ?_
  refine zl_sld dL_law_343 (l_ix 2 (by decide) hk hL) ?_
  refine zl_aload_ne (j := 3) dL_law_344 rfl ?_
  refine zl_iload_n (j := 0) dL_law_345 rfl ?_
  refine zl_iconst (v := 3) dL_law_346 (by decide) ?_
  refine zl_iadd dL_law_347 ?_
  refine zl_sld dL_law_348 (l_ix 3 (by decide) hk hL) ?_
  refine zl_V3im (mc := mc + (12 - mc1)) (ms := ms + (180 - ms1)) cv_L_28 rfl dL_law_349 xg_X11 rfl (Nat.le_of_ble_eq_true rfl) hx (by omega) (by omega) (fun y1 h1 q1 => ?_)
  obtain ⟨rfl, X2, D2, rfl, hΦ⟩ := q1
  refine zl_aload_nr (j := 1) dL_law_352 rfl ?_
  refine zl_aload_ne (j := 3) dL_law_353 rfl ?_
  refine zl_iload_n (j := 0) dL_law_354 rfl ?_
  refine zl_iconst (v := 1) dL_law_355 (by decide) ?_
  refine zl_iadd dL_law_356 ?_
  refine zl_sld dL_law_357 (l_ix 1 (by decide) hk hL) ?_
  refine zl_aload_ne (j := 3) dL_law_358 rfl ?_
  refine zl_iload_n (j := 0) dL_law_359 rfl ?_
  refine zl_iconst (v := 2) dL_law_360 (by decide) ?_
  refine zl_iadd dL_law_361 ?_
  refine zl_sld dL_law_362 (l_ix 2 (by decide) hk hL) ?_
  refine zl_aload_ne (j := 3) dL_law_363 rfl ?_
  refine zl_iload_n (j := 0) dL_law_364 rfl ?_
  refine zl_iconst (v := 3) dL_law_365 (by decide) ?_
  refine zl_iadd dL_law_366 ?_
  refine zl_sld dL_law_367 (l_ix 3 (by decide) hk hL) ?_
  refine zl_V3i cv_L_31 rfl dL_law_368 (l_m95 X2 M D2) rfl (Nat.le_of_ble_eq_true rfl) (hm X2 D2 hΦ) (fun y2 h2 q2 => ?_)
  obtain ⟨rfl, M2, rfl, hR⟩ := q2
  refine zl_icmp_eq dL_law_371 (tgt := 1494) (by decide) (fun _ => ?_) (fun c9 => absurd rfl c9)
  exact zl_room (by omega) (by omega) (kk _ _ _ hR)
theorem l_c4 {sb sL : Nat} {sx : Nat → Int32} {X : XZ} {M : MZ} {D : HP} {mc ms : Nat} (k : Nat) (hk : 6 * k + 6 ≤ sL) (hL : sL ≤ 3072) (h : RR X M D) (kk : ∀ X2 M2 D2, RR X2 M2 D2 → SemL sb sL sx 41 qLaw mc ms 1494 [(3, .int (nI (6 * k))), (2, .ref 95), (1, .ref 0), (0, .float 400)] [] (xh X2 M2 D2)) : SemL sb sL sx 41 qLaw (mc + 12) (ms + 180) 376 [(3, .int (nI (6 * k))), (2, .ref 95), (1, .ref 0), (0, .float 400)] [] (xh X M D) := by
  obtain ⟨mc1, ms1, a, Φ, h12, h180, hx, hm⟩ := pr_feed h (sx (nI (6 * k) + 1).toNatClampNeg)
  refine zl_aload_nr (j := 2) dL_law_376 rfl ?_
  refine zl_aload_ne (j := 3) dL_law_377 rfl ?_
  refine zl_iload_n (j := 0) dL_law_378 rfl ?_
  refine zl_iconst (v := 1) dL_law_379 (by decide) ?_
  refine zl_iadd dL_law_380 ?_
  refine zl_sld dL_law_381 (l_ix 1 (by decide) hk hL) ?_
  refine zl_V1im (mc := mc + (12 - mc1)) (ms := ms + (180 - ms1)) cv_L_32 rfl dL_law_382 xg_X11 rfl (Nat.le_of_ble_eq_true rfl) hx (by omega) (by omega) (fun y1 h1 q1 => ?_)
  obtain ⟨rfl, X2, D2, rfl, hΦ⟩ := q1
  refine zl_aload_nr (j := 1) dL_law_385 rfl ?_
  refine zl_aload_ne (j := 3) dL_law_386 rfl ?_
  refine zl_iload_n (j := 0) dL_law_387 rfl ?_
  refine zl_iconst (v := 1) dL_law_388 (by decide) ?_
  refine zl_iadd dL_law_389 ?_
  refine zl_sld dL_law_390 (l_ix 1 (by decide) hk hL) ?_
  refine zl_V1i cv_L_36 rfl dL_law_391 (l_m95 X2 M D2) rfl (Nat.le_of_ble_eq_true rfl) (hm X2 D2 hΦ) (fun y2 h2 q2 => ?_)
  obtain ⟨rfl, M2, rfl, hR⟩ := q2
  refine zl_icmp_eq dL_law_394 (tgt := 1494) (by decide) (fun _ => ?_) (fun c9 => absurd rfl c9)
  exact zl_room (by omega) (by omega) (kk _ _ _ hR)
theorem l_c5 {sb sL : Nat} {sx : Nat → Int32} {X : XZ} {M : MZ} {D : HP} {mc ms : Nat} (k : Nat) (hk : 6 * k + 6 ≤ sL) (hL : sL ≤ 3072) (h : RR X M D) (kk : ∀ X2 M2 D2, RR X2 M2 D2 → SemL sb sL sx 41 qLaw mc ms 1494 [(3, .int (nI (6 * k))), (2, .ref 95), (1, .ref 0), (0, .float 400)] [] (xh X2 M2 D2)) : SemL sb sL sx 41 qLaw (mc + 12) (ms + 180) 399 [(3, .int (nI (6 * k))), (2, .ref 95), (1, .ref 0), (0, .float 400)] [] (xh X M D) := by
  obtain ⟨mc1, ms1, a, Φ, h12, h180, hx, hm⟩ := pr_court h 
  refine zl_aload_nr (j := 2) dL_law_399 rfl ?_
  refine zl_V0im (mc := mc + (12 - mc1)) (ms := ms + (180 - ms1)) cv_L_37 rfl dL_law_400 xg_X11 rfl (Nat.le_of_ble_eq_true rfl) hx (by omega) (by omega) (fun y1 h1 q1 => ?_)
  obtain ⟨rfl, X2, D2, rfl, hΦ⟩ := q1
  refine zl_aload_nr (j := 1) dL_law_403 rfl ?_
  refine zl_V0i cv_L_41 rfl dL_law_404 (l_m95 X2 M D2) rfl (Nat.le_of_ble_eq_true rfl) (hm X2 D2 hΦ) (fun y2 h2 q2 => ?_)
  obtain ⟨rfl, M2, rfl, hR⟩ := q2
  refine zl_icmp_eq dL_law_407 (tgt := 1494) (by decide) (fun _ => ?_) (fun c9 => absurd rfl c9)
  exact zl_room (by omega) (by omega) (kk _ _ _ hR)
theorem l_c6 {sb sL : Nat} {sx : Nat → Int32} {X : XZ} {M : MZ} {D : HP} {mc ms : Nat} (k : Nat) (hk : 6 * k + 6 ≤ sL) (hL : sL ≤ 3072) (h : RR X M D) (kk : ∀ X2 M2 D2, RR X2 M2 D2 → SemL sb sL sx 41 qLaw mc ms 1494 [(3, .int (nI (6 * k))), (2, .ref 95), (1, .ref 0), (0, .float 400)] [] (xh X2 M2 D2)) : SemL sb sL sx 41 qLaw (mc + 12) (ms + 180) 412 [(3, .int (nI (6 * k))), (2, .ref 95), (1, .ref 0), (0, .float 400)] [] (xh X M D) := by
  obtain ⟨mc1, ms1, a, Φ, h12, h180, hx, hm⟩ := pr_told h (sx (nI (6 * k) + 1).toNatClampNeg)
  refine zl_aload_nr (j := 2) dL_law_412 rfl ?_
  refine zl_aload_ne (j := 3) dL_law_413 rfl ?_
  refine zl_iload_n (j := 0) dL_law_414 rfl ?_
  refine zl_iconst (v := 1) dL_law_415 (by decide) ?_
  refine zl_iadd dL_law_416 ?_
  refine zl_sld dL_law_417 (l_ix 1 (by decide) hk hL) ?_
  refine zl_V1im (mc := mc + (12 - mc1)) (ms := ms + (180 - ms1)) cv_L_42 rfl dL_law_418 xg_X11 rfl (Nat.le_of_ble_eq_true rfl) hx (by omega) (by omega) (fun y1 h1 q1 => ?_)
  obtain ⟨rfl, X2, D2, rfl, hΦ⟩ := q1
  refine zl_aload_nr (j := 1) dL_law_421 rfl ?_
  refine zl_aload_ne (j := 3) dL_law_422 rfl ?_
  refine zl_iload_n (j := 0) dL_law_423 rfl ?_
  refine zl_iconst (v := 1) dL_law_424 (by decide) ?_
  refine zl_iadd dL_law_425 ?_
  refine zl_sld dL_law_426 (l_ix 1 (by decide) hk hL) ?_
  refine zl_V1i cv_L_45 rfl dL_law_427 (l_m95 X2 M D2) rfl (Nat.le_of_ble_eq_true rfl) (hm X2 D2 hΦ) (fun y2 h2 q2 => ?_)
  obtain ⟨rfl, M2, rfl, hR⟩ := q2
  refine zl_icmp_eq dL_law_430 (tgt := 1494) (by decide) (fun _ => ?_) (fun c9 => absurd rfl c9)
  exact zl_room (by omega) (by omega) (kk _ _ _ hR)
theorem l_c7 {sb sL : Nat} {sx : Nat → Int32} {X : XZ} {M : MZ} {D : HP} {mc ms : Nat} (k : Nat) (hk : 6 * k + 6 ≤ sL) (hL : sL ≤ 3072) (h : RR X M D) (kk : ∀ X2 M2 D2, RR X2 M2 D2 → SemL sb sL sx 41 qLaw mc ms 1494 [(3, .int (nI (6 * k))), (2, .ref 95), (1, .ref 0), (0, .float 400)] [] (xh X2 M2 D2)) : SemL sb sL sx 41 qLaw (mc + 12) (ms + 180) 435 [(3, .int (nI (6 * k))), (2, .ref 95), (1, .ref 0), (0, .float 400)] [] (xh X M D) := by
  obtain ⟨mc1, ms1, a, Φ, h12, h180, hx, hm⟩ := pr_stance h (sx (nI (6 * k) + 1).toNatClampNeg)
  refine zl_aload_nr (j := 2) dL_law_435 rfl ?_
  refine zl_aload_ne (j := 3) dL_law_436 rfl ?_
  refine zl_iload_n (j := 0) dL_law_437 rfl ?_
  refine zl_iconst (v := 1) dL_law_438 (by decide) ?_
  refine zl_iadd dL_law_439 ?_
  refine zl_sld dL_law_440 (l_ix 1 (by decide) hk hL) ?_
  refine zl_V1im (mc := mc + (12 - mc1)) (ms := ms + (180 - ms1)) cv_L_46 rfl dL_law_441 xg_X11 rfl (Nat.le_of_ble_eq_true rfl) hx (by omega) (by omega) (fun y1 h1 q1 => ?_)
  obtain ⟨rfl, X2, D2, rfl, hΦ⟩ := q1
  refine zl_aload_nr (j := 1) dL_law_444 rfl ?_
  refine zl_aload_ne (j := 3) dL_law_445 rfl ?_
  refine zl_iload_n (j := 0) dL_law_446 rfl ?_
  refine zl_iconst (v := 1) dL_law_447 (by decide) ?_
  refine zl_iadd dL_law_448 ?_
  refine zl_sld dL_law_449 (l_ix 1 (by decide) hk hL) ?_
  refine zl_V1i cv_L_49 rfl dL_law_450 (l_m95 X2 M D2) rfl (Nat.le_of_ble_eq_true rfl) (hm X2 D2 hΦ) (fun y2 h2 q2 => ?_)
  obtain ⟨rfl, M2, rfl, hR⟩ := q2
  refine zl_icmp_eq dL_law_453 (tgt := 1494) (by decide) (fun _ => ?_) (fun c9 => absurd rfl c9)
  exact zl_room (by omega) (by omega) (kk _ _ _ hR)
theorem l_c8 {sb sL : Nat} {sx : Nat → Int32} {X : XZ} {M : MZ} {D : HP} {mc ms : Nat} (k : Nat) (hk : 6 * k + 6 ≤ sL) (hL : sL ≤ 3072) (h : RR X M D) (kk : ∀ X2 M2 D2, RR X2 M2 D2 → SemL sb sL sx 41 qLaw mc ms 1494 [(3, .int (nI (6 * k))), (2, .ref 95), (1, .ref 0), (0, .float 400)] [] (xh X2 M2 D2)) : SemL sb sL sx 41 qLaw (mc + 12) (ms + 180) 458 [(3, .int (nI (6 * k))), (2, .ref 95), (1, .ref 0), (0, .float 400)] [] (xh X M D) := by
  obtain ⟨mc1, ms1, a, Φ, h12, h180, hx, hm⟩ := pr_score h (sx (nI (6 * k) + 1).toNatClampNeg) (sx (nI (6 * k) + 2).toNatClampNeg)
  refine zl_aload_nr (j := 2) dL_law_458 rfl ?_
  refine zl_aload_ne (j := 3) dL_law_459 rfl ?_
  refine zl_iload_n (j := 0) dL_law_460 rfl ?_
  refine zl_iconst (v := 1) dL_law_461 (by decide) ?_
  refine zl_iadd dL_law_462 ?_
  refine zl_sld dL_law_463 (l_ix 1 (by decide) hk hL) ?_
  refine zl_aload_ne (j := 3) dL_law_464 rfl ?_
  refine zl_iload_n (j := 0) dL_law_465 rfl ?_
  refine zl_iconst (v := 2) dL_law_466 (by decide) ?_
  refine zl_iadd dL_law_467 ?_
  refine zl_sld dL_law_468 (l_ix 2 (by decide) hk hL) ?_
  refine zl_V2im (mc := mc + (12 - mc1)) (ms := ms + (180 - ms1)) cv_L_50 rfl dL_law_469 xg_X11 rfl (Nat.le_of_ble_eq_true rfl) hx (by omega) (by omega) (fun y1 h1 q1 => ?_)
  obtain ⟨rfl, X2, D2, rfl, hΦ⟩ := q1
  refine zl_aload_nr (j := 1) dL_law_472 rfl ?_
  refine zl_aload_ne (j := 3) dL_law_473 rfl ?_
  refine zl_iload_n (j := 0) dL_law_474 rfl ?_
  refine zl_iconst (v := 1) dL_law_475 (by decide) ?_
  refine zl_iadd dL_law_476 ?_
  refine zl_sld dL_law_477 (l_ix 1 (by decide) hk hL) ?_
  refine zl_aload_ne (j := 3) dL_law_478 rfl ?_
  refine zl_iload_n (j := 0) dL_law_479 rfl ?_
  refine zl_iconst (v := 2) dL_law_480 (by decide) ?_
  refine zl_iadd dL_law_481 ?_
  refine zl_sld dL_law_482 (l_ix 2 (by decide) hk hL) ?_
  refine zl_V2i cv_L_53 rfl dL_law_483 (l_m95 X2 M D2) rfl (Nat.le_of_ble_eq_true rfl) (hm X2 D2 hΦ) (fun y2 h2 q2 => ?_)
  obtain ⟨rfl, M2, rfl, hR⟩ := q2
  refine zl_icmp_eq dL_law_486 (tgt := 1494) (by decide) (fun _ => ?_) (fun c9 => absurd rfl c9)
  exact zl_room (by omega) (by omega) (kk _ _ _ hR)
theorem l_c9 {sb sL : Nat} {sx : Nat → Int32} {X : XZ} {M : MZ} {D : HP} {mc ms : Nat} (k : Nat) (hk : 6 * k + 6 ≤ sL) (hL : sL ≤ 3072) (h : RR X M D) (kk : ∀ X2 M2 D2, RR X2 M2 D2 → SemL sb sL sx 41 qLaw mc ms 1494 [(3, .int (nI (6 * k))), (2, .ref 95), (1, .ref 0), (0, .float 400)] [] (xh X2 M2 D2)) : SemL sb sL sx 41 qLaw (mc + 12) (ms + 180) 491 [(3, .int (nI (6 * k))), (2, .ref 95), (1, .ref 0), (0, .float 400)] [] (xh X M D) := by
  obtain ⟨mc1, ms1, a, Φ, h12, h180, hx, hm⟩ := pr_chance h (sx (nI (6 * k) + 1).toNatClampNeg) (sx (nI (6 * k) + 2).toNatClampNeg) (sx (nI (6 * k) + 3).toNatClampNeg)
  refine zl_aload_nr (j := 2) dL_law_491 rfl ?_
  refine zl_aload_ne (j := 3) dL_law_492 rfl ?_
  refine zl_iload_n (j := 0) dL_law_493 rfl ?_
  refine zl_iconst (v := 1) dL_law_494 (by decide) ?_
  refine zl_iadd dL_law_495 ?_
  refine zl_sld dL_law_496 (l_ix 1 (by decide) hk hL) ?_
  refine zl_aload_ne (j := 3) dL_law_497 rfl ?_
  refine zl_iload_n (j := 0) dL_law_498 rfl ?_
  refine zl_iconst (v := 2) dL_law_499 (by decide) ?_
  refine zl_iadd dL_law_500 ?_
  refine zl_sld dL_law_501 (l_ix 2 (by decide) hk hL) ?_
  refine zl_aload_ne (j := 3) dL_law_502 rfl ?_
  refine zl_iload_n (j := 0) dL_law_503 rfl ?_
  refine zl_iconst (v := 3) dL_law_504 (by decide) ?_
  refine zl_iadd dL_law_505 ?_
  refine zl_sld dL_law_506 (l_ix 3 (by decide) hk hL) ?_
  refine zl_V3im (mc := mc + (12 - mc1)) (ms := ms + (180 - ms1)) cv_L_54 rfl dL_law_507 xg_X11 rfl (Nat.le_of_ble_eq_true rfl) hx (by omega) (by omega) (fun y1 h1 q1 => ?_)
  obtain ⟨rfl, X2, D2, rfl, hΦ⟩ := q1
  refine zl_aload_nr (j := 1) dL_law_510 rfl ?_
  refine zl_aload_ne (j := 3) dL_law_511 rfl ?_
  refine zl_iload_n (j := 0) dL_law_512 rfl ?_
  refine zl_iconst (v := 1) dL_law_513 (by decide) ?_
  refine zl_iadd dL_law_514 ?_
  refine zl_sld dL_law_515 (l_ix 1 (by decide) hk hL) ?_
  refine zl_aload_ne (j := 3) dL_law_516 rfl ?_
  refine zl_iload_n (j := 0) dL_law_517 rfl ?_
  refine zl_iconst (v := 2) dL_law_518 (by decide) ?_
  refine zl_iadd dL_law_519 ?_
  refine zl_sld dL_law_520 (l_ix 2 (by decide) hk hL) ?_
  refine zl_aload_ne (j := 3) dL_law_521 rfl ?_
  refine zl_iload_n (j := 0) dL_law_522 rfl ?_
  refine zl_iconst (v := 3) dL_law_523 (by decide) ?_
  refine zl_iadd dL_law_524 ?_
  refine zl_sld dL_law_525 (l_ix 3 (by decide) hk hL) ?_
  refine zl_V3i cv_L_57 rfl dL_law_526 (l_m95 X2 M D2) rfl (Nat.le_of_ble_eq_true rfl) (hm X2 D2 hΦ) (fun y2 h2 q2 => ?_)
  obtain ⟨rfl, M2, rfl, hR⟩ := q2
  refine zl_icmp_eq dL_law_529 (tgt := 1494) (by decide) (fun _ => ?_) (fun c9 => absurd rfl c9)
  exact zl_room (by omega) (by omega) (kk _ _ _ hR)
theorem l_c10 {sb sL : Nat} {sx : Nat → Int32} {X : XZ} {M : MZ} {D : HP} {mc ms : Nat} (k : Nat) (hk : 6 * k + 6 ≤ sL) (hL : sL ≤ 3072) (h : RR X M D) (kk : ∀ X2 M2 D2, RR X2 M2 D2 → SemL sb sL sx 41 qLaw mc ms 1494 [(3, .int (nI (6 * k))), (2, .ref 95), (1, .ref 0), (0, .float 400)] [] (xh X2 M2 D2)) : SemL sb sL sx 41 qLaw (mc + 12) (ms + 180) 534 [(3, .int (nI (6 * k))), (2, .ref 95), (1, .ref 0), (0, .float 400)] [] (xh X M D) := by
  obtain ⟨mc1, ms1, a, Φ, h12, h180, hx, hm⟩ := pr_faults h (sx (nI (6 * k) + 1).toNatClampNeg) (sx (nI (6 * k) + 2).toNatClampNeg) (sx (nI (6 * k) + 3).toNatClampNeg)
  refine zl_aload_nr (j := 2) dL_law_534 rfl ?_
  refine zl_aload_ne (j := 3) dL_law_535 rfl ?_
  refine zl_iload_n (j := 0) dL_law_536 rfl ?_
  refine zl_iconst (v := 1) dL_law_537 (by decide) ?_
  refine zl_iadd dL_law_538 ?_
  refine zl_sld dL_law_539 (l_ix 1 (by decide) hk hL) ?_
  refine zl_aload_ne (j := 3) dL_law_540 rfl ?_
  refine zl_iload_n (j := 0) dL_law_541 rfl ?_
  refine zl_iconst (v := 2) dL_law_542 (by decide) ?_
  refine zl_iadd dL_law_543 ?_
  refine zl_sld dL_law_544 (l_ix 2 (by decide) hk hL) ?_
  refine zl_aload_ne (j := 3) dL_law_545 rfl ?_
  refine zl_iload_n (j := 0) dL_law_546 rfl ?_
  refine zl_iconst (v := 3) dL_law_547 (by decide) ?_
  refine zl_iadd dL_law_548 ?_
  refine zl_sld dL_law_549 (l_ix 3 (by decide) hk hL) ?_
  refine zl_V3im (mc := mc + (12 - mc1)) (ms := ms + (180 - ms1)) cv_L_58 rfl dL_law_550 xg_X11 rfl (Nat.le_of_ble_eq_true rfl) hx (by omega) (by omega) (fun y1 h1 q1 => ?_)
  obtain ⟨rfl, X2, D2, rfl, hΦ⟩ := q1
  refine zl_aload_nr (j := 1) dL_law_553 rfl ?_
  refine zl_aload_ne (j := 3) dL_law_554 rfl ?_
  refine zl_iload_n (j := 0) dL_law_555 rfl ?_
  refine zl_iconst (v := 1) dL_law_556 (by decide) ?_
  refine zl_iadd dL_law_557 ?_
  refine zl_sld dL_law_558 (l_ix 1 (by decide) hk hL) ?_
  refine zl_aload_ne (j := 3) dL_law_559 rfl ?_
  refine zl_iload_n (j := 0) dL_law_560 rfl ?_
  refine zl_iconst (v := 2) dL_law_561 (by decide) ?_
  refine zl_iadd dL_law_562 ?_
  refine zl_sld dL_law_563 (l_ix 2 (by decide) hk hL) ?_
  refine zl_aload_ne (j := 3) dL_law_564 rfl ?_
  refine zl_iload_n (j := 0) dL_law_565 rfl ?_
  refine zl_iconst (v := 3) dL_law_566 (by decide) ?_
  refine zl_iadd dL_law_567 ?_
  refine zl_sld dL_law_568 (l_ix 3 (by decide) hk hL) ?_
  refine zl_V3i cv_L_61 rfl dL_law_569 (l_m95 X2 M D2) rfl (Nat.le_of_ble_eq_true rfl) (hm X2 D2 hΦ) (fun y2 h2 q2 => ?_)
  obtain ⟨rfl, M2, rfl, hR⟩ := q2
  refine zl_icmp_eq dL_law_572 (tgt := 1494) (by decide) (fun _ => ?_) (fun c9 => absurd rfl c9)
  exact zl_room (by omega) (by omega) (kk _ _ _ hR)
theorem l_c11 {sb sL : Nat} {sx : Nat → Int32} {X : XZ} {M : MZ} {D : HP} {mc ms : Nat} (k : Nat) (hk : 6 * k + 6 ≤ sL) (hL : sL ≤ 3072) (h : RR X M D) (kk : ∀ X2 M2 D2, RR X2 M2 D2 → SemL sb sL sx 41 qLaw mc ms 1494 [(3, .int (nI (6 * k))), (2, .ref 95), (1, .ref 0), (0, .float 400)] [] (xh X2 M2 D2)) : SemL sb sL sx 41 qLaw (mc + 12) (ms + 180) 577 [(3, .int (nI (6 * k))), (2, .ref 95), (1, .ref 0), (0, .float 400)] [] (xh X M D) := by
  obtain ⟨mc1, ms1, a, Φ, h12, h180, hx, hm⟩ := pr_play h (sx (nI (6 * k) + 1).toNatClampNeg) (sx (nI (6 * k) + 2).toNatClampNeg) (sx (nI (6 * k) + 3).toNatClampNeg)
  refine zl_aload_nr (j := 2) dL_law_577 rfl ?_
  refine zl_aload_ne (j := 3) dL_law_578 rfl ?_
  refine zl_iload_n (j := 0) dL_law_579 rfl ?_
  refine zl_iconst (v := 1) dL_law_580 (by decide) ?_
  refine zl_iadd dL_law_581 ?_
  refine zl_sld dL_law_582 (l_ix 1 (by decide) hk hL) ?_
  refine zl_aload_ne (j := 3) dL_law_583 rfl ?_
  refine zl_iload_n (j := 0) dL_law_584 rfl ?_
  refine zl_iconst (v := 2) dL_law_585 (by decide) ?_
  refine zl_iadd dL_law_586 ?_
  refine zl_sld dL_law_587 (l_ix 2 (by decide) hk hL) ?_
  refine zl_aload_ne (j := 3) dL_law_588 rfl ?_
  refine zl_iload_n (j := 0) dL_law_589 rfl ?_
  refine zl_iconst (v := 3) dL_law_590 (by decide) ?_
  refine zl_iadd dL_law_591 ?_
  refine zl_sld dL_law_592 (l_ix 3 (by decide) hk hL) ?_
  refine zl_V3im (mc := mc + (12 - mc1)) (ms := ms + (180 - ms1)) cv_L_62 rfl dL_law_593 xg_X11 rfl (Nat.le_of_ble_eq_true rfl) hx (by omega) (by omega) (fun y1 h1 q1 => ?_)
  obtain ⟨rfl, X2, D2, rfl, hΦ⟩ := q1
  refine zl_aload_nr (j := 1) dL_law_596 rfl ?_
  refine zl_aload_ne (j := 3) dL_law_597 rfl ?_
  refine zl_iload_n (j := 0) dL_law_598 rfl ?_
  refine zl_iconst (v := 1) dL_law_599 (by decide) ?_
  refine zl_iadd dL_law_600 ?_
  refine zl_sld dL_law_601 (l_ix 1 (by decide) hk hL) ?_
  refine zl_aload_ne (j := 3) dL_law_602 rfl ?_
  refine zl_iload_n (j := 0) dL_law_603 rfl ?_
  refine zl_iconst (v := 2) dL_law_604 (by decide) ?_
  refine zl_iadd dL_law_605 ?_
  refine zl_sld dL_law_606 (l_ix 2 (by decide) hk hL) ?_
  refine zl_aload_ne (j := 3) dL_law_607 rfl ?_
  refine zl_iload_n (j := 0) dL_law_608 rfl ?_
  refine zl_iconst (v := 3) dL_law_609 (by decide) ?_
  refine zl_iadd dL_law_610 ?_
  refine zl_sld dL_law_611 (l_ix 3 (by decide) hk hL) ?_
  refine zl_V3i cv_L_65 rfl dL_law_612 (l_m95 X2 M D2) rfl (Nat.le_of_ble_eq_true rfl) (hm X2 D2 hΦ) (fun y2 h2 q2 => ?_)
  obtain ⟨rfl, M2, rfl, hR⟩ := q2
  refine zl_icmp_eq dL_law_615 (tgt := 1494) (by decide) (fun _ => ?_) (fun c9 => absurd rfl c9)
  exact zl_room (by omega) (by omega) (kk _ _ _ hR)
theorem l_c12 {sb sL : Nat} {sx : Nat → Int32} {X : XZ} {M : MZ} {D : HP} {mc ms : Nat} (k : Nat) (hk : 6 * k + 6 ≤ sL) (hL : sL ≤ 3072) (h : RR X M D) (kk : ∀ X2 M2 D2, RR X2 M2 D2 → SemL sb sL sx 41 qLaw mc ms 1494 [(3, .int (nI (6 * k))), (2, .ref 95), (1, .ref 0), (0, .float 400)] [] (xh X2 M2 D2)) : SemL sb sL sx 41 qLaw (mc + 12) (ms + 180) 620 [(3, .int (nI (6 * k))), (2, .ref 95), (1, .ref 0), (0, .float 400)] [] (xh X M D) := by
  obtain ⟨mc1, ms1, a, Φ, h12, h180, hx, hm⟩ := pr_best h (sx (nI (6 * k) + 1).toNatClampNeg) (sx (nI (6 * k) + 2).toNatClampNeg)
  refine zl_aload_nr (j := 2) dL_law_620 rfl ?_
  refine zl_aload_ne (j := 3) dL_law_621 rfl ?_
  refine zl_iload_n (j := 0) dL_law_622 rfl ?_
  refine zl_iconst (v := 1) dL_law_623 (by decide) ?_
  refine zl_iadd dL_law_624 ?_
  refine zl_sld dL_law_625 (l_ix 1 (by decide) hk hL) ?_
  refine zl_aload_ne (j := 3) dL_law_626 rfl ?_
  refine zl_iload_n (j := 0) dL_law_627 rfl ?_
  refine zl_iconst (v := 2) dL_law_628 (by decide) ?_
  refine zl_iadd dL_law_629 ?_
  refine zl_sld dL_law_630 (l_ix 2 (by decide) hk hL) ?_
  refine zl_V2im (mc := mc + (12 - mc1)) (ms := ms + (180 - ms1)) cv_L_66 rfl dL_law_631 xg_X11 rfl (Nat.le_of_ble_eq_true rfl) hx (by omega) (by omega) (fun y1 h1 q1 => ?_)
  obtain ⟨rfl, X2, D2, rfl, hΦ⟩ := q1
  refine zl_aload_nr (j := 1) dL_law_634 rfl ?_
  refine zl_aload_ne (j := 3) dL_law_635 rfl ?_
  refine zl_iload_n (j := 0) dL_law_636 rfl ?_
  refine zl_iconst (v := 1) dL_law_637 (by decide) ?_
  refine zl_iadd dL_law_638 ?_
  refine zl_sld dL_law_639 (l_ix 1 (by decide) hk hL) ?_
  refine zl_aload_ne (j := 3) dL_law_640 rfl ?_
  refine zl_iload_n (j := 0) dL_law_641 rfl ?_
  refine zl_iconst (v := 2) dL_law_642 (by decide) ?_
  refine zl_iadd dL_law_643 ?_
  refine zl_sld dL_law_644 (l_ix 2 (by decide) hk hL) ?_
  refine zl_V2i cv_L_69 rfl dL_law_645 (l_m95 X2 M D2) rfl (Nat.le_of_ble_eq_true rfl) (hm X2 D2 hΦ) (fun y2 h2 q2 => ?_)
  obtain ⟨rfl, M2, rfl, hR⟩ := q2
  refine zl_icmp_eq dL_law_648 (tgt := 1494) (by decide) (fun _ => ?_) (fun c9 => absurd rfl c9)
  exact zl_room (by omega) (by omega) (kk _ _ _ hR)
theorem l_c13 {sb sL : Nat} {sx : Nat → Int32} {X : XZ} {M : MZ} {D : HP} {mc ms : Nat} (k : Nat) (hk : 6 * k + 6 ≤ sL) (hL : sL ≤ 3072) (h : RR X M D) (kk : ∀ X2 M2 D2, RR X2 M2 D2 → SemL sb sL sx 41 qLaw mc ms 1494 [(3, .int (nI (6 * k))), (2, .ref 95), (1, .ref 0), (0, .float 400)] [] (xh X2 M2 D2)) : SemL sb sL sx 41 qLaw (mc + 12) (ms + 180) 653 [(3, .int (nI (6 * k))), (2, .ref 95), (1, .ref 0), (0, .float 400)] [] (xh X M D) := by
  obtain ⟨mc1, ms1, a, Φ, h12, h180, hx, hm⟩ := pr_risk h (sx (nI (6 * k) + 1).toNatClampNeg)
  refine zl_aload_nr (j := 2) dL_law_653 rfl ?_
  refine zl_aload_ne (j := 3) dL_law_654 rfl ?_
  refine zl_iload_n (j := 0) dL_law_655 rfl ?_
  refine zl_iconst (v := 1) dL_law_656 (by decide) ?_
  refine zl_iadd dL_law_657 ?_
  refine zl_sld dL_law_658 (l_ix 1 (by decide) hk hL) ?_
  refine zl_V1im (mc := mc + (12 - mc1)) (ms := ms + (180 - ms1)) cv_L_70 rfl dL_law_659 xg_X11 rfl (Nat.le_of_ble_eq_true rfl) hx (by omega) (by omega) (fun y1 h1 q1 => ?_)
  obtain ⟨rfl, X2, D2, rfl, hΦ⟩ := q1
  refine zl_aload_nr (j := 1) dL_law_662 rfl ?_
  refine zl_aload_ne (j := 3) dL_law_663 rfl ?_
  refine zl_iload_n (j := 0) dL_law_664 rfl ?_
  refine zl_iconst (v := 1) dL_law_665 (by decide) ?_
  refine zl_iadd dL_law_666 ?_
  refine zl_sld dL_law_667 (l_ix 1 (by decide) hk hL) ?_
  refine zl_V1i cv_L_73 rfl dL_law_668 (l_m95 X2 M D2) rfl (Nat.le_of_ble_eq_true rfl) (hm X2 D2 hΦ) (fun y2 h2 q2 => ?_)
  obtain ⟨rfl, M2, rfl, hR⟩ := q2
  refine zl_icmp_eq dL_law_671 (tgt := 1494) (by decide) (fun _ => ?_) (fun c9 => absurd rfl c9)
  exact zl_room (by omega) (by omega) (kk _ _ _ hR)
theorem l_c14 {sb sL : Nat} {sx : Nat → Int32} {X : XZ} {M : MZ} {D : HP} {mc ms : Nat} (k : Nat) (hk : 6 * k + 6 ≤ sL) (hL : sL ≤ 3072) (h : RR X M D) (kk : ∀ X2 M2 D2, RR X2 M2 D2 → SemL sb sL sx 41 qLaw mc ms 1494 [(3, .int (nI (6 * k))), (2, .ref 95), (1, .ref 0), (0, .float 400)] [] (xh X2 M2 D2)) : SemL sb sL sx 41 qLaw (mc + 12) (ms + 180) 676 [(3, .int (nI (6 * k))), (2, .ref 95), (1, .ref 0), (0, .float 400)] [] (xh X M D) := by
  obtain ⟨mc1, ms1, a, Φ, h12, h180, hx, hm⟩ := pr_dare h (sx (nI (6 * k) + 1).toNatClampNeg)
  refine zl_aload_nr (j := 2) dL_law_676 rfl ?_
  refine zl_aload_ne (j := 3) dL_law_677 rfl ?_
  refine zl_iload_n (j := 0) dL_law_678 rfl ?_
  refine zl_iconst (v := 1) dL_law_679 (by decide) ?_
  refine zl_iadd dL_law_680 ?_
  refine zl_sld dL_law_681 (l_ix 1 (by decide) hk hL) ?_
  refine zl_V1im (mc := mc + (12 - mc1)) (ms := ms + (180 - ms1)) cv_L_74 rfl dL_law_682 xg_X11 rfl (Nat.le_of_ble_eq_true rfl) hx (by omega) (by omega) (fun y1 h1 q1 => ?_)
  obtain ⟨rfl, X2, D2, rfl, hΦ⟩ := q1
  refine zl_aload_nr (j := 1) dL_law_685 rfl ?_
  refine zl_aload_ne (j := 3) dL_law_686 rfl ?_
  refine zl_iload_n (j := 0) dL_law_687 rfl ?_
  refine zl_iconst (v := 1) dL_law_688 (by decide) ?_
  refine zl_iadd dL_law_689 ?_
  refine zl_sld dL_law_690 (l_ix 1 (by decide) hk hL) ?_
  refine zl_V1i cv_L_77 rfl dL_law_691 (l_m95 X2 M D2) rfl (Nat.le_of_ble_eq_true rfl) (hm X2 D2 hΦ) (fun y2 h2 q2 => ?_)
  obtain ⟨rfl, M2, rfl, hR⟩ := q2
  refine zl_icmp_eq dL_law_694 (tgt := 1494) (by decide) (fun _ => ?_) (fun c9 => absurd rfl c9)
  exact zl_room (by omega) (by omega) (kk _ _ _ hR)
theorem l_c15 {sb sL : Nat} {sx : Nat → Int32} {X : XZ} {M : MZ} {D : HP} {mc ms : Nat} (k : Nat) (hk : 6 * k + 6 ≤ sL) (hL : sL ≤ 3072) (h : RR X M D) (kk : ∀ X2 M2 D2, RR X2 M2 D2 → SemL sb sL sx 41 qLaw mc ms 1494 [(3, .int (nI (6 * k))), (2, .ref 95), (1, .ref 0), (0, .float 400)] [] (xh X2 M2 D2)) : SemL sb sL sx 41 qLaw (mc + 12) (ms + 180) 699 [(3, .int (nI (6 * k))), (2, .ref 95), (1, .ref 0), (0, .float 400)] [] (xh X M D) := by
  obtain ⟨mc1, ms1, a, Φ, h12, h180, hx, hm⟩ := pr_more h (sx (nI (6 * k) + 1).toNatClampNeg) (sx (nI (6 * k) + 2).toNatClampNeg)
  refine zl_aload_nr (j := 2) dL_law_699 rfl ?_
  refine zl_aload_ne (j := 3) dL_law_700 rfl ?_
  refine zl_iload_n (j := 0) dL_law_701 rfl ?_
  refine zl_iconst (v := 1) dL_law_702 (by decide) ?_
  refine zl_iadd dL_law_703 ?_
  refine zl_sld dL_law_704 (l_ix 1 (by decide) hk hL) ?_
  refine zl_aload_ne (j := 3) dL_law_705 rfl ?_
  refine zl_iload_n (j := 0) dL_law_706 rfl ?_
  refine zl_iconst (v := 2) dL_law_707 (by decide) ?_
  refine zl_iadd dL_law_708 ?_
  refine zl_sld dL_law_709 (l_ix 2 (by decide) hk hL) ?_
  refine zl_V2im (mc := mc + (12 - mc1)) (ms := ms + (180 - ms1)) cv_L_78 rfl dL_law_710 xg_X11 rfl (Nat.le_of_ble_eq_true rfl) hx (by omega) (by omega) (fun y1 h1 q1 => ?_)
  obtain ⟨rfl, X2, D2, rfl, hΦ⟩ := q1
  refine zl_aload_nr (j := 1) dL_law_713 rfl ?_
  refine zl_aload_ne (j := 3) dL_law_714 rfl ?_
  refine zl_iload_n (j := 0) dL_law_715 rfl ?_
  refine zl_iconst (v := 1) dL_law_716 (by decide) ?_
  refine zl_iadd dL_law_717 ?_
  refine zl_sld dL_law_718 (l_ix 1 (by decide) hk hL) ?_
  refine zl_aload_ne (j := 3) dL_law_719 rfl ?_
  refine zl_iload_n (j := 0) dL_law_720 rfl ?_
  refine zl_iconst (v := 2) dL_law_721 (by decide) ?_
  refine zl_iadd dL_law_722 ?_
  refine zl_sld dL_law_723 (l_ix 2 (by decide) hk hL) ?_
  refine zl_V2i cv_L_81 rfl dL_law_724 (l_m95 X2 M D2) rfl (Nat.le_of_ble_eq_true rfl) (hm X2 D2 hΦ) (fun y2 h2 q2 => ?_)
  obtain ⟨rfl, M2, rfl, hR⟩ := q2
  refine zl_icmp_eq dL_law_727 (tgt := 1494) (by decide) (fun _ => ?_) (fun c9 => absurd rfl c9)
  exact zl_room (by omega) (by omega) (kk _ _ _ hR)
theorem l_c16 {sb sL : Nat} {sx : Nat → Int32} {X : XZ} {M : MZ} {D : HP} {mc ms : Nat} (k : Nat) (hk : 6 * k + 6 ≤ sL) (hL : sL ≤ 3072) (h : RR X M D) (kk : ∀ X2 M2 D2, RR X2 M2 D2 → SemL sb sL sx 41 qLaw mc ms 1494 [(3, .int (nI (6 * k))), (2, .ref 95), (1, .ref 0), (0, .float 400)] [] (xh X2 M2 D2)) : SemL sb sL sx 41 qLaw (mc + 12) (ms + 180) 732 [(3, .int (nI (6 * k))), (2, .ref 95), (1, .ref 0), (0, .float 400)] [] (xh X M D) := by
  obtain ⟨mc1, ms1, a, Φ, h12, h180, hx, hm⟩ := pr_safe h (sx (nI (6 * k) + 1).toNatClampNeg) (sx (nI (6 * k) + 2).toNatClampNeg)
  refine zl_aload_nr (j := 2) dL_law_732 rfl ?_
  refine zl_aload_ne (j := 3) dL_law_733 rfl ?_
  refine zl_iload_n (j := 0) dL_law_734 rfl ?_
  refine zl_iconst (v := 1) dL_law_735 (by decide) ?_
  refine zl_iadd dL_law_736 ?_
  refine zl_sld dL_law_737 (l_ix 1 (by decide) hk hL) ?_
  refine zl_aload_ne (j := 3) dL_law_738 rfl ?_
  refine zl_iload_n (j := 0) dL_law_739 rfl ?_
  refine zl_iconst (v := 2) dL_law_740 (by decide) ?_
  refine zl_iadd dL_law_741 ?_
  refine zl_sld dL_law_742 (l_ix 2 (by decide) hk hL) ?_
  refine zl_V2im (mc := mc + (12 - mc1)) (ms := ms + (180 - ms1)) cv_L_82 rfl dL_law_743 xg_X11 rfl (Nat.le_of_ble_eq_true rfl) hx (by omega) (by omega) (fun y1 h1 q1 => ?_)
  obtain ⟨rfl, X2, D2, rfl, hΦ⟩ := q1
  refine zl_aload_nr (j := 1) dL_law_746 rfl ?_
  refine zl_aload_ne (j := 3) dL_law_747 rfl ?_
  refine zl_iload_n (j := 0) dL_law_748 rfl ?_
  refine zl_iconst (v := 1) dL_law_749 (by decide) ?_
  refine zl_iadd dL_law_750 ?_
  refine zl_sld dL_law_751 (l_ix 1 (by decide) hk hL) ?_
  refine zl_aload_ne (j := 3) dL_law_752 rfl ?_
  refine zl_iload_n (j := 0) dL_law_753 rfl ?_
  refine zl_iconst (v := 2) dL_law_754 (by decide) ?_
  refine zl_iadd dL_law_755 ?_
  refine zl_sld dL_law_756 (l_ix 2 (by decide) hk hL) ?_
  refine zl_V2i cv_L_85 rfl dL_law_757 (l_m95 X2 M D2) rfl (Nat.le_of_ble_eq_true rfl) (hm X2 D2 hΦ) (fun y2 h2 q2 => ?_)
  obtain ⟨rfl, M2, rfl, hR⟩ := q2
  refine zl_icmp_eq dL_law_760 (tgt := 1494) (by decide) (fun _ => ?_) (fun c9 => absurd rfl c9)
  exact zl_room (by omega) (by omega) (kk _ _ _ hR)
theorem l_c17 {sb sL : Nat} {sx : Nat → Int32} {X : XZ} {M : MZ} {D : HP} {mc ms : Nat} (k : Nat) (hk : 6 * k + 6 ≤ sL) (hL : sL ≤ 3072) (h : RR X M D) (kk : ∀ X2 M2 D2, RR X2 M2 D2 → SemL sb sL sx 41 qLaw mc ms 1494 [(3, .int (nI (6 * k))), (2, .ref 95), (1, .ref 0), (0, .float 400)] [] (xh X2 M2 D2)) : SemL sb sL sx 41 qLaw (mc + 12) (ms + 180) 765 [(3, .int (nI (6 * k))), (2, .ref 95), (1, .ref 0), (0, .float 400)] [] (xh X M D) := by
  obtain ⟨mc1, ms1, a, Φ, h12, h180, hx, hm⟩ := pr_stand h (sx (nI (6 * k) + 1).toNatClampNeg) (sx (nI (6 * k) + 2).toNatClampNeg)
  refine zl_aload_nr (j := 2) dL_law_765 rfl ?_
  refine zl_aload_ne (j := 3) dL_law_766 rfl ?_
  refine zl_iload_n (j := 0) dL_law_767 rfl ?_
  refine zl_iconst (v := 1) dL_law_768 (by decide) ?_
  refine zl_iadd dL_law_769 ?_
  refine zl_sld dL_law_770 (l_ix 1 (by decide) hk hL) ?_
  refine zl_aload_ne (j := 3) dL_law_771 rfl ?_
  refine zl_iload_n (j := 0) dL_law_772 rfl ?_
  refine zl_iconst (v := 2) dL_law_773 (by decide) ?_
  refine zl_iadd dL_law_774 ?_
  refine zl_sld dL_law_775 (l_ix 2 (by decide) hk hL) ?_
  refine zl_V2im (mc := mc + (12 - mc1)) (ms := ms + (180 - ms1)) cv_L_86 rfl dL_law_776 xg_X11 rfl (Nat.le_of_ble_eq_true rfl) hx (by omega) (by omega) (fun y1 h1 q1 => ?_)
  obtain ⟨rfl, X2, D2, rfl, hΦ⟩ := q1
  refine zl_aload_nr (j := 1) dL_law_779 rfl ?_
  refine zl_aload_ne (j := 3) dL_law_780 rfl ?_
  refine zl_iload_n (j := 0) dL_law_781 rfl ?_
  refine zl_iconst (v := 1) dL_law_782 (by decide) ?_
  refine zl_iadd dL_law_783 ?_
  refine zl_sld dL_law_784 (l_ix 1 (by decide) hk hL) ?_
  refine zl_aload_ne (j := 3) dL_law_785 rfl ?_
  refine zl_iload_n (j := 0) dL_law_786 rfl ?_
  refine zl_iconst (v := 2) dL_law_787 (by decide) ?_
  refine zl_iadd dL_law_788 ?_
  refine zl_sld dL_law_789 (l_ix 2 (by decide) hk hL) ?_
  refine zl_V2i cv_L_89 rfl dL_law_790 (l_m95 X2 M D2) rfl (Nat.le_of_ble_eq_true rfl) (hm X2 D2 hΦ) (fun y2 h2 q2 => ?_)
  obtain ⟨rfl, M2, rfl, hR⟩ := q2
  refine zl_icmp_eq dL_law_793 (tgt := 1494) (by decide) (fun _ => ?_) (fun c9 => absurd rfl c9)
  exact zl_room (by omega) (by omega) (kk _ _ _ hR)
theorem l_c18 {sb sL : Nat} {sx : Nat → Int32} {X : XZ} {M : MZ} {D : HP} {mc ms : Nat} (k : Nat) (hk : 6 * k + 6 ≤ sL) (hL : sL ≤ 3072) (h : RR X M D) (kk : ∀ X2 M2 D2, RR X2 M2 D2 → SemL sb sL sx 41 qLaw mc ms 1494 [(3, .int (nI (6 * k))), (2, .ref 95), (1, .ref 0), (0, .float 400)] [] (xh X2 M2 D2)) : SemL sb sL sx 41 qLaw (mc + 12) (ms + 180) 798 [(3, .int (nI (6 * k))), (2, .ref 95), (1, .ref 0), (0, .float 400)] [] (xh X M D) := by
  obtain ⟨mc1, ms1, a, Φ, h12, h180, hx, hm⟩ := pr_game h (sx (nI (6 * k) + 1).toNatClampNeg) (sx (nI (6 * k) + 2).toNatClampNeg)
  refine zl_aload_nr (j := 2) dL_law_798 rfl ?_
  refine zl_aload_ne (j := 3) dL_law_799 rfl ?_
  refine zl_iload_n (j := 0) dL_law_800 rfl ?_
  refine zl_iconst (v := 1) dL_law_801 (by decide) ?_
  refine zl_iadd dL_law_802 ?_
  refine zl_sld dL_law_803 (l_ix 1 (by decide) hk hL) ?_
  refine zl_aload_ne (j := 3) dL_law_804 rfl ?_
  refine zl_iload_n (j := 0) dL_law_805 rfl ?_
  refine zl_iconst (v := 2) dL_law_806 (by decide) ?_
  refine zl_iadd dL_law_807 ?_
  refine zl_sld dL_law_808 (l_ix 2 (by decide) hk hL) ?_
  refine zl_V2im (mc := mc + (12 - mc1)) (ms := ms + (180 - ms1)) cv_L_90 rfl dL_law_809 xg_X11 rfl (Nat.le_of_ble_eq_true rfl) hx (by omega) (by omega) (fun y1 h1 q1 => ?_)
  obtain ⟨rfl, X2, D2, rfl, hΦ⟩ := q1
  refine zl_aload_nr (j := 1) dL_law_812 rfl ?_
  refine zl_aload_ne (j := 3) dL_law_813 rfl ?_
  refine zl_iload_n (j := 0) dL_law_814 rfl ?_
  refine zl_iconst (v := 1) dL_law_815 (by decide) ?_
  refine zl_iadd dL_law_816 ?_
  refine zl_sld dL_law_817 (l_ix 1 (by decide) hk hL) ?_
  refine zl_aload_ne (j := 3) dL_law_818 rfl ?_
  refine zl_iload_n (j := 0) dL_law_819 rfl ?_
  refine zl_iconst (v := 2) dL_law_820 (by decide) ?_
  refine zl_iadd dL_law_821 ?_
  refine zl_sld dL_law_822 (l_ix 2 (by decide) hk hL) ?_
  refine zl_V2i cv_L_93 rfl dL_law_823 (l_m95 X2 M D2) rfl (Nat.le_of_ble_eq_true rfl) (hm X2 D2 hΦ) (fun y2 h2 q2 => ?_)
  obtain ⟨rfl, M2, rfl, hR⟩ := q2
  refine zl_icmp_eq dL_law_826 (tgt := 1494) (by decide) (fun _ => ?_) (fun c9 => absurd rfl c9)
  exact zl_room (by omega) (by omega) (kk _ _ _ hR)
theorem l_c19 {sb sL : Nat} {sx : Nat → Int32} {X : XZ} {M : MZ} {D : HP} {mc ms : Nat} (k : Nat) (hk : 6 * k + 6 ≤ sL) (hL : sL ≤ 3072) (h : RR X M D) (kk : ∀ X2 M2 D2, RR X2 M2 D2 → SemL sb sL sx 41 qLaw mc ms 1494 [(3, .int (nI (6 * k))), (2, .ref 95), (1, .ref 0), (0, .float 400)] [] (xh X2 M2 D2)) : SemL sb sL sx 41 qLaw (mc + 12) (ms + 180) 831 [(3, .int (nI (6 * k))), (2, .ref 95), (1, .ref 0), (0, .float 400)] [] (xh X M D) := by
  obtain ⟨mc1, ms1, a, Φ, h12, h180, hx, hm⟩ := pr_swing h (sx (nI (6 * k) + 1).toNatClampNeg)
  refine zl_aload_nr (j := 2) dL_law_831 rfl ?_
  refine zl_aload_ne (j := 3) dL_law_832 rfl ?_
  refine zl_iload_n (j := 0) dL_law_833 rfl ?_
  refine zl_iconst (v := 1) dL_law_834 (by decide) ?_
  refine zl_iadd dL_law_835 ?_
  refine zl_sld dL_law_836 (l_ix 1 (by decide) hk hL) ?_
  refine zl_V1im (mc := mc + (12 - mc1)) (ms := ms + (180 - ms1)) cv_L_94 rfl dL_law_837 xg_X11 rfl (Nat.le_of_ble_eq_true rfl) hx (by omega) (by omega) (fun y1 h1 q1 => ?_)
  obtain ⟨rfl, X2, D2, rfl, hΦ⟩ := q1
  refine zl_aload_nr (j := 1) dL_law_840 rfl ?_
  refine zl_aload_ne (j := 3) dL_law_841 rfl ?_
  refine zl_iload_n (j := 0) dL_law_842 rfl ?_
  refine zl_iconst (v := 1) dL_law_843 (by decide) ?_
  refine zl_iadd dL_law_844 ?_
  refine zl_sld dL_law_845 (l_ix 1 (by decide) hk hL) ?_
  refine zl_V1i cv_L_97 rfl dL_law_846 (l_m95 X2 M D2) rfl (Nat.le_of_ble_eq_true rfl) (hm X2 D2 hΦ) (fun y2 h2 q2 => ?_)
  obtain ⟨rfl, M2, rfl, hR⟩ := q2
  refine zl_icmp_eq dL_law_849 (tgt := 1494) (by decide) (fun _ => ?_) (fun c9 => absurd rfl c9)
  exact zl_room (by omega) (by omega) (kk _ _ _ hR)
theorem l_c20 {sb sL : Nat} {sx : Nat → Int32} {X : XZ} {M : MZ} {D : HP} {mc ms : Nat} (k : Nat) (hk : 6 * k + 6 ≤ sL) (hL : sL ≤ 3072) (h : RR X M D) (kk : ∀ X2 M2 D2, RR X2 M2 D2 → SemL sb sL sx 41 qLaw mc ms 1494 [(3, .int (nI (6 * k))), (2, .ref 95), (1, .ref 0), (0, .float 400)] [] (xh X2 M2 D2)) : SemL sb sL sx 41 qLaw (mc + 12) (ms + 180) 854 [(3, .int (nI (6 * k))), (2, .ref 95), (1, .ref 0), (0, .float 400)] [] (xh X M D) := by
  obtain ⟨mc1, ms1, a, Φ, h12, h180, hx, hm⟩ := pr_match h (sx (nI (6 * k) + 1).toNatClampNeg) (sx (nI (6 * k) + 2).toNatClampNeg) (sx (nI (6 * k) + 3).toNatClampNeg)
  refine zl_aload_nr (j := 2) dL_law_854 rfl ?_
  refine zl_aload_ne (j := 3) dL_law_855 rfl ?_
  refine zl_iload_n (j := 0) dL_law_856 rfl ?_
  refine zl_iconst (v := 1) dL_law_857 (by decide) ?_
  refine zl_iadd dL_law_858 ?_
  refine zl_sld dL_law_859 (l_ix 1 (by decide) hk hL) ?_
  refine zl_aload_ne (j := 3) dL_law_860 rfl ?_
  refine zl_iload_n (j := 0) dL_law_861 rfl ?_
  refine zl_iconst (v := 2) dL_law_862 (by decide) ?_
  refine zl_iadd dL_law_863 ?_
  refine zl_sld dL_law_864 (l_ix 2 (by decide) hk hL) ?_
  refine zl_aload_ne (j := 3) dL_law_865 rfl ?_
  refine zl_iload_n (j := 0) dL_law_866 rfl ?_
  refine zl_iconst (v := 3) dL_law_867 (by decide) ?_
  refine zl_iadd dL_law_868 ?_
  refine zl_sld dL_law_869 (l_ix 3 (by decide) hk hL) ?_
  refine zl_V3im (mc := mc + (12 - mc1)) (ms := ms + (180 - ms1)) cv_L_98 rfl dL_law_870 xg_X11 rfl (Nat.le_of_ble_eq_true rfl) hx (by omega) (by omega) (fun y1 h1 q1 => ?_)
  obtain ⟨rfl, X2, D2, rfl, hΦ⟩ := q1
  refine zl_aload_nr (j := 1) dL_law_873 rfl ?_
  refine zl_aload_ne (j := 3) dL_law_874 rfl ?_
  refine zl_iload_n (j := 0) dL_law_875 rfl ?_
  refine zl_iconst (v := 1) dL_law_876 (by decide) ?_
  refine zl_iadd dL_law_877 ?_
  refine zl_sld dL_law_878 (l_ix 1 (by decide) hk hL) ?_
  refine zl_aload_ne (j := 3) dL_law_879 rfl ?_
  refine zl_iload_n (j := 0) dL_law_880 rfl ?_
  refine zl_iconst (v := 2) dL_law_881 (by decide) ?_
  refine zl_iadd dL_law_882 ?_
  refine zl_sld dL_law_883 (l_ix 2 (by decide) hk hL) ?_
  refine zl_aload_ne (j := 3) dL_law_884 rfl ?_
  refine zl_iload_n (j := 0) dL_law_885 rfl ?_
  refine zl_iconst (v := 3) dL_law_886 (by decide) ?_
  refine zl_iadd dL_law_887 ?_
  refine zl_sld dL_law_888 (l_ix 3 (by decide) hk hL) ?_
  refine zl_V3i cv_L_101 rfl dL_law_889 (l_m95 X2 M D2) rfl (Nat.le_of_ble_eq_true rfl) (hm X2 D2 hΦ) (fun y2 h2 q2 => ?_)
  obtain ⟨rfl, M2, rfl, hR⟩ := q2
  refine zl_icmp_eq dL_law_892 (tgt := 1494) (by decide) (fun _ => ?_) (fun c9 => absurd rfl c9)
  exact zl_room (by omega) (by omega) (kk _ _ _ hR)
theorem l_c21 {sb sL : Nat} {sx : Nat → Int32} {X : XZ} {M : MZ} {D : HP} {mc ms : Nat} (k : Nat) (hk : 6 * k + 6 ≤ sL) (hL : sL ≤ 3072) (h : RR X M D) (kk : ∀ X2 M2 D2, RR X2 M2 D2 → SemL sb sL sx 41 qLaw mc ms 1494 [(3, .int (nI (6 * k))), (2, .ref 95), (1, .ref 0), (0, .float 400)] [] (xh X2 M2 D2)) : SemL sb sL sx 41 qLaw (mc + 12) (ms + 180) 897 [(3, .int (nI (6 * k))), (2, .ref 95), (1, .ref 0), (0, .float 400)] [] (xh X M D) := by
  obtain ⟨mc1, ms1, a, Φ, h12, h180, hx, hm⟩ := pr_ahead h (sx (nI (6 * k) + 1).toNatClampNeg) (sx (nI (6 * k) + 2).toNatClampNeg) (sx (nI (6 * k) + 3).toNatClampNeg)
  refine zl_aload_nr (j := 2) dL_law_897 rfl ?_
  refine zl_aload_ne (j := 3) dL_law_898 rfl ?_
  refine zl_iload_n (j := 0) dL_law_899 rfl ?_
  refine zl_iconst (v := 1) dL_law_900 (by decide) ?_
  refine zl_iadd dL_law_901 ?_
  refine zl_sld dL_law_902 (l_ix 1 (by decide) hk hL) ?_
  refine zl_aload_ne (j := 3) dL_law_903 rfl ?_
  refine zl_iload_n (j := 0) dL_law_904 rfl ?_
  refine zl_iconst (v := 2) dL_law_905 (by decide) ?_
  refine zl_iadd dL_law_906 ?_
  refine zl_sld dL_law_907 (l_ix 2 (by decide) hk hL) ?_
  refine zl_aload_ne (j := 3) dL_law_908 rfl ?_
  refine zl_iload_n (j := 0) dL_law_909 rfl ?_
  refine zl_iconst (v := 3) dL_law_910 (by decide) ?_
  refine zl_iadd dL_law_911 ?_
  refine zl_sld dL_law_912 (l_ix 3 (by decide) hk hL) ?_
  refine zl_V3im (mc := mc + (12 - mc1)) (ms := ms + (180 - ms1)) cv_L_102 rfl dL_law_913 xg_X11 rfl (Nat.le_of_ble_eq_true rfl) hx (by omega) (by omega) (fun y1 h1 q1 => ?_)
  obtain ⟨rfl, X2, D2, rfl, hΦ⟩ := q1
  refine zl_aload_nr (j := 1) dL_law_916 rfl ?_
  refine zl_aload_ne (j := 3) dL_law_917 rfl ?_
  refine zl_iload_n (j := 0) dL_law_918 rfl ?_
  refine zl_iconst (v := 1) dL_law_919 (by decide) ?_
  refine zl_iadd dL_law_920 ?_
  refine zl_sld dL_law_921 (l_ix 1 (by decide) hk hL) ?_
  refine zl_aload_ne (j := 3) dL_law_922 rfl ?_
  refine zl_iload_n (j := 0) dL_law_923 rfl ?_
  refine zl_iconst (v := 2) dL_law_924 (by decide) ?_
  refine zl_iadd dL_law_925 ?_
  refine zl_sld dL_law_926 (l_ix 2 (by decide) hk hL) ?_
  refine zl_aload_ne (j := 3) dL_law_927 rfl ?_
  refine zl_iload_n (j := 0) dL_law_928 rfl ?_
  refine zl_iconst (v := 3) dL_law_929 (by decide) ?_
  refine zl_iadd dL_law_930 ?_
  refine zl_sld dL_law_931 (l_ix 3 (by decide) hk hL) ?_
  refine zl_V3i cv_L_105 rfl dL_law_932 (l_m95 X2 M D2) rfl (Nat.le_of_ble_eq_true rfl) (hm X2 D2 hΦ) (fun y2 h2 q2 => ?_)
  obtain ⟨rfl, M2, rfl, hR⟩ := q2
  refine zl_icmp_eq dL_law_935 (tgt := 1494) (by decide) (fun _ => ?_) (fun c9 => absurd rfl c9)
  exact zl_room (by omega) (by omega) (kk _ _ _ hR)
theorem l_c22 {sb sL : Nat} {sx : Nat → Int32} {X : XZ} {M : MZ} {D : HP} {mc ms : Nat} (k : Nat) (hk : 6 * k + 6 ≤ sL) (hL : sL ≤ 3072) (h : RR X M D) (kk : ∀ X2 M2 D2, RR X2 M2 D2 → SemL sb sL sx 41 qLaw mc ms 1494 [(3, .int (nI (6 * k))), (2, .ref 95), (1, .ref 0), (0, .float 400)] [] (xh X2 M2 D2)) : SemL sb sL sx 41 qLaw (mc + 12) (ms + 180) 940 [(3, .int (nI (6 * k))), (2, .ref 95), (1, .ref 0), (0, .float 400)] [] (xh X M D) := by
  obtain ⟨mc1, ms1, a, Φ, h12, h180, hx, hm⟩ := pr_see h (sx (nI (6 * k) + 1).toNatClampNeg) (sx (nI (6 * k) + 2).toNatClampNeg)
  refine zl_aload_nr (j := 2) dL_law_940 rfl ?_
  refine zl_aload_ne (j := 3) dL_law_941 rfl ?_
  refine zl_iload_n (j := 0) dL_law_942 rfl ?_
  refine zl_iconst (v := 1) dL_law_943 (by decide) ?_
  refine zl_iadd dL_law_944 ?_
  refine zl_sld dL_law_945 (l_ix 1 (by decide) hk hL) ?_
  refine zl_aload_ne (j := 3) dL_law_946 rfl ?_
  refine zl_iload_n (j := 0) dL_law_947 rfl ?_
  refine zl_iconst (v := 2) dL_law_948 (by decide) ?_
  refine zl_iadd dL_law_949 ?_
  refine zl_sld dL_law_950 (l_ix 2 (by decide) hk hL) ?_
  refine zl_V2im (mc := mc + (12 - mc1)) (ms := ms + (180 - ms1)) cv_L_106 rfl dL_law_951 xg_X11 rfl (Nat.le_of_ble_eq_true rfl) hx (by omega) (by omega) (fun y1 h1 q1 => ?_)
  obtain ⟨rfl, X2, D2, rfl, hΦ⟩ := q1
  refine zl_aload_nr (j := 1) dL_law_954 rfl ?_
  refine zl_aload_ne (j := 3) dL_law_955 rfl ?_
  refine zl_iload_n (j := 0) dL_law_956 rfl ?_
  refine zl_iconst (v := 1) dL_law_957 (by decide) ?_
  refine zl_iadd dL_law_958 ?_
  refine zl_sld dL_law_959 (l_ix 1 (by decide) hk hL) ?_
  refine zl_aload_ne (j := 3) dL_law_960 rfl ?_
  refine zl_iload_n (j := 0) dL_law_961 rfl ?_
  refine zl_iconst (v := 2) dL_law_962 (by decide) ?_
  refine zl_iadd dL_law_963 ?_
  refine zl_sld dL_law_964 (l_ix 2 (by decide) hk hL) ?_
  refine zl_V2i cv_L_109 rfl dL_law_965 (l_m95 X2 M D2) rfl (Nat.le_of_ble_eq_true rfl) (hm X2 D2 hΦ) (fun y2 h2 q2 => ?_)
  obtain ⟨rfl, M2, rfl, hR⟩ := q2
  refine zl_icmp_eq dL_law_968 (tgt := 1494) (by decide) (fun _ => ?_) (fun c9 => absurd rfl c9)
  exact zl_room (by omega) (by omega) (kk _ _ _ hR)
theorem l_c23 {sb sL : Nat} {sx : Nat → Int32} {X : XZ} {M : MZ} {D : HP} {mc ms : Nat} (k : Nat) (hk : 6 * k + 6 ≤ sL) (hL : sL ≤ 3072) (h : RR X M D) (kk : ∀ X2 M2 D2, RR X2 M2 D2 → SemL sb sL sx 41 qLaw mc ms 1494 [(3, .int (nI (6 * k))), (2, .ref 95), (1, .ref 0), (0, .float 400)] [] (xh X2 M2 D2)) : SemL sb sL sx 41 qLaw (mc + 12) (ms + 180) 973 [(3, .int (nI (6 * k))), (2, .ref 95), (1, .ref 0), (0, .float 400)] [] (xh X M D) := by
  obtain ⟨mc1, ms1, a, Φ, h12, h180, hx, hm⟩ := pr_who h 
  refine zl_aload_nr (j := 2) dL_law_973 rfl ?_
  refine zl_V0im (mc := mc + (12 - mc1)) (ms := ms + (180 - ms1)) cv_L_110 rfl dL_law_974 xg_X11 rfl (Nat.le_of_ble_eq_true rfl) hx (by omega) (by omega) (fun y1 h1 q1 => ?_)
  obtain ⟨rfl, X2, D2, rfl, hΦ⟩ := q1
  refine zl_aload_nr (j := 1) dL_law_977 rfl ?_
  refine zl_V0i cv_L_113 rfl dL_law_978 (l_m95 X2 M D2) rfl (Nat.le_of_ble_eq_true rfl) (hm X2 D2 hΦ) (fun y2 h2 q2 => ?_)
  obtain ⟨rfl, M2, rfl, hR⟩ := q2
  refine zl_icmp_eq dL_law_981 (tgt := 1494) (by decide) (fun _ => ?_) (fun c9 => absurd rfl c9)
  exact zl_room (by omega) (by omega) (kk _ _ _ hR)
theorem l_c24 {sb sL : Nat} {sx : Nat → Int32} {X : XZ} {M : MZ} {D : HP} {mc ms : Nat} (k : Nat) (hk : 6 * k + 6 ≤ sL) (hL : sL ≤ 3072) (h : RR X M D) (kk : ∀ X2 M2 D2, RR X2 M2 D2 → SemL sb sL sx 41 qLaw mc ms 1494 [(3, .int (nI (6 * k))), (2, .ref 95), (1, .ref 0), (0, .float 400)] [] (xh X2 M2 D2)) : SemL sb sL sx 41 qLaw (mc + 12) (ms + 180) 986 [(3, .int (nI (6 * k))), (2, .ref 95), (1, .ref 0), (0, .float 400)] [] (xh X M D) := by
  obtain ⟨mc1, ms1, a, Φ, h12, h180, hx, hm⟩ := pr_odds h (sx (nI (6 * k) + 1).toNatClampNeg) (sx (nI (6 * k) + 2).toNatClampNeg)
  refine zl_aload_nr (j := 2) dL_law_986 rfl ?_
  refine zl_aload_ne (j := 3) dL_law_987 rfl ?_
  refine zl_iload_n (j := 0) dL_law_988 rfl ?_
  refine zl_iconst (v := 1) dL_law_989 (by decide) ?_
  refine zl_iadd dL_law_990 ?_
  refine zl_sld dL_law_991 (l_ix 1 (by decide) hk hL) ?_
  refine zl_aload_ne (j := 3) dL_law_992 rfl ?_
  refine zl_iload_n (j := 0) dL_law_993 rfl ?_
  refine zl_iconst (v := 2) dL_law_994 (by decide) ?_
  refine zl_iadd dL_law_995 ?_
  refine zl_sld dL_law_996 (l_ix 2 (by decide) hk hL) ?_
  refine zl_V2lm (mc := mc + (12 - mc1)) (ms := ms + (180 - ms1)) cv_L_114 rfl dL_law_997 xg_X11 rfl (Nat.le_of_ble_eq_true rfl) hx (by omega) (by omega) (fun y1 h1 q1 => ?_)
  obtain ⟨rfl, X2, D2, rfl, hΦ⟩ := q1
  refine zl_aload_nr (j := 1) dL_law_1000 rfl ?_
  refine zl_aload_ne (j := 3) dL_law_1001 rfl ?_
  refine zl_iload_n (j := 0) dL_law_1002 rfl ?_
  refine zl_iconst (v := 1) dL_law_1003 (by decide) ?_
  refine zl_iadd dL_law_1004 ?_
  refine zl_sld dL_law_1005 (l_ix 1 (by decide) hk hL) ?_
  refine zl_aload_ne (j := 3) dL_law_1006 rfl ?_
  refine zl_iload_n (j := 0) dL_law_1007 rfl ?_
  refine zl_iconst (v := 2) dL_law_1008 (by decide) ?_
  refine zl_iadd dL_law_1009 ?_
  refine zl_sld dL_law_1010 (l_ix 2 (by decide) hk hL) ?_
  refine zl_V2l cv_L_118 rfl dL_law_1011 (l_m95 X2 M D2) rfl (Nat.le_of_ble_eq_true rfl) (hm X2 D2 hΦ) (fun y2 h2 q2 => ?_)
  obtain ⟨rfl, M2, rfl, hR⟩ := q2
  refine zl_lcmp dL_law_1014 ?_
  refine zl_if_eq dL_law_1015 (tgt := 1494) (by decide) (fun _ => ?_) (fun c9 => absurd ((lg_cmp_eq _ _).mpr rfl) c9)
  exact zl_room (by omega) (by omega) (kk _ _ _ hR)
theorem l_c25 {sb sL : Nat} {sx : Nat → Int32} {X : XZ} {M : MZ} {D : HP} {mc ms : Nat} (k : Nat) (hk : 6 * k + 6 ≤ sL) (hL : sL ≤ 3072) (h : RR X M D) (kk : ∀ X2 M2 D2, RR X2 M2 D2 → SemL sb sL sx 41 qLaw mc ms 1494 [(3, .int (nI (6 * k))), (2, .ref 95), (1, .ref 0), (0, .float 400)] [] (xh X2 M2 D2)) : SemL sb sL sx 41 qLaw (mc + 12) (ms + 180) 1020 [(3, .int (nI (6 * k))), (2, .ref 95), (1, .ref 0), (0, .float 400)] [] (xh X M D) := by
  obtain ⟨mc1, ms1, a, Φ, h12, h180, hx, hm⟩ := pr_mean h (sx (nI (6 * k) + 1).toNatClampNeg)
  refine zl_aload_nr (j := 2) dL_law_1020 rfl ?_
  refine zl_aload_ne (j := 3) dL_law_1021 rfl ?_
  refine zl_iload_n (j := 0) dL_law_1022 rfl ?_
  refine zl_iconst (v := 1) dL_law_1023 (by decide) ?_
  refine zl_iadd dL_law_1024 ?_
  refine zl_sld dL_law_1025 (l_ix 1 (by decide) hk hL) ?_
  refine zl_V1lm (mc := mc + (12 - mc1)) (ms := ms + (180 - ms1)) cv_L_119 rfl dL_law_1026 xg_X11 rfl (Nat.le_of_ble_eq_true rfl) hx (by omega) (by omega) (fun y1 h1 q1 => ?_)
  obtain ⟨rfl, X2, D2, rfl, hΦ⟩ := q1
  refine zl_aload_nr (j := 1) dL_law_1029 rfl ?_
  refine zl_aload_ne (j := 3) dL_law_1030 rfl ?_
  refine zl_iload_n (j := 0) dL_law_1031 rfl ?_
  refine zl_iconst (v := 1) dL_law_1032 (by decide) ?_
  refine zl_iadd dL_law_1033 ?_
  refine zl_sld dL_law_1034 (l_ix 1 (by decide) hk hL) ?_
  refine zl_V1l cv_L_123 rfl dL_law_1035 (l_m95 X2 M D2) rfl (Nat.le_of_ble_eq_true rfl) (hm X2 D2 hΦ) (fun y2 h2 q2 => ?_)
  obtain ⟨rfl, M2, rfl, hR⟩ := q2
  refine zl_lcmp dL_law_1038 ?_
  refine zl_if_eq dL_law_1039 (tgt := 1494) (by decide) (fun _ => ?_) (fun c9 => absurd ((lg_cmp_eq _ _).mpr rfl) c9)
  exact zl_room (by omega) (by omega) (kk _ _ _ hR)
theorem l_c26 {sb sL : Nat} {sx : Nat → Int32} {X : XZ} {M : MZ} {D : HP} {mc ms : Nat} (k : Nat) (hk : 6 * k + 6 ≤ sL) (hL : sL ≤ 3072) (h : RR X M D) (kk : ∀ X2 M2 D2, RR X2 M2 D2 → SemL sb sL sx 41 qLaw mc ms 1494 [(3, .int (nI (6 * k))), (2, .ref 95), (1, .ref 0), (0, .float 400)] [] (xh X2 M2 D2)) : SemL sb sL sx 41 qLaw (mc + 12) (ms + 180) 1044 [(3, .int (nI (6 * k))), (2, .ref 95), (1, .ref 0), (0, .float 400)] [] (xh X M D) := by
  obtain ⟨mc1, ms1, a, Φ, h12, h180, hx, hm⟩ := pr_book h (sx (nI (6 * k) + 1).toNatClampNeg) (sx (nI (6 * k) + 2).toNatClampNeg) (sx (nI (6 * k) + 3).toNatClampNeg)
  refine zl_aload_nr (j := 2) dL_law_1044 rfl ?_
  refine zl_aload_ne (j := 3) dL_law_1045 rfl ?_
  refine zl_iload_n (j := 0) dL_law_1046 rfl ?_
  refine zl_iconst (v := 1) dL_law_1047 (by decide) ?_
  refine zl_iadd dL_law_1048 ?_
  refine zl_sld dL_law_1049 (l_ix 1 (by decide) hk hL) ?_
  refine zl_aload_ne (j := 3) dL_law_1050 rfl ?_
  refine zl_iload_n (j := 0) dL_law_1051 rfl ?_
  refine zl_iconst (v := 2) dL_law_1052 (by decide) ?_
  refine zl_iadd dL_law_1053 ?_
  refine zl_sld dL_law_1054 (l_ix 2 (by decide) hk hL) ?_
  refine zl_aload_ne (j := 3) dL_law_1055 rfl ?_
  refine zl_iload_n (j := 0) dL_law_1056 rfl ?_
  refine zl_iconst (v := 3) dL_law_1057 (by decide) ?_
  refine zl_iadd dL_law_1058 ?_
  refine zl_sld dL_law_1059 (l_ix 3 (by decide) hk hL) ?_
  refine zl_V3im (mc := mc + (12 - mc1)) (ms := ms + (180 - ms1)) cv_L_124 rfl dL_law_1060 xg_X11 rfl (Nat.le_of_ble_eq_true rfl) hx (by omega) (by omega) (fun y1 h1 q1 => ?_)
  obtain ⟨rfl, X2, D2, rfl, hΦ⟩ := q1
  refine zl_aload_nr (j := 1) dL_law_1063 rfl ?_
  refine zl_aload_ne (j := 3) dL_law_1064 rfl ?_
  refine zl_iload_n (j := 0) dL_law_1065 rfl ?_
  refine zl_iconst (v := 1) dL_law_1066 (by decide) ?_
  refine zl_iadd dL_law_1067 ?_
  refine zl_sld dL_law_1068 (l_ix 1 (by decide) hk hL) ?_
  refine zl_aload_ne (j := 3) dL_law_1069 rfl ?_
  refine zl_iload_n (j := 0) dL_law_1070 rfl ?_
  refine zl_iconst (v := 2) dL_law_1071 (by decide) ?_
  refine zl_iadd dL_law_1072 ?_
  refine zl_sld dL_law_1073 (l_ix 2 (by decide) hk hL) ?_
  refine zl_aload_ne (j := 3) dL_law_1074 rfl ?_
  refine zl_iload_n (j := 0) dL_law_1075 rfl ?_
  refine zl_iconst (v := 3) dL_law_1076 (by decide) ?_
  refine zl_iadd dL_law_1077 ?_
  refine zl_sld dL_law_1078 (l_ix 3 (by decide) hk hL) ?_
  refine zl_V3i cv_L_127 rfl dL_law_1079 (l_m95 X2 M D2) rfl (Nat.le_of_ble_eq_true rfl) (hm X2 D2 hΦ) (fun y2 h2 q2 => ?_)
  obtain ⟨rfl, M2, rfl, hR⟩ := q2
  refine zl_icmp_eq dL_law_1082 (tgt := 1494) (by decide) (fun _ => ?_) (fun c9 => absurd rfl c9)
  exact zl_room (by omega) (by omega) (kk _ _ _ hR)
theorem l_c27 {sb sL : Nat} {sx : Nat → Int32} {X : XZ} {M : MZ} {D : HP} {mc ms : Nat} (k : Nat) (hk : 6 * k + 6 ≤ sL) (hL : sL ≤ 3072) (h : RR X M D) (kk : ∀ X2 M2 D2, RR X2 M2 D2 → SemL sb sL sx 41 qLaw mc ms 1494 [(3, .int (nI (6 * k))), (2, .ref 95), (1, .ref 0), (0, .float 400)] [] (xh X2 M2 D2)) : SemL sb sL sx 41 qLaw (mc + 12) (ms + 180) 1087 [(3, .int (nI (6 * k))), (2, .ref 95), (1, .ref 0), (0, .float 400)] [] (xh X M D) := by
  obtain ⟨mc1, ms1, a, Φ, h12, h180, hx, hm⟩ := pr_looked h 
  refine zl_aload_nr (j := 2) dL_law_1087 rfl ?_
  refine zl_V0im (mc := mc + (12 - mc1)) (ms := ms + (180 - ms1)) cv_L_128 rfl dL_law_1088 xg_X11 rfl (Nat.le_of_ble_eq_true rfl) hx (by omega) (by omega) (fun y1 h1 q1 => ?_)
  obtain ⟨rfl, X2, D2, rfl, hΦ⟩ := q1
  refine zl_aload_nr (j := 1) dL_law_1091 rfl ?_
  refine zl_V0i cv_L_131 rfl dL_law_1092 (l_m95 X2 M D2) rfl (Nat.le_of_ble_eq_true rfl) (hm X2 D2 hΦ) (fun y2 h2 q2 => ?_)
  obtain ⟨rfl, M2, rfl, hR⟩ := q2
  refine zl_icmp_eq dL_law_1095 (tgt := 1494) (by decide) (fun _ => ?_) (fun c9 => absurd rfl c9)
  exact zl_room (by omega) (by omega) (kk _ _ _ hR)
theorem l_c28 {sb sL : Nat} {sx : Nat → Int32} {X : XZ} {M : MZ} {D : HP} {mc ms : Nat} (k : Nat) (hk : 6 * k + 6 ≤ sL) (hL : sL ≤ 3072) (h : RR X M D) (kk : ∀ X2 M2 D2, RR X2 M2 D2 → SemL sb sL sx 41 qLaw mc ms 1494 [(3, .int (nI (6 * k))), (2, .ref 95), (1, .ref 0), (0, .float 400)] [] (xh X2 M2 D2)) : SemL sb sL sx 41 qLaw (mc + 12) (ms + 180) 1100 [(3, .int (nI (6 * k))), (2, .ref 95), (1, .ref 0), (0, .float 400)] [] (xh X M D) := by
  obtain ⟨mc1, ms1, a, Φ, h12, h180, hx, hm⟩ := pr_judge h (sx (nI (6 * k) + 1).toNatClampNeg) (sx (nI (6 * k) + 2).toNatClampNeg)
  refine zl_aload_nr (j := 2) dL_law_1100 rfl ?_
  refine zl_aload_ne (j := 3) dL_law_1101 rfl ?_
  refine zl_iload_n (j := 0) dL_law_1102 rfl ?_
  refine zl_iconst (v := 1) dL_law_1103 (by decide) ?_
  refine zl_iadd dL_law_1104 ?_
  refine zl_sld dL_law_1105 (l_ix 1 (by decide) hk hL) ?_
  refine zl_aload_ne (j := 3) dL_law_1106 rfl ?_
  refine zl_iload_n (j := 0) dL_law_1107 rfl ?_
  refine zl_iconst (v := 2) dL_law_1108 (by decide) ?_
  refine zl_iadd dL_law_1109 ?_
  refine zl_sld dL_law_1110 (l_ix 2 (by decide) hk hL) ?_
  refine zl_V2im (mc := mc + (12 - mc1)) (ms := ms + (180 - ms1)) cv_L_132 rfl dL_law_1111 xg_X11 rfl (Nat.le_of_ble_eq_true rfl) hx (by omega) (by omega) (fun y1 h1 q1 => ?_)
  obtain ⟨rfl, X2, D2, rfl, hΦ⟩ := q1
  refine zl_aload_nr (j := 1) dL_law_1114 rfl ?_
  refine zl_aload_ne (j := 3) dL_law_1115 rfl ?_
  refine zl_iload_n (j := 0) dL_law_1116 rfl ?_
  refine zl_iconst (v := 1) dL_law_1117 (by decide) ?_
  refine zl_iadd dL_law_1118 ?_
  refine zl_sld dL_law_1119 (l_ix 1 (by decide) hk hL) ?_
  refine zl_aload_ne (j := 3) dL_law_1120 rfl ?_
  refine zl_iload_n (j := 0) dL_law_1121 rfl ?_
  refine zl_iconst (v := 2) dL_law_1122 (by decide) ?_
  refine zl_iadd dL_law_1123 ?_
  refine zl_sld dL_law_1124 (l_ix 2 (by decide) hk hL) ?_
  refine zl_V2i cv_L_135 rfl dL_law_1125 (l_m95 X2 M D2) rfl (Nat.le_of_ble_eq_true rfl) (hm X2 D2 hΦ) (fun y2 h2 q2 => ?_)
  obtain ⟨rfl, M2, rfl, hR⟩ := q2
  refine zl_icmp_eq dL_law_1128 (tgt := 1494) (by decide) (fun _ => ?_) (fun c9 => absurd rfl c9)
  exact zl_room (by omega) (by omega) (kk _ _ _ hR)
theorem l_c29 {sb sL : Nat} {sx : Nat → Int32} {X : XZ} {M : MZ} {D : HP} {mc ms : Nat} (k : Nat) (hk : 6 * k + 6 ≤ sL) (hL : sL ≤ 3072) (h : RR X M D) (kk : ∀ X2 M2 D2, RR X2 M2 D2 → SemL sb sL sx 41 qLaw mc ms 1494 [(3, .int (nI (6 * k))), (2, .ref 95), (1, .ref 0), (0, .float 400)] [] (xh X2 M2 D2)) : SemL sb sL sx 41 qLaw (mc + 12) (ms + 180) 1133 [(3, .int (nI (6 * k))), (2, .ref 95), (1, .ref 0), (0, .float 400)] [] (xh X M D) := by
  obtain ⟨mc1, ms1, a, Φ, h12, h180, hx, hm⟩ := pr_image h 
  refine zl_aload_nr (j := 2) dL_law_1133 rfl ?_
  refine zl_V0im (mc := mc + (12 - mc1)) (ms := ms + (180 - ms1)) cv_L_136 rfl dL_law_1134 xg_X11 rfl (Nat.le_of_ble_eq_true rfl) hx (by omega) (by omega) (fun y1 h1 q1 => ?_)
  obtain ⟨rfl, X2, D2, rfl, hΦ⟩ := q1
  refine zl_aload_nr (j := 1) dL_law_1137 rfl ?_
  refine zl_V0i cv_L_139 rfl dL_law_1138 (l_m95 X2 M D2) rfl (Nat.le_of_ble_eq_true rfl) (hm X2 D2 hΦ) (fun y2 h2 q2 => ?_)
  obtain ⟨rfl, M2, rfl, hR⟩ := q2
  refine zl_icmp_eq dL_law_1141 (tgt := 1494) (by decide) (fun _ => ?_) (fun c9 => absurd rfl c9)
  exact zl_room (by omega) (by omega) (kk _ _ _ hR)
theorem l_c30 {sb sL : Nat} {sx : Nat → Int32} {X : XZ} {M : MZ} {D : HP} {mc ms : Nat} (k : Nat) (hk : 6 * k + 6 ≤ sL) (hL : sL ≤ 3072) (h : RR X M D) (kk : ∀ X2 M2 D2, RR X2 M2 D2 → SemL sb sL sx 41 qLaw mc ms 1494 [(3, .int (nI (6 * k))), (2, .ref 95), (1, .ref 0), (0, .float 400)] [] (xh X2 M2 D2)) : SemL sb sL sx 41 qLaw (mc + 12) (ms + 180) 1146 [(3, .int (nI (6 * k))), (2, .ref 95), (1, .ref 0), (0, .float 400)] [] (xh X M D) := by
  obtain ⟨mc1, ms1, a, Φ, h12, h180, hx, hm⟩ := pr_undo h 
  refine zl_aload_nr (j := 2) dL_law_1146 rfl ?_
  refine zl_V0im (mc := mc + (12 - mc1)) (ms := ms + (180 - ms1)) cv_L_140 rfl dL_law_1147 xg_X11 rfl (Nat.le_of_ble_eq_true rfl) hx (by omega) (by omega) (fun y1 h1 q1 => ?_)
  obtain ⟨rfl, X2, D2, rfl, hΦ⟩ := q1
  refine zl_aload_nr (j := 1) dL_law_1150 rfl ?_
  refine zl_V0i cv_L_143 rfl dL_law_1151 (l_m95 X2 M D2) rfl (Nat.le_of_ble_eq_true rfl) (hm X2 D2 hΦ) (fun y2 h2 q2 => ?_)
  obtain ⟨rfl, M2, rfl, hR⟩ := q2
  refine zl_icmp_eq dL_law_1154 (tgt := 1494) (by decide) (fun _ => ?_) (fun c9 => absurd rfl c9)
  exact zl_room (by omega) (by omega) (kk _ _ _ hR)
theorem l_c31 {sb sL : Nat} {sx : Nat → Int32} {X : XZ} {M : MZ} {D : HP} {mc ms : Nat} (k : Nat) (hk : 6 * k + 6 ≤ sL) (hL : sL ≤ 3072) (h : RR X M D) (kk : ∀ X2 M2 D2, RR X2 M2 D2 → SemL sb sL sx 41 qLaw mc ms 1494 [(3, .int (nI (6 * k))), (2, .ref 95), (1, .ref 0), (0, .float 400)] [] (xh X2 M2 D2)) : SemL sb sL sx 41 qLaw (mc + 12) (ms + 180) 1159 [(3, .int (nI (6 * k))), (2, .ref 95), (1, .ref 0), (0, .float 400)] [] (xh X M D) := by
  obtain ⟨mc1, ms1, a, Φ, h12, h180, hx, hm⟩ := pr_act h (sx (nI (6 * k) + 1).toNatClampNeg) (sx (nI (6 * k) + 2).toNatClampNeg) (sx (nI (6 * k) + 3).toNatClampNeg)
  refine zl_aload_nr (j := 2) dL_law_1159 rfl ?_
  refine zl_aload_ne (j := 3) dL_law_1160 rfl ?_
  refine zl_iload_n (j := 0) dL_law_1161 rfl ?_
  refine zl_iconst (v := 1) dL_law_1162 (by decide) ?_
  refine zl_iadd dL_law_1163 ?_
  refine zl_sld dL_law_1164 (l_ix 1 (by decide) hk hL) ?_
  refine zl_aload_ne (j := 3) dL_law_1165 rfl ?_
  refine zl_iload_n (j := 0) dL_law_1166 rfl ?_
  refine zl_iconst (v := 2) dL_law_1167 (by decide) ?_
  refine zl_iadd dL_law_1168 ?_
  refine zl_sld dL_law_1169 (l_ix 2 (by decide) hk hL) ?_
  refine zl_aload_ne (j := 3) dL_law_1170 rfl ?_
  refine zl_iload_n (j := 0) dL_law_1171 rfl ?_
  refine zl_iconst (v := 3) dL_law_1172 (by decide) ?_
  refine zl_iadd dL_law_1173 ?_
  refine zl_sld dL_law_1174 (l_ix 3 (by decide) hk hL) ?_
  refine zl_V3im (mc := mc + (12 - mc1)) (ms := ms + (180 - ms1)) cv_L_144 rfl dL_law_1175 xg_X11 rfl (Nat.le_of_ble_eq_true rfl) hx (by omega) (by omega) (fun y1 h1 q1 => ?_)
  obtain ⟨rfl, X2, D2, rfl, hΦ⟩ := q1
  refine zl_aload_nr (j := 1) dL_law_1178 rfl ?_
  refine zl_aload_ne (j := 3) dL_law_1179 rfl ?_
  refine zl_iload_n (j := 0) dL_law_1180 rfl ?_
  refine zl_iconst (v := 1) dL_law_1181 (by decide) ?_
  refine zl_iadd dL_law_1182 ?_
  refine zl_sld dL_law_1183 (l_ix 1 (by decide) hk hL) ?_
  refine zl_aload_ne (j := 3) dL_law_1184 rfl ?_
  refine zl_iload_n (j := 0) dL_law_1185 rfl ?_
  refine zl_iconst (v := 2) dL_law_1186 (by decide) ?_
  refine zl_iadd dL_law_1187 ?_
  refine zl_sld dL_law_1188 (l_ix 2 (by decide) hk hL) ?_
  refine zl_aload_ne (j := 3) dL_law_1189 rfl ?_
  refine zl_iload_n (j := 0) dL_law_1190 rfl ?_
  refine zl_iconst (v := 3) dL_law_1191 (by decide) ?_
  refine zl_iadd dL_law_1192 ?_
  refine zl_sld dL_law_1193 (l_ix 3 (by decide) hk hL) ?_
  refine zl_V3i cv_L_147 rfl dL_law_1194 (l_m95 X2 M D2) rfl (Nat.le_of_ble_eq_true rfl) (hm X2 D2 hΦ) (fun y2 h2 q2 => ?_)
  obtain ⟨rfl, M2, rfl, hR⟩ := q2
  refine zl_icmp_eq dL_law_1197 (tgt := 1494) (by decide) (fun _ => ?_) (fun c9 => absurd rfl c9)
  exact zl_room (by omega) (by omega) (kk _ _ _ hR)
theorem l_c32 {sb sL : Nat} {sx : Nat → Int32} {X : XZ} {M : MZ} {D : HP} {mc ms : Nat} (k : Nat) (hk : 6 * k + 6 ≤ sL) (hL : sL ≤ 3072) (h : RR X M D) (kk : ∀ X2 M2 D2, RR X2 M2 D2 → SemL sb sL sx 41 qLaw mc ms 1494 [(3, .int (nI (6 * k))), (2, .ref 95), (1, .ref 0), (0, .float 400)] [] (xh X2 M2 D2)) : SemL sb sL sx 41 qLaw (mc + 12) (ms + 180) 1202 [(3, .int (nI (6 * k))), (2, .ref 95), (1, .ref 0), (0, .float 400)] [] (xh X M D) := by
  obtain ⟨mc1, ms1, a, Φ, h12, h180, hx, hm⟩ := pr_trace h (sx (nI (6 * k) + 1).toNatClampNeg)
  refine zl_aload_nr (j := 2) dL_law_1202 rfl ?_
  refine zl_aload_ne (j := 3) dL_law_1203 rfl ?_
  refine zl_iload_n (j := 0) dL_law_1204 rfl ?_
  refine zl_iconst (v := 1) dL_law_1205 (by decide) ?_
  refine zl_iadd dL_law_1206 ?_
  refine zl_sld dL_law_1207 (l_ix 1 (by decide) hk hL) ?_
  refine zl_V1im (mc := mc + (12 - mc1)) (ms := ms + (180 - ms1)) cv_L_148 rfl dL_law_1208 xg_X11 rfl (Nat.le_of_ble_eq_true rfl) hx (by omega) (by omega) (fun y1 h1 q1 => ?_)
  obtain ⟨rfl, X2, D2, rfl, hΦ⟩ := q1
  refine zl_aload_nr (j := 1) dL_law_1211 rfl ?_
  refine zl_aload_ne (j := 3) dL_law_1212 rfl ?_
  refine zl_iload_n (j := 0) dL_law_1213 rfl ?_
  refine zl_iconst (v := 1) dL_law_1214 (by decide) ?_
  refine zl_iadd dL_law_1215 ?_
  refine zl_sld dL_law_1216 (l_ix 1 (by decide) hk hL) ?_
  refine zl_V1i cv_L_151 rfl dL_law_1217 (l_m95 X2 M D2) rfl (Nat.le_of_ble_eq_true rfl) (hm X2 D2 hΦ) (fun y2 h2 q2 => ?_)
  obtain ⟨rfl, M2, rfl, hR⟩ := q2
  refine zl_icmp_eq dL_law_1220 (tgt := 1494) (by decide) (fun _ => ?_) (fun c9 => absurd rfl c9)
  exact zl_room (by omega) (by omega) (kk _ _ _ hR)
theorem l_c33 {sb sL : Nat} {sx : Nat → Int32} {X : XZ} {M : MZ} {D : HP} {mc ms : Nat} (k : Nat) (hk : 6 * k + 6 ≤ sL) (hL : sL ≤ 3072) (h : RR X M D) (kk : ∀ X2 M2 D2, RR X2 M2 D2 → SemL sb sL sx 41 qLaw mc ms 1494 [(3, .int (nI (6 * k))), (2, .ref 95), (1, .ref 0), (0, .float 400)] [] (xh X2 M2 D2)) : SemL sb sL sx 41 qLaw (mc + 12) (ms + 180) 1225 [(3, .int (nI (6 * k))), (2, .ref 95), (1, .ref 0), (0, .float 400)] [] (xh X M D) := by
  obtain ⟨mc1, ms1, a, Φ, h12, h180, hx, hm⟩ := pr_taken h (sx (nI (6 * k) + 1).toNatClampNeg) (sx (nI (6 * k) + 2).toNatClampNeg)
  refine zl_aload_nr (j := 2) dL_law_1225 rfl ?_
  refine zl_aload_ne (j := 3) dL_law_1226 rfl ?_
  refine zl_iload_n (j := 0) dL_law_1227 rfl ?_
  refine zl_iconst (v := 1) dL_law_1228 (by decide) ?_
  refine zl_iadd dL_law_1229 ?_
  refine zl_sld dL_law_1230 (l_ix 1 (by decide) hk hL) ?_
  refine zl_aload_ne (j := 3) dL_law_1231 rfl ?_
  refine zl_iload_n (j := 0) dL_law_1232 rfl ?_
  refine zl_iconst (v := 2) dL_law_1233 (by decide) ?_
  refine zl_iadd dL_law_1234 ?_
  refine zl_sld dL_law_1235 (l_ix 2 (by decide) hk hL) ?_
  refine zl_V2im (mc := mc + (12 - mc1)) (ms := ms + (180 - ms1)) cv_L_152 rfl dL_law_1236 xg_X11 rfl (Nat.le_of_ble_eq_true rfl) hx (by omega) (by omega) (fun y1 h1 q1 => ?_)
  obtain ⟨rfl, X2, D2, rfl, hΦ⟩ := q1
  refine zl_aload_nr (j := 1) dL_law_1239 rfl ?_
  refine zl_aload_ne (j := 3) dL_law_1240 rfl ?_
  refine zl_iload_n (j := 0) dL_law_1241 rfl ?_
  refine zl_iconst (v := 1) dL_law_1242 (by decide) ?_
  refine zl_iadd dL_law_1243 ?_
  refine zl_sld dL_law_1244 (l_ix 1 (by decide) hk hL) ?_
  refine zl_aload_ne (j := 3) dL_law_1245 rfl ?_
  refine zl_iload_n (j := 0) dL_law_1246 rfl ?_
  refine zl_iconst (v := 2) dL_law_1247 (by decide) ?_
  refine zl_iadd dL_law_1248 ?_
  refine zl_sld dL_law_1249 (l_ix 2 (by decide) hk hL) ?_
  refine zl_V2i cv_L_155 rfl dL_law_1250 (l_m95 X2 M D2) rfl (Nat.le_of_ble_eq_true rfl) (hm X2 D2 hΦ) (fun y2 h2 q2 => ?_)
  obtain ⟨rfl, M2, rfl, hR⟩ := q2
  refine zl_icmp_eq dL_law_1253 (tgt := 1494) (by decide) (fun _ => ?_) (fun c9 => absurd rfl c9)
  exact zl_room (by omega) (by omega) (kk _ _ _ hR)
theorem l_c34 {sb sL : Nat} {sx : Nat → Int32} {X : XZ} {M : MZ} {D : HP} {mc ms : Nat} (k : Nat) (hk : 6 * k + 6 ≤ sL) (hL : sL ≤ 3072) (h : RR X M D) (kk : ∀ X2 M2 D2, RR X2 M2 D2 → SemL sb sL sx 41 qLaw mc ms 1494 [(3, .int (nI (6 * k))), (2, .ref 95), (1, .ref 0), (0, .float 400)] [] (xh X2 M2 D2)) : SemL sb sL sx 41 qLaw (mc + 12) (ms + 180) 1258 [(3, .int (nI (6 * k))), (2, .ref 95), (1, .ref 0), (0, .float 400)] [] (xh X M D) := by
  obtain ⟨mc1, ms1, a, Φ, h12, h180, hx, hm⟩ := pr_count h (sx (nI (6 * k) + 1).toNatClampNeg)
  refine zl_aload_nr (j := 2) dL_law_1258 rfl ?_
  refine zl_aload_ne (j := 3) dL_law_1259 rfl ?_
  refine zl_iload_n (j := 0) dL_law_1260 rfl ?_
  refine zl_iconst (v := 1) dL_law_1261 (by decide) ?_
  refine zl_iadd dL_law_1262 ?_
  refine zl_sld dL_law_1263 (l_ix 1 (by decide) hk hL) ?_
  refine zl_V1im (mc := mc + (12 - mc1)) (ms := ms + (180 - ms1)) cv_L_156 rfl dL_law_1264 xg_X11 rfl (Nat.le_of_ble_eq_true rfl) hx (by omega) (by omega) (fun y1 h1 q1 => ?_)
  obtain ⟨rfl, X2, D2, rfl, hΦ⟩ := q1
  refine zl_aload_nr (j := 1) dL_law_1267 rfl ?_
  refine zl_aload_ne (j := 3) dL_law_1268 rfl ?_
  refine zl_iload_n (j := 0) dL_law_1269 rfl ?_
  refine zl_iconst (v := 1) dL_law_1270 (by decide) ?_
  refine zl_iadd dL_law_1271 ?_
  refine zl_sld dL_law_1272 (l_ix 1 (by decide) hk hL) ?_
  refine zl_V1i cv_L_159 rfl dL_law_1273 (l_m95 X2 M D2) rfl (Nat.le_of_ble_eq_true rfl) (hm X2 D2 hΦ) (fun y2 h2 q2 => ?_)
  obtain ⟨rfl, M2, rfl, hR⟩ := q2
  refine zl_icmp_eq dL_law_1276 (tgt := 1494) (by decide) (fun _ => ?_) (fun c9 => absurd rfl c9)
  exact zl_room (by omega) (by omega) (kk _ _ _ hR)
theorem l_c35 {sb sL : Nat} {sx : Nat → Int32} {X : XZ} {M : MZ} {D : HP} {mc ms : Nat} (k : Nat) (hk : 6 * k + 6 ≤ sL) (hL : sL ≤ 3072) (h : RR X M D) (kk : ∀ X2 M2 D2, RR X2 M2 D2 → SemL sb sL sx 41 qLaw mc ms 1494 [(3, .int (nI (6 * k))), (2, .ref 95), (1, .ref 0), (0, .float 400)] [] (xh X2 M2 D2)) : SemL sb sL sx 41 qLaw (mc + 12) (ms + 180) 1281 [(3, .int (nI (6 * k))), (2, .ref 95), (1, .ref 0), (0, .float 400)] [] (xh X M D) := by
  obtain ⟨mc1, ms1, a, Φ, h12, h180, hx, hm⟩ := pr_tape h (sx (nI (6 * k) + 1).toNatClampNeg) (sx (nI (6 * k) + 2).toNatClampNeg) (sx (nI (6 * k) + 3).toNatClampNeg)
  refine zl_aload_nr (j := 2) dL_law_1281 rfl ?_
  refine zl_aload_ne (j := 3) dL_law_1282 rfl ?_
  refine zl_iload_n (j := 0) dL_law_1283 rfl ?_
  refine zl_iconst (v := 1) dL_law_1284 (by decide) ?_
  refine zl_iadd dL_law_1285 ?_
  refine zl_sld dL_law_1286 (l_ix 1 (by decide) hk hL) ?_
  refine zl_aload_ne (j := 3) dL_law_1287 rfl ?_
  refine zl_iload_n (j := 0) dL_law_1288 rfl ?_
  refine zl_iconst (v := 2) dL_law_1289 (by decide) ?_
  refine zl_iadd dL_law_1290 ?_
  refine zl_sld dL_law_1291 (l_ix 2 (by decide) hk hL) ?_
  refine zl_aload_ne (j := 3) dL_law_1292 rfl ?_
  refine zl_iload_n (j := 0) dL_law_1293 rfl ?_
  refine zl_iconst (v := 3) dL_law_1294 (by decide) ?_
  refine zl_iadd dL_law_1295 ?_
  refine zl_sld dL_law_1296 (l_ix 3 (by decide) hk hL) ?_
  refine zl_V3im (mc := mc + (12 - mc1)) (ms := ms + (180 - ms1)) cv_L_160 rfl dL_law_1297 xg_X11 rfl (Nat.le_of_ble_eq_true rfl) hx (by omega) (by omega) (fun y1 h1 q1 => ?_)
  obtain ⟨rfl, X2, D2, rfl, hΦ⟩ := q1
  refine zl_aload_nr (j := 1) dL_law_1300 rfl ?_
  refine zl_aload_ne (j := 3) dL_law_1301 rfl ?_
  refine zl_iload_n (j := 0) dL_law_1302 rfl ?_
  refine zl_iconst (v := 1) dL_law_1303 (by decide) ?_
  refine zl_iadd dL_law_1304 ?_
  refine zl_sld dL_law_1305 (l_ix 1 (by decide) hk hL) ?_
  refine zl_aload_ne (j := 3) dL_law_1306 rfl ?_
  refine zl_iload_n (j := 0) dL_law_1307 rfl ?_
  refine zl_iconst (v := 2) dL_law_1308 (by decide) ?_
  refine zl_iadd dL_law_1309 ?_
  refine zl_sld dL_law_1310 (l_ix 2 (by decide) hk hL) ?_
  refine zl_aload_ne (j := 3) dL_law_1311 rfl ?_
  refine zl_iload_n (j := 0) dL_law_1312 rfl ?_
  refine zl_iconst (v := 3) dL_law_1313 (by decide) ?_
  refine zl_iadd dL_law_1314 ?_
  refine zl_sld dL_law_1315 (l_ix 3 (by decide) hk hL) ?_
  refine zl_V3i cv_L_163 rfl dL_law_1316 (l_m95 X2 M D2) rfl (Nat.le_of_ble_eq_true rfl) (hm X2 D2 hΦ) (fun y2 h2 q2 => ?_)
  obtain ⟨rfl, M2, rfl, hR⟩ := q2
  refine zl_icmp_eq dL_law_1319 (tgt := 1494) (by decide) (fun _ => ?_) (fun c9 => absurd rfl c9)
  exact zl_room (by omega) (by omega) (kk _ _ _ hR)
theorem l_c36 {sb sL : Nat} {sx : Nat → Int32} {X : XZ} {M : MZ} {D : HP} {mc ms : Nat} (k : Nat) (hk : 6 * k + 6 ≤ sL) (hL : sL ≤ 3072) (h : RR X M D) (kk : ∀ X2 M2 D2, RR X2 M2 D2 → SemL sb sL sx 41 qLaw mc ms 1494 [(3, .int (nI (6 * k))), (2, .ref 95), (1, .ref 0), (0, .float 400)] [] (xh X2 M2 D2)) : SemL sb sL sx 41 qLaw (mc + 12) (ms + 180) 1324 [(3, .int (nI (6 * k))), (2, .ref 95), (1, .ref 0), (0, .float 400)] [] (xh X M D) := by
  obtain ⟨mc1, ms1, a, Φ, h12, h180, hx, hm⟩ := pr_item h (sx (nI (6 * k) + 1).toNatClampNeg) (sx (nI (6 * k) + 2).toNatClampNeg) (((sx (nI (6 * k) + 3).toNatClampNeg).toInt64 <<< ((32 : Int32).toInt64 &&& 63)) ||| ((sx (nI (6 * k) + 4).toNatClampNeg).toInt64 &&& 4294967295))
  refine zl_aload_nr (j := 2) dL_law_1324 rfl ?_
  refine zl_aload_ne (j := 3) dL_law_1325 rfl ?_
  refine zl_iload_n (j := 0) dL_law_1326 rfl ?_
  refine zl_iconst (v := 1) dL_law_1327 (by decide) ?_
  refine zl_iadd dL_law_1328 ?_
  refine zl_sld dL_law_1329 (l_ix 1 (by decide) hk hL) ?_
  refine zl_aload_ne (j := 3) dL_law_1330 rfl ?_
  refine zl_iload_n (j := 0) dL_law_1331 rfl ?_
  refine zl_iconst (v := 2) dL_law_1332 (by decide) ?_
  refine zl_iadd dL_law_1333 ?_
  refine zl_sld dL_law_1334 (l_ix 2 (by decide) hk hL) ?_
  refine zl_aload_ne (j := 3) dL_law_1335 rfl ?_
  refine zl_iload_n (j := 0) dL_law_1336 rfl ?_
  refine zl_iconst (v := 3) dL_law_1337 (by decide) ?_
  refine zl_iadd dL_law_1338 ?_
  refine zl_sld dL_law_1339 (l_ix 3 (by decide) hk hL) ?_
  refine zl_i2l dL_law_1340 ?_
  refine zl_bipush (v := 32) dL_law_1341 (by decide) ?_
  refine zl_lshl dL_law_1343 ?_
  refine zl_aload_ne (j := 3) dL_law_1344 rfl ?_
  refine zl_iload_n (j := 0) dL_law_1345 rfl ?_
  refine zl_iconst (v := 4) dL_law_1346 (by decide) ?_
  refine zl_iadd dL_law_1347 ?_
  refine zl_sld dL_law_1348 (l_ix 4 (by decide) hk hL) ?_
  refine zl_i2l dL_law_1349 ?_
  refine zl_ldc2 dL_law_1350 rfl m1706 ?_
  refine zl_land dL_law_1353 ?_
  refine zl_lor dL_law_1354 ?_
  refine zl_V3im (mc := mc + (12 - mc1)) (ms := ms + (180 - ms1)) cv_L_166 rfl dL_law_1355 xg_X11 rfl (Nat.le_of_ble_eq_true rfl) hx (by omega) (by omega) (fun y1 h1 q1 => ?_)
  obtain ⟨rfl, X2, D2, rfl, hΦ⟩ := q1
  refine zl_aload_nr (j := 1) dL_law_1358 rfl ?_
  refine zl_aload_ne (j := 3) dL_law_1359 rfl ?_
  refine zl_iload_n (j := 0) dL_law_1360 rfl ?_
  refine zl_iconst (v := 1) dL_law_1361 (by decide) ?_
  refine zl_iadd dL_law_1362 ?_
  refine zl_sld dL_law_1363 (l_ix 1 (by decide) hk hL) ?_
  refine zl_aload_ne (j := 3) dL_law_1364 rfl ?_
  refine zl_iload_n (j := 0) dL_law_1365 rfl ?_
  refine zl_iconst (v := 2) dL_law_1366 (by decide) ?_
  refine zl_iadd dL_law_1367 ?_
  refine zl_sld dL_law_1368 (l_ix 2 (by decide) hk hL) ?_
  refine zl_aload_ne (j := 3) dL_law_1369 rfl ?_
  refine zl_iload_n (j := 0) dL_law_1370 rfl ?_
  refine zl_iconst (v := 3) dL_law_1371 (by decide) ?_
  refine zl_iadd dL_law_1372 ?_
  refine zl_sld dL_law_1373 (l_ix 3 (by decide) hk hL) ?_
  refine zl_i2l dL_law_1374 ?_
  refine zl_bipush (v := 32) dL_law_1375 (by decide) ?_
  refine zl_lshl dL_law_1377 ?_
  refine zl_aload_ne (j := 3) dL_law_1378 rfl ?_
  refine zl_iload_n (j := 0) dL_law_1379 rfl ?_
  refine zl_iconst (v := 4) dL_law_1380 (by decide) ?_
  refine zl_iadd dL_law_1381 ?_
  refine zl_sld dL_law_1382 (l_ix 4 (by decide) hk hL) ?_
  refine zl_i2l dL_law_1383 ?_
  refine zl_ldc2 dL_law_1384 rfl m1706 ?_
  refine zl_land dL_law_1387 ?_
  refine zl_lor dL_law_1388 ?_
  refine zl_V3i cv_L_170 rfl dL_law_1389 (l_m95 X2 M D2) rfl (Nat.le_of_ble_eq_true rfl) (hm X2 D2 hΦ) (fun y2 h2 q2 => ?_)
  obtain ⟨rfl, M2, rfl, hR⟩ := q2
  refine zl_icmp_eq dL_law_1392 (tgt := 1494) (by decide) (fun _ => ?_) (fun c9 => absurd rfl c9)
  exact zl_room (by omega) (by omega) (kk _ _ _ hR)
theorem l_c37 {sb sL : Nat} {sx : Nat → Int32} {X : XZ} {M : MZ} {D : HP} {mc ms : Nat} (k : Nat) (hk : 6 * k + 6 ≤ sL) (hL : sL ≤ 3072) (h : RR X M D) (kk : ∀ X2 M2 D2, RR X2 M2 D2 → SemL sb sL sx 41 qLaw mc ms 1494 [(3, .int (nI (6 * k))), (2, .ref 95), (1, .ref 0), (0, .float 400)] [] (xh X2 M2 D2)) : SemL sb sL sx 41 qLaw (mc + 12) (ms + 180) 1397 [(3, .int (nI (6 * k))), (2, .ref 95), (1, .ref 0), (0, .float 400)] [] (xh X M D) := by
  obtain ⟨mc1, ms1, a, Φ, h12, h180, hx, hm⟩ := pr_read h (sx (nI (6 * k) + 1).toNatClampNeg) (sx (nI (6 * k) + 2).toNatClampNeg)
  refine zl_aload_nr (j := 2) dL_law_1397 rfl ?_
  refine zl_aload_ne (j := 3) dL_law_1398 rfl ?_
  refine zl_iload_n (j := 0) dL_law_1399 rfl ?_
  refine zl_iconst (v := 1) dL_law_1400 (by decide) ?_
  refine zl_iadd dL_law_1401 ?_
  refine zl_sld dL_law_1402 (l_ix 1 (by decide) hk hL) ?_
  refine zl_aload_ne (j := 3) dL_law_1403 rfl ?_
  refine zl_iload_n (j := 0) dL_law_1404 rfl ?_
  refine zl_iconst (v := 2) dL_law_1405 (by decide) ?_
  refine zl_iadd dL_law_1406 ?_
  refine zl_sld dL_law_1407 (l_ix 2 (by decide) hk hL) ?_
  refine zl_V2lm (mc := mc + (12 - mc1)) (ms := ms + (180 - ms1)) cv_L_171 rfl dL_law_1408 xg_X11 rfl (Nat.le_of_ble_eq_true rfl) hx (by omega) (by omega) (fun y1 h1 q1 => ?_)
  obtain ⟨rfl, X2, D2, rfl, hΦ⟩ := q1
  refine zl_aload_nr (j := 1) dL_law_1411 rfl ?_
  refine zl_aload_ne (j := 3) dL_law_1412 rfl ?_
  refine zl_iload_n (j := 0) dL_law_1413 rfl ?_
  refine zl_iconst (v := 1) dL_law_1414 (by decide) ?_
  refine zl_iadd dL_law_1415 ?_
  refine zl_sld dL_law_1416 (l_ix 1 (by decide) hk hL) ?_
  refine zl_aload_ne (j := 3) dL_law_1417 rfl ?_
  refine zl_iload_n (j := 0) dL_law_1418 rfl ?_
  refine zl_iconst (v := 2) dL_law_1419 (by decide) ?_
  refine zl_iadd dL_law_1420 ?_
  refine zl_sld dL_law_1421 (l_ix 2 (by decide) hk hL) ?_
  refine zl_V2l cv_L_174 rfl dL_law_1422 (l_m95 X2 M D2) rfl (Nat.le_of_ble_eq_true rfl) (hm X2 D2 hΦ) (fun y2 h2 q2 => ?_)
  obtain ⟨rfl, M2, rfl, hR⟩ := q2
  refine zl_lcmp dL_law_1425 ?_
  refine zl_if_eq dL_law_1426 (tgt := 1494) (by decide) (fun _ => ?_) (fun c9 => absurd ((lg_cmp_eq _ _).mpr rfl) c9)
  exact zl_room (by omega) (by omega) (kk _ _ _ hR)
theorem l_c38 {sb sL : Nat} {sx : Nat → Int32} {X : XZ} {M : MZ} {D : HP} {mc ms : Nat} (k : Nat) (hk : 6 * k + 6 ≤ sL) (hL : sL ≤ 3072) (h : RR X M D) (kk : ∀ X2 M2 D2, RR X2 M2 D2 → SemL sb sL sx 41 qLaw mc ms 1494 [(3, .int (nI (6 * k))), (2, .ref 95), (1, .ref 0), (0, .float 400)] [] (xh X2 M2 D2)) : SemL sb sL sx 41 qLaw (mc + 12) (ms + 180) 1431 [(3, .int (nI (6 * k))), (2, .ref 95), (1, .ref 0), (0, .float 400)] [] (xh X M D) := by
  obtain ⟨mc1, ms1, a, Φ, h12, h180, hx, hm⟩ := pr_shift h (sx (nI (6 * k) + 1).toNatClampNeg) (sx (nI (6 * k) + 2).toNatClampNeg) (sx (nI (6 * k) + 3).toNatClampNeg) (sx (nI (6 * k) + 4).toNatClampNeg) (sx (nI (6 * k) + 5).toNatClampNeg)
  refine zl_aload_nr (j := 2) dL_law_1431 rfl ?_
  refine zl_aload_ne (j := 3) dL_law_1432 rfl ?_
  refine zl_iload_n (j := 0) dL_law_1433 rfl ?_
  refine zl_iconst (v := 1) dL_law_1434 (by decide) ?_
  refine zl_iadd dL_law_1435 ?_
  refine zl_sld dL_law_1436 (l_ix 1 (by decide) hk hL) ?_
  refine zl_aload_ne (j := 3) dL_law_1437 rfl ?_
  refine zl_iload_n (j := 0) dL_law_1438 rfl ?_
  refine zl_iconst (v := 2) dL_law_1439 (by decide) ?_
  refine zl_iadd dL_law_1440 ?_
  refine zl_sld dL_law_1441 (l_ix 2 (by decide) hk hL) ?_
  refine zl_aload_ne (j := 3) dL_law_1442 rfl ?_
  refine zl_iload_n (j := 0) dL_law_1443 rfl ?_
  refine zl_iconst (v := 3) dL_law_1444 (by decide) ?_
  refine zl_iadd dL_law_1445 ?_
  refine zl_sld dL_law_1446 (l_ix 3 (by decide) hk hL) ?_
  refine zl_aload_ne (j := 3) dL_law_1447 rfl ?_
  refine zl_iload_n (j := 0) dL_law_1448 rfl ?_
  refine zl_iconst (v := 4) dL_law_1449 (by decide) ?_
  refine zl_iadd dL_law_1450 ?_
  refine zl_sld dL_law_1451 (l_ix 4 (by decide) hk hL) ?_
  refine zl_aload_ne (j := 3) dL_law_1452 rfl ?_
  refine zl_iload_n (j := 0) dL_law_1453 rfl ?_
  refine zl_iconst (v := 5) dL_law_1454 (by decide) ?_
  refine zl_iadd dL_law_1455 ?_
  refine zl_sld dL_law_1456 (l_ix 5 (by decide) hk hL) ?_
  refine zl_V5im (mc := mc + (12 - mc1)) (ms := ms + (180 - ms1)) cv_L_175 rfl dL_law_1457 xg_X11 rfl (Nat.le_of_ble_eq_true rfl) hx (by omega) (by omega) (fun y1 h1 q1 => ?_)
  obtain ⟨rfl, X2, D2, rfl, hΦ⟩ := q1
  refine zl_aload_nr (j := 1) dL_law_1460 rfl ?_
  refine zl_aload_ne (j := 3) dL_law_1461 rfl ?_
  refine zl_iload_n (j := 0) dL_law_1462 rfl ?_
  refine zl_iconst (v := 1) dL_law_1463 (by decide) ?_
  refine zl_iadd dL_law_1464 ?_
  refine zl_sld dL_law_1465 (l_ix 1 (by decide) hk hL) ?_
  refine zl_aload_ne (j := 3) dL_law_1466 rfl ?_
  refine zl_iload_n (j := 0) dL_law_1467 rfl ?_
  refine zl_iconst (v := 2) dL_law_1468 (by decide) ?_
  refine zl_iadd dL_law_1469 ?_
  refine zl_sld dL_law_1470 (l_ix 2 (by decide) hk hL) ?_
  refine zl_aload_ne (j := 3) dL_law_1471 rfl ?_
  refine zl_iload_n (j := 0) dL_law_1472 rfl ?_
  refine zl_iconst (v := 3) dL_law_1473 (by decide) ?_
  refine zl_iadd dL_law_1474 ?_
  refine zl_sld dL_law_1475 (l_ix 3 (by decide) hk hL) ?_
  refine zl_aload_ne (j := 3) dL_law_1476 rfl ?_
  refine zl_iload_n (j := 0) dL_law_1477 rfl ?_
  refine zl_iconst (v := 4) dL_law_1478 (by decide) ?_
  refine zl_iadd dL_law_1479 ?_
  refine zl_sld dL_law_1480 (l_ix 4 (by decide) hk hL) ?_
  refine zl_aload_ne (j := 3) dL_law_1481 rfl ?_
  refine zl_iload_n (j := 0) dL_law_1482 rfl ?_
  refine zl_iconst (v := 5) dL_law_1483 (by decide) ?_
  refine zl_iadd dL_law_1484 ?_
  refine zl_sld dL_law_1485 (l_ix 5 (by decide) hk hL) ?_
  refine zl_V5i cv_L_179 rfl dL_law_1486 (l_m95 X2 M D2) rfl (Nat.le_of_ble_eq_true rfl) (hm X2 D2 hΦ) (fun y2 h2 q2 => ?_)
  obtain ⟨rfl, M2, rfl, hR⟩ := q2
  refine zl_icmp_eq dL_law_1489 (tgt := 1494) (by decide) (fun _ => ?_) (fun c9 => absurd rfl c9)
  exact zl_room (by omega) (by omega) (kk _ _ _ hR)
