-- THE LAW: its calls, one by one; its loop
/-- the script is there to be read -/
def Scr (G : GX) (X : XC) (b L9 : Nat) (xs : Nat → Int32) : Prop :=
  (∀ pc lv st μ, decode cL_law pc = .ok (.arraylength, 1) → J G X (pc + 1) lv (.int (nI L9) :: st) μ → J G X pc lv (.ref b :: st) μ) ∧
  (∀ pc lv st μ j, decode cL_law pc = .ok (.iaload, 1) → j < L9 → J G X (pc + 1) lv (.int (xs j) :: st) μ → J G X pc lv (.int (nI j) :: .ref b :: st) μ)
set_option maxRecDepth 100000 in
set_option maxHeartbeats 4000000 in
theorem lc_letter {G : GX} {X : XC} {b L9 i9 : Nat} {xs : Nat → Int32} {μ : Mem} (C : Cx G X RL cL_law 10) (S : Scr G X b L9 xs) (hi : i9 + 2 < L9) (hL : L9 ≤ 1536) (h : IV μ) (k : ∀ μ9, IV μ9 → J G X 940 [some (.ref b), some (rf G 0), some (rf G 38), some (.int (nI i9))] [] μ9) : J G X 180 [some (.ref b), some (rf G 0), some (rf G 38), some (.int (nI i9))] [] μ := by
  refine j_aload_n C dL_law_180 rfl ?_
  refine j_aload_n C dL_law_181 rfl ?_
  refine j_iload_n C dL_law_182 rfl ?_
  refine j_iconst (v := nI 1) C dL_law_183 (by decide) ?_
  first | refine j_iaddN C dL_law_184 ?_ | refine j_iadd C dL_law_184 ?_
  refine S.2 _ _ _ _ _ dL_law_185 (by omega) ?_
  refine cVi1 C dL_law_186 lML_13 myX4_letter (ev_X4_letter h.2.2.1.2.1) (by omega) rc4 (Nat.le_of_ble_eq_true rfl) (fun v1 ν hv1 => ?_)
  have hr : RF μ ν := OutG_RF rf_letter hv1
  refine j_aload_n C dL_law_189 rfl ?_
  refine j_aload_n C dL_law_190 rfl ?_
  refine j_iload_n C dL_law_191 rfl ?_
  refine j_iconst (v := nI 1) C dL_law_192 (by decide) ?_
  first | refine j_iaddN C dL_law_193 ?_ | refine j_iadd C dL_law_193 ?_
  refine S.2 _ _ _ _ _ dL_law_194 (by omega) ?_
  refine cVi1 C dL_law_195 lML_17 myX5_letter (ev_X5_letter (by rw [hr 38 (by decide), h.2.2.1.1]; exact h.2.2.1.2.1)) (by omega) rc5 (Nat.le_of_ble_eq_true rfl) (fun v2 κ hv2 => ?_)
  obtain ⟨he, hI⟩ := s_letter h hv1 hv2
  refine j_icmp_eq (tgt := 940) C dL_law_198 (by decide) (fun _ => ?_) (fun q9 => absurd he q9)
  · exact k _ hI
set_option maxRecDepth 100000 in
set_option maxHeartbeats 4000000 in
theorem lc_house {G : GX} {X : XC} {b L9 i9 : Nat} {xs : Nat → Int32} {μ : Mem} (C : Cx G X RL cL_law 10) (S : Scr G X b L9 xs) (hi : i9 + 2 < L9) (hL : L9 ≤ 1536) (h : IV μ) (k : ∀ μ9, IV μ9 → J G X 940 [some (.ref b), some (rf G 0), some (rf G 38), some (.int (nI i9))] [] μ9) : J G X 203 [some (.ref b), some (rf G 0), some (rf G 38), some (.int (nI i9))] [] μ := by
  refine j_aload_n C dL_law_203 rfl ?_
  refine cVi0 C dL_law_204 lML_18 myX4_house (ev_X4_house h.2.2.1.2.1 h.2.2.1.2.2.2 (IV_E h) (IV_P h)) (by omega) rc4 (Nat.le_of_ble_eq_true rfl) (fun v1 ν hv1 => ?_)
  have hr : RF μ ν := fun q hq => hv1.2.2 q (by omega) (by omega)
  refine j_aload_n C dL_law_207 rfl ?_
  refine cVi0 C dL_law_208 lML_22 myX5_house (ev_X5_house (by rw [hr 38 (by decide), h.2.2.1.1]; exact h.2.2.1.2.1) (by rw [hr 52 (by decide), h.2.2.1.2.2.1]; exact h.2.2.1.2.2.2) (IV_E5 h hr) (IV_P5 h hr)) (by omega) rc5 (Nat.le_of_ble_eq_true rfl) (fun v2 κ hv2 => ?_)
  obtain ⟨he, hI⟩ := s_house h hv1 hv2
  refine j_icmp_eq (tgt := 940) C dL_law_211 (by decide) (fun _ => ?_) (fun q9 => absurd he q9)
  · exact k _ hI
set_option maxRecDepth 100000 in
set_option maxHeartbeats 4000000 in
theorem lc_story {G : GX} {X : XC} {b L9 i9 : Nat} {xs : Nat → Int32} {μ : Mem} (C : Cx G X RL cL_law 10) (S : Scr G X b L9 xs) (hi : i9 + 2 < L9) (hL : L9 ≤ 1536) (h : IV μ) (k : ∀ μ9, IV μ9 → J G X 940 [some (.ref b), some (rf G 0), some (rf G 38), some (.int (nI i9))] [] μ9) : J G X 216 [some (.ref b), some (rf G 0), some (rf G 38), some (.int (nI i9))] [] μ := by
  refine j_aload_n C dL_law_216 rfl ?_
  refine j_aload_n C dL_law_217 rfl ?_
  refine j_iload_n C dL_law_218 rfl ?_
  refine j_iconst (v := nI 1) C dL_law_219 (by decide) ?_
  first | refine j_iaddN C dL_law_220 ?_ | refine j_iadd C dL_law_220 ?_
  refine S.2 _ _ _ _ _ dL_law_221 (by omega) ?_
  refine j_aload_n C dL_law_222 rfl ?_
  refine j_iload_n C dL_law_223 rfl ?_
  refine j_iconst (v := nI 2) C dL_law_224 (by decide) ?_
  first | refine j_iaddN C dL_law_225 ?_ | refine j_iadd C dL_law_225 ?_
  refine S.2 _ _ _ _ _ dL_law_226 (by omega) ?_
  refine cVi2 C dL_law_227 lML_23 myX4_story (ev_X4_story (IV_E h) (IV_P h)) (by omega) rc4 (Nat.le_of_ble_eq_true rfl) (fun v1 ν hv1 => ?_)
  have hr : RF μ ν := OutC_RF hv1
  refine j_aload_n C dL_law_230 rfl ?_
  refine j_aload_n C dL_law_231 rfl ?_
  refine j_iload_n C dL_law_232 rfl ?_
  refine j_iconst (v := nI 1) C dL_law_233 (by decide) ?_
  first | refine j_iaddN C dL_law_234 ?_ | refine j_iadd C dL_law_234 ?_
  refine S.2 _ _ _ _ _ dL_law_235 (by omega) ?_
  refine j_aload_n C dL_law_236 rfl ?_
  refine j_iload_n C dL_law_237 rfl ?_
  refine j_iconst (v := nI 2) C dL_law_238 (by decide) ?_
  first | refine j_iaddN C dL_law_239 ?_ | refine j_iadd C dL_law_239 ?_
  refine S.2 _ _ _ _ _ dL_law_240 (by omega) ?_
  refine cVi2 C dL_law_241 lML_27 myX5_story (ev_X5_story (IV_E5 h hr) (IV_P5 h hr)) (by omega) rc5 (Nat.le_of_ble_eq_true rfl) (fun v2 κ hv2 => ?_)
  obtain ⟨he, hI⟩ := s_story h hv1 hv2
  refine j_icmp_eq (tgt := 940) C dL_law_244 (by decide) (fun _ => ?_) (fun q9 => absurd he q9)
  · exact k _ hI
set_option maxRecDepth 100000 in
set_option maxHeartbeats 4000000 in
theorem lc_place {G : GX} {X : XC} {b L9 i9 : Nat} {xs : Nat → Int32} {μ : Mem} (C : Cx G X RL cL_law 10) (S : Scr G X b L9 xs) (hi : i9 + 2 < L9) (hL : L9 ≤ 1536) (h : IV μ) (k : ∀ μ9, IV μ9 → J G X 940 [some (.ref b), some (rf G 0), some (rf G 38), some (.int (nI i9))] [] μ9) : J G X 249 [some (.ref b), some (rf G 0), some (rf G 38), some (.int (nI i9))] [] μ := by
  refine j_aload_n C dL_law_249 rfl ?_
  refine j_aload_n C dL_law_250 rfl ?_
  refine j_iload_n C dL_law_251 rfl ?_
  refine j_iconst (v := nI 1) C dL_law_252 (by decide) ?_
  first | refine j_iaddN C dL_law_253 ?_ | refine j_iadd C dL_law_253 ?_
  refine S.2 _ _ _ _ _ dL_law_254 (by omega) ?_
  refine cVi1 C dL_law_255 lML_28 myX4_place (ev_X4_place (IV_E h) (IV_P h)) (by omega) rc4 (Nat.le_of_ble_eq_true rfl) (fun v1 ν hv1 => ?_)
  have hr : RF μ ν := OutC_RF hv1
  refine j_aload_n C dL_law_258 rfl ?_
  refine j_aload_n C dL_law_259 rfl ?_
  refine j_iload_n C dL_law_260 rfl ?_
  refine j_iconst (v := nI 1) C dL_law_261 (by decide) ?_
  first | refine j_iaddN C dL_law_262 ?_ | refine j_iadd C dL_law_262 ?_
  refine S.2 _ _ _ _ _ dL_law_263 (by omega) ?_
  refine cVi1 C dL_law_264 lML_31 myX5_place (ev_X5_place (IV_E5 h hr) (IV_P5 h hr)) (by omega) rc5 (Nat.le_of_ble_eq_true rfl) (fun v2 κ hv2 => ?_)
  obtain ⟨he, hI⟩ := s_place h hv1 hv2
  refine j_icmp_eq (tgt := 940) C dL_law_267 (by decide) (fun _ => ?_) (fun q9 => absurd he q9)
  · exact k _ hI
set_option maxRecDepth 100000 in
set_option maxHeartbeats 4000000 in
theorem lc_change {G : GX} {X : XC} {b L9 i9 : Nat} {xs : Nat → Int32} {μ : Mem} (C : Cx G X RL cL_law 10) (S : Scr G X b L9 xs) (hi : i9 + 2 < L9) (hL : L9 ≤ 1536) (h : IV μ) (k : ∀ μ9, IV μ9 → J G X 940 [some (.ref b), some (rf G 0), some (rf G 38), some (.int (nI i9))] [] μ9) : J G X 272 [some (.ref b), some (rf G 0), some (rf G 38), some (.int (nI i9))] [] μ := by
  refine j_aload_n C dL_law_272 rfl ?_
  refine j_aload_n C dL_law_273 rfl ?_
  refine j_iload_n C dL_law_274 rfl ?_
  refine j_iconst (v := nI 1) C dL_law_275 (by decide) ?_
  first | refine j_iaddN C dL_law_276 ?_ | refine j_iadd C dL_law_276 ?_
  refine S.2 _ _ _ _ _ dL_law_277 (by omega) ?_
  refine j_aload_n C dL_law_278 rfl ?_
  refine j_iload_n C dL_law_279 rfl ?_
  refine j_iconst (v := nI 2) C dL_law_280 (by decide) ?_
  first | refine j_iaddN C dL_law_281 ?_ | refine j_iadd C dL_law_281 ?_
  refine S.2 _ _ _ _ _ dL_law_282 (by omega) ?_
  refine cVi2 C dL_law_283 lML_32 myX4_change (ev_X4_change (IV_E h) (IV_P h)) (by omega) rc4 (Nat.le_of_ble_eq_true rfl) (fun v1 ν hv1 => ?_)
  have hr : RF μ ν := OutG_RF rf_change hv1
  refine j_aload_n C dL_law_286 rfl ?_
  refine j_aload_n C dL_law_287 rfl ?_
  refine j_iload_n C dL_law_288 rfl ?_
  refine j_iconst (v := nI 1) C dL_law_289 (by decide) ?_
  first | refine j_iaddN C dL_law_290 ?_ | refine j_iadd C dL_law_290 ?_
  refine S.2 _ _ _ _ _ dL_law_291 (by omega) ?_
  refine j_aload_n C dL_law_292 rfl ?_
  refine j_iload_n C dL_law_293 rfl ?_
  refine j_iconst (v := nI 2) C dL_law_294 (by decide) ?_
  first | refine j_iaddN C dL_law_295 ?_ | refine j_iadd C dL_law_295 ?_
  refine S.2 _ _ _ _ _ dL_law_296 (by omega) ?_
  refine cVi2 C dL_law_297 lML_35 myX5_change (ev_X5_change (IV_E5 h hr) (IV_P5 h hr)) (by omega) rc5 (Nat.le_of_ble_eq_true rfl) (fun v2 κ hv2 => ?_)
  obtain ⟨he, hI⟩ := s_change h hv1 hv2
  refine j_icmp_eq (tgt := 940) C dL_law_300 (by decide) (fun _ => ?_) (fun q9 => absurd he q9)
  · exact k _ hI
set_option maxRecDepth 100000 in
set_option maxHeartbeats 4000000 in
theorem lc_people {G : GX} {X : XC} {b L9 i9 : Nat} {xs : Nat → Int32} {μ : Mem} (C : Cx G X RL cL_law 10) (S : Scr G X b L9 xs) (hi : i9 + 2 < L9) (hL : L9 ≤ 1536) (h : IV μ) (k : ∀ μ9, IV μ9 → J G X 940 [some (.ref b), some (rf G 0), some (rf G 38), some (.int (nI i9))] [] μ9) : J G X 305 [some (.ref b), some (rf G 0), some (rf G 38), some (.int (nI i9))] [] μ := by
  refine j_aload_n C dL_law_305 rfl ?_
  refine j_aload_n C dL_law_306 rfl ?_
  refine j_iload_n C dL_law_307 rfl ?_
  refine j_iconst (v := nI 1) C dL_law_308 (by decide) ?_
  first | refine j_iaddN C dL_law_309 ?_ | refine j_iadd C dL_law_309 ?_
  refine S.2 _ _ _ _ _ dL_law_310 (by omega) ?_
  refine j_aload_n C dL_law_311 rfl ?_
  refine j_iload_n C dL_law_312 rfl ?_
  refine j_iconst (v := nI 2) C dL_law_313 (by decide) ?_
  first | refine j_iaddN C dL_law_314 ?_ | refine j_iadd C dL_law_314 ?_
  refine S.2 _ _ _ _ _ dL_law_315 (by omega) ?_
  refine cVi2 C dL_law_316 lML_36 myX4_people (ev_X4_people (IV_E h) (IV_P h)) (by omega) rc4 (Nat.le_of_ble_eq_true rfl) (fun v1 ν hv1 => ?_)
  have hr : RF μ ν := OutG_RF (rf_up (by decide)) hv1
  refine j_aload_n C dL_law_319 rfl ?_
  refine j_aload_n C dL_law_320 rfl ?_
  refine j_iload_n C dL_law_321 rfl ?_
  refine j_iconst (v := nI 1) C dL_law_322 (by decide) ?_
  first | refine j_iaddN C dL_law_323 ?_ | refine j_iadd C dL_law_323 ?_
  refine S.2 _ _ _ _ _ dL_law_324 (by omega) ?_
  refine j_aload_n C dL_law_325 rfl ?_
  refine j_iload_n C dL_law_326 rfl ?_
  refine j_iconst (v := nI 2) C dL_law_327 (by decide) ?_
  first | refine j_iaddN C dL_law_328 ?_ | refine j_iadd C dL_law_328 ?_
  refine S.2 _ _ _ _ _ dL_law_329 (by omega) ?_
  refine cVi2 C dL_law_330 lML_39 myX5_people (ev_X5_people (IV_E5 h hr) (IV_P5 h hr)) (by omega) rc5 (Nat.le_of_ble_eq_true rfl) (fun v2 κ hv2 => ?_)
  obtain ⟨he, hI⟩ := s_people h hv1 hv2
  refine j_icmp_eq (tgt := 940) C dL_law_333 (by decide) (fun _ => ?_) (fun q9 => absurd he q9)
  · exact k _ hI
set_option maxRecDepth 100000 in
set_option maxHeartbeats 4000000 in
theorem lc_set {G : GX} {X : XC} {b L9 i9 : Nat} {xs : Nat → Int32} {μ : Mem} (C : Cx G X RL cL_law 10) (S : Scr G X b L9 xs) (hi : i9 + 2 < L9) (hL : L9 ≤ 1536) (h : IV μ) (k : ∀ μ9, IV μ9 → J G X 940 [some (.ref b), some (rf G 0), some (rf G 38), some (.int (nI i9))] [] μ9) : J G X 338 [some (.ref b), some (rf G 0), some (rf G 38), some (.int (nI i9))] [] μ := by
  refine j_aload_n C dL_law_338 rfl ?_
  refine j_aload_n C dL_law_339 rfl ?_
  refine j_iload_n C dL_law_340 rfl ?_
  refine j_iconst (v := nI 1) C dL_law_341 (by decide) ?_
  first | refine j_iaddN C dL_law_342 ?_ | refine j_iadd C dL_law_342 ?_
  refine S.2 _ _ _ _ _ dL_law_343 (by omega) ?_
  refine j_aload_n C dL_law_344 rfl ?_
  refine j_iload_n C dL_law_345 rfl ?_
  refine j_iconst (v := nI 2) C dL_law_346 (by decide) ?_
  first | refine j_iaddN C dL_law_347 ?_ | refine j_iadd C dL_law_347 ?_
  refine S.2 _ _ _ _ _ dL_law_348 (by omega) ?_
  refine cVi2 C dL_law_349 lML_40 myX4_set (ev_X4_set (IV_E h) (IV_P h)) (by omega) rc4 (Nat.le_of_ble_eq_true rfl) (fun v1 ν hv1 => ?_)
  have hr : RF μ ν := OutG_RF (rf_up (by decide)) hv1
  refine j_aload_n C dL_law_352 rfl ?_
  refine j_aload_n C dL_law_353 rfl ?_
  refine j_iload_n C dL_law_354 rfl ?_
  refine j_iconst (v := nI 1) C dL_law_355 (by decide) ?_
  first | refine j_iaddN C dL_law_356 ?_ | refine j_iadd C dL_law_356 ?_
  refine S.2 _ _ _ _ _ dL_law_357 (by omega) ?_
  refine j_aload_n C dL_law_358 rfl ?_
  refine j_iload_n C dL_law_359 rfl ?_
  refine j_iconst (v := nI 2) C dL_law_360 (by decide) ?_
  first | refine j_iaddN C dL_law_361 ?_ | refine j_iadd C dL_law_361 ?_
  refine S.2 _ _ _ _ _ dL_law_362 (by omega) ?_
  refine cVi2 C dL_law_363 lML_43 myX5_set (ev_X5_set (IV_E5 h hr) (IV_P5 h hr)) (by omega) rc5 (Nat.le_of_ble_eq_true rfl) (fun v2 κ hv2 => ?_)
  obtain ⟨he, hI⟩ := s_set h hv1 hv2
  refine j_icmp_eq (tgt := 940) C dL_law_366 (by decide) (fun _ => ?_) (fun q9 => absurd he q9)
  · exact k _ hI
set_option maxRecDepth 100000 in
set_option maxHeartbeats 4000000 in
theorem lc_come {G : GX} {X : XC} {b L9 i9 : Nat} {xs : Nat → Int32} {μ : Mem} (C : Cx G X RL cL_law 10) (S : Scr G X b L9 xs) (hi : i9 + 2 < L9) (hL : L9 ≤ 1536) (h : IV μ) (k : ∀ μ9, IV μ9 → J G X 940 [some (.ref b), some (rf G 0), some (rf G 38), some (.int (nI i9))] [] μ9) : J G X 371 [some (.ref b), some (rf G 0), some (rf G 38), some (.int (nI i9))] [] μ := by
  refine j_aload_n C dL_law_371 rfl ?_
  refine j_aload_n C dL_law_372 rfl ?_
  refine j_iload_n C dL_law_373 rfl ?_
  refine j_iconst (v := nI 1) C dL_law_374 (by decide) ?_
  first | refine j_iaddN C dL_law_375 ?_ | refine j_iadd C dL_law_375 ?_
  refine S.2 _ _ _ _ _ dL_law_376 (by omega) ?_
  refine j_aload_n C dL_law_377 rfl ?_
  refine j_iload_n C dL_law_378 rfl ?_
  refine j_iconst (v := nI 2) C dL_law_379 (by decide) ?_
  first | refine j_iaddN C dL_law_380 ?_ | refine j_iadd C dL_law_380 ?_
  refine S.2 _ _ _ _ _ dL_law_381 (by omega) ?_
  refine cVi2 C dL_law_382 lML_44 myX4_come (ev_X4_come (IV_E h) (IV_P h)) (by omega) rc4 (Nat.le_of_ble_eq_true rfl) (fun v1 ν hv1 => ?_)
  have hr : RF μ ν := OutC_RF hv1
  refine j_aload_n C dL_law_385 rfl ?_
  refine j_aload_n C dL_law_386 rfl ?_
  refine j_iload_n C dL_law_387 rfl ?_
  refine j_iconst (v := nI 1) C dL_law_388 (by decide) ?_
  first | refine j_iaddN C dL_law_389 ?_ | refine j_iadd C dL_law_389 ?_
  refine S.2 _ _ _ _ _ dL_law_390 (by omega) ?_
  refine j_aload_n C dL_law_391 rfl ?_
  refine j_iload_n C dL_law_392 rfl ?_
  refine j_iconst (v := nI 2) C dL_law_393 (by decide) ?_
  first | refine j_iaddN C dL_law_394 ?_ | refine j_iadd C dL_law_394 ?_
  refine S.2 _ _ _ _ _ dL_law_395 (by omega) ?_
  refine cVi2 C dL_law_396 lML_47 myX5_come (ev_X5_come (IV_E5 h hr) (IV_P5 h hr)) (by omega) rc5 (Nat.le_of_ble_eq_true rfl) (fun v2 κ hv2 => ?_)
  obtain ⟨he, hI⟩ := s_come h hv1 hv2
  refine j_icmp_eq (tgt := 940) C dL_law_399 (by decide) (fun _ => ?_) (fun q9 => absurd he q9)
  · exact k _ hI
set_option maxRecDepth 100000 in
set_option maxHeartbeats 4000000 in
theorem lc_going {G : GX} {X : XC} {b L9 i9 : Nat} {xs : Nat → Int32} {μ : Mem} (C : Cx G X RL cL_law 10) (S : Scr G X b L9 xs) (hi : i9 + 2 < L9) (hL : L9 ≤ 1536) (h : IV μ) (k : ∀ μ9, IV μ9 → J G X 940 [some (.ref b), some (rf G 0), some (rf G 38), some (.int (nI i9))] [] μ9) : J G X 404 [some (.ref b), some (rf G 0), some (rf G 38), some (.int (nI i9))] [] μ := by
  refine j_aload_n C dL_law_404 rfl ?_
  refine j_aload_n C dL_law_405 rfl ?_
  refine j_iload_n C dL_law_406 rfl ?_
  refine j_iconst (v := nI 1) C dL_law_407 (by decide) ?_
  first | refine j_iaddN C dL_law_408 ?_ | refine j_iadd C dL_law_408 ?_
  refine S.2 _ _ _ _ _ dL_law_409 (by omega) ?_
  refine j_aload_n C dL_law_410 rfl ?_
  refine j_iload_n C dL_law_411 rfl ?_
  refine j_iconst (v := nI 2) C dL_law_412 (by decide) ?_
  first | refine j_iaddN C dL_law_413 ?_ | refine j_iadd C dL_law_413 ?_
  refine S.2 _ _ _ _ _ dL_law_414 (by omega) ?_
  refine cVi2 C dL_law_415 lML_48 myX4_going (ev_X4_going (IV_E h) (IV_P h)) (by omega) rc4 (Nat.le_of_ble_eq_true rfl) (fun v1 ν hv1 => ?_)
  have hr : RF μ ν := OutC_RF hv1
  refine j_aload_n C dL_law_418 rfl ?_
  refine j_aload_n C dL_law_419 rfl ?_
  refine j_iload_n C dL_law_420 rfl ?_
  refine j_iconst (v := nI 1) C dL_law_421 (by decide) ?_
  first | refine j_iaddN C dL_law_422 ?_ | refine j_iadd C dL_law_422 ?_
  refine S.2 _ _ _ _ _ dL_law_423 (by omega) ?_
  refine j_aload_n C dL_law_424 rfl ?_
  refine j_iload_n C dL_law_425 rfl ?_
  refine j_iconst (v := nI 2) C dL_law_426 (by decide) ?_
  first | refine j_iaddN C dL_law_427 ?_ | refine j_iadd C dL_law_427 ?_
  refine S.2 _ _ _ _ _ dL_law_428 (by omega) ?_
  refine cVi2 C dL_law_429 lML_51 myX5_going (ev_X5_going (IV_E5 h hr) (IV_P5 h hr)) (by omega) rc5 (Nat.le_of_ble_eq_true rfl) (fun v2 κ hv2 => ?_)
  obtain ⟨he, hI⟩ := s_going h hv1 hv2
  refine j_icmp_eq (tgt := 940) C dL_law_432 (by decide) (fun _ => ?_) (fun q9 => absurd he q9)
  · exact k _ hI
set_option maxRecDepth 100000 in
set_option maxHeartbeats 4000000 in
theorem lc_total {G : GX} {X : XC} {b L9 i9 : Nat} {xs : Nat → Int32} {μ : Mem} (C : Cx G X RL cL_law 10) (S : Scr G X b L9 xs) (hi : i9 + 2 < L9) (hL : L9 ≤ 1536) (h : IV μ) (k : ∀ μ9, IV μ9 → J G X 940 [some (.ref b), some (rf G 0), some (rf G 38), some (.int (nI i9))] [] μ9) : J G X 437 [some (.ref b), some (rf G 0), some (rf G 38), some (.int (nI i9))] [] μ := by
  refine j_aload_n C dL_law_437 rfl ?_
  refine j_aload_n C dL_law_438 rfl ?_
  refine j_iload_n C dL_law_439 rfl ?_
  refine j_iconst (v := nI 1) C dL_law_440 (by decide) ?_
  first | refine j_iaddN C dL_law_441 ?_ | refine j_iadd C dL_law_441 ?_
  refine S.2 _ _ _ _ _ dL_law_442 (by omega) ?_
  refine cVi1 C dL_law_443 lML_52 myX4_total (ev_X4_total (IV_E h) (IV_P h)) (by omega) rc4 (Nat.le_of_ble_eq_true rfl) (fun v1 ν hv1 => ?_)
  have hr : RF μ ν := OutC_RF hv1
  refine j_aload_n C dL_law_446 rfl ?_
  refine j_aload_n C dL_law_447 rfl ?_
  refine j_iload_n C dL_law_448 rfl ?_
  refine j_iconst (v := nI 1) C dL_law_449 (by decide) ?_
  first | refine j_iaddN C dL_law_450 ?_ | refine j_iadd C dL_law_450 ?_
  refine S.2 _ _ _ _ _ dL_law_451 (by omega) ?_
  refine cVi1 C dL_law_452 lML_55 myX5_total (ev_X5_total (IV_E5 h hr) (IV_P5 h hr) (IV_z h hr)) (by omega) rc5 (Nat.le_of_ble_eq_true rfl) (fun v2 κ hv2 => ?_)
  obtain ⟨he, hI⟩ := s_total h hv1 hv2
  refine j_icmp_eq (tgt := 940) C dL_law_455 (by decide) (fun _ => ?_) (fun q9 => absurd he q9)
  · exact k _ hI
set_option maxRecDepth 100000 in
set_option maxHeartbeats 4000000 in
theorem lc_at {G : GX} {X : XC} {b L9 i9 : Nat} {xs : Nat → Int32} {μ : Mem} (C : Cx G X RL cL_law 10) (S : Scr G X b L9 xs) (hi : i9 + 2 < L9) (hL : L9 ≤ 1536) (h : IV μ) (k : ∀ μ9, IV μ9 → J G X 940 [some (.ref b), some (rf G 0), some (rf G 38), some (.int (nI i9))] [] μ9) : J G X 460 [some (.ref b), some (rf G 0), some (rf G 38), some (.int (nI i9))] [] μ := by
  refine j_aload_n C dL_law_460 rfl ?_
  refine j_aload_n C dL_law_461 rfl ?_
  refine j_iload_n C dL_law_462 rfl ?_
  refine j_iconst (v := nI 1) C dL_law_463 (by decide) ?_
  first | refine j_iaddN C dL_law_464 ?_ | refine j_iadd C dL_law_464 ?_
  refine S.2 _ _ _ _ _ dL_law_465 (by omega) ?_
  refine j_aload_n C dL_law_466 rfl ?_
  refine j_iload_n C dL_law_467 rfl ?_
  refine j_iconst (v := nI 2) C dL_law_468 (by decide) ?_
  first | refine j_iaddN C dL_law_469 ?_ | refine j_iadd C dL_law_469 ?_
  refine S.2 _ _ _ _ _ dL_law_470 (by omega) ?_
  refine cVi2 C dL_law_471 lML_56 myX4_at (ev_X4_at (IV_E h) (IV_P h)) (by omega) rc4 (Nat.le_of_ble_eq_true rfl) (fun v1 ν hv1 => ?_)
  have hr : RF μ ν := OutC_RF hv1
  refine j_aload_n C dL_law_474 rfl ?_
  refine j_aload_n C dL_law_475 rfl ?_
  refine j_iload_n C dL_law_476 rfl ?_
  refine j_iconst (v := nI 1) C dL_law_477 (by decide) ?_
  first | refine j_iaddN C dL_law_478 ?_ | refine j_iadd C dL_law_478 ?_
  refine S.2 _ _ _ _ _ dL_law_479 (by omega) ?_
  refine j_aload_n C dL_law_480 rfl ?_
  refine j_iload_n C dL_law_481 rfl ?_
  refine j_iconst (v := nI 2) C dL_law_482 (by decide) ?_
  first | refine j_iaddN C dL_law_483 ?_ | refine j_iadd C dL_law_483 ?_
  refine S.2 _ _ _ _ _ dL_law_484 (by omega) ?_
  refine cVi2 C dL_law_485 lML_59 myX5_at (ev_X5_at (IV_E5 h hr) (IV_P5 h hr) (IV_z h hr)) (by omega) rc5 (Nat.le_of_ble_eq_true rfl) (fun v2 κ hv2 => ?_)
  obtain ⟨he, hI⟩ := s_at h hv1 hv2
  refine j_icmp_eq (tgt := 940) C dL_law_488 (by decide) (fun _ => ?_) (fun q9 => absurd he q9)
  · exact k _ hI
set_option maxRecDepth 100000 in
set_option maxHeartbeats 4000000 in
theorem lc_when {G : GX} {X : XC} {b L9 i9 : Nat} {xs : Nat → Int32} {μ : Mem} (C : Cx G X RL cL_law 10) (S : Scr G X b L9 xs) (hi : i9 + 2 < L9) (hL : L9 ≤ 1536) (h : IV μ) (k : ∀ μ9, IV μ9 → J G X 940 [some (.ref b), some (rf G 0), some (rf G 38), some (.int (nI i9))] [] μ9) : J G X 493 [some (.ref b), some (rf G 0), some (rf G 38), some (.int (nI i9))] [] μ := by
  refine j_aload_n C dL_law_493 rfl ?_
  refine j_aload_n C dL_law_494 rfl ?_
  refine j_iload_n C dL_law_495 rfl ?_
  refine j_iconst (v := nI 1) C dL_law_496 (by decide) ?_
  first | refine j_iaddN C dL_law_497 ?_ | refine j_iadd C dL_law_497 ?_
  refine S.2 _ _ _ _ _ dL_law_498 (by omega) ?_
  refine cVi1 C dL_law_499 lML_60 myX4_when (ev_X4_when (IV_E h) (IV_P h)) (by omega) rc4 (Nat.le_of_ble_eq_true rfl) (fun v1 ν hv1 => ?_)
  have hr : RF μ ν := OutC_RF hv1
  refine j_aload_n C dL_law_502 rfl ?_
  refine j_aload_n C dL_law_503 rfl ?_
  refine j_iload_n C dL_law_504 rfl ?_
  refine j_iconst (v := nI 1) C dL_law_505 (by decide) ?_
  first | refine j_iaddN C dL_law_506 ?_ | refine j_iadd C dL_law_506 ?_
  refine S.2 _ _ _ _ _ dL_law_507 (by omega) ?_
  refine cVi1 C dL_law_508 lML_63 myX5_when (ev_X5_when (IV_E5 h hr) (IV_P5 h hr) (IV_z h hr)) (by omega) rc5 (Nat.le_of_ble_eq_true rfl) (fun v2 κ hv2 => ?_)
  obtain ⟨he, hI⟩ := s_when h hv1 hv2
  refine j_icmp_eq (tgt := 940) C dL_law_511 (by decide) (fun _ => ?_) (fun q9 => absurd he q9)
  · exact k _ hI
set_option maxRecDepth 100000 in
set_option maxHeartbeats 4000000 in
theorem lc_best {G : GX} {X : XC} {b L9 i9 : Nat} {xs : Nat → Int32} {μ : Mem} (C : Cx G X RL cL_law 10) (S : Scr G X b L9 xs) (hi : i9 + 2 < L9) (hL : L9 ≤ 1536) (h : IV μ) (k : ∀ μ9, IV μ9 → J G X 940 [some (.ref b), some (rf G 0), some (rf G 38), some (.int (nI i9))] [] μ9) : J G X 516 [some (.ref b), some (rf G 0), some (rf G 38), some (.int (nI i9))] [] μ := by
  refine j_aload_n C dL_law_516 rfl ?_
  refine j_aload_n C dL_law_517 rfl ?_
  refine j_iload_n C dL_law_518 rfl ?_
  refine j_iconst (v := nI 1) C dL_law_519 (by decide) ?_
  first | refine j_iaddN C dL_law_520 ?_ | refine j_iadd C dL_law_520 ?_
  refine S.2 _ _ _ _ _ dL_law_521 (by omega) ?_
  refine cVi1 C dL_law_522 lML_64 myX4_best (ev_X4_best (IV_E h) (IV_P h)) (by omega) rc4 (Nat.le_of_ble_eq_true rfl) (fun v1 ν hv1 => ?_)
  have hr : RF μ ν := OutC_RF hv1
  refine j_aload_n C dL_law_525 rfl ?_
  refine j_aload_n C dL_law_526 rfl ?_
  refine j_iload_n C dL_law_527 rfl ?_
  refine j_iconst (v := nI 1) C dL_law_528 (by decide) ?_
  first | refine j_iaddN C dL_law_529 ?_ | refine j_iadd C dL_law_529 ?_
  refine S.2 _ _ _ _ _ dL_law_530 (by omega) ?_
  refine cVi1 C dL_law_531 lML_67 myX5_best (ev_X5_best (IV_E5 h hr) (IV_P5 h hr) (IV_z h hr)) (by omega) rc5 (Nat.le_of_ble_eq_true rfl) (fun v2 κ hv2 => ?_)
  obtain ⟨he, hI⟩ := s_best h hv1 hv2
  refine j_icmp_eq (tgt := 940) C dL_law_534 (by decide) (fun _ => ?_) (fun q9 => absurd he q9)
  · exact k _ hI
set_option maxRecDepth 100000 in
set_option maxHeartbeats 4000000 in
theorem lc_bestAt {G : GX} {X : XC} {b L9 i9 : Nat} {xs : Nat → Int32} {μ : Mem} (C : Cx G X RL cL_law 10) (S : Scr G X b L9 xs) (hi : i9 + 2 < L9) (hL : L9 ≤ 1536) (h : IV μ) (k : ∀ μ9, IV μ9 → J G X 940 [some (.ref b), some (rf G 0), some (rf G 38), some (.int (nI i9))] [] μ9) : J G X 539 [some (.ref b), some (rf G 0), some (rf G 38), some (.int (nI i9))] [] μ := by
  refine j_aload_n C dL_law_539 rfl ?_
  refine j_aload_n C dL_law_540 rfl ?_
  refine j_iload_n C dL_law_541 rfl ?_
  refine j_iconst (v := nI 1) C dL_law_542 (by decide) ?_
  first | refine j_iaddN C dL_law_543 ?_ | refine j_iadd C dL_law_543 ?_
  refine S.2 _ _ _ _ _ dL_law_544 (by omega) ?_
  refine j_aload_n C dL_law_545 rfl ?_
  refine j_iload_n C dL_law_546 rfl ?_
  refine j_iconst (v := nI 2) C dL_law_547 (by decide) ?_
  first | refine j_iaddN C dL_law_548 ?_ | refine j_iadd C dL_law_548 ?_
  refine S.2 _ _ _ _ _ dL_law_549 (by omega) ?_
  refine cVi2 C dL_law_550 lML_68 myX4_bestAt (ev_X4_bestAt (IV_E h) (IV_P h)) (by omega) rc4 (Nat.le_of_ble_eq_true rfl) (fun v1 ν hv1 => ?_)
  have hr : RF μ ν := OutC_RF hv1
  refine j_aload_n C dL_law_553 rfl ?_
  refine j_aload_n C dL_law_554 rfl ?_
  refine j_iload_n C dL_law_555 rfl ?_
  refine j_iconst (v := nI 1) C dL_law_556 (by decide) ?_
  first | refine j_iaddN C dL_law_557 ?_ | refine j_iadd C dL_law_557 ?_
  refine S.2 _ _ _ _ _ dL_law_558 (by omega) ?_
  refine j_aload_n C dL_law_559 rfl ?_
  refine j_iload_n C dL_law_560 rfl ?_
  refine j_iconst (v := nI 2) C dL_law_561 (by decide) ?_
  first | refine j_iaddN C dL_law_562 ?_ | refine j_iadd C dL_law_562 ?_
  refine S.2 _ _ _ _ _ dL_law_563 (by omega) ?_
  refine cVi2 C dL_law_564 lML_71 myX5_bestAt (ev_X5_bestAt (IV_E5 h hr) (IV_P5 h hr) (IV_z h hr)) (by omega) rc5 (Nat.le_of_ble_eq_true rfl) (fun v2 κ hv2 => ?_)
  obtain ⟨he, hI⟩ := s_bestAt h hv1 hv2
  refine j_icmp_eq (tgt := 940) C dL_law_567 (by decide) (fun _ => ?_) (fun q9 => absurd he q9)
  · exact k _ hI
set_option maxRecDepth 100000 in
set_option maxHeartbeats 4000000 in
theorem lc_turned {G : GX} {X : XC} {b L9 i9 : Nat} {xs : Nat → Int32} {μ : Mem} (C : Cx G X RL cL_law 10) (S : Scr G X b L9 xs) (hi : i9 + 2 < L9) (hL : L9 ≤ 1536) (h : IV μ) (k : ∀ μ9, IV μ9 → J G X 940 [some (.ref b), some (rf G 0), some (rf G 38), some (.int (nI i9))] [] μ9) : J G X 572 [some (.ref b), some (rf G 0), some (rf G 38), some (.int (nI i9))] [] μ := by
  refine j_aload_n C dL_law_572 rfl ?_
  refine j_aload_n C dL_law_573 rfl ?_
  refine j_iload_n C dL_law_574 rfl ?_
  refine j_iconst (v := nI 1) C dL_law_575 (by decide) ?_
  first | refine j_iaddN C dL_law_576 ?_ | refine j_iadd C dL_law_576 ?_
  refine S.2 _ _ _ _ _ dL_law_577 (by omega) ?_
  refine cVi1 C dL_law_578 lML_72 myX4_turned (ev_X4_turned (IV_E h) (IV_P h)) (by omega) rc4 (Nat.le_of_ble_eq_true rfl) (fun v1 ν hv1 => ?_)
  have hr : RF μ ν := OutC_RF hv1
  refine j_aload_n C dL_law_581 rfl ?_
  refine j_aload_n C dL_law_582 rfl ?_
  refine j_iload_n C dL_law_583 rfl ?_
  refine j_iconst (v := nI 1) C dL_law_584 (by decide) ?_
  first | refine j_iaddN C dL_law_585 ?_ | refine j_iadd C dL_law_585 ?_
  refine S.2 _ _ _ _ _ dL_law_586 (by omega) ?_
  refine cVi1 C dL_law_587 lML_75 myX5_turned (ev_X5_turned (IV_E5 h hr) (IV_P5 h hr) (IV_z h hr)) (by omega) rc5 (Nat.le_of_ble_eq_true rfl) (fun v2 κ hv2 => ?_)
  obtain ⟨he, hI⟩ := s_turned h hv1 hv2
  refine j_icmp_eq (tgt := 940) C dL_law_590 (by decide) (fun _ => ?_) (fun q9 => absurd he q9)
  · exact k _ hI
set_option maxRecDepth 100000 in
set_option maxHeartbeats 4000000 in
theorem lc_most {G : GX} {X : XC} {b L9 i9 : Nat} {xs : Nat → Int32} {μ : Mem} (C : Cx G X RL cL_law 10) (S : Scr G X b L9 xs) (hi : i9 + 2 < L9) (hL : L9 ≤ 1536) (h : IV μ) (k : ∀ μ9, IV μ9 → J G X 940 [some (.ref b), some (rf G 0), some (rf G 38), some (.int (nI i9))] [] μ9) : J G X 595 [some (.ref b), some (rf G 0), some (rf G 38), some (.int (nI i9))] [] μ := by
  refine j_aload_n C dL_law_595 rfl ?_
  refine cVi0 C dL_law_596 lML_76 myX4_most (ev_X4_most (IV_E h) (IV_P h)) (by omega) rc4 (Nat.le_of_ble_eq_true rfl) (fun v1 ν hv1 => ?_)
  have hr : RF μ ν := OutC_RF hv1
  refine j_aload_n C dL_law_599 rfl ?_
  refine cVi0 C dL_law_600 lML_79 myX5_most (ev_X5_most (IV_E5 h hr) (IV_P5 h hr) (IV_z h hr)) (by omega) rc5 (Nat.le_of_ble_eq_true rfl) (fun v2 κ hv2 => ?_)
  obtain ⟨he, hI⟩ := s_most h hv1 hv2
  refine j_icmp_eq (tgt := 940) C dL_law_603 (by decide) (fun _ => ?_) (fun q9 => absurd he q9)
  · exact k _ hI
set_option maxRecDepth 100000 in
set_option maxHeartbeats 4000000 in
theorem lc_enough {G : GX} {X : XC} {b L9 i9 : Nat} {xs : Nat → Int32} {μ : Mem} (C : Cx G X RL cL_law 10) (S : Scr G X b L9 xs) (hi : i9 + 2 < L9) (hL : L9 ≤ 1536) (h : IV μ) (k : ∀ μ9, IV μ9 → J G X 940 [some (.ref b), some (rf G 0), some (rf G 38), some (.int (nI i9))] [] μ9) : J G X 608 [some (.ref b), some (rf G 0), some (rf G 38), some (.int (nI i9))] [] μ := by
  refine j_aload_n C dL_law_608 rfl ?_
  refine j_aload_n C dL_law_609 rfl ?_
  refine j_iload_n C dL_law_610 rfl ?_
  refine j_iconst (v := nI 1) C dL_law_611 (by decide) ?_
  first | refine j_iaddN C dL_law_612 ?_ | refine j_iadd C dL_law_612 ?_
  refine S.2 _ _ _ _ _ dL_law_613 (by omega) ?_
  refine cVi1 C dL_law_614 lML_80 myX4_enough (ev_X4_enough (IV_E h) (IV_P h)) (by omega) rc4 (Nat.le_of_ble_eq_true rfl) (fun v1 ν hv1 => ?_)
  have hr : RF μ ν := OutC_RF hv1
  refine j_aload_n C dL_law_617 rfl ?_
  refine j_aload_n C dL_law_618 rfl ?_
  refine j_iload_n C dL_law_619 rfl ?_
  refine j_iconst (v := nI 1) C dL_law_620 (by decide) ?_
  first | refine j_iaddN C dL_law_621 ?_ | refine j_iadd C dL_law_621 ?_
  refine S.2 _ _ _ _ _ dL_law_622 (by omega) ?_
  refine cVi1 C dL_law_623 lML_83 myX5_enough (ev_X5_enough (IV_E5 h hr) (IV_P5 h hr) (IV_z h hr)) (by omega) rc5 (Nat.le_of_ble_eq_true rfl) (fun v2 κ hv2 => ?_)
  obtain ⟨he, hI⟩ := s_enough h hv1 hv2
  refine j_icmp_eq (tgt := 940) C dL_law_626 (by decide) (fun _ => ?_) (fun q9 => absurd he q9)
  · exact k _ hI
set_option maxRecDepth 100000 in
set_option maxHeartbeats 4000000 in
theorem lc_fill {G : GX} {X : XC} {b L9 i9 : Nat} {xs : Nat → Int32} {μ : Mem} (C : Cx G X RL cL_law 10) (S : Scr G X b L9 xs) (hi : i9 + 2 < L9) (hL : L9 ≤ 1536) (h : IV μ) (k : ∀ μ9, IV μ9 → J G X 940 [some (.ref b), some (rf G 0), some (rf G 38), some (.int (nI i9))] [] μ9) : J G X 631 [some (.ref b), some (rf G 0), some (rf G 38), some (.int (nI i9))] [] μ := by
  refine j_aload_n C dL_law_631 rfl ?_
  refine cVi0 C dL_law_632 lML_84 myX4_fill (ev_X4_fill (IV_E h) (IV_P h)) (by omega) rc4 (Nat.le_of_ble_eq_true rfl) (fun v1 ν hv1 => ?_)
  have hr : RF μ ν := OutC_RF hv1
  refine j_aload_n C dL_law_635 rfl ?_
  refine cVi0 C dL_law_636 lML_87 myX5_fill (ev_X5_fill (IV_E5 h hr) (IV_P5 h hr) (IV_z h hr)) (by omega) rc5 (Nat.le_of_ble_eq_true rfl) (fun v2 κ hv2 => ?_)
  obtain ⟨he, hI⟩ := s_fill h hv1 hv2
  refine j_icmp_eq (tgt := 940) C dL_law_639 (by decide) (fun _ => ?_) (fun q9 => absurd he q9)
  · exact k _ hI
set_option maxRecDepth 100000 in
set_option maxHeartbeats 4000000 in
theorem lc_ramp {G : GX} {X : XC} {b L9 i9 : Nat} {xs : Nat → Int32} {μ : Mem} (C : Cx G X RL cL_law 10) (S : Scr G X b L9 xs) (hi : i9 + 2 < L9) (hL : L9 ≤ 1536) (h : IV μ) (k : ∀ μ9, IV μ9 → J G X 940 [some (.ref b), some (rf G 0), some (rf G 38), some (.int (nI i9))] [] μ9) : J G X 644 [some (.ref b), some (rf G 0), some (rf G 38), some (.int (nI i9))] [] μ := by
  refine j_aload_n C dL_law_644 rfl ?_
  refine cVi0 C dL_law_645 lML_88 myX4_ramp (ev_X4_ramp (IV_E h) (IV_P h)) (by omega) rc4 (Nat.le_of_ble_eq_true rfl) (fun v1 ν hv1 => ?_)
  have hr : RF μ ν := OutC_RF hv1
  refine j_aload_n C dL_law_648 rfl ?_
  refine cVi0 C dL_law_649 lML_91 myX5_ramp (ev_X5_ramp (IV_E5 h hr) (IV_P5 h hr) (IV_z h hr)) (by omega) rc5 (Nat.le_of_ble_eq_true rfl) (fun v2 κ hv2 => ?_)
  obtain ⟨he, hI⟩ := s_ramp h hv1 hv2
  refine j_icmp_eq (tgt := 940) C dL_law_652 (by decide) (fun _ => ?_) (fun q9 => absurd he q9)
  · exact k _ hI
set_option maxRecDepth 100000 in
set_option maxHeartbeats 4000000 in
theorem lc_keep {G : GX} {X : XC} {b L9 i9 : Nat} {xs : Nat → Int32} {μ : Mem} (C : Cx G X RL cL_law 10) (S : Scr G X b L9 xs) (hi : i9 + 2 < L9) (hL : L9 ≤ 1536) (h : IV μ) (k : ∀ μ9, IV μ9 → J G X 940 [some (.ref b), some (rf G 0), some (rf G 38), some (.int (nI i9))] [] μ9) : J G X 657 [some (.ref b), some (rf G 0), some (rf G 38), some (.int (nI i9))] [] μ := by
  refine j_aload_n C dL_law_657 rfl ?_
  refine j_aload_n C dL_law_658 rfl ?_
  refine j_iload_n C dL_law_659 rfl ?_
  refine j_iconst (v := nI 1) C dL_law_660 (by decide) ?_
  first | refine j_iaddN C dL_law_661 ?_ | refine j_iadd C dL_law_661 ?_
  refine S.2 _ _ _ _ _ dL_law_662 (by omega) ?_
  refine cVi1 C dL_law_663 lML_92 myX4_keep (ev_X4_keep (IV_E h) (IV_P h)) (by omega) rc4 (Nat.le_of_ble_eq_true rfl) (fun v1 ν hv1 => ?_)
  have hr : RF μ ν := OutC_RF hv1
  refine j_aload_n C dL_law_666 rfl ?_
  refine j_aload_n C dL_law_667 rfl ?_
  refine j_iload_n C dL_law_668 rfl ?_
  refine j_iconst (v := nI 1) C dL_law_669 (by decide) ?_
  first | refine j_iaddN C dL_law_670 ?_ | refine j_iadd C dL_law_670 ?_
  refine S.2 _ _ _ _ _ dL_law_671 (by omega) ?_
  refine cVi1 C dL_law_672 lML_95 myX5_keep (ev_X5_keep (IV_E5 h hr) (IV_P5 h hr) (IV_z h hr)) (by omega) rc5 (Nat.le_of_ble_eq_true rfl) (fun v2 κ hv2 => ?_)
  obtain ⟨he, hI⟩ := s_keep h hv1 hv2
  refine j_icmp_eq (tgt := 940) C dL_law_675 (by decide) (fun _ => ?_) (fun q9 => absurd he q9)
  · exact k _ hI
set_option maxRecDepth 100000 in
set_option maxHeartbeats 4000000 in
theorem lc_oneEach {G : GX} {X : XC} {b L9 i9 : Nat} {xs : Nat → Int32} {μ : Mem} (C : Cx G X RL cL_law 10) (S : Scr G X b L9 xs) (hi : i9 + 2 < L9) (hL : L9 ≤ 1536) (h : IV μ) (k : ∀ μ9, IV μ9 → J G X 940 [some (.ref b), some (rf G 0), some (rf G 38), some (.int (nI i9))] [] μ9) : J G X 680 [some (.ref b), some (rf G 0), some (rf G 38), some (.int (nI i9))] [] μ := by
  refine j_aload_n C dL_law_680 rfl ?_
  refine cVi0 C dL_law_681 lML_96 myX4_oneEach (ev_X4_oneEach (IV_E h) (IV_P h)) (by omega) rc4 (Nat.le_of_ble_eq_true rfl) (fun v1 ν hv1 => ?_)
  have hr : RF μ ν := OutC_RF hv1
  refine j_aload_n C dL_law_684 rfl ?_
  refine cVi0 C dL_law_685 lML_99 myX5_oneEach (ev_X5_oneEach (IV_E5 h hr) (IV_P5 h hr) (IV_z h hr)) (by omega) rc5 (Nat.le_of_ble_eq_true rfl) (fun v2 κ hv2 => ?_)
  obtain ⟨he, hI⟩ := s_oneEach h hv1 hv2
  refine j_icmp_eq (tgt := 940) C dL_law_688 (by decide) (fun _ => ?_) (fun q9 => absurd he q9)
  · exact k _ hI
set_option maxRecDepth 100000 in
set_option maxHeartbeats 4000000 in
theorem lc_machine {G : GX} {X : XC} {b L9 i9 : Nat} {xs : Nat → Int32} {μ : Mem} (C : Cx G X RL cL_law 10) (S : Scr G X b L9 xs) (hi : i9 + 2 < L9) (hL : L9 ≤ 1536) (h : IV μ) (k : ∀ μ9, IV μ9 → J G X 940 [some (.ref b), some (rf G 0), some (rf G 38), some (.int (nI i9))] [] μ9) : J G X 693 [some (.ref b), some (rf G 0), some (rf G 38), some (.int (nI i9))] [] μ := by
  refine j_aload_n C dL_law_693 rfl ?_
  refine cVi0 C dL_law_694 lML_100 myX4_machine (ev_X4_machine (IV_E h) (IV_P h)) (by omega) rc4 (Nat.le_of_ble_eq_true rfl) (fun v1 ν hv1 => ?_)
  have hr : RF μ ν := OutC_RF hv1
  refine j_aload_n C dL_law_697 rfl ?_
  refine cVe0 C dL_law_698 lML_103 myX5_machine (ev_X5_machine (IV_E5 h hr).1) (by omega) rc5 (Nat.le_of_ble_eq_true rfl) ?_
  obtain ⟨he, hI⟩ := s_machine h hv1 ⟨rfl, rfl⟩
  refine j_icmp_eq (tgt := 940) C dL_law_701 (by decide) (fun _ => ?_) (fun q9 => absurd he q9)
  · exact k _ hI
set_option maxRecDepth 100000 in
set_option maxHeartbeats 4000000 in
theorem lc_saves {G : GX} {X : XC} {b L9 i9 : Nat} {xs : Nat → Int32} {μ : Mem} (C : Cx G X RL cL_law 10) (S : Scr G X b L9 xs) (hi : i9 + 2 < L9) (hL : L9 ≤ 1536) (h : IV μ) (k : ∀ μ9, IV μ9 → J G X 940 [some (.ref b), some (rf G 0), some (rf G 38), some (.int (nI i9))] [] μ9) : J G X 706 [some (.ref b), some (rf G 0), some (rf G 38), some (.int (nI i9))] [] μ := by
  refine j_aload_n C dL_law_706 rfl ?_
  refine cVi0 C dL_law_707 lML_104 myX4_saves (ev_X4_saves (IV_E h) (IV_P h)) (by omega) rc4 (Nat.le_of_ble_eq_true rfl) (fun v1 ν hv1 => ?_)
  have hr : RF μ ν := OutC_RF hv1
  refine j_aload_n C dL_law_710 rfl ?_
  refine cVi0 C dL_law_711 lML_107 myX5_saves (ev_X5_saves (IV_E5 h hr) (IV_P5 h hr) (IV_z h hr)) (by omega) rc5 (Nat.le_of_ble_eq_true rfl) (fun v2 κ hv2 => ?_)
  obtain ⟨he, hI⟩ := s_saves h hv1 hv2
  refine j_icmp_eq (tgt := 940) C dL_law_714 (by decide) (fun _ => ?_) (fun q9 => absurd he q9)
  · exact k _ hI
set_option maxRecDepth 100000 in
set_option maxHeartbeats 4000000 in
theorem lc_late {G : GX} {X : XC} {b L9 i9 : Nat} {xs : Nat → Int32} {μ : Mem} (C : Cx G X RL cL_law 10) (S : Scr G X b L9 xs) (hi : i9 + 2 < L9) (hL : L9 ≤ 1536) (h : IV μ) (k : ∀ μ9, IV μ9 → J G X 940 [some (.ref b), some (rf G 0), some (rf G 38), some (.int (nI i9))] [] μ9) : J G X 719 [some (.ref b), some (rf G 0), some (rf G 38), some (.int (nI i9))] [] μ := by
  refine j_aload_n C dL_law_719 rfl ?_
  refine j_aload_n C dL_law_720 rfl ?_
  refine j_iload_n C dL_law_721 rfl ?_
  refine j_iconst (v := nI 1) C dL_law_722 (by decide) ?_
  first | refine j_iaddN C dL_law_723 ?_ | refine j_iadd C dL_law_723 ?_
  refine S.2 _ _ _ _ _ dL_law_724 (by omega) ?_
  refine j_aload_n C dL_law_725 rfl ?_
  refine j_iload_n C dL_law_726 rfl ?_
  refine j_iconst (v := nI 2) C dL_law_727 (by decide) ?_
  first | refine j_iaddN C dL_law_728 ?_ | refine j_iadd C dL_law_728 ?_
  refine S.2 _ _ _ _ _ dL_law_729 (by omega) ?_
  refine cVl2 C dL_law_730 lML_108 myX4_late (ev_X4_late (IV_E h) (IV_P h)) (by omega) rc4 (Nat.le_of_ble_eq_true rfl) (fun v1 ν hv1 => ?_)
  have hr : RF μ ν := OutCL_RF hv1
  refine j_aload_n C dL_law_733 rfl ?_
  refine j_aload_n C dL_law_734 rfl ?_
  refine j_iload_n C dL_law_735 rfl ?_
  refine j_iconst (v := nI 1) C dL_law_736 (by decide) ?_
  first | refine j_iaddN C dL_law_737 ?_ | refine j_iadd C dL_law_737 ?_
  refine S.2 _ _ _ _ _ dL_law_738 (by omega) ?_
  refine j_aload_n C dL_law_739 rfl ?_
  refine j_iload_n C dL_law_740 rfl ?_
  refine j_iconst (v := nI 2) C dL_law_741 (by decide) ?_
  first | refine j_iaddN C dL_law_742 ?_ | refine j_iadd C dL_law_742 ?_
  refine S.2 _ _ _ _ _ dL_law_743 (by omega) ?_
  refine cVl2 C dL_law_744 lML_112 myX5_late (ev_X5_late (IV_E5 h hr) (IV_P5 h hr)) (by omega) rc5 (Nat.le_of_ble_eq_true rfl) (fun v2 κ hv2 => ?_)
  refine j_lcmp C dL_law_747 ?_
  obtain ⟨he, hI⟩ := s_late h hv1 hv2
  refine j_if_eq (tgt := 940) C dL_law_748 (by decide) (fun _ => ?_) (fun q9 => absurd (lcmp0.mpr he) q9)
  · exact k _ hI
set_option maxRecDepth 100000 in
set_option maxHeartbeats 4000000 in
theorem lc_more {G : GX} {X : XC} {b L9 i9 : Nat} {xs : Nat → Int32} {μ : Mem} (C : Cx G X RL cL_law 10) (S : Scr G X b L9 xs) (hi : i9 + 2 < L9) (hL : L9 ≤ 1536) (h : IV μ) (k : ∀ μ9, IV μ9 → J G X 940 [some (.ref b), some (rf G 0), some (rf G 38), some (.int (nI i9))] [] μ9) : J G X 753 [some (.ref b), some (rf G 0), some (rf G 38), some (.int (nI i9))] [] μ := by
  refine j_aload_n C dL_law_753 rfl ?_
  refine j_aload_n C dL_law_754 rfl ?_
  refine j_iload_n C dL_law_755 rfl ?_
  refine j_iconst (v := nI 1) C dL_law_756 (by decide) ?_
  first | refine j_iaddN C dL_law_757 ?_ | refine j_iadd C dL_law_757 ?_
  refine S.2 _ _ _ _ _ dL_law_758 (by omega) ?_
  refine cVi1 C dL_law_759 lML_113 myX4_more (ev_X4_more (IV_E h) (IV_P h)) (by omega) rc4 (Nat.le_of_ble_eq_true rfl) (fun v1 ν hv1 => ?_)
  have hr : RF μ ν := OutC_RF hv1
  refine j_aload_n C dL_law_762 rfl ?_
  refine j_aload_n C dL_law_763 rfl ?_
  refine j_iload_n C dL_law_764 rfl ?_
  refine j_iconst (v := nI 1) C dL_law_765 (by decide) ?_
  first | refine j_iaddN C dL_law_766 ?_ | refine j_iadd C dL_law_766 ?_
  refine S.2 _ _ _ _ _ dL_law_767 (by omega) ?_
  refine cVi1 C dL_law_768 lML_116 myX5_more (ev_X5_more (IV_E5 h hr) (IV_P5 h hr) (IV_z h hr)) (by omega) rc5 (Nat.le_of_ble_eq_true rfl) (fun v2 κ hv2 => ?_)
  obtain ⟨he, hI⟩ := s_more h hv1 hv2
  refine j_icmp_eq (tgt := 940) C dL_law_771 (by decide) (fun _ => ?_) (fun q9 => absurd he q9)
  · exact k _ hI
set_option maxRecDepth 100000 in
set_option maxHeartbeats 4000000 in
theorem lc_squeak {G : GX} {X : XC} {b L9 i9 : Nat} {xs : Nat → Int32} {μ : Mem} (C : Cx G X RL cL_law 10) (S : Scr G X b L9 xs) (hi : i9 + 2 < L9) (hL : L9 ≤ 1536) (h : IV μ) (k : ∀ μ9, IV μ9 → J G X 940 [some (.ref b), some (rf G 0), some (rf G 38), some (.int (nI i9))] [] μ9) : J G X 776 [some (.ref b), some (rf G 0), some (rf G 38), some (.int (nI i9))] [] μ := by
  refine j_aload_n C dL_law_776 rfl ?_
  refine j_aload_n C dL_law_777 rfl ?_
  refine j_iload_n C dL_law_778 rfl ?_
  refine j_iconst (v := nI 1) C dL_law_779 (by decide) ?_
  first | refine j_iaddN C dL_law_780 ?_ | refine j_iadd C dL_law_780 ?_
  refine S.2 _ _ _ _ _ dL_law_781 (by omega) ?_
  refine cVi1 C dL_law_782 lML_117 myX4_squeak (ev_X4_squeak (IV_E h) (IV_P h)) (by omega) rc4 (Nat.le_of_ble_eq_true rfl) (fun v1 ν hv1 => ?_)
  have hr : RF μ ν := OutC_RF hv1
  refine j_aload_n C dL_law_785 rfl ?_
  refine j_aload_n C dL_law_786 rfl ?_
  refine j_iload_n C dL_law_787 rfl ?_
  refine j_iconst (v := nI 1) C dL_law_788 (by decide) ?_
  first | refine j_iaddN C dL_law_789 ?_ | refine j_iadd C dL_law_789 ?_
  refine S.2 _ _ _ _ _ dL_law_790 (by omega) ?_
  refine cVi1 C dL_law_791 lML_120 myX5_squeak (ev_X5_squeak (IV_E5 h hr) (IV_P5 h hr) (IV_z h hr)) (by omega) rc5 (Nat.le_of_ble_eq_true rfl) (fun v2 κ hv2 => ?_)
  obtain ⟨he, hI⟩ := s_squeak h hv1 hv2
  refine j_icmp_eq (tgt := 940) C dL_law_794 (by decide) (fun _ => ?_) (fun q9 => absurd he q9)
  · exact k _ hI
set_option maxRecDepth 100000 in
set_option maxHeartbeats 4000000 in
theorem lc_row {G : GX} {X : XC} {b L9 i9 : Nat} {xs : Nat → Int32} {μ : Mem} (C : Cx G X RL cL_law 10) (S : Scr G X b L9 xs) (hi : i9 + 2 < L9) (hL : L9 ≤ 1536) (h : IV μ) (k : ∀ μ9, IV μ9 → J G X 940 [some (.ref b), some (rf G 0), some (rf G 38), some (.int (nI i9))] [] μ9) : J G X 799 [some (.ref b), some (rf G 0), some (rf G 38), some (.int (nI i9))] [] μ := by
  refine j_aload_n C dL_law_799 rfl ?_
  refine j_aload_n C dL_law_800 rfl ?_
  refine j_iload_n C dL_law_801 rfl ?_
  refine j_iconst (v := nI 1) C dL_law_802 (by decide) ?_
  first | refine j_iaddN C dL_law_803 ?_ | refine j_iadd C dL_law_803 ?_
  refine S.2 _ _ _ _ _ dL_law_804 (by omega) ?_
  refine cVi1 C dL_law_805 lML_121 myX4_row (ev_X4_row h.2.2.2.1.2.1) (by omega) rc4 (Nat.le_of_ble_eq_true rfl) (fun v1 ν hv1 => ?_)
  have hr : RF μ ν := OutG_RF rf_row hv1
  refine j_aload_n C dL_law_808 rfl ?_
  refine j_aload_n C dL_law_809 rfl ?_
  refine j_iload_n C dL_law_810 rfl ?_
  refine j_iconst (v := nI 1) C dL_law_811 (by decide) ?_
  first | refine j_iaddN C dL_law_812 ?_ | refine j_iadd C dL_law_812 ?_
  refine S.2 _ _ _ _ _ dL_law_813 (by omega) ?_
  refine cVi1 C dL_law_814 lML_124 myX5_row (ev_X5_row (by rw [hr 38 (by decide), h.2.2.2.1.1]; exact h.2.2.2.1.2.1)) (by omega) rc5 (Nat.le_of_ble_eq_true rfl) (fun v2 κ hv2 => ?_)
  obtain ⟨he, hI⟩ := s_row h hv1 hv2
  refine j_icmp_eq (tgt := 940) C dL_law_817 (by decide) (fun _ => ?_) (fun q9 => absurd he q9)
  · exact k _ hI
set_option maxRecDepth 100000 in
set_option maxHeartbeats 4000000 in
theorem lc_fits {G : GX} {X : XC} {b L9 i9 : Nat} {xs : Nat → Int32} {μ : Mem} (C : Cx G X RL cL_law 10) (S : Scr G X b L9 xs) (hi : i9 + 2 < L9) (hL : L9 ≤ 1536) (h : IV μ) (k : ∀ μ9, IV μ9 → J G X 940 [some (.ref b), some (rf G 0), some (rf G 38), some (.int (nI i9))] [] μ9) : J G X 822 [some (.ref b), some (rf G 0), some (rf G 38), some (.int (nI i9))] [] μ := by
  refine j_aload_n C dL_law_822 rfl ?_
  refine j_aload_n C dL_law_823 rfl ?_
  refine j_iload_n C dL_law_824 rfl ?_
  refine j_iconst (v := nI 1) C dL_law_825 (by decide) ?_
  first | refine j_iaddN C dL_law_826 ?_ | refine j_iadd C dL_law_826 ?_
  refine S.2 _ _ _ _ _ dL_law_827 (by omega) ?_
  refine cVi1 C dL_law_828 lML_125 myX4_fits (ev_X4_fits (IV_E h) (IV_P h) h.2.2.2.1.2.1 (fun i hi => h.2.2.2.1.2.2.2 i (by have := h.2.2.2.1.2.1; omega))) (by omega) rc4 (Nat.le_of_ble_eq_true rfl) (fun v1 ν hv1 => ?_)
  have hr : RF μ ν := OutC_RF hv1
  refine j_aload_n C dL_law_831 rfl ?_
  refine j_aload_n C dL_law_832 rfl ?_
  refine j_iload_n C dL_law_833 rfl ?_
  refine j_iconst (v := nI 1) C dL_law_834 (by decide) ?_
  first | refine j_iaddN C dL_law_835 ?_ | refine j_iadd C dL_law_835 ?_
  refine S.2 _ _ _ _ _ dL_law_836 (by omega) ?_
  refine cVi1 C dL_law_837 lML_128 myX5_fits (ev_X5_fits (IV_E5 h hr) (IV_P5 h hr) (IV_z h hr) (by rw [hr 38 (by decide), h.2.2.2.1.1]; exact h.2.2.2.1.2.1) (by rw [hr 38 (by decide), hr 54 (by decide), h.2.2.2.1.1, h.2.2.2.1.2.2.1]; exact fun i hi => h.2.2.2.1.2.2.2 i (by have := h.2.2.2.1.2.1; omega))) (by omega) rc5 (Nat.le_of_ble_eq_true rfl) (fun v2 κ hv2 => ?_)
  obtain ⟨he, hI⟩ := s_fits h hv1 hv2
  refine j_icmp_eq (tgt := 940) C dL_law_840 (by decide) (fun _ => ?_) (fun q9 => absurd he q9)
  · exact k _ hI
set_option maxRecDepth 100000 in
set_option maxHeartbeats 4000000 in
theorem lc_judge {G : GX} {X : XC} {b L9 i9 : Nat} {xs : Nat → Int32} {μ : Mem} (C : Cx G X RL cL_law 10) (S : Scr G X b L9 xs) (hi : i9 + 2 < L9) (hL : L9 ≤ 1536) (h : IV μ) (k : ∀ μ9, IV μ9 → J G X 940 [some (.ref b), some (rf G 0), some (rf G 38), some (.int (nI i9))] [] μ9) : J G X 845 [some (.ref b), some (rf G 0), some (rf G 38), some (.int (nI i9))] [] μ := by
  refine j_aload_n C dL_law_845 rfl ?_
  refine cVi0 C dL_law_846 lML_129 myX4_judge (ev_X4_judge (IV_E h) (IV_P h) h.2.2.2.1.2.1 (fun i hi => h.2.2.2.1.2.2.2 i (by have := h.2.2.2.1.2.1; omega))) (by omega) rc4 (Nat.le_of_ble_eq_true rfl) (fun v1 ν hv1 => ?_)
  have hr : RF μ ν := fun q hq => (hv1.2 q (by omega)).trans (up_ne (by omega))
  refine j_aload_n C dL_law_849 rfl ?_
  refine cVi0 C dL_law_850 lML_132 myX5_judge (ev_X5_judge (IV_E5 h hr) (IV_P5 h hr) (IV_z h hr) (by rw [hr 38 (by decide), h.2.2.2.1.1]; exact h.2.2.2.1.2.1) (by rw [hr 38 (by decide), hr 54 (by decide), h.2.2.2.1.1, h.2.2.2.1.2.2.1]; exact fun i hi => h.2.2.2.1.2.2.2 i (by have := h.2.2.2.1.2.1; omega))) (by omega) rc5 (Nat.le_of_ble_eq_true rfl) (fun v2 κ hv2 => ?_)
  obtain ⟨he, hI⟩ := s_judge h hv1 hv2
  refine j_icmp_eq (tgt := 940) C dL_law_853 (by decide) (fun _ => ?_) (fun q9 => absurd he q9)
  · exact k _ hI
set_option maxRecDepth 100000 in
set_option maxHeartbeats 4000000 in
theorem lc_lots {G : GX} {X : XC} {b L9 i9 : Nat} {xs : Nat → Int32} {μ : Mem} (C : Cx G X RL cL_law 10) (S : Scr G X b L9 xs) (hi : i9 + 2 < L9) (hL : L9 ≤ 1536) (h : IV μ) (k : ∀ μ9, IV μ9 → J G X 940 [some (.ref b), some (rf G 0), some (rf G 38), some (.int (nI i9))] [] μ9) : J G X 858 [some (.ref b), some (rf G 0), some (rf G 38), some (.int (nI i9))] [] μ := by
  refine j_aload_n C dL_law_858 rfl ?_
  refine j_aload_n C dL_law_859 rfl ?_
  refine j_iload_n C dL_law_860 rfl ?_
  refine j_iconst (v := nI 1) C dL_law_861 (by decide) ?_
  first | refine j_iaddN C dL_law_862 ?_ | refine j_iadd C dL_law_862 ?_
  refine S.2 _ _ _ _ _ dL_law_863 (by omega) ?_
  refine j_aload_n C dL_law_864 rfl ?_
  refine j_iload_n C dL_law_865 rfl ?_
  refine j_iconst (v := nI 2) C dL_law_866 (by decide) ?_
  first | refine j_iaddN C dL_law_867 ?_ | refine j_iadd C dL_law_867 ?_
  refine S.2 _ _ _ _ _ dL_law_868 (by omega) ?_
  refine cVi2 C dL_law_869 lML_133 myX4_lots (ev_X4_lots (IV_E h) (IV_P h)) (by omega) rc4 (Nat.le_of_ble_eq_true rfl) (fun v1 ν hv1 => ?_)
  have hr : RF μ ν := OutC_RF hv1
  refine j_aload_n C dL_law_872 rfl ?_
  refine j_aload_n C dL_law_873 rfl ?_
  refine j_iload_n C dL_law_874 rfl ?_
  refine j_iconst (v := nI 1) C dL_law_875 (by decide) ?_
  first | refine j_iaddN C dL_law_876 ?_ | refine j_iadd C dL_law_876 ?_
  refine S.2 _ _ _ _ _ dL_law_877 (by omega) ?_
  refine j_aload_n C dL_law_878 rfl ?_
  refine j_iload_n C dL_law_879 rfl ?_
  refine j_iconst (v := nI 2) C dL_law_880 (by decide) ?_
  first | refine j_iaddN C dL_law_881 ?_ | refine j_iadd C dL_law_881 ?_
  refine S.2 _ _ _ _ _ dL_law_882 (by omega) ?_
  refine cVi2 C dL_law_883 lML_136 myX5_lots (ev_X5_lots (IV_E5 h hr) (IV_P5 h hr) (IV_z h hr)) (by omega) rc5 (Nat.le_of_ble_eq_true rfl) (fun v2 κ hv2 => ?_)
  obtain ⟨he, hI⟩ := s_lots h hv1 hv2
  refine j_icmp_eq (tgt := 940) C dL_law_886 (by decide) (fun _ => ?_) (fun q9 => absurd he q9)
  · exact k _ hI
set_option maxRecDepth 100000 in
set_option maxHeartbeats 4000000 in
theorem lc_image {G : GX} {X : XC} {b L9 i9 : Nat} {xs : Nat → Int32} {μ : Mem} (C : Cx G X RL cL_law 10) (S : Scr G X b L9 xs) (hi : i9 + 2 < L9) (hL : L9 ≤ 1536) (h : IV μ) (k : ∀ μ9, IV μ9 → J G X 940 [some (.ref b), some (rf G 0), some (rf G 38), some (.int (nI i9))] [] μ9) : J G X 891 [some (.ref b), some (rf G 0), some (rf G 38), some (.int (nI i9))] [] μ := by
  refine j_aload_n C dL_law_891 rfl ?_
  refine cVi0 C dL_law_892 lML_137 myX4_image (ev_X4_image) (by omega) rc4 (Nat.le_of_ble_eq_true rfl) (fun v1 ν hv1 => ?_)
  have hr : RF μ ν := fun q hq => by rw [hv1.2, up_ne (by omega)]; exact cpH_off (by omega)
  refine j_aload_n C dL_law_895 rfl ?_
  refine cVi0 C dL_law_896 lML_140 myX5_image (ev_X5_image) (by omega) rc5 (Nat.le_of_ble_eq_true rfl) (fun v2 κ hv2 => ?_)
  obtain ⟨he, hI⟩ := s_image h hv1 hv2
  refine j_icmp_eq (tgt := 940) C dL_law_899 (by decide) (fun _ => ?_) (fun q9 => absurd he q9)
  · exact k _ hI
set_option maxRecDepth 100000 in
set_option maxHeartbeats 4000000 in
theorem lc_on {G : GX} {X : XC} {b L9 i9 : Nat} {xs : Nat → Int32} {μ : Mem} (C : Cx G X RL cL_law 10) (S : Scr G X b L9 xs) (hi : i9 + 2 < L9) (hL : L9 ≤ 1536) (h : IV μ) (k : ∀ μ9, IV μ9 → J G X 940 [some (.ref b), some (rf G 0), some (rf G 38), some (.int (nI i9))] [] μ9) : J G X 904 [some (.ref b), some (rf G 0), some (rf G 38), some (.int (nI i9))] [] μ := by
  refine j_aload_n C dL_law_904 rfl ?_
  refine cVi0 C dL_law_905 lML_141 myX4_on (ev_X4_on h.2.1.2.1) (by omega) rc4 (Nat.le_of_ble_eq_true rfl) (fun v1 ν hv1 => ?_)
  have hr : RF μ ν := OutG_RF (fun κ e q hq => by rw [e]; exact cpH_off (by omega)) hv1
  refine j_aload_n C dL_law_908 rfl ?_
  refine cVi0 C dL_law_909 lML_144 myX5_on (ev_X5_on (by rw [hr 38 (by decide), h.2.1.1]; exact h.2.1.2.1)) (by omega) rc5 (Nat.le_of_ble_eq_true rfl) (fun v2 κ hv2 => ?_)
  obtain ⟨he, hI⟩ := s_on h hv1 hv2
  refine j_icmp_eq (tgt := 940) C dL_law_912 (by decide) (fun _ => ?_) (fun q9 => absurd he q9)
  · exact k _ hI
set_option maxRecDepth 100000 in
set_option maxHeartbeats 4000000 in
theorem lc_count {G : GX} {X : XC} {b L9 i9 : Nat} {xs : Nat → Int32} {μ : Mem} (C : Cx G X RL cL_law 10) (S : Scr G X b L9 xs) (hi : i9 + 2 < L9) (hL : L9 ≤ 1536) (h : IV μ) (k : ∀ μ9, IV μ9 → J G X 940 [some (.ref b), some (rf G 0), some (rf G 38), some (.int (nI i9))] [] μ9) : J G X 917 [some (.ref b), some (rf G 0), some (rf G 38), some (.int (nI i9))] [] μ := by
  refine j_aload_n C dL_law_917 rfl ?_
  refine j_aload_n C dL_law_918 rfl ?_
  refine j_iload_n C dL_law_919 rfl ?_
  refine j_iconst (v := nI 1) C dL_law_920 (by decide) ?_
  first | refine j_iaddN C dL_law_921 ?_ | refine j_iadd C dL_law_921 ?_
  refine S.2 _ _ _ _ _ dL_law_922 (by omega) ?_
  refine cVi1 C dL_law_923 lML_145 myX4_count (ev_X4_count (IV_E h) (IV_P h)) (by omega) rc4 (Nat.le_of_ble_eq_true rfl) (fun v1 ν hv1 => ?_)
  have hr : RF μ ν := OutC_RF hv1
  refine j_aload_n C dL_law_926 rfl ?_
  refine j_aload_n C dL_law_927 rfl ?_
  refine j_iload_n C dL_law_928 rfl ?_
  refine j_iconst (v := nI 1) C dL_law_929 (by decide) ?_
  first | refine j_iaddN C dL_law_930 ?_ | refine j_iadd C dL_law_930 ?_
  refine S.2 _ _ _ _ _ dL_law_931 (by omega) ?_
  refine cVi1 C dL_law_932 lML_148 myX5_count (ev_X5_count (IV_E5 h hr) (IV_P5 h hr)) (by omega) rc5 (Nat.le_of_ble_eq_true rfl) (fun v2 κ hv2 => ?_)
  obtain ⟨he, hI⟩ := s_count h hv1 hv2
  refine j_icmp_eq (tgt := 940) C dL_law_935 (by decide) (fun _ => ?_) (fun q9 => absurd he q9)
  · exact k _ hI
theorem in032 (y : Int32) : (∃ k, k ≤ 32 ∧ y = nI k) ∨ (y.toInt < 0 ∨ 32 < y.toInt) := by
  by_cases h1 : y.toInt < 0
  · exact Or.inr (Or.inl h1)
  · by_cases h2 : 32 < y.toInt
    · exact Or.inr (Or.inr h2)
    · obtain ⟨z, hz, e⟩ := nI_of2 (n := 32) (M := nI 32) (x := y) (by decide) (by rw [Int32.lt_iff_toInt_lt]; exact h1) (by rw [Int32.le_iff_toInt_le, show (nI 32).toInt = 32 from rfl]; omega)
      exact Or.inl ⟨z, hz, e⟩
set_option maxRecDepth 100000 in
set_option maxHeartbeats 4000000 in
theorem law_loop {G : GX} {X : XC} {b L9 : Nat} {xs : Nat → Int32} (C : Cx G X RL cL_law 10) (S : Scr G X b L9 xs) (hL : L9 ≤ 1536) (hE : ∀ i9 μ, J G X 946 [some (.ref b), some (rf G 0), some (rf G 38), some (.int (nI i9))] [] μ) : ∀ k9 i9 μ, L9 ≤ i9 + 3 * k9 → i9 ≤ 1600 → IV μ → J G X 18 [some (.ref b), some (rf G 0), some (rf G 38), some (.int (nI i9))] [] μ := by
  intro k9
  have hneg : L9 < 3 → ∀ i9, i9 ≤ 1600 → nI L9 - nI 3 < nI i9 := fun h3 i9 hi => by
    have h0 : nI L9 - nI 3 < 0 := by
      rcases (show L9 = 0 ∨ L9 = 1 ∨ L9 = 2 by omega) with rfl | rfl | rfl <;> decide
    exact Int32.lt_of_lt_of_le h0 (nI_0le (by omega))
  induction k9 with
  | zero =>
    intro i9 μ hk hi h
    refine j_iload_n C dL_law_18 rfl ?_
    refine j_aload_n C dL_law_19 rfl ?_
    refine S.1 _ _ _ _ dL_law_20 ?_
    refine j_iconst (v := nI 3) C dL_law_21 (by decide) ?_
    rcases Nat.lt_or_ge L9 3 with h3 | h3
    · refine j_isub C dL_law_22 ?_
      refine j_icmp_gt (tgt := 946) C dL_law_23 (by decide) (fun _ => hE i9 μ) (fun q9 => absurd (hneg h3 i9 hi) q9)
    · refine j_isubN C dL_law_22 (by omega) ?_
      refine j_icmp_gtN (tgt := 946) C dL_law_23 (by decide) (by omega) (by omega) (fun _ => hE i9 μ) (fun q9 => absurd q9 (by omega))
  | succ k9 ih =>
    intro i9 μ hk hi h
    have hk9 : ∀ μ9, IV μ9 → i9 + 2 < L9 → J G X 940 [some (.ref b), some (rf G 0), some (rf G 38), some (.int (nI i9))] [] μ9 := fun μ9 h9 hlt => by
      refine in3 C dL_law_940 (nI_add i9 3) rfl ?_
      refine j_goto (tgt := 18) C dL_law_943 (by decide) ?_
      exact ih (i9 + 3) μ9 (by omega) (by omega) h9
    refine j_iload_n C dL_law_18 rfl ?_
    refine j_aload_n C dL_law_19 rfl ?_
    refine S.1 _ _ _ _ dL_law_20 ?_
    refine j_iconst (v := nI 3) C dL_law_21 (by decide) ?_
    rcases Nat.lt_or_ge L9 3 with h3 | h3
    · refine j_isub C dL_law_22 ?_
      refine j_icmp_gt (tgt := 946) C dL_law_23 (by decide) (fun _ => hE i9 μ) (fun q9 => absurd (hneg h3 i9 hi) q9)
    · refine j_isubN C dL_law_22 (by omega) ?_
      refine j_icmp_gtN (tgt := 946) C dL_law_23 (by decide) (by omega) (by omega) (fun _ => hE i9 μ) (fun q9 => ?_)
      have hlt : i9 + 2 < L9 := by omega
      replace hk9 := fun μ9 h9 => hk9 μ9 h9 hlt
      refine j_aload_n C dL_law_26 rfl ?_
      refine j_iload_n C dL_law_27 rfl ?_
      refine S.2 _ _ _ _ _ dL_law_28 (by omega) ?_
      refine j_bipush (v := nI 63) C dL_law_29 (by decide) ?_
      refine j_iand C dL_law_31 ?_
      generalize xs i9 &&& nI 63 = y9
      rcases in032 y9 with ⟨z9, hz9, rfl⟩ | yo
      · rcases (show z9 = 0 ∨ z9 = 1 ∨ z9 = 2 ∨ z9 = 3 ∨ z9 = 4 ∨ z9 = 5 ∨ z9 = 6 ∨ z9 = 7 ∨ z9 = 8 ∨ z9 = 9 ∨ z9 = 10 ∨ z9 = 11 ∨ z9 = 12 ∨ z9 = 13 ∨ z9 = 14 ∨ z9 = 15 ∨ z9 = 16 ∨ z9 = 17 ∨ z9 = 18 ∨ z9 = 19 ∨ z9 = 20 ∨ z9 = 21 ∨ z9 = 22 ∨ z9 = 23 ∨ z9 = 24 ∨ z9 = 25 ∨ z9 = 26 ∨ z9 = 27 ∨ z9 = 28 ∨ z9 = 29 ∨ z9 = 30 ∨ z9 = 31 ∨ z9 = 32 by omega) with rfl | rfl | rfl | rfl | rfl | rfl | rfl | rfl | rfl | rfl | rfl | rfl | rfl | rfl | rfl | rfl | rfl | rfl | rfl | rfl | rfl | rfl | rfl | rfl | rfl | rfl | rfl | rfl | rfl | rfl | rfl | rfl | rfl
        · refine j_tabIn (tgt := 180) C dL_law_32 (by decide) (by decide) (off := 148) (by decide) (by decide) ?_
          exact lc_letter C S (by omega) hL h hk9
        · refine j_tabIn (tgt := 203) C dL_law_32 (by decide) (by decide) (off := 171) (by decide) (by decide) ?_
          exact lc_house C S (by omega) hL h hk9
        · refine j_tabIn (tgt := 216) C dL_law_32 (by decide) (by decide) (off := 184) (by decide) (by decide) ?_
          exact lc_story C S (by omega) hL h hk9
        · refine j_tabIn (tgt := 249) C dL_law_32 (by decide) (by decide) (off := 217) (by decide) (by decide) ?_
          exact lc_place C S (by omega) hL h hk9
        · refine j_tabIn (tgt := 272) C dL_law_32 (by decide) (by decide) (off := 240) (by decide) (by decide) ?_
          exact lc_change C S (by omega) hL h hk9
        · refine j_tabIn (tgt := 305) C dL_law_32 (by decide) (by decide) (off := 273) (by decide) (by decide) ?_
          exact lc_people C S (by omega) hL h hk9
        · refine j_tabIn (tgt := 338) C dL_law_32 (by decide) (by decide) (off := 306) (by decide) (by decide) ?_
          exact lc_set C S (by omega) hL h hk9
        · refine j_tabIn (tgt := 371) C dL_law_32 (by decide) (by decide) (off := 339) (by decide) (by decide) ?_
          exact lc_come C S (by omega) hL h hk9
        · refine j_tabIn (tgt := 404) C dL_law_32 (by decide) (by decide) (off := 372) (by decide) (by decide) ?_
          exact lc_going C S (by omega) hL h hk9
        · refine j_tabIn (tgt := 437) C dL_law_32 (by decide) (by decide) (off := 405) (by decide) (by decide) ?_
          exact lc_total C S (by omega) hL h hk9
        · refine j_tabIn (tgt := 460) C dL_law_32 (by decide) (by decide) (off := 428) (by decide) (by decide) ?_
          exact lc_at C S (by omega) hL h hk9
        · refine j_tabIn (tgt := 493) C dL_law_32 (by decide) (by decide) (off := 461) (by decide) (by decide) ?_
          exact lc_when C S (by omega) hL h hk9
        · refine j_tabIn (tgt := 516) C dL_law_32 (by decide) (by decide) (off := 484) (by decide) (by decide) ?_
          exact lc_best C S (by omega) hL h hk9
        · refine j_tabIn (tgt := 539) C dL_law_32 (by decide) (by decide) (off := 507) (by decide) (by decide) ?_
          exact lc_bestAt C S (by omega) hL h hk9
        · refine j_tabIn (tgt := 572) C dL_law_32 (by decide) (by decide) (off := 540) (by decide) (by decide) ?_
          exact lc_turned C S (by omega) hL h hk9
        · refine j_tabIn (tgt := 595) C dL_law_32 (by decide) (by decide) (off := 563) (by decide) (by decide) ?_
          exact lc_most C S (by omega) hL h hk9
        · refine j_tabIn (tgt := 608) C dL_law_32 (by decide) (by decide) (off := 576) (by decide) (by decide) ?_
          exact lc_enough C S (by omega) hL h hk9
        · refine j_tabIn (tgt := 631) C dL_law_32 (by decide) (by decide) (off := 599) (by decide) (by decide) ?_
          exact lc_fill C S (by omega) hL h hk9
        · refine j_tabIn (tgt := 644) C dL_law_32 (by decide) (by decide) (off := 612) (by decide) (by decide) ?_
          exact lc_ramp C S (by omega) hL h hk9
        · refine j_tabIn (tgt := 657) C dL_law_32 (by decide) (by decide) (off := 625) (by decide) (by decide) ?_
          exact lc_keep C S (by omega) hL h hk9
        · refine j_tabIn (tgt := 680) C dL_law_32 (by decide) (by decide) (off := 648) (by decide) (by decide) ?_
          exact lc_oneEach C S (by omega) hL h hk9
        · refine j_tabIn (tgt := 693) C dL_law_32 (by decide) (by decide) (off := 661) (by decide) (by decide) ?_
          exact lc_machine C S (by omega) hL h hk9
        · refine j_tabIn (tgt := 706) C dL_law_32 (by decide) (by decide) (off := 674) (by decide) (by decide) ?_
          exact lc_saves C S (by omega) hL h hk9
        · refine j_tabIn (tgt := 719) C dL_law_32 (by decide) (by decide) (off := 687) (by decide) (by decide) ?_
          exact lc_late C S (by omega) hL h hk9
        · refine j_tabIn (tgt := 753) C dL_law_32 (by decide) (by decide) (off := 721) (by decide) (by decide) ?_
          exact lc_more C S (by omega) hL h hk9
        · refine j_tabIn (tgt := 776) C dL_law_32 (by decide) (by decide) (off := 744) (by decide) (by decide) ?_
          exact lc_squeak C S (by omega) hL h hk9
        · refine j_tabIn (tgt := 799) C dL_law_32 (by decide) (by decide) (off := 767) (by decide) (by decide) ?_
          exact lc_row C S (by omega) hL h hk9
        · refine j_tabIn (tgt := 822) C dL_law_32 (by decide) (by decide) (off := 790) (by decide) (by decide) ?_
          exact lc_fits C S (by omega) hL h hk9
        · refine j_tabIn (tgt := 845) C dL_law_32 (by decide) (by decide) (off := 813) (by decide) (by decide) ?_
          exact lc_judge C S (by omega) hL h hk9
        · refine j_tabIn (tgt := 858) C dL_law_32 (by decide) (by decide) (off := 826) (by decide) (by decide) ?_
          exact lc_lots C S (by omega) hL h hk9
        · refine j_tabIn (tgt := 891) C dL_law_32 (by decide) (by decide) (off := 859) (by decide) (by decide) ?_
          exact lc_image C S (by omega) hL h hk9
        · refine j_tabIn (tgt := 904) C dL_law_32 (by decide) (by decide) (off := 872) (by decide) (by decide) ?_
          exact lc_on C S (by omega) hL h hk9
        · refine j_tabIn (tgt := 917) C dL_law_32 (by decide) (by decide) (off := 885) (by decide) (by decide) ?_
          exact lc_count C S (by omega) hL h hk9
      · refine j_tabOut (tgt := 940) C dL_law_32 yo (by decide) ?_
        exact hk9 μ h
