-- THE REFERENCE'S ROUND: a visit
set_option maxRecDepth 100000 in
set_option maxHeartbeats 4000000 in
theorem j5_visit {G : GX} {X : XC} {μ0 : Mem} {f i c w cm : Nat} {s : RS} {mi wa se ic sd : Nat → Nat} {t0 t1 t2 t3 t4 t5 t6 t7 : Nat} {r : Nat → Nat} (C : Cx G X RX5 cX5_round 2) (hE : EI (sh μ0 38)) (hf : f < μ0 38 0) (hi : i < μ0 38 0) (hs : SB i s) (hc : s.1 ≤ c) (hc2 : c ≤ 60 * i + 27) (hw : μ0 38 15 = w) (hw1 : w = 0 ∨ w = 1) (hcm : cm < 64) (b1 b2 : Nat) (hb : b1 + b2 = s.2.2.2.2.2) (x8 x9 x10 x11 x12 x13 x14 : Option Value)
    (kont : ∀ x8 x9 x10 x11 x12 x13 x14 b1 b2, b1 + b2 = (vNext (sh μ0 38) w f i c s).2.2.2.2.2 → J G X 83 [some (rf G 38), some (.int (nI ((vNext (sh μ0 38) w f i c s).2.1))), some (.int (nI ((vNext (sh μ0 38) w f i c s).2.2.1))), some (.int (nI ((vNext (sh μ0 38) w f i c s).2.2.2.1))), some (.int (nI ((vNext (sh μ0 38) w f i c s).1))), some (.int (nI ((sh μ0 38) 2 f))), some (.int (nI (i + 1))), some (.int (nI f)), x8, x9, x10, x11, x12, x13, x14] [] (NM μ0 (if 0 < vCold (sh μ0 38) f c s then cm ||| 2 ^ f else cm) (vNext (sh μ0 38) w f i c s).2.2.2.2.1 b1 b2 (TT t0 (t1 + vServed (sh μ0 38) f c s) (t2 + vMiss (sh μ0 38) f c s) (t3 + vCold (sh μ0 38) f c s) (t4 + vIced (sh μ0 38) w f i c s) (t5 + vBunl (sh μ0 38) w f i c s) (t6 + vStand (sh μ0 38) f c s) t7 r) (u1 mi i c) (u1 wa i (vWarm (sh μ0 38) f c s)) (u1 se i (vServed (sh μ0 38) f c s)) (u1 ic i (vIced (sh μ0 38) w f i c s)) (u1 sd i (vStand (sh μ0 38) f c s)))) :
    J G X 144 [some (rf G 38), some (.int (nI (s.2.1))), some (.int (nI (s.2.2.1))), some (.int (nI (s.2.2.2.1))), some (.int (nI c)), some (.int (nI ((sh μ0 38) 2 f))), some (.int (nI i)), some (.int (nI f)), x8, x9, x10, x11, x12, x13, x14] [] (NM μ0 cm s.2.2.2.2.1 b1 b2 (TT t0 t1 t2 t3 t4 t5 t6 t7 r) (u1 mi i c) wa se ic sd) := by
  have h6 : μ0 38 0 ≤ 6 := hE.1
  have hset := hE.set
  obtain ⟨b19, b29, b39, b49, b59, b69⟩ := id hs
  obtain ⟨a1, a2, a3, a4, a5, a6, a7, a8, a9, a10⟩ := v_b hE hf hs hc
  have heach : vEach (sh μ0 38) w f = 1 ∨ vEach (sh μ0 38) w f = 3 := by unfold vEach; (repeat' split) <;> omega
  have h49 : μ0 44 9 ≤ 20 := hset.2.2.2.2.2.2.2.2.2
  have hk1 : (sh μ0 38) 1 f = μ0 39 f := rfl
  have hk5 : μ0 39 f ≤ 5 := (hE.2.1 f hf).1
  have hset8 : μ0 44 8 ≤ 2 := hset.2.2.2.2.2.2.2.2.1
  have jA : ∀ x12 x13 x14 b1 b2, b1 + b2 + ((min (vServed (sh μ0 38) f c s * vEach (sh μ0 38) w f) (s.2.2.2.2.1 - vKept (sh μ0 38) i + s.2.2.2.2.2)) - (s.2.2.2.2.1 - vKept (sh μ0 38) i)) = s.2.2.2.2.2 → J G X 553 [some (rf G 38), some (.int (nI (vCups (sh μ0 38) f c s - vServed (sh μ0 38) f c s))), some (.int (nI (vBase (sh μ0 38) f c s))), some (.int (nI (vSince (sh μ0 38) f c s))), some (.int (nI (vClk (sh μ0 38) f c s))), some (.int (nI ((sh μ0 38) 2 f))), some (.int (nI i)), some (.int (nI f)), some (.int (nI (vCome (sh μ0 38) f c))), some (.int (nI (vWarm (sh μ0 38) f c s))), some (.int (nI (vEach (sh μ0 38) w f))), some (.int (nI (vServed (sh μ0 38) f c s))), x12, x13, x14] [] (NM μ0 (if 0 < vCold (sh μ0 38) f c s then cm ||| 2 ^ f else cm) (s.2.2.2.2.1 - min (min (vServed (sh μ0 38) f c s * vEach (sh μ0 38) w f) (s.2.2.2.2.1 - vKept (sh μ0 38) i + s.2.2.2.2.2)) (s.2.2.2.2.1 - vKept (sh μ0 38) i)) b1 b2 (TT t0 (t1 + vServed (sh μ0 38) f c s) (t2 + vMiss (sh μ0 38) f c s) (t3 + vCold (sh μ0 38) f c s) t4 (t5 + bLess (vServed (sh μ0 38) f c s) (vEach (sh μ0 38) w f) (vKept (sh μ0 38) i) s.2.2.2.2.1 s.2.2.2.2.2) (t6 + vStand (sh μ0 38) f c s) t7 r) (u1 mi i c) (u1 wa i (vWarm (sh μ0 38) f c s)) (u1 se i (vServed (sh μ0 38) f c s)) (u1 ic i (min (min (vServed (sh μ0 38) f c s * vEach (sh μ0 38) w f) (s.2.2.2.2.1 - vKept (sh μ0 38) i + s.2.2.2.2.2)) (s.2.2.2.2.1 - vKept (sh μ0 38) i))) (u1 sd i (vStand (sh μ0 38) f c s))) := by
    intro x12 x13 x14 b1 b2 hbb
    refine j_aload_n C dX5_round_553 rfl ?_
    refine g5_8 C dX5_round_554 lFX5_31 ?_
    refine j_iconst (v := nI 4) C dX5_round_557 (by decide) ?_
    refine j_dup2 C dX5_round_558 rfl rfl ?_
    refine na46_4 C dX5_round_559 ?_
    refine j_aload_n C dX5_round_560 rfl ?_
    refine g5_12 C dX5_round_561 lFX5_43 ?_
    refine j_iload C dX5_round_564 rfl ?_
    refine na50h C dX5_round_566 (by omega) ?_
    refine J.top (y := nI (vIced (sh μ0 38) w f i c s)) rfl ?_
    first | refine j_iaddN C dX5_round_567 ?_ | refine j_iadd C dX5_round_567 ?_
    refine ns46_4 C dX5_round_568 ?_
    refine j_iload C dX5_round_569 rfl ?_
    refine j_aload_n C dX5_round_571 rfl ?_
    refine j_iload C dX5_round_572 rfl ?_
    refine j_aload_n C dX5_round_574 rfl ?_
    refine g5_11 C dX5_round_575 lFX5_40 ?_
    refine j_iload C dX5_round_578 rfl ?_
    refine na49h C dX5_round_580 (by omega) ?_
    refine cVe2 C dX5_round_581 lMX5_163 myX5_serves (e5_serves hE NM_lo hf (by omega)) (by omega) rc5 (Nat.le_of_ble_eq_true rfl) ?_
    first | refine j_iaddN C dX5_round_584 ?_ | refine j_iadd C dX5_round_584 ?_
    refine sl4 C dX5_round_585 rfl ?_
    first | refine in6 C dX5_round_587 (nI_1 _) rfl ?_ | refine in6 C dX5_round_587 rfl rfl ?_
    refine j_goto (tgt := 83) C dX5_round_590 (by decide) ?_
    exact kont _ _ _ _ _ _ _ b1 b2 (by
      show b1 + b2 = s.2.2.2.2.2 - (vEaten (sh μ0 38) w f i c s - vIced (sh μ0 38) w f i c s)
      unfold vEaten vIced bIced bEaten
      omega)
  have jC : J G X 413 [some (rf G 38), some (.int (nI (vCups (sh μ0 38) f c s - vServed (sh μ0 38) f c s))), some (.int (nI (vBase (sh μ0 38) f c s))), some (.int (nI (vSince (sh μ0 38) f c s))), some (.int (nI (vClk (sh μ0 38) f c s))), some (.int (nI ((sh μ0 38) 2 f))), some (.int (nI i)), some (.int (nI f)), some (.int (nI (vCome (sh μ0 38) f c))), some (.int (nI (vWarm (sh μ0 38) f c s))), x10, x11, x12, x13, x14] [] (NM μ0 (if 0 < vCold (sh μ0 38) f c s then cm ||| 2 ^ f else cm) s.2.2.2.2.1 b1 b2 (TT t0 (t1 + vServed (sh μ0 38) f c s) (t2 + vMiss (sh μ0 38) f c s) (t3 + vCold (sh μ0 38) f c s) t4 t5 (t6 + vStand (sh μ0 38) f c s) t7 r) (u1 mi i c) (u1 wa i (vWarm (sh μ0 38) f c s)) (u1 se i (vServed (sh μ0 38) f c s)) (u1 ic i 0) (u1 sd i (vStand (sh μ0 38) f c s))) := by
    refine j_aload_n C dX5_round_413 rfl ?_
    refine g5_1 C dX5_round_414 lFX5_7 ?_
    refine j_iload C dX5_round_417 rfl ?_
    refine nah C dX5_round_419 iA_39 (by omega) (by omega) ?_
    refine j_iconst (v := nI 4) C dX5_round_420 (by decide) ?_
    first | refine j_icmp_neN (tgt := 435) C dX5_round_421 (by decide) (by omega) (by omega) (fun c_421 => ?_) (fun c_421 => ?_) | refine j_icmp_ne (tgt := 435) C dX5_round_421 (by decide) (fun c_421 => ?_) (fun c_421 => ?_)
    · refine j_iconst (v := nI 1) C dX5_round_435 (by decide) ?_
      refine J.top (y := nI (vEach (sh μ0 38) w f)) (by unfold vEach; (repeat' split) <;> first | rfl | omega) ?_
      refine sl10 C dX5_round_436 rfl ?_
      exact j5_buns C heach hi h6 (by omega) b59 b69 h49 (fun z => if_pos z) (fun z => if_neg z) b1 b2 hb _ _ _ _ (fun x12 x13 x14 b1 b2 h9 => jA x12 x13 x14 b1 b2 h9)
    · refine j_aload_n C dX5_round_424 rfl ?_
      refine g5_15N C dX5_round_425 lFX5_156 ?_
      refine j_if_neN (tgt := 435) C dX5_round_428 (by decide) (by omega) (fun c_428 => ?_) (fun c_428 => ?_)
      · refine j_iconst (v := nI 1) C dX5_round_435 (by decide) ?_
        refine J.top (y := nI (vEach (sh μ0 38) w f)) (by unfold vEach; (repeat' split) <;> first | rfl | omega) ?_
        refine sl10 C dX5_round_436 rfl ?_
        exact j5_buns C heach hi h6 (by omega) b59 b69 h49 (fun z => if_pos z) (fun z => if_neg z) b1 b2 hb _ _ _ _ (fun x12 x13 x14 b1 b2 h9 => jA x12 x13 x14 b1 b2 h9)
      · refine j_iconst (v := nI 3) C dX5_round_431 (by decide) ?_
        refine j_goto (tgt := 436) C dX5_round_432 (by decide) ?_
        refine J.top (y := nI (vEach (sh μ0 38) w f)) (by unfold vEach; (repeat' split) <;> first | rfl | omega) ?_
        refine sl10 C dX5_round_436 rfl ?_
        exact j5_buns C heach hi h6 (by omega) b59 b69 h49 (fun z => if_pos z) (fun z => if_neg z) b1 b2 hb _ _ _ _ (fun x12 x13 x14 b1 b2 h9 => jA x12 x13 x14 b1 b2 h9)
  have jD : J G X 263 [some (rf G 38), some (.int (nI (vCups (sh μ0 38) f c s))), some (.int (nI (vBase (sh μ0 38) f c s))), some (.int (nI (vSince (sh μ0 38) f c s))), some (.int (nI (vClk (sh μ0 38) f c s))), some (.int (nI ((sh μ0 38) 2 f))), some (.int (nI i)), some (.int (nI f)), some (.int (nI (vCome (sh μ0 38) f c))), some (.int (nI (vWarm (sh μ0 38) f c s))), x10, x11, x12, x13, x14] [] (NM μ0 cm s.2.2.2.2.1 b1 b2 (TT t0 t1 t2 t3 t4 t5 t6 t7 r) (u1 mi i c) wa se ic sd) := by
    refine j_aload_n C dX5_round_263 rfl ?_
    refine g5_10 C dX5_round_264 lFX5_37 ?_
    refine j_iload C dX5_round_267 rfl ?_
    refine j_iload C dX5_round_269 rfl ?_
    refine ns48 C dX5_round_271 (by omega) ?_
    refine j_aload_n C dX5_round_272 rfl ?_
    refine g5_11 C dX5_round_273 lFX5_40 ?_
    refine j_iload C dX5_round_276 rfl ?_
    refine j_iload_n C dX5_round_278 rfl ?_
    refine j_iload C dX5_round_279 rfl ?_
    refine j_minN C dX5_round_281 lMX5_153 (by omega) (Nat.le_of_ble_eq_true rfl) (by omega) (by omega) ?_
    refine J.top (y := nI (vServed (sh μ0 38) f c s)) (by rw [Nat.min_comm]; rfl) ?_
    refine ns49 C dX5_round_284 (by omega) ?_
    refine j_iload_n C dX5_round_285 rfl ?_
    refine j_aload_n C dX5_round_286 rfl ?_
    refine g5_11 C dX5_round_287 lFX5_40 ?_
    refine j_iload C dX5_round_290 rfl ?_
    refine na49h C dX5_round_292 (by omega) ?_
    first | refine j_isubN C dX5_round_293 (by omega) ?_ | refine j_isub C dX5_round_293 ?_
    refine sn1 C dX5_round_294 rfl ?_
    refine j_aload_n C dX5_round_295 rfl ?_
    refine g5_12 C dX5_round_296 lFX5_43 ?_
    refine j_iload C dX5_round_299 rfl ?_
    refine j_iconst (v := nI 0) C dX5_round_301 (by decide) ?_
    refine ns50 C dX5_round_302 (by omega) ?_
    refine j_aload_n C dX5_round_303 rfl ?_
    refine g5_8 C dX5_round_304 lFX5_31 ?_
    refine j_iconst (v := nI 1) C dX5_round_307 (by decide) ?_
    refine j_dup2 C dX5_round_308 rfl rfl ?_
    refine na46_1 C dX5_round_309 ?_
    refine j_aload_n C dX5_round_310 rfl ?_
    refine g5_11 C dX5_round_311 lFX5_40 ?_
    refine j_iload C dX5_round_314 rfl ?_
    refine na49h C dX5_round_316 (by omega) ?_
    first | refine j_iaddN C dX5_round_317 ?_ | refine j_iadd C dX5_round_317 ?_
    refine ns46_1 C dX5_round_318 ?_
    refine j_aload_n C dX5_round_319 rfl ?_
    refine g5_8 C dX5_round_320 lFX5_31 ?_
    refine j_iconst (v := nI 2) C dX5_round_323 (by decide) ?_
    refine j_dup2 C dX5_round_324 rfl rfl ?_
    refine na46_2 C dX5_round_325 ?_
    refine j_iload C dX5_round_326 rfl ?_
    refine j_aload_n C dX5_round_328 rfl ?_
    refine g5_11 C dX5_round_329 lFX5_40 ?_
    refine j_iload C dX5_round_332 rfl ?_
    refine na49h C dX5_round_334 (by omega) ?_
    first | refine j_isubN C dX5_round_335 (by omega) ?_ | refine j_isub C dX5_round_335 ?_
    first | refine j_iaddN C dX5_round_336 ?_ | refine j_iadd C dX5_round_336 ?_
    refine ns46_2 C dX5_round_337 ?_
    refine j_aload_n C dX5_round_338 rfl ?_
    refine g5_13 C dX5_round_339 lFX5_46 ?_
    refine j_iload C dX5_round_342 rfl ?_
    refine j_iload C dX5_round_344 rfl ?_
    refine j_iload C dX5_round_346 rfl ?_
    first | refine j_imulN C dX5_round_348 ?_ | refine j_imul C dX5_round_348 ?_
    refine ns51 C dX5_round_349 (by omega) ?_
    refine j_aload_n C dX5_round_350 rfl ?_
    refine g5_8 C dX5_round_351 lFX5_31 ?_
    refine j_bipush (v := nI 6) C dX5_round_354 (by decide) ?_
    refine j_dup2 C dX5_round_356 rfl rfl ?_
    refine na46_6 C dX5_round_357 ?_
    refine j_aload_n C dX5_round_358 rfl ?_
    refine g5_13 C dX5_round_359 lFX5_46 ?_
    refine j_iload C dX5_round_362 rfl ?_
    refine na51h C dX5_round_364 (by omega) ?_
    first | refine j_iaddN C dX5_round_365 ?_ | refine j_iadd C dX5_round_365 ?_
    refine ns46_6 C dX5_round_366 ?_
    refine j_iload C dX5_round_367 rfl ?_
    refine j_bipush (v := nI 60) C dX5_round_369 (by decide) ?_
    first | refine j_icmp_geN (tgt := 413) C dX5_round_371 (by decide) (by omega) (by omega) (fun c_371 => ?_) (fun c_371 => ?_) | refine j_icmp_ge (tgt := 413) C dX5_round_371 (by decide) (fun c_371 => ?_) (fun c_371 => ?_)
    · have hco : vCold (sh μ0 38) f c s = 0 := by unfold vCold; rw [if_neg (by omega)]
      first
      | (rw [if_pos hcp, hco] at jC
         exact jC)
      | (rw [if_neg (by omega), hco, Nat.add_zero] at jC
         exact jC)
    · refine j_aload_n C dX5_round_374 rfl ?_
      refine g5_11 C dX5_round_375 lFX5_40 ?_
      refine j_iload C dX5_round_378 rfl ?_
      refine na49h C dX5_round_380 (by omega) ?_
      refine j_if_leN (tgt := 413) C dX5_round_381 (by decide) (by omega) (fun c_381 => ?_) (fun c_381 => ?_)
      · have hco : vCold (sh μ0 38) f c s = 0 := by unfold vCold; rw [if_pos (by omega)]; omega
        first
        | (rw [if_pos hcp, hco] at jC
           exact jC)
        | (rw [if_neg (by omega), hco, Nat.add_zero] at jC
           exact jC)
      · have hco : vCold (sh μ0 38) f c s = vServed (sh μ0 38) f c s := by unfold vCold; rw [if_pos (by omega)]
        have hcp : 0 < vCold (sh μ0 38) f c s := by omega
        refine j_aload_n C dX5_round_384 rfl ?_
        refine g5_8 C dX5_round_385 lFX5_31 ?_
        refine j_iconst (v := nI 3) C dX5_round_388 (by decide) ?_
        refine j_dup2 C dX5_round_389 rfl rfl ?_
        refine na46_3 C dX5_round_390 ?_
        refine j_aload_n C dX5_round_391 rfl ?_
        refine g5_11 C dX5_round_392 lFX5_40 ?_
        refine j_iload C dX5_round_395 rfl ?_
        refine na49h C dX5_round_397 (by omega) ?_
        first | refine j_iaddN C dX5_round_398 ?_ | refine j_iadd C dX5_round_398 ?_
        refine ns46_3 C dX5_round_399 ?_
        refine j_aload_n C dX5_round_400 rfl ?_
        refine j_dup C dX5_round_401 rfl ?_
        refine g5_14N C dX5_round_402 lFX5_147 ?_
        refine j_iconst (v := nI 1) C dX5_round_405 (by decide) ?_
        refine j_iload C dX5_round_406 rfl ?_
        refine j_ishl C dX5_round_408 ?_
        refine j_ior C dX5_round_409 ?_
        refine J.top (cm_or cm hcm f (by omega)) ?_
        refine p5_14N C dX5_round_410 lFX5_147 ?_
        first
        | (rw [if_pos hcp, hco] at jC
           exact jC)
        | (rw [if_neg (by omega), hco, Nat.add_zero] at jC
           exact jC)
  refine j_aload_n C dX5_round_144 rfl ?_
  refine j_iload C dX5_round_145 rfl ?_
  refine j_iload C dX5_round_147 rfl ?_
  refine cVe2 C dX5_round_149 lMX5_135 myX5_comes (e5_comes hE NM_lo hf (by omega)) (by omega) rc5 (Nat.le_of_ble_eq_true rfl) ?_
  refine sl8 C dX5_round_152 rfl ?_
  refine j_iconst (v := nI 0) C dX5_round_154 (by decide) ?_
  refine j_iload_n C dX5_round_155 rfl ?_
  refine j_iload C dX5_round_156 rfl ?_
  refine j_iload_n C dX5_round_158 rfl ?_
  first | refine j_isubN C dX5_round_159 (by omega) ?_ | refine j_isub C dX5_round_159 ?_
  refine j_iconst (v := nI 4) C dX5_round_160 (by decide) ?_
  first | refine j_idivN C dX5_round_161 (by omega) (by omega) (by omega) ?_ | refine j_idiv C dX5_round_161 (by decide) ?_
  refine j_isub C dX5_round_162 ?_
  refine j_max C dX5_round_163 lMX5_150 mS_max mI mC_max (by omega) (Nat.le_of_ble_eq_true rfl) (J.top (y := nI (vDeg c s)) (max0 (by omega) (by omega)) ?_)
  refine sl9 C dX5_round_166 rfl ?_
  refine j_iload_n C dX5_round_168 rfl ?_
  refine j_iload C dX5_round_169 rfl ?_
  first | refine j_icmp_geN (tgt := 263) C dX5_round_171 (by decide) (by omega) (by omega) (fun c_171 => ?_) (fun c_171 => ?_) | refine j_icmp_ge (tgt := 263) C dX5_round_171 (by decide) (fun c_171 => ?_) (fun c_171 => ?_)
  · have hnf : ¬ (s.2.1 < vCome (sh μ0 38) f c ∧ 0 < (sh μ0 38) 6 8) := fun q => absurd q.1 (by omega)
    have e1 : vClk (sh μ0 38) f c s = c := if_neg hnf
    have e2 : vCups (sh μ0 38) f c s = s.2.1 := if_neg hnf
    have e3 : vBase (sh μ0 38) f c s = s.2.2.1 := if_neg hnf
    have e4 : vSince (sh μ0 38) f c s = s.2.2.2.1 := if_neg hnf
    have e5 : vWarm (sh μ0 38) f c s = vDeg c s := if_neg hnf
    rw [e1, e2, e3, e4, e5] at jD
    exact jD
  · refine j_aload_n C dX5_round_174 rfl ?_
    refine g5_6 C dX5_round_175 lFX5_25 ?_
    refine j_bipush (v := nI 8) C dX5_round_178 (by decide) ?_
    refine nah C dX5_round_180 iA_44 (by omega) (by omega) ?_
    refine j_if_leN (tgt := 263) C dX5_round_181 (by decide) (by omega) (fun c_181 => ?_) (fun c_181 => ?_)
    · have hnf : ¬ (s.2.1 < vCome (sh μ0 38) f c ∧ 0 < (sh μ0 38) 6 8) := fun q => absurd (show 0 < μ0 44 8 from q.2) (by omega)
      have e1 : vClk (sh μ0 38) f c s = c := if_neg hnf
      have e2 : vCups (sh μ0 38) f c s = s.2.1 := if_neg hnf
      have e3 : vBase (sh μ0 38) f c s = s.2.2.1 := if_neg hnf
      have e4 : vSince (sh μ0 38) f c s = s.2.2.2.1 := if_neg hnf
      have e5 : vWarm (sh μ0 38) f c s = vDeg c s := if_neg hnf
      rw [e1, e2, e3, e4, e5] at jD
      exact jD
    · have hfp : s.2.1 < vCome (sh μ0 38) f c ∧ 0 < (sh μ0 38) 6 8 := ⟨c_171, by show 0 < μ0 44 8; omega⟩
      rcases (show μ0 44 8 = 1 ∨ μ0 44 8 = 2 by omega) with h8 | h8
      · have h81 : (sh μ0 38) 6 8 = 1 := h8
        have e1 : vClk (sh μ0 38) f c s = c + 11 := by unfold vClk; rw [if_pos hfp, if_pos h81]
        have e2 : vCups (sh μ0 38) f c s = 40 := by unfold vCups; rw [if_pos hfp, if_pos h81]
        have e3 : vBase (sh μ0 38) f c s = 90 := by unfold vBase; rw [if_pos hfp, if_pos h81]
        have e4 : vSince (sh μ0 38) f c s = c + 11 := by unfold vSince; rw [if_pos hfp, if_pos h81]
        have e5 : vWarm (sh μ0 38) f c s = 90 := by unfold vWarm; rw [if_pos hfp, if_pos h81]
        rw [e1, e2, e3, e4, e5] at jD
        refine j_iload C dX5_round_184 rfl ?_
        refine j_aload_n C dX5_round_186 rfl ?_
        refine g5_6 C dX5_round_187 lFX5_25 ?_
        refine j_bipush (v := nI 8) C dX5_round_190 (by decide) ?_
        refine nah C dX5_round_192 iA_44 (by omega) (by omega) ?_
        refine j_iconst (v := nI 1) C dX5_round_193 (by decide) ?_
        first | refine j_icmp_neN (tgt := 202) C dX5_round_194 (by decide) (by omega) (by omega) (fun c_194 => ?_) (fun c_194 => ?_) | refine j_icmp_ne (tgt := 202) C dX5_round_194 (by decide) (fun c_194 => ?_) (fun c_194 => ?_)
        · exact absurd h8 c_194
        · refine j_bipush (v := nI 11) C dX5_round_197 (by decide) ?_
          refine j_goto (tgt := 204) C dX5_round_199 (by decide) ?_
          first | refine j_iaddN C dX5_round_204 ?_ | refine j_iadd C dX5_round_204 ?_
          refine sl4 C dX5_round_205 rfl ?_
          refine j_aload_n C dX5_round_207 rfl ?_
          refine g5_6 C dX5_round_208 lFX5_25 ?_
          refine j_bipush (v := nI 8) C dX5_round_211 (by decide) ?_
          refine nah C dX5_round_213 iA_44 (by omega) (by omega) ?_
          refine j_iconst (v := nI 1) C dX5_round_214 (by decide) ?_
          first | refine j_icmp_neN (tgt := 223) C dX5_round_215 (by decide) (by omega) (by omega) (fun c_215 => ?_) (fun c_215 => ?_) | refine j_icmp_ne (tgt := 223) C dX5_round_215 (by decide) (fun c_215 => ?_) (fun c_215 => ?_)
          · exact absurd h8 c_215
          · refine j_bipush (v := nI 90) C dX5_round_218 (by decide) ?_
            refine j_goto (tgt := 230) C dX5_round_220 (by decide) ?_
            refine sn2 C dX5_round_230 rfl ?_
            refine j_aload_n C dX5_round_231 rfl ?_
            refine g5_6 C dX5_round_232 lFX5_25 ?_
            refine j_bipush (v := nI 8) C dX5_round_235 (by decide) ?_
            refine nah C dX5_round_237 iA_44 (by omega) (by omega) ?_
            refine j_iconst (v := nI 1) C dX5_round_238 (by decide) ?_
            first | refine j_icmp_neN (tgt := 247) C dX5_round_239 (by decide) (by omega) (by omega) (fun c_239 => ?_) (fun c_239 => ?_) | refine j_icmp_ne (tgt := 247) C dX5_round_239 (by decide) (fun c_239 => ?_) (fun c_239 => ?_)
            · exact absurd h8 c_239
            · refine j_bipush (v := nI 40) C dX5_round_242 (by decide) ?_
              refine j_goto (tgt := 256) C dX5_round_244 (by decide) ?_
              refine sn1 C dX5_round_256 rfl ?_
              refine j_iload C dX5_round_257 rfl ?_
              refine sn3 C dX5_round_259 rfl ?_
              refine j_iload_n C dX5_round_260 rfl ?_
              refine sl9 C dX5_round_261 rfl ?_
              exact jD
      · have h81 : ¬ (sh μ0 38) 6 8 = 1 := by show ¬ μ0 44 8 = 1; omega
        have e1 : vClk (sh μ0 38) f c s = c + 6 := by unfold vClk; rw [if_pos hfp, if_neg h81]
        have e2 : vCups (sh μ0 38) f c s = min 40 (s.2.1 + 20) := by unfold vCups; rw [if_pos hfp, if_neg h81]
        have e3 : vBase (sh μ0 38) f c s = (vDeg c s + 90) / 2 := by unfold vBase; rw [if_pos hfp, if_neg h81]
        have e4 : vSince (sh μ0 38) f c s = c + 6 := by unfold vSince; rw [if_pos hfp, if_neg h81]
        have e5 : vWarm (sh μ0 38) f c s = (vDeg c s + 90) / 2 := by unfold vWarm; rw [if_pos hfp, if_neg h81]
        rw [e1, e2, e3, e4, e5] at jD
        refine j_iload C dX5_round_184 rfl ?_
        refine j_aload_n C dX5_round_186 rfl ?_
        refine g5_6 C dX5_round_187 lFX5_25 ?_
        refine j_bipush (v := nI 8) C dX5_round_190 (by decide) ?_
        refine nah C dX5_round_192 iA_44 (by omega) (by omega) ?_
        refine j_iconst (v := nI 1) C dX5_round_193 (by decide) ?_
        first | refine j_icmp_neN (tgt := 202) C dX5_round_194 (by decide) (by omega) (by omega) (fun c_194 => ?_) (fun c_194 => ?_) | refine j_icmp_ne (tgt := 202) C dX5_round_194 (by decide) (fun c_194 => ?_) (fun c_194 => ?_)
        · refine j_bipush (v := nI 6) C dX5_round_202 (by decide) ?_
          first | refine j_iaddN C dX5_round_204 ?_ | refine j_iadd C dX5_round_204 ?_
          refine sl4 C dX5_round_205 rfl ?_
          refine j_aload_n C dX5_round_207 rfl ?_
          refine g5_6 C dX5_round_208 lFX5_25 ?_
          refine j_bipush (v := nI 8) C dX5_round_211 (by decide) ?_
          refine nah C dX5_round_213 iA_44 (by omega) (by omega) ?_
          refine j_iconst (v := nI 1) C dX5_round_214 (by decide) ?_
          first | refine j_icmp_neN (tgt := 223) C dX5_round_215 (by decide) (by omega) (by omega) (fun c_215 => ?_) (fun c_215 => ?_) | refine j_icmp_ne (tgt := 223) C dX5_round_215 (by decide) (fun c_215 => ?_) (fun c_215 => ?_)
          · refine j_iload C dX5_round_223 rfl ?_
            refine j_bipush (v := nI 90) C dX5_round_225 (by decide) ?_
            first | refine j_iaddN C dX5_round_227 ?_ | refine j_iadd C dX5_round_227 ?_
            refine j_iconst (v := nI 2) C dX5_round_228 (by decide) ?_
            first | refine j_idivN C dX5_round_229 (by omega) (by omega) (by omega) ?_ | refine j_idiv C dX5_round_229 (by decide) ?_
            refine sn2 C dX5_round_230 rfl ?_
            refine j_aload_n C dX5_round_231 rfl ?_
            refine g5_6 C dX5_round_232 lFX5_25 ?_
            refine j_bipush (v := nI 8) C dX5_round_235 (by decide) ?_
            refine nah C dX5_round_237 iA_44 (by omega) (by omega) ?_
            refine j_iconst (v := nI 1) C dX5_round_238 (by decide) ?_
            first | refine j_icmp_neN (tgt := 247) C dX5_round_239 (by decide) (by omega) (by omega) (fun c_239 => ?_) (fun c_239 => ?_) | refine j_icmp_ne (tgt := 247) C dX5_round_239 (by decide) (fun c_239 => ?_) (fun c_239 => ?_)
            · refine j_bipush (v := nI 40) C dX5_round_247 (by decide) ?_
              refine j_iload_n C dX5_round_249 rfl ?_
              refine j_bipush (v := nI 20) C dX5_round_250 (by decide) ?_
              first | refine j_iaddN C dX5_round_252 ?_ | refine j_iadd C dX5_round_252 ?_
              refine j_minN C dX5_round_253 lMX5_153 (by omega) (Nat.le_of_ble_eq_true rfl) (by omega) (by omega) ?_
              refine sn1 C dX5_round_256 rfl ?_
              refine j_iload C dX5_round_257 rfl ?_
              refine sn3 C dX5_round_259 rfl ?_
              refine j_iload_n C dX5_round_260 rfl ?_
              refine sl9 C dX5_round_261 rfl ?_
              exact jD
            · exact absurd c_239 (by omega)
          · exact absurd c_215 (by omega)
        · exact absurd c_194 (by omega)
