abbrev rmX8_goes : Room := { frames := 3, cells := 0, slots := 0, locals := 69 }
theorem hd_X8_goes : yX8_goes.cls = RX8 ∧ yX8_goes.cls ≠ "java/lang/invoke/MethodHandle" ∧ yX8_goes.cls ≠ "java/lang/invoke/VarHandle" ∧ (parseMethodDescriptor yX8_goes.desc).map (fun d => d.parameters.length) = some 0 := by decide +kernel
theorem kX8_goes_0 : Cond.fieldLink RX8 16 (TX8 10).1 (TX8 10).2.1 (TX8 10).2.2.1 ∈ wsX8_goes := by decide +kernel
theorem kX8_goes_1 : ∀ w ∈ u_ws RX8 TX8 38, w ∈ wsX8_goes := by decide +kernel
theorem kX8_goes_2 : Cond.fieldLink RX8 184 (TX8 27).1 (TX8 27).2.1 (TX8 27).2.2.1 ∈ wsX8_goes := by decide +kernel
theorem kX8_goes_3 : Cond.fieldLink RX8 187 (TX8 29).1 (TX8 29).2.1 (TX8 29).2.2.1 ∈ wsX8_goes := by decide +kernel
theorem kX8_goes_4 : Cond.fieldLink RX8 142 (TX8 12).1 (TX8 12).2.1 (TX8 12).2.2.1 ∈ wsX8_goes := by decide +kernel
theorem kX8_goes_5 : Cond.fieldLink RX8 67 (TX8 2).1 (TX8 2).2.1 (TX8 2).2.2.1 ∈ wsX8_goes := by decide +kernel
theorem kX8_goes_6 : Cond.fieldLink RX8 190 (TX8 28).1 (TX8 28).2.1 (TX8 28).2.2.1 ∈ wsX8_goes := by decide +kernel
theorem kX8_goes_7 : Cond.fieldLink RX8 148 (TX8 18).1 (TX8 18).2.1 (TX8 18).2.2.1 ∈ wsX8_goes := by decide +kernel
theorem kX8_goes_8 : Cond.fieldLink RX8 42 (TX8 30).1 (TX8 30).2.1 (TX8 30).2.2.1 ∈ wsX8_goes := by decide +kernel
theorem kX8_goes_9 : Cond.fieldLink RX8 13 (TX8 4).1 (TX8 4).2.1 (TX8 4).2.2.1 ∈ wsX8_goes := by decide +kernel
theorem kX8_goes_10 : Cond.fieldLink RX8 106 (TX8 5).1 (TX8 5).2.1 (TX8 5).2.2.1 ∈ wsX8_goes := by decide +kernel
theorem kX8_goes_11 : Cond.fieldLink RX8 29 (TX8 17).1 (TX8 17).2.1 (TX8 17).2.2.1 ∈ wsX8_goes := by decide +kernel
theorem kX8_goes_12 : Cond.fieldLink RX8 7 (TX8 3).1 (TX8 3).2.1 (TX8 3).2.2.1 ∈ wsX8_goes := by decide +kernel
theorem kX8_goes_13 : Cond.fieldLink RX8 19 (TX8 11).1 (TX8 11).2.1 (TX8 11).2.2.1 ∈ wsX8_goes := by decide +kernel
theorem kX8_goes_14 : Cond.fieldLink RX8 145 (TX8 13).1 (TX8 13).2.1 (TX8 13).2.2.1 ∈ wsX8_goes := by decide +kernel
set_option maxRecDepth 100000 in
set_option maxHeartbeats 4000000 in
theorem mB_X8_goes_465 {k : CT} {g : GG} (C : CX k cX8_goes 9 RX8 wsX8_goes rmX8_goes g) {ρ : (Int32 × MI × MJ)} (hr : RTW k wM g cX8_goes .int ρ) : ∀ (I : MI) (J : MJ) (x3 : Int32), LB_X8_goes_465 I J x3 = some ρ → V k (wM g I J) 465 [(0, .ref (g.1 0)), (3, .int x3)] [] := by
  intro I J x3 hf
  unfold LB_X8_goes_465 at hf
  refine r_aload_n C dX8_goes_465 rfl 0 rfl ?_
  refine r_get C dX8_goes_466 kX8_goes_1 0 mg_0 rfl 28 (by decide) kX8_goes_6 mv_0_28 ?_
  refine r_bipush (v := (30 : Int32)) C dX8_goes_469 (by decide) ?_
  refine r_icmp_ne (tgt := 492) C dX8_goes_471 (by decide) (fun q471 => ?_) (fun q471 => ?_)
  · have hf := itn hf q471
    refine r_iload_n C dX8_goes_492 rfl 1 rfl ?_
    exact hr _ _ _ _ _ dX8_goes_493 rfl hf
  · have hf := itp hf q471
    refine r_aload_n C dX8_goes_474 rfl 0 rfl ?_
    refine r_iconst (v := (0 : Int32)) C dX8_goes_475 (by decide) ?_
    refine r_put (ty := .int) C dX8_goes_476 kX8_goes_1 tyX8 tyX8_ok nmX8 0 mg_0 rfl 28 (by decide) kX8_goes_6 rfl rfl rfl rfl (Nat.le_of_ble_eq_true rfl) ms_0_28 ?_
    refine nmIM (fun I1 eI1 => ?_)
    have hf := bnd_e hf I1 eI1
    refine r_aload_n C dX8_goes_479 rfl 0 rfl ?_
    refine r_aload_n C dX8_goes_480 rfl 0 rfl ?_
    refine r_get C dX8_goes_481 kX8_goes_1 0 mg_0 rfl 27 (by decide) kX8_goes_2 mv_0_27 ?_
    refine r_iconst (v := (1 : Int32)) C dX8_goes_484 (by decide) ?_
    refine r_iadd C dX8_goes_485 ?_
    refine r_bipush (v := (12 : Int32)) C dX8_goes_486 (by decide) ?_
    refine r_irem C dX8_goes_488 (by decide) ?_
    refine r_put (ty := .int) C dX8_goes_489 kX8_goes_1 tyX8 tyX8_ok nmX8 0 mg_0 rfl 27 (by decide) kX8_goes_2 rfl rfl rfl rfl (Nat.le_of_ble_eq_true rfl) ms_0_27 ?_
    refine nmIM (fun I2 eI2 => ?_)
    have hf := bnd_e hf I2 eI2
    refine r_iload_n C dX8_goes_492 rfl 1 rfl ?_
    exact hr _ _ _ _ _ dX8_goes_493 rfl hf
set_option maxRecDepth 100000 in
set_option maxHeartbeats 4000000 in
theorem mB_X8_goes_358 {k : CT} {g : GG} (C : CX k cX8_goes 9 RX8 wsX8_goes rmX8_goes g) {ρ : (Int32 × MI × MJ)} (hr : RTW k wM g cX8_goes .int ρ) {kk322 : MI → MJ → Int32 → Int32 → Option (Int32 × MI × MJ)} (hk322 : ∀ (I : MI) (J : MJ) (x3 : Int32) (x4 : Int32), kk322 I J x3 x4 = some ρ → V k (wM g I J) 322 [(0, .ref (g.1 0)), (3, .int x3), (4, .int x4)] []) : ∀ (I : MI) (J : MJ) (x3 : Int32) (x4 : Int32) (x5 : Int32) (s0 : Int32), LB_X8_goes_358 kk322 I J x3 x4 x5 s0 = some ρ → V k (wM g I J) 358 [(0, .ref (g.1 0)), (3, .int x3), (4, .int x4), (5, .int x5)] [.int s0] := by
  intro I J x3 x4 x5 s0 hf
  unfold LB_X8_goes_358 at hf
  refine r_istore (lv' := [(0, .ref (g.1 0)), (3, .int x3), (4, .int x4), (5, .int x5), (6, .int s0)]) C dX8_goes_358 (by decide) [1, 2, 3, 4, 0] rfl ?_
  refine r_aload_n C dX8_goes_360 rfl 0 rfl ?_
  refine r_dup C dX8_goes_361 rfl ?_
  refine r_get C dX8_goes_362 kX8_goes_1 0 mg_0 rfl 18 (by decide) kX8_goes_7 mv_0_18 ?_
  refine r_iload C dX8_goes_365 4 rfl ?_
  refine r_isub C dX8_goes_367 ?_
  refine r_put (ty := .int) C dX8_goes_368 kX8_goes_1 tyX8 tyX8_ok nmX8 0 mg_0 rfl 18 (by decide) kX8_goes_7 rfl rfl rfl rfl (Nat.le_of_ble_eq_true rfl) ms_0_18 ?_
  refine nmIM (fun I1 eI1 => ?_)
  have hf := bnd_e hf I1 eI1
  refine r_aload_n C dX8_goes_371 rfl 0 rfl ?_
  refine r_get C dX8_goes_372 kX8_goes_1 0 mg_0 rfl 30 (by decide) kX8_goes_8 mv_0_30 ?_
  refine r_iconst (v := (3 : Int32)) C dX8_goes_375 (by decide) ?_
  refine r_dup2 C dX8_goes_376 rfl rfl ?_
  refine r_lald (j := 3) C dX8_goes_377 10 mg_10 (inb_e (by decide +kernel)) (by decide +kernel) ?_
  refine r_iload C dX8_goes_378 4 rfl ?_
  refine r_i2l C dX8_goes_380 ?_
  refine r_ladd C dX8_goes_381 ?_
  refine r_last (j := 3) C dX8_goes_382 10 mg_10 (inb_e (by decide +kernel)) (by decide +kernel) ma_10 ?_
  refine nmJM (fun J2 eJ2 => ?_)
  have hf := bnd_e hf J2 eJ2
  refine r_aload_n C dX8_goes_383 rfl 0 rfl ?_
  refine r_get C dX8_goes_384 kX8_goes_1 0 mg_0 rfl 30 (by decide) kX8_goes_8 mv_0_30 ?_
  refine r_iconst (v := (4 : Int32)) C dX8_goes_387 (by decide) ?_
  refine r_dup2 C dX8_goes_388 rfl rfl ?_
  refine r_lald (j := 4) C dX8_goes_389 10 mg_10 (inb_e (by decide +kernel)) (by decide +kernel) ?_
  refine r_iload C dX8_goes_390 3 rfl ?_
  refine r_iload C dX8_goes_392 4 rfl ?_
  refine r_isub C dX8_goes_394 ?_
  refine r_i2l C dX8_goes_395 ?_
  refine r_ladd C dX8_goes_396 ?_
  refine r_last (j := 4) C dX8_goes_397 10 mg_10 (inb_e (by decide +kernel)) (by decide +kernel) ma_10 ?_
  refine nmJM (fun J3 eJ3 => ?_)
  have hf := bnd_e hf J3 eJ3
  refine r_aload_n C dX8_goes_398 rfl 0 rfl ?_
  refine r_get C dX8_goes_399 kX8_goes_1 0 mg_0 rfl 30 (by decide) kX8_goes_8 mv_0_30 ?_
  refine r_bipush (v := (6 : Int32)) C dX8_goes_402 (by decide) ?_
  refine r_iload C dX8_goes_404 2 rfl ?_
  refine r_iadd C dX8_goes_406 ?_
  refine r_dup2 C dX8_goes_407 rfl rfl ?_
  obtain ⟨h4, hf⟩ := chk_e hf
  refine r_lald (j := ((6 : Int32) + x4).toNatClampNeg) C dX8_goes_408 10 mg_10 (inb_e h4) rfl ?_
  refine r_iload C dX8_goes_409 3 rfl ?_
  refine r_iload C dX8_goes_411 4 rfl ?_
  refine r_isub C dX8_goes_413 ?_
  refine r_i2l C dX8_goes_414 ?_
  refine r_ladd C dX8_goes_415 ?_
  obtain ⟨h5, hf⟩ := chk_e hf
  refine r_last (j := ((6 : Int32) + x4).toNatClampNeg) C dX8_goes_416 10 mg_10 (inb_e h5) rfl ma_10 ?_
  refine nmJM (fun J6 eJ6 => ?_)
  have hf := bnd_e hf J6 eJ6
  refine r_iload_n C dX8_goes_417 rfl 1 rfl ?_
  refine r_iload C dX8_goes_418 3 rfl ?_
  refine r_iload C dX8_goes_420 4 rfl ?_
  refine r_isub C dX8_goes_422 ?_
  refine r_iadd C dX8_goes_423 ?_
  refine r_nmi (fun v7 ev7 => ?_)
  have hf := bnd_e hf v7 ev7
  refine r_istore_n (lv' := [(0, .ref (g.1 0)), (3, .int v7), (4, .int x4), (5, .int x5), (6, .int s0)]) C dX8_goes_424 rfl (by decide) [1, 0, 2, 3, 4] rfl ?_
  obtain ⟨v8, ev8⟩ : ∃ z : Int32, z = x4 + (1 : Int32) := ⟨_, rfl⟩
  have hf := bnd_e hf v8 ev8
  refine r_iinc (v := v8) (lv' := [(0, .ref (g.1 0)), (3, .int v7), (4, .int v8), (5, .int x5), (6, .int s0)]) C dX8_goes_425 2 rfl (by rw [ev8]; rfl) (by decide) [1, 2, 0, 3, 4] rfl ?_
  refine r_goto (tgt := 322) C dX8_goes_428 (by decide) ?_
  refine V.loc [0, 1, 2] rfl ?_
  exact hk322 _ _ _ _ hf
set_option maxRecDepth 100000 in
set_option maxHeartbeats 4000000 in
theorem mB_X8_goes_322 {k : CT} {g : GG} (C : CX k cX8_goes 9 RX8 wsX8_goes rmX8_goes g) {ρ : (Int32 × MI × MJ)} (hr : RTW k wM g cX8_goes .int ρ) {kk322 : MI → MJ → Int32 → Int32 → Option (Int32 × MI × MJ)} (hk322 : ∀ (I : MI) (J : MJ) (x3 : Int32) (x4 : Int32), kk322 I J x3 x4 = some ρ → V k (wM g I J) 322 [(0, .ref (g.1 0)), (3, .int x3), (4, .int x4)] []) : ∀ (I : MI) (J : MJ) (x3 : Int32) (x4 : Int32), LB_X8_goes_322 kk322 I J x3 x4 = some ρ → V k (wM g I J) 322 [(0, .ref (g.1 0)), (3, .int x3), (4, .int x4)] [] := by
  intro I J x3 x4 hf
  unfold LB_X8_goes_322 at hf
  refine r_iload C dX8_goes_322 2 rfl ?_
  refine r_iconst (v := (5 : Int32)) C dX8_goes_324 (by decide) ?_
  refine r_icmp_ge (tgt := 431) C dX8_goes_325 (by decide) (fun q325 => ?_) (fun q325 => ?_)
  · have hf := itp hf q325
    refine r_aload_n C dX8_goes_431 rfl 0 rfl ?_
    refine r_dup C dX8_goes_432 rfl ?_
    refine r_get C dX8_goes_433 kX8_goes_1 0 mg_0 rfl 29 (by decide) kX8_goes_3 mv_0_29 ?_
    refine r_iconst (v := (1 : Int32)) C dX8_goes_436 (by decide) ?_
    refine r_iadd C dX8_goes_437 ?_
    refine r_put (ty := .int) C dX8_goes_438 kX8_goes_1 tyX8 tyX8_ok nmX8 0 mg_0 rfl 29 (by decide) kX8_goes_3 rfl rfl rfl rfl (Nat.le_of_ble_eq_true rfl) ms_0_29 ?_
    refine nmIM (fun I1 eI1 => ?_)
    have hf := bnd_e hf I1 eI1
    refine r_aload_n C dX8_goes_441 rfl 0 rfl ?_
    refine r_get C dX8_goes_442 kX8_goes_1 0 mg_0 rfl 29 (by decide) kX8_goes_3 mv_0_29 ?_
    refine r_bipush (v := (24 : Int32)) C dX8_goes_445 (by decide) ?_
    refine r_icmp_ne (tgt := 465) C dX8_goes_447 (by decide) (fun q447 => ?_) (fun q447 => ?_)
    · have hf := itn hf q447
      refine V.loc [0, 1] rfl ?_
      exact mB_X8_goes_465 C hr _ _ _ hf
    · have hf := itp hf q447
      refine r_aload_n C dX8_goes_450 rfl 0 rfl ?_
      refine r_iconst (v := (0 : Int32)) C dX8_goes_451 (by decide) ?_
      refine r_put (ty := .int) C dX8_goes_452 kX8_goes_1 tyX8 tyX8_ok nmX8 0 mg_0 rfl 29 (by decide) kX8_goes_3 rfl rfl rfl rfl (Nat.le_of_ble_eq_true rfl) ms_0_29 ?_
      refine nmIM (fun I2 eI2 => ?_)
      have hf := bnd_e hf I2 eI2
      refine r_aload_n C dX8_goes_455 rfl 0 rfl ?_
      refine r_dup C dX8_goes_456 rfl ?_
      refine r_get C dX8_goes_457 kX8_goes_1 0 mg_0 rfl 28 (by decide) kX8_goes_6 mv_0_28 ?_
      refine r_iconst (v := (1 : Int32)) C dX8_goes_460 (by decide) ?_
      refine r_iadd C dX8_goes_461 ?_
      refine r_put (ty := .int) C dX8_goes_462 kX8_goes_1 tyX8 tyX8_ok nmX8 0 mg_0 rfl 28 (by decide) kX8_goes_6 rfl rfl rfl rfl (Nat.le_of_ble_eq_true rfl) ms_0_28 ?_
      refine nmIM (fun I3 eI3 => ?_)
      have hf := bnd_e hf I3 eI3
      refine V.loc [0, 1] rfl ?_
      exact mB_X8_goes_465 C hr _ _ _ hf
  · have hf := itn hf q325
    refine r_aload_n C dX8_goes_328 rfl 0 rfl ?_
    refine r_iload C dX8_goes_329 2 rfl ?_
    refine r_aload_n C dX8_goes_331 rfl 0 rfl ?_
    refine r_get C dX8_goes_332 kX8_goes_1 0 mg_0 rfl 29 (by decide) kX8_goes_3 mv_0_29 ?_
    obtain ⟨r5, hq4, hf⟩ := bo1_e hf
    refine r_callV (o := some (.int r5)) (w' := (wM g I J)) (As := [.int x4, .int (I 0 29)]) (rest := []) C (c_X8_rightOf hq4) dX8_goes_335 gX8_goes_X8_rightOf rfl rfl rfl hd_X8_rightOf ⟨by decide, by decide⟩ 0 mg_0 rfl rfl rfl rfl (Nat.le_of_ble_eq_true rfl) ?_
    refine r_istore (lv' := [(0, .ref (g.1 0)), (3, .int x3), (4, .int x4), (5, .int r5)]) C dX8_goes_338 (by decide) [1, 2, 3, 0] rfl ?_
    refine r_iload C dX8_goes_340 3 rfl ?_
    refine r_aload_n C dX8_goes_342 rfl 0 rfl ?_
    refine r_get C dX8_goes_343 kX8_goes_1 0 mg_0 rfl 18 (by decide) kX8_goes_7 mv_0_18 ?_
    refine r_icmp_ge (tgt := 354) C dX8_goes_346 (by decide) (fun q346 => ?_) (fun q346 => ?_)
    · have hf := itp hf q346
      refine r_aload_n C dX8_goes_354 rfl 0 rfl ?_
      refine r_get C dX8_goes_355 kX8_goes_1 0 mg_0 rfl 18 (by decide) kX8_goes_7 mv_0_18 ?_
      exact mB_X8_goes_358 C hr hk322 _ _ _ _ _ _ hf
    · have hf := itn hf q346
      refine r_iload C dX8_goes_349 3 rfl ?_
      refine r_goto (tgt := 358) C dX8_goes_351 (by decide) ?_
      exact mB_X8_goes_358 C hr hk322 _ _ _ _ _ _ hf
theorem mL_X8_goes_322 {k : CT} {g : GG} (C : CX k cX8_goes 9 RX8 wsX8_goes rmX8_goes g) {ρ : (Int32 × MI × MJ)} (hr : RTW k wM g cX8_goes .int ρ) : ∀ (n : Nat) (I : MI) (J : MJ) (x3 : Int32) (x4 : Int32), LP_X8_goes_322 n I J x3 x4 = some ρ → V k (wM g I J) 322 [(0, .ref (g.1 0)), (3, .int x3), (4, .int x4)] [] := by
  intro n
  induction n with
  | zero => intro I J x3 x4 hf; cases hf
  | succ n ih => intro I J x3 x4 hf; exact mB_X8_goes_322 C hr (fun I J x3 x4 h => ih I J x3 x4 h) I J x3 x4 hf
set_option maxRecDepth 100000 in
set_option maxHeartbeats 4000000 in
theorem mB_X8_goes_294 {k : CT} {g : GG} (C : CX k cX8_goes 9 RX8 wsX8_goes rmX8_goes g) {ρ : (Int32 × MI × MJ)} (hr : RTW k wM g cX8_goes .int ρ) {kk40 : MI → MJ → Int32 → Int32 → Int32 → Option (Int32 × MI × MJ)} (hk40 : ∀ (I : MI) (J : MJ) (x1 : Int32) (x2 : Int32) (x3 : Int32), kk40 I J x1 x2 x3 = some ρ → V k (wM g I J) 40 [(0, .ref (g.1 0)), (1, .int x1), (2, .int x2), (3, .int x3)] []) : ∀ (I : MI) (J : MJ) (x1 : Int32) (x2 : Int32) (x3 : Int32) (s0 : Int32) (s1 : Int32), LB_X8_goes_294 kk40 I J x1 x2 x3 s0 s1 = some ρ → V k (wM g I J) 294 [(0, .ref (g.1 0)), (1, .int x1), (2, .int x2), (3, .int x3)] [.int s1, .int s0] := by
  intro I J x1 x2 x3 s0 s1 hf
  unfold LB_X8_goes_294 at hf
  refine r_iadd C dX8_goes_294 ?_
  refine r_nmi (fun v1 ev1 => ?_)
  have hf := bnd_e hf v1 ev1
  refine r_istore (lv' := [(0, .ref (g.1 0)), (1, .int x1), (2, .int x2), (3, .int x3), (8, .int v1)]) C dX8_goes_295 (by decide) [1, 2, 3, 4, 0] rfl ?_
  refine r_aload_n C dX8_goes_297 rfl 0 rfl ?_
  refine r_get C dX8_goes_298 kX8_goes_1 0 mg_0 rfl 3 (by decide) kX8_goes_12 mv_0_3 ?_
  refine r_bipush (v := (13 : Int32)) C dX8_goes_301 (by decide) ?_
  refine r_iload_n C dX8_goes_303 rfl 3 rfl ?_
  refine r_imul C dX8_goes_304 ?_
  refine r_bipush (v := (6 : Int32)) C dX8_goes_305 (by decide) ?_
  refine r_iadd C dX8_goes_307 ?_
  refine r_iload C dX8_goes_308 4 rfl ?_
  obtain ⟨h2, hf⟩ := chk_e hf
  refine r_iast (j := (((13 : Int32) * x3) + (6 : Int32)).toNatClampNeg) C dX8_goes_310 1 mg_1 (inb_e h2) rfl ma_1 ?_
  refine nmIM (fun I3 eI3 => ?_)
  have hf := bnd_e hf I3 eI3
  obtain ⟨v4, ev4⟩ : ∃ z : Int32, z = x3 + (1 : Int32) := ⟨_, rfl⟩
  have hf := bnd_e hf v4 ev4
  refine r_iinc (v := v4) (lv' := [(0, .ref (g.1 0)), (1, .int x1), (2, .int x2), (3, .int v4), (8, .int v1)]) C dX8_goes_311 3 rfl (by rw [ev4]; rfl) (by decide) [1, 2, 3, 0, 4] rfl ?_
  refine r_goto (tgt := 40) C dX8_goes_314 (by decide) ?_
  refine V.loc [0, 1, 2, 3] rfl ?_
  exact hk40 _ _ _ _ _ hf
set_option maxRecDepth 100000 in
set_option maxHeartbeats 4000000 in
theorem mB_X8_goes_293 {k : CT} {g : GG} (C : CX k cX8_goes 9 RX8 wsX8_goes rmX8_goes g) {ρ : (Int32 × MI × MJ)} (hr : RTW k wM g cX8_goes .int ρ) {kk40 : MI → MJ → Int32 → Int32 → Int32 → Option (Int32 × MI × MJ)} (hk40 : ∀ (I : MI) (J : MJ) (x1 : Int32) (x2 : Int32) (x3 : Int32), kk40 I J x1 x2 x3 = some ρ → V k (wM g I J) 40 [(0, .ref (g.1 0)), (1, .int x1), (2, .int x2), (3, .int x3)] []) : ∀ (I : MI) (J : MJ) (x1 : Int32) (x2 : Int32) (x3 : Int32) (s0 : Int32), LB_X8_goes_293 kk40 I J x1 x2 x3 s0 = some ρ → V k (wM g I J) 293 [(0, .ref (g.1 0)), (1, .int x1), (2, .int x2), (3, .int x3)] [.int s0] := by
  intro I J x1 x2 x3 s0 hf
  unfold LB_X8_goes_293 at hf
  refine r_iconst (v := (0 : Int32)) C dX8_goes_293 (by decide) ?_
  exact mB_X8_goes_294 C hr hk40 _ _ _ _ _ _ _ hf
set_option maxRecDepth 100000 in
set_option maxHeartbeats 4000000 in
theorem mB_X8_goes_267 {k : CT} {g : GG} (C : CX k cX8_goes 9 RX8 wsX8_goes rmX8_goes g) {ρ : (Int32 × MI × MJ)} (hr : RTW k wM g cX8_goes .int ρ) {kk40 : MI → MJ → Int32 → Int32 → Int32 → Option (Int32 × MI × MJ)} (hk40 : ∀ (I : MI) (J : MJ) (x1 : Int32) (x2 : Int32) (x3 : Int32), kk40 I J x1 x2 x3 = some ρ → V k (wM g I J) 40 [(0, .ref (g.1 0)), (1, .int x1), (2, .int x2), (3, .int x3)] []) : ∀ (I : MI) (J : MJ) (x1 : Int32) (x2 : Int32) (x3 : Int32) (s0 : Int32), LB_X8_goes_267 kk40 I J x1 x2 x3 s0 = some ρ → V k (wM g I J) 267 [(0, .ref (g.1 0)), (1, .int x1), (2, .int x2), (3, .int x3)] [.int s0] := by
  intro I J x1 x2 x3 s0 hf
  unfold LB_X8_goes_267 at hf
  refine r_istore (lv' := [(0, .ref (g.1 0)), (1, .int x1), (2, .int x2), (3, .int x3), (8, .int s0)]) C dX8_goes_267 (by decide) [1, 2, 3, 4, 0] rfl ?_
  refine r_iload C dX8_goes_269 4 rfl ?_
  refine r_aload_n C dX8_goes_271 rfl 0 rfl ?_
  refine r_get C dX8_goes_272 kX8_goes_1 0 mg_0 rfl 4 (by decide) kX8_goes_9 mv_0_4 ?_
  refine r_bipush (v := (11 : Int32)) C dX8_goes_275 (by decide) ?_
  refine r_iald (j := 11) C dX8_goes_277 2 mg_2 (inb_e (by decide +kernel)) (by decide +kernel) ?_
  refine r_iconst (v := (1 : Int32)) C dX8_goes_278 (by decide) ?_
  refine r_icmp_ne (tgt := 293) C dX8_goes_279 (by decide) (fun q279 => ?_) (fun q279 => ?_)
  · have hf := itn hf q279
    refine V.loc [0, 1, 2, 3] rfl ?_
    exact mB_X8_goes_293 C hr hk40 _ _ _ _ _ _ hf
  · have hf := itp hf q279
    refine r_iload C dX8_goes_282 4 rfl ?_
    refine r_bipush (v := (100 : Int32)) C dX8_goes_284 (by decide) ?_
    refine r_icmp_ge (tgt := 293) C dX8_goes_286 (by decide) (fun q286 => ?_) (fun q286 => ?_)
    · have hf := itp hf q286
      refine V.loc [0, 1, 2, 3] rfl ?_
      exact mB_X8_goes_293 C hr hk40 _ _ _ _ _ _ hf
    · have hf := itn hf q286
      refine r_iconst (v := (1 : Int32)) C dX8_goes_289 (by decide) ?_
      refine r_goto (tgt := 294) C dX8_goes_290 (by decide) ?_
      refine V.loc [0, 1, 2, 3] rfl ?_
      exact mB_X8_goes_294 C hr hk40 _ _ _ _ _ _ _ hf
set_option maxRecDepth 100000 in
set_option maxHeartbeats 4000000 in
theorem mB_X8_goes_232 {k : CT} {g : GG} (C : CX k cX8_goes 9 RX8 wsX8_goes rmX8_goes g) {ρ : (Int32 × MI × MJ)} (hr : RTW k wM g cX8_goes .int ρ) {kk40 : MI → MJ → Int32 → Int32 → Int32 → Option (Int32 × MI × MJ)} (hk40 : ∀ (I : MI) (J : MJ) (x1 : Int32) (x2 : Int32) (x3 : Int32), kk40 I J x1 x2 x3 = some ρ → V k (wM g I J) 40 [(0, .ref (g.1 0)), (1, .int x1), (2, .int x2), (3, .int x3)] []) : ∀ (I : MI) (J : MJ) (x1 : Int32) (x2 : Int32) (x3 : Int32) (x7 : Int32), LB_X8_goes_232 kk40 I J x1 x2 x3 x7 = some ρ → V k (wM g I J) 232 [(0, .ref (g.1 0)), (1, .int x1), (2, .int x2), (3, .int x3), (7, .int x7)] [] := by
  intro I J x1 x2 x3 x7 hf
  unfold LB_X8_goes_232 at hf
  refine r_iload C dX8_goes_232 4 rfl ?_
  refine r_if_eq (tgt := 311) C dX8_goes_234 (by decide) (fun q234 => ?_) (fun q234 => ?_)
  · have hf := itp hf q234
    obtain ⟨v1, ev1⟩ : ∃ z : Int32, z = x3 + (1 : Int32) := ⟨_, rfl⟩
    have hf := bnd_e hf v1 ev1
    refine r_iinc (v := v1) (lv' := [(0, .ref (g.1 0)), (1, .int x1), (2, .int x2), (3, .int v1), (7, .int x7)]) C dX8_goes_311 3 rfl (by rw [ev1]; rfl) (by decide) [1, 2, 3, 0, 4] rfl ?_
    refine r_goto (tgt := 40) C dX8_goes_314 (by decide) ?_
    refine V.loc [0, 1, 2, 3] rfl ?_
    exact hk40 _ _ _ _ _ hf
  · have hf := itn hf q234
    refine r_aload_n C dX8_goes_237 rfl 0 rfl ?_
    refine r_get C dX8_goes_238 kX8_goes_1 0 mg_0 rfl 4 (by decide) kX8_goes_9 mv_0_4 ?_
    refine r_bipush (v := (6 : Int32)) C dX8_goes_241 (by decide) ?_
    refine r_iald (j := 6) C dX8_goes_243 2 mg_2 (inb_e (by decide +kernel)) (by decide +kernel) ?_
    refine r_iconst (v := (1 : Int32)) C dX8_goes_244 (by decide) ?_
    refine r_isub C dX8_goes_245 ?_
    refine r_aload_n C dX8_goes_246 rfl 0 rfl ?_
    refine r_get C dX8_goes_247 kX8_goes_1 0 mg_0 rfl 4 (by decide) kX8_goes_9 mv_0_4 ?_
    refine r_bipush (v := (9 : Int32)) C dX8_goes_250 (by decide) ?_
    refine r_iald (j := 9) C dX8_goes_252 2 mg_2 (inb_e (by decide +kernel)) (by decide +kernel) ?_
    refine r_isub C dX8_goes_253 ?_
    refine r_nmi (fun v2 ev2 => ?_)
    have hf := bnd_e hf v2 ev2
    refine r_istore (lv' := [(0, .ref (g.1 0)), (1, .int x1), (2, .int x2), (3, .int x3), (7, .int x7), (8, .int v2)]) C dX8_goes_254 (by decide) [1, 2, 3, 4, 5, 0] rfl ?_
    refine r_iload C dX8_goes_256 5 rfl ?_
    refine r_if_ge (tgt := 265) C dX8_goes_258 (by decide) (fun q258 => ?_) (fun q258 => ?_)
    · have hf := itp hf q258
      refine r_iload C dX8_goes_265 5 rfl ?_
      refine V.loc [0, 1, 2, 3] rfl ?_
      exact mB_X8_goes_267 C hr hk40 _ _ _ _ _ _ hf
    · have hf := itn hf q258
      refine r_iconst (v := (0 : Int32)) C dX8_goes_261 (by decide) ?_
      refine r_goto (tgt := 267) C dX8_goes_262 (by decide) ?_
      refine V.loc [0, 1, 2, 3] rfl ?_
      exact mB_X8_goes_267 C hr hk40 _ _ _ _ _ _ hf
set_option maxRecDepth 100000 in
set_option maxHeartbeats 4000000 in
theorem mB_X8_goes_154 {k : CT} {g : GG} (C : CX k cX8_goes 9 RX8 wsX8_goes rmX8_goes g) {ρ : (Int32 × MI × MJ)} (hr : RTW k wM g cX8_goes .int ρ) {kk40 : MI → MJ → Int32 → Int32 → Int32 → Option (Int32 × MI × MJ)} (hk40 : ∀ (I : MI) (J : MJ) (x1 : Int32) (x2 : Int32) (x3 : Int32), kk40 I J x1 x2 x3 = some ρ → V k (wM g I J) 40 [(0, .ref (g.1 0)), (1, .int x1), (2, .int x2), (3, .int x3)] []) : ∀ (I : MI) (J : MJ) (x1 : Int32) (x2 : Int32) (x3 : Int32) (x6 : Int32) (s0 : Int32), LB_X8_goes_154 kk40 I J x1 x2 x3 x6 s0 = some ρ → V k (wM g I J) 154 [(0, .ref (g.1 0)), (1, .int x1), (2, .int x2), (3, .int x3), (6, .int x6)] [.int s0] := by
  intro I J x1 x2 x3 x6 s0 hf
  unfold LB_X8_goes_154 at hf
  refine r_istore (lv' := [(0, .ref (g.1 0)), (1, .int x1), (2, .int x2), (3, .int x3), (6, .int x6), (7, .int s0)]) C dX8_goes_154 (by decide) [1, 2, 3, 4, 5, 0] rfl ?_
  refine r_aload_n C dX8_goes_156 rfl 0 rfl ?_
  refine r_get C dX8_goes_157 kX8_goes_1 0 mg_0 rfl 30 (by decide) kX8_goes_8 mv_0_30 ?_
  refine r_iconst (v := (0 : Int32)) C dX8_goes_160 (by decide) ?_
  refine r_dup2 C dX8_goes_161 rfl rfl ?_
  refine r_lald (j := 0) C dX8_goes_162 10 mg_10 (inb_e (by decide +kernel)) (by decide +kernel) ?_
  refine r_iload C dX8_goes_163 4 rfl ?_
  refine r_i2l C dX8_goes_165 ?_
  refine r_ladd C dX8_goes_166 ?_
  refine r_last (j := 0) C dX8_goes_167 10 mg_10 (inb_e (by decide +kernel)) (by decide +kernel) ma_10 ?_
  refine nmJM (fun J1 eJ1 => ?_)
  have hf := bnd_e hf J1 eJ1
  refine r_aload_n C dX8_goes_168 rfl 0 rfl ?_
  refine r_get C dX8_goes_169 kX8_goes_1 0 mg_0 rfl 30 (by decide) kX8_goes_8 mv_0_30 ?_
  refine r_iconst (v := (1 : Int32)) C dX8_goes_172 (by decide) ?_
  refine r_dup2 C dX8_goes_173 rfl rfl ?_
  refine r_lald (j := 1) C dX8_goes_174 10 mg_10 (inb_e (by decide +kernel)) (by decide +kernel) ?_
  refine r_aload_n C dX8_goes_175 rfl 0 rfl ?_
  refine r_iconst (v := (1 : Int32)) C dX8_goes_176 (by decide) ?_
  obtain ⟨r5, I3, J4, hq2, hf⟩ := bo3_e hf
  refine r_callV (o := some (.int r5)) (w' := (wM g I3 J4)) (As := [.int (1 : Int32)]) (rest := [.long (J1 10 1), .int (1 : Int32), .ref (g.1 10)]) C (c_X8_hourOf hq2) dX8_goes_177 gX8_goes_X8_hourOf rfl rfl rfl hd_X8_hourOf ⟨by decide, by decide⟩ 0 mg_0 rfl rfl rfl rfl (Nat.le_of_ble_eq_true rfl) ?_
  refine r_i2l C dX8_goes_180 ?_
  refine r_ladd C dX8_goes_181 ?_
  refine r_last (j := 1) C dX8_goes_182 10 mg_10 (inb_e (by decide +kernel)) (by decide +kernel) ma_10 ?_
  refine nmJM (fun J6 eJ6 => ?_)
  have hf := bnd_e hf J6 eJ6
  refine r_aload_n C dX8_goes_183 rfl 0 rfl ?_
  refine r_dup C dX8_goes_184 rfl ?_
  refine r_get C dX8_goes_185 kX8_goes_1 0 mg_0 rfl 18 (by decide) kX8_goes_7 mv_0_18 ?_
  refine r_iload C dX8_goes_188 4 rfl ?_
  refine r_iadd C dX8_goes_190 ?_
  refine r_put (ty := .int) C dX8_goes_191 kX8_goes_1 tyX8 tyX8_ok nmX8 0 mg_0 rfl 18 (by decide) kX8_goes_7 rfl rfl rfl rfl (Nat.le_of_ble_eq_true rfl) ms_0_18 ?_
  refine nmIM (fun I7 eI7 => ?_)
  have hf := bnd_e hf I7 eI7
  refine r_aload_n C dX8_goes_194 rfl 0 rfl ?_
  refine r_get C dX8_goes_195 kX8_goes_1 0 mg_0 rfl 18 (by decide) kX8_goes_7 mv_0_18 ?_
  refine r_aload_n C dX8_goes_198 rfl 0 rfl ?_
  refine r_get C dX8_goes_199 kX8_goes_1 0 mg_0 rfl 17 (by decide) kX8_goes_11 mv_0_17 ?_
  refine r_icmp_le (tgt := 232) C dX8_goes_202 (by decide) (fun q202 => ?_) (fun q202 => ?_)
  · have hf := itp hf q202
    refine V.loc [0, 1, 2, 3, 5] rfl ?_
    exact mB_X8_goes_232 C hr hk40 _ _ _ _ _ _ hf
  · have hf := itn hf q202
    refine r_aload_n C dX8_goes_205 rfl 0 rfl ?_
    refine r_get C dX8_goes_206 kX8_goes_1 0 mg_0 rfl 30 (by decide) kX8_goes_8 mv_0_30 ?_
    refine r_iconst (v := (2 : Int32)) C dX8_goes_209 (by decide) ?_
    refine r_dup2 C dX8_goes_210 rfl rfl ?_
    refine r_lald (j := 2) C dX8_goes_211 10 mg_10 (inb_e (by decide +kernel)) (by decide +kernel) ?_
    refine r_aload_n C dX8_goes_212 rfl 0 rfl ?_
    refine r_get C dX8_goes_213 kX8_goes_1 0 mg_0 rfl 18 (by decide) kX8_goes_7 mv_0_18 ?_
    refine r_aload_n C dX8_goes_216 rfl 0 rfl ?_
    refine r_get C dX8_goes_217 kX8_goes_1 0 mg_0 rfl 17 (by decide) kX8_goes_11 mv_0_17 ?_
    refine r_isub C dX8_goes_220 ?_
    refine r_i2l C dX8_goes_221 ?_
    refine r_ladd C dX8_goes_222 ?_
    refine r_last (j := 2) C dX8_goes_223 10 mg_10 (inb_e (by decide +kernel)) (by decide +kernel) ma_10 ?_
    refine nmJM (fun J8 eJ8 => ?_)
    have hf := bnd_e hf J8 eJ8
    refine r_aload_n C dX8_goes_224 rfl 0 rfl ?_
    refine r_aload_n C dX8_goes_225 rfl 0 rfl ?_
    refine r_get C dX8_goes_226 kX8_goes_1 0 mg_0 rfl 17 (by decide) kX8_goes_11 mv_0_17 ?_
    refine r_put (ty := .int) C dX8_goes_229 kX8_goes_1 tyX8 tyX8_ok nmX8 0 mg_0 rfl 18 (by decide) kX8_goes_7 rfl rfl rfl rfl (Nat.le_of_ble_eq_true rfl) ms_0_18 ?_
    refine nmIM (fun I9 eI9 => ?_)
    have hf := bnd_e hf I9 eI9
    refine V.loc [0, 1, 2, 3, 5] rfl ?_
    exact mB_X8_goes_232 C hr hk40 _ _ _ _ _ _ hf
set_option maxRecDepth 100000 in
set_option maxHeartbeats 4000000 in
theorem mB_X8_goes_115 {k : CT} {g : GG} (C : CX k cX8_goes 9 RX8 wsX8_goes rmX8_goes g) {ρ : (Int32 × MI × MJ)} (hr : RTW k wM g cX8_goes .int ρ) {kk40 : MI → MJ → Int32 → Int32 → Int32 → Option (Int32 × MI × MJ)} (hk40 : ∀ (I : MI) (J : MJ) (x1 : Int32) (x2 : Int32) (x3 : Int32), kk40 I J x1 x2 x3 = some ρ → V k (wM g I J) 40 [(0, .ref (g.1 0)), (1, .int x1), (2, .int x2), (3, .int x3)] []) : ∀ (I : MI) (J : MJ) (x1 : Int32) (x2 : Int32) (x3 : Int32) (x4 : Int32) (s0 : Int32), LB_X8_goes_115 kk40 I J x1 x2 x3 x4 s0 = some ρ → V k (wM g I J) 115 [(0, .ref (g.1 0)), (1, .int x1), (2, .int x2), (3, .int x3), (4, .int x4)] [.int s0] := by
  intro I J x1 x2 x3 x4 s0 hf
  unfold LB_X8_goes_115 at hf
  refine r_istore (lv' := [(0, .ref (g.1 0)), (1, .int x1), (2, .int x2), (3, .int x3), (4, .int x4), (5, .int s0)]) C dX8_goes_115 (by decide) [1, 2, 3, 4, 5, 0] rfl ?_
  refine r_iload C dX8_goes_117 4 rfl ?_
  refine r_if_eq (tgt := 311) C dX8_goes_119 (by decide) (fun q119 => ?_) (fun q119 => ?_)
  · have hf := itp hf q119
    obtain ⟨v1, ev1⟩ : ∃ z : Int32, z = x3 + (1 : Int32) := ⟨_, rfl⟩
    have hf := bnd_e hf v1 ev1
    refine r_iinc (v := v1) (lv' := [(0, .ref (g.1 0)), (1, .int x1), (2, .int x2), (3, .int v1), (4, .int x4), (5, .int s0)]) C dX8_goes_311 3 rfl (by rw [ev1]; rfl) (by decide) [1, 2, 3, 0, 4, 5] rfl ?_
    refine r_goto (tgt := 40) C dX8_goes_314 (by decide) ?_
    refine V.loc [0, 1, 2, 3] rfl ?_
    exact hk40 _ _ _ _ _ hf
  · have hf := itn hf q119
    refine r_iload C dX8_goes_122 5 rfl ?_
    refine r_iload_n C dX8_goes_124 rfl 1 rfl ?_
    refine r_icmp_gt (tgt := 311) C dX8_goes_125 (by decide) (fun q125 => ?_) (fun q125 => ?_)
    · have hf := itp hf q125
      obtain ⟨v2, ev2⟩ : ∃ z : Int32, z = x3 + (1 : Int32) := ⟨_, rfl⟩
      have hf := bnd_e hf v2 ev2
      refine r_iinc (v := v2) (lv' := [(0, .ref (g.1 0)), (1, .int x1), (2, .int x2), (3, .int v2), (4, .int x4), (5, .int s0)]) C dX8_goes_311 3 rfl (by rw [ev2]; rfl) (by decide) [1, 2, 3, 0, 4, 5] rfl ?_
      refine r_goto (tgt := 40) C dX8_goes_314 (by decide) ?_
      refine V.loc [0, 1, 2, 3] rfl ?_
      exact hk40 _ _ _ _ _ hf
    · have hf := itn hf q125
      refine r_iload_n C dX8_goes_128 rfl 1 rfl ?_
      refine r_iload C dX8_goes_129 5 rfl ?_
      refine r_isub C dX8_goes_131 ?_
      refine r_nmi (fun v3 ev3 => ?_)
      have hf := bnd_e hf v3 ev3
      refine r_istore_n (lv' := [(0, .ref (g.1 0)), (1, .int v3), (2, .int x2), (3, .int x3), (4, .int x4), (5, .int s0)]) C dX8_goes_132 rfl (by decide) [1, 0, 2, 3, 4, 5] rfl ?_
      refine r_aload_n C dX8_goes_133 rfl 0 rfl ?_
      refine r_iconst (v := (2 : Int32)) C dX8_goes_134 (by decide) ?_
      obtain ⟨r7, I5, J6, hq4, hf⟩ := bo3_e hf
      refine r_callV (o := some (.int r7)) (w' := (wM g I5 J6)) (As := [.int (2 : Int32)]) (rest := []) C (c_X8_hourOf hq4) dX8_goes_135 gX8_goes_X8_hourOf rfl rfl rfl hd_X8_hourOf ⟨by decide, by decide⟩ 0 mg_0 rfl rfl rfl rfl (Nat.le_of_ble_eq_true rfl) ?_
      refine r_istore (lv' := [(0, .ref (g.1 0)), (1, .int v3), (2, .int x2), (3, .int x3), (4, .int x4), (5, .int s0), (6, .int r7)]) C dX8_goes_138 (by decide) [1, 2, 3, 4, 5, 6, 0] rfl ?_
      refine r_aload_n C dX8_goes_140 rfl 0 rfl ?_
      refine r_get C dX8_goes_141 kX8_goes_1 0 mg_0 rfl 5 (by decide) kX8_goes_10 mv_0_5 ?_
      refine r_bipush (v := (-9 : Int32)) C dX8_goes_144 (by decide) ?_
      refine r_icmp_eq (tgt := 153) C dX8_goes_146 (by decide) (fun q146 => ?_) (fun q146 => ?_)
      · have hf := itp hf q146
        refine r_iconst (v := (0 : Int32)) C dX8_goes_153 (by decide) ?_
        refine V.loc [0, 1, 2, 3, 6] rfl ?_
        exact mB_X8_goes_154 C hr hk40 _ _ _ _ _ _ _ hf
      · have hf := itn hf q146
        refine r_iconst (v := (1 : Int32)) C dX8_goes_149 (by decide) ?_
        refine r_goto (tgt := 154) C dX8_goes_150 (by decide) ?_
        refine V.loc [0, 1, 2, 3, 6] rfl ?_
        exact mB_X8_goes_154 C hr hk40 _ _ _ _ _ _ _ hf
set_option maxRecDepth 100000 in
set_option maxHeartbeats 4000000 in
theorem mB_X8_goes_99 {k : CT} {g : GG} (C : CX k cX8_goes 9 RX8 wsX8_goes rmX8_goes g) {ρ : (Int32 × MI × MJ)} (hr : RTW k wM g cX8_goes .int ρ) {kk40 : MI → MJ → Int32 → Int32 → Int32 → Option (Int32 × MI × MJ)} (hk40 : ∀ (I : MI) (J : MJ) (x1 : Int32) (x2 : Int32) (x3 : Int32), kk40 I J x1 x2 x3 = some ρ → V k (wM g I J) 40 [(0, .ref (g.1 0)), (1, .int x1), (2, .int x2), (3, .int x3)] []) : ∀ (I : MI) (J : MJ) (x1 : Int32) (x2 : Int32) (x3 : Int32) (s0 : Int32), LB_X8_goes_99 kk40 I J x1 x2 x3 s0 = some ρ → V k (wM g I J) 99 [(0, .ref (g.1 0)), (1, .int x1), (2, .int x2), (3, .int x3)] [.int s0] := by
  intro I J x1 x2 x3 s0 hf
  unfold LB_X8_goes_99 at hf
  refine r_istore (lv' := [(0, .ref (g.1 0)), (1, .int x1), (2, .int x2), (3, .int x3), (4, .int s0)]) C dX8_goes_99 (by decide) [1, 2, 3, 4, 0] rfl ?_
  refine r_iload C dX8_goes_101 4 rfl ?_
  refine r_if_eq (tgt := 114) C dX8_goes_103 (by decide) (fun q103 => ?_) (fun q103 => ?_)
  · have hf := itp hf q103
    refine r_iconst (v := (0 : Int32)) C dX8_goes_114 (by decide) ?_
    exact mB_X8_goes_115 C hr hk40 _ _ _ _ _ _ _ hf
  · have hf := itn hf q103
    refine r_aload_n C dX8_goes_106 rfl 0 rfl ?_
    refine r_iconst (v := (3 : Int32)) C dX8_goes_107 (by decide) ?_
    obtain ⟨r4, I2, J3, hq1, hf⟩ := bo3_e hf
    refine r_callV (o := some (.int r4)) (w' := (wM g I2 J3)) (As := [.int (3 : Int32)]) (rest := []) C (c_X8_hourOf hq1) dX8_goes_108 gX8_goes_X8_hourOf rfl rfl rfl hd_X8_hourOf ⟨by decide, by decide⟩ 0 mg_0 rfl rfl rfl rfl (Nat.le_of_ble_eq_true rfl) ?_
    refine r_goto (tgt := 115) C dX8_goes_111 (by decide) ?_
    exact mB_X8_goes_115 C hr hk40 _ _ _ _ _ _ _ hf
set_option maxRecDepth 100000 in
set_option maxHeartbeats 4000000 in
theorem mB_X8_goes_98 {k : CT} {g : GG} (C : CX k cX8_goes 9 RX8 wsX8_goes rmX8_goes g) {ρ : (Int32 × MI × MJ)} (hr : RTW k wM g cX8_goes .int ρ) {kk40 : MI → MJ → Int32 → Int32 → Int32 → Option (Int32 × MI × MJ)} (hk40 : ∀ (I : MI) (J : MJ) (x1 : Int32) (x2 : Int32) (x3 : Int32), kk40 I J x1 x2 x3 = some ρ → V k (wM g I J) 40 [(0, .ref (g.1 0)), (1, .int x1), (2, .int x2), (3, .int x3)] []) : ∀ (I : MI) (J : MJ) (x1 : Int32) (x2 : Int32) (x3 : Int32), LB_X8_goes_98 kk40 I J x1 x2 x3 = some ρ → V k (wM g I J) 98 [(0, .ref (g.1 0)), (1, .int x1), (2, .int x2), (3, .int x3)] [] := by
  intro I J x1 x2 x3 hf
  unfold LB_X8_goes_98 at hf
  refine r_iconst (v := (0 : Int32)) C dX8_goes_98 (by decide) ?_
  exact mB_X8_goes_99 C hr hk40 _ _ _ _ _ _ hf
set_option maxRecDepth 100000 in
set_option maxHeartbeats 4000000 in
theorem mB_X8_goes_94 {k : CT} {g : GG} (C : CX k cX8_goes 9 RX8 wsX8_goes rmX8_goes g) {ρ : (Int32 × MI × MJ)} (hr : RTW k wM g cX8_goes .int ρ) {kk40 : MI → MJ → Int32 → Int32 → Int32 → Option (Int32 × MI × MJ)} (hk40 : ∀ (I : MI) (J : MJ) (x1 : Int32) (x2 : Int32) (x3 : Int32), kk40 I J x1 x2 x3 = some ρ → V k (wM g I J) 40 [(0, .ref (g.1 0)), (1, .int x1), (2, .int x2), (3, .int x3)] []) : ∀ (I : MI) (J : MJ) (x1 : Int32) (x2 : Int32) (x3 : Int32), LB_X8_goes_94 kk40 I J x1 x2 x3 = some ρ → V k (wM g I J) 94 [(0, .ref (g.1 0)), (1, .int x1), (2, .int x2), (3, .int x3)] [] := by
  intro I J x1 x2 x3 hf
  unfold LB_X8_goes_94 at hf
  refine r_iconst (v := (1 : Int32)) C dX8_goes_94 (by decide) ?_
  refine r_goto (tgt := 99) C dX8_goes_95 (by decide) ?_
  exact mB_X8_goes_99 C hr hk40 _ _ _ _ _ _ hf
set_option maxRecDepth 100000 in
set_option maxHeartbeats 4000000 in
theorem mB_X8_goes_40 {k : CT} {g : GG} (C : CX k cX8_goes 9 RX8 wsX8_goes rmX8_goes g) {ρ : (Int32 × MI × MJ)} (hr : RTW k wM g cX8_goes .int ρ) {kk40 : MI → MJ → Int32 → Int32 → Int32 → Option (Int32 × MI × MJ)} (hk40 : ∀ (I : MI) (J : MJ) (x1 : Int32) (x2 : Int32) (x3 : Int32), kk40 I J x1 x2 x3 = some ρ → V k (wM g I J) 40 [(0, .ref (g.1 0)), (1, .int x1), (2, .int x2), (3, .int x3)] []) : ∀ (I : MI) (J : MJ) (x1 : Int32) (x2 : Int32) (x3 : Int32), LB_X8_goes_40 kk40 I J x1 x2 x3 = some ρ → V k (wM g I J) 40 [(0, .ref (g.1 0)), (1, .int x1), (2, .int x2), (3, .int x3)] [] := by
  intro I J x1 x2 x3 hf
  unfold LB_X8_goes_40 at hf
  refine r_iload_n C dX8_goes_40 rfl 3 rfl ?_
  refine r_aload_n C dX8_goes_41 rfl 0 rfl ?_
  refine r_get C dX8_goes_42 kX8_goes_1 0 mg_0 rfl 2 (by decide) kX8_goes_5 mv_0_2 ?_
  refine r_icmp_ge (tgt := 317) C dX8_goes_45 (by decide) (fun q45 => ?_) (fun q45 => ?_)
  · have hf := itp hf q45
    refine r_iconst (v := (0 : Int32)) C dX8_goes_317 (by decide) ?_
    refine r_istore_n (lv' := [(0, .ref (g.1 0)), (1, .int x1), (2, .int x2), (3, .int (0 : Int32))]) C dX8_goes_318 rfl (by decide) [1, 2, 3, 0] rfl ?_
    refine r_iconst (v := (0 : Int32)) C dX8_goes_319 (by decide) ?_
    refine r_istore (lv' := [(0, .ref (g.1 0)), (1, .int x1), (2, .int x2), (3, .int (0 : Int32)), (4, .int (0 : Int32))]) C dX8_goes_320 (by decide) [1, 2, 3, 4, 0] rfl ?_
    refine V.loc [0, 3, 4] rfl ?_
    exact mL_X8_goes_322 C hr FU _ _ _ _ hf
  · have hf := itn hf q45
    refine r_aload_n C dX8_goes_48 rfl 0 rfl ?_
    refine r_iload_n C dX8_goes_49 rfl 3 rfl ?_
    obtain ⟨I2, J3, hq1, hf⟩ := bo2_e hf
    refine r_callV (o := none) (w' := (wM g I2 J3)) (As := [.int x3]) (rest := []) C (c_X8_takes hq1) dX8_goes_50 gX8_goes_X8_takes rfl rfl rfl hd_X8_takes ⟨by decide, by decide⟩ 0 mg_0 rfl rfl rfl rfl (Nat.le_of_ble_eq_true rfl) ?_
    refine r_aload_n C dX8_goes_53 rfl 0 rfl ?_
    refine r_get C dX8_goes_54 kX8_goes_1 0 mg_0 rfl 4 (by decide) kX8_goes_9 mv_0_4 ?_
    refine r_bipush (v := (12 : Int32)) C dX8_goes_57 (by decide) ?_
    refine r_iald (j := 12) C dX8_goes_59 2 mg_2 (inb_e (by decide +kernel)) (by decide +kernel) ?_
    refine r_iconst (v := (1 : Int32)) C dX8_goes_60 (by decide) ?_
    refine r_icmp_ne (tgt := 98) C dX8_goes_61 (by decide) (fun q61 => ?_) (fun q61 => ?_)
    · have hf := itn hf q61
      exact mB_X8_goes_98 C hr hk40 _ _ _ _ _ hf
    · have hf := itp hf q61
      refine r_iload_n C dX8_goes_64 rfl 2 rfl ?_
      refine r_if_ne (tgt := 98) C dX8_goes_65 (by decide) (fun q65 => ?_) (fun q65 => ?_)
      · have hf := itn hf q65
        exact mB_X8_goes_98 C hr hk40 _ _ _ _ _ hf
      · have hf := itp hf q65
        refine r_aload_n C dX8_goes_68 rfl 0 rfl ?_
        refine r_get C dX8_goes_69 kX8_goes_1 0 mg_0 rfl 4 (by decide) kX8_goes_9 mv_0_4 ?_
        refine r_iconst (v := (5 : Int32)) C dX8_goes_72 (by decide) ?_
        refine r_iald (j := 5) C dX8_goes_73 2 mg_2 (inb_e (by decide +kernel)) (by decide +kernel) ?_
        refine r_iconst (v := (2 : Int32)) C dX8_goes_74 (by decide) ?_
        refine r_icmp_gt (tgt := 94) C dX8_goes_75 (by decide) (fun q75 => ?_) (fun q75 => ?_)
        · have hf := itp hf q75
          exact mB_X8_goes_94 C hr hk40 _ _ _ _ _ hf
        · have hf := itn hf q75
          refine r_aload_n C dX8_goes_78 rfl 0 rfl ?_
          refine r_get C dX8_goes_79 kX8_goes_1 0 mg_0 rfl 29 (by decide) kX8_goes_3 mv_0_29 ?_
          refine r_aload_n C dX8_goes_82 rfl 0 rfl ?_
          refine r_get C dX8_goes_83 kX8_goes_1 0 mg_0 rfl 11 (by decide) kX8_goes_13 mv_0_11 ?_
          refine r_aload_n C dX8_goes_86 rfl 0 rfl ?_
          refine r_get C dX8_goes_87 kX8_goes_1 0 mg_0 rfl 27 (by decide) kX8_goes_2 mv_0_27 ?_
          obtain ⟨h4, hf⟩ := chk_e hf
          refine r_iald (j := (I2 0 27).toNatClampNeg) C dX8_goes_90 4 mg_4 (inb_e h4) rfl ?_
          refine r_icmp_lt (tgt := 98) C dX8_goes_91 (by decide) (fun q91 => ?_) (fun q91 => ?_)
          · have hf := itp hf q91
            exact mB_X8_goes_98 C hr hk40 _ _ _ _ _ hf
          · have hf := itn hf q91
            exact mB_X8_goes_94 C hr hk40 _ _ _ _ _ hf
theorem mL_X8_goes_40 {k : CT} {g : GG} (C : CX k cX8_goes 9 RX8 wsX8_goes rmX8_goes g) {ρ : (Int32 × MI × MJ)} (hr : RTW k wM g cX8_goes .int ρ) : ∀ (n : Nat) (I : MI) (J : MJ) (x1 : Int32) (x2 : Int32) (x3 : Int32), LP_X8_goes_40 n I J x1 x2 x3 = some ρ → V k (wM g I J) 40 [(0, .ref (g.1 0)), (1, .int x1), (2, .int x2), (3, .int x3)] [] := by
  intro n
  induction n with
  | zero => intro I J x1 x2 x3 hf; cases hf
  | succ n ih => intro I J x1 x2 x3 hf; exact mB_X8_goes_40 C hr (fun I J x1 x2 x3 h => ih I J x1 x2 x3 h) I J x1 x2 x3 hf
set_option maxRecDepth 100000 in
set_option maxHeartbeats 4000000 in
theorem c_X8_goes {l : Launch} {D : va_G} {g : GG} {I : MI} {J : MJ} {r : Int32} {I' : MI} {J' : MJ} (hf : f_X8_goes I J = some (r, I', J')) : CON l yX8_goes wsX8_goes rmX8_goes D g (wM g I J) [.ref (g.1 0)] (some (.int r)) (wM g I' J') := by
  refine con_of (cc := cX8_goes) (maxL := 9) (ret := (some .int)) (by decide) rfl (Nat.le_of_ble_eq_true rfl) rfl rfl ?_
  intro k C hkl hkD h1 h2 h3
  subst hkl; subst hkD
  have hr : RTW k wM g cX8_goes .int (r, I', J') := rtw_of h2
  unfold f_X8_goes at hf
  refine V.loc (lv' := [(0, .ref (g.1 0))]) [0] rfl ?_
  refine r_aload_n C dX8_goes_0 rfl 0 rfl ?_
  refine r_get C dX8_goes_1 kX8_goes_1 0 mg_0 rfl 10 (by decide) kX8_goes_0 mv_0_10 ?_
  refine r_aload_n C dX8_goes_4 rfl 0 rfl ?_
  refine r_get C dX8_goes_5 kX8_goes_1 0 mg_0 rfl 27 (by decide) kX8_goes_2 mv_0_27 ?_
  obtain ⟨h1, hf⟩ := chk_e hf
  refine r_iald (j := (I 0 27).toNatClampNeg) C dX8_goes_8 3 mg_3 (inb_e h1) rfl ?_
  refine r_nmi (fun v2 ev2 => ?_)
  have hf := bnd_e hf v2 ev2
  refine r_istore_n (lv' := [(0, .ref (g.1 0)), (1, .int v2)]) C dX8_goes_9 rfl (by decide) [1, 0] rfl ?_
  refine r_aload_n C dX8_goes_10 rfl 0 rfl ?_
  refine r_get C dX8_goes_11 kX8_goes_1 0 mg_0 rfl 29 (by decide) kX8_goes_3 mv_0_29 ?_
  refine r_aload_n C dX8_goes_14 rfl 0 rfl ?_
  refine r_get C dX8_goes_15 kX8_goes_1 0 mg_0 rfl 12 (by decide) kX8_goes_4 mv_0_12 ?_
  refine r_icmp_lt (tgt := 36) C dX8_goes_18 (by decide) (fun q18 => ?_) (fun q18 => ?_)
  · have hf := itp hf q18
    refine r_iconst (v := (0 : Int32)) C dX8_goes_36 (by decide) ?_
    refine r_istore_n (lv' := [(0, .ref (g.1 0)), (1, .int v2), (2, .int (0 : Int32))]) C dX8_goes_37 rfl (by decide) [1, 2, 0] rfl ?_
    refine r_iconst (v := (0 : Int32)) C dX8_goes_38 (by decide) ?_
    refine r_istore_n (lv' := [(0, .ref (g.1 0)), (1, .int v2), (2, .int (0 : Int32)), (3, .int (0 : Int32))]) C dX8_goes_39 rfl (by decide) [1, 2, 3, 0] rfl ?_
    exact mL_X8_goes_40 C hr FU _ _ _ _ _ hf
  · have hf := itn hf q18
    refine r_aload_n C dX8_goes_21 rfl 0 rfl ?_
    refine r_get C dX8_goes_22 kX8_goes_1 0 mg_0 rfl 29 (by decide) kX8_goes_3 mv_0_29 ?_
    refine r_aload_n C dX8_goes_25 rfl 0 rfl ?_
    refine r_get C dX8_goes_26 kX8_goes_1 0 mg_0 rfl 13 (by decide) kX8_goes_14 mv_0_13 ?_
    refine r_icmp_ge (tgt := 36) C dX8_goes_29 (by decide) (fun q29 => ?_) (fun q29 => ?_)
    · have hf := itp hf q29
      refine r_iconst (v := (0 : Int32)) C dX8_goes_36 (by decide) ?_
      refine r_istore_n (lv' := [(0, .ref (g.1 0)), (1, .int v2), (2, .int (0 : Int32))]) C dX8_goes_37 rfl (by decide) [1, 2, 0] rfl ?_
      refine r_iconst (v := (0 : Int32)) C dX8_goes_38 (by decide) ?_
      refine r_istore_n (lv' := [(0, .ref (g.1 0)), (1, .int v2), (2, .int (0 : Int32)), (3, .int (0 : Int32))]) C dX8_goes_39 rfl (by decide) [1, 2, 3, 0] rfl ?_
      exact mL_X8_goes_40 C hr FU _ _ _ _ _ hf
    · have hf := itn hf q29
      refine r_iconst (v := (1 : Int32)) C dX8_goes_32 (by decide) ?_
      refine r_goto (tgt := 37) C dX8_goes_33 (by decide) ?_
      refine r_istore_n (lv' := [(0, .ref (g.1 0)), (1, .int v2), (2, .int (1 : Int32))]) C dX8_goes_37 rfl (by decide) [1, 2, 0] rfl ?_
      refine r_iconst (v := (0 : Int32)) C dX8_goes_38 (by decide) ?_
      refine r_istore_n (lv' := [(0, .ref (g.1 0)), (1, .int v2), (2, .int (1 : Int32)), (3, .int (0 : Int32))]) C dX8_goes_39 rfl (by decide) [1, 2, 3, 0] rfl ?_
      exact mL_X8_goes_40 C hr FU _ _ _ _ _ hf
abbrev rmX8_hours : Room := { frames := 4, cells := 0, slots := 0, locals := 97 }
theorem hd_X8_hours : yX8_hours.cls = RX8 ∧ yX8_hours.cls ≠ "java/lang/invoke/MethodHandle" ∧ yX8_hours.cls ≠ "java/lang/invoke/VarHandle" ∧ (parseMethodDescriptor yX8_hours.desc).map (fun d => d.parameters.length) = some 1 := by decide +kernel
theorem kX8_hours_0 : Cond.fieldLink RX8 64 (TX8 0).1 (TX8 0).2.1 (TX8 0).2.2.1 ∈ wsX8_hours := by decide +kernel
theorem kX8_hours_1 : ∀ w ∈ u_ws RX8 TX8 38, w ∈ wsX8_hours := by decide +kernel
set_option maxRecDepth 100000 in
set_option maxHeartbeats 4000000 in
theorem mB_X8_hours_22 {k : CT} {g : GG} (C : CX k cX8_hours 4 RX8 wsX8_hours rmX8_hours g) {ρ : (Int32 × MI × MJ)} (hr : RTW k wM g cX8_hours .int ρ) {kk22 : MI → MJ → Int32 → Int32 → Int32 → Option (Int32 × MI × MJ)} (hk22 : ∀ (I : MI) (J : MJ) (x1 : Int32) (x2 : Int32) (x3 : Int32), kk22 I J x1 x2 x3 = some ρ → V k (wM g I J) 22 [(0, .ref (g.1 0)), (1, .int x1), (2, .int x2), (3, .int x3)] []) : ∀ (I : MI) (J : MJ) (x1 : Int32) (x2 : Int32) (x3 : Int32), LB_X8_hours_22 kk22 I J x1 x2 x3 = some ρ → V k (wM g I J) 22 [(0, .ref (g.1 0)), (1, .int x1), (2, .int x2), (3, .int x3)] [] := by
  intro I J x1 x2 x3 hf
  unfold LB_X8_hours_22 at hf
  refine r_iload_n C dX8_hours_22 rfl 3 rfl ?_
  refine r_iload_n C dX8_hours_23 rfl 1 rfl ?_
  refine r_icmp_ge (tgt := 40) C dX8_hours_24 (by decide) (fun q24 => ?_) (fun q24 => ?_)
  · have hf := itp hf q24
    refine r_iload_n C dX8_hours_40 rfl 2 rfl ?_
    exact hr _ _ _ _ _ dX8_hours_41 rfl hf
  · have hf := itn hf q24
    refine r_iload_n C dX8_hours_27 rfl 2 rfl ?_
    refine r_aload_n C dX8_hours_28 rfl 0 rfl ?_
    obtain ⟨r4, I2, J3, hq1, hf⟩ := bo3_e hf
    refine r_callV (o := some (.int r4)) (w' := (wM g I2 J3)) (As := []) (rest := [.int x2]) C (c_X8_goes hq1) dX8_hours_29 gX8_hours_X8_goes rfl rfl rfl hd_X8_goes ⟨by decide, by decide⟩ 0 mg_0 rfl rfl rfl rfl (Nat.le_of_ble_eq_true rfl) ?_
    refine r_iadd C dX8_hours_32 ?_
    refine r_nmi (fun v5 ev5 => ?_)
    have hf := bnd_e hf v5 ev5
    refine r_istore_n (lv' := [(0, .ref (g.1 0)), (1, .int x1), (2, .int v5), (3, .int x3)]) C dX8_hours_33 rfl (by decide) [1, 2, 0, 3] rfl ?_
    obtain ⟨v6, ev6⟩ : ∃ z : Int32, z = x3 + (1 : Int32) := ⟨_, rfl⟩
    have hf := bnd_e hf v6 ev6
    refine r_iinc (v := v6) (lv' := [(0, .ref (g.1 0)), (1, .int x1), (2, .int v5), (3, .int v6)]) C dX8_hours_34 3 rfl (by rw [ev6]; rfl) (by decide) [1, 2, 3, 0] rfl ?_
    refine r_goto (tgt := 22) C dX8_hours_37 (by decide) ?_
    exact hk22 _ _ _ _ _ hf
theorem mL_X8_hours_22 {k : CT} {g : GG} (C : CX k cX8_hours 4 RX8 wsX8_hours rmX8_hours g) {ρ : (Int32 × MI × MJ)} (hr : RTW k wM g cX8_hours .int ρ) : ∀ (n : Nat) (I : MI) (J : MJ) (x1 : Int32) (x2 : Int32) (x3 : Int32), LP_X8_hours_22 n I J x1 x2 x3 = some ρ → V k (wM g I J) 22 [(0, .ref (g.1 0)), (1, .int x1), (2, .int x2), (3, .int x3)] [] := by
  intro n
  induction n with
  | zero => intro I J x1 x2 x3 hf; cases hf
  | succ n ih => intro I J x1 x2 x3 hf; exact mB_X8_hours_22 C hr (fun I J x1 x2 x3 h => ih I J x1 x2 x3 h) I J x1 x2 x3 hf
set_option maxRecDepth 100000 in
set_option maxHeartbeats 4000000 in
theorem c_X8_hours {l : Launch} {D : va_G} {g : GG} {I : MI} {J : MJ} {a1 : Int32} {r : Int32} {I' : MI} {J' : MJ} (hf : f_X8_hours I J a1 = some (r, I', J')) : CON l yX8_hours wsX8_hours rmX8_hours D g (wM g I J) [.ref (g.1 0), .int a1] (some (.int r)) (wM g I' J') := by
  refine con_of (cc := cX8_hours) (maxL := 4) (ret := (some .int)) (by decide) rfl (Nat.le_of_ble_eq_true rfl) rfl rfl ?_
  intro k C hkl hkD h1 h2 h3
  subst hkl; subst hkD
  have hr : RTW k wM g cX8_hours .int (r, I', J') := rtw_of h2
  unfold f_X8_hours at hf
  refine V.loc (lv' := [(0, .ref (g.1 0)), (1, .int a1)]) [0, 1] rfl ?_
  refine r_aload_n C dX8_hours_0 rfl 0 rfl ?_
  refine r_iconst (v := (0 : Int32)) C dX8_hours_1 (by decide) ?_
  refine r_put (ty := .int) C dX8_hours_2 kX8_hours_1 tyX8 tyX8_ok nmX8 0 mg_0 rfl 0 (by decide) kX8_hours_0 rfl rfl rfl rfl (Nat.le_of_ble_eq_true rfl) ms_0_0 ?_
  refine nmIM (fun I1 eI1 => ?_)
  have hf := bnd_e hf I1 eI1
  refine r_iload_n C dX8_hours_5 rfl 1 rfl ?_
  refine r_iconst (v := (1 : Int32)) C dX8_hours_6 (by decide) ?_
  refine r_sipush (v := (720 : Int32)) C dX8_hours_7 (by decide) ?_
  obtain ⟨r3, hq2, hf⟩ := bo1_e hf
  refine r_callS (o := some (.int r3)) (w' := (wM g I1 J)) (As := [.int a1, .int (1 : Int32), .int (720 : Int32)]) (rest := []) C (c_X8_in hq2) dX8_hours_10 gX8_hours_X8_in rfl rfl rfl hd_X8_in ⟨by decide, by decide⟩ rfl rfl (Nat.le_of_ble_eq_true rfl) ?_
  refine r_if_ne (tgt := 18) C dX8_hours_13 (by decide) (fun q13 => ?_) (fun q13 => ?_)
  · have hf := itn hf q13
    refine r_iconst (v := (0 : Int32)) C dX8_hours_18 (by decide) ?_
    refine r_istore_n (lv' := [(0, .ref (g.1 0)), (1, .int a1), (2, .int (0 : Int32))]) C dX8_hours_19 rfl (by decide) [1, 2, 0] rfl ?_
    refine r_iconst (v := (0 : Int32)) C dX8_hours_20 (by decide) ?_
    refine r_istore_n (lv' := [(0, .ref (g.1 0)), (1, .int a1), (2, .int (0 : Int32)), (3, .int (0 : Int32))]) C dX8_hours_21 rfl (by decide) [1, 2, 3, 0] rfl ?_
    exact mL_X8_hours_22 C hr FU _ _ _ _ _ hf
  · have hf := itp hf q13
    refine r_iconst (v := (-1 : Int32)) C dX8_hours_16 (by decide) ?_
    exact hr _ _ _ _ _ dX8_hours_17 rfl hf
abbrev rmX8_book : Room := { frames := 1, cells := 0, slots := 0, locals := 22 }
theorem hd_X8_book : yX8_book.cls = RX8 ∧ yX8_book.cls ≠ "java/lang/invoke/MethodHandle" ∧ yX8_book.cls ≠ "java/lang/invoke/VarHandle" ∧ (parseMethodDescriptor yX8_book.desc).map (fun d => d.parameters.length) = some 1 := by decide +kernel
theorem kX8_book_0 : Cond.fieldLink RX8 64 (TX8 0).1 (TX8 0).2.1 (TX8 0).2.2.1 ∈ wsX8_book := by decide +kernel
theorem kX8_book_1 : ∀ w ∈ u_ws RX8 TX8 38, w ∈ wsX8_book := by decide +kernel
theorem kX8_book_2 : Cond.fieldLink RX8 42 (TX8 30).1 (TX8 30).2.1 (TX8 30).2.2.1 ∈ wsX8_book := by decide +kernel
theorem kX8_book_3 : Cond.fieldLink RX8 148 (TX8 18).1 (TX8 18).2.1 (TX8 18).2.2.1 ∈ wsX8_book := by decide +kernel
theorem kX8_book_4 : Jvm.Cond.constantLong RX8 136 (-1) ∈ wsX8_book := by decide +kernel
set_option maxRecDepth 100000 in
set_option maxHeartbeats 4000000 in
theorem c_X8_book {l : Launch} {D : va_G} {g : GG} {I : MI} {J : MJ} {a1 : Int32} {r : Int64} {I' : MI} {J' : MJ} (hf : f_X8_book I J a1 = some (r, I', J')) : CON l yX8_book wsX8_book rmX8_book D g (wM g I J) [.ref (g.1 0), .int a1] (some (.long r)) (wM g I' J') := by
  refine con_of (cc := cX8_book) (maxL := 2) (ret := (some .long)) (by decide) rfl (Nat.le_of_ble_eq_true rfl) rfl rfl ?_
  intro k C hkl hkD h1 h2 h3
  subst hkl; subst hkD
  have hr : RTL k wM g cX8_book (r, I', J') := rtl_of h3
  unfold f_X8_book at hf
  refine V.loc (lv' := [(0, .ref (g.1 0)), (1, .int a1)]) [0, 1] rfl ?_
  refine r_aload_n C dX8_book_0 rfl 0 rfl ?_
  refine r_iconst (v := (0 : Int32)) C dX8_book_1 (by decide) ?_
  refine r_put (ty := .int) C dX8_book_2 kX8_book_1 tyX8 tyX8_ok nmX8 0 mg_0 rfl 0 (by decide) kX8_book_0 rfl rfl rfl rfl (Nat.le_of_ble_eq_true rfl) ms_0_0 ?_
  refine nmIM (fun I1 eI1 => ?_)
  have hf := bnd_e hf I1 eI1
  refine r_iload_n C dX8_book_5 rfl 1 rfl ?_
  refine r_iconst (v := (0 : Int32)) C dX8_book_6 (by decide) ?_
  refine r_bipush (v := (10 : Int32)) C dX8_book_7 (by decide) ?_
  obtain ⟨r3, hq2, hf⟩ := bo1_e hf
  refine r_callS (o := some (.int r3)) (w' := (wM g I1 J)) (As := [.int a1, .int (0 : Int32), .int (10 : Int32)]) (rest := []) C (c_X8_in hq2) dX8_book_9 gX8_book_X8_in rfl rfl rfl hd_X8_in ⟨by decide, by decide⟩ rfl rfl (Nat.le_of_ble_eq_true rfl) ?_
  refine r_if_ne (tgt := 21) C dX8_book_12 (by decide) (fun q12 => ?_) (fun q12 => ?_)
  · have hf := itn hf q12
    refine r_iload_n C dX8_book_21 rfl 1 rfl ?_
    refine r_iconst (v := (5 : Int32)) C dX8_book_22 (by decide) ?_
    refine r_icmp_ne (tgt := 34) C dX8_book_23 (by decide) (fun q23 => ?_) (fun q23 => ?_)
    · have hf := itn hf q23
      refine r_aload_n C dX8_book_34 rfl 0 rfl ?_
      refine r_get C dX8_book_35 kX8_book_1 0 mg_0 rfl 30 (by decide) kX8_book_2 mv_0_30 ?_
      refine r_iload_n C dX8_book_38 rfl 1 rfl ?_
      obtain ⟨h4, hf⟩ := chk_e hf
      refine r_lald (j := a1.toNatClampNeg) C dX8_book_39 10 mg_10 (inb_e h4) rfl ?_
      exact hr _ _ _ _ _ dX8_book_40 hf
    · have hf := itp hf q23
      refine r_aload_n C dX8_book_26 rfl 0 rfl ?_
      refine r_get C dX8_book_27 kX8_book_1 0 mg_0 rfl 18 (by decide) kX8_book_3 mv_0_18 ?_
      refine r_i2l C dX8_book_30 ?_
      refine r_goto (tgt := 40) C dX8_book_31 (by decide) ?_
      exact hr _ _ _ _ _ dX8_book_40 hf
  · have hf := itp hf q12
    refine r_ldc2 (v := (-1 : Int64)) C dX8_book_15 kX8_book_4 ?_
    refine r_goto (tgt := 40) C dX8_book_18 (by decide) ?_
    exact hr _ _ _ _ _ dX8_book_40 hf
abbrev rmX8_isRead : Room := { frames := 1, cells := 0, slots := 0, locals := 22 }
theorem hd_X8_isRead : yX8_isRead.cls ≠ "java/lang/invoke/MethodHandle" ∧ yX8_isRead.cls ≠ "java/lang/invoke/VarHandle" ∧ (parseMethodDescriptor yX8_isRead.desc).map (fun d => d.parameters.length) = some 1 := by decide +kernel
theorem kX8_isRead_0 : Jvm.Cond.constant RX8 130 (1000000) ∈ wsX8_isRead := by decide +kernel
set_option maxRecDepth 100000 in
set_option maxHeartbeats 4000000 in
theorem c_X8_isRead {l : Launch} {D : va_G} {g : GG} {I : MI} {J : MJ} {a0 : Int32} {r : Int32} (hf : f_X8_isRead a0 = some r) : CON l yX8_isRead wsX8_isRead rmX8_isRead D g (wM g I J) [.int a0] (some (.int r)) (wM g I J) := by
  refine con_of (cc := cX8_isRead) (maxL := 1) (ret := (some .boolean)) (by decide) rfl (Nat.le_of_ble_eq_true rfl) rfl rfl ?_
  intro k C hkl hkD h1 h2 h3
  subst hkl; subst hkD
  have hr : RRW k (wM g I J) cX8_isRead .boolean r := rrw_of h2
  unfold f_X8_isRead at hf
  refine V.loc (lv' := [(0, .int a0)]) [0] rfl ?_
  refine r_iload_n C dX8_isRead_0 rfl 0 rfl ?_
  refine r_bipush (v := (-9 : Int32)) C dX8_isRead_1 (by decide) ?_
  refine r_icmp_eq (tgt := 16) C dX8_isRead_3 (by decide) (fun q3 => ?_) (fun q3 => ?_)
  · have hf := itp hf q3
    refine r_iconst (v := (1 : Int32)) C dX8_isRead_16 (by decide) ?_
    refine r_goto (tgt := 21) C dX8_isRead_17 (by decide) ?_
    exact hr _ _ _ dX8_isRead_21 nb1 hf
  · have hf := itn hf q3
    refine r_iload_n C dX8_isRead_6 rfl 0 rfl ?_
    refine r_iconst (v := (0 : Int32)) C dX8_isRead_7 (by decide) ?_
    refine r_ldc (v := (1000000 : Int32)) C dX8_isRead_8 kX8_isRead_0 ?_
    obtain ⟨r2, hq1, hf⟩ := bo1_e hf
    refine r_callS (o := some (.int r2)) (w' := (wM g I J)) (As := [.int a0, .int (0 : Int32), .int (1000000 : Int32)]) (rest := []) C (c_X8_in hq1) dX8_isRead_10 gX8_isRead_X8_in rfl rfl rfl hd_X8_in ⟨by decide, by decide⟩ rfl rfl (Nat.le_of_ble_eq_true rfl) ?_
    refine r_if_eq (tgt := 20) C dX8_isRead_13 (by decide) (fun q13 => ?_) (fun q13 => ?_)
    · have hf := itp hf q13
      refine r_iconst (v := (0 : Int32)) C dX8_isRead_20 (by decide) ?_
      exact hr _ _ _ dX8_isRead_21 nb0 hf
    · have hf := itn hf q13
      refine r_iconst (v := (1 : Int32)) C dX8_isRead_16 (by decide) ?_
      refine r_goto (tgt := 21) C dX8_isRead_17 (by decide) ?_
      exact hr _ _ _ dX8_isRead_21 nb1 hf
