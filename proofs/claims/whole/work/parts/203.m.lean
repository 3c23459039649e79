abbrev rmX7_spring : Room := { frames := 2, cells := 0, slots := 0, locals := 42 }
theorem hd_X7_spring : yX7_spring.cls = RX7 ∧ yX7_spring.cls ≠ "java/lang/invoke/MethodHandle" ∧ yX7_spring.cls ≠ "java/lang/invoke/VarHandle" ∧ (parseMethodDescriptor yX7_spring.desc).map (fun d => d.parameters.length) = some 2 := by decide +kernel
theorem kX7_spring_0 : Jvm.Cond.constant RX7 141 (1000000) ∈ wsX7_spring := by decide +kernel
theorem kX7_spring_1 : Cond.fieldLink RX7 27 (TX7 3).1 (TX7 3).2.1 (TX7 3).2.2.1 ∈ wsX7_spring := by decide +kernel
theorem kX7_spring_2 : ∀ w ∈ u_ws RX7 TX7 13, w ∈ wsX7_spring := by decide +kernel
theorem kX7_spring_3 : Cond.fieldLink RX7 142 (TX4 0).1 (TX4 0).2.1 (TX4 0).2.2.1 ∈ wsX7_spring := by decide +kernel
theorem kX7_spring_4 : ∀ w ∈ u_ws RX4 TX4 4, w ∈ wsX7_spring := by decide +kernel
set_option maxRecDepth 100000 in
set_option maxHeartbeats 4000000 in
theorem c_X7_spring {l : Launch} {D : va_G} {g : GG} {I : MI} {J : MJ} {a1 : Int32} {a2 : Int32} {r : Int32} {I' : MI} {J' : MJ} (hf : f_X7_spring I J a1 a2 = some (r, I', J')) : CON l yX7_spring wsX7_spring rmX7_spring D g (wB g I J) [.ref (g.1 0), .int a1, .int a2] (some (.int r)) (wB g I' J') := by
  refine con_of (cc := cX7_spring) (maxL := 4) (ret := (some .int)) (by decide) rfl (Nat.le_of_ble_eq_true rfl) rfl rfl ?_
  intro k C hkl hkD h1 h2 h3
  subst hkl; subst hkD
  have hr : RTW k wB g cX7_spring .int (r, I', J') := rtw_of h2
  unfold f_X7_spring at hf
  refine V.loc (lv' := [(0, .ref (g.1 0)), (1, .int a1), (2, .int a2)]) [0, 1, 2] rfl ?_
  refine r_iload_n C dX7_spring_0 rfl 1 rfl ?_
  obtain ⟨r2, hq1, hf⟩ := bo1_e hf
  refine r_callS (o := some (.int r2)) (w' := (wB g I J)) (As := [.int a1]) (rest := []) C (c_X7_isMonth hq1) dX7_spring_1 gX7_spring_X7_isMonth rfl rfl rfl hd_X7_isMonth ⟨by decide, by decide⟩ rfl rfl (Nat.le_of_ble_eq_true rfl) ?_
  refine r_if_eq (tgt := 17) C dX7_spring_4 (by decide) (fun q4 => ?_) (fun q4 => ?_)
  · have hf := itp hf q4
    refine r_iconst (v := (-1 : Int32)) C dX7_spring_17 (by decide) ?_
    exact hr _ _ _ _ _ dX7_spring_18 rfl hf
  · have hf := itn hf q4
    refine r_iload_n C dX7_spring_7 rfl 2 rfl ?_
    refine r_iconst (v := (0 : Int32)) C dX7_spring_8 (by decide) ?_
    refine r_ldc (v := (1000000 : Int32)) C dX7_spring_9 kX7_spring_0 ?_
    obtain ⟨r4, hq3, hf⟩ := bo1_e hf
    refine r_callS (o := some (.int r4)) (w' := (wB g I J)) (As := [.int a2, .int (0 : Int32), .int (1000000 : Int32)]) (rest := []) C (c_X7_within hq3) dX7_spring_11 gX7_spring_X7_within rfl rfl rfl hd_X7_within ⟨by decide, by decide⟩ rfl rfl (Nat.le_of_ble_eq_true rfl) ?_
    refine r_if_ne (tgt := 19) C dX7_spring_14 (by decide) (fun q14 => ?_) (fun q14 => ?_)
    · have hf := itn hf q14
      refine r_aload_n C dX7_spring_19 rfl 0 rfl ?_
      refine r_get C dX7_spring_20 kX7_spring_2 0 bg_0 rfl 3 (by decide) kX7_spring_1 bv_0_3 ?_
      refine r_get C dX7_spring_23 kX7_spring_4 12 bg_12 rfl 0 (by decide) kX7_spring_3 bv_12_0 ?_
      refine r_iload_n C dX7_spring_26 rfl 1 rfl ?_
      obtain ⟨h5, hf⟩ := chk_e hf
      refine r_iald (j := a1.toNatClampNeg) C dX7_spring_27 13 bg_13 (inb_e h5) rfl ?_
      refine r_nmi (fun v6 ev6 => ?_)
      have hf := bnd_e hf v6 ev6
      refine r_istore_n (lv' := [(0, .ref (g.1 0)), (1, .int a1), (2, .int a2), (3, .int v6)]) C dX7_spring_28 rfl (by decide) [1, 2, 3, 0] rfl ?_
      refine r_aload_n C dX7_spring_29 rfl 0 rfl ?_
      refine r_get C dX7_spring_30 kX7_spring_2 0 bg_0 rfl 3 (by decide) kX7_spring_1 bv_0_3 ?_
      refine r_get C dX7_spring_33 kX7_spring_4 12 bg_12 rfl 0 (by decide) kX7_spring_3 bv_12_0 ?_
      refine r_iload_n C dX7_spring_36 rfl 1 rfl ?_
      refine r_iload_n C dX7_spring_37 rfl 2 rfl ?_
      obtain ⟨h7, hf⟩ := chk_e hf
      refine r_iast (j := a1.toNatClampNeg) C dX7_spring_38 13 bg_13 (inb_e h7) rfl ba_13 ?_
      refine nmIB (fun I8 eI8 => ?_)
      have hf := bnd_e hf I8 eI8
      refine r_iload_n C dX7_spring_39 rfl 3 rfl ?_
      exact hr _ _ _ _ _ dX7_spring_40 rfl hf
    · have hf := itp hf q14
      refine r_iconst (v := (-1 : Int32)) C dX7_spring_17 (by decide) ?_
      exact hr _ _ _ _ _ dX7_spring_18 rfl hf
abbrev rmX1_becomeLike : Room := { frames := 1, cells := 0, slots := 0, locals := 38 }
theorem hd_X1_becomeLike : yX1_becomeLike.cls = RX1 ∧ yX1_becomeLike.cls ≠ "java/lang/invoke/MethodHandle" ∧ yX1_becomeLike.cls ≠ "java/lang/invoke/VarHandle" ∧ (parseMethodDescriptor yX1_becomeLike.desc).map (fun d => d.parameters.length) = some 1 := by decide +kernel
theorem kX1_becomeLike_0 : Cond.fieldLink RX1 9 (TX1 0).1 (TX1 0).2.1 (TX1 0).2.2.1 ∈ wsX1_becomeLike := by decide +kernel
theorem kX1_becomeLike_1 : ∀ w ∈ u_ws RX1 TX1 8, w ∈ wsX1_becomeLike := by decide +kernel
theorem kX1_becomeLike_2 : Cond.methodLink RX1 41 arraycopyName ∈ wsX1_becomeLike := by decide +kernel
theorem kX1_becomeLike_3 : Cond.native arraycopyName ∈ wsX1_becomeLike := by decide +kernel
theorem kX1_becomeLike_4 : Cond.static arraycopyName ∈ wsX1_becomeLike := by decide +kernel
theorem kX1_becomeLike_5 : Cond.initialized "java/lang/System" ∈ wsX1_becomeLike := by decide +kernel
theorem kX1_becomeLike_6 : Cond.fieldLink RX1 15 (TX1 1).1 (TX1 1).2.1 (TX1 1).2.2.1 ∈ wsX1_becomeLike := by decide +kernel
set_option maxRecDepth 100000 in
set_option maxHeartbeats 4000000 in
theorem c_X1_becomeLike {l : Launch} {D : va_G} {g : GG} {I : MI} {J : MJ} {c : Nat} {c1 : Nat} {I' : MI} {J' : MJ} (hc : RC c) (hc1 : RC c1) (hf : f_X1_becomeLike c I J c1 = some (I', J')) : CON l yX1_becomeLike wsX1_becomeLike rmX1_becomeLike D g (wB g I J) [.ref (g.1 c), .ref (g.1 c1)] none (wB g I' J') := by
  refine con_of (cc := cX1_becomeLike) (maxL := 2) (ret := none) (by decide) rfl (Nat.le_of_ble_eq_true rfl) rfl rfl ?_
  intro k C hkl hkD h1 h2 h3
  subst hkl; subst hkD
  have hr : RTV k wB g cX1_becomeLike (I', J') := rtv_of h1
  unfold f_X1_becomeLike at hf
  refine V.loc (lv' := [(0, .ref (g.1 c)), (1, .ref (g.1 c1))]) [0, 1] rfl ?_
  refine r_aload_n C dX1_becomeLike_0 rfl 1 rfl ?_
  refine r_get C dX1_becomeLike_1 kX1_becomeLike_1 c1 (brg hc1) rfl 0 (by decide) kX1_becomeLike_0 brv_0 ?_
  refine r_iconst (v := (0 : Int32)) C dX1_becomeLike_4 (by decide) ?_
  refine r_aload_n C dX1_becomeLike_5 rfl 0 rfl ?_
  refine r_get C dX1_becomeLike_6 kX1_becomeLike_1 c (brg hc) rfl 0 (by decide) kX1_becomeLike_0 brv_0 ?_
  refine r_iconst (v := (0 : Int32)) C dX1_becomeLike_9 (by decide) ?_
  refine r_bipush (v := (13 : Int32)) C dX1_becomeLike_10 (by decide) ?_
  refine r_copyi C dX1_becomeLike_12 kX1_becomeLike_2 kX1_becomeLike_3 kX1_becomeLike_4 kX1_becomeLike_5 (c1 + 1) (c + 1) (brt hc1) (brt hc) (by decide) (by decide) (by decide) (by decide +kernel) (by decide +kernel) (by decide) (Nat.le_of_ble_eq_true rfl) (brtc hc) ?_
  refine nmIB (fun I1 eI1 => ?_)
  have hf := bnd_e hf I1 eI1
  refine r_aload_n C dX1_becomeLike_15 rfl 0 rfl ?_
  refine r_iconst (v := (0 : Int32)) C dX1_becomeLike_16 (by decide) ?_
  refine r_put (ty := .boolean) C dX1_becomeLike_17 kX1_becomeLike_1 tyX1 tyX1_ok nmX1 c (brg hc) rfl 1 (by decide) kX1_becomeLike_6 rfl rfl nb0 rfl (Nat.le_of_ble_eq_true rfl) (brs_1 hc) ?_
  refine nmIB (fun I2 eI2 => ?_)
  have hf := bnd_e hf I2 eI2
  exact hr _ _ _ _ dX1_becomeLike_20 hf
abbrev rmX7_advantage : Room := { frames := 0, cells := 0, slots := 0, locals := 0 }
theorem hd_X7_advantage : yX7_advantage.cls ≠ "java/lang/invoke/MethodHandle" ∧ yX7_advantage.cls ≠ "java/lang/invoke/VarHandle" ∧ (parseMethodDescriptor yX7_advantage.desc).map (fun d => d.parameters.length) = some 5 := by decide +kernel
set_option maxRecDepth 100000 in
set_option maxHeartbeats 4000000 in
theorem c_X7_advantage {l : Launch} {D : va_G} {g : GG} {I : MI} {J : MJ} {a0 : Int32} {a1 : Int32} {a2 : Int32} {a3 : Int32} {a4 : Int32} {r : Int64} (hf : f_X7_advantage a0 a1 a2 a3 a4 = some r) : CON l yX7_advantage wsX7_advantage rmX7_advantage D g (wB g I J) [.int a0, .int a1, .int a2, .int a3, .int a4] (some (.long r)) (wB g I J) := by
  refine con_of (cc := cX7_advantage) (maxL := 5) (ret := (some .long)) (by decide) rfl (Nat.le_of_ble_eq_true rfl) rfl rfl ?_
  intro k C hkl hkD h1 h2 h3
  subst hkl; subst hkD
  have hr : RRL k (wB g I J) cX7_advantage r := rrl_of h3
  unfold f_X7_advantage at hf
  refine V.loc (lv' := [(0, .int a0), (1, .int a1), (2, .int a2), (3, .int a3), (4, .int a4)]) [0, 1, 2, 3, 4] rfl ?_
  refine r_iload_n C dX7_advantage_0 rfl 0 rfl ?_
  refine r_if_ne (tgt := 11) C dX7_advantage_1 (by decide) (fun q1 => ?_) (fun q1 => ?_)
  · have hf := itn hf q1
    refine r_iload C dX7_advantage_11 4 rfl ?_
    refine r_i2l C dX7_advantage_13 ?_
    refine r_iload_n C dX7_advantage_14 rfl 1 rfl ?_
    refine r_i2l C dX7_advantage_15 ?_
    refine r_lmul C dX7_advantage_16 ?_
    refine r_iload_n C dX7_advantage_17 rfl 2 rfl ?_
    refine r_i2l C dX7_advantage_18 ?_
    refine r_iload_n C dX7_advantage_19 rfl 3 rfl ?_
    refine r_i2l C dX7_advantage_20 ?_
    refine r_lmul C dX7_advantage_21 ?_
    refine r_lsub C dX7_advantage_22 ?_
    exact hr _ _ _ dX7_advantage_23 hf
  · have hf := itp hf q1
    refine r_iload_n C dX7_advantage_4 rfl 1 rfl ?_
    refine r_iload_n C dX7_advantage_5 rfl 3 rfl ?_
    refine r_isub C dX7_advantage_6 ?_
    refine r_i2l C dX7_advantage_7 ?_
    refine r_goto (tgt := 23) C dX7_advantage_8 (by decide) ?_
    exact hr _ _ _ dX7_advantage_23 hf
abbrev rmX7_tuned : Room := { frames := 4, cells := 0, slots := 0, locals := 93 }
theorem hd_X7_tuned : yX7_tuned.cls = RX7 ∧ yX7_tuned.cls ≠ "java/lang/invoke/MethodHandle" ∧ yX7_tuned.cls ≠ "java/lang/invoke/VarHandle" ∧ (parseMethodDescriptor yX7_tuned.desc).map (fun d => d.parameters.length) = some 4 := by decide +kernel
theorem kX7_tuned_0 : Cond.fieldLink RX7 20 (TX7 2).1 (TX7 2).2.1 (TX7 2).2.2.1 ∈ wsX7_tuned := by decide +kernel
theorem kX7_tuned_1 : ∀ w ∈ u_ws RX7 TX7 13, w ∈ wsX7_tuned := by decide +kernel
theorem kX7_tuned_2 : Cond.fieldLink RX7 11 (TX7 0).1 (TX7 0).2.1 (TX7 0).2.2.1 ∈ wsX7_tuned := by decide +kernel
theorem kX7_tuned_3 : Cond.fieldLink RX7 149 RX7 "MOST" "[I" ∈ wsX7_tuned := by decide +kernel
theorem kX7_tuned_4 : Cond.fieldLink RX7 27 (TX7 3).1 (TX7 3).2.1 (TX7 3).2.2.1 ∈ wsX7_tuned := by decide +kernel
theorem kX7_tuned_5 : Cond.fieldLink RX7 142 (TX4 0).1 (TX4 0).2.1 (TX4 0).2.2.1 ∈ wsX7_tuned := by decide +kernel
theorem kX7_tuned_6 : ∀ w ∈ u_ws RX4 TX4 4, w ∈ wsX7_tuned := by decide +kernel
set_option maxRecDepth 100000 in
set_option maxHeartbeats 4000000 in
theorem mB_X7_tuned_189 {k : CT} {g : GG} (C : CX k cX7_tuned 15 RX7 wsX7_tuned rmX7_tuned g) {ρ : (Int32 × MI × MJ)} (hr : RTW k wB g cX7_tuned .int ρ) {kk67 : MI → MJ → Int32 → Int32 → Int32 → Int32 → Int32 → Int32 → Int32 → Int32 → Option (Int32 × MI × MJ)} {kk90 : MI → MJ → Int32 → Int32 → Int32 → Int32 → Int32 → Int32 → Int32 → Int32 → Int32 → Option (Int32 × MI × MJ)} (hk67 : ∀ (I : MI) (J : MJ) (x2 : Int32) (x3 : Int32) (x4 : Int32) (x5 : Int32) (x6 : Int32) (x7 : Int32) (x8 : Int32) (x9 : Int32), kk67 I J x2 x3 x4 x5 x6 x7 x8 x9 = some ρ → V k (wB g I J) 67 [(0, .ref (g.1 0)), (2, .int x2), (3, .int x3), (4, .int x4), (5, .int x5), (6, .int x6), (7, .int x7), (8, .int x8), (9, .int x9)] []) (hk90 : ∀ (I : MI) (J : MJ) (x2 : Int32) (x3 : Int32) (x4 : Int32) (x5 : Int32) (x6 : Int32) (x7 : Int32) (x8 : Int32) (x9 : Int32) (x10 : Int32), kk90 I J x2 x3 x4 x5 x6 x7 x8 x9 x10 = some ρ → V k (wB g I J) 90 [(0, .ref (g.1 0)), (2, .int x2), (3, .int x3), (4, .int x4), (5, .int x5), (6, .int x6), (7, .int x7), (8, .int x8), (9, .int x9), (10, .int x10)] []) : ∀ (I : MI) (J : MJ) (x2 : Int32) (x3 : Int32) (x4 : Int32) (x5 : Int32) (x6 : Int32) (x7 : Int32) (x8 : Int32) (x9 : Int32) (x10 : Int32) (x11 : Int32) (x12 : Int32) (t0 : Int64), LB_X7_tuned_189 kk67 kk90 I J x2 x3 x4 x5 x6 x7 x8 x9 x10 x11 x12 t0 = some ρ → V k (wB g I J) 189 [(0, .ref (g.1 0)), (2, .int x2), (3, .int x3), (4, .int x4), (5, .int x5), (6, .int x6), (7, .int x7), (8, .int x8), (9, .int x9), (10, .int x10), (11, .int x11), (12, .int x12)] [.long t0] := by
  intro I J x2 x3 x4 x5 x6 x7 x8 x9 x10 x11 x12 t0 hf
  unfold LB_X7_tuned_189 at hf
  refine r_lstore (lv' := [(0, .ref (g.1 0)), (2, .int x2), (3, .int x3), (4, .int x4), (5, .int x5), (6, .int x6), (7, .int x7), (8, .int x8), (9, .int x9), (10, .int x10), (11, .int x11), (12, .int x12), (13, .long t0)]) C dX7_tuned_189 (by decide) [1, 2, 3, 4, 5, 6, 7, 8, 9, 10, 11, 12, 0] rfl ?_
  refine r_lload C dX7_tuned_191 12 rfl ?_
  refine r_lconst (v := (0 : Int64)) C dX7_tuned_193 (by decide) ?_
  refine r_lcmp_gt (tgt := 212) C dX7_tuned_194 dX7_tuned_195 (by decide) (fun q194 => ?_) (fun q194 => ?_)
  · have hf := itp hf q194
    refine r_iload C dX7_tuned_212 9 rfl ?_
    refine r_istore (lv' := [(0, .ref (g.1 0)), (2, .int x2), (3, .int x3), (4, .int x4), (5, .int x10), (6, .int x6), (7, .int x7), (8, .int x8), (9, .int x9), (10, .int x10), (11, .int x11), (12, .int x12), (13, .long t0)]) C dX7_tuned_214 (by decide) [1, 2, 3, 4, 0, 5, 6, 7, 8, 9, 10, 11, 12] rfl ?_
    refine r_iload C dX7_tuned_216 8 rfl ?_
    refine r_istore (lv' := [(0, .ref (g.1 0)), (2, .int x2), (3, .int x3), (4, .int x4), (5, .int x10), (6, .int x9), (7, .int x7), (8, .int x8), (9, .int x9), (10, .int x10), (11, .int x11), (12, .int x12), (13, .long t0)]) C dX7_tuned_218 (by decide) [1, 2, 3, 4, 5, 0, 6, 7, 8, 9, 10, 11, 12] rfl ?_
    refine r_iload C dX7_tuned_220 10 rfl ?_
    refine r_istore (lv' := [(0, .ref (g.1 0)), (2, .int x2), (3, .int x3), (4, .int x4), (5, .int x10), (6, .int x9), (7, .int x11), (8, .int x8), (9, .int x9), (10, .int x10), (11, .int x11), (12, .int x12), (13, .long t0)]) C dX7_tuned_222 (by decide) [1, 2, 3, 4, 5, 6, 0, 7, 8, 9, 10, 11, 12] rfl ?_
    refine r_iload C dX7_tuned_224 11 rfl ?_
    refine r_istore (lv' := [(0, .ref (g.1 0)), (2, .int x2), (3, .int x3), (4, .int x4), (5, .int x10), (6, .int x9), (7, .int x11), (8, .int x12), (9, .int x9), (10, .int x10), (11, .int x11), (12, .int x12), (13, .long t0)]) C dX7_tuned_226 (by decide) [1, 2, 3, 4, 5, 6, 7, 0, 8, 9, 10, 11, 12] rfl ?_
    obtain ⟨v1, ev1⟩ : ∃ z : Int32, z = x10 + (5 : Int32) := ⟨_, rfl⟩
    have hf := bnd_e hf v1 ev1
    refine r_iinc (v := v1) (lv' := [(0, .ref (g.1 0)), (2, .int x2), (3, .int x3), (4, .int x4), (5, .int x10), (6, .int x9), (7, .int x11), (8, .int x12), (9, .int x9), (10, .int v1), (11, .int x11), (12, .int x12), (13, .long t0)]) C dX7_tuned_228 9 rfl (by rw [ev1]; rfl) (by decide) [1, 2, 3, 4, 5, 6, 7, 8, 9, 0, 10, 11, 12] rfl ?_
    refine r_goto (tgt := 90) C dX7_tuned_231 (by decide) ?_
    refine V.loc [0, 1, 2, 3, 4, 5, 6, 7, 8, 9] rfl ?_
    exact hk90 _ _ _ _ _ _ _ _ _ _ _ hf
  · have hf := itn hf q194
    refine r_lload C dX7_tuned_198 12 rfl ?_
    refine r_lconst (v := (0 : Int64)) C dX7_tuned_200 (by decide) ?_
    refine r_lcmp_ne (tgt := 228) C dX7_tuned_201 dX7_tuned_202 (by decide) (fun q201 => ?_) (fun q201 => ?_)
    · have hf := itn hf q201
      obtain ⟨v2, ev2⟩ : ∃ z : Int32, z = x10 + (5 : Int32) := ⟨_, rfl⟩
      have hf := bnd_e hf v2 ev2
      refine r_iinc (v := v2) (lv' := [(0, .ref (g.1 0)), (2, .int x2), (3, .int x3), (4, .int x4), (5, .int x5), (6, .int x6), (7, .int x7), (8, .int x8), (9, .int x9), (10, .int v2), (11, .int x11), (12, .int x12), (13, .long t0)]) C dX7_tuned_228 9 rfl (by rw [ev2]; rfl) (by decide) [1, 2, 3, 4, 5, 6, 7, 8, 9, 0, 10, 11, 12] rfl ?_
      refine r_goto (tgt := 90) C dX7_tuned_231 (by decide) ?_
      refine V.loc [0, 1, 2, 3, 4, 5, 6, 7, 8, 9] rfl ?_
      exact hk90 _ _ _ _ _ _ _ _ _ _ _ hf
    · have hf := itp hf q201
      refine r_iload C dX7_tuned_205 9 rfl ?_
      refine r_iload C dX7_tuned_207 4 rfl ?_
      refine r_icmp_ge (tgt := 228) C dX7_tuned_209 (by decide) (fun q209 => ?_) (fun q209 => ?_)
      · have hf := itp hf q209
        obtain ⟨v3, ev3⟩ : ∃ z : Int32, z = x10 + (5 : Int32) := ⟨_, rfl⟩
        have hf := bnd_e hf v3 ev3
        refine r_iinc (v := v3) (lv' := [(0, .ref (g.1 0)), (2, .int x2), (3, .int x3), (4, .int x4), (5, .int x5), (6, .int x6), (7, .int x7), (8, .int x8), (9, .int x9), (10, .int v3), (11, .int x11), (12, .int x12), (13, .long t0)]) C dX7_tuned_228 9 rfl (by rw [ev3]; rfl) (by decide) [1, 2, 3, 4, 5, 6, 7, 8, 9, 0, 10, 11, 12] rfl ?_
        refine r_goto (tgt := 90) C dX7_tuned_231 (by decide) ?_
        refine V.loc [0, 1, 2, 3, 4, 5, 6, 7, 8, 9] rfl ?_
        exact hk90 _ _ _ _ _ _ _ _ _ _ _ hf
      · have hf := itn hf q209
        refine r_iload C dX7_tuned_212 9 rfl ?_
        refine r_istore (lv' := [(0, .ref (g.1 0)), (2, .int x2), (3, .int x3), (4, .int x4), (5, .int x10), (6, .int x6), (7, .int x7), (8, .int x8), (9, .int x9), (10, .int x10), (11, .int x11), (12, .int x12), (13, .long t0)]) C dX7_tuned_214 (by decide) [1, 2, 3, 4, 0, 5, 6, 7, 8, 9, 10, 11, 12] rfl ?_
        refine r_iload C dX7_tuned_216 8 rfl ?_
        refine r_istore (lv' := [(0, .ref (g.1 0)), (2, .int x2), (3, .int x3), (4, .int x4), (5, .int x10), (6, .int x9), (7, .int x7), (8, .int x8), (9, .int x9), (10, .int x10), (11, .int x11), (12, .int x12), (13, .long t0)]) C dX7_tuned_218 (by decide) [1, 2, 3, 4, 5, 0, 6, 7, 8, 9, 10, 11, 12] rfl ?_
        refine r_iload C dX7_tuned_220 10 rfl ?_
        refine r_istore (lv' := [(0, .ref (g.1 0)), (2, .int x2), (3, .int x3), (4, .int x4), (5, .int x10), (6, .int x9), (7, .int x11), (8, .int x8), (9, .int x9), (10, .int x10), (11, .int x11), (12, .int x12), (13, .long t0)]) C dX7_tuned_222 (by decide) [1, 2, 3, 4, 5, 6, 0, 7, 8, 9, 10, 11, 12] rfl ?_
        refine r_iload C dX7_tuned_224 11 rfl ?_
        refine r_istore (lv' := [(0, .ref (g.1 0)), (2, .int x2), (3, .int x3), (4, .int x4), (5, .int x10), (6, .int x9), (7, .int x11), (8, .int x12), (9, .int x9), (10, .int x10), (11, .int x11), (12, .int x12), (13, .long t0)]) C dX7_tuned_226 (by decide) [1, 2, 3, 4, 5, 6, 7, 0, 8, 9, 10, 11, 12] rfl ?_
        obtain ⟨v4, ev4⟩ : ∃ z : Int32, z = x10 + (5 : Int32) := ⟨_, rfl⟩
        have hf := bnd_e hf v4 ev4
        refine r_iinc (v := v4) (lv' := [(0, .ref (g.1 0)), (2, .int x2), (3, .int x3), (4, .int x4), (5, .int x10), (6, .int x9), (7, .int x11), (8, .int x12), (9, .int x9), (10, .int v4), (11, .int x11), (12, .int x12), (13, .long t0)]) C dX7_tuned_228 9 rfl (by rw [ev4]; rfl) (by decide) [1, 2, 3, 4, 5, 6, 7, 8, 9, 0, 10, 11, 12] rfl ?_
        refine r_goto (tgt := 90) C dX7_tuned_231 (by decide) ?_
        refine V.loc [0, 1, 2, 3, 4, 5, 6, 7, 8, 9] rfl ?_
        exact hk90 _ _ _ _ _ _ _ _ _ _ _ hf
set_option maxRecDepth 100000 in
set_option maxHeartbeats 4000000 in
theorem mB_X7_tuned_90 {k : CT} {g : GG} (C : CX k cX7_tuned 15 RX7 wsX7_tuned rmX7_tuned g) {ρ : (Int32 × MI × MJ)} (hr : RTW k wB g cX7_tuned .int ρ) {kk67 : MI → MJ → Int32 → Int32 → Int32 → Int32 → Int32 → Int32 → Int32 → Int32 → Option (Int32 × MI × MJ)} {kk90 : MI → MJ → Int32 → Int32 → Int32 → Int32 → Int32 → Int32 → Int32 → Int32 → Int32 → Option (Int32 × MI × MJ)} (hk67 : ∀ (I : MI) (J : MJ) (x2 : Int32) (x3 : Int32) (x4 : Int32) (x5 : Int32) (x6 : Int32) (x7 : Int32) (x8 : Int32) (x9 : Int32), kk67 I J x2 x3 x4 x5 x6 x7 x8 x9 = some ρ → V k (wB g I J) 67 [(0, .ref (g.1 0)), (2, .int x2), (3, .int x3), (4, .int x4), (5, .int x5), (6, .int x6), (7, .int x7), (8, .int x8), (9, .int x9)] []) (hk90 : ∀ (I : MI) (J : MJ) (x2 : Int32) (x3 : Int32) (x4 : Int32) (x5 : Int32) (x6 : Int32) (x7 : Int32) (x8 : Int32) (x9 : Int32) (x10 : Int32), kk90 I J x2 x3 x4 x5 x6 x7 x8 x9 x10 = some ρ → V k (wB g I J) 90 [(0, .ref (g.1 0)), (2, .int x2), (3, .int x3), (4, .int x4), (5, .int x5), (6, .int x6), (7, .int x7), (8, .int x8), (9, .int x9), (10, .int x10)] []) : ∀ (I : MI) (J : MJ) (x2 : Int32) (x3 : Int32) (x4 : Int32) (x5 : Int32) (x6 : Int32) (x7 : Int32) (x8 : Int32) (x9 : Int32) (x10 : Int32), LB_X7_tuned_90 kk67 kk90 I J x2 x3 x4 x5 x6 x7 x8 x9 x10 = some ρ → V k (wB g I J) 90 [(0, .ref (g.1 0)), (2, .int x2), (3, .int x3), (4, .int x4), (5, .int x5), (6, .int x6), (7, .int x7), (8, .int x8), (9, .int x9), (10, .int x10)] [] := by
  intro I J x2 x3 x4 x5 x6 x7 x8 x9 x10 hf
  unfold LB_X7_tuned_90 at hf
  refine r_iload C dX7_tuned_90 9 rfl ?_
  refine r_gets C dX7_tuned_92 C.S.2.1 kX7_tuned_3 ?_
  refine r_iconst (v := (4 : Int32)) C dX7_tuned_95 (by decide) ?_
  refine r_tald (j := 4) (f := sMST) C dX7_tuned_96 C.S.2.1 (inb_e (by decide +kernel)) (by decide +kernel) ?_
  refine r_icmp_gt (tgt := 234) C dX7_tuned_97 (by decide) (fun q97 => ?_) (fun q97 => ?_)
  · have hf := itp hf q97
    obtain ⟨v1, ev1⟩ : ∃ z : Int32, z = x9 + (1 : Int32) := ⟨_, rfl⟩
    have hf := bnd_e hf v1 ev1
    refine r_iinc (v := v1) (lv' := [(0, .ref (g.1 0)), (2, .int x2), (3, .int x3), (4, .int x4), (5, .int x5), (6, .int x6), (7, .int x7), (8, .int x8), (9, .int v1), (10, .int x10)]) C dX7_tuned_234 8 rfl (by rw [ev1]; rfl) (by decide) [1, 2, 3, 4, 5, 6, 7, 8, 0, 9] rfl ?_
    refine r_goto (tgt := 67) C dX7_tuned_237 (by decide) ?_
    refine V.loc [0, 1, 2, 3, 4, 5, 6, 7, 8] rfl ?_
    exact hk67 _ _ _ _ _ _ _ _ _ _ hf
  · have hf := itn hf q97
    refine r_aload_n C dX7_tuned_100 rfl 0 rfl ?_
    refine r_get C dX7_tuned_101 kX7_tuned_1 0 bg_0 rfl 2 (by decide) kX7_tuned_0 bv_0_2 ?_
    refine r_iconst (v := (4 : Int32)) C dX7_tuned_104 (by decide) ?_
    refine r_iload C dX7_tuned_105 9 rfl ?_
    obtain ⟨I3, J4, hq2, hf⟩ := bo2_e hf
    refine r_callV (o := none) (w' := (wB g I3 J4)) (As := [.int (4 : Int32), .int x10]) (rest := []) C (c_X1_put rc10 hq2) dX7_tuned_107 gX7_tuned_X1_put rfl rfl rfl hd_X1_put ⟨by decide, by decide⟩ 10 (brg rc10) rfl rfl rfl rfl (Nat.le_of_ble_eq_true rfl) ?_
    refine r_aload_n C dX7_tuned_110 rfl 0 rfl ?_
    refine r_get C dX7_tuned_111 kX7_tuned_1 0 bg_0 rfl 2 (by decide) kX7_tuned_0 bv_0_2 ?_
    obtain ⟨r8, I6, J7, hq5, hf⟩ := bo3_e hf
    refine r_callV (o := some (.int r8)) (w' := (wB g I6 J7)) (As := []) (rest := []) C (c_X1_stalls rc10 hq5) dX7_tuned_114 gX7_tuned_X1_stalls rfl rfl rfl hd_X1_stalls ⟨by decide, by decide⟩ 10 (brg rc10) rfl rfl rfl rfl (Nat.le_of_ble_eq_true rfl) ?_
    refine r_if_eq (tgt := 123) C dX7_tuned_117 (by decide) (fun q117 => ?_) (fun q117 => ?_)
    · have hf := itp hf q117
      refine r_aload_n C dX7_tuned_123 rfl 0 rfl ?_
      refine r_get C dX7_tuned_124 kX7_tuned_1 0 bg_0 rfl 2 (by decide) kX7_tuned_0 bv_0_2 ?_
      obtain ⟨r12, I10, J11, hq9, hf⟩ := bo3_e hf
      refine r_callV (o := some (.int r12)) (w' := (wB g I10 J11)) (As := []) (rest := []) C (c_X1_upAnHour rc10 hq9) dX7_tuned_127 gX7_tuned_X1_upAnHour rfl rfl rfl hd_X1_upAnHour ⟨by decide, by decide⟩ 10 (brg rc10) rfl rfl rfl rfl (Nat.le_of_ble_eq_true rfl) ?_
      refine r_istore (lv' := [(0, .ref (g.1 0)), (2, .int x2), (3, .int x3), (4, .int x4), (5, .int x5), (6, .int x6), (7, .int x7), (8, .int x8), (9, .int x9), (10, .int x10), (11, .int r12)]) C dX7_tuned_130 (by decide) [1, 2, 3, 4, 5, 6, 7, 8, 9, 10, 0] rfl ?_
      refine r_aload_n C dX7_tuned_132 rfl 0 rfl ?_
      refine r_get C dX7_tuned_133 kX7_tuned_1 0 bg_0 rfl 2 (by decide) kX7_tuned_0 bv_0_2 ?_
      obtain ⟨r16, I14, J15, hq13, hf⟩ := bo3_e hf
      refine r_callV (o := some (.int r16)) (w' := (wB g I14 J15)) (As := []) (rest := []) C (c_X1_wasteAnHour rc10 hq13) dX7_tuned_136 gX7_tuned_X1_wasteAnHour rfl rfl rfl hd_X1_wasteAnHour ⟨by decide, by decide⟩ 10 (brg rc10) rfl rfl rfl rfl (Nat.le_of_ble_eq_true rfl) ?_
      refine r_istore (lv' := [(0, .ref (g.1 0)), (2, .int x2), (3, .int x3), (4, .int x4), (5, .int x5), (6, .int x6), (7, .int x7), (8, .int x8), (9, .int x9), (10, .int x10), (11, .int r12), (12, .int r16)]) C dX7_tuned_139 (by decide) [1, 2, 3, 4, 5, 6, 7, 8, 9, 10, 11, 0] rfl ?_
      refine r_iload C dX7_tuned_141 10 rfl ?_
      refine r_if_le (tgt := 228) C dX7_tuned_143 (by decide) (fun q143 => ?_) (fun q143 => ?_)
      · have hf := itp hf q143
        obtain ⟨v17, ev17⟩ : ∃ z : Int32, z = x10 + (5 : Int32) := ⟨_, rfl⟩
        have hf := bnd_e hf v17 ev17
        refine r_iinc (v := v17) (lv' := [(0, .ref (g.1 0)), (2, .int x2), (3, .int x3), (4, .int x4), (5, .int x5), (6, .int x6), (7, .int x7), (8, .int x8), (9, .int x9), (10, .int v17), (11, .int r12), (12, .int r16)]) C dX7_tuned_228 9 rfl (by rw [ev17]; rfl) (by decide) [1, 2, 3, 4, 5, 6, 7, 8, 9, 0, 10, 11] rfl ?_
        refine r_goto (tgt := 90) C dX7_tuned_231 (by decide) ?_
        refine V.loc [0, 1, 2, 3, 4, 5, 6, 7, 8, 9] rfl ?_
        exact hk90 _ _ _ _ _ _ _ _ _ _ _ hf
      · have hf := itn hf q143
        refine r_iload C dX7_tuned_146 10 rfl ?_
        refine r_iload C dX7_tuned_148 11 rfl ?_
        refine r_iadd C dX7_tuned_150 ?_
        refine r_aload_n C dX7_tuned_151 rfl 0 rfl ?_
        refine r_get C dX7_tuned_152 kX7_tuned_1 0 bg_0 rfl 3 (by decide) kX7_tuned_4 bv_0_3 ?_
        refine r_get C dX7_tuned_155 kX7_tuned_6 12 bg_12 rfl 0 (by decide) kX7_tuned_5 bv_12_0 ?_
        refine r_iload_n C dX7_tuned_158 rfl 1 rfl ?_
        obtain ⟨h18, hf⟩ := chk_e hf
        refine r_iald (j := x2.toNatClampNeg) C dX7_tuned_159 13 bg_13 (inb_e h18) rfl ?_
        refine r_icmp_le (tgt := 166) C dX7_tuned_160 (by decide) (fun q160 => ?_) (fun q160 => ?_)
        · have hf := itp hf q160
          refine r_iload C dX7_tuned_166 6 rfl ?_
          refine r_bipush (v := (-9 : Int32)) C dX7_tuned_168 (by decide) ?_
          refine r_icmp_ne (tgt := 177) C dX7_tuned_170 (by decide) (fun q170 => ?_) (fun q170 => ?_)
          · have hf := itn hf q170
            refine r_iload_n C dX7_tuned_177 rfl 2 rfl ?_
            refine r_iload C dX7_tuned_178 10 rfl ?_
            refine r_iload C dX7_tuned_180 11 rfl ?_
            refine r_iload C dX7_tuned_182 6 rfl ?_
            refine r_iload C dX7_tuned_184 7 rfl ?_
            obtain ⟨r20, hq19, hf⟩ := bo1_e hf
            refine r_callS (o := some (.long r20)) (w' := (wB g I14 J15)) (As := [.int x3, .int r12, .int r16, .int x7, .int x8]) (rest := []) C (c_X7_advantage hq19) dX7_tuned_186 gX7_tuned_X7_advantage rfl rfl rfl hd_X7_advantage ⟨by decide, by decide⟩ rfl rfl (Nat.le_of_ble_eq_true rfl) ?_
            exact mB_X7_tuned_189 C hr hk67 hk90 _ _ _ _ _ _ _ _ _ _ _ _ _ _ hf
          · have hf := itp hf q170
            refine r_lconst (v := (1 : Int64)) C dX7_tuned_173 (by decide) ?_
            refine r_goto (tgt := 189) C dX7_tuned_174 (by decide) ?_
            exact mB_X7_tuned_189 C hr hk67 hk90 _ _ _ _ _ _ _ _ _ _ _ _ _ _ hf
        · have hf := itn hf q160
          refine r_goto (tgt := 228) C dX7_tuned_163 (by decide) ?_
          obtain ⟨v21, ev21⟩ : ∃ z : Int32, z = x10 + (5 : Int32) := ⟨_, rfl⟩
          have hf := bnd_e hf v21 ev21
          refine r_iinc (v := v21) (lv' := [(0, .ref (g.1 0)), (2, .int x2), (3, .int x3), (4, .int x4), (5, .int x5), (6, .int x6), (7, .int x7), (8, .int x8), (9, .int x9), (10, .int v21), (11, .int r12), (12, .int r16)]) C dX7_tuned_228 9 rfl (by rw [ev21]; rfl) (by decide) [1, 2, 3, 4, 5, 6, 7, 8, 9, 0, 10, 11] rfl ?_
          refine r_goto (tgt := 90) C dX7_tuned_231 (by decide) ?_
          refine V.loc [0, 1, 2, 3, 4, 5, 6, 7, 8, 9] rfl ?_
          exact hk90 _ _ _ _ _ _ _ _ _ _ _ hf
    · have hf := itn hf q117
      refine r_goto (tgt := 234) C dX7_tuned_120 (by decide) ?_
      obtain ⟨v22, ev22⟩ : ∃ z : Int32, z = x9 + (1 : Int32) := ⟨_, rfl⟩
      have hf := bnd_e hf v22 ev22
      refine r_iinc (v := v22) (lv' := [(0, .ref (g.1 0)), (2, .int x2), (3, .int x3), (4, .int x4), (5, .int x5), (6, .int x6), (7, .int x7), (8, .int x8), (9, .int v22), (10, .int x10)]) C dX7_tuned_234 8 rfl (by rw [ev22]; rfl) (by decide) [1, 2, 3, 4, 5, 6, 7, 8, 0, 9] rfl ?_
      refine r_goto (tgt := 67) C dX7_tuned_237 (by decide) ?_
      refine V.loc [0, 1, 2, 3, 4, 5, 6, 7, 8] rfl ?_
      exact hk67 _ _ _ _ _ _ _ _ _ _ hf
theorem mL_X7_tuned_90 {k : CT} {g : GG} (C : CX k cX7_tuned 15 RX7 wsX7_tuned rmX7_tuned g) {ρ : (Int32 × MI × MJ)} (hr : RTW k wB g cX7_tuned .int ρ) {kk67 : MI → MJ → Int32 → Int32 → Int32 → Int32 → Int32 → Int32 → Int32 → Int32 → Option (Int32 × MI × MJ)} (hk67 : ∀ (I : MI) (J : MJ) (x2 : Int32) (x3 : Int32) (x4 : Int32) (x5 : Int32) (x6 : Int32) (x7 : Int32) (x8 : Int32) (x9 : Int32), kk67 I J x2 x3 x4 x5 x6 x7 x8 x9 = some ρ → V k (wB g I J) 67 [(0, .ref (g.1 0)), (2, .int x2), (3, .int x3), (4, .int x4), (5, .int x5), (6, .int x6), (7, .int x7), (8, .int x8), (9, .int x9)] []) : ∀ (n : Nat) (I : MI) (J : MJ) (x2 : Int32) (x3 : Int32) (x4 : Int32) (x5 : Int32) (x6 : Int32) (x7 : Int32) (x8 : Int32) (x9 : Int32) (x10 : Int32), LP_X7_tuned_90 kk67 n I J x2 x3 x4 x5 x6 x7 x8 x9 x10 = some ρ → V k (wB g I J) 90 [(0, .ref (g.1 0)), (2, .int x2), (3, .int x3), (4, .int x4), (5, .int x5), (6, .int x6), (7, .int x7), (8, .int x8), (9, .int x9), (10, .int x10)] [] := by
  intro n
  induction n with
  | zero => intro I J x2 x3 x4 x5 x6 x7 x8 x9 x10 hf; cases hf
  | succ n ih => intro I J x2 x3 x4 x5 x6 x7 x8 x9 x10 hf; exact mB_X7_tuned_90 C hr hk67 (fun I J x2 x3 x4 x5 x6 x7 x8 x9 x10 h => ih I J x2 x3 x4 x5 x6 x7 x8 x9 x10 h) I J x2 x3 x4 x5 x6 x7 x8 x9 x10 hf
set_option maxRecDepth 100000 in
set_option maxHeartbeats 4000000 in
theorem mB_X7_tuned_67 {k : CT} {g : GG} (C : CX k cX7_tuned 15 RX7 wsX7_tuned rmX7_tuned g) {ρ : (Int32 × MI × MJ)} (hr : RTW k wB g cX7_tuned .int ρ) {kk67 : MI → MJ → Int32 → Int32 → Int32 → Int32 → Int32 → Int32 → Int32 → Int32 → Option (Int32 × MI × MJ)} (hk67 : ∀ (I : MI) (J : MJ) (x2 : Int32) (x3 : Int32) (x4 : Int32) (x5 : Int32) (x6 : Int32) (x7 : Int32) (x8 : Int32) (x9 : Int32), kk67 I J x2 x3 x4 x5 x6 x7 x8 x9 = some ρ → V k (wB g I J) 67 [(0, .ref (g.1 0)), (2, .int x2), (3, .int x3), (4, .int x4), (5, .int x5), (6, .int x6), (7, .int x7), (8, .int x8), (9, .int x9)] []) : ∀ (I : MI) (J : MJ) (x2 : Int32) (x3 : Int32) (x4 : Int32) (x5 : Int32) (x6 : Int32) (x7 : Int32) (x8 : Int32) (x9 : Int32), LB_X7_tuned_67 kk67 I J x2 x3 x4 x5 x6 x7 x8 x9 = some ρ → V k (wB g I J) 67 [(0, .ref (g.1 0)), (2, .int x2), (3, .int x3), (4, .int x4), (5, .int x5), (6, .int x6), (7, .int x7), (8, .int x8), (9, .int x9)] [] := by
  intro I J x2 x3 x4 x5 x6 x7 x8 x9 hf
  unfold LB_X7_tuned_67 at hf
  refine r_iload C dX7_tuned_67 8 rfl ?_
  refine r_gets C dX7_tuned_69 C.S.2.1 kX7_tuned_3 ?_
  refine r_iconst (v := (5 : Int32)) C dX7_tuned_72 (by decide) ?_
  refine r_tald (j := 5) (f := sMST) C dX7_tuned_73 C.S.2.1 (inb_e (by decide +kernel)) (by decide +kernel) ?_
  refine r_icmp_gt (tgt := 240) C dX7_tuned_74 (by decide) (fun q74 => ?_) (fun q74 => ?_)
  · have hf := itp hf q74
    refine r_iload C dX7_tuned_240 3 rfl ?_
    refine r_if_ne (tgt := 250) C dX7_tuned_242 (by decide) (fun q242 => ?_) (fun q242 => ?_)
    · have hf := itn hf q242
      refine r_iload C dX7_tuned_250 3 rfl ?_
      refine r_iconst (v := (1 : Int32)) C dX7_tuned_252 (by decide) ?_
      refine r_icmp_ne (tgt := 261) C dX7_tuned_253 (by decide) (fun q253 => ?_) (fun q253 => ?_)
      · have hf := itn hf q253
        refine r_iload C dX7_tuned_261 6 rfl ?_
        exact hr _ _ _ _ _ dX7_tuned_263 rfl hf
      · have hf := itp hf q253
        refine r_iload C dX7_tuned_256 5 rfl ?_
        refine r_goto (tgt := 263) C dX7_tuned_258 (by decide) ?_
        exact hr _ _ _ _ _ dX7_tuned_263 rfl hf
    · have hf := itp hf q242
      refine r_iload C dX7_tuned_245 4 rfl ?_
      refine r_goto (tgt := 263) C dX7_tuned_247 (by decide) ?_
      exact hr _ _ _ _ _ dX7_tuned_263 rfl hf
  · have hf := itn hf q74
    refine r_aload_n C dX7_tuned_77 rfl 0 rfl ?_
    refine r_get C dX7_tuned_78 kX7_tuned_1 0 bg_0 rfl 2 (by decide) kX7_tuned_0 bv_0_2 ?_
    refine r_iconst (v := (5 : Int32)) C dX7_tuned_81 (by decide) ?_
    refine r_iload C dX7_tuned_82 8 rfl ?_
    obtain ⟨I2, J3, hq1, hf⟩ := bo2_e hf
    refine r_callV (o := none) (w' := (wB g I2 J3)) (As := [.int (5 : Int32), .int x9]) (rest := []) C (c_X1_put rc10 hq1) dX7_tuned_84 gX7_tuned_X1_put rfl rfl rfl hd_X1_put ⟨by decide, by decide⟩ 10 (brg rc10) rfl rfl rfl rfl (Nat.le_of_ble_eq_true rfl) ?_
    refine r_iconst (v := (5 : Int32)) C dX7_tuned_87 (by decide) ?_
    refine r_istore (lv' := [(0, .ref (g.1 0)), (2, .int x2), (3, .int x3), (4, .int x4), (5, .int x5), (6, .int x6), (7, .int x7), (8, .int x8), (9, .int x9), (10, .int (5 : Int32))]) C dX7_tuned_88 (by decide) [1, 2, 3, 4, 5, 6, 7, 8, 9, 0] rfl ?_
    exact mL_X7_tuned_90 C hr hk67 FU _ _ _ _ _ _ _ _ _ _ _ hf
theorem mL_X7_tuned_67 {k : CT} {g : GG} (C : CX k cX7_tuned 15 RX7 wsX7_tuned rmX7_tuned g) {ρ : (Int32 × MI × MJ)} (hr : RTW k wB g cX7_tuned .int ρ) : ∀ (n : Nat) (I : MI) (J : MJ) (x2 : Int32) (x3 : Int32) (x4 : Int32) (x5 : Int32) (x6 : Int32) (x7 : Int32) (x8 : Int32) (x9 : Int32), LP_X7_tuned_67 n I J x2 x3 x4 x5 x6 x7 x8 x9 = some ρ → V k (wB g I J) 67 [(0, .ref (g.1 0)), (2, .int x2), (3, .int x3), (4, .int x4), (5, .int x5), (6, .int x6), (7, .int x7), (8, .int x8), (9, .int x9)] [] := by
  intro n
  induction n with
  | zero => intro I J x2 x3 x4 x5 x6 x7 x8 x9 hf; cases hf
  | succ n ih => intro I J x2 x3 x4 x5 x6 x7 x8 x9 hf; exact mB_X7_tuned_67 C hr (fun I J x2 x3 x4 x5 x6 x7 x8 x9 h => ih I J x2 x3 x4 x5 x6 x7 x8 x9 h) I J x2 x3 x4 x5 x6 x7 x8 x9 hf
set_option maxRecDepth 100000 in
set_option maxHeartbeats 4000000 in
theorem c_X7_tuned {l : Launch} {D : va_G} {g : GG} {I : MI} {J : MJ} {a1 : Int32} {a2 : Int32} {a3 : Int32} {a4 : Int32} {r : Int32} {I' : MI} {J' : MJ} (hf : f_X7_tuned I J a1 a2 a3 a4 = some (r, I', J')) : CON l yX7_tuned wsX7_tuned rmX7_tuned D g (wB g I J) [.ref (g.1 0), .int a1, .int a2, .int a3, .int a4] (some (.int r)) (wB g I' J') := by
  refine con_of (cc := cX7_tuned) (maxL := 15) (ret := (some .int)) (by decide) rfl (Nat.le_of_ble_eq_true rfl) rfl rfl ?_
  intro k C hkl hkD h1 h2 h3
  subst hkl; subst hkD
  have hr : RTW k wB g cX7_tuned .int (r, I', J') := rtw_of h2
  unfold f_X7_tuned at hf
  refine V.loc (lv' := [(0, .ref (g.1 0)), (1, .int a1), (2, .int a2), (3, .int a3), (4, .int a4)]) [0, 1, 2, 3, 4] rfl ?_
  refine r_aload_n C dX7_tuned_0 rfl 0 rfl ?_
  refine r_iload_n C dX7_tuned_1 rfl 1 rfl ?_
  obtain ⟨r2, hq1, hf⟩ := bo1_e hf
  refine r_callV (o := some (.int r2)) (w' := (wB g I J)) (As := [.int a1]) (rest := []) C (c_X7_isRam hq1) dX7_tuned_2 gX7_tuned_X7_isRam rfl rfl rfl hd_X7_isRam ⟨by decide, by decide⟩ 0 bg_0 rfl rfl rfl rfl (Nat.le_of_ble_eq_true rfl) ?_
  refine r_if_eq (tgt := 34) C dX7_tuned_5 (by decide) (fun q5 => ?_) (fun q5 => ?_)
  · have hf := itp hf q5
    refine r_iconst (v := (-1 : Int32)) C dX7_tuned_34 (by decide) ?_
    exact hr _ _ _ _ _ dX7_tuned_35 rfl hf
  · have hf := itn hf q5
    refine r_iload_n C dX7_tuned_8 rfl 2 rfl ?_
    obtain ⟨r4, hq3, hf⟩ := bo1_e hf
    refine r_callS (o := some (.int r4)) (w' := (wB g I J)) (As := [.int a2]) (rest := []) C (c_X7_isMonth hq3) dX7_tuned_9 gX7_tuned_X7_isMonth rfl rfl rfl hd_X7_isMonth ⟨by decide, by decide⟩ rfl rfl (Nat.le_of_ble_eq_true rfl) ?_
    refine r_if_eq (tgt := 34) C dX7_tuned_12 (by decide) (fun q12 => ?_) (fun q12 => ?_)
    · have hf := itp hf q12
      refine r_iconst (v := (-1 : Int32)) C dX7_tuned_34 (by decide) ?_
      exact hr _ _ _ _ _ dX7_tuned_35 rfl hf
    · have hf := itn hf q12
      refine r_iload_n C dX7_tuned_15 rfl 3 rfl ?_
      refine r_iconst (v := (0 : Int32)) C dX7_tuned_16 (by decide) ?_
      refine r_iconst (v := (1 : Int32)) C dX7_tuned_17 (by decide) ?_
      obtain ⟨r6, hq5, hf⟩ := bo1_e hf
      refine r_callS (o := some (.int r6)) (w' := (wB g I J)) (As := [.int a3, .int (0 : Int32), .int (1 : Int32)]) (rest := []) C (c_X7_within hq5) dX7_tuned_18 gX7_tuned_X7_within rfl rfl rfl hd_X7_within ⟨by decide, by decide⟩ rfl rfl (Nat.le_of_ble_eq_true rfl) ?_
      refine r_if_eq (tgt := 34) C dX7_tuned_21 (by decide) (fun q21 => ?_) (fun q21 => ?_)
      · have hf := itp hf q21
        refine r_iconst (v := (-1 : Int32)) C dX7_tuned_34 (by decide) ?_
        exact hr _ _ _ _ _ dX7_tuned_35 rfl hf
      · have hf := itn hf q21
        refine r_iload C dX7_tuned_24 4 rfl ?_
        refine r_iconst (v := (0 : Int32)) C dX7_tuned_26 (by decide) ?_
        refine r_iconst (v := (2 : Int32)) C dX7_tuned_27 (by decide) ?_
        obtain ⟨r8, hq7, hf⟩ := bo1_e hf
        refine r_callS (o := some (.int r8)) (w' := (wB g I J)) (As := [.int a4, .int (0 : Int32), .int (2 : Int32)]) (rest := []) C (c_X7_within hq7) dX7_tuned_28 gX7_tuned_X7_within rfl rfl rfl hd_X7_within ⟨by decide, by decide⟩ rfl rfl (Nat.le_of_ble_eq_true rfl) ?_
        refine r_if_ne (tgt := 36) C dX7_tuned_31 (by decide) (fun q31 => ?_) (fun q31 => ?_)
        · have hf := itn hf q31
          refine r_aload_n C dX7_tuned_36 rfl 0 rfl ?_
          refine r_get C dX7_tuned_37 kX7_tuned_1 0 bg_0 rfl 2 (by decide) kX7_tuned_0 bv_0_2 ?_
          refine r_aload_n C dX7_tuned_40 rfl 0 rfl ?_
          refine r_get C dX7_tuned_41 kX7_tuned_1 0 bg_0 rfl 0 (by decide) kX7_tuned_2 bv_0_0 ?_
          refine r_iload_n C dX7_tuned_44 rfl 1 rfl ?_
          obtain ⟨h9, hf⟩ := chk_e hf
          refine r_aald C dX7_tuned_45 1 bg_1 (inb_e h9) rfl ?_
          obtain ⟨I11, J12, hq10, hf⟩ := bo2_e hf
          refine r_callV (o := none) (w' := (wB g I11 J12)) (As := [.ref (g.1 (rc a1))]) (rest := []) C (c_X1_becomeLike rc10 (rc_of (inb_e h9)) hq10) dX7_tuned_46 gX7_tuned_X1_becomeLike rfl rfl rfl hd_X1_becomeLike ⟨by decide, by decide⟩ 10 (brg rc10) rfl rfl rfl rfl (Nat.le_of_ble_eq_true rfl) ?_
          refine r_bipush (v := (-9 : Int32)) C dX7_tuned_49 (by decide) ?_
          refine r_istore (lv' := [(0, .ref (g.1 0)), (1, .int a1), (2, .int a2), (3, .int a3), (4, .int a4), (5, .int (-9 : Int32))]) C dX7_tuned_51 (by decide) [1, 2, 3, 4, 5, 0] rfl ?_
          refine r_bipush (v := (-9 : Int32)) C dX7_tuned_53 (by decide) ?_
          refine r_istore (lv' := [(0, .ref (g.1 0)), (1, .int a1), (2, .int a2), (3, .int a3), (4, .int a4), (5, .int (-9 : Int32)), (6, .int (-9 : Int32))]) C dX7_tuned_55 (by decide) [1, 2, 3, 4, 5, 6, 0] rfl ?_
          refine r_bipush (v := (-9 : Int32)) C dX7_tuned_57 (by decide) ?_
          refine r_istore (lv' := [(0, .ref (g.1 0)), (1, .int a1), (2, .int a2), (3, .int a3), (4, .int a4), (5, .int (-9 : Int32)), (6, .int (-9 : Int32)), (7, .int (-9 : Int32))]) C dX7_tuned_59 (by decide) [1, 2, 3, 4, 5, 6, 7, 0] rfl ?_
          refine r_iconst (v := (0 : Int32)) C dX7_tuned_61 (by decide) ?_
          refine r_istore (lv' := [(0, .ref (g.1 0)), (1, .int a1), (2, .int a2), (3, .int a3), (4, .int a4), (5, .int (-9 : Int32)), (6, .int (-9 : Int32)), (7, .int (-9 : Int32)), (8, .int (0 : Int32))]) C dX7_tuned_62 (by decide) [1, 2, 3, 4, 5, 6, 7, 8, 0] rfl ?_
          refine r_iconst (v := (1 : Int32)) C dX7_tuned_64 (by decide) ?_
          refine r_istore (lv' := [(0, .ref (g.1 0)), (1, .int a1), (2, .int a2), (3, .int a3), (4, .int a4), (5, .int (-9 : Int32)), (6, .int (-9 : Int32)), (7, .int (-9 : Int32)), (8, .int (0 : Int32)), (9, .int (1 : Int32))]) C dX7_tuned_65 (by decide) [1, 2, 3, 4, 5, 6, 7, 8, 9, 0] rfl ?_
          refine V.loc [0, 2, 3, 4, 5, 6, 7, 8, 9] rfl ?_
          exact mL_X7_tuned_67 C hr FU _ _ _ _ _ _ _ _ _ _ hf
        · have hf := itp hf q31
          refine r_iconst (v := (-1 : Int32)) C dX7_tuned_34 (by decide) ?_
          exact hr _ _ _ _ _ dX7_tuned_35 rfl hf
abbrev rmX6_keep : Room := { frames := 0, cells := 0, slots := 0, locals := 0 }
theorem hd_X6_keep : yX6_keep.cls = RX6 ∧ yX6_keep.cls ≠ "java/lang/invoke/MethodHandle" ∧ yX6_keep.cls ≠ "java/lang/invoke/VarHandle" ∧ (parseMethodDescriptor yX6_keep.desc).map (fun d => d.parameters.length) = some 2 := by decide +kernel
theorem kX6_keep_0 : Cond.fieldLink RX6 18 (TX6 2).1 (TX6 2).2.1 (TX6 2).2.2.1 ∈ wsX6_keep := by decide +kernel
theorem kX6_keep_1 : ∀ w ∈ u_ws RX6 TX6 7, w ∈ wsX6_keep := by decide +kernel
theorem kX6_keep_2 : Cond.fieldLink RX6 11 (TX6 0).1 (TX6 0).2.1 (TX6 0).2.2.1 ∈ wsX6_keep := by decide +kernel
theorem kX6_keep_3 : Cond.fieldLink RX6 15 (TX6 1).1 (TX6 1).2.1 (TX6 1).2.2.1 ∈ wsX6_keep := by decide +kernel
set_option maxRecDepth 100000 in
set_option maxHeartbeats 4000000 in
theorem c_X6_keep {l : Launch} {D : va_G} {g : GG} {I : MI} {J : MJ} {a1 : Int32} {a2 : Int32} {r : Int32} {I' : MI} {J' : MJ} (hf : f_X6_keep I J a1 a2 = some (r, I', J')) : CON l yX6_keep wsX6_keep rmX6_keep D g (wB g I J) [.ref (g.1 15), .int a1, .int a2] (some (.int r)) (wB g I' J') := by
  refine con_of (cc := cX6_keep) (maxL := 3) (ret := (some .int)) (by decide) rfl (Nat.le_of_ble_eq_true rfl) rfl rfl ?_
  intro k C hkl hkD h1 h2 h3
  subst hkl; subst hkD
  have hr : RTW k wB g cX6_keep .int (r, I', J') := rtw_of h2
  unfold f_X6_keep at hf
  refine V.loc (lv' := [(0, .ref (g.1 15)), (1, .int a1), (2, .int a2)]) [0, 1, 2] rfl ?_
  refine r_aload_n C dX6_keep_0 rfl 0 rfl ?_
  refine r_get C dX6_keep_1 kX6_keep_1 15 bg_15 rfl 2 (by decide) kX6_keep_0 bv_15_2 ?_
  refine r_bipush (v := (6 : Int32)) C dX6_keep_4 (by decide) ?_
  refine r_icmp_lt (tgt := 12) C dX6_keep_6 (by decide) (fun q6 => ?_) (fun q6 => ?_)
  · have hf := itp hf q6
    refine r_aload_n C dX6_keep_12 rfl 0 rfl ?_
    refine r_get C dX6_keep_13 kX6_keep_1 15 bg_15 rfl 0 (by decide) kX6_keep_2 bv_15_0 ?_
    refine r_aload_n C dX6_keep_16 rfl 0 rfl ?_
    refine r_get C dX6_keep_17 kX6_keep_1 15 bg_15 rfl 2 (by decide) kX6_keep_0 bv_15_2 ?_
    refine r_iload_n C dX6_keep_20 rfl 1 rfl ?_
    obtain ⟨h1, hf⟩ := chk_e hf
    refine r_iast (j := (I 15 2).toNatClampNeg) C dX6_keep_21 16 bg_16 (inb_e h1) rfl ba_16 ?_
    refine nmIB (fun I2 eI2 => ?_)
    have hf := bnd_e hf I2 eI2
    refine r_aload_n C dX6_keep_22 rfl 0 rfl ?_
    refine r_get C dX6_keep_23 kX6_keep_1 15 bg_15 rfl 1 (by decide) kX6_keep_3 bv_15_1 ?_
    refine r_aload_n C dX6_keep_26 rfl 0 rfl ?_
    refine r_get C dX6_keep_27 kX6_keep_1 15 bg_15 rfl 2 (by decide) kX6_keep_0 bv_15_2 ?_
    refine r_iload_n C dX6_keep_30 rfl 2 rfl ?_
    obtain ⟨h3, hf⟩ := chk_e hf
    refine r_iast (j := (I2 15 2).toNatClampNeg) C dX6_keep_31 17 bg_17 (inb_e h3) rfl ba_17 ?_
    refine nmIB (fun I4 eI4 => ?_)
    have hf := bnd_e hf I4 eI4
    refine r_aload_n C dX6_keep_32 rfl 0 rfl ?_
    refine r_dup C dX6_keep_33 rfl ?_
    refine r_get C dX6_keep_34 kX6_keep_1 15 bg_15 rfl 2 (by decide) kX6_keep_0 bv_15_2 ?_
    refine r_iconst (v := (1 : Int32)) C dX6_keep_37 (by decide) ?_
    refine r_iadd C dX6_keep_38 ?_
    refine r_put (ty := .int) C dX6_keep_39 kX6_keep_1 tyX6 tyX6_ok nmX6 15 bg_15 rfl 2 (by decide) kX6_keep_0 rfl rfl rfl rfl (Nat.le_of_ble_eq_true rfl) bs_15_2 ?_
    refine nmIB (fun I5 eI5 => ?_)
    have hf := bnd_e hf I5 eI5
    refine r_aload_n C dX6_keep_42 rfl 0 rfl ?_
    refine r_get C dX6_keep_43 kX6_keep_1 15 bg_15 rfl 2 (by decide) kX6_keep_0 bv_15_2 ?_
    refine r_iconst (v := (1 : Int32)) C dX6_keep_46 (by decide) ?_
    refine r_isub C dX6_keep_47 ?_
    exact hr _ _ _ _ _ dX6_keep_48 rfl hf
  · have hf := itn hf q6
    refine r_bipush (v := (-3 : Int32)) C dX6_keep_9 (by decide) ?_
    exact hr _ _ _ _ _ dX6_keep_11 rfl hf
abbrev rmX7_tune : Room := { frames := 2, cells := 0, slots := 0, locals := 43 }
theorem hd_X7_tune : yX7_tune.cls = RX7 ∧ yX7_tune.cls ≠ "java/lang/invoke/MethodHandle" ∧ yX7_tune.cls ≠ "java/lang/invoke/VarHandle" ∧ (parseMethodDescriptor yX7_tune.desc).map (fun d => d.parameters.length) = some 2 := by decide +kernel
theorem kX7_tune_0 : Cond.fieldLink RX7 34 (TX7 4).1 (TX7 4).2.1 (TX7 4).2.2.1 ∈ wsX7_tune := by decide +kernel
theorem kX7_tune_1 : ∀ w ∈ u_ws RX7 TX7 13, w ∈ wsX7_tune := by decide +kernel
set_option maxRecDepth 100000 in
set_option maxHeartbeats 4000000 in
theorem c_X7_tune {l : Launch} {D : va_G} {g : GG} {I : MI} {J : MJ} {a1 : Int32} {a2 : Int32} {r : Int32} {I' : MI} {J' : MJ} (hf : f_X7_tune I J a1 a2 = some (r, I', J')) : CON l yX7_tune wsX7_tune rmX7_tune D g (wB g I J) [.ref (g.1 0), .int a1, .int a2] (some (.int r)) (wB g I' J') := by
  refine con_of (cc := cX7_tune) (maxL := 3) (ret := (some .int)) (by decide) rfl (Nat.le_of_ble_eq_true rfl) rfl rfl ?_
  intro k C hkl hkD h1 h2 h3
  subst hkl; subst hkD
  have hr : RTW k wB g cX7_tune .int (r, I', J') := rtw_of h2
  unfold f_X7_tune at hf
  refine V.loc (lv' := [(0, .ref (g.1 0)), (1, .int a1), (2, .int a2)]) [0, 1, 2] rfl ?_
  refine r_iconst (v := (4 : Int32)) C dX7_tune_0 (by decide) ?_
  refine r_iload_n C dX7_tune_1 rfl 1 rfl ?_
  obtain ⟨r2, hq1, hf⟩ := bo1_e hf
  refine r_callS (o := some (.int r2)) (w' := (wB g I J)) (As := [.int (4 : Int32), .int a1]) (rest := []) C (c_X7_canBe hq1) dX7_tune_2 gX7_tune_X7_canBe rfl rfl rfl hd_X7_canBe ⟨by decide, by decide⟩ rfl rfl (Nat.le_of_ble_eq_true rfl) ?_
  refine r_if_eq (tgt := 16) C dX7_tune_5 (by decide) (fun q5 => ?_) (fun q5 => ?_)
  · have hf := itp hf q5
    refine r_iconst (v := (-1 : Int32)) C dX7_tune_16 (by decide) ?_
    exact hr _ _ _ _ _ dX7_tune_17 rfl hf
  · have hf := itn hf q5
    refine r_iconst (v := (5 : Int32)) C dX7_tune_8 (by decide) ?_
    refine r_iload_n C dX7_tune_9 rfl 2 rfl ?_
    obtain ⟨r4, hq3, hf⟩ := bo1_e hf
    refine r_callS (o := some (.int r4)) (w' := (wB g I J)) (As := [.int (5 : Int32), .int a2]) (rest := []) C (c_X7_canBe hq3) dX7_tune_10 gX7_tune_X7_canBe rfl rfl rfl hd_X7_canBe ⟨by decide, by decide⟩ rfl rfl (Nat.le_of_ble_eq_true rfl) ?_
    refine r_if_ne (tgt := 18) C dX7_tune_13 (by decide) (fun q13 => ?_) (fun q13 => ?_)
    · have hf := itn hf q13
      refine r_aload_n C dX7_tune_18 rfl 0 rfl ?_
      refine r_get C dX7_tune_19 kX7_tune_1 0 bg_0 rfl 4 (by decide) kX7_tune_0 bv_0_4 ?_
      refine r_iload_n C dX7_tune_22 rfl 1 rfl ?_
      refine r_iload_n C dX7_tune_23 rfl 2 rfl ?_
      obtain ⟨r8, I6, J7, hq5, hf⟩ := bo3_e hf
      refine r_callV (o := some (.int r8)) (w' := (wB g I6 J7)) (As := [.int a1, .int a2]) (rest := []) C (c_X6_keep hq5) dX7_tune_24 gX7_tune_X6_keep rfl rfl rfl hd_X6_keep ⟨by decide, by decide⟩ 15 bg_15 rfl rfl rfl rfl (Nat.le_of_ble_eq_true rfl) ?_
      exact hr _ _ _ _ _ dX7_tune_27 rfl hf
    · have hf := itp hf q13
      refine r_iconst (v := (-1 : Int32)) C dX7_tune_16 (by decide) ?_
      exact hr _ _ _ _ _ dX7_tune_17 rfl hf
abbrev rmX7_forget : Room := { frames := 0, cells := 0, slots := 0, locals := 0 }
theorem hd_X7_forget : yX7_forget.cls = RX7 ∧ yX7_forget.cls ≠ "java/lang/invoke/MethodHandle" ∧ yX7_forget.cls ≠ "java/lang/invoke/VarHandle" ∧ (parseMethodDescriptor yX7_forget.desc).map (fun d => d.parameters.length) = some 0 := by decide +kernel
theorem kX7_forget_0 : Cond.fieldLink RX7 34 (TX7 4).1 (TX7 4).2.1 (TX7 4).2.2.1 ∈ wsX7_forget := by decide +kernel
theorem kX7_forget_1 : ∀ w ∈ u_ws RX7 TX7 13, w ∈ wsX7_forget := by decide +kernel
theorem kX7_forget_2 : Cond.fieldLink RX7 160 (TX6 2).1 (TX6 2).2.1 (TX6 2).2.2.1 ∈ wsX7_forget := by decide +kernel
theorem kX7_forget_3 : ∀ w ∈ u_ws RX6 TX6 7, w ∈ wsX7_forget := by decide +kernel
set_option maxRecDepth 100000 in
set_option maxHeartbeats 4000000 in
theorem c_X7_forget {l : Launch} {D : va_G} {g : GG} {I : MI} {J : MJ} {r : Int32} {I' : MI} {J' : MJ} (hf : f_X7_forget I J = some (r, I', J')) : CON l yX7_forget wsX7_forget rmX7_forget D g (wB g I J) [.ref (g.1 0)] (some (.int r)) (wB g I' J') := by
  refine con_of (cc := cX7_forget) (maxL := 2) (ret := (some .int)) (by decide) rfl (Nat.le_of_ble_eq_true rfl) rfl rfl ?_
  intro k C hkl hkD h1 h2 h3
  subst hkl; subst hkD
  have hr : RTW k wB g cX7_forget .int (r, I', J') := rtw_of h2
  unfold f_X7_forget at hf
  refine V.loc (lv' := [(0, .ref (g.1 0))]) [0] rfl ?_
  refine r_aload_n C dX7_forget_0 rfl 0 rfl ?_
  refine r_get C dX7_forget_1 kX7_forget_1 0 bg_0 rfl 4 (by decide) kX7_forget_0 bv_0_4 ?_
  refine r_get C dX7_forget_4 kX7_forget_3 15 bg_15 rfl 2 (by decide) kX7_forget_2 bv_15_2 ?_
  refine r_nmi (fun v1 ev1 => ?_)
  have hf := bnd_e hf v1 ev1
  refine r_istore_n (lv' := [(0, .ref (g.1 0)), (1, .int v1)]) C dX7_forget_7 rfl (by decide) [1, 0] rfl ?_
  refine r_aload_n C dX7_forget_8 rfl 0 rfl ?_
  refine r_get C dX7_forget_9 kX7_forget_1 0 bg_0 rfl 4 (by decide) kX7_forget_0 bv_0_4 ?_
  refine r_iconst (v := (0 : Int32)) C dX7_forget_12 (by decide) ?_
  refine r_put (ty := .int) C dX7_forget_13 kX7_forget_3 tyX6 tyX6_ok nmX6 15 bg_15 rfl 2 (by decide) kX7_forget_2 rfl rfl rfl rfl (Nat.le_of_ble_eq_true rfl) bs_15_2 ?_
  refine nmIB (fun I2 eI2 => ?_)
  have hf := bnd_e hf I2 eI2
  refine r_iload_n C dX7_forget_16 rfl 1 rfl ?_
  exact hr _ _ _ _ _ dX7_forget_17 rfl hf
abbrev rmX6_tryOn : Room := { frames := 5, cells := 0, slots := 0, locals := 113 }
theorem hd_X6_tryOn : yX6_tryOn.cls = RX6 ∧ yX6_tryOn.cls ≠ "java/lang/invoke/MethodHandle" ∧ yX6_tryOn.cls ≠ "java/lang/invoke/VarHandle" ∧ (parseMethodDescriptor yX6_tryOn.desc).map (fun d => d.parameters.length) = some 2 := by decide +kernel
theorem kX6_tryOn_0 : Cond.fieldLink RX6 18 (TX6 2).1 (TX6 2).2.1 (TX6 2).2.2.1 ∈ wsX6_tryOn := by decide +kernel
theorem kX6_tryOn_1 : ∀ w ∈ u_ws RX6 TX6 7, w ∈ wsX6_tryOn := by decide +kernel
theorem kX6_tryOn_2 : Cond.fieldLink RX6 11 (TX6 0).1 (TX6 0).2.1 (TX6 0).2.2.1 ∈ wsX6_tryOn := by decide +kernel
theorem kX6_tryOn_3 : Cond.fieldLink RX6 15 (TX6 1).1 (TX6 1).2.1 (TX6 1).2.2.1 ∈ wsX6_tryOn := by decide +kernel
theorem kX6_tryOn_4 : Cond.fieldLink RX6 22 (TX6 3).1 (TX6 3).2.1 (TX6 3).2.2.1 ∈ wsX6_tryOn := by decide +kernel
theorem kX6_tryOn_5 : Cond.fieldLink RX6 25 (TX6 4).1 (TX6 4).2.1 (TX6 4).2.2.1 ∈ wsX6_tryOn := by decide +kernel
set_option maxRecDepth 100000 in
set_option maxHeartbeats 4000000 in
theorem mB_X6_tryOn_67 {k : CT} {g : GG} (C : CX k cX6_tryOn 5 RX6 wsX6_tryOn rmX6_tryOn g) {ρ : (MI × MJ)} (hr : RTV k wB g cX6_tryOn ρ) {kk8 : MI → MJ → Nat → Int32 → Int32 → Option (MI × MJ)} (hk8 : ∀ (I : MI) (J : MJ) (c2 : Nat) (x3 : Int32) (x4 : Int32), RC c2 → kk8 I J c2 x3 x4 = some ρ → V k (wB g I J) 8 [(0, .ref (g.1 15)), (2, .ref (g.1 c2)), (3, .int x3), (4, .int x4)] []) : ∀ (I : MI) (J : MJ) (c2 : Nat) (x3 : Int32) (x4 : Int32) (s1 : Int32) (s2 : Int32), RC c2 → LB_X6_tryOn_67 kk8 I J c2 x3 x4 s1 s2 = some ρ → V k (wB g I J) 67 [(0, .ref (g.1 15)), (2, .ref (g.1 c2)), (3, .int x3), (4, .int x4)] [.int s2, .int s1, .ref (g.1 18)] := by
  intro I J c2 x3 x4 s1 s2 hc2 hf
  unfold LB_X6_tryOn_67 at hf
  obtain ⟨h1, hf⟩ := chk_e hf
  refine r_iast (j := s1.toNatClampNeg) C dX6_tryOn_67 18 bg_18 (inb_e h1) rfl ba_18 ?_
  refine nmIB (fun I2 eI2 => ?_)
  have hf := bnd_e hf I2 eI2
  refine r_aload_n C dX6_tryOn_68 rfl 0 rfl ?_
  refine r_get C dX6_tryOn_69 kX6_tryOn_1 15 bg_15 rfl 4 (by decide) kX6_tryOn_5 bv_15_4 ?_
  refine r_iload_n C dX6_tryOn_72 rfl 2 rfl ?_
  refine r_iload C dX6_tryOn_73 3 rfl ?_
  refine r_iadd C dX6_tryOn_75 ?_
  refine r_iconst (v := (1 : Int32)) C dX6_tryOn_76 (by decide) ?_
  refine r_iadd C dX6_tryOn_77 ?_
  refine r_aload_n C dX6_tryOn_78 rfl 1 rfl ?_
  obtain ⟨r6, I4, J5, hq3, hf⟩ := bo3_e hf
  refine r_callV (o := some (.int r6)) (w' := (wB g I4 J5)) (As := []) (rest := [.int ((x3 + x4) + (1 : Int32)), .ref (g.1 19)]) C (c_X1_upAnHour hc2 hq3) dX6_tryOn_79 gX6_tryOn_X1_upAnHour rfl rfl rfl hd_X1_upAnHour ⟨by decide, by decide⟩ c2 (brg hc2) rfl rfl rfl rfl (Nat.le_of_ble_eq_true rfl) ?_
  obtain ⟨h7, hf⟩ := chk_e hf
  refine r_iast (j := ((x3 + x4) + (1 : Int32)).toNatClampNeg) C dX6_tryOn_82 19 bg_19 (inb_e h7) rfl ba_19 ?_
  refine nmIB (fun I8 eI8 => ?_)
  have hf := bnd_e hf I8 eI8
  obtain ⟨v9, ev9⟩ : ∃ z : Int32, z = x4 + (1 : Int32) := ⟨_, rfl⟩
  have hf := bnd_e hf v9 ev9
  refine r_iinc (v := v9) (lv' := [(0, .ref (g.1 15)), (2, .ref (g.1 c2)), (3, .int x3), (4, .int v9)]) C dX6_tryOn_83 3 rfl (by rw [ev9]; rfl) (by decide) [1, 2, 3, 0] rfl ?_
  refine r_goto (tgt := 8) C dX6_tryOn_86 (by decide) ?_
  exact hk8 _ _ _ _ _ hc2 hf
set_option maxRecDepth 100000 in
set_option maxHeartbeats 4000000 in
theorem mB_X6_tryOn_8 {k : CT} {g : GG} (C : CX k cX6_tryOn 5 RX6 wsX6_tryOn rmX6_tryOn g) {ρ : (MI × MJ)} (hr : RTV k wB g cX6_tryOn ρ) {kk8 : MI → MJ → Nat → Int32 → Int32 → Option (MI × MJ)} (hk8 : ∀ (I : MI) (J : MJ) (c2 : Nat) (x3 : Int32) (x4 : Int32), RC c2 → kk8 I J c2 x3 x4 = some ρ → V k (wB g I J) 8 [(0, .ref (g.1 15)), (2, .ref (g.1 c2)), (3, .int x3), (4, .int x4)] []) : ∀ (I : MI) (J : MJ) (c2 : Nat) (x3 : Int32) (x4 : Int32), RC c2 → LB_X6_tryOn_8 kk8 I J c2 x3 x4 = some ρ → V k (wB g I J) 8 [(0, .ref (g.1 15)), (2, .ref (g.1 c2)), (3, .int x3), (4, .int x4)] [] := by
  intro I J c2 x3 x4 hc2 hf
  unfold LB_X6_tryOn_8 at hf
  refine r_iload C dX6_tryOn_8 3 rfl ?_
  refine r_aload_n C dX6_tryOn_10 rfl 0 rfl ?_
  refine r_get C dX6_tryOn_11 kX6_tryOn_1 15 bg_15 rfl 2 (by decide) kX6_tryOn_0 bv_15_2 ?_
  refine r_icmp_ge (tgt := 89) C dX6_tryOn_14 (by decide) (fun q14 => ?_) (fun q14 => ?_)
  · have hf := itp hf q14
    exact hr _ _ _ _ dX6_tryOn_89 hf
  · have hf := itn hf q14
    refine r_aload_n C dX6_tryOn_17 rfl 1 rfl ?_
    refine r_iconst (v := (4 : Int32)) C dX6_tryOn_18 (by decide) ?_
    refine r_aload_n C dX6_tryOn_19 rfl 0 rfl ?_
    refine r_get C dX6_tryOn_20 kX6_tryOn_1 15 bg_15 rfl 0 (by decide) kX6_tryOn_2 bv_15_0 ?_
    refine r_iload C dX6_tryOn_23 3 rfl ?_
    obtain ⟨h1, hf⟩ := chk_e hf
    refine r_iald (j := x4.toNatClampNeg) C dX6_tryOn_25 16 bg_16 (inb_e h1) rfl ?_
    obtain ⟨I3, J4, hq2, hf⟩ := bo2_e hf
    refine r_callV (o := none) (w' := (wB g I3 J4)) (As := [.int (4 : Int32), .int (I 16 x4.toNatClampNeg)]) (rest := []) C (c_X1_put hc2 hq2) dX6_tryOn_26 gX6_tryOn_X1_put rfl rfl rfl hd_X1_put ⟨by decide, by decide⟩ c2 (brg hc2) rfl rfl rfl rfl (Nat.le_of_ble_eq_true rfl) ?_
    refine r_aload_n C dX6_tryOn_29 rfl 1 rfl ?_
    refine r_iconst (v := (5 : Int32)) C dX6_tryOn_30 (by decide) ?_
    refine r_aload_n C dX6_tryOn_31 rfl 0 rfl ?_
    refine r_get C dX6_tryOn_32 kX6_tryOn_1 15 bg_15 rfl 1 (by decide) kX6_tryOn_3 bv_15_1 ?_
    refine r_iload C dX6_tryOn_35 3 rfl ?_
    obtain ⟨h5, hf⟩ := chk_e hf
    refine r_iald (j := x4.toNatClampNeg) C dX6_tryOn_37 17 bg_17 (inb_e h5) rfl ?_
    obtain ⟨I7, J8, hq6, hf⟩ := bo2_e hf
    refine r_callV (o := none) (w' := (wB g I7 J8)) (As := [.int (5 : Int32), .int (I3 17 x4.toNatClampNeg)]) (rest := []) C (c_X1_put hc2 hq6) dX6_tryOn_38 gX6_tryOn_X1_put rfl rfl rfl hd_X1_put ⟨by decide, by decide⟩ c2 (brg hc2) rfl rfl rfl rfl (Nat.le_of_ble_eq_true rfl) ?_
    refine r_aload_n C dX6_tryOn_41 rfl 0 rfl ?_
    refine r_get C dX6_tryOn_42 kX6_tryOn_1 15 bg_15 rfl 3 (by decide) kX6_tryOn_4 bv_15_3 ?_
    refine r_iload_n C dX6_tryOn_45 rfl 2 rfl ?_
    refine r_iload C dX6_tryOn_46 3 rfl ?_
    refine r_iadd C dX6_tryOn_48 ?_
    refine r_iconst (v := (1 : Int32)) C dX6_tryOn_49 (by decide) ?_
    refine r_iadd C dX6_tryOn_50 ?_
    refine r_aload_n C dX6_tryOn_51 rfl 1 rfl ?_
    obtain ⟨r12, I10, J11, hq9, hf⟩ := bo3_e hf
    refine r_callV (o := some (.int r12)) (w' := (wB g I10 J11)) (As := []) (rest := [.int ((x3 + x4) + (1 : Int32)), .ref (g.1 18)]) C (c_X1_stalls hc2 hq9) dX6_tryOn_52 gX6_tryOn_X1_stalls rfl rfl rfl hd_X1_stalls ⟨by decide, by decide⟩ c2 (brg hc2) rfl rfl rfl rfl (Nat.le_of_ble_eq_true rfl) ?_
    refine r_if_eq (tgt := 63) C dX6_tryOn_55 (by decide) (fun q55 => ?_) (fun q55 => ?_)
    · have hf := itp hf q55
      refine r_aload_n C dX6_tryOn_63 rfl 1 rfl ?_
      obtain ⟨r16, I14, J15, hq13, hf⟩ := bo3_e hf
      refine r_callV (o := some (.int r16)) (w' := (wB g I14 J15)) (As := []) (rest := [.int ((x3 + x4) + (1 : Int32)), .ref (g.1 18)]) C (c_X1_drawsAnHour hc2 hq13) dX6_tryOn_64 gX6_tryOn_X1_drawsAnHour rfl rfl rfl hd_X1_drawsAnHour ⟨by decide, by decide⟩ c2 (brg hc2) rfl rfl rfl rfl (Nat.le_of_ble_eq_true rfl) ?_
      exact mB_X6_tryOn_67 C hr hk8 _ _ _ _ _ _ _ hc2 hf
    · have hf := itn hf q55
      refine r_bipush (v := (-9 : Int32)) C dX6_tryOn_58 (by decide) ?_
      refine r_goto (tgt := 67) C dX6_tryOn_60 (by decide) ?_
      exact mB_X6_tryOn_67 C hr hk8 _ _ _ _ _ _ _ hc2 hf
theorem mL_X6_tryOn_8 {k : CT} {g : GG} (C : CX k cX6_tryOn 5 RX6 wsX6_tryOn rmX6_tryOn g) {ρ : (MI × MJ)} (hr : RTV k wB g cX6_tryOn ρ) : ∀ (n : Nat) (I : MI) (J : MJ) (c2 : Nat) (x3 : Int32) (x4 : Int32), RC c2 → LP_X6_tryOn_8 n I J c2 x3 x4 = some ρ → V k (wB g I J) 8 [(0, .ref (g.1 15)), (2, .ref (g.1 c2)), (3, .int x3), (4, .int x4)] [] := by
  intro n
  induction n with
  | zero => intro I J c2 x3 x4 hc2 hf; cases hf
  | succ n ih => intro I J c2 x3 x4 hc2 hf; exact mB_X6_tryOn_8 C hr (fun I J c2 x3 x4 hc2 h => ih I J c2 x3 x4 hc2 h) I J c2 x3 x4 hc2 hf
set_option maxRecDepth 100000 in
set_option maxHeartbeats 4000000 in
theorem c_X6_tryOn {l : Launch} {D : va_G} {g : GG} {I : MI} {J : MJ} {a1 : Int32} {c2 : Nat} {I' : MI} {J' : MJ} (hc2 : RC c2) (hf : f_X6_tryOn I J a1 c2 = some (I', J')) : CON l yX6_tryOn wsX6_tryOn rmX6_tryOn D g (wB g I J) [.ref (g.1 15), .int a1, .ref (g.1 c2)] none (wB g I' J') := by
  refine con_of (cc := cX6_tryOn) (maxL := 5) (ret := none) (by decide) rfl (Nat.le_of_ble_eq_true rfl) rfl rfl ?_
  intro k C hkl hkD h1 h2 h3
  subst hkl; subst hkD
  have hr : RTV k wB g cX6_tryOn (I', J') := rtv_of h1
  unfold f_X6_tryOn at hf
  refine V.loc (lv' := [(0, .ref (g.1 15)), (1, .int a1), (2, .ref (g.1 c2))]) [0, 1, 2] rfl ?_
  refine r_iload_n C dX6_tryOn_0 rfl 1 rfl ?_
  refine r_bipush (v := (7 : Int32)) C dX6_tryOn_1 (by decide) ?_
  refine r_imul C dX6_tryOn_3 ?_
  refine r_nmi (fun v1 ev1 => ?_)
  have hf := bnd_e hf v1 ev1
  refine r_istore_n (lv' := [(0, .ref (g.1 15)), (1, .int a1), (2, .ref (g.1 c2)), (3, .int v1)]) C dX6_tryOn_4 rfl (by decide) [1, 2, 3, 0] rfl ?_
  refine r_iconst (v := (0 : Int32)) C dX6_tryOn_5 (by decide) ?_
  refine r_istore (lv' := [(0, .ref (g.1 15)), (1, .int a1), (2, .ref (g.1 c2)), (3, .int v1), (4, .int (0 : Int32))]) C dX6_tryOn_6 (by decide) [1, 2, 3, 4, 0] rfl ?_
  refine V.loc [0, 2, 3, 4] rfl ?_
  exact mL_X6_tryOn_8 C hr FU _ _ _ _ _ hc2 hf
