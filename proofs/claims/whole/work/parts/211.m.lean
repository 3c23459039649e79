abbrev rmX8_tuned : Room := { frames := 2, cells := 0, slots := 0, locals := 47 }
theorem hd_X8_tuned : yX8_tuned.cls = RX8 ∧ yX8_tuned.cls ≠ "java/lang/invoke/MethodHandle" ∧ yX8_tuned.cls ≠ "java/lang/invoke/VarHandle" ∧ (parseMethodDescriptor yX8_tuned.desc).map (fun d => d.parameters.length) = some 4 := by decide +kernel
theorem kX8_tuned_0 : Cond.fieldLink RX8 64 (TX8 0).1 (TX8 0).2.1 (TX8 0).2.2.1 ∈ wsX8_tuned := by decide +kernel
theorem kX8_tuned_1 : ∀ w ∈ u_ws RX8 TX8 38, w ∈ wsX8_tuned := by decide +kernel
theorem kX8_tuned_2 : Jvm.Cond.constantLong RX8 131 (-9) ∈ wsX8_tuned := by decide +kernel
theorem kX8_tuned_3 : Cond.fieldLink RX8 13 (TX8 4).1 (TX8 4).2.1 (TX8 4).2.2.1 ∈ wsX8_tuned := by decide +kernel
theorem kX8_tuned_4 : Cond.fieldLink RX8 103 (TX8 8).1 (TX8 8).2.1 (TX8 8).2.2.1 ∈ wsX8_tuned := by decide +kernel
theorem kX8_tuned_5 : Cond.fieldLink RX8 109 (TX8 9).1 (TX8 9).2.1 (TX8 9).2.2.1 ∈ wsX8_tuned := by decide +kernel
theorem kX8_tuned_6 : Cond.fieldLink RX8 100 (TX8 7).1 (TX8 7).2.1 (TX8 7).2.2.1 ∈ wsX8_tuned := by decide +kernel
theorem kX8_tuned_7 : Cond.fieldLink RX8 16 (TX8 10).1 (TX8 10).2.1 (TX8 10).2.2.1 ∈ wsX8_tuned := by decide +kernel
set_option maxRecDepth 100000 in
set_option maxHeartbeats 4000000 in
theorem mB_X8_tuned_182 {k : CT} {g : GG} (C : CX k cX8_tuned 16 RX8 wsX8_tuned rmX8_tuned g) {ρ : (Int32 × MI × MJ)} (hr : RTW k wM g cX8_tuned .int ρ) {kk65 : MI → MJ → Int32 → Int32 → Int32 → Int32 → Int32 → Int64 → Int64 → Int32 → Option (Int32 × MI × MJ)} {kk76 : MI → MJ → Int32 → Int32 → Int32 → Int32 → Int32 → Int64 → Int64 → Int32 → Int32 → Option (Int32 × MI × MJ)} (hk65 : ∀ (I : MI) (J : MJ) (x2 : Int32) (x3 : Int32) (x4 : Int32) (x5 : Int32) (x6 : Int32) (y7 : Int64) (y9 : Int64) (x11 : Int32), kk65 I J x2 x3 x4 x5 x6 y7 y9 x11 = some ρ → V k (wM g I J) 65 [(0, .ref (g.1 0)), (2, .int x2), (3, .int x3), (4, .int x4), (5, .int x5), (6, .int x6), (7, .long y7), (9, .long y9), (11, .int x11)] []) (hk76 : ∀ (I : MI) (J : MJ) (x2 : Int32) (x3 : Int32) (x4 : Int32) (x5 : Int32) (x6 : Int32) (y7 : Int64) (y9 : Int64) (x11 : Int32) (x12 : Int32), kk76 I J x2 x3 x4 x5 x6 y7 y9 x11 x12 = some ρ → V k (wM g I J) 76 [(0, .ref (g.1 0)), (2, .int x2), (3, .int x3), (4, .int x4), (5, .int x5), (6, .int x6), (7, .long y7), (9, .long y9), (11, .int x11), (12, .int x12)] []) : ∀ (I : MI) (J : MJ) (x2 : Int32) (x3 : Int32) (x4 : Int32) (x5 : Int32) (x6 : Int32) (y7 : Int64) (y9 : Int64) (x11 : Int32) (x12 : Int32) (y13 : Int64) (s0 : Int32), LB_X8_tuned_182 kk65 kk76 I J x2 x3 x4 x5 x6 y7 y9 x11 x12 y13 s0 = some ρ → V k (wM g I J) 182 [(0, .ref (g.1 0)), (2, .int x2), (3, .int x3), (4, .int x4), (5, .int x5), (6, .int x6), (7, .long y7), (9, .long y9), (11, .int x11), (12, .int x12), (13, .long y13)] [.int s0] := by
  intro I J x2 x3 x4 x5 x6 y7 y9 x11 x12 y13 s0 hf
  unfold LB_X8_tuned_182 at hf
  refine r_istore (lv' := [(0, .ref (g.1 0)), (2, .int x2), (3, .int x3), (4, .int x4), (5, .int x5), (6, .int x6), (7, .long y7), (9, .long y9), (11, .int x11), (12, .int x12), (13, .long y13), (15, .int s0)]) C dX8_tuned_182 (by decide) [1, 2, 3, 4, 5, 6, 7, 8, 9, 10, 11, 0] rfl ?_
  refine r_lload C dX8_tuned_184 10 rfl ?_
  refine r_aload_n C dX8_tuned_186 rfl 0 rfl ?_
  refine r_get C dX8_tuned_187 kX8_tuned_1 0 mg_0 rfl 7 (by decide) kX8_tuned_6 mv_0_7 ?_
  refine r_aload_n C dX8_tuned_190 rfl 0 rfl ?_
  refine r_get C dX8_tuned_191 kX8_tuned_1 0 mg_0 rfl 8 (by decide) kX8_tuned_4 mv_0_8 ?_
  refine r_ladd C dX8_tuned_194 ?_
  refine r_lmul C dX8_tuned_195 ?_
  refine r_aload_n C dX8_tuned_196 rfl 0 rfl ?_
  refine r_get C dX8_tuned_197 kX8_tuned_1 0 mg_0 rfl 10 (by decide) kX8_tuned_7 mv_0_10 ?_
  refine r_iload_n C dX8_tuned_200 rfl 1 rfl ?_
  obtain ⟨h1, hf⟩ := chk_e hf
  refine r_iald (j := x2.toNatClampNeg) C dX8_tuned_201 3 mg_3 (inb_e h1) rfl ?_
  refine r_i2l C dX8_tuned_202 ?_
  refine r_lcmp_gt (tgt := 245) C dX8_tuned_203 dX8_tuned_204 (by decide) (fun q203 => ?_) (fun q203 => ?_)
  · have hf := itp hf q203
    obtain ⟨v2, ev2⟩ : ∃ z : Int32, z = x12 + (1 : Int32) := ⟨_, rfl⟩
    have hf := bnd_e hf v2 ev2
    refine r_iinc (v := v2) (lv' := [(0, .ref (g.1 0)), (2, .int x2), (3, .int x3), (4, .int x4), (5, .int x5), (6, .int x6), (7, .long y7), (9, .long y9), (11, .int x11), (12, .int v2), (13, .long y13), (15, .int s0)]) C dX8_tuned_245 9 rfl (by rw [ev2]; rfl) (by decide) [1, 2, 3, 4, 5, 6, 7, 8, 9, 0, 10, 11] rfl ?_
    refine r_goto (tgt := 76) C dX8_tuned_248 (by decide) ?_
    refine V.loc [0, 1, 2, 3, 4, 5, 6, 7, 8, 9] rfl ?_
    exact hk76 _ _ _ _ _ _ _ _ _ _ _ hf
  · have hf := itn hf q203
    refine r_lload C dX8_tuned_207 10 rfl ?_
    refine r_lconst (v := (0 : Int64)) C dX8_tuned_209 (by decide) ?_
    refine r_lcmp_le (tgt := 245) C dX8_tuned_210 dX8_tuned_211 (by decide) (fun q210 => ?_) (fun q210 => ?_)
    · have hf := itp hf q210
      obtain ⟨v3, ev3⟩ : ∃ z : Int32, z = x12 + (1 : Int32) := ⟨_, rfl⟩
      have hf := bnd_e hf v3 ev3
      refine r_iinc (v := v3) (lv' := [(0, .ref (g.1 0)), (2, .int x2), (3, .int x3), (4, .int x4), (5, .int x5), (6, .int x6), (7, .long y7), (9, .long y9), (11, .int x11), (12, .int v3), (13, .long y13), (15, .int s0)]) C dX8_tuned_245 9 rfl (by rw [ev3]; rfl) (by decide) [1, 2, 3, 4, 5, 6, 7, 8, 9, 0, 10, 11] rfl ?_
      refine r_goto (tgt := 76) C dX8_tuned_248 (by decide) ?_
      refine V.loc [0, 1, 2, 3, 4, 5, 6, 7, 8, 9] rfl ?_
      exact hk76 _ _ _ _ _ _ _ _ _ _ _ hf
    · have hf := itn hf q210
      refine r_iload C dX8_tuned_214 11 rfl ?_
      refine r_if_eq (tgt := 245) C dX8_tuned_216 (by decide) (fun q216 => ?_) (fun q216 => ?_)
      · have hf := itp hf q216
        obtain ⟨v4, ev4⟩ : ∃ z : Int32, z = x12 + (1 : Int32) := ⟨_, rfl⟩
        have hf := bnd_e hf v4 ev4
        refine r_iinc (v := v4) (lv' := [(0, .ref (g.1 0)), (2, .int x2), (3, .int x3), (4, .int x4), (5, .int x5), (6, .int x6), (7, .long y7), (9, .long y9), (11, .int x11), (12, .int v4), (13, .long y13), (15, .int s0)]) C dX8_tuned_245 9 rfl (by rw [ev4]; rfl) (by decide) [1, 2, 3, 4, 5, 6, 7, 8, 9, 0, 10, 11] rfl ?_
        refine r_goto (tgt := 76) C dX8_tuned_248 (by decide) ?_
        refine V.loc [0, 1, 2, 3, 4, 5, 6, 7, 8, 9] rfl ?_
        exact hk76 _ _ _ _ _ _ _ _ _ _ _ hf
      · have hf := itn hf q216
        refine r_iload C dX8_tuned_219 8 rfl ?_
        refine r_istore (lv' := [(0, .ref (g.1 0)), (2, .int x2), (3, .int x3), (4, .int x4), (5, .int x11), (6, .int x6), (7, .long y7), (9, .long y9), (11, .int x11), (12, .int x12), (13, .long y13), (15, .int s0)]) C dX8_tuned_221 (by decide) [1, 2, 3, 4, 0, 5, 6, 7, 8, 9, 10, 11] rfl ?_
        refine r_iload C dX8_tuned_223 9 rfl ?_
        refine r_istore (lv' := [(0, .ref (g.1 0)), (2, .int x2), (3, .int x3), (4, .int x4), (5, .int x11), (6, .int x12), (7, .long y7), (9, .long y9), (11, .int x11), (12, .int x12), (13, .long y13), (15, .int s0)]) C dX8_tuned_225 (by decide) [1, 2, 3, 4, 5, 0, 6, 7, 8, 9, 10, 11] rfl ?_
        refine r_lload C dX8_tuned_227 10 rfl ?_
        refine r_aload_n C dX8_tuned_229 rfl 0 rfl ?_
        refine r_get C dX8_tuned_230 kX8_tuned_1 0 mg_0 rfl 8 (by decide) kX8_tuned_4 mv_0_8 ?_
        refine r_lmul C dX8_tuned_233 ?_
        refine r_nml (fun v5 ev5 => ?_)
        have hf := bnd_e hf v5 ev5
        refine r_lstore (lv' := [(0, .ref (g.1 0)), (2, .int x2), (3, .int x3), (4, .int x4), (5, .int x11), (6, .int x12), (7, .long v5), (9, .long y9), (11, .int x11), (12, .int x12), (13, .long y13), (15, .int s0)]) C dX8_tuned_234 (by decide) [1, 2, 3, 4, 5, 6, 0, 7, 8, 9, 10, 11] rfl ?_
        refine r_lload C dX8_tuned_236 10 rfl ?_
        refine r_aload_n C dX8_tuned_238 rfl 0 rfl ?_
        refine r_get C dX8_tuned_239 kX8_tuned_1 0 mg_0 rfl 7 (by decide) kX8_tuned_6 mv_0_7 ?_
        refine r_lmul C dX8_tuned_242 ?_
        refine r_nml (fun v6 ev6 => ?_)
        have hf := bnd_e hf v6 ev6
        refine r_lstore (lv' := [(0, .ref (g.1 0)), (2, .int x2), (3, .int x3), (4, .int x4), (5, .int x11), (6, .int x12), (7, .long v5), (9, .long v6), (11, .int x11), (12, .int x12), (13, .long y13), (15, .int s0)]) C dX8_tuned_243 (by decide) [1, 2, 3, 4, 5, 6, 7, 0, 8, 9, 10, 11] rfl ?_
        obtain ⟨v7, ev7⟩ : ∃ z : Int32, z = x12 + (1 : Int32) := ⟨_, rfl⟩
        have hf := bnd_e hf v7 ev7
        refine r_iinc (v := v7) (lv' := [(0, .ref (g.1 0)), (2, .int x2), (3, .int x3), (4, .int x4), (5, .int x11), (6, .int x12), (7, .long v5), (9, .long v6), (11, .int x11), (12, .int v7), (13, .long y13), (15, .int s0)]) C dX8_tuned_245 9 rfl (by rw [ev7]; rfl) (by decide) [1, 2, 3, 4, 5, 6, 7, 8, 9, 0, 10, 11] rfl ?_
        refine r_goto (tgt := 76) C dX8_tuned_248 (by decide) ?_
        refine V.loc [0, 1, 2, 3, 4, 5, 6, 7, 8, 9] rfl ?_
        exact hk76 _ _ _ _ _ _ _ _ _ _ _ hf
set_option maxRecDepth 100000 in
set_option maxHeartbeats 4000000 in
theorem mB_X8_tuned_177 {k : CT} {g : GG} (C : CX k cX8_tuned 16 RX8 wsX8_tuned rmX8_tuned g) {ρ : (Int32 × MI × MJ)} (hr : RTW k wM g cX8_tuned .int ρ) {kk65 : MI → MJ → Int32 → Int32 → Int32 → Int32 → Int32 → Int64 → Int64 → Int32 → Option (Int32 × MI × MJ)} {kk76 : MI → MJ → Int32 → Int32 → Int32 → Int32 → Int32 → Int64 → Int64 → Int32 → Int32 → Option (Int32 × MI × MJ)} (hk65 : ∀ (I : MI) (J : MJ) (x2 : Int32) (x3 : Int32) (x4 : Int32) (x5 : Int32) (x6 : Int32) (y7 : Int64) (y9 : Int64) (x11 : Int32), kk65 I J x2 x3 x4 x5 x6 y7 y9 x11 = some ρ → V k (wM g I J) 65 [(0, .ref (g.1 0)), (2, .int x2), (3, .int x3), (4, .int x4), (5, .int x5), (6, .int x6), (7, .long y7), (9, .long y9), (11, .int x11)] []) (hk76 : ∀ (I : MI) (J : MJ) (x2 : Int32) (x3 : Int32) (x4 : Int32) (x5 : Int32) (x6 : Int32) (y7 : Int64) (y9 : Int64) (x11 : Int32) (x12 : Int32), kk76 I J x2 x3 x4 x5 x6 y7 y9 x11 x12 = some ρ → V k (wM g I J) 76 [(0, .ref (g.1 0)), (2, .int x2), (3, .int x3), (4, .int x4), (5, .int x5), (6, .int x6), (7, .long y7), (9, .long y9), (11, .int x11), (12, .int x12)] []) : ∀ (I : MI) (J : MJ) (x2 : Int32) (x3 : Int32) (x4 : Int32) (x5 : Int32) (x6 : Int32) (y7 : Int64) (y9 : Int64) (x11 : Int32) (x12 : Int32) (y13 : Int64), LB_X8_tuned_177 kk65 kk76 I J x2 x3 x4 x5 x6 y7 y9 x11 x12 y13 = some ρ → V k (wM g I J) 177 [(0, .ref (g.1 0)), (2, .int x2), (3, .int x3), (4, .int x4), (5, .int x5), (6, .int x6), (7, .long y7), (9, .long y9), (11, .int x11), (12, .int x12), (13, .long y13)] [] := by
  intro I J x2 x3 x4 x5 x6 y7 y9 x11 x12 y13 hf
  unfold LB_X8_tuned_177 at hf
  refine r_iconst (v := (1 : Int32)) C dX8_tuned_177 (by decide) ?_
  refine r_goto (tgt := 182) C dX8_tuned_178 (by decide) ?_
  exact mB_X8_tuned_182 C hr hk65 hk76 _ _ _ _ _ _ _ _ _ _ _ _ _ hf
set_option maxRecDepth 100000 in
set_option maxHeartbeats 4000000 in
theorem mB_X8_tuned_181 {k : CT} {g : GG} (C : CX k cX8_tuned 16 RX8 wsX8_tuned rmX8_tuned g) {ρ : (Int32 × MI × MJ)} (hr : RTW k wM g cX8_tuned .int ρ) {kk65 : MI → MJ → Int32 → Int32 → Int32 → Int32 → Int32 → Int64 → Int64 → Int32 → Option (Int32 × MI × MJ)} {kk76 : MI → MJ → Int32 → Int32 → Int32 → Int32 → Int32 → Int64 → Int64 → Int32 → Int32 → Option (Int32 × MI × MJ)} (hk65 : ∀ (I : MI) (J : MJ) (x2 : Int32) (x3 : Int32) (x4 : Int32) (x5 : Int32) (x6 : Int32) (y7 : Int64) (y9 : Int64) (x11 : Int32), kk65 I J x2 x3 x4 x5 x6 y7 y9 x11 = some ρ → V k (wM g I J) 65 [(0, .ref (g.1 0)), (2, .int x2), (3, .int x3), (4, .int x4), (5, .int x5), (6, .int x6), (7, .long y7), (9, .long y9), (11, .int x11)] []) (hk76 : ∀ (I : MI) (J : MJ) (x2 : Int32) (x3 : Int32) (x4 : Int32) (x5 : Int32) (x6 : Int32) (y7 : Int64) (y9 : Int64) (x11 : Int32) (x12 : Int32), kk76 I J x2 x3 x4 x5 x6 y7 y9 x11 x12 = some ρ → V k (wM g I J) 76 [(0, .ref (g.1 0)), (2, .int x2), (3, .int x3), (4, .int x4), (5, .int x5), (6, .int x6), (7, .long y7), (9, .long y9), (11, .int x11), (12, .int x12)] []) : ∀ (I : MI) (J : MJ) (x2 : Int32) (x3 : Int32) (x4 : Int32) (x5 : Int32) (x6 : Int32) (y7 : Int64) (y9 : Int64) (x11 : Int32) (x12 : Int32) (y13 : Int64), LB_X8_tuned_181 kk65 kk76 I J x2 x3 x4 x5 x6 y7 y9 x11 x12 y13 = some ρ → V k (wM g I J) 181 [(0, .ref (g.1 0)), (2, .int x2), (3, .int x3), (4, .int x4), (5, .int x5), (6, .int x6), (7, .long y7), (9, .long y9), (11, .int x11), (12, .int x12), (13, .long y13)] [] := by
  intro I J x2 x3 x4 x5 x6 y7 y9 x11 x12 y13 hf
  unfold LB_X8_tuned_181 at hf
  refine r_iconst (v := (0 : Int32)) C dX8_tuned_181 (by decide) ?_
  exact mB_X8_tuned_182 C hr hk65 hk76 _ _ _ _ _ _ _ _ _ _ _ _ _ hf
set_option maxRecDepth 100000 in
set_option maxHeartbeats 4000000 in
theorem mB_X8_tuned_76 {k : CT} {g : GG} (C : CX k cX8_tuned 16 RX8 wsX8_tuned rmX8_tuned g) {ρ : (Int32 × MI × MJ)} (hr : RTW k wM g cX8_tuned .int ρ) {kk65 : MI → MJ → Int32 → Int32 → Int32 → Int32 → Int32 → Int64 → Int64 → Int32 → Option (Int32 × MI × MJ)} {kk76 : MI → MJ → Int32 → Int32 → Int32 → Int32 → Int32 → Int64 → Int64 → Int32 → Int32 → Option (Int32 × MI × MJ)} (hk65 : ∀ (I : MI) (J : MJ) (x2 : Int32) (x3 : Int32) (x4 : Int32) (x5 : Int32) (x6 : Int32) (y7 : Int64) (y9 : Int64) (x11 : Int32), kk65 I J x2 x3 x4 x5 x6 y7 y9 x11 = some ρ → V k (wM g I J) 65 [(0, .ref (g.1 0)), (2, .int x2), (3, .int x3), (4, .int x4), (5, .int x5), (6, .int x6), (7, .long y7), (9, .long y9), (11, .int x11)] []) (hk76 : ∀ (I : MI) (J : MJ) (x2 : Int32) (x3 : Int32) (x4 : Int32) (x5 : Int32) (x6 : Int32) (y7 : Int64) (y9 : Int64) (x11 : Int32) (x12 : Int32), kk76 I J x2 x3 x4 x5 x6 y7 y9 x11 x12 = some ρ → V k (wM g I J) 76 [(0, .ref (g.1 0)), (2, .int x2), (3, .int x3), (4, .int x4), (5, .int x5), (6, .int x6), (7, .long y7), (9, .long y9), (11, .int x11), (12, .int x12)] []) : ∀ (I : MI) (J : MJ) (x2 : Int32) (x3 : Int32) (x4 : Int32) (x5 : Int32) (x6 : Int32) (y7 : Int64) (y9 : Int64) (x11 : Int32) (x12 : Int32), LB_X8_tuned_76 kk65 kk76 I J x2 x3 x4 x5 x6 y7 y9 x11 x12 = some ρ → V k (wM g I J) 76 [(0, .ref (g.1 0)), (2, .int x2), (3, .int x3), (4, .int x4), (5, .int x5), (6, .int x6), (7, .long y7), (9, .long y9), (11, .int x11), (12, .int x12)] [] := by
  intro I J x2 x3 x4 x5 x6 y7 y9 x11 x12 hf
  unfold LB_X8_tuned_76 at hf
  refine r_iload C dX8_tuned_76 9 rfl ?_
  refine r_bipush (v := (10 : Int32)) C dX8_tuned_78 (by decide) ?_
  refine r_icmp_ge (tgt := 251) C dX8_tuned_80 (by decide) (fun q80 => ?_) (fun q80 => ?_)
  · have hf := itp hf q80
    obtain ⟨v1, ev1⟩ : ∃ z : Int32, z = x11 + (5 : Int32) := ⟨_, rfl⟩
    have hf := bnd_e hf v1 ev1
    refine r_iinc (v := v1) (lv' := [(0, .ref (g.1 0)), (2, .int x2), (3, .int x3), (4, .int x4), (5, .int x5), (6, .int x6), (7, .long y7), (9, .long y9), (11, .int v1), (12, .int x12)]) C dX8_tuned_251 8 rfl (by rw [ev1]; rfl) (by decide) [1, 2, 3, 4, 5, 6, 7, 8, 0, 9] rfl ?_
    refine r_goto (tgt := 65) C dX8_tuned_254 (by decide) ?_
    refine V.loc [0, 1, 2, 3, 4, 5, 6, 7, 8] rfl ?_
    exact hk65 _ _ _ _ _ _ _ _ _ _ hf
  · have hf := itn hf q80
    refine r_aload_n C dX8_tuned_83 rfl 0 rfl ?_
    refine r_get C dX8_tuned_84 kX8_tuned_1 0 mg_0 rfl 4 (by decide) kX8_tuned_3 mv_0_4 ?_
    refine r_iconst (v := (4 : Int32)) C dX8_tuned_87 (by decide) ?_
    refine r_iload C dX8_tuned_88 8 rfl ?_
    refine r_iast (j := 4) C dX8_tuned_90 2 mg_2 (inb_e (by decide +kernel)) (by decide +kernel) ma_2 ?_
    refine nmIM (fun I2 eI2 => ?_)
    have hf := bnd_e hf I2 eI2
    refine r_aload_n C dX8_tuned_91 rfl 0 rfl ?_
    refine r_get C dX8_tuned_92 kX8_tuned_1 0 mg_0 rfl 4 (by decide) kX8_tuned_3 mv_0_4 ?_
    refine r_iconst (v := (5 : Int32)) C dX8_tuned_95 (by decide) ?_
    refine r_iload C dX8_tuned_96 9 rfl ?_
    refine r_iast (j := 5) C dX8_tuned_98 2 mg_2 (inb_e (by decide +kernel)) (by decide +kernel) ma_2 ?_
    refine nmIM (fun I3 eI3 => ?_)
    have hf := bnd_e hf I3 eI3
    refine r_aload_n C dX8_tuned_99 rfl 0 rfl ?_
    obtain ⟨r7, I5, J6, hq4, hf⟩ := bo3_e hf
    refine r_callV (o := some (.int r7)) (w' := (wM g I5 J6)) (As := []) (rest := []) C (c_X8_beats hq4) dX8_tuned_100 gX8_tuned_X8_beats rfl rfl rfl hd_X8_beats ⟨by decide, by decide⟩ 0 mg_0 rfl rfl rfl rfl (Nat.le_of_ble_eq_true rfl) ?_
    refine r_if_eq (tgt := 245) C dX8_tuned_103 (by decide) (fun q103 => ?_) (fun q103 => ?_)
    · have hf := itp hf q103
      obtain ⟨v8, ev8⟩ : ∃ z : Int32, z = x12 + (1 : Int32) := ⟨_, rfl⟩
      have hf := bnd_e hf v8 ev8
      refine r_iinc (v := v8) (lv' := [(0, .ref (g.1 0)), (2, .int x2), (3, .int x3), (4, .int x4), (5, .int x5), (6, .int x6), (7, .long y7), (9, .long y9), (11, .int x11), (12, .int v8)]) C dX8_tuned_245 9 rfl (by rw [ev8]; rfl) (by decide) [1, 2, 3, 4, 5, 6, 7, 8, 9, 0] rfl ?_
      refine r_goto (tgt := 76) C dX8_tuned_248 (by decide) ?_
      exact hk76 _ _ _ _ _ _ _ _ _ _ _ hf
    · have hf := itn hf q103
      refine r_aload_n C dX8_tuned_106 rfl 0 rfl ?_
      refine r_get C dX8_tuned_107 kX8_tuned_1 0 mg_0 rfl 8 (by decide) kX8_tuned_4 mv_0_8 ?_
      refine r_lconst (v := (0 : Int64)) C dX8_tuned_110 (by decide) ?_
      refine r_lcmp_le (tgt := 245) C dX8_tuned_111 dX8_tuned_112 (by decide) (fun q111 => ?_) (fun q111 => ?_)
      · have hf := itp hf q111
        obtain ⟨v9, ev9⟩ : ∃ z : Int32, z = x12 + (1 : Int32) := ⟨_, rfl⟩
        have hf := bnd_e hf v9 ev9
        refine r_iinc (v := v9) (lv' := [(0, .ref (g.1 0)), (2, .int x2), (3, .int x3), (4, .int x4), (5, .int x5), (6, .int x6), (7, .long y7), (9, .long y9), (11, .int x11), (12, .int v9)]) C dX8_tuned_245 9 rfl (by rw [ev9]; rfl) (by decide) [1, 2, 3, 4, 5, 6, 7, 8, 9, 0] rfl ?_
        refine r_goto (tgt := 76) C dX8_tuned_248 (by decide) ?_
        exact hk76 _ _ _ _ _ _ _ _ _ _ _ hf
      · have hf := itn hf q111
        refine r_sipush (v := (3600 : Int32)) C dX8_tuned_115 (by decide) ?_
        refine r_aload_n C dX8_tuned_118 rfl 0 rfl ?_
        refine r_get C dX8_tuned_119 kX8_tuned_1 0 mg_0 rfl 9 (by decide) kX8_tuned_5 mv_0_9 ?_
        obtain ⟨h10, hf⟩ := chk_e hf
        refine r_idiv C dX8_tuned_122 (nz_e h10) ?_
        refine r_i2l C dX8_tuned_123 ?_
        refine r_nml (fun v11 ev11 => ?_)
        have hf := bnd_e hf v11 ev11
        refine r_lstore (lv' := [(0, .ref (g.1 0)), (2, .int x2), (3, .int x3), (4, .int x4), (5, .int x5), (6, .int x6), (7, .long y7), (9, .long y9), (11, .int x11), (12, .int x12), (13, .long v11)]) C dX8_tuned_124 (by decide) [1, 2, 3, 4, 5, 6, 7, 8, 9, 10, 0] rfl ?_
        refine r_iload C dX8_tuned_126 4 rfl ?_
        refine r_bipush (v := (-9 : Int32)) C dX8_tuned_128 (by decide) ?_
        refine r_icmp_eq (tgt := 177) C dX8_tuned_130 (by decide) (fun q130 => ?_) (fun q130 => ?_)
        · have hf := itp hf q130
          exact mB_X8_tuned_177 C hr hk65 hk76 _ _ _ _ _ _ _ _ _ _ _ _ hf
        · have hf := itn hf q130
          refine r_iload_n C dX8_tuned_133 rfl 2 rfl ?_
          refine r_if_ne (tgt := 153) C dX8_tuned_134 (by decide) (fun q134 => ?_) (fun q134 => ?_)
          · have hf := itn hf q134
            refine r_lload C dX8_tuned_153 10 rfl ?_
            refine r_aload_n C dX8_tuned_155 rfl 0 rfl ?_
            refine r_get C dX8_tuned_156 kX8_tuned_1 0 mg_0 rfl 7 (by decide) kX8_tuned_6 mv_0_7 ?_
            refine r_lmul C dX8_tuned_159 ?_
            refine r_lload C dX8_tuned_160 6 rfl ?_
            refine r_lmul C dX8_tuned_162 ?_
            refine r_lload C dX8_tuned_163 7 rfl ?_
            refine r_lload C dX8_tuned_165 10 rfl ?_
            refine r_lmul C dX8_tuned_167 ?_
            refine r_aload_n C dX8_tuned_168 rfl 0 rfl ?_
            refine r_get C dX8_tuned_169 kX8_tuned_1 0 mg_0 rfl 8 (by decide) kX8_tuned_4 mv_0_8 ?_
            refine r_lmul C dX8_tuned_172 ?_
            refine r_lcmp_ge (tgt := 181) C dX8_tuned_173 dX8_tuned_174 (by decide) (fun q173 => ?_) (fun q173 => ?_)
            · have hf := itp hf q173
              exact mB_X8_tuned_181 C hr hk65 hk76 _ _ _ _ _ _ _ _ _ _ _ _ hf
            · have hf := itn hf q173
              exact mB_X8_tuned_177 C hr hk65 hk76 _ _ _ _ _ _ _ _ _ _ _ _ hf
          · have hf := itp hf q134
            refine r_lload C dX8_tuned_137 10 rfl ?_
            refine r_aload_n C dX8_tuned_139 rfl 0 rfl ?_
            refine r_get C dX8_tuned_140 kX8_tuned_1 0 mg_0 rfl 8 (by decide) kX8_tuned_4 mv_0_8 ?_
            refine r_lmul C dX8_tuned_143 ?_
            refine r_lload C dX8_tuned_144 6 rfl ?_
            refine r_lcmp_le (tgt := 181) C dX8_tuned_146 dX8_tuned_147 (by decide) (fun q146 => ?_) (fun q146 => ?_)
            · have hf := itp hf q146
              exact mB_X8_tuned_181 C hr hk65 hk76 _ _ _ _ _ _ _ _ _ _ _ _ hf
            · have hf := itn hf q146
              refine r_goto (tgt := 177) C dX8_tuned_150 (by decide) ?_
              exact mB_X8_tuned_177 C hr hk65 hk76 _ _ _ _ _ _ _ _ _ _ _ _ hf
theorem mL_X8_tuned_76 {k : CT} {g : GG} (C : CX k cX8_tuned 16 RX8 wsX8_tuned rmX8_tuned g) {ρ : (Int32 × MI × MJ)} (hr : RTW k wM g cX8_tuned .int ρ) {kk65 : MI → MJ → Int32 → Int32 → Int32 → Int32 → Int32 → Int64 → Int64 → Int32 → Option (Int32 × MI × MJ)} (hk65 : ∀ (I : MI) (J : MJ) (x2 : Int32) (x3 : Int32) (x4 : Int32) (x5 : Int32) (x6 : Int32) (y7 : Int64) (y9 : Int64) (x11 : Int32), kk65 I J x2 x3 x4 x5 x6 y7 y9 x11 = some ρ → V k (wM g I J) 65 [(0, .ref (g.1 0)), (2, .int x2), (3, .int x3), (4, .int x4), (5, .int x5), (6, .int x6), (7, .long y7), (9, .long y9), (11, .int x11)] []) : ∀ (n : Nat) (I : MI) (J : MJ) (x2 : Int32) (x3 : Int32) (x4 : Int32) (x5 : Int32) (x6 : Int32) (y7 : Int64) (y9 : Int64) (x11 : Int32) (x12 : Int32), LP_X8_tuned_76 kk65 n I J x2 x3 x4 x5 x6 y7 y9 x11 x12 = some ρ → V k (wM g I J) 76 [(0, .ref (g.1 0)), (2, .int x2), (3, .int x3), (4, .int x4), (5, .int x5), (6, .int x6), (7, .long y7), (9, .long y9), (11, .int x11), (12, .int x12)] [] := by
  intro n
  induction n with
  | zero => intro I J x2 x3 x4 x5 x6 y7 y9 x11 x12 hf; cases hf
  | succ n ih => intro I J x2 x3 x4 x5 x6 y7 y9 x11 x12 hf; exact mB_X8_tuned_76 C hr hk65 (fun I J x2 x3 x4 x5 x6 y7 y9 x11 x12 h => ih I J x2 x3 x4 x5 x6 y7 y9 x11 x12 h) I J x2 x3 x4 x5 x6 y7 y9 x11 x12 hf
set_option maxRecDepth 100000 in
set_option maxHeartbeats 4000000 in
theorem mB_X8_tuned_65 {k : CT} {g : GG} (C : CX k cX8_tuned 16 RX8 wsX8_tuned rmX8_tuned g) {ρ : (Int32 × MI × MJ)} (hr : RTW k wM g cX8_tuned .int ρ) {kk65 : MI → MJ → Int32 → Int32 → Int32 → Int32 → Int32 → Int64 → Int64 → Int32 → Option (Int32 × MI × MJ)} (hk65 : ∀ (I : MI) (J : MJ) (x2 : Int32) (x3 : Int32) (x4 : Int32) (x5 : Int32) (x6 : Int32) (y7 : Int64) (y9 : Int64) (x11 : Int32), kk65 I J x2 x3 x4 x5 x6 y7 y9 x11 = some ρ → V k (wM g I J) 65 [(0, .ref (g.1 0)), (2, .int x2), (3, .int x3), (4, .int x4), (5, .int x5), (6, .int x6), (7, .long y7), (9, .long y9), (11, .int x11)] []) : ∀ (I : MI) (J : MJ) (x2 : Int32) (x3 : Int32) (x4 : Int32) (x5 : Int32) (x6 : Int32) (y7 : Int64) (y9 : Int64) (x11 : Int32), LB_X8_tuned_65 kk65 I J x2 x3 x4 x5 x6 y7 y9 x11 = some ρ → V k (wM g I J) 65 [(0, .ref (g.1 0)), (2, .int x2), (3, .int x3), (4, .int x4), (5, .int x5), (6, .int x6), (7, .long y7), (9, .long y9), (11, .int x11)] [] := by
  intro I J x2 x3 x4 x5 x6 y7 y9 x11 hf
  unfold LB_X8_tuned_65 at hf
  refine r_iload C dX8_tuned_65 8 rfl ?_
  refine r_sipush (v := (400 : Int32)) C dX8_tuned_67 (by decide) ?_
  refine r_icmp_gt (tgt := 257) C dX8_tuned_70 (by decide) (fun q70 => ?_) (fun q70 => ?_)
  · have hf := itp hf q70
    refine r_iload C dX8_tuned_257 3 rfl ?_
    refine r_if_ne (tgt := 267) C dX8_tuned_259 (by decide) (fun q259 => ?_) (fun q259 => ?_)
    · have hf := itn hf q259
      refine r_iload C dX8_tuned_267 3 rfl ?_
      refine r_iconst (v := (1 : Int32)) C dX8_tuned_269 (by decide) ?_
      refine r_icmp_ne (tgt := 278) C dX8_tuned_270 (by decide) (fun q270 => ?_) (fun q270 => ?_)
      · have hf := itn hf q270
        refine r_lload C dX8_tuned_278 6 rfl ?_
        refine r_l2i C dX8_tuned_280 ?_
        exact hr _ _ _ _ _ dX8_tuned_281 rfl hf
      · have hf := itp hf q270
        refine r_iload C dX8_tuned_273 5 rfl ?_
        refine r_goto (tgt := 281) C dX8_tuned_275 (by decide) ?_
        exact hr _ _ _ _ _ dX8_tuned_281 rfl hf
    · have hf := itp hf q259
      refine r_iload C dX8_tuned_262 4 rfl ?_
      refine r_goto (tgt := 281) C dX8_tuned_264 (by decide) ?_
      exact hr _ _ _ _ _ dX8_tuned_281 rfl hf
  · have hf := itn hf q70
    refine r_iconst (v := (1 : Int32)) C dX8_tuned_73 (by decide) ?_
    refine r_istore (lv' := [(0, .ref (g.1 0)), (2, .int x2), (3, .int x3), (4, .int x4), (5, .int x5), (6, .int x6), (7, .long y7), (9, .long y9), (11, .int x11), (12, .int (1 : Int32))]) C dX8_tuned_74 (by decide) [1, 2, 3, 4, 5, 6, 7, 8, 9, 0] rfl ?_
    exact mL_X8_tuned_76 C hr hk65 FU _ _ _ _ _ _ _ _ _ _ _ hf
theorem mL_X8_tuned_65 {k : CT} {g : GG} (C : CX k cX8_tuned 16 RX8 wsX8_tuned rmX8_tuned g) {ρ : (Int32 × MI × MJ)} (hr : RTW k wM g cX8_tuned .int ρ) : ∀ (n : Nat) (I : MI) (J : MJ) (x2 : Int32) (x3 : Int32) (x4 : Int32) (x5 : Int32) (x6 : Int32) (y7 : Int64) (y9 : Int64) (x11 : Int32), LP_X8_tuned_65 n I J x2 x3 x4 x5 x6 y7 y9 x11 = some ρ → V k (wM g I J) 65 [(0, .ref (g.1 0)), (2, .int x2), (3, .int x3), (4, .int x4), (5, .int x5), (6, .int x6), (7, .long y7), (9, .long y9), (11, .int x11)] [] := by
  intro n
  induction n with
  | zero => intro I J x2 x3 x4 x5 x6 y7 y9 x11 hf; cases hf
  | succ n ih => intro I J x2 x3 x4 x5 x6 y7 y9 x11 hf; exact mB_X8_tuned_65 C hr (fun I J x2 x3 x4 x5 x6 y7 y9 x11 h => ih I J x2 x3 x4 x5 x6 y7 y9 x11 h) I J x2 x3 x4 x5 x6 y7 y9 x11 hf
set_option maxRecDepth 100000 in
set_option maxHeartbeats 4000000 in
theorem c_X8_tuned {l : Launch} {D : va_G} {g : GG} {I : MI} {J : MJ} {a1 : Int32} {a2 : Int32} {a3 : Int32} {a4 : Int32} {r : Int32} {I' : MI} {J' : MJ} (hf : f_X8_tuned I J a1 a2 a3 a4 = some (r, I', J')) : CON l yX8_tuned wsX8_tuned rmX8_tuned D g (wM g I J) [.ref (g.1 0), .int a1, .int a2, .int a3, .int a4] (some (.int r)) (wM g I' J') := by
  refine con_of (cc := cX8_tuned) (maxL := 16) (ret := (some .int)) (by decide) rfl (Nat.le_of_ble_eq_true rfl) rfl rfl ?_
  intro k C hkl hkD h1 h2 h3
  subst hkl; subst hkD
  have hr : RTW k wM g cX8_tuned .int (r, I', J') := rtw_of h2
  unfold f_X8_tuned at hf
  refine V.loc (lv' := [(0, .ref (g.1 0)), (1, .int a1), (2, .int a2), (3, .int a3), (4, .int a4)]) [0, 1, 2, 3, 4] rfl ?_
  refine r_aload_n C dX8_tuned_0 rfl 0 rfl ?_
  refine r_iconst (v := (0 : Int32)) C dX8_tuned_1 (by decide) ?_
  refine r_put (ty := .int) C dX8_tuned_2 kX8_tuned_1 tyX8 tyX8_ok nmX8 0 mg_0 rfl 0 (by decide) kX8_tuned_0 rfl rfl rfl rfl (Nat.le_of_ble_eq_true rfl) ms_0_0 ?_
  refine nmIM (fun I1 eI1 => ?_)
  have hf := bnd_e hf I1 eI1
  refine r_aload_n C dX8_tuned_5 rfl 0 rfl ?_
  refine r_iload_n C dX8_tuned_6 rfl 1 rfl ?_
  obtain ⟨r3, hq2, hf⟩ := bo1_e hf
  refine r_callV (o := some (.int r3)) (w' := (wM g I1 J)) (As := [.int a1]) (rest := []) C (c_X8_isRam hq2) dX8_tuned_7 gX8_tuned_X8_isRam rfl rfl rfl hd_X8_isRam ⟨by decide, by decide⟩ 0 mg_0 rfl rfl rfl rfl (Nat.le_of_ble_eq_true rfl) ?_
  refine r_if_eq (tgt := 39) C dX8_tuned_10 (by decide) (fun q10 => ?_) (fun q10 => ?_)
  · have hf := itp hf q10
    refine r_iconst (v := (-1 : Int32)) C dX8_tuned_39 (by decide) ?_
    exact hr _ _ _ _ _ dX8_tuned_40 rfl hf
  · have hf := itn hf q10
    refine r_iload_n C dX8_tuned_13 rfl 2 rfl ?_
    obtain ⟨r5, hq4, hf⟩ := bo1_e hf
    refine r_callS (o := some (.int r5)) (w' := (wM g I1 J)) (As := [.int a2]) (rest := []) C (c_X8_isMonth hq4) dX8_tuned_14 gX8_tuned_X8_isMonth rfl rfl rfl hd_X8_isMonth ⟨by decide, by decide⟩ rfl rfl (Nat.le_of_ble_eq_true rfl) ?_
    refine r_if_eq (tgt := 39) C dX8_tuned_17 (by decide) (fun q17 => ?_) (fun q17 => ?_)
    · have hf := itp hf q17
      refine r_iconst (v := (-1 : Int32)) C dX8_tuned_39 (by decide) ?_
      exact hr _ _ _ _ _ dX8_tuned_40 rfl hf
    · have hf := itn hf q17
      refine r_iload_n C dX8_tuned_20 rfl 3 rfl ?_
      refine r_iconst (v := (0 : Int32)) C dX8_tuned_21 (by decide) ?_
      refine r_iconst (v := (1 : Int32)) C dX8_tuned_22 (by decide) ?_
      obtain ⟨r7, hq6, hf⟩ := bo1_e hf
      refine r_callS (o := some (.int r7)) (w' := (wM g I1 J)) (As := [.int a3, .int (0 : Int32), .int (1 : Int32)]) (rest := []) C (c_X8_in hq6) dX8_tuned_23 gX8_tuned_X8_in rfl rfl rfl hd_X8_in ⟨by decide, by decide⟩ rfl rfl (Nat.le_of_ble_eq_true rfl) ?_
      refine r_if_eq (tgt := 39) C dX8_tuned_26 (by decide) (fun q26 => ?_) (fun q26 => ?_)
      · have hf := itp hf q26
        refine r_iconst (v := (-1 : Int32)) C dX8_tuned_39 (by decide) ?_
        exact hr _ _ _ _ _ dX8_tuned_40 rfl hf
      · have hf := itn hf q26
        refine r_iload C dX8_tuned_29 4 rfl ?_
        refine r_iconst (v := (0 : Int32)) C dX8_tuned_31 (by decide) ?_
        refine r_iconst (v := (2 : Int32)) C dX8_tuned_32 (by decide) ?_
        obtain ⟨r9, hq8, hf⟩ := bo1_e hf
        refine r_callS (o := some (.int r9)) (w' := (wM g I1 J)) (As := [.int a4, .int (0 : Int32), .int (2 : Int32)]) (rest := []) C (c_X8_in hq8) dX8_tuned_33 gX8_tuned_X8_in rfl rfl rfl hd_X8_in ⟨by decide, by decide⟩ rfl rfl (Nat.le_of_ble_eq_true rfl) ?_
        refine r_if_ne (tgt := 41) C dX8_tuned_36 (by decide) (fun q36 => ?_) (fun q36 => ?_)
        · have hf := itn hf q36
          refine r_aload_n C dX8_tuned_41 rfl 0 rfl ?_
          refine r_iload_n C dX8_tuned_42 rfl 1 rfl ?_
          obtain ⟨I11, J12, hq10, hf⟩ := bo2_e hf
          refine r_callV (o := none) (w' := (wM g I11 J12)) (As := [.int a1]) (rest := []) C (c_X8_takes hq10) dX8_tuned_43 gX8_tuned_X8_takes rfl rfl rfl hd_X8_takes ⟨by decide, by decide⟩ 0 mg_0 rfl rfl rfl rfl (Nat.le_of_ble_eq_true rfl) ?_
          refine r_bipush (v := (-9 : Int32)) C dX8_tuned_46 (by decide) ?_
          refine r_istore (lv' := [(0, .ref (g.1 0)), (1, .int a1), (2, .int a2), (3, .int a3), (4, .int a4), (5, .int (-9 : Int32))]) C dX8_tuned_48 (by decide) [1, 2, 3, 4, 5, 0] rfl ?_
          refine r_bipush (v := (-9 : Int32)) C dX8_tuned_50 (by decide) ?_
          refine r_istore (lv' := [(0, .ref (g.1 0)), (1, .int a1), (2, .int a2), (3, .int a3), (4, .int a4), (5, .int (-9 : Int32)), (6, .int (-9 : Int32))]) C dX8_tuned_52 (by decide) [1, 2, 3, 4, 5, 6, 0] rfl ?_
          refine r_ldc2 (v := (-9 : Int64)) C dX8_tuned_54 kX8_tuned_2 ?_
          refine r_lstore (lv' := [(0, .ref (g.1 0)), (1, .int a1), (2, .int a2), (3, .int a3), (4, .int a4), (5, .int (-9 : Int32)), (6, .int (-9 : Int32)), (7, .long (-9 : Int64))]) C dX8_tuned_57 (by decide) [1, 2, 3, 4, 5, 6, 7, 0] rfl ?_
          refine r_lconst (v := (0 : Int64)) C dX8_tuned_59 (by decide) ?_
          refine r_lstore (lv' := [(0, .ref (g.1 0)), (1, .int a1), (2, .int a2), (3, .int a3), (4, .int a4), (5, .int (-9 : Int32)), (6, .int (-9 : Int32)), (7, .long (-9 : Int64)), (9, .long (0 : Int64))]) C dX8_tuned_60 (by decide) [1, 2, 3, 4, 5, 6, 7, 8, 0] rfl ?_
          refine r_iconst (v := (5 : Int32)) C dX8_tuned_62 (by decide) ?_
          refine r_istore (lv' := [(0, .ref (g.1 0)), (1, .int a1), (2, .int a2), (3, .int a3), (4, .int a4), (5, .int (-9 : Int32)), (6, .int (-9 : Int32)), (7, .long (-9 : Int64)), (9, .long (0 : Int64)), (11, .int (5 : Int32))]) C dX8_tuned_63 (by decide) [1, 2, 3, 4, 5, 6, 7, 8, 9, 0] rfl ?_
          refine V.loc [0, 2, 3, 4, 5, 6, 7, 8, 9] rfl ?_
          exact mL_X8_tuned_65 C hr FU _ _ _ _ _ _ _ _ _ _ hf
        · have hf := itp hf q36
          refine r_iconst (v := (-1 : Int32)) C dX8_tuned_39 (by decide) ?_
          exact hr _ _ _ _ _ dX8_tuned_40 rfl hf
abbrev rmX8_tune : Room := { frames := 1, cells := 0, slots := 0, locals := 22 }
theorem hd_X8_tune : yX8_tune.cls = RX8 ∧ yX8_tune.cls ≠ "java/lang/invoke/MethodHandle" ∧ yX8_tune.cls ≠ "java/lang/invoke/VarHandle" ∧ (parseMethodDescriptor yX8_tune.desc).map (fun d => d.parameters.length) = some 2 := by decide +kernel
theorem kX8_tune_0 : Cond.fieldLink RX8 64 (TX8 0).1 (TX8 0).2.1 (TX8 0).2.2.1 ∈ wsX8_tune := by decide +kernel
theorem kX8_tune_1 : ∀ w ∈ u_ws RX8 TX8 38, w ∈ wsX8_tune := by decide +kernel
theorem kX8_tune_2 : Cond.fieldLink RX8 133 (TX8 14).1 (TX8 14).2.1 (TX8 14).2.2.1 ∈ wsX8_tune := by decide +kernel
theorem kX8_tune_3 : Cond.fieldLink RX8 22 (TX8 15).1 (TX8 15).2.1 (TX8 15).2.2.1 ∈ wsX8_tune := by decide +kernel
theorem kX8_tune_4 : Cond.fieldLink RX8 25 (TX8 16).1 (TX8 16).2.1 (TX8 16).2.2.1 ∈ wsX8_tune := by decide +kernel
set_option maxRecDepth 100000 in
set_option maxHeartbeats 4000000 in
theorem c_X8_tune {l : Launch} {D : va_G} {g : GG} {I : MI} {J : MJ} {a1 : Int32} {a2 : Int32} {r : Int32} {I' : MI} {J' : MJ} (hf : f_X8_tune I J a1 a2 = some (r, I', J')) : CON l yX8_tune wsX8_tune rmX8_tune D g (wM g I J) [.ref (g.1 0), .int a1, .int a2] (some (.int r)) (wM g I' J') := by
  refine con_of (cc := cX8_tune) (maxL := 3) (ret := (some .int)) (by decide) rfl (Nat.le_of_ble_eq_true rfl) rfl rfl ?_
  intro k C hkl hkD h1 h2 h3
  subst hkl; subst hkD
  have hr : RTW k wM g cX8_tune .int (r, I', J') := rtw_of h2
  unfold f_X8_tune at hf
  refine V.loc (lv' := [(0, .ref (g.1 0)), (1, .int a1), (2, .int a2)]) [0, 1, 2] rfl ?_
  refine r_aload_n C dX8_tune_0 rfl 0 rfl ?_
  refine r_iconst (v := (0 : Int32)) C dX8_tune_1 (by decide) ?_
  refine r_put (ty := .int) C dX8_tune_2 kX8_tune_1 tyX8 tyX8_ok nmX8 0 mg_0 rfl 0 (by decide) kX8_tune_0 rfl rfl rfl rfl (Nat.le_of_ble_eq_true rfl) ms_0_0 ?_
  refine nmIM (fun I1 eI1 => ?_)
  have hf := bnd_e hf I1 eI1
  refine r_iload_n C dX8_tune_5 rfl 1 rfl ?_
  refine r_iconst (v := (5 : Int32)) C dX8_tune_6 (by decide) ?_
  refine r_sipush (v := (400 : Int32)) C dX8_tune_7 (by decide) ?_
  obtain ⟨r3, hq2, hf⟩ := bo1_e hf
  refine r_callS (o := some (.int r3)) (w' := (wM g I1 J)) (As := [.int a1, .int (5 : Int32), .int (400 : Int32)]) (rest := []) C (c_X8_in hq2) dX8_tune_10 gX8_tune_X8_in rfl rfl rfl hd_X8_in ⟨by decide, by decide⟩ rfl rfl (Nat.le_of_ble_eq_true rfl) ?_
  refine r_if_eq (tgt := 26) C dX8_tune_13 (by decide) (fun q13 => ?_) (fun q13 => ?_)
  · have hf := itp hf q13
    refine r_iconst (v := (-1 : Int32)) C dX8_tune_26 (by decide) ?_
    exact hr _ _ _ _ _ dX8_tune_27 rfl hf
  · have hf := itn hf q13
    refine r_iload_n C dX8_tune_16 rfl 2 rfl ?_
    refine r_iconst (v := (1 : Int32)) C dX8_tune_17 (by decide) ?_
    refine r_bipush (v := (9 : Int32)) C dX8_tune_18 (by decide) ?_
    obtain ⟨r5, hq4, hf⟩ := bo1_e hf
    refine r_callS (o := some (.int r5)) (w' := (wM g I1 J)) (As := [.int a2, .int (1 : Int32), .int (9 : Int32)]) (rest := []) C (c_X8_in hq4) dX8_tune_20 gX8_tune_X8_in rfl rfl rfl hd_X8_in ⟨by decide, by decide⟩ rfl rfl (Nat.le_of_ble_eq_true rfl) ?_
    refine r_if_ne (tgt := 28) C dX8_tune_23 (by decide) (fun q23 => ?_) (fun q23 => ?_)
    · have hf := itn hf q23
      refine r_aload_n C dX8_tune_28 rfl 0 rfl ?_
      refine r_get C dX8_tune_29 kX8_tune_1 0 mg_0 rfl 14 (by decide) kX8_tune_2 mv_0_14 ?_
      refine r_bipush (v := (6 : Int32)) C dX8_tune_32 (by decide) ?_
      refine r_icmp_ne (tgt := 40) C dX8_tune_34 (by decide) (fun q34 => ?_) (fun q34 => ?_)
      · have hf := itn hf q34
        refine r_aload_n C dX8_tune_40 rfl 0 rfl ?_
        refine r_get C dX8_tune_41 kX8_tune_1 0 mg_0 rfl 15 (by decide) kX8_tune_3 mv_0_15 ?_
        refine r_aload_n C dX8_tune_44 rfl 0 rfl ?_
        refine r_get C dX8_tune_45 kX8_tune_1 0 mg_0 rfl 14 (by decide) kX8_tune_2 mv_0_14 ?_
        refine r_iload_n C dX8_tune_48 rfl 1 rfl ?_
        obtain ⟨h6, hf⟩ := chk_e hf
        refine r_iast (j := (I1 0 14).toNatClampNeg) C dX8_tune_49 5 mg_5 (inb_e h6) rfl ma_5 ?_
        refine nmIM (fun I7 eI7 => ?_)
        have hf := bnd_e hf I7 eI7
        refine r_aload_n C dX8_tune_50 rfl 0 rfl ?_
        refine r_get C dX8_tune_51 kX8_tune_1 0 mg_0 rfl 16 (by decide) kX8_tune_4 mv_0_16 ?_
        refine r_aload_n C dX8_tune_54 rfl 0 rfl ?_
        refine r_get C dX8_tune_55 kX8_tune_1 0 mg_0 rfl 14 (by decide) kX8_tune_2 mv_0_14 ?_
        refine r_iload_n C dX8_tune_58 rfl 2 rfl ?_
        obtain ⟨h8, hf⟩ := chk_e hf
        refine r_iast (j := (I7 0 14).toNatClampNeg) C dX8_tune_59 6 mg_6 (inb_e h8) rfl ma_6 ?_
        refine nmIM (fun I9 eI9 => ?_)
        have hf := bnd_e hf I9 eI9
        refine r_aload_n C dX8_tune_60 rfl 0 rfl ?_
        refine r_dup C dX8_tune_61 rfl ?_
        refine r_get C dX8_tune_62 kX8_tune_1 0 mg_0 rfl 14 (by decide) kX8_tune_2 mv_0_14 ?_
        refine r_iconst (v := (1 : Int32)) C dX8_tune_65 (by decide) ?_
        refine r_iadd C dX8_tune_66 ?_
        refine r_put (ty := .int) C dX8_tune_67 kX8_tune_1 tyX8 tyX8_ok nmX8 0 mg_0 rfl 14 (by decide) kX8_tune_2 rfl rfl rfl rfl (Nat.le_of_ble_eq_true rfl) ms_0_14 ?_
        refine nmIM (fun I10 eI10 => ?_)
        have hf := bnd_e hf I10 eI10
        refine r_aload_n C dX8_tune_70 rfl 0 rfl ?_
        refine r_get C dX8_tune_71 kX8_tune_1 0 mg_0 rfl 14 (by decide) kX8_tune_2 mv_0_14 ?_
        refine r_iconst (v := (1 : Int32)) C dX8_tune_74 (by decide) ?_
        refine r_isub C dX8_tune_75 ?_
        exact hr _ _ _ _ _ dX8_tune_76 rfl hf
      · have hf := itp hf q34
        refine r_bipush (v := (-3 : Int32)) C dX8_tune_37 (by decide) ?_
        exact hr _ _ _ _ _ dX8_tune_39 rfl hf
    · have hf := itp hf q23
      refine r_iconst (v := (-1 : Int32)) C dX8_tune_26 (by decide) ?_
      exact hr _ _ _ _ _ dX8_tune_27 rfl hf
abbrev rmX8_forget : Room := { frames := 0, cells := 0, slots := 0, locals := 0 }
theorem hd_X8_forget : yX8_forget.cls = RX8 ∧ yX8_forget.cls ≠ "java/lang/invoke/MethodHandle" ∧ yX8_forget.cls ≠ "java/lang/invoke/VarHandle" ∧ (parseMethodDescriptor yX8_forget.desc).map (fun d => d.parameters.length) = some 0 := by decide +kernel
theorem kX8_forget_0 : Cond.fieldLink RX8 64 (TX8 0).1 (TX8 0).2.1 (TX8 0).2.2.1 ∈ wsX8_forget := by decide +kernel
theorem kX8_forget_1 : ∀ w ∈ u_ws RX8 TX8 38, w ∈ wsX8_forget := by decide +kernel
theorem kX8_forget_2 : Cond.fieldLink RX8 133 (TX8 14).1 (TX8 14).2.1 (TX8 14).2.2.1 ∈ wsX8_forget := by decide +kernel
set_option maxRecDepth 100000 in
set_option maxHeartbeats 4000000 in
theorem c_X8_forget {l : Launch} {D : va_G} {g : GG} {I : MI} {J : MJ} {r : Int32} {I' : MI} {J' : MJ} (hf : f_X8_forget I J = some (r, I', J')) : CON l yX8_forget wsX8_forget rmX8_forget D g (wM g I J) [.ref (g.1 0)] (some (.int r)) (wM g I' J') := by
  refine con_of (cc := cX8_forget) (maxL := 2) (ret := (some .int)) (by decide) rfl (Nat.le_of_ble_eq_true rfl) rfl rfl ?_
  intro k C hkl hkD h1 h2 h3
  subst hkl; subst hkD
  have hr : RTW k wM g cX8_forget .int (r, I', J') := rtw_of h2
  unfold f_X8_forget at hf
  refine V.loc (lv' := [(0, .ref (g.1 0))]) [0] rfl ?_
  refine r_aload_n C dX8_forget_0 rfl 0 rfl ?_
  refine r_iconst (v := (0 : Int32)) C dX8_forget_1 (by decide) ?_
  refine r_put (ty := .int) C dX8_forget_2 kX8_forget_1 tyX8 tyX8_ok nmX8 0 mg_0 rfl 0 (by decide) kX8_forget_0 rfl rfl rfl rfl (Nat.le_of_ble_eq_true rfl) ms_0_0 ?_
  refine nmIM (fun I1 eI1 => ?_)
  have hf := bnd_e hf I1 eI1
  refine r_aload_n C dX8_forget_5 rfl 0 rfl ?_
  refine r_get C dX8_forget_6 kX8_forget_1 0 mg_0 rfl 14 (by decide) kX8_forget_2 mv_0_14 ?_
  refine r_nmi (fun v2 ev2 => ?_)
  have hf := bnd_e hf v2 ev2
  refine r_istore_n (lv' := [(0, .ref (g.1 0)), (1, .int v2)]) C dX8_forget_9 rfl (by decide) [1, 0] rfl ?_
  refine r_aload_n C dX8_forget_10 rfl 0 rfl ?_
  refine r_iconst (v := (0 : Int32)) C dX8_forget_11 (by decide) ?_
  refine r_put (ty := .int) C dX8_forget_12 kX8_forget_1 tyX8 tyX8_ok nmX8 0 mg_0 rfl 14 (by decide) kX8_forget_2 rfl rfl rfl rfl (Nat.le_of_ble_eq_true rfl) ms_0_14 ?_
  refine nmIM (fun I3 eI3 => ?_)
  have hf := bnd_e hf I3 eI3
  refine r_iload_n C dX8_forget_15 rfl 1 rfl ?_
  exact hr _ _ _ _ _ dX8_forget_16 rfl hf
abbrev rmX8_numbers : Room := { frames := 0, cells := 0, slots := 0, locals := 0 }
theorem hd_X8_numbers : yX8_numbers.cls = RX8 ∧ yX8_numbers.cls ≠ "java/lang/invoke/MethodHandle" ∧ yX8_numbers.cls ≠ "java/lang/invoke/VarHandle" ∧ (parseMethodDescriptor yX8_numbers.desc).map (fun d => d.parameters.length) = some 0 := by decide +kernel
theorem kX8_numbers_0 : Cond.fieldLink RX8 67 (TX8 2).1 (TX8 2).2.1 (TX8 2).2.2.1 ∈ wsX8_numbers := by decide +kernel
theorem kX8_numbers_1 : ∀ w ∈ u_ws RX8 TX8 38, w ∈ wsX8_numbers := by decide +kernel
set_option maxRecDepth 100000 in
set_option maxHeartbeats 4000000 in
theorem mB_X8_numbers_4 {k : CT} {g : GG} {I : MI} {J : MJ} (C : CX k cX8_numbers 3 RX8 wsX8_numbers rmX8_numbers g) {ρ : Int32} (hr : RRW k (wM g I J) cX8_numbers .int ρ) {kk4 : Int32 → Int32 → Option Int32} (hk4 : ∀ (x1 : Int32) (x2 : Int32), kk4 x1 x2 = some ρ → V k (wM g I J) 4 [(0, .ref (g.1 0)), (1, .int x1), (2, .int x2)] []) : ∀ (x1 : Int32) (x2 : Int32), LB_X8_numbers_4 I J kk4 x1 x2 = some ρ → V k (wM g I J) 4 [(0, .ref (g.1 0)), (1, .int x1), (2, .int x2)] [] := by
  intro x1 x2 hf
  unfold LB_X8_numbers_4 at hf
  refine r_iload_n C dX8_numbers_4 rfl 2 rfl ?_
  refine r_aload_n C dX8_numbers_5 rfl 0 rfl ?_
  refine r_get C dX8_numbers_6 kX8_numbers_1 0 mg_0 rfl 2 (by decide) kX8_numbers_0 mv_0_2 ?_
  refine r_icmp_ge (tgt := 23) C dX8_numbers_9 (by decide) (fun q9 => ?_) (fun q9 => ?_)
  · have hf := itp hf q9
    refine r_iload_n C dX8_numbers_23 rfl 1 rfl ?_
    exact hr _ _ _ dX8_numbers_24 rfl hf
  · have hf := itn hf q9
    refine r_iload_n C dX8_numbers_12 rfl 1 rfl ?_
    refine r_bipush (v := (7 : Int32)) C dX8_numbers_13 (by decide) ?_
    refine r_imul C dX8_numbers_15 ?_
    refine r_nmi (fun v1 ev1 => ?_)
    have hf := bnd_e hf v1 ev1
    refine r_istore_n (lv' := [(0, .ref (g.1 0)), (1, .int v1), (2, .int x2)]) C dX8_numbers_16 rfl (by decide) [1, 0, 2] rfl ?_
    obtain ⟨v2, ev2⟩ : ∃ z : Int32, z = x2 + (1 : Int32) := ⟨_, rfl⟩
    have hf := bnd_e hf v2 ev2
    refine r_iinc (v := v2) (lv' := [(0, .ref (g.1 0)), (1, .int v1), (2, .int v2)]) C dX8_numbers_17 2 rfl (by rw [ev2]; rfl) (by decide) [1, 2, 0] rfl ?_
    refine r_goto (tgt := 4) C dX8_numbers_20 (by decide) ?_
    exact hk4 _ _ hf
theorem mL_X8_numbers_4 {k : CT} {g : GG} {I : MI} {J : MJ} (C : CX k cX8_numbers 3 RX8 wsX8_numbers rmX8_numbers g) {ρ : Int32} (hr : RRW k (wM g I J) cX8_numbers .int ρ) : ∀ (n : Nat) (x1 : Int32) (x2 : Int32), LP_X8_numbers_4 I J n x1 x2 = some ρ → V k (wM g I J) 4 [(0, .ref (g.1 0)), (1, .int x1), (2, .int x2)] [] := by
  intro n
  induction n with
  | zero => intro x1 x2 hf; cases hf
  | succ n ih => intro x1 x2 hf; exact mB_X8_numbers_4 C hr (fun x1 x2 h => ih x1 x2 h) x1 x2 hf
set_option maxRecDepth 100000 in
set_option maxHeartbeats 4000000 in
theorem c_X8_numbers {l : Launch} {D : va_G} {g : GG} {I : MI} {J : MJ} {r : Int32} (hf : f_X8_numbers I J = some r) : CON l yX8_numbers wsX8_numbers rmX8_numbers D g (wM g I J) [.ref (g.1 0)] (some (.int r)) (wM g I J) := by
  refine con_of (cc := cX8_numbers) (maxL := 3) (ret := (some .int)) (by decide) rfl (Nat.le_of_ble_eq_true rfl) rfl rfl ?_
  intro k C hkl hkD h1 h2 h3
  subst hkl; subst hkD
  have hr : RRW k (wM g I J) cX8_numbers .int r := rrw_of h2
  unfold f_X8_numbers at hf
  refine V.loc (lv' := [(0, .ref (g.1 0))]) [0] rfl ?_
  refine r_iconst (v := (1 : Int32)) C dX8_numbers_0 (by decide) ?_
  refine r_istore_n (lv' := [(0, .ref (g.1 0)), (1, .int (1 : Int32))]) C dX8_numbers_1 rfl (by decide) [1, 0] rfl ?_
  refine r_iconst (v := (0 : Int32)) C dX8_numbers_2 (by decide) ?_
  refine r_istore_n (lv' := [(0, .ref (g.1 0)), (1, .int (1 : Int32)), (2, .int (0 : Int32))]) C dX8_numbers_3 rfl (by decide) [1, 2, 0] rfl ?_
  exact mL_X8_numbers_4 C hr FU _ _ hf
