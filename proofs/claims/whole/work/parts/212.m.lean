abbrev rmX8_side : Room := { frames := 2, cells := 0, slots := 0, locals := 47 }
theorem hd_X8_side : yX8_side.cls = RX8 ∧ yX8_side.cls ≠ "java/lang/invoke/MethodHandle" ∧ yX8_side.cls ≠ "java/lang/invoke/VarHandle" ∧ (parseMethodDescriptor yX8_side.desc).map (fun d => d.parameters.length) = some 2 := by decide +kernel
theorem kX8_side_0 : Cond.fieldLink RX8 64 (TX8 0).1 (TX8 0).2.1 (TX8 0).2.2.1 ∈ wsX8_side := by decide +kernel
theorem kX8_side_1 : ∀ w ∈ u_ws RX8 TX8 38, w ∈ wsX8_side := by decide +kernel
theorem kX8_side_2 : Jvm.Cond.constantLong RX8 136 (-1) ∈ wsX8_side := by decide +kernel
theorem kX8_side_3 : Cond.fieldLink RX8 67 (TX8 2).1 (TX8 2).2.1 (TX8 2).2.2.1 ∈ wsX8_side := by decide +kernel
theorem kX8_side_4 : Cond.fieldLink RX8 16 (TX8 10).1 (TX8 10).2.1 (TX8 10).2.2.1 ∈ wsX8_side := by decide +kernel
theorem kX8_side_5 : Cond.fieldLink RX8 133 (TX8 14).1 (TX8 14).2.1 (TX8 14).2.2.1 ∈ wsX8_side := by decide +kernel
theorem kX8_side_6 : Cond.fieldLink RX8 13 (TX8 4).1 (TX8 4).2.1 (TX8 4).2.2.1 ∈ wsX8_side := by decide +kernel
theorem kX8_side_7 : Cond.fieldLink RX8 109 (TX8 9).1 (TX8 9).2.1 (TX8 9).2.2.1 ∈ wsX8_side := by decide +kernel
theorem kX8_side_8 : Cond.fieldLink RX8 103 (TX8 8).1 (TX8 8).2.1 (TX8 8).2.2.1 ∈ wsX8_side := by decide +kernel
theorem kX8_side_9 : Cond.fieldLink RX8 100 (TX8 7).1 (TX8 7).2.1 (TX8 7).2.2.1 ∈ wsX8_side := by decide +kernel
theorem kX8_side_10 : Cond.fieldLink RX8 25 (TX8 16).1 (TX8 16).2.1 (TX8 16).2.2.1 ∈ wsX8_side := by decide +kernel
theorem kX8_side_11 : Cond.fieldLink RX8 22 (TX8 15).1 (TX8 15).2.1 (TX8 15).2.2.1 ∈ wsX8_side := by decide +kernel
set_option maxRecDepth 100000 in
set_option maxHeartbeats 4000000 in
theorem mB_X8_side_234 {k : CT} {g : GG} (C : CX k cX8_side 15 RX8 wsX8_side rmX8_side g) {ρ : (Int32 × MI × MJ)} (hr : RTW k wM g cX8_side .int ρ) {kk33 : MI → MJ → Int32 → Int32 → Int32 → Int64 → Int32 → Option (Int32 × MI × MJ)} (hk33 : ∀ (I : MI) (J : MJ) (x1 : Int32) (x2 : Int32) (x3 : Int32) (y4 : Int64) (x6 : Int32), kk33 I J x1 x2 x3 y4 x6 = some ρ → V k (wM g I J) 33 [(0, .ref (g.1 0)), (1, .int x1), (2, .int x2), (3, .int x3), (4, .long y4), (6, .int x6)] []) : ∀ (I : MI) (J : MJ) (x1 : Int32) (x2 : Int32) (x3 : Int32) (y4 : Int64) (x6 : Int32) (y8 : Int64) (y10 : Int64) (x12 : Int32), LB_X8_side_234 kk33 I J x1 x2 x3 y4 x6 y8 y10 x12 = some ρ → V k (wM g I J) 234 [(0, .ref (g.1 0)), (1, .int x1), (2, .int x2), (3, .int x3), (4, .long y4), (6, .int x6), (8, .long y8), (10, .long y10), (12, .int x12)] [] := by
  intro I J x1 x2 x3 y4 x6 y8 y10 x12 hf
  unfold LB_X8_side_234 at hf
  refine r_iload C dX8_side_234 8 rfl ?_
  refine r_if_eq (tgt := 267) C dX8_side_236 (by decide) (fun q236 => ?_) (fun q236 => ?_)
  · have hf := itp hf q236
    obtain ⟨v1, ev1⟩ : ∃ z : Int32, z = x6 + (1 : Int32) := ⟨_, rfl⟩
    have hf := bnd_e hf v1 ev1
    refine r_iinc (v := v1) (lv' := [(0, .ref (g.1 0)), (1, .int x1), (2, .int x2), (3, .int x3), (4, .long y4), (6, .int v1), (8, .long y8), (10, .long y10), (12, .int x12)]) C dX8_side_267 5 rfl (by rw [ev1]; rfl) (by decide) [1, 2, 3, 4, 5, 0, 6, 7, 8] rfl ?_
    refine r_goto (tgt := 33) C dX8_side_270 (by decide) ?_
    refine V.loc [0, 1, 2, 3, 4, 5] rfl ?_
    exact hk33 _ _ _ _ _ _ _ hf
  · have hf := itn hf q236
    refine r_lload C dX8_side_239 7 rfl ?_
    refine r_aload_n C dX8_side_241 rfl 0 rfl ?_
    refine r_get C dX8_side_242 kX8_side_1 0 mg_0 rfl 10 (by decide) kX8_side_4 mv_0_10 ?_
    refine r_iload_n C dX8_side_245 rfl 1 rfl ?_
    obtain ⟨h2, hf⟩ := chk_e hf
    refine r_iald (j := x1.toNatClampNeg) C dX8_side_246 3 mg_3 (inb_e h2) rfl ?_
    refine r_i2l C dX8_side_247 ?_
    refine r_lcmp_gt (tgt := 267) C dX8_side_248 dX8_side_249 (by decide) (fun q248 => ?_) (fun q248 => ?_)
    · have hf := itp hf q248
      obtain ⟨v3, ev3⟩ : ∃ z : Int32, z = x6 + (1 : Int32) := ⟨_, rfl⟩
      have hf := bnd_e hf v3 ev3
      refine r_iinc (v := v3) (lv' := [(0, .ref (g.1 0)), (1, .int x1), (2, .int x2), (3, .int x3), (4, .long y4), (6, .int v3), (8, .long y8), (10, .long y10), (12, .int x12)]) C dX8_side_267 5 rfl (by rw [ev3]; rfl) (by decide) [1, 2, 3, 4, 5, 0, 6, 7, 8] rfl ?_
      refine r_goto (tgt := 33) C dX8_side_270 (by decide) ?_
      refine V.loc [0, 1, 2, 3, 4, 5] rfl ?_
      exact hk33 _ _ _ _ _ _ _ hf
    · have hf := itn hf q248
      refine r_lload C dX8_side_252 6 rfl ?_
      refine r_lload C dX8_side_254 4 rfl ?_
      refine r_lcmp_le (tgt := 267) C dX8_side_256 dX8_side_257 (by decide) (fun q256 => ?_) (fun q256 => ?_)
      · have hf := itp hf q256
        obtain ⟨v4, ev4⟩ : ∃ z : Int32, z = x6 + (1 : Int32) := ⟨_, rfl⟩
        have hf := bnd_e hf v4 ev4
        refine r_iinc (v := v4) (lv' := [(0, .ref (g.1 0)), (1, .int x1), (2, .int x2), (3, .int x3), (4, .long y4), (6, .int v4), (8, .long y8), (10, .long y10), (12, .int x12)]) C dX8_side_267 5 rfl (by rw [ev4]; rfl) (by decide) [1, 2, 3, 4, 5, 0, 6, 7, 8] rfl ?_
        refine r_goto (tgt := 33) C dX8_side_270 (by decide) ?_
        refine V.loc [0, 1, 2, 3, 4, 5] rfl ?_
        exact hk33 _ _ _ _ _ _ _ hf
      · have hf := itn hf q256
        refine r_lload C dX8_side_260 6 rfl ?_
        refine r_lstore (lv' := [(0, .ref (g.1 0)), (1, .int x1), (2, .int x2), (3, .int x3), (4, .long y8), (6, .int x6), (8, .long y8), (10, .long y10), (12, .int x12)]) C dX8_side_262 (by decide) [1, 2, 3, 4, 0, 5, 6, 7, 8] rfl ?_
        refine r_iload C dX8_side_264 5 rfl ?_
        refine r_istore_n (lv' := [(0, .ref (g.1 0)), (1, .int x1), (2, .int x2), (3, .int x6), (4, .long y8), (6, .int x6), (8, .long y8), (10, .long y10), (12, .int x12)]) C dX8_side_266 rfl (by decide) [1, 2, 3, 0, 4, 5, 6, 7, 8] rfl ?_
        obtain ⟨v5, ev5⟩ : ∃ z : Int32, z = x6 + (1 : Int32) := ⟨_, rfl⟩
        have hf := bnd_e hf v5 ev5
        refine r_iinc (v := v5) (lv' := [(0, .ref (g.1 0)), (1, .int x1), (2, .int x2), (3, .int x6), (4, .long y8), (6, .int v5), (8, .long y8), (10, .long y10), (12, .int x12)]) C dX8_side_267 5 rfl (by rw [ev5]; rfl) (by decide) [1, 2, 3, 4, 5, 0, 6, 7, 8] rfl ?_
        refine r_goto (tgt := 33) C dX8_side_270 (by decide) ?_
        refine V.loc [0, 1, 2, 3, 4, 5] rfl ?_
        exact hk33 _ _ _ _ _ _ _ hf
set_option maxRecDepth 100000 in
set_option maxHeartbeats 4000000 in
theorem mB_X8_side_178 {k : CT} {g : GG} (C : CX k cX8_side 15 RX8 wsX8_side rmX8_side g) {ρ : (Int32 × MI × MJ)} (hr : RTW k wM g cX8_side .int ρ) {kk33 : MI → MJ → Int32 → Int32 → Int32 → Int64 → Int32 → Option (Int32 × MI × MJ)} {kk58 : MI → MJ → Int32 → Int32 → Int32 → Int64 → Int32 → Int32 → Int64 → Int64 → Int32 → Int32 → Option (Int32 × MI × MJ)} (hk33 : ∀ (I : MI) (J : MJ) (x1 : Int32) (x2 : Int32) (x3 : Int32) (y4 : Int64) (x6 : Int32), kk33 I J x1 x2 x3 y4 x6 = some ρ → V k (wM g I J) 33 [(0, .ref (g.1 0)), (1, .int x1), (2, .int x2), (3, .int x3), (4, .long y4), (6, .int x6)] []) (hk58 : ∀ (I : MI) (J : MJ) (x1 : Int32) (x2 : Int32) (x3 : Int32) (y4 : Int64) (x6 : Int32) (x7 : Int32) (y8 : Int64) (y10 : Int64) (x12 : Int32) (x13 : Int32), kk58 I J x1 x2 x3 y4 x6 x7 y8 y10 x12 x13 = some ρ → V k (wM g I J) 58 [(0, .ref (g.1 0)), (1, .int x1), (2, .int x2), (3, .int x3), (4, .long y4), (6, .int x6), (7, .int x7), (8, .long y8), (10, .long y10), (12, .int x12), (13, .int x13)] []) : ∀ (I : MI) (J : MJ) (x1 : Int32) (x2 : Int32) (x3 : Int32) (y4 : Int64) (x6 : Int32) (x7 : Int32) (y8 : Int64) (y10 : Int64) (x13 : Int32) (s0 : Int32), LB_X8_side_178 kk33 kk58 I J x1 x2 x3 y4 x6 x7 y8 y10 x13 s0 = some ρ → V k (wM g I J) 178 [(0, .ref (g.1 0)), (1, .int x1), (2, .int x2), (3, .int x3), (4, .long y4), (6, .int x6), (7, .int x7), (8, .long y8), (10, .long y10), (13, .int x13)] [.int s0] := by
  intro I J x1 x2 x3 y4 x6 x7 y8 y10 x13 s0 hf
  unfold LB_X8_side_178 at hf
  refine r_istore (lv' := [(0, .ref (g.1 0)), (1, .int x1), (2, .int x2), (3, .int x3), (4, .long y4), (6, .int x6), (7, .int x7), (8, .long y8), (10, .long y10), (12, .int s0), (13, .int x13)]) C dX8_side_178 (by decide) [1, 2, 3, 4, 5, 6, 7, 8, 9, 0, 10] rfl ?_
  refine r_iload C dX8_side_180 9 rfl ?_
  refine r_if_eq (tgt := 228) C dX8_side_182 (by decide) (fun q182 => ?_) (fun q182 => ?_)
  · have hf := itp hf q182
    obtain ⟨v1, ev1⟩ : ∃ z : Int32, z = x13 + (1 : Int32) := ⟨_, rfl⟩
    have hf := bnd_e hf v1 ev1
    refine r_iinc (v := v1) (lv' := [(0, .ref (g.1 0)), (1, .int x1), (2, .int x2), (3, .int x3), (4, .long y4), (6, .int x6), (7, .int x7), (8, .long y8), (10, .long y10), (12, .int s0), (13, .int v1)]) C dX8_side_228 10 rfl (by rw [ev1]; rfl) (by decide) [1, 2, 3, 4, 5, 6, 7, 8, 9, 10, 0] rfl ?_
    refine r_goto (tgt := 58) C dX8_side_231 (by decide) ?_
    exact hk58 _ _ _ _ _ _ _ _ _ _ _ _ hf
  · have hf := itn hf q182
    refine r_lload C dX8_side_185 7 rfl ?_
    refine r_sipush (v := (3600 : Int32)) C dX8_side_187 (by decide) ?_
    refine r_aload_n C dX8_side_190 rfl 0 rfl ?_
    refine r_get C dX8_side_191 kX8_side_1 0 mg_0 rfl 9 (by decide) kX8_side_7 mv_0_9 ?_
    obtain ⟨h2, hf⟩ := chk_e hf
    refine r_idiv C dX8_side_194 (nz_e h2) ?_
    refine r_i2l C dX8_side_195 ?_
    refine r_aload_n C dX8_side_196 rfl 0 rfl ?_
    refine r_get C dX8_side_197 kX8_side_1 0 mg_0 rfl 8 (by decide) kX8_side_8 mv_0_8 ?_
    refine r_lmul C dX8_side_200 ?_
    refine r_ladd C dX8_side_201 ?_
    refine r_nml (fun v3 ev3 => ?_)
    have hf := bnd_e hf v3 ev3
    refine r_lstore (lv' := [(0, .ref (g.1 0)), (1, .int x1), (2, .int x2), (3, .int x3), (4, .long y4), (6, .int x6), (7, .int x7), (8, .long v3), (10, .long y10), (12, .int s0), (13, .int x13)]) C dX8_side_202 (by decide) [1, 2, 3, 4, 5, 6, 7, 0, 8, 9, 10] rfl ?_
    refine r_lload C dX8_side_204 8 rfl ?_
    refine r_sipush (v := (3600 : Int32)) C dX8_side_206 (by decide) ?_
    refine r_aload_n C dX8_side_209 rfl 0 rfl ?_
    refine r_get C dX8_side_210 kX8_side_1 0 mg_0 rfl 9 (by decide) kX8_side_7 mv_0_9 ?_
    obtain ⟨h4, hf⟩ := chk_e hf
    refine r_idiv C dX8_side_213 (nz_e h4) ?_
    refine r_i2l C dX8_side_214 ?_
    refine r_aload_n C dX8_side_215 rfl 0 rfl ?_
    refine r_get C dX8_side_216 kX8_side_1 0 mg_0 rfl 7 (by decide) kX8_side_9 mv_0_7 ?_
    refine r_aload_n C dX8_side_219 rfl 0 rfl ?_
    refine r_get C dX8_side_220 kX8_side_1 0 mg_0 rfl 8 (by decide) kX8_side_8 mv_0_8 ?_
    refine r_ladd C dX8_side_223 ?_
    refine r_lmul C dX8_side_224 ?_
    refine r_ladd C dX8_side_225 ?_
    refine r_nml (fun v5 ev5 => ?_)
    have hf := bnd_e hf v5 ev5
    refine r_lstore (lv' := [(0, .ref (g.1 0)), (1, .int x1), (2, .int x2), (3, .int x3), (4, .long y4), (6, .int x6), (7, .int x7), (8, .long v3), (10, .long v5), (12, .int s0), (13, .int x13)]) C dX8_side_226 (by decide) [1, 2, 3, 4, 5, 6, 7, 8, 0, 9, 10] rfl ?_
    obtain ⟨v6, ev6⟩ : ∃ z : Int32, z = x13 + (1 : Int32) := ⟨_, rfl⟩
    have hf := bnd_e hf v6 ev6
    refine r_iinc (v := v6) (lv' := [(0, .ref (g.1 0)), (1, .int x1), (2, .int x2), (3, .int x3), (4, .long y4), (6, .int x6), (7, .int x7), (8, .long v3), (10, .long v5), (12, .int s0), (13, .int v6)]) C dX8_side_228 10 rfl (by rw [ev6]; rfl) (by decide) [1, 2, 3, 4, 5, 6, 7, 8, 9, 10, 0] rfl ?_
    refine r_goto (tgt := 58) C dX8_side_231 (by decide) ?_
    exact hk58 _ _ _ _ _ _ _ _ _ _ _ _ hf
set_option maxRecDepth 100000 in
set_option maxHeartbeats 4000000 in
theorem mB_X8_side_177 {k : CT} {g : GG} (C : CX k cX8_side 15 RX8 wsX8_side rmX8_side g) {ρ : (Int32 × MI × MJ)} (hr : RTW k wM g cX8_side .int ρ) {kk33 : MI → MJ → Int32 → Int32 → Int32 → Int64 → Int32 → Option (Int32 × MI × MJ)} {kk58 : MI → MJ → Int32 → Int32 → Int32 → Int64 → Int32 → Int32 → Int64 → Int64 → Int32 → Int32 → Option (Int32 × MI × MJ)} (hk33 : ∀ (I : MI) (J : MJ) (x1 : Int32) (x2 : Int32) (x3 : Int32) (y4 : Int64) (x6 : Int32), kk33 I J x1 x2 x3 y4 x6 = some ρ → V k (wM g I J) 33 [(0, .ref (g.1 0)), (1, .int x1), (2, .int x2), (3, .int x3), (4, .long y4), (6, .int x6)] []) (hk58 : ∀ (I : MI) (J : MJ) (x1 : Int32) (x2 : Int32) (x3 : Int32) (y4 : Int64) (x6 : Int32) (x7 : Int32) (y8 : Int64) (y10 : Int64) (x12 : Int32) (x13 : Int32), kk58 I J x1 x2 x3 y4 x6 x7 y8 y10 x12 x13 = some ρ → V k (wM g I J) 58 [(0, .ref (g.1 0)), (1, .int x1), (2, .int x2), (3, .int x3), (4, .long y4), (6, .int x6), (7, .int x7), (8, .long y8), (10, .long y10), (12, .int x12), (13, .int x13)] []) : ∀ (I : MI) (J : MJ) (x1 : Int32) (x2 : Int32) (x3 : Int32) (y4 : Int64) (x6 : Int32) (x7 : Int32) (y8 : Int64) (y10 : Int64) (x13 : Int32), LB_X8_side_177 kk33 kk58 I J x1 x2 x3 y4 x6 x7 y8 y10 x13 = some ρ → V k (wM g I J) 177 [(0, .ref (g.1 0)), (1, .int x1), (2, .int x2), (3, .int x3), (4, .long y4), (6, .int x6), (7, .int x7), (8, .long y8), (10, .long y10), (13, .int x13)] [] := by
  intro I J x1 x2 x3 y4 x6 x7 y8 y10 x13 hf
  unfold LB_X8_side_177 at hf
  refine r_iconst (v := (0 : Int32)) C dX8_side_177 (by decide) ?_
  exact mB_X8_side_178 C hr hk33 hk58 _ _ _ _ _ _ _ _ _ _ _ _ hf
set_option maxRecDepth 100000 in
set_option maxHeartbeats 4000000 in
theorem mB_X8_side_160 {k : CT} {g : GG} (C : CX k cX8_side 15 RX8 wsX8_side rmX8_side g) {ρ : (Int32 × MI × MJ)} (hr : RTW k wM g cX8_side .int ρ) {kk33 : MI → MJ → Int32 → Int32 → Int32 → Int64 → Int32 → Option (Int32 × MI × MJ)} {kk58 : MI → MJ → Int32 → Int32 → Int32 → Int64 → Int32 → Int32 → Int64 → Int64 → Int32 → Int32 → Option (Int32 × MI × MJ)} (hk33 : ∀ (I : MI) (J : MJ) (x1 : Int32) (x2 : Int32) (x3 : Int32) (y4 : Int64) (x6 : Int32), kk33 I J x1 x2 x3 y4 x6 = some ρ → V k (wM g I J) 33 [(0, .ref (g.1 0)), (1, .int x1), (2, .int x2), (3, .int x3), (4, .long y4), (6, .int x6)] []) (hk58 : ∀ (I : MI) (J : MJ) (x1 : Int32) (x2 : Int32) (x3 : Int32) (y4 : Int64) (x6 : Int32) (x7 : Int32) (y8 : Int64) (y10 : Int64) (x12 : Int32) (x13 : Int32), kk58 I J x1 x2 x3 y4 x6 x7 y8 y10 x12 x13 = some ρ → V k (wM g I J) 58 [(0, .ref (g.1 0)), (1, .int x1), (2, .int x2), (3, .int x3), (4, .long y4), (6, .int x6), (7, .int x7), (8, .long y8), (10, .long y10), (12, .int x12), (13, .int x13)] []) : ∀ (I : MI) (J : MJ) (x1 : Int32) (x2 : Int32) (x3 : Int32) (y4 : Int64) (x6 : Int32) (x7 : Int32) (y8 : Int64) (y10 : Int64) (x12 : Int32) (x13 : Int32) (s1 : Int32) (s2 : Int32), LB_X8_side_160 kk33 kk58 I J x1 x2 x3 y4 x6 x7 y8 y10 x12 x13 s1 s2 = some ρ → V k (wM g I J) 160 [(0, .ref (g.1 0)), (1, .int x1), (2, .int x2), (3, .int x3), (4, .long y4), (6, .int x6), (7, .int x7), (8, .long y8), (10, .long y10), (12, .int x12), (13, .int x13)] [.int s2, .int s1, .ref (g.1 2)] := by
  intro I J x1 x2 x3 y4 x6 x7 y8 y10 x12 x13 s1 s2 hf
  unfold LB_X8_side_160 at hf
  obtain ⟨h1, hf⟩ := chk_e hf
  refine r_iast (j := s1.toNatClampNeg) C dX8_side_160 2 mg_2 (inb_e h1) rfl ma_2 ?_
  refine nmIM (fun I2 eI2 => ?_)
  have hf := bnd_e hf I2 eI2
  refine r_iload C dX8_side_161 9 rfl ?_
  refine r_if_eq (tgt := 177) C dX8_side_163 (by decide) (fun q163 => ?_) (fun q163 => ?_)
  · have hf := itp hf q163
    refine V.loc [0, 1, 2, 3, 4, 5, 6, 7, 8, 10] rfl ?_
    exact mB_X8_side_177 C hr hk33 hk58 _ _ _ _ _ _ _ _ _ _ _ hf
  · have hf := itn hf q163
    refine r_aload_n C dX8_side_166 rfl 0 rfl ?_
    obtain ⟨r6, I4, J5, hq3, hf⟩ := bo3_e hf
    refine r_callV (o := some (.int r6)) (w' := (wM g I4 J5)) (As := []) (rest := []) C (c_X8_beats hq3) dX8_side_167 gX8_side_X8_beats rfl rfl rfl hd_X8_beats ⟨by decide, by decide⟩ 0 mg_0 rfl rfl rfl rfl (Nat.le_of_ble_eq_true rfl) ?_
    refine r_if_eq (tgt := 177) C dX8_side_170 (by decide) (fun q170 => ?_) (fun q170 => ?_)
    · have hf := itp hf q170
      refine V.loc [0, 1, 2, 3, 4, 5, 6, 7, 8, 10] rfl ?_
      exact mB_X8_side_177 C hr hk33 hk58 _ _ _ _ _ _ _ _ _ _ _ hf
    · have hf := itn hf q170
      refine r_iconst (v := (1 : Int32)) C dX8_side_173 (by decide) ?_
      refine r_goto (tgt := 178) C dX8_side_174 (by decide) ?_
      refine V.loc [0, 1, 2, 3, 4, 5, 6, 7, 8, 10] rfl ?_
      exact mB_X8_side_178 C hr hk33 hk58 _ _ _ _ _ _ _ _ _ _ _ _ hf
set_option maxRecDepth 100000 in
set_option maxHeartbeats 4000000 in
theorem mB_X8_side_136 {k : CT} {g : GG} (C : CX k cX8_side 15 RX8 wsX8_side rmX8_side g) {ρ : (Int32 × MI × MJ)} (hr : RTW k wM g cX8_side .int ρ) {kk33 : MI → MJ → Int32 → Int32 → Int32 → Int64 → Int32 → Option (Int32 × MI × MJ)} {kk58 : MI → MJ → Int32 → Int32 → Int32 → Int64 → Int32 → Int32 → Int64 → Int64 → Int32 → Int32 → Option (Int32 × MI × MJ)} (hk33 : ∀ (I : MI) (J : MJ) (x1 : Int32) (x2 : Int32) (x3 : Int32) (y4 : Int64) (x6 : Int32), kk33 I J x1 x2 x3 y4 x6 = some ρ → V k (wM g I J) 33 [(0, .ref (g.1 0)), (1, .int x1), (2, .int x2), (3, .int x3), (4, .long y4), (6, .int x6)] []) (hk58 : ∀ (I : MI) (J : MJ) (x1 : Int32) (x2 : Int32) (x3 : Int32) (y4 : Int64) (x6 : Int32) (x7 : Int32) (y8 : Int64) (y10 : Int64) (x12 : Int32) (x13 : Int32), kk58 I J x1 x2 x3 y4 x6 x7 y8 y10 x12 x13 = some ρ → V k (wM g I J) 58 [(0, .ref (g.1 0)), (1, .int x1), (2, .int x2), (3, .int x3), (4, .long y4), (6, .int x6), (7, .int x7), (8, .long y8), (10, .long y10), (12, .int x12), (13, .int x13)] []) : ∀ (I : MI) (J : MJ) (x1 : Int32) (x2 : Int32) (x3 : Int32) (y4 : Int64) (x6 : Int32) (x7 : Int32) (y8 : Int64) (y10 : Int64) (x12 : Int32) (x13 : Int32) (x14 : Int32) (s1 : Int32) (s2 : Int32), LB_X8_side_136 kk33 kk58 I J x1 x2 x3 y4 x6 x7 y8 y10 x12 x13 x14 s1 s2 = some ρ → V k (wM g I J) 136 [(0, .ref (g.1 0)), (1, .int x1), (2, .int x2), (3, .int x3), (4, .long y4), (6, .int x6), (7, .int x7), (8, .long y8), (10, .long y10), (12, .int x12), (13, .int x13), (14, .int x14)] [.int s2, .int s1, .ref (g.1 2)] := by
  intro I J x1 x2 x3 y4 x6 x7 y8 y10 x12 x13 x14 s1 s2 hf
  unfold LB_X8_side_136 at hf
  obtain ⟨h1, hf⟩ := chk_e hf
  refine r_iast (j := s1.toNatClampNeg) C dX8_side_136 2 mg_2 (inb_e h1) rfl ma_2 ?_
  refine nmIM (fun I2 eI2 => ?_)
  have hf := bnd_e hf I2 eI2
  refine r_aload_n C dX8_side_137 rfl 0 rfl ?_
  refine r_get C dX8_side_138 kX8_side_1 0 mg_0 rfl 4 (by decide) kX8_side_6 mv_0_4 ?_
  refine r_iconst (v := (5 : Int32)) C dX8_side_141 (by decide) ?_
  refine r_iload C dX8_side_142 9 rfl ?_
  refine r_if_eq (tgt := 159) C dX8_side_144 (by decide) (fun q144 => ?_) (fun q144 => ?_)
  · have hf := itp hf q144
    refine r_iconst (v := (1 : Int32)) C dX8_side_159 (by decide) ?_
    refine V.loc [0, 1, 2, 3, 4, 5, 6, 7, 8, 9, 10] rfl ?_
    exact mB_X8_side_160 C hr hk33 hk58 _ _ _ _ _ _ _ _ _ _ _ _ _ _ hf
  · have hf := itn hf q144
    refine r_aload_n C dX8_side_147 rfl 0 rfl ?_
    refine r_get C dX8_side_148 kX8_side_1 0 mg_0 rfl 16 (by decide) kX8_side_10 mv_0_16 ?_
    refine r_iload C dX8_side_151 11 rfl ?_
    refine r_iconst (v := (1 : Int32)) C dX8_side_153 (by decide) ?_
    refine r_isub C dX8_side_154 ?_
    obtain ⟨h3, hf⟩ := chk_e hf
    refine r_iald (j := (x14 - (1 : Int32)).toNatClampNeg) C dX8_side_155 6 mg_6 (inb_e h3) rfl ?_
    refine r_goto (tgt := 160) C dX8_side_156 (by decide) ?_
    refine V.loc [0, 1, 2, 3, 4, 5, 6, 7, 8, 9, 10] rfl ?_
    exact mB_X8_side_160 C hr hk33 hk58 _ _ _ _ _ _ _ _ _ _ _ _ _ _ hf
set_option maxRecDepth 100000 in
set_option maxHeartbeats 4000000 in
theorem mB_X8_side_105 {k : CT} {g : GG} (C : CX k cX8_side 15 RX8 wsX8_side rmX8_side g) {ρ : (Int32 × MI × MJ)} (hr : RTW k wM g cX8_side .int ρ) {kk33 : MI → MJ → Int32 → Int32 → Int32 → Int64 → Int32 → Option (Int32 × MI × MJ)} {kk58 : MI → MJ → Int32 → Int32 → Int32 → Int64 → Int32 → Int32 → Int64 → Int64 → Int32 → Int32 → Option (Int32 × MI × MJ)} (hk33 : ∀ (I : MI) (J : MJ) (x1 : Int32) (x2 : Int32) (x3 : Int32) (y4 : Int64) (x6 : Int32), kk33 I J x1 x2 x3 y4 x6 = some ρ → V k (wM g I J) 33 [(0, .ref (g.1 0)), (1, .int x1), (2, .int x2), (3, .int x3), (4, .long y4), (6, .int x6)] []) (hk58 : ∀ (I : MI) (J : MJ) (x1 : Int32) (x2 : Int32) (x3 : Int32) (y4 : Int64) (x6 : Int32) (x7 : Int32) (y8 : Int64) (y10 : Int64) (x12 : Int32) (x13 : Int32), kk58 I J x1 x2 x3 y4 x6 x7 y8 y10 x12 x13 = some ρ → V k (wM g I J) 58 [(0, .ref (g.1 0)), (1, .int x1), (2, .int x2), (3, .int x3), (4, .long y4), (6, .int x6), (7, .int x7), (8, .long y8), (10, .long y10), (12, .int x12), (13, .int x13)] []) : ∀ (I : MI) (J : MJ) (x1 : Int32) (x2 : Int32) (x3 : Int32) (y4 : Int64) (x6 : Int32) (x7 : Int32) (y8 : Int64) (y10 : Int64) (x13 : Int32) (x14 : Int32) (s0 : Int32), LB_X8_side_105 kk33 kk58 I J x1 x2 x3 y4 x6 x7 y8 y10 x13 x14 s0 = some ρ → V k (wM g I J) 105 [(0, .ref (g.1 0)), (1, .int x1), (2, .int x2), (3, .int x3), (4, .long y4), (6, .int x6), (7, .int x7), (8, .long y8), (10, .long y10), (13, .int x13), (14, .int x14)] [.int s0] := by
  intro I J x1 x2 x3 y4 x6 x7 y8 y10 x13 x14 s0 hf
  unfold LB_X8_side_105 at hf
  refine r_istore (lv' := [(0, .ref (g.1 0)), (1, .int x1), (2, .int x2), (3, .int x3), (4, .long y4), (6, .int x6), (7, .int x7), (8, .long y8), (10, .long y10), (12, .int s0), (13, .int x13), (14, .int x14)]) C dX8_side_105 (by decide) [1, 2, 3, 4, 5, 6, 7, 8, 9, 0, 10, 11] rfl ?_
  refine r_aload_n C dX8_side_107 rfl 0 rfl ?_
  refine r_iload C dX8_side_108 10 rfl ?_
  obtain ⟨I2, J3, hq1, hf⟩ := bo2_e hf
  refine r_callV (o := none) (w' := (wM g I2 J3)) (As := [.int x13]) (rest := []) C (c_X8_takes hq1) dX8_side_110 gX8_side_X8_takes rfl rfl rfl hd_X8_takes ⟨by decide, by decide⟩ 0 mg_0 rfl rfl rfl rfl (Nat.le_of_ble_eq_true rfl) ?_
  refine r_aload_n C dX8_side_113 rfl 0 rfl ?_
  refine r_get C dX8_side_114 kX8_side_1 0 mg_0 rfl 4 (by decide) kX8_side_6 mv_0_4 ?_
  refine r_iconst (v := (4 : Int32)) C dX8_side_117 (by decide) ?_
  refine r_iload C dX8_side_118 9 rfl ?_
  refine r_if_eq (tgt := 135) C dX8_side_120 (by decide) (fun q120 => ?_) (fun q120 => ?_)
  · have hf := itp hf q120
    refine r_iconst (v := (5 : Int32)) C dX8_side_135 (by decide) ?_
    exact mB_X8_side_136 C hr hk33 hk58 _ _ _ _ _ _ _ _ _ _ _ _ _ _ _ hf
  · have hf := itn hf q120
    refine r_aload_n C dX8_side_123 rfl 0 rfl ?_
    refine r_get C dX8_side_124 kX8_side_1 0 mg_0 rfl 15 (by decide) kX8_side_11 mv_0_15 ?_
    refine r_iload C dX8_side_127 11 rfl ?_
    refine r_iconst (v := (1 : Int32)) C dX8_side_129 (by decide) ?_
    refine r_isub C dX8_side_130 ?_
    obtain ⟨h4, hf⟩ := chk_e hf
    refine r_iald (j := (x14 - (1 : Int32)).toNatClampNeg) C dX8_side_131 5 mg_5 (inb_e h4) rfl ?_
    refine r_goto (tgt := 136) C dX8_side_132 (by decide) ?_
    exact mB_X8_side_136 C hr hk33 hk58 _ _ _ _ _ _ _ _ _ _ _ _ _ _ _ hf
set_option maxRecDepth 100000 in
set_option maxHeartbeats 4000000 in
theorem mB_X8_side_58 {k : CT} {g : GG} (C : CX k cX8_side 15 RX8 wsX8_side rmX8_side g) {ρ : (Int32 × MI × MJ)} (hr : RTW k wM g cX8_side .int ρ) {kk33 : MI → MJ → Int32 → Int32 → Int32 → Int64 → Int32 → Option (Int32 × MI × MJ)} {kk58 : MI → MJ → Int32 → Int32 → Int32 → Int64 → Int32 → Int32 → Int64 → Int64 → Int32 → Int32 → Option (Int32 × MI × MJ)} (hk33 : ∀ (I : MI) (J : MJ) (x1 : Int32) (x2 : Int32) (x3 : Int32) (y4 : Int64) (x6 : Int32), kk33 I J x1 x2 x3 y4 x6 = some ρ → V k (wM g I J) 33 [(0, .ref (g.1 0)), (1, .int x1), (2, .int x2), (3, .int x3), (4, .long y4), (6, .int x6)] []) (hk58 : ∀ (I : MI) (J : MJ) (x1 : Int32) (x2 : Int32) (x3 : Int32) (y4 : Int64) (x6 : Int32) (x7 : Int32) (y8 : Int64) (y10 : Int64) (x12 : Int32) (x13 : Int32), kk58 I J x1 x2 x3 y4 x6 x7 y8 y10 x12 x13 = some ρ → V k (wM g I J) 58 [(0, .ref (g.1 0)), (1, .int x1), (2, .int x2), (3, .int x3), (4, .long y4), (6, .int x6), (7, .int x7), (8, .long y8), (10, .long y10), (12, .int x12), (13, .int x13)] []) : ∀ (I : MI) (J : MJ) (x1 : Int32) (x2 : Int32) (x3 : Int32) (y4 : Int64) (x6 : Int32) (x7 : Int32) (y8 : Int64) (y10 : Int64) (x12 : Int32) (x13 : Int32), LB_X8_side_58 kk33 kk58 I J x1 x2 x3 y4 x6 x7 y8 y10 x12 x13 = some ρ → V k (wM g I J) 58 [(0, .ref (g.1 0)), (1, .int x1), (2, .int x2), (3, .int x3), (4, .long y4), (6, .int x6), (7, .int x7), (8, .long y8), (10, .long y10), (12, .int x12), (13, .int x13)] [] := by
  intro I J x1 x2 x3 y4 x6 x7 y8 y10 x12 x13 hf
  unfold LB_X8_side_58 at hf
  refine r_iload C dX8_side_58 10 rfl ?_
  refine r_aload_n C dX8_side_60 rfl 0 rfl ?_
  refine r_get C dX8_side_61 kX8_side_1 0 mg_0 rfl 2 (by decide) kX8_side_3 mv_0_2 ?_
  refine r_icmp_ge (tgt := 234) C dX8_side_64 (by decide) (fun q64 => ?_) (fun q64 => ?_)
  · have hf := itp hf q64
    refine V.loc [0, 1, 2, 3, 4, 5, 7, 8, 9] rfl ?_
    exact mB_X8_side_234 C hr hk33 _ _ _ _ _ _ _ _ _ _ hf
  · have hf := itn hf q64
    refine r_iload C dX8_side_67 9 rfl ?_
    refine r_if_eq (tgt := 234) C dX8_side_69 (by decide) (fun q69 => ?_) (fun q69 => ?_)
    · have hf := itp hf q69
      refine V.loc [0, 1, 2, 3, 4, 5, 7, 8, 9] rfl ?_
      exact mB_X8_side_234 C hr hk33 _ _ _ _ _ _ _ _ _ _ hf
    · have hf := itn hf q69
      refine r_iload C dX8_side_72 6 rfl ?_
      refine r_bipush (v := (7 : Int32)) C dX8_side_74 (by decide) ?_
      refine r_irem C dX8_side_76 (by decide) ?_
      refine r_nmi (fun v1 ev1 => ?_)
      have hf := bnd_e hf v1 ev1
      refine r_istore (lv' := [(0, .ref (g.1 0)), (1, .int x1), (2, .int x2), (3, .int x3), (4, .long y4), (6, .int x6), (7, .int x7), (8, .long y8), (10, .long y10), (12, .int x12), (13, .int x13), (14, .int v1)]) C dX8_side_77 (by decide) [1, 2, 3, 4, 5, 6, 7, 8, 9, 10, 11, 0] rfl ?_
      refine r_iload C dX8_side_79 6 rfl ?_
      refine r_bipush (v := (7 : Int32)) C dX8_side_81 (by decide) ?_
      refine r_idiv C dX8_side_83 (by decide) ?_
      refine r_nmi (fun v2 ev2 => ?_)
      have hf := bnd_e hf v2 ev2
      refine r_istore (lv' := [(0, .ref (g.1 0)), (1, .int x1), (2, .int x2), (3, .int x3), (4, .long y4), (6, .int x6), (7, .int v2), (8, .long y8), (10, .long y10), (12, .int x12), (13, .int x13), (14, .int v1)]) C dX8_side_84 (by decide) [1, 2, 3, 4, 5, 6, 0, 7, 8, 9, 10, 11] rfl ?_
      refine r_iload C dX8_side_86 11 rfl ?_
      refine r_if_le (tgt := 228) C dX8_side_88 (by decide) (fun q88 => ?_) (fun q88 => ?_)
      · have hf := itp hf q88
        obtain ⟨v3, ev3⟩ : ∃ z : Int32, z = x13 + (1 : Int32) := ⟨_, rfl⟩
        have hf := bnd_e hf v3 ev3
        refine r_iinc (v := v3) (lv' := [(0, .ref (g.1 0)), (1, .int x1), (2, .int x2), (3, .int x3), (4, .long y4), (6, .int x6), (7, .int v2), (8, .long y8), (10, .long y10), (12, .int x12), (13, .int v3), (14, .int v1)]) C dX8_side_228 10 rfl (by rw [ev3]; rfl) (by decide) [1, 2, 3, 4, 5, 6, 7, 8, 9, 10, 0, 11] rfl ?_
        refine r_goto (tgt := 58) C dX8_side_231 (by decide) ?_
        refine V.loc [0, 1, 2, 3, 4, 5, 6, 7, 8, 9, 10] rfl ?_
        exact hk58 _ _ _ _ _ _ _ _ _ _ _ _ hf
      · have hf := itn hf q88
        refine r_iload C dX8_side_91 11 rfl ?_
        refine r_aload_n C dX8_side_93 rfl 0 rfl ?_
        refine r_get C dX8_side_94 kX8_side_1 0 mg_0 rfl 14 (by decide) kX8_side_5 mv_0_14 ?_
        refine r_icmp_gt (tgt := 104) C dX8_side_97 (by decide) (fun q97 => ?_) (fun q97 => ?_)
        · have hf := itp hf q97
          refine r_iconst (v := (0 : Int32)) C dX8_side_104 (by decide) ?_
          refine V.loc [0, 1, 2, 3, 4, 5, 6, 7, 8, 10, 11] rfl ?_
          exact mB_X8_side_105 C hr hk33 hk58 _ _ _ _ _ _ _ _ _ _ _ _ _ hf
        · have hf := itn hf q97
          refine r_iconst (v := (1 : Int32)) C dX8_side_100 (by decide) ?_
          refine r_goto (tgt := 105) C dX8_side_101 (by decide) ?_
          refine V.loc [0, 1, 2, 3, 4, 5, 6, 7, 8, 10, 11] rfl ?_
          exact mB_X8_side_105 C hr hk33 hk58 _ _ _ _ _ _ _ _ _ _ _ _ _ hf
theorem mL_X8_side_58 {k : CT} {g : GG} (C : CX k cX8_side 15 RX8 wsX8_side rmX8_side g) {ρ : (Int32 × MI × MJ)} (hr : RTW k wM g cX8_side .int ρ) {kk33 : MI → MJ → Int32 → Int32 → Int32 → Int64 → Int32 → Option (Int32 × MI × MJ)} (hk33 : ∀ (I : MI) (J : MJ) (x1 : Int32) (x2 : Int32) (x3 : Int32) (y4 : Int64) (x6 : Int32), kk33 I J x1 x2 x3 y4 x6 = some ρ → V k (wM g I J) 33 [(0, .ref (g.1 0)), (1, .int x1), (2, .int x2), (3, .int x3), (4, .long y4), (6, .int x6)] []) : ∀ (n : Nat) (I : MI) (J : MJ) (x1 : Int32) (x2 : Int32) (x3 : Int32) (y4 : Int64) (x6 : Int32) (x7 : Int32) (y8 : Int64) (y10 : Int64) (x12 : Int32) (x13 : Int32), LP_X8_side_58 kk33 n I J x1 x2 x3 y4 x6 x7 y8 y10 x12 x13 = some ρ → V k (wM g I J) 58 [(0, .ref (g.1 0)), (1, .int x1), (2, .int x2), (3, .int x3), (4, .long y4), (6, .int x6), (7, .int x7), (8, .long y8), (10, .long y10), (12, .int x12), (13, .int x13)] [] := by
  intro n
  induction n with
  | zero => intro I J x1 x2 x3 y4 x6 x7 y8 y10 x12 x13 hf; cases hf
  | succ n ih => intro I J x1 x2 x3 y4 x6 x7 y8 y10 x12 x13 hf; exact mB_X8_side_58 C hr hk33 (fun I J x1 x2 x3 y4 x6 x7 y8 y10 x12 x13 h => ih I J x1 x2 x3 y4 x6 x7 y8 y10 x12 x13 h) I J x1 x2 x3 y4 x6 x7 y8 y10 x12 x13 hf
set_option maxRecDepth 100000 in
set_option maxHeartbeats 4000000 in
theorem mB_X8_side_33 {k : CT} {g : GG} (C : CX k cX8_side 15 RX8 wsX8_side rmX8_side g) {ρ : (Int32 × MI × MJ)} (hr : RTW k wM g cX8_side .int ρ) {kk33 : MI → MJ → Int32 → Int32 → Int32 → Int64 → Int32 → Option (Int32 × MI × MJ)} (hk33 : ∀ (I : MI) (J : MJ) (x1 : Int32) (x2 : Int32) (x3 : Int32) (y4 : Int64) (x6 : Int32), kk33 I J x1 x2 x3 y4 x6 = some ρ → V k (wM g I J) 33 [(0, .ref (g.1 0)), (1, .int x1), (2, .int x2), (3, .int x3), (4, .long y4), (6, .int x6)] []) : ∀ (I : MI) (J : MJ) (x1 : Int32) (x2 : Int32) (x3 : Int32) (y4 : Int64) (x6 : Int32), LB_X8_side_33 kk33 I J x1 x2 x3 y4 x6 = some ρ → V k (wM g I J) 33 [(0, .ref (g.1 0)), (1, .int x1), (2, .int x2), (3, .int x3), (4, .long y4), (6, .int x6)] [] := by
  intro I J x1 x2 x3 y4 x6 hf
  unfold LB_X8_side_33 at hf
  refine r_iload C dX8_side_33 5 rfl ?_
  refine r_aload_n C dX8_side_35 rfl 0 rfl ?_
  obtain ⟨r2, hq1, hf⟩ := bo1_e hf
  refine r_callV (o := some (.int r2)) (w' := (wM g I J)) (As := []) (rest := [.int x6]) C (c_X8_numbers hq1) dX8_side_36 gX8_side_X8_numbers rfl rfl rfl hd_X8_numbers ⟨by decide, by decide⟩ 0 mg_0 rfl rfl rfl rfl (Nat.le_of_ble_eq_true rfl) ?_
  refine r_icmp_ge (tgt := 273) C dX8_side_39 (by decide) (fun q39 => ?_) (fun q39 => ?_)
  · have hf := itp hf q39
    refine r_iload_n C dX8_side_273 rfl 2 rfl ?_
    refine r_if_ne (tgt := 281) C dX8_side_274 (by decide) (fun q274 => ?_) (fun q274 => ?_)
    · have hf := itn hf q274
      refine r_lload C dX8_side_281 4 rfl ?_
      refine r_l2i C dX8_side_283 ?_
      exact hr _ _ _ _ _ dX8_side_284 rfl hf
    · have hf := itp hf q274
      refine r_iload_n C dX8_side_277 rfl 3 rfl ?_
      refine r_goto (tgt := 284) C dX8_side_278 (by decide) ?_
      exact hr _ _ _ _ _ dX8_side_284 rfl hf
  · have hf := itn hf q39
    refine r_iload C dX8_side_42 5 rfl ?_
    refine r_istore (lv' := [(0, .ref (g.1 0)), (1, .int x1), (2, .int x2), (3, .int x3), (4, .long y4), (6, .int x6), (7, .int x6)]) C dX8_side_44 (by decide) [1, 2, 3, 4, 5, 6, 0] rfl ?_
    refine r_lconst (v := (0 : Int64)) C dX8_side_46 (by decide) ?_
    refine r_lstore (lv' := [(0, .ref (g.1 0)), (1, .int x1), (2, .int x2), (3, .int x3), (4, .long y4), (6, .int x6), (7, .int x6), (8, .long (0 : Int64))]) C dX8_side_47 (by decide) [1, 2, 3, 4, 5, 6, 7, 0] rfl ?_
    refine r_lconst (v := (0 : Int64)) C dX8_side_49 (by decide) ?_
    refine r_lstore (lv' := [(0, .ref (g.1 0)), (1, .int x1), (2, .int x2), (3, .int x3), (4, .long y4), (6, .int x6), (7, .int x6), (8, .long (0 : Int64)), (10, .long (0 : Int64))]) C dX8_side_50 (by decide) [1, 2, 3, 4, 5, 6, 7, 8, 0] rfl ?_
    refine r_iconst (v := (1 : Int32)) C dX8_side_52 (by decide) ?_
    refine r_istore (lv' := [(0, .ref (g.1 0)), (1, .int x1), (2, .int x2), (3, .int x3), (4, .long y4), (6, .int x6), (7, .int x6), (8, .long (0 : Int64)), (10, .long (0 : Int64)), (12, .int (1 : Int32))]) C dX8_side_53 (by decide) [1, 2, 3, 4, 5, 6, 7, 8, 9, 0] rfl ?_
    refine r_iconst (v := (0 : Int32)) C dX8_side_55 (by decide) ?_
    refine r_istore (lv' := [(0, .ref (g.1 0)), (1, .int x1), (2, .int x2), (3, .int x3), (4, .long y4), (6, .int x6), (7, .int x6), (8, .long (0 : Int64)), (10, .long (0 : Int64)), (12, .int (1 : Int32)), (13, .int (0 : Int32))]) C dX8_side_56 (by decide) [1, 2, 3, 4, 5, 6, 7, 8, 9, 10, 0] rfl ?_
    exact mL_X8_side_58 C hr hk33 FU _ _ _ _ _ _ _ _ _ _ _ _ hf
theorem mL_X8_side_33 {k : CT} {g : GG} (C : CX k cX8_side 15 RX8 wsX8_side rmX8_side g) {ρ : (Int32 × MI × MJ)} (hr : RTW k wM g cX8_side .int ρ) : ∀ (n : Nat) (I : MI) (J : MJ) (x1 : Int32) (x2 : Int32) (x3 : Int32) (y4 : Int64) (x6 : Int32), LP_X8_side_33 n I J x1 x2 x3 y4 x6 = some ρ → V k (wM g I J) 33 [(0, .ref (g.1 0)), (1, .int x1), (2, .int x2), (3, .int x3), (4, .long y4), (6, .int x6)] [] := by
  intro n
  induction n with
  | zero => intro I J x1 x2 x3 y4 x6 hf; cases hf
  | succ n ih => intro I J x1 x2 x3 y4 x6 hf; exact mB_X8_side_33 C hr (fun I J x1 x2 x3 y4 x6 h => ih I J x1 x2 x3 y4 x6 h) I J x1 x2 x3 y4 x6 hf
set_option maxRecDepth 100000 in
set_option maxHeartbeats 4000000 in
theorem c_X8_side {l : Launch} {D : va_G} {g : GG} {I : MI} {J : MJ} {a1 : Int32} {a2 : Int32} {r : Int32} {I' : MI} {J' : MJ} (hf : f_X8_side I J a1 a2 = some (r, I', J')) : CON l yX8_side wsX8_side rmX8_side D g (wM g I J) [.ref (g.1 0), .int a1, .int a2] (some (.int r)) (wM g I' J') := by
  refine con_of (cc := cX8_side) (maxL := 15) (ret := (some .int)) (by decide) rfl (Nat.le_of_ble_eq_true rfl) rfl rfl ?_
  intro k C hkl hkD h1 h2 h3
  subst hkl; subst hkD
  have hr : RTW k wM g cX8_side .int (r, I', J') := rtw_of h2
  unfold f_X8_side at hf
  refine V.loc (lv' := [(0, .ref (g.1 0)), (1, .int a1), (2, .int a2)]) [0, 1, 2] rfl ?_
  refine r_aload_n C dX8_side_0 rfl 0 rfl ?_
  refine r_iconst (v := (0 : Int32)) C dX8_side_1 (by decide) ?_
  refine r_put (ty := .int) C dX8_side_2 kX8_side_1 tyX8 tyX8_ok nmX8 0 mg_0 rfl 0 (by decide) kX8_side_0 rfl rfl rfl rfl (Nat.le_of_ble_eq_true rfl) ms_0_0 ?_
  refine nmIM (fun I1 eI1 => ?_)
  have hf := bnd_e hf I1 eI1
  refine r_iload_n C dX8_side_5 rfl 1 rfl ?_
  obtain ⟨r3, hq2, hf⟩ := bo1_e hf
  refine r_callS (o := some (.int r3)) (w' := (wM g I1 J)) (As := [.int a1]) (rest := []) C (c_X8_isMonth hq2) dX8_side_6 gX8_side_X8_isMonth rfl rfl rfl hd_X8_isMonth ⟨by decide, by decide⟩ rfl rfl (Nat.le_of_ble_eq_true rfl) ?_
  refine r_if_eq (tgt := 21) C dX8_side_9 (by decide) (fun q9 => ?_) (fun q9 => ?_)
  · have hf := itp hf q9
    refine r_iconst (v := (-1 : Int32)) C dX8_side_21 (by decide) ?_
    exact hr _ _ _ _ _ dX8_side_22 rfl hf
  · have hf := itn hf q9
    refine r_iload_n C dX8_side_12 rfl 2 rfl ?_
    refine r_iconst (v := (0 : Int32)) C dX8_side_13 (by decide) ?_
    refine r_iconst (v := (1 : Int32)) C dX8_side_14 (by decide) ?_
    obtain ⟨r5, hq4, hf⟩ := bo1_e hf
    refine r_callS (o := some (.int r5)) (w' := (wM g I1 J)) (As := [.int a2, .int (0 : Int32), .int (1 : Int32)]) (rest := []) C (c_X8_in hq4) dX8_side_15 gX8_side_X8_in rfl rfl rfl hd_X8_in ⟨by decide, by decide⟩ rfl rfl (Nat.le_of_ble_eq_true rfl) ?_
    refine r_if_ne (tgt := 23) C dX8_side_18 (by decide) (fun q18 => ?_) (fun q18 => ?_)
    · have hf := itn hf q18
      refine r_iconst (v := (0 : Int32)) C dX8_side_23 (by decide) ?_
      refine r_istore_n (lv' := [(0, .ref (g.1 0)), (1, .int a1), (2, .int a2), (3, .int (0 : Int32))]) C dX8_side_24 rfl (by decide) [1, 2, 3, 0] rfl ?_
      refine r_ldc2 (v := (-1 : Int64)) C dX8_side_25 kX8_side_2 ?_
      refine r_lstore (lv' := [(0, .ref (g.1 0)), (1, .int a1), (2, .int a2), (3, .int (0 : Int32)), (4, .long (-1 : Int64))]) C dX8_side_28 (by decide) [1, 2, 3, 4, 0] rfl ?_
      refine r_iconst (v := (0 : Int32)) C dX8_side_30 (by decide) ?_
      refine r_istore (lv' := [(0, .ref (g.1 0)), (1, .int a1), (2, .int a2), (3, .int (0 : Int32)), (4, .long (-1 : Int64)), (6, .int (0 : Int32))]) C dX8_side_31 (by decide) [1, 2, 3, 4, 5, 0] rfl ?_
      exact mL_X8_side_33 C hr FU _ _ _ _ _ _ _ hf
    · have hf := itp hf q18
      refine r_iconst (v := (-1 : Int32)) C dX8_side_21 (by decide) ?_
      exact hr _ _ _ _ _ dX8_side_22 rfl hf
abbrev rmX8_take : Room := { frames := 1, cells := 0, slots := 0, locals := 22 }
theorem hd_X8_take : yX8_take.cls = RX8 ∧ yX8_take.cls ≠ "java/lang/invoke/MethodHandle" ∧ yX8_take.cls ≠ "java/lang/invoke/VarHandle" ∧ (parseMethodDescriptor yX8_take.desc).map (fun d => d.parameters.length) = some 1 := by decide +kernel
theorem kX8_take_0 : Cond.fieldLink RX8 64 (TX8 0).1 (TX8 0).2.1 (TX8 0).2.2.1 ∈ wsX8_take := by decide +kernel
theorem kX8_take_1 : ∀ w ∈ u_ws RX8 TX8 38, w ∈ wsX8_take := by decide +kernel
theorem kX8_take_2 : Cond.fieldLink RX8 67 (TX8 2).1 (TX8 2).2.1 (TX8 2).2.2.1 ∈ wsX8_take := by decide +kernel
theorem kX8_take_3 : Cond.fieldLink RX8 7 (TX8 3).1 (TX8 3).2.1 (TX8 3).2.2.1 ∈ wsX8_take := by decide +kernel
theorem kX8_take_4 : Cond.fieldLink RX8 22 (TX8 15).1 (TX8 15).2.1 (TX8 15).2.2.1 ∈ wsX8_take := by decide +kernel
theorem kX8_take_5 : Cond.fieldLink RX8 25 (TX8 16).1 (TX8 16).2.1 (TX8 16).2.2.1 ∈ wsX8_take := by decide +kernel
theorem kX8_take_6 : Cond.fieldLink RX8 133 (TX8 14).1 (TX8 14).2.1 (TX8 14).2.2.1 ∈ wsX8_take := by decide +kernel
set_option maxRecDepth 100000 in
set_option maxHeartbeats 4000000 in
theorem mB_X8_take_116 {k : CT} {g : GG} (C : CX k cX8_take 6 RX8 wsX8_take rmX8_take g) {ρ : (Int32 × MI × MJ)} (hr : RTW k wM g cX8_take .int ρ) {kk74 : MI → MJ → Int32 → Int32 → Option (Int32 × MI × MJ)} (hk74 : ∀ (I : MI) (J : MJ) (x3 : Int32) (x4 : Int32), kk74 I J x3 x4 = some ρ → V k (wM g I J) 74 [(0, .ref (g.1 0)), (3, .int x3), (4, .int x4)] []) : ∀ (I : MI) (J : MJ) (x3 : Int32) (x4 : Int32) (x5 : Int32) (s1 : Int32) (s2 : Int32), LB_X8_take_116 kk74 I J x3 x4 x5 s1 s2 = some ρ → V k (wM g I J) 116 [(0, .ref (g.1 0)), (3, .int x3), (4, .int x4), (5, .int x5)] [.int s2, .int s1, .ref (g.1 1)] := by
  intro I J x3 x4 x5 s1 s2 hf
  unfold LB_X8_take_116 at hf
  obtain ⟨h1, hf⟩ := chk_e hf
  refine r_iast (j := s1.toNatClampNeg) C dX8_take_116 1 mg_1 (inb_e h1) rfl ma_1 ?_
  refine nmIM (fun I2 eI2 => ?_)
  have hf := bnd_e hf I2 eI2
  refine r_iload C dX8_take_117 3 rfl ?_
  refine r_if_le (tgt := 164) C dX8_take_119 (by decide) (fun q119 => ?_) (fun q119 => ?_)
  · have hf := itp hf q119
    obtain ⟨v3, ev3⟩ : ∃ z : Int32, z = x4 + (1 : Int32) := ⟨_, rfl⟩
    have hf := bnd_e hf v3 ev3
    refine r_iinc (v := v3) (lv' := [(0, .ref (g.1 0)), (3, .int x3), (4, .int v3), (5, .int x5)]) C dX8_take_164 2 rfl (by rw [ev3]; rfl) (by decide) [1, 2, 0, 3] rfl ?_
    refine r_goto (tgt := 74) C dX8_take_167 (by decide) ?_
    refine V.loc [0, 1, 2] rfl ?_
    exact hk74 _ _ _ _ hf
  · have hf := itn hf q119
    refine r_aload_n C dX8_take_122 rfl 0 rfl ?_
    refine r_get C dX8_take_123 kX8_take_1 0 mg_0 rfl 3 (by decide) kX8_take_3 mv_0_3 ?_
    refine r_bipush (v := (13 : Int32)) C dX8_take_126 (by decide) ?_
    refine r_iload C dX8_take_128 2 rfl ?_
    refine r_imul C dX8_take_130 ?_
    refine r_iconst (v := (4 : Int32)) C dX8_take_131 (by decide) ?_
    refine r_iadd C dX8_take_132 ?_
    refine r_aload_n C dX8_take_133 rfl 0 rfl ?_
    refine r_get C dX8_take_134 kX8_take_1 0 mg_0 rfl 15 (by decide) kX8_take_4 mv_0_15 ?_
    refine r_iload C dX8_take_137 3 rfl ?_
    refine r_iconst (v := (1 : Int32)) C dX8_take_139 (by decide) ?_
    refine r_isub C dX8_take_140 ?_
    obtain ⟨h4, hf⟩ := chk_e hf
    refine r_iald (j := (x5 - (1 : Int32)).toNatClampNeg) C dX8_take_141 5 mg_5 (inb_e h4) rfl ?_
    obtain ⟨h5, hf⟩ := chk_e hf
    refine r_iast (j := (((13 : Int32) * x4) + (4 : Int32)).toNatClampNeg) C dX8_take_142 1 mg_1 (inb_e h5) rfl ma_1 ?_
    refine nmIM (fun I6 eI6 => ?_)
    have hf := bnd_e hf I6 eI6
    refine r_aload_n C dX8_take_143 rfl 0 rfl ?_
    refine r_get C dX8_take_144 kX8_take_1 0 mg_0 rfl 3 (by decide) kX8_take_3 mv_0_3 ?_
    refine r_bipush (v := (13 : Int32)) C dX8_take_147 (by decide) ?_
    refine r_iload C dX8_take_149 2 rfl ?_
    refine r_imul C dX8_take_151 ?_
    refine r_iconst (v := (5 : Int32)) C dX8_take_152 (by decide) ?_
    refine r_iadd C dX8_take_153 ?_
    refine r_aload_n C dX8_take_154 rfl 0 rfl ?_
    refine r_get C dX8_take_155 kX8_take_1 0 mg_0 rfl 16 (by decide) kX8_take_5 mv_0_16 ?_
    refine r_iload C dX8_take_158 3 rfl ?_
    refine r_iconst (v := (1 : Int32)) C dX8_take_160 (by decide) ?_
    refine r_isub C dX8_take_161 ?_
    obtain ⟨h7, hf⟩ := chk_e hf
    refine r_iald (j := (x5 - (1 : Int32)).toNatClampNeg) C dX8_take_162 6 mg_6 (inb_e h7) rfl ?_
    obtain ⟨h8, hf⟩ := chk_e hf
    refine r_iast (j := (((13 : Int32) * x4) + (5 : Int32)).toNatClampNeg) C dX8_take_163 1 mg_1 (inb_e h8) rfl ma_1 ?_
    refine nmIM (fun I9 eI9 => ?_)
    have hf := bnd_e hf I9 eI9
    obtain ⟨v10, ev10⟩ : ∃ z : Int32, z = x4 + (1 : Int32) := ⟨_, rfl⟩
    have hf := bnd_e hf v10 ev10
    refine r_iinc (v := v10) (lv' := [(0, .ref (g.1 0)), (3, .int x3), (4, .int v10), (5, .int x5)]) C dX8_take_164 2 rfl (by rw [ev10]; rfl) (by decide) [1, 2, 0, 3] rfl ?_
    refine r_goto (tgt := 74) C dX8_take_167 (by decide) ?_
    refine V.loc [0, 1, 2] rfl ?_
    exact hk74 _ _ _ _ hf
set_option maxRecDepth 100000 in
set_option maxHeartbeats 4000000 in
theorem mB_X8_take_74 {k : CT} {g : GG} (C : CX k cX8_take 6 RX8 wsX8_take rmX8_take g) {ρ : (Int32 × MI × MJ)} (hr : RTW k wM g cX8_take .int ρ) {kk74 : MI → MJ → Int32 → Int32 → Option (Int32 × MI × MJ)} (hk74 : ∀ (I : MI) (J : MJ) (x3 : Int32) (x4 : Int32), kk74 I J x3 x4 = some ρ → V k (wM g I J) 74 [(0, .ref (g.1 0)), (3, .int x3), (4, .int x4)] []) : ∀ (I : MI) (J : MJ) (x3 : Int32) (x4 : Int32), LB_X8_take_74 kk74 I J x3 x4 = some ρ → V k (wM g I J) 74 [(0, .ref (g.1 0)), (3, .int x3), (4, .int x4)] [] := by
  intro I J x3 x4 hf
  unfold LB_X8_take_74 at hf
  refine r_iload C dX8_take_74 2 rfl ?_
  refine r_aload_n C dX8_take_76 rfl 0 rfl ?_
  refine r_get C dX8_take_77 kX8_take_1 0 mg_0 rfl 2 (by decide) kX8_take_2 mv_0_2 ?_
  refine r_icmp_ge (tgt := 170) C dX8_take_80 (by decide) (fun q80 => ?_) (fun q80 => ?_)
  · have hf := itp hf q80
    refine r_iconst (v := (1 : Int32)) C dX8_take_170 (by decide) ?_
    exact hr _ _ _ _ _ dX8_take_171 rfl hf
  · have hf := itn hf q80
    refine r_iload_n C dX8_take_83 rfl 1 rfl ?_
    refine r_bipush (v := (7 : Int32)) C dX8_take_84 (by decide) ?_
    refine r_irem C dX8_take_86 (by decide) ?_
    refine r_nmi (fun v1 ev1 => ?_)
    have hf := bnd_e hf v1 ev1
    refine r_istore (lv' := [(0, .ref (g.1 0)), (3, .int x3), (4, .int x4), (5, .int v1)]) C dX8_take_87 (by decide) [1, 2, 3, 0] rfl ?_
    refine r_iload_n C dX8_take_89 rfl 1 rfl ?_
    refine r_bipush (v := (7 : Int32)) C dX8_take_90 (by decide) ?_
    refine r_idiv C dX8_take_92 (by decide) ?_
    refine r_nmi (fun v2 ev2 => ?_)
    have hf := bnd_e hf v2 ev2
    refine r_istore_n (lv' := [(0, .ref (g.1 0)), (3, .int v2), (4, .int x4), (5, .int v1)]) C dX8_take_93 rfl (by decide) [1, 0, 2, 3] rfl ?_
    refine r_aload_n C dX8_take_94 rfl 0 rfl ?_
    refine r_get C dX8_take_95 kX8_take_1 0 mg_0 rfl 3 (by decide) kX8_take_3 mv_0_3 ?_
    refine r_bipush (v := (13 : Int32)) C dX8_take_98 (by decide) ?_
    refine r_iload C dX8_take_100 2 rfl ?_
    refine r_imul C dX8_take_102 ?_
    refine r_bipush (v := (12 : Int32)) C dX8_take_103 (by decide) ?_
    refine r_iadd C dX8_take_105 ?_
    refine r_iload C dX8_take_106 3 rfl ?_
    refine r_if_le (tgt := 115) C dX8_take_108 (by decide) (fun q108 => ?_) (fun q108 => ?_)
    · have hf := itp hf q108
      refine r_iconst (v := (0 : Int32)) C dX8_take_115 (by decide) ?_
      exact mB_X8_take_116 C hr hk74 _ _ _ _ _ _ _ hf
    · have hf := itn hf q108
      refine r_iconst (v := (1 : Int32)) C dX8_take_111 (by decide) ?_
      refine r_goto (tgt := 116) C dX8_take_112 (by decide) ?_
      exact mB_X8_take_116 C hr hk74 _ _ _ _ _ _ _ hf
theorem mL_X8_take_74 {k : CT} {g : GG} (C : CX k cX8_take 6 RX8 wsX8_take rmX8_take g) {ρ : (Int32 × MI × MJ)} (hr : RTW k wM g cX8_take .int ρ) : ∀ (n : Nat) (I : MI) (J : MJ) (x3 : Int32) (x4 : Int32), LP_X8_take_74 n I J x3 x4 = some ρ → V k (wM g I J) 74 [(0, .ref (g.1 0)), (3, .int x3), (4, .int x4)] [] := by
  intro n
  induction n with
  | zero => intro I J x3 x4 hf; cases hf
  | succ n ih => intro I J x3 x4 hf; exact mB_X8_take_74 C hr (fun I J x3 x4 h => ih I J x3 x4 h) I J x3 x4 hf
set_option maxRecDepth 100000 in
set_option maxHeartbeats 4000000 in
theorem mB_X8_take_22 {k : CT} {g : GG} (C : CX k cX8_take 6 RX8 wsX8_take rmX8_take g) {ρ : (Int32 × MI × MJ)} (hr : RTW k wM g cX8_take .int ρ) {kk22 : MI → MJ → Int32 → Int32 → Int32 → Int32 → Option (Int32 × MI × MJ)} (hk22 : ∀ (I : MI) (J : MJ) (x1 : Int32) (x2 : Int32) (x3 : Int32) (x4 : Int32), kk22 I J x1 x2 x3 x4 = some ρ → V k (wM g I J) 22 [(0, .ref (g.1 0)), (1, .int x1), (2, .int x2), (3, .int x3), (4, .int x4)] []) : ∀ (I : MI) (J : MJ) (x1 : Int32) (x2 : Int32) (x3 : Int32) (x4 : Int32), LB_X8_take_22 kk22 I J x1 x2 x3 x4 = some ρ → V k (wM g I J) 22 [(0, .ref (g.1 0)), (1, .int x1), (2, .int x2), (3, .int x3), (4, .int x4)] [] := by
  intro I J x1 x2 x3 x4 hf
  unfold LB_X8_take_22 at hf
  refine r_iload C dX8_take_22 4 rfl ?_
  refine r_aload_n C dX8_take_24 rfl 0 rfl ?_
  refine r_get C dX8_take_25 kX8_take_1 0 mg_0 rfl 2 (by decide) kX8_take_2 mv_0_2 ?_
  refine r_icmp_ge (tgt := 63) C dX8_take_28 (by decide) (fun q28 => ?_) (fun q28 => ?_)
  · have hf := itp hf q28
    refine r_iload_n C dX8_take_63 rfl 2 rfl ?_
    refine r_if_ne (tgt := 69) C dX8_take_64 (by decide) (fun q64 => ?_) (fun q64 => ?_)
    · have hf := itn hf q64
      refine r_iload_n C dX8_take_69 rfl 1 rfl ?_
      refine r_istore_n (lv' := [(0, .ref (g.1 0)), (1, .int x1), (2, .int x2), (3, .int x1), (4, .int x4)]) C dX8_take_70 rfl (by decide) [1, 2, 3, 0, 4] rfl ?_
      refine r_iconst (v := (0 : Int32)) C dX8_take_71 (by decide) ?_
      refine r_istore (lv' := [(0, .ref (g.1 0)), (1, .int x1), (2, .int x2), (3, .int x1), (4, .int (0 : Int32))]) C dX8_take_72 (by decide) [1, 2, 3, 4, 0] rfl ?_
      refine V.loc [0, 3, 4] rfl ?_
      exact mL_X8_take_74 C hr FU _ _ _ _ hf
    · have hf := itp hf q64
      refine r_iconst (v := (-1 : Int32)) C dX8_take_67 (by decide) ?_
      exact hr _ _ _ _ _ dX8_take_68 rfl hf
  · have hf := itn hf q28
    refine r_iload_n C dX8_take_31 rfl 2 rfl ?_
    refine r_if_eq (tgt := 63) C dX8_take_32 (by decide) (fun q32 => ?_) (fun q32 => ?_)
    · have hf := itp hf q32
      refine r_iload_n C dX8_take_63 rfl 2 rfl ?_
      refine r_if_ne (tgt := 69) C dX8_take_64 (by decide) (fun q64 => ?_) (fun q64 => ?_)
      · have hf := itn hf q64
        refine r_iload_n C dX8_take_69 rfl 1 rfl ?_
        refine r_istore_n (lv' := [(0, .ref (g.1 0)), (1, .int x1), (2, .int x2), (3, .int x1), (4, .int x4)]) C dX8_take_70 rfl (by decide) [1, 2, 3, 0, 4] rfl ?_
        refine r_iconst (v := (0 : Int32)) C dX8_take_71 (by decide) ?_
        refine r_istore (lv' := [(0, .ref (g.1 0)), (1, .int x1), (2, .int x2), (3, .int x1), (4, .int (0 : Int32))]) C dX8_take_72 (by decide) [1, 2, 3, 4, 0] rfl ?_
        refine V.loc [0, 3, 4] rfl ?_
        exact mL_X8_take_74 C hr FU _ _ _ _ hf
      · have hf := itp hf q64
        refine r_iconst (v := (-1 : Int32)) C dX8_take_67 (by decide) ?_
        exact hr _ _ _ _ _ dX8_take_68 rfl hf
    · have hf := itn hf q32
      refine r_iload_n C dX8_take_35 rfl 3 rfl ?_
      refine r_bipush (v := (7 : Int32)) C dX8_take_36 (by decide) ?_
      refine r_irem C dX8_take_38 (by decide) ?_
      refine r_aload_n C dX8_take_39 rfl 0 rfl ?_
      refine r_get C dX8_take_40 kX8_take_1 0 mg_0 rfl 14 (by decide) kX8_take_6 mv_0_14 ?_
      refine r_icmp_gt (tgt := 50) C dX8_take_43 (by decide) (fun q43 => ?_) (fun q43 => ?_)
      · have hf := itp hf q43
        refine r_iconst (v := (0 : Int32)) C dX8_take_50 (by decide) ?_
        refine r_istore_n (lv' := [(0, .ref (g.1 0)), (1, .int x1), (2, .int (0 : Int32)), (3, .int x3), (4, .int x4)]) C dX8_take_51 rfl (by decide) [1, 2, 0, 3, 4] rfl ?_
        refine r_iload_n C dX8_take_52 rfl 3 rfl ?_
        refine r_bipush (v := (7 : Int32)) C dX8_take_53 (by decide) ?_
        refine r_idiv C dX8_take_55 (by decide) ?_
        refine r_nmi (fun v1 ev1 => ?_)
        have hf := bnd_e hf v1 ev1
        refine r_istore_n (lv' := [(0, .ref (g.1 0)), (1, .int x1), (2, .int (0 : Int32)), (3, .int v1), (4, .int x4)]) C dX8_take_56 rfl (by decide) [1, 2, 3, 0, 4] rfl ?_
        obtain ⟨v2, ev2⟩ : ∃ z : Int32, z = x4 + (1 : Int32) := ⟨_, rfl⟩
        have hf := bnd_e hf v2 ev2
        refine r_iinc (v := v2) (lv' := [(0, .ref (g.1 0)), (1, .int x1), (2, .int (0 : Int32)), (3, .int v1), (4, .int v2)]) C dX8_take_57 4 rfl (by rw [ev2]; rfl) (by decide) [1, 2, 3, 4, 0] rfl ?_
        refine r_goto (tgt := 22) C dX8_take_60 (by decide) ?_
        exact hk22 _ _ _ _ _ _ hf
      · have hf := itn hf q43
        refine r_iconst (v := (1 : Int32)) C dX8_take_46 (by decide) ?_
        refine r_goto (tgt := 51) C dX8_take_47 (by decide) ?_
        refine r_istore_n (lv' := [(0, .ref (g.1 0)), (1, .int x1), (2, .int (1 : Int32)), (3, .int x3), (4, .int x4)]) C dX8_take_51 rfl (by decide) [1, 2, 0, 3, 4] rfl ?_
        refine r_iload_n C dX8_take_52 rfl 3 rfl ?_
        refine r_bipush (v := (7 : Int32)) C dX8_take_53 (by decide) ?_
        refine r_idiv C dX8_take_55 (by decide) ?_
        refine r_nmi (fun v3 ev3 => ?_)
        have hf := bnd_e hf v3 ev3
        refine r_istore_n (lv' := [(0, .ref (g.1 0)), (1, .int x1), (2, .int (1 : Int32)), (3, .int v3), (4, .int x4)]) C dX8_take_56 rfl (by decide) [1, 2, 3, 0, 4] rfl ?_
        obtain ⟨v4, ev4⟩ : ∃ z : Int32, z = x4 + (1 : Int32) := ⟨_, rfl⟩
        have hf := bnd_e hf v4 ev4
        refine r_iinc (v := v4) (lv' := [(0, .ref (g.1 0)), (1, .int x1), (2, .int (1 : Int32)), (3, .int v3), (4, .int v4)]) C dX8_take_57 4 rfl (by rw [ev4]; rfl) (by decide) [1, 2, 3, 4, 0] rfl ?_
        refine r_goto (tgt := 22) C dX8_take_60 (by decide) ?_
        exact hk22 _ _ _ _ _ _ hf
theorem mL_X8_take_22 {k : CT} {g : GG} (C : CX k cX8_take 6 RX8 wsX8_take rmX8_take g) {ρ : (Int32 × MI × MJ)} (hr : RTW k wM g cX8_take .int ρ) : ∀ (n : Nat) (I : MI) (J : MJ) (x1 : Int32) (x2 : Int32) (x3 : Int32) (x4 : Int32), LP_X8_take_22 n I J x1 x2 x3 x4 = some ρ → V k (wM g I J) 22 [(0, .ref (g.1 0)), (1, .int x1), (2, .int x2), (3, .int x3), (4, .int x4)] [] := by
  intro n
  induction n with
  | zero => intro I J x1 x2 x3 x4 hf; cases hf
  | succ n ih => intro I J x1 x2 x3 x4 hf; exact mB_X8_take_22 C hr (fun I J x1 x2 x3 x4 h => ih I J x1 x2 x3 x4 h) I J x1 x2 x3 x4 hf
set_option maxRecDepth 100000 in
set_option maxHeartbeats 4000000 in
theorem c_X8_take {l : Launch} {D : va_G} {g : GG} {I : MI} {J : MJ} {a1 : Int32} {r : Int32} {I' : MI} {J' : MJ} (hf : f_X8_take I J a1 = some (r, I', J')) : CON l yX8_take wsX8_take rmX8_take D g (wM g I J) [.ref (g.1 0), .int a1] (some (.int r)) (wM g I' J') := by
  refine con_of (cc := cX8_take) (maxL := 6) (ret := (some .int)) (by decide) rfl (Nat.le_of_ble_eq_true rfl) rfl rfl ?_
  intro k C hkl hkD h1 h2 h3
  subst hkl; subst hkD
  have hr : RTW k wM g cX8_take .int (r, I', J') := rtw_of h2
  unfold f_X8_take at hf
  refine V.loc (lv' := [(0, .ref (g.1 0)), (1, .int a1)]) [0, 1] rfl ?_
  refine r_aload_n C dX8_take_0 rfl 0 rfl ?_
  refine r_iconst (v := (0 : Int32)) C dX8_take_1 (by decide) ?_
  refine r_put (ty := .int) C dX8_take_2 kX8_take_1 tyX8 tyX8_ok nmX8 0 mg_0 rfl 0 (by decide) kX8_take_0 rfl rfl rfl rfl (Nat.le_of_ble_eq_true rfl) ms_0_0 ?_
  refine nmIM (fun I1 eI1 => ?_)
  have hf := bnd_e hf I1 eI1
  refine r_iload_n C dX8_take_5 rfl 1 rfl ?_
  refine r_iconst (v := (0 : Int32)) C dX8_take_6 (by decide) ?_
  refine r_aload_n C dX8_take_7 rfl 0 rfl ?_
  obtain ⟨r3, hq2, hf⟩ := bo1_e hf
  refine r_callV (o := some (.int r3)) (w' := (wM g I1 J)) (As := []) (rest := [.int (0 : Int32), .int a1]) C (c_X8_numbers hq2) dX8_take_8 gX8_take_X8_numbers rfl rfl rfl hd_X8_numbers ⟨by decide, by decide⟩ 0 mg_0 rfl rfl rfl rfl (Nat.le_of_ble_eq_true rfl) ?_
  refine r_iconst (v := (1 : Int32)) C dX8_take_11 (by decide) ?_
  refine r_isub C dX8_take_12 ?_
  obtain ⟨r5, hq4, hf⟩ := bo1_e hf
  refine r_callS (o := some (.int r5)) (w' := (wM g I1 J)) (As := [.int a1, .int (0 : Int32), .int (r3 - (1 : Int32))]) (rest := []) C (c_X8_in hq4) dX8_take_13 gX8_take_X8_in rfl rfl rfl hd_X8_in ⟨by decide, by decide⟩ rfl rfl (Nat.le_of_ble_eq_true rfl) ?_
  refine r_istore_n (lv' := [(0, .ref (g.1 0)), (1, .int a1), (2, .int r5)]) C dX8_take_16 rfl (by decide) [1, 2, 0] rfl ?_
  refine r_iload_n C dX8_take_17 rfl 1 rfl ?_
  refine r_istore_n (lv' := [(0, .ref (g.1 0)), (1, .int a1), (2, .int r5), (3, .int a1)]) C dX8_take_18 rfl (by decide) [1, 2, 3, 0] rfl ?_
  refine r_iconst (v := (0 : Int32)) C dX8_take_19 (by decide) ?_
  refine r_istore (lv' := [(0, .ref (g.1 0)), (1, .int a1), (2, .int r5), (3, .int a1), (4, .int (0 : Int32))]) C dX8_take_20 (by decide) [1, 2, 3, 4, 0] rfl ?_
  exact mL_X8_take_22 C hr FU _ _ _ _ _ _ hf
abbrev rmX8_frost : Room := { frames := 2, cells := 0, slots := 0, locals := 42 }
theorem hd_X8_frost : yX8_frost.cls = RX8 ∧ yX8_frost.cls ≠ "java/lang/invoke/MethodHandle" ∧ yX8_frost.cls ≠ "java/lang/invoke/VarHandle" ∧ (parseMethodDescriptor yX8_frost.desc).map (fun d => d.parameters.length) = some 2 := by decide +kernel
theorem kX8_frost_0 : Cond.fieldLink RX8 64 (TX8 0).1 (TX8 0).2.1 (TX8 0).2.2.1 ∈ wsX8_frost := by decide +kernel
theorem kX8_frost_1 : ∀ w ∈ u_ws RX8 TX8 38, w ∈ wsX8_frost := by decide +kernel
theorem kX8_frost_2 : Cond.fieldLink RX8 19 (TX8 11).1 (TX8 11).2.1 (TX8 11).2.2.1 ∈ wsX8_frost := by decide +kernel
set_option maxRecDepth 100000 in
set_option maxHeartbeats 4000000 in
theorem c_X8_frost {l : Launch} {D : va_G} {g : GG} {I : MI} {J : MJ} {a1 : Int32} {a2 : Int32} {r : Int32} {I' : MI} {J' : MJ} (hf : f_X8_frost I J a1 a2 = some (r, I', J')) : CON l yX8_frost wsX8_frost rmX8_frost D g (wM g I J) [.ref (g.1 0), .int a1, .int a2] (some (.int r)) (wM g I' J') := by
  refine con_of (cc := cX8_frost) (maxL := 4) (ret := (some .int)) (by decide) rfl (Nat.le_of_ble_eq_true rfl) rfl rfl ?_
  intro k C hkl hkD h1 h2 h3
  subst hkl; subst hkD
  have hr : RTW k wM g cX8_frost .int (r, I', J') := rtw_of h2
  unfold f_X8_frost at hf
  refine V.loc (lv' := [(0, .ref (g.1 0)), (1, .int a1), (2, .int a2)]) [0, 1, 2] rfl ?_
  refine r_aload_n C dX8_frost_0 rfl 0 rfl ?_
  refine r_iconst (v := (0 : Int32)) C dX8_frost_1 (by decide) ?_
  refine r_put (ty := .int) C dX8_frost_2 kX8_frost_1 tyX8 tyX8_ok nmX8 0 mg_0 rfl 0 (by decide) kX8_frost_0 rfl rfl rfl rfl (Nat.le_of_ble_eq_true rfl) ms_0_0 ?_
  refine nmIM (fun I1 eI1 => ?_)
  have hf := bnd_e hf I1 eI1
  refine r_iload_n C dX8_frost_5 rfl 1 rfl ?_
  obtain ⟨r3, hq2, hf⟩ := bo1_e hf
  refine r_callS (o := some (.int r3)) (w' := (wM g I1 J)) (As := [.int a1]) (rest := []) C (c_X8_isMonth hq2) dX8_frost_6 gX8_frost_X8_isMonth rfl rfl rfl hd_X8_isMonth ⟨by decide, by decide⟩ rfl rfl (Nat.le_of_ble_eq_true rfl) ?_
  refine r_if_eq (tgt := 22) C dX8_frost_9 (by decide) (fun q9 => ?_) (fun q9 => ?_)
  · have hf := itp hf q9
    refine r_iconst (v := (-1 : Int32)) C dX8_frost_22 (by decide) ?_
    exact hr _ _ _ _ _ dX8_frost_23 rfl hf
  · have hf := itn hf q9
    refine r_iload_n C dX8_frost_12 rfl 2 rfl ?_
    refine r_iconst (v := (0 : Int32)) C dX8_frost_13 (by decide) ?_
    refine r_bipush (v := (23 : Int32)) C dX8_frost_14 (by decide) ?_
    obtain ⟨r5, hq4, hf⟩ := bo1_e hf
    refine r_callS (o := some (.int r5)) (w' := (wM g I1 J)) (As := [.int a2, .int (0 : Int32), .int (23 : Int32)]) (rest := []) C (c_X8_in hq4) dX8_frost_16 gX8_frost_X8_in rfl rfl rfl hd_X8_in ⟨by decide, by decide⟩ rfl rfl (Nat.le_of_ble_eq_true rfl) ?_
    refine r_if_ne (tgt := 24) C dX8_frost_19 (by decide) (fun q19 => ?_) (fun q19 => ?_)
    · have hf := itn hf q19
      refine r_aload_n C dX8_frost_24 rfl 0 rfl ?_
      refine r_get C dX8_frost_25 kX8_frost_1 0 mg_0 rfl 11 (by decide) kX8_frost_2 mv_0_11 ?_
      refine r_iload_n C dX8_frost_28 rfl 1 rfl ?_
      obtain ⟨h6, hf⟩ := chk_e hf
      refine r_iald (j := a1.toNatClampNeg) C dX8_frost_29 4 mg_4 (inb_e h6) rfl ?_
      refine r_nmi (fun v7 ev7 => ?_)
      have hf := bnd_e hf v7 ev7
      refine r_istore_n (lv' := [(0, .ref (g.1 0)), (1, .int a1), (2, .int a2), (3, .int v7)]) C dX8_frost_30 rfl (by decide) [1, 2, 3, 0] rfl ?_
      refine r_aload_n C dX8_frost_31 rfl 0 rfl ?_
      refine r_get C dX8_frost_32 kX8_frost_1 0 mg_0 rfl 11 (by decide) kX8_frost_2 mv_0_11 ?_
      refine r_iload_n C dX8_frost_35 rfl 1 rfl ?_
      refine r_iload_n C dX8_frost_36 rfl 2 rfl ?_
      obtain ⟨h8, hf⟩ := chk_e hf
      refine r_iast (j := a1.toNatClampNeg) C dX8_frost_37 4 mg_4 (inb_e h8) rfl ma_4 ?_
      refine nmIM (fun I9 eI9 => ?_)
      have hf := bnd_e hf I9 eI9
      refine r_iload_n C dX8_frost_38 rfl 3 rfl ?_
      exact hr _ _ _ _ _ dX8_frost_39 rfl hf
    · have hf := itp hf q19
      refine r_iconst (v := (-1 : Int32)) C dX8_frost_22 (by decide) ?_
      exact hr _ _ _ _ _ dX8_frost_23 rfl hf
