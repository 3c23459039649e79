abbrev rmX8_beats : Room := { frames := 1, cells := 0, slots := 0, locals := 22 }
theorem hd_X8_beats : yX8_beats.cls = RX8 ∧ yX8_beats.cls ≠ "java/lang/invoke/MethodHandle" ∧ yX8_beats.cls ≠ "java/lang/invoke/VarHandle" ∧ (parseMethodDescriptor yX8_beats.desc).map (fun d => d.parameters.length) = some 0 := by decide +kernel
theorem kX8_beats_0 : Cond.fieldLink RX8 13 (TX8 4).1 (TX8 4).2.1 (TX8 4).2.2.1 ∈ wsX8_beats := by decide +kernel
theorem kX8_beats_1 : ∀ w ∈ u_ws RX8 TX8 38, w ∈ wsX8_beats := by decide +kernel
theorem kX8_beats_2 : Cond.fieldLink RX8 97 (TX8 6).1 (TX8 6).2.1 (TX8 6).2.2.1 ∈ wsX8_beats := by decide +kernel
theorem kX8_beats_3 : Cond.fieldLink RX8 100 (TX8 7).1 (TX8 7).2.1 (TX8 7).2.2.1 ∈ wsX8_beats := by decide +kernel
theorem kX8_beats_4 : Cond.fieldLink RX8 103 (TX8 8).1 (TX8 8).2.1 (TX8 8).2.2.1 ∈ wsX8_beats := by decide +kernel
theorem kX8_beats_5 : Cond.fieldLink RX8 106 (TX8 5).1 (TX8 5).2.1 (TX8 5).2.2.1 ∈ wsX8_beats := by decide +kernel
theorem kX8_beats_6 : Cond.fieldLink RX8 109 (TX8 9).1 (TX8 9).2.1 (TX8 9).2.2.1 ∈ wsX8_beats := by decide +kernel
theorem kX8_beats_7 : Jvm.Cond.constantLong RX8 112 (100) ∈ wsX8_beats := by decide +kernel
theorem kX8_beats_8 : Jvm.Cond.constantLong RX8 114 (50) ∈ wsX8_beats := by decide +kernel
theorem kX8_beats_9 : Jvm.Cond.constantLong RX8 116 (19) ∈ wsX8_beats := by decide +kernel
theorem kX8_beats_10 : Jvm.Cond.constantLong RX8 118 (20) ∈ wsX8_beats := by decide +kernel
set_option maxRecDepth 100000 in
set_option maxHeartbeats 4000000 in
theorem mB_X8_beats_62 {k : CT} {g : GG} (C : CX k cX8_beats 6 RX8 wsX8_beats rmX8_beats g) {ρ : (Int32 × MI × MJ)} (hr : RTW k wM g cX8_beats .boolean ρ) {kk62 : MI → MJ → Int32 → Int32 → Int32 → Option (Int32 × MI × MJ)} (hk62 : ∀ (I : MI) (J : MJ) (x1 : Int32) (x2 : Int32) (x3 : Int32), kk62 I J x1 x2 x3 = some ρ → V k (wM g I J) 62 [(0, .ref (g.1 0)), (1, .int x1), (2, .int x2), (3, .int x3)] []) : ∀ (I : MI) (J : MJ) (x1 : Int32) (x2 : Int32) (x3 : Int32), LB_X8_beats_62 kk62 I J x1 x2 x3 = some ρ → V k (wM g I J) 62 [(0, .ref (g.1 0)), (1, .int x1), (2, .int x2), (3, .int x3)] [] := by
  intro I J x1 x2 x3 hf
  unfold LB_X8_beats_62 at hf
  refine r_iload_n C dX8_beats_62 rfl 3 rfl ?_
  refine r_sipush (v := (400 : Int32)) C dX8_beats_63 (by decide) ?_
  refine r_icmp_gt (tgt := 289) C dX8_beats_66 (by decide) (fun q66 => ?_) (fun q66 => ?_)
  · have hf := itp hf q66
    refine r_iconst (v := (0 : Int32)) C dX8_beats_289 (by decide) ?_
    exact hr _ _ _ _ _ dX8_beats_290 nb0 hf
  · have hf := itn hf q66
    refine r_aload_n C dX8_beats_69 rfl 0 rfl ?_
    refine r_get C dX8_beats_70 kX8_beats_1 0 mg_0 rfl 6 (by decide) kX8_beats_2 mv_0_6 ?_
    refine r_nml (fun v1 ev1 => ?_)
    have hf := bnd_e hf v1 ev1
    refine r_lstore (lv' := [(0, .ref (g.1 0)), (1, .int x1), (2, .int x2), (3, .int x3), (4, .long v1)]) C dX8_beats_73 (by decide) [1, 2, 3, 4, 0] rfl ?_
    refine r_aload_n C dX8_beats_75 rfl 0 rfl ?_
    refine r_lload C dX8_beats_76 4 rfl ?_
    refine r_iload_n C dX8_beats_78 rfl 1 rfl ?_
    refine r_i2l C dX8_beats_79 ?_
    refine r_ladd C dX8_beats_80 ?_
    refine r_lload C dX8_beats_81 4 rfl ?_
    refine r_iconst (v := (3 : Int32)) C dX8_beats_83 (by decide) ?_
    refine r_aload_n C dX8_beats_84 rfl 0 rfl ?_
    refine r_get C dX8_beats_85 kX8_beats_1 0 mg_0 rfl 4 (by decide) kX8_beats_0 mv_0_4 ?_
    refine r_bipush (v := (8 : Int32)) C dX8_beats_88 (by decide) ?_
    refine r_iald (j := 8) C dX8_beats_90 2 mg_2 (inb_e (by decide +kernel)) (by decide +kernel) ?_
    refine r_iadd C dX8_beats_91 ?_
    refine r_i2l C dX8_beats_92 ?_
    refine r_lmul C dX8_beats_93 ?_
    refine r_ldc2 (v := (100 : Int64)) C dX8_beats_94 kX8_beats_7 ?_
    refine r_ldiv C dX8_beats_97 (by decide) ?_
    refine r_lsub C dX8_beats_98 ?_
    refine r_put (ty := .long) C dX8_beats_99 kX8_beats_1 tyX8 tyX8_ok nmX8 0 mg_0 rfl 6 (by decide) kX8_beats_2 rfl rfl rfl rfl (Nat.le_of_ble_eq_true rfl) ms_0_6 ?_
    refine nmJM (fun J2 eJ2 => ?_)
    have hf := bnd_e hf J2 eJ2
    refine r_aload_n C dX8_beats_102 rfl 0 rfl ?_
    refine r_dup C dX8_beats_103 rfl ?_
    refine r_get C dX8_beats_104 kX8_beats_1 0 mg_0 rfl 7 (by decide) kX8_beats_3 mv_0_7 ?_
    refine r_aload_n C dX8_beats_107 rfl 0 rfl ?_
    refine r_get C dX8_beats_108 kX8_beats_1 0 mg_0 rfl 6 (by decide) kX8_beats_2 mv_0_6 ?_
    refine r_aload_n C dX8_beats_111 rfl 0 rfl ?_
    refine r_get C dX8_beats_112 kX8_beats_1 0 mg_0 rfl 4 (by decide) kX8_beats_0 mv_0_4 ?_
    refine r_iconst (v := (3 : Int32)) C dX8_beats_115 (by decide) ?_
    refine r_iald (j := 3) C dX8_beats_116 2 mg_2 (inb_e (by decide +kernel)) (by decide +kernel) ?_
    refine r_i2l C dX8_beats_117 ?_
    refine r_lmul C dX8_beats_118 ?_
    refine r_iload_n C dX8_beats_119 rfl 2 rfl ?_
    refine r_i2l C dX8_beats_120 ?_
    refine r_lmul C dX8_beats_121 ?_
    refine r_ldc2 (v := (100 : Int64)) C dX8_beats_122 kX8_beats_7 ?_
    refine r_ldiv C dX8_beats_125 (by decide) ?_
    refine r_ladd C dX8_beats_126 ?_
    refine r_put (ty := .long) C dX8_beats_127 kX8_beats_1 tyX8 tyX8_ok nmX8 0 mg_0 rfl 7 (by decide) kX8_beats_3 rfl rfl rfl rfl (Nat.le_of_ble_eq_true rfl) ms_0_7 ?_
    refine nmJM (fun J3 eJ3 => ?_)
    have hf := bnd_e hf J3 eJ3
    refine r_aload_n C dX8_beats_130 rfl 0 rfl ?_
    refine r_get C dX8_beats_131 kX8_beats_1 0 mg_0 rfl 6 (by decide) kX8_beats_2 mv_0_6 ?_
    refine r_aload_n C dX8_beats_134 rfl 0 rfl ?_
    refine r_get C dX8_beats_135 kX8_beats_1 0 mg_0 rfl 6 (by decide) kX8_beats_2 mv_0_6 ?_
    refine r_lmul C dX8_beats_138 ?_
    refine r_ldc2 (v := (50 : Int64)) C dX8_beats_139 kX8_beats_8 ?_
    refine r_ldiv C dX8_beats_142 (by decide) ?_
    refine r_aload_n C dX8_beats_143 rfl 0 rfl ?_
    refine r_get C dX8_beats_144 kX8_beats_1 0 mg_0 rfl 4 (by decide) kX8_beats_0 mv_0_4 ?_
    refine r_iconst (v := (4 : Int32)) C dX8_beats_147 (by decide) ?_
    refine r_iald (j := 4) C dX8_beats_148 2 mg_2 (inb_e (by decide +kernel)) (by decide +kernel) ?_
    refine r_i2l C dX8_beats_149 ?_
    refine r_iload_n C dX8_beats_150 rfl 2 rfl ?_
    refine r_i2l C dX8_beats_151 ?_
    refine r_lmul C dX8_beats_152 ?_
    refine r_lcmp_lt (tgt := 271) C dX8_beats_153 dX8_beats_154 (by decide) (fun q153 => ?_) (fun q153 => ?_)
    · have hf := itp hf q153
      refine r_aload_n C dX8_beats_271 rfl 0 rfl ?_
      refine r_get C dX8_beats_272 kX8_beats_1 0 mg_0 rfl 6 (by decide) kX8_beats_2 mv_0_6 ?_
      refine r_lload C dX8_beats_275 4 rfl ?_
      refine r_lcmp_gt (tgt := 283) C dX8_beats_277 dX8_beats_278 (by decide) (fun q277 => ?_) (fun q277 => ?_)
      · have hf := itp hf q277
        obtain ⟨v4, ev4⟩ : ∃ z : Int32, z = x3 + (1 : Int32) := ⟨_, rfl⟩
        have hf := bnd_e hf v4 ev4
        refine r_iinc (v := v4) (lv' := [(0, .ref (g.1 0)), (1, .int x1), (2, .int x2), (3, .int v4), (4, .long v1)]) C dX8_beats_283 3 rfl (by rw [ev4]; rfl) (by decide) [1, 2, 3, 0, 4] rfl ?_
        refine r_goto (tgt := 62) C dX8_beats_286 (by decide) ?_
        refine V.loc [0, 1, 2, 3] rfl ?_
        exact hk62 _ _ _ _ _ hf
      · have hf := itn hf q277
        refine r_iconst (v := (0 : Int32)) C dX8_beats_281 (by decide) ?_
        exact hr _ _ _ _ _ dX8_beats_282 nb0 hf
    · have hf := itn hf q153
      refine r_aload_n C dX8_beats_157 rfl 0 rfl ?_
      refine r_iload_n C dX8_beats_158 rfl 3 rfl ?_
      refine r_put (ty := .int) C dX8_beats_159 kX8_beats_1 tyX8 tyX8_ok nmX8 0 mg_0 rfl 5 (by decide) kX8_beats_5 rfl rfl rfl rfl (Nat.le_of_ble_eq_true rfl) ms_0_5 ?_
      refine nmIM (fun I5 eI5 => ?_)
      have hf := bnd_e hf I5 eI5
      refine r_aload_n C dX8_beats_162 rfl 0 rfl ?_
      refine r_iload_n C dX8_beats_163 rfl 3 rfl ?_
      refine r_iconst (v := (4 : Int32)) C dX8_beats_164 (by decide) ?_
      refine r_iadd C dX8_beats_165 ?_
      refine r_aload_n C dX8_beats_166 rfl 0 rfl ?_
      refine r_get C dX8_beats_167 kX8_beats_1 0 mg_0 rfl 4 (by decide) kX8_beats_0 mv_0_4 ?_
      refine r_iconst (v := (1 : Int32)) C dX8_beats_170 (by decide) ?_
      refine r_iald (j := 1) C dX8_beats_171 2 mg_2 (inb_e (by decide +kernel)) (by decide +kernel) ?_
      refine r_sipush (v := (200 : Int32)) C dX8_beats_172 (by decide) ?_
      refine r_idiv C dX8_beats_175 (by decide) ?_
      refine r_iadd C dX8_beats_176 ?_
      refine r_put (ty := .int) C dX8_beats_177 kX8_beats_1 tyX8 tyX8_ok nmX8 0 mg_0 rfl 9 (by decide) kX8_beats_6 rfl rfl rfl rfl (Nat.le_of_ble_eq_true rfl) ms_0_9 ?_
      refine nmIM (fun I6 eI6 => ?_)
      have hf := bnd_e hf I6 eI6
      refine r_aload_n C dX8_beats_180 rfl 0 rfl ?_
      refine r_get C dX8_beats_181 kX8_beats_1 0 mg_0 rfl 6 (by decide) kX8_beats_2 mv_0_6 ?_
      refine r_aload_n C dX8_beats_184 rfl 0 rfl ?_
      refine r_get C dX8_beats_185 kX8_beats_1 0 mg_0 rfl 4 (by decide) kX8_beats_0 mv_0_4 ?_
      refine r_iconst (v := (1 : Int32)) C dX8_beats_188 (by decide) ?_
      refine r_iald (j := 1) C dX8_beats_189 2 mg_2 (inb_e (by decide +kernel)) (by decide +kernel) ?_
      refine r_bipush (v := (20 : Int32)) C dX8_beats_190 (by decide) ?_
      refine r_idiv C dX8_beats_192 (by decide) ?_
      refine r_i2l C dX8_beats_193 ?_
      refine r_lcmp_lt (tgt := 269) C dX8_beats_194 dX8_beats_195 (by decide) (fun q194 => ?_) (fun q194 => ?_)
      · have hf := itp hf q194
        refine r_iconst (v := (1 : Int32)) C dX8_beats_269 (by decide) ?_
        exact hr _ _ _ _ _ dX8_beats_270 nb1 hf
      · have hf := itn hf q194
        refine r_aload_n C dX8_beats_198 rfl 0 rfl ?_
        refine r_aload_n C dX8_beats_199 rfl 0 rfl ?_
        refine r_get C dX8_beats_200 kX8_beats_1 0 mg_0 rfl 7 (by decide) kX8_beats_3 mv_0_7 ?_
        refine r_aload_n C dX8_beats_203 rfl 0 rfl ?_
        refine r_get C dX8_beats_204 kX8_beats_1 0 mg_0 rfl 4 (by decide) kX8_beats_0 mv_0_4 ?_
        refine r_iconst (v := (0 : Int32)) C dX8_beats_207 (by decide) ?_
        refine r_iald (j := 0) C dX8_beats_208 2 mg_2 (inb_e (by decide +kernel)) (by decide +kernel) ?_
        refine r_i2l C dX8_beats_209 ?_
        refine r_lmul C dX8_beats_210 ?_
        refine r_aload_n C dX8_beats_211 rfl 0 rfl ?_
        refine r_aload_n C dX8_beats_212 rfl 0 rfl ?_
        refine r_get C dX8_beats_213 kX8_beats_1 0 mg_0 rfl 4 (by decide) kX8_beats_0 mv_0_4 ?_
        refine r_bipush (v := (10 : Int32)) C dX8_beats_216 (by decide) ?_
        refine r_iald (j := 10) C dX8_beats_218 2 mg_2 (inb_e (by decide +kernel)) (by decide +kernel) ?_
        obtain ⟨r8, hq7, hf⟩ := bo1_e hf
        refine r_callV (o := some (.int r8)) (w' := (wM g I6 J3)) (As := [.int (I6 2 10)]) (rest := [.long ((J3 0 7) * ((I6 2 0).toInt64)), .ref (g.1 0)]) C (c_X8_workOf hq7) dX8_beats_219 gX8_beats_X8_workOf rfl rfl rfl hd_X8_workOf ⟨by decide, by decide⟩ 0 mg_0 rfl rfl rfl rfl (Nat.le_of_ble_eq_true rfl) ?_
        refine r_i2l C dX8_beats_222 ?_
        refine r_lmul C dX8_beats_223 ?_
        refine r_ldc2 (v := (100 : Int64)) C dX8_beats_224 kX8_beats_7 ?_
        refine r_aload_n C dX8_beats_227 rfl 0 rfl ?_
        refine r_get C dX8_beats_228 kX8_beats_1 0 mg_0 rfl 4 (by decide) kX8_beats_0 mv_0_4 ?_
        refine r_iconst (v := (1 : Int32)) C dX8_beats_231 (by decide) ?_
        refine r_iald (j := 1) C dX8_beats_232 2 mg_2 (inb_e (by decide +kernel)) (by decide +kernel) ?_
        refine r_i2l C dX8_beats_233 ?_
        refine r_lmul C dX8_beats_234 ?_
        obtain ⟨h9, hf⟩ := chk_e hf
        refine r_ldiv C dX8_beats_235 (nzl_e h9) ?_
        refine r_put (ty := .long) C dX8_beats_236 kX8_beats_1 tyX8 tyX8_ok nmX8 0 mg_0 rfl 8 (by decide) kX8_beats_4 rfl rfl rfl rfl (Nat.le_of_ble_eq_true rfl) ms_0_8 ?_
        refine nmJM (fun J10 eJ10 => ?_)
        have hf := bnd_e hf J10 eJ10
        refine r_aload_n C dX8_beats_239 rfl 0 rfl ?_
        refine r_dup C dX8_beats_240 rfl ?_
        refine r_get C dX8_beats_241 kX8_beats_1 0 mg_0 rfl 8 (by decide) kX8_beats_4 mv_0_8 ?_
        refine r_aload_n C dX8_beats_244 rfl 0 rfl ?_
        refine r_get C dX8_beats_245 kX8_beats_1 0 mg_0 rfl 4 (by decide) kX8_beats_0 mv_0_4 ?_
        refine r_bipush (v := (9 : Int32)) C dX8_beats_248 (by decide) ?_
        refine r_iald (j := 9) C dX8_beats_250 2 mg_2 (inb_e (by decide +kernel)) (by decide +kernel) ?_
        refine r_i2l C dX8_beats_251 ?_
        refine r_aload_n C dX8_beats_252 rfl 0 rfl ?_
        refine r_get C dX8_beats_253 kX8_beats_1 0 mg_0 rfl 8 (by decide) kX8_beats_4 mv_0_8 ?_
        refine r_lmul C dX8_beats_256 ?_
        refine r_ldc2 (v := (19 : Int64)) C dX8_beats_257 kX8_beats_9 ?_
        refine r_ladd C dX8_beats_260 ?_
        refine r_ldc2 (v := (20 : Int64)) C dX8_beats_261 kX8_beats_10 ?_
        refine r_ldiv C dX8_beats_264 (by decide) ?_
        refine r_lsub C dX8_beats_265 ?_
        refine r_put (ty := .long) C dX8_beats_266 kX8_beats_1 tyX8 tyX8_ok nmX8 0 mg_0 rfl 8 (by decide) kX8_beats_4 rfl rfl rfl rfl (Nat.le_of_ble_eq_true rfl) ms_0_8 ?_
        refine nmJM (fun J11 eJ11 => ?_)
        have hf := bnd_e hf J11 eJ11
        refine r_iconst (v := (1 : Int32)) C dX8_beats_269 (by decide) ?_
        exact hr _ _ _ _ _ dX8_beats_270 nb1 hf
theorem mL_X8_beats_62 {k : CT} {g : GG} (C : CX k cX8_beats 6 RX8 wsX8_beats rmX8_beats g) {ρ : (Int32 × MI × MJ)} (hr : RTW k wM g cX8_beats .boolean ρ) : ∀ (n : Nat) (I : MI) (J : MJ) (x1 : Int32) (x2 : Int32) (x3 : Int32), LP_X8_beats_62 n I J x1 x2 x3 = some ρ → V k (wM g I J) 62 [(0, .ref (g.1 0)), (1, .int x1), (2, .int x2), (3, .int x3)] [] := by
  intro n
  induction n with
  | zero => intro I J x1 x2 x3 hf; cases hf
  | succ n ih => intro I J x1 x2 x3 hf; exact mB_X8_beats_62 C hr (fun I J x1 x2 x3 h => ih I J x1 x2 x3 h) I J x1 x2 x3 hf
set_option maxRecDepth 100000 in
set_option maxHeartbeats 4000000 in
theorem c_X8_beats {l : Launch} {D : va_G} {g : GG} {I : MI} {J : MJ} {r : Int32} {I' : MI} {J' : MJ} (hf : f_X8_beats I J = some (r, I', J')) : CON l yX8_beats wsX8_beats rmX8_beats D g (wM g I J) [.ref (g.1 0)] (some (.int r)) (wM g I' J') := by
  refine con_of (cc := cX8_beats) (maxL := 6) (ret := (some .boolean)) (by decide) rfl (Nat.le_of_ble_eq_true rfl) rfl rfl ?_
  intro k C hkl hkD h1 h2 h3
  subst hkl; subst hkD
  have hr : RTW k wM g cX8_beats .boolean (r, I', J') := rtw_of h2
  unfold f_X8_beats at hf
  refine V.loc (lv' := [(0, .ref (g.1 0))]) [0] rfl ?_
  refine r_sipush (v := (200 : Int32)) C dX8_beats_0 (by decide) ?_
  refine r_aload_n C dX8_beats_3 rfl 0 rfl ?_
  refine r_get C dX8_beats_4 kX8_beats_1 0 mg_0 rfl 4 (by decide) kX8_beats_0 mv_0_4 ?_
  refine r_iconst (v := (0 : Int32)) C dX8_beats_7 (by decide) ?_
  refine r_iald (j := 0) C dX8_beats_8 2 mg_2 (inb_e (by decide +kernel)) (by decide +kernel) ?_
  refine r_imul C dX8_beats_9 ?_
  refine r_aload_n C dX8_beats_10 rfl 0 rfl ?_
  refine r_get C dX8_beats_11 kX8_beats_1 0 mg_0 rfl 4 (by decide) kX8_beats_0 mv_0_4 ?_
  refine r_iconst (v := (2 : Int32)) C dX8_beats_14 (by decide) ?_
  refine r_iald (j := 2) C dX8_beats_15 2 mg_2 (inb_e (by decide +kernel)) (by decide +kernel) ?_
  obtain ⟨h1, hf⟩ := chk_e hf
  refine r_idiv C dX8_beats_16 (nz_e h1) ?_
  refine r_nmi (fun v2 ev2 => ?_)
  have hf := bnd_e hf v2 ev2
  refine r_istore_n (lv' := [(0, .ref (g.1 0)), (1, .int v2)]) C dX8_beats_17 rfl (by decide) [1, 0] rfl ?_
  refine r_aload_n C dX8_beats_18 rfl 0 rfl ?_
  refine r_get C dX8_beats_19 kX8_beats_1 0 mg_0 rfl 4 (by decide) kX8_beats_0 mv_0_4 ?_
  refine r_iconst (v := (5 : Int32)) C dX8_beats_22 (by decide) ?_
  refine r_iald (j := 5) C dX8_beats_23 2 mg_2 (inb_e (by decide +kernel)) (by decide +kernel) ?_
  refine r_aload_n C dX8_beats_24 rfl 0 rfl ?_
  refine r_get C dX8_beats_25 kX8_beats_1 0 mg_0 rfl 4 (by decide) kX8_beats_0 mv_0_4 ?_
  refine r_bipush (v := (7 : Int32)) C dX8_beats_28 (by decide) ?_
  refine r_iald (j := 7) C dX8_beats_30 2 mg_2 (inb_e (by decide +kernel)) (by decide +kernel) ?_
  refine r_iadd C dX8_beats_31 ?_
  refine r_nmi (fun v3 ev3 => ?_)
  have hf := bnd_e hf v3 ev3
  refine r_istore_n (lv' := [(0, .ref (g.1 0)), (1, .int v2), (2, .int v3)]) C dX8_beats_32 rfl (by decide) [1, 2, 0] rfl ?_
  refine r_aload_n C dX8_beats_33 rfl 0 rfl ?_
  refine r_lconst (v := (0 : Int64)) C dX8_beats_34 (by decide) ?_
  refine r_put (ty := .long) C dX8_beats_35 kX8_beats_1 tyX8 tyX8_ok nmX8 0 mg_0 rfl 6 (by decide) kX8_beats_2 rfl rfl rfl rfl (Nat.le_of_ble_eq_true rfl) ms_0_6 ?_
  refine nmJM (fun J4 eJ4 => ?_)
  have hf := bnd_e hf J4 eJ4
  refine r_aload_n C dX8_beats_38 rfl 0 rfl ?_
  refine r_lconst (v := (0 : Int64)) C dX8_beats_39 (by decide) ?_
  refine r_put (ty := .long) C dX8_beats_40 kX8_beats_1 tyX8 tyX8_ok nmX8 0 mg_0 rfl 7 (by decide) kX8_beats_3 rfl rfl rfl rfl (Nat.le_of_ble_eq_true rfl) ms_0_7 ?_
  refine nmJM (fun J5 eJ5 => ?_)
  have hf := bnd_e hf J5 eJ5
  refine r_aload_n C dX8_beats_43 rfl 0 rfl ?_
  refine r_lconst (v := (0 : Int64)) C dX8_beats_44 (by decide) ?_
  refine r_put (ty := .long) C dX8_beats_45 kX8_beats_1 tyX8 tyX8_ok nmX8 0 mg_0 rfl 8 (by decide) kX8_beats_4 rfl rfl rfl rfl (Nat.le_of_ble_eq_true rfl) ms_0_8 ?_
  refine nmJM (fun J6 eJ6 => ?_)
  have hf := bnd_e hf J6 eJ6
  refine r_aload_n C dX8_beats_48 rfl 0 rfl ?_
  refine r_bipush (v := (-9 : Int32)) C dX8_beats_49 (by decide) ?_
  refine r_put (ty := .int) C dX8_beats_51 kX8_beats_1 tyX8 tyX8_ok nmX8 0 mg_0 rfl 5 (by decide) kX8_beats_5 rfl rfl rfl rfl (Nat.le_of_ble_eq_true rfl) ms_0_5 ?_
  refine nmIM (fun I7 eI7 => ?_)
  have hf := bnd_e hf I7 eI7
  refine r_aload_n C dX8_beats_54 rfl 0 rfl ?_
  refine r_bipush (v := (-9 : Int32)) C dX8_beats_55 (by decide) ?_
  refine r_put (ty := .int) C dX8_beats_57 kX8_beats_1 tyX8 tyX8_ok nmX8 0 mg_0 rfl 9 (by decide) kX8_beats_6 rfl rfl rfl rfl (Nat.le_of_ble_eq_true rfl) ms_0_9 ?_
  refine nmIM (fun I8 eI8 => ?_)
  have hf := bnd_e hf I8 eI8
  refine r_iconst (v := (1 : Int32)) C dX8_beats_60 (by decide) ?_
  refine r_istore_n (lv' := [(0, .ref (g.1 0)), (1, .int v2), (2, .int v3), (3, .int (1 : Int32))]) C dX8_beats_61 rfl (by decide) [1, 2, 3, 0] rfl ?_
  exact mL_X8_beats_62 C hr FU _ _ _ _ _ hf
abbrev rmX8_beat : Room := { frames := 2, cells := 0, slots := 0, locals := 47 }
theorem hd_X8_beat : yX8_beat.cls = RX8 ∧ yX8_beat.cls ≠ "java/lang/invoke/MethodHandle" ∧ yX8_beat.cls ≠ "java/lang/invoke/VarHandle" ∧ (parseMethodDescriptor yX8_beat.desc).map (fun d => d.parameters.length) = some 2 := by decide +kernel
theorem kX8_beat_0 : Cond.fieldLink RX8 64 (TX8 0).1 (TX8 0).2.1 (TX8 0).2.2.1 ∈ wsX8_beat := by decide +kernel
theorem kX8_beat_1 : ∀ w ∈ u_ws RX8 TX8 38, w ∈ wsX8_beat := by decide +kernel
theorem kX8_beat_2 : Cond.fieldLink RX8 109 (TX8 9).1 (TX8 9).2.1 (TX8 9).2.2.1 ∈ wsX8_beat := by decide +kernel
theorem kX8_beat_3 : Cond.fieldLink RX8 103 (TX8 8).1 (TX8 8).2.1 (TX8 8).2.2.1 ∈ wsX8_beat := by decide +kernel
theorem kX8_beat_4 : Cond.fieldLink RX8 100 (TX8 7).1 (TX8 7).2.1 (TX8 7).2.2.1 ∈ wsX8_beat := by decide +kernel
theorem kX8_beat_5 : Cond.fieldLink RX8 97 (TX8 6).1 (TX8 6).2.1 (TX8 6).2.2.1 ∈ wsX8_beat := by decide +kernel
theorem kX8_beat_6 : Cond.fieldLink RX8 106 (TX8 5).1 (TX8 5).2.1 (TX8 5).2.2.1 ∈ wsX8_beat := by decide +kernel
set_option maxRecDepth 100000 in
set_option maxHeartbeats 4000000 in
theorem c_X8_beat {l : Launch} {D : va_G} {g : GG} {I : MI} {J : MJ} {a1 : Int32} {a2 : Int32} {r : Int32} {I' : MI} {J' : MJ} (hf : f_X8_beat I J a1 a2 = some (r, I', J')) : CON l yX8_beat wsX8_beat rmX8_beat D g (wM g I J) [.ref (g.1 0), .int a1, .int a2] (some (.int r)) (wM g I' J') := by
  refine con_of (cc := cX8_beat) (maxL := 3) (ret := (some .int)) (by decide) rfl (Nat.le_of_ble_eq_true rfl) rfl rfl ?_
  intro k C hkl hkD h1 h2 h3
  subst hkl; subst hkD
  have hr : RTW k wM g cX8_beat .int (r, I', J') := rtw_of h2
  unfold f_X8_beat at hf
  refine V.loc (lv' := [(0, .ref (g.1 0)), (1, .int a1), (2, .int a2)]) [0, 1, 2] rfl ?_
  refine r_aload_n C dX8_beat_0 rfl 0 rfl ?_
  refine r_iconst (v := (0 : Int32)) C dX8_beat_1 (by decide) ?_
  refine r_put (ty := .int) C dX8_beat_2 kX8_beat_1 tyX8 tyX8_ok nmX8 0 mg_0 rfl 0 (by decide) kX8_beat_0 rfl rfl rfl rfl (Nat.le_of_ble_eq_true rfl) ms_0_0 ?_
  refine nmIM (fun I1 eI1 => ?_)
  have hf := bnd_e hf I1 eI1
  refine r_aload_n C dX8_beat_5 rfl 0 rfl ?_
  refine r_iload_n C dX8_beat_6 rfl 1 rfl ?_
  obtain ⟨r3, hq2, hf⟩ := bo1_e hf
  refine r_callV (o := some (.int r3)) (w' := (wM g I1 J)) (As := [.int a1]) (rest := []) C (c_X8_isRam hq2) dX8_beat_7 gX8_beat_X8_isRam rfl rfl rfl hd_X8_isRam ⟨by decide, by decide⟩ 0 mg_0 rfl rfl rfl rfl (Nat.le_of_ble_eq_true rfl) ?_
  refine r_if_eq (tgt := 22) C dX8_beat_10 (by decide) (fun q10 => ?_) (fun q10 => ?_)
  · have hf := itp hf q10
    refine r_iconst (v := (-1 : Int32)) C dX8_beat_22 (by decide) ?_
    exact hr _ _ _ _ _ dX8_beat_23 rfl hf
  · have hf := itn hf q10
    refine r_iload_n C dX8_beat_13 rfl 2 rfl ?_
    refine r_iconst (v := (0 : Int32)) C dX8_beat_14 (by decide) ?_
    refine r_iconst (v := (4 : Int32)) C dX8_beat_15 (by decide) ?_
    obtain ⟨r5, hq4, hf⟩ := bo1_e hf
    refine r_callS (o := some (.int r5)) (w' := (wM g I1 J)) (As := [.int a2, .int (0 : Int32), .int (4 : Int32)]) (rest := []) C (c_X8_in hq4) dX8_beat_16 gX8_beat_X8_in rfl rfl rfl hd_X8_in ⟨by decide, by decide⟩ rfl rfl (Nat.le_of_ble_eq_true rfl) ?_
    refine r_if_ne (tgt := 24) C dX8_beat_19 (by decide) (fun q19 => ?_) (fun q19 => ?_)
    · have hf := itn hf q19
      refine r_aload_n C dX8_beat_24 rfl 0 rfl ?_
      refine r_iload_n C dX8_beat_25 rfl 1 rfl ?_
      obtain ⟨I7, J8, hq6, hf⟩ := bo2_e hf
      refine r_callV (o := none) (w' := (wM g I7 J8)) (As := [.int a1]) (rest := []) C (c_X8_takes hq6) dX8_beat_26 gX8_beat_X8_takes rfl rfl rfl hd_X8_takes ⟨by decide, by decide⟩ 0 mg_0 rfl rfl rfl rfl (Nat.le_of_ble_eq_true rfl) ?_
      refine r_aload_n C dX8_beat_29 rfl 0 rfl ?_
      obtain ⟨r12, I10, J11, hq9, hf⟩ := bo3_e hf
      refine r_callV (o := some (.int r12)) (w' := (wM g I10 J11)) (As := []) (rest := []) C (c_X8_beats hq9) dX8_beat_30 gX8_beat_X8_beats rfl rfl rfl hd_X8_beats ⟨by decide, by decide⟩ 0 mg_0 rfl rfl rfl rfl (Nat.le_of_ble_eq_true rfl) ?_
      refine r_if_ne (tgt := 39) C dX8_beat_33 (by decide) (fun q33 => ?_) (fun q33 => ?_)
      · have hf := itn hf q33
        refine r_iload_n C dX8_beat_39 rfl 2 rfl ?_
        refine r_if_ne (tgt := 50) C dX8_beat_40 (by decide) (fun q40 => ?_) (fun q40 => ?_)
        · have hf := itn hf q40
          refine r_iload_n C dX8_beat_50 rfl 2 rfl ?_
          refine r_iconst (v := (1 : Int32)) C dX8_beat_51 (by decide) ?_
          refine r_icmp_ne (tgt := 63) C dX8_beat_52 (by decide) (fun q52 => ?_) (fun q52 => ?_)
          · have hf := itn hf q52
            refine r_iload_n C dX8_beat_63 rfl 2 rfl ?_
            refine r_iconst (v := (2 : Int32)) C dX8_beat_64 (by decide) ?_
            refine r_icmp_ne (tgt := 76) C dX8_beat_65 (by decide) (fun q65 => ?_) (fun q65 => ?_)
            · have hf := itn hf q65
              refine r_iload_n C dX8_beat_76 rfl 2 rfl ?_
              refine r_iconst (v := (3 : Int32)) C dX8_beat_77 (by decide) ?_
              refine r_icmp_ne (tgt := 89) C dX8_beat_78 (by decide) (fun q78 => ?_) (fun q78 => ?_)
              · have hf := itn hf q78
                refine r_aload_n C dX8_beat_89 rfl 0 rfl ?_
                refine r_get C dX8_beat_90 kX8_beat_1 0 mg_0 rfl 9 (by decide) kX8_beat_2 mv_0_9 ?_
                exact hr _ _ _ _ _ dX8_beat_93 rfl hf
              · have hf := itp hf q78
                refine r_aload_n C dX8_beat_81 rfl 0 rfl ?_
                refine r_get C dX8_beat_82 kX8_beat_1 0 mg_0 rfl 8 (by decide) kX8_beat_3 mv_0_8 ?_
                refine r_l2i C dX8_beat_85 ?_
                refine r_goto (tgt := 93) C dX8_beat_86 (by decide) ?_
                exact hr _ _ _ _ _ dX8_beat_93 rfl hf
            · have hf := itp hf q65
              refine r_aload_n C dX8_beat_68 rfl 0 rfl ?_
              refine r_get C dX8_beat_69 kX8_beat_1 0 mg_0 rfl 7 (by decide) kX8_beat_4 mv_0_7 ?_
              refine r_l2i C dX8_beat_72 ?_
              refine r_goto (tgt := 93) C dX8_beat_73 (by decide) ?_
              exact hr _ _ _ _ _ dX8_beat_93 rfl hf
          · have hf := itp hf q52
            refine r_aload_n C dX8_beat_55 rfl 0 rfl ?_
            refine r_get C dX8_beat_56 kX8_beat_1 0 mg_0 rfl 6 (by decide) kX8_beat_5 mv_0_6 ?_
            refine r_l2i C dX8_beat_59 ?_
            refine r_goto (tgt := 93) C dX8_beat_60 (by decide) ?_
            exact hr _ _ _ _ _ dX8_beat_93 rfl hf
        · have hf := itp hf q40
          refine r_aload_n C dX8_beat_43 rfl 0 rfl ?_
          refine r_get C dX8_beat_44 kX8_beat_1 0 mg_0 rfl 5 (by decide) kX8_beat_6 mv_0_5 ?_
          refine r_goto (tgt := 93) C dX8_beat_47 (by decide) ?_
          exact hr _ _ _ _ _ dX8_beat_93 rfl hf
      · have hf := itp hf q33
        refine r_bipush (v := (-9 : Int32)) C dX8_beat_36 (by decide) ?_
        exact hr _ _ _ _ _ dX8_beat_38 rfl hf
    · have hf := itp hf q19
      refine r_iconst (v := (-1 : Int32)) C dX8_beat_22 (by decide) ?_
      exact hr _ _ _ _ _ dX8_beat_23 rfl hf
abbrev rmX8_hourOf : Room := { frames := 2, cells := 0, slots := 0, locals := 47 }
theorem hd_X8_hourOf : yX8_hourOf.cls = RX8 ∧ yX8_hourOf.cls ≠ "java/lang/invoke/MethodHandle" ∧ yX8_hourOf.cls ≠ "java/lang/invoke/VarHandle" ∧ (parseMethodDescriptor yX8_hourOf.desc).map (fun d => d.parameters.length) = some 1 := by decide +kernel
theorem kX8_hourOf_0 : Cond.fieldLink RX8 109 (TX8 9).1 (TX8 9).2.1 (TX8 9).2.2.1 ∈ wsX8_hourOf := by decide +kernel
theorem kX8_hourOf_1 : ∀ w ∈ u_ws RX8 TX8 38, w ∈ wsX8_hourOf := by decide +kernel
theorem kX8_hourOf_2 : Cond.fieldLink RX8 100 (TX8 7).1 (TX8 7).2.1 (TX8 7).2.2.1 ∈ wsX8_hourOf := by decide +kernel
theorem kX8_hourOf_3 : Cond.fieldLink RX8 103 (TX8 8).1 (TX8 8).2.1 (TX8 8).2.2.1 ∈ wsX8_hourOf := by decide +kernel
theorem kX8_hourOf_4 : Cond.fieldLink RX8 13 (TX8 4).1 (TX8 4).2.1 (TX8 4).2.2.1 ∈ wsX8_hourOf := by decide +kernel
set_option maxRecDepth 100000 in
set_option maxHeartbeats 4000000 in
theorem c_X8_hourOf {l : Launch} {D : va_G} {g : GG} {I : MI} {J : MJ} {a1 : Int32} {r : Int32} {I' : MI} {J' : MJ} (hf : f_X8_hourOf I J a1 = some (r, I', J')) : CON l yX8_hourOf wsX8_hourOf rmX8_hourOf D g (wM g I J) [.ref (g.1 0), .int a1] (some (.int r)) (wM g I' J') := by
  refine con_of (cc := cX8_hourOf) (maxL := 3) (ret := (some .int)) (by decide) rfl (Nat.le_of_ble_eq_true rfl) rfl rfl ?_
  intro k C hkl hkD h1 h2 h3
  subst hkl; subst hkD
  have hr : RTW k wM g cX8_hourOf .int (r, I', J') := rtw_of h2
  unfold f_X8_hourOf at hf
  refine V.loc (lv' := [(0, .ref (g.1 0)), (1, .int a1)]) [0, 1] rfl ?_
  refine r_aload_n C dX8_hourOf_0 rfl 0 rfl ?_
  obtain ⟨r4, I2, J3, hq1, hf⟩ := bo3_e hf
  refine r_callV (o := some (.int r4)) (w' := (wM g I2 J3)) (As := []) (rest := []) C (c_X8_beats hq1) dX8_hourOf_1 gX8_hourOf_X8_beats rfl rfl rfl hd_X8_beats ⟨by decide, by decide⟩ 0 mg_0 rfl rfl rfl rfl (Nat.le_of_ble_eq_true rfl) ?_
  refine r_if_ne (tgt := 58) C dX8_hourOf_4 (by decide) (fun q4 => ?_) (fun q4 => ?_)
  · have hf := itn hf q4
    refine r_sipush (v := (3600 : Int32)) C dX8_hourOf_58 (by decide) ?_
    refine r_aload_n C dX8_hourOf_61 rfl 0 rfl ?_
    refine r_get C dX8_hourOf_62 kX8_hourOf_1 0 mg_0 rfl 9 (by decide) kX8_hourOf_0 mv_0_9 ?_
    obtain ⟨h5, hf⟩ := chk_e hf
    refine r_idiv C dX8_hourOf_65 (nz_e h5) ?_
    refine r_nmi (fun v6 ev6 => ?_)
    have hf := bnd_e hf v6 ev6
    refine r_istore_n (lv' := [(0, .ref (g.1 0)), (1, .int a1), (2, .int v6)]) C dX8_hourOf_66 rfl (by decide) [1, 2, 0] rfl ?_
    refine r_iload_n C dX8_hourOf_67 rfl 1 rfl ?_
    refine r_if_ne (tgt := 76) C dX8_hourOf_68 (by decide) (fun q68 => ?_) (fun q68 => ?_)
    · have hf := itn hf q68
      refine r_iload_n C dX8_hourOf_76 rfl 1 rfl ?_
      refine r_iconst (v := (1 : Int32)) C dX8_hourOf_77 (by decide) ?_
      refine r_icmp_ne (tgt := 91) C dX8_hourOf_78 (by decide) (fun q78 => ?_) (fun q78 => ?_)
      · have hf := itn hf q78
        refine r_iload_n C dX8_hourOf_91 rfl 1 rfl ?_
        refine r_iconst (v := (2 : Int32)) C dX8_hourOf_92 (by decide) ?_
        refine r_icmp_ne (tgt := 106) C dX8_hourOf_93 (by decide) (fun q93 => ?_) (fun q93 => ?_)
        · have hf := itn hf q93
          refine r_iload_n C dX8_hourOf_106 rfl 2 rfl ?_
          refine r_i2l C dX8_hourOf_107 ?_
          refine r_aload_n C dX8_hourOf_108 rfl 0 rfl ?_
          refine r_get C dX8_hourOf_109 kX8_hourOf_1 0 mg_0 rfl 7 (by decide) kX8_hourOf_2 mv_0_7 ?_
          refine r_aload_n C dX8_hourOf_112 rfl 0 rfl ?_
          refine r_get C dX8_hourOf_113 kX8_hourOf_1 0 mg_0 rfl 8 (by decide) kX8_hourOf_3 mv_0_8 ?_
          refine r_ladd C dX8_hourOf_116 ?_
          refine r_lmul C dX8_hourOf_117 ?_
          refine r_l2i C dX8_hourOf_118 ?_
          exact hr _ _ _ _ _ dX8_hourOf_119 rfl hf
        · have hf := itp hf q93
          refine r_iload_n C dX8_hourOf_96 rfl 2 rfl ?_
          refine r_i2l C dX8_hourOf_97 ?_
          refine r_aload_n C dX8_hourOf_98 rfl 0 rfl ?_
          refine r_get C dX8_hourOf_99 kX8_hourOf_1 0 mg_0 rfl 8 (by decide) kX8_hourOf_3 mv_0_8 ?_
          refine r_lmul C dX8_hourOf_102 ?_
          refine r_goto (tgt := 118) C dX8_hourOf_103 (by decide) ?_
          refine r_l2i C dX8_hourOf_118 ?_
          exact hr _ _ _ _ _ dX8_hourOf_119 rfl hf
      · have hf := itp hf q78
        refine r_iload_n C dX8_hourOf_81 rfl 2 rfl ?_
        refine r_i2l C dX8_hourOf_82 ?_
        refine r_aload_n C dX8_hourOf_83 rfl 0 rfl ?_
        refine r_get C dX8_hourOf_84 kX8_hourOf_1 0 mg_0 rfl 7 (by decide) kX8_hourOf_2 mv_0_7 ?_
        refine r_lmul C dX8_hourOf_87 ?_
        refine r_goto (tgt := 118) C dX8_hourOf_88 (by decide) ?_
        refine r_l2i C dX8_hourOf_118 ?_
        exact hr _ _ _ _ _ dX8_hourOf_119 rfl hf
    · have hf := itp hf q68
      refine r_iload_n C dX8_hourOf_71 rfl 2 rfl ?_
      refine r_i2l C dX8_hourOf_72 ?_
      refine r_goto (tgt := 118) C dX8_hourOf_73 (by decide) ?_
      refine r_l2i C dX8_hourOf_118 ?_
      exact hr _ _ _ _ _ dX8_hourOf_119 rfl hf
  · have hf := itp hf q4
    refine r_bipush (v := (36 : Int32)) C dX8_hourOf_7 (by decide) ?_
    refine r_aload_n C dX8_hourOf_9 rfl 0 rfl ?_
    refine r_get C dX8_hourOf_10 kX8_hourOf_1 0 mg_0 rfl 4 (by decide) kX8_hourOf_4 mv_0_4 ?_
    refine r_iconst (v := (3 : Int32)) C dX8_hourOf_13 (by decide) ?_
    refine r_iald (j := 3) C dX8_hourOf_14 2 mg_2 (inb_e (by decide +kernel)) (by decide +kernel) ?_
    refine r_imul C dX8_hourOf_15 ?_
    refine r_aload_n C dX8_hourOf_16 rfl 0 rfl ?_
    refine r_get C dX8_hourOf_17 kX8_hourOf_1 0 mg_0 rfl 4 (by decide) kX8_hourOf_4 mv_0_4 ?_
    refine r_iconst (v := (5 : Int32)) C dX8_hourOf_20 (by decide) ?_
    refine r_iald (j := 5) C dX8_hourOf_21 2 mg_2 (inb_e (by decide +kernel)) (by decide +kernel) ?_
    refine r_aload_n C dX8_hourOf_22 rfl 0 rfl ?_
    refine r_get C dX8_hourOf_23 kX8_hourOf_1 0 mg_0 rfl 4 (by decide) kX8_hourOf_4 mv_0_4 ?_
    refine r_bipush (v := (7 : Int32)) C dX8_hourOf_26 (by decide) ?_
    refine r_iald (j := 7) C dX8_hourOf_28 2 mg_2 (inb_e (by decide +kernel)) (by decide +kernel) ?_
    refine r_iadd C dX8_hourOf_29 ?_
    refine r_imul C dX8_hourOf_30 ?_
    refine r_aload_n C dX8_hourOf_31 rfl 0 rfl ?_
    refine r_get C dX8_hourOf_32 kX8_hourOf_1 0 mg_0 rfl 4 (by decide) kX8_hourOf_4 mv_0_4 ?_
    refine r_iconst (v := (0 : Int32)) C dX8_hourOf_35 (by decide) ?_
    refine r_iald (j := 0) C dX8_hourOf_36 2 mg_2 (inb_e (by decide +kernel)) (by decide +kernel) ?_
    refine r_imul C dX8_hourOf_37 ?_
    refine r_bipush (v := (10 : Int32)) C dX8_hourOf_38 (by decide) ?_
    refine r_idiv C dX8_hourOf_40 (by decide) ?_
    refine r_nmi (fun v7 ev7 => ?_)
    have hf := bnd_e hf v7 ev7
    refine r_istore_n (lv' := [(0, .ref (g.1 0)), (1, .int a1), (2, .int v7)]) C dX8_hourOf_41 rfl (by decide) [1, 2, 0] rfl ?_
    refine r_iload_n C dX8_hourOf_42 rfl 1 rfl ?_
    refine r_iconst (v := (1 : Int32)) C dX8_hourOf_43 (by decide) ?_
    refine r_icmp_eq (tgt := 52) C dX8_hourOf_44 (by decide) (fun q44 => ?_) (fun q44 => ?_)
    · have hf := itp hf q44
      refine r_iload_n C dX8_hourOf_52 rfl 2 rfl ?_
      refine r_goto (tgt := 57) C dX8_hourOf_53 (by decide) ?_
      exact hr _ _ _ _ _ dX8_hourOf_57 rfl hf
    · have hf := itn hf q44
      refine r_iload_n C dX8_hourOf_47 rfl 1 rfl ?_
      refine r_iconst (v := (3 : Int32)) C dX8_hourOf_48 (by decide) ?_
      refine r_icmp_ne (tgt := 56) C dX8_hourOf_49 (by decide) (fun q49 => ?_) (fun q49 => ?_)
      · have hf := itn hf q49
        refine r_iconst (v := (0 : Int32)) C dX8_hourOf_56 (by decide) ?_
        exact hr _ _ _ _ _ dX8_hourOf_57 rfl hf
      · have hf := itp hf q49
        refine r_iload_n C dX8_hourOf_52 rfl 2 rfl ?_
        refine r_goto (tgt := 57) C dX8_hourOf_53 (by decide) ?_
        exact hr _ _ _ _ _ dX8_hourOf_57 rfl hf
abbrev rmX8_hourly : Room := { frames := 3, cells := 0, slots := 0, locals := 69 }
theorem hd_X8_hourly : yX8_hourly.cls = RX8 ∧ yX8_hourly.cls ≠ "java/lang/invoke/MethodHandle" ∧ yX8_hourly.cls ≠ "java/lang/invoke/VarHandle" ∧ (parseMethodDescriptor yX8_hourly.desc).map (fun d => d.parameters.length) = some 2 := by decide +kernel
theorem kX8_hourly_0 : Cond.fieldLink RX8 64 (TX8 0).1 (TX8 0).2.1 (TX8 0).2.2.1 ∈ wsX8_hourly := by decide +kernel
theorem kX8_hourly_1 : ∀ w ∈ u_ws RX8 TX8 38, w ∈ wsX8_hourly := by decide +kernel
set_option maxRecDepth 100000 in
set_option maxHeartbeats 4000000 in
theorem c_X8_hourly {l : Launch} {D : va_G} {g : GG} {I : MI} {J : MJ} {a1 : Int32} {a2 : Int32} {r : Int32} {I' : MI} {J' : MJ} (hf : f_X8_hourly I J a1 a2 = some (r, I', J')) : CON l yX8_hourly wsX8_hourly rmX8_hourly D g (wM g I J) [.ref (g.1 0), .int a1, .int a2] (some (.int r)) (wM g I' J') := by
  refine con_of (cc := cX8_hourly) (maxL := 3) (ret := (some .int)) (by decide) rfl (Nat.le_of_ble_eq_true rfl) rfl rfl ?_
  intro k C hkl hkD h1 h2 h3
  subst hkl; subst hkD
  have hr : RTW k wM g cX8_hourly .int (r, I', J') := rtw_of h2
  unfold f_X8_hourly at hf
  refine V.loc (lv' := [(0, .ref (g.1 0)), (1, .int a1), (2, .int a2)]) [0, 1, 2] rfl ?_
  refine r_aload_n C dX8_hourly_0 rfl 0 rfl ?_
  refine r_iconst (v := (0 : Int32)) C dX8_hourly_1 (by decide) ?_
  refine r_put (ty := .int) C dX8_hourly_2 kX8_hourly_1 tyX8 tyX8_ok nmX8 0 mg_0 rfl 0 (by decide) kX8_hourly_0 rfl rfl rfl rfl (Nat.le_of_ble_eq_true rfl) ms_0_0 ?_
  refine nmIM (fun I1 eI1 => ?_)
  have hf := bnd_e hf I1 eI1
  refine r_aload_n C dX8_hourly_5 rfl 0 rfl ?_
  refine r_iload_n C dX8_hourly_6 rfl 1 rfl ?_
  obtain ⟨r3, hq2, hf⟩ := bo1_e hf
  refine r_callV (o := some (.int r3)) (w' := (wM g I1 J)) (As := [.int a1]) (rest := []) C (c_X8_isRam hq2) dX8_hourly_7 gX8_hourly_X8_isRam rfl rfl rfl hd_X8_isRam ⟨by decide, by decide⟩ 0 mg_0 rfl rfl rfl rfl (Nat.le_of_ble_eq_true rfl) ?_
  refine r_if_eq (tgt := 22) C dX8_hourly_10 (by decide) (fun q10 => ?_) (fun q10 => ?_)
  · have hf := itp hf q10
    refine r_iconst (v := (-1 : Int32)) C dX8_hourly_22 (by decide) ?_
    exact hr _ _ _ _ _ dX8_hourly_23 rfl hf
  · have hf := itn hf q10
    refine r_iload_n C dX8_hourly_13 rfl 2 rfl ?_
    refine r_iconst (v := (0 : Int32)) C dX8_hourly_14 (by decide) ?_
    refine r_iconst (v := (3 : Int32)) C dX8_hourly_15 (by decide) ?_
    obtain ⟨r5, hq4, hf⟩ := bo1_e hf
    refine r_callS (o := some (.int r5)) (w' := (wM g I1 J)) (As := [.int a2, .int (0 : Int32), .int (3 : Int32)]) (rest := []) C (c_X8_in hq4) dX8_hourly_16 gX8_hourly_X8_in rfl rfl rfl hd_X8_in ⟨by decide, by decide⟩ rfl rfl (Nat.le_of_ble_eq_true rfl) ?_
    refine r_if_ne (tgt := 24) C dX8_hourly_19 (by decide) (fun q19 => ?_) (fun q19 => ?_)
    · have hf := itn hf q19
      refine r_aload_n C dX8_hourly_24 rfl 0 rfl ?_
      refine r_iload_n C dX8_hourly_25 rfl 1 rfl ?_
      obtain ⟨I7, J8, hq6, hf⟩ := bo2_e hf
      refine r_callV (o := none) (w' := (wM g I7 J8)) (As := [.int a1]) (rest := []) C (c_X8_takes hq6) dX8_hourly_26 gX8_hourly_X8_takes rfl rfl rfl hd_X8_takes ⟨by decide, by decide⟩ 0 mg_0 rfl rfl rfl rfl (Nat.le_of_ble_eq_true rfl) ?_
      refine r_aload_n C dX8_hourly_29 rfl 0 rfl ?_
      refine r_iload_n C dX8_hourly_30 rfl 2 rfl ?_
      obtain ⟨r12, I10, J11, hq9, hf⟩ := bo3_e hf
      refine r_callV (o := some (.int r12)) (w' := (wM g I10 J11)) (As := [.int a2]) (rest := []) C (c_X8_hourOf hq9) dX8_hourly_31 gX8_hourly_X8_hourOf rfl rfl rfl hd_X8_hourOf ⟨by decide, by decide⟩ 0 mg_0 rfl rfl rfl rfl (Nat.le_of_ble_eq_true rfl) ?_
      exact hr _ _ _ _ _ dX8_hourly_34 rfl hf
    · have hf := itp hf q19
      refine r_iconst (v := (-1 : Int32)) C dX8_hourly_22 (by decide) ?_
      exact hr _ _ _ _ _ dX8_hourly_23 rfl hf
abbrev rmX8_isMonth : Room := { frames := 1, cells := 0, slots := 0, locals := 22 }
theorem hd_X8_isMonth : yX8_isMonth.cls ≠ "java/lang/invoke/MethodHandle" ∧ yX8_isMonth.cls ≠ "java/lang/invoke/VarHandle" ∧ (parseMethodDescriptor yX8_isMonth.desc).map (fun d => d.parameters.length) = some 1 := by decide +kernel
set_option maxRecDepth 100000 in
set_option maxHeartbeats 4000000 in
theorem c_X8_isMonth {l : Launch} {D : va_G} {g : GG} {I : MI} {J : MJ} {a0 : Int32} {r : Int32} (hf : f_X8_isMonth a0 = some r) : CON l yX8_isMonth wsX8_isMonth rmX8_isMonth D g (wM g I J) [.int a0] (some (.int r)) (wM g I J) := by
  refine con_of (cc := cX8_isMonth) (maxL := 1) (ret := (some .boolean)) (by decide) rfl (Nat.le_of_ble_eq_true rfl) rfl rfl ?_
  intro k C hkl hkD h1 h2 h3
  subst hkl; subst hkD
  have hr : RRW k (wM g I J) cX8_isMonth .boolean r := rrw_of h2
  unfold f_X8_isMonth at hf
  refine V.loc (lv' := [(0, .int a0)]) [0] rfl ?_
  refine r_iload_n C dX8_isMonth_0 rfl 0 rfl ?_
  refine r_iconst (v := (0 : Int32)) C dX8_isMonth_1 (by decide) ?_
  refine r_bipush (v := (11 : Int32)) C dX8_isMonth_2 (by decide) ?_
  obtain ⟨r2, hq1, hf⟩ := bo1_e hf
  refine r_callS (o := some (.int r2)) (w' := (wM g I J)) (As := [.int a0, .int (0 : Int32), .int (11 : Int32)]) (rest := []) C (c_X8_in hq1) dX8_isMonth_4 gX8_isMonth_X8_in rfl rfl rfl hd_X8_in ⟨by decide, by decide⟩ rfl rfl (Nat.le_of_ble_eq_true rfl) ?_
  obtain ⟨hb, hf⟩ := chk_e hf
  exact hr _ _ _ dX8_isMonth_7 (isB_e hb) hf
abbrev rmX8_spring : Room := { frames := 2, cells := 0, slots := 0, locals := 42 }
theorem hd_X8_spring : yX8_spring.cls = RX8 ∧ yX8_spring.cls ≠ "java/lang/invoke/MethodHandle" ∧ yX8_spring.cls ≠ "java/lang/invoke/VarHandle" ∧ (parseMethodDescriptor yX8_spring.desc).map (fun d => d.parameters.length) = some 2 := by decide +kernel
theorem kX8_spring_0 : Cond.fieldLink RX8 64 (TX8 0).1 (TX8 0).2.1 (TX8 0).2.2.1 ∈ wsX8_spring := by decide +kernel
theorem kX8_spring_1 : ∀ w ∈ u_ws RX8 TX8 38, w ∈ wsX8_spring := by decide +kernel
theorem kX8_spring_2 : Jvm.Cond.constant RX8 130 (1000000) ∈ wsX8_spring := by decide +kernel
theorem kX8_spring_3 : Cond.fieldLink RX8 16 (TX8 10).1 (TX8 10).2.1 (TX8 10).2.2.1 ∈ wsX8_spring := by decide +kernel
set_option maxRecDepth 100000 in
set_option maxHeartbeats 4000000 in
theorem c_X8_spring {l : Launch} {D : va_G} {g : GG} {I : MI} {J : MJ} {a1 : Int32} {a2 : Int32} {r : Int32} {I' : MI} {J' : MJ} (hf : f_X8_spring I J a1 a2 = some (r, I', J')) : CON l yX8_spring wsX8_spring rmX8_spring D g (wM g I J) [.ref (g.1 0), .int a1, .int a2] (some (.int r)) (wM g I' J') := by
  refine con_of (cc := cX8_spring) (maxL := 4) (ret := (some .int)) (by decide) rfl (Nat.le_of_ble_eq_true rfl) rfl rfl ?_
  intro k C hkl hkD h1 h2 h3
  subst hkl; subst hkD
  have hr : RTW k wM g cX8_spring .int (r, I', J') := rtw_of h2
  unfold f_X8_spring at hf
  refine V.loc (lv' := [(0, .ref (g.1 0)), (1, .int a1), (2, .int a2)]) [0, 1, 2] rfl ?_
  refine r_aload_n C dX8_spring_0 rfl 0 rfl ?_
  refine r_iconst (v := (0 : Int32)) C dX8_spring_1 (by decide) ?_
  refine r_put (ty := .int) C dX8_spring_2 kX8_spring_1 tyX8 tyX8_ok nmX8 0 mg_0 rfl 0 (by decide) kX8_spring_0 rfl rfl rfl rfl (Nat.le_of_ble_eq_true rfl) ms_0_0 ?_
  refine nmIM (fun I1 eI1 => ?_)
  have hf := bnd_e hf I1 eI1
  refine r_iload_n C dX8_spring_5 rfl 1 rfl ?_
  obtain ⟨r3, hq2, hf⟩ := bo1_e hf
  refine r_callS (o := some (.int r3)) (w' := (wM g I1 J)) (As := [.int a1]) (rest := []) C (c_X8_isMonth hq2) dX8_spring_6 gX8_spring_X8_isMonth rfl rfl rfl hd_X8_isMonth ⟨by decide, by decide⟩ rfl rfl (Nat.le_of_ble_eq_true rfl) ?_
  refine r_if_eq (tgt := 22) C dX8_spring_9 (by decide) (fun q9 => ?_) (fun q9 => ?_)
  · have hf := itp hf q9
    refine r_iconst (v := (-1 : Int32)) C dX8_spring_22 (by decide) ?_
    exact hr _ _ _ _ _ dX8_spring_23 rfl hf
  · have hf := itn hf q9
    refine r_iload_n C dX8_spring_12 rfl 2 rfl ?_
    refine r_iconst (v := (0 : Int32)) C dX8_spring_13 (by decide) ?_
    refine r_ldc (v := (1000000 : Int32)) C dX8_spring_14 kX8_spring_2 ?_
    obtain ⟨r5, hq4, hf⟩ := bo1_e hf
    refine r_callS (o := some (.int r5)) (w' := (wM g I1 J)) (As := [.int a2, .int (0 : Int32), .int (1000000 : Int32)]) (rest := []) C (c_X8_in hq4) dX8_spring_16 gX8_spring_X8_in rfl rfl rfl hd_X8_in ⟨by decide, by decide⟩ rfl rfl (Nat.le_of_ble_eq_true rfl) ?_
    refine r_if_ne (tgt := 24) C dX8_spring_19 (by decide) (fun q19 => ?_) (fun q19 => ?_)
    · have hf := itn hf q19
      refine r_aload_n C dX8_spring_24 rfl 0 rfl ?_
      refine r_get C dX8_spring_25 kX8_spring_1 0 mg_0 rfl 10 (by decide) kX8_spring_3 mv_0_10 ?_
      refine r_iload_n C dX8_spring_28 rfl 1 rfl ?_
      obtain ⟨h6, hf⟩ := chk_e hf
      refine r_iald (j := a1.toNatClampNeg) C dX8_spring_29 3 mg_3 (inb_e h6) rfl ?_
      refine r_nmi (fun v7 ev7 => ?_)
      have hf := bnd_e hf v7 ev7
      refine r_istore_n (lv' := [(0, .ref (g.1 0)), (1, .int a1), (2, .int a2), (3, .int v7)]) C dX8_spring_30 rfl (by decide) [1, 2, 3, 0] rfl ?_
      refine r_aload_n C dX8_spring_31 rfl 0 rfl ?_
      refine r_get C dX8_spring_32 kX8_spring_1 0 mg_0 rfl 10 (by decide) kX8_spring_3 mv_0_10 ?_
      refine r_iload_n C dX8_spring_35 rfl 1 rfl ?_
      refine r_iload_n C dX8_spring_36 rfl 2 rfl ?_
      obtain ⟨h8, hf⟩ := chk_e hf
      refine r_iast (j := a1.toNatClampNeg) C dX8_spring_37 3 mg_3 (inb_e h8) rfl ma_3 ?_
      refine nmIM (fun I9 eI9 => ?_)
      have hf := bnd_e hf I9 eI9
      refine r_iload_n C dX8_spring_38 rfl 3 rfl ?_
      exact hr _ _ _ _ _ dX8_spring_39 rfl hf
    · have hf := itp hf q19
      refine r_iconst (v := (-1 : Int32)) C dX8_spring_22 (by decide) ?_
      exact hr _ _ _ _ _ dX8_spring_23 rfl hf
