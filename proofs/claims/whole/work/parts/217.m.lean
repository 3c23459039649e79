abbrev rmX8_ails : Room := { frames := 4, cells := 0, slots := 0, locals := 97 }
theorem hd_X8_ails : yX8_ails.cls = RX8 ∧ yX8_ails.cls ≠ "java/lang/invoke/MethodHandle" ∧ yX8_ails.cls ≠ "java/lang/invoke/VarHandle" ∧ (parseMethodDescriptor yX8_ails.desc).map (fun d => d.parameters.length) = some 2 := by decide +kernel
theorem kX8_ails_0 : Cond.fieldLink RX8 64 (TX8 0).1 (TX8 0).2.1 (TX8 0).2.2.1 ∈ wsX8_ails := by decide +kernel
theorem kX8_ails_1 : ∀ w ∈ u_ws RX8 TX8 38, w ∈ wsX8_ails := by decide +kernel
theorem kX8_ails_2 : Cond.fieldLink RX8 61 (TX8 37).1 (TX8 37).2.1 (TX8 37).2.2.1 ∈ wsX8_ails := by decide +kernel
set_option maxRecDepth 100000 in
set_option maxHeartbeats 4000000 in
theorem mB_X8_ails_144 {k : CT} {g : GG} (C : CX k cX8_ails 11 RX8 wsX8_ails rmX8_ails g) {ρ : (Int32 × MI × MJ)} (hr : RTW k wM g cX8_ails .int ρ) {kk104 : MI → MJ → Int32 → Int32 → Int32 → Int32 → Int32 → Option (Int32 × MI × MJ)} {kk144 : MI → MJ → Int32 → Int32 → Int32 → Int32 → Int32 → Int32 → Int32 → Option (Int32 × MI × MJ)} (hk104 : ∀ (I : MI) (J : MJ) (x1 : Int32) (x3 : Int32) (x5 : Int32) (x6 : Int32) (x7 : Int32), kk104 I J x1 x3 x5 x6 x7 = some ρ → V k (wM g I J) 104 [(0, .ref (g.1 0)), (1, .int x1), (3, .int x3), (5, .int x5), (6, .int x6), (7, .int x7)] []) (hk144 : ∀ (I : MI) (J : MJ) (x1 : Int32) (x3 : Int32) (x5 : Int32) (x6 : Int32) (x7 : Int32) (x8 : Int32) (x9 : Int32), kk144 I J x1 x3 x5 x6 x7 x8 x9 = some ρ → V k (wM g I J) 144 [(0, .ref (g.1 0)), (1, .int x1), (3, .int x3), (5, .int x5), (6, .int x6), (7, .int x7), (8, .int x8), (9, .int x9)] []) : ∀ (I : MI) (J : MJ) (x1 : Int32) (x3 : Int32) (x5 : Int32) (x6 : Int32) (x7 : Int32) (x8 : Int32) (x9 : Int32), LB_X8_ails_144 kk104 kk144 I J x1 x3 x5 x6 x7 x8 x9 = some ρ → V k (wM g I J) 144 [(0, .ref (g.1 0)), (1, .int x1), (3, .int x3), (5, .int x5), (6, .int x6), (7, .int x7), (8, .int x8), (9, .int x9)] [] := by
  intro I J x1 x3 x5 x6 x7 x8 x9 hf
  unfold LB_X8_ails_144 at hf
  refine r_iload C dX8_ails_144 7 rfl ?_
  refine r_sipush (v := (256 : Int32)) C dX8_ails_146 (by decide) ?_
  refine r_icmp_ge (tgt := 214) C dX8_ails_149 (by decide) (fun q149 => ?_) (fun q149 => ?_)
  · have hf := itp hf q149
    refine r_iload C dX8_ails_214 6 rfl ?_
    refine r_iload C dX8_ails_216 4 rfl ?_
    refine r_icmp_ge (tgt := 229) C dX8_ails_218 (by decide) (fun q218 => ?_) (fun q218 => ?_)
    · have hf := itp hf q218
      obtain ⟨v1, ev1⟩ : ∃ z : Int32, z = x7 + (1 : Int32) := ⟨_, rfl⟩
      have hf := bnd_e hf v1 ev1
      refine r_iinc (v := v1) (lv' := [(0, .ref (g.1 0)), (1, .int x1), (3, .int x3), (5, .int x5), (6, .int x6), (7, .int v1), (8, .int x8), (9, .int x9)]) C dX8_ails_229 5 rfl (by rw [ev1]; rfl) (by decide) [1, 2, 3, 4, 5, 0, 6, 7] rfl ?_
      refine r_goto (tgt := 104) C dX8_ails_232 (by decide) ?_
      refine V.loc [0, 1, 2, 3, 4, 5] rfl ?_
      exact hk104 _ _ _ _ _ _ _ hf
    · have hf := itn hf q218
      refine r_iload C dX8_ails_221 6 rfl ?_
      refine r_istore (lv' := [(0, .ref (g.1 0)), (1, .int x1), (3, .int x3), (5, .int x5), (6, .int x8), (7, .int x7), (8, .int x8), (9, .int x9)]) C dX8_ails_223 (by decide) [1, 2, 3, 4, 0, 5, 6, 7] rfl ?_
      refine r_iload C dX8_ails_225 5 rfl ?_
      refine r_istore (lv' := [(0, .ref (g.1 0)), (1, .int x1), (3, .int x3), (5, .int x7), (6, .int x8), (7, .int x7), (8, .int x8), (9, .int x9)]) C dX8_ails_227 (by decide) [1, 2, 3, 0, 4, 5, 6, 7] rfl ?_
      obtain ⟨v2, ev2⟩ : ∃ z : Int32, z = x7 + (1 : Int32) := ⟨_, rfl⟩
      have hf := bnd_e hf v2 ev2
      refine r_iinc (v := v2) (lv' := [(0, .ref (g.1 0)), (1, .int x1), (3, .int x3), (5, .int x7), (6, .int x8), (7, .int v2), (8, .int x8), (9, .int x9)]) C dX8_ails_229 5 rfl (by rw [ev2]; rfl) (by decide) [1, 2, 3, 4, 5, 0, 6, 7] rfl ?_
      refine r_goto (tgt := 104) C dX8_ails_232 (by decide) ?_
      refine V.loc [0, 1, 2, 3, 4, 5] rfl ?_
      exact hk104 _ _ _ _ _ _ _ hf
  · have hf := itn hf q149
    refine r_aload_n C dX8_ails_152 rfl 0 rfl ?_
    refine r_iload_n C dX8_ails_153 rfl 1 rfl ?_
    refine r_iload C dX8_ails_154 7 rfl ?_
    obtain ⟨r6, I4, J5, hq3, hf⟩ := bo3_e hf
    refine r_callV (o := some (.int r6)) (w' := (wM g I4 J5)) (As := [.int x1, .int x9]) (rest := []) C (c_X8_isFit hq3) dX8_ails_156 gX8_ails_X8_isFit rfl rfl rfl hd_X8_isFit ⟨by decide, by decide⟩ 0 mg_0 rfl rfl rfl rfl (Nat.le_of_ble_eq_true rfl) ?_
    refine r_if_eq (tgt := 208) C dX8_ails_159 (by decide) (fun q159 => ?_) (fun q159 => ?_)
    · have hf := itp hf q159
      obtain ⟨v7, ev7⟩ : ∃ z : Int32, z = x9 + (1 : Int32) := ⟨_, rfl⟩
      have hf := bnd_e hf v7 ev7
      refine r_iinc (v := v7) (lv' := [(0, .ref (g.1 0)), (1, .int x1), (3, .int x3), (5, .int x5), (6, .int x6), (7, .int x7), (8, .int x8), (9, .int v7)]) C dX8_ails_208 7 rfl (by rw [ev7]; rfl) (by decide) [1, 2, 3, 4, 5, 6, 7, 0] rfl ?_
      refine r_goto (tgt := 144) C dX8_ails_211 (by decide) ?_
      exact hk144 _ _ _ _ _ _ _ _ _ hf
    · have hf := itn hf q159
      refine r_iload C dX8_ails_162 7 rfl ?_
      refine r_iload C dX8_ails_164 5 rfl ?_
      obtain ⟨r9, hq8, hf⟩ := bo1_e hf
      refine r_callS (o := some (.int r9)) (w' := (wM g I4 J5)) (As := [.int x9, .int x7]) (rest := []) C (c_X8_valueOf hq8) dX8_ails_166 gX8_ails_X8_valueOf rfl rfl rfl hd_X8_valueOf ⟨by decide, by decide⟩ rfl rfl (Nat.le_of_ble_eq_true rfl) ?_
      refine r_istore (lv' := [(0, .ref (g.1 0)), (1, .int x1), (3, .int x3), (5, .int x5), (6, .int x6), (7, .int x7), (8, .int x8), (9, .int x9), (10, .int r9)]) C dX8_ails_169 (by decide) [1, 2, 3, 4, 5, 6, 7, 8, 0] rfl ?_
      refine r_aload_n C dX8_ails_171 rfl 0 rfl ?_
      refine r_get C dX8_ails_172 kX8_ails_1 0 mg_0 rfl 37 (by decide) kX8_ails_2 mv_0_37 ?_
      refine r_iload C dX8_ails_175 8 rfl ?_
      refine r_dup2 C dX8_ails_177 rfl rfl ?_
      obtain ⟨h10, hf⟩ := chk_e hf
      refine r_iald (j := r9.toNatClampNeg) C dX8_ails_178 14 mg_14 (inb_e h10) rfl ?_
      refine r_iconst (v := (1 : Int32)) C dX8_ails_179 (by decide) ?_
      refine r_iadd C dX8_ails_180 ?_
      obtain ⟨h11, hf⟩ := chk_e hf
      refine r_iast (j := r9.toNatClampNeg) C dX8_ails_181 14 mg_14 (inb_e h11) rfl ma_14 ?_
      refine nmIM (fun I12 eI12 => ?_)
      have hf := bnd_e hf I12 eI12
      refine r_aload_n C dX8_ails_182 rfl 0 rfl ?_
      refine r_get C dX8_ails_183 kX8_ails_1 0 mg_0 rfl 37 (by decide) kX8_ails_2 mv_0_37 ?_
      refine r_iload C dX8_ails_186 8 rfl ?_
      obtain ⟨h13, hf⟩ := chk_e hf
      refine r_iald (j := r9.toNatClampNeg) C dX8_ails_188 14 mg_14 (inb_e h13) rfl ?_
      refine r_iload C dX8_ails_189 6 rfl ?_
      refine r_icmp_le (tgt := 204) C dX8_ails_191 (by decide) (fun q191 => ?_) (fun q191 => ?_)
      · have hf := itp hf q191
        refine r_iload C dX8_ails_204 6 rfl ?_
        refine r_istore (lv' := [(0, .ref (g.1 0)), (1, .int x1), (3, .int x3), (5, .int x5), (6, .int x6), (7, .int x7), (8, .int x8), (9, .int x9), (10, .int r9)]) C dX8_ails_206 (by decide) [1, 2, 3, 4, 5, 6, 0, 7, 8] rfl ?_
        obtain ⟨v14, ev14⟩ : ∃ z : Int32, z = x9 + (1 : Int32) := ⟨_, rfl⟩
        have hf := bnd_e hf v14 ev14
        refine r_iinc (v := v14) (lv' := [(0, .ref (g.1 0)), (1, .int x1), (3, .int x3), (5, .int x5), (6, .int x6), (7, .int x7), (8, .int x8), (9, .int v14), (10, .int r9)]) C dX8_ails_208 7 rfl (by rw [ev14]; rfl) (by decide) [1, 2, 3, 4, 5, 6, 7, 0, 8] rfl ?_
        refine r_goto (tgt := 144) C dX8_ails_211 (by decide) ?_
        refine V.loc [0, 1, 2, 3, 4, 5, 6, 7] rfl ?_
        exact hk144 _ _ _ _ _ _ _ _ _ hf
      · have hf := itn hf q191
        refine r_aload_n C dX8_ails_194 rfl 0 rfl ?_
        refine r_get C dX8_ails_195 kX8_ails_1 0 mg_0 rfl 37 (by decide) kX8_ails_2 mv_0_37 ?_
        refine r_iload C dX8_ails_198 8 rfl ?_
        obtain ⟨h15, hf⟩ := chk_e hf
        refine r_iald (j := r9.toNatClampNeg) C dX8_ails_200 14 mg_14 (inb_e h15) rfl ?_
        refine r_goto (tgt := 206) C dX8_ails_201 (by decide) ?_
        refine r_nmi (fun v16 ev16 => ?_)
        have hf := bnd_e hf v16 ev16
        refine r_istore (lv' := [(0, .ref (g.1 0)), (1, .int x1), (3, .int x3), (5, .int x5), (6, .int x6), (7, .int x7), (8, .int v16), (9, .int x9), (10, .int r9)]) C dX8_ails_206 (by decide) [1, 2, 3, 4, 5, 6, 0, 7, 8] rfl ?_
        obtain ⟨v17, ev17⟩ : ∃ z : Int32, z = x9 + (1 : Int32) := ⟨_, rfl⟩
        have hf := bnd_e hf v17 ev17
        refine r_iinc (v := v17) (lv' := [(0, .ref (g.1 0)), (1, .int x1), (3, .int x3), (5, .int x5), (6, .int x6), (7, .int x7), (8, .int v16), (9, .int v17), (10, .int r9)]) C dX8_ails_208 7 rfl (by rw [ev17]; rfl) (by decide) [1, 2, 3, 4, 5, 6, 7, 0, 8] rfl ?_
        refine r_goto (tgt := 144) C dX8_ails_211 (by decide) ?_
        refine V.loc [0, 1, 2, 3, 4, 5, 6, 7] rfl ?_
        exact hk144 _ _ _ _ _ _ _ _ _ hf
theorem mL_X8_ails_144 {k : CT} {g : GG} (C : CX k cX8_ails 11 RX8 wsX8_ails rmX8_ails g) {ρ : (Int32 × MI × MJ)} (hr : RTW k wM g cX8_ails .int ρ) {kk104 : MI → MJ → Int32 → Int32 → Int32 → Int32 → Int32 → Option (Int32 × MI × MJ)} (hk104 : ∀ (I : MI) (J : MJ) (x1 : Int32) (x3 : Int32) (x5 : Int32) (x6 : Int32) (x7 : Int32), kk104 I J x1 x3 x5 x6 x7 = some ρ → V k (wM g I J) 104 [(0, .ref (g.1 0)), (1, .int x1), (3, .int x3), (5, .int x5), (6, .int x6), (7, .int x7)] []) : ∀ (n : Nat) (I : MI) (J : MJ) (x1 : Int32) (x3 : Int32) (x5 : Int32) (x6 : Int32) (x7 : Int32) (x8 : Int32) (x9 : Int32), LP_X8_ails_144 kk104 n I J x1 x3 x5 x6 x7 x8 x9 = some ρ → V k (wM g I J) 144 [(0, .ref (g.1 0)), (1, .int x1), (3, .int x3), (5, .int x5), (6, .int x6), (7, .int x7), (8, .int x8), (9, .int x9)] [] := by
  intro n
  induction n with
  | zero => intro I J x1 x3 x5 x6 x7 x8 x9 hf; cases hf
  | succ n ih => intro I J x1 x3 x5 x6 x7 x8 x9 hf; exact mB_X8_ails_144 C hr hk104 (fun I J x1 x3 x5 x6 x7 x8 x9 h => ih I J x1 x3 x5 x6 x7 x8 x9 h) I J x1 x3 x5 x6 x7 x8 x9 hf
set_option maxRecDepth 100000 in
set_option maxHeartbeats 4000000 in
theorem mB_X8_ails_118 {k : CT} {g : GG} (C : CX k cX8_ails 11 RX8 wsX8_ails rmX8_ails g) {ρ : (Int32 × MI × MJ)} (hr : RTW k wM g cX8_ails .int ρ) {kk104 : MI → MJ → Int32 → Int32 → Int32 → Int32 → Int32 → Option (Int32 × MI × MJ)} {kk118 : MI → MJ → Int32 → Int32 → Int32 → Int32 → Int32 → Int32 → Option (Int32 × MI × MJ)} (hk104 : ∀ (I : MI) (J : MJ) (x1 : Int32) (x3 : Int32) (x5 : Int32) (x6 : Int32) (x7 : Int32), kk104 I J x1 x3 x5 x6 x7 = some ρ → V k (wM g I J) 104 [(0, .ref (g.1 0)), (1, .int x1), (3, .int x3), (5, .int x5), (6, .int x6), (7, .int x7)] []) (hk118 : ∀ (I : MI) (J : MJ) (x1 : Int32) (x3 : Int32) (x5 : Int32) (x6 : Int32) (x7 : Int32) (x8 : Int32), kk118 I J x1 x3 x5 x6 x7 x8 = some ρ → V k (wM g I J) 118 [(0, .ref (g.1 0)), (1, .int x1), (3, .int x3), (5, .int x5), (6, .int x6), (7, .int x7), (8, .int x8)] []) : ∀ (I : MI) (J : MJ) (x1 : Int32) (x3 : Int32) (x5 : Int32) (x6 : Int32) (x7 : Int32) (x8 : Int32), LB_X8_ails_118 kk104 kk118 I J x1 x3 x5 x6 x7 x8 = some ρ → V k (wM g I J) 118 [(0, .ref (g.1 0)), (1, .int x1), (3, .int x3), (5, .int x5), (6, .int x6), (7, .int x7), (8, .int x8)] [] := by
  intro I J x1 x3 x5 x6 x7 x8 hf
  unfold LB_X8_ails_118 at hf
  refine r_iload C dX8_ails_118 6 rfl ?_
  refine r_iconst (v := (4 : Int32)) C dX8_ails_120 (by decide) ?_
  refine r_icmp_ge (tgt := 138) C dX8_ails_121 (by decide) (fun q121 => ?_) (fun q121 => ?_)
  · have hf := itp hf q121
    refine r_iconst (v := (0 : Int32)) C dX8_ails_138 (by decide) ?_
    refine r_istore (lv' := [(0, .ref (g.1 0)), (1, .int x1), (3, .int x3), (5, .int x5), (6, .int x6), (7, .int x7), (8, .int (0 : Int32))]) C dX8_ails_139 (by decide) [1, 2, 3, 4, 5, 6, 0] rfl ?_
    refine r_iconst (v := (0 : Int32)) C dX8_ails_141 (by decide) ?_
    refine r_istore (lv' := [(0, .ref (g.1 0)), (1, .int x1), (3, .int x3), (5, .int x5), (6, .int x6), (7, .int x7), (8, .int (0 : Int32)), (9, .int (0 : Int32))]) C dX8_ails_142 (by decide) [1, 2, 3, 4, 5, 6, 7, 0] rfl ?_
    exact mL_X8_ails_144 C hr hk104 FU _ _ _ _ _ _ _ _ _ hf
  · have hf := itn hf q121
    refine r_aload_n C dX8_ails_124 rfl 0 rfl ?_
    refine r_get C dX8_ails_125 kX8_ails_1 0 mg_0 rfl 37 (by decide) kX8_ails_2 mv_0_37 ?_
    refine r_iload C dX8_ails_128 6 rfl ?_
    refine r_iconst (v := (0 : Int32)) C dX8_ails_130 (by decide) ?_
    obtain ⟨h1, hf⟩ := chk_e hf
    refine r_iast (j := x8.toNatClampNeg) C dX8_ails_131 14 mg_14 (inb_e h1) rfl ma_14 ?_
    refine nmIM (fun I2 eI2 => ?_)
    have hf := bnd_e hf I2 eI2
    obtain ⟨v3, ev3⟩ : ∃ z : Int32, z = x8 + (1 : Int32) := ⟨_, rfl⟩
    have hf := bnd_e hf v3 ev3
    refine r_iinc (v := v3) (lv' := [(0, .ref (g.1 0)), (1, .int x1), (3, .int x3), (5, .int x5), (6, .int x6), (7, .int x7), (8, .int v3)]) C dX8_ails_132 6 rfl (by rw [ev3]; rfl) (by decide) [1, 2, 3, 4, 5, 6, 0] rfl ?_
    refine r_goto (tgt := 118) C dX8_ails_135 (by decide) ?_
    exact hk118 _ _ _ _ _ _ _ _ hf
theorem mL_X8_ails_118 {k : CT} {g : GG} (C : CX k cX8_ails 11 RX8 wsX8_ails rmX8_ails g) {ρ : (Int32 × MI × MJ)} (hr : RTW k wM g cX8_ails .int ρ) {kk104 : MI → MJ → Int32 → Int32 → Int32 → Int32 → Int32 → Option (Int32 × MI × MJ)} (hk104 : ∀ (I : MI) (J : MJ) (x1 : Int32) (x3 : Int32) (x5 : Int32) (x6 : Int32) (x7 : Int32), kk104 I J x1 x3 x5 x6 x7 = some ρ → V k (wM g I J) 104 [(0, .ref (g.1 0)), (1, .int x1), (3, .int x3), (5, .int x5), (6, .int x6), (7, .int x7)] []) : ∀ (n : Nat) (I : MI) (J : MJ) (x1 : Int32) (x3 : Int32) (x5 : Int32) (x6 : Int32) (x7 : Int32) (x8 : Int32), LP_X8_ails_118 kk104 n I J x1 x3 x5 x6 x7 x8 = some ρ → V k (wM g I J) 118 [(0, .ref (g.1 0)), (1, .int x1), (3, .int x3), (5, .int x5), (6, .int x6), (7, .int x7), (8, .int x8)] [] := by
  intro n
  induction n with
  | zero => intro I J x1 x3 x5 x6 x7 x8 hf; cases hf
  | succ n ih => intro I J x1 x3 x5 x6 x7 x8 hf; exact mB_X8_ails_118 C hr hk104 (fun I J x1 x3 x5 x6 x7 x8 h => ih I J x1 x3 x5 x6 x7 x8 h) I J x1 x3 x5 x6 x7 x8 hf
set_option maxRecDepth 100000 in
set_option maxHeartbeats 4000000 in
theorem mB_X8_ails_104 {k : CT} {g : GG} (C : CX k cX8_ails 11 RX8 wsX8_ails rmX8_ails g) {ρ : (Int32 × MI × MJ)} (hr : RTW k wM g cX8_ails .int ρ) {kk104 : MI → MJ → Int32 → Int32 → Int32 → Int32 → Int32 → Option (Int32 × MI × MJ)} (hk104 : ∀ (I : MI) (J : MJ) (x1 : Int32) (x3 : Int32) (x5 : Int32) (x6 : Int32) (x7 : Int32), kk104 I J x1 x3 x5 x6 x7 = some ρ → V k (wM g I J) 104 [(0, .ref (g.1 0)), (1, .int x1), (3, .int x3), (5, .int x5), (6, .int x6), (7, .int x7)] []) : ∀ (I : MI) (J : MJ) (x1 : Int32) (x3 : Int32) (x5 : Int32) (x6 : Int32) (x7 : Int32), LB_X8_ails_104 kk104 I J x1 x3 x5 x6 x7 = some ρ → V k (wM g I J) 104 [(0, .ref (g.1 0)), (1, .int x1), (3, .int x3), (5, .int x5), (6, .int x6), (7, .int x7)] [] := by
  intro I J x1 x3 x5 x6 x7 hf
  unfold LB_X8_ails_104 at hf
  refine r_iload C dX8_ails_104 5 rfl ?_
  refine r_iconst (v := (4 : Int32)) C dX8_ails_106 (by decide) ?_
  refine r_icmp_ge (tgt := 235) C dX8_ails_107 (by decide) (fun q107 => ?_) (fun q107 => ?_)
  · have hf := itp hf q107
    refine r_iload C dX8_ails_235 3 rfl ?_
    exact hr _ _ _ _ _ dX8_ails_237 rfl hf
  · have hf := itn hf q107
    refine r_iload_n C dX8_ails_110 rfl 2 rfl ?_
    refine r_iconst (v := (1 : Int32)) C dX8_ails_111 (by decide) ?_
    refine r_icmp_le (tgt := 235) C dX8_ails_112 (by decide) (fun q112 => ?_) (fun q112 => ?_)
    · have hf := itp hf q112
      refine r_iload C dX8_ails_235 3 rfl ?_
      exact hr _ _ _ _ _ dX8_ails_237 rfl hf
    · have hf := itn hf q112
      refine r_iconst (v := (0 : Int32)) C dX8_ails_115 (by decide) ?_
      refine r_istore (lv' := [(0, .ref (g.1 0)), (1, .int x1), (3, .int x3), (5, .int x5), (6, .int x6), (7, .int x7), (8, .int (0 : Int32))]) C dX8_ails_116 (by decide) [1, 2, 3, 4, 5, 6, 0] rfl ?_
      exact mL_X8_ails_118 C hr hk104 FU _ _ _ _ _ _ _ _ hf
theorem mL_X8_ails_104 {k : CT} {g : GG} (C : CX k cX8_ails 11 RX8 wsX8_ails rmX8_ails g) {ρ : (Int32 × MI × MJ)} (hr : RTW k wM g cX8_ails .int ρ) : ∀ (n : Nat) (I : MI) (J : MJ) (x1 : Int32) (x3 : Int32) (x5 : Int32) (x6 : Int32) (x7 : Int32), LP_X8_ails_104 n I J x1 x3 x5 x6 x7 = some ρ → V k (wM g I J) 104 [(0, .ref (g.1 0)), (1, .int x1), (3, .int x3), (5, .int x5), (6, .int x6), (7, .int x7)] [] := by
  intro n
  induction n with
  | zero => intro I J x1 x3 x5 x6 x7 hf; cases hf
  | succ n ih => intro I J x1 x3 x5 x6 x7 hf; exact mB_X8_ails_104 C hr (fun I J x1 x3 x5 x6 x7 h => ih I J x1 x3 x5 x6 x7 h) I J x1 x3 x5 x6 x7 hf
set_option maxRecDepth 100000 in
set_option maxHeartbeats 4000000 in
theorem mB_X8_ails_33 {k : CT} {g : GG} (C : CX k cX8_ails 11 RX8 wsX8_ails rmX8_ails g) {ρ : (Int32 × MI × MJ)} (hr : RTW k wM g cX8_ails .int ρ) {kk33 : MI → MJ → Int32 → Int32 → Int32 → Int32 → Int32 → Option (Int32 × MI × MJ)} (hk33 : ∀ (I : MI) (J : MJ) (x1 : Int32) (x2 : Int32) (x3 : Int32) (x4 : Int32) (x5 : Int32), kk33 I J x1 x2 x3 x4 x5 = some ρ → V k (wM g I J) 33 [(0, .ref (g.1 0)), (1, .int x1), (2, .int x2), (3, .int x3), (4, .int x4), (5, .int x5)] []) : ∀ (I : MI) (J : MJ) (x1 : Int32) (x2 : Int32) (x3 : Int32) (x4 : Int32) (x5 : Int32), LB_X8_ails_33 kk33 I J x1 x2 x3 x4 x5 = some ρ → V k (wM g I J) 33 [(0, .ref (g.1 0)), (1, .int x1), (2, .int x2), (3, .int x3), (4, .int x4), (5, .int x5)] [] := by
  intro I J x1 x2 x3 x4 x5 hf
  unfold LB_X8_ails_33 at hf
  refine r_iload C dX8_ails_33 5 rfl ?_
  refine r_sipush (v := (256 : Int32)) C dX8_ails_35 (by decide) ?_
  refine r_icmp_ge (tgt := 76) C dX8_ails_38 (by decide) (fun q38 => ?_) (fun q38 => ?_)
  · have hf := itp hf q38
    refine r_iload_n C dX8_ails_76 rfl 2 rfl ?_
    refine r_iconst (v := (2 : Int32)) C dX8_ails_77 (by decide) ?_
    refine r_icmp_ge (tgt := 92) C dX8_ails_78 (by decide) (fun q78 => ?_) (fun q78 => ?_)
    · have hf := itp hf q78
      refine r_bipush (v := (-9 : Int32)) C dX8_ails_92 (by decide) ?_
      refine r_istore (lv' := [(0, .ref (g.1 0)), (1, .int x1), (2, .int x2), (3, .int x3), (4, .int x4), (5, .int (-9 : Int32))]) C dX8_ails_94 (by decide) [1, 2, 3, 4, 5, 0] rfl ?_
      refine r_sipush (v := (1000 : Int32)) C dX8_ails_96 (by decide) ?_
      refine r_istore (lv' := [(0, .ref (g.1 0)), (1, .int x1), (2, .int x2), (3, .int x3), (4, .int x4), (5, .int (-9 : Int32)), (6, .int (1000 : Int32))]) C dX8_ails_99 (by decide) [1, 2, 3, 4, 5, 6, 0] rfl ?_
      refine r_iconst (v := (0 : Int32)) C dX8_ails_101 (by decide) ?_
      refine r_istore (lv' := [(0, .ref (g.1 0)), (1, .int x1), (2, .int x2), (3, .int x3), (4, .int x4), (5, .int (-9 : Int32)), (6, .int (1000 : Int32)), (7, .int (0 : Int32))]) C dX8_ails_102 (by decide) [1, 2, 3, 4, 5, 6, 7, 0] rfl ?_
      refine V.loc [0, 1, 3, 5, 6, 7] rfl ?_
      exact mL_X8_ails_104 C hr FU _ _ _ _ _ _ _ hf
    · have hf := itn hf q78
      refine r_iload_n C dX8_ails_81 rfl 2 rfl ?_
      refine r_if_ne (tgt := 89) C dX8_ails_82 (by decide) (fun q82 => ?_) (fun q82 => ?_)
      · have hf := itn hf q82
        refine r_iload C dX8_ails_89 4 rfl ?_
        exact hr _ _ _ _ _ dX8_ails_91 rfl hf
      · have hf := itp hf q82
        refine r_iload_n C dX8_ails_85 rfl 3 rfl ?_
        refine r_goto (tgt := 91) C dX8_ails_86 (by decide) ?_
        exact hr _ _ _ _ _ dX8_ails_91 rfl hf
  · have hf := itn hf q38
    refine r_aload_n C dX8_ails_41 rfl 0 rfl ?_
    refine r_iload_n C dX8_ails_42 rfl 1 rfl ?_
    refine r_iload C dX8_ails_43 5 rfl ?_
    obtain ⟨r4, I2, J3, hq1, hf⟩ := bo3_e hf
    refine r_callV (o := some (.int r4)) (w' := (wM g I2 J3)) (As := [.int x1, .int x5]) (rest := []) C (c_X8_isFit hq1) dX8_ails_45 gX8_ails_X8_isFit rfl rfl rfl hd_X8_isFit ⟨by decide, by decide⟩ 0 mg_0 rfl rfl rfl rfl (Nat.le_of_ble_eq_true rfl) ?_
    refine r_if_eq (tgt := 70) C dX8_ails_48 (by decide) (fun q48 => ?_) (fun q48 => ?_)
    · have hf := itp hf q48
      obtain ⟨v5, ev5⟩ : ∃ z : Int32, z = x5 + (1 : Int32) := ⟨_, rfl⟩
      have hf := bnd_e hf v5 ev5
      refine r_iinc (v := v5) (lv' := [(0, .ref (g.1 0)), (1, .int x1), (2, .int x2), (3, .int x3), (4, .int x4), (5, .int v5)]) C dX8_ails_70 5 rfl (by rw [ev5]; rfl) (by decide) [1, 2, 3, 4, 5, 0] rfl ?_
      refine r_goto (tgt := 33) C dX8_ails_73 (by decide) ?_
      exact hk33 _ _ _ _ _ _ _ hf
    · have hf := itn hf q48
      obtain ⟨v6, ev6⟩ : ∃ z : Int32, z = x3 + (1 : Int32) := ⟨_, rfl⟩
      have hf := bnd_e hf v6 ev6
      refine r_iinc (v := v6) (lv' := [(0, .ref (g.1 0)), (1, .int x1), (2, .int x2), (3, .int v6), (4, .int x4), (5, .int x5)]) C dX8_ails_51 3 rfl (by rw [ev6]; rfl) (by decide) [1, 2, 3, 0, 4, 5] rfl ?_
      refine r_iload C dX8_ails_54 4 rfl ?_
      refine r_bipush (v := (-9 : Int32)) C dX8_ails_56 (by decide) ?_
      refine r_icmp_ne (tgt := 66) C dX8_ails_58 (by decide) (fun q58 => ?_) (fun q58 => ?_)
      · have hf := itn hf q58
        refine r_iload C dX8_ails_66 4 rfl ?_
        refine r_istore (lv' := [(0, .ref (g.1 0)), (1, .int x1), (2, .int x2), (3, .int v6), (4, .int x4), (5, .int x5)]) C dX8_ails_68 (by decide) [1, 2, 3, 4, 0, 5] rfl ?_
        obtain ⟨v7, ev7⟩ : ∃ z : Int32, z = x5 + (1 : Int32) := ⟨_, rfl⟩
        have hf := bnd_e hf v7 ev7
        refine r_iinc (v := v7) (lv' := [(0, .ref (g.1 0)), (1, .int x1), (2, .int x2), (3, .int v6), (4, .int x4), (5, .int v7)]) C dX8_ails_70 5 rfl (by rw [ev7]; rfl) (by decide) [1, 2, 3, 4, 5, 0] rfl ?_
        refine r_goto (tgt := 33) C dX8_ails_73 (by decide) ?_
        exact hk33 _ _ _ _ _ _ _ hf
      · have hf := itp hf q58
        refine r_iload C dX8_ails_61 5 rfl ?_
        refine r_goto (tgt := 68) C dX8_ails_63 (by decide) ?_
        refine r_istore (lv' := [(0, .ref (g.1 0)), (1, .int x1), (2, .int x2), (3, .int v6), (4, .int x5), (5, .int x5)]) C dX8_ails_68 (by decide) [1, 2, 3, 4, 0, 5] rfl ?_
        obtain ⟨v8, ev8⟩ : ∃ z : Int32, z = x5 + (1 : Int32) := ⟨_, rfl⟩
        have hf := bnd_e hf v8 ev8
        refine r_iinc (v := v8) (lv' := [(0, .ref (g.1 0)), (1, .int x1), (2, .int x2), (3, .int v6), (4, .int x5), (5, .int v8)]) C dX8_ails_70 5 rfl (by rw [ev8]; rfl) (by decide) [1, 2, 3, 4, 5, 0] rfl ?_
        refine r_goto (tgt := 33) C dX8_ails_73 (by decide) ?_
        exact hk33 _ _ _ _ _ _ _ hf
theorem mL_X8_ails_33 {k : CT} {g : GG} (C : CX k cX8_ails 11 RX8 wsX8_ails rmX8_ails g) {ρ : (Int32 × MI × MJ)} (hr : RTW k wM g cX8_ails .int ρ) : ∀ (n : Nat) (I : MI) (J : MJ) (x1 : Int32) (x2 : Int32) (x3 : Int32) (x4 : Int32) (x5 : Int32), LP_X8_ails_33 n I J x1 x2 x3 x4 x5 = some ρ → V k (wM g I J) 33 [(0, .ref (g.1 0)), (1, .int x1), (2, .int x2), (3, .int x3), (4, .int x4), (5, .int x5)] [] := by
  intro n
  induction n with
  | zero => intro I J x1 x2 x3 x4 x5 hf; cases hf
  | succ n ih => intro I J x1 x2 x3 x4 x5 hf; exact mB_X8_ails_33 C hr (fun I J x1 x2 x3 x4 x5 h => ih I J x1 x2 x3 x4 x5 h) I J x1 x2 x3 x4 x5 hf
set_option maxRecDepth 100000 in
set_option maxHeartbeats 4000000 in
theorem c_X8_ails {l : Launch} {D : va_G} {g : GG} {I : MI} {J : MJ} {a1 : Int32} {a2 : Int32} {r : Int32} {I' : MI} {J' : MJ} (hf : f_X8_ails I J a1 a2 = some (r, I', J')) : CON l yX8_ails wsX8_ails rmX8_ails D g (wM g I J) [.ref (g.1 0), .int a1, .int a2] (some (.int r)) (wM g I' J') := by
  refine con_of (cc := cX8_ails) (maxL := 11) (ret := (some .int)) (by decide) rfl (Nat.le_of_ble_eq_true rfl) rfl rfl ?_
  intro k C hkl hkD h1 h2 h3
  subst hkl; subst hkD
  have hr : RTW k wM g cX8_ails .int (r, I', J') := rtw_of h2
  unfold f_X8_ails at hf
  refine V.loc (lv' := [(0, .ref (g.1 0)), (1, .int a1), (2, .int a2)]) [0, 1, 2] rfl ?_
  refine r_aload_n C dX8_ails_0 rfl 0 rfl ?_
  refine r_iconst (v := (0 : Int32)) C dX8_ails_1 (by decide) ?_
  refine r_put (ty := .int) C dX8_ails_2 kX8_ails_1 tyX8 tyX8_ok nmX8 0 mg_0 rfl 0 (by decide) kX8_ails_0 rfl rfl rfl rfl (Nat.le_of_ble_eq_true rfl) ms_0_0 ?_
  refine nmIM (fun I1 eI1 => ?_)
  have hf := bnd_e hf I1 eI1
  refine r_aload_n C dX8_ails_5 rfl 0 rfl ?_
  refine r_iload_n C dX8_ails_6 rfl 1 rfl ?_
  obtain ⟨r3, hq2, hf⟩ := bo1_e hf
  refine r_callV (o := some (.int r3)) (w' := (wM g I1 J)) (As := [.int a1]) (rest := []) C (c_X8_isRam hq2) dX8_ails_7 gX8_ails_X8_isRam rfl rfl rfl hd_X8_isRam ⟨by decide, by decide⟩ 0 mg_0 rfl rfl rfl rfl (Nat.le_of_ble_eq_true rfl) ?_
  refine r_if_eq (tgt := 22) C dX8_ails_10 (by decide) (fun q10 => ?_) (fun q10 => ?_)
  · have hf := itp hf q10
    refine r_iconst (v := (-1 : Int32)) C dX8_ails_22 (by decide) ?_
    exact hr _ _ _ _ _ dX8_ails_23 rfl hf
  · have hf := itn hf q10
    refine r_iload_n C dX8_ails_13 rfl 2 rfl ?_
    refine r_iconst (v := (0 : Int32)) C dX8_ails_14 (by decide) ?_
    refine r_iconst (v := (2 : Int32)) C dX8_ails_15 (by decide) ?_
    obtain ⟨r5, hq4, hf⟩ := bo1_e hf
    refine r_callS (o := some (.int r5)) (w' := (wM g I1 J)) (As := [.int a2, .int (0 : Int32), .int (2 : Int32)]) (rest := []) C (c_X8_in hq4) dX8_ails_16 gX8_ails_X8_in rfl rfl rfl hd_X8_in ⟨by decide, by decide⟩ rfl rfl (Nat.le_of_ble_eq_true rfl) ?_
    refine r_if_ne (tgt := 24) C dX8_ails_19 (by decide) (fun q19 => ?_) (fun q19 => ?_)
    · have hf := itn hf q19
      refine r_iconst (v := (0 : Int32)) C dX8_ails_24 (by decide) ?_
      refine r_istore_n (lv' := [(0, .ref (g.1 0)), (1, .int a1), (2, .int a2), (3, .int (0 : Int32))]) C dX8_ails_25 rfl (by decide) [1, 2, 3, 0] rfl ?_
      refine r_bipush (v := (-9 : Int32)) C dX8_ails_26 (by decide) ?_
      refine r_istore (lv' := [(0, .ref (g.1 0)), (1, .int a1), (2, .int a2), (3, .int (0 : Int32)), (4, .int (-9 : Int32))]) C dX8_ails_28 (by decide) [1, 2, 3, 4, 0] rfl ?_
      refine r_iconst (v := (0 : Int32)) C dX8_ails_30 (by decide) ?_
      refine r_istore (lv' := [(0, .ref (g.1 0)), (1, .int a1), (2, .int a2), (3, .int (0 : Int32)), (4, .int (-9 : Int32)), (5, .int (0 : Int32))]) C dX8_ails_31 (by decide) [1, 2, 3, 4, 5, 0] rfl ?_
      exact mL_X8_ails_33 C hr FU _ _ _ _ _ _ _ hf
    · have hf := itp hf q19
      refine r_iconst (v := (-1 : Int32)) C dX8_ails_22 (by decide) ?_
      exact hr _ _ _ _ _ dX8_ails_23 rfl hf
abbrev rmX8_sure : Room := { frames := 4, cells := 0, slots := 0, locals := 97 }
theorem hd_X8_sure : yX8_sure.cls = RX8 ∧ yX8_sure.cls ≠ "java/lang/invoke/MethodHandle" ∧ yX8_sure.cls ≠ "java/lang/invoke/VarHandle" ∧ (parseMethodDescriptor yX8_sure.desc).map (fun d => d.parameters.length) = some 2 := by decide +kernel
theorem kX8_sure_0 : Cond.fieldLink RX8 64 (TX8 0).1 (TX8 0).2.1 (TX8 0).2.2.1 ∈ wsX8_sure := by decide +kernel
theorem kX8_sure_1 : ∀ w ∈ u_ws RX8 TX8 38, w ∈ wsX8_sure := by decide +kernel
set_option maxRecDepth 100000 in
set_option maxHeartbeats 4000000 in
theorem mB_X8_sure_30 {k : CT} {g : GG} (C : CX k cX8_sure 5 RX8 wsX8_sure rmX8_sure g) {ρ : (Int32 × MI × MJ)} (hr : RTW k wM g cX8_sure .int ρ) {kk30 : MI → MJ → Int32 → Int32 → Int32 → Int32 → Option (Int32 × MI × MJ)} (hk30 : ∀ (I : MI) (J : MJ) (x1 : Int32) (x2 : Int32) (x3 : Int32) (x4 : Int32), kk30 I J x1 x2 x3 x4 = some ρ → V k (wM g I J) 30 [(0, .ref (g.1 0)), (1, .int x1), (2, .int x2), (3, .int x3), (4, .int x4)] []) : ∀ (I : MI) (J : MJ) (x1 : Int32) (x2 : Int32) (x3 : Int32) (x4 : Int32), LB_X8_sure_30 kk30 I J x1 x2 x3 x4 = some ρ → V k (wM g I J) 30 [(0, .ref (g.1 0)), (1, .int x1), (2, .int x2), (3, .int x3), (4, .int x4)] [] := by
  intro I J x1 x2 x3 x4 hf
  unfold LB_X8_sure_30 at hf
  refine r_iload C dX8_sure_30 4 rfl ?_
  refine r_sipush (v := (256 : Int32)) C dX8_sure_32 (by decide) ?_
  refine r_icmp_ge (tgt := 80) C dX8_sure_35 (by decide) (fun q35 => ?_) (fun q35 => ?_)
  · have hf := itp hf q35
    refine r_iload_n C dX8_sure_80 rfl 3 rfl ?_
    exact hr _ _ _ _ _ dX8_sure_81 rfl hf
  · have hf := itn hf q35
    refine r_aload_n C dX8_sure_38 rfl 0 rfl ?_
    refine r_iload_n C dX8_sure_39 rfl 1 rfl ?_
    refine r_iload C dX8_sure_40 4 rfl ?_
    obtain ⟨r4, I2, J3, hq1, hf⟩ := bo3_e hf
    refine r_callV (o := some (.int r4)) (w' := (wM g I2 J3)) (As := [.int x1, .int x4]) (rest := []) C (c_X8_isFit hq1) dX8_sure_42 gX8_sure_X8_isFit rfl rfl rfl hd_X8_isFit ⟨by decide, by decide⟩ 0 mg_0 rfl rfl rfl rfl (Nat.le_of_ble_eq_true rfl) ?_
    refine r_if_eq (tgt := 74) C dX8_sure_45 (by decide) (fun q45 => ?_) (fun q45 => ?_)
    · have hf := itp hf q45
      obtain ⟨v5, ev5⟩ : ∃ z : Int32, z = x4 + (1 : Int32) := ⟨_, rfl⟩
      have hf := bnd_e hf v5 ev5
      refine r_iinc (v := v5) (lv' := [(0, .ref (g.1 0)), (1, .int x1), (2, .int x2), (3, .int x3), (4, .int v5)]) C dX8_sure_74 4 rfl (by rw [ev5]; rfl) (by decide) [1, 2, 3, 4, 0] rfl ?_
      refine r_goto (tgt := 30) C dX8_sure_77 (by decide) ?_
      exact hk30 _ _ _ _ _ _ hf
    · have hf := itn hf q45
      refine r_iload_n C dX8_sure_48 rfl 3 rfl ?_
      refine r_bipush (v := (-9 : Int32)) C dX8_sure_49 (by decide) ?_
      refine r_icmp_eq (tgt := 67) C dX8_sure_51 (by decide) (fun q51 => ?_) (fun q51 => ?_)
      · have hf := itp hf q51
        refine r_iload C dX8_sure_67 4 rfl ?_
        refine r_iload_n C dX8_sure_69 rfl 2 rfl ?_
        obtain ⟨r7, hq6, hf⟩ := bo1_e hf
        refine r_callS (o := some (.int r7)) (w' := (wM g I2 J3)) (As := [.int x4, .int x2]) (rest := []) C (c_X8_valueOf hq6) dX8_sure_70 gX8_sure_X8_valueOf rfl rfl rfl hd_X8_valueOf ⟨by decide, by decide⟩ rfl rfl (Nat.le_of_ble_eq_true rfl) ?_
        refine r_istore_n (lv' := [(0, .ref (g.1 0)), (1, .int x1), (2, .int x2), (3, .int r7), (4, .int x4)]) C dX8_sure_73 rfl (by decide) [1, 2, 3, 0, 4] rfl ?_
        obtain ⟨v8, ev8⟩ : ∃ z : Int32, z = x4 + (1 : Int32) := ⟨_, rfl⟩
        have hf := bnd_e hf v8 ev8
        refine r_iinc (v := v8) (lv' := [(0, .ref (g.1 0)), (1, .int x1), (2, .int x2), (3, .int r7), (4, .int v8)]) C dX8_sure_74 4 rfl (by rw [ev8]; rfl) (by decide) [1, 2, 3, 4, 0] rfl ?_
        refine r_goto (tgt := 30) C dX8_sure_77 (by decide) ?_
        exact hk30 _ _ _ _ _ _ hf
      · have hf := itn hf q51
        refine r_iload_n C dX8_sure_54 rfl 3 rfl ?_
        refine r_iload C dX8_sure_55 4 rfl ?_
        refine r_iload_n C dX8_sure_57 rfl 2 rfl ?_
        obtain ⟨r10, hq9, hf⟩ := bo1_e hf
        refine r_callS (o := some (.int r10)) (w' := (wM g I2 J3)) (As := [.int x4, .int x2]) (rest := [.int x3]) C (c_X8_valueOf hq9) dX8_sure_58 gX8_sure_X8_valueOf rfl rfl rfl hd_X8_valueOf ⟨by decide, by decide⟩ rfl rfl (Nat.le_of_ble_eq_true rfl) ?_
        refine r_icmp_eq (tgt := 67) C dX8_sure_61 (by decide) (fun q61 => ?_) (fun q61 => ?_)
        · have hf := itp hf q61
          refine r_iload C dX8_sure_67 4 rfl ?_
          refine r_iload_n C dX8_sure_69 rfl 2 rfl ?_
          obtain ⟨r12, hq11, hf⟩ := bo1_e hf
          refine r_callS (o := some (.int r12)) (w' := (wM g I2 J3)) (As := [.int x4, .int x2]) (rest := []) C (c_X8_valueOf hq11) dX8_sure_70 gX8_sure_X8_valueOf rfl rfl rfl hd_X8_valueOf ⟨by decide, by decide⟩ rfl rfl (Nat.le_of_ble_eq_true rfl) ?_
          refine r_istore_n (lv' := [(0, .ref (g.1 0)), (1, .int x1), (2, .int x2), (3, .int r12), (4, .int x4)]) C dX8_sure_73 rfl (by decide) [1, 2, 3, 0, 4] rfl ?_
          obtain ⟨v13, ev13⟩ : ∃ z : Int32, z = x4 + (1 : Int32) := ⟨_, rfl⟩
          have hf := bnd_e hf v13 ev13
          refine r_iinc (v := v13) (lv' := [(0, .ref (g.1 0)), (1, .int x1), (2, .int x2), (3, .int r12), (4, .int v13)]) C dX8_sure_74 4 rfl (by rw [ev13]; rfl) (by decide) [1, 2, 3, 4, 0] rfl ?_
          refine r_goto (tgt := 30) C dX8_sure_77 (by decide) ?_
          exact hk30 _ _ _ _ _ _ hf
        · have hf := itn hf q61
          refine r_bipush (v := (-9 : Int32)) C dX8_sure_64 (by decide) ?_
          exact hr _ _ _ _ _ dX8_sure_66 rfl hf
theorem mL_X8_sure_30 {k : CT} {g : GG} (C : CX k cX8_sure 5 RX8 wsX8_sure rmX8_sure g) {ρ : (Int32 × MI × MJ)} (hr : RTW k wM g cX8_sure .int ρ) : ∀ (n : Nat) (I : MI) (J : MJ) (x1 : Int32) (x2 : Int32) (x3 : Int32) (x4 : Int32), LP_X8_sure_30 n I J x1 x2 x3 x4 = some ρ → V k (wM g I J) 30 [(0, .ref (g.1 0)), (1, .int x1), (2, .int x2), (3, .int x3), (4, .int x4)] [] := by
  intro n
  induction n with
  | zero => intro I J x1 x2 x3 x4 hf; cases hf
  | succ n ih => intro I J x1 x2 x3 x4 hf; exact mB_X8_sure_30 C hr (fun I J x1 x2 x3 x4 h => ih I J x1 x2 x3 x4 h) I J x1 x2 x3 x4 hf
set_option maxRecDepth 100000 in
set_option maxHeartbeats 4000000 in
theorem c_X8_sure {l : Launch} {D : va_G} {g : GG} {I : MI} {J : MJ} {a1 : Int32} {a2 : Int32} {r : Int32} {I' : MI} {J' : MJ} (hf : f_X8_sure I J a1 a2 = some (r, I', J')) : CON l yX8_sure wsX8_sure rmX8_sure D g (wM g I J) [.ref (g.1 0), .int a1, .int a2] (some (.int r)) (wM g I' J') := by
  refine con_of (cc := cX8_sure) (maxL := 5) (ret := (some .int)) (by decide) rfl (Nat.le_of_ble_eq_true rfl) rfl rfl ?_
  intro k C hkl hkD h1 h2 h3
  subst hkl; subst hkD
  have hr : RTW k wM g cX8_sure .int (r, I', J') := rtw_of h2
  unfold f_X8_sure at hf
  refine V.loc (lv' := [(0, .ref (g.1 0)), (1, .int a1), (2, .int a2)]) [0, 1, 2] rfl ?_
  refine r_aload_n C dX8_sure_0 rfl 0 rfl ?_
  refine r_iconst (v := (0 : Int32)) C dX8_sure_1 (by decide) ?_
  refine r_put (ty := .int) C dX8_sure_2 kX8_sure_1 tyX8 tyX8_ok nmX8 0 mg_0 rfl 0 (by decide) kX8_sure_0 rfl rfl rfl rfl (Nat.le_of_ble_eq_true rfl) ms_0_0 ?_
  refine nmIM (fun I1 eI1 => ?_)
  have hf := bnd_e hf I1 eI1
  refine r_aload_n C dX8_sure_5 rfl 0 rfl ?_
  refine r_iload_n C dX8_sure_6 rfl 1 rfl ?_
  obtain ⟨r3, hq2, hf⟩ := bo1_e hf
  refine r_callV (o := some (.int r3)) (w' := (wM g I1 J)) (As := [.int a1]) (rest := []) C (c_X8_isRam hq2) dX8_sure_7 gX8_sure_X8_isRam rfl rfl rfl hd_X8_isRam ⟨by decide, by decide⟩ 0 mg_0 rfl rfl rfl rfl (Nat.le_of_ble_eq_true rfl) ?_
  refine r_if_eq (tgt := 22) C dX8_sure_10 (by decide) (fun q10 => ?_) (fun q10 => ?_)
  · have hf := itp hf q10
    refine r_iconst (v := (-1 : Int32)) C dX8_sure_22 (by decide) ?_
    exact hr _ _ _ _ _ dX8_sure_23 rfl hf
  · have hf := itn hf q10
    refine r_iload_n C dX8_sure_13 rfl 2 rfl ?_
    refine r_iconst (v := (0 : Int32)) C dX8_sure_14 (by decide) ?_
    refine r_iconst (v := (3 : Int32)) C dX8_sure_15 (by decide) ?_
    obtain ⟨r5, hq4, hf⟩ := bo1_e hf
    refine r_callS (o := some (.int r5)) (w' := (wM g I1 J)) (As := [.int a2, .int (0 : Int32), .int (3 : Int32)]) (rest := []) C (c_X8_in hq4) dX8_sure_16 gX8_sure_X8_in rfl rfl rfl hd_X8_in ⟨by decide, by decide⟩ rfl rfl (Nat.le_of_ble_eq_true rfl) ?_
    refine r_if_ne (tgt := 24) C dX8_sure_19 (by decide) (fun q19 => ?_) (fun q19 => ?_)
    · have hf := itn hf q19
      refine r_bipush (v := (-9 : Int32)) C dX8_sure_24 (by decide) ?_
      refine r_istore_n (lv' := [(0, .ref (g.1 0)), (1, .int a1), (2, .int a2), (3, .int (-9 : Int32))]) C dX8_sure_26 rfl (by decide) [1, 2, 3, 0] rfl ?_
      refine r_iconst (v := (0 : Int32)) C dX8_sure_27 (by decide) ?_
      refine r_istore (lv' := [(0, .ref (g.1 0)), (1, .int a1), (2, .int a2), (3, .int (-9 : Int32)), (4, .int (0 : Int32))]) C dX8_sure_28 (by decide) [1, 2, 3, 4, 0] rfl ?_
      exact mL_X8_sure_30 C hr FU _ _ _ _ _ _ hf
    · have hf := itp hf q19
      refine r_iconst (v := (-1 : Int32)) C dX8_sure_22 (by decide) ?_
      exact hr _ _ _ _ _ dX8_sure_23 rfl hf
abbrev rmX8_count : Room := { frames := 0, cells := 0, slots := 0, locals := 0 }
theorem hd_X8_count : yX8_count.cls = RX8 ∧ yX8_count.cls ≠ "java/lang/invoke/MethodHandle" ∧ yX8_count.cls ≠ "java/lang/invoke/VarHandle" ∧ (parseMethodDescriptor yX8_count.desc).map (fun d => d.parameters.length) = some 1 := by decide +kernel
theorem kX8_count_0 : Cond.fieldLink RX8 64 (TX8 0).1 (TX8 0).2.1 (TX8 0).2.2.1 ∈ wsX8_count := by decide +kernel
theorem kX8_count_1 : ∀ w ∈ u_ws RX8 TX8 38, w ∈ wsX8_count := by decide +kernel
theorem kX8_count_2 : Cond.fieldLink RX8 67 (TX8 2).1 (TX8 2).2.1 (TX8 2).2.2.1 ∈ wsX8_count := by decide +kernel
theorem kX8_count_3 : Cond.fieldLink RX8 133 (TX8 14).1 (TX8 14).2.1 (TX8 14).2.2.1 ∈ wsX8_count := by decide +kernel
theorem kX8_count_4 : Cond.fieldLink RX8 177 (TX8 21).1 (TX8 21).2.1 (TX8 21).2.2.1 ∈ wsX8_count := by decide +kernel
theorem kX8_count_5 : Cond.fieldLink RX8 199 (TX8 31).1 (TX8 31).2.1 (TX8 31).2.2.1 ∈ wsX8_count := by decide +kernel
theorem kX8_count_6 : Cond.fieldLink RX8 184 (TX8 27).1 (TX8 27).2.1 (TX8 27).2.2.1 ∈ wsX8_count := by decide +kernel
theorem kX8_count_7 : Cond.fieldLink RX8 190 (TX8 28).1 (TX8 28).2.1 (TX8 28).2.2.1 ∈ wsX8_count := by decide +kernel
theorem kX8_count_8 : Cond.fieldLink RX8 187 (TX8 29).1 (TX8 29).2.1 (TX8 29).2.2.1 ∈ wsX8_count := by decide +kernel
theorem kX8_count_9 : Cond.fieldLink RX8 151 (TX8 20).1 (TX8 20).2.1 (TX8 20).2.2.1 ∈ wsX8_count := by decide +kernel
set_option maxRecDepth 100000 in
set_option maxHeartbeats 4000000 in
theorem c_X8_count {l : Launch} {D : va_G} {g : GG} {I : MI} {J : MJ} {a1 : Int32} {r : Int32} {I' : MI} {J' : MJ} (hf : f_X8_count I J a1 = some (r, I', J')) : CON l yX8_count wsX8_count rmX8_count D g (wM g I J) [.ref (g.1 0), .int a1] (some (.int r)) (wM g I' J') := by
  refine con_of (cc := cX8_count) (maxL := 2) (ret := (some .int)) (by decide) rfl (Nat.le_of_ble_eq_true rfl) rfl rfl ?_
  intro k C hkl hkD h1 h2 h3
  subst hkl; subst hkD
  have hr : RTW k wM g cX8_count .int (r, I', J') := rtw_of h2
  unfold f_X8_count at hf
  refine V.loc (lv' := [(0, .ref (g.1 0)), (1, .int a1)]) [0, 1] rfl ?_
  refine r_aload_n C dX8_count_0 rfl 0 rfl ?_
  refine r_iconst (v := (0 : Int32)) C dX8_count_1 (by decide) ?_
  refine r_put (ty := .int) C dX8_count_2 kX8_count_1 tyX8 tyX8_ok nmX8 0 mg_0 rfl 0 (by decide) kX8_count_0 rfl rfl rfl rfl (Nat.le_of_ble_eq_true rfl) ms_0_0 ?_
  refine nmIM (fun I1 eI1 => ?_)
  have hf := bnd_e hf I1 eI1
  refine r_iload_n C dX8_count_5 rfl 1 rfl ?_
  by_cases q6_0 : a1 = (0 : Int32)
  · have hf := itp hf q6_0
    refine r_tabIn (tgt := 52) C dX8_count_6 (by rw [q6_0]; decide) (by rw [q6_0]; decide) (by rw [q6_0]; rfl) (by decide) ?_
    refine r_aload_n C dX8_count_52 rfl 0 rfl ?_
    refine r_get C dX8_count_53 kX8_count_1 0 mg_0 rfl 2 (by decide) kX8_count_2 mv_0_2 ?_
    exact hr _ _ _ _ _ dX8_count_56 rfl hf
  have hf := itn hf q6_0
  by_cases q6_1 : a1 = (1 : Int32)
  · have hf := itp hf q6_1
    refine r_tabIn (tgt := 57) C dX8_count_6 (by rw [q6_1]; decide) (by rw [q6_1]; decide) (by rw [q6_1]; rfl) (by decide) ?_
    refine r_aload_n C dX8_count_57 rfl 0 rfl ?_
    refine r_get C dX8_count_58 kX8_count_1 0 mg_0 rfl 14 (by decide) kX8_count_3 mv_0_14 ?_
    exact hr _ _ _ _ _ dX8_count_61 rfl hf
  have hf := itn hf q6_1
  by_cases q6_2 : a1 = (2 : Int32)
  · have hf := itp hf q6_2
    refine r_tabIn (tgt := 62) C dX8_count_6 (by rw [q6_2]; decide) (by rw [q6_2]; decide) (by rw [q6_2]; rfl) (by decide) ?_
    refine r_aload_n C dX8_count_62 rfl 0 rfl ?_
    refine r_get C dX8_count_63 kX8_count_1 0 mg_0 rfl 21 (by decide) kX8_count_4 mv_0_21 ?_
    exact hr _ _ _ _ _ dX8_count_66 rfl hf
  have hf := itn hf q6_2
  by_cases q6_3 : a1 = (3 : Int32)
  · have hf := itp hf q6_3
    refine r_tabIn (tgt := 67) C dX8_count_6 (by rw [q6_3]; decide) (by rw [q6_3]; decide) (by rw [q6_3]; rfl) (by decide) ?_
    refine r_aload_n C dX8_count_67 rfl 0 rfl ?_
    refine r_get C dX8_count_68 kX8_count_1 0 mg_0 rfl 31 (by decide) kX8_count_5 mv_0_31 ?_
    exact hr _ _ _ _ _ dX8_count_71 rfl hf
  have hf := itn hf q6_3
  by_cases q6_4 : a1 = (4 : Int32)
  · have hf := itp hf q6_4
    refine r_tabIn (tgt := 72) C dX8_count_6 (by rw [q6_4]; decide) (by rw [q6_4]; decide) (by rw [q6_4]; rfl) (by decide) ?_
    refine r_aload_n C dX8_count_72 rfl 0 rfl ?_
    refine r_get C dX8_count_73 kX8_count_1 0 mg_0 rfl 27 (by decide) kX8_count_6 mv_0_27 ?_
    exact hr _ _ _ _ _ dX8_count_76 rfl hf
  have hf := itn hf q6_4
  by_cases q6_5 : a1 = (5 : Int32)
  · have hf := itp hf q6_5
    refine r_tabIn (tgt := 77) C dX8_count_6 (by rw [q6_5]; decide) (by rw [q6_5]; decide) (by rw [q6_5]; rfl) (by decide) ?_
    refine r_aload_n C dX8_count_77 rfl 0 rfl ?_
    refine r_get C dX8_count_78 kX8_count_1 0 mg_0 rfl 28 (by decide) kX8_count_7 mv_0_28 ?_
    exact hr _ _ _ _ _ dX8_count_81 rfl hf
  have hf := itn hf q6_5
  by_cases q6_6 : a1 = (6 : Int32)
  · have hf := itp hf q6_6
    refine r_tabIn (tgt := 82) C dX8_count_6 (by rw [q6_6]; decide) (by rw [q6_6]; decide) (by rw [q6_6]; rfl) (by decide) ?_
    refine r_aload_n C dX8_count_82 rfl 0 rfl ?_
    refine r_get C dX8_count_83 kX8_count_1 0 mg_0 rfl 29 (by decide) kX8_count_8 mv_0_29 ?_
    exact hr _ _ _ _ _ dX8_count_86 rfl hf
  have hf := itn hf q6_6
  by_cases q6_7 : a1 = (7 : Int32)
  · have hf := itp hf q6_7
    refine r_tabIn (tgt := 87) C dX8_count_6 (by rw [q6_7]; decide) (by rw [q6_7]; decide) (by rw [q6_7]; rfl) (by decide) ?_
    refine r_aload_n C dX8_count_87 rfl 0 rfl ?_
    refine r_get C dX8_count_88 kX8_count_1 0 mg_0 rfl 20 (by decide) kX8_count_9 mv_0_20 ?_
    exact hr _ _ _ _ _ dX8_count_91 rfl hf
  have hf := itn hf q6_7
  refine r_tabOut (tgt := 92) C dX8_count_6 (by have a0 := lv_neT q6_0 (a := 0) (by decide); have a1 := lv_neT q6_1 (a := 1) (by decide); have a2 := lv_neT q6_2 (a := 2) (by decide); have a3 := lv_neT q6_3 (a := 3) (by decide); have a4 := lv_neT q6_4 (a := 4) (by decide); have a5 := lv_neT q6_5 (a := 5) (by decide); have a6 := lv_neT q6_6 (a := 6) (by decide); have a7 := lv_neT q6_7 (a := 7) (by decide); omega) (by decide) ?_
  refine r_iconst (v := (-1 : Int32)) C dX8_count_92 (by decide) ?_
  exact hr _ _ _ _ _ dX8_count_93 rfl hf
abbrev rmX8_trace : Room := { frames := 0, cells := 0, slots := 0, locals := 0 }
theorem hd_X8_trace : yX8_trace.cls = RX8 ∧ yX8_trace.cls ≠ "java/lang/invoke/MethodHandle" ∧ yX8_trace.cls ≠ "java/lang/invoke/VarHandle" ∧ (parseMethodDescriptor yX8_trace.desc).map (fun d => d.parameters.length) = some 0 := by decide +kernel
theorem kX8_trace_0 : Cond.fieldLink RX8 64 (TX8 0).1 (TX8 0).2.1 (TX8 0).2.2.1 ∈ wsX8_trace := by decide +kernel
theorem kX8_trace_1 : ∀ w ∈ u_ws RX8 TX8 38, w ∈ wsX8_trace := by decide +kernel
theorem kX8_trace_2 : Cond.fieldLink RX8 81 (TX8 1).1 (TX8 1).2.1 (TX8 1).2.2.1 ∈ wsX8_trace := by decide +kernel
set_option maxRecDepth 100000 in
set_option maxHeartbeats 4000000 in
theorem c_X8_trace {l : Launch} {D : va_G} {g : GG} {I : MI} {J : MJ} {r : Int64} {I' : MI} {J' : MJ} (hf : f_X8_trace I J = some (r, I', J')) : CON l yX8_trace wsX8_trace rmX8_trace D g (wM g I J) [.ref (g.1 0)] (some (.long r)) (wM g I' J') := by
  refine con_of (cc := cX8_trace) (maxL := 1) (ret := (some .long)) (by decide) rfl (Nat.le_of_ble_eq_true rfl) rfl rfl ?_
  intro k C hkl hkD h1 h2 h3
  subst hkl; subst hkD
  have hr : RTL k wM g cX8_trace (r, I', J') := rtl_of h3
  unfold f_X8_trace at hf
  refine V.loc (lv' := [(0, .ref (g.1 0))]) [0] rfl ?_
  refine r_aload_n C dX8_trace_0 rfl 0 rfl ?_
  refine r_iconst (v := (0 : Int32)) C dX8_trace_1 (by decide) ?_
  refine r_put (ty := .int) C dX8_trace_2 kX8_trace_1 tyX8 tyX8_ok nmX8 0 mg_0 rfl 0 (by decide) kX8_trace_0 rfl rfl rfl rfl (Nat.le_of_ble_eq_true rfl) ms_0_0 ?_
  refine nmIM (fun I1 eI1 => ?_)
  have hf := bnd_e hf I1 eI1
  refine r_aload_n C dX8_trace_5 rfl 0 rfl ?_
  refine r_get C dX8_trace_6 kX8_trace_1 0 mg_0 rfl 1 (by decide) kX8_trace_2 mv_0_1 ?_
  exact hr _ _ _ _ _ dX8_trace_9 hf
