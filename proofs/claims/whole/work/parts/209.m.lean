abbrev rmX8_ram : Room := { frames := 1, cells := 0, slots := 0, locals := 22 }
theorem hd_X8_ram : yX8_ram.cls = RX8 ∧ yX8_ram.cls ≠ "java/lang/invoke/MethodHandle" ∧ yX8_ram.cls ≠ "java/lang/invoke/VarHandle" ∧ (parseMethodDescriptor yX8_ram.desc).map (fun d => d.parameters.length) = some 4 := by decide +kernel
theorem kX8_ram_0 : Cond.fieldLink RX8 64 (TX8 0).1 (TX8 0).2.1 (TX8 0).2.2.1 ∈ wsX8_ram := by decide +kernel
theorem kX8_ram_1 : ∀ w ∈ u_ws RX8 TX8 38, w ∈ wsX8_ram := by decide +kernel
theorem kX8_ram_2 : Cond.fieldLink RX8 67 (TX8 2).1 (TX8 2).2.1 (TX8 2).2.2.1 ∈ wsX8_ram := by decide +kernel
theorem kX8_ram_3 : Cond.fieldLink RX8 7 (TX8 3).1 (TX8 3).2.1 (TX8 3).2.2.1 ∈ wsX8_ram := by decide +kernel
set_option maxRecDepth 100000 in
set_option maxHeartbeats 4000000 in
theorem mB_X8_ram_77 {k : CT} {g : GG} (C : CX k cX8_ram 7 RX8 wsX8_ram rmX8_ram g) {ρ : (Int32 × MI × MJ)} (hr : RTW k wM g cX8_ram .int ρ) {kk77 : MI → MJ → Int32 → Int32 → Int32 → Int32 → Int32 → Int32 → Option (Int32 × MI × MJ)} (hk77 : ∀ (I : MI) (J : MJ) (x1 : Int32) (x2 : Int32) (x3 : Int32) (x4 : Int32) (x5 : Int32) (x6 : Int32), kk77 I J x1 x2 x3 x4 x5 x6 = some ρ → V k (wM g I J) 77 [(0, .ref (g.1 0)), (1, .int x1), (2, .int x2), (3, .int x3), (4, .int x4), (5, .int x5), (6, .int x6)] []) : ∀ (I : MI) (J : MJ) (x1 : Int32) (x2 : Int32) (x3 : Int32) (x4 : Int32) (x5 : Int32) (x6 : Int32), LB_X8_ram_77 kk77 I J x1 x2 x3 x4 x5 x6 = some ρ → V k (wM g I J) 77 [(0, .ref (g.1 0)), (1, .int x1), (2, .int x2), (3, .int x3), (4, .int x4), (5, .int x5), (6, .int x6)] [] := by
  intro I J x1 x2 x3 x4 x5 x6 hf
  unfold LB_X8_ram_77 at hf
  refine r_iload C dX8_ram_77 6 rfl ?_
  refine r_bipush (v := (13 : Int32)) C dX8_ram_79 (by decide) ?_
  refine r_icmp_ge (tgt := 101) C dX8_ram_81 (by decide) (fun q81 => ?_) (fun q81 => ?_)
  · have hf := itp hf q81
    refine r_aload_n C dX8_ram_101 rfl 0 rfl ?_
    refine r_get C dX8_ram_102 kX8_ram_1 0 mg_0 rfl 3 (by decide) kX8_ram_3 mv_0_3 ?_
    refine r_iload C dX8_ram_105 5 rfl ?_
    refine r_iconst (v := (0 : Int32)) C dX8_ram_107 (by decide) ?_
    refine r_iadd C dX8_ram_108 ?_
    refine r_iload_n C dX8_ram_109 rfl 1 rfl ?_
    obtain ⟨h1, hf⟩ := chk_e hf
    refine r_iast (j := (x5 + (0 : Int32)).toNatClampNeg) C dX8_ram_110 1 mg_1 (inb_e h1) rfl ma_1 ?_
    refine nmIM (fun I2 eI2 => ?_)
    have hf := bnd_e hf I2 eI2
    refine r_aload_n C dX8_ram_111 rfl 0 rfl ?_
    refine r_get C dX8_ram_112 kX8_ram_1 0 mg_0 rfl 3 (by decide) kX8_ram_3 mv_0_3 ?_
    refine r_iload C dX8_ram_115 5 rfl ?_
    refine r_iconst (v := (1 : Int32)) C dX8_ram_117 (by decide) ?_
    refine r_iadd C dX8_ram_118 ?_
    refine r_iload_n C dX8_ram_119 rfl 2 rfl ?_
    obtain ⟨h3, hf⟩ := chk_e hf
    refine r_iast (j := (x5 + (1 : Int32)).toNatClampNeg) C dX8_ram_120 1 mg_1 (inb_e h3) rfl ma_1 ?_
    refine nmIM (fun I4 eI4 => ?_)
    have hf := bnd_e hf I4 eI4
    refine r_aload_n C dX8_ram_121 rfl 0 rfl ?_
    refine r_get C dX8_ram_122 kX8_ram_1 0 mg_0 rfl 3 (by decide) kX8_ram_3 mv_0_3 ?_
    refine r_iload C dX8_ram_125 5 rfl ?_
    refine r_iconst (v := (2 : Int32)) C dX8_ram_127 (by decide) ?_
    refine r_iadd C dX8_ram_128 ?_
    refine r_iload_n C dX8_ram_129 rfl 3 rfl ?_
    obtain ⟨h5, hf⟩ := chk_e hf
    refine r_iast (j := (x5 + (2 : Int32)).toNatClampNeg) C dX8_ram_130 1 mg_1 (inb_e h5) rfl ma_1 ?_
    refine nmIM (fun I6 eI6 => ?_)
    have hf := bnd_e hf I6 eI6
    refine r_aload_n C dX8_ram_131 rfl 0 rfl ?_
    refine r_get C dX8_ram_132 kX8_ram_1 0 mg_0 rfl 3 (by decide) kX8_ram_3 mv_0_3 ?_
    refine r_iload C dX8_ram_135 5 rfl ?_
    refine r_iconst (v := (3 : Int32)) C dX8_ram_137 (by decide) ?_
    refine r_iadd C dX8_ram_138 ?_
    refine r_iload C dX8_ram_139 4 rfl ?_
    obtain ⟨h7, hf⟩ := chk_e hf
    refine r_iast (j := (x5 + (3 : Int32)).toNatClampNeg) C dX8_ram_141 1 mg_1 (inb_e h7) rfl ma_1 ?_
    refine nmIM (fun I8 eI8 => ?_)
    have hf := bnd_e hf I8 eI8
    refine r_aload_n C dX8_ram_142 rfl 0 rfl ?_
    refine r_get C dX8_ram_143 kX8_ram_1 0 mg_0 rfl 3 (by decide) kX8_ram_3 mv_0_3 ?_
    refine r_iload C dX8_ram_146 5 rfl ?_
    refine r_iconst (v := (4 : Int32)) C dX8_ram_148 (by decide) ?_
    refine r_iadd C dX8_ram_149 ?_
    refine r_bipush (v := (60 : Int32)) C dX8_ram_150 (by decide) ?_
    obtain ⟨h9, hf⟩ := chk_e hf
    refine r_iast (j := (x5 + (4 : Int32)).toNatClampNeg) C dX8_ram_152 1 mg_1 (inb_e h9) rfl ma_1 ?_
    refine nmIM (fun I10 eI10 => ?_)
    have hf := bnd_e hf I10 eI10
    refine r_aload_n C dX8_ram_153 rfl 0 rfl ?_
    refine r_get C dX8_ram_154 kX8_ram_1 0 mg_0 rfl 3 (by decide) kX8_ram_3 mv_0_3 ?_
    refine r_iload C dX8_ram_157 5 rfl ?_
    refine r_iconst (v := (5 : Int32)) C dX8_ram_159 (by decide) ?_
    refine r_iadd C dX8_ram_160 ?_
    refine r_iconst (v := (4 : Int32)) C dX8_ram_161 (by decide) ?_
    obtain ⟨h11, hf⟩ := chk_e hf
    refine r_iast (j := (x5 + (5 : Int32)).toNatClampNeg) C dX8_ram_162 1 mg_1 (inb_e h11) rfl ma_1 ?_
    refine nmIM (fun I12 eI12 => ?_)
    have hf := bnd_e hf I12 eI12
    refine r_aload_n C dX8_ram_163 rfl 0 rfl ?_
    refine r_get C dX8_ram_164 kX8_ram_1 0 mg_0 rfl 3 (by decide) kX8_ram_3 mv_0_3 ?_
    refine r_iload C dX8_ram_167 5 rfl ?_
    refine r_bipush (v := (6 : Int32)) C dX8_ram_169 (by decide) ?_
    refine r_iadd C dX8_ram_171 ?_
    refine r_bipush (v := (100 : Int32)) C dX8_ram_172 (by decide) ?_
    obtain ⟨h13, hf⟩ := chk_e hf
    refine r_iast (j := (x5 + (6 : Int32)).toNatClampNeg) C dX8_ram_174 1 mg_1 (inb_e h13) rfl ma_1 ?_
    refine nmIM (fun I14 eI14 => ?_)
    have hf := bnd_e hf I14 eI14
    refine r_aload_n C dX8_ram_175 rfl 0 rfl ?_
    refine r_get C dX8_ram_176 kX8_ram_1 0 mg_0 rfl 3 (by decide) kX8_ram_3 mv_0_3 ?_
    refine r_iload C dX8_ram_179 5 rfl ?_
    refine r_bipush (v := (12 : Int32)) C dX8_ram_181 (by decide) ?_
    refine r_iadd C dX8_ram_183 ?_
    refine r_iconst (v := (1 : Int32)) C dX8_ram_184 (by decide) ?_
    obtain ⟨h15, hf⟩ := chk_e hf
    refine r_iast (j := (x5 + (12 : Int32)).toNatClampNeg) C dX8_ram_185 1 mg_1 (inb_e h15) rfl ma_1 ?_
    refine nmIM (fun I16 eI16 => ?_)
    have hf := bnd_e hf I16 eI16
    refine r_aload_n C dX8_ram_186 rfl 0 rfl ?_
    refine r_dup C dX8_ram_187 rfl ?_
    refine r_get C dX8_ram_188 kX8_ram_1 0 mg_0 rfl 2 (by decide) kX8_ram_2 mv_0_2 ?_
    refine r_iconst (v := (1 : Int32)) C dX8_ram_191 (by decide) ?_
    refine r_iadd C dX8_ram_192 ?_
    refine r_put (ty := .int) C dX8_ram_193 kX8_ram_1 tyX8 tyX8_ok nmX8 0 mg_0 rfl 2 (by decide) kX8_ram_2 rfl rfl rfl rfl (Nat.le_of_ble_eq_true rfl) ms_0_2 ?_
    refine nmIM (fun I17 eI17 => ?_)
    have hf := bnd_e hf I17 eI17
    refine r_aload_n C dX8_ram_196 rfl 0 rfl ?_
    refine r_get C dX8_ram_197 kX8_ram_1 0 mg_0 rfl 2 (by decide) kX8_ram_2 mv_0_2 ?_
    refine r_iconst (v := (1 : Int32)) C dX8_ram_200 (by decide) ?_
    refine r_isub C dX8_ram_201 ?_
    exact hr _ _ _ _ _ dX8_ram_202 rfl hf
  · have hf := itn hf q81
    refine r_aload_n C dX8_ram_84 rfl 0 rfl ?_
    refine r_get C dX8_ram_85 kX8_ram_1 0 mg_0 rfl 3 (by decide) kX8_ram_3 mv_0_3 ?_
    refine r_iload C dX8_ram_88 5 rfl ?_
    refine r_iload C dX8_ram_90 6 rfl ?_
    refine r_iadd C dX8_ram_92 ?_
    refine r_iconst (v := (0 : Int32)) C dX8_ram_93 (by decide) ?_
    obtain ⟨h18, hf⟩ := chk_e hf
    refine r_iast (j := (x5 + x6).toNatClampNeg) C dX8_ram_94 1 mg_1 (inb_e h18) rfl ma_1 ?_
    refine nmIM (fun I19 eI19 => ?_)
    have hf := bnd_e hf I19 eI19
    obtain ⟨v20, ev20⟩ : ∃ z : Int32, z = x6 + (1 : Int32) := ⟨_, rfl⟩
    have hf := bnd_e hf v20 ev20
    refine r_iinc (v := v20) (lv' := [(0, .ref (g.1 0)), (1, .int x1), (2, .int x2), (3, .int x3), (4, .int x4), (5, .int x5), (6, .int v20)]) C dX8_ram_95 6 rfl (by rw [ev20]; rfl) (by decide) [1, 2, 3, 4, 5, 6, 0] rfl ?_
    refine r_goto (tgt := 77) C dX8_ram_98 (by decide) ?_
    exact hk77 _ _ _ _ _ _ _ _ hf
theorem mL_X8_ram_77 {k : CT} {g : GG} (C : CX k cX8_ram 7 RX8 wsX8_ram rmX8_ram g) {ρ : (Int32 × MI × MJ)} (hr : RTW k wM g cX8_ram .int ρ) : ∀ (n : Nat) (I : MI) (J : MJ) (x1 : Int32) (x2 : Int32) (x3 : Int32) (x4 : Int32) (x5 : Int32) (x6 : Int32), LP_X8_ram_77 n I J x1 x2 x3 x4 x5 x6 = some ρ → V k (wM g I J) 77 [(0, .ref (g.1 0)), (1, .int x1), (2, .int x2), (3, .int x3), (4, .int x4), (5, .int x5), (6, .int x6)] [] := by
  intro n
  induction n with
  | zero => intro I J x1 x2 x3 x4 x5 x6 hf; cases hf
  | succ n ih => intro I J x1 x2 x3 x4 x5 x6 hf; exact mB_X8_ram_77 C hr (fun I J x1 x2 x3 x4 x5 x6 h => ih I J x1 x2 x3 x4 x5 x6 h) I J x1 x2 x3 x4 x5 x6 hf
set_option maxRecDepth 100000 in
set_option maxHeartbeats 4000000 in
theorem c_X8_ram {l : Launch} {D : va_G} {g : GG} {I : MI} {J : MJ} {a1 : Int32} {a2 : Int32} {a3 : Int32} {a4 : Int32} {r : Int32} {I' : MI} {J' : MJ} (hf : f_X8_ram I J a1 a2 a3 a4 = some (r, I', J')) : CON l yX8_ram wsX8_ram rmX8_ram D g (wM g I J) [.ref (g.1 0), .int a1, .int a2, .int a3, .int a4] (some (.int r)) (wM g I' J') := by
  refine con_of (cc := cX8_ram) (maxL := 7) (ret := (some .int)) (by decide) rfl (Nat.le_of_ble_eq_true rfl) rfl rfl ?_
  intro k C hkl hkD h1 h2 h3
  subst hkl; subst hkD
  have hr : RTW k wM g cX8_ram .int (r, I', J') := rtw_of h2
  unfold f_X8_ram at hf
  refine V.loc (lv' := [(0, .ref (g.1 0)), (1, .int a1), (2, .int a2), (3, .int a3), (4, .int a4)]) [0, 1, 2, 3, 4] rfl ?_
  refine r_aload_n C dX8_ram_0 rfl 0 rfl ?_
  refine r_iconst (v := (0 : Int32)) C dX8_ram_1 (by decide) ?_
  refine r_put (ty := .int) C dX8_ram_2 kX8_ram_1 tyX8 tyX8_ok nmX8 0 mg_0 rfl 0 (by decide) kX8_ram_0 rfl rfl rfl rfl (Nat.le_of_ble_eq_true rfl) ms_0_0 ?_
  refine nmIM (fun I1 eI1 => ?_)
  have hf := bnd_e hf I1 eI1
  refine r_iload_n C dX8_ram_5 rfl 1 rfl ?_
  refine r_iconst (v := (5 : Int32)) C dX8_ram_6 (by decide) ?_
  refine r_sipush (v := (200 : Int32)) C dX8_ram_7 (by decide) ?_
  obtain ⟨r3, hq2, hf⟩ := bo1_e hf
  refine r_callS (o := some (.int r3)) (w' := (wM g I1 J)) (As := [.int a1, .int (5 : Int32), .int (200 : Int32)]) (rest := []) C (c_X8_in hq2) dX8_ram_10 gX8_ram_X8_in rfl rfl rfl hd_X8_in ⟨by decide, by decide⟩ rfl rfl (Nat.le_of_ble_eq_true rfl) ?_
  refine r_if_eq (tgt := 52) C dX8_ram_13 (by decide) (fun q13 => ?_) (fun q13 => ?_)
  · have hf := itp hf q13
    refine r_iconst (v := (-1 : Int32)) C dX8_ram_52 (by decide) ?_
    exact hr _ _ _ _ _ dX8_ram_53 rfl hf
  · have hf := itn hf q13
    refine r_iload_n C dX8_ram_16 rfl 2 rfl ?_
    refine r_iload_n C dX8_ram_17 rfl 1 rfl ?_
    refine r_iconst (v := (1 : Int32)) C dX8_ram_18 (by decide) ?_
    refine r_iadd C dX8_ram_19 ?_
    refine r_sipush (v := (1000 : Int32)) C dX8_ram_20 (by decide) ?_
    obtain ⟨r5, hq4, hf⟩ := bo1_e hf
    refine r_callS (o := some (.int r5)) (w' := (wM g I1 J)) (As := [.int a2, .int (a1 + (1 : Int32)), .int (1000 : Int32)]) (rest := []) C (c_X8_in hq4) dX8_ram_23 gX8_ram_X8_in rfl rfl rfl hd_X8_in ⟨by decide, by decide⟩ rfl rfl (Nat.le_of_ble_eq_true rfl) ?_
    refine r_if_eq (tgt := 52) C dX8_ram_26 (by decide) (fun q26 => ?_) (fun q26 => ?_)
    · have hf := itp hf q26
      refine r_iconst (v := (-1 : Int32)) C dX8_ram_52 (by decide) ?_
      exact hr _ _ _ _ _ dX8_ram_53 rfl hf
    · have hf := itn hf q26
      refine r_iload_n C dX8_ram_29 rfl 3 rfl ?_
      refine r_bipush (v := (20 : Int32)) C dX8_ram_30 (by decide) ?_
      refine r_sipush (v := (900 : Int32)) C dX8_ram_32 (by decide) ?_
      obtain ⟨r7, hq6, hf⟩ := bo1_e hf
      refine r_callS (o := some (.int r7)) (w' := (wM g I1 J)) (As := [.int a3, .int (20 : Int32), .int (900 : Int32)]) (rest := []) C (c_X8_in hq6) dX8_ram_35 gX8_ram_X8_in rfl rfl rfl hd_X8_in ⟨by decide, by decide⟩ rfl rfl (Nat.le_of_ble_eq_true rfl) ?_
      refine r_if_eq (tgt := 52) C dX8_ram_38 (by decide) (fun q38 => ?_) (fun q38 => ?_)
      · have hf := itp hf q38
        refine r_iconst (v := (-1 : Int32)) C dX8_ram_52 (by decide) ?_
        exact hr _ _ _ _ _ dX8_ram_53 rfl hf
      · have hf := itn hf q38
        refine r_iload C dX8_ram_41 4 rfl ?_
        refine r_iconst (v := (1 : Int32)) C dX8_ram_43 (by decide) ?_
        refine r_bipush (v := (9 : Int32)) C dX8_ram_44 (by decide) ?_
        obtain ⟨r9, hq8, hf⟩ := bo1_e hf
        refine r_callS (o := some (.int r9)) (w' := (wM g I1 J)) (As := [.int a4, .int (1 : Int32), .int (9 : Int32)]) (rest := []) C (c_X8_in hq8) dX8_ram_46 gX8_ram_X8_in rfl rfl rfl hd_X8_in ⟨by decide, by decide⟩ rfl rfl (Nat.le_of_ble_eq_true rfl) ?_
        refine r_if_ne (tgt := 54) C dX8_ram_49 (by decide) (fun q49 => ?_) (fun q49 => ?_)
        · have hf := itn hf q49
          refine r_aload_n C dX8_ram_54 rfl 0 rfl ?_
          refine r_get C dX8_ram_55 kX8_ram_1 0 mg_0 rfl 2 (by decide) kX8_ram_2 mv_0_2 ?_
          refine r_iconst (v := (4 : Int32)) C dX8_ram_58 (by decide) ?_
          refine r_icmp_ne (tgt := 65) C dX8_ram_59 (by decide) (fun q59 => ?_) (fun q59 => ?_)
          · have hf := itn hf q59
            refine r_bipush (v := (13 : Int32)) C dX8_ram_65 (by decide) ?_
            refine r_aload_n C dX8_ram_67 rfl 0 rfl ?_
            refine r_get C dX8_ram_68 kX8_ram_1 0 mg_0 rfl 2 (by decide) kX8_ram_2 mv_0_2 ?_
            refine r_imul C dX8_ram_71 ?_
            refine r_nmi (fun v10 ev10 => ?_)
            have hf := bnd_e hf v10 ev10
            refine r_istore (lv' := [(0, .ref (g.1 0)), (1, .int a1), (2, .int a2), (3, .int a3), (4, .int a4), (5, .int v10)]) C dX8_ram_72 (by decide) [1, 2, 3, 4, 5, 0] rfl ?_
            refine r_iconst (v := (0 : Int32)) C dX8_ram_74 (by decide) ?_
            refine r_istore (lv' := [(0, .ref (g.1 0)), (1, .int a1), (2, .int a2), (3, .int a3), (4, .int a4), (5, .int v10), (6, .int (0 : Int32))]) C dX8_ram_75 (by decide) [1, 2, 3, 4, 5, 6, 0] rfl ?_
            exact mL_X8_ram_77 C hr FU _ _ _ _ _ _ _ _ hf
          · have hf := itp hf q59
            refine r_bipush (v := (-3 : Int32)) C dX8_ram_62 (by decide) ?_
            exact hr _ _ _ _ _ dX8_ram_64 rfl hf
        · have hf := itp hf q49
          refine r_iconst (v := (-1 : Int32)) C dX8_ram_52 (by decide) ?_
          exact hr _ _ _ _ _ dX8_ram_53 rfl hf
abbrev rmX8_isValue : Room := { frames := 1, cells := 0, slots := 0, locals := 22 }
theorem hd_X8_isValue : yX8_isValue.cls = RX8 ∧ yX8_isValue.cls ≠ "java/lang/invoke/MethodHandle" ∧ yX8_isValue.cls ≠ "java/lang/invoke/VarHandle" ∧ (parseMethodDescriptor yX8_isValue.desc).map (fun d => d.parameters.length) = some 3 := by decide +kernel
theorem kX8_isValue_0 : Cond.fieldLink RX8 7 (TX8 3).1 (TX8 3).2.1 (TX8 3).2.2.1 ∈ wsX8_isValue := by decide +kernel
theorem kX8_isValue_1 : ∀ w ∈ u_ws RX8 TX8 38, w ∈ wsX8_isValue := by decide +kernel
set_option maxRecDepth 100000 in
set_option maxHeartbeats 4000000 in
theorem c_X8_isValue {l : Launch} {D : va_G} {g : GG} {I : MI} {J : MJ} {a1 : Int32} {a2 : Int32} {a3 : Int32} {r : Int32} (hf : f_X8_isValue I J a1 a2 a3 = some r) : CON l yX8_isValue wsX8_isValue rmX8_isValue D g (wM g I J) [.ref (g.1 0), .int a1, .int a2, .int a3] (some (.int r)) (wM g I J) := by
  refine con_of (cc := cX8_isValue) (maxL := 4) (ret := (some .boolean)) (by decide) rfl (Nat.le_of_ble_eq_true rfl) rfl rfl ?_
  intro k C hkl hkD h1 h2 h3
  subst hkl; subst hkD
  have hr : RRW k (wM g I J) cX8_isValue .boolean r := rrw_of h2
  unfold f_X8_isValue at hf
  refine V.loc (lv' := [(0, .ref (g.1 0)), (1, .int a1), (2, .int a2), (3, .int a3)]) [0, 1, 2, 3] rfl ?_
  refine r_iload_n C dX8_isValue_0 rfl 2 rfl ?_
  by_cases q1_0 : a2 = (0 : Int32)
  · have hf := itp hf q1_0
    refine r_tabIn (tgt := 60) C dX8_isValue_1 (by rw [q1_0]; decide) (by rw [q1_0]; decide) (by rw [q1_0]; rfl) (by decide) ?_
    refine r_iload_n C dX8_isValue_60 rfl 3 rfl ?_
    refine r_iconst (v := (5 : Int32)) C dX8_isValue_61 (by decide) ?_
    refine r_sipush (v := (200 : Int32)) C dX8_isValue_62 (by decide) ?_
    obtain ⟨r2, hq1, hf⟩ := bo1_e hf
    refine r_callS (o := some (.int r2)) (w' := (wM g I J)) (As := [.int a3, .int (5 : Int32), .int (200 : Int32)]) (rest := []) C (c_X8_in hq1) dX8_isValue_65 gX8_isValue_X8_in rfl rfl rfl hd_X8_in ⟨by decide, by decide⟩ rfl rfl (Nat.le_of_ble_eq_true rfl) ?_
    refine r_if_eq (tgt := 87) C dX8_isValue_68 (by decide) (fun q68 => ?_) (fun q68 => ?_)
    · have hf := itp hf q68
      refine r_iconst (v := (0 : Int32)) C dX8_isValue_87 (by decide) ?_
      exact hr _ _ _ dX8_isValue_88 nb0 hf
    · have hf := itn hf q68
      refine r_iload_n C dX8_isValue_71 rfl 3 rfl ?_
      refine r_aload_n C dX8_isValue_72 rfl 0 rfl ?_
      refine r_get C dX8_isValue_73 kX8_isValue_1 0 mg_0 rfl 3 (by decide) kX8_isValue_0 mv_0_3 ?_
      refine r_iload_n C dX8_isValue_76 rfl 1 rfl ?_
      refine r_iconst (v := (1 : Int32)) C dX8_isValue_77 (by decide) ?_
      refine r_iadd C dX8_isValue_78 ?_
      obtain ⟨h3, hf⟩ := chk_e hf
      refine r_iald (j := (a1 + (1 : Int32)).toNatClampNeg) C dX8_isValue_79 1 mg_1 (inb_e h3) rfl ?_
      refine r_icmp_ge (tgt := 87) C dX8_isValue_80 (by decide) (fun q80 => ?_) (fun q80 => ?_)
      · have hf := itp hf q80
        refine r_iconst (v := (0 : Int32)) C dX8_isValue_87 (by decide) ?_
        exact hr _ _ _ dX8_isValue_88 nb0 hf
      · have hf := itn hf q80
        refine r_iconst (v := (1 : Int32)) C dX8_isValue_83 (by decide) ?_
        refine r_goto (tgt := 88) C dX8_isValue_84 (by decide) ?_
        exact hr _ _ _ dX8_isValue_88 nb1 hf
  have hf := itn hf q1_0
  by_cases q1_1 : a2 = (1 : Int32)
  · have hf := itp hf q1_1
    refine r_tabIn (tgt := 89) C dX8_isValue_1 (by rw [q1_1]; decide) (by rw [q1_1]; decide) (by rw [q1_1]; rfl) (by decide) ?_
    refine r_iload_n C dX8_isValue_89 rfl 3 rfl ?_
    refine r_aload_n C dX8_isValue_90 rfl 0 rfl ?_
    refine r_get C dX8_isValue_91 kX8_isValue_1 0 mg_0 rfl 3 (by decide) kX8_isValue_0 mv_0_3 ?_
    refine r_iload_n C dX8_isValue_94 rfl 1 rfl ?_
    refine r_iconst (v := (0 : Int32)) C dX8_isValue_95 (by decide) ?_
    refine r_iadd C dX8_isValue_96 ?_
    obtain ⟨h4, hf⟩ := chk_e hf
    refine r_iald (j := (a1 + (0 : Int32)).toNatClampNeg) C dX8_isValue_97 1 mg_1 (inb_e h4) rfl ?_
    refine r_iconst (v := (1 : Int32)) C dX8_isValue_98 (by decide) ?_
    refine r_iadd C dX8_isValue_99 ?_
    refine r_sipush (v := (1000 : Int32)) C dX8_isValue_100 (by decide) ?_
    obtain ⟨r6, hq5, hf⟩ := bo1_e hf
    refine r_callS (o := some (.int r6)) (w' := (wM g I J)) (As := [.int a3, .int ((I 1 (a1 + (0 : Int32)).toNatClampNeg) + (1 : Int32)), .int (1000 : Int32)]) (rest := []) C (c_X8_in hq5) dX8_isValue_103 gX8_isValue_X8_in rfl rfl rfl hd_X8_in ⟨by decide, by decide⟩ rfl rfl (Nat.le_of_ble_eq_true rfl) ?_
    obtain ⟨hb, hf⟩ := chk_e hf
    exact hr _ _ _ dX8_isValue_106 (isB_e hb) hf
  have hf := itn hf q1_1
  by_cases q1_2 : a2 = (2 : Int32)
  · have hf := itp hf q1_2
    refine r_tabIn (tgt := 107) C dX8_isValue_1 (by rw [q1_2]; decide) (by rw [q1_2]; decide) (by rw [q1_2]; rfl) (by decide) ?_
    refine r_iload_n C dX8_isValue_107 rfl 3 rfl ?_
    refine r_bipush (v := (20 : Int32)) C dX8_isValue_108 (by decide) ?_
    refine r_sipush (v := (900 : Int32)) C dX8_isValue_110 (by decide) ?_
    obtain ⟨r8, hq7, hf⟩ := bo1_e hf
    refine r_callS (o := some (.int r8)) (w' := (wM g I J)) (As := [.int a3, .int (20 : Int32), .int (900 : Int32)]) (rest := []) C (c_X8_in hq7) dX8_isValue_113 gX8_isValue_X8_in rfl rfl rfl hd_X8_in ⟨by decide, by decide⟩ rfl rfl (Nat.le_of_ble_eq_true rfl) ?_
    obtain ⟨hb, hf⟩ := chk_e hf
    exact hr _ _ _ dX8_isValue_116 (isB_e hb) hf
  have hf := itn hf q1_2
  by_cases q1_3 : a2 = (3 : Int32)
  · have hf := itp hf q1_3
    refine r_tabIn (tgt := 117) C dX8_isValue_1 (by rw [q1_3]; decide) (by rw [q1_3]; decide) (by rw [q1_3]; rfl) (by decide) ?_
    refine r_iload_n C dX8_isValue_117 rfl 3 rfl ?_
    refine r_iconst (v := (1 : Int32)) C dX8_isValue_118 (by decide) ?_
    refine r_bipush (v := (9 : Int32)) C dX8_isValue_119 (by decide) ?_
    obtain ⟨r10, hq9, hf⟩ := bo1_e hf
    refine r_callS (o := some (.int r10)) (w' := (wM g I J)) (As := [.int a3, .int (1 : Int32), .int (9 : Int32)]) (rest := []) C (c_X8_in hq9) dX8_isValue_121 gX8_isValue_X8_in rfl rfl rfl hd_X8_in ⟨by decide, by decide⟩ rfl rfl (Nat.le_of_ble_eq_true rfl) ?_
    obtain ⟨hb, hf⟩ := chk_e hf
    exact hr _ _ _ dX8_isValue_124 (isB_e hb) hf
  have hf := itn hf q1_3
  by_cases q1_4 : a2 = (4 : Int32)
  · have hf := itp hf q1_4
    refine r_tabIn (tgt := 125) C dX8_isValue_1 (by rw [q1_4]; decide) (by rw [q1_4]; decide) (by rw [q1_4]; rfl) (by decide) ?_
    refine r_iload_n C dX8_isValue_125 rfl 3 rfl ?_
    refine r_iconst (v := (5 : Int32)) C dX8_isValue_126 (by decide) ?_
    refine r_sipush (v := (400 : Int32)) C dX8_isValue_127 (by decide) ?_
    obtain ⟨r12, hq11, hf⟩ := bo1_e hf
    refine r_callS (o := some (.int r12)) (w' := (wM g I J)) (As := [.int a3, .int (5 : Int32), .int (400 : Int32)]) (rest := []) C (c_X8_in hq11) dX8_isValue_130 gX8_isValue_X8_in rfl rfl rfl hd_X8_in ⟨by decide, by decide⟩ rfl rfl (Nat.le_of_ble_eq_true rfl) ?_
    obtain ⟨hb, hf⟩ := chk_e hf
    exact hr _ _ _ dX8_isValue_133 (isB_e hb) hf
  have hf := itn hf q1_4
  by_cases q1_5 : a2 = (5 : Int32)
  · have hf := itp hf q1_5
    refine r_tabIn (tgt := 134) C dX8_isValue_1 (by rw [q1_5]; decide) (by rw [q1_5]; decide) (by rw [q1_5]; rfl) (by decide) ?_
    refine r_iload_n C dX8_isValue_134 rfl 3 rfl ?_
    refine r_iconst (v := (1 : Int32)) C dX8_isValue_135 (by decide) ?_
    refine r_bipush (v := (9 : Int32)) C dX8_isValue_136 (by decide) ?_
    obtain ⟨r14, hq13, hf⟩ := bo1_e hf
    refine r_callS (o := some (.int r14)) (w' := (wM g I J)) (As := [.int a3, .int (1 : Int32), .int (9 : Int32)]) (rest := []) C (c_X8_in hq13) dX8_isValue_138 gX8_isValue_X8_in rfl rfl rfl hd_X8_in ⟨by decide, by decide⟩ rfl rfl (Nat.le_of_ble_eq_true rfl) ?_
    obtain ⟨hb, hf⟩ := chk_e hf
    exact hr _ _ _ dX8_isValue_141 (isB_e hb) hf
  have hf := itn hf q1_5
  by_cases q1_6 : a2 = (6 : Int32)
  · have hf := itp hf q1_6
    refine r_tabIn (tgt := 142) C dX8_isValue_1 (by rw [q1_6]; decide) (by rw [q1_6]; decide) (by rw [q1_6]; rfl) (by decide) ?_
    refine r_iload_n C dX8_isValue_142 rfl 3 rfl ?_
    refine r_iconst (v := (0 : Int32)) C dX8_isValue_143 (by decide) ?_
    refine r_bipush (v := (100 : Int32)) C dX8_isValue_144 (by decide) ?_
    obtain ⟨r16, hq15, hf⟩ := bo1_e hf
    refine r_callS (o := some (.int r16)) (w' := (wM g I J)) (As := [.int a3, .int (0 : Int32), .int (100 : Int32)]) (rest := []) C (c_X8_in hq15) dX8_isValue_146 gX8_isValue_X8_in rfl rfl rfl hd_X8_in ⟨by decide, by decide⟩ rfl rfl (Nat.le_of_ble_eq_true rfl) ?_
    obtain ⟨hb, hf⟩ := chk_e hf
    exact hr _ _ _ dX8_isValue_149 (isB_e hb) hf
  have hf := itn hf q1_6
  by_cases q1_7 : a2 = (7 : Int32)
  · have hf := itp hf q1_7
    refine r_tabIn (tgt := 150) C dX8_isValue_1 (by rw [q1_7]; decide) (by rw [q1_7]; decide) (by rw [q1_7]; rfl) (by decide) ?_
    refine r_iload_n C dX8_isValue_150 rfl 3 rfl ?_
    refine r_iconst (v := (0 : Int32)) C dX8_isValue_151 (by decide) ?_
    refine r_iconst (v := (3 : Int32)) C dX8_isValue_152 (by decide) ?_
    obtain ⟨r18, hq17, hf⟩ := bo1_e hf
    refine r_callS (o := some (.int r18)) (w' := (wM g I J)) (As := [.int a3, .int (0 : Int32), .int (3 : Int32)]) (rest := []) C (c_X8_in hq17) dX8_isValue_153 gX8_isValue_X8_in rfl rfl rfl hd_X8_in ⟨by decide, by decide⟩ rfl rfl (Nat.le_of_ble_eq_true rfl) ?_
    obtain ⟨hb, hf⟩ := chk_e hf
    exact hr _ _ _ dX8_isValue_156 (isB_e hb) hf
  have hf := itn hf q1_7
  by_cases q1_8 : a2 = (8 : Int32)
  · have hf := itp hf q1_8
    refine r_tabIn (tgt := 150) C dX8_isValue_1 (by rw [q1_8]; decide) (by rw [q1_8]; decide) (by rw [q1_8]; rfl) (by decide) ?_
    refine r_iload_n C dX8_isValue_150 rfl 3 rfl ?_
    refine r_iconst (v := (0 : Int32)) C dX8_isValue_151 (by decide) ?_
    refine r_iconst (v := (3 : Int32)) C dX8_isValue_152 (by decide) ?_
    obtain ⟨r20, hq19, hf⟩ := bo1_e hf
    refine r_callS (o := some (.int r20)) (w' := (wM g I J)) (As := [.int a3, .int (0 : Int32), .int (3 : Int32)]) (rest := []) C (c_X8_in hq19) dX8_isValue_153 gX8_isValue_X8_in rfl rfl rfl hd_X8_in ⟨by decide, by decide⟩ rfl rfl (Nat.le_of_ble_eq_true rfl) ?_
    obtain ⟨hb, hf⟩ := chk_e hf
    exact hr _ _ _ dX8_isValue_156 (isB_e hb) hf
  have hf := itn hf q1_8
  by_cases q1_9 : a2 = (9 : Int32)
  · have hf := itp hf q1_9
    refine r_tabIn (tgt := 150) C dX8_isValue_1 (by rw [q1_9]; decide) (by rw [q1_9]; decide) (by rw [q1_9]; rfl) (by decide) ?_
    refine r_iload_n C dX8_isValue_150 rfl 3 rfl ?_
    refine r_iconst (v := (0 : Int32)) C dX8_isValue_151 (by decide) ?_
    refine r_iconst (v := (3 : Int32)) C dX8_isValue_152 (by decide) ?_
    obtain ⟨r22, hq21, hf⟩ := bo1_e hf
    refine r_callS (o := some (.int r22)) (w' := (wM g I J)) (As := [.int a3, .int (0 : Int32), .int (3 : Int32)]) (rest := []) C (c_X8_in hq21) dX8_isValue_153 gX8_isValue_X8_in rfl rfl rfl hd_X8_in ⟨by decide, by decide⟩ rfl rfl (Nat.le_of_ble_eq_true rfl) ?_
    obtain ⟨hb, hf⟩ := chk_e hf
    exact hr _ _ _ dX8_isValue_156 (isB_e hb) hf
  have hf := itn hf q1_9
  by_cases q1_10 : a2 = (10 : Int32)
  · have hf := itp hf q1_10
    refine r_tabIn (tgt := 157) C dX8_isValue_1 (by rw [q1_10]; decide) (by rw [q1_10]; decide) (by rw [q1_10]; rfl) (by decide) ?_
    refine r_iload_n C dX8_isValue_157 rfl 3 rfl ?_
    refine r_iconst (v := (0 : Int32)) C dX8_isValue_158 (by decide) ?_
    refine r_iconst (v := (2 : Int32)) C dX8_isValue_159 (by decide) ?_
    obtain ⟨r24, hq23, hf⟩ := bo1_e hf
    refine r_callS (o := some (.int r24)) (w' := (wM g I J)) (As := [.int a3, .int (0 : Int32), .int (2 : Int32)]) (rest := []) C (c_X8_in hq23) dX8_isValue_160 gX8_isValue_X8_in rfl rfl rfl hd_X8_in ⟨by decide, by decide⟩ rfl rfl (Nat.le_of_ble_eq_true rfl) ?_
    obtain ⟨hb, hf⟩ := chk_e hf
    exact hr _ _ _ dX8_isValue_163 (isB_e hb) hf
  have hf := itn hf q1_10
  refine r_tabOut (tgt := 164) C dX8_isValue_1 (by have a0 := lv_neT q1_0 (a := 0) (by decide); have a1 := lv_neT q1_1 (a := 1) (by decide); have a2 := lv_neT q1_2 (a := 2) (by decide); have a3 := lv_neT q1_3 (a := 3) (by decide); have a4 := lv_neT q1_4 (a := 4) (by decide); have a5 := lv_neT q1_5 (a := 5) (by decide); have a6 := lv_neT q1_6 (a := 6) (by decide); have a7 := lv_neT q1_7 (a := 7) (by decide); have a8 := lv_neT q1_8 (a := 8) (by decide); have a9 := lv_neT q1_9 (a := 9) (by decide); have a10 := lv_neT q1_10 (a := 10) (by decide); omega) (by decide) ?_
  refine r_iload_n C dX8_isValue_164 rfl 3 rfl ?_
  refine r_iconst (v := (0 : Int32)) C dX8_isValue_165 (by decide) ?_
  refine r_iconst (v := (1 : Int32)) C dX8_isValue_166 (by decide) ?_
  obtain ⟨r26, hq25, hf⟩ := bo1_e hf
  refine r_callS (o := some (.int r26)) (w' := (wM g I J)) (As := [.int a3, .int (0 : Int32), .int (1 : Int32)]) (rest := []) C (c_X8_in hq25) dX8_isValue_167 gX8_isValue_X8_in rfl rfl rfl hd_X8_in ⟨by decide, by decide⟩ rfl rfl (Nat.le_of_ble_eq_true rfl) ?_
  obtain ⟨hb, hf⟩ := chk_e hf
  exact hr _ _ _ dX8_isValue_170 (isB_e hb) hf
abbrev rmX8_set : Room := { frames := 2, cells := 0, slots := 0, locals := 45 }
theorem hd_X8_set : yX8_set.cls = RX8 ∧ yX8_set.cls ≠ "java/lang/invoke/MethodHandle" ∧ yX8_set.cls ≠ "java/lang/invoke/VarHandle" ∧ (parseMethodDescriptor yX8_set.desc).map (fun d => d.parameters.length) = some 3 := by decide +kernel
theorem kX8_set_0 : Cond.fieldLink RX8 64 (TX8 0).1 (TX8 0).2.1 (TX8 0).2.2.1 ∈ wsX8_set := by decide +kernel
theorem kX8_set_1 : ∀ w ∈ u_ws RX8 TX8 38, w ∈ wsX8_set := by decide +kernel
theorem kX8_set_2 : Cond.fieldLink RX8 7 (TX8 3).1 (TX8 3).2.1 (TX8 3).2.2.1 ∈ wsX8_set := by decide +kernel
set_option maxRecDepth 100000 in
set_option maxHeartbeats 4000000 in
theorem c_X8_set {l : Launch} {D : va_G} {g : GG} {I : MI} {J : MJ} {a1 : Int32} {a2 : Int32} {a3 : Int32} {r : Int32} {I' : MI} {J' : MJ} (hf : f_X8_set I J a1 a2 a3 = some (r, I', J')) : CON l yX8_set wsX8_set rmX8_set D g (wM g I J) [.ref (g.1 0), .int a1, .int a2, .int a3] (some (.int r)) (wM g I' J') := by
  refine con_of (cc := cX8_set) (maxL := 5) (ret := (some .int)) (by decide) rfl (Nat.le_of_ble_eq_true rfl) rfl rfl ?_
  intro k C hkl hkD h1 h2 h3
  subst hkl; subst hkD
  have hr : RTW k wM g cX8_set .int (r, I', J') := rtw_of h2
  unfold f_X8_set at hf
  refine V.loc (lv' := [(0, .ref (g.1 0)), (1, .int a1), (2, .int a2), (3, .int a3)]) [0, 1, 2, 3] rfl ?_
  refine r_aload_n C dX8_set_0 rfl 0 rfl ?_
  refine r_iconst (v := (0 : Int32)) C dX8_set_1 (by decide) ?_
  refine r_put (ty := .int) C dX8_set_2 kX8_set_1 tyX8 tyX8_ok nmX8 0 mg_0 rfl 0 (by decide) kX8_set_0 rfl rfl rfl rfl (Nat.le_of_ble_eq_true rfl) ms_0_0 ?_
  refine nmIM (fun I1 eI1 => ?_)
  have hf := bnd_e hf I1 eI1
  refine r_aload_n C dX8_set_5 rfl 0 rfl ?_
  refine r_iload_n C dX8_set_6 rfl 1 rfl ?_
  obtain ⟨r3, hq2, hf⟩ := bo1_e hf
  refine r_callV (o := some (.int r3)) (w' := (wM g I1 J)) (As := [.int a1]) (rest := []) C (c_X8_isRam hq2) dX8_set_7 gX8_set_X8_isRam rfl rfl rfl hd_X8_isRam ⟨by decide, by decide⟩ 0 mg_0 rfl rfl rfl rfl (Nat.le_of_ble_eq_true rfl) ?_
  refine r_if_eq (tgt := 36) C dX8_set_10 (by decide) (fun q10 => ?_) (fun q10 => ?_)
  · have hf := itp hf q10
    refine r_iconst (v := (-1 : Int32)) C dX8_set_36 (by decide) ?_
    exact hr _ _ _ _ _ dX8_set_37 rfl hf
  · have hf := itn hf q10
    refine r_iload_n C dX8_set_13 rfl 2 rfl ?_
    refine r_iconst (v := (0 : Int32)) C dX8_set_14 (by decide) ?_
    refine r_bipush (v := (12 : Int32)) C dX8_set_15 (by decide) ?_
    obtain ⟨r5, hq4, hf⟩ := bo1_e hf
    refine r_callS (o := some (.int r5)) (w' := (wM g I1 J)) (As := [.int a2, .int (0 : Int32), .int (12 : Int32)]) (rest := []) C (c_X8_in hq4) dX8_set_17 gX8_set_X8_in rfl rfl rfl hd_X8_in ⟨by decide, by decide⟩ rfl rfl (Nat.le_of_ble_eq_true rfl) ?_
    refine r_if_eq (tgt := 36) C dX8_set_20 (by decide) (fun q20 => ?_) (fun q20 => ?_)
    · have hf := itp hf q20
      refine r_iconst (v := (-1 : Int32)) C dX8_set_36 (by decide) ?_
      exact hr _ _ _ _ _ dX8_set_37 rfl hf
    · have hf := itn hf q20
      refine r_aload_n C dX8_set_23 rfl 0 rfl ?_
      refine r_bipush (v := (13 : Int32)) C dX8_set_24 (by decide) ?_
      refine r_iload_n C dX8_set_26 rfl 1 rfl ?_
      refine r_imul C dX8_set_27 ?_
      refine r_iload_n C dX8_set_28 rfl 2 rfl ?_
      refine r_iload_n C dX8_set_29 rfl 3 rfl ?_
      obtain ⟨r7, hq6, hf⟩ := bo1_e hf
      refine r_callV (o := some (.int r7)) (w' := (wM g I1 J)) (As := [.int ((13 : Int32) * a1), .int a2, .int a3]) (rest := []) C (c_X8_isValue hq6) dX8_set_30 gX8_set_X8_isValue rfl rfl rfl hd_X8_isValue ⟨by decide, by decide⟩ 0 mg_0 rfl rfl rfl rfl (Nat.le_of_ble_eq_true rfl) ?_
      refine r_if_ne (tgt := 38) C dX8_set_33 (by decide) (fun q33 => ?_) (fun q33 => ?_)
      · have hf := itn hf q33
        refine r_aload_n C dX8_set_38 rfl 0 rfl ?_
        refine r_get C dX8_set_39 kX8_set_1 0 mg_0 rfl 3 (by decide) kX8_set_2 mv_0_3 ?_
        refine r_bipush (v := (13 : Int32)) C dX8_set_42 (by decide) ?_
        refine r_iload_n C dX8_set_44 rfl 1 rfl ?_
        refine r_imul C dX8_set_45 ?_
        refine r_iload_n C dX8_set_46 rfl 2 rfl ?_
        refine r_iadd C dX8_set_47 ?_
        obtain ⟨h8, hf⟩ := chk_e hf
        refine r_iald (j := (((13 : Int32) * a1) + a2).toNatClampNeg) C dX8_set_48 1 mg_1 (inb_e h8) rfl ?_
        refine r_nmi (fun v9 ev9 => ?_)
        have hf := bnd_e hf v9 ev9
        refine r_istore (lv' := [(0, .ref (g.1 0)), (1, .int a1), (2, .int a2), (3, .int a3), (4, .int v9)]) C dX8_set_49 (by decide) [1, 2, 3, 4, 0] rfl ?_
        refine r_aload_n C dX8_set_51 rfl 0 rfl ?_
        refine r_get C dX8_set_52 kX8_set_1 0 mg_0 rfl 3 (by decide) kX8_set_2 mv_0_3 ?_
        refine r_bipush (v := (13 : Int32)) C dX8_set_55 (by decide) ?_
        refine r_iload_n C dX8_set_57 rfl 1 rfl ?_
        refine r_imul C dX8_set_58 ?_
        refine r_iload_n C dX8_set_59 rfl 2 rfl ?_
        refine r_iadd C dX8_set_60 ?_
        refine r_iload_n C dX8_set_61 rfl 3 rfl ?_
        obtain ⟨h10, hf⟩ := chk_e hf
        refine r_iast (j := (((13 : Int32) * a1) + a2).toNatClampNeg) C dX8_set_62 1 mg_1 (inb_e h10) rfl ma_1 ?_
        refine nmIM (fun I11 eI11 => ?_)
        have hf := bnd_e hf I11 eI11
        refine r_iload C dX8_set_63 4 rfl ?_
        exact hr _ _ _ _ _ dX8_set_65 rfl hf
      · have hf := itp hf q33
        refine r_iconst (v := (-1 : Int32)) C dX8_set_36 (by decide) ?_
        exact hr _ _ _ _ _ dX8_set_37 rfl hf
abbrev rmX8_about : Room := { frames := 2, cells := 0, slots := 0, locals := 43 }
theorem hd_X8_about : yX8_about.cls = RX8 ∧ yX8_about.cls ≠ "java/lang/invoke/MethodHandle" ∧ yX8_about.cls ≠ "java/lang/invoke/VarHandle" ∧ (parseMethodDescriptor yX8_about.desc).map (fun d => d.parameters.length) = some 2 := by decide +kernel
theorem kX8_about_0 : Cond.fieldLink RX8 64 (TX8 0).1 (TX8 0).2.1 (TX8 0).2.2.1 ∈ wsX8_about := by decide +kernel
theorem kX8_about_1 : ∀ w ∈ u_ws RX8 TX8 38, w ∈ wsX8_about := by decide +kernel
theorem kX8_about_2 : Cond.fieldLink RX8 7 (TX8 3).1 (TX8 3).2.1 (TX8 3).2.2.1 ∈ wsX8_about := by decide +kernel
set_option maxRecDepth 100000 in
set_option maxHeartbeats 4000000 in
theorem c_X8_about {l : Launch} {D : va_G} {g : GG} {I : MI} {J : MJ} {a1 : Int32} {a2 : Int32} {r : Int32} {I' : MI} {J' : MJ} (hf : f_X8_about I J a1 a2 = some (r, I', J')) : CON l yX8_about wsX8_about rmX8_about D g (wM g I J) [.ref (g.1 0), .int a1, .int a2] (some (.int r)) (wM g I' J') := by
  refine con_of (cc := cX8_about) (maxL := 3) (ret := (some .int)) (by decide) rfl (Nat.le_of_ble_eq_true rfl) rfl rfl ?_
  intro k C hkl hkD h1 h2 h3
  subst hkl; subst hkD
  have hr : RTW k wM g cX8_about .int (r, I', J') := rtw_of h2
  unfold f_X8_about at hf
  refine V.loc (lv' := [(0, .ref (g.1 0)), (1, .int a1), (2, .int a2)]) [0, 1, 2] rfl ?_
  refine r_aload_n C dX8_about_0 rfl 0 rfl ?_
  refine r_iconst (v := (0 : Int32)) C dX8_about_1 (by decide) ?_
  refine r_put (ty := .int) C dX8_about_2 kX8_about_1 tyX8 tyX8_ok nmX8 0 mg_0 rfl 0 (by decide) kX8_about_0 rfl rfl rfl rfl (Nat.le_of_ble_eq_true rfl) ms_0_0 ?_
  refine nmIM (fun I1 eI1 => ?_)
  have hf := bnd_e hf I1 eI1
  refine r_aload_n C dX8_about_5 rfl 0 rfl ?_
  refine r_iload_n C dX8_about_6 rfl 1 rfl ?_
  obtain ⟨r3, hq2, hf⟩ := bo1_e hf
  refine r_callV (o := some (.int r3)) (w' := (wM g I1 J)) (As := [.int a1]) (rest := []) C (c_X8_isRam hq2) dX8_about_7 gX8_about_X8_isRam rfl rfl rfl hd_X8_isRam ⟨by decide, by decide⟩ 0 mg_0 rfl rfl rfl rfl (Nat.le_of_ble_eq_true rfl) ?_
  refine r_if_eq (tgt := 37) C dX8_about_10 (by decide) (fun q10 => ?_) (fun q10 => ?_)
  · have hf := itp hf q10
    refine r_iconst (v := (-1 : Int32)) C dX8_about_37 (by decide) ?_
    exact hr _ _ _ _ _ dX8_about_38 rfl hf
  · have hf := itn hf q10
    refine r_iload_n C dX8_about_13 rfl 2 rfl ?_
    refine r_iconst (v := (0 : Int32)) C dX8_about_14 (by decide) ?_
    refine r_bipush (v := (12 : Int32)) C dX8_about_15 (by decide) ?_
    obtain ⟨r5, hq4, hf⟩ := bo1_e hf
    refine r_callS (o := some (.int r5)) (w' := (wM g I1 J)) (As := [.int a2, .int (0 : Int32), .int (12 : Int32)]) (rest := []) C (c_X8_in hq4) dX8_about_17 gX8_about_X8_in rfl rfl rfl hd_X8_in ⟨by decide, by decide⟩ rfl rfl (Nat.le_of_ble_eq_true rfl) ?_
    refine r_if_eq (tgt := 37) C dX8_about_20 (by decide) (fun q20 => ?_) (fun q20 => ?_)
    · have hf := itp hf q20
      refine r_iconst (v := (-1 : Int32)) C dX8_about_37 (by decide) ?_
      exact hr _ _ _ _ _ dX8_about_38 rfl hf
    · have hf := itn hf q20
      refine r_aload_n C dX8_about_23 rfl 0 rfl ?_
      refine r_get C dX8_about_24 kX8_about_1 0 mg_0 rfl 3 (by decide) kX8_about_2 mv_0_3 ?_
      refine r_bipush (v := (13 : Int32)) C dX8_about_27 (by decide) ?_
      refine r_iload_n C dX8_about_29 rfl 1 rfl ?_
      refine r_imul C dX8_about_30 ?_
      refine r_iload_n C dX8_about_31 rfl 2 rfl ?_
      refine r_iadd C dX8_about_32 ?_
      obtain ⟨h6, hf⟩ := chk_e hf
      refine r_iald (j := (((13 : Int32) * a1) + a2).toNatClampNeg) C dX8_about_33 1 mg_1 (inb_e h6) rfl ?_
      refine r_goto (tgt := 38) C dX8_about_34 (by decide) ?_
      exact hr _ _ _ _ _ dX8_about_38 rfl hf
abbrev rmX8_takes : Room := { frames := 0, cells := 0, slots := 0, locals := 0 }
theorem hd_X8_takes : yX8_takes.cls = RX8 ∧ yX8_takes.cls ≠ "java/lang/invoke/MethodHandle" ∧ yX8_takes.cls ≠ "java/lang/invoke/VarHandle" ∧ (parseMethodDescriptor yX8_takes.desc).map (fun d => d.parameters.length) = some 1 := by decide +kernel
theorem kX8_takes_0 : Cond.fieldLink RX8 13 (TX8 4).1 (TX8 4).2.1 (TX8 4).2.2.1 ∈ wsX8_takes := by decide +kernel
theorem kX8_takes_1 : ∀ w ∈ u_ws RX8 TX8 38, w ∈ wsX8_takes := by decide +kernel
theorem kX8_takes_2 : Cond.fieldLink RX8 7 (TX8 3).1 (TX8 3).2.1 (TX8 3).2.2.1 ∈ wsX8_takes := by decide +kernel
set_option maxRecDepth 100000 in
set_option maxHeartbeats 4000000 in
theorem mB_X8_takes_2 {k : CT} {g : GG} (C : CX k cX8_takes 3 RX8 wsX8_takes rmX8_takes g) {ρ : (MI × MJ)} (hr : RTV k wM g cX8_takes ρ) {kk2 : MI → MJ → Int32 → Int32 → Option (MI × MJ)} (hk2 : ∀ (I : MI) (J : MJ) (x1 : Int32) (x2 : Int32), kk2 I J x1 x2 = some ρ → V k (wM g I J) 2 [(0, .ref (g.1 0)), (1, .int x1), (2, .int x2)] []) : ∀ (I : MI) (J : MJ) (x1 : Int32) (x2 : Int32), LB_X8_takes_2 kk2 I J x1 x2 = some ρ → V k (wM g I J) 2 [(0, .ref (g.1 0)), (1, .int x1), (2, .int x2)] [] := by
  intro I J x1 x2 hf
  unfold LB_X8_takes_2 at hf
  refine r_iload_n C dX8_takes_2 rfl 2 rfl ?_
  refine r_bipush (v := (13 : Int32)) C dX8_takes_3 (by decide) ?_
  refine r_icmp_ge (tgt := 31) C dX8_takes_5 (by decide) (fun q5 => ?_) (fun q5 => ?_)
  · have hf := itp hf q5
    exact hr _ _ _ _ dX8_takes_31 hf
  · have hf := itn hf q5
    refine r_aload_n C dX8_takes_8 rfl 0 rfl ?_
    refine r_get C dX8_takes_9 kX8_takes_1 0 mg_0 rfl 4 (by decide) kX8_takes_0 mv_0_4 ?_
    refine r_iload_n C dX8_takes_12 rfl 2 rfl ?_
    refine r_aload_n C dX8_takes_13 rfl 0 rfl ?_
    refine r_get C dX8_takes_14 kX8_takes_1 0 mg_0 rfl 3 (by decide) kX8_takes_2 mv_0_3 ?_
    refine r_bipush (v := (13 : Int32)) C dX8_takes_17 (by decide) ?_
    refine r_iload_n C dX8_takes_19 rfl 1 rfl ?_
    refine r_imul C dX8_takes_20 ?_
    refine r_iload_n C dX8_takes_21 rfl 2 rfl ?_
    refine r_iadd C dX8_takes_22 ?_
    obtain ⟨h1, hf⟩ := chk_e hf
    refine r_iald (j := (((13 : Int32) * x1) + x2).toNatClampNeg) C dX8_takes_23 1 mg_1 (inb_e h1) rfl ?_
    obtain ⟨h2, hf⟩ := chk_e hf
    refine r_iast (j := x2.toNatClampNeg) C dX8_takes_24 2 mg_2 (inb_e h2) rfl ma_2 ?_
    refine nmIM (fun I3 eI3 => ?_)
    have hf := bnd_e hf I3 eI3
    obtain ⟨v4, ev4⟩ : ∃ z : Int32, z = x2 + (1 : Int32) := ⟨_, rfl⟩
    have hf := bnd_e hf v4 ev4
    refine r_iinc (v := v4) (lv' := [(0, .ref (g.1 0)), (1, .int x1), (2, .int v4)]) C dX8_takes_25 2 rfl (by rw [ev4]; rfl) (by decide) [1, 2, 0] rfl ?_
    refine r_goto (tgt := 2) C dX8_takes_28 (by decide) ?_
    exact hk2 _ _ _ _ hf
theorem mL_X8_takes_2 {k : CT} {g : GG} (C : CX k cX8_takes 3 RX8 wsX8_takes rmX8_takes g) {ρ : (MI × MJ)} (hr : RTV k wM g cX8_takes ρ) : ∀ (n : Nat) (I : MI) (J : MJ) (x1 : Int32) (x2 : Int32), LP_X8_takes_2 n I J x1 x2 = some ρ → V k (wM g I J) 2 [(0, .ref (g.1 0)), (1, .int x1), (2, .int x2)] [] := by
  intro n
  induction n with
  | zero => intro I J x1 x2 hf; cases hf
  | succ n ih => intro I J x1 x2 hf; exact mB_X8_takes_2 C hr (fun I J x1 x2 h => ih I J x1 x2 h) I J x1 x2 hf
set_option maxRecDepth 100000 in
set_option maxHeartbeats 4000000 in
theorem c_X8_takes {l : Launch} {D : va_G} {g : GG} {I : MI} {J : MJ} {a1 : Int32} {I' : MI} {J' : MJ} (hf : f_X8_takes I J a1 = some (I', J')) : CON l yX8_takes wsX8_takes rmX8_takes D g (wM g I J) [.ref (g.1 0), .int a1] none (wM g I' J') := by
  refine con_of (cc := cX8_takes) (maxL := 3) (ret := none) (by decide) rfl (Nat.le_of_ble_eq_true rfl) rfl rfl ?_
  intro k C hkl hkD h1 h2 h3
  subst hkl; subst hkD
  have hr : RTV k wM g cX8_takes (I', J') := rtv_of h1
  unfold f_X8_takes at hf
  refine V.loc (lv' := [(0, .ref (g.1 0)), (1, .int a1)]) [0, 1] rfl ?_
  refine r_iconst (v := (0 : Int32)) C dX8_takes_0 (by decide) ?_
  refine r_istore_n (lv' := [(0, .ref (g.1 0)), (1, .int a1), (2, .int (0 : Int32))]) C dX8_takes_1 rfl (by decide) [1, 2, 0] rfl ?_
  exact mL_X8_takes_2 C hr FU _ _ _ _ hf
abbrev rmX8_workOf : Room := { frames := 0, cells := 0, slots := 0, locals := 0 }
theorem hd_X8_workOf : yX8_workOf.cls = RX8 ∧ yX8_workOf.cls ≠ "java/lang/invoke/MethodHandle" ∧ yX8_workOf.cls ≠ "java/lang/invoke/VarHandle" ∧ (parseMethodDescriptor yX8_workOf.desc).map (fun d => d.parameters.length) = some 1 := by decide +kernel
theorem kX8_workOf_0 : Cond.fieldLink RX8 13 (TX8 4).1 (TX8 4).2.1 (TX8 4).2.2.1 ∈ wsX8_workOf := by decide +kernel
theorem kX8_workOf_1 : ∀ w ∈ u_ws RX8 TX8 38, w ∈ wsX8_workOf := by decide +kernel
set_option maxRecDepth 100000 in
set_option maxHeartbeats 4000000 in
theorem mB_X8_workOf_46 {k : CT} {g : GG} {I : MI} {J : MJ} (C : CX k cX8_workOf 3 RX8 wsX8_workOf rmX8_workOf g) {ρ : Int32} (hr : RRW k (wM g I J) cX8_workOf .int ρ) : ∀ (x1 : Int32) (x2 : Int32), LB_X8_workOf_46 I J x1 x2 = some ρ → V k (wM g I J) 46 [(0, .ref (g.1 0)), (1, .int x1), (2, .int x2)] [] := by
  intro x1 x2 hf
  unfold LB_X8_workOf_46 at hf
  refine r_iload_n C dX8_workOf_46 rfl 1 rfl ?_
  refine r_iconst (v := (1 : Int32)) C dX8_workOf_47 (by decide) ?_
  refine r_icmp_le (tgt := 83) C dX8_workOf_48 (by decide) (fun q48 => ?_) (fun q48 => ?_)
  · have hf := itp hf q48
    refine r_iload_n C dX8_workOf_83 rfl 2 rfl ?_
    exact hr _ _ _ dX8_workOf_84 rfl hf
  · have hf := itn hf q48
    refine r_iload_n C dX8_workOf_51 rfl 2 rfl ?_
    refine r_iload_n C dX8_workOf_52 rfl 2 rfl ?_
    refine r_bipush (v := (10 : Int32)) C dX8_workOf_53 (by decide) ?_
    refine r_idiv C dX8_workOf_55 (by decide) ?_
    refine r_iadd C dX8_workOf_56 ?_
    refine r_nmi (fun v1 ev1 => ?_)
    have hf := bnd_e hf v1 ev1
    refine r_istore_n (lv' := [(0, .ref (g.1 0)), (1, .int x1), (2, .int v1)]) C dX8_workOf_57 rfl (by decide) [1, 2, 0] rfl ?_
    refine r_iload_n C dX8_workOf_58 rfl 2 rfl ?_
    refine r_bipush (v := (85 : Int32)) C dX8_workOf_59 (by decide) ?_
    refine r_icmp_le (tgt := 69) C dX8_workOf_61 (by decide) (fun q61 => ?_) (fun q61 => ?_)
    · have hf := itp hf q61
      refine r_iload_n C dX8_workOf_69 rfl 2 rfl ?_
      refine r_istore_n (lv' := [(0, .ref (g.1 0)), (1, .int x1), (2, .int v1)]) C dX8_workOf_70 rfl (by decide) [1, 2, 0] rfl ?_
      refine r_iload_n C dX8_workOf_71 rfl 2 rfl ?_
      refine r_iconst (v := (2 : Int32)) C dX8_workOf_72 (by decide) ?_
      refine r_aload_n C dX8_workOf_73 rfl 0 rfl ?_
      refine r_get C dX8_workOf_74 kX8_workOf_1 0 mg_0 rfl 4 (by decide) kX8_workOf_0 mv_0_4 ?_
      refine r_bipush (v := (8 : Int32)) C dX8_workOf_77 (by decide) ?_
      refine r_iald (j := 8) C dX8_workOf_79 2 mg_2 (inb_e (by decide +kernel)) (by decide +kernel) ?_
      refine r_imul C dX8_workOf_80 ?_
      refine r_isub C dX8_workOf_81 ?_
      refine r_nmi (fun v2 ev2 => ?_)
      have hf := bnd_e hf v2 ev2
      refine r_istore_n (lv' := [(0, .ref (g.1 0)), (1, .int x1), (2, .int v2)]) C dX8_workOf_82 rfl (by decide) [1, 2, 0] rfl ?_
      refine r_iload_n C dX8_workOf_83 rfl 2 rfl ?_
      exact hr _ _ _ dX8_workOf_84 rfl hf
    · have hf := itn hf q61
      refine r_bipush (v := (85 : Int32)) C dX8_workOf_64 (by decide) ?_
      refine r_goto (tgt := 70) C dX8_workOf_66 (by decide) ?_
      refine r_istore_n (lv' := [(0, .ref (g.1 0)), (1, .int x1), (2, .int (85 : Int32))]) C dX8_workOf_70 rfl (by decide) [1, 2, 0] rfl ?_
      refine r_iload_n C dX8_workOf_71 rfl 2 rfl ?_
      refine r_iconst (v := (2 : Int32)) C dX8_workOf_72 (by decide) ?_
      refine r_aload_n C dX8_workOf_73 rfl 0 rfl ?_
      refine r_get C dX8_workOf_74 kX8_workOf_1 0 mg_0 rfl 4 (by decide) kX8_workOf_0 mv_0_4 ?_
      refine r_bipush (v := (8 : Int32)) C dX8_workOf_77 (by decide) ?_
      refine r_iald (j := 8) C dX8_workOf_79 2 mg_2 (inb_e (by decide +kernel)) (by decide +kernel) ?_
      refine r_imul C dX8_workOf_80 ?_
      refine r_isub C dX8_workOf_81 ?_
      refine r_nmi (fun v3 ev3 => ?_)
      have hf := bnd_e hf v3 ev3
      refine r_istore_n (lv' := [(0, .ref (g.1 0)), (1, .int x1), (2, .int v3)]) C dX8_workOf_82 rfl (by decide) [1, 2, 0] rfl ?_
      refine r_iload_n C dX8_workOf_83 rfl 2 rfl ?_
      exact hr _ _ _ dX8_workOf_84 rfl hf
set_option maxRecDepth 100000 in
set_option maxHeartbeats 4000000 in
theorem mB_X8_workOf_45 {k : CT} {g : GG} {I : MI} {J : MJ} (C : CX k cX8_workOf 3 RX8 wsX8_workOf rmX8_workOf g) {ρ : Int32} (hr : RRW k (wM g I J) cX8_workOf .int ρ) : ∀ (x1 : Int32) (s0 : Int32), LB_X8_workOf_45 I J x1 s0 = some ρ → V k (wM g I J) 45 [(0, .ref (g.1 0)), (1, .int x1)] [.int s0] := by
  intro x1 s0 hf
  unfold LB_X8_workOf_45 at hf
  refine r_istore_n (lv' := [(0, .ref (g.1 0)), (1, .int x1), (2, .int s0)]) C dX8_workOf_45 rfl (by decide) [1, 2, 0] rfl ?_
  exact mB_X8_workOf_46 C hr _ _ hf
set_option maxRecDepth 100000 in
set_option maxHeartbeats 4000000 in
theorem c_X8_workOf {l : Launch} {D : va_G} {g : GG} {I : MI} {J : MJ} {a1 : Int32} {r : Int32} (hf : f_X8_workOf I J a1 = some r) : CON l yX8_workOf wsX8_workOf rmX8_workOf D g (wM g I J) [.ref (g.1 0), .int a1] (some (.int r)) (wM g I J) := by
  refine con_of (cc := cX8_workOf) (maxL := 3) (ret := (some .int)) (by decide) rfl (Nat.le_of_ble_eq_true rfl) rfl rfl ?_
  intro k C hkl hkD h1 h2 h3
  subst hkl; subst hkD
  have hr : RRW k (wM g I J) cX8_workOf .int r := rrw_of h2
  unfold f_X8_workOf at hf
  refine V.loc (lv' := [(0, .ref (g.1 0)), (1, .int a1)]) [0, 1] rfl ?_
  refine r_bipush (v := (40 : Int32)) C dX8_workOf_0 (by decide) ?_
  refine r_aload_n C dX8_workOf_2 rfl 0 rfl ?_
  refine r_get C dX8_workOf_3 kX8_workOf_1 0 mg_0 rfl 4 (by decide) kX8_workOf_0 mv_0_4 ?_
  refine r_bipush (v := (6 : Int32)) C dX8_workOf_6 (by decide) ?_
  refine r_iald (j := 6) C dX8_workOf_8 2 mg_2 (inb_e (by decide +kernel)) (by decide +kernel) ?_
  refine r_iconst (v := (4 : Int32)) C dX8_workOf_9 (by decide) ?_
  refine r_idiv C dX8_workOf_10 (by decide) ?_
  refine r_iadd C dX8_workOf_11 ?_
  refine r_iconst (v := (3 : Int32)) C dX8_workOf_12 (by decide) ?_
  refine r_aload_n C dX8_workOf_13 rfl 0 rfl ?_
  refine r_get C dX8_workOf_14 kX8_workOf_1 0 mg_0 rfl 4 (by decide) kX8_workOf_0 mv_0_4 ?_
  refine r_bipush (v := (7 : Int32)) C dX8_workOf_17 (by decide) ?_
  refine r_iald (j := 7) C dX8_workOf_19 2 mg_2 (inb_e (by decide +kernel)) (by decide +kernel) ?_
  refine r_imul C dX8_workOf_20 ?_
  refine r_isub C dX8_workOf_21 ?_
  refine r_nmi (fun v1 ev1 => ?_)
  have hf := bnd_e hf v1 ev1
  refine r_istore_n (lv' := [(0, .ref (g.1 0)), (1, .int a1), (2, .int v1)]) C dX8_workOf_22 rfl (by decide) [1, 2, 0] rfl ?_
  refine r_iload_n C dX8_workOf_23 rfl 1 rfl ?_
  refine r_if_le (tgt := 46) C dX8_workOf_24 (by decide) (fun q24 => ?_) (fun q24 => ?_)
  · have hf := itp hf q24
    exact mB_X8_workOf_46 C hr _ _ hf
  · have hf := itn hf q24
    refine r_iload_n C dX8_workOf_27 rfl 2 rfl ?_
    refine r_bipush (v := (8 : Int32)) C dX8_workOf_28 (by decide) ?_
    refine r_iadd C dX8_workOf_30 ?_
    refine r_bipush (v := (80 : Int32)) C dX8_workOf_31 (by decide) ?_
    refine r_icmp_le (tgt := 41) C dX8_workOf_33 (by decide) (fun q33 => ?_) (fun q33 => ?_)
    · have hf := itp hf q33
      refine r_iload_n C dX8_workOf_41 rfl 2 rfl ?_
      refine r_bipush (v := (8 : Int32)) C dX8_workOf_42 (by decide) ?_
      refine r_iadd C dX8_workOf_44 ?_
      refine V.loc [0, 1] rfl ?_
      exact mB_X8_workOf_45 C hr _ _ hf
    · have hf := itn hf q33
      refine r_bipush (v := (80 : Int32)) C dX8_workOf_36 (by decide) ?_
      refine r_goto (tgt := 45) C dX8_workOf_38 (by decide) ?_
      refine V.loc [0, 1] rfl ?_
      exact mB_X8_workOf_45 C hr _ _ hf
abbrev rmX8_work : Room := { frames := 2, cells := 0, slots := 0, locals := 43 }
theorem hd_X8_work : yX8_work.cls = RX8 ∧ yX8_work.cls ≠ "java/lang/invoke/MethodHandle" ∧ yX8_work.cls ≠ "java/lang/invoke/VarHandle" ∧ (parseMethodDescriptor yX8_work.desc).map (fun d => d.parameters.length) = some 2 := by decide +kernel
theorem kX8_work_0 : Cond.fieldLink RX8 64 (TX8 0).1 (TX8 0).2.1 (TX8 0).2.2.1 ∈ wsX8_work := by decide +kernel
theorem kX8_work_1 : ∀ w ∈ u_ws RX8 TX8 38, w ∈ wsX8_work := by decide +kernel
theorem kX8_work_2 : Cond.fieldLink RX8 81 (TX8 1).1 (TX8 1).2.1 (TX8 1).2.2.1 ∈ wsX8_work := by decide +kernel
theorem kX8_work_3 : Jvm.Cond.constantLong RX8 87 (111) ∈ wsX8_work := by decide +kernel
theorem kX8_work_4 : Jvm.Cond.constantLong RX8 85 (11) ∈ wsX8_work := by decide +kernel
set_option maxRecDepth 100000 in
set_option maxHeartbeats 4000000 in
theorem c_X8_work {l : Launch} {D : va_G} {g : GG} {I : MI} {J : MJ} {a1 : Int32} {a2 : Int32} {r : Int32} {I' : MI} {J' : MJ} (hf : f_X8_work I J a1 a2 = some (r, I', J')) : CON l yX8_work wsX8_work rmX8_work D g (wM g I J) [.ref (g.1 0), .int a1, .int a2] (some (.int r)) (wM g I' J') := by
  refine con_of (cc := cX8_work) (maxL := 3) (ret := (some .int)) (by decide) rfl (Nat.le_of_ble_eq_true rfl) rfl rfl ?_
  intro k C hkl hkD h1 h2 h3
  subst hkl; subst hkD
  have hr : RTW k wM g cX8_work .int (r, I', J') := rtw_of h2
  unfold f_X8_work at hf
  refine V.loc (lv' := [(0, .ref (g.1 0)), (1, .int a1), (2, .int a2)]) [0, 1, 2] rfl ?_
  refine r_aload_n C dX8_work_0 rfl 0 rfl ?_
  refine r_iconst (v := (0 : Int32)) C dX8_work_1 (by decide) ?_
  refine r_put (ty := .int) C dX8_work_2 kX8_work_1 tyX8 tyX8_ok nmX8 0 mg_0 rfl 0 (by decide) kX8_work_0 rfl rfl rfl rfl (Nat.le_of_ble_eq_true rfl) ms_0_0 ?_
  refine nmIM (fun I1 eI1 => ?_)
  have hf := bnd_e hf I1 eI1
  refine r_iload_n C dX8_work_5 rfl 1 rfl ?_
  refine r_iconst (v := (0 : Int32)) C dX8_work_6 (by decide) ?_
  refine r_iconst (v := (2 : Int32)) C dX8_work_7 (by decide) ?_
  obtain ⟨r3, hq2, hf⟩ := bo1_e hf
  refine r_callS (o := some (.int r3)) (w' := (wM g I1 J)) (As := [.int a1, .int (0 : Int32), .int (2 : Int32)]) (rest := []) C (c_X8_in hq2) dX8_work_8 gX8_work_X8_in rfl rfl rfl hd_X8_in ⟨by decide, by decide⟩ rfl rfl (Nat.le_of_ble_eq_true rfl) ?_
  refine r_if_eq (tgt := 22) C dX8_work_11 (by decide) (fun q11 => ?_) (fun q11 => ?_)
  · have hf := itp hf q11
    refine r_iconst (v := (-1 : Int32)) C dX8_work_22 (by decide) ?_
    exact hr _ _ _ _ _ dX8_work_23 rfl hf
  · have hf := itn hf q11
    refine r_aload_n C dX8_work_14 rfl 0 rfl ?_
    refine r_iload_n C dX8_work_15 rfl 2 rfl ?_
    obtain ⟨r5, hq4, hf⟩ := bo1_e hf
    refine r_callV (o := some (.int r5)) (w' := (wM g I1 J)) (As := [.int a2]) (rest := []) C (c_X8_isRam hq4) dX8_work_16 gX8_work_X8_isRam rfl rfl rfl hd_X8_isRam ⟨by decide, by decide⟩ 0 mg_0 rfl rfl rfl rfl (Nat.le_of_ble_eq_true rfl) ?_
    refine r_if_ne (tgt := 24) C dX8_work_19 (by decide) (fun q19 => ?_) (fun q19 => ?_)
    · have hf := itn hf q19
      refine r_aload_n C dX8_work_24 rfl 0 rfl ?_
      refine r_dup C dX8_work_25 rfl ?_
      refine r_get C dX8_work_26 kX8_work_1 0 mg_0 rfl 1 (by decide) kX8_work_2 mv_0_1 ?_
      refine r_iload_n C dX8_work_29 rfl 1 rfl ?_
      refine r_if_ne (tgt := 37) C dX8_work_30 (by decide) (fun q30 => ?_) (fun q30 => ?_)
      · have hf := itn hf q30
        refine r_iload_n C dX8_work_37 rfl 1 rfl ?_
        refine r_iconst (v := (1 : Int32)) C dX8_work_38 (by decide) ?_
        refine r_icmp_ne (tgt := 48) C dX8_work_39 (by decide) (fun q39 => ?_) (fun q39 => ?_)
        · have hf := itn hf q39
          refine r_ldc2 (v := (111 : Int64)) C dX8_work_48 kX8_work_3 ?_
          refine r_ladd C dX8_work_51 ?_
          refine r_put (ty := .long) C dX8_work_52 kX8_work_1 tyX8 tyX8_ok nmX8 0 mg_0 rfl 1 (by decide) kX8_work_2 rfl rfl rfl rfl (Nat.le_of_ble_eq_true rfl) ms_0_1 ?_
          refine nmJM (fun J6 eJ6 => ?_)
          have hf := bnd_e hf J6 eJ6
          refine r_aload_n C dX8_work_55 rfl 0 rfl ?_
          refine r_iload_n C dX8_work_56 rfl 2 rfl ?_
          obtain ⟨I8, J9, hq7, hf⟩ := bo2_e hf
          refine r_callV (o := none) (w' := (wM g I8 J9)) (As := [.int a2]) (rest := []) C (c_X8_takes hq7) dX8_work_57 gX8_work_X8_takes rfl rfl rfl hd_X8_takes ⟨by decide, by decide⟩ 0 mg_0 rfl rfl rfl rfl (Nat.le_of_ble_eq_true rfl) ?_
          refine r_aload_n C dX8_work_60 rfl 0 rfl ?_
          refine r_iload_n C dX8_work_61 rfl 1 rfl ?_
          obtain ⟨r11, hq10, hf⟩ := bo1_e hf
          refine r_callV (o := some (.int r11)) (w' := (wM g I8 J9)) (As := [.int a1]) (rest := []) C (c_X8_workOf hq10) dX8_work_62 gX8_work_X8_workOf rfl rfl rfl hd_X8_workOf ⟨by decide, by decide⟩ 0 mg_0 rfl rfl rfl rfl (Nat.le_of_ble_eq_true rfl) ?_
          exact hr _ _ _ _ _ dX8_work_65 rfl hf
        · have hf := itp hf q39
          refine r_ldc2 (v := (11 : Int64)) C dX8_work_42 kX8_work_4 ?_
          refine r_goto (tgt := 51) C dX8_work_45 (by decide) ?_
          refine r_ladd C dX8_work_51 ?_
          refine r_put (ty := .long) C dX8_work_52 kX8_work_1 tyX8 tyX8_ok nmX8 0 mg_0 rfl 1 (by decide) kX8_work_2 rfl rfl rfl rfl (Nat.le_of_ble_eq_true rfl) ms_0_1 ?_
          refine nmJM (fun J12 eJ12 => ?_)
          have hf := bnd_e hf J12 eJ12
          refine r_aload_n C dX8_work_55 rfl 0 rfl ?_
          refine r_iload_n C dX8_work_56 rfl 2 rfl ?_
          obtain ⟨I14, J15, hq13, hf⟩ := bo2_e hf
          refine r_callV (o := none) (w' := (wM g I14 J15)) (As := [.int a2]) (rest := []) C (c_X8_takes hq13) dX8_work_57 gX8_work_X8_takes rfl rfl rfl hd_X8_takes ⟨by decide, by decide⟩ 0 mg_0 rfl rfl rfl rfl (Nat.le_of_ble_eq_true rfl) ?_
          refine r_aload_n C dX8_work_60 rfl 0 rfl ?_
          refine r_iload_n C dX8_work_61 rfl 1 rfl ?_
          obtain ⟨r17, hq16, hf⟩ := bo1_e hf
          refine r_callV (o := some (.int r17)) (w' := (wM g I14 J15)) (As := [.int a1]) (rest := []) C (c_X8_workOf hq16) dX8_work_62 gX8_work_X8_workOf rfl rfl rfl hd_X8_workOf ⟨by decide, by decide⟩ 0 mg_0 rfl rfl rfl rfl (Nat.le_of_ble_eq_true rfl) ?_
          exact hr _ _ _ _ _ dX8_work_65 rfl hf
      · have hf := itp hf q30
        refine r_lconst (v := (1 : Int64)) C dX8_work_33 (by decide) ?_
        refine r_goto (tgt := 51) C dX8_work_34 (by decide) ?_
        refine r_ladd C dX8_work_51 ?_
        refine r_put (ty := .long) C dX8_work_52 kX8_work_1 tyX8 tyX8_ok nmX8 0 mg_0 rfl 1 (by decide) kX8_work_2 rfl rfl rfl rfl (Nat.le_of_ble_eq_true rfl) ms_0_1 ?_
        refine nmJM (fun J18 eJ18 => ?_)
        have hf := bnd_e hf J18 eJ18
        refine r_aload_n C dX8_work_55 rfl 0 rfl ?_
        refine r_iload_n C dX8_work_56 rfl 2 rfl ?_
        obtain ⟨I20, J21, hq19, hf⟩ := bo2_e hf
        refine r_callV (o := none) (w' := (wM g I20 J21)) (As := [.int a2]) (rest := []) C (c_X8_takes hq19) dX8_work_57 gX8_work_X8_takes rfl rfl rfl hd_X8_takes ⟨by decide, by decide⟩ 0 mg_0 rfl rfl rfl rfl (Nat.le_of_ble_eq_true rfl) ?_
        refine r_aload_n C dX8_work_60 rfl 0 rfl ?_
        refine r_iload_n C dX8_work_61 rfl 1 rfl ?_
        obtain ⟨r23, hq22, hf⟩ := bo1_e hf
        refine r_callV (o := some (.int r23)) (w' := (wM g I20 J21)) (As := [.int a1]) (rest := []) C (c_X8_workOf hq22) dX8_work_62 gX8_work_X8_workOf rfl rfl rfl hd_X8_workOf ⟨by decide, by decide⟩ 0 mg_0 rfl rfl rfl rfl (Nat.le_of_ble_eq_true rfl) ?_
        exact hr _ _ _ _ _ dX8_work_65 rfl hf
    · have hf := itp hf q19
      refine r_iconst (v := (-1 : Int32)) C dX8_work_22 (by decide) ?_
      exact hr _ _ _ _ _ dX8_work_23 rfl hf
