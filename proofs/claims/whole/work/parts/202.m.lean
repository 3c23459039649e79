abbrev rmX1_reckon : Room := { frames := 1, cells := 0, slots := 0, locals := 23 }
theorem hd_X1_reckon : yX1_reckon.cls = RX1 ∧ yX1_reckon.cls ≠ "java/lang/invoke/MethodHandle" ∧ yX1_reckon.cls ≠ "java/lang/invoke/VarHandle" ∧ (parseMethodDescriptor yX1_reckon.desc).map (fun d => d.parameters.length) = some 0 := by decide +kernel
theorem kX1_reckon_0 : Cond.fieldLink RX1 15 (TX1 1).1 (TX1 1).2.1 (TX1 1).2.2.1 ∈ wsX1_reckon := by decide +kernel
theorem kX1_reckon_1 : ∀ w ∈ u_ws RX1 TX1 8, w ∈ wsX1_reckon := by decide +kernel
theorem kX1_reckon_2 : Cond.fieldLink RX1 19 (TX1 2).1 (TX1 2).2.1 (TX1 2).2.2.1 ∈ wsX1_reckon := by decide +kernel
theorem kX1_reckon_3 : Cond.fieldLink RX1 26 (TX1 4).1 (TX1 4).2.1 (TX1 4).2.2.1 ∈ wsX1_reckon := by decide +kernel
theorem kX1_reckon_4 : Cond.fieldLink RX1 29 (TX1 5).1 (TX1 5).2.1 (TX1 5).2.2.1 ∈ wsX1_reckon := by decide +kernel
theorem kX1_reckon_5 : Cond.fieldLink RX1 35 (TX1 7).1 (TX1 7).2.1 (TX1 7).2.2.1 ∈ wsX1_reckon := by decide +kernel
theorem kX1_reckon_6 : Cond.fieldLink RX1 9 (TX1 0).1 (TX1 0).2.1 (TX1 0).2.2.1 ∈ wsX1_reckon := by decide +kernel
theorem kX1_reckon_7 : Cond.fieldLink RX1 22 (TX1 3).1 (TX1 3).2.1 (TX1 3).2.2.1 ∈ wsX1_reckon := by decide +kernel
theorem kX1_reckon_8 : Cond.fieldLink RX1 32 (TX1 6).1 (TX1 6).2.1 (TX1 6).2.2.1 ∈ wsX1_reckon := by decide +kernel
theorem kX1_reckon_9 : Jvm.Cond.constantLong RX1 104 (3600) ∈ wsX1_reckon := by decide +kernel
set_option maxRecDepth 100000 in
set_option maxHeartbeats 4000000 in
theorem mB_X1_reckon_106 {k : CT} {g : GG} {c : Nat} (hc : RC c) (C : CX k cX1_reckon 7 RX1 wsX1_reckon rmX1_reckon g) {ρ : (MI × MJ)} (hr : RTV k wB g cX1_reckon ρ) {kk106 : MI → MJ → Int32 → Int32 → Int32 → Int32 → Option (MI × MJ)} (hk106 : ∀ (I : MI) (J : MJ) (x1 : Int32) (x2 : Int32) (x4 : Int32) (x5 : Int32), kk106 I J x1 x2 x4 x5 = some ρ → V k (wB g I J) 106 [(0, .ref (g.1 c)), (1, .int x1), (2, .int x2), (4, .int x4), (5, .int x5)] []) : ∀ (I : MI) (J : MJ) (x1 : Int32) (x2 : Int32) (x4 : Int32) (x5 : Int32), LB_X1_reckon_106 c kk106 I J x1 x2 x4 x5 = some ρ → V k (wB g I J) 106 [(0, .ref (g.1 c)), (1, .int x1), (2, .int x2), (4, .int x4), (5, .int x5)] [] := by
  intro I J x1 x2 x4 x5 hf
  unfold LB_X1_reckon_106 at hf
  refine r_aload_n C dX1_reckon_106 rfl 0 rfl ?_
  refine r_get C dX1_reckon_107 kX1_reckon_1 c (brg hc) rfl 3 (by decide) kX1_reckon_7 brv_3 ?_
  refine r_sipush (v := (400 : Int32)) C dX1_reckon_110 (by decide) ?_
  refine r_icmp_gt (tgt := 240) C dX1_reckon_113 (by decide) (fun q113 => ?_) (fun q113 => ?_)
  · have hf := itp hf q113
    exact hr _ _ _ _ dX1_reckon_240 hf
  · have hf := itn hf q113
    refine r_aload_n C dX1_reckon_116 rfl 0 rfl ?_
    refine r_get C dX1_reckon_117 kX1_reckon_1 c (brg hc) rfl 4 (by decide) kX1_reckon_3 brv_4 ?_
    refine r_nmi (fun v1 ev1 => ?_)
    have hf := bnd_e hf v1 ev1
    refine r_istore (lv' := [(0, .ref (g.1 c)), (1, .int x1), (2, .int x2), (4, .int x4), (5, .int x5), (6, .int v1)]) C dX1_reckon_120 (by decide) [1, 2, 3, 4, 5, 0] rfl ?_
    refine r_aload_n C dX1_reckon_122 rfl 0 rfl ?_
    refine r_iload C dX1_reckon_123 5 rfl ?_
    refine r_iload_n C dX1_reckon_125 rfl 1 rfl ?_
    refine r_iadd C dX1_reckon_126 ?_
    refine r_iload C dX1_reckon_127 5 rfl ?_
    refine r_iload_n C dX1_reckon_129 rfl 2 rfl ?_
    refine r_imul C dX1_reckon_130 ?_
    refine r_bipush (v := (100 : Int32)) C dX1_reckon_131 (by decide) ?_
    refine r_idiv C dX1_reckon_133 (by decide) ?_
    refine r_isub C dX1_reckon_134 ?_
    refine r_put (ty := .int) C dX1_reckon_135 kX1_reckon_1 tyX1 tyX1_ok nmX1 c (brg hc) rfl 4 (by decide) kX1_reckon_3 rfl rfl rfl rfl (Nat.le_of_ble_eq_true rfl) (brs_4 hc) ?_
    refine nmIB (fun I2 eI2 => ?_)
    have hf := bnd_e hf I2 eI2
    refine r_aload_n C dX1_reckon_138 rfl 0 rfl ?_
    refine r_dup C dX1_reckon_139 rfl ?_
    refine r_get C dX1_reckon_140 kX1_reckon_1 c (brg hc) rfl 5 (by decide) kX1_reckon_4 brv_5 ?_
    refine r_aload_n C dX1_reckon_143 rfl 0 rfl ?_
    refine r_get C dX1_reckon_144 kX1_reckon_1 c (brg hc) rfl 4 (by decide) kX1_reckon_3 brv_4 ?_
    refine r_iload C dX1_reckon_147 3 rfl ?_
    refine r_imul C dX1_reckon_149 ?_
    refine r_bipush (v := (100 : Int32)) C dX1_reckon_150 (by decide) ?_
    refine r_idiv C dX1_reckon_152 (by decide) ?_
    refine r_iadd C dX1_reckon_153 ?_
    refine r_put (ty := .int) C dX1_reckon_154 kX1_reckon_1 tyX1 tyX1_ok nmX1 c (brg hc) rfl 5 (by decide) kX1_reckon_4 rfl rfl rfl rfl (Nat.le_of_ble_eq_true rfl) (brs_5 hc) ?_
    refine nmIB (fun I3 eI3 => ?_)
    have hf := bnd_e hf I3 eI3
    refine r_aload_n C dX1_reckon_157 rfl 0 rfl ?_
    refine r_get C dX1_reckon_158 kX1_reckon_1 c (brg hc) rfl 4 (by decide) kX1_reckon_3 brv_4 ?_
    refine r_aload_n C dX1_reckon_161 rfl 0 rfl ?_
    refine r_get C dX1_reckon_162 kX1_reckon_1 c (brg hc) rfl 4 (by decide) kX1_reckon_3 brv_4 ?_
    refine r_imul C dX1_reckon_165 ?_
    refine r_bipush (v := (50 : Int32)) C dX1_reckon_166 (by decide) ?_
    refine r_idiv C dX1_reckon_168 (by decide) ?_
    refine r_iload C dX1_reckon_169 4 rfl ?_
    refine r_icmp_lt (tgt := 217) C dX1_reckon_171 (by decide) (fun q171 => ?_) (fun q171 => ?_)
    · have hf := itp hf q171
      refine r_aload_n C dX1_reckon_217 rfl 0 rfl ?_
      refine r_get C dX1_reckon_218 kX1_reckon_1 c (brg hc) rfl 4 (by decide) kX1_reckon_3 brv_4 ?_
      refine r_iload C dX1_reckon_221 5 rfl ?_
      refine r_icmp_gt (tgt := 227) C dX1_reckon_223 (by decide) (fun q223 => ?_) (fun q223 => ?_)
      · have hf := itp hf q223
        refine r_aload_n C dX1_reckon_227 rfl 0 rfl ?_
        refine r_dup C dX1_reckon_228 rfl ?_
        refine r_get C dX1_reckon_229 kX1_reckon_1 c (brg hc) rfl 3 (by decide) kX1_reckon_7 brv_3 ?_
        refine r_iconst (v := (1 : Int32)) C dX1_reckon_232 (by decide) ?_
        refine r_iadd C dX1_reckon_233 ?_
        refine r_put (ty := .int) C dX1_reckon_234 kX1_reckon_1 tyX1 tyX1_ok nmX1 c (brg hc) rfl 3 (by decide) kX1_reckon_7 rfl rfl rfl rfl (Nat.le_of_ble_eq_true rfl) (brs_3 hc) ?_
        refine nmIB (fun I4 eI4 => ?_)
        have hf := bnd_e hf I4 eI4
        refine r_goto (tgt := 106) C dX1_reckon_237 (by decide) ?_
        refine V.loc [0, 1, 2, 3, 4] rfl ?_
        exact hk106 _ _ _ _ _ _ hf
      · have hf := itn hf q223
        exact hr _ _ _ _ dX1_reckon_226 hf
    · have hf := itn hf q171
      refine r_aload_n C dX1_reckon_174 rfl 0 rfl ?_
      refine r_iconst (v := (0 : Int32)) C dX1_reckon_175 (by decide) ?_
      refine r_put (ty := .boolean) C dX1_reckon_176 kX1_reckon_1 tyX1 tyX1_ok nmX1 c (brg hc) rfl 2 (by decide) kX1_reckon_2 rfl rfl nb0 rfl (Nat.le_of_ble_eq_true rfl) (brs_2 hc) ?_
      refine nmIB (fun I5 eI5 => ?_)
      have hf := bnd_e hf I5 eI5
      refine r_aload_n C dX1_reckon_179 rfl 0 rfl ?_
      refine r_aload_n C dX1_reckon_180 rfl 0 rfl ?_
      refine r_get C dX1_reckon_181 kX1_reckon_1 c (brg hc) rfl 3 (by decide) kX1_reckon_7 brv_3 ?_
      refine r_iconst (v := (4 : Int32)) C dX1_reckon_184 (by decide) ?_
      refine r_iadd C dX1_reckon_185 ?_
      refine r_aload_n C dX1_reckon_186 rfl 0 rfl ?_
      refine r_get C dX1_reckon_187 kX1_reckon_1 c (brg hc) rfl 0 (by decide) kX1_reckon_6 brv_0 ?_
      refine r_iconst (v := (1 : Int32)) C dX1_reckon_190 (by decide) ?_
      refine r_iald (j := 1) C dX1_reckon_191 (c + 1) (brt hc) (inb_e (by decide +kernel)) (by decide +kernel) ?_
      refine r_sipush (v := (200 : Int32)) C dX1_reckon_192 (by decide) ?_
      refine r_idiv C dX1_reckon_195 (by decide) ?_
      refine r_iadd C dX1_reckon_196 ?_
      refine r_put (ty := .int) C dX1_reckon_197 kX1_reckon_1 tyX1 tyX1_ok nmX1 c (brg hc) rfl 6 (by decide) kX1_reckon_8 rfl rfl rfl rfl (Nat.le_of_ble_eq_true rfl) (brs_6 hc) ?_
      refine nmIB (fun I6 eI6 => ?_)
      have hf := bnd_e hf I6 eI6
      refine r_aload_n C dX1_reckon_200 rfl 0 rfl ?_
      refine r_ldc2 (v := (3600 : Int64)) C dX1_reckon_201 kX1_reckon_9 ?_
      refine r_aload_n C dX1_reckon_204 rfl 0 rfl ?_
      refine r_get C dX1_reckon_205 kX1_reckon_1 c (brg hc) rfl 6 (by decide) kX1_reckon_8 brv_6 ?_
      refine r_i2l C dX1_reckon_208 ?_
      obtain ⟨r8, hq7, hf⟩ := bo1_e hf
      refine r_callS (o := some (.long r8)) (w' := (wB g I6 J)) (As := [.long (3600 : Int64), .long (I6 c 6).toInt64]) (rest := [.ref (g.1 c)]) C (c_X1_share hq7) dX1_reckon_209 gX1_reckon_X1_share rfl rfl rfl hd_X1_share ⟨by decide, by decide⟩ rfl rfl (Nat.le_of_ble_eq_true rfl) ?_
      refine r_l2i C dX1_reckon_212 ?_
      refine r_put (ty := .int) C dX1_reckon_213 kX1_reckon_1 tyX1 tyX1_ok nmX1 c (brg hc) rfl 7 (by decide) kX1_reckon_5 rfl rfl rfl rfl (Nat.le_of_ble_eq_true rfl) (brs_7 hc) ?_
      refine nmIB (fun I9 eI9 => ?_)
      have hf := bnd_e hf I9 eI9
      exact hr _ _ _ _ dX1_reckon_216 hf
theorem mL_X1_reckon_106 {k : CT} {g : GG} {c : Nat} (hc : RC c) (C : CX k cX1_reckon 7 RX1 wsX1_reckon rmX1_reckon g) {ρ : (MI × MJ)} (hr : RTV k wB g cX1_reckon ρ) : ∀ (n : Nat) (I : MI) (J : MJ) (x1 : Int32) (x2 : Int32) (x4 : Int32) (x5 : Int32), LP_X1_reckon_106 c n I J x1 x2 x4 x5 = some ρ → V k (wB g I J) 106 [(0, .ref (g.1 c)), (1, .int x1), (2, .int x2), (4, .int x4), (5, .int x5)] [] := by
  intro n
  induction n with
  | zero => intro I J x1 x2 x4 x5 hf; cases hf
  | succ n ih => intro I J x1 x2 x4 x5 hf; exact mB_X1_reckon_106 hc C hr (fun I J x1 x2 x4 x5 h => ih I J x1 x2 x4 x5 h) I J x1 x2 x4 x5 hf
set_option maxRecDepth 100000 in
set_option maxHeartbeats 4000000 in
theorem c_X1_reckon {l : Launch} {D : va_G} {g : GG} {I : MI} {J : MJ} {c : Nat} {I' : MI} {J' : MJ} (hc : RC c) (hf : f_X1_reckon c I J = some (I', J')) : CON l yX1_reckon wsX1_reckon rmX1_reckon D g (wB g I J) [.ref (g.1 c)] none (wB g I' J') := by
  refine con_of (cc := cX1_reckon) (maxL := 7) (ret := none) (by decide) rfl (Nat.le_of_ble_eq_true rfl) rfl rfl ?_
  intro k C hkl hkD h1 h2 h3
  subst hkl; subst hkD
  have hr : RTV k wB g cX1_reckon (I', J') := rtv_of h1
  unfold f_X1_reckon at hf
  refine V.loc (lv' := [(0, .ref (g.1 c))]) [0] rfl ?_
  refine r_aload_n C dX1_reckon_0 rfl 0 rfl ?_
  refine r_get C dX1_reckon_1 kX1_reckon_1 c (brg hc) rfl 1 (by decide) kX1_reckon_0 brv_1 ?_
  refine r_if_eq (tgt := 8) C dX1_reckon_4 (by decide) (fun q4 => ?_) (fun q4 => ?_)
  · have hf := itp hf q4
    refine r_aload_n C dX1_reckon_8 rfl 0 rfl ?_
    refine r_iconst (v := (1 : Int32)) C dX1_reckon_9 (by decide) ?_
    refine r_put (ty := .boolean) C dX1_reckon_10 kX1_reckon_1 tyX1 tyX1_ok nmX1 c (brg hc) rfl 1 (by decide) kX1_reckon_0 rfl rfl nb1 rfl (Nat.le_of_ble_eq_true rfl) (brs_1 hc) ?_
    refine nmIB (fun I1 eI1 => ?_)
    have hf := bnd_e hf I1 eI1
    refine r_aload_n C dX1_reckon_13 rfl 0 rfl ?_
    refine r_iconst (v := (1 : Int32)) C dX1_reckon_14 (by decide) ?_
    refine r_put (ty := .boolean) C dX1_reckon_15 kX1_reckon_1 tyX1 tyX1_ok nmX1 c (brg hc) rfl 2 (by decide) kX1_reckon_2 rfl rfl nb1 rfl (Nat.le_of_ble_eq_true rfl) (brs_2 hc) ?_
    refine nmIB (fun I2 eI2 => ?_)
    have hf := bnd_e hf I2 eI2
    refine r_aload_n C dX1_reckon_18 rfl 0 rfl ?_
    refine r_iconst (v := (0 : Int32)) C dX1_reckon_19 (by decide) ?_
    refine r_put (ty := .int) C dX1_reckon_20 kX1_reckon_1 tyX1 tyX1_ok nmX1 c (brg hc) rfl 4 (by decide) kX1_reckon_3 rfl rfl rfl rfl (Nat.le_of_ble_eq_true rfl) (brs_4 hc) ?_
    refine nmIB (fun I3 eI3 => ?_)
    have hf := bnd_e hf I3 eI3
    refine r_aload_n C dX1_reckon_23 rfl 0 rfl ?_
    refine r_iconst (v := (0 : Int32)) C dX1_reckon_24 (by decide) ?_
    refine r_put (ty := .int) C dX1_reckon_25 kX1_reckon_1 tyX1 tyX1_ok nmX1 c (brg hc) rfl 5 (by decide) kX1_reckon_4 rfl rfl rfl rfl (Nat.le_of_ble_eq_true rfl) (brs_5 hc) ?_
    refine nmIB (fun I4 eI4 => ?_)
    have hf := bnd_e hf I4 eI4
    refine r_aload_n C dX1_reckon_28 rfl 0 rfl ?_
    refine r_iconst (v := (0 : Int32)) C dX1_reckon_29 (by decide) ?_
    refine r_put (ty := .int) C dX1_reckon_30 kX1_reckon_1 tyX1 tyX1_ok nmX1 c (brg hc) rfl 7 (by decide) kX1_reckon_5 rfl rfl rfl rfl (Nat.le_of_ble_eq_true rfl) (brs_7 hc) ?_
    refine nmIB (fun I5 eI5 => ?_)
    have hf := bnd_e hf I5 eI5
    refine r_sipush (v := (200 : Int32)) C dX1_reckon_33 (by decide) ?_
    refine r_aload_n C dX1_reckon_36 rfl 0 rfl ?_
    refine r_get C dX1_reckon_37 kX1_reckon_1 c (brg hc) rfl 0 (by decide) kX1_reckon_6 brv_0 ?_
    refine r_iconst (v := (0 : Int32)) C dX1_reckon_40 (by decide) ?_
    refine r_iald (j := 0) C dX1_reckon_41 (c + 1) (brt hc) (inb_e (by decide +kernel)) (by decide +kernel) ?_
    refine r_imul C dX1_reckon_42 ?_
    refine r_i2l C dX1_reckon_43 ?_
    refine r_aload_n C dX1_reckon_44 rfl 0 rfl ?_
    refine r_get C dX1_reckon_45 kX1_reckon_1 c (brg hc) rfl 0 (by decide) kX1_reckon_6 brv_0 ?_
    refine r_iconst (v := (2 : Int32)) C dX1_reckon_48 (by decide) ?_
    refine r_iald (j := 2) C dX1_reckon_49 (c + 1) (brt hc) (inb_e (by decide +kernel)) (by decide +kernel) ?_
    refine r_i2l C dX1_reckon_50 ?_
    obtain ⟨r7, hq6, hf⟩ := bo1_e hf
    refine r_callS (o := some (.long r7)) (w' := (wB g I5 J)) (As := [.long ((200 : Int32) * (I5 (c + 1) 0)).toInt64, .long (I5 (c + 1) 2).toInt64]) (rest := []) C (c_X1_share hq6) dX1_reckon_51 gX1_reckon_X1_share rfl rfl rfl hd_X1_share ⟨by decide, by decide⟩ rfl rfl (Nat.le_of_ble_eq_true rfl) ?_
    refine r_l2i C dX1_reckon_54 ?_
    refine r_nmi (fun v8 ev8 => ?_)
    have hf := bnd_e hf v8 ev8
    refine r_istore_n (lv' := [(0, .ref (g.1 c)), (1, .int v8)]) C dX1_reckon_55 rfl (by decide) [1, 0] rfl ?_
    refine r_iconst (v := (3 : Int32)) C dX1_reckon_56 (by decide) ?_
    refine r_aload_n C dX1_reckon_57 rfl 0 rfl ?_
    refine r_get C dX1_reckon_58 kX1_reckon_1 c (brg hc) rfl 0 (by decide) kX1_reckon_6 brv_0 ?_
    refine r_bipush (v := (8 : Int32)) C dX1_reckon_61 (by decide) ?_
    refine r_iald (j := 8) C dX1_reckon_63 (c + 1) (brt hc) (inb_e (by decide +kernel)) (by decide +kernel) ?_
    refine r_iadd C dX1_reckon_64 ?_
    refine r_nmi (fun v9 ev9 => ?_)
    have hf := bnd_e hf v9 ev9
    refine r_istore_n (lv' := [(0, .ref (g.1 c)), (1, .int v8), (2, .int v9)]) C dX1_reckon_65 rfl (by decide) [1, 2, 0] rfl ?_
    refine r_aload_n C dX1_reckon_66 rfl 0 rfl ?_
    refine r_get C dX1_reckon_67 kX1_reckon_1 c (brg hc) rfl 0 (by decide) kX1_reckon_6 brv_0 ?_
    refine r_iconst (v := (5 : Int32)) C dX1_reckon_70 (by decide) ?_
    refine r_iald (j := 5) C dX1_reckon_71 (c + 1) (brt hc) (inb_e (by decide +kernel)) (by decide +kernel) ?_
    refine r_aload_n C dX1_reckon_72 rfl 0 rfl ?_
    refine r_get C dX1_reckon_73 kX1_reckon_1 c (brg hc) rfl 0 (by decide) kX1_reckon_6 brv_0 ?_
    refine r_bipush (v := (7 : Int32)) C dX1_reckon_76 (by decide) ?_
    refine r_iald (j := 7) C dX1_reckon_78 (c + 1) (brt hc) (inb_e (by decide +kernel)) (by decide +kernel) ?_
    refine r_iadd C dX1_reckon_79 ?_
    refine r_nmi (fun v10 ev10 => ?_)
    have hf := bnd_e hf v10 ev10
    refine r_istore_n (lv' := [(0, .ref (g.1 c)), (1, .int v8), (2, .int v9), (3, .int v10)]) C dX1_reckon_80 rfl (by decide) [1, 2, 3, 0] rfl ?_
    refine r_aload_n C dX1_reckon_81 rfl 0 rfl ?_
    refine r_get C dX1_reckon_82 kX1_reckon_1 c (brg hc) rfl 0 (by decide) kX1_reckon_6 brv_0 ?_
    refine r_iconst (v := (3 : Int32)) C dX1_reckon_85 (by decide) ?_
    refine r_iald (j := 3) C dX1_reckon_86 (c + 1) (brt hc) (inb_e (by decide +kernel)) (by decide +kernel) ?_
    refine r_iload_n C dX1_reckon_87 rfl 3 rfl ?_
    refine r_imul C dX1_reckon_88 ?_
    refine r_nmi (fun v11 ev11 => ?_)
    have hf := bnd_e hf v11 ev11
    refine r_istore (lv' := [(0, .ref (g.1 c)), (1, .int v8), (2, .int v9), (3, .int v10), (4, .int v11)]) C dX1_reckon_89 (by decide) [1, 2, 3, 4, 0] rfl ?_
    refine r_aload_n C dX1_reckon_91 rfl 0 rfl ?_
    refine r_get C dX1_reckon_92 kX1_reckon_1 c (brg hc) rfl 0 (by decide) kX1_reckon_6 brv_0 ?_
    refine r_iconst (v := (4 : Int32)) C dX1_reckon_95 (by decide) ?_
    refine r_iald (j := 4) C dX1_reckon_96 (c + 1) (brt hc) (inb_e (by decide +kernel)) (by decide +kernel) ?_
    refine r_iload_n C dX1_reckon_97 rfl 3 rfl ?_
    refine r_imul C dX1_reckon_98 ?_
    refine r_nmi (fun v12 ev12 => ?_)
    have hf := bnd_e hf v12 ev12
    refine r_istore (lv' := [(0, .ref (g.1 c)), (1, .int v8), (2, .int v9), (3, .int v10), (4, .int v11), (5, .int v12)]) C dX1_reckon_99 (by decide) [1, 2, 3, 4, 5, 0] rfl ?_
    refine r_aload_n C dX1_reckon_101 rfl 0 rfl ?_
    refine r_iconst (v := (1 : Int32)) C dX1_reckon_102 (by decide) ?_
    refine r_put (ty := .int) C dX1_reckon_103 kX1_reckon_1 tyX1 tyX1_ok nmX1 c (brg hc) rfl 3 (by decide) kX1_reckon_7 rfl rfl rfl rfl (Nat.le_of_ble_eq_true rfl) (brs_3 hc) ?_
    refine nmIB (fun I13 eI13 => ?_)
    have hf := bnd_e hf I13 eI13
    refine V.loc [0, 1, 2, 4, 5] rfl ?_
    exact mL_X1_reckon_106 hc C hr FU _ _ _ _ _ _ hf
  · have hf := itn hf q4
    exact hr _ _ _ _ dX1_reckon_7 hf
abbrev rmX1_stalls : Room := { frames := 2, cells := 0, slots := 0, locals := 49 }
theorem hd_X1_stalls : yX1_stalls.cls = RX1 ∧ yX1_stalls.cls ≠ "java/lang/invoke/MethodHandle" ∧ yX1_stalls.cls ≠ "java/lang/invoke/VarHandle" ∧ (parseMethodDescriptor yX1_stalls.desc).map (fun d => d.parameters.length) = some 0 := by decide +kernel
theorem kX1_stalls_0 : Cond.fieldLink RX1 19 (TX1 2).1 (TX1 2).2.1 (TX1 2).2.2.1 ∈ wsX1_stalls := by decide +kernel
theorem kX1_stalls_1 : ∀ w ∈ u_ws RX1 TX1 8, w ∈ wsX1_stalls := by decide +kernel
set_option maxRecDepth 100000 in
set_option maxHeartbeats 4000000 in
theorem c_X1_stalls {l : Launch} {D : va_G} {g : GG} {I : MI} {J : MJ} {c : Nat} {r : Int32} {I' : MI} {J' : MJ} (hc : RC c) (hf : f_X1_stalls c I J = some (r, I', J')) : CON l yX1_stalls wsX1_stalls rmX1_stalls D g (wB g I J) [.ref (g.1 c)] (some (.int r)) (wB g I' J') := by
  refine con_of (cc := cX1_stalls) (maxL := 1) (ret := (some .boolean)) (by decide) rfl (Nat.le_of_ble_eq_true rfl) rfl rfl ?_
  intro k C hkl hkD h1 h2 h3
  subst hkl; subst hkD
  have hr : RTW k wB g cX1_stalls .boolean (r, I', J') := rtw_of h2
  unfold f_X1_stalls at hf
  refine V.loc (lv' := [(0, .ref (g.1 c))]) [0] rfl ?_
  refine r_aload_n C dX1_stalls_0 rfl 0 rfl ?_
  obtain ⟨I2, J3, hq1, hf⟩ := bo2_e hf
  refine r_callV (o := none) (w' := (wB g I2 J3)) (As := []) (rest := []) C (c_X1_reckon hc hq1) dX1_stalls_1 gX1_stalls_X1_reckon rfl rfl rfl hd_X1_reckon ⟨by decide, by decide⟩ c (brg hc) rfl rfl rfl rfl (Nat.le_of_ble_eq_true rfl) ?_
  refine r_aload_n C dX1_stalls_4 rfl 0 rfl ?_
  refine r_get C dX1_stalls_5 kX1_stalls_1 c (brg hc) rfl 2 (by decide) kX1_stalls_0 brv_2 ?_
  obtain ⟨hb, hf⟩ := chk_e hf
  exact hr _ _ _ _ _ dX1_stalls_8 (isB_e hb) hf
abbrev rmX1_shutTick : Room := { frames := 2, cells := 0, slots := 0, locals := 49 }
theorem hd_X1_shutTick : yX1_shutTick.cls = RX1 ∧ yX1_shutTick.cls ≠ "java/lang/invoke/MethodHandle" ∧ yX1_shutTick.cls ≠ "java/lang/invoke/VarHandle" ∧ (parseMethodDescriptor yX1_shutTick.desc).map (fun d => d.parameters.length) = some 0 := by decide +kernel
theorem kX1_shutTick_0 : Cond.fieldLink RX1 22 (TX1 3).1 (TX1 3).2.1 (TX1 3).2.2.1 ∈ wsX1_shutTick := by decide +kernel
theorem kX1_shutTick_1 : ∀ w ∈ u_ws RX1 TX1 8, w ∈ wsX1_shutTick := by decide +kernel
set_option maxRecDepth 100000 in
set_option maxHeartbeats 4000000 in
theorem c_X1_shutTick {l : Launch} {D : va_G} {g : GG} {I : MI} {J : MJ} {c : Nat} {r : Int32} {I' : MI} {J' : MJ} (hc : RC c) (hf : f_X1_shutTick c I J = some (r, I', J')) : CON l yX1_shutTick wsX1_shutTick rmX1_shutTick D g (wB g I J) [.ref (g.1 c)] (some (.int r)) (wB g I' J') := by
  refine con_of (cc := cX1_shutTick) (maxL := 1) (ret := (some .int)) (by decide) rfl (Nat.le_of_ble_eq_true rfl) rfl rfl ?_
  intro k C hkl hkD h1 h2 h3
  subst hkl; subst hkD
  have hr : RTW k wB g cX1_shutTick .int (r, I', J') := rtw_of h2
  unfold f_X1_shutTick at hf
  refine V.loc (lv' := [(0, .ref (g.1 c))]) [0] rfl ?_
  refine r_aload_n C dX1_shutTick_0 rfl 0 rfl ?_
  obtain ⟨I2, J3, hq1, hf⟩ := bo2_e hf
  refine r_callV (o := none) (w' := (wB g I2 J3)) (As := []) (rest := []) C (c_X1_reckon hc hq1) dX1_shutTick_1 gX1_shutTick_X1_reckon rfl rfl rfl hd_X1_reckon ⟨by decide, by decide⟩ c (brg hc) rfl rfl rfl rfl (Nat.le_of_ble_eq_true rfl) ?_
  refine r_aload_n C dX1_shutTick_4 rfl 0 rfl ?_
  refine r_get C dX1_shutTick_5 kX1_shutTick_1 c (brg hc) rfl 3 (by decide) kX1_shutTick_0 brv_3 ?_
  exact hr _ _ _ _ _ dX1_shutTick_8 rfl hf
abbrev rmX1_shutSpeed : Room := { frames := 2, cells := 0, slots := 0, locals := 49 }
theorem hd_X1_shutSpeed : yX1_shutSpeed.cls = RX1 ∧ yX1_shutSpeed.cls ≠ "java/lang/invoke/MethodHandle" ∧ yX1_shutSpeed.cls ≠ "java/lang/invoke/VarHandle" ∧ (parseMethodDescriptor yX1_shutSpeed.desc).map (fun d => d.parameters.length) = some 0 := by decide +kernel
theorem kX1_shutSpeed_0 : Cond.fieldLink RX1 26 (TX1 4).1 (TX1 4).2.1 (TX1 4).2.2.1 ∈ wsX1_shutSpeed := by decide +kernel
theorem kX1_shutSpeed_1 : ∀ w ∈ u_ws RX1 TX1 8, w ∈ wsX1_shutSpeed := by decide +kernel
set_option maxRecDepth 100000 in
set_option maxHeartbeats 4000000 in
theorem c_X1_shutSpeed {l : Launch} {D : va_G} {g : GG} {I : MI} {J : MJ} {c : Nat} {r : Int32} {I' : MI} {J' : MJ} (hc : RC c) (hf : f_X1_shutSpeed c I J = some (r, I', J')) : CON l yX1_shutSpeed wsX1_shutSpeed rmX1_shutSpeed D g (wB g I J) [.ref (g.1 c)] (some (.int r)) (wB g I' J') := by
  refine con_of (cc := cX1_shutSpeed) (maxL := 1) (ret := (some .int)) (by decide) rfl (Nat.le_of_ble_eq_true rfl) rfl rfl ?_
  intro k C hkl hkD h1 h2 h3
  subst hkl; subst hkD
  have hr : RTW k wB g cX1_shutSpeed .int (r, I', J') := rtw_of h2
  unfold f_X1_shutSpeed at hf
  refine V.loc (lv' := [(0, .ref (g.1 c))]) [0] rfl ?_
  refine r_aload_n C dX1_shutSpeed_0 rfl 0 rfl ?_
  obtain ⟨I2, J3, hq1, hf⟩ := bo2_e hf
  refine r_callV (o := none) (w' := (wB g I2 J3)) (As := []) (rest := []) C (c_X1_reckon hc hq1) dX1_shutSpeed_1 gX1_shutSpeed_X1_reckon rfl rfl rfl hd_X1_reckon ⟨by decide, by decide⟩ c (brg hc) rfl rfl rfl rfl (Nat.le_of_ble_eq_true rfl) ?_
  refine r_aload_n C dX1_shutSpeed_4 rfl 0 rfl ?_
  refine r_get C dX1_shutSpeed_5 kX1_shutSpeed_1 c (brg hc) rfl 4 (by decide) kX1_shutSpeed_0 brv_4 ?_
  exact hr _ _ _ _ _ dX1_shutSpeed_8 rfl hf
abbrev rmX1_wasteOfBeat : Room := { frames := 2, cells := 0, slots := 0, locals := 49 }
theorem hd_X1_wasteOfBeat : yX1_wasteOfBeat.cls = RX1 ∧ yX1_wasteOfBeat.cls ≠ "java/lang/invoke/MethodHandle" ∧ yX1_wasteOfBeat.cls ≠ "java/lang/invoke/VarHandle" ∧ (parseMethodDescriptor yX1_wasteOfBeat.desc).map (fun d => d.parameters.length) = some 0 := by decide +kernel
theorem kX1_wasteOfBeat_0 : Cond.fieldLink RX1 29 (TX1 5).1 (TX1 5).2.1 (TX1 5).2.2.1 ∈ wsX1_wasteOfBeat := by decide +kernel
theorem kX1_wasteOfBeat_1 : ∀ w ∈ u_ws RX1 TX1 8, w ∈ wsX1_wasteOfBeat := by decide +kernel
set_option maxRecDepth 100000 in
set_option maxHeartbeats 4000000 in
theorem c_X1_wasteOfBeat {l : Launch} {D : va_G} {g : GG} {I : MI} {J : MJ} {c : Nat} {r : Int32} {I' : MI} {J' : MJ} (hc : RC c) (hf : f_X1_wasteOfBeat c I J = some (r, I', J')) : CON l yX1_wasteOfBeat wsX1_wasteOfBeat rmX1_wasteOfBeat D g (wB g I J) [.ref (g.1 c)] (some (.int r)) (wB g I' J') := by
  refine con_of (cc := cX1_wasteOfBeat) (maxL := 1) (ret := (some .int)) (by decide) rfl (Nat.le_of_ble_eq_true rfl) rfl rfl ?_
  intro k C hkl hkD h1 h2 h3
  subst hkl; subst hkD
  have hr : RTW k wB g cX1_wasteOfBeat .int (r, I', J') := rtw_of h2
  unfold f_X1_wasteOfBeat at hf
  refine V.loc (lv' := [(0, .ref (g.1 c))]) [0] rfl ?_
  refine r_aload_n C dX1_wasteOfBeat_0 rfl 0 rfl ?_
  obtain ⟨I2, J3, hq1, hf⟩ := bo2_e hf
  refine r_callV (o := none) (w' := (wB g I2 J3)) (As := []) (rest := []) C (c_X1_reckon hc hq1) dX1_wasteOfBeat_1 gX1_wasteOfBeat_X1_reckon rfl rfl rfl hd_X1_reckon ⟨by decide, by decide⟩ c (brg hc) rfl rfl rfl rfl (Nat.le_of_ble_eq_true rfl) ?_
  refine r_aload_n C dX1_wasteOfBeat_4 rfl 0 rfl ?_
  refine r_get C dX1_wasteOfBeat_5 kX1_wasteOfBeat_1 c (brg hc) rfl 5 (by decide) kX1_wasteOfBeat_0 brv_5 ?_
  exact hr _ _ _ _ _ dX1_wasteOfBeat_8 rfl hf
abbrev rmX1_upOfBeat : Room := { frames := 2, cells := 0, slots := 0, locals := 49 }
theorem hd_X1_upOfBeat : yX1_upOfBeat.cls = RX1 ∧ yX1_upOfBeat.cls ≠ "java/lang/invoke/MethodHandle" ∧ yX1_upOfBeat.cls ≠ "java/lang/invoke/VarHandle" ∧ (parseMethodDescriptor yX1_upOfBeat.desc).map (fun d => d.parameters.length) = some 0 := by decide +kernel
theorem kX1_upOfBeat_0 : Cond.fieldLink RX1 19 (TX1 2).1 (TX1 2).2.1 (TX1 2).2.2.1 ∈ wsX1_upOfBeat := by decide +kernel
theorem kX1_upOfBeat_1 : ∀ w ∈ u_ws RX1 TX1 8, w ∈ wsX1_upOfBeat := by decide +kernel
theorem kX1_upOfBeat_2 : Cond.fieldLink RX1 26 (TX1 4).1 (TX1 4).2.1 (TX1 4).2.2.1 ∈ wsX1_upOfBeat := by decide +kernel
theorem kX1_upOfBeat_3 : Cond.fieldLink RX1 9 (TX1 0).1 (TX1 0).2.1 (TX1 0).2.2.1 ∈ wsX1_upOfBeat := by decide +kernel
theorem kX1_upOfBeat_4 : Cond.fieldLink RX1 29 (TX1 5).1 (TX1 5).2.1 (TX1 5).2.2.1 ∈ wsX1_upOfBeat := by decide +kernel
theorem kX1_upOfBeat_5 : Jvm.Cond.constantLong RX1 71 (100) ∈ wsX1_upOfBeat := by decide +kernel
theorem kX1_upOfBeat_6 : Jvm.Cond.constantLong RX1 77 (19) ∈ wsX1_upOfBeat := by decide +kernel
theorem kX1_upOfBeat_7 : Jvm.Cond.constantLong RX1 79 (20) ∈ wsX1_upOfBeat := by decide +kernel
set_option maxRecDepth 100000 in
set_option maxHeartbeats 4000000 in
theorem c_X1_upOfBeat {l : Launch} {D : va_G} {g : GG} {I : MI} {J : MJ} {c : Nat} {r : Int32} {I' : MI} {J' : MJ} (hc : RC c) (hf : f_X1_upOfBeat c I J = some (r, I', J')) : CON l yX1_upOfBeat wsX1_upOfBeat rmX1_upOfBeat D g (wB g I J) [.ref (g.1 c)] (some (.int r)) (wB g I' J') := by
  refine con_of (cc := cX1_upOfBeat) (maxL := 5) (ret := (some .int)) (by decide) rfl (Nat.le_of_ble_eq_true rfl) rfl rfl ?_
  intro k C hkl hkD h1 h2 h3
  subst hkl; subst hkD
  have hr : RTW k wB g cX1_upOfBeat .int (r, I', J') := rtw_of h2
  unfold f_X1_upOfBeat at hf
  refine V.loc (lv' := [(0, .ref (g.1 c))]) [0] rfl ?_
  refine r_aload_n C dX1_upOfBeat_0 rfl 0 rfl ?_
  obtain ⟨I2, J3, hq1, hf⟩ := bo2_e hf
  refine r_callV (o := none) (w' := (wB g I2 J3)) (As := []) (rest := []) C (c_X1_reckon hc hq1) dX1_upOfBeat_1 gX1_upOfBeat_X1_reckon rfl rfl rfl hd_X1_reckon ⟨by decide, by decide⟩ c (brg hc) rfl rfl rfl rfl (Nat.le_of_ble_eq_true rfl) ?_
  refine r_aload_n C dX1_upOfBeat_4 rfl 0 rfl ?_
  refine r_get C dX1_upOfBeat_5 kX1_upOfBeat_1 c (brg hc) rfl 2 (by decide) kX1_upOfBeat_0 brv_2 ?_
  refine r_if_ne (tgt := 27) C dX1_upOfBeat_8 (by decide) (fun q8 => ?_) (fun q8 => ?_)
  · have hf := itn hf q8
    refine r_iconst (v := (0 : Int32)) C dX1_upOfBeat_27 (by decide) ?_
    exact hr _ _ _ _ _ dX1_upOfBeat_28 rfl hf
  · have hf := itp hf q8
    refine r_aload_n C dX1_upOfBeat_11 rfl 0 rfl ?_
    refine r_get C dX1_upOfBeat_12 kX1_upOfBeat_1 c (brg hc) rfl 4 (by decide) kX1_upOfBeat_2 brv_4 ?_
    refine r_aload_n C dX1_upOfBeat_15 rfl 0 rfl ?_
    refine r_get C dX1_upOfBeat_16 kX1_upOfBeat_1 c (brg hc) rfl 0 (by decide) kX1_upOfBeat_3 brv_0 ?_
    refine r_iconst (v := (1 : Int32)) C dX1_upOfBeat_19 (by decide) ?_
    refine r_iald (j := 1) C dX1_upOfBeat_20 (c + 1) (brt hc) (inb_e (by decide +kernel)) (by decide +kernel) ?_
    refine r_bipush (v := (20 : Int32)) C dX1_upOfBeat_21 (by decide) ?_
    refine r_idiv C dX1_upOfBeat_23 (by decide) ?_
    refine r_icmp_ge (tgt := 29) C dX1_upOfBeat_24 (by decide) (fun q24 => ?_) (fun q24 => ?_)
    · have hf := itp hf q24
      refine r_aload_n C dX1_upOfBeat_29 rfl 0 rfl ?_
      refine r_get C dX1_upOfBeat_30 kX1_upOfBeat_1 c (brg hc) rfl 5 (by decide) kX1_upOfBeat_4 brv_5 ?_
      refine r_i2l C dX1_upOfBeat_33 ?_
      refine r_aload_n C dX1_upOfBeat_34 rfl 0 rfl ?_
      refine r_get C dX1_upOfBeat_35 kX1_upOfBeat_1 c (brg hc) rfl 0 (by decide) kX1_upOfBeat_3 brv_0 ?_
      refine r_iconst (v := (0 : Int32)) C dX1_upOfBeat_38 (by decide) ?_
      refine r_iald (j := 0) C dX1_upOfBeat_39 (c + 1) (brt hc) (inb_e (by decide +kernel)) (by decide +kernel) ?_
      refine r_i2l C dX1_upOfBeat_40 ?_
      refine r_lmul C dX1_upOfBeat_41 ?_
      refine r_aload_n C dX1_upOfBeat_42 rfl 0 rfl ?_
      refine r_aload_n C dX1_upOfBeat_43 rfl 0 rfl ?_
      refine r_get C dX1_upOfBeat_44 kX1_upOfBeat_1 c (brg hc) rfl 0 (by decide) kX1_upOfBeat_3 brv_0 ?_
      refine r_bipush (v := (10 : Int32)) C dX1_upOfBeat_47 (by decide) ?_
      refine r_iald (j := 10) C dX1_upOfBeat_49 (c + 1) (brt hc) (inb_e (by decide +kernel)) (by decide +kernel) ?_
      obtain ⟨r5, hq4, hf⟩ := bo1_e hf
      refine r_callV (o := some (.int r5)) (w' := (wB g I2 J3)) (As := [.int (I2 (c + 1) 10)]) (rest := [.long (((I2 c 5).toInt64) * ((I2 (c + 1) 0).toInt64))]) C (c_X1_workBy hc hq4) dX1_upOfBeat_50 gX1_upOfBeat_X1_workBy rfl rfl rfl hd_X1_workBy ⟨by decide, by decide⟩ c (brg hc) rfl rfl rfl rfl (Nat.le_of_ble_eq_true rfl) ?_
      refine r_i2l C dX1_upOfBeat_53 ?_
      refine r_lmul C dX1_upOfBeat_54 ?_
      refine r_ldc2 (v := (100 : Int64)) C dX1_upOfBeat_55 kX1_upOfBeat_5 ?_
      refine r_aload_n C dX1_upOfBeat_58 rfl 0 rfl ?_
      refine r_get C dX1_upOfBeat_59 kX1_upOfBeat_1 c (brg hc) rfl 0 (by decide) kX1_upOfBeat_3 brv_0 ?_
      refine r_iconst (v := (1 : Int32)) C dX1_upOfBeat_62 (by decide) ?_
      refine r_iald (j := 1) C dX1_upOfBeat_63 (c + 1) (brt hc) (inb_e (by decide +kernel)) (by decide +kernel) ?_
      refine r_i2l C dX1_upOfBeat_64 ?_
      refine r_lmul C dX1_upOfBeat_65 ?_
      obtain ⟨r7, hq6, hf⟩ := bo1_e hf
      refine r_callS (o := some (.long r7)) (w' := (wB g I2 J3)) (As := [.long ((((I2 c 5).toInt64) * ((I2 (c + 1) 0).toInt64)) * r5.toInt64), .long ((100 : Int64) * ((I2 (c + 1) 1).toInt64))]) (rest := []) C (c_X1_share hq6) dX1_upOfBeat_66 gX1_upOfBeat_X1_share rfl rfl rfl hd_X1_share ⟨by decide, by decide⟩ rfl rfl (Nat.le_of_ble_eq_true rfl) ?_
      refine r_lstore_n (lv' := [(0, .ref (g.1 c)), (1, .long r7)]) C dX1_upOfBeat_69 rfl (by decide) [1, 0] rfl ?_
      refine r_lload_n C dX1_upOfBeat_70 rfl 1 rfl ?_
      refine r_aload_n C dX1_upOfBeat_71 rfl 0 rfl ?_
      refine r_get C dX1_upOfBeat_72 kX1_upOfBeat_1 c (brg hc) rfl 0 (by decide) kX1_upOfBeat_3 brv_0 ?_
      refine r_bipush (v := (9 : Int32)) C dX1_upOfBeat_75 (by decide) ?_
      refine r_iald (j := 9) C dX1_upOfBeat_77 (c + 1) (brt hc) (inb_e (by decide +kernel)) (by decide +kernel) ?_
      refine r_i2l C dX1_upOfBeat_78 ?_
      refine r_lmul C dX1_upOfBeat_79 ?_
      refine r_ldc2 (v := (19 : Int64)) C dX1_upOfBeat_80 kX1_upOfBeat_6 ?_
      refine r_ladd C dX1_upOfBeat_83 ?_
      refine r_ldc2 (v := (20 : Int64)) C dX1_upOfBeat_84 kX1_upOfBeat_7 ?_
      refine r_ldiv C dX1_upOfBeat_87 (by decide) ?_
      refine r_nml (fun v8 ev8 => ?_)
      have hf := bnd_e hf v8 ev8
      refine r_lstore_n (lv' := [(0, .ref (g.1 c)), (1, .long r7), (3, .long v8)]) C dX1_upOfBeat_88 rfl (by decide) [1, 2, 0] rfl ?_
      refine r_lload_n C dX1_upOfBeat_89 rfl 1 rfl ?_
      refine r_lload_n C dX1_upOfBeat_90 rfl 2 rfl ?_
      refine r_lsub C dX1_upOfBeat_91 ?_
      refine r_l2i C dX1_upOfBeat_92 ?_
      exact hr _ _ _ _ _ dX1_upOfBeat_93 rfl hf
    · have hf := itn hf q24
      refine r_iconst (v := (0 : Int32)) C dX1_upOfBeat_27 (by decide) ?_
      exact hr _ _ _ _ _ dX1_upOfBeat_28 rfl hf
abbrev rmX1_spanOfBeat : Room := { frames := 2, cells := 0, slots := 0, locals := 49 }
theorem hd_X1_spanOfBeat : yX1_spanOfBeat.cls = RX1 ∧ yX1_spanOfBeat.cls ≠ "java/lang/invoke/MethodHandle" ∧ yX1_spanOfBeat.cls ≠ "java/lang/invoke/VarHandle" ∧ (parseMethodDescriptor yX1_spanOfBeat.desc).map (fun d => d.parameters.length) = some 0 := by decide +kernel
theorem kX1_spanOfBeat_0 : Cond.fieldLink RX1 32 (TX1 6).1 (TX1 6).2.1 (TX1 6).2.2.1 ∈ wsX1_spanOfBeat := by decide +kernel
theorem kX1_spanOfBeat_1 : ∀ w ∈ u_ws RX1 TX1 8, w ∈ wsX1_spanOfBeat := by decide +kernel
set_option maxRecDepth 100000 in
set_option maxHeartbeats 4000000 in
theorem c_X1_spanOfBeat {l : Launch} {D : va_G} {g : GG} {I : MI} {J : MJ} {c : Nat} {r : Int32} {I' : MI} {J' : MJ} (hc : RC c) (hf : f_X1_spanOfBeat c I J = some (r, I', J')) : CON l yX1_spanOfBeat wsX1_spanOfBeat rmX1_spanOfBeat D g (wB g I J) [.ref (g.1 c)] (some (.int r)) (wB g I' J') := by
  refine con_of (cc := cX1_spanOfBeat) (maxL := 1) (ret := (some .int)) (by decide) rfl (Nat.le_of_ble_eq_true rfl) rfl rfl ?_
  intro k C hkl hkD h1 h2 h3
  subst hkl; subst hkD
  have hr : RTW k wB g cX1_spanOfBeat .int (r, I', J') := rtw_of h2
  unfold f_X1_spanOfBeat at hf
  refine V.loc (lv' := [(0, .ref (g.1 c))]) [0] rfl ?_
  refine r_aload_n C dX1_spanOfBeat_0 rfl 0 rfl ?_
  obtain ⟨I2, J3, hq1, hf⟩ := bo2_e hf
  refine r_callV (o := none) (w' := (wB g I2 J3)) (As := []) (rest := []) C (c_X1_reckon hc hq1) dX1_spanOfBeat_1 gX1_spanOfBeat_X1_reckon rfl rfl rfl hd_X1_reckon ⟨by decide, by decide⟩ c (brg hc) rfl rfl rfl rfl (Nat.le_of_ble_eq_true rfl) ?_
  refine r_aload_n C dX1_spanOfBeat_4 rfl 0 rfl ?_
  refine r_get C dX1_spanOfBeat_5 kX1_spanOfBeat_1 c (brg hc) rfl 6 (by decide) kX1_spanOfBeat_0 brv_6 ?_
  exact hr _ _ _ _ _ dX1_spanOfBeat_8 rfl hf
abbrev rmX7_beat : Room := { frames := 3, cells := 0, slots := 0, locals := 73 }
theorem hd_X7_beat : yX7_beat.cls = RX7 ∧ yX7_beat.cls ≠ "java/lang/invoke/MethodHandle" ∧ yX7_beat.cls ≠ "java/lang/invoke/VarHandle" ∧ (parseMethodDescriptor yX7_beat.desc).map (fun d => d.parameters.length) = some 2 := by decide +kernel
theorem kX7_beat_0 : Cond.fieldLink RX7 11 (TX7 0).1 (TX7 0).2.1 (TX7 0).2.2.1 ∈ wsX7_beat := by decide +kernel
theorem kX7_beat_1 : ∀ w ∈ u_ws RX7 TX7 13, w ∈ wsX7_beat := by decide +kernel
set_option maxRecDepth 100000 in
set_option maxHeartbeats 4000000 in
theorem c_X7_beat {l : Launch} {D : va_G} {g : GG} {I : MI} {J : MJ} {a1 : Int32} {a2 : Int32} {r : Int32} {I' : MI} {J' : MJ} (hf : f_X7_beat I J a1 a2 = some (r, I', J')) : CON l yX7_beat wsX7_beat rmX7_beat D g (wB g I J) [.ref (g.1 0), .int a1, .int a2] (some (.int r)) (wB g I' J') := by
  refine con_of (cc := cX7_beat) (maxL := 4) (ret := (some .int)) (by decide) rfl (Nat.le_of_ble_eq_true rfl) rfl rfl ?_
  intro k C hkl hkD h1 h2 h3
  subst hkl; subst hkD
  have hr : RTW k wB g cX7_beat .int (r, I', J') := rtw_of h2
  unfold f_X7_beat at hf
  refine V.loc (lv' := [(0, .ref (g.1 0)), (1, .int a1), (2, .int a2)]) [0, 1, 2] rfl ?_
  refine r_aload_n C dX7_beat_0 rfl 0 rfl ?_
  refine r_iload_n C dX7_beat_1 rfl 1 rfl ?_
  obtain ⟨r2, hq1, hf⟩ := bo1_e hf
  refine r_callV (o := some (.int r2)) (w' := (wB g I J)) (As := [.int a1]) (rest := []) C (c_X7_isRam hq1) dX7_beat_2 gX7_beat_X7_isRam rfl rfl rfl hd_X7_isRam ⟨by decide, by decide⟩ 0 bg_0 rfl rfl rfl rfl (Nat.le_of_ble_eq_true rfl) ?_
  refine r_if_eq (tgt := 17) C dX7_beat_5 (by decide) (fun q5 => ?_) (fun q5 => ?_)
  · have hf := itp hf q5
    refine r_iconst (v := (-1 : Int32)) C dX7_beat_17 (by decide) ?_
    exact hr _ _ _ _ _ dX7_beat_18 rfl hf
  · have hf := itn hf q5
    refine r_iload_n C dX7_beat_8 rfl 2 rfl ?_
    refine r_iconst (v := (0 : Int32)) C dX7_beat_9 (by decide) ?_
    refine r_iconst (v := (4 : Int32)) C dX7_beat_10 (by decide) ?_
    obtain ⟨r4, hq3, hf⟩ := bo1_e hf
    refine r_callS (o := some (.int r4)) (w' := (wB g I J)) (As := [.int a2, .int (0 : Int32), .int (4 : Int32)]) (rest := []) C (c_X7_within hq3) dX7_beat_11 gX7_beat_X7_within rfl rfl rfl hd_X7_within ⟨by decide, by decide⟩ rfl rfl (Nat.le_of_ble_eq_true rfl) ?_
    refine r_if_ne (tgt := 19) C dX7_beat_14 (by decide) (fun q14 => ?_) (fun q14 => ?_)
    · have hf := itn hf q14
      refine r_aload_n C dX7_beat_19 rfl 0 rfl ?_
      refine r_get C dX7_beat_20 kX7_beat_1 0 bg_0 rfl 0 (by decide) kX7_beat_0 bv_0_0 ?_
      refine r_iload_n C dX7_beat_23 rfl 1 rfl ?_
      obtain ⟨h5, hf⟩ := chk_e hf
      refine r_aald C dX7_beat_24 1 bg_1 (inb_e h5) rfl ?_
      refine r_astore_n (lv' := [(0, .ref (g.1 0)), (1, .int a1), (2, .int a2), (3, .ref (g.1 (rc a1)))]) C dX7_beat_25 rfl (by decide) [1, 2, 3, 0] rfl ?_
      refine r_aload_n C dX7_beat_26 rfl 3 rfl ?_
      obtain ⟨r9, I7, J8, hq6, hf⟩ := bo3_e hf
      refine r_callV (o := some (.int r9)) (w' := (wB g I7 J8)) (As := []) (rest := []) C (c_X1_stalls (rc_of (inb_e h5)) hq6) dX7_beat_27 gX7_beat_X1_stalls rfl rfl rfl hd_X1_stalls ⟨by decide, by decide⟩ (rc a1) (brg (rc_of (inb_e h5))) rfl rfl rfl rfl (Nat.le_of_ble_eq_true rfl) ?_
      refine r_if_eq (tgt := 36) C dX7_beat_30 (by decide) (fun q30 => ?_) (fun q30 => ?_)
      · have hf := itp hf q30
        refine r_iload_n C dX7_beat_36 rfl 2 rfl ?_
        by_cases q37_0 : a2 = (0 : Int32)
        · have hf := itp hf q37_0
          refine r_tabIn (tgt := 68) C dX7_beat_37 (by rw [q37_0]; decide) (by rw [q37_0]; decide) (by rw [q37_0]; rfl) (by decide) ?_
          refine r_aload_n C dX7_beat_68 rfl 3 rfl ?_
          obtain ⟨r13, I11, J12, hq10, hf⟩ := bo3_e hf
          refine r_callV (o := some (.int r13)) (w' := (wB g I11 J12)) (As := []) (rest := []) C (c_X1_shutTick (rc_of (inb_e h5)) hq10) dX7_beat_69 gX7_beat_X1_shutTick rfl rfl rfl hd_X1_shutTick ⟨by decide, by decide⟩ (rc a1) (brg (rc_of (inb_e h5))) rfl rfl rfl rfl (Nat.le_of_ble_eq_true rfl) ?_
          exact hr _ _ _ _ _ dX7_beat_72 rfl hf
        have hf := itn hf q37_0
        by_cases q37_1 : a2 = (1 : Int32)
        · have hf := itp hf q37_1
          refine r_tabIn (tgt := 73) C dX7_beat_37 (by rw [q37_1]; decide) (by rw [q37_1]; decide) (by rw [q37_1]; rfl) (by decide) ?_
          refine r_aload_n C dX7_beat_73 rfl 3 rfl ?_
          obtain ⟨r17, I15, J16, hq14, hf⟩ := bo3_e hf
          refine r_callV (o := some (.int r17)) (w' := (wB g I15 J16)) (As := []) (rest := []) C (c_X1_shutSpeed (rc_of (inb_e h5)) hq14) dX7_beat_74 gX7_beat_X1_shutSpeed rfl rfl rfl hd_X1_shutSpeed ⟨by decide, by decide⟩ (rc a1) (brg (rc_of (inb_e h5))) rfl rfl rfl rfl (Nat.le_of_ble_eq_true rfl) ?_
          exact hr _ _ _ _ _ dX7_beat_77 rfl hf
        have hf := itn hf q37_1
        by_cases q37_2 : a2 = (2 : Int32)
        · have hf := itp hf q37_2
          refine r_tabIn (tgt := 78) C dX7_beat_37 (by rw [q37_2]; decide) (by rw [q37_2]; decide) (by rw [q37_2]; rfl) (by decide) ?_
          refine r_aload_n C dX7_beat_78 rfl 3 rfl ?_
          obtain ⟨r21, I19, J20, hq18, hf⟩ := bo3_e hf
          refine r_callV (o := some (.int r21)) (w' := (wB g I19 J20)) (As := []) (rest := []) C (c_X1_wasteOfBeat (rc_of (inb_e h5)) hq18) dX7_beat_79 gX7_beat_X1_wasteOfBeat rfl rfl rfl hd_X1_wasteOfBeat ⟨by decide, by decide⟩ (rc a1) (brg (rc_of (inb_e h5))) rfl rfl rfl rfl (Nat.le_of_ble_eq_true rfl) ?_
          exact hr _ _ _ _ _ dX7_beat_82 rfl hf
        have hf := itn hf q37_2
        by_cases q37_3 : a2 = (3 : Int32)
        · have hf := itp hf q37_3
          refine r_tabIn (tgt := 83) C dX7_beat_37 (by rw [q37_3]; decide) (by rw [q37_3]; decide) (by rw [q37_3]; rfl) (by decide) ?_
          refine r_aload_n C dX7_beat_83 rfl 3 rfl ?_
          obtain ⟨r25, I23, J24, hq22, hf⟩ := bo3_e hf
          refine r_callV (o := some (.int r25)) (w' := (wB g I23 J24)) (As := []) (rest := []) C (c_X1_upOfBeat (rc_of (inb_e h5)) hq22) dX7_beat_84 gX7_beat_X1_upOfBeat rfl rfl rfl hd_X1_upOfBeat ⟨by decide, by decide⟩ (rc a1) (brg (rc_of (inb_e h5))) rfl rfl rfl rfl (Nat.le_of_ble_eq_true rfl) ?_
          exact hr _ _ _ _ _ dX7_beat_87 rfl hf
        have hf := itn hf q37_3
        refine r_tabOut (tgt := 88) C dX7_beat_37 (by have a0 := lv_neT q37_0 (a := 0) (by decide); have a1 := lv_neT q37_1 (a := 1) (by decide); have a2 := lv_neT q37_2 (a := 2) (by decide); have a3 := lv_neT q37_3 (a := 3) (by decide); omega) (by decide) ?_
        refine r_aload_n C dX7_beat_88 rfl 3 rfl ?_
        obtain ⟨r29, I27, J28, hq26, hf⟩ := bo3_e hf
        refine r_callV (o := some (.int r29)) (w' := (wB g I27 J28)) (As := []) (rest := []) C (c_X1_spanOfBeat (rc_of (inb_e h5)) hq26) dX7_beat_89 gX7_beat_X1_spanOfBeat rfl rfl rfl hd_X1_spanOfBeat ⟨by decide, by decide⟩ (rc a1) (brg (rc_of (inb_e h5))) rfl rfl rfl rfl (Nat.le_of_ble_eq_true rfl) ?_
        exact hr _ _ _ _ _ dX7_beat_92 rfl hf
      · have hf := itn hf q30
        refine r_bipush (v := (-9 : Int32)) C dX7_beat_33 (by decide) ?_
        exact hr _ _ _ _ _ dX7_beat_35 rfl hf
    · have hf := itp hf q14
      refine r_iconst (v := (-1 : Int32)) C dX7_beat_17 (by decide) ?_
      exact hr _ _ _ _ _ dX7_beat_18 rfl hf
abbrev rmX1_beatsAnHour : Room := { frames := 2, cells := 0, slots := 0, locals := 49 }
theorem hd_X1_beatsAnHour : yX1_beatsAnHour.cls = RX1 ∧ yX1_beatsAnHour.cls ≠ "java/lang/invoke/MethodHandle" ∧ yX1_beatsAnHour.cls ≠ "java/lang/invoke/VarHandle" ∧ (parseMethodDescriptor yX1_beatsAnHour.desc).map (fun d => d.parameters.length) = some 0 := by decide +kernel
theorem kX1_beatsAnHour_0 : Cond.fieldLink RX1 35 (TX1 7).1 (TX1 7).2.1 (TX1 7).2.2.1 ∈ wsX1_beatsAnHour := by decide +kernel
theorem kX1_beatsAnHour_1 : ∀ w ∈ u_ws RX1 TX1 8, w ∈ wsX1_beatsAnHour := by decide +kernel
set_option maxRecDepth 100000 in
set_option maxHeartbeats 4000000 in
theorem c_X1_beatsAnHour {l : Launch} {D : va_G} {g : GG} {I : MI} {J : MJ} {c : Nat} {r : Int32} {I' : MI} {J' : MJ} (hc : RC c) (hf : f_X1_beatsAnHour c I J = some (r, I', J')) : CON l yX1_beatsAnHour wsX1_beatsAnHour rmX1_beatsAnHour D g (wB g I J) [.ref (g.1 c)] (some (.int r)) (wB g I' J') := by
  refine con_of (cc := cX1_beatsAnHour) (maxL := 1) (ret := (some .int)) (by decide) rfl (Nat.le_of_ble_eq_true rfl) rfl rfl ?_
  intro k C hkl hkD h1 h2 h3
  subst hkl; subst hkD
  have hr : RTW k wB g cX1_beatsAnHour .int (r, I', J') := rtw_of h2
  unfold f_X1_beatsAnHour at hf
  refine V.loc (lv' := [(0, .ref (g.1 c))]) [0] rfl ?_
  refine r_aload_n C dX1_beatsAnHour_0 rfl 0 rfl ?_
  obtain ⟨I2, J3, hq1, hf⟩ := bo2_e hf
  refine r_callV (o := none) (w' := (wB g I2 J3)) (As := []) (rest := []) C (c_X1_reckon hc hq1) dX1_beatsAnHour_1 gX1_beatsAnHour_X1_reckon rfl rfl rfl hd_X1_reckon ⟨by decide, by decide⟩ c (brg hc) rfl rfl rfl rfl (Nat.le_of_ble_eq_true rfl) ?_
  refine r_aload_n C dX1_beatsAnHour_4 rfl 0 rfl ?_
  refine r_get C dX1_beatsAnHour_5 kX1_beatsAnHour_1 c (brg hc) rfl 7 (by decide) kX1_beatsAnHour_0 brv_7 ?_
  exact hr _ _ _ _ _ dX1_beatsAnHour_8 rfl hf
abbrev rmX1_wasteAnHour : Room := { frames := 3, cells := 0, slots := 0, locals := 69 }
theorem hd_X1_wasteAnHour : yX1_wasteAnHour.cls = RX1 ∧ yX1_wasteAnHour.cls ≠ "java/lang/invoke/MethodHandle" ∧ yX1_wasteAnHour.cls ≠ "java/lang/invoke/VarHandle" ∧ (parseMethodDescriptor yX1_wasteAnHour.desc).map (fun d => d.parameters.length) = some 0 := by decide +kernel
theorem kX1_wasteAnHour_0 : Cond.fieldLink RX1 29 (TX1 5).1 (TX1 5).2.1 (TX1 5).2.2.1 ∈ wsX1_wasteAnHour := by decide +kernel
theorem kX1_wasteAnHour_1 : ∀ w ∈ u_ws RX1 TX1 8, w ∈ wsX1_wasteAnHour := by decide +kernel
theorem kX1_wasteAnHour_2 : Cond.fieldLink RX1 9 (TX1 0).1 (TX1 0).2.1 (TX1 0).2.2.1 ∈ wsX1_wasteAnHour := by decide +kernel
set_option maxRecDepth 100000 in
set_option maxHeartbeats 4000000 in
theorem c_X1_wasteAnHour {l : Launch} {D : va_G} {g : GG} {I : MI} {J : MJ} {c : Nat} {r : Int32} {I' : MI} {J' : MJ} (hc : RC c) (hf : f_X1_wasteAnHour c I J = some (r, I', J')) : CON l yX1_wasteAnHour wsX1_wasteAnHour rmX1_wasteAnHour D g (wB g I J) [.ref (g.1 c)] (some (.int r)) (wB g I' J') := by
  refine con_of (cc := cX1_wasteAnHour) (maxL := 1) (ret := (some .int)) (by decide) rfl (Nat.le_of_ble_eq_true rfl) rfl rfl ?_
  intro k C hkl hkD h1 h2 h3
  subst hkl; subst hkD
  have hr : RTW k wB g cX1_wasteAnHour .int (r, I', J') := rtw_of h2
  unfold f_X1_wasteAnHour at hf
  refine V.loc (lv' := [(0, .ref (g.1 c))]) [0] rfl ?_
  refine r_aload_n C dX1_wasteAnHour_0 rfl 0 rfl ?_
  obtain ⟨r4, I2, J3, hq1, hf⟩ := bo3_e hf
  refine r_callV (o := some (.int r4)) (w' := (wB g I2 J3)) (As := []) (rest := []) C (c_X1_stalls hc hq1) dX1_wasteAnHour_1 gX1_wasteAnHour_X1_stalls rfl rfl rfl hd_X1_stalls ⟨by decide, by decide⟩ c (brg hc) rfl rfl rfl rfl (Nat.le_of_ble_eq_true rfl) ?_
  refine r_if_eq (tgt := 42) C dX1_wasteAnHour_4 (by decide) (fun q4 => ?_) (fun q4 => ?_)
  · have hf := itp hf q4
    refine r_aload_n C dX1_wasteAnHour_42 rfl 0 rfl ?_
    obtain ⟨r8, I6, J7, hq5, hf⟩ := bo3_e hf
    refine r_callV (o := some (.int r8)) (w' := (wB g I6 J7)) (As := []) (rest := []) C (c_X1_beatsAnHour hc hq5) dX1_wasteAnHour_43 gX1_wasteAnHour_X1_beatsAnHour rfl rfl rfl hd_X1_beatsAnHour ⟨by decide, by decide⟩ c (brg hc) rfl rfl rfl rfl (Nat.le_of_ble_eq_true rfl) ?_
    refine r_aload_n C dX1_wasteAnHour_46 rfl 0 rfl ?_
    refine r_get C dX1_wasteAnHour_47 kX1_wasteAnHour_1 c (brg hc) rfl 5 (by decide) kX1_wasteAnHour_0 brv_5 ?_
    refine r_imul C dX1_wasteAnHour_50 ?_
    exact hr _ _ _ _ _ dX1_wasteAnHour_51 rfl hf
  · have hf := itn hf q4
    refine r_bipush (v := (36 : Int32)) C dX1_wasteAnHour_7 (by decide) ?_
    refine r_aload_n C dX1_wasteAnHour_9 rfl 0 rfl ?_
    refine r_get C dX1_wasteAnHour_10 kX1_wasteAnHour_1 c (brg hc) rfl 0 (by decide) kX1_wasteAnHour_2 brv_0 ?_
    refine r_iconst (v := (3 : Int32)) C dX1_wasteAnHour_13 (by decide) ?_
    refine r_iald (j := 3) C dX1_wasteAnHour_14 (c + 1) (brt hc) (inb_e (by decide +kernel)) (by decide +kernel) ?_
    refine r_imul C dX1_wasteAnHour_15 ?_
    refine r_aload_n C dX1_wasteAnHour_16 rfl 0 rfl ?_
    refine r_get C dX1_wasteAnHour_17 kX1_wasteAnHour_1 c (brg hc) rfl 0 (by decide) kX1_wasteAnHour_2 brv_0 ?_
    refine r_iconst (v := (5 : Int32)) C dX1_wasteAnHour_20 (by decide) ?_
    refine r_iald (j := 5) C dX1_wasteAnHour_21 (c + 1) (brt hc) (inb_e (by decide +kernel)) (by decide +kernel) ?_
    refine r_aload_n C dX1_wasteAnHour_22 rfl 0 rfl ?_
    refine r_get C dX1_wasteAnHour_23 kX1_wasteAnHour_1 c (brg hc) rfl 0 (by decide) kX1_wasteAnHour_2 brv_0 ?_
    refine r_bipush (v := (7 : Int32)) C dX1_wasteAnHour_26 (by decide) ?_
    refine r_iald (j := 7) C dX1_wasteAnHour_28 (c + 1) (brt hc) (inb_e (by decide +kernel)) (by decide +kernel) ?_
    refine r_iadd C dX1_wasteAnHour_29 ?_
    refine r_imul C dX1_wasteAnHour_30 ?_
    refine r_aload_n C dX1_wasteAnHour_31 rfl 0 rfl ?_
    refine r_get C dX1_wasteAnHour_32 kX1_wasteAnHour_1 c (brg hc) rfl 0 (by decide) kX1_wasteAnHour_2 brv_0 ?_
    refine r_iconst (v := (0 : Int32)) C dX1_wasteAnHour_35 (by decide) ?_
    refine r_iald (j := 0) C dX1_wasteAnHour_36 (c + 1) (brt hc) (inb_e (by decide +kernel)) (by decide +kernel) ?_
    refine r_imul C dX1_wasteAnHour_37 ?_
    refine r_bipush (v := (10 : Int32)) C dX1_wasteAnHour_38 (by decide) ?_
    refine r_idiv C dX1_wasteAnHour_40 (by decide) ?_
    exact hr _ _ _ _ _ dX1_wasteAnHour_41 rfl hf
abbrev rmX1_upAnHour : Room := { frames := 3, cells := 0, slots := 0, locals := 73 }
theorem hd_X1_upAnHour : yX1_upAnHour.cls = RX1 ∧ yX1_upAnHour.cls ≠ "java/lang/invoke/MethodHandle" ∧ yX1_upAnHour.cls ≠ "java/lang/invoke/VarHandle" ∧ (parseMethodDescriptor yX1_upAnHour.desc).map (fun d => d.parameters.length) = some 0 := by decide +kernel
set_option maxRecDepth 100000 in
set_option maxHeartbeats 4000000 in
theorem c_X1_upAnHour {l : Launch} {D : va_G} {g : GG} {I : MI} {J : MJ} {c : Nat} {r : Int32} {I' : MI} {J' : MJ} (hc : RC c) (hf : f_X1_upAnHour c I J = some (r, I', J')) : CON l yX1_upAnHour wsX1_upAnHour rmX1_upAnHour D g (wB g I J) [.ref (g.1 c)] (some (.int r)) (wB g I' J') := by
  refine con_of (cc := cX1_upAnHour) (maxL := 1) (ret := (some .int)) (by decide) rfl (Nat.le_of_ble_eq_true rfl) rfl rfl ?_
  intro k C hkl hkD h1 h2 h3
  subst hkl; subst hkD
  have hr : RTW k wB g cX1_upAnHour .int (r, I', J') := rtw_of h2
  unfold f_X1_upAnHour at hf
  refine V.loc (lv' := [(0, .ref (g.1 c))]) [0] rfl ?_
  refine r_aload_n C dX1_upAnHour_0 rfl 0 rfl ?_
  obtain ⟨r4, I2, J3, hq1, hf⟩ := bo3_e hf
  refine r_callV (o := some (.int r4)) (w' := (wB g I2 J3)) (As := []) (rest := []) C (c_X1_beatsAnHour hc hq1) dX1_upAnHour_1 gX1_upAnHour_X1_beatsAnHour rfl rfl rfl hd_X1_beatsAnHour ⟨by decide, by decide⟩ c (brg hc) rfl rfl rfl rfl (Nat.le_of_ble_eq_true rfl) ?_
  refine r_aload_n C dX1_upAnHour_4 rfl 0 rfl ?_
  obtain ⟨r8, I6, J7, hq5, hf⟩ := bo3_e hf
  refine r_callV (o := some (.int r8)) (w' := (wB g I6 J7)) (As := []) (rest := [.int r4]) C (c_X1_upOfBeat hc hq5) dX1_upAnHour_5 gX1_upAnHour_X1_upOfBeat rfl rfl rfl hd_X1_upOfBeat ⟨by decide, by decide⟩ c (brg hc) rfl rfl rfl rfl (Nat.le_of_ble_eq_true rfl) ?_
  refine r_imul C dX1_upAnHour_8 ?_
  exact hr _ _ _ _ _ dX1_upAnHour_9 rfl hf
abbrev rmX1_drawsAnHour : Room := { frames := 4, cells := 0, slots := 0, locals := 93 }
theorem hd_X1_drawsAnHour : yX1_drawsAnHour.cls = RX1 ∧ yX1_drawsAnHour.cls ≠ "java/lang/invoke/MethodHandle" ∧ yX1_drawsAnHour.cls ≠ "java/lang/invoke/VarHandle" ∧ (parseMethodDescriptor yX1_drawsAnHour.desc).map (fun d => d.parameters.length) = some 0 := by decide +kernel
set_option maxRecDepth 100000 in
set_option maxHeartbeats 4000000 in
theorem c_X1_drawsAnHour {l : Launch} {D : va_G} {g : GG} {I : MI} {J : MJ} {c : Nat} {r : Int32} {I' : MI} {J' : MJ} (hc : RC c) (hf : f_X1_drawsAnHour c I J = some (r, I', J')) : CON l yX1_drawsAnHour wsX1_drawsAnHour rmX1_drawsAnHour D g (wB g I J) [.ref (g.1 c)] (some (.int r)) (wB g I' J') := by
  refine con_of (cc := cX1_drawsAnHour) (maxL := 1) (ret := (some .int)) (by decide) rfl (Nat.le_of_ble_eq_true rfl) rfl rfl ?_
  intro k C hkl hkD h1 h2 h3
  subst hkl; subst hkD
  have hr : RTW k wB g cX1_drawsAnHour .int (r, I', J') := rtw_of h2
  unfold f_X1_drawsAnHour at hf
  refine V.loc (lv' := [(0, .ref (g.1 c))]) [0] rfl ?_
  refine r_aload_n C dX1_drawsAnHour_0 rfl 0 rfl ?_
  obtain ⟨r4, I2, J3, hq1, hf⟩ := bo3_e hf
  refine r_callV (o := some (.int r4)) (w' := (wB g I2 J3)) (As := []) (rest := []) C (c_X1_wasteAnHour hc hq1) dX1_drawsAnHour_1 gX1_drawsAnHour_X1_wasteAnHour rfl rfl rfl hd_X1_wasteAnHour ⟨by decide, by decide⟩ c (brg hc) rfl rfl rfl rfl (Nat.le_of_ble_eq_true rfl) ?_
  refine r_aload_n C dX1_drawsAnHour_4 rfl 0 rfl ?_
  obtain ⟨r8, I6, J7, hq5, hf⟩ := bo3_e hf
  refine r_callV (o := some (.int r8)) (w' := (wB g I6 J7)) (As := []) (rest := [.int r4]) C (c_X1_upAnHour hc hq5) dX1_drawsAnHour_5 gX1_drawsAnHour_X1_upAnHour rfl rfl rfl hd_X1_upAnHour ⟨by decide, by decide⟩ c (brg hc) rfl rfl rfl rfl (Nat.le_of_ble_eq_true rfl) ?_
  refine r_iadd C dX1_drawsAnHour_8 ?_
  exact hr _ _ _ _ _ dX1_drawsAnHour_9 rfl hf
abbrev rmX7_hourly : Room := { frames := 5, cells := 0, slots := 0, locals := 113 }
theorem hd_X7_hourly : yX7_hourly.cls = RX7 ∧ yX7_hourly.cls ≠ "java/lang/invoke/MethodHandle" ∧ yX7_hourly.cls ≠ "java/lang/invoke/VarHandle" ∧ (parseMethodDescriptor yX7_hourly.desc).map (fun d => d.parameters.length) = some 2 := by decide +kernel
theorem kX7_hourly_0 : Cond.fieldLink RX7 11 (TX7 0).1 (TX7 0).2.1 (TX7 0).2.2.1 ∈ wsX7_hourly := by decide +kernel
theorem kX7_hourly_1 : ∀ w ∈ u_ws RX7 TX7 13, w ∈ wsX7_hourly := by decide +kernel
set_option maxRecDepth 100000 in
set_option maxHeartbeats 4000000 in
theorem c_X7_hourly {l : Launch} {D : va_G} {g : GG} {I : MI} {J : MJ} {a1 : Int32} {a2 : Int32} {r : Int32} {I' : MI} {J' : MJ} (hf : f_X7_hourly I J a1 a2 = some (r, I', J')) : CON l yX7_hourly wsX7_hourly rmX7_hourly D g (wB g I J) [.ref (g.1 0), .int a1, .int a2] (some (.int r)) (wB g I' J') := by
  refine con_of (cc := cX7_hourly) (maxL := 4) (ret := (some .int)) (by decide) rfl (Nat.le_of_ble_eq_true rfl) rfl rfl ?_
  intro k C hkl hkD h1 h2 h3
  subst hkl; subst hkD
  have hr : RTW k wB g cX7_hourly .int (r, I', J') := rtw_of h2
  unfold f_X7_hourly at hf
  refine V.loc (lv' := [(0, .ref (g.1 0)), (1, .int a1), (2, .int a2)]) [0, 1, 2] rfl ?_
  refine r_aload_n C dX7_hourly_0 rfl 0 rfl ?_
  refine r_iload_n C dX7_hourly_1 rfl 1 rfl ?_
  obtain ⟨r2, hq1, hf⟩ := bo1_e hf
  refine r_callV (o := some (.int r2)) (w' := (wB g I J)) (As := [.int a1]) (rest := []) C (c_X7_isRam hq1) dX7_hourly_2 gX7_hourly_X7_isRam rfl rfl rfl hd_X7_isRam ⟨by decide, by decide⟩ 0 bg_0 rfl rfl rfl rfl (Nat.le_of_ble_eq_true rfl) ?_
  refine r_if_eq (tgt := 17) C dX7_hourly_5 (by decide) (fun q5 => ?_) (fun q5 => ?_)
  · have hf := itp hf q5
    refine r_iconst (v := (-1 : Int32)) C dX7_hourly_17 (by decide) ?_
    exact hr _ _ _ _ _ dX7_hourly_18 rfl hf
  · have hf := itn hf q5
    refine r_iload_n C dX7_hourly_8 rfl 2 rfl ?_
    refine r_iconst (v := (0 : Int32)) C dX7_hourly_9 (by decide) ?_
    refine r_iconst (v := (3 : Int32)) C dX7_hourly_10 (by decide) ?_
    obtain ⟨r4, hq3, hf⟩ := bo1_e hf
    refine r_callS (o := some (.int r4)) (w' := (wB g I J)) (As := [.int a2, .int (0 : Int32), .int (3 : Int32)]) (rest := []) C (c_X7_within hq3) dX7_hourly_11 gX7_hourly_X7_within rfl rfl rfl hd_X7_within ⟨by decide, by decide⟩ rfl rfl (Nat.le_of_ble_eq_true rfl) ?_
    refine r_if_ne (tgt := 19) C dX7_hourly_14 (by decide) (fun q14 => ?_) (fun q14 => ?_)
    · have hf := itn hf q14
      refine r_aload_n C dX7_hourly_19 rfl 0 rfl ?_
      refine r_get C dX7_hourly_20 kX7_hourly_1 0 bg_0 rfl 0 (by decide) kX7_hourly_0 bv_0_0 ?_
      refine r_iload_n C dX7_hourly_23 rfl 1 rfl ?_
      obtain ⟨h5, hf⟩ := chk_e hf
      refine r_aald C dX7_hourly_24 1 bg_1 (inb_e h5) rfl ?_
      refine r_astore_n (lv' := [(0, .ref (g.1 0)), (1, .int a1), (2, .int a2), (3, .ref (g.1 (rc a1)))]) C dX7_hourly_25 rfl (by decide) [1, 2, 3, 0] rfl ?_
      refine r_iload_n C dX7_hourly_26 rfl 2 rfl ?_
      by_cases q27_0 : a2 = (0 : Int32)
      · have hf := itp hf q27_0
        refine r_tabIn (tgt := 52) C dX7_hourly_27 (by rw [q27_0]; decide) (by rw [q27_0]; decide) (by rw [q27_0]; rfl) (by decide) ?_
        refine r_aload_n C dX7_hourly_52 rfl 3 rfl ?_
        obtain ⟨r9, I7, J8, hq6, hf⟩ := bo3_e hf
        refine r_callV (o := some (.int r9)) (w' := (wB g I7 J8)) (As := []) (rest := []) C (c_X1_beatsAnHour (rc_of (inb_e h5)) hq6) dX7_hourly_53 gX7_hourly_X1_beatsAnHour rfl rfl rfl hd_X1_beatsAnHour ⟨by decide, by decide⟩ (rc a1) (brg (rc_of (inb_e h5))) rfl rfl rfl rfl (Nat.le_of_ble_eq_true rfl) ?_
        exact hr _ _ _ _ _ dX7_hourly_56 rfl hf
      have hf := itn hf q27_0
      by_cases q27_1 : a2 = (1 : Int32)
      · have hf := itp hf q27_1
        refine r_tabIn (tgt := 57) C dX7_hourly_27 (by rw [q27_1]; decide) (by rw [q27_1]; decide) (by rw [q27_1]; rfl) (by decide) ?_
        refine r_aload_n C dX7_hourly_57 rfl 3 rfl ?_
        obtain ⟨r13, I11, J12, hq10, hf⟩ := bo3_e hf
        refine r_callV (o := some (.int r13)) (w' := (wB g I11 J12)) (As := []) (rest := []) C (c_X1_wasteAnHour (rc_of (inb_e h5)) hq10) dX7_hourly_58 gX7_hourly_X1_wasteAnHour rfl rfl rfl hd_X1_wasteAnHour ⟨by decide, by decide⟩ (rc a1) (brg (rc_of (inb_e h5))) rfl rfl rfl rfl (Nat.le_of_ble_eq_true rfl) ?_
        exact hr _ _ _ _ _ dX7_hourly_61 rfl hf
      have hf := itn hf q27_1
      by_cases q27_2 : a2 = (2 : Int32)
      · have hf := itp hf q27_2
        refine r_tabIn (tgt := 62) C dX7_hourly_27 (by rw [q27_2]; decide) (by rw [q27_2]; decide) (by rw [q27_2]; rfl) (by decide) ?_
        refine r_aload_n C dX7_hourly_62 rfl 3 rfl ?_
        obtain ⟨r17, I15, J16, hq14, hf⟩ := bo3_e hf
        refine r_callV (o := some (.int r17)) (w' := (wB g I15 J16)) (As := []) (rest := []) C (c_X1_upAnHour (rc_of (inb_e h5)) hq14) dX7_hourly_63 gX7_hourly_X1_upAnHour rfl rfl rfl hd_X1_upAnHour ⟨by decide, by decide⟩ (rc a1) (brg (rc_of (inb_e h5))) rfl rfl rfl rfl (Nat.le_of_ble_eq_true rfl) ?_
        exact hr _ _ _ _ _ dX7_hourly_66 rfl hf
      have hf := itn hf q27_2
      refine r_tabOut (tgt := 67) C dX7_hourly_27 (by have a0 := lv_neT q27_0 (a := 0) (by decide); have a1 := lv_neT q27_1 (a := 1) (by decide); have a2 := lv_neT q27_2 (a := 2) (by decide); omega) (by decide) ?_
      refine r_aload_n C dX7_hourly_67 rfl 3 rfl ?_
      obtain ⟨r21, I19, J20, hq18, hf⟩ := bo3_e hf
      refine r_callV (o := some (.int r21)) (w' := (wB g I19 J20)) (As := []) (rest := []) C (c_X1_drawsAnHour (rc_of (inb_e h5)) hq18) dX7_hourly_68 gX7_hourly_X1_drawsAnHour rfl rfl rfl hd_X1_drawsAnHour ⟨by decide, by decide⟩ (rc a1) (brg (rc_of (inb_e h5))) rfl rfl rfl rfl (Nat.le_of_ble_eq_true rfl) ?_
      exact hr _ _ _ _ _ dX7_hourly_71 rfl hf
    · have hf := itp hf q14
      refine r_iconst (v := (-1 : Int32)) C dX7_hourly_17 (by decide) ?_
      exact hr _ _ _ _ _ dX7_hourly_18 rfl hf
abbrev rmX7_isMonth : Room := { frames := 1, cells := 0, slots := 0, locals := 22 }
theorem hd_X7_isMonth : yX7_isMonth.cls ≠ "java/lang/invoke/MethodHandle" ∧ yX7_isMonth.cls ≠ "java/lang/invoke/VarHandle" ∧ (parseMethodDescriptor yX7_isMonth.desc).map (fun d => d.parameters.length) = some 1 := by decide +kernel
set_option maxRecDepth 100000 in
set_option maxHeartbeats 4000000 in
theorem c_X7_isMonth {l : Launch} {D : va_G} {g : GG} {I : MI} {J : MJ} {a0 : Int32} {r : Int32} (hf : f_X7_isMonth a0 = some r) : CON l yX7_isMonth wsX7_isMonth rmX7_isMonth D g (wB g I J) [.int a0] (some (.int r)) (wB g I J) := by
  refine con_of (cc := cX7_isMonth) (maxL := 1) (ret := (some .boolean)) (by decide) rfl (Nat.le_of_ble_eq_true rfl) rfl rfl ?_
  intro k C hkl hkD h1 h2 h3
  subst hkl; subst hkD
  have hr : RRW k (wB g I J) cX7_isMonth .boolean r := rrw_of h2
  unfold f_X7_isMonth at hf
  refine V.loc (lv' := [(0, .int a0)]) [0] rfl ?_
  refine r_iload_n C dX7_isMonth_0 rfl 0 rfl ?_
  refine r_iconst (v := (0 : Int32)) C dX7_isMonth_1 (by decide) ?_
  refine r_bipush (v := (11 : Int32)) C dX7_isMonth_2 (by decide) ?_
  obtain ⟨r2, hq1, hf⟩ := bo1_e hf
  refine r_callS (o := some (.int r2)) (w' := (wB g I J)) (As := [.int a0, .int (0 : Int32), .int (11 : Int32)]) (rest := []) C (c_X7_within hq1) dX7_isMonth_4 gX7_isMonth_X7_within rfl rfl rfl hd_X7_within ⟨by decide, by decide⟩ rfl rfl (Nat.le_of_ble_eq_true rfl) ?_
  obtain ⟨hb, hf⟩ := chk_e hf
  exact hr _ _ _ dX7_isMonth_7 (isB_e hb) hf
