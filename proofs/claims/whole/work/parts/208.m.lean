abbrev rmX0_admit : Room := { frames := 0, cells := 0, slots := 0, locals := 0 }
theorem hd_X0_admit : yX0_admit.cls = RX0 ∧ yX0_admit.cls ≠ "java/lang/invoke/MethodHandle" ∧ yX0_admit.cls ≠ "java/lang/invoke/VarHandle" ∧ (parseMethodDescriptor yX0_admit.desc).map (fun d => d.parameters.length) = some 1 := by decide +kernel
theorem kX0_admit_0 : Cond.fieldLink RX0 15 (TX0 1).1 (TX0 1).2.1 (TX0 1).2.2.1 ∈ wsX0_admit := by decide +kernel
theorem kX0_admit_1 : ∀ w ∈ u_ws RX0 TX0 3, w ∈ wsX0_admit := by decide +kernel
theorem kX0_admit_2 : Cond.fieldLink RX0 19 (TX0 2).1 (TX0 2).2.1 (TX0 2).2.2.1 ∈ wsX0_admit := by decide +kernel
theorem kX0_admit_3 : Cond.fieldLink RX0 11 (TX0 0).1 (TX0 0).2.1 (TX0 0).2.2.1 ∈ wsX0_admit := by decide +kernel
set_option maxRecDepth 100000 in
set_option maxHeartbeats 4000000 in
theorem mB_X0_admit_34 {k : CT} {g : GG} (C : CX k cX0_admit 3 RX0 wsX0_admit rmX0_admit g) {ρ : (MI × MJ)} (hr : RTV k wB g cX0_admit ρ) {kk34 : MI → MJ → Int32 → Int32 → Option (MI × MJ)} (hk34 : ∀ (I : MI) (J : MJ) (x1 : Int32) (x2 : Int32), kk34 I J x1 x2 = some ρ → V k (wB g I J) 34 [(0, .ref (g.1 30)), (1, .int x1), (2, .int x2)] []) : ∀ (I : MI) (J : MJ) (x1 : Int32) (x2 : Int32), LB_X0_admit_34 kk34 I J x1 x2 = some ρ → V k (wB g I J) 34 [(0, .ref (g.1 30)), (1, .int x1), (2, .int x2)] [] := by
  intro I J x1 x2 hf
  unfold LB_X0_admit_34 at hf
  refine r_iload_n C dX0_admit_34 rfl 2 rfl ?_
  refine r_iconst (v := (4 : Int32)) C dX0_admit_35 (by decide) ?_
  refine r_icmp_ge (tgt := 65) C dX0_admit_36 (by decide) (fun q36 => ?_) (fun q36 => ?_)
  · have hf := itp hf q36
    exact hr _ _ _ _ dX0_admit_65 hf
  · have hf := itn hf q36
    refine r_aload_n C dX0_admit_39 rfl 0 rfl ?_
    refine r_get C dX0_admit_40 kX0_admit_1 30 bg_30 rfl 0 (by decide) kX0_admit_3 bv_30_0 ?_
    refine r_iload_n C dX0_admit_43 rfl 2 rfl ?_
    refine r_iconst (v := (4 : Int32)) C dX0_admit_44 (by decide) ?_
    refine r_imul C dX0_admit_45 ?_
    refine r_iload_n C dX0_admit_46 rfl 1 rfl ?_
    refine r_iconst (v := (2 : Int32)) C dX0_admit_47 (by decide) ?_
    refine r_iload_n C dX0_admit_48 rfl 2 rfl ?_
    refine r_imul C dX0_admit_49 ?_
    refine r_ishr C dX0_admit_50 ?_
    refine r_iconst (v := (3 : Int32)) C dX0_admit_51 (by decide) ?_
    refine r_iand C dX0_admit_52 ?_
    refine r_iadd C dX0_admit_53 ?_
    refine r_dup2 C dX0_admit_54 rfl rfl ?_
    obtain ⟨h1, hf⟩ := chk_e hf
    refine r_iald (j := ((x2 * (4 : Int32)) + ((x1 >>> (((2 : Int32) * x2) &&& 31)) &&& (3 : Int32))).toNatClampNeg) C dX0_admit_55 31 bg_31 (inb_e h1) rfl ?_
    refine r_iconst (v := (1 : Int32)) C dX0_admit_56 (by decide) ?_
    refine r_iadd C dX0_admit_57 ?_
    obtain ⟨h2, hf⟩ := chk_e hf
    refine r_iast (j := ((x2 * (4 : Int32)) + ((x1 >>> (((2 : Int32) * x2) &&& 31)) &&& (3 : Int32))).toNatClampNeg) C dX0_admit_58 31 bg_31 (inb_e h2) rfl ba_31 ?_
    refine nmIB (fun I3 eI3 => ?_)
    have hf := bnd_e hf I3 eI3
    obtain ⟨v4, ev4⟩ : ∃ z : Int32, z = x2 + (1 : Int32) := ⟨_, rfl⟩
    have hf := bnd_e hf v4 ev4
    refine r_iinc (v := v4) (lv' := [(0, .ref (g.1 30)), (1, .int x1), (2, .int v4)]) C dX0_admit_59 2 rfl (by rw [ev4]; rfl) (by decide) [1, 2, 0] rfl ?_
    refine r_goto (tgt := 34) C dX0_admit_62 (by decide) ?_
    exact hk34 _ _ _ _ hf
theorem mL_X0_admit_34 {k : CT} {g : GG} (C : CX k cX0_admit 3 RX0 wsX0_admit rmX0_admit g) {ρ : (MI × MJ)} (hr : RTV k wB g cX0_admit ρ) : ∀ (n : Nat) (I : MI) (J : MJ) (x1 : Int32) (x2 : Int32), LP_X0_admit_34 n I J x1 x2 = some ρ → V k (wB g I J) 34 [(0, .ref (g.1 30)), (1, .int x1), (2, .int x2)] [] := by
  intro n
  induction n with
  | zero => intro I J x1 x2 hf; cases hf
  | succ n ih => intro I J x1 x2 hf; exact mB_X0_admit_34 C hr (fun I J x1 x2 h => ih I J x1 x2 h) I J x1 x2 hf
set_option maxRecDepth 100000 in
set_option maxHeartbeats 4000000 in
theorem c_X0_admit {l : Launch} {D : va_G} {g : GG} {I : MI} {J : MJ} {a1 : Int32} {I' : MI} {J' : MJ} (hf : f_X0_admit I J a1 = some (I', J')) : CON l yX0_admit wsX0_admit rmX0_admit D g (wB g I J) [.ref (g.1 30), .int a1] none (wB g I' J') := by
  refine con_of (cc := cX0_admit) (maxL := 3) (ret := none) (by decide) rfl (Nat.le_of_ble_eq_true rfl) rfl rfl ?_
  intro k C hkl hkD h1 h2 h3
  subst hkl; subst hkD
  have hr : RTV k wB g cX0_admit (I', J') := rtv_of h1
  unfold f_X0_admit at hf
  refine V.loc (lv' := [(0, .ref (g.1 30)), (1, .int a1)]) [0, 1] rfl ?_
  refine r_aload_n C dX0_admit_0 rfl 0 rfl ?_
  refine r_dup C dX0_admit_1 rfl ?_
  refine r_get C dX0_admit_2 kX0_admit_1 30 bg_30 rfl 1 (by decide) kX0_admit_0 bv_30_1 ?_
  refine r_iconst (v := (1 : Int32)) C dX0_admit_5 (by decide) ?_
  refine r_iadd C dX0_admit_6 ?_
  refine r_put (ty := .int) C dX0_admit_7 kX0_admit_1 tyX0 tyX0_ok nmX0 30 bg_30 rfl 1 (by decide) kX0_admit_0 rfl rfl rfl rfl (Nat.le_of_ble_eq_true rfl) bs_30_1 ?_
  refine nmIB (fun I1 eI1 => ?_)
  have hf := bnd_e hf I1 eI1
  refine r_aload_n C dX0_admit_10 rfl 0 rfl ?_
  refine r_get C dX0_admit_11 kX0_admit_1 30 bg_30 rfl 2 (by decide) kX0_admit_2 bv_30_2 ?_
  refine r_bipush (v := (-9 : Int32)) C dX0_admit_14 (by decide) ?_
  refine r_icmp_eq (tgt := 27) C dX0_admit_16 (by decide) (fun q16 => ?_) (fun q16 => ?_)
  · have hf := itp hf q16
    refine r_aload_n C dX0_admit_27 rfl 0 rfl ?_
    refine r_iload_n C dX0_admit_28 rfl 1 rfl ?_
    refine r_put (ty := .int) C dX0_admit_29 kX0_admit_1 tyX0 tyX0_ok nmX0 30 bg_30 rfl 2 (by decide) kX0_admit_2 rfl rfl rfl rfl (Nat.le_of_ble_eq_true rfl) bs_30_2 ?_
    refine nmIB (fun I2 eI2 => ?_)
    have hf := bnd_e hf I2 eI2
    refine r_iconst (v := (0 : Int32)) C dX0_admit_32 (by decide) ?_
    refine r_istore_n (lv' := [(0, .ref (g.1 30)), (1, .int a1), (2, .int (0 : Int32))]) C dX0_admit_33 rfl (by decide) [1, 2, 0] rfl ?_
    exact mL_X0_admit_34 C hr FU _ _ _ _ hf
  · have hf := itn hf q16
    refine r_iload_n C dX0_admit_19 rfl 1 rfl ?_
    refine r_aload_n C dX0_admit_20 rfl 0 rfl ?_
    refine r_get C dX0_admit_21 kX0_admit_1 30 bg_30 rfl 2 (by decide) kX0_admit_2 bv_30_2 ?_
    refine r_icmp_ge (tgt := 32) C dX0_admit_24 (by decide) (fun q24 => ?_) (fun q24 => ?_)
    · have hf := itp hf q24
      refine r_iconst (v := (0 : Int32)) C dX0_admit_32 (by decide) ?_
      refine r_istore_n (lv' := [(0, .ref (g.1 30)), (1, .int a1), (2, .int (0 : Int32))]) C dX0_admit_33 rfl (by decide) [1, 2, 0] rfl ?_
      exact mL_X0_admit_34 C hr FU _ _ _ _ hf
    · have hf := itn hf q24
      refine r_aload_n C dX0_admit_27 rfl 0 rfl ?_
      refine r_iload_n C dX0_admit_28 rfl 1 rfl ?_
      refine r_put (ty := .int) C dX0_admit_29 kX0_admit_1 tyX0 tyX0_ok nmX0 30 bg_30 rfl 2 (by decide) kX0_admit_2 rfl rfl rfl rfl (Nat.le_of_ble_eq_true rfl) bs_30_2 ?_
      refine nmIB (fun I3 eI3 => ?_)
      have hf := bnd_e hf I3 eI3
      refine r_iconst (v := (0 : Int32)) C dX0_admit_32 (by decide) ?_
      refine r_istore_n (lv' := [(0, .ref (g.1 30)), (1, .int a1), (2, .int (0 : Int32))]) C dX0_admit_33 rfl (by decide) [1, 2, 0] rfl ?_
      exact mL_X0_admit_34 C hr FU _ _ _ _ hf
abbrev rmX7_tryAllCauses : Room := { frames := 5, cells := 0, slots := 0, locals := 118 }
theorem hd_X7_tryAllCauses : yX7_tryAllCauses.cls = RX7 ∧ yX7_tryAllCauses.cls ≠ "java/lang/invoke/MethodHandle" ∧ yX7_tryAllCauses.cls ≠ "java/lang/invoke/VarHandle" ∧ (parseMethodDescriptor yX7_tryAllCauses.desc).map (fun d => d.parameters.length) = some 1 := by decide +kernel
theorem kX7_tryAllCauses_0 : Cond.fieldLink RX7 62 (TX7 8).1 (TX7 8).2.1 (TX7 8).2.2.1 ∈ wsX7_tryAllCauses := by decide +kernel
theorem kX7_tryAllCauses_1 : ∀ w ∈ u_ws RX7 TX7 13, w ∈ wsX7_tryAllCauses := by decide +kernel
theorem kX7_tryAllCauses_2 : Cond.fieldLink RX7 20 (TX7 2).1 (TX7 2).2.1 (TX7 2).2.2.1 ∈ wsX7_tryAllCauses := by decide +kernel
theorem kX7_tryAllCauses_3 : Cond.fieldLink RX7 11 (TX7 0).1 (TX7 0).2.1 (TX7 0).2.2.1 ∈ wsX7_tryAllCauses := by decide +kernel
theorem kX7_tryAllCauses_4 : Cond.fieldLink RX7 55 (TX7 7).1 (TX7 7).2.1 (TX7 7).2.2.1 ∈ wsX7_tryAllCauses := by decide +kernel
set_option maxRecDepth 100000 in
set_option maxHeartbeats 4000000 in
theorem mB_X7_tryAllCauses_30 {k : CT} {g : GG} (C : CX k cX7_tryAllCauses 5 RX7 wsX7_tryAllCauses rmX7_tryAllCauses g) {ρ : (MI × MJ)} (hr : RTV k wB g cX7_tryAllCauses ρ) {kk22 : MI → MJ → Int32 → Int32 → Option (MI × MJ)} {kk30 : MI → MJ → Int32 → Int32 → Int32 → Option (MI × MJ)} (hk22 : ∀ (I : MI) (J : MJ) (x1 : Int32) (x2 : Int32), kk22 I J x1 x2 = some ρ → V k (wB g I J) 22 [(0, .ref (g.1 0)), (1, .int x1), (2, .int x2)] []) (hk30 : ∀ (I : MI) (J : MJ) (x1 : Int32) (x2 : Int32) (x3 : Int32), kk30 I J x1 x2 x3 = some ρ → V k (wB g I J) 30 [(0, .ref (g.1 0)), (1, .int x1), (2, .int x2), (3, .int x3)] []) : ∀ (I : MI) (J : MJ) (x1 : Int32) (x2 : Int32) (x3 : Int32), LB_X7_tryAllCauses_30 kk22 kk30 I J x1 x2 x3 = some ρ → V k (wB g I J) 30 [(0, .ref (g.1 0)), (1, .int x1), (2, .int x2), (3, .int x3)] [] := by
  intro I J x1 x2 x3 hf
  unfold LB_X7_tryAllCauses_30 at hf
  refine r_iload_n C dX7_tryAllCauses_30 rfl 3 rfl ?_
  refine r_bipush (v := (16 : Int32)) C dX7_tryAllCauses_31 (by decide) ?_
  refine r_icmp_ge (tgt := 83) C dX7_tryAllCauses_33 (by decide) (fun q33 => ?_) (fun q33 => ?_)
  · have hf := itp hf q33
    obtain ⟨v1, ev1⟩ : ∃ z : Int32, z = x2 + (1 : Int32) := ⟨_, rfl⟩
    have hf := bnd_e hf v1 ev1
    refine r_iinc (v := v1) (lv' := [(0, .ref (g.1 0)), (1, .int x1), (2, .int v1), (3, .int x3)]) C dX7_tryAllCauses_83 2 rfl (by rw [ev1]; rfl) (by decide) [1, 2, 0, 3] rfl ?_
    refine r_goto (tgt := 22) C dX7_tryAllCauses_86 (by decide) ?_
    refine V.loc [0, 1, 2] rfl ?_
    exact hk22 _ _ _ _ hf
  · have hf := itn hf q33
    refine r_iload_n C dX7_tryAllCauses_36 rfl 2 rfl ?_
    refine r_bipush (v := (16 : Int32)) C dX7_tryAllCauses_37 (by decide) ?_
    refine r_iload_n C dX7_tryAllCauses_39 rfl 3 rfl ?_
    refine r_imul C dX7_tryAllCauses_40 ?_
    refine r_iadd C dX7_tryAllCauses_41 ?_
    refine r_nmi (fun v2 ev2 => ?_)
    have hf := bnd_e hf v2 ev2
    refine r_istore (lv' := [(0, .ref (g.1 0)), (1, .int x1), (2, .int x2), (3, .int x3), (4, .int v2)]) C dX7_tryAllCauses_42 (by decide) [1, 2, 3, 4, 0] rfl ?_
    refine r_aload_n C dX7_tryAllCauses_44 rfl 0 rfl ?_
    refine r_get C dX7_tryAllCauses_45 kX7_tryAllCauses_1 0 bg_0 rfl 2 (by decide) kX7_tryAllCauses_2 bv_0_2 ?_
    refine r_iload C dX7_tryAllCauses_48 4 rfl ?_
    obtain ⟨I4, J5, hq3, hf⟩ := bo2_e hf
    refine r_callV (o := none) (w' := (wB g I4 J5)) (As := [.int v2]) (rest := []) C (c_X1_suffer rc10 hq3) dX7_tryAllCauses_50 gX7_tryAllCauses_X1_suffer rfl rfl rfl hd_X1_suffer ⟨by decide, by decide⟩ 10 (brg rc10) rfl rfl rfl rfl (Nat.le_of_ble_eq_true rfl) ?_
    refine r_aload_n C dX7_tryAllCauses_53 rfl 0 rfl ?_
    refine r_get C dX7_tryAllCauses_54 kX7_tryAllCauses_1 0 bg_0 rfl 7 (by decide) kX7_tryAllCauses_4 bv_0_7 ?_
    refine r_iload_n C dX7_tryAllCauses_57 rfl 1 rfl ?_
    refine r_aload_n C dX7_tryAllCauses_58 rfl 0 rfl ?_
    refine r_get C dX7_tryAllCauses_59 kX7_tryAllCauses_1 0 bg_0 rfl 2 (by decide) kX7_tryAllCauses_2 bv_0_2 ?_
    obtain ⟨r9, I7, J8, hq6, hf⟩ := bo3_e hf
    refine r_callV (o := some (.int r9)) (w' := (wB g I7 J8)) (As := [.int x1, .ref (g.1 10)]) (rest := []) C (c_X2_agreeWith rc10 hq6) dX7_tryAllCauses_62 gX7_tryAllCauses_X2_agreeWith rfl rfl rfl hd_X2_agreeWith ⟨by decide, by decide⟩ 26 bg_26 rfl rfl rfl rfl (Nat.le_of_ble_eq_true rfl) ?_
    refine r_if_eq (tgt := 77) C dX7_tryAllCauses_65 (by decide) (fun q65 => ?_) (fun q65 => ?_)
    · have hf := itp hf q65
      obtain ⟨v10, ev10⟩ : ∃ z : Int32, z = x3 + (1 : Int32) := ⟨_, rfl⟩
      have hf := bnd_e hf v10 ev10
      refine r_iinc (v := v10) (lv' := [(0, .ref (g.1 0)), (1, .int x1), (2, .int x2), (3, .int v10), (4, .int v2)]) C dX7_tryAllCauses_77 3 rfl (by rw [ev10]; rfl) (by decide) [1, 2, 3, 0, 4] rfl ?_
      refine r_goto (tgt := 30) C dX7_tryAllCauses_80 (by decide) ?_
      refine V.loc [0, 1, 2, 3] rfl ?_
      exact hk30 _ _ _ _ _ hf
    · have hf := itn hf q65
      refine r_aload_n C dX7_tryAllCauses_68 rfl 0 rfl ?_
      refine r_get C dX7_tryAllCauses_69 kX7_tryAllCauses_1 0 bg_0 rfl 8 (by decide) kX7_tryAllCauses_0 bv_0_8 ?_
      refine r_iload C dX7_tryAllCauses_72 4 rfl ?_
      obtain ⟨I12, J13, hq11, hf⟩ := bo2_e hf
      refine r_callV (o := none) (w' := (wB g I12 J13)) (As := [.int v2]) (rest := []) C (c_X0_admit hq11) dX7_tryAllCauses_74 gX7_tryAllCauses_X0_admit rfl rfl rfl hd_X0_admit ⟨by decide, by decide⟩ 30 bg_30 rfl rfl rfl rfl (Nat.le_of_ble_eq_true rfl) ?_
      obtain ⟨v14, ev14⟩ : ∃ z : Int32, z = x3 + (1 : Int32) := ⟨_, rfl⟩
      have hf := bnd_e hf v14 ev14
      refine r_iinc (v := v14) (lv' := [(0, .ref (g.1 0)), (1, .int x1), (2, .int x2), (3, .int v14), (4, .int v2)]) C dX7_tryAllCauses_77 3 rfl (by rw [ev14]; rfl) (by decide) [1, 2, 3, 0, 4] rfl ?_
      refine r_goto (tgt := 30) C dX7_tryAllCauses_80 (by decide) ?_
      refine V.loc [0, 1, 2, 3] rfl ?_
      exact hk30 _ _ _ _ _ hf
theorem mL_X7_tryAllCauses_30 {k : CT} {g : GG} (C : CX k cX7_tryAllCauses 5 RX7 wsX7_tryAllCauses rmX7_tryAllCauses g) {ρ : (MI × MJ)} (hr : RTV k wB g cX7_tryAllCauses ρ) {kk22 : MI → MJ → Int32 → Int32 → Option (MI × MJ)} (hk22 : ∀ (I : MI) (J : MJ) (x1 : Int32) (x2 : Int32), kk22 I J x1 x2 = some ρ → V k (wB g I J) 22 [(0, .ref (g.1 0)), (1, .int x1), (2, .int x2)] []) : ∀ (n : Nat) (I : MI) (J : MJ) (x1 : Int32) (x2 : Int32) (x3 : Int32), LP_X7_tryAllCauses_30 kk22 n I J x1 x2 x3 = some ρ → V k (wB g I J) 30 [(0, .ref (g.1 0)), (1, .int x1), (2, .int x2), (3, .int x3)] [] := by
  intro n
  induction n with
  | zero => intro I J x1 x2 x3 hf; cases hf
  | succ n ih => intro I J x1 x2 x3 hf; exact mB_X7_tryAllCauses_30 C hr hk22 (fun I J x1 x2 x3 h => ih I J x1 x2 x3 h) I J x1 x2 x3 hf
set_option maxRecDepth 100000 in
set_option maxHeartbeats 4000000 in
theorem mB_X7_tryAllCauses_22 {k : CT} {g : GG} (C : CX k cX7_tryAllCauses 5 RX7 wsX7_tryAllCauses rmX7_tryAllCauses g) {ρ : (MI × MJ)} (hr : RTV k wB g cX7_tryAllCauses ρ) {kk22 : MI → MJ → Int32 → Int32 → Option (MI × MJ)} (hk22 : ∀ (I : MI) (J : MJ) (x1 : Int32) (x2 : Int32), kk22 I J x1 x2 = some ρ → V k (wB g I J) 22 [(0, .ref (g.1 0)), (1, .int x1), (2, .int x2)] []) : ∀ (I : MI) (J : MJ) (x1 : Int32) (x2 : Int32), LB_X7_tryAllCauses_22 kk22 I J x1 x2 = some ρ → V k (wB g I J) 22 [(0, .ref (g.1 0)), (1, .int x1), (2, .int x2)] [] := by
  intro I J x1 x2 hf
  unfold LB_X7_tryAllCauses_22 at hf
  refine r_iload_n C dX7_tryAllCauses_22 rfl 2 rfl ?_
  refine r_bipush (v := (16 : Int32)) C dX7_tryAllCauses_23 (by decide) ?_
  refine r_icmp_ge (tgt := 89) C dX7_tryAllCauses_25 (by decide) (fun q25 => ?_) (fun q25 => ?_)
  · have hf := itp hf q25
    exact hr _ _ _ _ dX7_tryAllCauses_89 hf
  · have hf := itn hf q25
    refine r_iconst (v := (0 : Int32)) C dX7_tryAllCauses_28 (by decide) ?_
    refine r_istore_n (lv' := [(0, .ref (g.1 0)), (1, .int x1), (2, .int x2), (3, .int (0 : Int32))]) C dX7_tryAllCauses_29 rfl (by decide) [1, 2, 3, 0] rfl ?_
    exact mL_X7_tryAllCauses_30 C hr hk22 FU _ _ _ _ _ hf
theorem mL_X7_tryAllCauses_22 {k : CT} {g : GG} (C : CX k cX7_tryAllCauses 5 RX7 wsX7_tryAllCauses rmX7_tryAllCauses g) {ρ : (MI × MJ)} (hr : RTV k wB g cX7_tryAllCauses ρ) : ∀ (n : Nat) (I : MI) (J : MJ) (x1 : Int32) (x2 : Int32), LP_X7_tryAllCauses_22 n I J x1 x2 = some ρ → V k (wB g I J) 22 [(0, .ref (g.1 0)), (1, .int x1), (2, .int x2)] [] := by
  intro n
  induction n with
  | zero => intro I J x1 x2 hf; cases hf
  | succ n ih => intro I J x1 x2 hf; exact mB_X7_tryAllCauses_22 C hr (fun I J x1 x2 h => ih I J x1 x2 h) I J x1 x2 hf
set_option maxRecDepth 100000 in
set_option maxHeartbeats 4000000 in
theorem c_X7_tryAllCauses {l : Launch} {D : va_G} {g : GG} {I : MI} {J : MJ} {a1 : Int32} {I' : MI} {J' : MJ} (hf : f_X7_tryAllCauses I J a1 = some (I', J')) : CON l yX7_tryAllCauses wsX7_tryAllCauses rmX7_tryAllCauses D g (wB g I J) [.ref (g.1 0), .int a1] none (wB g I' J') := by
  refine con_of (cc := cX7_tryAllCauses) (maxL := 5) (ret := none) (by decide) rfl (Nat.le_of_ble_eq_true rfl) rfl rfl ?_
  intro k C hkl hkD h1 h2 h3
  subst hkl; subst hkD
  have hr : RTV k wB g cX7_tryAllCauses (I', J') := rtv_of h1
  unfold f_X7_tryAllCauses at hf
  refine V.loc (lv' := [(0, .ref (g.1 0)), (1, .int a1)]) [0, 1] rfl ?_
  refine r_aload_n C dX7_tryAllCauses_0 rfl 0 rfl ?_
  refine r_get C dX7_tryAllCauses_1 kX7_tryAllCauses_1 0 bg_0 rfl 8 (by decide) kX7_tryAllCauses_0 bv_0_8 ?_
  obtain ⟨I2, J3, hq1, hf⟩ := bo2_e hf
  refine r_callV (o := none) (w' := (wB g I2 J3)) (As := []) (rest := []) C (c_X0_begin hq1) dX7_tryAllCauses_4 gX7_tryAllCauses_X0_begin rfl rfl rfl hd_X0_begin ⟨by decide, by decide⟩ 30 bg_30 rfl rfl rfl rfl (Nat.le_of_ble_eq_true rfl) ?_
  refine r_aload_n C dX7_tryAllCauses_7 rfl 0 rfl ?_
  refine r_get C dX7_tryAllCauses_8 kX7_tryAllCauses_1 0 bg_0 rfl 2 (by decide) kX7_tryAllCauses_2 bv_0_2 ?_
  refine r_aload_n C dX7_tryAllCauses_11 rfl 0 rfl ?_
  refine r_get C dX7_tryAllCauses_12 kX7_tryAllCauses_1 0 bg_0 rfl 0 (by decide) kX7_tryAllCauses_3 bv_0_0 ?_
  refine r_iload_n C dX7_tryAllCauses_15 rfl 1 rfl ?_
  obtain ⟨h4, hf⟩ := chk_e hf
  refine r_aald C dX7_tryAllCauses_16 1 bg_1 (inb_e h4) rfl ?_
  obtain ⟨I6, J7, hq5, hf⟩ := bo2_e hf
  refine r_callV (o := none) (w' := (wB g I6 J7)) (As := [.ref (g.1 (rc a1))]) (rest := []) C (c_X1_becomeLike rc10 (rc_of (inb_e h4)) hq5) dX7_tryAllCauses_17 gX7_tryAllCauses_X1_becomeLike rfl rfl rfl hd_X1_becomeLike ⟨by decide, by decide⟩ 10 (brg rc10) rfl rfl rfl rfl (Nat.le_of_ble_eq_true rfl) ?_
  refine r_iconst (v := (0 : Int32)) C dX7_tryAllCauses_20 (by decide) ?_
  refine r_istore_n (lv' := [(0, .ref (g.1 0)), (1, .int a1), (2, .int (0 : Int32))]) C dX7_tryAllCauses_21 rfl (by decide) [1, 2, 0] rfl ?_
  exact mL_X7_tryAllCauses_22 C hr FU _ _ _ _ hf
abbrev rmX0_greatest : Room := { frames := 1, cells := 0, slots := 0, locals := 21 }
theorem hd_X0_greatest : yX0_greatest.cls = RX0 ∧ yX0_greatest.cls ≠ "java/lang/invoke/MethodHandle" ∧ yX0_greatest.cls ≠ "java/lang/invoke/VarHandle" ∧ (parseMethodDescriptor yX0_greatest.desc).map (fun d => d.parameters.length) = some 1 := by decide +kernel
theorem kX0_greatest_0 : Cond.fieldLink RX0 11 (TX0 0).1 (TX0 0).2.1 (TX0 0).2.2.1 ∈ wsX0_greatest := by decide +kernel
theorem kX0_greatest_1 : ∀ w ∈ u_ws RX0 TX0 3, w ∈ wsX0_greatest := by decide +kernel
theorem kX0_greatest_2 : Cond.methodLink RX0 32 Lib.Math.max.name ∈ wsX0_greatest := by decide +kernel
theorem kX0_greatest_3 : Cond.static Lib.Math.max.name ∈ wsX0_greatest := by decide +kernel
theorem kX0_greatest_4 : Cond.initialized "java/lang/Math" ∈ wsX0_greatest := by decide +kernel
theorem kX0_greatest_5 : Cond.code Lib.Math.max.name Lib.Math.max.code 2 (some .int) ∈ wsX0_greatest := by decide +kernel
set_option maxRecDepth 100000 in
set_option maxHeartbeats 4000000 in
theorem mB_X0_greatest_4 {k : CT} {g : GG} {I : MI} {J : MJ} (C : CX k cX0_greatest 4 RX0 wsX0_greatest rmX0_greatest g) {ρ : Int32} (hr : RRW k (wB g I J) cX0_greatest .int ρ) {kk4 : Int32 → Int32 → Int32 → Option Int32} (hk4 : ∀ (x1 : Int32) (x2 : Int32) (x3 : Int32), kk4 x1 x2 x3 = some ρ → V k (wB g I J) 4 [(0, .ref (g.1 30)), (1, .int x1), (2, .int x2), (3, .int x3)] []) : ∀ (x1 : Int32) (x2 : Int32) (x3 : Int32), LB_X0_greatest_4 I J kk4 x1 x2 x3 = some ρ → V k (wB g I J) 4 [(0, .ref (g.1 30)), (1, .int x1), (2, .int x2), (3, .int x3)] [] := by
  intro x1 x2 x3 hf
  unfold LB_X0_greatest_4 at hf
  refine r_iload_n C dX0_greatest_4 rfl 3 rfl ?_
  refine r_iconst (v := (4 : Int32)) C dX0_greatest_5 (by decide) ?_
  refine r_icmp_ge (tgt := 30) C dX0_greatest_6 (by decide) (fun q6 => ?_) (fun q6 => ?_)
  · have hf := itp hf q6
    refine r_iload_n C dX0_greatest_30 rfl 2 rfl ?_
    exact hr _ _ _ dX0_greatest_31 rfl hf
  · have hf := itn hf q6
    refine r_iload_n C dX0_greatest_9 rfl 2 rfl ?_
    refine r_aload_n C dX0_greatest_10 rfl 0 rfl ?_
    refine r_get C dX0_greatest_11 kX0_greatest_1 30 bg_30 rfl 0 (by decide) kX0_greatest_0 bv_30_0 ?_
    refine r_iload_n C dX0_greatest_14 rfl 1 rfl ?_
    refine r_iconst (v := (4 : Int32)) C dX0_greatest_15 (by decide) ?_
    refine r_imul C dX0_greatest_16 ?_
    refine r_iload_n C dX0_greatest_17 rfl 3 rfl ?_
    refine r_iadd C dX0_greatest_18 ?_
    obtain ⟨h1, hf⟩ := chk_e hf
    refine r_iald (j := ((x1 * (4 : Int32)) + x3).toNatClampNeg) C dX0_greatest_19 31 bg_31 (inb_e h1) rfl ?_
    refine r_mmax C dX0_greatest_20 kX0_greatest_2 kX0_greatest_3 kX0_greatest_4 kX0_greatest_5 (by decide) (Nat.le_of_ble_eq_true rfl) ?_
    refine r_nmi (fun v2 ev2 => ?_)
    have hf := bnd_e hf v2 ev2
    refine r_istore_n (lv' := [(0, .ref (g.1 30)), (1, .int x1), (2, .int v2), (3, .int x3)]) C dX0_greatest_23 rfl (by decide) [1, 2, 0, 3] rfl ?_
    obtain ⟨v3, ev3⟩ : ∃ z : Int32, z = x3 + (1 : Int32) := ⟨_, rfl⟩
    have hf := bnd_e hf v3 ev3
    refine r_iinc (v := v3) (lv' := [(0, .ref (g.1 30)), (1, .int x1), (2, .int v2), (3, .int v3)]) C dX0_greatest_24 3 rfl (by rw [ev3]; rfl) (by decide) [1, 2, 3, 0] rfl ?_
    refine r_goto (tgt := 4) C dX0_greatest_27 (by decide) ?_
    exact hk4 _ _ _ hf
theorem mL_X0_greatest_4 {k : CT} {g : GG} {I : MI} {J : MJ} (C : CX k cX0_greatest 4 RX0 wsX0_greatest rmX0_greatest g) {ρ : Int32} (hr : RRW k (wB g I J) cX0_greatest .int ρ) : ∀ (n : Nat) (x1 : Int32) (x2 : Int32) (x3 : Int32), LP_X0_greatest_4 I J n x1 x2 x3 = some ρ → V k (wB g I J) 4 [(0, .ref (g.1 30)), (1, .int x1), (2, .int x2), (3, .int x3)] [] := by
  intro n
  induction n with
  | zero => intro x1 x2 x3 hf; cases hf
  | succ n ih => intro x1 x2 x3 hf; exact mB_X0_greatest_4 C hr (fun x1 x2 x3 h => ih x1 x2 x3 h) x1 x2 x3 hf
set_option maxRecDepth 100000 in
set_option maxHeartbeats 4000000 in
theorem c_X0_greatest {l : Launch} {D : va_G} {g : GG} {I : MI} {J : MJ} {a1 : Int32} {r : Int32} (hf : f_X0_greatest I J a1 = some r) : CON l yX0_greatest wsX0_greatest rmX0_greatest D g (wB g I J) [.ref (g.1 30), .int a1] (some (.int r)) (wB g I J) := by
  refine con_of (cc := cX0_greatest) (maxL := 4) (ret := (some .int)) (by decide) rfl (Nat.le_of_ble_eq_true rfl) rfl rfl ?_
  intro k C hkl hkD h1 h2 h3
  subst hkl; subst hkD
  have hr : RRW k (wB g I J) cX0_greatest .int r := rrw_of h2
  unfold f_X0_greatest at hf
  refine V.loc (lv' := [(0, .ref (g.1 30)), (1, .int a1)]) [0, 1] rfl ?_
  refine r_iconst (v := (0 : Int32)) C dX0_greatest_0 (by decide) ?_
  refine r_istore_n (lv' := [(0, .ref (g.1 30)), (1, .int a1), (2, .int (0 : Int32))]) C dX0_greatest_1 rfl (by decide) [1, 2, 0] rfl ?_
  refine r_iconst (v := (0 : Int32)) C dX0_greatest_2 (by decide) ?_
  refine r_istore_n (lv' := [(0, .ref (g.1 30)), (1, .int a1), (2, .int (0 : Int32)), (3, .int (0 : Int32))]) C dX0_greatest_3 rfl (by decide) [1, 2, 3, 0] rfl ?_
  exact mL_X0_greatest_4 C hr FU _ _ _ hf
abbrev rmX0_nextLook : Room := { frames := 2, cells := 0, slots := 0, locals := 44 }
theorem hd_X0_nextLook : yX0_nextLook.cls = RX0 ∧ yX0_nextLook.cls ≠ "java/lang/invoke/MethodHandle" ∧ yX0_nextLook.cls ≠ "java/lang/invoke/VarHandle" ∧ (parseMethodDescriptor yX0_nextLook.desc).map (fun d => d.parameters.length) = some 0 := by decide +kernel
theorem kX0_nextLook_0 : Cond.fieldLink RX0 15 (TX0 1).1 (TX0 1).2.1 (TX0 1).2.2.1 ∈ wsX0_nextLook := by decide +kernel
theorem kX0_nextLook_1 : ∀ w ∈ u_ws RX0 TX0 3, w ∈ wsX0_nextLook := by decide +kernel
set_option maxRecDepth 100000 in
set_option maxHeartbeats 4000000 in
theorem mB_X0_nextLook_15 {k : CT} {g : GG} {I : MI} {J : MJ} (C : CX k cX0_nextLook 3 RX0 wsX0_nextLook rmX0_nextLook g) {ρ : Int32} (hr : RRW k (wB g I J) cX0_nextLook .int ρ) {kk15 : Int32 → Int32 → Option Int32} (hk15 : ∀ (x1 : Int32) (x2 : Int32), kk15 x1 x2 = some ρ → V k (wB g I J) 15 [(0, .ref (g.1 30)), (1, .int x1), (2, .int x2)] []) : ∀ (x1 : Int32) (x2 : Int32), LB_X0_nextLook_15 I J kk15 x1 x2 = some ρ → V k (wB g I J) 15 [(0, .ref (g.1 30)), (1, .int x1), (2, .int x2)] [] := by
  intro x1 x2 hf
  unfold LB_X0_nextLook_15 at hf
  refine r_iload_n C dX0_nextLook_15 rfl 2 rfl ?_
  refine r_iconst (v := (4 : Int32)) C dX0_nextLook_16 (by decide) ?_
  refine r_icmp_ge (tgt := 41) C dX0_nextLook_17 (by decide) (fun q17 => ?_) (fun q17 => ?_)
  · have hf := itp hf q17
    refine r_iload_n C dX0_nextLook_41 rfl 1 rfl ?_
    exact hr _ _ _ dX0_nextLook_42 rfl hf
  · have hf := itn hf q17
    refine r_aload_n C dX0_nextLook_20 rfl 0 rfl ?_
    refine r_iload_n C dX0_nextLook_21 rfl 2 rfl ?_
    obtain ⟨r2, hq1, hf⟩ := bo1_e hf
    refine r_callV (o := some (.int r2)) (w' := (wB g I J)) (As := [.int x2]) (rest := []) C (c_X0_greatest hq1) dX0_nextLook_22 gX0_nextLook_X0_greatest rfl rfl rfl hd_X0_greatest ⟨by decide, by decide⟩ 30 bg_30 rfl rfl rfl rfl (Nat.le_of_ble_eq_true rfl) ?_
    refine r_aload_n C dX0_nextLook_25 rfl 0 rfl ?_
    refine r_iload_n C dX0_nextLook_26 rfl 1 rfl ?_
    obtain ⟨r4, hq3, hf⟩ := bo1_e hf
    refine r_callV (o := some (.int r4)) (w' := (wB g I J)) (As := [.int x1]) (rest := [.int r2]) C (c_X0_greatest hq3) dX0_nextLook_27 gX0_nextLook_X0_greatest rfl rfl rfl hd_X0_greatest ⟨by decide, by decide⟩ 30 bg_30 rfl rfl rfl rfl (Nat.le_of_ble_eq_true rfl) ?_
    refine r_icmp_ge (tgt := 35) C dX0_nextLook_30 (by decide) (fun q30 => ?_) (fun q30 => ?_)
    · have hf := itp hf q30
      obtain ⟨v5, ev5⟩ : ∃ z : Int32, z = x2 + (1 : Int32) := ⟨_, rfl⟩
      have hf := bnd_e hf v5 ev5
      refine r_iinc (v := v5) (lv' := [(0, .ref (g.1 30)), (1, .int x1), (2, .int v5)]) C dX0_nextLook_35 2 rfl (by rw [ev5]; rfl) (by decide) [1, 2, 0] rfl ?_
      refine r_goto (tgt := 15) C dX0_nextLook_38 (by decide) ?_
      exact hk15 _ _ hf
    · have hf := itn hf q30
      refine r_iload_n C dX0_nextLook_33 rfl 2 rfl ?_
      refine r_istore_n (lv' := [(0, .ref (g.1 30)), (1, .int x2), (2, .int x2)]) C dX0_nextLook_34 rfl (by decide) [1, 0, 2] rfl ?_
      obtain ⟨v6, ev6⟩ : ∃ z : Int32, z = x2 + (1 : Int32) := ⟨_, rfl⟩
      have hf := bnd_e hf v6 ev6
      refine r_iinc (v := v6) (lv' := [(0, .ref (g.1 30)), (1, .int x2), (2, .int v6)]) C dX0_nextLook_35 2 rfl (by rw [ev6]; rfl) (by decide) [1, 2, 0] rfl ?_
      refine r_goto (tgt := 15) C dX0_nextLook_38 (by decide) ?_
      exact hk15 _ _ hf
theorem mL_X0_nextLook_15 {k : CT} {g : GG} {I : MI} {J : MJ} (C : CX k cX0_nextLook 3 RX0 wsX0_nextLook rmX0_nextLook g) {ρ : Int32} (hr : RRW k (wB g I J) cX0_nextLook .int ρ) : ∀ (n : Nat) (x1 : Int32) (x2 : Int32), LP_X0_nextLook_15 I J n x1 x2 = some ρ → V k (wB g I J) 15 [(0, .ref (g.1 30)), (1, .int x1), (2, .int x2)] [] := by
  intro n
  induction n with
  | zero => intro x1 x2 hf; cases hf
  | succ n ih => intro x1 x2 hf; exact mB_X0_nextLook_15 C hr (fun x1 x2 h => ih x1 x2 h) x1 x2 hf
set_option maxRecDepth 100000 in
set_option maxHeartbeats 4000000 in
theorem c_X0_nextLook {l : Launch} {D : va_G} {g : GG} {I : MI} {J : MJ} {r : Int32} (hf : f_X0_nextLook I J = some r) : CON l yX0_nextLook wsX0_nextLook rmX0_nextLook D g (wB g I J) [.ref (g.1 30)] (some (.int r)) (wB g I J) := by
  refine con_of (cc := cX0_nextLook) (maxL := 3) (ret := (some .int)) (by decide) rfl (Nat.le_of_ble_eq_true rfl) rfl rfl ?_
  intro k C hkl hkD h1 h2 h3
  subst hkl; subst hkD
  have hr : RRW k (wB g I J) cX0_nextLook .int r := rrw_of h2
  unfold f_X0_nextLook at hf
  refine V.loc (lv' := [(0, .ref (g.1 30))]) [0] rfl ?_
  refine r_aload_n C dX0_nextLook_0 rfl 0 rfl ?_
  refine r_get C dX0_nextLook_1 kX0_nextLook_1 30 bg_30 rfl 1 (by decide) kX0_nextLook_0 bv_30_1 ?_
  refine r_iconst (v := (1 : Int32)) C dX0_nextLook_4 (by decide) ?_
  refine r_icmp_gt (tgt := 11) C dX0_nextLook_5 (by decide) (fun q5 => ?_) (fun q5 => ?_)
  · have hf := itp hf q5
    refine r_iconst (v := (0 : Int32)) C dX0_nextLook_11 (by decide) ?_
    refine r_istore_n (lv' := [(0, .ref (g.1 30)), (1, .int (0 : Int32))]) C dX0_nextLook_12 rfl (by decide) [1, 0] rfl ?_
    refine r_iconst (v := (1 : Int32)) C dX0_nextLook_13 (by decide) ?_
    refine r_istore_n (lv' := [(0, .ref (g.1 30)), (1, .int (0 : Int32)), (2, .int (1 : Int32))]) C dX0_nextLook_14 rfl (by decide) [1, 2, 0] rfl ?_
    exact mL_X0_nextLook_15 C hr FU _ _ hf
  · have hf := itn hf q5
    refine r_bipush (v := (-9 : Int32)) C dX0_nextLook_8 (by decide) ?_
    exact hr _ _ _ dX0_nextLook_10 rfl hf
abbrev rmX7_ails : Room := { frames := 6, cells := 0, slots := 0, locals := 142 }
theorem hd_X7_ails : yX7_ails.cls = RX7 ∧ yX7_ails.cls ≠ "java/lang/invoke/MethodHandle" ∧ yX7_ails.cls ≠ "java/lang/invoke/VarHandle" ∧ (parseMethodDescriptor yX7_ails.desc).map (fun d => d.parameters.length) = some 2 := by decide +kernel
theorem kX7_ails_0 : Cond.fieldLink RX7 62 (TX7 8).1 (TX7 8).2.1 (TX7 8).2.2.1 ∈ wsX7_ails := by decide +kernel
theorem kX7_ails_1 : ∀ w ∈ u_ws RX7 TX7 13, w ∈ wsX7_ails := by decide +kernel
theorem kX7_ails_2 : Cond.fieldLink RX7 268 (TX0 1).1 (TX0 1).2.1 (TX0 1).2.2.1 ∈ wsX7_ails := by decide +kernel
theorem kX7_ails_3 : ∀ w ∈ u_ws RX0 TX0 3, w ∈ wsX7_ails := by decide +kernel
theorem kX7_ails_4 : Cond.fieldLink RX7 271 (TX0 2).1 (TX0 2).2.1 (TX0 2).2.2.1 ∈ wsX7_ails := by decide +kernel
set_option maxRecDepth 100000 in
set_option maxHeartbeats 4000000 in
theorem c_X7_ails {l : Launch} {D : va_G} {g : GG} {I : MI} {J : MJ} {a1 : Int32} {a2 : Int32} {r : Int32} {I' : MI} {J' : MJ} (hf : f_X7_ails I J a1 a2 = some (r, I', J')) : CON l yX7_ails wsX7_ails rmX7_ails D g (wB g I J) [.ref (g.1 0), .int a1, .int a2] (some (.int r)) (wB g I' J') := by
  refine con_of (cc := cX7_ails) (maxL := 3) (ret := (some .int)) (by decide) rfl (Nat.le_of_ble_eq_true rfl) rfl rfl ?_
  intro k C hkl hkD h1 h2 h3
  subst hkl; subst hkD
  have hr : RTW k wB g cX7_ails .int (r, I', J') := rtw_of h2
  unfold f_X7_ails at hf
  refine V.loc (lv' := [(0, .ref (g.1 0)), (1, .int a1), (2, .int a2)]) [0, 1, 2] rfl ?_
  refine r_aload_n C dX7_ails_0 rfl 0 rfl ?_
  refine r_iload_n C dX7_ails_1 rfl 1 rfl ?_
  obtain ⟨r2, hq1, hf⟩ := bo1_e hf
  refine r_callV (o := some (.int r2)) (w' := (wB g I J)) (As := [.int a1]) (rest := []) C (c_X7_isRam hq1) dX7_ails_2 gX7_ails_X7_isRam rfl rfl rfl hd_X7_isRam ⟨by decide, by decide⟩ 0 bg_0 rfl rfl rfl rfl (Nat.le_of_ble_eq_true rfl) ?_
  refine r_if_eq (tgt := 17) C dX7_ails_5 (by decide) (fun q5 => ?_) (fun q5 => ?_)
  · have hf := itp hf q5
    refine r_iconst (v := (-1 : Int32)) C dX7_ails_17 (by decide) ?_
    exact hr _ _ _ _ _ dX7_ails_18 rfl hf
  · have hf := itn hf q5
    refine r_iload_n C dX7_ails_8 rfl 2 rfl ?_
    refine r_iconst (v := (0 : Int32)) C dX7_ails_9 (by decide) ?_
    refine r_iconst (v := (2 : Int32)) C dX7_ails_10 (by decide) ?_
    obtain ⟨r4, hq3, hf⟩ := bo1_e hf
    refine r_callS (o := some (.int r4)) (w' := (wB g I J)) (As := [.int a2, .int (0 : Int32), .int (2 : Int32)]) (rest := []) C (c_X7_within hq3) dX7_ails_11 gX7_ails_X7_within rfl rfl rfl hd_X7_within ⟨by decide, by decide⟩ rfl rfl (Nat.le_of_ble_eq_true rfl) ?_
    refine r_if_ne (tgt := 19) C dX7_ails_14 (by decide) (fun q14 => ?_) (fun q14 => ?_)
    · have hf := itn hf q14
      refine r_aload_n C dX7_ails_19 rfl 0 rfl ?_
      refine r_iload_n C dX7_ails_20 rfl 1 rfl ?_
      obtain ⟨I6, J7, hq5, hf⟩ := bo2_e hf
      refine r_callV (o := none) (w' := (wB g I6 J7)) (As := [.int a1]) (rest := []) C (c_X7_tryAllCauses hq5) dX7_ails_21 gX7_ails_X7_tryAllCauses rfl rfl rfl hd_X7_tryAllCauses ⟨by decide, by decide⟩ 0 bg_0 rfl rfl rfl rfl (Nat.le_of_ble_eq_true rfl) ?_
      refine r_iload_n C dX7_ails_24 rfl 2 rfl ?_
      by_cases q25_0 : a2 = (0 : Int32)
      · have hf := itp hf q25_0
        refine r_look (off := 27) (tgt := 52) C dX7_ails_25 (by decide) (by rw [q25_0]; first | done | decide) (by decide) ?_
        refine r_aload_n C dX7_ails_52 rfl 0 rfl ?_
        refine r_get C dX7_ails_53 kX7_ails_1 0 bg_0 rfl 8 (by decide) kX7_ails_0 bv_0_8 ?_
        refine r_get C dX7_ails_56 kX7_ails_3 30 bg_30 rfl 1 (by decide) kX7_ails_2 bv_30_1 ?_
        exact hr _ _ _ _ _ dX7_ails_59 rfl hf
      have hf := itn hf q25_0
      by_cases q25_1 : a2 = (1 : Int32)
      · have hf := itp hf q25_1
        refine r_look (off := 35) (tgt := 60) C dX7_ails_25 (by decide) (by rw [q25_1]; first | done | decide) (by decide) ?_
        refine r_aload_n C dX7_ails_60 rfl 0 rfl ?_
        refine r_get C dX7_ails_61 kX7_ails_1 0 bg_0 rfl 8 (by decide) kX7_ails_0 bv_0_8 ?_
        refine r_get C dX7_ails_64 kX7_ails_3 30 bg_30 rfl 2 (by decide) kX7_ails_4 bv_30_2 ?_
        exact hr _ _ _ _ _ dX7_ails_67 rfl hf
      have hf := itn hf q25_1
      refine r_look (off := 43) (tgt := 68) C dX7_ails_25 (by decide) (by rw [lv_osw q25_0 (by decide), lv_osw q25_1 (by decide)]; first | done | rfl) (by decide) ?_
      refine r_aload_n C dX7_ails_68 rfl 0 rfl ?_
      refine r_get C dX7_ails_69 kX7_ails_1 0 bg_0 rfl 8 (by decide) kX7_ails_0 bv_0_8 ?_
      obtain ⟨r9, hq8, hf⟩ := bo1_e hf
      refine r_callV (o := some (.int r9)) (w' := (wB g I6 J7)) (As := []) (rest := []) C (c_X0_nextLook hq8) dX7_ails_72 gX7_ails_X0_nextLook rfl rfl rfl hd_X0_nextLook ⟨by decide, by decide⟩ 30 bg_30 rfl rfl rfl rfl (Nat.le_of_ble_eq_true rfl) ?_
      exact hr _ _ _ _ _ dX7_ails_75 rfl hf
    · have hf := itp hf q14
      refine r_iconst (v := (-1 : Int32)) C dX7_ails_17 (by decide) ?_
      exact hr _ _ _ _ _ dX7_ails_18 rfl hf
abbrev rmX0_onlyValueOf : Room := { frames := 0, cells := 0, slots := 0, locals := 0 }
theorem hd_X0_onlyValueOf : yX0_onlyValueOf.cls = RX0 ∧ yX0_onlyValueOf.cls ≠ "java/lang/invoke/MethodHandle" ∧ yX0_onlyValueOf.cls ≠ "java/lang/invoke/VarHandle" ∧ (parseMethodDescriptor yX0_onlyValueOf.desc).map (fun d => d.parameters.length) = some 1 := by decide +kernel
theorem kX0_onlyValueOf_0 : Cond.fieldLink RX0 15 (TX0 1).1 (TX0 1).2.1 (TX0 1).2.2.1 ∈ wsX0_onlyValueOf := by decide +kernel
theorem kX0_onlyValueOf_1 : ∀ w ∈ u_ws RX0 TX0 3, w ∈ wsX0_onlyValueOf := by decide +kernel
theorem kX0_onlyValueOf_2 : Cond.fieldLink RX0 11 (TX0 0).1 (TX0 0).2.1 (TX0 0).2.2.1 ∈ wsX0_onlyValueOf := by decide +kernel
set_option maxRecDepth 100000 in
set_option maxHeartbeats 4000000 in
theorem mB_X0_onlyValueOf_2 {k : CT} {g : GG} {I : MI} {J : MJ} (C : CX k cX0_onlyValueOf 3 RX0 wsX0_onlyValueOf rmX0_onlyValueOf g) {ρ : Int32} (hr : RRW k (wB g I J) cX0_onlyValueOf .int ρ) {kk2 : Int32 → Int32 → Option Int32} (hk2 : ∀ (x1 : Int32) (x2 : Int32), kk2 x1 x2 = some ρ → V k (wB g I J) 2 [(0, .ref (g.1 30)), (1, .int x1), (2, .int x2)] []) : ∀ (x1 : Int32) (x2 : Int32), LB_X0_onlyValueOf_2 I J kk2 x1 x2 = some ρ → V k (wB g I J) 2 [(0, .ref (g.1 30)), (1, .int x1), (2, .int x2)] [] := by
  intro x1 x2 hf
  unfold LB_X0_onlyValueOf_2 at hf
  refine r_iload_n C dX0_onlyValueOf_2 rfl 2 rfl ?_
  refine r_iconst (v := (4 : Int32)) C dX0_onlyValueOf_3 (by decide) ?_
  refine r_icmp_ge (tgt := 39) C dX0_onlyValueOf_4 (by decide) (fun q4 => ?_) (fun q4 => ?_)
  · have hf := itp hf q4
    refine r_bipush (v := (-9 : Int32)) C dX0_onlyValueOf_39 (by decide) ?_
    exact hr _ _ _ dX0_onlyValueOf_41 rfl hf
  · have hf := itn hf q4
    refine r_aload_n C dX0_onlyValueOf_7 rfl 0 rfl ?_
    refine r_get C dX0_onlyValueOf_8 kX0_onlyValueOf_1 30 bg_30 rfl 1 (by decide) kX0_onlyValueOf_0 bv_30_1 ?_
    refine r_if_le (tgt := 33) C dX0_onlyValueOf_11 (by decide) (fun q11 => ?_) (fun q11 => ?_)
    · have hf := itp hf q11
      obtain ⟨v1, ev1⟩ : ∃ z : Int32, z = x2 + (1 : Int32) := ⟨_, rfl⟩
      have hf := bnd_e hf v1 ev1
      refine r_iinc (v := v1) (lv' := [(0, .ref (g.1 30)), (1, .int x1), (2, .int v1)]) C dX0_onlyValueOf_33 2 rfl (by rw [ev1]; rfl) (by decide) [1, 2, 0] rfl ?_
      refine r_goto (tgt := 2) C dX0_onlyValueOf_36 (by decide) ?_
      exact hk2 _ _ hf
    · have hf := itn hf q11
      refine r_aload_n C dX0_onlyValueOf_14 rfl 0 rfl ?_
      refine r_get C dX0_onlyValueOf_15 kX0_onlyValueOf_1 30 bg_30 rfl 0 (by decide) kX0_onlyValueOf_2 bv_30_0 ?_
      refine r_iload_n C dX0_onlyValueOf_18 rfl 1 rfl ?_
      refine r_iconst (v := (4 : Int32)) C dX0_onlyValueOf_19 (by decide) ?_
      refine r_imul C dX0_onlyValueOf_20 ?_
      refine r_iload_n C dX0_onlyValueOf_21 rfl 2 rfl ?_
      refine r_iadd C dX0_onlyValueOf_22 ?_
      obtain ⟨h2, hf⟩ := chk_e hf
      refine r_iald (j := ((x1 * (4 : Int32)) + x2).toNatClampNeg) C dX0_onlyValueOf_23 31 bg_31 (inb_e h2) rfl ?_
      refine r_aload_n C dX0_onlyValueOf_24 rfl 0 rfl ?_
      refine r_get C dX0_onlyValueOf_25 kX0_onlyValueOf_1 30 bg_30 rfl 1 (by decide) kX0_onlyValueOf_0 bv_30_1 ?_
      refine r_icmp_ne (tgt := 33) C dX0_onlyValueOf_28 (by decide) (fun q28 => ?_) (fun q28 => ?_)
      · have hf := itn hf q28
        obtain ⟨v3, ev3⟩ : ∃ z : Int32, z = x2 + (1 : Int32) := ⟨_, rfl⟩
        have hf := bnd_e hf v3 ev3
        refine r_iinc (v := v3) (lv' := [(0, .ref (g.1 30)), (1, .int x1), (2, .int v3)]) C dX0_onlyValueOf_33 2 rfl (by rw [ev3]; rfl) (by decide) [1, 2, 0] rfl ?_
        refine r_goto (tgt := 2) C dX0_onlyValueOf_36 (by decide) ?_
        exact hk2 _ _ hf
      · have hf := itp hf q28
        refine r_iload_n C dX0_onlyValueOf_31 rfl 2 rfl ?_
        exact hr _ _ _ dX0_onlyValueOf_32 rfl hf
theorem mL_X0_onlyValueOf_2 {k : CT} {g : GG} {I : MI} {J : MJ} (C : CX k cX0_onlyValueOf 3 RX0 wsX0_onlyValueOf rmX0_onlyValueOf g) {ρ : Int32} (hr : RRW k (wB g I J) cX0_onlyValueOf .int ρ) : ∀ (n : Nat) (x1 : Int32) (x2 : Int32), LP_X0_onlyValueOf_2 I J n x1 x2 = some ρ → V k (wB g I J) 2 [(0, .ref (g.1 30)), (1, .int x1), (2, .int x2)] [] := by
  intro n
  induction n with
  | zero => intro x1 x2 hf; cases hf
  | succ n ih => intro x1 x2 hf; exact mB_X0_onlyValueOf_2 C hr (fun x1 x2 h => ih x1 x2 h) x1 x2 hf
set_option maxRecDepth 100000 in
set_option maxHeartbeats 4000000 in
theorem c_X0_onlyValueOf {l : Launch} {D : va_G} {g : GG} {I : MI} {J : MJ} {a1 : Int32} {r : Int32} (hf : f_X0_onlyValueOf I J a1 = some r) : CON l yX0_onlyValueOf wsX0_onlyValueOf rmX0_onlyValueOf D g (wB g I J) [.ref (g.1 30), .int a1] (some (.int r)) (wB g I J) := by
  refine con_of (cc := cX0_onlyValueOf) (maxL := 3) (ret := (some .int)) (by decide) rfl (Nat.le_of_ble_eq_true rfl) rfl rfl ?_
  intro k C hkl hkD h1 h2 h3
  subst hkl; subst hkD
  have hr : RRW k (wB g I J) cX0_onlyValueOf .int r := rrw_of h2
  unfold f_X0_onlyValueOf at hf
  refine V.loc (lv' := [(0, .ref (g.1 30)), (1, .int a1)]) [0, 1] rfl ?_
  refine r_iconst (v := (0 : Int32)) C dX0_onlyValueOf_0 (by decide) ?_
  refine r_istore_n (lv' := [(0, .ref (g.1 30)), (1, .int a1), (2, .int (0 : Int32))]) C dX0_onlyValueOf_1 rfl (by decide) [1, 2, 0] rfl ?_
  exact mL_X0_onlyValueOf_2 C hr FU _ _ hf
abbrev rmX7_sure : Room := { frames := 6, cells := 0, slots := 0, locals := 142 }
theorem hd_X7_sure : yX7_sure.cls = RX7 ∧ yX7_sure.cls ≠ "java/lang/invoke/MethodHandle" ∧ yX7_sure.cls ≠ "java/lang/invoke/VarHandle" ∧ (parseMethodDescriptor yX7_sure.desc).map (fun d => d.parameters.length) = some 2 := by decide +kernel
theorem kX7_sure_0 : Cond.fieldLink RX7 62 (TX7 8).1 (TX7 8).2.1 (TX7 8).2.2.1 ∈ wsX7_sure := by decide +kernel
theorem kX7_sure_1 : ∀ w ∈ u_ws RX7 TX7 13, w ∈ wsX7_sure := by decide +kernel
set_option maxRecDepth 100000 in
set_option maxHeartbeats 4000000 in
theorem c_X7_sure {l : Launch} {D : va_G} {g : GG} {I : MI} {J : MJ} {a1 : Int32} {a2 : Int32} {r : Int32} {I' : MI} {J' : MJ} (hf : f_X7_sure I J a1 a2 = some (r, I', J')) : CON l yX7_sure wsX7_sure rmX7_sure D g (wB g I J) [.ref (g.1 0), .int a1, .int a2] (some (.int r)) (wB g I' J') := by
  refine con_of (cc := cX7_sure) (maxL := 3) (ret := (some .int)) (by decide) rfl (Nat.le_of_ble_eq_true rfl) rfl rfl ?_
  intro k C hkl hkD h1 h2 h3
  subst hkl; subst hkD
  have hr : RTW k wB g cX7_sure .int (r, I', J') := rtw_of h2
  unfold f_X7_sure at hf
  refine V.loc (lv' := [(0, .ref (g.1 0)), (1, .int a1), (2, .int a2)]) [0, 1, 2] rfl ?_
  refine r_aload_n C dX7_sure_0 rfl 0 rfl ?_
  refine r_iload_n C dX7_sure_1 rfl 1 rfl ?_
  obtain ⟨r2, hq1, hf⟩ := bo1_e hf
  refine r_callV (o := some (.int r2)) (w' := (wB g I J)) (As := [.int a1]) (rest := []) C (c_X7_isRam hq1) dX7_sure_2 gX7_sure_X7_isRam rfl rfl rfl hd_X7_isRam ⟨by decide, by decide⟩ 0 bg_0 rfl rfl rfl rfl (Nat.le_of_ble_eq_true rfl) ?_
  refine r_if_eq (tgt := 17) C dX7_sure_5 (by decide) (fun q5 => ?_) (fun q5 => ?_)
  · have hf := itp hf q5
    refine r_iconst (v := (-1 : Int32)) C dX7_sure_17 (by decide) ?_
    exact hr _ _ _ _ _ dX7_sure_18 rfl hf
  · have hf := itn hf q5
    refine r_iload_n C dX7_sure_8 rfl 2 rfl ?_
    refine r_iconst (v := (0 : Int32)) C dX7_sure_9 (by decide) ?_
    refine r_iconst (v := (3 : Int32)) C dX7_sure_10 (by decide) ?_
    obtain ⟨r4, hq3, hf⟩ := bo1_e hf
    refine r_callS (o := some (.int r4)) (w' := (wB g I J)) (As := [.int a2, .int (0 : Int32), .int (3 : Int32)]) (rest := []) C (c_X7_within hq3) dX7_sure_11 gX7_sure_X7_within rfl rfl rfl hd_X7_within ⟨by decide, by decide⟩ rfl rfl (Nat.le_of_ble_eq_true rfl) ?_
    refine r_if_ne (tgt := 19) C dX7_sure_14 (by decide) (fun q14 => ?_) (fun q14 => ?_)
    · have hf := itn hf q14
      refine r_aload_n C dX7_sure_19 rfl 0 rfl ?_
      refine r_iload_n C dX7_sure_20 rfl 1 rfl ?_
      obtain ⟨I6, J7, hq5, hf⟩ := bo2_e hf
      refine r_callV (o := none) (w' := (wB g I6 J7)) (As := [.int a1]) (rest := []) C (c_X7_tryAllCauses hq5) dX7_sure_21 gX7_sure_X7_tryAllCauses rfl rfl rfl hd_X7_tryAllCauses ⟨by decide, by decide⟩ 0 bg_0 rfl rfl rfl rfl (Nat.le_of_ble_eq_true rfl) ?_
      refine r_aload_n C dX7_sure_24 rfl 0 rfl ?_
      refine r_get C dX7_sure_25 kX7_sure_1 0 bg_0 rfl 8 (by decide) kX7_sure_0 bv_0_8 ?_
      refine r_iload_n C dX7_sure_28 rfl 2 rfl ?_
      obtain ⟨r9, hq8, hf⟩ := bo1_e hf
      refine r_callV (o := some (.int r9)) (w' := (wB g I6 J7)) (As := [.int a2]) (rest := []) C (c_X0_onlyValueOf hq8) dX7_sure_29 gX7_sure_X0_onlyValueOf rfl rfl rfl hd_X0_onlyValueOf ⟨by decide, by decide⟩ 30 bg_30 rfl rfl rfl rfl (Nat.le_of_ble_eq_true rfl) ?_
      exact hr _ _ _ _ _ dX7_sure_32 rfl hf
    · have hf := itp hf q14
      refine r_iconst (v := (-1 : Int32)) C dX7_sure_17 (by decide) ?_
      exact hr _ _ _ _ _ dX7_sure_18 rfl hf
abbrev rmX7_count : Room := { frames := 0, cells := 0, slots := 0, locals := 0 }
theorem hd_X7_count : yX7_count.cls = RX7 ∧ yX7_count.cls ≠ "java/lang/invoke/MethodHandle" ∧ yX7_count.cls ≠ "java/lang/invoke/VarHandle" ∧ (parseMethodDescriptor yX7_count.desc).map (fun d => d.parameters.length) = some 1 := by decide +kernel
theorem kX7_count_0 : Cond.fieldLink RX7 15 (TX7 1).1 (TX7 1).2.1 (TX7 1).2.2.1 ∈ wsX7_count := by decide +kernel
theorem kX7_count_1 : ∀ w ∈ u_ws RX7 TX7 13, w ∈ wsX7_count := by decide +kernel
theorem kX7_count_2 : Cond.fieldLink RX7 34 (TX7 4).1 (TX7 4).2.1 (TX7 4).2.2.1 ∈ wsX7_count := by decide +kernel
theorem kX7_count_3 : Cond.fieldLink RX7 160 (TX6 2).1 (TX6 2).2.1 (TX6 2).2.2.1 ∈ wsX7_count := by decide +kernel
theorem kX7_count_4 : ∀ w ∈ u_ws RX6 TX6 7, w ∈ wsX7_count := by decide +kernel
theorem kX7_count_5 : Cond.fieldLink RX7 41 (TX7 5).1 (TX7 5).2.1 (TX7 5).2.2.1 ∈ wsX7_count := by decide +kernel
theorem kX7_count_6 : Cond.fieldLink RX7 280 (TX3 2).1 (TX3 2).2.1 (TX3 2).2.2.1 ∈ wsX7_count := by decide +kernel
theorem kX7_count_7 : ∀ w ∈ u_ws RX3 TX3 7, w ∈ wsX7_count := by decide +kernel
theorem kX7_count_8 : Cond.fieldLink RX7 55 (TX7 7).1 (TX7 7).2.1 (TX7 7).2.2.1 ∈ wsX7_count := by decide +kernel
theorem kX7_count_9 : Cond.fieldLink RX7 250 (TX2 3).1 (TX2 3).2.1 (TX2 3).2.2.1 ∈ wsX7_count := by decide +kernel
theorem kX7_count_10 : ∀ w ∈ u_ws RX2 TX2 6, w ∈ wsX7_count := by decide +kernel
theorem kX7_count_11 : Cond.fieldLink RX7 66 (TX7 9).1 (TX7 9).2.1 (TX7 9).2.2.1 ∈ wsX7_count := by decide +kernel
theorem kX7_count_12 : Cond.fieldLink RX7 69 (TX7 10).1 (TX7 10).2.1 (TX7 10).2.2.1 ∈ wsX7_count := by decide +kernel
theorem kX7_count_13 : Cond.fieldLink RX7 72 (TX7 11).1 (TX7 11).2.1 (TX7 11).2.2.1 ∈ wsX7_count := by decide +kernel
theorem kX7_count_14 : Cond.fieldLink RX7 202 (TX3 1).1 (TX3 1).2.1 (TX3 1).2.2.1 ∈ wsX7_count := by decide +kernel
set_option maxRecDepth 100000 in
set_option maxHeartbeats 4000000 in
theorem c_X7_count {l : Launch} {D : va_G} {g : GG} {I : MI} {J : MJ} {a1 : Int32} {r : Int32} (hf : f_X7_count I J a1 = some r) : CON l yX7_count wsX7_count rmX7_count D g (wB g I J) [.ref (g.1 0), .int a1] (some (.int r)) (wB g I J) := by
  refine con_of (cc := cX7_count) (maxL := 2) (ret := (some .int)) (by decide) rfl (Nat.le_of_ble_eq_true rfl) rfl rfl ?_
  intro k C hkl hkD h1 h2 h3
  subst hkl; subst hkD
  have hr : RRW k (wB g I J) cX7_count .int r := rrw_of h2
  unfold f_X7_count at hf
  refine V.loc (lv' := [(0, .ref (g.1 0)), (1, .int a1)]) [0, 1] rfl ?_
  refine r_iload_n C dX7_count_0 rfl 1 rfl ?_
  by_cases q1_0 : a1 = (0 : Int32)
  · have hf := itp hf q1_0
    refine r_tabIn (tgt := 48) C dX7_count_1 (by rw [q1_0]; decide) (by rw [q1_0]; decide) (by rw [q1_0]; rfl) (by decide) ?_
    refine r_aload_n C dX7_count_48 rfl 0 rfl ?_
    refine r_get C dX7_count_49 kX7_count_1 0 bg_0 rfl 1 (by decide) kX7_count_0 bv_0_1 ?_
    exact hr _ _ _ dX7_count_52 rfl hf
  have hf := itn hf q1_0
  by_cases q1_1 : a1 = (1 : Int32)
  · have hf := itp hf q1_1
    refine r_tabIn (tgt := 53) C dX7_count_1 (by rw [q1_1]; decide) (by rw [q1_1]; decide) (by rw [q1_1]; rfl) (by decide) ?_
    refine r_aload_n C dX7_count_53 rfl 0 rfl ?_
    refine r_get C dX7_count_54 kX7_count_1 0 bg_0 rfl 4 (by decide) kX7_count_2 bv_0_4 ?_
    refine r_get C dX7_count_57 kX7_count_4 15 bg_15 rfl 2 (by decide) kX7_count_3 bv_15_2 ?_
    exact hr _ _ _ dX7_count_60 rfl hf
  have hf := itn hf q1_1
  by_cases q1_2 : a1 = (2 : Int32)
  · have hf := itp hf q1_2
    refine r_tabIn (tgt := 61) C dX7_count_1 (by rw [q1_2]; decide) (by rw [q1_2]; decide) (by rw [q1_2]; rfl) (by decide) ?_
    refine r_aload_n C dX7_count_61 rfl 0 rfl ?_
    refine r_get C dX7_count_62 kX7_count_1 0 bg_0 rfl 5 (by decide) kX7_count_5 bv_0_5 ?_
    refine r_get C dX7_count_65 kX7_count_7 20 bg_20 rfl 2 (by decide) kX7_count_6 bv_20_2 ?_
    exact hr _ _ _ dX7_count_68 rfl hf
  have hf := itn hf q1_2
  by_cases q1_3 : a1 = (3 : Int32)
  · have hf := itp hf q1_3
    refine r_tabIn (tgt := 69) C dX7_count_1 (by rw [q1_3]; decide) (by rw [q1_3]; decide) (by rw [q1_3]; rfl) (by decide) ?_
    refine r_aload_n C dX7_count_69 rfl 0 rfl ?_
    refine r_get C dX7_count_70 kX7_count_1 0 bg_0 rfl 7 (by decide) kX7_count_8 bv_0_7 ?_
    refine r_get C dX7_count_73 kX7_count_10 26 bg_26 rfl 3 (by decide) kX7_count_9 bv_26_3 ?_
    exact hr _ _ _ dX7_count_76 rfl hf
  have hf := itn hf q1_3
  by_cases q1_4 : a1 = (4 : Int32)
  · have hf := itp hf q1_4
    refine r_tabIn (tgt := 77) C dX7_count_1 (by rw [q1_4]; decide) (by rw [q1_4]; decide) (by rw [q1_4]; rfl) (by decide) ?_
    refine r_aload_n C dX7_count_77 rfl 0 rfl ?_
    refine r_get C dX7_count_78 kX7_count_1 0 bg_0 rfl 9 (by decide) kX7_count_11 bv_0_9 ?_
    exact hr _ _ _ dX7_count_81 rfl hf
  have hf := itn hf q1_4
  by_cases q1_5 : a1 = (5 : Int32)
  · have hf := itp hf q1_5
    refine r_tabIn (tgt := 82) C dX7_count_1 (by rw [q1_5]; decide) (by rw [q1_5]; decide) (by rw [q1_5]; rfl) (by decide) ?_
    refine r_aload_n C dX7_count_82 rfl 0 rfl ?_
    refine r_get C dX7_count_83 kX7_count_1 0 bg_0 rfl 10 (by decide) kX7_count_12 bv_0_10 ?_
    exact hr _ _ _ dX7_count_86 rfl hf
  have hf := itn hf q1_5
  by_cases q1_6 : a1 = (6 : Int32)
  · have hf := itp hf q1_6
    refine r_tabIn (tgt := 87) C dX7_count_1 (by rw [q1_6]; decide) (by rw [q1_6]; decide) (by rw [q1_6]; rfl) (by decide) ?_
    refine r_aload_n C dX7_count_87 rfl 0 rfl ?_
    refine r_get C dX7_count_88 kX7_count_1 0 bg_0 rfl 11 (by decide) kX7_count_13 bv_0_11 ?_
    exact hr _ _ _ dX7_count_91 rfl hf
  have hf := itn hf q1_6
  by_cases q1_7 : a1 = (7 : Int32)
  · have hf := itp hf q1_7
    refine r_tabIn (tgt := 92) C dX7_count_1 (by rw [q1_7]; decide) (by rw [q1_7]; decide) (by rw [q1_7]; rfl) (by decide) ?_
    refine r_aload_n C dX7_count_92 rfl 0 rfl ?_
    refine r_get C dX7_count_93 kX7_count_1 0 bg_0 rfl 5 (by decide) kX7_count_5 bv_0_5 ?_
    refine r_get C dX7_count_96 kX7_count_7 20 bg_20 rfl 1 (by decide) kX7_count_14 bv_20_1 ?_
    exact hr _ _ _ dX7_count_99 rfl hf
  have hf := itn hf q1_7
  refine r_tabOut (tgt := 100) C dX7_count_1 (by have a0 := lv_neT q1_0 (a := 0) (by decide); have a1 := lv_neT q1_1 (a := 1) (by decide); have a2 := lv_neT q1_2 (a := 2) (by decide); have a3 := lv_neT q1_3 (a := 3) (by decide); have a4 := lv_neT q1_4 (a := 4) (by decide); have a5 := lv_neT q1_5 (a := 5) (by decide); have a6 := lv_neT q1_6 (a := 6) (by decide); have a7 := lv_neT q1_7 (a := 7) (by decide); omega) (by decide) ?_
  refine r_iconst (v := (-1 : Int32)) C dX7_count_100 (by decide) ?_
  exact hr _ _ _ dX7_count_101 rfl hf
abbrev rmX7_trace : Room := { frames := 0, cells := 0, slots := 0, locals := 0 }
theorem hd_X7_trace : yX7_trace.cls = RX7 ∧ yX7_trace.cls ≠ "java/lang/invoke/MethodHandle" ∧ yX7_trace.cls ≠ "java/lang/invoke/VarHandle" ∧ (parseMethodDescriptor yX7_trace.desc).map (fun d => d.parameters.length) = some 0 := by decide +kernel
theorem kX7_trace_0 : Cond.fieldLink RX7 75 (TX7 12).1 (TX7 12).2.1 (TX7 12).2.2.1 ∈ wsX7_trace := by decide +kernel
theorem kX7_trace_1 : ∀ w ∈ u_ws RX7 TX7 13, w ∈ wsX7_trace := by decide +kernel
set_option maxRecDepth 100000 in
set_option maxHeartbeats 4000000 in
theorem c_X7_trace {l : Launch} {D : va_G} {g : GG} {I : MI} {J : MJ} {r : Int64} (hf : f_X7_trace I J = some r) : CON l yX7_trace wsX7_trace rmX7_trace D g (wB g I J) [.ref (g.1 0)] (some (.long r)) (wB g I J) := by
  refine con_of (cc := cX7_trace) (maxL := 1) (ret := (some .long)) (by decide) rfl (Nat.le_of_ble_eq_true rfl) rfl rfl ?_
  intro k C hkl hkD h1 h2 h3
  subst hkl; subst hkD
  have hr : RRL k (wB g I J) cX7_trace r := rrl_of h3
  unfold f_X7_trace at hf
  refine V.loc (lv' := [(0, .ref (g.1 0))]) [0] rfl ?_
  refine r_aload_n C dX7_trace_0 rfl 0 rfl ?_
  refine r_get C dX7_trace_1 kX7_trace_1 0 bg_0 rfl 12 (by decide) kX7_trace_0 bv_0_12 ?_
  exact hr _ _ _ dX7_trace_4 hf
abbrev rmX8_in : Room := { frames := 0, cells := 0, slots := 0, locals := 0 }
theorem hd_X8_in : yX8_in.cls ≠ "java/lang/invoke/MethodHandle" ∧ yX8_in.cls ≠ "java/lang/invoke/VarHandle" ∧ (parseMethodDescriptor yX8_in.desc).map (fun d => d.parameters.length) = some 3 := by decide +kernel
set_option maxRecDepth 100000 in
set_option maxHeartbeats 4000000 in
theorem c_X8_in {l : Launch} {D : va_G} {g : GG} {I : MI} {J : MJ} {a0 : Int32} {a1 : Int32} {a2 : Int32} {r : Int32} (hf : f_X8_in a0 a1 a2 = some r) : CON l yX8_in wsX8_in rmX8_in D g (wM g I J) [.int a0, .int a1, .int a2] (some (.int r)) (wM g I J) := by
  refine con_of (cc := cX8_in) (maxL := 3) (ret := (some .boolean)) (by decide) rfl (Nat.le_of_ble_eq_true rfl) rfl rfl ?_
  intro k C hkl hkD h1 h2 h3
  subst hkl; subst hkD
  have hr : RRW k (wM g I J) cX8_in .boolean r := rrw_of h2
  unfold f_X8_in at hf
  refine V.loc (lv' := [(0, .int a0), (1, .int a1), (2, .int a2)]) [0, 1, 2] rfl ?_
  refine r_iload_n C dX8_in_0 rfl 0 rfl ?_
  refine r_iload_n C dX8_in_1 rfl 1 rfl ?_
  refine r_icmp_lt (tgt := 14) C dX8_in_2 (by decide) (fun q2 => ?_) (fun q2 => ?_)
  · have hf := itp hf q2
    refine r_iconst (v := (0 : Int32)) C dX8_in_14 (by decide) ?_
    exact hr _ _ _ dX8_in_15 nb0 hf
  · have hf := itn hf q2
    refine r_iload_n C dX8_in_5 rfl 0 rfl ?_
    refine r_iload_n C dX8_in_6 rfl 2 rfl ?_
    refine r_icmp_gt (tgt := 14) C dX8_in_7 (by decide) (fun q7 => ?_) (fun q7 => ?_)
    · have hf := itp hf q7
      refine r_iconst (v := (0 : Int32)) C dX8_in_14 (by decide) ?_
      exact hr _ _ _ dX8_in_15 nb0 hf
    · have hf := itn hf q7
      refine r_iconst (v := (1 : Int32)) C dX8_in_10 (by decide) ?_
      refine r_goto (tgt := 15) C dX8_in_11 (by decide) ?_
      exact hr _ _ _ dX8_in_15 nb1 hf
abbrev rmX8_isRam : Room := { frames := 1, cells := 0, slots := 0, locals := 22 }
theorem hd_X8_isRam : yX8_isRam.cls = RX8 ∧ yX8_isRam.cls ≠ "java/lang/invoke/MethodHandle" ∧ yX8_isRam.cls ≠ "java/lang/invoke/VarHandle" ∧ (parseMethodDescriptor yX8_isRam.desc).map (fun d => d.parameters.length) = some 1 := by decide +kernel
theorem kX8_isRam_0 : Cond.fieldLink RX8 67 (TX8 2).1 (TX8 2).2.1 (TX8 2).2.2.1 ∈ wsX8_isRam := by decide +kernel
theorem kX8_isRam_1 : ∀ w ∈ u_ws RX8 TX8 38, w ∈ wsX8_isRam := by decide +kernel
set_option maxRecDepth 100000 in
set_option maxHeartbeats 4000000 in
theorem c_X8_isRam {l : Launch} {D : va_G} {g : GG} {I : MI} {J : MJ} {a1 : Int32} {r : Int32} (hf : f_X8_isRam I J a1 = some r) : CON l yX8_isRam wsX8_isRam rmX8_isRam D g (wM g I J) [.ref (g.1 0), .int a1] (some (.int r)) (wM g I J) := by
  refine con_of (cc := cX8_isRam) (maxL := 2) (ret := (some .boolean)) (by decide) rfl (Nat.le_of_ble_eq_true rfl) rfl rfl ?_
  intro k C hkl hkD h1 h2 h3
  subst hkl; subst hkD
  have hr : RRW k (wM g I J) cX8_isRam .boolean r := rrw_of h2
  unfold f_X8_isRam at hf
  refine V.loc (lv' := [(0, .ref (g.1 0)), (1, .int a1)]) [0, 1] rfl ?_
  refine r_iload_n C dX8_isRam_0 rfl 1 rfl ?_
  refine r_iconst (v := (0 : Int32)) C dX8_isRam_1 (by decide) ?_
  refine r_aload_n C dX8_isRam_2 rfl 0 rfl ?_
  refine r_get C dX8_isRam_3 kX8_isRam_1 0 mg_0 rfl 2 (by decide) kX8_isRam_0 mv_0_2 ?_
  refine r_iconst (v := (1 : Int32)) C dX8_isRam_6 (by decide) ?_
  refine r_isub C dX8_isRam_7 ?_
  obtain ⟨r2, hq1, hf⟩ := bo1_e hf
  refine r_callS (o := some (.int r2)) (w' := (wM g I J)) (As := [.int a1, .int (0 : Int32), .int ((I 0 2) - (1 : Int32))]) (rest := []) C (c_X8_in hq1) dX8_isRam_8 gX8_isRam_X8_in rfl rfl rfl hd_X8_in ⟨by decide, by decide⟩ rfl rfl (Nat.le_of_ble_eq_true rfl) ?_
  obtain ⟨hb, hf⟩ := chk_e hf
  exact hr _ _ _ dX8_isRam_11 (isB_e hb) hf
