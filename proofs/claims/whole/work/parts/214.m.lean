abbrev rmX8_rights : Room := { frames := 3, cells := 0, slots := 0, locals := 68 }
theorem hd_X8_rights : yX8_rights.cls = RX8 ∧ yX8_rights.cls ≠ "java/lang/invoke/MethodHandle" ∧ yX8_rights.cls ≠ "java/lang/invoke/VarHandle" ∧ (parseMethodDescriptor yX8_rights.desc).map (fun d => d.parameters.length) = some 0 := by decide +kernel
theorem kX8_rights_0 : Cond.fieldLink RX8 64 (TX8 0).1 (TX8 0).2.1 (TX8 0).2.2.1 ∈ wsX8_rights := by decide +kernel
theorem kX8_rights_1 : ∀ w ∈ u_ws RX8 TX8 38, w ∈ wsX8_rights := by decide +kernel
theorem kX8_rights_2 : Cond.fieldLink RX8 156 (TX8 24).1 (TX8 24).2.1 (TX8 24).2.2.1 ∈ wsX8_rights := by decide +kernel
theorem kX8_rights_3 : Cond.fieldLink RX8 151 (TX8 20).1 (TX8 20).2.1 (TX8 20).2.2.1 ∈ wsX8_rights := by decide +kernel
theorem kX8_rights_4 : Cond.fieldLink RX8 177 (TX8 21).1 (TX8 21).2.1 (TX8 21).2.2.1 ∈ wsX8_rights := by decide +kernel
theorem kX8_rights_5 : Cond.fieldLink RX8 36 (TX8 22).1 (TX8 22).2.1 (TX8 22).2.2.1 ∈ wsX8_rights := by decide +kernel
theorem kX8_rights_6 : Cond.fieldLink RX8 39 (TX8 23).1 (TX8 23).2.1 (TX8 23).2.2.1 ∈ wsX8_rights := by decide +kernel
theorem kX8_rights_7 : Cond.fieldLink RX8 162 (TX8 26).1 (TX8 26).2.1 (TX8 26).2.2.1 ∈ wsX8_rights := by decide +kernel
set_option maxRecDepth 100000 in
set_option maxHeartbeats 4000000 in
theorem mB_X8_rights_63 {k : CT} {g : GG} (C : CX k cX8_rights 3 RX8 wsX8_rights rmX8_rights g) {ρ : (Int32 × MI × MJ)} (hr : RTW k wM g cX8_rights .int ρ) {kk63 : MI → MJ → Int32 → Int32 → Option (Int32 × MI × MJ)} (hk63 : ∀ (I : MI) (J : MJ) (x1 : Int32) (x2 : Int32), kk63 I J x1 x2 = some ρ → V k (wM g I J) 63 [(0, .ref (g.1 0)), (1, .int x1), (2, .int x2)] []) : ∀ (I : MI) (J : MJ) (x1 : Int32) (x2 : Int32), LB_X8_rights_63 kk63 I J x1 x2 = some ρ → V k (wM g I J) 63 [(0, .ref (g.1 0)), (1, .int x1), (2, .int x2)] [] := by
  intro I J x1 x2 hf
  unfold LB_X8_rights_63 at hf
  refine r_iload_n C dX8_rights_63 rfl 2 rfl ?_
  refine r_iconst (v := (4 : Int32)) C dX8_rights_64 (by decide) ?_
  refine r_iload_n C dX8_rights_65 rfl 1 rfl ?_
  refine r_imul C dX8_rights_66 ?_
  refine r_icmp_ge (tgt := 88) C dX8_rights_67 (by decide) (fun q67 => ?_) (fun q67 => ?_)
  · have hf := itp hf q67
    refine r_aload_n C dX8_rights_88 rfl 0 rfl ?_
    refine r_iload_n C dX8_rights_89 rfl 1 rfl ?_
    refine r_put (ty := .int) C dX8_rights_90 kX8_rights_1 tyX8 tyX8_ok nmX8 0 mg_0 rfl 21 (by decide) kX8_rights_4 rfl rfl rfl rfl (Nat.le_of_ble_eq_true rfl) ms_0_21 ?_
    refine nmIM (fun I1 eI1 => ?_)
    have hf := bnd_e hf I1 eI1
    refine r_aload_n C dX8_rights_93 rfl 0 rfl ?_
    refine r_iconst (v := (0 : Int32)) C dX8_rights_94 (by decide) ?_
    refine r_put (ty := .int) C dX8_rights_95 kX8_rights_1 tyX8 tyX8_ok nmX8 0 mg_0 rfl 20 (by decide) kX8_rights_3 rfl rfl rfl rfl (Nat.le_of_ble_eq_true rfl) ms_0_20 ?_
    refine nmIM (fun I2 eI2 => ?_)
    have hf := bnd_e hf I2 eI2
    refine r_iload_n C dX8_rights_98 rfl 1 rfl ?_
    exact hr _ _ _ _ _ dX8_rights_99 rfl hf
  · have hf := itn hf q67
    refine r_aload_n C dX8_rights_70 rfl 0 rfl ?_
    refine r_get C dX8_rights_71 kX8_rights_1 0 mg_0 rfl 22 (by decide) kX8_rights_5 mv_0_22 ?_
    refine r_iload_n C dX8_rights_74 rfl 2 rfl ?_
    refine r_aload_n C dX8_rights_75 rfl 0 rfl ?_
    refine r_get C dX8_rights_76 kX8_rights_1 0 mg_0 rfl 23 (by decide) kX8_rights_6 mv_0_23 ?_
    refine r_iload_n C dX8_rights_79 rfl 2 rfl ?_
    obtain ⟨h3, hf⟩ := chk_e hf
    refine r_iald (j := x2.toNatClampNeg) C dX8_rights_80 9 mg_9 (inb_e h3) rfl ?_
    obtain ⟨h4, hf⟩ := chk_e hf
    refine r_iast (j := x2.toNatClampNeg) C dX8_rights_81 8 mg_8 (inb_e h4) rfl ma_8 ?_
    refine nmIM (fun I5 eI5 => ?_)
    have hf := bnd_e hf I5 eI5
    obtain ⟨v6, ev6⟩ : ∃ z : Int32, z = x2 + (1 : Int32) := ⟨_, rfl⟩
    have hf := bnd_e hf v6 ev6
    refine r_iinc (v := v6) (lv' := [(0, .ref (g.1 0)), (1, .int x1), (2, .int v6)]) C dX8_rights_82 2 rfl (by rw [ev6]; rfl) (by decide) [1, 2, 0] rfl ?_
    refine r_goto (tgt := 63) C dX8_rights_85 (by decide) ?_
    exact hk63 _ _ _ _ hf
theorem mL_X8_rights_63 {k : CT} {g : GG} (C : CX k cX8_rights 3 RX8 wsX8_rights rmX8_rights g) {ρ : (Int32 × MI × MJ)} (hr : RTW k wM g cX8_rights .int ρ) : ∀ (n : Nat) (I : MI) (J : MJ) (x1 : Int32) (x2 : Int32), LP_X8_rights_63 n I J x1 x2 = some ρ → V k (wM g I J) 63 [(0, .ref (g.1 0)), (1, .int x1), (2, .int x2)] [] := by
  intro n
  induction n with
  | zero => intro I J x1 x2 hf; cases hf
  | succ n ih => intro I J x1 x2 hf; exact mB_X8_rights_63 C hr (fun I J x1 x2 h => ih I J x1 x2 h) I J x1 x2 hf
set_option maxRecDepth 100000 in
set_option maxHeartbeats 4000000 in
theorem mB_X8_rights_12 {k : CT} {g : GG} (C : CX k cX8_rights 3 RX8 wsX8_rights rmX8_rights g) {ρ : (Int32 × MI × MJ)} (hr : RTW k wM g cX8_rights .int ρ) {kk12 : MI → MJ → Int32 → Option (Int32 × MI × MJ)} (hk12 : ∀ (I : MI) (J : MJ) (x1 : Int32), kk12 I J x1 = some ρ → V k (wM g I J) 12 [(0, .ref (g.1 0)), (1, .int x1)] []) : ∀ (I : MI) (J : MJ) (x1 : Int32), LB_X8_rights_12 kk12 I J x1 = some ρ → V k (wM g I J) 12 [(0, .ref (g.1 0)), (1, .int x1)] [] := by
  intro I J x1 hf
  unfold LB_X8_rights_12 at hf
  refine r_aload_n C dX8_rights_12 rfl 0 rfl ?_
  refine r_get C dX8_rights_13 kX8_rights_1 0 mg_0 rfl 24 (by decide) kX8_rights_2 mv_0_24 ?_
  refine r_aload_n C dX8_rights_16 rfl 0 rfl ?_
  refine r_get C dX8_rights_17 kX8_rights_1 0 mg_0 rfl 20 (by decide) kX8_rights_3 mv_0_20 ?_
  refine r_icmp_ge (tgt := 61) C dX8_rights_20 (by decide) (fun q20 => ?_) (fun q20 => ?_)
  · have hf := itp hf q20
    refine r_iconst (v := (0 : Int32)) C dX8_rights_61 (by decide) ?_
    refine r_istore_n (lv' := [(0, .ref (g.1 0)), (1, .int x1), (2, .int (0 : Int32))]) C dX8_rights_62 rfl (by decide) [1, 2, 0] rfl ?_
    exact mL_X8_rights_63 C hr FU _ _ _ _ hf
  · have hf := itn hf q20
    refine r_iload_n C dX8_rights_23 rfl 1 rfl ?_
    refine r_bipush (v := (12 : Int32)) C dX8_rights_24 (by decide) ?_
    refine r_icmp_ne (tgt := 37) C dX8_rights_26 (by decide) (fun q26 => ?_) (fun q26 => ?_)
    · have hf := itn hf q26
      refine r_aload_n C dX8_rights_37 rfl 0 rfl ?_
      refine r_iconst (v := (4 : Int32)) C dX8_rights_38 (by decide) ?_
      refine r_iload_n C dX8_rights_39 rfl 1 rfl ?_
      refine r_imul C dX8_rights_40 ?_
      obtain ⟨r4, I2, J3, hq1, hf⟩ := bo3_e hf
      refine r_callV (o := some (.int r4)) (w' := (wM g I2 J3)) (As := [.int ((4 : Int32) * x1)]) (rest := []) C (c_X8_readsItem hq1) dX8_rights_41 gX8_rights_X8_readsItem rfl rfl rfl hd_X8_readsItem ⟨by decide, by decide⟩ 0 mg_0 rfl rfl rfl rfl (Nat.le_of_ble_eq_true rfl) ?_
      refine r_if_ne (tgt := 55) C dX8_rights_44 (by decide) (fun q44 => ?_) (fun q44 => ?_)
      · have hf := itn hf q44
        obtain ⟨v5, ev5⟩ : ∃ z : Int32, z = x1 + (1 : Int32) := ⟨_, rfl⟩
        have hf := bnd_e hf v5 ev5
        refine r_iinc (v := v5) (lv' := [(0, .ref (g.1 0)), (1, .int v5)]) C dX8_rights_55 1 rfl (by rw [ev5]; rfl) (by decide) [1, 0] rfl ?_
        refine r_goto (tgt := 12) C dX8_rights_58 (by decide) ?_
        exact hk12 _ _ _ hf
      · have hf := itp hf q44
        refine r_bipush (v := (-10 : Int32)) C dX8_rights_47 (by decide) ?_
        refine r_aload_n C dX8_rights_49 rfl 0 rfl ?_
        refine r_get C dX8_rights_50 kX8_rights_1 0 mg_0 rfl 26 (by decide) kX8_rights_7 mv_0_26 ?_
        refine r_isub C dX8_rights_53 ?_
        exact hr _ _ _ _ _ dX8_rights_54 rfl hf
    · have hf := itp hf q26
      refine r_bipush (v := (-10 : Int32)) C dX8_rights_29 (by decide) ?_
      refine r_aload_n C dX8_rights_31 rfl 0 rfl ?_
      refine r_get C dX8_rights_32 kX8_rights_1 0 mg_0 rfl 24 (by decide) kX8_rights_2 mv_0_24 ?_
      refine r_isub C dX8_rights_35 ?_
      exact hr _ _ _ _ _ dX8_rights_36 rfl hf
theorem mL_X8_rights_12 {k : CT} {g : GG} (C : CX k cX8_rights 3 RX8 wsX8_rights rmX8_rights g) {ρ : (Int32 × MI × MJ)} (hr : RTW k wM g cX8_rights .int ρ) : ∀ (n : Nat) (I : MI) (J : MJ) (x1 : Int32), LP_X8_rights_12 n I J x1 = some ρ → V k (wM g I J) 12 [(0, .ref (g.1 0)), (1, .int x1)] [] := by
  intro n
  induction n with
  | zero => intro I J x1 hf; cases hf
  | succ n ih => intro I J x1 hf; exact mB_X8_rights_12 C hr (fun I J x1 h => ih I J x1 h) I J x1 hf
set_option maxRecDepth 100000 in
set_option maxHeartbeats 4000000 in
theorem c_X8_rights {l : Launch} {D : va_G} {g : GG} {I : MI} {J : MJ} {r : Int32} {I' : MI} {J' : MJ} (hf : f_X8_rights I J = some (r, I', J')) : CON l yX8_rights wsX8_rights rmX8_rights D g (wM g I J) [.ref (g.1 0)] (some (.int r)) (wM g I' J') := by
  refine con_of (cc := cX8_rights) (maxL := 3) (ret := (some .int)) (by decide) rfl (Nat.le_of_ble_eq_true rfl) rfl rfl ?_
  intro k C hkl hkD h1 h2 h3
  subst hkl; subst hkD
  have hr : RTW k wM g cX8_rights .int (r, I', J') := rtw_of h2
  unfold f_X8_rights at hf
  refine V.loc (lv' := [(0, .ref (g.1 0))]) [0] rfl ?_
  refine r_aload_n C dX8_rights_0 rfl 0 rfl ?_
  refine r_iconst (v := (0 : Int32)) C dX8_rights_1 (by decide) ?_
  refine r_put (ty := .int) C dX8_rights_2 kX8_rights_1 tyX8 tyX8_ok nmX8 0 mg_0 rfl 0 (by decide) kX8_rights_0 rfl rfl rfl rfl (Nat.le_of_ble_eq_true rfl) ms_0_0 ?_
  refine nmIM (fun I1 eI1 => ?_)
  have hf := bnd_e hf I1 eI1
  refine r_aload_n C dX8_rights_5 rfl 0 rfl ?_
  refine r_iconst (v := (0 : Int32)) C dX8_rights_6 (by decide) ?_
  refine r_put (ty := .int) C dX8_rights_7 kX8_rights_1 tyX8 tyX8_ok nmX8 0 mg_0 rfl 24 (by decide) kX8_rights_2 rfl rfl rfl rfl (Nat.le_of_ble_eq_true rfl) ms_0_24 ?_
  refine nmIM (fun I2 eI2 => ?_)
  have hf := bnd_e hf I2 eI2
  refine r_iconst (v := (0 : Int32)) C dX8_rights_10 (by decide) ?_
  refine r_istore_n (lv' := [(0, .ref (g.1 0)), (1, .int (0 : Int32))]) C dX8_rights_11 rfl (by decide) [1, 0] rfl ?_
  exact mL_X8_rights_12 C hr FU _ _ _ hf
abbrev rmX8_rightOf : Room := { frames := 0, cells := 0, slots := 0, locals := 0 }
theorem hd_X8_rightOf : yX8_rightOf.cls = RX8 ∧ yX8_rightOf.cls ≠ "java/lang/invoke/MethodHandle" ∧ yX8_rightOf.cls ≠ "java/lang/invoke/VarHandle" ∧ (parseMethodDescriptor yX8_rightOf.desc).map (fun d => d.parameters.length) = some 2 := by decide +kernel
theorem kX8_rightOf_0 : Cond.fieldLink RX8 177 (TX8 21).1 (TX8 21).2.1 (TX8 21).2.2.1 ∈ wsX8_rightOf := by decide +kernel
theorem kX8_rightOf_1 : ∀ w ∈ u_ws RX8 TX8 38, w ∈ wsX8_rightOf := by decide +kernel
theorem kX8_rightOf_2 : Cond.fieldLink RX8 36 (TX8 22).1 (TX8 22).2.1 (TX8 22).2.2.1 ∈ wsX8_rightOf := by decide +kernel
set_option maxRecDepth 100000 in
set_option maxHeartbeats 4000000 in
theorem mB_X8_rightOf_5 {k : CT} {g : GG} {I : MI} {J : MJ} (C : CX k cX8_rightOf 5 RX8 wsX8_rightOf rmX8_rightOf g) {ρ : Int32} (hr : RRW k (wM g I J) cX8_rightOf .int ρ) {kk5 : Int32 → Int32 → Int32 → Int32 → Option Int32} (hk5 : ∀ (x1 : Int32) (x2 : Int32) (x3 : Int32) (x4 : Int32), kk5 x1 x2 x3 x4 = some ρ → V k (wM g I J) 5 [(0, .ref (g.1 0)), (1, .int x1), (2, .int x2), (3, .int x3), (4, .int x4)] []) : ∀ (x1 : Int32) (x2 : Int32) (x3 : Int32) (x4 : Int32), LB_X8_rightOf_5 I J kk5 x1 x2 x3 x4 = some ρ → V k (wM g I J) 5 [(0, .ref (g.1 0)), (1, .int x1), (2, .int x2), (3, .int x3), (4, .int x4)] [] := by
  intro x1 x2 x3 x4 hf
  unfold LB_X8_rightOf_5 at hf
  refine r_iload C dX8_rightOf_5 4 rfl ?_
  refine r_aload_n C dX8_rightOf_7 rfl 0 rfl ?_
  refine r_get C dX8_rightOf_8 kX8_rightOf_1 0 mg_0 rfl 21 (by decide) kX8_rightOf_0 mv_0_21 ?_
  refine r_icmp_ge (tgt := 81) C dX8_rightOf_11 (by decide) (fun q11 => ?_) (fun q11 => ?_)
  · have hf := itp hf q11
    refine r_iload_n C dX8_rightOf_81 rfl 3 rfl ?_
    exact hr _ _ _ dX8_rightOf_82 rfl hf
  · have hf := itn hf q11
    refine r_iload_n C dX8_rightOf_14 rfl 3 rfl ?_
    refine r_aload_n C dX8_rightOf_15 rfl 0 rfl ?_
    refine r_get C dX8_rightOf_16 kX8_rightOf_1 0 mg_0 rfl 22 (by decide) kX8_rightOf_2 mv_0_22 ?_
    refine r_iconst (v := (4 : Int32)) C dX8_rightOf_19 (by decide) ?_
    refine r_iload C dX8_rightOf_20 4 rfl ?_
    refine r_imul C dX8_rightOf_22 ?_
    obtain ⟨h1, hf⟩ := chk_e hf
    refine r_iald (j := ((4 : Int32) * x4).toNatClampNeg) C dX8_rightOf_23 8 mg_8 (inb_e h1) rfl ?_
    refine r_iload_n C dX8_rightOf_24 rfl 1 rfl ?_
    refine r_icmp_ne (tgt := 72) C dX8_rightOf_25 (by decide) (fun q25 => ?_) (fun q25 => ?_)
    · have hf := itn hf q25
      refine r_iconst (v := (0 : Int32)) C dX8_rightOf_72 (by decide) ?_
      refine r_iadd C dX8_rightOf_73 ?_
      refine r_nmi (fun v2 ev2 => ?_)
      have hf := bnd_e hf v2 ev2
      refine r_istore_n (lv' := [(0, .ref (g.1 0)), (1, .int x1), (2, .int x2), (3, .int v2), (4, .int x4)]) C dX8_rightOf_74 rfl (by decide) [1, 2, 3, 0, 4] rfl ?_
      obtain ⟨v3, ev3⟩ : ∃ z : Int32, z = x4 + (1 : Int32) := ⟨_, rfl⟩
      have hf := bnd_e hf v3 ev3
      refine r_iinc (v := v3) (lv' := [(0, .ref (g.1 0)), (1, .int x1), (2, .int x2), (3, .int v2), (4, .int v3)]) C dX8_rightOf_75 4 rfl (by rw [ev3]; rfl) (by decide) [1, 2, 3, 4, 0] rfl ?_
      refine r_goto (tgt := 5) C dX8_rightOf_78 (by decide) ?_
      exact hk5 _ _ _ _ hf
    · have hf := itp hf q25
      refine r_iload_n C dX8_rightOf_28 rfl 2 rfl ?_
      refine r_aload_n C dX8_rightOf_29 rfl 0 rfl ?_
      refine r_get C dX8_rightOf_30 kX8_rightOf_1 0 mg_0 rfl 22 (by decide) kX8_rightOf_2 mv_0_22 ?_
      refine r_iconst (v := (4 : Int32)) C dX8_rightOf_33 (by decide) ?_
      refine r_iload C dX8_rightOf_34 4 rfl ?_
      refine r_imul C dX8_rightOf_36 ?_
      refine r_iconst (v := (1 : Int32)) C dX8_rightOf_37 (by decide) ?_
      refine r_iadd C dX8_rightOf_38 ?_
      obtain ⟨h4, hf⟩ := chk_e hf
      refine r_iald (j := (((4 : Int32) * x4) + (1 : Int32)).toNatClampNeg) C dX8_rightOf_39 8 mg_8 (inb_e h4) rfl ?_
      refine r_icmp_lt (tgt := 72) C dX8_rightOf_40 (by decide) (fun q40 => ?_) (fun q40 => ?_)
      · have hf := itp hf q40
        refine r_iconst (v := (0 : Int32)) C dX8_rightOf_72 (by decide) ?_
        refine r_iadd C dX8_rightOf_73 ?_
        refine r_nmi (fun v5 ev5 => ?_)
        have hf := bnd_e hf v5 ev5
        refine r_istore_n (lv' := [(0, .ref (g.1 0)), (1, .int x1), (2, .int x2), (3, .int v5), (4, .int x4)]) C dX8_rightOf_74 rfl (by decide) [1, 2, 3, 0, 4] rfl ?_
        obtain ⟨v6, ev6⟩ : ∃ z : Int32, z = x4 + (1 : Int32) := ⟨_, rfl⟩
        have hf := bnd_e hf v6 ev6
        refine r_iinc (v := v6) (lv' := [(0, .ref (g.1 0)), (1, .int x1), (2, .int x2), (3, .int v5), (4, .int v6)]) C dX8_rightOf_75 4 rfl (by rw [ev6]; rfl) (by decide) [1, 2, 3, 4, 0] rfl ?_
        refine r_goto (tgt := 5) C dX8_rightOf_78 (by decide) ?_
        exact hk5 _ _ _ _ hf
      · have hf := itn hf q40
        refine r_iload_n C dX8_rightOf_43 rfl 2 rfl ?_
        refine r_aload_n C dX8_rightOf_44 rfl 0 rfl ?_
        refine r_get C dX8_rightOf_45 kX8_rightOf_1 0 mg_0 rfl 22 (by decide) kX8_rightOf_2 mv_0_22 ?_
        refine r_iconst (v := (4 : Int32)) C dX8_rightOf_48 (by decide) ?_
        refine r_iload C dX8_rightOf_49 4 rfl ?_
        refine r_imul C dX8_rightOf_51 ?_
        refine r_iconst (v := (2 : Int32)) C dX8_rightOf_52 (by decide) ?_
        refine r_iadd C dX8_rightOf_53 ?_
        obtain ⟨h7, hf⟩ := chk_e hf
        refine r_iald (j := (((4 : Int32) * x4) + (2 : Int32)).toNatClampNeg) C dX8_rightOf_54 8 mg_8 (inb_e h7) rfl ?_
        refine r_icmp_ge (tgt := 72) C dX8_rightOf_55 (by decide) (fun q55 => ?_) (fun q55 => ?_)
        · have hf := itp hf q55
          refine r_iconst (v := (0 : Int32)) C dX8_rightOf_72 (by decide) ?_
          refine r_iadd C dX8_rightOf_73 ?_
          refine r_nmi (fun v8 ev8 => ?_)
          have hf := bnd_e hf v8 ev8
          refine r_istore_n (lv' := [(0, .ref (g.1 0)), (1, .int x1), (2, .int x2), (3, .int v8), (4, .int x4)]) C dX8_rightOf_74 rfl (by decide) [1, 2, 3, 0, 4] rfl ?_
          obtain ⟨v9, ev9⟩ : ∃ z : Int32, z = x4 + (1 : Int32) := ⟨_, rfl⟩
          have hf := bnd_e hf v9 ev9
          refine r_iinc (v := v9) (lv' := [(0, .ref (g.1 0)), (1, .int x1), (2, .int x2), (3, .int v8), (4, .int v9)]) C dX8_rightOf_75 4 rfl (by rw [ev9]; rfl) (by decide) [1, 2, 3, 4, 0] rfl ?_
          refine r_goto (tgt := 5) C dX8_rightOf_78 (by decide) ?_
          exact hk5 _ _ _ _ hf
        · have hf := itn hf q55
          refine r_aload_n C dX8_rightOf_58 rfl 0 rfl ?_
          refine r_get C dX8_rightOf_59 kX8_rightOf_1 0 mg_0 rfl 22 (by decide) kX8_rightOf_2 mv_0_22 ?_
          refine r_iconst (v := (4 : Int32)) C dX8_rightOf_62 (by decide) ?_
          refine r_iload C dX8_rightOf_63 4 rfl ?_
          refine r_imul C dX8_rightOf_65 ?_
          refine r_iconst (v := (3 : Int32)) C dX8_rightOf_66 (by decide) ?_
          refine r_iadd C dX8_rightOf_67 ?_
          obtain ⟨h10, hf⟩ := chk_e hf
          refine r_iald (j := (((4 : Int32) * x4) + (3 : Int32)).toNatClampNeg) C dX8_rightOf_68 8 mg_8 (inb_e h10) rfl ?_
          refine r_goto (tgt := 73) C dX8_rightOf_69 (by decide) ?_
          refine r_iadd C dX8_rightOf_73 ?_
          refine r_nmi (fun v11 ev11 => ?_)
          have hf := bnd_e hf v11 ev11
          refine r_istore_n (lv' := [(0, .ref (g.1 0)), (1, .int x1), (2, .int x2), (3, .int v11), (4, .int x4)]) C dX8_rightOf_74 rfl (by decide) [1, 2, 3, 0, 4] rfl ?_
          obtain ⟨v12, ev12⟩ : ∃ z : Int32, z = x4 + (1 : Int32) := ⟨_, rfl⟩
          have hf := bnd_e hf v12 ev12
          refine r_iinc (v := v12) (lv' := [(0, .ref (g.1 0)), (1, .int x1), (2, .int x2), (3, .int v11), (4, .int v12)]) C dX8_rightOf_75 4 rfl (by rw [ev12]; rfl) (by decide) [1, 2, 3, 4, 0] rfl ?_
          refine r_goto (tgt := 5) C dX8_rightOf_78 (by decide) ?_
          exact hk5 _ _ _ _ hf
theorem mL_X8_rightOf_5 {k : CT} {g : GG} {I : MI} {J : MJ} (C : CX k cX8_rightOf 5 RX8 wsX8_rightOf rmX8_rightOf g) {ρ : Int32} (hr : RRW k (wM g I J) cX8_rightOf .int ρ) : ∀ (n : Nat) (x1 : Int32) (x2 : Int32) (x3 : Int32) (x4 : Int32), LP_X8_rightOf_5 I J n x1 x2 x3 x4 = some ρ → V k (wM g I J) 5 [(0, .ref (g.1 0)), (1, .int x1), (2, .int x2), (3, .int x3), (4, .int x4)] [] := by
  intro n
  induction n with
  | zero => intro x1 x2 x3 x4 hf; cases hf
  | succ n ih => intro x1 x2 x3 x4 hf; exact mB_X8_rightOf_5 C hr (fun x1 x2 x3 x4 h => ih x1 x2 x3 x4 h) x1 x2 x3 x4 hf
set_option maxRecDepth 100000 in
set_option maxHeartbeats 4000000 in
theorem c_X8_rightOf {l : Launch} {D : va_G} {g : GG} {I : MI} {J : MJ} {a1 : Int32} {a2 : Int32} {r : Int32} (hf : f_X8_rightOf I J a1 a2 = some r) : CON l yX8_rightOf wsX8_rightOf rmX8_rightOf D g (wM g I J) [.ref (g.1 0), .int a1, .int a2] (some (.int r)) (wM g I J) := by
  refine con_of (cc := cX8_rightOf) (maxL := 5) (ret := (some .int)) (by decide) rfl (Nat.le_of_ble_eq_true rfl) rfl rfl ?_
  intro k C hkl hkD h1 h2 h3
  subst hkl; subst hkD
  have hr : RRW k (wM g I J) cX8_rightOf .int r := rrw_of h2
  unfold f_X8_rightOf at hf
  refine V.loc (lv' := [(0, .ref (g.1 0)), (1, .int a1), (2, .int a2)]) [0, 1, 2] rfl ?_
  refine r_iconst (v := (0 : Int32)) C dX8_rightOf_0 (by decide) ?_
  refine r_istore_n (lv' := [(0, .ref (g.1 0)), (1, .int a1), (2, .int a2), (3, .int (0 : Int32))]) C dX8_rightOf_1 rfl (by decide) [1, 2, 3, 0] rfl ?_
  refine r_iconst (v := (0 : Int32)) C dX8_rightOf_2 (by decide) ?_
  refine r_istore (lv' := [(0, .ref (g.1 0)), (1, .int a1), (2, .int a2), (3, .int (0 : Int32)), (4, .int (0 : Int32))]) C dX8_rightOf_3 (by decide) [1, 2, 3, 4, 0] rfl ?_
  exact mL_X8_rightOf_5 C hr FU _ _ _ _ hf
abbrev rmX8_right : Room := { frames := 1, cells := 0, slots := 0, locals := 24 }
theorem hd_X8_right : yX8_right.cls = RX8 ∧ yX8_right.cls ≠ "java/lang/invoke/MethodHandle" ∧ yX8_right.cls ≠ "java/lang/invoke/VarHandle" ∧ (parseMethodDescriptor yX8_right.desc).map (fun d => d.parameters.length) = some 2 := by decide +kernel
theorem kX8_right_0 : Cond.fieldLink RX8 64 (TX8 0).1 (TX8 0).2.1 (TX8 0).2.2.1 ∈ wsX8_right := by decide +kernel
theorem kX8_right_1 : ∀ w ∈ u_ws RX8 TX8 38, w ∈ wsX8_right := by decide +kernel
set_option maxRecDepth 100000 in
set_option maxHeartbeats 4000000 in
theorem c_X8_right {l : Launch} {D : va_G} {g : GG} {I : MI} {J : MJ} {a1 : Int32} {a2 : Int32} {r : Int32} {I' : MI} {J' : MJ} (hf : f_X8_right I J a1 a2 = some (r, I', J')) : CON l yX8_right wsX8_right rmX8_right D g (wM g I J) [.ref (g.1 0), .int a1, .int a2] (some (.int r)) (wM g I' J') := by
  refine con_of (cc := cX8_right) (maxL := 3) (ret := (some .int)) (by decide) rfl (Nat.le_of_ble_eq_true rfl) rfl rfl ?_
  intro k C hkl hkD h1 h2 h3
  subst hkl; subst hkD
  have hr : RTW k wM g cX8_right .int (r, I', J') := rtw_of h2
  unfold f_X8_right at hf
  refine V.loc (lv' := [(0, .ref (g.1 0)), (1, .int a1), (2, .int a2)]) [0, 1, 2] rfl ?_
  refine r_aload_n C dX8_right_0 rfl 0 rfl ?_
  refine r_iconst (v := (0 : Int32)) C dX8_right_1 (by decide) ?_
  refine r_put (ty := .int) C dX8_right_2 kX8_right_1 tyX8 tyX8_ok nmX8 0 mg_0 rfl 0 (by decide) kX8_right_0 rfl rfl rfl rfl (Nat.le_of_ble_eq_true rfl) ms_0_0 ?_
  refine nmIM (fun I1 eI1 => ?_)
  have hf := bnd_e hf I1 eI1
  refine r_iload_n C dX8_right_5 rfl 1 rfl ?_
  refine r_iconst (v := (0 : Int32)) C dX8_right_6 (by decide) ?_
  refine r_iconst (v := (4 : Int32)) C dX8_right_7 (by decide) ?_
  obtain ⟨r3, hq2, hf⟩ := bo1_e hf
  refine r_callS (o := some (.int r3)) (w' := (wM g I1 J)) (As := [.int a1, .int (0 : Int32), .int (4 : Int32)]) (rest := []) C (c_X8_in hq2) dX8_right_8 gX8_right_X8_in rfl rfl rfl hd_X8_in ⟨by decide, by decide⟩ rfl rfl (Nat.le_of_ble_eq_true rfl) ?_
  refine r_if_eq (tgt := 33) C dX8_right_11 (by decide) (fun q11 => ?_) (fun q11 => ?_)
  · have hf := itp hf q11
    refine r_iconst (v := (-1 : Int32)) C dX8_right_33 (by decide) ?_
    exact hr _ _ _ _ _ dX8_right_34 rfl hf
  · have hf := itn hf q11
    refine r_iload_n C dX8_right_14 rfl 2 rfl ?_
    refine r_iconst (v := (0 : Int32)) C dX8_right_15 (by decide) ?_
    refine r_bipush (v := (23 : Int32)) C dX8_right_16 (by decide) ?_
    obtain ⟨r5, hq4, hf⟩ := bo1_e hf
    refine r_callS (o := some (.int r5)) (w' := (wM g I1 J)) (As := [.int a2, .int (0 : Int32), .int (23 : Int32)]) (rest := []) C (c_X8_in hq4) dX8_right_18 gX8_right_X8_in rfl rfl rfl hd_X8_in ⟨by decide, by decide⟩ rfl rfl (Nat.le_of_ble_eq_true rfl) ?_
    refine r_if_eq (tgt := 33) C dX8_right_21 (by decide) (fun q21 => ?_) (fun q21 => ?_)
    · have hf := itp hf q21
      refine r_iconst (v := (-1 : Int32)) C dX8_right_33 (by decide) ?_
      exact hr _ _ _ _ _ dX8_right_34 rfl hf
    · have hf := itn hf q21
      refine r_aload_n C dX8_right_24 rfl 0 rfl ?_
      refine r_iload_n C dX8_right_25 rfl 1 rfl ?_
      refine r_iload_n C dX8_right_26 rfl 2 rfl ?_
      obtain ⟨r7, hq6, hf⟩ := bo1_e hf
      refine r_callV (o := some (.int r7)) (w' := (wM g I1 J)) (As := [.int a1, .int a2]) (rest := []) C (c_X8_rightOf hq6) dX8_right_27 gX8_right_X8_rightOf rfl rfl rfl hd_X8_rightOf ⟨by decide, by decide⟩ 0 mg_0 rfl rfl rfl rfl (Nat.le_of_ble_eq_true rfl) ?_
      refine r_goto (tgt := 34) C dX8_right_30 (by decide) ?_
      exact hr _ _ _ _ _ dX8_right_34 rfl hf
