abbrev rmX8_read : Room := { frames := 2, cells := 0, slots := 0, locals := 43 }
theorem hd_X8_read : yX8_read.cls = RX8 ∧ yX8_read.cls ≠ "java/lang/invoke/MethodHandle" ∧ yX8_read.cls ≠ "java/lang/invoke/VarHandle" ∧ (parseMethodDescriptor yX8_read.desc).map (fun d => d.parameters.length) = some 3 := by decide +kernel
theorem kX8_read_0 : Cond.fieldLink RX8 64 (TX8 0).1 (TX8 0).2.1 (TX8 0).2.2.1 ∈ wsX8_read := by decide +kernel
theorem kX8_read_1 : ∀ w ∈ u_ws RX8 TX8 38, w ∈ wsX8_read := by decide +kernel
theorem kX8_read_2 : Cond.fieldLink RX8 199 (TX8 31).1 (TX8 31).2.1 (TX8 31).2.2.1 ∈ wsX8_read := by decide +kernel
theorem kX8_read_3 : Cond.fieldLink RX8 46 (TX8 32).1 (TX8 32).2.1 (TX8 32).2.2.1 ∈ wsX8_read := by decide +kernel
theorem kX8_read_4 : Cond.fieldLink RX8 49 (TX8 33).1 (TX8 33).2.1 (TX8 33).2.2.1 ∈ wsX8_read := by decide +kernel
theorem kX8_read_5 : Cond.fieldLink RX8 52 (TX8 34).1 (TX8 34).2.1 (TX8 34).2.2.1 ∈ wsX8_read := by decide +kernel
set_option maxRecDepth 100000 in
set_option maxHeartbeats 4000000 in
theorem mB_X8_read_41 {k : CT} {g : GG} (C : CX k cX8_read 4 RX8 wsX8_read rmX8_read g) {ρ : (Int32 × MI × MJ)} (hr : RTW k wM g cX8_read .int ρ) : ∀ (I : MI) (J : MJ) (x1 : Int32) (x2 : Int32) (x3 : Int32), LB_X8_read_41 I J x1 x2 x3 = some ρ → V k (wM g I J) 41 [(0, .ref (g.1 0)), (1, .int x1), (2, .int x2), (3, .int x3)] [] := by
  intro I J x1 x2 x3 hf
  unfold LB_X8_read_41 at hf
  refine r_aload_n C dX8_read_41 rfl 0 rfl ?_
  refine r_get C dX8_read_42 kX8_read_1 0 mg_0 rfl 31 (by decide) kX8_read_2 mv_0_31 ?_
  refine r_bipush (v := (12 : Int32)) C dX8_read_45 (by decide) ?_
  refine r_icmp_ne (tgt := 53) C dX8_read_47 (by decide) (fun q47 => ?_) (fun q47 => ?_)
  · have hf := itn hf q47
    refine r_aload_n C dX8_read_53 rfl 0 rfl ?_
    refine r_get C dX8_read_54 kX8_read_1 0 mg_0 rfl 32 (by decide) kX8_read_3 mv_0_32 ?_
    refine r_aload_n C dX8_read_57 rfl 0 rfl ?_
    refine r_get C dX8_read_58 kX8_read_1 0 mg_0 rfl 31 (by decide) kX8_read_2 mv_0_31 ?_
    refine r_iload_n C dX8_read_61 rfl 1 rfl ?_
    obtain ⟨h1, hf⟩ := chk_e hf
    refine r_iast (j := (I 0 31).toNatClampNeg) C dX8_read_62 11 mg_11 (inb_e h1) rfl ma_11 ?_
    refine nmIM (fun I2 eI2 => ?_)
    have hf := bnd_e hf I2 eI2
    refine r_aload_n C dX8_read_63 rfl 0 rfl ?_
    refine r_get C dX8_read_64 kX8_read_1 0 mg_0 rfl 33 (by decide) kX8_read_4 mv_0_33 ?_
    refine r_aload_n C dX8_read_67 rfl 0 rfl ?_
    refine r_get C dX8_read_68 kX8_read_1 0 mg_0 rfl 31 (by decide) kX8_read_2 mv_0_31 ?_
    refine r_iload_n C dX8_read_71 rfl 2 rfl ?_
    obtain ⟨h3, hf⟩ := chk_e hf
    refine r_iast (j := (I2 0 31).toNatClampNeg) C dX8_read_72 12 mg_12 (inb_e h3) rfl ma_12 ?_
    refine nmIM (fun I4 eI4 => ?_)
    have hf := bnd_e hf I4 eI4
    refine r_aload_n C dX8_read_73 rfl 0 rfl ?_
    refine r_get C dX8_read_74 kX8_read_1 0 mg_0 rfl 34 (by decide) kX8_read_5 mv_0_34 ?_
    refine r_aload_n C dX8_read_77 rfl 0 rfl ?_
    refine r_get C dX8_read_78 kX8_read_1 0 mg_0 rfl 31 (by decide) kX8_read_2 mv_0_31 ?_
    refine r_iload_n C dX8_read_81 rfl 3 rfl ?_
    obtain ⟨h5, hf⟩ := chk_e hf
    refine r_iast (j := (I4 0 31).toNatClampNeg) C dX8_read_82 13 mg_13 (inb_e h5) rfl ma_13 ?_
    refine nmIM (fun I6 eI6 => ?_)
    have hf := bnd_e hf I6 eI6
    refine r_aload_n C dX8_read_83 rfl 0 rfl ?_
    refine r_dup C dX8_read_84 rfl ?_
    refine r_get C dX8_read_85 kX8_read_1 0 mg_0 rfl 31 (by decide) kX8_read_2 mv_0_31 ?_
    refine r_iconst (v := (1 : Int32)) C dX8_read_88 (by decide) ?_
    refine r_iadd C dX8_read_89 ?_
    refine r_put (ty := .int) C dX8_read_90 kX8_read_1 tyX8 tyX8_ok nmX8 0 mg_0 rfl 31 (by decide) kX8_read_2 rfl rfl rfl rfl (Nat.le_of_ble_eq_true rfl) ms_0_31 ?_
    refine nmIM (fun I7 eI7 => ?_)
    have hf := bnd_e hf I7 eI7
    refine r_aload_n C dX8_read_93 rfl 0 rfl ?_
    refine r_get C dX8_read_94 kX8_read_1 0 mg_0 rfl 31 (by decide) kX8_read_2 mv_0_31 ?_
    exact hr _ _ _ _ _ dX8_read_97 rfl hf
  · have hf := itp hf q47
    refine r_bipush (v := (-3 : Int32)) C dX8_read_50 (by decide) ?_
    exact hr _ _ _ _ _ dX8_read_52 rfl hf
set_option maxRecDepth 100000 in
set_option maxHeartbeats 4000000 in
theorem c_X8_read {l : Launch} {D : va_G} {g : GG} {I : MI} {J : MJ} {a1 : Int32} {a2 : Int32} {a3 : Int32} {r : Int32} {I' : MI} {J' : MJ} (hf : f_X8_read I J a1 a2 a3 = some (r, I', J')) : CON l yX8_read wsX8_read rmX8_read D g (wM g I J) [.ref (g.1 0), .int a1, .int a2, .int a3] (some (.int r)) (wM g I' J') := by
  refine con_of (cc := cX8_read) (maxL := 4) (ret := (some .int)) (by decide) rfl (Nat.le_of_ble_eq_true rfl) rfl rfl ?_
  intro k C hkl hkD h1 h2 h3
  subst hkl; subst hkD
  have hr : RTW k wM g cX8_read .int (r, I', J') := rtw_of h2
  unfold f_X8_read at hf
  refine V.loc (lv' := [(0, .ref (g.1 0)), (1, .int a1), (2, .int a2), (3, .int a3)]) [0, 1, 2, 3] rfl ?_
  refine r_aload_n C dX8_read_0 rfl 0 rfl ?_
  refine r_iconst (v := (0 : Int32)) C dX8_read_1 (by decide) ?_
  refine r_put (ty := .int) C dX8_read_2 kX8_read_1 tyX8 tyX8_ok nmX8 0 mg_0 rfl 0 (by decide) kX8_read_0 rfl rfl rfl rfl (Nat.le_of_ble_eq_true rfl) ms_0_0 ?_
  refine nmIM (fun I1 eI1 => ?_)
  have hf := bnd_e hf I1 eI1
  refine r_aload_n C dX8_read_5 rfl 0 rfl ?_
  refine r_iload_n C dX8_read_6 rfl 1 rfl ?_
  obtain ⟨r3, hq2, hf⟩ := bo1_e hf
  refine r_callV (o := some (.int r3)) (w' := (wM g I1 J)) (As := [.int a1]) (rest := []) C (c_X8_isRam hq2) dX8_read_7 gX8_read_X8_isRam rfl rfl rfl hd_X8_isRam ⟨by decide, by decide⟩ 0 mg_0 rfl rfl rfl rfl (Nat.le_of_ble_eq_true rfl) ?_
  refine r_if_eq (tgt := 39) C dX8_read_10 (by decide) (fun q10 => ?_) (fun q10 => ?_)
  · have hf := itp hf q10
    refine r_iconst (v := (-1 : Int32)) C dX8_read_39 (by decide) ?_
    exact hr _ _ _ _ _ dX8_read_40 rfl hf
  · have hf := itn hf q10
    refine r_iload_n C dX8_read_13 rfl 2 rfl ?_
    obtain ⟨r5, hq4, hf⟩ := bo1_e hf
    refine r_callS (o := some (.int r5)) (w' := (wM g I1 J)) (As := [.int a2]) (rest := []) C (c_X8_isRead hq4) dX8_read_14 gX8_read_X8_isRead rfl rfl rfl hd_X8_isRead ⟨by decide, by decide⟩ rfl rfl (Nat.le_of_ble_eq_true rfl) ?_
    refine r_if_eq (tgt := 39) C dX8_read_17 (by decide) (fun q17 => ?_) (fun q17 => ?_)
    · have hf := itp hf q17
      refine r_iconst (v := (-1 : Int32)) C dX8_read_39 (by decide) ?_
      exact hr _ _ _ _ _ dX8_read_40 rfl hf
    · have hf := itn hf q17
      refine r_iload_n C dX8_read_20 rfl 3 rfl ?_
      obtain ⟨r7, hq6, hf⟩ := bo1_e hf
      refine r_callS (o := some (.int r7)) (w' := (wM g I1 J)) (As := [.int a3]) (rest := []) C (c_X8_isRead hq6) dX8_read_21 gX8_read_X8_isRead rfl rfl rfl hd_X8_isRead ⟨by decide, by decide⟩ rfl rfl (Nat.le_of_ble_eq_true rfl) ?_
      refine r_if_eq (tgt := 39) C dX8_read_24 (by decide) (fun q24 => ?_) (fun q24 => ?_)
      · have hf := itp hf q24
        refine r_iconst (v := (-1 : Int32)) C dX8_read_39 (by decide) ?_
        exact hr _ _ _ _ _ dX8_read_40 rfl hf
      · have hf := itn hf q24
        refine r_iload_n C dX8_read_27 rfl 2 rfl ?_
        refine r_bipush (v := (-9 : Int32)) C dX8_read_28 (by decide) ?_
        refine r_icmp_ne (tgt := 41) C dX8_read_30 (by decide) (fun q30 => ?_) (fun q30 => ?_)
        · have hf := itn hf q30
          exact mB_X8_read_41 C hr _ _ _ _ _ hf
        · have hf := itp hf q30
          refine r_iload_n C dX8_read_33 rfl 3 rfl ?_
          refine r_bipush (v := (-9 : Int32)) C dX8_read_34 (by decide) ?_
          refine r_icmp_ne (tgt := 41) C dX8_read_36 (by decide) (fun q36 => ?_) (fun q36 => ?_)
          · have hf := itn hf q36
            exact mB_X8_read_41 C hr _ _ _ _ _ hf
          · have hf := itp hf q36
            refine r_iconst (v := (-1 : Int32)) C dX8_read_39 (by decide) ?_
            exact hr _ _ _ _ _ dX8_read_40 rfl hf
abbrev rmX8_wipe : Room := { frames := 0, cells := 0, slots := 0, locals := 0 }
theorem hd_X8_wipe : yX8_wipe.cls = RX8 ∧ yX8_wipe.cls ≠ "java/lang/invoke/MethodHandle" ∧ yX8_wipe.cls ≠ "java/lang/invoke/VarHandle" ∧ (parseMethodDescriptor yX8_wipe.desc).map (fun d => d.parameters.length) = some 0 := by decide +kernel
theorem kX8_wipe_0 : Cond.fieldLink RX8 64 (TX8 0).1 (TX8 0).2.1 (TX8 0).2.2.1 ∈ wsX8_wipe := by decide +kernel
theorem kX8_wipe_1 : ∀ w ∈ u_ws RX8 TX8 38, w ∈ wsX8_wipe := by decide +kernel
theorem kX8_wipe_2 : Cond.fieldLink RX8 199 (TX8 31).1 (TX8 31).2.1 (TX8 31).2.2.1 ∈ wsX8_wipe := by decide +kernel
set_option maxRecDepth 100000 in
set_option maxHeartbeats 4000000 in
theorem c_X8_wipe {l : Launch} {D : va_G} {g : GG} {I : MI} {J : MJ} {r : Int32} {I' : MI} {J' : MJ} (hf : f_X8_wipe I J = some (r, I', J')) : CON l yX8_wipe wsX8_wipe rmX8_wipe D g (wM g I J) [.ref (g.1 0)] (some (.int r)) (wM g I' J') := by
  refine con_of (cc := cX8_wipe) (maxL := 2) (ret := (some .int)) (by decide) rfl (Nat.le_of_ble_eq_true rfl) rfl rfl ?_
  intro k C hkl hkD h1 h2 h3
  subst hkl; subst hkD
  have hr : RTW k wM g cX8_wipe .int (r, I', J') := rtw_of h2
  unfold f_X8_wipe at hf
  refine V.loc (lv' := [(0, .ref (g.1 0))]) [0] rfl ?_
  refine r_aload_n C dX8_wipe_0 rfl 0 rfl ?_
  refine r_iconst (v := (0 : Int32)) C dX8_wipe_1 (by decide) ?_
  refine r_put (ty := .int) C dX8_wipe_2 kX8_wipe_1 tyX8 tyX8_ok nmX8 0 mg_0 rfl 0 (by decide) kX8_wipe_0 rfl rfl rfl rfl (Nat.le_of_ble_eq_true rfl) ms_0_0 ?_
  refine nmIM (fun I1 eI1 => ?_)
  have hf := bnd_e hf I1 eI1
  refine r_aload_n C dX8_wipe_5 rfl 0 rfl ?_
  refine r_get C dX8_wipe_6 kX8_wipe_1 0 mg_0 rfl 31 (by decide) kX8_wipe_2 mv_0_31 ?_
  refine r_nmi (fun v2 ev2 => ?_)
  have hf := bnd_e hf v2 ev2
  refine r_istore_n (lv' := [(0, .ref (g.1 0)), (1, .int v2)]) C dX8_wipe_9 rfl (by decide) [1, 0] rfl ?_
  refine r_aload_n C dX8_wipe_10 rfl 0 rfl ?_
  refine r_iconst (v := (0 : Int32)) C dX8_wipe_11 (by decide) ?_
  refine r_put (ty := .int) C dX8_wipe_12 kX8_wipe_1 tyX8 tyX8_ok nmX8 0 mg_0 rfl 31 (by decide) kX8_wipe_2 rfl rfl rfl rfl (Nat.le_of_ble_eq_true rfl) ms_0_31 ?_
  refine nmIM (fun I3 eI3 => ?_)
  have hf := bnd_e hf I3 eI3
  refine r_iload_n C dX8_wipe_15 rfl 1 rfl ?_
  exact hr _ _ _ _ _ dX8_wipe_16 rfl hf
abbrev rmX8_tolerance : Room := { frames := 1, cells := 0, slots := 0, locals := 22 }
theorem hd_X8_tolerance : yX8_tolerance.cls = RX8 ∧ yX8_tolerance.cls ≠ "java/lang/invoke/MethodHandle" ∧ yX8_tolerance.cls ≠ "java/lang/invoke/VarHandle" ∧ (parseMethodDescriptor yX8_tolerance.desc).map (fun d => d.parameters.length) = some 2 := by decide +kernel
theorem kX8_tolerance_0 : Cond.fieldLink RX8 64 (TX8 0).1 (TX8 0).2.1 (TX8 0).2.2.1 ∈ wsX8_tolerance := by decide +kernel
theorem kX8_tolerance_1 : ∀ w ∈ u_ws RX8 TX8 38, w ∈ wsX8_tolerance := by decide +kernel
theorem kX8_tolerance_2 : Cond.fieldLink RX8 58 (TX8 36).1 (TX8 36).2.1 (TX8 36).2.2.1 ∈ wsX8_tolerance := by decide +kernel
theorem kX8_tolerance_3 : Cond.fieldLink RX8 55 (TX8 35).1 (TX8 35).2.1 (TX8 35).2.2.1 ∈ wsX8_tolerance := by decide +kernel
set_option maxRecDepth 100000 in
set_option maxHeartbeats 4000000 in
theorem mB_X8_tolerance_65 {k : CT} {g : GG} (C : CX k cX8_tolerance 4 RX8 wsX8_tolerance rmX8_tolerance g) {ρ : (Int32 × MI × MJ)} (hr : RTW k wM g cX8_tolerance .int ρ) : ∀ (I : MI) (J : MJ) (x1 : Int32) (x2 : Int32) (x3 : Int32) (s1 : Int32), LB_X8_tolerance_65 I J x1 x2 x3 s1 = some ρ → V k (wM g I J) 65 [(0, .ref (g.1 0)), (1, .int x1), (2, .int x2), (3, .int x3)] [.int s1, .ref (g.1 0)] := by
  intro I J x1 x2 x3 s1 hf
  unfold LB_X8_tolerance_65 at hf
  refine r_put (ty := .int) C dX8_tolerance_65 kX8_tolerance_1 tyX8 tyX8_ok nmX8 0 mg_0 rfl 35 (by decide) kX8_tolerance_3 rfl rfl rfl rfl (Nat.le_of_ble_eq_true rfl) ms_0_35 ?_
  refine nmIM (fun I1 eI1 => ?_)
  have hf := bnd_e hf I1 eI1
  refine r_aload_n C dX8_tolerance_68 rfl 0 rfl ?_
  refine r_iload_n C dX8_tolerance_69 rfl 1 rfl ?_
  refine r_iconst (v := (1 : Int32)) C dX8_tolerance_70 (by decide) ?_
  refine r_icmp_ne (tgt := 78) C dX8_tolerance_71 (by decide) (fun q71 => ?_) (fun q71 => ?_)
  · have hf := itn hf q71
    refine r_aload_n C dX8_tolerance_78 rfl 0 rfl ?_
    refine r_get C dX8_tolerance_79 kX8_tolerance_1 0 mg_0 rfl 36 (by decide) kX8_tolerance_2 mv_0_36 ?_
    refine r_put (ty := .int) C dX8_tolerance_82 kX8_tolerance_1 tyX8 tyX8_ok nmX8 0 mg_0 rfl 36 (by decide) kX8_tolerance_2 rfl rfl rfl rfl (Nat.le_of_ble_eq_true rfl) ms_0_36 ?_
    refine nmIM (fun I2 eI2 => ?_)
    have hf := bnd_e hf I2 eI2
    refine r_iload_n C dX8_tolerance_85 rfl 3 rfl ?_
    exact hr _ _ _ _ _ dX8_tolerance_86 rfl hf
  · have hf := itp hf q71
    refine r_iload_n C dX8_tolerance_74 rfl 2 rfl ?_
    refine r_goto (tgt := 82) C dX8_tolerance_75 (by decide) ?_
    refine r_put (ty := .int) C dX8_tolerance_82 kX8_tolerance_1 tyX8 tyX8_ok nmX8 0 mg_0 rfl 36 (by decide) kX8_tolerance_2 rfl rfl rfl rfl (Nat.le_of_ble_eq_true rfl) ms_0_36 ?_
    refine nmIM (fun I3 eI3 => ?_)
    have hf := bnd_e hf I3 eI3
    refine r_iload_n C dX8_tolerance_85 rfl 3 rfl ?_
    exact hr _ _ _ _ _ dX8_tolerance_86 rfl hf
set_option maxRecDepth 100000 in
set_option maxHeartbeats 4000000 in
theorem mB_X8_tolerance_51 {k : CT} {g : GG} (C : CX k cX8_tolerance 4 RX8 wsX8_tolerance rmX8_tolerance g) {ρ : (Int32 × MI × MJ)} (hr : RTW k wM g cX8_tolerance .int ρ) : ∀ (I : MI) (J : MJ) (x1 : Int32) (x2 : Int32) (s0 : Int32), LB_X8_tolerance_51 I J x1 x2 s0 = some ρ → V k (wM g I J) 51 [(0, .ref (g.1 0)), (1, .int x1), (2, .int x2)] [.int s0] := by
  intro I J x1 x2 s0 hf
  unfold LB_X8_tolerance_51 at hf
  refine r_istore_n (lv' := [(0, .ref (g.1 0)), (1, .int x1), (2, .int x2), (3, .int s0)]) C dX8_tolerance_51 rfl (by decide) [1, 2, 3, 0] rfl ?_
  refine r_aload_n C dX8_tolerance_52 rfl 0 rfl ?_
  refine r_iload_n C dX8_tolerance_53 rfl 1 rfl ?_
  refine r_if_ne (tgt := 61) C dX8_tolerance_54 (by decide) (fun q54 => ?_) (fun q54 => ?_)
  · have hf := itn hf q54
    refine r_aload_n C dX8_tolerance_61 rfl 0 rfl ?_
    refine r_get C dX8_tolerance_62 kX8_tolerance_1 0 mg_0 rfl 35 (by decide) kX8_tolerance_3 mv_0_35 ?_
    exact mB_X8_tolerance_65 C hr _ _ _ _ _ _ hf
  · have hf := itp hf q54
    refine r_iload_n C dX8_tolerance_57 rfl 2 rfl ?_
    refine r_goto (tgt := 65) C dX8_tolerance_58 (by decide) ?_
    exact mB_X8_tolerance_65 C hr _ _ _ _ _ _ hf
set_option maxRecDepth 100000 in
set_option maxHeartbeats 4000000 in
theorem mB_X8_tolerance_28 {k : CT} {g : GG} (C : CX k cX8_tolerance 4 RX8 wsX8_tolerance rmX8_tolerance g) {ρ : (Int32 × MI × MJ)} (hr : RTW k wM g cX8_tolerance .int ρ) : ∀ (I : MI) (J : MJ) (x1 : Int32) (x2 : Int32) (s0 : Int32) (s1 : Int32) (s2 : Int32), LB_X8_tolerance_28 I J x1 x2 s0 s1 s2 = some ρ → V k (wM g I J) 28 [(0, .ref (g.1 0)), (1, .int x1), (2, .int x2)] [.int s2, .int s1, .int s0] := by
  intro I J x1 x2 s0 s1 s2 hf
  unfold LB_X8_tolerance_28 at hf
  obtain ⟨r2, hq1, hf⟩ := bo1_e hf
  refine r_callS (o := some (.int r2)) (w' := (wM g I J)) (As := [.int s0, .int s1, .int s2]) (rest := []) C (c_X8_in hq1) dX8_tolerance_28 gX8_tolerance_X8_in rfl rfl rfl hd_X8_in ⟨by decide, by decide⟩ rfl rfl (Nat.le_of_ble_eq_true rfl) ?_
  refine r_if_ne (tgt := 36) C dX8_tolerance_31 (by decide) (fun q31 => ?_) (fun q31 => ?_)
  · have hf := itn hf q31
    refine r_iload_n C dX8_tolerance_36 rfl 1 rfl ?_
    refine r_if_ne (tgt := 47) C dX8_tolerance_37 (by decide) (fun q37 => ?_) (fun q37 => ?_)
    · have hf := itn hf q37
      refine r_aload_n C dX8_tolerance_47 rfl 0 rfl ?_
      refine r_get C dX8_tolerance_48 kX8_tolerance_1 0 mg_0 rfl 36 (by decide) kX8_tolerance_2 mv_0_36 ?_
      exact mB_X8_tolerance_51 C hr _ _ _ _ _ hf
    · have hf := itp hf q37
      refine r_aload_n C dX8_tolerance_40 rfl 0 rfl ?_
      refine r_get C dX8_tolerance_41 kX8_tolerance_1 0 mg_0 rfl 35 (by decide) kX8_tolerance_3 mv_0_35 ?_
      refine r_goto (tgt := 51) C dX8_tolerance_44 (by decide) ?_
      exact mB_X8_tolerance_51 C hr _ _ _ _ _ hf
  · have hf := itp hf q31
    refine r_iconst (v := (-1 : Int32)) C dX8_tolerance_34 (by decide) ?_
    exact hr _ _ _ _ _ dX8_tolerance_35 rfl hf
set_option maxRecDepth 100000 in
set_option maxHeartbeats 4000000 in
theorem c_X8_tolerance {l : Launch} {D : va_G} {g : GG} {I : MI} {J : MJ} {a1 : Int32} {a2 : Int32} {r : Int32} {I' : MI} {J' : MJ} (hf : f_X8_tolerance I J a1 a2 = some (r, I', J')) : CON l yX8_tolerance wsX8_tolerance rmX8_tolerance D g (wM g I J) [.ref (g.1 0), .int a1, .int a2] (some (.int r)) (wM g I' J') := by
  refine con_of (cc := cX8_tolerance) (maxL := 4) (ret := (some .int)) (by decide) rfl (Nat.le_of_ble_eq_true rfl) rfl rfl ?_
  intro k C hkl hkD h1 h2 h3
  subst hkl; subst hkD
  have hr : RTW k wM g cX8_tolerance .int (r, I', J') := rtw_of h2
  unfold f_X8_tolerance at hf
  refine V.loc (lv' := [(0, .ref (g.1 0)), (1, .int a1), (2, .int a2)]) [0, 1, 2] rfl ?_
  refine r_aload_n C dX8_tolerance_0 rfl 0 rfl ?_
  refine r_iconst (v := (0 : Int32)) C dX8_tolerance_1 (by decide) ?_
  refine r_put (ty := .int) C dX8_tolerance_2 kX8_tolerance_1 tyX8 tyX8_ok nmX8 0 mg_0 rfl 0 (by decide) kX8_tolerance_0 rfl rfl rfl rfl (Nat.le_of_ble_eq_true rfl) ms_0_0 ?_
  refine nmIM (fun I1 eI1 => ?_)
  have hf := bnd_e hf I1 eI1
  refine r_iload_n C dX8_tolerance_5 rfl 1 rfl ?_
  refine r_iconst (v := (0 : Int32)) C dX8_tolerance_6 (by decide) ?_
  refine r_iconst (v := (1 : Int32)) C dX8_tolerance_7 (by decide) ?_
  obtain ⟨r3, hq2, hf⟩ := bo1_e hf
  refine r_callS (o := some (.int r3)) (w' := (wM g I1 J)) (As := [.int a1, .int (0 : Int32), .int (1 : Int32)]) (rest := []) C (c_X8_in hq2) dX8_tolerance_8 gX8_tolerance_X8_in rfl rfl rfl hd_X8_in ⟨by decide, by decide⟩ rfl rfl (Nat.le_of_ble_eq_true rfl) ?_
  refine r_if_eq (tgt := 34) C dX8_tolerance_11 (by decide) (fun q11 => ?_) (fun q11 => ?_)
  · have hf := itp hf q11
    refine r_iconst (v := (-1 : Int32)) C dX8_tolerance_34 (by decide) ?_
    exact hr _ _ _ _ _ dX8_tolerance_35 rfl hf
  · have hf := itn hf q11
    refine r_iload_n C dX8_tolerance_14 rfl 2 rfl ?_
    refine r_iconst (v := (0 : Int32)) C dX8_tolerance_15 (by decide) ?_
    refine r_iload_n C dX8_tolerance_16 rfl 1 rfl ?_
    refine r_if_ne (tgt := 26) C dX8_tolerance_17 (by decide) (fun q17 => ?_) (fun q17 => ?_)
    · have hf := itn hf q17
      refine r_bipush (v := (50 : Int32)) C dX8_tolerance_26 (by decide) ?_
      exact mB_X8_tolerance_28 C hr _ _ _ _ _ _ _ hf
    · have hf := itp hf q17
      refine r_sipush (v := (500 : Int32)) C dX8_tolerance_20 (by decide) ?_
      refine r_goto (tgt := 28) C dX8_tolerance_23 (by decide) ?_
      exact mB_X8_tolerance_28 C hr _ _ _ _ _ _ _ hf
abbrev rmX8_valueOf : Room := { frames := 0, cells := 0, slots := 0, locals := 0 }
theorem hd_X8_valueOf : yX8_valueOf.cls ≠ "java/lang/invoke/MethodHandle" ∧ yX8_valueOf.cls ≠ "java/lang/invoke/VarHandle" ∧ (parseMethodDescriptor yX8_valueOf.desc).map (fun d => d.parameters.length) = some 2 := by decide +kernel
set_option maxRecDepth 100000 in
set_option maxHeartbeats 4000000 in
theorem c_X8_valueOf {l : Launch} {D : va_G} {g : GG} {I : MI} {J : MJ} {a0 : Int32} {a1 : Int32} {r : Int32} (hf : f_X8_valueOf a0 a1 = some r) : CON l yX8_valueOf wsX8_valueOf rmX8_valueOf D g (wM g I J) [.int a0, .int a1] (some (.int r)) (wM g I J) := by
  refine con_of (cc := cX8_valueOf) (maxL := 2) (ret := (some .int)) (by decide) rfl (Nat.le_of_ble_eq_true rfl) rfl rfl ?_
  intro k C hkl hkD h1 h2 h3
  subst hkl; subst hkD
  have hr : RRW k (wM g I J) cX8_valueOf .int r := rrw_of h2
  unfold f_X8_valueOf at hf
  refine V.loc (lv' := [(0, .int a0), (1, .int a1)]) [0, 1] rfl ?_
  refine r_iload_n C dX8_valueOf_0 rfl 0 rfl ?_
  refine r_iconst (v := (2 : Int32)) C dX8_valueOf_1 (by decide) ?_
  refine r_iload_n C dX8_valueOf_2 rfl 1 rfl ?_
  refine r_imul C dX8_valueOf_3 ?_
  refine r_ishr C dX8_valueOf_4 ?_
  refine r_iconst (v := (3 : Int32)) C dX8_valueOf_5 (by decide) ?_
  refine r_iand C dX8_valueOf_6 ?_
  exact hr _ _ _ dX8_valueOf_7 rfl hf
abbrev rmX8_isFit : Room := { frames := 3, cells := 0, slots := 0, locals := 69 }
theorem hd_X8_isFit : yX8_isFit.cls = RX8 ∧ yX8_isFit.cls ≠ "java/lang/invoke/MethodHandle" ∧ yX8_isFit.cls ≠ "java/lang/invoke/VarHandle" ∧ (parseMethodDescriptor yX8_isFit.desc).map (fun d => d.parameters.length) = some 2 := by decide +kernel
theorem kX8_isFit_0 : Cond.fieldLink RX8 13 (TX8 4).1 (TX8 4).2.1 (TX8 4).2.2.1 ∈ wsX8_isFit := by decide +kernel
theorem kX8_isFit_1 : ∀ w ∈ u_ws RX8 TX8 38, w ∈ wsX8_isFit := by decide +kernel
theorem kX8_isFit_2 : Cond.fieldLink RX8 199 (TX8 31).1 (TX8 31).2.1 (TX8 31).2.2.1 ∈ wsX8_isFit := by decide +kernel
theorem kX8_isFit_3 : Cond.fieldLink RX8 46 (TX8 32).1 (TX8 32).2.1 (TX8 32).2.2.1 ∈ wsX8_isFit := by decide +kernel
theorem kX8_isFit_4 : Cond.fieldLink RX8 49 (TX8 33).1 (TX8 33).2.1 (TX8 33).2.2.1 ∈ wsX8_isFit := by decide +kernel
theorem kX8_isFit_5 : Cond.fieldLink RX8 52 (TX8 34).1 (TX8 34).2.1 (TX8 34).2.2.1 ∈ wsX8_isFit := by decide +kernel
theorem kX8_isFit_6 : Cond.fieldLink RX8 58 (TX8 36).1 (TX8 36).2.1 (TX8 36).2.2.1 ∈ wsX8_isFit := by decide +kernel
theorem kX8_isFit_7 : Jvm.Cond.constantLong RX8 112 (100) ∈ wsX8_isFit := by decide +kernel
theorem kX8_isFit_8 : Cond.fieldLink RX8 55 (TX8 35).1 (TX8 35).2.1 (TX8 35).2.2.1 ∈ wsX8_isFit := by decide +kernel
set_option maxRecDepth 100000 in
set_option maxHeartbeats 4000000 in
theorem mB_X8_isFit_171 {k : CT} {g : GG} (C : CX k cX8_isFit 9 RX8 wsX8_isFit rmX8_isFit g) {ρ : (Int32 × MI × MJ)} (hr : RTW k wM g cX8_isFit .boolean ρ) {kk104 : MI → MJ → Int32 → Int32 → Int32 → Int32 → Int32 → Option (Int32 × MI × MJ)} (hk104 : ∀ (I : MI) (J : MJ) (x1 : Int32) (x4 : Int32) (x5 : Int32) (x6 : Int32) (x7 : Int32), kk104 I J x1 x4 x5 x6 x7 = some ρ → V k (wM g I J) 104 [(0, .ref (g.1 0)), (1, .int x1), (4, .int x4), (5, .int x5), (6, .int x6), (7, .int x7)] []) : ∀ (I : MI) (J : MJ) (x1 : Int32) (x4 : Int32) (x5 : Int32) (x7 : Int32) (s0 : Int32), LB_X8_isFit_171 kk104 I J x1 x4 x5 x7 s0 = some ρ → V k (wM g I J) 171 [(0, .ref (g.1 0)), (1, .int x1), (4, .int x4), (5, .int x5), (7, .int x7)] [.int s0] := by
  intro I J x1 x4 x5 x7 s0 hf
  unfold LB_X8_isFit_171 at hf
  refine r_istore (lv' := [(0, .ref (g.1 0)), (1, .int x1), (4, .int x4), (5, .int x5), (6, .int s0), (7, .int x7)]) C dX8_isFit_171 (by decide) [1, 2, 3, 4, 0, 5] rfl ?_
  refine r_aload_n C dX8_isFit_173 rfl 0 rfl ?_
  refine r_get C dX8_isFit_174 kX8_isFit_1 0 mg_0 rfl 34 (by decide) kX8_isFit_5 mv_0_34 ?_
  refine r_iload C dX8_isFit_177 5 rfl ?_
  obtain ⟨h1, hf⟩ := chk_e hf
  refine r_iald (j := x7.toNatClampNeg) C dX8_isFit_179 13 mg_13 (inb_e h1) rfl ?_
  refine r_i2l C dX8_isFit_180 ?_
  refine r_aload_n C dX8_isFit_181 rfl 0 rfl ?_
  refine r_get C dX8_isFit_182 kX8_isFit_1 0 mg_0 rfl 36 (by decide) kX8_isFit_6 mv_0_36 ?_
  refine r_i2l C dX8_isFit_185 ?_
  refine r_lmul C dX8_isFit_186 ?_
  refine r_ldc2 (v := (100 : Int64)) C dX8_isFit_187 kX8_isFit_7 ?_
  refine r_ldiv C dX8_isFit_190 (by decide) ?_
  refine r_l2i C dX8_isFit_191 ?_
  refine r_nmi (fun v2 ev2 => ?_)
  have hf := bnd_e hf v2 ev2
  refine r_istore (lv' := [(0, .ref (g.1 0)), (1, .int x1), (4, .int x4), (5, .int x5), (6, .int s0), (7, .int x7), (8, .int v2)]) C dX8_isFit_192 (by decide) [1, 2, 3, 4, 5, 6, 0] rfl ?_
  refine r_iload C dX8_isFit_194 4 rfl ?_
  refine r_if_eq (tgt := 236) C dX8_isFit_196 (by decide) (fun q196 => ?_) (fun q196 => ?_)
  · have hf := itp hf q196
    refine r_iconst (v := (0 : Int32)) C dX8_isFit_236 (by decide) ?_
    refine r_istore (lv' := [(0, .ref (g.1 0)), (1, .int x1), (4, .int x4), (5, .int x5), (6, .int (0 : Int32)), (7, .int x7), (8, .int v2)]) C dX8_isFit_237 (by decide) [1, 2, 3, 4, 0, 5, 6] rfl ?_
    obtain ⟨v3, ev3⟩ : ∃ z : Int32, z = x7 + (1 : Int32) := ⟨_, rfl⟩
    have hf := bnd_e hf v3 ev3
    refine r_iinc (v := v3) (lv' := [(0, .ref (g.1 0)), (1, .int x1), (4, .int x4), (5, .int x5), (6, .int (0 : Int32)), (7, .int v3), (8, .int v2)]) C dX8_isFit_239 5 rfl (by rw [ev3]; rfl) (by decide) [1, 2, 3, 4, 5, 0, 6] rfl ?_
    refine r_goto (tgt := 104) C dX8_isFit_242 (by decide) ?_
    refine V.loc [0, 1, 2, 3, 4, 5] rfl ?_
    exact hk104 _ _ _ _ _ _ _ hf
  · have hf := itn hf q196
    refine r_aload_n C dX8_isFit_199 rfl 0 rfl ?_
    refine r_get C dX8_isFit_200 kX8_isFit_1 0 mg_0 rfl 34 (by decide) kX8_isFit_5 mv_0_34 ?_
    refine r_iload C dX8_isFit_203 5 rfl ?_
    obtain ⟨h4, hf⟩ := chk_e hf
    refine r_iald (j := x7.toNatClampNeg) C dX8_isFit_205 13 mg_13 (inb_e h4) rfl ?_
    refine r_bipush (v := (-9 : Int32)) C dX8_isFit_206 (by decide) ?_
    refine r_icmp_eq (tgt := 232) C dX8_isFit_208 (by decide) (fun q208 => ?_) (fun q208 => ?_)
    · have hf := itp hf q208
      refine r_iconst (v := (1 : Int32)) C dX8_isFit_232 (by decide) ?_
      refine r_goto (tgt := 237) C dX8_isFit_233 (by decide) ?_
      refine r_istore (lv' := [(0, .ref (g.1 0)), (1, .int x1), (4, .int x4), (5, .int x5), (6, .int (1 : Int32)), (7, .int x7), (8, .int v2)]) C dX8_isFit_237 (by decide) [1, 2, 3, 4, 0, 5, 6] rfl ?_
      obtain ⟨v5, ev5⟩ : ∃ z : Int32, z = x7 + (1 : Int32) := ⟨_, rfl⟩
      have hf := bnd_e hf v5 ev5
      refine r_iinc (v := v5) (lv' := [(0, .ref (g.1 0)), (1, .int x1), (4, .int x4), (5, .int x5), (6, .int (1 : Int32)), (7, .int v5), (8, .int v2)]) C dX8_isFit_239 5 rfl (by rw [ev5]; rfl) (by decide) [1, 2, 3, 4, 5, 0, 6] rfl ?_
      refine r_goto (tgt := 104) C dX8_isFit_242 (by decide) ?_
      refine V.loc [0, 1, 2, 3, 4, 5] rfl ?_
      exact hk104 _ _ _ _ _ _ _ hf
    · have hf := itn hf q208
      refine r_iload C dX8_isFit_211 3 rfl ?_
      refine r_aload_n C dX8_isFit_213 rfl 0 rfl ?_
      refine r_get C dX8_isFit_214 kX8_isFit_1 0 mg_0 rfl 34 (by decide) kX8_isFit_5 mv_0_34 ?_
      refine r_iload C dX8_isFit_217 5 rfl ?_
      obtain ⟨h6, hf⟩ := chk_e hf
      refine r_iald (j := x7.toNatClampNeg) C dX8_isFit_219 13 mg_13 (inb_e h6) rfl ?_
      refine r_isub C dX8_isFit_220 ?_
      refine r_iload C dX8_isFit_221 6 rfl ?_
      refine r_ineg C dX8_isFit_223 ?_
      refine r_iload C dX8_isFit_224 6 rfl ?_
      obtain ⟨r8, hq7, hf⟩ := bo1_e hf
      refine r_callS (o := some (.int r8)) (w' := (wM g I J)) (As := [.int (x5 - (I 13 x7.toNatClampNeg)), .int (-v2), .int v2]) (rest := []) C (c_X8_in hq7) dX8_isFit_226 gX8_isFit_X8_in rfl rfl rfl hd_X8_in ⟨by decide, by decide⟩ rfl rfl (Nat.le_of_ble_eq_true rfl) ?_
      refine r_if_eq (tgt := 236) C dX8_isFit_229 (by decide) (fun q229 => ?_) (fun q229 => ?_)
      · have hf := itp hf q229
        refine r_iconst (v := (0 : Int32)) C dX8_isFit_236 (by decide) ?_
        refine r_istore (lv' := [(0, .ref (g.1 0)), (1, .int x1), (4, .int x4), (5, .int x5), (6, .int (0 : Int32)), (7, .int x7), (8, .int v2)]) C dX8_isFit_237 (by decide) [1, 2, 3, 4, 0, 5, 6] rfl ?_
        obtain ⟨v9, ev9⟩ : ∃ z : Int32, z = x7 + (1 : Int32) := ⟨_, rfl⟩
        have hf := bnd_e hf v9 ev9
        refine r_iinc (v := v9) (lv' := [(0, .ref (g.1 0)), (1, .int x1), (4, .int x4), (5, .int x5), (6, .int (0 : Int32)), (7, .int v9), (8, .int v2)]) C dX8_isFit_239 5 rfl (by rw [ev9]; rfl) (by decide) [1, 2, 3, 4, 5, 0, 6] rfl ?_
        refine r_goto (tgt := 104) C dX8_isFit_242 (by decide) ?_
        refine V.loc [0, 1, 2, 3, 4, 5] rfl ?_
        exact hk104 _ _ _ _ _ _ _ hf
      · have hf := itn hf q229
        refine r_iconst (v := (1 : Int32)) C dX8_isFit_232 (by decide) ?_
        refine r_goto (tgt := 237) C dX8_isFit_233 (by decide) ?_
        refine r_istore (lv' := [(0, .ref (g.1 0)), (1, .int x1), (4, .int x4), (5, .int x5), (6, .int (1 : Int32)), (7, .int x7), (8, .int v2)]) C dX8_isFit_237 (by decide) [1, 2, 3, 4, 0, 5, 6] rfl ?_
        obtain ⟨v10, ev10⟩ : ∃ z : Int32, z = x7 + (1 : Int32) := ⟨_, rfl⟩
        have hf := bnd_e hf v10 ev10
        refine r_iinc (v := v10) (lv' := [(0, .ref (g.1 0)), (1, .int x1), (4, .int x4), (5, .int x5), (6, .int (1 : Int32)), (7, .int v10), (8, .int v2)]) C dX8_isFit_239 5 rfl (by rw [ev10]; rfl) (by decide) [1, 2, 3, 4, 5, 0, 6] rfl ?_
        refine r_goto (tgt := 104) C dX8_isFit_242 (by decide) ?_
        refine V.loc [0, 1, 2, 3, 4, 5] rfl ?_
        exact hk104 _ _ _ _ _ _ _ hf
set_option maxRecDepth 100000 in
set_option maxHeartbeats 4000000 in
theorem mB_X8_isFit_166 {k : CT} {g : GG} (C : CX k cX8_isFit 9 RX8 wsX8_isFit rmX8_isFit g) {ρ : (Int32 × MI × MJ)} (hr : RTW k wM g cX8_isFit .boolean ρ) {kk104 : MI → MJ → Int32 → Int32 → Int32 → Int32 → Int32 → Option (Int32 × MI × MJ)} (hk104 : ∀ (I : MI) (J : MJ) (x1 : Int32) (x4 : Int32) (x5 : Int32) (x6 : Int32) (x7 : Int32), kk104 I J x1 x4 x5 x6 x7 = some ρ → V k (wM g I J) 104 [(0, .ref (g.1 0)), (1, .int x1), (4, .int x4), (5, .int x5), (6, .int x6), (7, .int x7)] []) : ∀ (I : MI) (J : MJ) (x1 : Int32) (x4 : Int32) (x5 : Int32) (x7 : Int32), LB_X8_isFit_166 kk104 I J x1 x4 x5 x7 = some ρ → V k (wM g I J) 166 [(0, .ref (g.1 0)), (1, .int x1), (4, .int x4), (5, .int x5), (7, .int x7)] [] := by
  intro I J x1 x4 x5 x7 hf
  unfold LB_X8_isFit_166 at hf
  refine r_iconst (v := (1 : Int32)) C dX8_isFit_166 (by decide) ?_
  refine r_goto (tgt := 171) C dX8_isFit_167 (by decide) ?_
  exact mB_X8_isFit_171 C hr hk104 _ _ _ _ _ _ _ hf
set_option maxRecDepth 100000 in
set_option maxHeartbeats 4000000 in
theorem mB_X8_isFit_104 {k : CT} {g : GG} (C : CX k cX8_isFit 9 RX8 wsX8_isFit rmX8_isFit g) {ρ : (Int32 × MI × MJ)} (hr : RTW k wM g cX8_isFit .boolean ρ) {kk104 : MI → MJ → Int32 → Int32 → Int32 → Int32 → Int32 → Option (Int32 × MI × MJ)} (hk104 : ∀ (I : MI) (J : MJ) (x1 : Int32) (x4 : Int32) (x5 : Int32) (x6 : Int32) (x7 : Int32), kk104 I J x1 x4 x5 x6 x7 = some ρ → V k (wM g I J) 104 [(0, .ref (g.1 0)), (1, .int x1), (4, .int x4), (5, .int x5), (6, .int x6), (7, .int x7)] []) : ∀ (I : MI) (J : MJ) (x1 : Int32) (x4 : Int32) (x5 : Int32) (x6 : Int32) (x7 : Int32), LB_X8_isFit_104 kk104 I J x1 x4 x5 x6 x7 = some ρ → V k (wM g I J) 104 [(0, .ref (g.1 0)), (1, .int x1), (4, .int x4), (5, .int x5), (6, .int x6), (7, .int x7)] [] := by
  intro I J x1 x4 x5 x6 x7 hf
  unfold LB_X8_isFit_104 at hf
  refine r_iload C dX8_isFit_104 5 rfl ?_
  refine r_aload_n C dX8_isFit_106 rfl 0 rfl ?_
  refine r_get C dX8_isFit_107 kX8_isFit_1 0 mg_0 rfl 31 (by decide) kX8_isFit_2 mv_0_31 ?_
  refine r_icmp_ge (tgt := 245) C dX8_isFit_110 (by decide) (fun q110 => ?_) (fun q110 => ?_)
  · have hf := itp hf q110
    refine r_iload C dX8_isFit_245 4 rfl ?_
    obtain ⟨hb, hf⟩ := chk_e hf
    exact hr _ _ _ _ _ dX8_isFit_247 (isB_e hb) hf
  · have hf := itn hf q110
    refine r_iload C dX8_isFit_113 4 rfl ?_
    refine r_if_eq (tgt := 245) C dX8_isFit_115 (by decide) (fun q115 => ?_) (fun q115 => ?_)
    · have hf := itp hf q115
      refine r_iload C dX8_isFit_245 4 rfl ?_
      obtain ⟨hb, hf⟩ := chk_e hf
      exact hr _ _ _ _ _ dX8_isFit_247 (isB_e hb) hf
    · have hf := itn hf q115
      refine r_aload_n C dX8_isFit_118 rfl 0 rfl ?_
      refine r_get C dX8_isFit_119 kX8_isFit_1 0 mg_0 rfl 32 (by decide) kX8_isFit_3 mv_0_32 ?_
      refine r_iload C dX8_isFit_122 5 rfl ?_
      obtain ⟨h1, hf⟩ := chk_e hf
      refine r_iald (j := x7.toNatClampNeg) C dX8_isFit_124 11 mg_11 (inb_e h1) rfl ?_
      refine r_iload_n C dX8_isFit_125 rfl 1 rfl ?_
      refine r_icmp_ne (tgt := 239) C dX8_isFit_126 (by decide) (fun q126 => ?_) (fun q126 => ?_)
      · have hf := itn hf q126
        obtain ⟨v2, ev2⟩ : ∃ z : Int32, z = x7 + (1 : Int32) := ⟨_, rfl⟩
        have hf := bnd_e hf v2 ev2
        refine r_iinc (v := v2) (lv' := [(0, .ref (g.1 0)), (1, .int x1), (4, .int x4), (5, .int x5), (6, .int x6), (7, .int v2)]) C dX8_isFit_239 5 rfl (by rw [ev2]; rfl) (by decide) [1, 2, 3, 4, 5, 0] rfl ?_
        refine r_goto (tgt := 104) C dX8_isFit_242 (by decide) ?_
        exact hk104 _ _ _ _ _ _ _ hf
      · have hf := itp hf q126
        refine r_aload_n C dX8_isFit_129 rfl 0 rfl ?_
        refine r_get C dX8_isFit_130 kX8_isFit_1 0 mg_0 rfl 33 (by decide) kX8_isFit_4 mv_0_33 ?_
        refine r_iload C dX8_isFit_133 5 rfl ?_
        obtain ⟨h3, hf⟩ := chk_e hf
        refine r_iald (j := x7.toNatClampNeg) C dX8_isFit_135 12 mg_12 (inb_e h3) rfl ?_
        refine r_bipush (v := (-9 : Int32)) C dX8_isFit_136 (by decide) ?_
        refine r_icmp_eq (tgt := 166) C dX8_isFit_138 (by decide) (fun q138 => ?_) (fun q138 => ?_)
        · have hf := itp hf q138
          refine V.loc [0, 1, 2, 3, 5] rfl ?_
          exact mB_X8_isFit_166 C hr hk104 _ _ _ _ _ _ hf
        · have hf := itn hf q138
          refine r_iload C dX8_isFit_141 2 rfl ?_
          refine r_aload_n C dX8_isFit_143 rfl 0 rfl ?_
          refine r_get C dX8_isFit_144 kX8_isFit_1 0 mg_0 rfl 33 (by decide) kX8_isFit_4 mv_0_33 ?_
          refine r_iload C dX8_isFit_147 5 rfl ?_
          obtain ⟨h4, hf⟩ := chk_e hf
          refine r_iald (j := x7.toNatClampNeg) C dX8_isFit_149 12 mg_12 (inb_e h4) rfl ?_
          refine r_isub C dX8_isFit_150 ?_
          refine r_aload_n C dX8_isFit_151 rfl 0 rfl ?_
          refine r_get C dX8_isFit_152 kX8_isFit_1 0 mg_0 rfl 35 (by decide) kX8_isFit_8 mv_0_35 ?_
          refine r_ineg C dX8_isFit_155 ?_
          refine r_aload_n C dX8_isFit_156 rfl 0 rfl ?_
          refine r_get C dX8_isFit_157 kX8_isFit_1 0 mg_0 rfl 35 (by decide) kX8_isFit_8 mv_0_35 ?_
          obtain ⟨r6, hq5, hf⟩ := bo1_e hf
          refine r_callS (o := some (.int r6)) (w' := (wM g I J)) (As := [.int (x4 - (I 12 x7.toNatClampNeg)), .int (-(I 0 35)), .int (I 0 35)]) (rest := []) C (c_X8_in hq5) dX8_isFit_160 gX8_isFit_X8_in rfl rfl rfl hd_X8_in ⟨by decide, by decide⟩ rfl rfl (Nat.le_of_ble_eq_true rfl) ?_
          refine r_if_eq (tgt := 170) C dX8_isFit_163 (by decide) (fun q163 => ?_) (fun q163 => ?_)
          · have hf := itp hf q163
            refine r_iconst (v := (0 : Int32)) C dX8_isFit_170 (by decide) ?_
            refine V.loc [0, 1, 2, 3, 5] rfl ?_
            exact mB_X8_isFit_171 C hr hk104 _ _ _ _ _ _ _ hf
          · have hf := itn hf q163
            refine V.loc [0, 1, 2, 3, 5] rfl ?_
            exact mB_X8_isFit_166 C hr hk104 _ _ _ _ _ _ hf
theorem mL_X8_isFit_104 {k : CT} {g : GG} (C : CX k cX8_isFit 9 RX8 wsX8_isFit rmX8_isFit g) {ρ : (Int32 × MI × MJ)} (hr : RTW k wM g cX8_isFit .boolean ρ) : ∀ (n : Nat) (I : MI) (J : MJ) (x1 : Int32) (x4 : Int32) (x5 : Int32) (x6 : Int32) (x7 : Int32), LP_X8_isFit_104 n I J x1 x4 x5 x6 x7 = some ρ → V k (wM g I J) 104 [(0, .ref (g.1 0)), (1, .int x1), (4, .int x4), (5, .int x5), (6, .int x6), (7, .int x7)] [] := by
  intro n
  induction n with
  | zero => intro I J x1 x4 x5 x6 x7 hf; cases hf
  | succ n ih => intro I J x1 x4 x5 x6 x7 hf; exact mB_X8_isFit_104 C hr (fun I J x1 x4 x5 x6 x7 h => ih I J x1 x4 x5 x6 x7 h) I J x1 x4 x5 x6 x7 hf
set_option maxRecDepth 100000 in
set_option maxHeartbeats 4000000 in
theorem mB_X8_isFit_83 {k : CT} {g : GG} (C : CX k cX8_isFit 9 RX8 wsX8_isFit rmX8_isFit g) {ρ : (Int32 × MI × MJ)} (hr : RTW k wM g cX8_isFit .boolean ρ) : ∀ (I : MI) (J : MJ) (x1 : Int32) (s1 : Int32) (s2 : Int32), LB_X8_isFit_83 I J x1 s1 s2 = some ρ → V k (wM g I J) 83 [(0, .ref (g.1 0)), (1, .int x1)] [.int s2, .int s1, .ref (g.1 2)] := by
  intro I J x1 s1 s2 hf
  unfold LB_X8_isFit_83 at hf
  obtain ⟨h1, hf⟩ := chk_e hf
  refine r_iast (j := s1.toNatClampNeg) C dX8_isFit_83 2 mg_2 (inb_e h1) rfl ma_2 ?_
  refine nmIM (fun I2 eI2 => ?_)
  have hf := bnd_e hf I2 eI2
  refine r_aload_n C dX8_isFit_84 rfl 0 rfl ?_
  refine r_iconst (v := (0 : Int32)) C dX8_isFit_85 (by decide) ?_
  obtain ⟨r6, I4, J5, hq3, hf⟩ := bo3_e hf
  refine r_callV (o := some (.int r6)) (w' := (wM g I4 J5)) (As := [.int (0 : Int32)]) (rest := []) C (c_X8_hourOf hq3) dX8_isFit_86 gX8_isFit_X8_hourOf rfl rfl rfl hd_X8_hourOf ⟨by decide, by decide⟩ 0 mg_0 rfl rfl rfl rfl (Nat.le_of_ble_eq_true rfl) ?_
  refine r_istore (lv' := [(0, .ref (g.1 0)), (1, .int x1), (4, .int r6)]) C dX8_isFit_89 (by decide) [1, 2, 0] rfl ?_
  refine r_aload_n C dX8_isFit_91 rfl 0 rfl ?_
  refine r_iconst (v := (2 : Int32)) C dX8_isFit_92 (by decide) ?_
  obtain ⟨r10, I8, J9, hq7, hf⟩ := bo3_e hf
  refine r_callV (o := some (.int r10)) (w' := (wM g I8 J9)) (As := [.int (2 : Int32)]) (rest := []) C (c_X8_hourOf hq7) dX8_isFit_93 gX8_isFit_X8_hourOf rfl rfl rfl hd_X8_hourOf ⟨by decide, by decide⟩ 0 mg_0 rfl rfl rfl rfl (Nat.le_of_ble_eq_true rfl) ?_
  refine r_istore (lv' := [(0, .ref (g.1 0)), (1, .int x1), (4, .int r6), (5, .int r10)]) C dX8_isFit_96 (by decide) [1, 2, 3, 0] rfl ?_
  refine r_iconst (v := (1 : Int32)) C dX8_isFit_98 (by decide) ?_
  refine r_istore (lv' := [(0, .ref (g.1 0)), (1, .int x1), (4, .int r6), (5, .int r10), (6, .int (1 : Int32))]) C dX8_isFit_99 (by decide) [1, 2, 3, 4, 0] rfl ?_
  refine r_iconst (v := (0 : Int32)) C dX8_isFit_101 (by decide) ?_
  refine r_istore (lv' := [(0, .ref (g.1 0)), (1, .int x1), (4, .int r6), (5, .int r10), (6, .int (1 : Int32)), (7, .int (0 : Int32))]) C dX8_isFit_102 (by decide) [1, 2, 3, 4, 5, 0] rfl ?_
  exact mL_X8_isFit_104 C hr FU _ _ _ _ _ _ _ hf
set_option maxRecDepth 100000 in
set_option maxHeartbeats 4000000 in
theorem c_X8_isFit {l : Launch} {D : va_G} {g : GG} {I : MI} {J : MJ} {a1 : Int32} {a2 : Int32} {r : Int32} {I' : MI} {J' : MJ} (hf : f_X8_isFit I J a1 a2 = some (r, I', J')) : CON l yX8_isFit wsX8_isFit rmX8_isFit D g (wM g I J) [.ref (g.1 0), .int a1, .int a2] (some (.int r)) (wM g I' J') := by
  refine con_of (cc := cX8_isFit) (maxL := 9) (ret := (some .boolean)) (by decide) rfl (Nat.le_of_ble_eq_true rfl) rfl rfl ?_
  intro k C hkl hkD h1 h2 h3
  subst hkl; subst hkD
  have hr : RTW k wM g cX8_isFit .boolean (r, I', J') := rtw_of h2
  unfold f_X8_isFit at hf
  refine V.loc (lv' := [(0, .ref (g.1 0)), (1, .int a1), (2, .int a2)]) [0, 1, 2] rfl ?_
  refine r_aload_n C dX8_isFit_0 rfl 0 rfl ?_
  refine r_iload_n C dX8_isFit_1 rfl 1 rfl ?_
  obtain ⟨I2, J3, hq1, hf⟩ := bo2_e hf
  refine r_callV (o := none) (w' := (wM g I2 J3)) (As := [.int a1]) (rest := []) C (c_X8_takes hq1) dX8_isFit_2 gX8_isFit_X8_takes rfl rfl rfl hd_X8_takes ⟨by decide, by decide⟩ 0 mg_0 rfl rfl rfl rfl (Nat.le_of_ble_eq_true rfl) ?_
  refine r_aload_n C dX8_isFit_5 rfl 0 rfl ?_
  refine r_get C dX8_isFit_6 kX8_isFit_1 0 mg_0 rfl 4 (by decide) kX8_isFit_0 mv_0_4 ?_
  refine r_bipush (v := (7 : Int32)) C dX8_isFit_9 (by decide) ?_
  refine r_iload_n C dX8_isFit_11 rfl 2 rfl ?_
  refine r_iconst (v := (0 : Int32)) C dX8_isFit_12 (by decide) ?_
  obtain ⟨r5, hq4, hf⟩ := bo1_e hf
  refine r_callS (o := some (.int r5)) (w' := (wM g I2 J3)) (As := [.int a2, .int (0 : Int32)]) (rest := [.int (7 : Int32), .ref (g.1 2)]) C (c_X8_valueOf hq4) dX8_isFit_13 gX8_isFit_X8_valueOf rfl rfl rfl hd_X8_valueOf ⟨by decide, by decide⟩ rfl rfl (Nat.le_of_ble_eq_true rfl) ?_
  refine r_iast (j := 7) C dX8_isFit_16 2 mg_2 (inb_e (by decide +kernel)) (by decide +kernel) ma_2 ?_
  refine nmIM (fun I6 eI6 => ?_)
  have hf := bnd_e hf I6 eI6
  refine r_aload_n C dX8_isFit_17 rfl 0 rfl ?_
  refine r_get C dX8_isFit_18 kX8_isFit_1 0 mg_0 rfl 4 (by decide) kX8_isFit_0 mv_0_4 ?_
  refine r_bipush (v := (8 : Int32)) C dX8_isFit_21 (by decide) ?_
  refine r_iload_n C dX8_isFit_23 rfl 2 rfl ?_
  refine r_iconst (v := (1 : Int32)) C dX8_isFit_24 (by decide) ?_
  obtain ⟨r8, hq7, hf⟩ := bo1_e hf
  refine r_callS (o := some (.int r8)) (w' := (wM g I6 J3)) (As := [.int a2, .int (1 : Int32)]) (rest := [.int (8 : Int32), .ref (g.1 2)]) C (c_X8_valueOf hq7) dX8_isFit_25 gX8_isFit_X8_valueOf rfl rfl rfl hd_X8_valueOf ⟨by decide, by decide⟩ rfl rfl (Nat.le_of_ble_eq_true rfl) ?_
  refine r_iast (j := 8) C dX8_isFit_28 2 mg_2 (inb_e (by decide +kernel)) (by decide +kernel) ma_2 ?_
  refine nmIM (fun I9 eI9 => ?_)
  have hf := bnd_e hf I9 eI9
  refine r_aload_n C dX8_isFit_29 rfl 0 rfl ?_
  refine r_get C dX8_isFit_30 kX8_isFit_1 0 mg_0 rfl 4 (by decide) kX8_isFit_0 mv_0_4 ?_
  refine r_bipush (v := (9 : Int32)) C dX8_isFit_33 (by decide) ?_
  refine r_iload_n C dX8_isFit_35 rfl 2 rfl ?_
  refine r_iconst (v := (2 : Int32)) C dX8_isFit_36 (by decide) ?_
  obtain ⟨r11, hq10, hf⟩ := bo1_e hf
  refine r_callS (o := some (.int r11)) (w' := (wM g I9 J3)) (As := [.int a2, .int (2 : Int32)]) (rest := [.int (9 : Int32), .ref (g.1 2)]) C (c_X8_valueOf hq10) dX8_isFit_37 gX8_isFit_X8_valueOf rfl rfl rfl hd_X8_valueOf ⟨by decide, by decide⟩ rfl rfl (Nat.le_of_ble_eq_true rfl) ?_
  refine r_iast (j := 9) C dX8_isFit_40 2 mg_2 (inb_e (by decide +kernel)) (by decide +kernel) ma_2 ?_
  refine nmIM (fun I12 eI12 => ?_)
  have hf := bnd_e hf I12 eI12
  refine r_iload_n C dX8_isFit_41 rfl 2 rfl ?_
  refine r_iconst (v := (3 : Int32)) C dX8_isFit_42 (by decide) ?_
  obtain ⟨r14, hq13, hf⟩ := bo1_e hf
  refine r_callS (o := some (.int r14)) (w' := (wM g I12 J3)) (As := [.int a2, .int (3 : Int32)]) (rest := []) C (c_X8_valueOf hq13) dX8_isFit_43 gX8_isFit_X8_valueOf rfl rfl rfl hd_X8_valueOf ⟨by decide, by decide⟩ rfl rfl (Nat.le_of_ble_eq_true rfl) ?_
  refine r_istore_n (lv' := [(0, .ref (g.1 0)), (1, .int a1), (2, .int a2), (3, .int r14)]) C dX8_isFit_46 rfl (by decide) [1, 2, 3, 0] rfl ?_
  refine r_aload_n C dX8_isFit_47 rfl 0 rfl ?_
  refine r_get C dX8_isFit_48 kX8_isFit_1 0 mg_0 rfl 4 (by decide) kX8_isFit_0 mv_0_4 ?_
  refine r_bipush (v := (6 : Int32)) C dX8_isFit_51 (by decide) ?_
  refine r_iload_n C dX8_isFit_53 rfl 3 rfl ?_
  refine r_if_ne (tgt := 62) C dX8_isFit_54 (by decide) (fun q54 => ?_) (fun q54 => ?_)
  · have hf := itn hf q54
    refine r_iload_n C dX8_isFit_62 rfl 3 rfl ?_
    refine r_iconst (v := (1 : Int32)) C dX8_isFit_63 (by decide) ?_
    refine r_icmp_ne (tgt := 72) C dX8_isFit_64 (by decide) (fun q64 => ?_) (fun q64 => ?_)
    · have hf := itn hf q64
      refine r_iload_n C dX8_isFit_72 rfl 3 rfl ?_
      refine r_iconst (v := (2 : Int32)) C dX8_isFit_73 (by decide) ?_
      refine r_icmp_ne (tgt := 82) C dX8_isFit_74 (by decide) (fun q74 => ?_) (fun q74 => ?_)
      · have hf := itn hf q74
        refine r_iconst (v := (0 : Int32)) C dX8_isFit_82 (by decide) ?_
        refine V.loc [0, 1] rfl ?_
        exact mB_X8_isFit_83 C hr _ _ _ _ _ hf
      · have hf := itp hf q74
        refine r_bipush (v := (20 : Int32)) C dX8_isFit_77 (by decide) ?_
        refine r_goto (tgt := 83) C dX8_isFit_79 (by decide) ?_
        refine V.loc [0, 1] rfl ?_
        exact mB_X8_isFit_83 C hr _ _ _ _ _ hf
    · have hf := itp hf q64
      refine r_bipush (v := (60 : Int32)) C dX8_isFit_67 (by decide) ?_
      refine r_goto (tgt := 83) C dX8_isFit_69 (by decide) ?_
      refine V.loc [0, 1] rfl ?_
      exact mB_X8_isFit_83 C hr _ _ _ _ _ hf
  · have hf := itp hf q54
    refine r_bipush (v := (100 : Int32)) C dX8_isFit_57 (by decide) ?_
    refine r_goto (tgt := 83) C dX8_isFit_59 (by decide) ?_
    refine V.loc [0, 1] rfl ?_
    exact mB_X8_isFit_83 C hr _ _ _ _ _ hf
abbrev rmX8_fits : Room := { frames := 4, cells := 0, slots := 0, locals := 97 }
theorem hd_X8_fits : yX8_fits.cls = RX8 ∧ yX8_fits.cls ≠ "java/lang/invoke/MethodHandle" ∧ yX8_fits.cls ≠ "java/lang/invoke/VarHandle" ∧ (parseMethodDescriptor yX8_fits.desc).map (fun d => d.parameters.length) = some 2 := by decide +kernel
theorem kX8_fits_0 : Cond.fieldLink RX8 64 (TX8 0).1 (TX8 0).2.1 (TX8 0).2.2.1 ∈ wsX8_fits := by decide +kernel
theorem kX8_fits_1 : ∀ w ∈ u_ws RX8 TX8 38, w ∈ wsX8_fits := by decide +kernel
set_option maxRecDepth 100000 in
set_option maxHeartbeats 4000000 in
theorem c_X8_fits {l : Launch} {D : va_G} {g : GG} {I : MI} {J : MJ} {a1 : Int32} {a2 : Int32} {r : Int32} {I' : MI} {J' : MJ} (hf : f_X8_fits I J a1 a2 = some (r, I', J')) : CON l yX8_fits wsX8_fits rmX8_fits D g (wM g I J) [.ref (g.1 0), .int a1, .int a2] (some (.int r)) (wM g I' J') := by
  refine con_of (cc := cX8_fits) (maxL := 3) (ret := (some .int)) (by decide) rfl (Nat.le_of_ble_eq_true rfl) rfl rfl ?_
  intro k C hkl hkD h1 h2 h3
  subst hkl; subst hkD
  have hr : RTW k wM g cX8_fits .int (r, I', J') := rtw_of h2
  unfold f_X8_fits at hf
  refine V.loc (lv' := [(0, .ref (g.1 0)), (1, .int a1), (2, .int a2)]) [0, 1, 2] rfl ?_
  refine r_aload_n C dX8_fits_0 rfl 0 rfl ?_
  refine r_iconst (v := (0 : Int32)) C dX8_fits_1 (by decide) ?_
  refine r_put (ty := .int) C dX8_fits_2 kX8_fits_1 tyX8 tyX8_ok nmX8 0 mg_0 rfl 0 (by decide) kX8_fits_0 rfl rfl rfl rfl (Nat.le_of_ble_eq_true rfl) ms_0_0 ?_
  refine nmIM (fun I1 eI1 => ?_)
  have hf := bnd_e hf I1 eI1
  refine r_aload_n C dX8_fits_5 rfl 0 rfl ?_
  refine r_iload_n C dX8_fits_6 rfl 1 rfl ?_
  obtain ⟨r3, hq2, hf⟩ := bo1_e hf
  refine r_callV (o := some (.int r3)) (w' := (wM g I1 J)) (As := [.int a1]) (rest := []) C (c_X8_isRam hq2) dX8_fits_7 gX8_fits_X8_isRam rfl rfl rfl hd_X8_isRam ⟨by decide, by decide⟩ 0 mg_0 rfl rfl rfl rfl (Nat.le_of_ble_eq_true rfl) ?_
  refine r_if_eq (tgt := 24) C dX8_fits_10 (by decide) (fun q10 => ?_) (fun q10 => ?_)
  · have hf := itp hf q10
    refine r_iconst (v := (-1 : Int32)) C dX8_fits_24 (by decide) ?_
    refine r_goto (tgt := 42) C dX8_fits_25 (by decide) ?_
    exact hr _ _ _ _ _ dX8_fits_42 rfl hf
  · have hf := itn hf q10
    refine r_iload_n C dX8_fits_13 rfl 2 rfl ?_
    refine r_iconst (v := (0 : Int32)) C dX8_fits_14 (by decide) ?_
    refine r_sipush (v := (255 : Int32)) C dX8_fits_15 (by decide) ?_
    obtain ⟨r5, hq4, hf⟩ := bo1_e hf
    refine r_callS (o := some (.int r5)) (w' := (wM g I1 J)) (As := [.int a2, .int (0 : Int32), .int (255 : Int32)]) (rest := []) C (c_X8_in hq4) dX8_fits_18 gX8_fits_X8_in rfl rfl rfl hd_X8_in ⟨by decide, by decide⟩ rfl rfl (Nat.le_of_ble_eq_true rfl) ?_
    refine r_if_ne (tgt := 28) C dX8_fits_21 (by decide) (fun q21 => ?_) (fun q21 => ?_)
    · have hf := itn hf q21
      refine r_aload_n C dX8_fits_28 rfl 0 rfl ?_
      refine r_iload_n C dX8_fits_29 rfl 1 rfl ?_
      refine r_iload_n C dX8_fits_30 rfl 2 rfl ?_
      obtain ⟨r9, I7, J8, hq6, hf⟩ := bo3_e hf
      refine r_callV (o := some (.int r9)) (w' := (wM g I7 J8)) (As := [.int a1, .int a2]) (rest := []) C (c_X8_isFit hq6) dX8_fits_31 gX8_fits_X8_isFit rfl rfl rfl hd_X8_isFit ⟨by decide, by decide⟩ 0 mg_0 rfl rfl rfl rfl (Nat.le_of_ble_eq_true rfl) ?_
      refine r_if_eq (tgt := 41) C dX8_fits_34 (by decide) (fun q34 => ?_) (fun q34 => ?_)
      · have hf := itp hf q34
        refine r_iconst (v := (0 : Int32)) C dX8_fits_41 (by decide) ?_
        exact hr _ _ _ _ _ dX8_fits_42 rfl hf
      · have hf := itn hf q34
        refine r_iconst (v := (1 : Int32)) C dX8_fits_37 (by decide) ?_
        refine r_goto (tgt := 42) C dX8_fits_38 (by decide) ?_
        exact hr _ _ _ _ _ dX8_fits_42 rfl hf
    · have hf := itp hf q21
      refine r_iconst (v := (-1 : Int32)) C dX8_fits_24 (by decide) ?_
      refine r_goto (tgt := 42) C dX8_fits_25 (by decide) ?_
      exact hr _ _ _ _ _ dX8_fits_42 rfl hf
