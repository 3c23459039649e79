abbrev rmX8_silence : Room := { frames := 1, cells := 0, slots := 0, locals := 22 }
theorem hd_X8_silence : yX8_silence.cls = RX8 ∧ yX8_silence.cls ≠ "java/lang/invoke/MethodHandle" ∧ yX8_silence.cls ≠ "java/lang/invoke/VarHandle" ∧ (parseMethodDescriptor yX8_silence.desc).map (fun d => d.parameters.length) = some 2 := by decide +kernel
theorem kX8_silence_0 : Cond.fieldLink RX8 64 (TX8 0).1 (TX8 0).2.1 (TX8 0).2.2.1 ∈ wsX8_silence := by decide +kernel
theorem kX8_silence_1 : ∀ w ∈ u_ws RX8 TX8 38, w ∈ wsX8_silence := by decide +kernel
theorem kX8_silence_2 : Cond.fieldLink RX8 142 (TX8 12).1 (TX8 12).2.1 (TX8 12).2.2.1 ∈ wsX8_silence := by decide +kernel
theorem kX8_silence_3 : Cond.fieldLink RX8 145 (TX8 13).1 (TX8 13).2.1 (TX8 13).2.2.1 ∈ wsX8_silence := by decide +kernel
set_option maxRecDepth 100000 in
set_option maxHeartbeats 4000000 in
theorem c_X8_silence {l : Launch} {D : va_G} {g : GG} {I : MI} {J : MJ} {a1 : Int32} {a2 : Int32} {r : Int32} {I' : MI} {J' : MJ} (hf : f_X8_silence I J a1 a2 = some (r, I', J')) : CON l yX8_silence wsX8_silence rmX8_silence D g (wM g I J) [.ref (g.1 0), .int a1, .int a2] (some (.int r)) (wM g I' J') := by
  refine con_of (cc := cX8_silence) (maxL := 3) (ret := (some .int)) (by decide) rfl (Nat.le_of_ble_eq_true rfl) rfl rfl ?_
  intro k C hkl hkD h1 h2 h3
  subst hkl; subst hkD
  have hr : RTW k wM g cX8_silence .int (r, I', J') := rtw_of h2
  unfold f_X8_silence at hf
  refine V.loc (lv' := [(0, .ref (g.1 0)), (1, .int a1), (2, .int a2)]) [0, 1, 2] rfl ?_
  refine r_aload_n C dX8_silence_0 rfl 0 rfl ?_
  refine r_iconst (v := (0 : Int32)) C dX8_silence_1 (by decide) ?_
  refine r_put (ty := .int) C dX8_silence_2 kX8_silence_1 tyX8 tyX8_ok nmX8 0 mg_0 rfl 0 (by decide) kX8_silence_0 rfl rfl rfl rfl (Nat.le_of_ble_eq_true rfl) ms_0_0 ?_
  refine nmIM (fun I1 eI1 => ?_)
  have hf := bnd_e hf I1 eI1
  refine r_iload_n C dX8_silence_5 rfl 1 rfl ?_
  refine r_iconst (v := (0 : Int32)) C dX8_silence_6 (by decide) ?_
  refine r_bipush (v := (24 : Int32)) C dX8_silence_7 (by decide) ?_
  obtain ⟨r3, hq2, hf⟩ := bo1_e hf
  refine r_callS (o := some (.int r3)) (w' := (wM g I1 J)) (As := [.int a1, .int (0 : Int32), .int (24 : Int32)]) (rest := []) C (c_X8_in hq2) dX8_silence_9 gX8_silence_X8_in rfl rfl rfl hd_X8_in ⟨by decide, by decide⟩ rfl rfl (Nat.le_of_ble_eq_true rfl) ?_
  refine r_if_eq (tgt := 25) C dX8_silence_12 (by decide) (fun q12 => ?_) (fun q12 => ?_)
  · have hf := itp hf q12
    refine r_iconst (v := (-1 : Int32)) C dX8_silence_25 (by decide) ?_
    exact hr _ _ _ _ _ dX8_silence_26 rfl hf
  · have hf := itn hf q12
    refine r_iload_n C dX8_silence_15 rfl 2 rfl ?_
    refine r_iload_n C dX8_silence_16 rfl 1 rfl ?_
    refine r_bipush (v := (24 : Int32)) C dX8_silence_17 (by decide) ?_
    obtain ⟨r5, hq4, hf⟩ := bo1_e hf
    refine r_callS (o := some (.int r5)) (w' := (wM g I1 J)) (As := [.int a2, .int a1, .int (24 : Int32)]) (rest := []) C (c_X8_in hq4) dX8_silence_19 gX8_silence_X8_in rfl rfl rfl hd_X8_in ⟨by decide, by decide⟩ rfl rfl (Nat.le_of_ble_eq_true rfl) ?_
    refine r_if_ne (tgt := 27) C dX8_silence_22 (by decide) (fun q22 => ?_) (fun q22 => ?_)
    · have hf := itn hf q22
      refine r_aload_n C dX8_silence_27 rfl 0 rfl ?_
      refine r_iload_n C dX8_silence_28 rfl 1 rfl ?_
      refine r_put (ty := .int) C dX8_silence_29 kX8_silence_1 tyX8 tyX8_ok nmX8 0 mg_0 rfl 12 (by decide) kX8_silence_2 rfl rfl rfl rfl (Nat.le_of_ble_eq_true rfl) ms_0_12 ?_
      refine nmIM (fun I6 eI6 => ?_)
      have hf := bnd_e hf I6 eI6
      refine r_aload_n C dX8_silence_32 rfl 0 rfl ?_
      refine r_iload_n C dX8_silence_33 rfl 2 rfl ?_
      refine r_put (ty := .int) C dX8_silence_34 kX8_silence_1 tyX8 tyX8_ok nmX8 0 mg_0 rfl 13 (by decide) kX8_silence_3 rfl rfl rfl rfl (Nat.le_of_ble_eq_true rfl) ms_0_13 ?_
      refine nmIM (fun I7 eI7 => ?_)
      have hf := bnd_e hf I7 eI7
      refine r_iconst (v := (1 : Int32)) C dX8_silence_37 (by decide) ?_
      exact hr _ _ _ _ _ dX8_silence_38 rfl hf
    · have hf := itp hf q22
      refine r_iconst (v := (-1 : Int32)) C dX8_silence_25 (by decide) ?_
      exact hr _ _ _ _ _ dX8_silence_26 rfl hf
abbrev rmX8_tank : Room := { frames := 1, cells := 0, slots := 0, locals := 22 }
theorem hd_X8_tank : yX8_tank.cls = RX8 ∧ yX8_tank.cls ≠ "java/lang/invoke/MethodHandle" ∧ yX8_tank.cls ≠ "java/lang/invoke/VarHandle" ∧ (parseMethodDescriptor yX8_tank.desc).map (fun d => d.parameters.length) = some 2 := by decide +kernel
theorem kX8_tank_0 : Cond.fieldLink RX8 64 (TX8 0).1 (TX8 0).2.1 (TX8 0).2.2.1 ∈ wsX8_tank := by decide +kernel
theorem kX8_tank_1 : ∀ w ∈ u_ws RX8 TX8 38, w ∈ wsX8_tank := by decide +kernel
theorem kX8_tank_2 : Cond.fieldLink RX8 29 (TX8 17).1 (TX8 17).2.1 (TX8 17).2.2.1 ∈ wsX8_tank := by decide +kernel
theorem kX8_tank_3 : Cond.fieldLink RX8 148 (TX8 18).1 (TX8 18).2.1 (TX8 18).2.2.1 ∈ wsX8_tank := by decide +kernel
theorem kX8_tank_4 : Jvm.Cond.constant RX8 130 (1000000) ∈ wsX8_tank := by decide +kernel
set_option maxRecDepth 100000 in
set_option maxHeartbeats 4000000 in
theorem mB_X8_tank_87 {k : CT} {g : GG} (C : CX k cX8_tank 4 RX8 wsX8_tank rmX8_tank g) {ρ : (Int32 × MI × MJ)} (hr : RTW k wM g cX8_tank .int ρ) : ∀ (I : MI) (J : MJ) (x1 : Int32) (x2 : Int32) (x3 : Int32) (s1 : Int32), LB_X8_tank_87 I J x1 x2 x3 s1 = some ρ → V k (wM g I J) 87 [(0, .ref (g.1 0)), (1, .int x1), (2, .int x2), (3, .int x3)] [.int s1, .ref (g.1 0)] := by
  intro I J x1 x2 x3 s1 hf
  unfold LB_X8_tank_87 at hf
  refine r_put (ty := .int) C dX8_tank_87 kX8_tank_1 tyX8 tyX8_ok nmX8 0 mg_0 rfl 17 (by decide) kX8_tank_2 rfl rfl rfl rfl (Nat.le_of_ble_eq_true rfl) ms_0_17 ?_
  refine nmIM (fun I1 eI1 => ?_)
  have hf := bnd_e hf I1 eI1
  refine r_aload_n C dX8_tank_90 rfl 0 rfl ?_
  refine r_iload_n C dX8_tank_91 rfl 1 rfl ?_
  refine r_iconst (v := (1 : Int32)) C dX8_tank_92 (by decide) ?_
  refine r_icmp_ne (tgt := 100) C dX8_tank_93 (by decide) (fun q93 => ?_) (fun q93 => ?_)
  · have hf := itn hf q93
    refine r_aload_n C dX8_tank_100 rfl 0 rfl ?_
    refine r_get C dX8_tank_101 kX8_tank_1 0 mg_0 rfl 18 (by decide) kX8_tank_3 mv_0_18 ?_
    refine r_put (ty := .int) C dX8_tank_104 kX8_tank_1 tyX8 tyX8_ok nmX8 0 mg_0 rfl 18 (by decide) kX8_tank_3 rfl rfl rfl rfl (Nat.le_of_ble_eq_true rfl) ms_0_18 ?_
    refine nmIM (fun I2 eI2 => ?_)
    have hf := bnd_e hf I2 eI2
    refine r_iload_n C dX8_tank_107 rfl 3 rfl ?_
    exact hr _ _ _ _ _ dX8_tank_108 rfl hf
  · have hf := itp hf q93
    refine r_iload_n C dX8_tank_96 rfl 2 rfl ?_
    refine r_goto (tgt := 104) C dX8_tank_97 (by decide) ?_
    refine r_put (ty := .int) C dX8_tank_104 kX8_tank_1 tyX8 tyX8_ok nmX8 0 mg_0 rfl 18 (by decide) kX8_tank_3 rfl rfl rfl rfl (Nat.le_of_ble_eq_true rfl) ms_0_18 ?_
    refine nmIM (fun I3 eI3 => ?_)
    have hf := bnd_e hf I3 eI3
    refine r_iload_n C dX8_tank_107 rfl 3 rfl ?_
    exact hr _ _ _ _ _ dX8_tank_108 rfl hf
set_option maxRecDepth 100000 in
set_option maxHeartbeats 4000000 in
theorem mB_X8_tank_73 {k : CT} {g : GG} (C : CX k cX8_tank 4 RX8 wsX8_tank rmX8_tank g) {ρ : (Int32 × MI × MJ)} (hr : RTW k wM g cX8_tank .int ρ) : ∀ (I : MI) (J : MJ) (x1 : Int32) (x2 : Int32) (s0 : Int32), LB_X8_tank_73 I J x1 x2 s0 = some ρ → V k (wM g I J) 73 [(0, .ref (g.1 0)), (1, .int x1), (2, .int x2)] [.int s0] := by
  intro I J x1 x2 s0 hf
  unfold LB_X8_tank_73 at hf
  refine r_istore_n (lv' := [(0, .ref (g.1 0)), (1, .int x1), (2, .int x2), (3, .int s0)]) C dX8_tank_73 rfl (by decide) [1, 2, 3, 0] rfl ?_
  refine r_aload_n C dX8_tank_74 rfl 0 rfl ?_
  refine r_iload_n C dX8_tank_75 rfl 1 rfl ?_
  refine r_if_ne (tgt := 83) C dX8_tank_76 (by decide) (fun q76 => ?_) (fun q76 => ?_)
  · have hf := itn hf q76
    refine r_aload_n C dX8_tank_83 rfl 0 rfl ?_
    refine r_get C dX8_tank_84 kX8_tank_1 0 mg_0 rfl 17 (by decide) kX8_tank_2 mv_0_17 ?_
    exact mB_X8_tank_87 C hr _ _ _ _ _ _ hf
  · have hf := itp hf q76
    refine r_iload_n C dX8_tank_79 rfl 2 rfl ?_
    refine r_goto (tgt := 87) C dX8_tank_80 (by decide) ?_
    exact mB_X8_tank_87 C hr _ _ _ _ _ _ hf
set_option maxRecDepth 100000 in
set_option maxHeartbeats 4000000 in
theorem mB_X8_tank_58 {k : CT} {g : GG} (C : CX k cX8_tank 4 RX8 wsX8_tank rmX8_tank g) {ρ : (Int32 × MI × MJ)} (hr : RTW k wM g cX8_tank .int ρ) : ∀ (I : MI) (J : MJ) (x1 : Int32) (x2 : Int32), LB_X8_tank_58 I J x1 x2 = some ρ → V k (wM g I J) 58 [(0, .ref (g.1 0)), (1, .int x1), (2, .int x2)] [] := by
  intro I J x1 x2 hf
  unfold LB_X8_tank_58 at hf
  refine r_iload_n C dX8_tank_58 rfl 1 rfl ?_
  refine r_if_ne (tgt := 69) C dX8_tank_59 (by decide) (fun q59 => ?_) (fun q59 => ?_)
  · have hf := itn hf q59
    refine r_aload_n C dX8_tank_69 rfl 0 rfl ?_
    refine r_get C dX8_tank_70 kX8_tank_1 0 mg_0 rfl 18 (by decide) kX8_tank_3 mv_0_18 ?_
    exact mB_X8_tank_73 C hr _ _ _ _ _ hf
  · have hf := itp hf q59
    refine r_aload_n C dX8_tank_62 rfl 0 rfl ?_
    refine r_get C dX8_tank_63 kX8_tank_1 0 mg_0 rfl 17 (by decide) kX8_tank_2 mv_0_17 ?_
    refine r_goto (tgt := 73) C dX8_tank_66 (by decide) ?_
    exact mB_X8_tank_73 C hr _ _ _ _ _ hf
set_option maxRecDepth 100000 in
set_option maxHeartbeats 4000000 in
theorem mB_X8_tank_38 {k : CT} {g : GG} (C : CX k cX8_tank 4 RX8 wsX8_tank rmX8_tank g) {ρ : (Int32 × MI × MJ)} (hr : RTW k wM g cX8_tank .int ρ) : ∀ (I : MI) (J : MJ) (x1 : Int32) (x2 : Int32) (s0 : Int32) (s1 : Int32) (s2 : Int32), LB_X8_tank_38 I J x1 x2 s0 s1 s2 = some ρ → V k (wM g I J) 38 [(0, .ref (g.1 0)), (1, .int x1), (2, .int x2)] [.int s2, .int s1, .int s0] := by
  intro I J x1 x2 s0 s1 s2 hf
  unfold LB_X8_tank_38 at hf
  obtain ⟨r2, hq1, hf⟩ := bo1_e hf
  refine r_callS (o := some (.int r2)) (w' := (wM g I J)) (As := [.int s0, .int s1, .int s2]) (rest := []) C (c_X8_in hq1) dX8_tank_38 gX8_tank_X8_in rfl rfl rfl hd_X8_in ⟨by decide, by decide⟩ rfl rfl (Nat.le_of_ble_eq_true rfl) ?_
  refine r_if_eq (tgt := 56) C dX8_tank_41 (by decide) (fun q41 => ?_) (fun q41 => ?_)
  · have hf := itp hf q41
    refine r_iconst (v := (-1 : Int32)) C dX8_tank_56 (by decide) ?_
    exact hr _ _ _ _ _ dX8_tank_57 rfl hf
  · have hf := itn hf q41
    refine r_iload_n C dX8_tank_44 rfl 1 rfl ?_
    refine r_if_ne (tgt := 58) C dX8_tank_45 (by decide) (fun q45 => ?_) (fun q45 => ?_)
    · have hf := itn hf q45
      exact mB_X8_tank_58 C hr _ _ _ _ hf
    · have hf := itp hf q45
      refine r_iload_n C dX8_tank_48 rfl 2 rfl ?_
      refine r_aload_n C dX8_tank_49 rfl 0 rfl ?_
      refine r_get C dX8_tank_50 kX8_tank_1 0 mg_0 rfl 18 (by decide) kX8_tank_3 mv_0_18 ?_
      refine r_icmp_ge (tgt := 58) C dX8_tank_53 (by decide) (fun q53 => ?_) (fun q53 => ?_)
      · have hf := itp hf q53
        exact mB_X8_tank_58 C hr _ _ _ _ hf
      · have hf := itn hf q53
        refine r_iconst (v := (-1 : Int32)) C dX8_tank_56 (by decide) ?_
        exact hr _ _ _ _ _ dX8_tank_57 rfl hf
set_option maxRecDepth 100000 in
set_option maxHeartbeats 4000000 in
theorem mB_X8_tank_25 {k : CT} {g : GG} (C : CX k cX8_tank 4 RX8 wsX8_tank rmX8_tank g) {ρ : (Int32 × MI × MJ)} (hr : RTW k wM g cX8_tank .int ρ) : ∀ (I : MI) (J : MJ) (x1 : Int32) (x2 : Int32) (s0 : Int32) (s1 : Int32), LB_X8_tank_25 I J x1 x2 s0 s1 = some ρ → V k (wM g I J) 25 [(0, .ref (g.1 0)), (1, .int x1), (2, .int x2)] [.int s1, .int s0] := by
  intro I J x1 x2 s0 s1 hf
  unfold LB_X8_tank_25 at hf
  refine r_iload_n C dX8_tank_25 rfl 1 rfl ?_
  refine r_if_ne (tgt := 34) C dX8_tank_26 (by decide) (fun q26 => ?_) (fun q26 => ?_)
  · have hf := itn hf q26
    refine r_aload_n C dX8_tank_34 rfl 0 rfl ?_
    refine r_get C dX8_tank_35 kX8_tank_1 0 mg_0 rfl 17 (by decide) kX8_tank_2 mv_0_17 ?_
    exact mB_X8_tank_38 C hr _ _ _ _ _ _ _ hf
  · have hf := itp hf q26
    refine r_ldc (v := (1000000 : Int32)) C dX8_tank_29 kX8_tank_4 ?_
    refine r_goto (tgt := 38) C dX8_tank_31 (by decide) ?_
    exact mB_X8_tank_38 C hr _ _ _ _ _ _ _ hf
set_option maxRecDepth 100000 in
set_option maxHeartbeats 4000000 in
theorem c_X8_tank {l : Launch} {D : va_G} {g : GG} {I : MI} {J : MJ} {a1 : Int32} {a2 : Int32} {r : Int32} {I' : MI} {J' : MJ} (hf : f_X8_tank I J a1 a2 = some (r, I', J')) : CON l yX8_tank wsX8_tank rmX8_tank D g (wM g I J) [.ref (g.1 0), .int a1, .int a2] (some (.int r)) (wM g I' J') := by
  refine con_of (cc := cX8_tank) (maxL := 4) (ret := (some .int)) (by decide) rfl (Nat.le_of_ble_eq_true rfl) rfl rfl ?_
  intro k C hkl hkD h1 h2 h3
  subst hkl; subst hkD
  have hr : RTW k wM g cX8_tank .int (r, I', J') := rtw_of h2
  unfold f_X8_tank at hf
  refine V.loc (lv' := [(0, .ref (g.1 0)), (1, .int a1), (2, .int a2)]) [0, 1, 2] rfl ?_
  refine r_aload_n C dX8_tank_0 rfl 0 rfl ?_
  refine r_iconst (v := (0 : Int32)) C dX8_tank_1 (by decide) ?_
  refine r_put (ty := .int) C dX8_tank_2 kX8_tank_1 tyX8 tyX8_ok nmX8 0 mg_0 rfl 0 (by decide) kX8_tank_0 rfl rfl rfl rfl (Nat.le_of_ble_eq_true rfl) ms_0_0 ?_
  refine nmIM (fun I1 eI1 => ?_)
  have hf := bnd_e hf I1 eI1
  refine r_iload_n C dX8_tank_5 rfl 1 rfl ?_
  refine r_iconst (v := (0 : Int32)) C dX8_tank_6 (by decide) ?_
  refine r_iconst (v := (1 : Int32)) C dX8_tank_7 (by decide) ?_
  obtain ⟨r3, hq2, hf⟩ := bo1_e hf
  refine r_callS (o := some (.int r3)) (w' := (wM g I1 J)) (As := [.int a1, .int (0 : Int32), .int (1 : Int32)]) (rest := []) C (c_X8_in hq2) dX8_tank_8 gX8_tank_X8_in rfl rfl rfl hd_X8_in ⟨by decide, by decide⟩ rfl rfl (Nat.le_of_ble_eq_true rfl) ?_
  refine r_if_eq (tgt := 56) C dX8_tank_11 (by decide) (fun q11 => ?_) (fun q11 => ?_)
  · have hf := itp hf q11
    refine r_iconst (v := (-1 : Int32)) C dX8_tank_56 (by decide) ?_
    exact hr _ _ _ _ _ dX8_tank_57 rfl hf
  · have hf := itn hf q11
    refine r_iload_n C dX8_tank_14 rfl 2 rfl ?_
    refine r_iload_n C dX8_tank_15 rfl 1 rfl ?_
    refine r_if_ne (tgt := 24) C dX8_tank_16 (by decide) (fun q16 => ?_) (fun q16 => ?_)
    · have hf := itn hf q16
      refine r_iconst (v := (0 : Int32)) C dX8_tank_24 (by decide) ?_
      exact mB_X8_tank_25 C hr _ _ _ _ _ _ hf
    · have hf := itp hf q16
      refine r_bipush (v := (100 : Int32)) C dX8_tank_19 (by decide) ?_
      refine r_goto (tgt := 25) C dX8_tank_21 (by decide) ?_
      exact mB_X8_tank_25 C hr _ _ _ _ _ _ hf
abbrev rmX8_type : Room := { frames := 1, cells := 0, slots := 0, locals := 22 }
theorem hd_X8_type : yX8_type.cls = RX8 ∧ yX8_type.cls ≠ "java/lang/invoke/MethodHandle" ∧ yX8_type.cls ≠ "java/lang/invoke/VarHandle" ∧ (parseMethodDescriptor yX8_type.desc).map (fun d => d.parameters.length) = some 2 := by decide +kernel
theorem kX8_type_0 : Cond.fieldLink RX8 64 (TX8 0).1 (TX8 0).2.1 (TX8 0).2.2.1 ∈ wsX8_type := by decide +kernel
theorem kX8_type_1 : ∀ w ∈ u_ws RX8 TX8 38, w ∈ wsX8_type := by decide +kernel
theorem kX8_type_2 : Cond.fieldLink RX8 151 (TX8 20).1 (TX8 20).2.1 (TX8 20).2.2.1 ∈ wsX8_type := by decide +kernel
theorem kX8_type_3 : Cond.fieldLink RX8 33 (TX8 19).1 (TX8 19).2.1 (TX8 19).2.2.1 ∈ wsX8_type := by decide +kernel
theorem kX8_type_4 : Jvm.Cond.constantLong RX8 154 (255) ∈ wsX8_type := by decide +kernel
set_option maxRecDepth 100000 in
set_option maxHeartbeats 4000000 in
theorem mB_X8_type_37 {k : CT} {g : GG} (C : CX k cX8_type 5 RX8 wsX8_type rmX8_type g) {ρ : (Int32 × MI × MJ)} (hr : RTW k wM g cX8_type .int ρ) {kk37 : MI → MJ → Int64 → Int32 → Option (Int32 × MI × MJ)} (hk37 : ∀ (I : MI) (J : MJ) (y1 : Int64) (x4 : Int32), kk37 I J y1 x4 = some ρ → V k (wM g I J) 37 [(0, .ref (g.1 0)), (1, .long y1), (4, .int x4)] []) : ∀ (I : MI) (J : MJ) (y1 : Int64) (x4 : Int32), LB_X8_type_37 kk37 I J y1 x4 = some ρ → V k (wM g I J) 37 [(0, .ref (g.1 0)), (1, .long y1), (4, .int x4)] [] := by
  intro I J y1 x4 hf
  unfold LB_X8_type_37 at hf
  refine r_iload C dX8_type_37 2 rfl ?_
  refine r_if_lt (tgt := 79) C dX8_type_39 (by decide) (fun q39 => ?_) (fun q39 => ?_)
  · have hf := itp hf q39
    refine r_aload_n C dX8_type_79 rfl 0 rfl ?_
    refine r_get C dX8_type_80 kX8_type_1 0 mg_0 rfl 20 (by decide) kX8_type_2 mv_0_20 ?_
    exact hr _ _ _ _ _ dX8_type_83 rfl hf
  · have hf := itn hf q39
    refine r_aload_n C dX8_type_42 rfl 0 rfl ?_
    refine r_get C dX8_type_43 kX8_type_1 0 mg_0 rfl 19 (by decide) kX8_type_3 mv_0_19 ?_
    refine r_aload_n C dX8_type_46 rfl 0 rfl ?_
    refine r_get C dX8_type_47 kX8_type_1 0 mg_0 rfl 20 (by decide) kX8_type_2 mv_0_20 ?_
    refine r_lload_n C dX8_type_50 rfl 1 rfl ?_
    refine r_bipush (v := (8 : Int32)) C dX8_type_51 (by decide) ?_
    refine r_iload C dX8_type_53 2 rfl ?_
    refine r_imul C dX8_type_55 ?_
    refine r_lshr C dX8_type_56 ?_
    refine r_ldc2 (v := (255 : Int64)) C dX8_type_57 kX8_type_4 ?_
    refine r_land C dX8_type_60 ?_
    refine r_l2i C dX8_type_61 ?_
    obtain ⟨h1, hf⟩ := chk_e hf
    refine r_iast (j := (I 0 20).toNatClampNeg) C dX8_type_62 7 mg_7 (inb_e h1) rfl ma_7 ?_
    refine nmIM (fun I2 eI2 => ?_)
    have hf := bnd_e hf I2 eI2
    refine r_aload_n C dX8_type_63 rfl 0 rfl ?_
    refine r_dup C dX8_type_64 rfl ?_
    refine r_get C dX8_type_65 kX8_type_1 0 mg_0 rfl 20 (by decide) kX8_type_2 mv_0_20 ?_
    refine r_iconst (v := (1 : Int32)) C dX8_type_68 (by decide) ?_
    refine r_iadd C dX8_type_69 ?_
    refine r_put (ty := .int) C dX8_type_70 kX8_type_1 tyX8 tyX8_ok nmX8 0 mg_0 rfl 20 (by decide) kX8_type_2 rfl rfl rfl rfl (Nat.le_of_ble_eq_true rfl) ms_0_20 ?_
    refine nmIM (fun I3 eI3 => ?_)
    have hf := bnd_e hf I3 eI3
    obtain ⟨v4, ev4⟩ : ∃ z : Int32, z = x4 + (-1 : Int32) := ⟨_, rfl⟩
    have hf := bnd_e hf v4 ev4
    refine r_iinc (v := v4) (lv' := [(0, .ref (g.1 0)), (1, .long y1), (4, .int v4)]) C dX8_type_73 2 rfl (by rw [ev4]; rfl) (by decide) [1, 2, 0] rfl ?_
    refine r_goto (tgt := 37) C dX8_type_76 (by decide) ?_
    exact hk37 _ _ _ _ hf
theorem mL_X8_type_37 {k : CT} {g : GG} (C : CX k cX8_type 5 RX8 wsX8_type rmX8_type g) {ρ : (Int32 × MI × MJ)} (hr : RTW k wM g cX8_type .int ρ) : ∀ (n : Nat) (I : MI) (J : MJ) (y1 : Int64) (x4 : Int32), LP_X8_type_37 n I J y1 x4 = some ρ → V k (wM g I J) 37 [(0, .ref (g.1 0)), (1, .long y1), (4, .int x4)] [] := by
  intro n
  induction n with
  | zero => intro I J y1 x4 hf; cases hf
  | succ n ih => intro I J y1 x4 hf; exact mB_X8_type_37 C hr (fun I J y1 x4 h => ih I J y1 x4 h) I J y1 x4 hf
set_option maxRecDepth 100000 in
set_option maxHeartbeats 4000000 in
theorem c_X8_type {l : Launch} {D : va_G} {g : GG} {I : MI} {J : MJ} {a1 : Int64} {a3 : Int32} {r : Int32} {I' : MI} {J' : MJ} (hf : f_X8_type I J a1 a3 = some (r, I', J')) : CON l yX8_type wsX8_type rmX8_type D g (wM g I J) [.ref (g.1 0), .long a1, .int a3] (some (.int r)) (wM g I' J') := by
  refine con_of (cc := cX8_type) (maxL := 5) (ret := (some .int)) (by decide) rfl (Nat.le_of_ble_eq_true rfl) rfl rfl ?_
  intro k C hkl hkD h1 h2 h3
  subst hkl; subst hkD
  have hr : RTW k wM g cX8_type .int (r, I', J') := rtw_of h2
  unfold f_X8_type at hf
  refine V.loc (lv' := [(0, .ref (g.1 0)), (1, .long a1), (3, .int a3)]) [0, 1, 2] rfl ?_
  refine r_aload_n C dX8_type_0 rfl 0 rfl ?_
  refine r_iconst (v := (0 : Int32)) C dX8_type_1 (by decide) ?_
  refine r_put (ty := .int) C dX8_type_2 kX8_type_1 tyX8 tyX8_ok nmX8 0 mg_0 rfl 0 (by decide) kX8_type_0 rfl rfl rfl rfl (Nat.le_of_ble_eq_true rfl) ms_0_0 ?_
  refine nmIM (fun I1 eI1 => ?_)
  have hf := bnd_e hf I1 eI1
  refine r_iload_n C dX8_type_5 rfl 2 rfl ?_
  refine r_iconst (v := (1 : Int32)) C dX8_type_6 (by decide) ?_
  refine r_bipush (v := (8 : Int32)) C dX8_type_7 (by decide) ?_
  obtain ⟨r3, hq2, hf⟩ := bo1_e hf
  refine r_callS (o := some (.int r3)) (w' := (wM g I1 J)) (As := [.int a3, .int (1 : Int32), .int (8 : Int32)]) (rest := []) C (c_X8_in hq2) dX8_type_9 gX8_type_X8_in rfl rfl rfl hd_X8_in ⟨by decide, by decide⟩ rfl rfl (Nat.le_of_ble_eq_true rfl) ?_
  refine r_if_ne (tgt := 17) C dX8_type_12 (by decide) (fun q12 => ?_) (fun q12 => ?_)
  · have hf := itn hf q12
    refine r_aload_n C dX8_type_17 rfl 0 rfl ?_
    refine r_get C dX8_type_18 kX8_type_1 0 mg_0 rfl 20 (by decide) kX8_type_2 mv_0_20 ?_
    refine r_iload_n C dX8_type_21 rfl 2 rfl ?_
    refine r_iadd C dX8_type_22 ?_
    refine r_sipush (v := (150 : Int32)) C dX8_type_23 (by decide) ?_
    refine r_icmp_le (tgt := 32) C dX8_type_26 (by decide) (fun q26 => ?_) (fun q26 => ?_)
    · have hf := itp hf q26
      refine r_iload_n C dX8_type_32 rfl 2 rfl ?_
      refine r_iconst (v := (1 : Int32)) C dX8_type_33 (by decide) ?_
      refine r_isub C dX8_type_34 ?_
      refine r_nmi (fun v4 ev4 => ?_)
      have hf := bnd_e hf v4 ev4
      refine r_istore (lv' := [(0, .ref (g.1 0)), (1, .long a1), (3, .int a3), (4, .int v4)]) C dX8_type_35 (by decide) [1, 2, 3, 0] rfl ?_
      refine V.loc [0, 1, 3] rfl ?_
      exact mL_X8_type_37 C hr FU _ _ _ _ hf
    · have hf := itn hf q26
      refine r_bipush (v := (-3 : Int32)) C dX8_type_29 (by decide) ?_
      exact hr _ _ _ _ _ dX8_type_31 rfl hf
  · have hf := itp hf q12
    refine r_iconst (v := (-1 : Int32)) C dX8_type_15 (by decide) ?_
    exact hr _ _ _ _ _ dX8_type_16 rfl hf
abbrev rmX8_clear : Room := { frames := 0, cells := 0, slots := 0, locals := 0 }
theorem hd_X8_clear : yX8_clear.cls = RX8 ∧ yX8_clear.cls ≠ "java/lang/invoke/MethodHandle" ∧ yX8_clear.cls ≠ "java/lang/invoke/VarHandle" ∧ (parseMethodDescriptor yX8_clear.desc).map (fun d => d.parameters.length) = some 0 := by decide +kernel
theorem kX8_clear_0 : Cond.fieldLink RX8 64 (TX8 0).1 (TX8 0).2.1 (TX8 0).2.2.1 ∈ wsX8_clear := by decide +kernel
theorem kX8_clear_1 : ∀ w ∈ u_ws RX8 TX8 38, w ∈ wsX8_clear := by decide +kernel
theorem kX8_clear_2 : Cond.fieldLink RX8 151 (TX8 20).1 (TX8 20).2.1 (TX8 20).2.2.1 ∈ wsX8_clear := by decide +kernel
set_option maxRecDepth 100000 in
set_option maxHeartbeats 4000000 in
theorem c_X8_clear {l : Launch} {D : va_G} {g : GG} {I : MI} {J : MJ} {r : Int32} {I' : MI} {J' : MJ} (hf : f_X8_clear I J = some (r, I', J')) : CON l yX8_clear wsX8_clear rmX8_clear D g (wM g I J) [.ref (g.1 0)] (some (.int r)) (wM g I' J') := by
  refine con_of (cc := cX8_clear) (maxL := 2) (ret := (some .int)) (by decide) rfl (Nat.le_of_ble_eq_true rfl) rfl rfl ?_
  intro k C hkl hkD h1 h2 h3
  subst hkl; subst hkD
  have hr : RTW k wM g cX8_clear .int (r, I', J') := rtw_of h2
  unfold f_X8_clear at hf
  refine V.loc (lv' := [(0, .ref (g.1 0))]) [0] rfl ?_
  refine r_aload_n C dX8_clear_0 rfl 0 rfl ?_
  refine r_iconst (v := (0 : Int32)) C dX8_clear_1 (by decide) ?_
  refine r_put (ty := .int) C dX8_clear_2 kX8_clear_1 tyX8 tyX8_ok nmX8 0 mg_0 rfl 0 (by decide) kX8_clear_0 rfl rfl rfl rfl (Nat.le_of_ble_eq_true rfl) ms_0_0 ?_
  refine nmIM (fun I1 eI1 => ?_)
  have hf := bnd_e hf I1 eI1
  refine r_aload_n C dX8_clear_5 rfl 0 rfl ?_
  refine r_get C dX8_clear_6 kX8_clear_1 0 mg_0 rfl 20 (by decide) kX8_clear_2 mv_0_20 ?_
  refine r_nmi (fun v2 ev2 => ?_)
  have hf := bnd_e hf v2 ev2
  refine r_istore_n (lv' := [(0, .ref (g.1 0)), (1, .int v2)]) C dX8_clear_9 rfl (by decide) [1, 0] rfl ?_
  refine r_aload_n C dX8_clear_10 rfl 0 rfl ?_
  refine r_iconst (v := (0 : Int32)) C dX8_clear_11 (by decide) ?_
  refine r_put (ty := .int) C dX8_clear_12 kX8_clear_1 tyX8 tyX8_ok nmX8 0 mg_0 rfl 20 (by decide) kX8_clear_2 rfl rfl rfl rfl (Nat.le_of_ble_eq_true rfl) ms_0_20 ?_
  refine nmIM (fun I3 eI3 => ?_)
  have hf := bnd_e hf I3 eI3
  refine r_iload_n C dX8_clear_15 rfl 1 rfl ?_
  exact hr _ _ _ _ _ dX8_clear_16 rfl hf
abbrev rmX8_byteAt : Room := { frames := 0, cells := 0, slots := 0, locals := 0 }
theorem hd_X8_byteAt : yX8_byteAt.cls = RX8 ∧ yX8_byteAt.cls ≠ "java/lang/invoke/MethodHandle" ∧ yX8_byteAt.cls ≠ "java/lang/invoke/VarHandle" ∧ (parseMethodDescriptor yX8_byteAt.desc).map (fun d => d.parameters.length) = some 0 := by decide +kernel
theorem kX8_byteAt_0 : Cond.fieldLink RX8 156 (TX8 24).1 (TX8 24).2.1 (TX8 24).2.2.1 ∈ wsX8_byteAt := by decide +kernel
theorem kX8_byteAt_1 : ∀ w ∈ u_ws RX8 TX8 38, w ∈ wsX8_byteAt := by decide +kernel
theorem kX8_byteAt_2 : Cond.fieldLink RX8 151 (TX8 20).1 (TX8 20).2.1 (TX8 20).2.2.1 ∈ wsX8_byteAt := by decide +kernel
theorem kX8_byteAt_3 : Cond.fieldLink RX8 33 (TX8 19).1 (TX8 19).2.1 (TX8 19).2.2.1 ∈ wsX8_byteAt := by decide +kernel
set_option maxRecDepth 100000 in
set_option maxHeartbeats 4000000 in
theorem c_X8_byteAt {l : Launch} {D : va_G} {g : GG} {I : MI} {J : MJ} {r : Int32} (hf : f_X8_byteAt I J = some r) : CON l yX8_byteAt wsX8_byteAt rmX8_byteAt D g (wM g I J) [.ref (g.1 0)] (some (.int r)) (wM g I J) := by
  refine con_of (cc := cX8_byteAt) (maxL := 1) (ret := (some .int)) (by decide) rfl (Nat.le_of_ble_eq_true rfl) rfl rfl ?_
  intro k C hkl hkD h1 h2 h3
  subst hkl; subst hkD
  have hr : RRW k (wM g I J) cX8_byteAt .int r := rrw_of h2
  unfold f_X8_byteAt at hf
  refine V.loc (lv' := [(0, .ref (g.1 0))]) [0] rfl ?_
  refine r_aload_n C dX8_byteAt_0 rfl 0 rfl ?_
  refine r_get C dX8_byteAt_1 kX8_byteAt_1 0 mg_0 rfl 24 (by decide) kX8_byteAt_0 mv_0_24 ?_
  refine r_aload_n C dX8_byteAt_4 rfl 0 rfl ?_
  refine r_get C dX8_byteAt_5 kX8_byteAt_1 0 mg_0 rfl 20 (by decide) kX8_byteAt_2 mv_0_20 ?_
  refine r_icmp_ge (tgt := 23) C dX8_byteAt_8 (by decide) (fun q8 => ?_) (fun q8 => ?_)
  · have hf := itp hf q8
    refine r_iconst (v := (-1 : Int32)) C dX8_byteAt_23 (by decide) ?_
    exact hr _ _ _ dX8_byteAt_24 rfl hf
  · have hf := itn hf q8
    refine r_aload_n C dX8_byteAt_11 rfl 0 rfl ?_
    refine r_get C dX8_byteAt_12 kX8_byteAt_1 0 mg_0 rfl 19 (by decide) kX8_byteAt_3 mv_0_19 ?_
    refine r_aload_n C dX8_byteAt_15 rfl 0 rfl ?_
    refine r_get C dX8_byteAt_16 kX8_byteAt_1 0 mg_0 rfl 24 (by decide) kX8_byteAt_0 mv_0_24 ?_
    obtain ⟨h1, hf⟩ := chk_e hf
    refine r_iald (j := (I 0 24).toNatClampNeg) C dX8_byteAt_19 7 mg_7 (inb_e h1) rfl ?_
    refine r_goto (tgt := 24) C dX8_byteAt_20 (by decide) ?_
    exact hr _ _ _ dX8_byteAt_24 rfl hf
abbrev rmX8_sign : Room := { frames := 1, cells := 0, slots := 0, locals := 20 }
theorem hd_X8_sign : yX8_sign.cls = RX8 ∧ yX8_sign.cls ≠ "java/lang/invoke/MethodHandle" ∧ yX8_sign.cls ≠ "java/lang/invoke/VarHandle" ∧ (parseMethodDescriptor yX8_sign.desc).map (fun d => d.parameters.length) = some 1 := by decide +kernel
theorem kX8_sign_0 : Cond.fieldLink RX8 156 (TX8 24).1 (TX8 24).2.1 (TX8 24).2.2.1 ∈ wsX8_sign := by decide +kernel
theorem kX8_sign_1 : ∀ w ∈ u_ws RX8 TX8 38, w ∈ wsX8_sign := by decide +kernel
theorem kX8_sign_2 : Cond.fieldLink RX8 162 (TX8 26).1 (TX8 26).2.1 (TX8 26).2.2.1 ∈ wsX8_sign := by decide +kernel
set_option maxRecDepth 100000 in
set_option maxHeartbeats 4000000 in
theorem c_X8_sign {l : Launch} {D : va_G} {g : GG} {I : MI} {J : MJ} {a1 : Int32} {r : Int32} {I' : MI} {J' : MJ} (hf : f_X8_sign I J a1 = some (r, I', J')) : CON l yX8_sign wsX8_sign rmX8_sign D g (wM g I J) [.ref (g.1 0), .int a1] (some (.int r)) (wM g I' J') := by
  refine con_of (cc := cX8_sign) (maxL := 2) (ret := (some .boolean)) (by decide) rfl (Nat.le_of_ble_eq_true rfl) rfl rfl ?_
  intro k C hkl hkD h1 h2 h3
  subst hkl; subst hkD
  have hr : RTW k wM g cX8_sign .boolean (r, I', J') := rtw_of h2
  unfold f_X8_sign at hf
  refine V.loc (lv' := [(0, .ref (g.1 0)), (1, .int a1)]) [0, 1] rfl ?_
  refine r_aload_n C dX8_sign_0 rfl 0 rfl ?_
  obtain ⟨r2, hq1, hf⟩ := bo1_e hf
  refine r_callV (o := some (.int r2)) (w' := (wM g I J)) (As := []) (rest := []) C (c_X8_byteAt hq1) dX8_sign_1 gX8_sign_X8_byteAt rfl rfl rfl hd_X8_byteAt ⟨by decide, by decide⟩ 0 mg_0 rfl rfl rfl rfl (Nat.le_of_ble_eq_true rfl) ?_
  refine r_iload_n C dX8_sign_4 rfl 1 rfl ?_
  refine r_icmp_eq (tgt := 18) C dX8_sign_5 (by decide) (fun q5 => ?_) (fun q5 => ?_)
  · have hf := itp hf q5
    refine r_aload_n C dX8_sign_18 rfl 0 rfl ?_
    refine r_dup C dX8_sign_19 rfl ?_
    refine r_get C dX8_sign_20 kX8_sign_1 0 mg_0 rfl 24 (by decide) kX8_sign_0 mv_0_24 ?_
    refine r_iconst (v := (1 : Int32)) C dX8_sign_23 (by decide) ?_
    refine r_iadd C dX8_sign_24 ?_
    refine r_put (ty := .int) C dX8_sign_25 kX8_sign_1 tyX8 tyX8_ok nmX8 0 mg_0 rfl 24 (by decide) kX8_sign_0 rfl rfl rfl rfl (Nat.le_of_ble_eq_true rfl) ms_0_24 ?_
    refine nmIM (fun I3 eI3 => ?_)
    have hf := bnd_e hf I3 eI3
    refine r_iconst (v := (1 : Int32)) C dX8_sign_28 (by decide) ?_
    exact hr _ _ _ _ _ dX8_sign_29 nb1 hf
  · have hf := itn hf q5
    refine r_aload_n C dX8_sign_8 rfl 0 rfl ?_
    refine r_aload_n C dX8_sign_9 rfl 0 rfl ?_
    refine r_get C dX8_sign_10 kX8_sign_1 0 mg_0 rfl 24 (by decide) kX8_sign_0 mv_0_24 ?_
    refine r_put (ty := .int) C dX8_sign_13 kX8_sign_1 tyX8 tyX8_ok nmX8 0 mg_0 rfl 26 (by decide) kX8_sign_2 rfl rfl rfl rfl (Nat.le_of_ble_eq_true rfl) ms_0_26 ?_
    refine nmIM (fun I4 eI4 => ?_)
    have hf := bnd_e hf I4 eI4
    refine r_iconst (v := (0 : Int32)) C dX8_sign_16 (by decide) ?_
    exact hr _ _ _ _ _ dX8_sign_17 nb0 hf
abbrev rmX8_reads : Room := { frames := 1, cells := 0, slots := 0, locals := 22 }
theorem hd_X8_reads : yX8_reads.cls = RX8 ∧ yX8_reads.cls ≠ "java/lang/invoke/MethodHandle" ∧ yX8_reads.cls ≠ "java/lang/invoke/VarHandle" ∧ (parseMethodDescriptor yX8_reads.desc).map (fun d => d.parameters.length) = some 3 := by decide +kernel
theorem kX8_reads_0 : Cond.fieldLink RX8 156 (TX8 24).1 (TX8 24).2.1 (TX8 24).2.2.1 ∈ wsX8_reads := by decide +kernel
theorem kX8_reads_1 : ∀ w ∈ u_ws RX8 TX8 38, w ∈ wsX8_reads := by decide +kernel
theorem kX8_reads_2 : Cond.fieldLink RX8 165 (TX8 25).1 (TX8 25).2.1 (TX8 25).2.2.1 ∈ wsX8_reads := by decide +kernel
theorem kX8_reads_3 : Cond.fieldLink RX8 162 (TX8 26).1 (TX8 26).2.1 (TX8 26).2.2.1 ∈ wsX8_reads := by decide +kernel
set_option maxRecDepth 100000 in
set_option maxHeartbeats 4000000 in
theorem mB_X8_reads_81 {k : CT} {g : GG} (C : CX k cX8_reads 6 RX8 wsX8_reads rmX8_reads g) {ρ : (Int32 × MI × MJ)} (hr : RTW k wM g cX8_reads .boolean ρ) {kk34 : MI → MJ → Int32 → Int32 → Int32 → Option (Int32 × MI × MJ)} (hk34 : ∀ (I : MI) (J : MJ) (x2 : Int32) (x3 : Int32) (x4 : Int32), kk34 I J x2 x3 x4 = some ρ → V k (wM g I J) 34 [(0, .ref (g.1 0)), (2, .int x2), (3, .int x3), (4, .int x4)] []) : ∀ (I : MI) (J : MJ) (x2 : Int32) (x3 : Int32) (x4 : Int32) (x5 : Int32), LB_X8_reads_81 kk34 I J x2 x3 x4 x5 = some ρ → V k (wM g I J) 81 [(0, .ref (g.1 0)), (2, .int x2), (3, .int x3), (4, .int x4), (5, .int x5)] [] := by
  intro I J x2 x3 x4 x5 hf
  unfold LB_X8_reads_81 at hf
  refine r_iload C dX8_reads_81 4 rfl ?_
  refine r_iload_n C dX8_reads_83 rfl 1 rfl ?_
  refine r_icmp_le (tgt := 97) C dX8_reads_84 (by decide) (fun q84 => ?_) (fun q84 => ?_)
  · have hf := itp hf q84
    refine r_aload_n C dX8_reads_97 rfl 0 rfl ?_
    refine r_iload C dX8_reads_98 4 rfl ?_
    refine r_put (ty := .int) C dX8_reads_100 kX8_reads_1 tyX8 tyX8_ok nmX8 0 mg_0 rfl 25 (by decide) kX8_reads_2 rfl rfl rfl rfl (Nat.le_of_ble_eq_true rfl) ms_0_25 ?_
    refine nmIM (fun I1 eI1 => ?_)
    have hf := bnd_e hf I1 eI1
    refine r_aload_n C dX8_reads_103 rfl 0 rfl ?_
    refine r_dup C dX8_reads_104 rfl ?_
    refine r_get C dX8_reads_105 kX8_reads_1 0 mg_0 rfl 24 (by decide) kX8_reads_0 mv_0_24 ?_
    refine r_iconst (v := (1 : Int32)) C dX8_reads_108 (by decide) ?_
    refine r_iadd C dX8_reads_109 ?_
    refine r_put (ty := .int) C dX8_reads_110 kX8_reads_1 tyX8 tyX8_ok nmX8 0 mg_0 rfl 24 (by decide) kX8_reads_0 rfl rfl rfl rfl (Nat.le_of_ble_eq_true rfl) ms_0_24 ?_
    refine nmIM (fun I2 eI2 => ?_)
    have hf := bnd_e hf I2 eI2
    refine r_goto (tgt := 34) C dX8_reads_113 (by decide) ?_
    refine V.loc [0, 1, 2, 3] rfl ?_
    exact hk34 _ _ _ _ _ hf
  · have hf := itn hf q84
    refine r_aload_n C dX8_reads_87 rfl 0 rfl ?_
    refine r_aload_n C dX8_reads_88 rfl 0 rfl ?_
    refine r_get C dX8_reads_89 kX8_reads_1 0 mg_0 rfl 24 (by decide) kX8_reads_0 mv_0_24 ?_
    refine r_put (ty := .int) C dX8_reads_92 kX8_reads_1 tyX8 tyX8_ok nmX8 0 mg_0 rfl 26 (by decide) kX8_reads_3 rfl rfl rfl rfl (Nat.le_of_ble_eq_true rfl) ms_0_26 ?_
    refine nmIM (fun I3 eI3 => ?_)
    have hf := bnd_e hf I3 eI3
    refine r_iconst (v := (0 : Int32)) C dX8_reads_95 (by decide) ?_
    exact hr _ _ _ _ _ dX8_reads_96 nb0 hf
set_option maxRecDepth 100000 in
set_option maxHeartbeats 4000000 in
theorem mB_X8_reads_34 {k : CT} {g : GG} (C : CX k cX8_reads 6 RX8 wsX8_reads rmX8_reads g) {ρ : (Int32 × MI × MJ)} (hr : RTW k wM g cX8_reads .boolean ρ) {kk34 : MI → MJ → Int32 → Int32 → Int32 → Option (Int32 × MI × MJ)} (hk34 : ∀ (I : MI) (J : MJ) (x2 : Int32) (x3 : Int32) (x4 : Int32), kk34 I J x2 x3 x4 = some ρ → V k (wM g I J) 34 [(0, .ref (g.1 0)), (2, .int x2), (3, .int x3), (4, .int x4)] []) : ∀ (I : MI) (J : MJ) (x2 : Int32) (x3 : Int32) (x4 : Int32), LB_X8_reads_34 kk34 I J x2 x3 x4 = some ρ → V k (wM g I J) 34 [(0, .ref (g.1 0)), (2, .int x2), (3, .int x3), (4, .int x4)] [] := by
  intro I J x2 x3 x4 hf
  unfold LB_X8_reads_34 at hf
  refine r_aload_n C dX8_reads_34 rfl 0 rfl ?_
  obtain ⟨r2, hq1, hf⟩ := bo1_e hf
  refine r_callV (o := some (.int r2)) (w' := (wM g I J)) (As := []) (rest := []) C (c_X8_byteAt hq1) dX8_reads_35 gX8_reads_X8_byteAt rfl rfl rfl hd_X8_byteAt ⟨by decide, by decide⟩ 0 mg_0 rfl rfl rfl rfl (Nat.le_of_ble_eq_true rfl) ?_
  refine r_bipush (v := (48 : Int32)) C dX8_reads_38 (by decide) ?_
  refine r_bipush (v := (57 : Int32)) C dX8_reads_40 (by decide) ?_
  obtain ⟨r4, hq3, hf⟩ := bo1_e hf
  refine r_callS (o := some (.int r4)) (w' := (wM g I J)) (As := [.int r2, .int (48 : Int32), .int (57 : Int32)]) (rest := []) C (c_X8_in hq3) dX8_reads_42 gX8_reads_X8_in rfl rfl rfl hd_X8_in ⟨by decide, by decide⟩ rfl rfl (Nat.le_of_ble_eq_true rfl) ?_
  refine r_if_eq (tgt := 116) C dX8_reads_45 (by decide) (fun q45 => ?_) (fun q45 => ?_)
  · have hf := itp hf q45
    refine r_aload_n C dX8_reads_116 rfl 0 rfl ?_
    refine r_get C dX8_reads_117 kX8_reads_1 0 mg_0 rfl 25 (by decide) kX8_reads_2 mv_0_25 ?_
    refine r_iload_n C dX8_reads_120 rfl 2 rfl ?_
    refine r_icmp_gt (tgt := 136) C dX8_reads_121 (by decide) (fun q121 => ?_) (fun q121 => ?_)
    · have hf := itp hf q121
      refine r_iconst (v := (1 : Int32)) C dX8_reads_136 (by decide) ?_
      exact hr _ _ _ _ _ dX8_reads_137 nb1 hf
    · have hf := itn hf q121
      refine r_aload_n C dX8_reads_124 rfl 0 rfl ?_
      refine r_aload_n C dX8_reads_125 rfl 0 rfl ?_
      refine r_get C dX8_reads_126 kX8_reads_1 0 mg_0 rfl 24 (by decide) kX8_reads_0 mv_0_24 ?_
      refine r_iconst (v := (1 : Int32)) C dX8_reads_129 (by decide) ?_
      refine r_isub C dX8_reads_130 ?_
      refine r_put (ty := .int) C dX8_reads_131 kX8_reads_1 tyX8 tyX8_ok nmX8 0 mg_0 rfl 26 (by decide) kX8_reads_3 rfl rfl rfl rfl (Nat.le_of_ble_eq_true rfl) ms_0_26 ?_
      refine nmIM (fun I5 eI5 => ?_)
      have hf := bnd_e hf I5 eI5
      refine r_iconst (v := (0 : Int32)) C dX8_reads_134 (by decide) ?_
      exact hr _ _ _ _ _ dX8_reads_135 nb0 hf
  · have hf := itn hf q45
    refine r_bipush (v := (10 : Int32)) C dX8_reads_48 (by decide) ?_
    refine r_aload_n C dX8_reads_50 rfl 0 rfl ?_
    refine r_get C dX8_reads_51 kX8_reads_1 0 mg_0 rfl 25 (by decide) kX8_reads_2 mv_0_25 ?_
    refine r_imul C dX8_reads_54 ?_
    refine r_aload_n C dX8_reads_55 rfl 0 rfl ?_
    obtain ⟨r7, hq6, hf⟩ := bo1_e hf
    refine r_callV (o := some (.int r7)) (w' := (wM g I J)) (As := []) (rest := [.int ((10 : Int32) * (I 0 25))]) C (c_X8_byteAt hq6) dX8_reads_56 gX8_reads_X8_byteAt rfl rfl rfl hd_X8_byteAt ⟨by decide, by decide⟩ 0 mg_0 rfl rfl rfl rfl (Nat.le_of_ble_eq_true rfl) ?_
    refine r_iadd C dX8_reads_59 ?_
    refine r_bipush (v := (48 : Int32)) C dX8_reads_60 (by decide) ?_
    refine r_isub C dX8_reads_62 ?_
    refine r_nmi (fun v8 ev8 => ?_)
    have hf := bnd_e hf v8 ev8
    refine r_istore (lv' := [(0, .ref (g.1 0)), (2, .int x2), (3, .int x3), (4, .int x4), (5, .int v8)]) C dX8_reads_63 (by decide) [1, 2, 3, 4, 0] rfl ?_
    refine r_aload_n C dX8_reads_65 rfl 0 rfl ?_
    refine r_get C dX8_reads_66 kX8_reads_1 0 mg_0 rfl 25 (by decide) kX8_reads_2 mv_0_25 ?_
    refine r_if_ne (tgt := 81) C dX8_reads_69 (by decide) (fun q69 => ?_) (fun q69 => ?_)
    · have hf := itn hf q69
      exact mB_X8_reads_81 C hr hk34 _ _ _ _ _ _ hf
    · have hf := itp hf q69
      refine r_aload_n C dX8_reads_72 rfl 0 rfl ?_
      refine r_get C dX8_reads_73 kX8_reads_1 0 mg_0 rfl 24 (by decide) kX8_reads_0 mv_0_24 ?_
      refine r_iload C dX8_reads_76 3 rfl ?_
      refine r_icmp_gt (tgt := 87) C dX8_reads_78 (by decide) (fun q78 => ?_) (fun q78 => ?_)
      · have hf := itp hf q78
        refine r_aload_n C dX8_reads_87 rfl 0 rfl ?_
        refine r_aload_n C dX8_reads_88 rfl 0 rfl ?_
        refine r_get C dX8_reads_89 kX8_reads_1 0 mg_0 rfl 24 (by decide) kX8_reads_0 mv_0_24 ?_
        refine r_put (ty := .int) C dX8_reads_92 kX8_reads_1 tyX8 tyX8_ok nmX8 0 mg_0 rfl 26 (by decide) kX8_reads_3 rfl rfl rfl rfl (Nat.le_of_ble_eq_true rfl) ms_0_26 ?_
        refine nmIM (fun I9 eI9 => ?_)
        have hf := bnd_e hf I9 eI9
        refine r_iconst (v := (0 : Int32)) C dX8_reads_95 (by decide) ?_
        exact hr _ _ _ _ _ dX8_reads_96 nb0 hf
      · have hf := itn hf q78
        exact mB_X8_reads_81 C hr hk34 _ _ _ _ _ _ hf
theorem mL_X8_reads_34 {k : CT} {g : GG} (C : CX k cX8_reads 6 RX8 wsX8_reads rmX8_reads g) {ρ : (Int32 × MI × MJ)} (hr : RTW k wM g cX8_reads .boolean ρ) : ∀ (n : Nat) (I : MI) (J : MJ) (x2 : Int32) (x3 : Int32) (x4 : Int32), LP_X8_reads_34 n I J x2 x3 x4 = some ρ → V k (wM g I J) 34 [(0, .ref (g.1 0)), (2, .int x2), (3, .int x3), (4, .int x4)] [] := by
  intro n
  induction n with
  | zero => intro I J x2 x3 x4 hf; cases hf
  | succ n ih => intro I J x2 x3 x4 hf; exact mB_X8_reads_34 C hr (fun I J x2 x3 x4 h => ih I J x2 x3 x4 h) I J x2 x3 x4 hf
set_option maxRecDepth 100000 in
set_option maxHeartbeats 4000000 in
theorem c_X8_reads {l : Launch} {D : va_G} {g : GG} {I : MI} {J : MJ} {a1 : Int32} {a2 : Int32} {a3 : Int32} {r : Int32} {I' : MI} {J' : MJ} (hf : f_X8_reads I J a1 a2 a3 = some (r, I', J')) : CON l yX8_reads wsX8_reads rmX8_reads D g (wM g I J) [.ref (g.1 0), .int a1, .int a2, .int a3] (some (.int r)) (wM g I' J') := by
  refine con_of (cc := cX8_reads) (maxL := 6) (ret := (some .boolean)) (by decide) rfl (Nat.le_of_ble_eq_true rfl) rfl rfl ?_
  intro k C hkl hkD h1 h2 h3
  subst hkl; subst hkD
  have hr : RTW k wM g cX8_reads .boolean (r, I', J') := rtw_of h2
  unfold f_X8_reads at hf
  refine V.loc (lv' := [(0, .ref (g.1 0)), (1, .int a1), (2, .int a2), (3, .int a3)]) [0, 1, 2, 3] rfl ?_
  refine r_aload_n C dX8_reads_0 rfl 0 rfl ?_
  obtain ⟨r2, hq1, hf⟩ := bo1_e hf
  refine r_callV (o := some (.int r2)) (w' := (wM g I J)) (As := []) (rest := []) C (c_X8_byteAt hq1) dX8_reads_1 gX8_reads_X8_byteAt rfl rfl rfl hd_X8_byteAt ⟨by decide, by decide⟩ 0 mg_0 rfl rfl rfl rfl (Nat.le_of_ble_eq_true rfl) ?_
  refine r_iload_n C dX8_reads_4 rfl 1 rfl ?_
  refine r_bipush (v := (57 : Int32)) C dX8_reads_5 (by decide) ?_
  obtain ⟨r4, hq3, hf⟩ := bo1_e hf
  refine r_callS (o := some (.int r4)) (w' := (wM g I J)) (As := [.int r2, .int a1, .int (57 : Int32)]) (rest := []) C (c_X8_in hq3) dX8_reads_7 gX8_reads_X8_in rfl rfl rfl hd_X8_in ⟨by decide, by decide⟩ rfl rfl (Nat.le_of_ble_eq_true rfl) ?_
  refine r_if_ne (tgt := 23) C dX8_reads_10 (by decide) (fun q10 => ?_) (fun q10 => ?_)
  · have hf := itn hf q10
    refine r_aload_n C dX8_reads_23 rfl 0 rfl ?_
    refine r_get C dX8_reads_24 kX8_reads_1 0 mg_0 rfl 24 (by decide) kX8_reads_0 mv_0_24 ?_
    refine r_nmi (fun v5 ev5 => ?_)
    have hf := bnd_e hf v5 ev5
    refine r_istore (lv' := [(0, .ref (g.1 0)), (1, .int a1), (2, .int a2), (3, .int a3), (4, .int v5)]) C dX8_reads_27 (by decide) [1, 2, 3, 4, 0] rfl ?_
    refine r_aload_n C dX8_reads_29 rfl 0 rfl ?_
    refine r_iconst (v := (0 : Int32)) C dX8_reads_30 (by decide) ?_
    refine r_put (ty := .int) C dX8_reads_31 kX8_reads_1 tyX8 tyX8_ok nmX8 0 mg_0 rfl 25 (by decide) kX8_reads_2 rfl rfl rfl rfl (Nat.le_of_ble_eq_true rfl) ms_0_25 ?_
    refine nmIM (fun I6 eI6 => ?_)
    have hf := bnd_e hf I6 eI6
    refine V.loc [0, 2, 3, 4] rfl ?_
    exact mL_X8_reads_34 C hr FU _ _ _ _ _ hf
  · have hf := itp hf q10
    refine r_aload_n C dX8_reads_13 rfl 0 rfl ?_
    refine r_aload_n C dX8_reads_14 rfl 0 rfl ?_
    refine r_get C dX8_reads_15 kX8_reads_1 0 mg_0 rfl 24 (by decide) kX8_reads_0 mv_0_24 ?_
    refine r_put (ty := .int) C dX8_reads_18 kX8_reads_1 tyX8 tyX8_ok nmX8 0 mg_0 rfl 26 (by decide) kX8_reads_3 rfl rfl rfl rfl (Nat.le_of_ble_eq_true rfl) ms_0_26 ?_
    refine nmIM (fun I7 eI7 => ?_)
    have hf := bnd_e hf I7 eI7
    refine r_iconst (v := (0 : Int32)) C dX8_reads_21 (by decide) ?_
    exact hr _ _ _ _ _ dX8_reads_22 nb0 hf
abbrev rmX8_readsItem : Room := { frames := 2, cells := 0, slots := 0, locals := 47 }
theorem hd_X8_readsItem : yX8_readsItem.cls = RX8 ∧ yX8_readsItem.cls ≠ "java/lang/invoke/MethodHandle" ∧ yX8_readsItem.cls ≠ "java/lang/invoke/VarHandle" ∧ (parseMethodDescriptor yX8_readsItem.desc).map (fun d => d.parameters.length) = some 1 := by decide +kernel
theorem kX8_readsItem_0 : Cond.fieldLink RX8 39 (TX8 23).1 (TX8 23).2.1 (TX8 23).2.2.1 ∈ wsX8_readsItem := by decide +kernel
theorem kX8_readsItem_1 : ∀ w ∈ u_ws RX8 TX8 38, w ∈ wsX8_readsItem := by decide +kernel
theorem kX8_readsItem_2 : Cond.fieldLink RX8 156 (TX8 24).1 (TX8 24).2.1 (TX8 24).2.2.1 ∈ wsX8_readsItem := by decide +kernel
theorem kX8_readsItem_3 : Cond.fieldLink RX8 165 (TX8 25).1 (TX8 25).2.1 (TX8 25).2.2.1 ∈ wsX8_readsItem := by decide +kernel
theorem kX8_readsItem_4 : Cond.fieldLink RX8 162 (TX8 26).1 (TX8 26).2.1 (TX8 26).2.2.1 ∈ wsX8_readsItem := by decide +kernel
set_option maxRecDepth 100000 in
set_option maxHeartbeats 4000000 in
theorem c_X8_readsItem {l : Launch} {D : va_G} {g : GG} {I : MI} {J : MJ} {a1 : Int32} {r : Int32} {I' : MI} {J' : MJ} (hf : f_X8_readsItem I J a1 = some (r, I', J')) : CON l yX8_readsItem wsX8_readsItem rmX8_readsItem D g (wM g I J) [.ref (g.1 0), .int a1] (some (.int r)) (wM g I' J') := by
  refine con_of (cc := cX8_readsItem) (maxL := 2) (ret := (some .boolean)) (by decide) rfl (Nat.le_of_ble_eq_true rfl) rfl rfl ?_
  intro k C hkl hkD h1 h2 h3
  subst hkl; subst hkD
  have hr : RTW k wM g cX8_readsItem .boolean (r, I', J') := rtw_of h2
  unfold f_X8_readsItem at hf
  refine V.loc (lv' := [(0, .ref (g.1 0)), (1, .int a1)]) [0, 1] rfl ?_
  refine r_aload_n C dX8_readsItem_0 rfl 0 rfl ?_
  refine r_bipush (v := (102 : Int32)) C dX8_readsItem_1 (by decide) ?_
  obtain ⟨r4, I2, J3, hq1, hf⟩ := bo3_e hf
  refine r_callV (o := some (.int r4)) (w' := (wM g I2 J3)) (As := [.int (102 : Int32)]) (rest := []) C (c_X8_sign hq1) dX8_readsItem_3 gX8_readsItem_X8_sign rfl rfl rfl hd_X8_sign ⟨by decide, by decide⟩ 0 mg_0 rfl rfl rfl rfl (Nat.le_of_ble_eq_true rfl) ?_
  refine r_if_ne (tgt := 11) C dX8_readsItem_6 (by decide) (fun q6 => ?_) (fun q6 => ?_)
  · have hf := itn hf q6
    refine r_aload_n C dX8_readsItem_11 rfl 0 rfl ?_
    obtain ⟨r6, hq5, hf⟩ := bo1_e hf
    refine r_callV (o := some (.int r6)) (w' := (wM g I2 J3)) (As := []) (rest := []) C (c_X8_byteAt hq5) dX8_readsItem_12 gX8_readsItem_X8_byteAt rfl rfl rfl hd_X8_byteAt ⟨by decide, by decide⟩ 0 mg_0 rfl rfl rfl rfl (Nat.le_of_ble_eq_true rfl) ?_
    refine r_bipush (v := (48 : Int32)) C dX8_readsItem_15 (by decide) ?_
    refine r_bipush (v := (52 : Int32)) C dX8_readsItem_17 (by decide) ?_
    obtain ⟨r8, hq7, hf⟩ := bo1_e hf
    refine r_callS (o := some (.int r8)) (w' := (wM g I2 J3)) (As := [.int r6, .int (48 : Int32), .int (52 : Int32)]) (rest := []) C (c_X8_in hq7) dX8_readsItem_19 gX8_readsItem_X8_in rfl rfl rfl hd_X8_in ⟨by decide, by decide⟩ rfl rfl (Nat.le_of_ble_eq_true rfl) ?_
    refine r_if_ne (tgt := 35) C dX8_readsItem_22 (by decide) (fun q22 => ?_) (fun q22 => ?_)
    · have hf := itn hf q22
      refine r_aload_n C dX8_readsItem_35 rfl 0 rfl ?_
      refine r_get C dX8_readsItem_36 kX8_readsItem_1 0 mg_0 rfl 23 (by decide) kX8_readsItem_0 mv_0_23 ?_
      refine r_iload_n C dX8_readsItem_39 rfl 1 rfl ?_
      refine r_aload_n C dX8_readsItem_40 rfl 0 rfl ?_
      obtain ⟨r10, hq9, hf⟩ := bo1_e hf
      refine r_callV (o := some (.int r10)) (w' := (wM g I2 J3)) (As := []) (rest := [.int a1, .ref (g.1 9)]) C (c_X8_byteAt hq9) dX8_readsItem_41 gX8_readsItem_X8_byteAt rfl rfl rfl hd_X8_byteAt ⟨by decide, by decide⟩ 0 mg_0 rfl rfl rfl rfl (Nat.le_of_ble_eq_true rfl) ?_
      refine r_bipush (v := (48 : Int32)) C dX8_readsItem_44 (by decide) ?_
      refine r_isub C dX8_readsItem_46 ?_
      obtain ⟨h11, hf⟩ := chk_e hf
      refine r_iast (j := a1.toNatClampNeg) C dX8_readsItem_47 9 mg_9 (inb_e h11) rfl ma_9 ?_
      refine nmIM (fun I12 eI12 => ?_)
      have hf := bnd_e hf I12 eI12
      refine r_aload_n C dX8_readsItem_48 rfl 0 rfl ?_
      refine r_dup C dX8_readsItem_49 rfl ?_
      refine r_get C dX8_readsItem_50 kX8_readsItem_1 0 mg_0 rfl 24 (by decide) kX8_readsItem_2 mv_0_24 ?_
      refine r_iconst (v := (1 : Int32)) C dX8_readsItem_53 (by decide) ?_
      refine r_iadd C dX8_readsItem_54 ?_
      refine r_put (ty := .int) C dX8_readsItem_55 kX8_readsItem_1 tyX8 tyX8_ok nmX8 0 mg_0 rfl 24 (by decide) kX8_readsItem_2 rfl rfl rfl rfl (Nat.le_of_ble_eq_true rfl) ms_0_24 ?_
      refine nmIM (fun I13 eI13 => ?_)
      have hf := bnd_e hf I13 eI13
      refine r_aload_n C dX8_readsItem_58 rfl 0 rfl ?_
      refine r_bipush (v := (32 : Int32)) C dX8_readsItem_59 (by decide) ?_
      obtain ⟨r17, I15, J16, hq14, hf⟩ := bo3_e hf
      refine r_callV (o := some (.int r17)) (w' := (wM g I15 J16)) (As := [.int (32 : Int32)]) (rest := []) C (c_X8_sign hq14) dX8_readsItem_61 gX8_readsItem_X8_sign rfl rfl rfl hd_X8_sign ⟨by decide, by decide⟩ 0 mg_0 rfl rfl rfl rfl (Nat.le_of_ble_eq_true rfl) ?_
      refine r_if_eq (tgt := 79) C dX8_readsItem_64 (by decide) (fun q64 => ?_) (fun q64 => ?_)
      · have hf := itp hf q64
        refine r_iconst (v := (0 : Int32)) C dX8_readsItem_79 (by decide) ?_
        exact hr _ _ _ _ _ dX8_readsItem_80 nb0 hf
      · have hf := itn hf q64
        refine r_aload_n C dX8_readsItem_67 rfl 0 rfl ?_
        refine r_bipush (v := (48 : Int32)) C dX8_readsItem_68 (by decide) ?_
        refine r_bipush (v := (23 : Int32)) C dX8_readsItem_70 (by decide) ?_
        refine r_iconst (v := (-1 : Int32)) C dX8_readsItem_72 (by decide) ?_
        obtain ⟨r21, I19, J20, hq18, hf⟩ := bo3_e hf
        refine r_callV (o := some (.int r21)) (w' := (wM g I19 J20)) (As := [.int (48 : Int32), .int (23 : Int32), .int (-1 : Int32)]) (rest := []) C (c_X8_reads hq18) dX8_readsItem_73 gX8_readsItem_X8_reads rfl rfl rfl hd_X8_reads ⟨by decide, by decide⟩ 0 mg_0 rfl rfl rfl rfl (Nat.le_of_ble_eq_true rfl) ?_
        refine r_if_ne (tgt := 81) C dX8_readsItem_76 (by decide) (fun q76 => ?_) (fun q76 => ?_)
        · have hf := itn hf q76
          refine r_aload_n C dX8_readsItem_81 rfl 0 rfl ?_
          refine r_get C dX8_readsItem_82 kX8_readsItem_1 0 mg_0 rfl 23 (by decide) kX8_readsItem_0 mv_0_23 ?_
          refine r_iload_n C dX8_readsItem_85 rfl 1 rfl ?_
          refine r_iconst (v := (1 : Int32)) C dX8_readsItem_86 (by decide) ?_
          refine r_iadd C dX8_readsItem_87 ?_
          refine r_aload_n C dX8_readsItem_88 rfl 0 rfl ?_
          refine r_get C dX8_readsItem_89 kX8_readsItem_1 0 mg_0 rfl 25 (by decide) kX8_readsItem_3 mv_0_25 ?_
          obtain ⟨h22, hf⟩ := chk_e hf
          refine r_iast (j := (a1 + (1 : Int32)).toNatClampNeg) C dX8_readsItem_92 9 mg_9 (inb_e h22) rfl ma_9 ?_
          refine nmIM (fun I23 eI23 => ?_)
          have hf := bnd_e hf I23 eI23
          refine r_aload_n C dX8_readsItem_93 rfl 0 rfl ?_
          refine r_bipush (v := (45 : Int32)) C dX8_readsItem_94 (by decide) ?_
          obtain ⟨r27, I25, J26, hq24, hf⟩ := bo3_e hf
          refine r_callV (o := some (.int r27)) (w' := (wM g I25 J26)) (As := [.int (45 : Int32)]) (rest := []) C (c_X8_sign hq24) dX8_readsItem_96 gX8_readsItem_X8_sign rfl rfl rfl hd_X8_sign ⟨by decide, by decide⟩ 0 mg_0 rfl rfl rfl rfl (Nat.le_of_ble_eq_true rfl) ?_
          refine r_if_eq (tgt := 121) C dX8_readsItem_99 (by decide) (fun q99 => ?_) (fun q99 => ?_)
          · have hf := itp hf q99
            refine r_iconst (v := (0 : Int32)) C dX8_readsItem_121 (by decide) ?_
            exact hr _ _ _ _ _ dX8_readsItem_122 nb0 hf
          · have hf := itn hf q99
            refine r_aload_n C dX8_readsItem_102 rfl 0 rfl ?_
            refine r_bipush (v := (49 : Int32)) C dX8_readsItem_103 (by decide) ?_
            refine r_bipush (v := (24 : Int32)) C dX8_readsItem_105 (by decide) ?_
            refine r_aload_n C dX8_readsItem_107 rfl 0 rfl ?_
            refine r_get C dX8_readsItem_108 kX8_readsItem_1 0 mg_0 rfl 23 (by decide) kX8_readsItem_0 mv_0_23 ?_
            refine r_iload_n C dX8_readsItem_111 rfl 1 rfl ?_
            refine r_iconst (v := (1 : Int32)) C dX8_readsItem_112 (by decide) ?_
            refine r_iadd C dX8_readsItem_113 ?_
            obtain ⟨h28, hf⟩ := chk_e hf
            refine r_iald (j := (a1 + (1 : Int32)).toNatClampNeg) C dX8_readsItem_114 9 mg_9 (inb_e h28) rfl ?_
            obtain ⟨r32, I30, J31, hq29, hf⟩ := bo3_e hf
            refine r_callV (o := some (.int r32)) (w' := (wM g I30 J31)) (As := [.int (49 : Int32), .int (24 : Int32), .int (I25 9 (a1 + (1 : Int32)).toNatClampNeg)]) (rest := []) C (c_X8_reads hq29) dX8_readsItem_115 gX8_readsItem_X8_reads rfl rfl rfl hd_X8_reads ⟨by decide, by decide⟩ 0 mg_0 rfl rfl rfl rfl (Nat.le_of_ble_eq_true rfl) ?_
            refine r_if_ne (tgt := 123) C dX8_readsItem_118 (by decide) (fun q118 => ?_) (fun q118 => ?_)
            · have hf := itn hf q118
              refine r_aload_n C dX8_readsItem_123 rfl 0 rfl ?_
              refine r_get C dX8_readsItem_124 kX8_readsItem_1 0 mg_0 rfl 23 (by decide) kX8_readsItem_0 mv_0_23 ?_
              refine r_iload_n C dX8_readsItem_127 rfl 1 rfl ?_
              refine r_iconst (v := (2 : Int32)) C dX8_readsItem_128 (by decide) ?_
              refine r_iadd C dX8_readsItem_129 ?_
              refine r_aload_n C dX8_readsItem_130 rfl 0 rfl ?_
              refine r_get C dX8_readsItem_131 kX8_readsItem_1 0 mg_0 rfl 25 (by decide) kX8_readsItem_3 mv_0_25 ?_
              obtain ⟨h33, hf⟩ := chk_e hf
              refine r_iast (j := (a1 + (2 : Int32)).toNatClampNeg) C dX8_readsItem_134 9 mg_9 (inb_e h33) rfl ma_9 ?_
              refine nmIM (fun I34 eI34 => ?_)
              have hf := bnd_e hf I34 eI34
              refine r_aload_n C dX8_readsItem_135 rfl 0 rfl ?_
              refine r_bipush (v := (58 : Int32)) C dX8_readsItem_136 (by decide) ?_
              obtain ⟨r38, I36, J37, hq35, hf⟩ := bo3_e hf
              refine r_callV (o := some (.int r38)) (w' := (wM g I36 J37)) (As := [.int (58 : Int32)]) (rest := []) C (c_X8_sign hq35) dX8_readsItem_138 gX8_readsItem_X8_sign rfl rfl rfl hd_X8_sign ⟨by decide, by decide⟩ 0 mg_0 rfl rfl rfl rfl (Nat.le_of_ble_eq_true rfl) ?_
              refine r_if_eq (tgt := 157) C dX8_readsItem_141 (by decide) (fun q141 => ?_) (fun q141 => ?_)
              · have hf := itp hf q141
                refine r_iconst (v := (0 : Int32)) C dX8_readsItem_157 (by decide) ?_
                exact hr _ _ _ _ _ dX8_readsItem_158 nb0 hf
              · have hf := itn hf q141
                refine r_aload_n C dX8_readsItem_144 rfl 0 rfl ?_
                refine r_bipush (v := (49 : Int32)) C dX8_readsItem_145 (by decide) ?_
                refine r_sipush (v := (9999 : Int32)) C dX8_readsItem_147 (by decide) ?_
                refine r_iconst (v := (0 : Int32)) C dX8_readsItem_150 (by decide) ?_
                obtain ⟨r42, I40, J41, hq39, hf⟩ := bo3_e hf
                refine r_callV (o := some (.int r42)) (w' := (wM g I40 J41)) (As := [.int (49 : Int32), .int (9999 : Int32), .int (0 : Int32)]) (rest := []) C (c_X8_reads hq39) dX8_readsItem_151 gX8_readsItem_X8_reads rfl rfl rfl hd_X8_reads ⟨by decide, by decide⟩ 0 mg_0 rfl rfl rfl rfl (Nat.le_of_ble_eq_true rfl) ?_
                refine r_if_ne (tgt := 159) C dX8_readsItem_154 (by decide) (fun q154 => ?_) (fun q154 => ?_)
                · have hf := itn hf q154
                  refine r_aload_n C dX8_readsItem_159 rfl 0 rfl ?_
                  refine r_get C dX8_readsItem_160 kX8_readsItem_1 0 mg_0 rfl 23 (by decide) kX8_readsItem_0 mv_0_23 ?_
                  refine r_iload_n C dX8_readsItem_163 rfl 1 rfl ?_
                  refine r_iconst (v := (3 : Int32)) C dX8_readsItem_164 (by decide) ?_
                  refine r_iadd C dX8_readsItem_165 ?_
                  refine r_aload_n C dX8_readsItem_166 rfl 0 rfl ?_
                  refine r_get C dX8_readsItem_167 kX8_readsItem_1 0 mg_0 rfl 25 (by decide) kX8_readsItem_3 mv_0_25 ?_
                  obtain ⟨h43, hf⟩ := chk_e hf
                  refine r_iast (j := (a1 + (3 : Int32)).toNatClampNeg) C dX8_readsItem_170 9 mg_9 (inb_e h43) rfl ma_9 ?_
                  refine nmIM (fun I44 eI44 => ?_)
                  have hf := bnd_e hf I44 eI44
                  refine r_aload_n C dX8_readsItem_171 rfl 0 rfl ?_
                  refine r_bipush (v := (59 : Int32)) C dX8_readsItem_172 (by decide) ?_
                  obtain ⟨r48, I46, J47, hq45, hf⟩ := bo3_e hf
                  refine r_callV (o := some (.int r48)) (w' := (wM g I46 J47)) (As := [.int (59 : Int32)]) (rest := []) C (c_X8_sign hq45) dX8_readsItem_174 gX8_readsItem_X8_sign rfl rfl rfl hd_X8_sign ⟨by decide, by decide⟩ 0 mg_0 rfl rfl rfl rfl (Nat.le_of_ble_eq_true rfl) ?_
                  obtain ⟨hb, hf⟩ := chk_e hf
                  exact hr _ _ _ _ _ dX8_readsItem_177 (isB_e hb) hf
                · have hf := itp hf q154
                  refine r_iconst (v := (0 : Int32)) C dX8_readsItem_157 (by decide) ?_
                  exact hr _ _ _ _ _ dX8_readsItem_158 nb0 hf
            · have hf := itp hf q118
              refine r_iconst (v := (0 : Int32)) C dX8_readsItem_121 (by decide) ?_
              exact hr _ _ _ _ _ dX8_readsItem_122 nb0 hf
        · have hf := itp hf q76
          refine r_iconst (v := (0 : Int32)) C dX8_readsItem_79 (by decide) ?_
          exact hr _ _ _ _ _ dX8_readsItem_80 nb0 hf
    · have hf := itp hf q22
      refine r_aload_n C dX8_readsItem_25 rfl 0 rfl ?_
      refine r_aload_n C dX8_readsItem_26 rfl 0 rfl ?_
      refine r_get C dX8_readsItem_27 kX8_readsItem_1 0 mg_0 rfl 24 (by decide) kX8_readsItem_2 mv_0_24 ?_
      refine r_put (ty := .int) C dX8_readsItem_30 kX8_readsItem_1 tyX8 tyX8_ok nmX8 0 mg_0 rfl 26 (by decide) kX8_readsItem_4 rfl rfl rfl rfl (Nat.le_of_ble_eq_true rfl) ms_0_26 ?_
      refine nmIM (fun I49 eI49 => ?_)
      have hf := bnd_e hf I49 eI49
      refine r_iconst (v := (0 : Int32)) C dX8_readsItem_33 (by decide) ?_
      exact hr _ _ _ _ _ dX8_readsItem_34 nb0 hf
  · have hf := itp hf q6
    refine r_iconst (v := (0 : Int32)) C dX8_readsItem_9 (by decide) ?_
    exact hr _ _ _ _ _ dX8_readsItem_10 nb0 hf
