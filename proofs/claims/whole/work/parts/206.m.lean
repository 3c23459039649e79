abbrev rmX7_rights : Room := { frames := 4, cells := 0, slots := 0, locals := 90 }
theorem hd_X7_rights : yX7_rights.cls = RX7 ∧ yX7_rights.cls ≠ "java/lang/invoke/MethodHandle" ∧ yX7_rights.cls ≠ "java/lang/invoke/VarHandle" ∧ (parseMethodDescriptor yX7_rights.desc).map (fun d => d.parameters.length) = some 0 := by decide +kernel
theorem kX7_rights_0 : Cond.fieldLink RX7 41 (TX7 5).1 (TX7 5).2.1 (TX7 5).2.2.1 ∈ wsX7_rights := by decide +kernel
theorem kX7_rights_1 : ∀ w ∈ u_ws RX7 TX7 13, w ∈ wsX7_rights := by decide +kernel
set_option maxRecDepth 100000 in
set_option maxHeartbeats 4000000 in
theorem c_X7_rights {l : Launch} {D : va_G} {g : GG} {I : MI} {J : MJ} {r : Int32} {I' : MI} {J' : MJ} (hf : f_X7_rights I J = some (r, I', J')) : CON l yX7_rights wsX7_rights rmX7_rights D g (wB g I J) [.ref (g.1 0)] (some (.int r)) (wB g I' J') := by
  refine con_of (cc := cX7_rights) (maxL := 1) (ret := (some .int)) (by decide) rfl (Nat.le_of_ble_eq_true rfl) rfl rfl ?_
  intro k C hkl hkD h1 h2 h3
  subst hkl; subst hkD
  have hr : RTW k wB g cX7_rights .int (r, I', J') := rtw_of h2
  unfold f_X7_rights at hf
  refine V.loc (lv' := [(0, .ref (g.1 0))]) [0] rfl ?_
  refine r_aload_n C dX7_rights_0 rfl 0 rfl ?_
  refine r_get C dX7_rights_1 kX7_rights_1 0 bg_0 rfl 5 (by decide) kX7_rights_0 bv_0_5 ?_
  obtain ⟨r4, I2, J3, hq1, hf⟩ := bo3_e hf
  refine r_callV (o := some (.int r4)) (w' := (wB g I2 J3)) (As := []) (rest := []) C (c_X3_tellAnew hq1) dX7_rights_4 gX7_rights_X3_tellAnew rfl rfl rfl hd_X3_tellAnew ⟨by decide, by decide⟩ 20 bg_20 rfl rfl rfl rfl (Nat.le_of_ble_eq_true rfl) ?_
  exact hr _ _ _ _ _ dX7_rights_7 rfl hf
abbrev rmX3_litresOf : Room := { frames := 0, cells := 0, slots := 0, locals := 0 }
theorem hd_X3_litresOf : yX3_litresOf.cls = RX3 ∧ yX3_litresOf.cls ≠ "java/lang/invoke/MethodHandle" ∧ yX3_litresOf.cls ≠ "java/lang/invoke/VarHandle" ∧ (parseMethodDescriptor yX3_litresOf.desc).map (fun d => d.parameters.length) = some 2 := by decide +kernel
theorem kX3_litresOf_0 : Cond.fieldLink RX3 22 (TX3 3).1 (TX3 3).2.1 (TX3 3).2.2.1 ∈ wsX3_litresOf := by decide +kernel
theorem kX3_litresOf_1 : ∀ w ∈ u_ws RX3 TX3 7, w ∈ wsX3_litresOf := by decide +kernel
set_option maxRecDepth 100000 in
set_option maxHeartbeats 4000000 in
theorem c_X3_litresOf {l : Launch} {D : va_G} {g : GG} {I : MI} {J : MJ} {a1 : Int32} {a2 : Int32} {r : Int32} (hf : f_X3_litresOf I J a1 a2 = some r) : CON l yX3_litresOf wsX3_litresOf rmX3_litresOf D g (wB g I J) [.ref (g.1 20), .int a1, .int a2] (some (.int r)) (wB g I J) := by
  refine con_of (cc := cX3_litresOf) (maxL := 3) (ret := (some .int)) (by decide) rfl (Nat.le_of_ble_eq_true rfl) rfl rfl ?_
  intro k C hkl hkD h1 h2 h3
  subst hkl; subst hkD
  have hr : RRW k (wB g I J) cX3_litresOf .int r := rrw_of h2
  unfold f_X3_litresOf at hf
  refine V.loc (lv' := [(0, .ref (g.1 20)), (1, .int a1), (2, .int a2)]) [0, 1, 2] rfl ?_
  refine r_aload_n C dX3_litresOf_0 rfl 0 rfl ?_
  refine r_get C dX3_litresOf_1 kX3_litresOf_1 20 bg_20 rfl 3 (by decide) kX3_litresOf_0 bv_20_3 ?_
  refine r_iload_n C dX3_litresOf_4 rfl 1 rfl ?_
  refine r_bipush (v := (24 : Int32)) C dX3_litresOf_5 (by decide) ?_
  refine r_imul C dX3_litresOf_7 ?_
  refine r_iload_n C dX3_litresOf_8 rfl 2 rfl ?_
  refine r_iadd C dX3_litresOf_9 ?_
  obtain ⟨h1, hf⟩ := chk_e hf
  refine r_iald (j := ((a1 * (24 : Int32)) + a2).toNatClampNeg) C dX3_litresOf_10 22 bg_22 (inb_e h1) rfl ?_
  exact hr _ _ _ dX3_litresOf_11 rfl hf
abbrev rmX7_right : Room := { frames := 1, cells := 0, slots := 0, locals := 22 }
theorem hd_X7_right : yX7_right.cls = RX7 ∧ yX7_right.cls ≠ "java/lang/invoke/MethodHandle" ∧ yX7_right.cls ≠ "java/lang/invoke/VarHandle" ∧ (parseMethodDescriptor yX7_right.desc).map (fun d => d.parameters.length) = some 2 := by decide +kernel
theorem kX7_right_0 : Cond.fieldLink RX7 41 (TX7 5).1 (TX7 5).2.1 (TX7 5).2.2.1 ∈ wsX7_right := by decide +kernel
theorem kX7_right_1 : ∀ w ∈ u_ws RX7 TX7 13, w ∈ wsX7_right := by decide +kernel
set_option maxRecDepth 100000 in
set_option maxHeartbeats 4000000 in
theorem c_X7_right {l : Launch} {D : va_G} {g : GG} {I : MI} {J : MJ} {a1 : Int32} {a2 : Int32} {r : Int32} (hf : f_X7_right I J a1 a2 = some r) : CON l yX7_right wsX7_right rmX7_right D g (wB g I J) [.ref (g.1 0), .int a1, .int a2] (some (.int r)) (wB g I J) := by
  refine con_of (cc := cX7_right) (maxL := 3) (ret := (some .int)) (by decide) rfl (Nat.le_of_ble_eq_true rfl) rfl rfl ?_
  intro k C hkl hkD h1 h2 h3
  subst hkl; subst hkD
  have hr : RRW k (wB g I J) cX7_right .int r := rrw_of h2
  unfold f_X7_right at hf
  refine V.loc (lv' := [(0, .ref (g.1 0)), (1, .int a1), (2, .int a2)]) [0, 1, 2] rfl ?_
  refine r_iload_n C dX7_right_0 rfl 1 rfl ?_
  refine r_iconst (v := (0 : Int32)) C dX7_right_1 (by decide) ?_
  refine r_iconst (v := (4 : Int32)) C dX7_right_2 (by decide) ?_
  obtain ⟨r2, hq1, hf⟩ := bo1_e hf
  refine r_callS (o := some (.int r2)) (w' := (wB g I J)) (As := [.int a1, .int (0 : Int32), .int (4 : Int32)]) (rest := []) C (c_X7_within hq1) dX7_right_3 gX7_right_X7_within rfl rfl rfl hd_X7_within ⟨by decide, by decide⟩ rfl rfl (Nat.le_of_ble_eq_true rfl) ?_
  refine r_if_eq (tgt := 19) C dX7_right_6 (by decide) (fun q6 => ?_) (fun q6 => ?_)
  · have hf := itp hf q6
    refine r_iconst (v := (-1 : Int32)) C dX7_right_19 (by decide) ?_
    exact hr _ _ _ dX7_right_20 rfl hf
  · have hf := itn hf q6
    refine r_iload_n C dX7_right_9 rfl 2 rfl ?_
    refine r_iconst (v := (0 : Int32)) C dX7_right_10 (by decide) ?_
    refine r_bipush (v := (23 : Int32)) C dX7_right_11 (by decide) ?_
    obtain ⟨r4, hq3, hf⟩ := bo1_e hf
    refine r_callS (o := some (.int r4)) (w' := (wB g I J)) (As := [.int a2, .int (0 : Int32), .int (23 : Int32)]) (rest := []) C (c_X7_within hq3) dX7_right_13 gX7_right_X7_within rfl rfl rfl hd_X7_within ⟨by decide, by decide⟩ rfl rfl (Nat.le_of_ble_eq_true rfl) ?_
    refine r_if_ne (tgt := 21) C dX7_right_16 (by decide) (fun q16 => ?_) (fun q16 => ?_)
    · have hf := itn hf q16
      refine r_aload_n C dX7_right_21 rfl 0 rfl ?_
      refine r_get C dX7_right_22 kX7_right_1 0 bg_0 rfl 5 (by decide) kX7_right_0 bv_0_5 ?_
      refine r_iload_n C dX7_right_25 rfl 1 rfl ?_
      refine r_iload_n C dX7_right_26 rfl 2 rfl ?_
      obtain ⟨r6, hq5, hf⟩ := bo1_e hf
      refine r_callV (o := some (.int r6)) (w' := (wB g I J)) (As := [.int a1, .int a2]) (rest := []) C (c_X3_litresOf hq5) dX7_right_27 gX7_right_X3_litresOf rfl rfl rfl hd_X3_litresOf ⟨by decide, by decide⟩ 20 bg_20 rfl rfl rfl rfl (Nat.le_of_ble_eq_true rfl) ?_
      exact hr _ _ _ dX7_right_30 rfl hf
    · have hf := itp hf q16
      refine r_iconst (v := (-1 : Int32)) C dX7_right_19 (by decide) ?_
      exact hr _ _ _ dX7_right_20 rfl hf
abbrev rmX4_stop : Room := { frames := 2, cells := 0, slots := 0, locals := 43 }
theorem hd_X4_stop : yX4_stop.cls = RX4 ∧ yX4_stop.cls ≠ "java/lang/invoke/MethodHandle" ∧ yX4_stop.cls ≠ "java/lang/invoke/VarHandle" ∧ (parseMethodDescriptor yX4_stop.desc).map (fun d => d.parameters.length) = some 3 := by decide +kernel
theorem kX4_stop_0 : Cond.fieldLink RX4 18 (TX4 2).1 (TX4 2).2.1 (TX4 2).2.2.1 ∈ wsX4_stop := by decide +kernel
theorem kX4_stop_1 : ∀ w ∈ u_ws RX4 TX4 4, w ∈ wsX4_stop := by decide +kernel
theorem kX4_stop_2 : Cond.fieldLink RX4 15 (TX4 1).1 (TX4 1).2.1 (TX4 1).2.2.1 ∈ wsX4_stop := by decide +kernel
theorem kX4_stop_3 : Cond.fieldLink RX4 22 (TX4 3).1 (TX4 3).2.1 (TX4 3).2.2.1 ∈ wsX4_stop := by decide +kernel
set_option maxRecDepth 100000 in
set_option maxHeartbeats 4000000 in
theorem mB_X4_stop_21 {k : CT} {g : GG} {I : MI} {J : MJ} (C : CX k cX4_stop 5 RX4 wsX4_stop rmX4_stop g) {ρ : Int32} (hr : RRW k (wB g I J) cX4_stop .boolean ρ) : ∀ (c1 : Nat) (x2 : Int32) (x3 : Int32) (s0 : Int32), RC c1 → LB_X4_stop_21 I J c1 x2 x3 s0 = some ρ → V k (wB g I J) 21 [(0, .ref (g.1 12)), (1, .ref (g.1 c1)), (2, .int x2), (3, .int x3)] [.int s0] := by
  intro c1 x2 x3 s0 hc1 hf
  unfold LB_X4_stop_21 at hf
  refine r_istore (lv' := [(0, .ref (g.1 12)), (1, .ref (g.1 c1)), (2, .int x2), (3, .int x3), (4, .int s0)]) C dX4_stop_21 (by decide) [1, 2, 3, 4, 0] rfl ?_
  refine r_iload C dX4_stop_23 4 rfl ?_
  refine r_if_ne (tgt := 47) C dX4_stop_25 (by decide) (fun q25 => ?_) (fun q25 => ?_)
  · have hf := itn hf q25
    refine r_iconst (v := (1 : Int32)) C dX4_stop_47 (by decide) ?_
    refine r_goto (tgt := 52) C dX4_stop_48 (by decide) ?_
    exact hr _ _ _ dX4_stop_52 nb1 hf
  · have hf := itp hf q25
    refine r_iload_n C dX4_stop_28 rfl 3 rfl ?_
    refine r_aload_n C dX4_stop_29 rfl 0 rfl ?_
    refine r_get C dX4_stop_30 kX4_stop_1 12 bg_12 rfl 1 (by decide) kX4_stop_2 bv_12_1 ?_
    refine r_iload_n C dX4_stop_33 rfl 2 rfl ?_
    obtain ⟨h1, hf⟩ := chk_e hf
    refine r_iald (j := x2.toNatClampNeg) C dX4_stop_34 14 bg_14 (inb_e h1) rfl ?_
    refine r_icmp_ge (tgt := 51) C dX4_stop_35 (by decide) (fun q35 => ?_) (fun q35 => ?_)
    · have hf := itp hf q35
      refine r_iconst (v := (0 : Int32)) C dX4_stop_51 (by decide) ?_
      exact hr _ _ _ dX4_stop_52 nb0 hf
    · have hf := itn hf q35
      refine r_aload_n C dX4_stop_38 rfl 1 rfl ?_
      refine r_iconst (v := (5 : Int32)) C dX4_stop_39 (by decide) ?_
      obtain ⟨r3, hq2, hf⟩ := bo1_e hf
      refine r_callV (o := some (.int r3)) (w' := (wB g I J)) (As := [.int (5 : Int32)]) (rest := []) C (c_X1_trait hc1 hq2) dX4_stop_40 gX4_stop_X1_trait rfl rfl rfl hd_X1_trait ⟨by decide, by decide⟩ c1 (brg hc1) rfl rfl rfl rfl (Nat.le_of_ble_eq_true rfl) ?_
      refine r_iconst (v := (3 : Int32)) C dX4_stop_43 (by decide) ?_
      refine r_icmp_ge (tgt := 51) C dX4_stop_44 (by decide) (fun q44 => ?_) (fun q44 => ?_)
      · have hf := itp hf q44
        refine r_iconst (v := (0 : Int32)) C dX4_stop_51 (by decide) ?_
        exact hr _ _ _ dX4_stop_52 nb0 hf
      · have hf := itn hf q44
        refine r_iconst (v := (1 : Int32)) C dX4_stop_47 (by decide) ?_
        refine r_goto (tgt := 52) C dX4_stop_48 (by decide) ?_
        exact hr _ _ _ dX4_stop_52 nb1 hf
set_option maxRecDepth 100000 in
set_option maxHeartbeats 4000000 in
theorem mB_X4_stop_20 {k : CT} {g : GG} {I : MI} {J : MJ} (C : CX k cX4_stop 5 RX4 wsX4_stop rmX4_stop g) {ρ : Int32} (hr : RRW k (wB g I J) cX4_stop .boolean ρ) : ∀ (c1 : Nat) (x2 : Int32) (x3 : Int32), RC c1 → LB_X4_stop_20 I J c1 x2 x3 = some ρ → V k (wB g I J) 20 [(0, .ref (g.1 12)), (1, .ref (g.1 c1)), (2, .int x2), (3, .int x3)] [] := by
  intro c1 x2 x3 hc1 hf
  unfold LB_X4_stop_20 at hf
  refine r_iconst (v := (0 : Int32)) C dX4_stop_20 (by decide) ?_
  exact mB_X4_stop_21 C hr _ _ _ _ hc1 hf
set_option maxRecDepth 100000 in
set_option maxHeartbeats 4000000 in
theorem c_X4_stop {l : Launch} {D : va_G} {g : GG} {I : MI} {J : MJ} {c1 : Nat} {a2 : Int32} {a3 : Int32} {r : Int32} (hc1 : RC c1) (hf : f_X4_stop I J c1 a2 a3 = some r) : CON l yX4_stop wsX4_stop rmX4_stop D g (wB g I J) [.ref (g.1 12), .ref (g.1 c1), .int a2, .int a3] (some (.int r)) (wB g I J) := by
  refine con_of (cc := cX4_stop) (maxL := 5) (ret := (some .boolean)) (by decide) rfl (Nat.le_of_ble_eq_true rfl) rfl rfl ?_
  intro k C hkl hkD h1 h2 h3
  subst hkl; subst hkD
  have hr : RRW k (wB g I J) cX4_stop .boolean r := rrw_of h2
  unfold f_X4_stop at hf
  refine V.loc (lv' := [(0, .ref (g.1 12)), (1, .ref (g.1 c1)), (2, .int a2), (3, .int a3)]) [0, 1, 2, 3] rfl ?_
  refine r_iload_n C dX4_stop_0 rfl 3 rfl ?_
  refine r_aload_n C dX4_stop_1 rfl 0 rfl ?_
  refine r_get C dX4_stop_2 kX4_stop_1 12 bg_12 rfl 2 (by decide) kX4_stop_0 bv_12_2 ?_
  refine r_icmp_lt (tgt := 20) C dX4_stop_5 (by decide) (fun q5 => ?_) (fun q5 => ?_)
  · have hf := itp hf q5
    exact mB_X4_stop_20 C hr _ _ _ hc1 hf
  · have hf := itn hf q5
    refine r_iload_n C dX4_stop_8 rfl 3 rfl ?_
    refine r_aload_n C dX4_stop_9 rfl 0 rfl ?_
    refine r_get C dX4_stop_10 kX4_stop_1 12 bg_12 rfl 3 (by decide) kX4_stop_3 bv_12_3 ?_
    refine r_icmp_ge (tgt := 20) C dX4_stop_13 (by decide) (fun q13 => ?_) (fun q13 => ?_)
    · have hf := itp hf q13
      exact mB_X4_stop_20 C hr _ _ _ hc1 hf
    · have hf := itn hf q13
      refine r_iconst (v := (1 : Int32)) C dX4_stop_16 (by decide) ?_
      refine r_goto (tgt := 21) C dX4_stop_17 (by decide) ?_
      exact mB_X4_stop_21 C hr _ _ _ _ hc1 hf
abbrev rmX5_receive : Room := { frames := 0, cells := 0, slots := 0, locals := 0 }
theorem hd_X5_receive : yX5_receive.cls = RX5 ∧ yX5_receive.cls ≠ "java/lang/invoke/MethodHandle" ∧ yX5_receive.cls ≠ "java/lang/invoke/VarHandle" ∧ (parseMethodDescriptor yX5_receive.desc).map (fun d => d.parameters.length) = some 2 := by decide +kernel
theorem kX5_receive_0 : Cond.fieldLink RX5 16 (TX5 1).1 (TX5 1).2.1 (TX5 1).2.2.1 ∈ wsX5_receive := by decide +kernel
theorem kX5_receive_1 : ∀ w ∈ u_ws RX5 TX5 8, w ∈ wsX5_receive := by decide +kernel
theorem kX5_receive_2 : Cond.fieldLink RX5 19 (TX5 2).1 (TX5 2).2.1 (TX5 2).2.2.1 ∈ wsX5_receive := by decide +kernel
theorem kX5_receive_3 : Cond.fieldLink RX5 23 (TX5 3).1 (TX5 3).2.1 (TX5 3).2.2.1 ∈ wsX5_receive := by decide +kernel
set_option maxRecDepth 100000 in
set_option maxHeartbeats 4000000 in
theorem c_X5_receive {l : Launch} {D : va_G} {g : GG} {I : MI} {J : MJ} {a1 : Int32} {a2 : Int32} {I' : MI} {J' : MJ} (hf : f_X5_receive I J a1 a2 = some (I', J')) : CON l yX5_receive wsX5_receive rmX5_receive D g (wB g I J) [.ref (g.1 24), .int a1, .int a2] none (wB g I' J') := by
  refine con_of (cc := cX5_receive) (maxL := 3) (ret := none) (by decide) rfl (Nat.le_of_ble_eq_true rfl) rfl rfl ?_
  intro k C hkl hkD h1 h2 h3
  subst hkl; subst hkD
  have hr : RTV k wB g cX5_receive (I', J') := rtv_of h1
  unfold f_X5_receive at hf
  refine V.loc (lv' := [(0, .ref (g.1 24)), (1, .int a1), (2, .int a2)]) [0, 1, 2] rfl ?_
  refine r_aload_n C dX5_receive_0 rfl 0 rfl ?_
  refine r_dup C dX5_receive_1 rfl ?_
  refine r_get C dX5_receive_2 kX5_receive_1 24 bg_24 rfl 1 (by decide) kX5_receive_0 bv_24_1 ?_
  refine r_iload_n C dX5_receive_5 rfl 1 rfl ?_
  refine r_iadd C dX5_receive_6 ?_
  refine r_put (ty := .int) C dX5_receive_7 kX5_receive_1 tyX5 tyX5_ok nmX5 24 bg_24 rfl 1 (by decide) kX5_receive_0 rfl rfl rfl rfl (Nat.le_of_ble_eq_true rfl) bs_24_1 ?_
  refine nmIB (fun I1 eI1 => ?_)
  have hf := bnd_e hf I1 eI1
  refine r_aload_n C dX5_receive_10 rfl 0 rfl ?_
  refine r_dup C dX5_receive_11 rfl ?_
  refine r_get C dX5_receive_12 kX5_receive_1 24 bg_24 rfl 2 (by decide) kX5_receive_2 bv_24_2 ?_
  refine r_iload_n C dX5_receive_15 rfl 1 rfl ?_
  refine r_i2l C dX5_receive_16 ?_
  refine r_ladd C dX5_receive_17 ?_
  refine r_put (ty := .long) C dX5_receive_18 kX5_receive_1 tyX5 tyX5_ok nmX5 24 bg_24 rfl 2 (by decide) kX5_receive_2 rfl rfl rfl rfl (Nat.le_of_ble_eq_true rfl) bs_24_2 ?_
  refine nmJB (fun J2 eJ2 => ?_)
  have hf := bnd_e hf J2 eJ2
  refine r_aload_n C dX5_receive_21 rfl 0 rfl ?_
  refine r_dup C dX5_receive_22 rfl ?_
  refine r_get C dX5_receive_23 kX5_receive_1 24 bg_24 rfl 3 (by decide) kX5_receive_3 bv_24_3 ?_
  refine r_iload_n C dX5_receive_26 rfl 2 rfl ?_
  refine r_i2l C dX5_receive_27 ?_
  refine r_ladd C dX5_receive_28 ?_
  refine r_put (ty := .long) C dX5_receive_29 kX5_receive_1 tyX5 tyX5_ok nmX5 24 bg_24 rfl 3 (by decide) kX5_receive_3 rfl rfl rfl rfl (Nat.le_of_ble_eq_true rfl) bs_24_3 ?_
  refine nmJB (fun J3 eJ3 => ?_)
  have hf := bnd_e hf J3 eJ3
  exact hr _ _ _ _ dX5_receive_32 hf
abbrev rmX1_loseAir : Room := { frames := 3, cells := 0, slots := 0, locals := 69 }
theorem hd_X1_loseAir : yX1_loseAir.cls = RX1 ∧ yX1_loseAir.cls ≠ "java/lang/invoke/MethodHandle" ∧ yX1_loseAir.cls ≠ "java/lang/invoke/VarHandle" ∧ (parseMethodDescriptor yX1_loseAir.desc).map (fun d => d.parameters.length) = some 0 := by decide +kernel
theorem kX1_loseAir_0 : Cond.fieldLink RX1 9 (TX1 0).1 (TX1 0).2.1 (TX1 0).2.2.1 ∈ wsX1_loseAir := by decide +kernel
theorem kX1_loseAir_1 : ∀ w ∈ u_ws RX1 TX1 8, w ∈ wsX1_loseAir := by decide +kernel
theorem kX1_loseAir_2 : Cond.methodLink RX1 98 Lib.Math.max.name ∈ wsX1_loseAir := by decide +kernel
theorem kX1_loseAir_3 : Cond.static Lib.Math.max.name ∈ wsX1_loseAir := by decide +kernel
theorem kX1_loseAir_4 : Cond.initialized "java/lang/Math" ∈ wsX1_loseAir := by decide +kernel
theorem kX1_loseAir_5 : Cond.code Lib.Math.max.name Lib.Math.max.code 2 (some .int) ∈ wsX1_loseAir := by decide +kernel
theorem kX1_loseAir_6 : Cond.methodLink RX1 58 Lib.Math.min.name ∈ wsX1_loseAir := by decide +kernel
theorem kX1_loseAir_7 : Cond.static Lib.Math.min.name ∈ wsX1_loseAir := by decide +kernel
theorem kX1_loseAir_8 : Cond.code Lib.Math.min.name Lib.Math.min.code 2 (some .int) ∈ wsX1_loseAir := by decide +kernel
set_option maxRecDepth 100000 in
set_option maxHeartbeats 4000000 in
theorem c_X1_loseAir {l : Launch} {D : va_G} {g : GG} {I : MI} {J : MJ} {c : Nat} {I' : MI} {J' : MJ} (hc : RC c) (hf : f_X1_loseAir c I J = some (I', J')) : CON l yX1_loseAir wsX1_loseAir rmX1_loseAir D g (wB g I J) [.ref (g.1 c)] none (wB g I' J') := by
  refine con_of (cc := cX1_loseAir) (maxL := 2) (ret := none) (by decide) rfl (Nat.le_of_ble_eq_true rfl) rfl rfl ?_
  intro k C hkl hkD h1 h2 h3
  subst hkl; subst hkD
  have hr : RTV k wB g cX1_loseAir (I', J') := rtv_of h1
  unfold f_X1_loseAir at hf
  refine V.loc (lv' := [(0, .ref (g.1 c))]) [0] rfl ?_
  refine r_aload_n C dX1_loseAir_0 rfl 0 rfl ?_
  obtain ⟨r4, I2, J3, hq1, hf⟩ := bo3_e hf
  refine r_callV (o := some (.int r4)) (w' := (wB g I2 J3)) (As := []) (rest := []) C (c_X1_stalls hc hq1) dX1_loseAir_1 gX1_loseAir_X1_stalls rfl rfl rfl hd_X1_stalls ⟨by decide, by decide⟩ c (brg hc) rfl rfl rfl rfl (Nat.le_of_ble_eq_true rfl) ?_
  refine r_if_eq (tgt := 8) C dX1_loseAir_4 (by decide) (fun q4 => ?_) (fun q4 => ?_)
  · have hf := itp hf q4
    refine r_aload_n C dX1_loseAir_8 rfl 0 rfl ?_
    refine r_get C dX1_loseAir_9 kX1_loseAir_1 c (brg hc) rfl 0 (by decide) kX1_loseAir_0 brv_0 ?_
    refine r_bipush (v := (6 : Int32)) C dX1_loseAir_12 (by decide) ?_
    refine r_iald (j := 6) C dX1_loseAir_14 (c + 1) (brt hc) (inb_e (by decide +kernel)) (by decide +kernel) ?_
    refine r_iconst (v := (1 : Int32)) C dX1_loseAir_15 (by decide) ?_
    refine r_isub C dX1_loseAir_16 ?_
    refine r_aload_n C dX1_loseAir_17 rfl 0 rfl ?_
    refine r_get C dX1_loseAir_18 kX1_loseAir_1 c (brg hc) rfl 0 (by decide) kX1_loseAir_0 brv_0 ?_
    refine r_bipush (v := (9 : Int32)) C dX1_loseAir_21 (by decide) ?_
    refine r_iald (j := 9) C dX1_loseAir_23 (c + 1) (brt hc) (inb_e (by decide +kernel)) (by decide +kernel) ?_
    refine r_isub C dX1_loseAir_24 ?_
    refine r_iconst (v := (0 : Int32)) C dX1_loseAir_25 (by decide) ?_
    refine r_mmax C dX1_loseAir_26 kX1_loseAir_2 kX1_loseAir_3 kX1_loseAir_4 kX1_loseAir_5 (by decide) (Nat.le_of_ble_eq_true rfl) ?_
    refine r_nmi (fun v5 ev5 => ?_)
    have hf := bnd_e hf v5 ev5
    refine r_istore_n (lv' := [(0, .ref (g.1 c)), (1, .int v5)]) C dX1_loseAir_29 rfl (by decide) [1, 0] rfl ?_
    refine r_aload_n C dX1_loseAir_30 rfl 0 rfl ?_
    refine r_bipush (v := (6 : Int32)) C dX1_loseAir_31 (by decide) ?_
    refine r_iload_n C dX1_loseAir_33 rfl 1 rfl ?_
    refine r_aload_n C dX1_loseAir_34 rfl 0 rfl ?_
    refine r_get C dX1_loseAir_35 kX1_loseAir_1 c (brg hc) rfl 0 (by decide) kX1_loseAir_0 brv_0 ?_
    refine r_bipush (v := (11 : Int32)) C dX1_loseAir_38 (by decide) ?_
    refine r_iald (j := 11) C dX1_loseAir_40 (c + 1) (brt hc) (inb_e (by decide +kernel)) (by decide +kernel) ?_
    refine r_iadd C dX1_loseAir_41 ?_
    refine r_getsN C dX1_loseAir_42 C.S.2.1 (C.N.2.2.2.2.2.2.2.2.2.2) ?_
    refine r_bipush (v := (6 : Int32)) C dX1_loseAir_45 (by decide) ?_
    refine r_tald (j := 6) (f := sMST) C dX1_loseAir_47 C.S.2.1 (inb_e (by decide +kernel)) (by decide +kernel) ?_
    refine r_mmin C dX1_loseAir_48 kX1_loseAir_6 kX1_loseAir_7 kX1_loseAir_4 kX1_loseAir_8 (by decide) (Nat.le_of_ble_eq_true rfl) ?_
    obtain ⟨I7, J8, hq6, hf⟩ := bo2_e hf
    refine r_callV (o := none) (w' := (wB g I7 J8)) (As := [.int (6 : Int32), .int (imin (v5 + (I2 (c + 1) 11)) (sMST 6))]) (rest := []) C (c_X1_put hc hq6) dX1_loseAir_51 gX1_loseAir_X1_put rfl rfl rfl hd_X1_put ⟨by decide, by decide⟩ c (brg hc) rfl rfl rfl rfl (Nat.le_of_ble_eq_true rfl) ?_
    exact hr _ _ _ _ dX1_loseAir_54 hf
  · have hf := itn hf q4
    exact hr _ _ _ _ dX1_loseAir_7 hf
abbrev rmX5_spillOver : Room := { frames := 1, cells := 0, slots := 0, locals := 21 }
theorem hd_X5_spillOver : yX5_spillOver.cls = RX5 ∧ yX5_spillOver.cls ≠ "java/lang/invoke/MethodHandle" ∧ yX5_spillOver.cls ≠ "java/lang/invoke/VarHandle" ∧ (parseMethodDescriptor yX5_spillOver.desc).map (fun d => d.parameters.length) = some 0 := by decide +kernel
theorem kX5_spillOver_0 : Cond.fieldLink RX5 16 (TX5 1).1 (TX5 1).2.1 (TX5 1).2.2.1 ∈ wsX5_spillOver := by decide +kernel
theorem kX5_spillOver_1 : ∀ w ∈ u_ws RX5 TX5 8, w ∈ wsX5_spillOver := by decide +kernel
theorem kX5_spillOver_2 : Cond.fieldLink RX5 10 (TX5 0).1 (TX5 0).2.1 (TX5 0).2.2.1 ∈ wsX5_spillOver := by decide +kernel
theorem kX5_spillOver_3 : Cond.methodLink RX5 44 Lib.Math.max.name ∈ wsX5_spillOver := by decide +kernel
theorem kX5_spillOver_4 : Cond.static Lib.Math.max.name ∈ wsX5_spillOver := by decide +kernel
theorem kX5_spillOver_5 : Cond.initialized "java/lang/Math" ∈ wsX5_spillOver := by decide +kernel
theorem kX5_spillOver_6 : Cond.code Lib.Math.max.name Lib.Math.max.code 2 (some .int) ∈ wsX5_spillOver := by decide +kernel
theorem kX5_spillOver_7 : Cond.fieldLink RX5 26 (TX5 4).1 (TX5 4).2.1 (TX5 4).2.2.1 ∈ wsX5_spillOver := by decide +kernel
set_option maxRecDepth 100000 in
set_option maxHeartbeats 4000000 in
theorem c_X5_spillOver {l : Launch} {D : va_G} {g : GG} {I : MI} {J : MJ} {I' : MI} {J' : MJ} (hf : f_X5_spillOver I J = some (I', J')) : CON l yX5_spillOver wsX5_spillOver rmX5_spillOver D g (wB g I J) [.ref (g.1 24)] none (wB g I' J') := by
  refine con_of (cc := cX5_spillOver) (maxL := 2) (ret := none) (by decide) rfl (Nat.le_of_ble_eq_true rfl) rfl rfl ?_
  intro k C hkl hkD h1 h2 h3
  subst hkl; subst hkD
  have hr : RTV k wB g cX5_spillOver (I', J') := rtv_of h1
  unfold f_X5_spillOver at hf
  refine V.loc (lv' := [(0, .ref (g.1 24))]) [0] rfl ?_
  refine r_aload_n C dX5_spillOver_0 rfl 0 rfl ?_
  refine r_get C dX5_spillOver_1 kX5_spillOver_1 24 bg_24 rfl 1 (by decide) kX5_spillOver_0 bv_24_1 ?_
  refine r_aload_n C dX5_spillOver_4 rfl 0 rfl ?_
  refine r_get C dX5_spillOver_5 kX5_spillOver_1 24 bg_24 rfl 0 (by decide) kX5_spillOver_2 bv_24_0 ?_
  refine r_isub C dX5_spillOver_8 ?_
  refine r_iconst (v := (0 : Int32)) C dX5_spillOver_9 (by decide) ?_
  refine r_mmax C dX5_spillOver_10 kX5_spillOver_3 kX5_spillOver_4 kX5_spillOver_5 kX5_spillOver_6 (by decide) (Nat.le_of_ble_eq_true rfl) ?_
  refine r_nmi (fun v1 ev1 => ?_)
  have hf := bnd_e hf v1 ev1
  refine r_istore_n (lv' := [(0, .ref (g.1 24)), (1, .int v1)]) C dX5_spillOver_13 rfl (by decide) [1, 0] rfl ?_
  refine r_aload_n C dX5_spillOver_14 rfl 0 rfl ?_
  refine r_dup C dX5_spillOver_15 rfl ?_
  refine r_get C dX5_spillOver_16 kX5_spillOver_1 24 bg_24 rfl 1 (by decide) kX5_spillOver_0 bv_24_1 ?_
  refine r_iload_n C dX5_spillOver_19 rfl 1 rfl ?_
  refine r_isub C dX5_spillOver_20 ?_
  refine r_put (ty := .int) C dX5_spillOver_21 kX5_spillOver_1 tyX5 tyX5_ok nmX5 24 bg_24 rfl 1 (by decide) kX5_spillOver_0 rfl rfl rfl rfl (Nat.le_of_ble_eq_true rfl) bs_24_1 ?_
  refine nmIB (fun I2 eI2 => ?_)
  have hf := bnd_e hf I2 eI2
  refine r_aload_n C dX5_spillOver_24 rfl 0 rfl ?_
  refine r_dup C dX5_spillOver_25 rfl ?_
  refine r_get C dX5_spillOver_26 kX5_spillOver_1 24 bg_24 rfl 4 (by decide) kX5_spillOver_7 bv_24_4 ?_
  refine r_iload_n C dX5_spillOver_29 rfl 1 rfl ?_
  refine r_i2l C dX5_spillOver_30 ?_
  refine r_ladd C dX5_spillOver_31 ?_
  refine r_put (ty := .long) C dX5_spillOver_32 kX5_spillOver_1 tyX5 tyX5_ok nmX5 24 bg_24 rfl 4 (by decide) kX5_spillOver_7 rfl rfl rfl rfl (Nat.le_of_ble_eq_true rfl) bs_24_4 ?_
  refine nmJB (fun J3 eJ3 => ?_)
  have hf := bnd_e hf J3 eJ3
  exact hr _ _ _ _ dX5_spillOver_35 hf
abbrev rmX7_runRams : Room := { frames := 4, cells := 0, slots := 0, locals := 93 }
theorem hd_X7_runRams : yX7_runRams.cls = RX7 ∧ yX7_runRams.cls ≠ "java/lang/invoke/MethodHandle" ∧ yX7_runRams.cls ≠ "java/lang/invoke/VarHandle" ∧ (parseMethodDescriptor yX7_runRams.desc).map (fun d => d.parameters.length) = some 0 := by decide +kernel
theorem kX7_runRams_0 : Cond.fieldLink RX7 27 (TX7 3).1 (TX7 3).2.1 (TX7 3).2.2.1 ∈ wsX7_runRams := by decide +kernel
theorem kX7_runRams_1 : ∀ w ∈ u_ws RX7 TX7 13, w ∈ wsX7_runRams := by decide +kernel
theorem kX7_runRams_2 : Cond.fieldLink RX7 142 (TX4 0).1 (TX4 0).2.1 (TX4 0).2.2.1 ∈ wsX7_runRams := by decide +kernel
theorem kX7_runRams_3 : ∀ w ∈ u_ws RX4 TX4 4, w ∈ wsX7_runRams := by decide +kernel
theorem kX7_runRams_4 : Cond.fieldLink RX7 66 (TX7 9).1 (TX7 9).2.1 (TX7 9).2.2.1 ∈ wsX7_runRams := by decide +kernel
theorem kX7_runRams_5 : Cond.fieldLink RX7 15 (TX7 1).1 (TX7 1).2.1 (TX7 1).2.2.1 ∈ wsX7_runRams := by decide +kernel
theorem kX7_runRams_6 : Cond.fieldLink RX7 48 (TX7 6).1 (TX7 6).2.1 (TX7 6).2.2.1 ∈ wsX7_runRams := by decide +kernel
theorem kX7_runRams_7 : Cond.fieldLink RX7 11 (TX7 0).1 (TX7 0).2.1 (TX7 0).2.2.1 ∈ wsX7_runRams := by decide +kernel
theorem kX7_runRams_8 : Cond.fieldLink RX7 72 (TX7 11).1 (TX7 11).2.1 (TX7 11).2.2.1 ∈ wsX7_runRams := by decide +kernel
set_option maxRecDepth 100000 in
set_option maxHeartbeats 4000000 in
theorem mB_X7_runRams_15 {k : CT} {g : GG} (C : CX k cX7_runRams 6 RX7 wsX7_runRams rmX7_runRams g) {ρ : (MI × MJ)} (hr : RTV k wB g cX7_runRams ρ) {kk15 : MI → MJ → Int32 → Int32 → Option (MI × MJ)} (hk15 : ∀ (I : MI) (J : MJ) (x1 : Int32) (x2 : Int32), kk15 I J x1 x2 = some ρ → V k (wB g I J) 15 [(0, .ref (g.1 0)), (1, .int x1), (2, .int x2)] []) : ∀ (I : MI) (J : MJ) (x1 : Int32) (x2 : Int32), LB_X7_runRams_15 kk15 I J x1 x2 = some ρ → V k (wB g I J) 15 [(0, .ref (g.1 0)), (1, .int x1), (2, .int x2)] [] := by
  intro I J x1 x2 hf
  unfold LB_X7_runRams_15 at hf
  refine r_iload_n C dX7_runRams_15 rfl 2 rfl ?_
  refine r_aload_n C dX7_runRams_16 rfl 0 rfl ?_
  refine r_get C dX7_runRams_17 kX7_runRams_1 0 bg_0 rfl 1 (by decide) kX7_runRams_5 bv_0_1 ?_
  refine r_icmp_ge (tgt := 114) C dX7_runRams_20 (by decide) (fun q20 => ?_) (fun q20 => ?_)
  · have hf := itp hf q20
    refine r_aload_n C dX7_runRams_114 rfl 0 rfl ?_
    refine r_get C dX7_runRams_115 kX7_runRams_1 0 bg_0 rfl 6 (by decide) kX7_runRams_6 bv_0_6 ?_
    obtain ⟨I2, J3, hq1, hf⟩ := bo2_e hf
    refine r_callV (o := none) (w' := (wB g I2 J3)) (As := []) (rest := []) C (c_X5_spillOver hq1) dX7_runRams_118 gX7_runRams_X5_spillOver rfl rfl rfl hd_X5_spillOver ⟨by decide, by decide⟩ 24 bg_24 rfl rfl rfl rfl (Nat.le_of_ble_eq_true rfl) ?_
    exact hr _ _ _ _ dX7_runRams_121 hf
  · have hf := itn hf q20
    refine r_aload_n C dX7_runRams_23 rfl 0 rfl ?_
    refine r_get C dX7_runRams_24 kX7_runRams_1 0 bg_0 rfl 0 (by decide) kX7_runRams_7 bv_0_0 ?_
    refine r_iload_n C dX7_runRams_27 rfl 2 rfl ?_
    obtain ⟨h4, hf⟩ := chk_e hf
    refine r_aald C dX7_runRams_28 1 bg_1 (inb_e h4) rfl ?_
    refine r_astore_n (lv' := [(0, .ref (g.1 0)), (1, .int x1), (2, .int x2), (3, .ref (g.1 (rc x2)))]) C dX7_runRams_29 rfl (by decide) [1, 2, 3, 0] rfl ?_
    refine r_aload_n C dX7_runRams_30 rfl 3 rfl ?_
    refine r_bipush (v := (12 : Int32)) C dX7_runRams_31 (by decide) ?_
    obtain ⟨r6, hq5, hf⟩ := bo1_e hf
    refine r_callV (o := some (.int r6)) (w' := (wB g I J)) (As := [.int (12 : Int32)]) (rest := []) C (c_X1_trait (rc_of (inb_e h4)) hq5) dX7_runRams_33 gX7_runRams_X1_trait rfl rfl rfl hd_X1_trait ⟨by decide, by decide⟩ (rc x2) (brg (rc_of (inb_e h4))) rfl rfl rfl rfl (Nat.le_of_ble_eq_true rfl) ?_
    refine r_if_eq (tgt := 108) C dX7_runRams_36 (by decide) (fun q36 => ?_) (fun q36 => ?_)
    · have hf := itp hf q36
      obtain ⟨v7, ev7⟩ : ∃ z : Int32, z = x2 + (1 : Int32) := ⟨_, rfl⟩
      have hf := bnd_e hf v7 ev7
      refine r_iinc (v := v7) (lv' := [(0, .ref (g.1 0)), (1, .int x1), (2, .int v7), (3, .ref (g.1 (rc x2)))]) C dX7_runRams_108 2 rfl (by rw [ev7]; rfl) (by decide) [1, 2, 0, 3] rfl ?_
      refine r_goto (tgt := 15) C dX7_runRams_111 (by decide) ?_
      refine V.loc [0, 1, 2] rfl ?_
      exact hk15 _ _ _ _ hf
    · have hf := itn hf q36
      refine r_aload_n C dX7_runRams_39 rfl 0 rfl ?_
      refine r_get C dX7_runRams_40 kX7_runRams_1 0 bg_0 rfl 3 (by decide) kX7_runRams_0 bv_0_3 ?_
      refine r_aload_n C dX7_runRams_43 rfl 3 rfl ?_
      refine r_aload_n C dX7_runRams_44 rfl 0 rfl ?_
      refine r_get C dX7_runRams_45 kX7_runRams_1 0 bg_0 rfl 9 (by decide) kX7_runRams_4 bv_0_9 ?_
      refine r_aload_n C dX7_runRams_48 rfl 0 rfl ?_
      refine r_get C dX7_runRams_49 kX7_runRams_1 0 bg_0 rfl 11 (by decide) kX7_runRams_8 bv_0_11 ?_
      obtain ⟨r9, hq8, hf⟩ := bo1_e hf
      refine r_callV (o := some (.int r9)) (w' := (wB g I J)) (As := [.ref (g.1 (rc x2)), .int (I 0 9), .int (I 0 11)]) (rest := []) C (c_X4_stop (rc_of (inb_e h4)) hq8) dX7_runRams_52 gX7_runRams_X4_stop rfl rfl rfl hd_X4_stop ⟨by decide, by decide⟩ 12 bg_12 rfl rfl rfl rfl (Nat.le_of_ble_eq_true rfl) ?_
      refine r_if_eq (tgt := 61) C dX7_runRams_55 (by decide) (fun q55 => ?_) (fun q55 => ?_)
      · have hf := itp hf q55
        refine r_aload_n C dX7_runRams_61 rfl 3 rfl ?_
        obtain ⟨r13, I11, J12, hq10, hf⟩ := bo3_e hf
        refine r_callV (o := some (.int r13)) (w' := (wB g I11 J12)) (As := []) (rest := []) C (c_X1_upAnHour (rc_of (inb_e h4)) hq10) dX7_runRams_62 gX7_runRams_X1_upAnHour rfl rfl rfl hd_X1_upAnHour ⟨by decide, by decide⟩ (rc x2) (brg (rc_of (inb_e h4))) rfl rfl rfl rfl (Nat.le_of_ble_eq_true rfl) ?_
        refine r_istore (lv' := [(0, .ref (g.1 0)), (1, .int x1), (2, .int x2), (3, .ref (g.1 (rc x2))), (4, .int r13)]) C dX7_runRams_65 (by decide) [1, 2, 3, 4, 0] rfl ?_
        refine r_aload_n C dX7_runRams_67 rfl 3 rfl ?_
        obtain ⟨r17, I15, J16, hq14, hf⟩ := bo3_e hf
        refine r_callV (o := some (.int r17)) (w' := (wB g I15 J16)) (As := []) (rest := []) C (c_X1_wasteAnHour (rc_of (inb_e h4)) hq14) dX7_runRams_68 gX7_runRams_X1_wasteAnHour rfl rfl rfl hd_X1_wasteAnHour ⟨by decide, by decide⟩ (rc x2) (brg (rc_of (inb_e h4))) rfl rfl rfl rfl (Nat.le_of_ble_eq_true rfl) ?_
        refine r_istore (lv' := [(0, .ref (g.1 0)), (1, .int x1), (2, .int x2), (3, .ref (g.1 (rc x2))), (4, .int r13), (5, .int r17)]) C dX7_runRams_71 (by decide) [1, 2, 3, 4, 5, 0] rfl ?_
        refine r_iload C dX7_runRams_73 4 rfl ?_
        refine r_iload C dX7_runRams_75 5 rfl ?_
        refine r_iadd C dX7_runRams_77 ?_
        refine r_iload_n C dX7_runRams_78 rfl 1 rfl ?_
        refine r_icmp_le (tgt := 85) C dX7_runRams_79 (by decide) (fun q79 => ?_) (fun q79 => ?_)
        · have hf := itp hf q79
          refine r_iload_n C dX7_runRams_85 rfl 1 rfl ?_
          refine r_iload C dX7_runRams_86 4 rfl ?_
          refine r_iload C dX7_runRams_88 5 rfl ?_
          refine r_iadd C dX7_runRams_90 ?_
          refine r_isub C dX7_runRams_91 ?_
          refine r_nmi (fun v18 ev18 => ?_)
          have hf := bnd_e hf v18 ev18
          refine r_istore_n (lv' := [(0, .ref (g.1 0)), (1, .int v18), (2, .int x2), (3, .ref (g.1 (rc x2))), (4, .int r13), (5, .int r17)]) C dX7_runRams_92 rfl (by decide) [1, 0, 2, 3, 4, 5] rfl ?_
          refine r_aload_n C dX7_runRams_93 rfl 0 rfl ?_
          refine r_get C dX7_runRams_94 kX7_runRams_1 0 bg_0 rfl 6 (by decide) kX7_runRams_6 bv_0_6 ?_
          refine r_iload C dX7_runRams_97 4 rfl ?_
          refine r_iload C dX7_runRams_99 5 rfl ?_
          obtain ⟨I20, J21, hq19, hf⟩ := bo2_e hf
          refine r_callV (o := none) (w' := (wB g I20 J21)) (As := [.int r13, .int r17]) (rest := []) C (c_X5_receive hq19) dX7_runRams_101 gX7_runRams_X5_receive rfl rfl rfl hd_X5_receive ⟨by decide, by decide⟩ 24 bg_24 rfl rfl rfl rfl (Nat.le_of_ble_eq_true rfl) ?_
          refine r_aload_n C dX7_runRams_104 rfl 3 rfl ?_
          obtain ⟨I23, J24, hq22, hf⟩ := bo2_e hf
          refine r_callV (o := none) (w' := (wB g I23 J24)) (As := []) (rest := []) C (c_X1_loseAir (rc_of (inb_e h4)) hq22) dX7_runRams_105 gX7_runRams_X1_loseAir rfl rfl rfl hd_X1_loseAir ⟨by decide, by decide⟩ (rc x2) (brg (rc_of (inb_e h4))) rfl rfl rfl rfl (Nat.le_of_ble_eq_true rfl) ?_
          obtain ⟨v25, ev25⟩ : ∃ z : Int32, z = x2 + (1 : Int32) := ⟨_, rfl⟩
          have hf := bnd_e hf v25 ev25
          refine r_iinc (v := v25) (lv' := [(0, .ref (g.1 0)), (1, .int v18), (2, .int v25), (3, .ref (g.1 (rc x2))), (4, .int r13), (5, .int r17)]) C dX7_runRams_108 2 rfl (by rw [ev25]; rfl) (by decide) [1, 2, 0, 3, 4, 5] rfl ?_
          refine r_goto (tgt := 15) C dX7_runRams_111 (by decide) ?_
          refine V.loc [0, 1, 2] rfl ?_
          exact hk15 _ _ _ _ hf
        · have hf := itn hf q79
          refine r_goto (tgt := 108) C dX7_runRams_82 (by decide) ?_
          obtain ⟨v26, ev26⟩ : ∃ z : Int32, z = x2 + (1 : Int32) := ⟨_, rfl⟩
          have hf := bnd_e hf v26 ev26
          refine r_iinc (v := v26) (lv' := [(0, .ref (g.1 0)), (1, .int x1), (2, .int v26), (3, .ref (g.1 (rc x2))), (4, .int r13), (5, .int r17)]) C dX7_runRams_108 2 rfl (by rw [ev26]; rfl) (by decide) [1, 2, 0, 3, 4, 5] rfl ?_
          refine r_goto (tgt := 15) C dX7_runRams_111 (by decide) ?_
          refine V.loc [0, 1, 2] rfl ?_
          exact hk15 _ _ _ _ hf
      · have hf := itn hf q55
        refine r_goto (tgt := 108) C dX7_runRams_58 (by decide) ?_
        obtain ⟨v27, ev27⟩ : ∃ z : Int32, z = x2 + (1 : Int32) := ⟨_, rfl⟩
        have hf := bnd_e hf v27 ev27
        refine r_iinc (v := v27) (lv' := [(0, .ref (g.1 0)), (1, .int x1), (2, .int v27), (3, .ref (g.1 (rc x2)))]) C dX7_runRams_108 2 rfl (by rw [ev27]; rfl) (by decide) [1, 2, 0, 3] rfl ?_
        refine r_goto (tgt := 15) C dX7_runRams_111 (by decide) ?_
        refine V.loc [0, 1, 2] rfl ?_
        exact hk15 _ _ _ _ hf
theorem mL_X7_runRams_15 {k : CT} {g : GG} (C : CX k cX7_runRams 6 RX7 wsX7_runRams rmX7_runRams g) {ρ : (MI × MJ)} (hr : RTV k wB g cX7_runRams ρ) : ∀ (n : Nat) (I : MI) (J : MJ) (x1 : Int32) (x2 : Int32), LP_X7_runRams_15 n I J x1 x2 = some ρ → V k (wB g I J) 15 [(0, .ref (g.1 0)), (1, .int x1), (2, .int x2)] [] := by
  intro n
  induction n with
  | zero => intro I J x1 x2 hf; cases hf
  | succ n ih => intro I J x1 x2 hf; exact mB_X7_runRams_15 C hr (fun I J x1 x2 h => ih I J x1 x2 h) I J x1 x2 hf
set_option maxRecDepth 100000 in
set_option maxHeartbeats 4000000 in
theorem c_X7_runRams {l : Launch} {D : va_G} {g : GG} {I : MI} {J : MJ} {I' : MI} {J' : MJ} (hf : f_X7_runRams I J = some (I', J')) : CON l yX7_runRams wsX7_runRams rmX7_runRams D g (wB g I J) [.ref (g.1 0)] none (wB g I' J') := by
  refine con_of (cc := cX7_runRams) (maxL := 6) (ret := none) (by decide) rfl (Nat.le_of_ble_eq_true rfl) rfl rfl ?_
  intro k C hkl hkD h1 h2 h3
  subst hkl; subst hkD
  have hr : RTV k wB g cX7_runRams (I', J') := rtv_of h1
  unfold f_X7_runRams at hf
  refine V.loc (lv' := [(0, .ref (g.1 0))]) [0] rfl ?_
  refine r_aload_n C dX7_runRams_0 rfl 0 rfl ?_
  refine r_get C dX7_runRams_1 kX7_runRams_1 0 bg_0 rfl 3 (by decide) kX7_runRams_0 bv_0_3 ?_
  refine r_get C dX7_runRams_4 kX7_runRams_3 12 bg_12 rfl 0 (by decide) kX7_runRams_2 bv_12_0 ?_
  refine r_aload_n C dX7_runRams_7 rfl 0 rfl ?_
  refine r_get C dX7_runRams_8 kX7_runRams_1 0 bg_0 rfl 9 (by decide) kX7_runRams_4 bv_0_9 ?_
  obtain ⟨h1, hf⟩ := chk_e hf
  refine r_iald (j := (I 0 9).toNatClampNeg) C dX7_runRams_11 13 bg_13 (inb_e h1) rfl ?_
  refine r_nmi (fun v2 ev2 => ?_)
  have hf := bnd_e hf v2 ev2
  refine r_istore_n (lv' := [(0, .ref (g.1 0)), (1, .int v2)]) C dX7_runRams_12 rfl (by decide) [1, 0] rfl ?_
  refine r_iconst (v := (0 : Int32)) C dX7_runRams_13 (by decide) ?_
  refine r_istore_n (lv' := [(0, .ref (g.1 0)), (1, .int v2), (2, .int (0 : Int32))]) C dX7_runRams_14 rfl (by decide) [1, 2, 0] rfl ?_
  exact mL_X7_runRams_15 C hr FU _ _ _ _ hf
abbrev rmX5_serve : Room := { frames := 1, cells := 0, slots := 0, locals := 21 }
theorem hd_X5_serve : yX5_serve.cls = RX5 ∧ yX5_serve.cls ≠ "java/lang/invoke/MethodHandle" ∧ yX5_serve.cls ≠ "java/lang/invoke/VarHandle" ∧ (parseMethodDescriptor yX5_serve.desc).map (fun d => d.parameters.length) = some 2 := by decide +kernel
theorem kX5_serve_0 : Cond.fieldLink RX5 16 (TX5 1).1 (TX5 1).2.1 (TX5 1).2.2.1 ∈ wsX5_serve := by decide +kernel
theorem kX5_serve_1 : ∀ w ∈ u_ws RX5 TX5 8, w ∈ wsX5_serve := by decide +kernel
theorem kX5_serve_2 : Cond.methodLink RX5 50 Lib.Math.min.name ∈ wsX5_serve := by decide +kernel
theorem kX5_serve_3 : Cond.static Lib.Math.min.name ∈ wsX5_serve := by decide +kernel
theorem kX5_serve_4 : Cond.initialized "java/lang/Math" ∈ wsX5_serve := by decide +kernel
theorem kX5_serve_5 : Cond.code Lib.Math.min.name Lib.Math.min.code 2 (some .int) ∈ wsX5_serve := by decide +kernel
theorem kX5_serve_6 : Cond.fieldLink RX5 29 (TX5 5).1 (TX5 5).2.1 (TX5 5).2.2.1 ∈ wsX5_serve := by decide +kernel
theorem kX5_serve_7 : Cond.fieldLink RX5 32 (TX5 6).1 (TX5 6).2.1 (TX5 6).2.2.1 ∈ wsX5_serve := by decide +kernel
theorem kX5_serve_8 : Cond.fieldLink RX5 35 (TX5 7).1 (TX5 7).2.1 (TX5 7).2.2.1 ∈ wsX5_serve := by decide +kernel
set_option maxRecDepth 100000 in
set_option maxHeartbeats 4000000 in
theorem c_X5_serve {l : Launch} {D : va_G} {g : GG} {I : MI} {J : MJ} {a1 : Int32} {a2 : Int32} {I' : MI} {J' : MJ} (hf : f_X5_serve I J a1 a2 = some (I', J')) : CON l yX5_serve wsX5_serve rmX5_serve D g (wB g I J) [.ref (g.1 24), .int a1, .int a2] none (wB g I' J') := by
  refine con_of (cc := cX5_serve) (maxL := 4) (ret := none) (by decide) rfl (Nat.le_of_ble_eq_true rfl) rfl rfl ?_
  intro k C hkl hkD h1 h2 h3
  subst hkl; subst hkD
  have hr : RTV k wB g cX5_serve (I', J') := rtv_of h1
  unfold f_X5_serve at hf
  refine V.loc (lv' := [(0, .ref (g.1 24)), (1, .int a1), (2, .int a2)]) [0, 1, 2] rfl ?_
  refine r_iload_n C dX5_serve_0 rfl 2 rfl ?_
  refine r_aload_n C dX5_serve_1 rfl 0 rfl ?_
  refine r_get C dX5_serve_2 kX5_serve_1 24 bg_24 rfl 1 (by decide) kX5_serve_0 bv_24_1 ?_
  refine r_mmin C dX5_serve_5 kX5_serve_2 kX5_serve_3 kX5_serve_4 kX5_serve_5 (by decide) (Nat.le_of_ble_eq_true rfl) ?_
  refine r_nmi (fun v1 ev1 => ?_)
  have hf := bnd_e hf v1 ev1
  refine r_istore_n (lv' := [(0, .ref (g.1 24)), (1, .int a1), (2, .int a2), (3, .int v1)]) C dX5_serve_8 rfl (by decide) [1, 2, 3, 0] rfl ?_
  refine r_aload_n C dX5_serve_9 rfl 0 rfl ?_
  refine r_dup C dX5_serve_10 rfl ?_
  refine r_get C dX5_serve_11 kX5_serve_1 24 bg_24 rfl 1 (by decide) kX5_serve_0 bv_24_1 ?_
  refine r_iload_n C dX5_serve_14 rfl 3 rfl ?_
  refine r_isub C dX5_serve_15 ?_
  refine r_put (ty := .int) C dX5_serve_16 kX5_serve_1 tyX5 tyX5_ok nmX5 24 bg_24 rfl 1 (by decide) kX5_serve_0 rfl rfl rfl rfl (Nat.le_of_ble_eq_true rfl) bs_24_1 ?_
  refine nmIB (fun I2 eI2 => ?_)
  have hf := bnd_e hf I2 eI2
  refine r_aload_n C dX5_serve_19 rfl 0 rfl ?_
  refine r_dup C dX5_serve_20 rfl ?_
  refine r_get C dX5_serve_21 kX5_serve_1 24 bg_24 rfl 5 (by decide) kX5_serve_6 bv_24_5 ?_
  refine r_iload_n C dX5_serve_24 rfl 3 rfl ?_
  refine r_i2l C dX5_serve_25 ?_
  refine r_ladd C dX5_serve_26 ?_
  refine r_put (ty := .long) C dX5_serve_27 kX5_serve_1 tyX5 tyX5_ok nmX5 24 bg_24 rfl 5 (by decide) kX5_serve_6 rfl rfl rfl rfl (Nat.le_of_ble_eq_true rfl) bs_24_5 ?_
  refine nmJB (fun J3 eJ3 => ?_)
  have hf := bnd_e hf J3 eJ3
  refine r_aload_n C dX5_serve_30 rfl 0 rfl ?_
  refine r_dup C dX5_serve_31 rfl ?_
  refine r_get C dX5_serve_32 kX5_serve_1 24 bg_24 rfl 6 (by decide) kX5_serve_7 bv_24_6 ?_
  refine r_iload_n C dX5_serve_35 rfl 2 rfl ?_
  refine r_iload_n C dX5_serve_36 rfl 3 rfl ?_
  refine r_isub C dX5_serve_37 ?_
  refine r_i2l C dX5_serve_38 ?_
  refine r_ladd C dX5_serve_39 ?_
  refine r_put (ty := .long) C dX5_serve_40 kX5_serve_1 tyX5 tyX5_ok nmX5 24 bg_24 rfl 6 (by decide) kX5_serve_7 rfl rfl rfl rfl (Nat.le_of_ble_eq_true rfl) bs_24_6 ?_
  refine nmJB (fun J4 eJ4 => ?_)
  have hf := bnd_e hf J4 eJ4
  refine r_aload_n C dX5_serve_43 rfl 0 rfl ?_
  refine r_get C dX5_serve_44 kX5_serve_1 24 bg_24 rfl 7 (by decide) kX5_serve_8 bv_24_7 ?_
  refine r_iload_n C dX5_serve_47 rfl 1 rfl ?_
  refine r_dup2 C dX5_serve_48 rfl rfl ?_
  obtain ⟨h5, hf⟩ := chk_e hf
  refine r_lald (j := a1.toNatClampNeg) C dX5_serve_49 25 bg_25 (inb_e h5) rfl ?_
  refine r_iload_n C dX5_serve_50 rfl 2 rfl ?_
  refine r_iload_n C dX5_serve_51 rfl 3 rfl ?_
  refine r_isub C dX5_serve_52 ?_
  refine r_i2l C dX5_serve_53 ?_
  refine r_ladd C dX5_serve_54 ?_
  obtain ⟨h6, hf⟩ := chk_e hf
  refine r_last (j := a1.toNatClampNeg) C dX5_serve_55 25 bg_25 (inb_e h6) rfl ba_25 ?_
  refine nmJB (fun J7 eJ7 => ?_)
  have hf := bnd_e hf J7 eJ7
  exact hr _ _ _ _ dX5_serve_56 hf
abbrev rmX7_goToNextHour : Room := { frames := 0, cells := 0, slots := 0, locals := 0 }
theorem hd_X7_goToNextHour : yX7_goToNextHour.cls = RX7 ∧ yX7_goToNextHour.cls ≠ "java/lang/invoke/MethodHandle" ∧ yX7_goToNextHour.cls ≠ "java/lang/invoke/VarHandle" ∧ (parseMethodDescriptor yX7_goToNextHour.desc).map (fun d => d.parameters.length) = some 0 := by decide +kernel
theorem kX7_goToNextHour_0 : Cond.fieldLink RX7 72 (TX7 11).1 (TX7 11).2.1 (TX7 11).2.2.1 ∈ wsX7_goToNextHour := by decide +kernel
theorem kX7_goToNextHour_1 : ∀ w ∈ u_ws RX7 TX7 13, w ∈ wsX7_goToNextHour := by decide +kernel
theorem kX7_goToNextHour_2 : Cond.fieldLink RX7 69 (TX7 10).1 (TX7 10).2.1 (TX7 10).2.2.1 ∈ wsX7_goToNextHour := by decide +kernel
theorem kX7_goToNextHour_3 : Cond.fieldLink RX7 66 (TX7 9).1 (TX7 9).2.1 (TX7 9).2.2.1 ∈ wsX7_goToNextHour := by decide +kernel
set_option maxRecDepth 100000 in
set_option maxHeartbeats 4000000 in
theorem mB_X7_goToNextHour_34 {k : CT} {g : GG} (C : CX k cX7_goToNextHour 1 RX7 wsX7_goToNextHour rmX7_goToNextHour g) {ρ : (MI × MJ)} (hr : RTV k wB g cX7_goToNextHour ρ) : ∀ (I : MI) (J : MJ), LB_X7_goToNextHour_34 I J  = some ρ → V k (wB g I J) 34 [(0, .ref (g.1 0))] [] := by
  intro I J hf
  unfold LB_X7_goToNextHour_34 at hf
  refine r_aload_n C dX7_goToNextHour_34 rfl 0 rfl ?_
  refine r_get C dX7_goToNextHour_35 kX7_goToNextHour_1 0 bg_0 rfl 10 (by decide) kX7_goToNextHour_2 bv_0_10 ?_
  refine r_bipush (v := (30 : Int32)) C dX7_goToNextHour_38 (by decide) ?_
  refine r_icmp_ne (tgt := 61) C dX7_goToNextHour_40 (by decide) (fun q40 => ?_) (fun q40 => ?_)
  · have hf := itn hf q40
    exact hr _ _ _ _ dX7_goToNextHour_61 hf
  · have hf := itp hf q40
    refine r_aload_n C dX7_goToNextHour_43 rfl 0 rfl ?_
    refine r_iconst (v := (0 : Int32)) C dX7_goToNextHour_44 (by decide) ?_
    refine r_put (ty := .int) C dX7_goToNextHour_45 kX7_goToNextHour_1 tyX7 tyX7_ok nmX7 0 bg_0 rfl 10 (by decide) kX7_goToNextHour_2 rfl rfl rfl rfl (Nat.le_of_ble_eq_true rfl) bs_0_10 ?_
    refine nmIB (fun I1 eI1 => ?_)
    have hf := bnd_e hf I1 eI1
    refine r_aload_n C dX7_goToNextHour_48 rfl 0 rfl ?_
    refine r_aload_n C dX7_goToNextHour_49 rfl 0 rfl ?_
    refine r_get C dX7_goToNextHour_50 kX7_goToNextHour_1 0 bg_0 rfl 9 (by decide) kX7_goToNextHour_3 bv_0_9 ?_
    refine r_iconst (v := (1 : Int32)) C dX7_goToNextHour_53 (by decide) ?_
    refine r_iadd C dX7_goToNextHour_54 ?_
    refine r_bipush (v := (12 : Int32)) C dX7_goToNextHour_55 (by decide) ?_
    refine r_irem C dX7_goToNextHour_57 (by decide) ?_
    refine r_put (ty := .int) C dX7_goToNextHour_58 kX7_goToNextHour_1 tyX7 tyX7_ok nmX7 0 bg_0 rfl 9 (by decide) kX7_goToNextHour_3 rfl rfl rfl rfl (Nat.le_of_ble_eq_true rfl) bs_0_9 ?_
    refine nmIB (fun I2 eI2 => ?_)
    have hf := bnd_e hf I2 eI2
    exact hr _ _ _ _ dX7_goToNextHour_61 hf
set_option maxRecDepth 100000 in
set_option maxHeartbeats 4000000 in
theorem c_X7_goToNextHour {l : Launch} {D : va_G} {g : GG} {I : MI} {J : MJ} {I' : MI} {J' : MJ} (hf : f_X7_goToNextHour I J = some (I', J')) : CON l yX7_goToNextHour wsX7_goToNextHour rmX7_goToNextHour D g (wB g I J) [.ref (g.1 0)] none (wB g I' J') := by
  refine con_of (cc := cX7_goToNextHour) (maxL := 1) (ret := none) (by decide) rfl (Nat.le_of_ble_eq_true rfl) rfl rfl ?_
  intro k C hkl hkD h1 h2 h3
  subst hkl; subst hkD
  have hr : RTV k wB g cX7_goToNextHour (I', J') := rtv_of h1
  unfold f_X7_goToNextHour at hf
  refine V.loc (lv' := [(0, .ref (g.1 0))]) [0] rfl ?_
  refine r_aload_n C dX7_goToNextHour_0 rfl 0 rfl ?_
  refine r_dup C dX7_goToNextHour_1 rfl ?_
  refine r_get C dX7_goToNextHour_2 kX7_goToNextHour_1 0 bg_0 rfl 11 (by decide) kX7_goToNextHour_0 bv_0_11 ?_
  refine r_iconst (v := (1 : Int32)) C dX7_goToNextHour_5 (by decide) ?_
  refine r_iadd C dX7_goToNextHour_6 ?_
  refine r_put (ty := .int) C dX7_goToNextHour_7 kX7_goToNextHour_1 tyX7 tyX7_ok nmX7 0 bg_0 rfl 11 (by decide) kX7_goToNextHour_0 rfl rfl rfl rfl (Nat.le_of_ble_eq_true rfl) bs_0_11 ?_
  refine nmIB (fun I1 eI1 => ?_)
  have hf := bnd_e hf I1 eI1
  refine r_aload_n C dX7_goToNextHour_10 rfl 0 rfl ?_
  refine r_get C dX7_goToNextHour_11 kX7_goToNextHour_1 0 bg_0 rfl 11 (by decide) kX7_goToNextHour_0 bv_0_11 ?_
  refine r_bipush (v := (24 : Int32)) C dX7_goToNextHour_14 (by decide) ?_
  refine r_icmp_ne (tgt := 34) C dX7_goToNextHour_16 (by decide) (fun q16 => ?_) (fun q16 => ?_)
  · have hf := itn hf q16
    exact mB_X7_goToNextHour_34 C hr _ _ hf
  · have hf := itp hf q16
    refine r_aload_n C dX7_goToNextHour_19 rfl 0 rfl ?_
    refine r_iconst (v := (0 : Int32)) C dX7_goToNextHour_20 (by decide) ?_
    refine r_put (ty := .int) C dX7_goToNextHour_21 kX7_goToNextHour_1 tyX7 tyX7_ok nmX7 0 bg_0 rfl 11 (by decide) kX7_goToNextHour_0 rfl rfl rfl rfl (Nat.le_of_ble_eq_true rfl) bs_0_11 ?_
    refine nmIB (fun I2 eI2 => ?_)
    have hf := bnd_e hf I2 eI2
    refine r_aload_n C dX7_goToNextHour_24 rfl 0 rfl ?_
    refine r_dup C dX7_goToNextHour_25 rfl ?_
    refine r_get C dX7_goToNextHour_26 kX7_goToNextHour_1 0 bg_0 rfl 10 (by decide) kX7_goToNextHour_2 bv_0_10 ?_
    refine r_iconst (v := (1 : Int32)) C dX7_goToNextHour_29 (by decide) ?_
    refine r_iadd C dX7_goToNextHour_30 ?_
    refine r_put (ty := .int) C dX7_goToNextHour_31 kX7_goToNextHour_1 tyX7 tyX7_ok nmX7 0 bg_0 rfl 10 (by decide) kX7_goToNextHour_2 rfl rfl rfl rfl (Nat.le_of_ble_eq_true rfl) bs_0_10 ?_
    refine nmIB (fun I3 eI3 => ?_)
    have hf := bnd_e hf I3 eI3
    exact mB_X7_goToNextHour_34 C hr _ _ hf
abbrev rmX7_hours : Room := { frames := 5, cells := 0, slots := 0, locals := 118 }
theorem hd_X7_hours : yX7_hours.cls = RX7 ∧ yX7_hours.cls ≠ "java/lang/invoke/MethodHandle" ∧ yX7_hours.cls ≠ "java/lang/invoke/VarHandle" ∧ (parseMethodDescriptor yX7_hours.desc).map (fun d => d.parameters.length) = some 1 := by decide +kernel
theorem kX7_hours_0 : Cond.fieldLink RX7 48 (TX7 6).1 (TX7 6).2.1 (TX7 6).2.2.1 ∈ wsX7_hours := by decide +kernel
theorem kX7_hours_1 : ∀ w ∈ u_ws RX7 TX7 13, w ∈ wsX7_hours := by decide +kernel
theorem kX7_hours_2 : Cond.fieldLink RX7 211 (TX5 6).1 (TX5 6).2.1 (TX5 6).2.2.1 ∈ wsX7_hours := by decide +kernel
theorem kX7_hours_3 : ∀ w ∈ u_ws RX5 TX5 8, w ∈ wsX7_hours := by decide +kernel
theorem kX7_hours_4 : Cond.fieldLink RX7 41 (TX7 5).1 (TX7 5).2.1 (TX7 5).2.2.1 ∈ wsX7_hours := by decide +kernel
theorem kX7_hours_5 : Cond.fieldLink RX7 72 (TX7 11).1 (TX7 11).2.1 (TX7 11).2.2.1 ∈ wsX7_hours := by decide +kernel
set_option maxRecDepth 100000 in
set_option maxHeartbeats 4000000 in
theorem mB_X7_hours_37 {k : CT} {g : GG} (C : CX k cX7_hours 6 RX7 wsX7_hours rmX7_hours g) {ρ : (Int32 × MI × MJ)} (hr : RTW k wB g cX7_hours .int ρ) {kk24 : MI → MJ → Int32 → Int64 → Int32 → Option (Int32 × MI × MJ)} {kk37 : MI → MJ → Int32 → Int64 → Int32 → Int32 → Option (Int32 × MI × MJ)} (hk24 : ∀ (I : MI) (J : MJ) (x1 : Int32) (y2 : Int64) (x4 : Int32), kk24 I J x1 y2 x4 = some ρ → V k (wB g I J) 24 [(0, .ref (g.1 0)), (1, .int x1), (2, .long y2), (4, .int x4)] []) (hk37 : ∀ (I : MI) (J : MJ) (x1 : Int32) (y2 : Int64) (x4 : Int32) (x5 : Int32), kk37 I J x1 y2 x4 x5 = some ρ → V k (wB g I J) 37 [(0, .ref (g.1 0)), (1, .int x1), (2, .long y2), (4, .int x4), (5, .int x5)] []) : ∀ (I : MI) (J : MJ) (x1 : Int32) (y2 : Int64) (x4 : Int32) (x5 : Int32), LB_X7_hours_37 kk24 kk37 I J x1 y2 x4 x5 = some ρ → V k (wB g I J) 37 [(0, .ref (g.1 0)), (1, .int x1), (2, .long y2), (4, .int x4), (5, .int x5)] [] := by
  intro I J x1 y2 x4 x5 hf
  unfold LB_X7_hours_37 at hf
  refine r_iload C dX7_hours_37 4 rfl ?_
  refine r_iconst (v := (5 : Int32)) C dX7_hours_39 (by decide) ?_
  refine r_icmp_ge (tgt := 71) C dX7_hours_40 (by decide) (fun q40 => ?_) (fun q40 => ?_)
  · have hf := itp hf q40
    refine r_aload_n C dX7_hours_71 rfl 0 rfl ?_
    obtain ⟨I2, J3, hq1, hf⟩ := bo2_e hf
    refine r_callV (o := none) (w' := (wB g I2 J3)) (As := []) (rest := []) C (c_X7_goToNextHour hq1) dX7_hours_72 gX7_hours_X7_goToNextHour rfl rfl rfl hd_X7_goToNextHour ⟨by decide, by decide⟩ 0 bg_0 rfl rfl rfl rfl (Nat.le_of_ble_eq_true rfl) ?_
    obtain ⟨v4, ev4⟩ : ∃ z : Int32, z = x4 + (1 : Int32) := ⟨_, rfl⟩
    have hf := bnd_e hf v4 ev4
    refine r_iinc (v := v4) (lv' := [(0, .ref (g.1 0)), (1, .int x1), (2, .long y2), (4, .int v4), (5, .int x5)]) C dX7_hours_75 3 rfl (by rw [ev4]; rfl) (by decide) [1, 2, 3, 0, 4] rfl ?_
    refine r_goto (tgt := 24) C dX7_hours_78 (by decide) ?_
    refine V.loc [0, 1, 2, 3] rfl ?_
    exact hk24 _ _ _ _ _ hf
  · have hf := itn hf q40
    refine r_aload_n C dX7_hours_43 rfl 0 rfl ?_
    refine r_get C dX7_hours_44 kX7_hours_1 0 bg_0 rfl 6 (by decide) kX7_hours_0 bv_0_6 ?_
    refine r_iload C dX7_hours_47 4 rfl ?_
    refine r_aload_n C dX7_hours_49 rfl 0 rfl ?_
    refine r_get C dX7_hours_50 kX7_hours_1 0 bg_0 rfl 5 (by decide) kX7_hours_4 bv_0_5 ?_
    refine r_iload C dX7_hours_53 4 rfl ?_
    refine r_aload_n C dX7_hours_55 rfl 0 rfl ?_
    refine r_get C dX7_hours_56 kX7_hours_1 0 bg_0 rfl 11 (by decide) kX7_hours_5 bv_0_11 ?_
    obtain ⟨r6, hq5, hf⟩ := bo1_e hf
    refine r_callV (o := some (.int r6)) (w' := (wB g I J)) (As := [.int x5, .int (I 0 11)]) (rest := [.int x5, .ref (g.1 24)]) C (c_X3_litresOf hq5) dX7_hours_59 gX7_hours_X3_litresOf rfl rfl rfl hd_X3_litresOf ⟨by decide, by decide⟩ 20 bg_20 rfl rfl rfl rfl (Nat.le_of_ble_eq_true rfl) ?_
    obtain ⟨I8, J9, hq7, hf⟩ := bo2_e hf
    refine r_callV (o := none) (w' := (wB g I8 J9)) (As := [.int x5, .int r6]) (rest := []) C (c_X5_serve hq7) dX7_hours_62 gX7_hours_X5_serve rfl rfl rfl hd_X5_serve ⟨by decide, by decide⟩ 24 bg_24 rfl rfl rfl rfl (Nat.le_of_ble_eq_true rfl) ?_
    obtain ⟨v10, ev10⟩ : ∃ z : Int32, z = x5 + (1 : Int32) := ⟨_, rfl⟩
    have hf := bnd_e hf v10 ev10
    refine r_iinc (v := v10) (lv' := [(0, .ref (g.1 0)), (1, .int x1), (2, .long y2), (4, .int x4), (5, .int v10)]) C dX7_hours_65 4 rfl (by rw [ev10]; rfl) (by decide) [1, 2, 3, 4, 0] rfl ?_
    refine r_goto (tgt := 37) C dX7_hours_68 (by decide) ?_
    exact hk37 _ _ _ _ _ _ hf
theorem mL_X7_hours_37 {k : CT} {g : GG} (C : CX k cX7_hours 6 RX7 wsX7_hours rmX7_hours g) {ρ : (Int32 × MI × MJ)} (hr : RTW k wB g cX7_hours .int ρ) {kk24 : MI → MJ → Int32 → Int64 → Int32 → Option (Int32 × MI × MJ)} (hk24 : ∀ (I : MI) (J : MJ) (x1 : Int32) (y2 : Int64) (x4 : Int32), kk24 I J x1 y2 x4 = some ρ → V k (wB g I J) 24 [(0, .ref (g.1 0)), (1, .int x1), (2, .long y2), (4, .int x4)] []) : ∀ (n : Nat) (I : MI) (J : MJ) (x1 : Int32) (y2 : Int64) (x4 : Int32) (x5 : Int32), LP_X7_hours_37 kk24 n I J x1 y2 x4 x5 = some ρ → V k (wB g I J) 37 [(0, .ref (g.1 0)), (1, .int x1), (2, .long y2), (4, .int x4), (5, .int x5)] [] := by
  intro n
  induction n with
  | zero => intro I J x1 y2 x4 x5 hf; cases hf
  | succ n ih => intro I J x1 y2 x4 x5 hf; exact mB_X7_hours_37 C hr hk24 (fun I J x1 y2 x4 x5 h => ih I J x1 y2 x4 x5 h) I J x1 y2 x4 x5 hf
set_option maxRecDepth 100000 in
set_option maxHeartbeats 4000000 in
theorem mB_X7_hours_24 {k : CT} {g : GG} (C : CX k cX7_hours 6 RX7 wsX7_hours rmX7_hours g) {ρ : (Int32 × MI × MJ)} (hr : RTW k wB g cX7_hours .int ρ) {kk24 : MI → MJ → Int32 → Int64 → Int32 → Option (Int32 × MI × MJ)} (hk24 : ∀ (I : MI) (J : MJ) (x1 : Int32) (y2 : Int64) (x4 : Int32), kk24 I J x1 y2 x4 = some ρ → V k (wB g I J) 24 [(0, .ref (g.1 0)), (1, .int x1), (2, .long y2), (4, .int x4)] []) : ∀ (I : MI) (J : MJ) (x1 : Int32) (y2 : Int64) (x4 : Int32), LB_X7_hours_24 kk24 I J x1 y2 x4 = some ρ → V k (wB g I J) 24 [(0, .ref (g.1 0)), (1, .int x1), (2, .long y2), (4, .int x4)] [] := by
  intro I J x1 y2 x4 hf
  unfold LB_X7_hours_24 at hf
  refine r_iload C dX7_hours_24 3 rfl ?_
  refine r_iload_n C dX7_hours_26 rfl 1 rfl ?_
  refine r_icmp_ge (tgt := 81) C dX7_hours_27 (by decide) (fun q27 => ?_) (fun q27 => ?_)
  · have hf := itp hf q27
    refine r_aload_n C dX7_hours_81 rfl 0 rfl ?_
    refine r_get C dX7_hours_82 kX7_hours_1 0 bg_0 rfl 6 (by decide) kX7_hours_0 bv_0_6 ?_
    refine r_get C dX7_hours_85 kX7_hours_3 24 bg_24 rfl 6 (by decide) kX7_hours_2 bv_24_6 ?_
    refine r_lload_n C dX7_hours_88 rfl 2 rfl ?_
    refine r_lsub C dX7_hours_89 ?_
    refine r_l2i C dX7_hours_90 ?_
    exact hr _ _ _ _ _ dX7_hours_91 rfl hf
  · have hf := itn hf q27
    refine r_aload_n C dX7_hours_30 rfl 0 rfl ?_
    obtain ⟨I2, J3, hq1, hf⟩ := bo2_e hf
    refine r_callV (o := none) (w' := (wB g I2 J3)) (As := []) (rest := []) C (c_X7_runRams hq1) dX7_hours_31 gX7_hours_X7_runRams rfl rfl rfl hd_X7_runRams ⟨by decide, by decide⟩ 0 bg_0 rfl rfl rfl rfl (Nat.le_of_ble_eq_true rfl) ?_
    refine r_iconst (v := (0 : Int32)) C dX7_hours_34 (by decide) ?_
    refine r_istore (lv' := [(0, .ref (g.1 0)), (1, .int x1), (2, .long y2), (4, .int x4), (5, .int (0 : Int32))]) C dX7_hours_35 (by decide) [1, 2, 3, 4, 0] rfl ?_
    exact mL_X7_hours_37 C hr hk24 FU _ _ _ _ _ _ hf
theorem mL_X7_hours_24 {k : CT} {g : GG} (C : CX k cX7_hours 6 RX7 wsX7_hours rmX7_hours g) {ρ : (Int32 × MI × MJ)} (hr : RTW k wB g cX7_hours .int ρ) : ∀ (n : Nat) (I : MI) (J : MJ) (x1 : Int32) (y2 : Int64) (x4 : Int32), LP_X7_hours_24 n I J x1 y2 x4 = some ρ → V k (wB g I J) 24 [(0, .ref (g.1 0)), (1, .int x1), (2, .long y2), (4, .int x4)] [] := by
  intro n
  induction n with
  | zero => intro I J x1 y2 x4 hf; cases hf
  | succ n ih => intro I J x1 y2 x4 hf; exact mB_X7_hours_24 C hr (fun I J x1 y2 x4 h => ih I J x1 y2 x4 h) I J x1 y2 x4 hf
set_option maxRecDepth 100000 in
set_option maxHeartbeats 4000000 in
theorem c_X7_hours {l : Launch} {D : va_G} {g : GG} {I : MI} {J : MJ} {a1 : Int32} {r : Int32} {I' : MI} {J' : MJ} (hf : f_X7_hours I J a1 = some (r, I', J')) : CON l yX7_hours wsX7_hours rmX7_hours D g (wB g I J) [.ref (g.1 0), .int a1] (some (.int r)) (wB g I' J') := by
  refine con_of (cc := cX7_hours) (maxL := 6) (ret := (some .int)) (by decide) rfl (Nat.le_of_ble_eq_true rfl) rfl rfl ?_
  intro k C hkl hkD h1 h2 h3
  subst hkl; subst hkD
  have hr : RTW k wB g cX7_hours .int (r, I', J') := rtw_of h2
  unfold f_X7_hours at hf
  refine V.loc (lv' := [(0, .ref (g.1 0)), (1, .int a1)]) [0, 1] rfl ?_
  refine r_iload_n C dX7_hours_0 rfl 1 rfl ?_
  refine r_iconst (v := (1 : Int32)) C dX7_hours_1 (by decide) ?_
  refine r_sipush (v := (720 : Int32)) C dX7_hours_2 (by decide) ?_
  obtain ⟨r2, hq1, hf⟩ := bo1_e hf
  refine r_callS (o := some (.int r2)) (w' := (wB g I J)) (As := [.int a1, .int (1 : Int32), .int (720 : Int32)]) (rest := []) C (c_X7_within hq1) dX7_hours_5 gX7_hours_X7_within rfl rfl rfl hd_X7_within ⟨by decide, by decide⟩ rfl rfl (Nat.le_of_ble_eq_true rfl) ?_
  refine r_if_ne (tgt := 13) C dX7_hours_8 (by decide) (fun q8 => ?_) (fun q8 => ?_)
  · have hf := itn hf q8
    refine r_aload_n C dX7_hours_13 rfl 0 rfl ?_
    refine r_get C dX7_hours_14 kX7_hours_1 0 bg_0 rfl 6 (by decide) kX7_hours_0 bv_0_6 ?_
    refine r_get C dX7_hours_17 kX7_hours_3 24 bg_24 rfl 6 (by decide) kX7_hours_2 bv_24_6 ?_
    refine r_nml (fun v3 ev3 => ?_)
    have hf := bnd_e hf v3 ev3
    refine r_lstore_n (lv' := [(0, .ref (g.1 0)), (1, .int a1), (2, .long v3)]) C dX7_hours_20 rfl (by decide) [1, 2, 0] rfl ?_
    refine r_iconst (v := (0 : Int32)) C dX7_hours_21 (by decide) ?_
    refine r_istore (lv' := [(0, .ref (g.1 0)), (1, .int a1), (2, .long v3), (4, .int (0 : Int32))]) C dX7_hours_22 (by decide) [1, 2, 3, 0] rfl ?_
    exact mL_X7_hours_24 C hr FU _ _ _ _ _ hf
  · have hf := itp hf q8
    refine r_iconst (v := (-1 : Int32)) C dX7_hours_11 (by decide) ?_
    exact hr _ _ _ _ _ dX7_hours_12 rfl hf
