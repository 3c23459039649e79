abbrev rmX5_changeHeld : Room := { frames := 1, cells := 0, slots := 0, locals := 22 }
theorem hd_X5_changeHeld : yX5_changeHeld.cls = RX5 ∧ yX5_changeHeld.cls ≠ "java/lang/invoke/MethodHandle" ∧ yX5_changeHeld.cls ≠ "java/lang/invoke/VarHandle" ∧ (parseMethodDescriptor yX5_changeHeld.desc).map (fun d => d.parameters.length) = some 1 := by decide +kernel
theorem kX5_changeHeld_0 : Cond.fieldLink RX5 10 (TX5 0).1 (TX5 0).2.1 (TX5 0).2.2.1 ∈ wsX5_changeHeld := by decide +kernel
theorem kX5_changeHeld_1 : ∀ w ∈ u_ws RX5 TX5 8, w ∈ wsX5_changeHeld := by decide +kernel
theorem kX5_changeHeld_2 : Cond.initialized yX7_within.cls ∈ wsX5_changeHeld := by decide +kernel
theorem kX5_changeHeld_3 : Cond.static yX7_within ∈ wsX5_changeHeld := by decide +kernel
theorem kX5_changeHeld_4 : Cond.fieldLink RX5 16 (TX5 1).1 (TX5 1).2.1 (TX5 1).2.2.1 ∈ wsX5_changeHeld := by decide +kernel
set_option maxRecDepth 100000 in
set_option maxHeartbeats 4000000 in
theorem c_X5_changeHeld {l : Launch} {D : va_G} {g : GG} {I : MI} {J : MJ} {a1 : Int32} {r : Int32} {I' : MI} {J' : MJ} (hf : f_X5_changeHeld I J a1 = some (r, I', J')) : CON l yX5_changeHeld wsX5_changeHeld rmX5_changeHeld D g (wB g I J) [.ref (g.1 24), .int a1] (some (.int r)) (wB g I' J') := by
  refine con_of (cc := cX5_changeHeld) (maxL := 3) (ret := (some .int)) (by decide) rfl (Nat.le_of_ble_eq_true rfl) rfl rfl ?_
  intro k C hkl hkD h1 h2 h3
  subst hkl; subst hkD
  have hr : RTW k wB g cX5_changeHeld .int (r, I', J') := rtw_of h2
  unfold f_X5_changeHeld at hf
  refine V.loc (lv' := [(0, .ref (g.1 24)), (1, .int a1)]) [0, 1] rfl ?_
  refine r_iload_n C dX5_changeHeld_0 rfl 1 rfl ?_
  refine r_iconst (v := (0 : Int32)) C dX5_changeHeld_1 (by decide) ?_
  refine r_aload_n C dX5_changeHeld_2 rfl 0 rfl ?_
  refine r_get C dX5_changeHeld_3 kX5_changeHeld_1 24 bg_24 rfl 0 (by decide) kX5_changeHeld_0 bv_24_0 ?_
  obtain ⟨r2, hq1, hf⟩ := bo1_e hf
  refine r_callSN (o := some (.int r2)) (w' := (wB g I J)) (As := [.int a1, .int (0 : Int32), .int (I 24 0)]) (rest := []) C (c_X7_within hq1) dX5_changeHeld_6 gX5_changeHeld_X7_within_n40 rfl rfl rfl (C.N.2.2.2.2.2.2.1) kX5_changeHeld_2 kX5_changeHeld_3 hd_X7_within ⟨by decide, by decide⟩ rfl rfl (Nat.le_of_ble_eq_true rfl) ?_
  refine r_if_ne (tgt := 14) C dX5_changeHeld_9 (by decide) (fun q9 => ?_) (fun q9 => ?_)
  · have hf := itn hf q9
    refine r_aload_n C dX5_changeHeld_14 rfl 0 rfl ?_
    refine r_get C dX5_changeHeld_15 kX5_changeHeld_1 24 bg_24 rfl 1 (by decide) kX5_changeHeld_4 bv_24_1 ?_
    refine r_nmi (fun v3 ev3 => ?_)
    have hf := bnd_e hf v3 ev3
    refine r_istore_n (lv' := [(0, .ref (g.1 24)), (1, .int a1), (2, .int v3)]) C dX5_changeHeld_18 rfl (by decide) [1, 2, 0] rfl ?_
    refine r_aload_n C dX5_changeHeld_19 rfl 0 rfl ?_
    refine r_iload_n C dX5_changeHeld_20 rfl 1 rfl ?_
    refine r_put (ty := .int) C dX5_changeHeld_21 kX5_changeHeld_1 tyX5 tyX5_ok nmX5 24 bg_24 rfl 1 (by decide) kX5_changeHeld_4 rfl rfl rfl rfl (Nat.le_of_ble_eq_true rfl) bs_24_1 ?_
    refine nmIB (fun I4 eI4 => ?_)
    have hf := bnd_e hf I4 eI4
    refine r_iload_n C dX5_changeHeld_24 rfl 2 rfl ?_
    exact hr _ _ _ _ _ dX5_changeHeld_25 rfl hf
  · have hf := itp hf q9
    refine r_iconst (v := (-1 : Int32)) C dX5_changeHeld_12 (by decide) ?_
    exact hr _ _ _ _ _ dX5_changeHeld_13 rfl hf
abbrev rmX7_tank : Room := { frames := 2, cells := 0, slots := 0, locals := 44 }
theorem hd_X7_tank : yX7_tank.cls = RX7 ∧ yX7_tank.cls ≠ "java/lang/invoke/MethodHandle" ∧ yX7_tank.cls ≠ "java/lang/invoke/VarHandle" ∧ (parseMethodDescriptor yX7_tank.desc).map (fun d => d.parameters.length) = some 2 := by decide +kernel
theorem kX7_tank_0 : Cond.fieldLink RX7 48 (TX7 6).1 (TX7 6).2.1 (TX7 6).2.2.1 ∈ wsX7_tank := by decide +kernel
theorem kX7_tank_1 : ∀ w ∈ u_ws RX7 TX7 13, w ∈ wsX7_tank := by decide +kernel
set_option maxRecDepth 100000 in
set_option maxHeartbeats 4000000 in
theorem c_X7_tank {l : Launch} {D : va_G} {g : GG} {I : MI} {J : MJ} {a1 : Int32} {a2 : Int32} {r : Int32} {I' : MI} {J' : MJ} (hf : f_X7_tank I J a1 a2 = some (r, I', J')) : CON l yX7_tank wsX7_tank rmX7_tank D g (wB g I J) [.ref (g.1 0), .int a1, .int a2] (some (.int r)) (wB g I' J') := by
  refine con_of (cc := cX7_tank) (maxL := 3) (ret := (some .int)) (by decide) rfl (Nat.le_of_ble_eq_true rfl) rfl rfl ?_
  intro k C hkl hkD h1 h2 h3
  subst hkl; subst hkD
  have hr : RTW k wB g cX7_tank .int (r, I', J') := rtw_of h2
  unfold f_X7_tank at hf
  refine V.loc (lv' := [(0, .ref (g.1 0)), (1, .int a1), (2, .int a2)]) [0, 1, 2] rfl ?_
  refine r_iload_n C dX7_tank_0 rfl 1 rfl ?_
  refine r_if_ne (tgt := 13) C dX7_tank_1 (by decide) (fun q1 => ?_) (fun q1 => ?_)
  · have hf := itn hf q1
    refine r_iload_n C dX7_tank_13 rfl 1 rfl ?_
    refine r_iconst (v := (1 : Int32)) C dX7_tank_14 (by decide) ?_
    refine r_icmp_ne (tgt := 29) C dX7_tank_15 (by decide) (fun q15 => ?_) (fun q15 => ?_)
    · have hf := itn hf q15
      refine r_iconst (v := (-1 : Int32)) C dX7_tank_29 (by decide) ?_
      exact hr _ _ _ _ _ dX7_tank_30 rfl hf
    · have hf := itp hf q15
      refine r_aload_n C dX7_tank_18 rfl 0 rfl ?_
      refine r_get C dX7_tank_19 kX7_tank_1 0 bg_0 rfl 6 (by decide) kX7_tank_0 bv_0_6 ?_
      refine r_iload_n C dX7_tank_22 rfl 2 rfl ?_
      obtain ⟨r4, I2, J3, hq1, hf⟩ := bo3_e hf
      refine r_callV (o := some (.int r4)) (w' := (wB g I2 J3)) (As := [.int a2]) (rest := []) C (c_X5_changeHeld hq1) dX7_tank_23 gX7_tank_X5_changeHeld rfl rfl rfl hd_X5_changeHeld ⟨by decide, by decide⟩ 24 bg_24 rfl rfl rfl rfl (Nat.le_of_ble_eq_true rfl) ?_
      refine r_goto (tgt := 30) C dX7_tank_26 (by decide) ?_
      exact hr _ _ _ _ _ dX7_tank_30 rfl hf
  · have hf := itp hf q1
    refine r_aload_n C dX7_tank_4 rfl 0 rfl ?_
    refine r_get C dX7_tank_5 kX7_tank_1 0 bg_0 rfl 6 (by decide) kX7_tank_0 bv_0_6 ?_
    refine r_iload_n C dX7_tank_8 rfl 2 rfl ?_
    obtain ⟨r8, I6, J7, hq5, hf⟩ := bo3_e hf
    refine r_callV (o := some (.int r8)) (w' := (wB g I6 J7)) (As := [.int a2]) (rest := []) C (c_X5_changeRoom hq5) dX7_tank_9 gX7_tank_X5_changeRoom rfl rfl rfl hd_X5_changeRoom ⟨by decide, by decide⟩ 24 bg_24 rfl rfl rfl rfl (Nat.le_of_ble_eq_true rfl) ?_
    exact hr _ _ _ _ _ dX7_tank_12 rfl hf
abbrev rmX3_write : Room := { frames := 0, cells := 0, slots := 0, locals := 0 }
theorem hd_X3_write : yX3_write.cls = RX3 ∧ yX3_write.cls ≠ "java/lang/invoke/MethodHandle" ∧ yX3_write.cls ≠ "java/lang/invoke/VarHandle" ∧ (parseMethodDescriptor yX3_write.desc).map (fun d => d.parameters.length) = some 2 := by decide +kernel
theorem kX3_write_0 : Cond.fieldLink RX3 15 (TX3 1).1 (TX3 1).2.1 (TX3 1).2.2.1 ∈ wsX3_write := by decide +kernel
theorem kX3_write_1 : ∀ w ∈ u_ws RX3 TX3 7, w ∈ wsX3_write := by decide +kernel
theorem kX3_write_2 : Cond.fieldLink RX3 11 (TX3 0).1 (TX3 0).2.1 (TX3 0).2.2.1 ∈ wsX3_write := by decide +kernel
set_option maxRecDepth 100000 in
set_option maxHeartbeats 4000000 in
theorem mB_X3_write_20 {k : CT} {g : GG} (C : CX k cX3_write 5 RX3 wsX3_write rmX3_write g) {ρ : (Int32 × MI × MJ)} (hr : RTW k wB g cX3_write .int ρ) {kk20 : MI → MJ → Int64 → Int32 → Option (Int32 × MI × MJ)} (hk20 : ∀ (I : MI) (J : MJ) (y1 : Int64) (x4 : Int32), kk20 I J y1 x4 = some ρ → V k (wB g I J) 20 [(0, .ref (g.1 20)), (1, .long y1), (4, .int x4)] []) : ∀ (I : MI) (J : MJ) (y1 : Int64) (x4 : Int32), LB_X3_write_20 kk20 I J y1 x4 = some ρ → V k (wB g I J) 20 [(0, .ref (g.1 20)), (1, .long y1), (4, .int x4)] [] := by
  intro I J y1 x4 hf
  unfold LB_X3_write_20 at hf
  refine r_iload C dX3_write_20 2 rfl ?_
  refine r_if_lt (tgt := 59) C dX3_write_22 (by decide) (fun q22 => ?_) (fun q22 => ?_)
  · have hf := itp hf q22
    refine r_aload_n C dX3_write_59 rfl 0 rfl ?_
    refine r_get C dX3_write_60 kX3_write_1 20 bg_20 rfl 1 (by decide) kX3_write_0 bv_20_1 ?_
    exact hr _ _ _ _ _ dX3_write_63 rfl hf
  · have hf := itn hf q22
    refine r_aload_n C dX3_write_25 rfl 0 rfl ?_
    refine r_get C dX3_write_26 kX3_write_1 20 bg_20 rfl 0 (by decide) kX3_write_2 bv_20_0 ?_
    refine r_aload_n C dX3_write_29 rfl 0 rfl ?_
    refine r_get C dX3_write_30 kX3_write_1 20 bg_20 rfl 1 (by decide) kX3_write_0 bv_20_1 ?_
    refine r_lload_n C dX3_write_33 rfl 1 rfl ?_
    refine r_bipush (v := (8 : Int32)) C dX3_write_34 (by decide) ?_
    refine r_iload C dX3_write_36 2 rfl ?_
    refine r_imul C dX3_write_38 ?_
    refine r_lshr C dX3_write_39 ?_
    refine r_l2i C dX3_write_40 ?_
    refine r_i2b C dX3_write_41 ?_
    obtain ⟨h1, hf⟩ := chk_e hf
    refine r_bast (j := (I 20 1).toNatClampNeg) C dX3_write_42 21 bg_21 (inb_e h1) rfl ba_21 ?_
    refine nmIB (fun I2 eI2 => ?_)
    have hf := bnd_e hf I2 eI2
    refine r_aload_n C dX3_write_43 rfl 0 rfl ?_
    refine r_dup C dX3_write_44 rfl ?_
    refine r_get C dX3_write_45 kX3_write_1 20 bg_20 rfl 1 (by decide) kX3_write_0 bv_20_1 ?_
    refine r_iconst (v := (1 : Int32)) C dX3_write_48 (by decide) ?_
    refine r_iadd C dX3_write_49 ?_
    refine r_put (ty := .int) C dX3_write_50 kX3_write_1 tyX3 tyX3_ok nmX3 20 bg_20 rfl 1 (by decide) kX3_write_0 rfl rfl rfl rfl (Nat.le_of_ble_eq_true rfl) bs_20_1 ?_
    refine nmIB (fun I3 eI3 => ?_)
    have hf := bnd_e hf I3 eI3
    obtain ⟨v4, ev4⟩ : ∃ z : Int32, z = x4 + (-1 : Int32) := ⟨_, rfl⟩
    have hf := bnd_e hf v4 ev4
    refine r_iinc (v := v4) (lv' := [(0, .ref (g.1 20)), (1, .long y1), (4, .int v4)]) C dX3_write_53 2 rfl (by rw [ev4]; rfl) (by decide) [1, 2, 0] rfl ?_
    refine r_goto (tgt := 20) C dX3_write_56 (by decide) ?_
    exact hk20 _ _ _ _ hf
theorem mL_X3_write_20 {k : CT} {g : GG} (C : CX k cX3_write 5 RX3 wsX3_write rmX3_write g) {ρ : (Int32 × MI × MJ)} (hr : RTW k wB g cX3_write .int ρ) : ∀ (n : Nat) (I : MI) (J : MJ) (y1 : Int64) (x4 : Int32), LP_X3_write_20 n I J y1 x4 = some ρ → V k (wB g I J) 20 [(0, .ref (g.1 20)), (1, .long y1), (4, .int x4)] [] := by
  intro n
  induction n with
  | zero => intro I J y1 x4 hf; cases hf
  | succ n ih => intro I J y1 x4 hf; exact mB_X3_write_20 C hr (fun I J y1 x4 h => ih I J y1 x4 h) I J y1 x4 hf
set_option maxRecDepth 100000 in
set_option maxHeartbeats 4000000 in
theorem c_X3_write {l : Launch} {D : va_G} {g : GG} {I : MI} {J : MJ} {a1 : Int64} {a3 : Int32} {r : Int32} {I' : MI} {J' : MJ} (hf : f_X3_write I J a1 a3 = some (r, I', J')) : CON l yX3_write wsX3_write rmX3_write D g (wB g I J) [.ref (g.1 20), .long a1, .int a3] (some (.int r)) (wB g I' J') := by
  refine con_of (cc := cX3_write) (maxL := 5) (ret := (some .int)) (by decide) rfl (Nat.le_of_ble_eq_true rfl) rfl rfl ?_
  intro k C hkl hkD h1 h2 h3
  subst hkl; subst hkD
  have hr : RTW k wB g cX3_write .int (r, I', J') := rtw_of h2
  unfold f_X3_write at hf
  refine V.loc (lv' := [(0, .ref (g.1 20)), (1, .long a1), (3, .int a3)]) [0, 1, 2] rfl ?_
  refine r_aload_n C dX3_write_0 rfl 0 rfl ?_
  refine r_get C dX3_write_1 kX3_write_1 20 bg_20 rfl 1 (by decide) kX3_write_0 bv_20_1 ?_
  refine r_iload_n C dX3_write_4 rfl 2 rfl ?_
  refine r_iadd C dX3_write_5 ?_
  refine r_sipush (v := (150 : Int32)) C dX3_write_6 (by decide) ?_
  refine r_icmp_le (tgt := 15) C dX3_write_9 (by decide) (fun q9 => ?_) (fun q9 => ?_)
  · have hf := itp hf q9
    refine r_iload_n C dX3_write_15 rfl 2 rfl ?_
    refine r_iconst (v := (1 : Int32)) C dX3_write_16 (by decide) ?_
    refine r_isub C dX3_write_17 ?_
    refine r_nmi (fun v1 ev1 => ?_)
    have hf := bnd_e hf v1 ev1
    refine r_istore (lv' := [(0, .ref (g.1 20)), (1, .long a1), (3, .int a3), (4, .int v1)]) C dX3_write_18 (by decide) [1, 2, 3, 0] rfl ?_
    refine V.loc [0, 1, 3] rfl ?_
    exact mL_X3_write_20 C hr FU _ _ _ _ hf
  · have hf := itn hf q9
    refine r_bipush (v := (-3 : Int32)) C dX3_write_12 (by decide) ?_
    exact hr _ _ _ _ _ dX3_write_14 rfl hf
abbrev rmX7_type : Room := { frames := 1, cells := 0, slots := 0, locals := 24 }
theorem hd_X7_type : yX7_type.cls = RX7 ∧ yX7_type.cls ≠ "java/lang/invoke/MethodHandle" ∧ yX7_type.cls ≠ "java/lang/invoke/VarHandle" ∧ (parseMethodDescriptor yX7_type.desc).map (fun d => d.parameters.length) = some 2 := by decide +kernel
theorem kX7_type_0 : Cond.fieldLink RX7 41 (TX7 5).1 (TX7 5).2.1 (TX7 5).2.2.1 ∈ wsX7_type := by decide +kernel
theorem kX7_type_1 : ∀ w ∈ u_ws RX7 TX7 13, w ∈ wsX7_type := by decide +kernel
set_option maxRecDepth 100000 in
set_option maxHeartbeats 4000000 in
theorem c_X7_type {l : Launch} {D : va_G} {g : GG} {I : MI} {J : MJ} {a1 : Int64} {a3 : Int32} {r : Int32} {I' : MI} {J' : MJ} (hf : f_X7_type I J a1 a3 = some (r, I', J')) : CON l yX7_type wsX7_type rmX7_type D g (wB g I J) [.ref (g.1 0), .long a1, .int a3] (some (.int r)) (wB g I' J') := by
  refine con_of (cc := cX7_type) (maxL := 4) (ret := (some .int)) (by decide) rfl (Nat.le_of_ble_eq_true rfl) rfl rfl ?_
  intro k C hkl hkD h1 h2 h3
  subst hkl; subst hkD
  have hr : RTW k wB g cX7_type .int (r, I', J') := rtw_of h2
  unfold f_X7_type at hf
  refine V.loc (lv' := [(0, .ref (g.1 0)), (1, .long a1), (3, .int a3)]) [0, 1, 2] rfl ?_
  refine r_iload_n C dX7_type_0 rfl 2 rfl ?_
  refine r_iconst (v := (1 : Int32)) C dX7_type_1 (by decide) ?_
  refine r_bipush (v := (8 : Int32)) C dX7_type_2 (by decide) ?_
  obtain ⟨r2, hq1, hf⟩ := bo1_e hf
  refine r_callS (o := some (.int r2)) (w' := (wB g I J)) (As := [.int a3, .int (1 : Int32), .int (8 : Int32)]) (rest := []) C (c_X7_within hq1) dX7_type_4 gX7_type_X7_within rfl rfl rfl hd_X7_within ⟨by decide, by decide⟩ rfl rfl (Nat.le_of_ble_eq_true rfl) ?_
  refine r_if_ne (tgt := 12) C dX7_type_7 (by decide) (fun q7 => ?_) (fun q7 => ?_)
  · have hf := itn hf q7
    refine r_aload_n C dX7_type_12 rfl 0 rfl ?_
    refine r_get C dX7_type_13 kX7_type_1 0 bg_0 rfl 5 (by decide) kX7_type_0 bv_0_5 ?_
    refine r_lload_n C dX7_type_16 rfl 1 rfl ?_
    refine r_iload_n C dX7_type_17 rfl 2 rfl ?_
    obtain ⟨r6, I4, J5, hq3, hf⟩ := bo3_e hf
    refine r_callV (o := some (.int r6)) (w' := (wB g I4 J5)) (As := [.long a1, .int a3]) (rest := []) C (c_X3_write hq3) dX7_type_18 gX7_type_X3_write rfl rfl rfl hd_X3_write ⟨by decide, by decide⟩ 20 bg_20 rfl rfl rfl rfl (Nat.le_of_ble_eq_true rfl) ?_
    exact hr _ _ _ _ _ dX7_type_21 rfl hf
  · have hf := itp hf q7
    refine r_iconst (v := (-1 : Int32)) C dX7_type_10 (by decide) ?_
    exact hr _ _ _ _ _ dX7_type_11 rfl hf
abbrev rmX7_clear : Room := { frames := 0, cells := 0, slots := 0, locals := 0 }
theorem hd_X7_clear : yX7_clear.cls = RX7 ∧ yX7_clear.cls ≠ "java/lang/invoke/MethodHandle" ∧ yX7_clear.cls ≠ "java/lang/invoke/VarHandle" ∧ (parseMethodDescriptor yX7_clear.desc).map (fun d => d.parameters.length) = some 0 := by decide +kernel
theorem kX7_clear_0 : Cond.fieldLink RX7 41 (TX7 5).1 (TX7 5).2.1 (TX7 5).2.2.1 ∈ wsX7_clear := by decide +kernel
theorem kX7_clear_1 : ∀ w ∈ u_ws RX7 TX7 13, w ∈ wsX7_clear := by decide +kernel
theorem kX7_clear_2 : Cond.fieldLink RX7 202 (TX3 1).1 (TX3 1).2.1 (TX3 1).2.2.1 ∈ wsX7_clear := by decide +kernel
theorem kX7_clear_3 : ∀ w ∈ u_ws RX3 TX3 7, w ∈ wsX7_clear := by decide +kernel
set_option maxRecDepth 100000 in
set_option maxHeartbeats 4000000 in
theorem c_X7_clear {l : Launch} {D : va_G} {g : GG} {I : MI} {J : MJ} {r : Int32} {I' : MI} {J' : MJ} (hf : f_X7_clear I J = some (r, I', J')) : CON l yX7_clear wsX7_clear rmX7_clear D g (wB g I J) [.ref (g.1 0)] (some (.int r)) (wB g I' J') := by
  refine con_of (cc := cX7_clear) (maxL := 2) (ret := (some .int)) (by decide) rfl (Nat.le_of_ble_eq_true rfl) rfl rfl ?_
  intro k C hkl hkD h1 h2 h3
  subst hkl; subst hkD
  have hr : RTW k wB g cX7_clear .int (r, I', J') := rtw_of h2
  unfold f_X7_clear at hf
  refine V.loc (lv' := [(0, .ref (g.1 0))]) [0] rfl ?_
  refine r_aload_n C dX7_clear_0 rfl 0 rfl ?_
  refine r_get C dX7_clear_1 kX7_clear_1 0 bg_0 rfl 5 (by decide) kX7_clear_0 bv_0_5 ?_
  refine r_get C dX7_clear_4 kX7_clear_3 20 bg_20 rfl 1 (by decide) kX7_clear_2 bv_20_1 ?_
  refine r_nmi (fun v1 ev1 => ?_)
  have hf := bnd_e hf v1 ev1
  refine r_istore_n (lv' := [(0, .ref (g.1 0)), (1, .int v1)]) C dX7_clear_7 rfl (by decide) [1, 0] rfl ?_
  refine r_aload_n C dX7_clear_8 rfl 0 rfl ?_
  refine r_get C dX7_clear_9 kX7_clear_1 0 bg_0 rfl 5 (by decide) kX7_clear_0 bv_0_5 ?_
  refine r_iconst (v := (0 : Int32)) C dX7_clear_12 (by decide) ?_
  refine r_put (ty := .int) C dX7_clear_13 kX7_clear_3 tyX3 tyX3_ok nmX3 20 bg_20 rfl 1 (by decide) kX7_clear_2 rfl rfl rfl rfl (Nat.le_of_ble_eq_true rfl) bs_20_1 ?_
  refine nmIB (fun I2 eI2 => ?_)
  have hf := bnd_e hf I2 eI2
  refine r_iload_n C dX7_clear_16 rfl 1 rfl ?_
  exact hr _ _ _ _ _ dX7_clear_17 rfl hf
abbrev rmX3_readSign : Room := { frames := 0, cells := 0, slots := 0, locals := 0 }
theorem hd_X3_readSign : yX3_readSign.cls = RX3 ∧ yX3_readSign.cls ≠ "java/lang/invoke/MethodHandle" ∧ yX3_readSign.cls ≠ "java/lang/invoke/VarHandle" ∧ (parseMethodDescriptor yX3_readSign.desc).map (fun d => d.parameters.length) = some 1 := by decide +kernel
theorem kX3_readSign_0 : Cond.fieldLink RX3 32 (TX3 6).1 (TX3 6).2.1 (TX3 6).2.2.1 ∈ wsX3_readSign := by decide +kernel
theorem kX3_readSign_1 : ∀ w ∈ u_ws RX3 TX3 7, w ∈ wsX3_readSign := by decide +kernel
theorem kX3_readSign_2 : Cond.fieldLink RX3 29 (TX3 5).1 (TX3 5).2.1 (TX3 5).2.2.1 ∈ wsX3_readSign := by decide +kernel
theorem kX3_readSign_3 : Cond.fieldLink RX3 15 (TX3 1).1 (TX3 1).2.1 (TX3 1).2.2.1 ∈ wsX3_readSign := by decide +kernel
theorem kX3_readSign_4 : Cond.fieldLink RX3 11 (TX3 0).1 (TX3 0).2.1 (TX3 0).2.2.1 ∈ wsX3_readSign := by decide +kernel
set_option maxRecDepth 100000 in
set_option maxHeartbeats 4000000 in
theorem c_X3_readSign {l : Launch} {D : va_G} {g : GG} {I : MI} {J : MJ} {a1 : Int32} {I' : MI} {J' : MJ} (hf : f_X3_readSign I J a1 = some (I', J')) : CON l yX3_readSign wsX3_readSign rmX3_readSign D g (wB g I J) [.ref (g.1 20), .int a1] none (wB g I' J') := by
  refine con_of (cc := cX3_readSign) (maxL := 2) (ret := none) (by decide) rfl (Nat.le_of_ble_eq_true rfl) rfl rfl ?_
  intro k C hkl hkD h1 h2 h3
  subst hkl; subst hkD
  have hr : RTV k wB g cX3_readSign (I', J') := rtv_of h1
  unfold f_X3_readSign at hf
  refine V.loc (lv' := [(0, .ref (g.1 20)), (1, .int a1)]) [0, 1] rfl ?_
  refine r_aload_n C dX3_readSign_0 rfl 0 rfl ?_
  refine r_get C dX3_readSign_1 kX3_readSign_1 20 bg_20 rfl 6 (by decide) kX3_readSign_0 bv_20_6 ?_
  refine r_if_eq (tgt := 8) C dX3_readSign_4 (by decide) (fun q4 => ?_) (fun q4 => ?_)
  · have hf := itp hf q4
    refine r_aload_n C dX3_readSign_8 rfl 0 rfl ?_
    refine r_get C dX3_readSign_9 kX3_readSign_1 20 bg_20 rfl 5 (by decide) kX3_readSign_2 bv_20_5 ?_
    refine r_aload_n C dX3_readSign_12 rfl 0 rfl ?_
    refine r_get C dX3_readSign_13 kX3_readSign_1 20 bg_20 rfl 1 (by decide) kX3_readSign_3 bv_20_1 ?_
    refine r_icmp_ge (tgt := 45) C dX3_readSign_16 (by decide) (fun q16 => ?_) (fun q16 => ?_)
    · have hf := itp hf q16
      refine r_aload_n C dX3_readSign_45 rfl 0 rfl ?_
      refine r_iconst (v := (1 : Int32)) C dX3_readSign_46 (by decide) ?_
      refine r_put (ty := .boolean) C dX3_readSign_47 kX3_readSign_1 tyX3 tyX3_ok nmX3 20 bg_20 rfl 6 (by decide) kX3_readSign_0 rfl rfl nb1 rfl (Nat.le_of_ble_eq_true rfl) bs_20_6 ?_
      refine nmIB (fun I1 eI1 => ?_)
      have hf := bnd_e hf I1 eI1
      exact hr _ _ _ _ dX3_readSign_50 hf
    · have hf := itn hf q16
      refine r_aload_n C dX3_readSign_19 rfl 0 rfl ?_
      refine r_get C dX3_readSign_20 kX3_readSign_1 20 bg_20 rfl 0 (by decide) kX3_readSign_4 bv_20_0 ?_
      refine r_aload_n C dX3_readSign_23 rfl 0 rfl ?_
      refine r_get C dX3_readSign_24 kX3_readSign_1 20 bg_20 rfl 5 (by decide) kX3_readSign_2 bv_20_5 ?_
      obtain ⟨h2, hf⟩ := chk_e hf
      refine r_bald (j := (I 20 5).toNatClampNeg) C dX3_readSign_27 21 bg_21 (inb_e h2) rfl ?_
      refine r_iload_n C dX3_readSign_28 rfl 1 rfl ?_
      refine r_icmp_ne (tgt := 45) C dX3_readSign_29 (by decide) (fun q29 => ?_) (fun q29 => ?_)
      · have hf := itn hf q29
        refine r_aload_n C dX3_readSign_45 rfl 0 rfl ?_
        refine r_iconst (v := (1 : Int32)) C dX3_readSign_46 (by decide) ?_
        refine r_put (ty := .boolean) C dX3_readSign_47 kX3_readSign_1 tyX3 tyX3_ok nmX3 20 bg_20 rfl 6 (by decide) kX3_readSign_0 rfl rfl nb1 rfl (Nat.le_of_ble_eq_true rfl) bs_20_6 ?_
        refine nmIB (fun I3 eI3 => ?_)
        have hf := bnd_e hf I3 eI3
        exact hr _ _ _ _ dX3_readSign_50 hf
      · have hf := itp hf q29
        refine r_aload_n C dX3_readSign_32 rfl 0 rfl ?_
        refine r_dup C dX3_readSign_33 rfl ?_
        refine r_get C dX3_readSign_34 kX3_readSign_1 20 bg_20 rfl 5 (by decide) kX3_readSign_2 bv_20_5 ?_
        refine r_iconst (v := (1 : Int32)) C dX3_readSign_37 (by decide) ?_
        refine r_iadd C dX3_readSign_38 ?_
        refine r_put (ty := .int) C dX3_readSign_39 kX3_readSign_1 tyX3 tyX3_ok nmX3 20 bg_20 rfl 5 (by decide) kX3_readSign_2 rfl rfl rfl rfl (Nat.le_of_ble_eq_true rfl) bs_20_5 ?_
        refine nmIB (fun I4 eI4 => ?_)
        have hf := bnd_e hf I4 eI4
        refine r_goto (tgt := 50) C dX3_readSign_42 (by decide) ?_
        exact hr _ _ _ _ dX3_readSign_50 hf
  · have hf := itn hf q4
    exact hr _ _ _ _ dX3_readSign_7 hf
abbrev rmX3_digitHere : Room := { frames := 0, cells := 0, slots := 0, locals := 0 }
theorem hd_X3_digitHere : yX3_digitHere.cls = RX3 ∧ yX3_digitHere.cls ≠ "java/lang/invoke/MethodHandle" ∧ yX3_digitHere.cls ≠ "java/lang/invoke/VarHandle" ∧ (parseMethodDescriptor yX3_digitHere.desc).map (fun d => d.parameters.length) = some 0 := by decide +kernel
theorem kX3_digitHere_0 : Cond.fieldLink RX3 29 (TX3 5).1 (TX3 5).2.1 (TX3 5).2.2.1 ∈ wsX3_digitHere := by decide +kernel
theorem kX3_digitHere_1 : ∀ w ∈ u_ws RX3 TX3 7, w ∈ wsX3_digitHere := by decide +kernel
theorem kX3_digitHere_2 : Cond.fieldLink RX3 15 (TX3 1).1 (TX3 1).2.1 (TX3 1).2.2.1 ∈ wsX3_digitHere := by decide +kernel
theorem kX3_digitHere_3 : Cond.fieldLink RX3 11 (TX3 0).1 (TX3 0).2.1 (TX3 0).2.2.1 ∈ wsX3_digitHere := by decide +kernel
set_option maxRecDepth 100000 in
set_option maxHeartbeats 4000000 in
theorem c_X3_digitHere {l : Launch} {D : va_G} {g : GG} {I : MI} {J : MJ} {r : Int32} (hf : f_X3_digitHere I J = some r) : CON l yX3_digitHere wsX3_digitHere rmX3_digitHere D g (wB g I J) [.ref (g.1 20)] (some (.int r)) (wB g I J) := by
  refine con_of (cc := cX3_digitHere) (maxL := 1) (ret := (some .int)) (by decide) rfl (Nat.le_of_ble_eq_true rfl) rfl rfl ?_
  intro k C hkl hkD h1 h2 h3
  subst hkl; subst hkD
  have hr : RRW k (wB g I J) cX3_digitHere .int r := rrw_of h2
  unfold f_X3_digitHere at hf
  refine V.loc (lv' := [(0, .ref (g.1 20))]) [0] rfl ?_
  refine r_aload_n C dX3_digitHere_0 rfl 0 rfl ?_
  refine r_get C dX3_digitHere_1 kX3_digitHere_1 20 bg_20 rfl 5 (by decide) kX3_digitHere_0 bv_20_5 ?_
  refine r_aload_n C dX3_digitHere_4 rfl 0 rfl ?_
  refine r_get C dX3_digitHere_5 kX3_digitHere_1 20 bg_20 rfl 1 (by decide) kX3_digitHere_2 bv_20_1 ?_
  refine r_icmp_ge (tgt := 39) C dX3_digitHere_8 (by decide) (fun q8 => ?_) (fun q8 => ?_)
  · have hf := itp hf q8
    refine r_bipush (v := (-9 : Int32)) C dX3_digitHere_39 (by decide) ?_
    exact hr _ _ _ dX3_digitHere_41 rfl hf
  · have hf := itn hf q8
    refine r_aload_n C dX3_digitHere_11 rfl 0 rfl ?_
    refine r_get C dX3_digitHere_12 kX3_digitHere_1 20 bg_20 rfl 0 (by decide) kX3_digitHere_3 bv_20_0 ?_
    refine r_aload_n C dX3_digitHere_15 rfl 0 rfl ?_
    refine r_get C dX3_digitHere_16 kX3_digitHere_1 20 bg_20 rfl 5 (by decide) kX3_digitHere_0 bv_20_5 ?_
    obtain ⟨h1, hf⟩ := chk_e hf
    refine r_bald (j := (I 20 5).toNatClampNeg) C dX3_digitHere_19 21 bg_21 (inb_e h1) rfl ?_
    refine r_bipush (v := (48 : Int32)) C dX3_digitHere_20 (by decide) ?_
    refine r_icmp_lt (tgt := 39) C dX3_digitHere_22 (by decide) (fun q22 => ?_) (fun q22 => ?_)
    · have hf := itp hf q22
      refine r_bipush (v := (-9 : Int32)) C dX3_digitHere_39 (by decide) ?_
      exact hr _ _ _ dX3_digitHere_41 rfl hf
    · have hf := itn hf q22
      refine r_aload_n C dX3_digitHere_25 rfl 0 rfl ?_
      refine r_get C dX3_digitHere_26 kX3_digitHere_1 20 bg_20 rfl 0 (by decide) kX3_digitHere_3 bv_20_0 ?_
      refine r_aload_n C dX3_digitHere_29 rfl 0 rfl ?_
      refine r_get C dX3_digitHere_30 kX3_digitHere_1 20 bg_20 rfl 5 (by decide) kX3_digitHere_0 bv_20_5 ?_
      obtain ⟨h2, hf⟩ := chk_e hf
      refine r_bald (j := (I 20 5).toNatClampNeg) C dX3_digitHere_33 21 bg_21 (inb_e h2) rfl ?_
      refine r_bipush (v := (57 : Int32)) C dX3_digitHere_34 (by decide) ?_
      refine r_icmp_le (tgt := 42) C dX3_digitHere_36 (by decide) (fun q36 => ?_) (fun q36 => ?_)
      · have hf := itp hf q36
        refine r_aload_n C dX3_digitHere_42 rfl 0 rfl ?_
        refine r_get C dX3_digitHere_43 kX3_digitHere_1 20 bg_20 rfl 0 (by decide) kX3_digitHere_3 bv_20_0 ?_
        refine r_aload_n C dX3_digitHere_46 rfl 0 rfl ?_
        refine r_get C dX3_digitHere_47 kX3_digitHere_1 20 bg_20 rfl 5 (by decide) kX3_digitHere_0 bv_20_5 ?_
        obtain ⟨h3, hf⟩ := chk_e hf
        refine r_bald (j := (I 20 5).toNatClampNeg) C dX3_digitHere_50 21 bg_21 (inb_e h3) rfl ?_
        refine r_bipush (v := (48 : Int32)) C dX3_digitHere_51 (by decide) ?_
        refine r_isub C dX3_digitHere_53 ?_
        exact hr _ _ _ dX3_digitHere_54 rfl hf
      · have hf := itn hf q36
        refine r_bipush (v := (-9 : Int32)) C dX3_digitHere_39 (by decide) ?_
        exact hr _ _ _ dX3_digitHere_41 rfl hf
abbrev rmX3_readNumber : Room := { frames := 1, cells := 0, slots := 0, locals := 20 }
theorem hd_X3_readNumber : yX3_readNumber.cls = RX3 ∧ yX3_readNumber.cls ≠ "java/lang/invoke/MethodHandle" ∧ yX3_readNumber.cls ≠ "java/lang/invoke/VarHandle" ∧ (parseMethodDescriptor yX3_readNumber.desc).map (fun d => d.parameters.length) = some 2 := by decide +kernel
theorem kX3_readNumber_0 : Cond.fieldLink RX3 32 (TX3 6).1 (TX3 6).2.1 (TX3 6).2.2.1 ∈ wsX3_readNumber := by decide +kernel
theorem kX3_readNumber_1 : ∀ w ∈ u_ws RX3 TX3 7, w ∈ wsX3_readNumber := by decide +kernel
theorem kX3_readNumber_2 : Cond.fieldLink RX3 29 (TX3 5).1 (TX3 5).2.1 (TX3 5).2.2.1 ∈ wsX3_readNumber := by decide +kernel
theorem kX3_readNumber_3 : Cond.fieldLink RX3 15 (TX3 1).1 (TX3 1).2.1 (TX3 1).2.2.1 ∈ wsX3_readNumber := by decide +kernel
set_option maxRecDepth 100000 in
set_option maxHeartbeats 4000000 in
theorem mB_X3_readNumber_48 {k : CT} {g : GG} (C : CX k cX3_readNumber 5 RX3 wsX3_readNumber rmX3_readNumber g) {ρ : (Int32 × MI × MJ)} (hr : RTW k wB g cX3_readNumber .int ρ) {kk48 : MI → MJ → Int32 → Int32 → Option (Int32 × MI × MJ)} (hk48 : ∀ (I : MI) (J : MJ) (x2 : Int32) (x3 : Int32), kk48 I J x2 x3 = some ρ → V k (wB g I J) 48 [(0, .ref (g.1 20)), (2, .int x2), (3, .int x3)] []) : ∀ (I : MI) (J : MJ) (x2 : Int32) (x3 : Int32), LB_X3_readNumber_48 kk48 I J x2 x3 = some ρ → V k (wB g I J) 48 [(0, .ref (g.1 20)), (2, .int x2), (3, .int x3)] [] := by
  intro I J x2 x3 hf
  unfold LB_X3_readNumber_48 at hf
  refine r_aload_n C dX3_readNumber_48 rfl 0 rfl ?_
  refine r_get C dX3_readNumber_49 kX3_readNumber_1 20 bg_20 rfl 5 (by decide) kX3_readNumber_2 bv_20_5 ?_
  refine r_aload_n C dX3_readNumber_52 rfl 0 rfl ?_
  refine r_get C dX3_readNumber_53 kX3_readNumber_1 20 bg_20 rfl 1 (by decide) kX3_readNumber_3 bv_20_1 ?_
  refine r_icmp_ge (tgt := 109) C dX3_readNumber_56 (by decide) (fun q56 => ?_) (fun q56 => ?_)
  · have hf := itp hf q56
    refine r_iload_n C dX3_readNumber_109 rfl 2 rfl ?_
    exact hr _ _ _ _ _ dX3_readNumber_110 rfl hf
  · have hf := itn hf q56
    refine r_iload_n C dX3_readNumber_59 rfl 2 rfl ?_
    refine r_if_le (tgt := 109) C dX3_readNumber_60 (by decide) (fun q60 => ?_) (fun q60 => ?_)
    · have hf := itp hf q60
      refine r_iload_n C dX3_readNumber_109 rfl 2 rfl ?_
      exact hr _ _ _ _ _ dX3_readNumber_110 rfl hf
    · have hf := itn hf q60
      refine r_aload_n C dX3_readNumber_63 rfl 0 rfl ?_
      obtain ⟨r2, hq1, hf⟩ := bo1_e hf
      refine r_callV (o := some (.int r2)) (w' := (wB g I J)) (As := []) (rest := []) C (c_X3_digitHere hq1) dX3_readNumber_64 gX3_readNumber_X3_digitHere rfl rfl rfl hd_X3_digitHere ⟨by decide, by decide⟩ 20 bg_20 rfl rfl rfl rfl (Nat.le_of_ble_eq_true rfl) ?_
      refine r_istore (lv' := [(0, .ref (g.1 20)), (2, .int x2), (3, .int x3), (4, .int r2)]) C dX3_readNumber_67 (by decide) [1, 2, 3, 0] rfl ?_
      refine r_iload C dX3_readNumber_69 3 rfl ?_
      refine r_if_ge (tgt := 76) C dX3_readNumber_71 (by decide) (fun q71 => ?_) (fun q71 => ?_)
      · have hf := itp hf q71
        refine r_bipush (v := (10 : Int32)) C dX3_readNumber_76 (by decide) ?_
        refine r_iload_n C dX3_readNumber_78 rfl 2 rfl ?_
        refine r_imul C dX3_readNumber_79 ?_
        refine r_iload C dX3_readNumber_80 3 rfl ?_
        refine r_iadd C dX3_readNumber_82 ?_
        refine r_nmi (fun v3 ev3 => ?_)
        have hf := bnd_e hf v3 ev3
        refine r_istore_n (lv' := [(0, .ref (g.1 20)), (2, .int x2), (3, .int v3), (4, .int r2)]) C dX3_readNumber_83 rfl (by decide) [1, 2, 0, 3] rfl ?_
        refine r_iload_n C dX3_readNumber_84 rfl 2 rfl ?_
        refine r_iload_n C dX3_readNumber_85 rfl 1 rfl ?_
        refine r_icmp_le (tgt := 96) C dX3_readNumber_86 (by decide) (fun q86 => ?_) (fun q86 => ?_)
        · have hf := itp hf q86
          refine r_aload_n C dX3_readNumber_96 rfl 0 rfl ?_
          refine r_dup C dX3_readNumber_97 rfl ?_
          refine r_get C dX3_readNumber_98 kX3_readNumber_1 20 bg_20 rfl 5 (by decide) kX3_readNumber_2 bv_20_5 ?_
          refine r_iconst (v := (1 : Int32)) C dX3_readNumber_101 (by decide) ?_
          refine r_iadd C dX3_readNumber_102 ?_
          refine r_put (ty := .int) C dX3_readNumber_103 kX3_readNumber_1 tyX3 tyX3_ok nmX3 20 bg_20 rfl 5 (by decide) kX3_readNumber_2 rfl rfl rfl rfl (Nat.le_of_ble_eq_true rfl) bs_20_5 ?_
          refine nmIB (fun I4 eI4 => ?_)
          have hf := bnd_e hf I4 eI4
          refine r_goto (tgt := 48) C dX3_readNumber_106 (by decide) ?_
          refine V.loc [0, 1, 2] rfl ?_
          exact hk48 _ _ _ _ hf
        · have hf := itn hf q86
          refine r_aload_n C dX3_readNumber_89 rfl 0 rfl ?_
          refine r_iconst (v := (1 : Int32)) C dX3_readNumber_90 (by decide) ?_
          refine r_put (ty := .boolean) C dX3_readNumber_91 kX3_readNumber_1 tyX3 tyX3_ok nmX3 20 bg_20 rfl 6 (by decide) kX3_readNumber_0 rfl rfl nb1 rfl (Nat.le_of_ble_eq_true rfl) bs_20_6 ?_
          refine nmIB (fun I5 eI5 => ?_)
          have hf := bnd_e hf I5 eI5
          refine r_iconst (v := (0 : Int32)) C dX3_readNumber_94 (by decide) ?_
          exact hr _ _ _ _ _ dX3_readNumber_95 rfl hf
      · have hf := itn hf q71
        refine r_iload_n C dX3_readNumber_74 rfl 2 rfl ?_
        exact hr _ _ _ _ _ dX3_readNumber_75 rfl hf
theorem mL_X3_readNumber_48 {k : CT} {g : GG} (C : CX k cX3_readNumber 5 RX3 wsX3_readNumber rmX3_readNumber g) {ρ : (Int32 × MI × MJ)} (hr : RTW k wB g cX3_readNumber .int ρ) : ∀ (n : Nat) (I : MI) (J : MJ) (x2 : Int32) (x3 : Int32), LP_X3_readNumber_48 n I J x2 x3 = some ρ → V k (wB g I J) 48 [(0, .ref (g.1 20)), (2, .int x2), (3, .int x3)] [] := by
  intro n
  induction n with
  | zero => intro I J x2 x3 hf; cases hf
  | succ n ih => intro I J x2 x3 hf; exact mB_X3_readNumber_48 C hr (fun I J x2 x3 h => ih I J x2 x3 h) I J x2 x3 hf
set_option maxRecDepth 100000 in
set_option maxHeartbeats 4000000 in
theorem c_X3_readNumber {l : Launch} {D : va_G} {g : GG} {I : MI} {J : MJ} {a1 : Int32} {a2 : Int32} {r : Int32} {I' : MI} {J' : MJ} (hf : f_X3_readNumber I J a1 a2 = some (r, I', J')) : CON l yX3_readNumber wsX3_readNumber rmX3_readNumber D g (wB g I J) [.ref (g.1 20), .int a1, .int a2] (some (.int r)) (wB g I' J') := by
  refine con_of (cc := cX3_readNumber) (maxL := 5) (ret := (some .int)) (by decide) rfl (Nat.le_of_ble_eq_true rfl) rfl rfl ?_
  intro k C hkl hkD h1 h2 h3
  subst hkl; subst hkD
  have hr : RTW k wB g cX3_readNumber .int (r, I', J') := rtw_of h2
  unfold f_X3_readNumber at hf
  refine V.loc (lv' := [(0, .ref (g.1 20)), (1, .int a1), (2, .int a2)]) [0, 1, 2] rfl ?_
  refine r_aload_n C dX3_readNumber_0 rfl 0 rfl ?_
  refine r_get C dX3_readNumber_1 kX3_readNumber_1 20 bg_20 rfl 6 (by decide) kX3_readNumber_0 bv_20_6 ?_
  refine r_if_eq (tgt := 9) C dX3_readNumber_4 (by decide) (fun q4 => ?_) (fun q4 => ?_)
  · have hf := itp hf q4
    refine r_aload_n C dX3_readNumber_9 rfl 0 rfl ?_
    obtain ⟨r2, hq1, hf⟩ := bo1_e hf
    refine r_callV (o := some (.int r2)) (w' := (wB g I J)) (As := []) (rest := []) C (c_X3_digitHere hq1) dX3_readNumber_10 gX3_readNumber_X3_digitHere rfl rfl rfl hd_X3_digitHere ⟨by decide, by decide⟩ 20 bg_20 rfl rfl rfl rfl (Nat.le_of_ble_eq_true rfl) ?_
    refine r_istore_n (lv' := [(0, .ref (g.1 20)), (1, .int a1), (2, .int a2), (3, .int r2)]) C dX3_readNumber_13 rfl (by decide) [1, 2, 3, 0] rfl ?_
    refine r_iload_n C dX3_readNumber_14 rfl 3 rfl ?_
    refine r_if_lt (tgt := 31) C dX3_readNumber_15 (by decide) (fun q15 => ?_) (fun q15 => ?_)
    · have hf := itp hf q15
      refine r_aload_n C dX3_readNumber_31 rfl 0 rfl ?_
      refine r_iconst (v := (1 : Int32)) C dX3_readNumber_32 (by decide) ?_
      refine r_put (ty := .boolean) C dX3_readNumber_33 kX3_readNumber_1 tyX3 tyX3_ok nmX3 20 bg_20 rfl 6 (by decide) kX3_readNumber_0 rfl rfl nb1 rfl (Nat.le_of_ble_eq_true rfl) bs_20_6 ?_
      refine nmIB (fun I3 eI3 => ?_)
      have hf := bnd_e hf I3 eI3
      refine r_iconst (v := (0 : Int32)) C dX3_readNumber_36 (by decide) ?_
      exact hr _ _ _ _ _ dX3_readNumber_37 rfl hf
    · have hf := itn hf q15
      refine r_iload_n C dX3_readNumber_18 rfl 3 rfl ?_
      refine r_iload_n C dX3_readNumber_19 rfl 2 rfl ?_
      refine r_icmp_gt (tgt := 31) C dX3_readNumber_20 (by decide) (fun q20 => ?_) (fun q20 => ?_)
      · have hf := itp hf q20
        refine r_aload_n C dX3_readNumber_31 rfl 0 rfl ?_
        refine r_iconst (v := (1 : Int32)) C dX3_readNumber_32 (by decide) ?_
        refine r_put (ty := .boolean) C dX3_readNumber_33 kX3_readNumber_1 tyX3 tyX3_ok nmX3 20 bg_20 rfl 6 (by decide) kX3_readNumber_0 rfl rfl nb1 rfl (Nat.le_of_ble_eq_true rfl) bs_20_6 ?_
        refine nmIB (fun I4 eI4 => ?_)
        have hf := bnd_e hf I4 eI4
        refine r_iconst (v := (0 : Int32)) C dX3_readNumber_36 (by decide) ?_
        exact hr _ _ _ _ _ dX3_readNumber_37 rfl hf
      · have hf := itn hf q20
        refine r_iload_n C dX3_readNumber_23 rfl 3 rfl ?_
        refine r_if_ne (tgt := 38) C dX3_readNumber_24 (by decide) (fun q24 => ?_) (fun q24 => ?_)
        · have hf := itn hf q24
          refine r_aload_n C dX3_readNumber_38 rfl 0 rfl ?_
          refine r_dup C dX3_readNumber_39 rfl ?_
          refine r_get C dX3_readNumber_40 kX3_readNumber_1 20 bg_20 rfl 5 (by decide) kX3_readNumber_2 bv_20_5 ?_
          refine r_iconst (v := (1 : Int32)) C dX3_readNumber_43 (by decide) ?_
          refine r_iadd C dX3_readNumber_44 ?_
          refine r_put (ty := .int) C dX3_readNumber_45 kX3_readNumber_1 tyX3 tyX3_ok nmX3 20 bg_20 rfl 5 (by decide) kX3_readNumber_2 rfl rfl rfl rfl (Nat.le_of_ble_eq_true rfl) bs_20_5 ?_
          refine nmIB (fun I5 eI5 => ?_)
          have hf := bnd_e hf I5 eI5
          refine V.loc [0, 2, 3] rfl ?_
          exact mL_X3_readNumber_48 C hr FU _ _ _ _ hf
        · have hf := itp hf q24
          refine r_iload_n C dX3_readNumber_27 rfl 1 rfl ?_
          refine r_if_le (tgt := 38) C dX3_readNumber_28 (by decide) (fun q28 => ?_) (fun q28 => ?_)
          · have hf := itp hf q28
            refine r_aload_n C dX3_readNumber_38 rfl 0 rfl ?_
            refine r_dup C dX3_readNumber_39 rfl ?_
            refine r_get C dX3_readNumber_40 kX3_readNumber_1 20 bg_20 rfl 5 (by decide) kX3_readNumber_2 bv_20_5 ?_
            refine r_iconst (v := (1 : Int32)) C dX3_readNumber_43 (by decide) ?_
            refine r_iadd C dX3_readNumber_44 ?_
            refine r_put (ty := .int) C dX3_readNumber_45 kX3_readNumber_1 tyX3 tyX3_ok nmX3 20 bg_20 rfl 5 (by decide) kX3_readNumber_2 rfl rfl rfl rfl (Nat.le_of_ble_eq_true rfl) bs_20_5 ?_
            refine nmIB (fun I6 eI6 => ?_)
            have hf := bnd_e hf I6 eI6
            refine V.loc [0, 2, 3] rfl ?_
            exact mL_X3_readNumber_48 C hr FU _ _ _ _ hf
          · have hf := itn hf q28
            refine r_aload_n C dX3_readNumber_31 rfl 0 rfl ?_
            refine r_iconst (v := (1 : Int32)) C dX3_readNumber_32 (by decide) ?_
            refine r_put (ty := .boolean) C dX3_readNumber_33 kX3_readNumber_1 tyX3 tyX3_ok nmX3 20 bg_20 rfl 6 (by decide) kX3_readNumber_0 rfl rfl nb1 rfl (Nat.le_of_ble_eq_true rfl) bs_20_6 ?_
            refine nmIB (fun I7 eI7 => ?_)
            have hf := bnd_e hf I7 eI7
            refine r_iconst (v := (0 : Int32)) C dX3_readNumber_36 (by decide) ?_
            exact hr _ _ _ _ _ dX3_readNumber_37 rfl hf
  · have hf := itn hf q4
    refine r_iconst (v := (0 : Int32)) C dX3_readNumber_7 (by decide) ?_
    exact hr _ _ _ _ _ dX3_readNumber_8 rfl hf
abbrev rmX3_readItem : Room := { frames := 2, cells := 0, slots := 0, locals := 44 }
theorem hd_X3_readItem : yX3_readItem.cls = RX3 ∧ yX3_readItem.cls ≠ "java/lang/invoke/MethodHandle" ∧ yX3_readItem.cls ≠ "java/lang/invoke/VarHandle" ∧ (parseMethodDescriptor yX3_readItem.desc).map (fun d => d.parameters.length) = some 0 := by decide +kernel
theorem kX3_readItem_0 : Cond.fieldLink RX3 32 (TX3 6).1 (TX3 6).2.1 (TX3 6).2.2.1 ∈ wsX3_readItem := by decide +kernel
theorem kX3_readItem_1 : ∀ w ∈ u_ws RX3 TX3 7, w ∈ wsX3_readItem := by decide +kernel
theorem kX3_readItem_2 : Cond.fieldLink RX3 26 (TX3 4).1 (TX3 4).2.1 (TX3 4).2.2.1 ∈ wsX3_readItem := by decide +kernel
theorem kX3_readItem_3 : Cond.fieldLink RX3 29 (TX3 5).1 (TX3 5).2.1 (TX3 5).2.2.1 ∈ wsX3_readItem := by decide +kernel
set_option maxRecDepth 100000 in
set_option maxHeartbeats 4000000 in
theorem mB_X3_readItem_93 {k : CT} {g : GG} (C : CX k cX3_readItem 6 RX3 wsX3_readItem rmX3_readItem g) {ρ : (MI × MJ)} (hr : RTV k wB g cX3_readItem ρ) {kk93 : MI → MJ → Int32 → Int32 → Int32 → Int32 → Option (MI × MJ)} (hk93 : ∀ (I : MI) (J : MJ) (x1 : Int32) (x3 : Int32) (x4 : Int32) (x5 : Int32), kk93 I J x1 x3 x4 x5 = some ρ → V k (wB g I J) 93 [(0, .ref (g.1 20)), (1, .int x1), (3, .int x3), (4, .int x4), (5, .int x5)] []) : ∀ (I : MI) (J : MJ) (x1 : Int32) (x3 : Int32) (x4 : Int32) (x5 : Int32), LB_X3_readItem_93 kk93 I J x1 x3 x4 x5 = some ρ → V k (wB g I J) 93 [(0, .ref (g.1 20)), (1, .int x1), (3, .int x3), (4, .int x4), (5, .int x5)] [] := by
  intro I J x1 x3 x4 x5 hf
  unfold LB_X3_readItem_93 at hf
  refine r_iload C dX3_readItem_93 4 rfl ?_
  refine r_iload_n C dX3_readItem_95 rfl 2 rfl ?_
  refine r_icmp_ge (tgt := 129) C dX3_readItem_96 (by decide) (fun q96 => ?_) (fun q96 => ?_)
  · have hf := itp hf q96
    exact hr _ _ _ _ dX3_readItem_129 hf
  · have hf := itn hf q96
    refine r_aload_n C dX3_readItem_99 rfl 0 rfl ?_
    refine r_get C dX3_readItem_100 kX3_readItem_1 20 bg_20 rfl 6 (by decide) kX3_readItem_0 bv_20_6 ?_
    refine r_if_ne (tgt := 129) C dX3_readItem_103 (by decide) (fun q103 => ?_) (fun q103 => ?_)
    · have hf := itn hf q103
      exact hr _ _ _ _ dX3_readItem_129 hf
    · have hf := itp hf q103
      refine r_aload_n C dX3_readItem_106 rfl 0 rfl ?_
      refine r_get C dX3_readItem_107 kX3_readItem_1 20 bg_20 rfl 4 (by decide) kX3_readItem_2 bv_20_4 ?_
      refine r_iload_n C dX3_readItem_110 rfl 1 rfl ?_
      refine r_bipush (v := (24 : Int32)) C dX3_readItem_111 (by decide) ?_
      refine r_imul C dX3_readItem_113 ?_
      refine r_iload C dX3_readItem_114 4 rfl ?_
      refine r_iadd C dX3_readItem_116 ?_
      refine r_dup2 C dX3_readItem_117 rfl rfl ?_
      obtain ⟨h1, hf⟩ := chk_e hf
      refine r_iald (j := ((x1 * (24 : Int32)) + x5).toNatClampNeg) C dX3_readItem_118 23 bg_23 (inb_e h1) rfl ?_
      refine r_iload C dX3_readItem_119 3 rfl ?_
      refine r_iadd C dX3_readItem_121 ?_
      obtain ⟨h2, hf⟩ := chk_e hf
      refine r_iast (j := ((x1 * (24 : Int32)) + x5).toNatClampNeg) C dX3_readItem_122 23 bg_23 (inb_e h2) rfl ba_23 ?_
      refine nmIB (fun I3 eI3 => ?_)
      have hf := bnd_e hf I3 eI3
      obtain ⟨v4, ev4⟩ : ∃ z : Int32, z = x5 + (1 : Int32) := ⟨_, rfl⟩
      have hf := bnd_e hf v4 ev4
      refine r_iinc (v := v4) (lv' := [(0, .ref (g.1 20)), (1, .int x1), (3, .int x3), (4, .int x4), (5, .int v4)]) C dX3_readItem_123 4 rfl (by rw [ev4]; rfl) (by decide) [1, 2, 3, 4, 0] rfl ?_
      refine r_goto (tgt := 93) C dX3_readItem_126 (by decide) ?_
      exact hk93 _ _ _ _ _ _ hf
theorem mL_X3_readItem_93 {k : CT} {g : GG} (C : CX k cX3_readItem 6 RX3 wsX3_readItem rmX3_readItem g) {ρ : (MI × MJ)} (hr : RTV k wB g cX3_readItem ρ) : ∀ (n : Nat) (I : MI) (J : MJ) (x1 : Int32) (x3 : Int32) (x4 : Int32) (x5 : Int32), LP_X3_readItem_93 n I J x1 x3 x4 x5 = some ρ → V k (wB g I J) 93 [(0, .ref (g.1 20)), (1, .int x1), (3, .int x3), (4, .int x4), (5, .int x5)] [] := by
  intro n
  induction n with
  | zero => intro I J x1 x3 x4 x5 hf; cases hf
  | succ n ih => intro I J x1 x3 x4 x5 hf; exact mB_X3_readItem_93 C hr (fun I J x1 x3 x4 x5 h => ih I J x1 x3 x4 x5 h) I J x1 x3 x4 x5 hf
set_option maxRecDepth 100000 in
set_option maxHeartbeats 4000000 in
theorem mB_X3_readItem_68 {k : CT} {g : GG} (C : CX k cX3_readItem 6 RX3 wsX3_readItem rmX3_readItem g) {ρ : (MI × MJ)} (hr : RTV k wB g cX3_readItem ρ) : ∀ (I : MI) (J : MJ) (x1 : Int32) (x2 : Int32) (x3 : Int32), LB_X3_readItem_68 I J x1 x2 x3 = some ρ → V k (wB g I J) 68 [(0, .ref (g.1 20)), (1, .int x1), (2, .int x2), (3, .int x3)] [] := by
  intro I J x1 x2 x3 hf
  unfold LB_X3_readItem_68 at hf
  refine r_aload_n C dX3_readItem_68 rfl 0 rfl ?_
  refine r_bipush (v := (58 : Int32)) C dX3_readItem_69 (by decide) ?_
  obtain ⟨I2, J3, hq1, hf⟩ := bo2_e hf
  refine r_callV (o := none) (w' := (wB g I2 J3)) (As := [.int (58 : Int32)]) (rest := []) C (c_X3_readSign hq1) dX3_readItem_71 gX3_readItem_X3_readSign rfl rfl rfl hd_X3_readSign ⟨by decide, by decide⟩ 20 bg_20 rfl rfl rfl rfl (Nat.le_of_ble_eq_true rfl) ?_
  refine r_aload_n C dX3_readItem_74 rfl 0 rfl ?_
  refine r_iconst (v := (1 : Int32)) C dX3_readItem_75 (by decide) ?_
  refine r_sipush (v := (9999 : Int32)) C dX3_readItem_76 (by decide) ?_
  obtain ⟨r7, I5, J6, hq4, hf⟩ := bo3_e hf
  refine r_callV (o := some (.int r7)) (w' := (wB g I5 J6)) (As := [.int (1 : Int32), .int (9999 : Int32)]) (rest := []) C (c_X3_readNumber hq4) dX3_readItem_79 gX3_readItem_X3_readNumber rfl rfl rfl hd_X3_readNumber ⟨by decide, by decide⟩ 20 bg_20 rfl rfl rfl rfl (Nat.le_of_ble_eq_true rfl) ?_
  refine r_istore (lv' := [(0, .ref (g.1 20)), (1, .int x1), (2, .int x2), (3, .int x3), (4, .int r7)]) C dX3_readItem_82 (by decide) [1, 2, 3, 4, 0] rfl ?_
  refine r_aload_n C dX3_readItem_84 rfl 0 rfl ?_
  refine r_bipush (v := (59 : Int32)) C dX3_readItem_85 (by decide) ?_
  obtain ⟨I9, J10, hq8, hf⟩ := bo2_e hf
  refine r_callV (o := none) (w' := (wB g I9 J10)) (As := [.int (59 : Int32)]) (rest := []) C (c_X3_readSign hq8) dX3_readItem_87 gX3_readItem_X3_readSign rfl rfl rfl hd_X3_readSign ⟨by decide, by decide⟩ 20 bg_20 rfl rfl rfl rfl (Nat.le_of_ble_eq_true rfl) ?_
  refine r_iload_n C dX3_readItem_90 rfl 2 rfl ?_
  refine r_istore (lv' := [(0, .ref (g.1 20)), (1, .int x1), (2, .int x2), (3, .int x3), (4, .int r7), (5, .int x2)]) C dX3_readItem_91 (by decide) [1, 2, 3, 4, 5, 0] rfl ?_
  refine V.loc [0, 1, 3, 4, 5] rfl ?_
  exact mL_X3_readItem_93 C hr FU _ _ _ _ _ _ hf
set_option maxRecDepth 100000 in
set_option maxHeartbeats 4000000 in
theorem c_X3_readItem {l : Launch} {D : va_G} {g : GG} {I : MI} {J : MJ} {I' : MI} {J' : MJ} (hf : f_X3_readItem I J = some (I', J')) : CON l yX3_readItem wsX3_readItem rmX3_readItem D g (wB g I J) [.ref (g.1 20)] none (wB g I' J') := by
  refine con_of (cc := cX3_readItem) (maxL := 6) (ret := none) (by decide) rfl (Nat.le_of_ble_eq_true rfl) rfl rfl ?_
  intro k C hkl hkD h1 h2 h3
  subst hkl; subst hkD
  have hr : RTV k wB g cX3_readItem (I', J') := rtv_of h1
  unfold f_X3_readItem at hf
  refine V.loc (lv' := [(0, .ref (g.1 20))]) [0] rfl ?_
  refine r_aload_n C dX3_readItem_0 rfl 0 rfl ?_
  refine r_bipush (v := (102 : Int32)) C dX3_readItem_1 (by decide) ?_
  obtain ⟨I2, J3, hq1, hf⟩ := bo2_e hf
  refine r_callV (o := none) (w' := (wB g I2 J3)) (As := [.int (102 : Int32)]) (rest := []) C (c_X3_readSign hq1) dX3_readItem_3 gX3_readItem_X3_readSign rfl rfl rfl hd_X3_readSign ⟨by decide, by decide⟩ 20 bg_20 rfl rfl rfl rfl (Nat.le_of_ble_eq_true rfl) ?_
  refine r_aload_n C dX3_readItem_6 rfl 0 rfl ?_
  refine r_iconst (v := (0 : Int32)) C dX3_readItem_7 (by decide) ?_
  refine r_iconst (v := (4 : Int32)) C dX3_readItem_8 (by decide) ?_
  obtain ⟨r7, I5, J6, hq4, hf⟩ := bo3_e hf
  refine r_callV (o := some (.int r7)) (w' := (wB g I5 J6)) (As := [.int (0 : Int32), .int (4 : Int32)]) (rest := []) C (c_X3_readNumber hq4) dX3_readItem_9 gX3_readItem_X3_readNumber rfl rfl rfl hd_X3_readNumber ⟨by decide, by decide⟩ 20 bg_20 rfl rfl rfl rfl (Nat.le_of_ble_eq_true rfl) ?_
  refine r_istore_n (lv' := [(0, .ref (g.1 20)), (1, .int r7)]) C dX3_readItem_12 rfl (by decide) [1, 0] rfl ?_
  refine r_aload_n C dX3_readItem_13 rfl 0 rfl ?_
  refine r_bipush (v := (32 : Int32)) C dX3_readItem_14 (by decide) ?_
  obtain ⟨I9, J10, hq8, hf⟩ := bo2_e hf
  refine r_callV (o := none) (w' := (wB g I9 J10)) (As := [.int (32 : Int32)]) (rest := []) C (c_X3_readSign hq8) dX3_readItem_16 gX3_readItem_X3_readSign rfl rfl rfl hd_X3_readSign ⟨by decide, by decide⟩ 20 bg_20 rfl rfl rfl rfl (Nat.le_of_ble_eq_true rfl) ?_
  refine r_aload_n C dX3_readItem_19 rfl 0 rfl ?_
  refine r_iconst (v := (0 : Int32)) C dX3_readItem_20 (by decide) ?_
  refine r_bipush (v := (23 : Int32)) C dX3_readItem_21 (by decide) ?_
  obtain ⟨r14, I12, J13, hq11, hf⟩ := bo3_e hf
  refine r_callV (o := some (.int r14)) (w' := (wB g I12 J13)) (As := [.int (0 : Int32), .int (23 : Int32)]) (rest := []) C (c_X3_readNumber hq11) dX3_readItem_23 gX3_readItem_X3_readNumber rfl rfl rfl hd_X3_readNumber ⟨by decide, by decide⟩ 20 bg_20 rfl rfl rfl rfl (Nat.le_of_ble_eq_true rfl) ?_
  refine r_istore_n (lv' := [(0, .ref (g.1 20)), (1, .int r7), (2, .int r14)]) C dX3_readItem_26 rfl (by decide) [1, 2, 0] rfl ?_
  refine r_aload_n C dX3_readItem_27 rfl 0 rfl ?_
  refine r_bipush (v := (45 : Int32)) C dX3_readItem_28 (by decide) ?_
  obtain ⟨I16, J17, hq15, hf⟩ := bo2_e hf
  refine r_callV (o := none) (w' := (wB g I16 J17)) (As := [.int (45 : Int32)]) (rest := []) C (c_X3_readSign hq15) dX3_readItem_30 gX3_readItem_X3_readSign rfl rfl rfl hd_X3_readSign ⟨by decide, by decide⟩ 20 bg_20 rfl rfl rfl rfl (Nat.le_of_ble_eq_true rfl) ?_
  refine r_aload_n C dX3_readItem_33 rfl 0 rfl ?_
  refine r_iconst (v := (1 : Int32)) C dX3_readItem_34 (by decide) ?_
  refine r_bipush (v := (24 : Int32)) C dX3_readItem_35 (by decide) ?_
  obtain ⟨r21, I19, J20, hq18, hf⟩ := bo3_e hf
  refine r_callV (o := some (.int r21)) (w' := (wB g I19 J20)) (As := [.int (1 : Int32), .int (24 : Int32)]) (rest := []) C (c_X3_readNumber hq18) dX3_readItem_37 gX3_readItem_X3_readNumber rfl rfl rfl hd_X3_readNumber ⟨by decide, by decide⟩ 20 bg_20 rfl rfl rfl rfl (Nat.le_of_ble_eq_true rfl) ?_
  refine r_istore_n (lv' := [(0, .ref (g.1 20)), (1, .int r7), (2, .int r14), (3, .int r21)]) C dX3_readItem_40 rfl (by decide) [1, 2, 3, 0] rfl ?_
  refine r_aload_n C dX3_readItem_41 rfl 0 rfl ?_
  refine r_get C dX3_readItem_42 kX3_readItem_1 20 bg_20 rfl 6 (by decide) kX3_readItem_0 bv_20_6 ?_
  refine r_if_ne (tgt := 68) C dX3_readItem_45 (by decide) (fun q45 => ?_) (fun q45 => ?_)
  · have hf := itn hf q45
    exact mB_X3_readItem_68 C hr _ _ _ _ _ hf
  · have hf := itp hf q45
    refine r_iload_n C dX3_readItem_48 rfl 3 rfl ?_
    refine r_iload_n C dX3_readItem_49 rfl 2 rfl ?_
    refine r_icmp_gt (tgt := 68) C dX3_readItem_50 (by decide) (fun q50 => ?_) (fun q50 => ?_)
    · have hf := itp hf q50
      exact mB_X3_readItem_68 C hr _ _ _ _ _ hf
    · have hf := itn hf q50
      refine r_aload_n C dX3_readItem_53 rfl 0 rfl ?_
      refine r_iconst (v := (1 : Int32)) C dX3_readItem_54 (by decide) ?_
      refine r_put (ty := .boolean) C dX3_readItem_55 kX3_readItem_1 tyX3 tyX3_ok nmX3 20 bg_20 rfl 6 (by decide) kX3_readItem_0 rfl rfl nb1 rfl (Nat.le_of_ble_eq_true rfl) bs_20_6 ?_
      refine nmIB (fun I22 eI22 => ?_)
      have hf := bnd_e hf I22 eI22
      refine r_aload_n C dX3_readItem_58 rfl 0 rfl ?_
      refine r_dup C dX3_readItem_59 rfl ?_
      refine r_get C dX3_readItem_60 kX3_readItem_1 20 bg_20 rfl 5 (by decide) kX3_readItem_3 bv_20_5 ?_
      refine r_iconst (v := (1 : Int32)) C dX3_readItem_63 (by decide) ?_
      refine r_isub C dX3_readItem_64 ?_
      refine r_put (ty := .int) C dX3_readItem_65 kX3_readItem_1 tyX3 tyX3_ok nmX3 20 bg_20 rfl 5 (by decide) kX3_readItem_3 rfl rfl rfl rfl (Nat.le_of_ble_eq_true rfl) bs_20_5 ?_
      refine nmIB (fun I23 eI23 => ?_)
      have hf := bnd_e hf I23 eI23
      exact mB_X3_readItem_68 C hr _ _ _ _ _ hf
abbrev rmX3_tellAnew : Room := { frames := 3, cells := 0, slots := 0, locals := 69 }
theorem hd_X3_tellAnew : yX3_tellAnew.cls = RX3 ∧ yX3_tellAnew.cls ≠ "java/lang/invoke/MethodHandle" ∧ yX3_tellAnew.cls ≠ "java/lang/invoke/VarHandle" ∧ (parseMethodDescriptor yX3_tellAnew.desc).map (fun d => d.parameters.length) = some 0 := by decide +kernel
theorem kX3_tellAnew_0 : Cond.fieldLink RX3 26 (TX3 4).1 (TX3 4).2.1 (TX3 4).2.2.1 ∈ wsX3_tellAnew := by decide +kernel
theorem kX3_tellAnew_1 : ∀ w ∈ u_ws RX3 TX3 7, w ∈ wsX3_tellAnew := by decide +kernel
theorem kX3_tellAnew_2 : Cond.fieldLink RX3 29 (TX3 5).1 (TX3 5).2.1 (TX3 5).2.2.1 ∈ wsX3_tellAnew := by decide +kernel
theorem kX3_tellAnew_3 : Cond.fieldLink RX3 32 (TX3 6).1 (TX3 6).2.1 (TX3 6).2.2.1 ∈ wsX3_tellAnew := by decide +kernel
theorem kX3_tellAnew_4 : Cond.fieldLink RX3 15 (TX3 1).1 (TX3 1).2.1 (TX3 1).2.2.1 ∈ wsX3_tellAnew := by decide +kernel
theorem kX3_tellAnew_5 : Cond.fieldLink RX3 22 (TX3 3).1 (TX3 3).2.1 (TX3 3).2.2.1 ∈ wsX3_tellAnew := by decide +kernel
theorem kX3_tellAnew_6 : Cond.methodLink RX3 45 arraycopyName ∈ wsX3_tellAnew := by decide +kernel
theorem kX3_tellAnew_7 : Cond.native arraycopyName ∈ wsX3_tellAnew := by decide +kernel
theorem kX3_tellAnew_8 : Cond.static arraycopyName ∈ wsX3_tellAnew := by decide +kernel
theorem kX3_tellAnew_9 : Cond.initialized "java/lang/System" ∈ wsX3_tellAnew := by decide +kernel
theorem kX3_tellAnew_10 : Cond.fieldLink RX3 19 (TX3 2).1 (TX3 2).2.1 (TX3 2).2.2.1 ∈ wsX3_tellAnew := by decide +kernel
set_option maxRecDepth 100000 in
set_option maxHeartbeats 4000000 in
theorem mB_X3_tellAnew_54 {k : CT} {g : GG} (C : CX k cX3_tellAnew 2 RX3 wsX3_tellAnew rmX3_tellAnew g) {ρ : (Int32 × MI × MJ)} (hr : RTW k wB g cX3_tellAnew .int ρ) : ∀ (I : MI) (J : MJ) (x1 : Int32), LB_X3_tellAnew_54 I J x1 = some ρ → V k (wB g I J) 54 [(0, .ref (g.1 20)), (1, .int x1)] [] := by
  intro I J x1 hf
  unfold LB_X3_tellAnew_54 at hf
  refine r_aload_n C dX3_tellAnew_54 rfl 0 rfl ?_
  refine r_get C dX3_tellAnew_55 kX3_tellAnew_1 20 bg_20 rfl 6 (by decide) kX3_tellAnew_3 bv_20_6 ?_
  refine r_if_ne (tgt := 72) C dX3_tellAnew_58 (by decide) (fun q58 => ?_) (fun q58 => ?_)
  · have hf := itn hf q58
    refine r_bipush (v := (-10 : Int32)) C dX3_tellAnew_72 (by decide) ?_
    refine r_aload_n C dX3_tellAnew_74 rfl 0 rfl ?_
    refine r_get C dX3_tellAnew_75 kX3_tellAnew_1 20 bg_20 rfl 5 (by decide) kX3_tellAnew_2 bv_20_5 ?_
    refine r_isub C dX3_tellAnew_78 ?_
    exact hr _ _ _ _ _ dX3_tellAnew_79 rfl hf
  · have hf := itp hf q58
    refine r_aload_n C dX3_tellAnew_61 rfl 0 rfl ?_
    refine r_get C dX3_tellAnew_62 kX3_tellAnew_1 20 bg_20 rfl 5 (by decide) kX3_tellAnew_2 bv_20_5 ?_
    refine r_aload_n C dX3_tellAnew_65 rfl 0 rfl ?_
    refine r_get C dX3_tellAnew_66 kX3_tellAnew_1 20 bg_20 rfl 1 (by decide) kX3_tellAnew_4 bv_20_1 ?_
    refine r_icmp_ge (tgt := 80) C dX3_tellAnew_69 (by decide) (fun q69 => ?_) (fun q69 => ?_)
    · have hf := itp hf q69
      refine r_aload_n C dX3_tellAnew_80 rfl 0 rfl ?_
      refine r_get C dX3_tellAnew_81 kX3_tellAnew_1 20 bg_20 rfl 4 (by decide) kX3_tellAnew_0 bv_20_4 ?_
      refine r_iconst (v := (0 : Int32)) C dX3_tellAnew_84 (by decide) ?_
      refine r_aload_n C dX3_tellAnew_85 rfl 0 rfl ?_
      refine r_get C dX3_tellAnew_86 kX3_tellAnew_1 20 bg_20 rfl 3 (by decide) kX3_tellAnew_5 bv_20_3 ?_
      refine r_iconst (v := (0 : Int32)) C dX3_tellAnew_89 (by decide) ?_
      refine r_aload_n C dX3_tellAnew_90 rfl 0 rfl ?_
      refine r_get C dX3_tellAnew_91 kX3_tellAnew_1 20 bg_20 rfl 3 (by decide) kX3_tellAnew_5 bv_20_3 ?_
      refine r_alen (v := (120 : Int32)) C dX3_tellAnew_94 22 bg_22 rfl ?_
      refine r_copyi C dX3_tellAnew_95 kX3_tellAnew_6 kX3_tellAnew_7 kX3_tellAnew_8 kX3_tellAnew_9 23 22 bg_23 bg_22 (by decide) (by decide) (by decide) (by decide +kernel) (by decide +kernel) (by decide) (Nat.le_of_ble_eq_true rfl) bc_22 ?_
      refine nmIB (fun I1 eI1 => ?_)
      have hf := bnd_e hf I1 eI1
      refine r_aload_n C dX3_tellAnew_98 rfl 0 rfl ?_
      refine r_iload_n C dX3_tellAnew_99 rfl 1 rfl ?_
      refine r_put (ty := .int) C dX3_tellAnew_100 kX3_tellAnew_1 tyX3 tyX3_ok nmX3 20 bg_20 rfl 2 (by decide) kX3_tellAnew_10 rfl rfl rfl rfl (Nat.le_of_ble_eq_true rfl) bs_20_2 ?_
      refine nmIB (fun I2 eI2 => ?_)
      have hf := bnd_e hf I2 eI2
      refine r_aload_n C dX3_tellAnew_103 rfl 0 rfl ?_
      refine r_iconst (v := (0 : Int32)) C dX3_tellAnew_104 (by decide) ?_
      refine r_put (ty := .int) C dX3_tellAnew_105 kX3_tellAnew_1 tyX3 tyX3_ok nmX3 20 bg_20 rfl 1 (by decide) kX3_tellAnew_4 rfl rfl rfl rfl (Nat.le_of_ble_eq_true rfl) bs_20_1 ?_
      refine nmIB (fun I3 eI3 => ?_)
      have hf := bnd_e hf I3 eI3
      refine r_iload_n C dX3_tellAnew_108 rfl 1 rfl ?_
      exact hr _ _ _ _ _ dX3_tellAnew_109 rfl hf
    · have hf := itn hf q69
      refine r_bipush (v := (-10 : Int32)) C dX3_tellAnew_72 (by decide) ?_
      refine r_aload_n C dX3_tellAnew_74 rfl 0 rfl ?_
      refine r_get C dX3_tellAnew_75 kX3_tellAnew_1 20 bg_20 rfl 5 (by decide) kX3_tellAnew_2 bv_20_5 ?_
      refine r_isub C dX3_tellAnew_78 ?_
      exact hr _ _ _ _ _ dX3_tellAnew_79 rfl hf
set_option maxRecDepth 100000 in
set_option maxHeartbeats 4000000 in
theorem mB_X3_tellAnew_20 {k : CT} {g : GG} (C : CX k cX3_tellAnew 2 RX3 wsX3_tellAnew rmX3_tellAnew g) {ρ : (Int32 × MI × MJ)} (hr : RTW k wB g cX3_tellAnew .int ρ) {kk20 : MI → MJ → Int32 → Option (Int32 × MI × MJ)} (hk20 : ∀ (I : MI) (J : MJ) (x1 : Int32), kk20 I J x1 = some ρ → V k (wB g I J) 20 [(0, .ref (g.1 20)), (1, .int x1)] []) : ∀ (I : MI) (J : MJ) (x1 : Int32), LB_X3_tellAnew_20 kk20 I J x1 = some ρ → V k (wB g I J) 20 [(0, .ref (g.1 20)), (1, .int x1)] [] := by
  intro I J x1 hf
  unfold LB_X3_tellAnew_20 at hf
  refine r_iload_n C dX3_tellAnew_20 rfl 1 rfl ?_
  refine r_bipush (v := (12 : Int32)) C dX3_tellAnew_21 (by decide) ?_
  refine r_icmp_ge (tgt := 54) C dX3_tellAnew_23 (by decide) (fun q23 => ?_) (fun q23 => ?_)
  · have hf := itp hf q23
    exact mB_X3_tellAnew_54 C hr _ _ _ hf
  · have hf := itn hf q23
    refine r_aload_n C dX3_tellAnew_26 rfl 0 rfl ?_
    refine r_get C dX3_tellAnew_27 kX3_tellAnew_1 20 bg_20 rfl 5 (by decide) kX3_tellAnew_2 bv_20_5 ?_
    refine r_aload_n C dX3_tellAnew_30 rfl 0 rfl ?_
    refine r_get C dX3_tellAnew_31 kX3_tellAnew_1 20 bg_20 rfl 1 (by decide) kX3_tellAnew_4 bv_20_1 ?_
    refine r_icmp_ge (tgt := 54) C dX3_tellAnew_34 (by decide) (fun q34 => ?_) (fun q34 => ?_)
    · have hf := itp hf q34
      exact mB_X3_tellAnew_54 C hr _ _ _ hf
    · have hf := itn hf q34
      refine r_aload_n C dX3_tellAnew_37 rfl 0 rfl ?_
      refine r_get C dX3_tellAnew_38 kX3_tellAnew_1 20 bg_20 rfl 6 (by decide) kX3_tellAnew_3 bv_20_6 ?_
      refine r_if_ne (tgt := 54) C dX3_tellAnew_41 (by decide) (fun q41 => ?_) (fun q41 => ?_)
      · have hf := itn hf q41
        exact mB_X3_tellAnew_54 C hr _ _ _ hf
      · have hf := itp hf q41
        refine r_aload_n C dX3_tellAnew_44 rfl 0 rfl ?_
        obtain ⟨I2, J3, hq1, hf⟩ := bo2_e hf
        refine r_callV (o := none) (w' := (wB g I2 J3)) (As := []) (rest := []) C (c_X3_readItem hq1) dX3_tellAnew_45 gX3_tellAnew_X3_readItem rfl rfl rfl hd_X3_readItem ⟨by decide, by decide⟩ 20 bg_20 rfl rfl rfl rfl (Nat.le_of_ble_eq_true rfl) ?_
        obtain ⟨v4, ev4⟩ : ∃ z : Int32, z = x1 + (1 : Int32) := ⟨_, rfl⟩
        have hf := bnd_e hf v4 ev4
        refine r_iinc (v := v4) (lv' := [(0, .ref (g.1 20)), (1, .int v4)]) C dX3_tellAnew_48 1 rfl (by rw [ev4]; rfl) (by decide) [1, 0] rfl ?_
        refine r_goto (tgt := 20) C dX3_tellAnew_51 (by decide) ?_
        exact hk20 _ _ _ hf
theorem mL_X3_tellAnew_20 {k : CT} {g : GG} (C : CX k cX3_tellAnew 2 RX3 wsX3_tellAnew rmX3_tellAnew g) {ρ : (Int32 × MI × MJ)} (hr : RTW k wB g cX3_tellAnew .int ρ) : ∀ (n : Nat) (I : MI) (J : MJ) (x1 : Int32), LP_X3_tellAnew_20 n I J x1 = some ρ → V k (wB g I J) 20 [(0, .ref (g.1 20)), (1, .int x1)] [] := by
  intro n
  induction n with
  | zero => intro I J x1 hf; cases hf
  | succ n ih => intro I J x1 hf; exact mB_X3_tellAnew_20 C hr (fun I J x1 h => ih I J x1 h) I J x1 hf
set_option maxRecDepth 100000 in
set_option maxHeartbeats 4000000 in
theorem c_X3_tellAnew {l : Launch} {D : va_G} {g : GG} {I : MI} {J : MJ} {r : Int32} {I' : MI} {J' : MJ} (hf : f_X3_tellAnew I J = some (r, I', J')) : CON l yX3_tellAnew wsX3_tellAnew rmX3_tellAnew D g (wB g I J) [.ref (g.1 20)] (some (.int r)) (wB g I' J') := by
  refine con_of (cc := cX3_tellAnew) (maxL := 2) (ret := (some .int)) (by decide) rfl (Nat.le_of_ble_eq_true rfl) rfl rfl ?_
  intro k C hkl hkD h1 h2 h3
  subst hkl; subst hkD
  have hr : RTW k wB g cX3_tellAnew .int (r, I', J') := rtw_of h2
  unfold f_X3_tellAnew at hf
  refine V.loc (lv' := [(0, .ref (g.1 20))]) [0] rfl ?_
  refine r_aload_n C dX3_tellAnew_0 rfl 0 rfl ?_
  refine r_get C dX3_tellAnew_1 kX3_tellAnew_1 20 bg_20 rfl 4 (by decide) kX3_tellAnew_0 bv_20_4 ?_
  refine r_iconst (v := (0 : Int32)) C dX3_tellAnew_4 (by decide) ?_
  refine r_callS (o := none) (As := [.ref (g.1 23), .int (0 : Int32)]) (rest := []) C (c_fill_23) dX3_tellAnew_5 gX3_tellAnew_J7_fill_53178 rfl rfl rfl hd_fill ⟨by decide, by decide⟩ rfl rfl (Nat.le_of_ble_eq_true rfl) ?_
  refine nmIB (fun I1 eI1 => ?_)
  have hf := bnd_e hf I1 eI1
  refine r_aload_n C dX3_tellAnew_8 rfl 0 rfl ?_
  refine r_iconst (v := (0 : Int32)) C dX3_tellAnew_9 (by decide) ?_
  refine r_put (ty := .int) C dX3_tellAnew_10 kX3_tellAnew_1 tyX3 tyX3_ok nmX3 20 bg_20 rfl 5 (by decide) kX3_tellAnew_2 rfl rfl rfl rfl (Nat.le_of_ble_eq_true rfl) bs_20_5 ?_
  refine nmIB (fun I2 eI2 => ?_)
  have hf := bnd_e hf I2 eI2
  refine r_aload_n C dX3_tellAnew_13 rfl 0 rfl ?_
  refine r_iconst (v := (0 : Int32)) C dX3_tellAnew_14 (by decide) ?_
  refine r_put (ty := .boolean) C dX3_tellAnew_15 kX3_tellAnew_1 tyX3 tyX3_ok nmX3 20 bg_20 rfl 6 (by decide) kX3_tellAnew_3 rfl rfl nb0 rfl (Nat.le_of_ble_eq_true rfl) bs_20_6 ?_
  refine nmIB (fun I3 eI3 => ?_)
  have hf := bnd_e hf I3 eI3
  refine r_iconst (v := (0 : Int32)) C dX3_tellAnew_18 (by decide) ?_
  refine r_istore_n (lv' := [(0, .ref (g.1 20)), (1, .int (0 : Int32))]) C dX3_tellAnew_19 rfl (by decide) [1, 0] rfl ?_
  exact mL_X3_tellAnew_20 C hr FU _ _ _ hf
