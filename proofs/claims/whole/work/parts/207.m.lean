abbrev rmX7_book : Room := { frames := 1, cells := 0, slots := 0, locals := 22 }
theorem hd_X7_book : yX7_book.cls = RX7 ∧ yX7_book.cls ≠ "java/lang/invoke/MethodHandle" ∧ yX7_book.cls ≠ "java/lang/invoke/VarHandle" ∧ (parseMethodDescriptor yX7_book.desc).map (fun d => d.parameters.length) = some 1 := by decide +kernel
theorem kX7_book_0 : Cond.fieldLink RX7 48 (TX7 6).1 (TX7 6).2.1 (TX7 6).2.2.1 ∈ wsX7_book := by decide +kernel
theorem kX7_book_1 : ∀ w ∈ u_ws RX7 TX7 13, w ∈ wsX7_book := by decide +kernel
theorem kX7_book_2 : Cond.fieldLink RX7 223 (TX5 2).1 (TX5 2).2.1 (TX5 2).2.2.1 ∈ wsX7_book := by decide +kernel
theorem kX7_book_3 : ∀ w ∈ u_ws RX5 TX5 8, w ∈ wsX7_book := by decide +kernel
theorem kX7_book_4 : Cond.fieldLink RX7 226 (TX5 3).1 (TX5 3).2.1 (TX5 3).2.2.1 ∈ wsX7_book := by decide +kernel
theorem kX7_book_5 : Cond.fieldLink RX7 229 (TX5 4).1 (TX5 4).2.1 (TX5 4).2.2.1 ∈ wsX7_book := by decide +kernel
theorem kX7_book_6 : Cond.fieldLink RX7 232 (TX5 5).1 (TX5 5).2.1 (TX5 5).2.2.1 ∈ wsX7_book := by decide +kernel
theorem kX7_book_7 : Cond.fieldLink RX7 211 (TX5 6).1 (TX5 6).2.1 (TX5 6).2.2.1 ∈ wsX7_book := by decide +kernel
theorem kX7_book_8 : Cond.fieldLink RX7 235 (TX5 1).1 (TX5 1).2.1 (TX5 1).2.2.1 ∈ wsX7_book := by decide +kernel
theorem kX7_book_9 : Jvm.Cond.constantLong RX7 242 (-1) ∈ wsX7_book := by decide +kernel
theorem kX7_book_10 : Cond.fieldLink RX7 238 (TX5 7).1 (TX5 7).2.1 (TX5 7).2.2.1 ∈ wsX7_book := by decide +kernel
set_option maxRecDepth 100000 in
set_option maxHeartbeats 4000000 in
theorem c_X7_book {l : Launch} {D : va_G} {g : GG} {I : MI} {J : MJ} {a1 : Int32} {r : Int64} (hf : f_X7_book I J a1 = some r) : CON l yX7_book wsX7_book rmX7_book D g (wB g I J) [.ref (g.1 0), .int a1] (some (.long r)) (wB g I J) := by
  refine con_of (cc := cX7_book) (maxL := 2) (ret := (some .long)) (by decide) rfl (Nat.le_of_ble_eq_true rfl) rfl rfl ?_
  intro k C hkl hkD h1 h2 h3
  subst hkl; subst hkD
  have hr : RRL k (wB g I J) cX7_book r := rrl_of h3
  unfold f_X7_book at hf
  refine V.loc (lv' := [(0, .ref (g.1 0)), (1, .int a1)]) [0, 1] rfl ?_
  refine r_iload_n C dX7_book_0 rfl 1 rfl ?_
  by_cases q1_0 : a1 = (0 : Int32)
  · have hf := itp hf q1_0
    refine r_tabIn (tgt := 40) C dX7_book_1 (by rw [q1_0]; decide) (by rw [q1_0]; decide) (by rw [q1_0]; rfl) (by decide) ?_
    refine r_aload_n C dX7_book_40 rfl 0 rfl ?_
    refine r_get C dX7_book_41 kX7_book_1 0 bg_0 rfl 6 (by decide) kX7_book_0 bv_0_6 ?_
    refine r_get C dX7_book_44 kX7_book_3 24 bg_24 rfl 2 (by decide) kX7_book_2 bv_24_2 ?_
    exact hr _ _ _ dX7_book_47 hf
  have hf := itn hf q1_0
  by_cases q1_1 : a1 = (1 : Int32)
  · have hf := itp hf q1_1
    refine r_tabIn (tgt := 48) C dX7_book_1 (by rw [q1_1]; decide) (by rw [q1_1]; decide) (by rw [q1_1]; rfl) (by decide) ?_
    refine r_aload_n C dX7_book_48 rfl 0 rfl ?_
    refine r_get C dX7_book_49 kX7_book_1 0 bg_0 rfl 6 (by decide) kX7_book_0 bv_0_6 ?_
    refine r_get C dX7_book_52 kX7_book_3 24 bg_24 rfl 3 (by decide) kX7_book_4 bv_24_3 ?_
    exact hr _ _ _ dX7_book_55 hf
  have hf := itn hf q1_1
  by_cases q1_2 : a1 = (2 : Int32)
  · have hf := itp hf q1_2
    refine r_tabIn (tgt := 56) C dX7_book_1 (by rw [q1_2]; decide) (by rw [q1_2]; decide) (by rw [q1_2]; rfl) (by decide) ?_
    refine r_aload_n C dX7_book_56 rfl 0 rfl ?_
    refine r_get C dX7_book_57 kX7_book_1 0 bg_0 rfl 6 (by decide) kX7_book_0 bv_0_6 ?_
    refine r_get C dX7_book_60 kX7_book_3 24 bg_24 rfl 4 (by decide) kX7_book_5 bv_24_4 ?_
    exact hr _ _ _ dX7_book_63 hf
  have hf := itn hf q1_2
  by_cases q1_3 : a1 = (3 : Int32)
  · have hf := itp hf q1_3
    refine r_tabIn (tgt := 64) C dX7_book_1 (by rw [q1_3]; decide) (by rw [q1_3]; decide) (by rw [q1_3]; rfl) (by decide) ?_
    refine r_aload_n C dX7_book_64 rfl 0 rfl ?_
    refine r_get C dX7_book_65 kX7_book_1 0 bg_0 rfl 6 (by decide) kX7_book_0 bv_0_6 ?_
    refine r_get C dX7_book_68 kX7_book_3 24 bg_24 rfl 5 (by decide) kX7_book_6 bv_24_5 ?_
    exact hr _ _ _ dX7_book_71 hf
  have hf := itn hf q1_3
  by_cases q1_4 : a1 = (4 : Int32)
  · have hf := itp hf q1_4
    refine r_tabIn (tgt := 72) C dX7_book_1 (by rw [q1_4]; decide) (by rw [q1_4]; decide) (by rw [q1_4]; rfl) (by decide) ?_
    refine r_aload_n C dX7_book_72 rfl 0 rfl ?_
    refine r_get C dX7_book_73 kX7_book_1 0 bg_0 rfl 6 (by decide) kX7_book_0 bv_0_6 ?_
    refine r_get C dX7_book_76 kX7_book_3 24 bg_24 rfl 6 (by decide) kX7_book_7 bv_24_6 ?_
    exact hr _ _ _ dX7_book_79 hf
  have hf := itn hf q1_4
  by_cases q1_5 : a1 = (5 : Int32)
  · have hf := itp hf q1_5
    refine r_tabIn (tgt := 80) C dX7_book_1 (by rw [q1_5]; decide) (by rw [q1_5]; decide) (by rw [q1_5]; rfl) (by decide) ?_
    refine r_aload_n C dX7_book_80 rfl 0 rfl ?_
    refine r_get C dX7_book_81 kX7_book_1 0 bg_0 rfl 6 (by decide) kX7_book_0 bv_0_6 ?_
    refine r_get C dX7_book_84 kX7_book_3 24 bg_24 rfl 1 (by decide) kX7_book_8 bv_24_1 ?_
    refine r_i2l C dX7_book_87 ?_
    exact hr _ _ _ dX7_book_88 hf
  have hf := itn hf q1_5
  refine r_tabOut (tgt := 89) C dX7_book_1 (by have a0 := lv_neT q1_0 (a := 0) (by decide); have a1 := lv_neT q1_1 (a := 1) (by decide); have a2 := lv_neT q1_2 (a := 2) (by decide); have a3 := lv_neT q1_3 (a := 3) (by decide); have a4 := lv_neT q1_4 (a := 4) (by decide); have a5 := lv_neT q1_5 (a := 5) (by decide); omega) (by decide) ?_
  refine r_iload_n C dX7_book_89 rfl 1 rfl ?_
  refine r_bipush (v := (6 : Int32)) C dX7_book_90 (by decide) ?_
  refine r_bipush (v := (10 : Int32)) C dX7_book_92 (by decide) ?_
  obtain ⟨r2, hq1, hf⟩ := bo1_e hf
  refine r_callS (o := some (.int r2)) (w' := (wB g I J)) (As := [.int a1, .int (6 : Int32), .int (10 : Int32)]) (rest := []) C (c_X7_within hq1) dX7_book_94 gX7_book_X7_within rfl rfl rfl hd_X7_within ⟨by decide, by decide⟩ rfl rfl (Nat.le_of_ble_eq_true rfl) ?_
  refine r_if_eq (tgt := 115) C dX7_book_97 (by decide) (fun q97 => ?_) (fun q97 => ?_)
  · have hf := itp hf q97
    refine r_ldc2 (v := (-1 : Int64)) C dX7_book_115 kX7_book_9 ?_
    exact hr _ _ _ dX7_book_118 hf
  · have hf := itn hf q97
    refine r_aload_n C dX7_book_100 rfl 0 rfl ?_
    refine r_get C dX7_book_101 kX7_book_1 0 bg_0 rfl 6 (by decide) kX7_book_0 bv_0_6 ?_
    refine r_get C dX7_book_104 kX7_book_3 24 bg_24 rfl 7 (by decide) kX7_book_10 bv_24_7 ?_
    refine r_iload_n C dX7_book_107 rfl 1 rfl ?_
    refine r_bipush (v := (6 : Int32)) C dX7_book_108 (by decide) ?_
    refine r_isub C dX7_book_110 ?_
    obtain ⟨h3, hf⟩ := chk_e hf
    refine r_lald (j := (a1 - (6 : Int32)).toNatClampNeg) C dX7_book_111 25 bg_25 (inb_e h3) rfl ?_
    refine r_goto (tgt := 118) C dX7_book_112 (by decide) ?_
    exact hr _ _ _ dX7_book_118 hf
abbrev rmX7_isReadable : Room := { frames := 1, cells := 0, slots := 0, locals := 22 }
theorem hd_X7_isReadable : yX7_isReadable.cls ≠ "java/lang/invoke/MethodHandle" ∧ yX7_isReadable.cls ≠ "java/lang/invoke/VarHandle" ∧ (parseMethodDescriptor yX7_isReadable.desc).map (fun d => d.parameters.length) = some 1 := by decide +kernel
theorem kX7_isReadable_0 : Jvm.Cond.constant RX7 141 (1000000) ∈ wsX7_isReadable := by decide +kernel
set_option maxRecDepth 100000 in
set_option maxHeartbeats 4000000 in
theorem c_X7_isReadable {l : Launch} {D : va_G} {g : GG} {I : MI} {J : MJ} {a0 : Int32} {r : Int32} (hf : f_X7_isReadable a0 = some r) : CON l yX7_isReadable wsX7_isReadable rmX7_isReadable D g (wB g I J) [.int a0] (some (.int r)) (wB g I J) := by
  refine con_of (cc := cX7_isReadable) (maxL := 1) (ret := (some .boolean)) (by decide) rfl (Nat.le_of_ble_eq_true rfl) rfl rfl ?_
  intro k C hkl hkD h1 h2 h3
  subst hkl; subst hkD
  have hr : RRW k (wB g I J) cX7_isReadable .boolean r := rrw_of h2
  unfold f_X7_isReadable at hf
  refine V.loc (lv' := [(0, .int a0)]) [0] rfl ?_
  refine r_iload_n C dX7_isReadable_0 rfl 0 rfl ?_
  refine r_bipush (v := (-9 : Int32)) C dX7_isReadable_1 (by decide) ?_
  refine r_icmp_eq (tgt := 16) C dX7_isReadable_3 (by decide) (fun q3 => ?_) (fun q3 => ?_)
  · have hf := itp hf q3
    refine r_iconst (v := (1 : Int32)) C dX7_isReadable_16 (by decide) ?_
    refine r_goto (tgt := 21) C dX7_isReadable_17 (by decide) ?_
    exact hr _ _ _ dX7_isReadable_21 nb1 hf
  · have hf := itn hf q3
    refine r_iload_n C dX7_isReadable_6 rfl 0 rfl ?_
    refine r_iconst (v := (0 : Int32)) C dX7_isReadable_7 (by decide) ?_
    refine r_ldc (v := (1000000 : Int32)) C dX7_isReadable_8 kX7_isReadable_0 ?_
    obtain ⟨r2, hq1, hf⟩ := bo1_e hf
    refine r_callS (o := some (.int r2)) (w' := (wB g I J)) (As := [.int a0, .int (0 : Int32), .int (1000000 : Int32)]) (rest := []) C (c_X7_within hq1) dX7_isReadable_10 gX7_isReadable_X7_within rfl rfl rfl hd_X7_within ⟨by decide, by decide⟩ rfl rfl (Nat.le_of_ble_eq_true rfl) ?_
    refine r_if_eq (tgt := 20) C dX7_isReadable_13 (by decide) (fun q13 => ?_) (fun q13 => ?_)
    · have hf := itp hf q13
      refine r_iconst (v := (0 : Int32)) C dX7_isReadable_20 (by decide) ?_
      exact hr _ _ _ dX7_isReadable_21 nb0 hf
    · have hf := itn hf q13
      refine r_iconst (v := (1 : Int32)) C dX7_isReadable_16 (by decide) ?_
      refine r_goto (tgt := 21) C dX7_isReadable_17 (by decide) ?_
      exact hr _ _ _ dX7_isReadable_21 nb1 hf
abbrev rmX2_keep : Room := { frames := 0, cells := 0, slots := 0, locals := 0 }
theorem hd_X2_keep : yX2_keep.cls = RX2 ∧ yX2_keep.cls ≠ "java/lang/invoke/MethodHandle" ∧ yX2_keep.cls ≠ "java/lang/invoke/VarHandle" ∧ (parseMethodDescriptor yX2_keep.desc).map (fun d => d.parameters.length) = some 3 := by decide +kernel
theorem kX2_keep_0 : Cond.fieldLink RX2 21 (TX2 3).1 (TX2 3).2.1 (TX2 3).2.2.1 ∈ wsX2_keep := by decide +kernel
theorem kX2_keep_1 : ∀ w ∈ u_ws RX2 TX2 6, w ∈ wsX2_keep := by decide +kernel
theorem kX2_keep_2 : Cond.fieldLink RX2 11 (TX2 0).1 (TX2 0).2.1 (TX2 0).2.2.1 ∈ wsX2_keep := by decide +kernel
theorem kX2_keep_3 : Cond.fieldLink RX2 15 (TX2 1).1 (TX2 1).2.1 (TX2 1).2.2.1 ∈ wsX2_keep := by decide +kernel
theorem kX2_keep_4 : Cond.fieldLink RX2 18 (TX2 2).1 (TX2 2).2.1 (TX2 2).2.2.1 ∈ wsX2_keep := by decide +kernel
set_option maxRecDepth 100000 in
set_option maxHeartbeats 4000000 in
theorem c_X2_keep {l : Launch} {D : va_G} {g : GG} {I : MI} {J : MJ} {a1 : Int32} {a2 : Int32} {a3 : Int32} {r : Int32} {I' : MI} {J' : MJ} (hf : f_X2_keep I J a1 a2 a3 = some (r, I', J')) : CON l yX2_keep wsX2_keep rmX2_keep D g (wB g I J) [.ref (g.1 26), .int a1, .int a2, .int a3] (some (.int r)) (wB g I' J') := by
  refine con_of (cc := cX2_keep) (maxL := 4) (ret := (some .int)) (by decide) rfl (Nat.le_of_ble_eq_true rfl) rfl rfl ?_
  intro k C hkl hkD h1 h2 h3
  subst hkl; subst hkD
  have hr : RTW k wB g cX2_keep .int (r, I', J') := rtw_of h2
  unfold f_X2_keep at hf
  refine V.loc (lv' := [(0, .ref (g.1 26)), (1, .int a1), (2, .int a2), (3, .int a3)]) [0, 1, 2, 3] rfl ?_
  refine r_aload_n C dX2_keep_0 rfl 0 rfl ?_
  refine r_get C dX2_keep_1 kX2_keep_1 26 bg_26 rfl 3 (by decide) kX2_keep_0 bv_26_3 ?_
  refine r_bipush (v := (12 : Int32)) C dX2_keep_4 (by decide) ?_
  refine r_icmp_lt (tgt := 12) C dX2_keep_6 (by decide) (fun q6 => ?_) (fun q6 => ?_)
  · have hf := itp hf q6
    refine r_aload_n C dX2_keep_12 rfl 0 rfl ?_
    refine r_get C dX2_keep_13 kX2_keep_1 26 bg_26 rfl 0 (by decide) kX2_keep_2 bv_26_0 ?_
    refine r_aload_n C dX2_keep_16 rfl 0 rfl ?_
    refine r_get C dX2_keep_17 kX2_keep_1 26 bg_26 rfl 3 (by decide) kX2_keep_0 bv_26_3 ?_
    refine r_iload_n C dX2_keep_20 rfl 1 rfl ?_
    obtain ⟨h1, hf⟩ := chk_e hf
    refine r_iast (j := (I 26 3).toNatClampNeg) C dX2_keep_21 27 bg_27 (inb_e h1) rfl ba_27 ?_
    refine nmIB (fun I2 eI2 => ?_)
    have hf := bnd_e hf I2 eI2
    refine r_aload_n C dX2_keep_22 rfl 0 rfl ?_
    refine r_get C dX2_keep_23 kX2_keep_1 26 bg_26 rfl 1 (by decide) kX2_keep_3 bv_26_1 ?_
    refine r_aload_n C dX2_keep_26 rfl 0 rfl ?_
    refine r_get C dX2_keep_27 kX2_keep_1 26 bg_26 rfl 3 (by decide) kX2_keep_0 bv_26_3 ?_
    refine r_iload_n C dX2_keep_30 rfl 2 rfl ?_
    obtain ⟨h3, hf⟩ := chk_e hf
    refine r_iast (j := (I2 26 3).toNatClampNeg) C dX2_keep_31 28 bg_28 (inb_e h3) rfl ba_28 ?_
    refine nmIB (fun I4 eI4 => ?_)
    have hf := bnd_e hf I4 eI4
    refine r_aload_n C dX2_keep_32 rfl 0 rfl ?_
    refine r_get C dX2_keep_33 kX2_keep_1 26 bg_26 rfl 2 (by decide) kX2_keep_4 bv_26_2 ?_
    refine r_aload_n C dX2_keep_36 rfl 0 rfl ?_
    refine r_get C dX2_keep_37 kX2_keep_1 26 bg_26 rfl 3 (by decide) kX2_keep_0 bv_26_3 ?_
    refine r_iload_n C dX2_keep_40 rfl 3 rfl ?_
    obtain ⟨h5, hf⟩ := chk_e hf
    refine r_iast (j := (I4 26 3).toNatClampNeg) C dX2_keep_41 29 bg_29 (inb_e h5) rfl ba_29 ?_
    refine nmIB (fun I6 eI6 => ?_)
    have hf := bnd_e hf I6 eI6
    refine r_aload_n C dX2_keep_42 rfl 0 rfl ?_
    refine r_dup C dX2_keep_43 rfl ?_
    refine r_get C dX2_keep_44 kX2_keep_1 26 bg_26 rfl 3 (by decide) kX2_keep_0 bv_26_3 ?_
    refine r_iconst (v := (1 : Int32)) C dX2_keep_47 (by decide) ?_
    refine r_iadd C dX2_keep_48 ?_
    refine r_put (ty := .int) C dX2_keep_49 kX2_keep_1 tyX2 tyX2_ok nmX2 26 bg_26 rfl 3 (by decide) kX2_keep_0 rfl rfl rfl rfl (Nat.le_of_ble_eq_true rfl) bs_26_3 ?_
    refine nmIB (fun I7 eI7 => ?_)
    have hf := bnd_e hf I7 eI7
    refine r_aload_n C dX2_keep_52 rfl 0 rfl ?_
    refine r_get C dX2_keep_53 kX2_keep_1 26 bg_26 rfl 3 (by decide) kX2_keep_0 bv_26_3 ?_
    exact hr _ _ _ _ _ dX2_keep_56 rfl hf
  · have hf := itn hf q6
    refine r_bipush (v := (-3 : Int32)) C dX2_keep_9 (by decide) ?_
    exact hr _ _ _ _ _ dX2_keep_11 rfl hf
abbrev rmX7_read : Room := { frames := 2, cells := 0, slots := 0, locals := 43 }
theorem hd_X7_read : yX7_read.cls = RX7 ∧ yX7_read.cls ≠ "java/lang/invoke/MethodHandle" ∧ yX7_read.cls ≠ "java/lang/invoke/VarHandle" ∧ (parseMethodDescriptor yX7_read.desc).map (fun d => d.parameters.length) = some 3 := by decide +kernel
theorem kX7_read_0 : Cond.fieldLink RX7 55 (TX7 7).1 (TX7 7).2.1 (TX7 7).2.2.1 ∈ wsX7_read := by decide +kernel
theorem kX7_read_1 : ∀ w ∈ u_ws RX7 TX7 13, w ∈ wsX7_read := by decide +kernel
set_option maxRecDepth 100000 in
set_option maxHeartbeats 4000000 in
theorem mB_X7_read_31 {k : CT} {g : GG} (C : CX k cX7_read 5 RX7 wsX7_read rmX7_read g) {ρ : (Int32 × MI × MJ)} (hr : RTW k wB g cX7_read .int ρ) : ∀ (I : MI) (J : MJ) (x1 : Int32) (x2 : Int32) (x3 : Int32) (s0 : Int32), LB_X7_read_31 I J x1 x2 x3 s0 = some ρ → V k (wB g I J) 31 [(0, .ref (g.1 0)), (1, .int x1), (2, .int x2), (3, .int x3)] [.int s0] := by
  intro I J x1 x2 x3 s0 hf
  unfold LB_X7_read_31 at hf
  refine r_istore (lv' := [(0, .ref (g.1 0)), (1, .int x1), (2, .int x2), (3, .int x3), (4, .int s0)]) C dX7_read_31 (by decide) [1, 2, 3, 4, 0] rfl ?_
  refine r_aload_n C dX7_read_33 rfl 0 rfl ?_
  refine r_iload_n C dX7_read_34 rfl 1 rfl ?_
  obtain ⟨r2, hq1, hf⟩ := bo1_e hf
  refine r_callV (o := some (.int r2)) (w' := (wB g I J)) (As := [.int x1]) (rest := []) C (c_X7_isRam hq1) dX7_read_35 gX7_read_X7_isRam rfl rfl rfl hd_X7_isRam ⟨by decide, by decide⟩ 0 bg_0 rfl rfl rfl rfl (Nat.le_of_ble_eq_true rfl) ?_
  refine r_if_eq (tgt := 46) C dX7_read_38 (by decide) (fun q38 => ?_) (fun q38 => ?_)
  · have hf := itp hf q38
    refine r_iconst (v := (-1 : Int32)) C dX7_read_46 (by decide) ?_
    exact hr _ _ _ _ _ dX7_read_47 rfl hf
  · have hf := itn hf q38
    refine r_iload C dX7_read_41 4 rfl ?_
    refine r_if_ne (tgt := 48) C dX7_read_43 (by decide) (fun q43 => ?_) (fun q43 => ?_)
    · have hf := itn hf q43
      refine r_aload_n C dX7_read_48 rfl 0 rfl ?_
      refine r_get C dX7_read_49 kX7_read_1 0 bg_0 rfl 7 (by decide) kX7_read_0 bv_0_7 ?_
      refine r_iload_n C dX7_read_52 rfl 1 rfl ?_
      refine r_iload_n C dX7_read_53 rfl 2 rfl ?_
      refine r_iload_n C dX7_read_54 rfl 3 rfl ?_
      obtain ⟨r6, I4, J5, hq3, hf⟩ := bo3_e hf
      refine r_callV (o := some (.int r6)) (w' := (wB g I4 J5)) (As := [.int x1, .int x2, .int x3]) (rest := []) C (c_X2_keep hq3) dX7_read_55 gX7_read_X2_keep rfl rfl rfl hd_X2_keep ⟨by decide, by decide⟩ 26 bg_26 rfl rfl rfl rfl (Nat.le_of_ble_eq_true rfl) ?_
      exact hr _ _ _ _ _ dX7_read_58 rfl hf
    · have hf := itp hf q43
      refine r_iconst (v := (-1 : Int32)) C dX7_read_46 (by decide) ?_
      exact hr _ _ _ _ _ dX7_read_47 rfl hf
set_option maxRecDepth 100000 in
set_option maxHeartbeats 4000000 in
theorem mB_X7_read_30 {k : CT} {g : GG} (C : CX k cX7_read 5 RX7 wsX7_read rmX7_read g) {ρ : (Int32 × MI × MJ)} (hr : RTW k wB g cX7_read .int ρ) : ∀ (I : MI) (J : MJ) (x1 : Int32) (x2 : Int32) (x3 : Int32), LB_X7_read_30 I J x1 x2 x3 = some ρ → V k (wB g I J) 30 [(0, .ref (g.1 0)), (1, .int x1), (2, .int x2), (3, .int x3)] [] := by
  intro I J x1 x2 x3 hf
  unfold LB_X7_read_30 at hf
  refine r_iconst (v := (0 : Int32)) C dX7_read_30 (by decide) ?_
  exact mB_X7_read_31 C hr _ _ _ _ _ _ hf
set_option maxRecDepth 100000 in
set_option maxHeartbeats 4000000 in
theorem mB_X7_read_26 {k : CT} {g : GG} (C : CX k cX7_read 5 RX7 wsX7_read rmX7_read g) {ρ : (Int32 × MI × MJ)} (hr : RTW k wB g cX7_read .int ρ) : ∀ (I : MI) (J : MJ) (x1 : Int32) (x2 : Int32) (x3 : Int32), LB_X7_read_26 I J x1 x2 x3 = some ρ → V k (wB g I J) 26 [(0, .ref (g.1 0)), (1, .int x1), (2, .int x2), (3, .int x3)] [] := by
  intro I J x1 x2 x3 hf
  unfold LB_X7_read_26 at hf
  refine r_iconst (v := (1 : Int32)) C dX7_read_26 (by decide) ?_
  refine r_goto (tgt := 31) C dX7_read_27 (by decide) ?_
  exact mB_X7_read_31 C hr _ _ _ _ _ _ hf
set_option maxRecDepth 100000 in
set_option maxHeartbeats 4000000 in
theorem c_X7_read {l : Launch} {D : va_G} {g : GG} {I : MI} {J : MJ} {a1 : Int32} {a2 : Int32} {a3 : Int32} {r : Int32} {I' : MI} {J' : MJ} (hf : f_X7_read I J a1 a2 a3 = some (r, I', J')) : CON l yX7_read wsX7_read rmX7_read D g (wB g I J) [.ref (g.1 0), .int a1, .int a2, .int a3] (some (.int r)) (wB g I' J') := by
  refine con_of (cc := cX7_read) (maxL := 5) (ret := (some .int)) (by decide) rfl (Nat.le_of_ble_eq_true rfl) rfl rfl ?_
  intro k C hkl hkD h1 h2 h3
  subst hkl; subst hkD
  have hr : RTW k wB g cX7_read .int (r, I', J') := rtw_of h2
  unfold f_X7_read at hf
  refine V.loc (lv' := [(0, .ref (g.1 0)), (1, .int a1), (2, .int a2), (3, .int a3)]) [0, 1, 2, 3] rfl ?_
  refine r_iload_n C dX7_read_0 rfl 2 rfl ?_
  obtain ⟨r2, hq1, hf⟩ := bo1_e hf
  refine r_callS (o := some (.int r2)) (w' := (wB g I J)) (As := [.int a2]) (rest := []) C (c_X7_isReadable hq1) dX7_read_1 gX7_read_X7_isReadable rfl rfl rfl hd_X7_isReadable ⟨by decide, by decide⟩ rfl rfl (Nat.le_of_ble_eq_true rfl) ?_
  refine r_if_eq (tgt := 30) C dX7_read_4 (by decide) (fun q4 => ?_) (fun q4 => ?_)
  · have hf := itp hf q4
    exact mB_X7_read_30 C hr _ _ _ _ _ hf
  · have hf := itn hf q4
    refine r_iload_n C dX7_read_7 rfl 3 rfl ?_
    obtain ⟨r4, hq3, hf⟩ := bo1_e hf
    refine r_callS (o := some (.int r4)) (w' := (wB g I J)) (As := [.int a3]) (rest := []) C (c_X7_isReadable hq3) dX7_read_8 gX7_read_X7_isReadable rfl rfl rfl hd_X7_isReadable ⟨by decide, by decide⟩ rfl rfl (Nat.le_of_ble_eq_true rfl) ?_
    refine r_if_eq (tgt := 30) C dX7_read_11 (by decide) (fun q11 => ?_) (fun q11 => ?_)
    · have hf := itp hf q11
      exact mB_X7_read_30 C hr _ _ _ _ _ hf
    · have hf := itn hf q11
      refine r_iload_n C dX7_read_14 rfl 2 rfl ?_
      refine r_bipush (v := (-9 : Int32)) C dX7_read_15 (by decide) ?_
      refine r_icmp_ne (tgt := 26) C dX7_read_17 (by decide) (fun q17 => ?_) (fun q17 => ?_)
      · have hf := itn hf q17
        exact mB_X7_read_26 C hr _ _ _ _ _ hf
      · have hf := itp hf q17
        refine r_iload_n C dX7_read_20 rfl 3 rfl ?_
        refine r_bipush (v := (-9 : Int32)) C dX7_read_21 (by decide) ?_
        refine r_icmp_eq (tgt := 30) C dX7_read_23 (by decide) (fun q23 => ?_) (fun q23 => ?_)
        · have hf := itp hf q23
          exact mB_X7_read_30 C hr _ _ _ _ _ hf
        · have hf := itn hf q23
          exact mB_X7_read_26 C hr _ _ _ _ _ hf
abbrev rmX7_wipe : Room := { frames := 0, cells := 0, slots := 0, locals := 0 }
theorem hd_X7_wipe : yX7_wipe.cls = RX7 ∧ yX7_wipe.cls ≠ "java/lang/invoke/MethodHandle" ∧ yX7_wipe.cls ≠ "java/lang/invoke/VarHandle" ∧ (parseMethodDescriptor yX7_wipe.desc).map (fun d => d.parameters.length) = some 0 := by decide +kernel
theorem kX7_wipe_0 : Cond.fieldLink RX7 55 (TX7 7).1 (TX7 7).2.1 (TX7 7).2.2.1 ∈ wsX7_wipe := by decide +kernel
theorem kX7_wipe_1 : ∀ w ∈ u_ws RX7 TX7 13, w ∈ wsX7_wipe := by decide +kernel
theorem kX7_wipe_2 : Cond.fieldLink RX7 250 (TX2 3).1 (TX2 3).2.1 (TX2 3).2.2.1 ∈ wsX7_wipe := by decide +kernel
theorem kX7_wipe_3 : ∀ w ∈ u_ws RX2 TX2 6, w ∈ wsX7_wipe := by decide +kernel
set_option maxRecDepth 100000 in
set_option maxHeartbeats 4000000 in
theorem c_X7_wipe {l : Launch} {D : va_G} {g : GG} {I : MI} {J : MJ} {r : Int32} {I' : MI} {J' : MJ} (hf : f_X7_wipe I J = some (r, I', J')) : CON l yX7_wipe wsX7_wipe rmX7_wipe D g (wB g I J) [.ref (g.1 0)] (some (.int r)) (wB g I' J') := by
  refine con_of (cc := cX7_wipe) (maxL := 2) (ret := (some .int)) (by decide) rfl (Nat.le_of_ble_eq_true rfl) rfl rfl ?_
  intro k C hkl hkD h1 h2 h3
  subst hkl; subst hkD
  have hr : RTW k wB g cX7_wipe .int (r, I', J') := rtw_of h2
  unfold f_X7_wipe at hf
  refine V.loc (lv' := [(0, .ref (g.1 0))]) [0] rfl ?_
  refine r_aload_n C dX7_wipe_0 rfl 0 rfl ?_
  refine r_get C dX7_wipe_1 kX7_wipe_1 0 bg_0 rfl 7 (by decide) kX7_wipe_0 bv_0_7 ?_
  refine r_get C dX7_wipe_4 kX7_wipe_3 26 bg_26 rfl 3 (by decide) kX7_wipe_2 bv_26_3 ?_
  refine r_nmi (fun v1 ev1 => ?_)
  have hf := bnd_e hf v1 ev1
  refine r_istore_n (lv' := [(0, .ref (g.1 0)), (1, .int v1)]) C dX7_wipe_7 rfl (by decide) [1, 0] rfl ?_
  refine r_aload_n C dX7_wipe_8 rfl 0 rfl ?_
  refine r_get C dX7_wipe_9 kX7_wipe_1 0 bg_0 rfl 7 (by decide) kX7_wipe_0 bv_0_7 ?_
  refine r_iconst (v := (0 : Int32)) C dX7_wipe_12 (by decide) ?_
  refine r_put (ty := .int) C dX7_wipe_13 kX7_wipe_3 tyX2 tyX2_ok nmX2 26 bg_26 rfl 3 (by decide) kX7_wipe_2 rfl rfl rfl rfl (Nat.le_of_ble_eq_true rfl) bs_26_3 ?_
  refine nmIB (fun I2 eI2 => ?_)
  have hf := bnd_e hf I2 eI2
  refine r_iload_n C dX7_wipe_16 rfl 1 rfl ?_
  exact hr _ _ _ _ _ dX7_wipe_17 rfl hf
abbrev rmX7_tolerance : Room := { frames := 1, cells := 0, slots := 0, locals := 22 }
theorem hd_X7_tolerance : yX7_tolerance.cls = RX7 ∧ yX7_tolerance.cls ≠ "java/lang/invoke/MethodHandle" ∧ yX7_tolerance.cls ≠ "java/lang/invoke/VarHandle" ∧ (parseMethodDescriptor yX7_tolerance.desc).map (fun d => d.parameters.length) = some 2 := by decide +kernel
theorem kX7_tolerance_0 : Cond.fieldLink RX7 55 (TX7 7).1 (TX7 7).2.1 (TX7 7).2.2.1 ∈ wsX7_tolerance := by decide +kernel
theorem kX7_tolerance_1 : ∀ w ∈ u_ws RX7 TX7 13, w ∈ wsX7_tolerance := by decide +kernel
theorem kX7_tolerance_2 : Cond.fieldLink RX7 254 (TX2 5).1 (TX2 5).2.1 (TX2 5).2.2.1 ∈ wsX7_tolerance := by decide +kernel
theorem kX7_tolerance_3 : ∀ w ∈ u_ws RX2 TX2 6, w ∈ wsX7_tolerance := by decide +kernel
theorem kX7_tolerance_4 : Cond.fieldLink RX7 251 (TX2 4).1 (TX2 4).2.1 (TX2 4).2.2.1 ∈ wsX7_tolerance := by decide +kernel
set_option maxRecDepth 100000 in
set_option maxHeartbeats 4000000 in
theorem mB_X7_tolerance_33 {k : CT} {g : GG} (C : CX k cX7_tolerance 4 RX7 wsX7_tolerance rmX7_tolerance g) {ρ : (Int32 × MI × MJ)} (hr : RTW k wB g cX7_tolerance .int ρ) : ∀ (I : MI) (J : MJ) (x1 : Int32) (x2 : Int32), LB_X7_tolerance_33 I J x1 x2 = some ρ → V k (wB g I J) 33 [(0, .ref (g.1 0)), (1, .int x1), (2, .int x2)] [] := by
  intro I J x1 x2 hf
  unfold LB_X7_tolerance_33 at hf
  refine r_iload_n C dX7_tolerance_33 rfl 1 rfl ?_
  refine r_iconst (v := (1 : Int32)) C dX7_tolerance_34 (by decide) ?_
  refine r_icmp_ne (tgt := 66) C dX7_tolerance_35 (by decide) (fun q35 => ?_) (fun q35 => ?_)
  · have hf := itn hf q35
    refine r_iconst (v := (-1 : Int32)) C dX7_tolerance_66 (by decide) ?_
    exact hr _ _ _ _ _ dX7_tolerance_67 rfl hf
  · have hf := itp hf q35
    refine r_iload_n C dX7_tolerance_38 rfl 2 rfl ?_
    refine r_iconst (v := (0 : Int32)) C dX7_tolerance_39 (by decide) ?_
    refine r_bipush (v := (50 : Int32)) C dX7_tolerance_40 (by decide) ?_
    obtain ⟨r2, hq1, hf⟩ := bo1_e hf
    refine r_callS (o := some (.int r2)) (w' := (wB g I J)) (As := [.int x2, .int (0 : Int32), .int (50 : Int32)]) (rest := []) C (c_X7_within hq1) dX7_tolerance_42 gX7_tolerance_X7_within rfl rfl rfl hd_X7_within ⟨by decide, by decide⟩ rfl rfl (Nat.le_of_ble_eq_true rfl) ?_
    refine r_if_eq (tgt := 66) C dX7_tolerance_45 (by decide) (fun q45 => ?_) (fun q45 => ?_)
    · have hf := itp hf q45
      refine r_iconst (v := (-1 : Int32)) C dX7_tolerance_66 (by decide) ?_
      exact hr _ _ _ _ _ dX7_tolerance_67 rfl hf
    · have hf := itn hf q45
      refine r_aload_n C dX7_tolerance_48 rfl 0 rfl ?_
      refine r_get C dX7_tolerance_49 kX7_tolerance_1 0 bg_0 rfl 7 (by decide) kX7_tolerance_0 bv_0_7 ?_
      refine r_get C dX7_tolerance_52 kX7_tolerance_3 26 bg_26 rfl 5 (by decide) kX7_tolerance_2 bv_26_5 ?_
      refine r_nmi (fun v3 ev3 => ?_)
      have hf := bnd_e hf v3 ev3
      refine r_istore_n (lv' := [(0, .ref (g.1 0)), (1, .int x1), (2, .int x2), (3, .int v3)]) C dX7_tolerance_55 rfl (by decide) [1, 2, 3, 0] rfl ?_
      refine r_aload_n C dX7_tolerance_56 rfl 0 rfl ?_
      refine r_get C dX7_tolerance_57 kX7_tolerance_1 0 bg_0 rfl 7 (by decide) kX7_tolerance_0 bv_0_7 ?_
      refine r_iload_n C dX7_tolerance_60 rfl 2 rfl ?_
      refine r_put (ty := .int) C dX7_tolerance_61 kX7_tolerance_3 tyX2 tyX2_ok nmX2 26 bg_26 rfl 5 (by decide) kX7_tolerance_2 rfl rfl rfl rfl (Nat.le_of_ble_eq_true rfl) bs_26_5 ?_
      refine nmIB (fun I4 eI4 => ?_)
      have hf := bnd_e hf I4 eI4
      refine r_iload_n C dX7_tolerance_64 rfl 3 rfl ?_
      exact hr _ _ _ _ _ dX7_tolerance_65 rfl hf
set_option maxRecDepth 100000 in
set_option maxHeartbeats 4000000 in
theorem c_X7_tolerance {l : Launch} {D : va_G} {g : GG} {I : MI} {J : MJ} {a1 : Int32} {a2 : Int32} {r : Int32} {I' : MI} {J' : MJ} (hf : f_X7_tolerance I J a1 a2 = some (r, I', J')) : CON l yX7_tolerance wsX7_tolerance rmX7_tolerance D g (wB g I J) [.ref (g.1 0), .int a1, .int a2] (some (.int r)) (wB g I' J') := by
  refine con_of (cc := cX7_tolerance) (maxL := 4) (ret := (some .int)) (by decide) rfl (Nat.le_of_ble_eq_true rfl) rfl rfl ?_
  intro k C hkl hkD h1 h2 h3
  subst hkl; subst hkD
  have hr : RTW k wB g cX7_tolerance .int (r, I', J') := rtw_of h2
  unfold f_X7_tolerance at hf
  refine V.loc (lv' := [(0, .ref (g.1 0)), (1, .int a1), (2, .int a2)]) [0, 1, 2] rfl ?_
  refine r_iload_n C dX7_tolerance_0 rfl 1 rfl ?_
  refine r_if_ne (tgt := 33) C dX7_tolerance_1 (by decide) (fun q1 => ?_) (fun q1 => ?_)
  · have hf := itn hf q1
    exact mB_X7_tolerance_33 C hr _ _ _ _ hf
  · have hf := itp hf q1
    refine r_iload_n C dX7_tolerance_4 rfl 2 rfl ?_
    refine r_iconst (v := (0 : Int32)) C dX7_tolerance_5 (by decide) ?_
    refine r_sipush (v := (500 : Int32)) C dX7_tolerance_6 (by decide) ?_
    obtain ⟨r2, hq1, hf⟩ := bo1_e hf
    refine r_callS (o := some (.int r2)) (w' := (wB g I J)) (As := [.int a2, .int (0 : Int32), .int (500 : Int32)]) (rest := []) C (c_X7_within hq1) dX7_tolerance_9 gX7_tolerance_X7_within rfl rfl rfl hd_X7_within ⟨by decide, by decide⟩ rfl rfl (Nat.le_of_ble_eq_true rfl) ?_
    refine r_if_eq (tgt := 33) C dX7_tolerance_12 (by decide) (fun q12 => ?_) (fun q12 => ?_)
    · have hf := itp hf q12
      exact mB_X7_tolerance_33 C hr _ _ _ _ hf
    · have hf := itn hf q12
      refine r_aload_n C dX7_tolerance_15 rfl 0 rfl ?_
      refine r_get C dX7_tolerance_16 kX7_tolerance_1 0 bg_0 rfl 7 (by decide) kX7_tolerance_0 bv_0_7 ?_
      refine r_get C dX7_tolerance_19 kX7_tolerance_3 26 bg_26 rfl 4 (by decide) kX7_tolerance_4 bv_26_4 ?_
      refine r_nmi (fun v3 ev3 => ?_)
      have hf := bnd_e hf v3 ev3
      refine r_istore_n (lv' := [(0, .ref (g.1 0)), (1, .int a1), (2, .int a2), (3, .int v3)]) C dX7_tolerance_22 rfl (by decide) [1, 2, 3, 0] rfl ?_
      refine r_aload_n C dX7_tolerance_23 rfl 0 rfl ?_
      refine r_get C dX7_tolerance_24 kX7_tolerance_1 0 bg_0 rfl 7 (by decide) kX7_tolerance_0 bv_0_7 ?_
      refine r_iload_n C dX7_tolerance_27 rfl 2 rfl ?_
      refine r_put (ty := .int) C dX7_tolerance_28 kX7_tolerance_3 tyX2 tyX2_ok nmX2 26 bg_26 rfl 4 (by decide) kX7_tolerance_4 rfl rfl rfl rfl (Nat.le_of_ble_eq_true rfl) bs_26_4 ?_
      refine nmIB (fun I4 eI4 => ?_)
      have hf := bnd_e hf I4 eI4
      refine r_iload_n C dX7_tolerance_31 rfl 3 rfl ?_
      exact hr _ _ _ _ _ dX7_tolerance_32 rfl hf
abbrev rmX1_suffer : Room := { frames := 2, cells := 0, slots := 0, locals := 44 }
theorem hd_X1_suffer : yX1_suffer.cls = RX1 ∧ yX1_suffer.cls ≠ "java/lang/invoke/MethodHandle" ∧ yX1_suffer.cls ≠ "java/lang/invoke/VarHandle" ∧ (parseMethodDescriptor yX1_suffer.desc).map (fun d => d.parameters.length) = some 1 := by decide +kernel
set_option maxRecDepth 100000 in
set_option maxHeartbeats 4000000 in
theorem c_X1_suffer {l : Launch} {D : va_G} {g : GG} {I : MI} {J : MJ} {c : Nat} {a1 : Int32} {I' : MI} {J' : MJ} (hc : RC c) (hf : f_X1_suffer c I J a1 = some (I', J')) : CON l yX1_suffer wsX1_suffer rmX1_suffer D g (wB g I J) [.ref (g.1 c), .int a1] none (wB g I' J') := by
  refine con_of (cc := cX1_suffer) (maxL := 2) (ret := none) (by decide) rfl (Nat.le_of_ble_eq_true rfl) rfl rfl ?_
  intro k C hkl hkD h1 h2 h3
  subst hkl; subst hkD
  have hr : RTV k wB g cX1_suffer (I', J') := rtv_of h1
  unfold f_X1_suffer at hf
  refine V.loc (lv' := [(0, .ref (g.1 c)), (1, .int a1)]) [0, 1] rfl ?_
  refine r_aload_n C dX1_suffer_0 rfl 0 rfl ?_
  refine r_bipush (v := (7 : Int32)) C dX1_suffer_1 (by decide) ?_
  refine r_iload_n C dX1_suffer_3 rfl 1 rfl ?_
  refine r_iconst (v := (3 : Int32)) C dX1_suffer_4 (by decide) ?_
  refine r_iand C dX1_suffer_5 ?_
  obtain ⟨I2, J3, hq1, hf⟩ := bo2_e hf
  refine r_callV (o := none) (w' := (wB g I2 J3)) (As := [.int (7 : Int32), .int (a1 &&& (3 : Int32))]) (rest := []) C (c_X1_put hc hq1) dX1_suffer_6 gX1_suffer_X1_put rfl rfl rfl hd_X1_put ⟨by decide, by decide⟩ c (brg hc) rfl rfl rfl rfl (Nat.le_of_ble_eq_true rfl) ?_
  refine r_aload_n C dX1_suffer_9 rfl 0 rfl ?_
  refine r_bipush (v := (8 : Int32)) C dX1_suffer_10 (by decide) ?_
  refine r_iload_n C dX1_suffer_12 rfl 1 rfl ?_
  refine r_iconst (v := (2 : Int32)) C dX1_suffer_13 (by decide) ?_
  refine r_ishr C dX1_suffer_14 ?_
  refine r_iconst (v := (3 : Int32)) C dX1_suffer_15 (by decide) ?_
  refine r_iand C dX1_suffer_16 ?_
  obtain ⟨I5, J6, hq4, hf⟩ := bo2_e hf
  refine r_callV (o := none) (w' := (wB g I5 J6)) (As := [.int (8 : Int32), .int ((a1 >>> ((2 : Int32) &&& 31)) &&& (3 : Int32))]) (rest := []) C (c_X1_put hc hq4) dX1_suffer_17 gX1_suffer_X1_put rfl rfl rfl hd_X1_put ⟨by decide, by decide⟩ c (brg hc) rfl rfl rfl rfl (Nat.le_of_ble_eq_true rfl) ?_
  refine r_aload_n C dX1_suffer_20 rfl 0 rfl ?_
  refine r_bipush (v := (9 : Int32)) C dX1_suffer_21 (by decide) ?_
  refine r_iload_n C dX1_suffer_23 rfl 1 rfl ?_
  refine r_iconst (v := (4 : Int32)) C dX1_suffer_24 (by decide) ?_
  refine r_ishr C dX1_suffer_25 ?_
  refine r_iconst (v := (3 : Int32)) C dX1_suffer_26 (by decide) ?_
  refine r_iand C dX1_suffer_27 ?_
  obtain ⟨I8, J9, hq7, hf⟩ := bo2_e hf
  refine r_callV (o := none) (w' := (wB g I8 J9)) (As := [.int (9 : Int32), .int ((a1 >>> ((4 : Int32) &&& 31)) &&& (3 : Int32))]) (rest := []) C (c_X1_put hc hq7) dX1_suffer_28 gX1_suffer_X1_put rfl rfl rfl hd_X1_put ⟨by decide, by decide⟩ c (brg hc) rfl rfl rfl rfl (Nat.le_of_ble_eq_true rfl) ?_
  refine r_aload_n C dX1_suffer_31 rfl 0 rfl ?_
  refine r_bipush (v := (6 : Int32)) C dX1_suffer_32 (by decide) ?_
  refine r_getsN C dX1_suffer_34 C.S.2.2.2 (C.N.2.2.2.2.2.2.2.2.2.1) ?_
  refine r_iload_n C dX1_suffer_37 rfl 1 rfl ?_
  refine r_bipush (v := (6 : Int32)) C dX1_suffer_38 (by decide) ?_
  refine r_ishr C dX1_suffer_40 ?_
  refine r_iconst (v := (3 : Int32)) C dX1_suffer_41 (by decide) ?_
  refine r_iand C dX1_suffer_42 ?_
  obtain ⟨h10, hf⟩ := chk_e hf
  refine r_tald (j := ((a1 >>> ((6 : Int32) &&& 31)) &&& (3 : Int32)).toNatClampNeg) (f := sAIR) C dX1_suffer_43 C.S.2.2.2 (inb_e h10) rfl ?_
  obtain ⟨I12, J13, hq11, hf⟩ := bo2_e hf
  refine r_callV (o := none) (w' := (wB g I12 J13)) (As := [.int (6 : Int32), .int (sAIR ((a1 >>> ((6 : Int32) &&& 31)) &&& (3 : Int32)).toNatClampNeg)]) (rest := []) C (c_X1_put hc hq11) dX1_suffer_44 gX1_suffer_X1_put rfl rfl rfl hd_X1_put ⟨by decide, by decide⟩ c (brg hc) rfl rfl rfl rfl (Nat.le_of_ble_eq_true rfl) ?_
  exact hr _ _ _ _ dX1_suffer_47 hf
abbrev rmX2_isNearBeats : Room := { frames := 1, cells := 0, slots := 0, locals := 21 }
theorem hd_X2_isNearBeats : yX2_isNearBeats.cls = RX2 ∧ yX2_isNearBeats.cls ≠ "java/lang/invoke/MethodHandle" ∧ yX2_isNearBeats.cls ≠ "java/lang/invoke/VarHandle" ∧ (parseMethodDescriptor yX2_isNearBeats.desc).map (fun d => d.parameters.length) = some 2 := by decide +kernel
theorem kX2_isNearBeats_0 : Cond.fieldLink RX2 15 (TX2 1).1 (TX2 1).2.1 (TX2 1).2.2.1 ∈ wsX2_isNearBeats := by decide +kernel
theorem kX2_isNearBeats_1 : ∀ w ∈ u_ws RX2 TX2 6, w ∈ wsX2_isNearBeats := by decide +kernel
theorem kX2_isNearBeats_2 : Cond.methodLink RX2 47 Lib.Math.abs.name ∈ wsX2_isNearBeats := by decide +kernel
theorem kX2_isNearBeats_3 : Cond.static Lib.Math.abs.name ∈ wsX2_isNearBeats := by decide +kernel
theorem kX2_isNearBeats_4 : Cond.initialized "java/lang/Math" ∈ wsX2_isNearBeats := by decide +kernel
theorem kX2_isNearBeats_5 : Cond.code Lib.Math.abs.name Lib.Math.abs.code 1 (some .int) ∈ wsX2_isNearBeats := by decide +kernel
theorem kX2_isNearBeats_6 : Cond.fieldLink RX2 25 (TX2 4).1 (TX2 4).2.1 (TX2 4).2.2.1 ∈ wsX2_isNearBeats := by decide +kernel
set_option maxRecDepth 100000 in
set_option maxHeartbeats 4000000 in
theorem c_X2_isNearBeats {l : Launch} {D : va_G} {g : GG} {I : MI} {J : MJ} {a1 : Int32} {a2 : Int32} {r : Int32} (hf : f_X2_isNearBeats I J a1 a2 = some r) : CON l yX2_isNearBeats wsX2_isNearBeats rmX2_isNearBeats D g (wB g I J) [.ref (g.1 26), .int a1, .int a2] (some (.int r)) (wB g I J) := by
  refine con_of (cc := cX2_isNearBeats) (maxL := 3) (ret := (some .boolean)) (by decide) rfl (Nat.le_of_ble_eq_true rfl) rfl rfl ?_
  intro k C hkl hkD h1 h2 h3
  subst hkl; subst hkD
  have hr : RRW k (wB g I J) cX2_isNearBeats .boolean r := rrw_of h2
  unfold f_X2_isNearBeats at hf
  refine V.loc (lv' := [(0, .ref (g.1 26)), (1, .int a1), (2, .int a2)]) [0, 1, 2] rfl ?_
  refine r_aload_n C dX2_isNearBeats_0 rfl 0 rfl ?_
  refine r_get C dX2_isNearBeats_1 kX2_isNearBeats_1 26 bg_26 rfl 1 (by decide) kX2_isNearBeats_0 bv_26_1 ?_
  refine r_iload_n C dX2_isNearBeats_4 rfl 1 rfl ?_
  obtain ⟨h1, hf⟩ := chk_e hf
  refine r_iald (j := a1.toNatClampNeg) C dX2_isNearBeats_5 28 bg_28 (inb_e h1) rfl ?_
  refine r_bipush (v := (-9 : Int32)) C dX2_isNearBeats_6 (by decide) ?_
  refine r_icmp_eq (tgt := 29) C dX2_isNearBeats_8 (by decide) (fun q8 => ?_) (fun q8 => ?_)
  · have hf := itp hf q8
    refine r_iconst (v := (1 : Int32)) C dX2_isNearBeats_29 (by decide) ?_
    refine r_goto (tgt := 34) C dX2_isNearBeats_30 (by decide) ?_
    exact hr _ _ _ dX2_isNearBeats_34 nb1 hf
  · have hf := itn hf q8
    refine r_iload_n C dX2_isNearBeats_11 rfl 2 rfl ?_
    refine r_aload_n C dX2_isNearBeats_12 rfl 0 rfl ?_
    refine r_get C dX2_isNearBeats_13 kX2_isNearBeats_1 26 bg_26 rfl 1 (by decide) kX2_isNearBeats_0 bv_26_1 ?_
    refine r_iload_n C dX2_isNearBeats_16 rfl 1 rfl ?_
    obtain ⟨h2, hf⟩ := chk_e hf
    refine r_iald (j := a1.toNatClampNeg) C dX2_isNearBeats_17 28 bg_28 (inb_e h2) rfl ?_
    refine r_isub C dX2_isNearBeats_18 ?_
    refine r_mabs C dX2_isNearBeats_19 kX2_isNearBeats_2 kX2_isNearBeats_3 kX2_isNearBeats_4 kX2_isNearBeats_5 (by decide) (Nat.le_of_ble_eq_true rfl) ?_
    refine r_aload_n C dX2_isNearBeats_22 rfl 0 rfl ?_
    refine r_get C dX2_isNearBeats_23 kX2_isNearBeats_1 26 bg_26 rfl 4 (by decide) kX2_isNearBeats_6 bv_26_4 ?_
    refine r_icmp_gt (tgt := 33) C dX2_isNearBeats_26 (by decide) (fun q26 => ?_) (fun q26 => ?_)
    · have hf := itp hf q26
      refine r_iconst (v := (0 : Int32)) C dX2_isNearBeats_33 (by decide) ?_
      exact hr _ _ _ dX2_isNearBeats_34 nb0 hf
    · have hf := itn hf q26
      refine r_iconst (v := (1 : Int32)) C dX2_isNearBeats_29 (by decide) ?_
      refine r_goto (tgt := 34) C dX2_isNearBeats_30 (by decide) ?_
      exact hr _ _ _ dX2_isNearBeats_34 nb1 hf
abbrev rmX2_isNearUp : Room := { frames := 1, cells := 0, slots := 0, locals := 21 }
theorem hd_X2_isNearUp : yX2_isNearUp.cls = RX2 ∧ yX2_isNearUp.cls ≠ "java/lang/invoke/MethodHandle" ∧ yX2_isNearUp.cls ≠ "java/lang/invoke/VarHandle" ∧ (parseMethodDescriptor yX2_isNearUp.desc).map (fun d => d.parameters.length) = some 2 := by decide +kernel
theorem kX2_isNearUp_0 : Cond.fieldLink RX2 18 (TX2 2).1 (TX2 2).2.1 (TX2 2).2.2.1 ∈ wsX2_isNearUp := by decide +kernel
theorem kX2_isNearUp_1 : ∀ w ∈ u_ws RX2 TX2 6, w ∈ wsX2_isNearUp := by decide +kernel
theorem kX2_isNearUp_2 : Cond.methodLink RX2 47 Lib.Math.abs.name ∈ wsX2_isNearUp := by decide +kernel
theorem kX2_isNearUp_3 : Cond.static Lib.Math.abs.name ∈ wsX2_isNearUp := by decide +kernel
theorem kX2_isNearUp_4 : Cond.initialized "java/lang/Math" ∈ wsX2_isNearUp := by decide +kernel
theorem kX2_isNearUp_5 : Cond.code Lib.Math.abs.name Lib.Math.abs.code 1 (some .int) ∈ wsX2_isNearUp := by decide +kernel
theorem kX2_isNearUp_6 : Cond.fieldLink RX2 28 (TX2 5).1 (TX2 5).2.1 (TX2 5).2.2.1 ∈ wsX2_isNearUp := by decide +kernel
set_option maxRecDepth 100000 in
set_option maxHeartbeats 4000000 in
theorem c_X2_isNearUp {l : Launch} {D : va_G} {g : GG} {I : MI} {J : MJ} {a1 : Int32} {a2 : Int32} {r : Int32} (hf : f_X2_isNearUp I J a1 a2 = some r) : CON l yX2_isNearUp wsX2_isNearUp rmX2_isNearUp D g (wB g I J) [.ref (g.1 26), .int a1, .int a2] (some (.int r)) (wB g I J) := by
  refine con_of (cc := cX2_isNearUp) (maxL := 3) (ret := (some .boolean)) (by decide) rfl (Nat.le_of_ble_eq_true rfl) rfl rfl ?_
  intro k C hkl hkD h1 h2 h3
  subst hkl; subst hkD
  have hr : RRW k (wB g I J) cX2_isNearUp .boolean r := rrw_of h2
  unfold f_X2_isNearUp at hf
  refine V.loc (lv' := [(0, .ref (g.1 26)), (1, .int a1), (2, .int a2)]) [0, 1, 2] rfl ?_
  refine r_aload_n C dX2_isNearUp_0 rfl 0 rfl ?_
  refine r_get C dX2_isNearUp_1 kX2_isNearUp_1 26 bg_26 rfl 2 (by decide) kX2_isNearUp_0 bv_26_2 ?_
  refine r_iload_n C dX2_isNearUp_4 rfl 1 rfl ?_
  obtain ⟨h1, hf⟩ := chk_e hf
  refine r_iald (j := a1.toNatClampNeg) C dX2_isNearUp_5 29 bg_29 (inb_e h1) rfl ?_
  refine r_bipush (v := (-9 : Int32)) C dX2_isNearUp_6 (by decide) ?_
  refine r_icmp_eq (tgt := 39) C dX2_isNearUp_8 (by decide) (fun q8 => ?_) (fun q8 => ?_)
  · have hf := itp hf q8
    refine r_iconst (v := (1 : Int32)) C dX2_isNearUp_39 (by decide) ?_
    refine r_goto (tgt := 44) C dX2_isNearUp_40 (by decide) ?_
    exact hr _ _ _ dX2_isNearUp_44 nb1 hf
  · have hf := itn hf q8
    refine r_iload_n C dX2_isNearUp_11 rfl 2 rfl ?_
    refine r_aload_n C dX2_isNearUp_12 rfl 0 rfl ?_
    refine r_get C dX2_isNearUp_13 kX2_isNearUp_1 26 bg_26 rfl 2 (by decide) kX2_isNearUp_0 bv_26_2 ?_
    refine r_iload_n C dX2_isNearUp_16 rfl 1 rfl ?_
    obtain ⟨h2, hf⟩ := chk_e hf
    refine r_iald (j := a1.toNatClampNeg) C dX2_isNearUp_17 29 bg_29 (inb_e h2) rfl ?_
    refine r_isub C dX2_isNearUp_18 ?_
    refine r_mabs C dX2_isNearUp_19 kX2_isNearUp_2 kX2_isNearUp_3 kX2_isNearUp_4 kX2_isNearUp_5 (by decide) (Nat.le_of_ble_eq_true rfl) ?_
    refine r_aload_n C dX2_isNearUp_22 rfl 0 rfl ?_
    refine r_get C dX2_isNearUp_23 kX2_isNearUp_1 26 bg_26 rfl 2 (by decide) kX2_isNearUp_0 bv_26_2 ?_
    refine r_iload_n C dX2_isNearUp_26 rfl 1 rfl ?_
    obtain ⟨h3, hf⟩ := chk_e hf
    refine r_iald (j := a1.toNatClampNeg) C dX2_isNearUp_27 29 bg_29 (inb_e h3) rfl ?_
    refine r_aload_n C dX2_isNearUp_28 rfl 0 rfl ?_
    refine r_get C dX2_isNearUp_29 kX2_isNearUp_1 26 bg_26 rfl 5 (by decide) kX2_isNearUp_6 bv_26_5 ?_
    refine r_imul C dX2_isNearUp_32 ?_
    refine r_bipush (v := (100 : Int32)) C dX2_isNearUp_33 (by decide) ?_
    refine r_idiv C dX2_isNearUp_35 (by decide) ?_
    refine r_icmp_gt (tgt := 43) C dX2_isNearUp_36 (by decide) (fun q36 => ?_) (fun q36 => ?_)
    · have hf := itp hf q36
      refine r_iconst (v := (0 : Int32)) C dX2_isNearUp_43 (by decide) ?_
      exact hr _ _ _ dX2_isNearUp_44 nb0 hf
    · have hf := itn hf q36
      refine r_iconst (v := (1 : Int32)) C dX2_isNearUp_39 (by decide) ?_
      refine r_goto (tgt := 44) C dX2_isNearUp_40 (by decide) ?_
      exact hr _ _ _ dX2_isNearUp_44 nb1 hf
abbrev rmX2_agreeWith : Room := { frames := 4, cells := 0, slots := 0, locals := 93 }
theorem hd_X2_agreeWith : yX2_agreeWith.cls = RX2 ∧ yX2_agreeWith.cls ≠ "java/lang/invoke/MethodHandle" ∧ yX2_agreeWith.cls ≠ "java/lang/invoke/VarHandle" ∧ (parseMethodDescriptor yX2_agreeWith.desc).map (fun d => d.parameters.length) = some 2 := by decide +kernel
theorem kX2_agreeWith_0 : Cond.fieldLink RX2 21 (TX2 3).1 (TX2 3).2.1 (TX2 3).2.2.1 ∈ wsX2_agreeWith := by decide +kernel
theorem kX2_agreeWith_1 : ∀ w ∈ u_ws RX2 TX2 6, w ∈ wsX2_agreeWith := by decide +kernel
theorem kX2_agreeWith_2 : Cond.fieldLink RX2 11 (TX2 0).1 (TX2 0).2.1 (TX2 0).2.2.1 ∈ wsX2_agreeWith := by decide +kernel
set_option maxRecDepth 100000 in
set_option maxHeartbeats 4000000 in
theorem mB_X2_agreeWith_14 {k : CT} {g : GG} (C : CX k cX2_agreeWith 6 RX2 wsX2_agreeWith rmX2_agreeWith g) {ρ : (Int32 × MI × MJ)} (hr : RTW k wB g cX2_agreeWith .boolean ρ) {kk14 : MI → MJ → Int32 → Int32 → Int32 → Int32 → Option (Int32 × MI × MJ)} (hk14 : ∀ (I : MI) (J : MJ) (x1 : Int32) (x3 : Int32) (x4 : Int32) (x5 : Int32), kk14 I J x1 x3 x4 x5 = some ρ → V k (wB g I J) 14 [(0, .ref (g.1 26)), (1, .int x1), (3, .int x3), (4, .int x4), (5, .int x5)] []) : ∀ (I : MI) (J : MJ) (x1 : Int32) (x3 : Int32) (x4 : Int32) (x5 : Int32), LB_X2_agreeWith_14 kk14 I J x1 x3 x4 x5 = some ρ → V k (wB g I J) 14 [(0, .ref (g.1 26)), (1, .int x1), (3, .int x3), (4, .int x4), (5, .int x5)] [] := by
  intro I J x1 x3 x4 x5 hf
  unfold LB_X2_agreeWith_14 at hf
  refine r_iload C dX2_agreeWith_14 4 rfl ?_
  refine r_aload_n C dX2_agreeWith_16 rfl 0 rfl ?_
  refine r_get C dX2_agreeWith_17 kX2_agreeWith_1 26 bg_26 rfl 3 (by decide) kX2_agreeWith_0 bv_26_3 ?_
  refine r_icmp_ge (tgt := 63) C dX2_agreeWith_20 (by decide) (fun q20 => ?_) (fun q20 => ?_)
  · have hf := itp hf q20
    refine r_iconst (v := (1 : Int32)) C dX2_agreeWith_63 (by decide) ?_
    exact hr _ _ _ _ _ dX2_agreeWith_64 nb1 hf
  · have hf := itn hf q20
    refine r_aload_n C dX2_agreeWith_23 rfl 0 rfl ?_
    refine r_get C dX2_agreeWith_24 kX2_agreeWith_1 26 bg_26 rfl 0 (by decide) kX2_agreeWith_2 bv_26_0 ?_
    refine r_iload C dX2_agreeWith_27 4 rfl ?_
    obtain ⟨h1, hf⟩ := chk_e hf
    refine r_iald (j := x5.toNatClampNeg) C dX2_agreeWith_29 27 bg_27 (inb_e h1) rfl ?_
    refine r_iload_n C dX2_agreeWith_30 rfl 1 rfl ?_
    refine r_icmp_ne (tgt := 57) C dX2_agreeWith_31 (by decide) (fun q31 => ?_) (fun q31 => ?_)
    · have hf := itn hf q31
      obtain ⟨v2, ev2⟩ : ∃ z : Int32, z = x5 + (1 : Int32) := ⟨_, rfl⟩
      have hf := bnd_e hf v2 ev2
      refine r_iinc (v := v2) (lv' := [(0, .ref (g.1 26)), (1, .int x1), (3, .int x3), (4, .int x4), (5, .int v2)]) C dX2_agreeWith_57 4 rfl (by rw [ev2]; rfl) (by decide) [1, 2, 3, 4, 0] rfl ?_
      refine r_goto (tgt := 14) C dX2_agreeWith_60 (by decide) ?_
      exact hk14 _ _ _ _ _ _ hf
    · have hf := itp hf q31
      refine r_aload_n C dX2_agreeWith_34 rfl 0 rfl ?_
      refine r_iload C dX2_agreeWith_35 4 rfl ?_
      refine r_iload_n C dX2_agreeWith_37 rfl 2 rfl ?_
      obtain ⟨r4, hq3, hf⟩ := bo1_e hf
      refine r_callV (o := some (.int r4)) (w' := (wB g I J)) (As := [.int x5, .int x3]) (rest := []) C (c_X2_isNearBeats hq3) dX2_agreeWith_38 gX2_agreeWith_X2_isNearBeats rfl rfl rfl hd_X2_isNearBeats ⟨by decide, by decide⟩ 26 bg_26 rfl rfl rfl rfl (Nat.le_of_ble_eq_true rfl) ?_
      refine r_if_eq (tgt := 55) C dX2_agreeWith_41 (by decide) (fun q41 => ?_) (fun q41 => ?_)
      · have hf := itp hf q41
        refine r_iconst (v := (0 : Int32)) C dX2_agreeWith_55 (by decide) ?_
        exact hr _ _ _ _ _ dX2_agreeWith_56 nb0 hf
      · have hf := itn hf q41
        refine r_aload_n C dX2_agreeWith_44 rfl 0 rfl ?_
        refine r_iload C dX2_agreeWith_45 4 rfl ?_
        refine r_iload C dX2_agreeWith_47 3 rfl ?_
        obtain ⟨r6, hq5, hf⟩ := bo1_e hf
        refine r_callV (o := some (.int r6)) (w' := (wB g I J)) (As := [.int x5, .int x4]) (rest := []) C (c_X2_isNearUp hq5) dX2_agreeWith_49 gX2_agreeWith_X2_isNearUp rfl rfl rfl hd_X2_isNearUp ⟨by decide, by decide⟩ 26 bg_26 rfl rfl rfl rfl (Nat.le_of_ble_eq_true rfl) ?_
        refine r_if_ne (tgt := 57) C dX2_agreeWith_52 (by decide) (fun q52 => ?_) (fun q52 => ?_)
        · have hf := itn hf q52
          obtain ⟨v7, ev7⟩ : ∃ z : Int32, z = x5 + (1 : Int32) := ⟨_, rfl⟩
          have hf := bnd_e hf v7 ev7
          refine r_iinc (v := v7) (lv' := [(0, .ref (g.1 26)), (1, .int x1), (3, .int x3), (4, .int x4), (5, .int v7)]) C dX2_agreeWith_57 4 rfl (by rw [ev7]; rfl) (by decide) [1, 2, 3, 4, 0] rfl ?_
          refine r_goto (tgt := 14) C dX2_agreeWith_60 (by decide) ?_
          exact hk14 _ _ _ _ _ _ hf
        · have hf := itp hf q52
          refine r_iconst (v := (0 : Int32)) C dX2_agreeWith_55 (by decide) ?_
          exact hr _ _ _ _ _ dX2_agreeWith_56 nb0 hf
theorem mL_X2_agreeWith_14 {k : CT} {g : GG} (C : CX k cX2_agreeWith 6 RX2 wsX2_agreeWith rmX2_agreeWith g) {ρ : (Int32 × MI × MJ)} (hr : RTW k wB g cX2_agreeWith .boolean ρ) : ∀ (n : Nat) (I : MI) (J : MJ) (x1 : Int32) (x3 : Int32) (x4 : Int32) (x5 : Int32), LP_X2_agreeWith_14 n I J x1 x3 x4 x5 = some ρ → V k (wB g I J) 14 [(0, .ref (g.1 26)), (1, .int x1), (3, .int x3), (4, .int x4), (5, .int x5)] [] := by
  intro n
  induction n with
  | zero => intro I J x1 x3 x4 x5 hf; cases hf
  | succ n ih => intro I J x1 x3 x4 x5 hf; exact mB_X2_agreeWith_14 C hr (fun I J x1 x3 x4 x5 h => ih I J x1 x3 x4 x5 h) I J x1 x3 x4 x5 hf
set_option maxRecDepth 100000 in
set_option maxHeartbeats 4000000 in
theorem c_X2_agreeWith {l : Launch} {D : va_G} {g : GG} {I : MI} {J : MJ} {a1 : Int32} {c2 : Nat} {r : Int32} {I' : MI} {J' : MJ} (hc2 : RC c2) (hf : f_X2_agreeWith I J a1 c2 = some (r, I', J')) : CON l yX2_agreeWith wsX2_agreeWith rmX2_agreeWith D g (wB g I J) [.ref (g.1 26), .int a1, .ref (g.1 c2)] (some (.int r)) (wB g I' J') := by
  refine con_of (cc := cX2_agreeWith) (maxL := 6) (ret := (some .boolean)) (by decide) rfl (Nat.le_of_ble_eq_true rfl) rfl rfl ?_
  intro k C hkl hkD h1 h2 h3
  subst hkl; subst hkD
  have hr : RTW k wB g cX2_agreeWith .boolean (r, I', J') := rtw_of h2
  unfold f_X2_agreeWith at hf
  refine V.loc (lv' := [(0, .ref (g.1 26)), (1, .int a1), (2, .ref (g.1 c2))]) [0, 1, 2] rfl ?_
  refine r_aload_n C dX2_agreeWith_0 rfl 2 rfl ?_
  obtain ⟨r4, I2, J3, hq1, hf⟩ := bo3_e hf
  refine r_callV (o := some (.int r4)) (w' := (wB g I2 J3)) (As := []) (rest := []) C (c_X1_beatsAnHour hc2 hq1) dX2_agreeWith_1 gX2_agreeWith_X1_beatsAnHour rfl rfl rfl hd_X1_beatsAnHour ⟨by decide, by decide⟩ c2 (brg hc2) rfl rfl rfl rfl (Nat.le_of_ble_eq_true rfl) ?_
  refine r_istore_n (lv' := [(0, .ref (g.1 26)), (1, .int a1), (2, .ref (g.1 c2)), (3, .int r4)]) C dX2_agreeWith_4 rfl (by decide) [1, 2, 3, 0] rfl ?_
  refine r_aload_n C dX2_agreeWith_5 rfl 2 rfl ?_
  obtain ⟨r8, I6, J7, hq5, hf⟩ := bo3_e hf
  refine r_callV (o := some (.int r8)) (w' := (wB g I6 J7)) (As := []) (rest := []) C (c_X1_upAnHour hc2 hq5) dX2_agreeWith_6 gX2_agreeWith_X1_upAnHour rfl rfl rfl hd_X1_upAnHour ⟨by decide, by decide⟩ c2 (brg hc2) rfl rfl rfl rfl (Nat.le_of_ble_eq_true rfl) ?_
  refine r_istore (lv' := [(0, .ref (g.1 26)), (1, .int a1), (2, .ref (g.1 c2)), (3, .int r4), (4, .int r8)]) C dX2_agreeWith_9 (by decide) [1, 2, 3, 4, 0] rfl ?_
  refine r_iconst (v := (0 : Int32)) C dX2_agreeWith_11 (by decide) ?_
  refine r_istore (lv' := [(0, .ref (g.1 26)), (1, .int a1), (2, .ref (g.1 c2)), (3, .int r4), (4, .int r8), (5, .int (0 : Int32))]) C dX2_agreeWith_12 (by decide) [1, 2, 3, 4, 5, 0] rfl ?_
  refine V.loc [0, 1, 3, 4, 5] rfl ?_
  exact mL_X2_agreeWith_14 C hr FU _ _ _ _ _ _ hf
abbrev rmX7_fits : Room := { frames := 5, cells := 0, slots := 0, locals := 118 }
theorem hd_X7_fits : yX7_fits.cls = RX7 ∧ yX7_fits.cls ≠ "java/lang/invoke/MethodHandle" ∧ yX7_fits.cls ≠ "java/lang/invoke/VarHandle" ∧ (parseMethodDescriptor yX7_fits.desc).map (fun d => d.parameters.length) = some 2 := by decide +kernel
theorem kX7_fits_0 : Cond.fieldLink RX7 20 (TX7 2).1 (TX7 2).2.1 (TX7 2).2.2.1 ∈ wsX7_fits := by decide +kernel
theorem kX7_fits_1 : ∀ w ∈ u_ws RX7 TX7 13, w ∈ wsX7_fits := by decide +kernel
theorem kX7_fits_2 : Cond.fieldLink RX7 11 (TX7 0).1 (TX7 0).2.1 (TX7 0).2.2.1 ∈ wsX7_fits := by decide +kernel
theorem kX7_fits_3 : Cond.fieldLink RX7 55 (TX7 7).1 (TX7 7).2.1 (TX7 7).2.2.1 ∈ wsX7_fits := by decide +kernel
set_option maxRecDepth 100000 in
set_option maxHeartbeats 4000000 in
theorem c_X7_fits {l : Launch} {D : va_G} {g : GG} {I : MI} {J : MJ} {a1 : Int32} {a2 : Int32} {r : Int32} {I' : MI} {J' : MJ} (hf : f_X7_fits I J a1 a2 = some (r, I', J')) : CON l yX7_fits wsX7_fits rmX7_fits D g (wB g I J) [.ref (g.1 0), .int a1, .int a2] (some (.int r)) (wB g I' J') := by
  refine con_of (cc := cX7_fits) (maxL := 3) (ret := (some .int)) (by decide) rfl (Nat.le_of_ble_eq_true rfl) rfl rfl ?_
  intro k C hkl hkD h1 h2 h3
  subst hkl; subst hkD
  have hr : RTW k wB g cX7_fits .int (r, I', J') := rtw_of h2
  unfold f_X7_fits at hf
  refine V.loc (lv' := [(0, .ref (g.1 0)), (1, .int a1), (2, .int a2)]) [0, 1, 2] rfl ?_
  refine r_aload_n C dX7_fits_0 rfl 0 rfl ?_
  refine r_iload_n C dX7_fits_1 rfl 1 rfl ?_
  obtain ⟨r2, hq1, hf⟩ := bo1_e hf
  refine r_callV (o := some (.int r2)) (w' := (wB g I J)) (As := [.int a1]) (rest := []) C (c_X7_isRam hq1) dX7_fits_2 gX7_fits_X7_isRam rfl rfl rfl hd_X7_isRam ⟨by decide, by decide⟩ 0 bg_0 rfl rfl rfl rfl (Nat.le_of_ble_eq_true rfl) ?_
  refine r_if_eq (tgt := 19) C dX7_fits_5 (by decide) (fun q5 => ?_) (fun q5 => ?_)
  · have hf := itp hf q5
    refine r_iconst (v := (-1 : Int32)) C dX7_fits_19 (by decide) ?_
    exact hr _ _ _ _ _ dX7_fits_20 rfl hf
  · have hf := itn hf q5
    refine r_iload_n C dX7_fits_8 rfl 2 rfl ?_
    refine r_iconst (v := (0 : Int32)) C dX7_fits_9 (by decide) ?_
    refine r_sipush (v := (255 : Int32)) C dX7_fits_10 (by decide) ?_
    obtain ⟨r4, hq3, hf⟩ := bo1_e hf
    refine r_callS (o := some (.int r4)) (w' := (wB g I J)) (As := [.int a2, .int (0 : Int32), .int (255 : Int32)]) (rest := []) C (c_X7_within hq3) dX7_fits_13 gX7_fits_X7_within rfl rfl rfl hd_X7_within ⟨by decide, by decide⟩ rfl rfl (Nat.le_of_ble_eq_true rfl) ?_
    refine r_if_ne (tgt := 21) C dX7_fits_16 (by decide) (fun q16 => ?_) (fun q16 => ?_)
    · have hf := itn hf q16
      refine r_aload_n C dX7_fits_21 rfl 0 rfl ?_
      refine r_get C dX7_fits_22 kX7_fits_1 0 bg_0 rfl 2 (by decide) kX7_fits_0 bv_0_2 ?_
      refine r_aload_n C dX7_fits_25 rfl 0 rfl ?_
      refine r_get C dX7_fits_26 kX7_fits_1 0 bg_0 rfl 0 (by decide) kX7_fits_2 bv_0_0 ?_
      refine r_iload_n C dX7_fits_29 rfl 1 rfl ?_
      obtain ⟨h5, hf⟩ := chk_e hf
      refine r_aald C dX7_fits_30 1 bg_1 (inb_e h5) rfl ?_
      obtain ⟨I7, J8, hq6, hf⟩ := bo2_e hf
      refine r_callV (o := none) (w' := (wB g I7 J8)) (As := [.ref (g.1 (rc a1))]) (rest := []) C (c_X1_becomeLike rc10 (rc_of (inb_e h5)) hq6) dX7_fits_31 gX7_fits_X1_becomeLike rfl rfl rfl hd_X1_becomeLike ⟨by decide, by decide⟩ 10 (brg rc10) rfl rfl rfl rfl (Nat.le_of_ble_eq_true rfl) ?_
      refine r_aload_n C dX7_fits_34 rfl 0 rfl ?_
      refine r_get C dX7_fits_35 kX7_fits_1 0 bg_0 rfl 2 (by decide) kX7_fits_0 bv_0_2 ?_
      refine r_iload_n C dX7_fits_38 rfl 2 rfl ?_
      obtain ⟨I10, J11, hq9, hf⟩ := bo2_e hf
      refine r_callV (o := none) (w' := (wB g I10 J11)) (As := [.int a2]) (rest := []) C (c_X1_suffer rc10 hq9) dX7_fits_39 gX7_fits_X1_suffer rfl rfl rfl hd_X1_suffer ⟨by decide, by decide⟩ 10 (brg rc10) rfl rfl rfl rfl (Nat.le_of_ble_eq_true rfl) ?_
      refine r_aload_n C dX7_fits_42 rfl 0 rfl ?_
      refine r_get C dX7_fits_43 kX7_fits_1 0 bg_0 rfl 7 (by decide) kX7_fits_3 bv_0_7 ?_
      refine r_iload_n C dX7_fits_46 rfl 1 rfl ?_
      refine r_aload_n C dX7_fits_47 rfl 0 rfl ?_
      refine r_get C dX7_fits_48 kX7_fits_1 0 bg_0 rfl 2 (by decide) kX7_fits_0 bv_0_2 ?_
      obtain ⟨r15, I13, J14, hq12, hf⟩ := bo3_e hf
      refine r_callV (o := some (.int r15)) (w' := (wB g I13 J14)) (As := [.int a1, .ref (g.1 10)]) (rest := []) C (c_X2_agreeWith rc10 hq12) dX7_fits_51 gX7_fits_X2_agreeWith rfl rfl rfl hd_X2_agreeWith ⟨by decide, by decide⟩ 26 bg_26 rfl rfl rfl rfl (Nat.le_of_ble_eq_true rfl) ?_
      refine r_if_eq (tgt := 61) C dX7_fits_54 (by decide) (fun q54 => ?_) (fun q54 => ?_)
      · have hf := itp hf q54
        refine r_iconst (v := (0 : Int32)) C dX7_fits_61 (by decide) ?_
        exact hr _ _ _ _ _ dX7_fits_62 rfl hf
      · have hf := itn hf q54
        refine r_iconst (v := (1 : Int32)) C dX7_fits_57 (by decide) ?_
        refine r_goto (tgt := 62) C dX7_fits_58 (by decide) ?_
        exact hr _ _ _ _ _ dX7_fits_62 rfl hf
    · have hf := itp hf q16
      refine r_iconst (v := (-1 : Int32)) C dX7_fits_19 (by decide) ?_
      exact hr _ _ _ _ _ dX7_fits_20 rfl hf
abbrev rmX0_begin : Room := { frames := 1, cells := 0, slots := 0, locals := 23 }
theorem hd_X0_begin : yX0_begin.cls = RX0 ∧ yX0_begin.cls ≠ "java/lang/invoke/MethodHandle" ∧ yX0_begin.cls ≠ "java/lang/invoke/VarHandle" ∧ (parseMethodDescriptor yX0_begin.desc).map (fun d => d.parameters.length) = some 0 := by decide +kernel
theorem kX0_begin_0 : Cond.fieldLink RX0 11 (TX0 0).1 (TX0 0).2.1 (TX0 0).2.2.1 ∈ wsX0_begin := by decide +kernel
theorem kX0_begin_1 : ∀ w ∈ u_ws RX0 TX0 3, w ∈ wsX0_begin := by decide +kernel
theorem kX0_begin_2 : Cond.fieldLink RX0 15 (TX0 1).1 (TX0 1).2.1 (TX0 1).2.2.1 ∈ wsX0_begin := by decide +kernel
theorem kX0_begin_3 : Cond.fieldLink RX0 19 (TX0 2).1 (TX0 2).2.1 (TX0 2).2.2.1 ∈ wsX0_begin := by decide +kernel
set_option maxRecDepth 100000 in
set_option maxHeartbeats 4000000 in
theorem c_X0_begin {l : Launch} {D : va_G} {g : GG} {I : MI} {J : MJ} {I' : MI} {J' : MJ} (hf : f_X0_begin I J = some (I', J')) : CON l yX0_begin wsX0_begin rmX0_begin D g (wB g I J) [.ref (g.1 30)] none (wB g I' J') := by
  refine con_of (cc := cX0_begin) (maxL := 1) (ret := none) (by decide) rfl (Nat.le_of_ble_eq_true rfl) rfl rfl ?_
  intro k C hkl hkD h1 h2 h3
  subst hkl; subst hkD
  have hr : RTV k wB g cX0_begin (I', J') := rtv_of h1
  unfold f_X0_begin at hf
  refine V.loc (lv' := [(0, .ref (g.1 30))]) [0] rfl ?_
  refine r_aload_n C dX0_begin_0 rfl 0 rfl ?_
  refine r_get C dX0_begin_1 kX0_begin_1 30 bg_30 rfl 0 (by decide) kX0_begin_0 bv_30_0 ?_
  refine r_iconst (v := (0 : Int32)) C dX0_begin_4 (by decide) ?_
  refine r_callS (o := none) (As := [.ref (g.1 31), .int (0 : Int32)]) (rest := []) C (c_fill_31) dX0_begin_5 gX0_begin_J7_fill_53178 rfl rfl rfl hd_fill ⟨by decide, by decide⟩ rfl rfl (Nat.le_of_ble_eq_true rfl) ?_
  refine nmIB (fun I1 eI1 => ?_)
  have hf := bnd_e hf I1 eI1
  refine r_aload_n C dX0_begin_8 rfl 0 rfl ?_
  refine r_iconst (v := (0 : Int32)) C dX0_begin_9 (by decide) ?_
  refine r_put (ty := .int) C dX0_begin_10 kX0_begin_1 tyX0 tyX0_ok nmX0 30 bg_30 rfl 1 (by decide) kX0_begin_2 rfl rfl rfl rfl (Nat.le_of_ble_eq_true rfl) bs_30_1 ?_
  refine nmIB (fun I2 eI2 => ?_)
  have hf := bnd_e hf I2 eI2
  refine r_aload_n C dX0_begin_13 rfl 0 rfl ?_
  refine r_bipush (v := (-9 : Int32)) C dX0_begin_14 (by decide) ?_
  refine r_put (ty := .int) C dX0_begin_16 kX0_begin_1 tyX0 tyX0_ok nmX0 30 bg_30 rfl 2 (by decide) kX0_begin_3 rfl rfl rfl rfl (Nat.le_of_ble_eq_true rfl) bs_30_2 ?_
  refine nmIB (fun I3 eI3 => ?_)
  have hf := bnd_e hf I3 eI3
  exact hr _ _ _ _ dX0_begin_19 hf
