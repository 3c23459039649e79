abbrev rmX7_within : Room := { frames := 0, cells := 0, slots := 0, locals := 0 }
theorem hd_X7_within : yX7_within.cls ≠ "java/lang/invoke/MethodHandle" ∧ yX7_within.cls ≠ "java/lang/invoke/VarHandle" ∧ (parseMethodDescriptor yX7_within.desc).map (fun d => d.parameters.length) = some 3 := by decide +kernel
set_option maxRecDepth 100000 in
set_option maxHeartbeats 4000000 in
theorem c_X7_within {l : Launch} {D : va_G} {g : GG} {I : MI} {J : MJ} {a0 : Int32} {a1 : Int32} {a2 : Int32} {r : Int32} (hf : f_X7_within a0 a1 a2 = some r) : CON l yX7_within wsX7_within rmX7_within D g (wB g I J) [.int a0, .int a1, .int a2] (some (.int r)) (wB g I J) := by
  refine con_of (cc := cX7_within) (maxL := 3) (ret := (some .boolean)) (by decide) rfl (Nat.le_of_ble_eq_true rfl) rfl rfl ?_
  intro k C hkl hkD h1 h2 h3
  subst hkl; subst hkD
  have hr : RRW k (wB g I J) cX7_within .boolean r := rrw_of h2
  unfold f_X7_within at hf
  refine V.loc (lv' := [(0, .int a0), (1, .int a1), (2, .int a2)]) [0, 1, 2] rfl ?_
  refine r_iload_n C dX7_within_0 rfl 0 rfl ?_
  refine r_iload_n C dX7_within_1 rfl 1 rfl ?_
  refine r_icmp_lt (tgt := 14) C dX7_within_2 (by decide) (fun q2 => ?_) (fun q2 => ?_)
  · have hf := itp hf q2
    refine r_iconst (v := (0 : Int32)) C dX7_within_14 (by decide) ?_
    exact hr _ _ _ dX7_within_15 nb0 hf
  · have hf := itn hf q2
    refine r_iload_n C dX7_within_5 rfl 0 rfl ?_
    refine r_iload_n C dX7_within_6 rfl 2 rfl ?_
    refine r_icmp_gt (tgt := 14) C dX7_within_7 (by decide) (fun q7 => ?_) (fun q7 => ?_)
    · have hf := itp hf q7
      refine r_iconst (v := (0 : Int32)) C dX7_within_14 (by decide) ?_
      exact hr _ _ _ dX7_within_15 nb0 hf
    · have hf := itn hf q7
      refine r_iconst (v := (1 : Int32)) C dX7_within_10 (by decide) ?_
      refine r_goto (tgt := 15) C dX7_within_11 (by decide) ?_
      exact hr _ _ _ dX7_within_15 nb1 hf
abbrev rmX7_canBe : Room := { frames := 1, cells := 0, slots := 0, locals := 22 }
theorem hd_X7_canBe : yX7_canBe.cls ≠ "java/lang/invoke/MethodHandle" ∧ yX7_canBe.cls ≠ "java/lang/invoke/VarHandle" ∧ (parseMethodDescriptor yX7_canBe.desc).map (fun d => d.parameters.length) = some 2 := by decide +kernel
theorem kX7_canBe_0 : Cond.fieldLink RX7 283 RX7 "LEAST" "[I" ∈ wsX7_canBe := by decide +kernel
theorem kX7_canBe_1 : Cond.fieldLink RX7 149 RX7 "MOST" "[I" ∈ wsX7_canBe := by decide +kernel
set_option maxRecDepth 100000 in
set_option maxHeartbeats 4000000 in
theorem c_X7_canBe {l : Launch} {D : va_G} {g : GG} {I : MI} {J : MJ} {a0 : Int32} {a1 : Int32} {r : Int32} (hf : f_X7_canBe a0 a1 = some r) : CON l yX7_canBe wsX7_canBe rmX7_canBe D g (wB g I J) [.int a0, .int a1] (some (.int r)) (wB g I J) := by
  refine con_of (cc := cX7_canBe) (maxL := 2) (ret := (some .boolean)) (by decide) rfl (Nat.le_of_ble_eq_true rfl) rfl rfl ?_
  intro k C hkl hkD h1 h2 h3
  subst hkl; subst hkD
  have hr : RRW k (wB g I J) cX7_canBe .boolean r := rrw_of h2
  unfold f_X7_canBe at hf
  refine V.loc (lv' := [(0, .int a0), (1, .int a1)]) [0, 1] rfl ?_
  refine r_iload_n C dX7_canBe_0 rfl 0 rfl ?_
  refine r_iconst (v := (0 : Int32)) C dX7_canBe_1 (by decide) ?_
  refine r_bipush (v := (12 : Int32)) C dX7_canBe_2 (by decide) ?_
  obtain ⟨r2, hq1, hf⟩ := bo1_e hf
  refine r_callS (o := some (.int r2)) (w' := (wB g I J)) (As := [.int a0, .int (0 : Int32), .int (12 : Int32)]) (rest := []) C (c_X7_within hq1) dX7_canBe_4 gX7_canBe_X7_within rfl rfl rfl hd_X7_within ⟨by decide, by decide⟩ rfl rfl (Nat.le_of_ble_eq_true rfl) ?_
  refine r_if_eq (tgt := 31) C dX7_canBe_7 (by decide) (fun q7 => ?_) (fun q7 => ?_)
  · have hf := itp hf q7
    refine r_iconst (v := (0 : Int32)) C dX7_canBe_31 (by decide) ?_
    exact hr _ _ _ dX7_canBe_32 nb0 hf
  · have hf := itn hf q7
    refine r_iload_n C dX7_canBe_10 rfl 1 rfl ?_
    refine r_gets C dX7_canBe_11 C.S.1 kX7_canBe_0 ?_
    refine r_iload_n C dX7_canBe_14 rfl 0 rfl ?_
    obtain ⟨h3, hf⟩ := chk_e hf
    refine r_tald (j := a0.toNatClampNeg) (f := sLST) C dX7_canBe_15 C.S.1 (inb_e h3) rfl ?_
    refine r_gets C dX7_canBe_16 C.S.2.1 kX7_canBe_1 ?_
    refine r_iload_n C dX7_canBe_19 rfl 0 rfl ?_
    obtain ⟨h4, hf⟩ := chk_e hf
    refine r_tald (j := a0.toNatClampNeg) (f := sMST) C dX7_canBe_20 C.S.2.1 (inb_e h4) rfl ?_
    obtain ⟨r6, hq5, hf⟩ := bo1_e hf
    refine r_callS (o := some (.int r6)) (w' := (wB g I J)) (As := [.int a1, .int (sLST a0.toNatClampNeg), .int (sMST a0.toNatClampNeg)]) (rest := []) C (c_X7_within hq5) dX7_canBe_21 gX7_canBe_X7_within rfl rfl rfl hd_X7_within ⟨by decide, by decide⟩ rfl rfl (Nat.le_of_ble_eq_true rfl) ?_
    refine r_if_eq (tgt := 31) C dX7_canBe_24 (by decide) (fun q24 => ?_) (fun q24 => ?_)
    · have hf := itp hf q24
      refine r_iconst (v := (0 : Int32)) C dX7_canBe_31 (by decide) ?_
      exact hr _ _ _ dX7_canBe_32 nb0 hf
    · have hf := itn hf q24
      refine r_iconst (v := (1 : Int32)) C dX7_canBe_27 (by decide) ?_
      refine r_goto (tgt := 32) C dX7_canBe_28 (by decide) ?_
      exact hr _ _ _ dX7_canBe_32 nb1 hf
abbrev rmX1_put : Room := { frames := 1, cells := 0, slots := 0, locals := 22 }
theorem hd_X1_put : yX1_put.cls = RX1 ∧ yX1_put.cls ≠ "java/lang/invoke/MethodHandle" ∧ yX1_put.cls ≠ "java/lang/invoke/VarHandle" ∧ (parseMethodDescriptor yX1_put.desc).map (fun d => d.parameters.length) = some 2 := by decide +kernel
theorem kX1_put_0 : Cond.initialized yX7_within.cls ∈ wsX1_put := by decide +kernel
theorem kX1_put_1 : Cond.static yX7_within ∈ wsX1_put := by decide +kernel
theorem kX1_put_2 : Cond.fieldLink RX1 9 (TX1 0).1 (TX1 0).2.1 (TX1 0).2.2.1 ∈ wsX1_put := by decide +kernel
theorem kX1_put_3 : ∀ w ∈ u_ws RX1 TX1 8, w ∈ wsX1_put := by decide +kernel
theorem kX1_put_4 : Cond.fieldLink RX1 15 (TX1 1).1 (TX1 1).2.1 (TX1 1).2.2.1 ∈ wsX1_put := by decide +kernel
set_option maxRecDepth 100000 in
set_option maxHeartbeats 4000000 in
theorem c_X1_put {l : Launch} {D : va_G} {g : GG} {I : MI} {J : MJ} {c : Nat} {a1 : Int32} {a2 : Int32} {I' : MI} {J' : MJ} (hc : RC c) (hf : f_X1_put c I J a1 a2 = some (I', J')) : CON l yX1_put wsX1_put rmX1_put D g (wB g I J) [.ref (g.1 c), .int a1, .int a2] none (wB g I' J') := by
  refine con_of (cc := cX1_put) (maxL := 3) (ret := none) (by decide) rfl (Nat.le_of_ble_eq_true rfl) rfl rfl ?_
  intro k C hkl hkD h1 h2 h3
  subst hkl; subst hkD
  have hr : RTV k wB g cX1_put (I', J') := rtv_of h1
  unfold f_X1_put at hf
  refine V.loc (lv' := [(0, .ref (g.1 c)), (1, .int a1), (2, .int a2)]) [0, 1, 2] rfl ?_
  refine r_iload_n C dX1_put_0 rfl 1 rfl ?_
  refine r_iconst (v := (0 : Int32)) C dX1_put_1 (by decide) ?_
  refine r_bipush (v := (12 : Int32)) C dX1_put_2 (by decide) ?_
  obtain ⟨r2, hq1, hf⟩ := bo1_e hf
  refine r_callSN (o := some (.int r2)) (w' := (wB g I J)) (As := [.int a1, .int (0 : Int32), .int (12 : Int32)]) (rest := []) C (c_X7_within hq1) dX1_put_4 gX1_put_X7_within_n47 rfl rfl rfl (C.N.2.2.2.2.2.1) kX1_put_0 kX1_put_1 hd_X7_within ⟨by decide, by decide⟩ rfl rfl (Nat.le_of_ble_eq_true rfl) ?_
  refine r_if_eq (tgt := 20) C dX1_put_7 (by decide) (fun q7 => ?_) (fun q7 => ?_)
  · have hf := itp hf q7
    exact hr _ _ _ _ dX1_put_20 hf
  · have hf := itn hf q7
    refine r_aload_n C dX1_put_10 rfl 0 rfl ?_
    refine r_get C dX1_put_11 kX1_put_3 c (brg hc) rfl 0 (by decide) kX1_put_2 brv_0 ?_
    refine r_iload_n C dX1_put_14 rfl 1 rfl ?_
    obtain ⟨h3, hf⟩ := chk_e hf
    refine r_iald (j := a1.toNatClampNeg) C dX1_put_15 (c + 1) (brt hc) (inb_e h3) rfl ?_
    refine r_iload_n C dX1_put_16 rfl 2 rfl ?_
    refine r_icmp_ne (tgt := 21) C dX1_put_17 (by decide) (fun q17 => ?_) (fun q17 => ?_)
    · have hf := itn hf q17
      refine r_aload_n C dX1_put_21 rfl 0 rfl ?_
      refine r_get C dX1_put_22 kX1_put_3 c (brg hc) rfl 0 (by decide) kX1_put_2 brv_0 ?_
      refine r_iload_n C dX1_put_25 rfl 1 rfl ?_
      refine r_iload_n C dX1_put_26 rfl 2 rfl ?_
      obtain ⟨h4, hf⟩ := chk_e hf
      refine r_iast (j := a1.toNatClampNeg) C dX1_put_27 (c + 1) (brt hc) (inb_e h4) rfl (brts hc) ?_
      refine nmIB (fun I5 eI5 => ?_)
      have hf := bnd_e hf I5 eI5
      refine r_iload_n C dX1_put_28 rfl 1 rfl ?_
      refine r_bipush (v := (6 : Int32)) C dX1_put_29 (by decide) ?_
      refine r_icmp_eq (tgt := 45) C dX1_put_31 (by decide) (fun q31 => ?_) (fun q31 => ?_)
      · have hf := itp hf q31
        exact hr _ _ _ _ dX1_put_45 hf
      · have hf := itn hf q31
        refine r_iload_n C dX1_put_34 rfl 1 rfl ?_
        refine r_bipush (v := (9 : Int32)) C dX1_put_35 (by decide) ?_
        refine r_icmp_eq (tgt := 45) C dX1_put_37 (by decide) (fun q37 => ?_) (fun q37 => ?_)
        · have hf := itp hf q37
          exact hr _ _ _ _ dX1_put_45 hf
        · have hf := itn hf q37
          refine r_aload_n C dX1_put_40 rfl 0 rfl ?_
          refine r_iconst (v := (0 : Int32)) C dX1_put_41 (by decide) ?_
          refine r_put (ty := .boolean) C dX1_put_42 kX1_put_3 tyX1 tyX1_ok nmX1 c (brg hc) rfl 1 (by decide) kX1_put_4 rfl rfl nb0 rfl (Nat.le_of_ble_eq_true rfl) (brs_1 hc) ?_
          refine nmIB (fun I6 eI6 => ?_)
          have hf := bnd_e hf I6 eI6
          exact hr _ _ _ _ dX1_put_45 hf
    · have hf := itp hf q17
      exact hr _ _ _ _ dX1_put_20 hf
abbrev rmX7_ram : Room := { frames := 2, cells := 0, slots := 0, locals := 44 }
theorem hd_X7_ram : yX7_ram.cls = RX7 ∧ yX7_ram.cls ≠ "java/lang/invoke/MethodHandle" ∧ yX7_ram.cls ≠ "java/lang/invoke/VarHandle" ∧ (parseMethodDescriptor yX7_ram.desc).map (fun d => d.parameters.length) = some 4 := by decide +kernel
theorem kX7_ram_0 : Cond.fieldLink RX7 15 (TX7 1).1 (TX7 1).2.1 (TX7 1).2.2.1 ∈ wsX7_ram := by decide +kernel
theorem kX7_ram_1 : ∀ w ∈ u_ws RX7 TX7 13, w ∈ wsX7_ram := by decide +kernel
theorem kX7_ram_2 : Cond.fieldLink RX7 11 (TX7 0).1 (TX7 0).2.1 (TX7 0).2.2.1 ∈ wsX7_ram := by decide +kernel
set_option maxRecDepth 100000 in
set_option maxHeartbeats 4000000 in
theorem mB_X7_ram_38 {k : CT} {g : GG} (C : CX k cX7_ram 7 RX7 wsX7_ram rmX7_ram g) {ρ : (Int32 × MI × MJ)} (hr : RTW k wB g cX7_ram .int ρ) : ∀ (I : MI) (J : MJ) (x1 : Int32) (x2 : Int32) (x3 : Int32) (x4 : Int32) (s0 : Int32), LB_X7_ram_38 I J x1 x2 x3 x4 s0 = some ρ → V k (wB g I J) 38 [(0, .ref (g.1 0)), (1, .int x1), (2, .int x2), (3, .int x3), (4, .int x4)] [.int s0] := by
  intro I J x1 x2 x3 x4 s0 hf
  unfold LB_X7_ram_38 at hf
  refine r_istore (lv' := [(0, .ref (g.1 0)), (1, .int x1), (2, .int x2), (3, .int x3), (4, .int x4), (5, .int s0)]) C dX7_ram_38 (by decide) [1, 2, 3, 4, 5, 0] rfl ?_
  refine r_iload C dX7_ram_40 5 rfl ?_
  refine r_if_eq (tgt := 50) C dX7_ram_42 (by decide) (fun q42 => ?_) (fun q42 => ?_)
  · have hf := itp hf q42
    refine r_iconst (v := (-1 : Int32)) C dX7_ram_50 (by decide) ?_
    exact hr _ _ _ _ _ dX7_ram_51 rfl hf
  · have hf := itn hf q42
    refine r_iload_n C dX7_ram_45 rfl 2 rfl ?_
    refine r_iload_n C dX7_ram_46 rfl 1 rfl ?_
    refine r_icmp_gt (tgt := 52) C dX7_ram_47 (by decide) (fun q47 => ?_) (fun q47 => ?_)
    · have hf := itp hf q47
      refine r_aload_n C dX7_ram_52 rfl 0 rfl ?_
      refine r_get C dX7_ram_53 kX7_ram_1 0 bg_0 rfl 1 (by decide) kX7_ram_0 bv_0_1 ?_
      refine r_iconst (v := (4 : Int32)) C dX7_ram_56 (by decide) ?_
      refine r_icmp_lt (tgt := 63) C dX7_ram_57 (by decide) (fun q57 => ?_) (fun q57 => ?_)
      · have hf := itp hf q57
        refine r_aload_n C dX7_ram_63 rfl 0 rfl ?_
        refine r_get C dX7_ram_64 kX7_ram_1 0 bg_0 rfl 0 (by decide) kX7_ram_2 bv_0_0 ?_
        refine r_aload_n C dX7_ram_67 rfl 0 rfl ?_
        refine r_get C dX7_ram_68 kX7_ram_1 0 bg_0 rfl 1 (by decide) kX7_ram_0 bv_0_1 ?_
        obtain ⟨h1, hf⟩ := chk_e hf
        refine r_aald C dX7_ram_71 1 bg_1 (inb_e h1) rfl ?_
        refine r_astore (lv' := [(0, .ref (g.1 0)), (1, .int x1), (2, .int x2), (3, .int x3), (4, .int x4), (5, .int s0), (6, .ref (g.1 (rc (I 0 1))))]) C dX7_ram_72 (by decide) [1, 2, 3, 4, 5, 6, 0] rfl ?_
        refine r_aload C dX7_ram_74 6 rfl ?_
        refine r_iconst (v := (0 : Int32)) C dX7_ram_76 (by decide) ?_
        refine r_iload_n C dX7_ram_77 rfl 1 rfl ?_
        obtain ⟨I3, J4, hq2, hf⟩ := bo2_e hf
        refine r_callV (o := none) (w' := (wB g I3 J4)) (As := [.int (0 : Int32), .int x1]) (rest := []) C (c_X1_put (rc_of (inb_e h1)) hq2) dX7_ram_78 gX7_ram_X1_put rfl rfl rfl hd_X1_put ⟨by decide, by decide⟩ (rc (I 0 1)) (brg (rc_of (inb_e h1))) rfl rfl rfl rfl (Nat.le_of_ble_eq_true rfl) ?_
        refine r_aload C dX7_ram_81 6 rfl ?_
        refine r_iconst (v := (1 : Int32)) C dX7_ram_83 (by decide) ?_
        refine r_iload_n C dX7_ram_84 rfl 2 rfl ?_
        obtain ⟨I6, J7, hq5, hf⟩ := bo2_e hf
        refine r_callV (o := none) (w' := (wB g I6 J7)) (As := [.int (1 : Int32), .int x2]) (rest := []) C (c_X1_put (rc_of (inb_e h1)) hq5) dX7_ram_85 gX7_ram_X1_put rfl rfl rfl hd_X1_put ⟨by decide, by decide⟩ (rc (I 0 1)) (brg (rc_of (inb_e h1))) rfl rfl rfl rfl (Nat.le_of_ble_eq_true rfl) ?_
        refine r_aload C dX7_ram_88 6 rfl ?_
        refine r_iconst (v := (2 : Int32)) C dX7_ram_90 (by decide) ?_
        refine r_iload_n C dX7_ram_91 rfl 3 rfl ?_
        obtain ⟨I9, J10, hq8, hf⟩ := bo2_e hf
        refine r_callV (o := none) (w' := (wB g I9 J10)) (As := [.int (2 : Int32), .int x3]) (rest := []) C (c_X1_put (rc_of (inb_e h1)) hq8) dX7_ram_92 gX7_ram_X1_put rfl rfl rfl hd_X1_put ⟨by decide, by decide⟩ (rc (I 0 1)) (brg (rc_of (inb_e h1))) rfl rfl rfl rfl (Nat.le_of_ble_eq_true rfl) ?_
        refine r_aload C dX7_ram_95 6 rfl ?_
        refine r_iconst (v := (3 : Int32)) C dX7_ram_97 (by decide) ?_
        refine r_iload C dX7_ram_98 4 rfl ?_
        obtain ⟨I12, J13, hq11, hf⟩ := bo2_e hf
        refine r_callV (o := none) (w' := (wB g I12 J13)) (As := [.int (3 : Int32), .int x4]) (rest := []) C (c_X1_put (rc_of (inb_e h1)) hq11) dX7_ram_100 gX7_ram_X1_put rfl rfl rfl hd_X1_put ⟨by decide, by decide⟩ (rc (I 0 1)) (brg (rc_of (inb_e h1))) rfl rfl rfl rfl (Nat.le_of_ble_eq_true rfl) ?_
        refine r_aload_n C dX7_ram_103 rfl 0 rfl ?_
        refine r_dup C dX7_ram_104 rfl ?_
        refine r_get C dX7_ram_105 kX7_ram_1 0 bg_0 rfl 1 (by decide) kX7_ram_0 bv_0_1 ?_
        refine r_iconst (v := (1 : Int32)) C dX7_ram_108 (by decide) ?_
        refine r_iadd C dX7_ram_109 ?_
        refine r_put (ty := .int) C dX7_ram_110 kX7_ram_1 tyX7 tyX7_ok nmX7 0 bg_0 rfl 1 (by decide) kX7_ram_0 rfl rfl rfl rfl (Nat.le_of_ble_eq_true rfl) bs_0_1 ?_
        refine nmIB (fun I14 eI14 => ?_)
        have hf := bnd_e hf I14 eI14
        refine r_aload_n C dX7_ram_113 rfl 0 rfl ?_
        refine r_get C dX7_ram_114 kX7_ram_1 0 bg_0 rfl 1 (by decide) kX7_ram_0 bv_0_1 ?_
        refine r_iconst (v := (1 : Int32)) C dX7_ram_117 (by decide) ?_
        refine r_isub C dX7_ram_118 ?_
        exact hr _ _ _ _ _ dX7_ram_119 rfl hf
      · have hf := itn hf q57
        refine r_bipush (v := (-3 : Int32)) C dX7_ram_60 (by decide) ?_
        exact hr _ _ _ _ _ dX7_ram_62 rfl hf
    · have hf := itn hf q47
      refine r_iconst (v := (-1 : Int32)) C dX7_ram_50 (by decide) ?_
      exact hr _ _ _ _ _ dX7_ram_51 rfl hf
set_option maxRecDepth 100000 in
set_option maxHeartbeats 4000000 in
theorem mB_X7_ram_37 {k : CT} {g : GG} (C : CX k cX7_ram 7 RX7 wsX7_ram rmX7_ram g) {ρ : (Int32 × MI × MJ)} (hr : RTW k wB g cX7_ram .int ρ) : ∀ (I : MI) (J : MJ) (x1 : Int32) (x2 : Int32) (x3 : Int32) (x4 : Int32), LB_X7_ram_37 I J x1 x2 x3 x4 = some ρ → V k (wB g I J) 37 [(0, .ref (g.1 0)), (1, .int x1), (2, .int x2), (3, .int x3), (4, .int x4)] [] := by
  intro I J x1 x2 x3 x4 hf
  unfold LB_X7_ram_37 at hf
  refine r_iconst (v := (0 : Int32)) C dX7_ram_37 (by decide) ?_
  exact mB_X7_ram_38 C hr _ _ _ _ _ _ _ hf
set_option maxRecDepth 100000 in
set_option maxHeartbeats 4000000 in
theorem c_X7_ram {l : Launch} {D : va_G} {g : GG} {I : MI} {J : MJ} {a1 : Int32} {a2 : Int32} {a3 : Int32} {a4 : Int32} {r : Int32} {I' : MI} {J' : MJ} (hf : f_X7_ram I J a1 a2 a3 a4 = some (r, I', J')) : CON l yX7_ram wsX7_ram rmX7_ram D g (wB g I J) [.ref (g.1 0), .int a1, .int a2, .int a3, .int a4] (some (.int r)) (wB g I' J') := by
  refine con_of (cc := cX7_ram) (maxL := 7) (ret := (some .int)) (by decide) rfl (Nat.le_of_ble_eq_true rfl) rfl rfl ?_
  intro k C hkl hkD h1 h2 h3
  subst hkl; subst hkD
  have hr : RTW k wB g cX7_ram .int (r, I', J') := rtw_of h2
  unfold f_X7_ram at hf
  refine V.loc (lv' := [(0, .ref (g.1 0)), (1, .int a1), (2, .int a2), (3, .int a3), (4, .int a4)]) [0, 1, 2, 3, 4] rfl ?_
  refine r_iconst (v := (0 : Int32)) C dX7_ram_0 (by decide) ?_
  refine r_iload_n C dX7_ram_1 rfl 1 rfl ?_
  obtain ⟨r2, hq1, hf⟩ := bo1_e hf
  refine r_callS (o := some (.int r2)) (w' := (wB g I J)) (As := [.int (0 : Int32), .int a1]) (rest := []) C (c_X7_canBe hq1) dX7_ram_2 gX7_ram_X7_canBe rfl rfl rfl hd_X7_canBe ⟨by decide, by decide⟩ rfl rfl (Nat.le_of_ble_eq_true rfl) ?_
  refine r_if_eq (tgt := 37) C dX7_ram_5 (by decide) (fun q5 => ?_) (fun q5 => ?_)
  · have hf := itp hf q5
    exact mB_X7_ram_37 C hr _ _ _ _ _ _ hf
  · have hf := itn hf q5
    refine r_iconst (v := (1 : Int32)) C dX7_ram_8 (by decide) ?_
    refine r_iload_n C dX7_ram_9 rfl 2 rfl ?_
    obtain ⟨r4, hq3, hf⟩ := bo1_e hf
    refine r_callS (o := some (.int r4)) (w' := (wB g I J)) (As := [.int (1 : Int32), .int a2]) (rest := []) C (c_X7_canBe hq3) dX7_ram_10 gX7_ram_X7_canBe rfl rfl rfl hd_X7_canBe ⟨by decide, by decide⟩ rfl rfl (Nat.le_of_ble_eq_true rfl) ?_
    refine r_if_eq (tgt := 37) C dX7_ram_13 (by decide) (fun q13 => ?_) (fun q13 => ?_)
    · have hf := itp hf q13
      exact mB_X7_ram_37 C hr _ _ _ _ _ _ hf
    · have hf := itn hf q13
      refine r_iconst (v := (2 : Int32)) C dX7_ram_16 (by decide) ?_
      refine r_iload_n C dX7_ram_17 rfl 3 rfl ?_
      obtain ⟨r6, hq5, hf⟩ := bo1_e hf
      refine r_callS (o := some (.int r6)) (w' := (wB g I J)) (As := [.int (2 : Int32), .int a3]) (rest := []) C (c_X7_canBe hq5) dX7_ram_18 gX7_ram_X7_canBe rfl rfl rfl hd_X7_canBe ⟨by decide, by decide⟩ rfl rfl (Nat.le_of_ble_eq_true rfl) ?_
      refine r_if_eq (tgt := 37) C dX7_ram_21 (by decide) (fun q21 => ?_) (fun q21 => ?_)
      · have hf := itp hf q21
        exact mB_X7_ram_37 C hr _ _ _ _ _ _ hf
      · have hf := itn hf q21
        refine r_iconst (v := (3 : Int32)) C dX7_ram_24 (by decide) ?_
        refine r_iload C dX7_ram_25 4 rfl ?_
        obtain ⟨r8, hq7, hf⟩ := bo1_e hf
        refine r_callS (o := some (.int r8)) (w' := (wB g I J)) (As := [.int (3 : Int32), .int a4]) (rest := []) C (c_X7_canBe hq7) dX7_ram_27 gX7_ram_X7_canBe rfl rfl rfl hd_X7_canBe ⟨by decide, by decide⟩ rfl rfl (Nat.le_of_ble_eq_true rfl) ?_
        refine r_if_eq (tgt := 37) C dX7_ram_30 (by decide) (fun q30 => ?_) (fun q30 => ?_)
        · have hf := itp hf q30
          exact mB_X7_ram_37 C hr _ _ _ _ _ _ hf
        · have hf := itn hf q30
          refine r_iconst (v := (1 : Int32)) C dX7_ram_33 (by decide) ?_
          refine r_goto (tgt := 38) C dX7_ram_34 (by decide) ?_
          exact mB_X7_ram_38 C hr _ _ _ _ _ _ _ hf
abbrev rmX7_isRam : Room := { frames := 1, cells := 0, slots := 0, locals := 22 }
theorem hd_X7_isRam : yX7_isRam.cls = RX7 ∧ yX7_isRam.cls ≠ "java/lang/invoke/MethodHandle" ∧ yX7_isRam.cls ≠ "java/lang/invoke/VarHandle" ∧ (parseMethodDescriptor yX7_isRam.desc).map (fun d => d.parameters.length) = some 1 := by decide +kernel
theorem kX7_isRam_0 : Cond.fieldLink RX7 15 (TX7 1).1 (TX7 1).2.1 (TX7 1).2.2.1 ∈ wsX7_isRam := by decide +kernel
theorem kX7_isRam_1 : ∀ w ∈ u_ws RX7 TX7 13, w ∈ wsX7_isRam := by decide +kernel
set_option maxRecDepth 100000 in
set_option maxHeartbeats 4000000 in
theorem c_X7_isRam {l : Launch} {D : va_G} {g : GG} {I : MI} {J : MJ} {a1 : Int32} {r : Int32} (hf : f_X7_isRam I J a1 = some r) : CON l yX7_isRam wsX7_isRam rmX7_isRam D g (wB g I J) [.ref (g.1 0), .int a1] (some (.int r)) (wB g I J) := by
  refine con_of (cc := cX7_isRam) (maxL := 2) (ret := (some .boolean)) (by decide) rfl (Nat.le_of_ble_eq_true rfl) rfl rfl ?_
  intro k C hkl hkD h1 h2 h3
  subst hkl; subst hkD
  have hr : RRW k (wB g I J) cX7_isRam .boolean r := rrw_of h2
  unfold f_X7_isRam at hf
  refine V.loc (lv' := [(0, .ref (g.1 0)), (1, .int a1)]) [0, 1] rfl ?_
  refine r_iload_n C dX7_isRam_0 rfl 1 rfl ?_
  refine r_iconst (v := (0 : Int32)) C dX7_isRam_1 (by decide) ?_
  refine r_aload_n C dX7_isRam_2 rfl 0 rfl ?_
  refine r_get C dX7_isRam_3 kX7_isRam_1 0 bg_0 rfl 1 (by decide) kX7_isRam_0 bv_0_1 ?_
  refine r_iconst (v := (1 : Int32)) C dX7_isRam_6 (by decide) ?_
  refine r_isub C dX7_isRam_7 ?_
  obtain ⟨r2, hq1, hf⟩ := bo1_e hf
  refine r_callS (o := some (.int r2)) (w' := (wB g I J)) (As := [.int a1, .int (0 : Int32), .int ((I 0 1) - (1 : Int32))]) (rest := []) C (c_X7_within hq1) dX7_isRam_8 gX7_isRam_X7_within rfl rfl rfl hd_X7_within ⟨by decide, by decide⟩ rfl rfl (Nat.le_of_ble_eq_true rfl) ?_
  obtain ⟨hb, hf⟩ := chk_e hf
  exact hr _ _ _ dX7_isRam_11 (isB_e hb) hf
abbrev rmX1_trait : Room := { frames := 1, cells := 0, slots := 0, locals := 22 }
theorem hd_X1_trait : yX1_trait.cls = RX1 ∧ yX1_trait.cls ≠ "java/lang/invoke/MethodHandle" ∧ yX1_trait.cls ≠ "java/lang/invoke/VarHandle" ∧ (parseMethodDescriptor yX1_trait.desc).map (fun d => d.parameters.length) = some 1 := by decide +kernel
theorem kX1_trait_0 : Cond.initialized yX7_within.cls ∈ wsX1_trait := by decide +kernel
theorem kX1_trait_1 : Cond.static yX7_within ∈ wsX1_trait := by decide +kernel
theorem kX1_trait_2 : Cond.fieldLink RX1 9 (TX1 0).1 (TX1 0).2.1 (TX1 0).2.2.1 ∈ wsX1_trait := by decide +kernel
theorem kX1_trait_3 : ∀ w ∈ u_ws RX1 TX1 8, w ∈ wsX1_trait := by decide +kernel
set_option maxRecDepth 100000 in
set_option maxHeartbeats 4000000 in
theorem c_X1_trait {l : Launch} {D : va_G} {g : GG} {I : MI} {J : MJ} {c : Nat} {a1 : Int32} {r : Int32} (hc : RC c) (hf : f_X1_trait c I J a1 = some r) : CON l yX1_trait wsX1_trait rmX1_trait D g (wB g I J) [.ref (g.1 c), .int a1] (some (.int r)) (wB g I J) := by
  refine con_of (cc := cX1_trait) (maxL := 2) (ret := (some .int)) (by decide) rfl (Nat.le_of_ble_eq_true rfl) rfl rfl ?_
  intro k C hkl hkD h1 h2 h3
  subst hkl; subst hkD
  have hr : RRW k (wB g I J) cX1_trait .int r := rrw_of h2
  unfold f_X1_trait at hf
  refine V.loc (lv' := [(0, .ref (g.1 c)), (1, .int a1)]) [0, 1] rfl ?_
  refine r_iload_n C dX1_trait_0 rfl 1 rfl ?_
  refine r_iconst (v := (0 : Int32)) C dX1_trait_1 (by decide) ?_
  refine r_bipush (v := (12 : Int32)) C dX1_trait_2 (by decide) ?_
  obtain ⟨r2, hq1, hf⟩ := bo1_e hf
  refine r_callSN (o := some (.int r2)) (w' := (wB g I J)) (As := [.int a1, .int (0 : Int32), .int (12 : Int32)]) (rest := []) C (c_X7_within hq1) dX1_trait_4 gX1_trait_X7_within_n47 rfl rfl rfl (C.N.2.2.2.2.2.1) kX1_trait_0 kX1_trait_1 hd_X7_within ⟨by decide, by decide⟩ rfl rfl (Nat.le_of_ble_eq_true rfl) ?_
  refine r_if_eq (tgt := 19) C dX1_trait_7 (by decide) (fun q7 => ?_) (fun q7 => ?_)
  · have hf := itp hf q7
    refine r_iconst (v := (-1 : Int32)) C dX1_trait_19 (by decide) ?_
    exact hr _ _ _ dX1_trait_20 rfl hf
  · have hf := itn hf q7
    refine r_aload_n C dX1_trait_10 rfl 0 rfl ?_
    refine r_get C dX1_trait_11 kX1_trait_3 c (brg hc) rfl 0 (by decide) kX1_trait_2 brv_0 ?_
    refine r_iload_n C dX1_trait_14 rfl 1 rfl ?_
    obtain ⟨h3, hf⟩ := chk_e hf
    refine r_iald (j := a1.toNatClampNeg) C dX1_trait_15 (c + 1) (brt hc) (inb_e h3) rfl ?_
    refine r_goto (tgt := 20) C dX1_trait_16 (by decide) ?_
    exact hr _ _ _ dX1_trait_20 rfl hf
abbrev rmX7_set : Room := { frames := 2, cells := 0, slots := 0, locals := 44 }
theorem hd_X7_set : yX7_set.cls = RX7 ∧ yX7_set.cls ≠ "java/lang/invoke/MethodHandle" ∧ yX7_set.cls ≠ "java/lang/invoke/VarHandle" ∧ (parseMethodDescriptor yX7_set.desc).map (fun d => d.parameters.length) = some 3 := by decide +kernel
theorem kX7_set_0 : Cond.fieldLink RX7 11 (TX7 0).1 (TX7 0).2.1 (TX7 0).2.2.1 ∈ wsX7_set := by decide +kernel
theorem kX7_set_1 : ∀ w ∈ u_ws RX7 TX7 13, w ∈ wsX7_set := by decide +kernel
set_option maxRecDepth 100000 in
set_option maxHeartbeats 4000000 in
theorem mB_X7_set_40 {k : CT} {g : GG} (C : CX k cX7_set 6 RX7 wsX7_set rmX7_set g) {ρ : (Int32 × MI × MJ)} (hr : RTW k wB g cX7_set .int ρ) : ∀ (I : MI) (J : MJ) (x2 : Int32) (x3 : Int32) (c4 : Nat), RC c4 → LB_X7_set_40 I J x2 x3 c4 = some ρ → V k (wB g I J) 40 [(2, .int x2), (3, .int x3), (4, .ref (g.1 c4))] [] := by
  intro I J x2 x3 c4 hc4 hf
  unfold LB_X7_set_40 at hf
  refine r_iload_n C dX7_set_40 rfl 0 rfl ?_
  refine r_iconst (v := (1 : Int32)) C dX7_set_41 (by decide) ?_
  refine r_icmp_ne (tgt := 57) C dX7_set_42 (by decide) (fun q42 => ?_) (fun q42 => ?_)
  · have hf := itn hf q42
    refine r_aload C dX7_set_57 2 rfl ?_
    refine r_iload_n C dX7_set_59 rfl 0 rfl ?_
    obtain ⟨r2, hq1, hf⟩ := bo1_e hf
    refine r_callV (o := some (.int r2)) (w' := (wB g I J)) (As := [.int x2]) (rest := []) C (c_X1_trait hc4 hq1) dX7_set_60 gX7_set_X1_trait rfl rfl rfl hd_X1_trait ⟨by decide, by decide⟩ c4 (brg hc4) rfl rfl rfl rfl (Nat.le_of_ble_eq_true rfl) ?_
    refine r_istore (lv' := [(2, .int x2), (3, .int x3), (4, .ref (g.1 c4)), (5, .int r2)]) C dX7_set_63 (by decide) [1, 2, 3, 0] rfl ?_
    refine r_aload C dX7_set_65 2 rfl ?_
    refine r_iload_n C dX7_set_67 rfl 0 rfl ?_
    refine r_iload_n C dX7_set_68 rfl 1 rfl ?_
    obtain ⟨I4, J5, hq3, hf⟩ := bo2_e hf
    refine r_callV (o := none) (w' := (wB g I4 J5)) (As := [.int x2, .int x3]) (rest := []) C (c_X1_put hc4 hq3) dX7_set_69 gX7_set_X1_put rfl rfl rfl hd_X1_put ⟨by decide, by decide⟩ c4 (brg hc4) rfl rfl rfl rfl (Nat.le_of_ble_eq_true rfl) ?_
    refine r_iload C dX7_set_72 3 rfl ?_
    exact hr _ _ _ _ _ dX7_set_74 rfl hf
  · have hf := itp hf q42
    refine r_iload_n C dX7_set_45 rfl 1 rfl ?_
    refine r_aload C dX7_set_46 2 rfl ?_
    refine r_iconst (v := (0 : Int32)) C dX7_set_48 (by decide) ?_
    obtain ⟨r7, hq6, hf⟩ := bo1_e hf
    refine r_callV (o := some (.int r7)) (w' := (wB g I J)) (As := [.int (0 : Int32)]) (rest := [.int x3]) C (c_X1_trait hc4 hq6) dX7_set_49 gX7_set_X1_trait rfl rfl rfl hd_X1_trait ⟨by decide, by decide⟩ c4 (brg hc4) rfl rfl rfl rfl (Nat.le_of_ble_eq_true rfl) ?_
    refine r_icmp_gt (tgt := 57) C dX7_set_52 (by decide) (fun q52 => ?_) (fun q52 => ?_)
    · have hf := itp hf q52
      refine r_aload C dX7_set_57 2 rfl ?_
      refine r_iload_n C dX7_set_59 rfl 0 rfl ?_
      obtain ⟨r9, hq8, hf⟩ := bo1_e hf
      refine r_callV (o := some (.int r9)) (w' := (wB g I J)) (As := [.int x2]) (rest := []) C (c_X1_trait hc4 hq8) dX7_set_60 gX7_set_X1_trait rfl rfl rfl hd_X1_trait ⟨by decide, by decide⟩ c4 (brg hc4) rfl rfl rfl rfl (Nat.le_of_ble_eq_true rfl) ?_
      refine r_istore (lv' := [(2, .int x2), (3, .int x3), (4, .ref (g.1 c4)), (5, .int r9)]) C dX7_set_63 (by decide) [1, 2, 3, 0] rfl ?_
      refine r_aload C dX7_set_65 2 rfl ?_
      refine r_iload_n C dX7_set_67 rfl 0 rfl ?_
      refine r_iload_n C dX7_set_68 rfl 1 rfl ?_
      obtain ⟨I11, J12, hq10, hf⟩ := bo2_e hf
      refine r_callV (o := none) (w' := (wB g I11 J12)) (As := [.int x2, .int x3]) (rest := []) C (c_X1_put hc4 hq10) dX7_set_69 gX7_set_X1_put rfl rfl rfl hd_X1_put ⟨by decide, by decide⟩ c4 (brg hc4) rfl rfl rfl rfl (Nat.le_of_ble_eq_true rfl) ?_
      refine r_iload C dX7_set_72 3 rfl ?_
      exact hr _ _ _ _ _ dX7_set_74 rfl hf
    · have hf := itn hf q52
      refine r_iconst (v := (-1 : Int32)) C dX7_set_55 (by decide) ?_
      exact hr _ _ _ _ _ dX7_set_56 rfl hf
set_option maxRecDepth 100000 in
set_option maxHeartbeats 4000000 in
theorem c_X7_set {l : Launch} {D : va_G} {g : GG} {I : MI} {J : MJ} {a1 : Int32} {a2 : Int32} {a3 : Int32} {r : Int32} {I' : MI} {J' : MJ} (hf : f_X7_set I J a1 a2 a3 = some (r, I', J')) : CON l yX7_set wsX7_set rmX7_set D g (wB g I J) [.ref (g.1 0), .int a1, .int a2, .int a3] (some (.int r)) (wB g I' J') := by
  refine con_of (cc := cX7_set) (maxL := 6) (ret := (some .int)) (by decide) rfl (Nat.le_of_ble_eq_true rfl) rfl rfl ?_
  intro k C hkl hkD h1 h2 h3
  subst hkl; subst hkD
  have hr : RTW k wB g cX7_set .int (r, I', J') := rtw_of h2
  unfold f_X7_set at hf
  refine V.loc (lv' := [(0, .ref (g.1 0)), (1, .int a1), (2, .int a2), (3, .int a3)]) [0, 1, 2, 3] rfl ?_
  refine r_aload_n C dX7_set_0 rfl 0 rfl ?_
  refine r_iload_n C dX7_set_1 rfl 1 rfl ?_
  obtain ⟨r2, hq1, hf⟩ := bo1_e hf
  refine r_callV (o := some (.int r2)) (w' := (wB g I J)) (As := [.int a1]) (rest := []) C (c_X7_isRam hq1) dX7_set_2 gX7_set_X7_isRam rfl rfl rfl hd_X7_isRam ⟨by decide, by decide⟩ 0 bg_0 rfl rfl rfl rfl (Nat.le_of_ble_eq_true rfl) ?_
  refine r_if_eq (tgt := 16) C dX7_set_5 (by decide) (fun q5 => ?_) (fun q5 => ?_)
  · have hf := itp hf q5
    refine r_iconst (v := (-1 : Int32)) C dX7_set_16 (by decide) ?_
    exact hr _ _ _ _ _ dX7_set_17 rfl hf
  · have hf := itn hf q5
    refine r_iload_n C dX7_set_8 rfl 2 rfl ?_
    refine r_iload_n C dX7_set_9 rfl 3 rfl ?_
    obtain ⟨r4, hq3, hf⟩ := bo1_e hf
    refine r_callS (o := some (.int r4)) (w' := (wB g I J)) (As := [.int a2, .int a3]) (rest := []) C (c_X7_canBe hq3) dX7_set_10 gX7_set_X7_canBe rfl rfl rfl hd_X7_canBe ⟨by decide, by decide⟩ rfl rfl (Nat.le_of_ble_eq_true rfl) ?_
    refine r_if_ne (tgt := 18) C dX7_set_13 (by decide) (fun q13 => ?_) (fun q13 => ?_)
    · have hf := itn hf q13
      refine r_aload_n C dX7_set_18 rfl 0 rfl ?_
      refine r_get C dX7_set_19 kX7_set_1 0 bg_0 rfl 0 (by decide) kX7_set_0 bv_0_0 ?_
      refine r_iload_n C dX7_set_22 rfl 1 rfl ?_
      obtain ⟨h5, hf⟩ := chk_e hf
      refine r_aald C dX7_set_23 1 bg_1 (inb_e h5) rfl ?_
      refine r_astore (lv' := [(0, .ref (g.1 0)), (1, .int a1), (2, .int a2), (3, .int a3), (4, .ref (g.1 (rc a1)))]) C dX7_set_24 (by decide) [1, 2, 3, 4, 0] rfl ?_
      refine r_iload_n C dX7_set_26 rfl 2 rfl ?_
      refine r_if_ne (tgt := 40) C dX7_set_27 (by decide) (fun q27 => ?_) (fun q27 => ?_)
      · have hf := itn hf q27
        refine V.loc [2, 3, 4] rfl ?_
        exact mB_X7_set_40 C hr _ _ _ _ _ (rc_of (inb_e h5)) hf
      · have hf := itp hf q27
        refine r_iload_n C dX7_set_30 rfl 3 rfl ?_
        refine r_aload C dX7_set_31 4 rfl ?_
        refine r_iconst (v := (1 : Int32)) C dX7_set_33 (by decide) ?_
        obtain ⟨r7, hq6, hf⟩ := bo1_e hf
        refine r_callV (o := some (.int r7)) (w' := (wB g I J)) (As := [.int (1 : Int32)]) (rest := [.int a3]) C (c_X1_trait (rc_of (inb_e h5)) hq6) dX7_set_34 gX7_set_X1_trait rfl rfl rfl hd_X1_trait ⟨by decide, by decide⟩ (rc a1) (brg (rc_of (inb_e h5))) rfl rfl rfl rfl (Nat.le_of_ble_eq_true rfl) ?_
        refine r_icmp_ge (tgt := 55) C dX7_set_37 (by decide) (fun q37 => ?_) (fun q37 => ?_)
        · have hf := itp hf q37
          refine r_iconst (v := (-1 : Int32)) C dX7_set_55 (by decide) ?_
          exact hr _ _ _ _ _ dX7_set_56 rfl hf
        · have hf := itn hf q37
          refine V.loc [2, 3, 4] rfl ?_
          exact mB_X7_set_40 C hr _ _ _ _ _ (rc_of (inb_e h5)) hf
    · have hf := itp hf q13
      refine r_iconst (v := (-1 : Int32)) C dX7_set_16 (by decide) ?_
      exact hr _ _ _ _ _ dX7_set_17 rfl hf
abbrev rmX7_about : Room := { frames := 2, cells := 0, slots := 0, locals := 43 }
theorem hd_X7_about : yX7_about.cls = RX7 ∧ yX7_about.cls ≠ "java/lang/invoke/MethodHandle" ∧ yX7_about.cls ≠ "java/lang/invoke/VarHandle" ∧ (parseMethodDescriptor yX7_about.desc).map (fun d => d.parameters.length) = some 2 := by decide +kernel
theorem kX7_about_0 : Cond.fieldLink RX7 11 (TX7 0).1 (TX7 0).2.1 (TX7 0).2.2.1 ∈ wsX7_about := by decide +kernel
theorem kX7_about_1 : ∀ w ∈ u_ws RX7 TX7 13, w ∈ wsX7_about := by decide +kernel
set_option maxRecDepth 100000 in
set_option maxHeartbeats 4000000 in
theorem c_X7_about {l : Launch} {D : va_G} {g : GG} {I : MI} {J : MJ} {a1 : Int32} {a2 : Int32} {r : Int32} (hf : f_X7_about I J a1 a2 = some r) : CON l yX7_about wsX7_about rmX7_about D g (wB g I J) [.ref (g.1 0), .int a1, .int a2] (some (.int r)) (wB g I J) := by
  refine con_of (cc := cX7_about) (maxL := 3) (ret := (some .int)) (by decide) rfl (Nat.le_of_ble_eq_true rfl) rfl rfl ?_
  intro k C hkl hkD h1 h2 h3
  subst hkl; subst hkD
  have hr : RRW k (wB g I J) cX7_about .int r := rrw_of h2
  unfold f_X7_about at hf
  refine V.loc (lv' := [(0, .ref (g.1 0)), (1, .int a1), (2, .int a2)]) [0, 1, 2] rfl ?_
  refine r_aload_n C dX7_about_0 rfl 0 rfl ?_
  refine r_iload_n C dX7_about_1 rfl 1 rfl ?_
  obtain ⟨r2, hq1, hf⟩ := bo1_e hf
  refine r_callV (o := some (.int r2)) (w' := (wB g I J)) (As := [.int a1]) (rest := []) C (c_X7_isRam hq1) dX7_about_2 gX7_about_X7_isRam rfl rfl rfl hd_X7_isRam ⟨by decide, by decide⟩ 0 bg_0 rfl rfl rfl rfl (Nat.le_of_ble_eq_true rfl) ?_
  refine r_if_eq (tgt := 18) C dX7_about_5 (by decide) (fun q5 => ?_) (fun q5 => ?_)
  · have hf := itp hf q5
    refine r_iconst (v := (-1 : Int32)) C dX7_about_18 (by decide) ?_
    exact hr _ _ _ dX7_about_19 rfl hf
  · have hf := itn hf q5
    refine r_iload_n C dX7_about_8 rfl 2 rfl ?_
    refine r_iconst (v := (0 : Int32)) C dX7_about_9 (by decide) ?_
    refine r_bipush (v := (12 : Int32)) C dX7_about_10 (by decide) ?_
    obtain ⟨r4, hq3, hf⟩ := bo1_e hf
    refine r_callS (o := some (.int r4)) (w' := (wB g I J)) (As := [.int a2, .int (0 : Int32), .int (12 : Int32)]) (rest := []) C (c_X7_within hq3) dX7_about_12 gX7_about_X7_within rfl rfl rfl hd_X7_within ⟨by decide, by decide⟩ rfl rfl (Nat.le_of_ble_eq_true rfl) ?_
    refine r_if_ne (tgt := 20) C dX7_about_15 (by decide) (fun q15 => ?_) (fun q15 => ?_)
    · have hf := itn hf q15
      refine r_aload_n C dX7_about_20 rfl 0 rfl ?_
      refine r_get C dX7_about_21 kX7_about_1 0 bg_0 rfl 0 (by decide) kX7_about_0 bv_0_0 ?_
      refine r_iload_n C dX7_about_24 rfl 1 rfl ?_
      obtain ⟨h5, hf⟩ := chk_e hf
      refine r_aald C dX7_about_25 1 bg_1 (inb_e h5) rfl ?_
      refine r_iload_n C dX7_about_26 rfl 2 rfl ?_
      obtain ⟨r7, hq6, hf⟩ := bo1_e hf
      refine r_callV (o := some (.int r7)) (w' := (wB g I J)) (As := [.int a2]) (rest := []) C (c_X1_trait (rc_of (inb_e h5)) hq6) dX7_about_27 gX7_about_X1_trait rfl rfl rfl hd_X1_trait ⟨by decide, by decide⟩ (rc a1) (brg (rc_of (inb_e h5))) rfl rfl rfl rfl (Nat.le_of_ble_eq_true rfl) ?_
      exact hr _ _ _ dX7_about_30 rfl hf
    · have hf := itp hf q15
      refine r_iconst (v := (-1 : Int32)) C dX7_about_18 (by decide) ?_
      exact hr _ _ _ dX7_about_19 rfl hf
abbrev rmX1_workBy : Room := { frames := 1, cells := 0, slots := 0, locals := 21 }
theorem hd_X1_workBy : yX1_workBy.cls = RX1 ∧ yX1_workBy.cls ≠ "java/lang/invoke/MethodHandle" ∧ yX1_workBy.cls ≠ "java/lang/invoke/VarHandle" ∧ (parseMethodDescriptor yX1_workBy.desc).map (fun d => d.parameters.length) = some 1 := by decide +kernel
theorem kX1_workBy_0 : Cond.fieldLink RX1 9 (TX1 0).1 (TX1 0).2.1 (TX1 0).2.2.1 ∈ wsX1_workBy := by decide +kernel
theorem kX1_workBy_1 : ∀ w ∈ u_ws RX1 TX1 8, w ∈ wsX1_workBy := by decide +kernel
theorem kX1_workBy_2 : Cond.methodLink RX1 58 Lib.Math.min.name ∈ wsX1_workBy := by decide +kernel
theorem kX1_workBy_3 : Cond.static Lib.Math.min.name ∈ wsX1_workBy := by decide +kernel
theorem kX1_workBy_4 : Cond.initialized "java/lang/Math" ∈ wsX1_workBy := by decide +kernel
theorem kX1_workBy_5 : Cond.code Lib.Math.min.name Lib.Math.min.code 2 (some .int) ∈ wsX1_workBy := by decide +kernel
set_option maxRecDepth 100000 in
set_option maxHeartbeats 4000000 in
theorem mB_X1_workBy_38 {k : CT} {g : GG} {c : Nat} {I : MI} {J : MJ} (hc : RC c) (C : CX k cX1_workBy 3 RX1 wsX1_workBy rmX1_workBy g) {ρ : Int32} (hr : RRW k (wB g I J) cX1_workBy .int ρ) : ∀ (x1 : Int32) (x2 : Int32), LB_X1_workBy_38 c I J x1 x2 = some ρ → V k (wB g I J) 38 [(0, .ref (g.1 c)), (1, .int x1), (2, .int x2)] [] := by
  intro x1 x2 hf
  unfold LB_X1_workBy_38 at hf
  refine r_iload_n C dX1_workBy_38 rfl 1 rfl ?_
  refine r_iconst (v := (2 : Int32)) C dX1_workBy_39 (by decide) ?_
  refine r_icmp_lt (tgt := 65) C dX1_workBy_40 (by decide) (fun q40 => ?_) (fun q40 => ?_)
  · have hf := itp hf q40
    refine r_iload_n C dX1_workBy_65 rfl 2 rfl ?_
    exact hr _ _ _ dX1_workBy_66 rfl hf
  · have hf := itn hf q40
    refine r_iload_n C dX1_workBy_43 rfl 2 rfl ?_
    refine r_iload_n C dX1_workBy_44 rfl 2 rfl ?_
    refine r_bipush (v := (10 : Int32)) C dX1_workBy_45 (by decide) ?_
    refine r_idiv C dX1_workBy_47 (by decide) ?_
    refine r_iadd C dX1_workBy_48 ?_
    refine r_bipush (v := (85 : Int32)) C dX1_workBy_49 (by decide) ?_
    refine r_mmin C dX1_workBy_51 kX1_workBy_2 kX1_workBy_3 kX1_workBy_4 kX1_workBy_5 (by decide) (Nat.le_of_ble_eq_true rfl) ?_
    refine r_iconst (v := (2 : Int32)) C dX1_workBy_54 (by decide) ?_
    refine r_aload_n C dX1_workBy_55 rfl 0 rfl ?_
    refine r_get C dX1_workBy_56 kX1_workBy_1 c (brg hc) rfl 0 (by decide) kX1_workBy_0 brv_0 ?_
    refine r_bipush (v := (8 : Int32)) C dX1_workBy_59 (by decide) ?_
    refine r_iald (j := 8) C dX1_workBy_61 (c + 1) (brt hc) (inb_e (by decide +kernel)) (by decide +kernel) ?_
    refine r_imul C dX1_workBy_62 ?_
    refine r_isub C dX1_workBy_63 ?_
    refine r_nmi (fun v1 ev1 => ?_)
    have hf := bnd_e hf v1 ev1
    refine r_istore_n (lv' := [(0, .ref (g.1 c)), (1, .int x1), (2, .int v1)]) C dX1_workBy_64 rfl (by decide) [1, 2, 0] rfl ?_
    refine r_iload_n C dX1_workBy_65 rfl 2 rfl ?_
    exact hr _ _ _ dX1_workBy_66 rfl hf
set_option maxRecDepth 100000 in
set_option maxHeartbeats 4000000 in
theorem c_X1_workBy {l : Launch} {D : va_G} {g : GG} {I : MI} {J : MJ} {c : Nat} {a1 : Int32} {r : Int32} (hc : RC c) (hf : f_X1_workBy c I J a1 = some r) : CON l yX1_workBy wsX1_workBy rmX1_workBy D g (wB g I J) [.ref (g.1 c), .int a1] (some (.int r)) (wB g I J) := by
  refine con_of (cc := cX1_workBy) (maxL := 3) (ret := (some .int)) (by decide) rfl (Nat.le_of_ble_eq_true rfl) rfl rfl ?_
  intro k C hkl hkD h1 h2 h3
  subst hkl; subst hkD
  have hr : RRW k (wB g I J) cX1_workBy .int r := rrw_of h2
  unfold f_X1_workBy at hf
  refine V.loc (lv' := [(0, .ref (g.1 c)), (1, .int a1)]) [0, 1] rfl ?_
  refine r_bipush (v := (40 : Int32)) C dX1_workBy_0 (by decide) ?_
  refine r_aload_n C dX1_workBy_2 rfl 0 rfl ?_
  refine r_get C dX1_workBy_3 kX1_workBy_1 c (brg hc) rfl 0 (by decide) kX1_workBy_0 brv_0 ?_
  refine r_bipush (v := (6 : Int32)) C dX1_workBy_6 (by decide) ?_
  refine r_iald (j := 6) C dX1_workBy_8 (c + 1) (brt hc) (inb_e (by decide +kernel)) (by decide +kernel) ?_
  refine r_iconst (v := (4 : Int32)) C dX1_workBy_9 (by decide) ?_
  refine r_idiv C dX1_workBy_10 (by decide) ?_
  refine r_iadd C dX1_workBy_11 ?_
  refine r_iconst (v := (3 : Int32)) C dX1_workBy_12 (by decide) ?_
  refine r_aload_n C dX1_workBy_13 rfl 0 rfl ?_
  refine r_get C dX1_workBy_14 kX1_workBy_1 c (brg hc) rfl 0 (by decide) kX1_workBy_0 brv_0 ?_
  refine r_bipush (v := (7 : Int32)) C dX1_workBy_17 (by decide) ?_
  refine r_iald (j := 7) C dX1_workBy_19 (c + 1) (brt hc) (inb_e (by decide +kernel)) (by decide +kernel) ?_
  refine r_imul C dX1_workBy_20 ?_
  refine r_isub C dX1_workBy_21 ?_
  refine r_nmi (fun v1 ev1 => ?_)
  have hf := bnd_e hf v1 ev1
  refine r_istore_n (lv' := [(0, .ref (g.1 c)), (1, .int a1), (2, .int v1)]) C dX1_workBy_22 rfl (by decide) [1, 2, 0] rfl ?_
  refine r_iload_n C dX1_workBy_23 rfl 1 rfl ?_
  refine r_iconst (v := (1 : Int32)) C dX1_workBy_24 (by decide) ?_
  refine r_icmp_lt (tgt := 38) C dX1_workBy_25 (by decide) (fun q25 => ?_) (fun q25 => ?_)
  · have hf := itp hf q25
    exact mB_X1_workBy_38 hc C hr _ _ hf
  · have hf := itn hf q25
    refine r_iload_n C dX1_workBy_28 rfl 2 rfl ?_
    refine r_bipush (v := (8 : Int32)) C dX1_workBy_29 (by decide) ?_
    refine r_iadd C dX1_workBy_31 ?_
    refine r_bipush (v := (80 : Int32)) C dX1_workBy_32 (by decide) ?_
    refine r_mmin C dX1_workBy_34 kX1_workBy_2 kX1_workBy_3 kX1_workBy_4 kX1_workBy_5 (by decide) (Nat.le_of_ble_eq_true rfl) ?_
    refine r_nmi (fun v2 ev2 => ?_)
    have hf := bnd_e hf v2 ev2
    refine r_istore_n (lv' := [(0, .ref (g.1 c)), (1, .int a1), (2, .int v2)]) C dX1_workBy_37 rfl (by decide) [1, 2, 0] rfl ?_
    exact mB_X1_workBy_38 hc C hr _ _ hf
abbrev rmX7_work : Room := { frames := 2, cells := 0, slots := 0, locals := 43 }
theorem hd_X7_work : yX7_work.cls = RX7 ∧ yX7_work.cls ≠ "java/lang/invoke/MethodHandle" ∧ yX7_work.cls ≠ "java/lang/invoke/VarHandle" ∧ (parseMethodDescriptor yX7_work.desc).map (fun d => d.parameters.length) = some 2 := by decide +kernel
theorem kX7_work_0 : Cond.fieldLink RX7 75 (TX7 12).1 (TX7 12).2.1 (TX7 12).2.2.1 ∈ wsX7_work := by decide +kernel
theorem kX7_work_1 : ∀ w ∈ u_ws RX7 TX7 13, w ∈ wsX7_work := by decide +kernel
theorem kX7_work_2 : Cond.fieldLink RX7 99 RX7 "TRACE_OF_KIND" "[I" ∈ wsX7_work := by decide +kernel
theorem kX7_work_3 : Cond.fieldLink RX7 11 (TX7 0).1 (TX7 0).2.1 (TX7 0).2.2.1 ∈ wsX7_work := by decide +kernel
set_option maxRecDepth 100000 in
set_option maxHeartbeats 4000000 in
theorem c_X7_work {l : Launch} {D : va_G} {g : GG} {I : MI} {J : MJ} {a1 : Int32} {a2 : Int32} {r : Int32} {I' : MI} {J' : MJ} (hf : f_X7_work I J a1 a2 = some (r, I', J')) : CON l yX7_work wsX7_work rmX7_work D g (wB g I J) [.ref (g.1 0), .int a1, .int a2] (some (.int r)) (wB g I' J') := by
  refine con_of (cc := cX7_work) (maxL := 3) (ret := (some .int)) (by decide) rfl (Nat.le_of_ble_eq_true rfl) rfl rfl ?_
  intro k C hkl hkD h1 h2 h3
  subst hkl; subst hkD
  have hr : RTW k wB g cX7_work .int (r, I', J') := rtw_of h2
  unfold f_X7_work at hf
  refine V.loc (lv' := [(0, .ref (g.1 0)), (1, .int a1), (2, .int a2)]) [0, 1, 2] rfl ?_
  refine r_bipush (v := (10 : Int32)) C dX7_work_0 (by decide) ?_
  refine r_iload_n C dX7_work_2 rfl 1 rfl ?_
  obtain ⟨r2, hq1, hf⟩ := bo1_e hf
  refine r_callS (o := some (.int r2)) (w' := (wB g I J)) (As := [.int (10 : Int32), .int a1]) (rest := []) C (c_X7_canBe hq1) dX7_work_3 gX7_work_X7_canBe rfl rfl rfl hd_X7_canBe ⟨by decide, by decide⟩ rfl rfl (Nat.le_of_ble_eq_true rfl) ?_
  refine r_if_eq (tgt := 17) C dX7_work_6 (by decide) (fun q6 => ?_) (fun q6 => ?_)
  · have hf := itp hf q6
    refine r_iconst (v := (-1 : Int32)) C dX7_work_17 (by decide) ?_
    exact hr _ _ _ _ _ dX7_work_18 rfl hf
  · have hf := itn hf q6
    refine r_aload_n C dX7_work_9 rfl 0 rfl ?_
    refine r_iload_n C dX7_work_10 rfl 2 rfl ?_
    obtain ⟨r4, hq3, hf⟩ := bo1_e hf
    refine r_callV (o := some (.int r4)) (w' := (wB g I J)) (As := [.int a2]) (rest := []) C (c_X7_isRam hq3) dX7_work_11 gX7_work_X7_isRam rfl rfl rfl hd_X7_isRam ⟨by decide, by decide⟩ 0 bg_0 rfl rfl rfl rfl (Nat.le_of_ble_eq_true rfl) ?_
    refine r_if_ne (tgt := 19) C dX7_work_14 (by decide) (fun q14 => ?_) (fun q14 => ?_)
    · have hf := itn hf q14
      refine r_aload_n C dX7_work_19 rfl 0 rfl ?_
      refine r_dup C dX7_work_20 rfl ?_
      refine r_get C dX7_work_21 kX7_work_1 0 bg_0 rfl 12 (by decide) kX7_work_0 bv_0_12 ?_
      refine r_gets C dX7_work_24 C.S.2.2.1 kX7_work_2 ?_
      refine r_iload_n C dX7_work_27 rfl 1 rfl ?_
      obtain ⟨h5, hf⟩ := chk_e hf
      refine r_tald (j := a1.toNatClampNeg) (f := sTRC) C dX7_work_28 C.S.2.2.1 (inb_e h5) rfl ?_
      refine r_i2l C dX7_work_29 ?_
      refine r_ladd C dX7_work_30 ?_
      refine r_put (ty := .long) C dX7_work_31 kX7_work_1 tyX7 tyX7_ok nmX7 0 bg_0 rfl 12 (by decide) kX7_work_0 rfl rfl rfl rfl (Nat.le_of_ble_eq_true rfl) bs_0_12 ?_
      refine nmJB (fun J6 eJ6 => ?_)
      have hf := bnd_e hf J6 eJ6
      refine r_aload_n C dX7_work_34 rfl 0 rfl ?_
      refine r_get C dX7_work_35 kX7_work_1 0 bg_0 rfl 0 (by decide) kX7_work_3 bv_0_0 ?_
      refine r_iload_n C dX7_work_38 rfl 2 rfl ?_
      obtain ⟨h7, hf⟩ := chk_e hf
      refine r_aald C dX7_work_39 1 bg_1 (inb_e h7) rfl ?_
      refine r_iload_n C dX7_work_40 rfl 1 rfl ?_
      obtain ⟨r9, hq8, hf⟩ := bo1_e hf
      refine r_callV (o := some (.int r9)) (w' := (wB g I J6)) (As := [.int a1]) (rest := []) C (c_X1_workBy (rc_of (inb_e h7)) hq8) dX7_work_41 gX7_work_X1_workBy rfl rfl rfl hd_X1_workBy ⟨by decide, by decide⟩ (rc a2) (brg (rc_of (inb_e h7))) rfl rfl rfl rfl (Nat.le_of_ble_eq_true rfl) ?_
      exact hr _ _ _ _ _ dX7_work_44 rfl hf
    · have hf := itp hf q14
      refine r_iconst (v := (-1 : Int32)) C dX7_work_17 (by decide) ?_
      exact hr _ _ _ _ _ dX7_work_18 rfl hf
abbrev rmX1_share : Room := { frames := 0, cells := 0, slots := 0, locals := 0 }
theorem hd_X1_share : yX1_share.cls ≠ "java/lang/invoke/MethodHandle" ∧ yX1_share.cls ≠ "java/lang/invoke/VarHandle" ∧ (parseMethodDescriptor yX1_share.desc).map (fun d => d.parameters.length) = some 2 := by decide +kernel
set_option maxRecDepth 100000 in
set_option maxHeartbeats 4000000 in
theorem c_X1_share {l : Launch} {D : va_G} {g : GG} {I : MI} {J : MJ} {a0 : Int64} {a2 : Int64} {r : Int64} (hf : f_X1_share a0 a2 = some r) : CON l yX1_share wsX1_share rmX1_share D g (wB g I J) [.long a0, .long a2] (some (.long r)) (wB g I J) := by
  refine con_of (cc := cX1_share) (maxL := 4) (ret := (some .long)) (by decide) rfl (Nat.le_of_ble_eq_true rfl) rfl rfl ?_
  intro k C hkl hkD h1 h2 h3
  subst hkl; subst hkD
  have hr : RRL k (wB g I J) cX1_share r := rrl_of h3
  unfold f_X1_share at hf
  refine V.loc (lv' := [(0, .long a0), (2, .long a2)]) [0, 1] rfl ?_
  refine r_lload_n C dX1_share_0 rfl 1 rfl ?_
  refine r_lconst (v := (0 : Int64)) C dX1_share_1 (by decide) ?_
  refine r_lcmp_le (tgt := 12) C dX1_share_2 dX1_share_3 (by decide) (fun q2 => ?_) (fun q2 => ?_)
  · have hf := itp hf q2
    refine r_lconst (v := (0 : Int64)) C dX1_share_12 (by decide) ?_
    exact hr _ _ _ dX1_share_13 hf
  · have hf := itn hf q2
    refine r_lload_n C dX1_share_6 rfl 0 rfl ?_
    refine r_lload_n C dX1_share_7 rfl 1 rfl ?_
    obtain ⟨h1, hf⟩ := chk_e hf
    refine r_ldiv C dX1_share_8 (nzl_e h1) ?_
    refine r_goto (tgt := 13) C dX1_share_9 (by decide) ?_
    exact hr _ _ _ dX1_share_13 hf
