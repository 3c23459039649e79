abbrev rmX6_numbers : Room := { frames := 0, cells := 0, slots := 0, locals := 0 }
theorem hd_X6_numbers : yX6_numbers.cls ≠ "java/lang/invoke/MethodHandle" ∧ yX6_numbers.cls ≠ "java/lang/invoke/VarHandle" ∧ (parseMethodDescriptor yX6_numbers.desc).map (fun d => d.parameters.length) = some 1 := by decide +kernel
set_option maxRecDepth 100000 in
set_option maxHeartbeats 4000000 in
theorem mB_X6_numbers_4 {k : CT} {g : GG} {I : MI} {J : MJ} (C : CX k cX6_numbers 3 RX6 wsX6_numbers rmX6_numbers g) {ρ : Int32} (hr : RRW k (wB g I J) cX6_numbers .int ρ) {kk4 : Int32 → Int32 → Int32 → Option Int32} (hk4 : ∀ (x0 : Int32) (x1 : Int32) (x2 : Int32), kk4 x0 x1 x2 = some ρ → V k (wB g I J) 4 [(0, .int x0), (1, .int x1), (2, .int x2)] []) : ∀ (x0 : Int32) (x1 : Int32) (x2 : Int32), LB_X6_numbers_4 kk4 x0 x1 x2 = some ρ → V k (wB g I J) 4 [(0, .int x0), (1, .int x1), (2, .int x2)] [] := by
  intro x0 x1 x2 hf
  unfold LB_X6_numbers_4 at hf
  refine r_iload_n C dX6_numbers_4 rfl 2 rfl ?_
  refine r_iload_n C dX6_numbers_5 rfl 0 rfl ?_
  refine r_icmp_ge (tgt := 20) C dX6_numbers_6 (by decide) (fun q6 => ?_) (fun q6 => ?_)
  · have hf := itp hf q6
    refine r_iload_n C dX6_numbers_20 rfl 1 rfl ?_
    exact hr _ _ _ dX6_numbers_21 rfl hf
  · have hf := itn hf q6
    refine r_iload_n C dX6_numbers_9 rfl 1 rfl ?_
    refine r_bipush (v := (7 : Int32)) C dX6_numbers_10 (by decide) ?_
    refine r_imul C dX6_numbers_12 ?_
    refine r_nmi (fun v1 ev1 => ?_)
    have hf := bnd_e hf v1 ev1
    refine r_istore_n (lv' := [(0, .int x0), (1, .int v1), (2, .int x2)]) C dX6_numbers_13 rfl (by decide) [1, 0, 2] rfl ?_
    obtain ⟨v2, ev2⟩ : ∃ z : Int32, z = x2 + (1 : Int32) := ⟨_, rfl⟩
    have hf := bnd_e hf v2 ev2
    refine r_iinc (v := v2) (lv' := [(0, .int x0), (1, .int v1), (2, .int v2)]) C dX6_numbers_14 2 rfl (by rw [ev2]; rfl) (by decide) [1, 2, 0] rfl ?_
    refine r_goto (tgt := 4) C dX6_numbers_17 (by decide) ?_
    exact hk4 _ _ _ hf
theorem mL_X6_numbers_4 {k : CT} {g : GG} {I : MI} {J : MJ} (C : CX k cX6_numbers 3 RX6 wsX6_numbers rmX6_numbers g) {ρ : Int32} (hr : RRW k (wB g I J) cX6_numbers .int ρ) : ∀ (n : Nat) (x0 : Int32) (x1 : Int32) (x2 : Int32), LP_X6_numbers_4 n x0 x1 x2 = some ρ → V k (wB g I J) 4 [(0, .int x0), (1, .int x1), (2, .int x2)] [] := by
  intro n
  induction n with
  | zero => intro x0 x1 x2 hf; cases hf
  | succ n ih => intro x0 x1 x2 hf; exact mB_X6_numbers_4 C hr (fun x0 x1 x2 h => ih x0 x1 x2 h) x0 x1 x2 hf
set_option maxRecDepth 100000 in
set_option maxHeartbeats 4000000 in
theorem c_X6_numbers {l : Launch} {D : va_G} {g : GG} {I : MI} {J : MJ} {a0 : Int32} {r : Int32} (hf : f_X6_numbers a0 = some r) : CON l yX6_numbers wsX6_numbers rmX6_numbers D g (wB g I J) [.int a0] (some (.int r)) (wB g I J) := by
  refine con_of (cc := cX6_numbers) (maxL := 3) (ret := (some .int)) (by decide) rfl (Nat.le_of_ble_eq_true rfl) rfl rfl ?_
  intro k C hkl hkD h1 h2 h3
  subst hkl; subst hkD
  have hr : RRW k (wB g I J) cX6_numbers .int r := rrw_of h2
  unfold f_X6_numbers at hf
  refine V.loc (lv' := [(0, .int a0)]) [0] rfl ?_
  refine r_iconst (v := (1 : Int32)) C dX6_numbers_0 (by decide) ?_
  refine r_istore_n (lv' := [(0, .int a0), (1, .int (1 : Int32))]) C dX6_numbers_1 rfl (by decide) [1, 0] rfl ?_
  refine r_iconst (v := (0 : Int32)) C dX6_numbers_2 (by decide) ?_
  refine r_istore_n (lv' := [(0, .int a0), (1, .int (1 : Int32)), (2, .int (0 : Int32))]) C dX6_numbers_3 rfl (by decide) [1, 2, 0] rfl ?_
  exact mL_X6_numbers_4 C hr FU _ _ _ hf
abbrev rmX6_upOf : Room := { frames := 0, cells := 0, slots := 0, locals := 0 }
theorem hd_X6_upOf : yX6_upOf.cls = RX6 ∧ yX6_upOf.cls ≠ "java/lang/invoke/MethodHandle" ∧ yX6_upOf.cls ≠ "java/lang/invoke/VarHandle" ∧ (parseMethodDescriptor yX6_upOf.desc).map (fun d => d.parameters.length) = some 3 := by decide +kernel
theorem kX6_upOf_0 : Cond.fieldLink RX6 18 (TX6 2).1 (TX6 2).2.1 (TX6 2).2.2.1 ∈ wsX6_upOf := by decide +kernel
theorem kX6_upOf_1 : ∀ w ∈ u_ws RX6 TX6 7, w ∈ wsX6_upOf := by decide +kernel
theorem kX6_upOf_2 : Cond.fieldLink RX6 22 (TX6 3).1 (TX6 3).2.1 (TX6 3).2.2.1 ∈ wsX6_upOf := by decide +kernel
theorem kX6_upOf_3 : Cond.fieldLink RX6 25 (TX6 4).1 (TX6 4).2.1 (TX6 4).2.2.1 ∈ wsX6_upOf := by decide +kernel
set_option maxRecDepth 100000 in
set_option maxHeartbeats 4000000 in
theorem mB_X6_upOf_12 {k : CT} {g : GG} {I : MI} {J : MJ} (C : CX k cX6_upOf 10 RX6 wsX6_upOf rmX6_upOf g) {ρ : Int32} (hr : RRW k (wB g I J) cX6_upOf .int ρ) {kk12 : Int32 → Int32 → Int32 → Int32 → Int32 → Option Int32} (hk12 : ∀ (x2 : Int32) (x4 : Int32) (x5 : Int32) (x6 : Int32) (x7 : Int32), kk12 x2 x4 x5 x6 x7 = some ρ → V k (wB g I J) 12 [(0, .ref (g.1 15)), (2, .int x2), (4, .int x4), (5, .int x5), (6, .int x6), (7, .int x7)] []) : ∀ (x2 : Int32) (x4 : Int32) (x5 : Int32) (x6 : Int32) (x7 : Int32), LB_X6_upOf_12 I J kk12 x2 x4 x5 x6 x7 = some ρ → V k (wB g I J) 12 [(0, .ref (g.1 15)), (2, .int x2), (4, .int x4), (5, .int x5), (6, .int x6), (7, .int x7)] [] := by
  intro x2 x4 x5 x6 x7 hf
  unfold LB_X6_upOf_12 at hf
  refine r_iload C dX6_upOf_12 5 rfl ?_
  refine r_iload_n C dX6_upOf_14 rfl 1 rfl ?_
  refine r_icmp_ge (tgt := 108) C dX6_upOf_15 (by decide) (fun q15 => ?_) (fun q15 => ?_)
  · have hf := itp hf q15
    refine r_iload C dX6_upOf_108 3 rfl ?_
    exact hr _ _ _ dX6_upOf_110 rfl hf
  · have hf := itn hf q15
    refine r_iload C dX6_upOf_18 4 rfl ?_
    refine r_bipush (v := (7 : Int32)) C dX6_upOf_20 (by decide) ?_
    refine r_irem C dX6_upOf_22 (by decide) ?_
    refine r_nmi (fun v1 ev1 => ?_)
    have hf := bnd_e hf v1 ev1
    refine r_istore (lv' := [(0, .ref (g.1 15)), (2, .int x2), (4, .int x4), (5, .int x5), (6, .int x6), (7, .int x7), (8, .int v1)]) C dX6_upOf_23 (by decide) [1, 2, 3, 4, 5, 6, 0] rfl ?_
    refine r_iload C dX6_upOf_25 4 rfl ?_
    refine r_bipush (v := (7 : Int32)) C dX6_upOf_27 (by decide) ?_
    refine r_idiv C dX6_upOf_29 (by decide) ?_
    refine r_nmi (fun v2 ev2 => ?_)
    have hf := bnd_e hf v2 ev2
    refine r_istore (lv' := [(0, .ref (g.1 15)), (2, .int x2), (4, .int x4), (5, .int x5), (6, .int v2), (7, .int x7), (8, .int v1)]) C dX6_upOf_30 (by decide) [1, 2, 3, 4, 0, 5, 6] rfl ?_
    refine r_iload C dX6_upOf_32 5 rfl ?_
    refine r_bipush (v := (7 : Int32)) C dX6_upOf_34 (by decide) ?_
    refine r_imul C dX6_upOf_36 ?_
    refine r_iload C dX6_upOf_37 6 rfl ?_
    refine r_iadd C dX6_upOf_39 ?_
    refine r_nmi (fun v3 ev3 => ?_)
    have hf := bnd_e hf v3 ev3
    refine r_istore (lv' := [(0, .ref (g.1 15)), (2, .int x2), (4, .int x4), (5, .int x5), (6, .int v2), (7, .int x7), (8, .int v1), (9, .int v3)]) C dX6_upOf_40 (by decide) [1, 2, 3, 4, 5, 6, 7, 0] rfl ?_
    refine r_iload C dX6_upOf_42 6 rfl ?_
    refine r_aload_n C dX6_upOf_44 rfl 0 rfl ?_
    refine r_get C dX6_upOf_45 kX6_upOf_1 15 bg_15 rfl 2 (by decide) kX6_upOf_0 bv_15_2 ?_
    refine r_icmp_gt (tgt := 75) C dX6_upOf_48 (by decide) (fun q48 => ?_) (fun q48 => ?_)
    · have hf := itp hf q48
      refine r_bipush (v := (-9 : Int32)) C dX6_upOf_75 (by decide) ?_
      exact hr _ _ _ dX6_upOf_77 rfl hf
    · have hf := itn hf q48
      refine r_aload_n C dX6_upOf_51 rfl 0 rfl ?_
      refine r_get C dX6_upOf_52 kX6_upOf_1 15 bg_15 rfl 3 (by decide) kX6_upOf_2 bv_15_3 ?_
      refine r_iload C dX6_upOf_55 7 rfl ?_
      obtain ⟨h4, hf⟩ := chk_e hf
      refine r_iald (j := v3.toNatClampNeg) C dX6_upOf_57 18 bg_18 (inb_e h4) rfl ?_
      refine r_bipush (v := (-9 : Int32)) C dX6_upOf_58 (by decide) ?_
      refine r_icmp_eq (tgt := 75) C dX6_upOf_60 (by decide) (fun q60 => ?_) (fun q60 => ?_)
      · have hf := itp hf q60
        refine r_bipush (v := (-9 : Int32)) C dX6_upOf_75 (by decide) ?_
        exact hr _ _ _ dX6_upOf_77 rfl hf
      · have hf := itn hf q60
        refine r_aload_n C dX6_upOf_63 rfl 0 rfl ?_
        refine r_get C dX6_upOf_64 kX6_upOf_1 15 bg_15 rfl 3 (by decide) kX6_upOf_2 bv_15_3 ?_
        refine r_iload C dX6_upOf_67 7 rfl ?_
        obtain ⟨h5, hf⟩ := chk_e hf
        refine r_iald (j := v3.toNatClampNeg) C dX6_upOf_69 18 bg_18 (inb_e h5) rfl ?_
        refine r_iload C dX6_upOf_70 2 rfl ?_
        refine r_icmp_le (tgt := 78) C dX6_upOf_72 (by decide) (fun q72 => ?_) (fun q72 => ?_)
        · have hf := itp hf q72
          refine r_iload C dX6_upOf_78 2 rfl ?_
          refine r_aload_n C dX6_upOf_80 rfl 0 rfl ?_
          refine r_get C dX6_upOf_81 kX6_upOf_1 15 bg_15 rfl 3 (by decide) kX6_upOf_2 bv_15_3 ?_
          refine r_iload C dX6_upOf_84 7 rfl ?_
          obtain ⟨h6, hf⟩ := chk_e hf
          refine r_iald (j := v3.toNatClampNeg) C dX6_upOf_86 18 bg_18 (inb_e h6) rfl ?_
          refine r_isub C dX6_upOf_87 ?_
          refine r_nmi (fun v7 ev7 => ?_)
          have hf := bnd_e hf v7 ev7
          refine r_istore (lv' := [(0, .ref (g.1 15)), (2, .int x2), (4, .int v7), (5, .int x5), (6, .int v2), (7, .int x7), (8, .int v1), (9, .int v3)]) C dX6_upOf_88 (by decide) [1, 2, 0, 3, 4, 5, 6, 7] rfl ?_
          refine r_iload C dX6_upOf_90 3 rfl ?_
          refine r_aload_n C dX6_upOf_92 rfl 0 rfl ?_
          refine r_get C dX6_upOf_93 kX6_upOf_1 15 bg_15 rfl 4 (by decide) kX6_upOf_3 bv_15_4 ?_
          refine r_iload C dX6_upOf_96 7 rfl ?_
          obtain ⟨h8, hf⟩ := chk_e hf
          refine r_iald (j := v3.toNatClampNeg) C dX6_upOf_98 19 bg_19 (inb_e h8) rfl ?_
          refine r_iadd C dX6_upOf_99 ?_
          refine r_nmi (fun v9 ev9 => ?_)
          have hf := bnd_e hf v9 ev9
          refine r_istore (lv' := [(0, .ref (g.1 15)), (2, .int x2), (4, .int v7), (5, .int v9), (6, .int v2), (7, .int x7), (8, .int v1), (9, .int v3)]) C dX6_upOf_100 (by decide) [1, 2, 3, 0, 4, 5, 6, 7] rfl ?_
          obtain ⟨v10, ev10⟩ : ∃ z : Int32, z = x7 + (1 : Int32) := ⟨_, rfl⟩
          have hf := bnd_e hf v10 ev10
          refine r_iinc (v := v10) (lv' := [(0, .ref (g.1 15)), (2, .int x2), (4, .int v7), (5, .int v9), (6, .int v2), (7, .int v10), (8, .int v1), (9, .int v3)]) C dX6_upOf_102 5 rfl (by rw [ev10]; rfl) (by decide) [1, 2, 3, 4, 5, 0, 6, 7] rfl ?_
          refine r_goto (tgt := 12) C dX6_upOf_105 (by decide) ?_
          refine V.loc [0, 1, 2, 3, 4, 5] rfl ?_
          exact hk12 _ _ _ _ _ hf
        · have hf := itn hf q72
          refine r_bipush (v := (-9 : Int32)) C dX6_upOf_75 (by decide) ?_
          exact hr _ _ _ dX6_upOf_77 rfl hf
theorem mL_X6_upOf_12 {k : CT} {g : GG} {I : MI} {J : MJ} (C : CX k cX6_upOf 10 RX6 wsX6_upOf rmX6_upOf g) {ρ : Int32} (hr : RRW k (wB g I J) cX6_upOf .int ρ) : ∀ (n : Nat) (x2 : Int32) (x4 : Int32) (x5 : Int32) (x6 : Int32) (x7 : Int32), LP_X6_upOf_12 I J n x2 x4 x5 x6 x7 = some ρ → V k (wB g I J) 12 [(0, .ref (g.1 15)), (2, .int x2), (4, .int x4), (5, .int x5), (6, .int x6), (7, .int x7)] [] := by
  intro n
  induction n with
  | zero => intro x2 x4 x5 x6 x7 hf; cases hf
  | succ n ih => intro x2 x4 x5 x6 x7 hf; exact mB_X6_upOf_12 C hr (fun x2 x4 x5 x6 x7 h => ih x2 x4 x5 x6 x7 h) x2 x4 x5 x6 x7 hf
set_option maxRecDepth 100000 in
set_option maxHeartbeats 4000000 in
theorem c_X6_upOf {l : Launch} {D : va_G} {g : GG} {I : MI} {J : MJ} {a1 : Int32} {a2 : Int32} {a3 : Int32} {r : Int32} (hf : f_X6_upOf I J a1 a2 a3 = some r) : CON l yX6_upOf wsX6_upOf rmX6_upOf D g (wB g I J) [.ref (g.1 15), .int a1, .int a2, .int a3] (some (.int r)) (wB g I J) := by
  refine con_of (cc := cX6_upOf) (maxL := 10) (ret := (some .int)) (by decide) rfl (Nat.le_of_ble_eq_true rfl) rfl rfl ?_
  intro k C hkl hkD h1 h2 h3
  subst hkl; subst hkD
  have hr : RRW k (wB g I J) cX6_upOf .int r := rrw_of h2
  unfold f_X6_upOf at hf
  refine V.loc (lv' := [(0, .ref (g.1 15)), (1, .int a1), (2, .int a2), (3, .int a3)]) [0, 1, 2, 3] rfl ?_
  refine r_iload_n C dX6_upOf_0 rfl 3 rfl ?_
  refine r_istore (lv' := [(0, .ref (g.1 15)), (1, .int a1), (2, .int a2), (3, .int a3), (4, .int a3)]) C dX6_upOf_1 (by decide) [1, 2, 3, 4, 0] rfl ?_
  refine r_iconst (v := (0 : Int32)) C dX6_upOf_3 (by decide) ?_
  refine r_istore (lv' := [(0, .ref (g.1 15)), (1, .int a1), (2, .int a2), (3, .int a3), (4, .int a3), (5, .int (0 : Int32))]) C dX6_upOf_4 (by decide) [1, 2, 3, 4, 5, 0] rfl ?_
  refine r_iload_n C dX6_upOf_6 rfl 1 rfl ?_
  refine r_istore (lv' := [(0, .ref (g.1 15)), (1, .int a1), (2, .int a2), (3, .int a3), (4, .int a3), (5, .int (0 : Int32)), (6, .int a1)]) C dX6_upOf_7 (by decide) [1, 2, 3, 4, 5, 6, 0] rfl ?_
  refine r_iconst (v := (0 : Int32)) C dX6_upOf_9 (by decide) ?_
  refine r_istore (lv' := [(0, .ref (g.1 15)), (1, .int a1), (2, .int a2), (3, .int a3), (4, .int a3), (5, .int (0 : Int32)), (6, .int a1), (7, .int (0 : Int32))]) C dX6_upOf_10 (by decide) [1, 2, 3, 4, 5, 6, 7, 0] rfl ?_
  refine V.loc [0, 2, 4, 5, 6, 7] rfl ?_
  exact mL_X6_upOf_12 C hr FU _ _ _ _ _ hf
abbrev rmX6_pick : Room := { frames := 1, cells := 0, slots := 0, locals := 29 }
theorem hd_X6_pick : yX6_pick.cls = RX6 ∧ yX6_pick.cls ≠ "java/lang/invoke/MethodHandle" ∧ yX6_pick.cls ≠ "java/lang/invoke/VarHandle" ∧ (parseMethodDescriptor yX6_pick.desc).map (fun d => d.parameters.length) = some 2 := by decide +kernel
theorem kX6_pick_0 : Cond.fieldLink RX6 28 (TX6 5).1 (TX6 5).2.1 (TX6 5).2.2.1 ∈ wsX6_pick := by decide +kernel
theorem kX6_pick_1 : ∀ w ∈ u_ws RX6 TX6 7, w ∈ wsX6_pick := by decide +kernel
theorem kX6_pick_2 : Cond.fieldLink RX6 31 (TX6 6).1 (TX6 6).2.1 (TX6 6).2.2.1 ∈ wsX6_pick := by decide +kernel
set_option maxRecDepth 100000 in
set_option maxHeartbeats 4000000 in
theorem mB_X6_pick_18 {k : CT} {g : GG} (C : CX k cX6_pick 6 RX6 wsX6_pick rmX6_pick g) {ρ : (MI × MJ)} (hr : RTV k wB g cX6_pick ρ) {kk18 : MI → MJ → Int32 → Int32 → Int32 → Int32 → Option (MI × MJ)} (hk18 : ∀ (I : MI) (J : MJ) (x1 : Int32) (x2 : Int32) (x3 : Int32) (x4 : Int32), kk18 I J x1 x2 x3 x4 = some ρ → V k (wB g I J) 18 [(0, .ref (g.1 15)), (1, .int x1), (2, .int x2), (3, .int x3), (4, .int x4)] []) : ∀ (I : MI) (J : MJ) (x1 : Int32) (x2 : Int32) (x3 : Int32) (x4 : Int32), LB_X6_pick_18 kk18 I J x1 x2 x3 x4 = some ρ → V k (wB g I J) 18 [(0, .ref (g.1 15)), (1, .int x1), (2, .int x2), (3, .int x3), (4, .int x4)] [] := by
  intro I J x1 x2 x3 x4 hf
  unfold LB_X6_pick_18 at hf
  refine r_iload C dX6_pick_18 4 rfl ?_
  refine r_iload_n C dX6_pick_20 rfl 3 rfl ?_
  refine r_icmp_ge (tgt := 61) C dX6_pick_21 (by decide) (fun q21 => ?_) (fun q21 => ?_)
  · have hf := itp hf q21
    exact hr _ _ _ _ dX6_pick_61 hf
  · have hf := itn hf q21
    refine r_aload_n C dX6_pick_24 rfl 0 rfl ?_
    refine r_iload C dX6_pick_25 4 rfl ?_
    refine r_iload_n C dX6_pick_27 rfl 1 rfl ?_
    refine r_iload_n C dX6_pick_28 rfl 2 rfl ?_
    obtain ⟨r2, hq1, hf⟩ := bo1_e hf
    refine r_callV (o := some (.int r2)) (w' := (wB g I J)) (As := [.int x4, .int x1, .int x2]) (rest := []) C (c_X6_upOf hq1) dX6_pick_29 gX6_pick_X6_upOf rfl rfl rfl hd_X6_upOf ⟨by decide, by decide⟩ 15 bg_15 rfl rfl rfl rfl (Nat.le_of_ble_eq_true rfl) ?_
    refine r_istore (lv' := [(0, .ref (g.1 15)), (1, .int x1), (2, .int x2), (3, .int x3), (4, .int x4), (5, .int r2)]) C dX6_pick_32 (by decide) [1, 2, 3, 4, 5, 0] rfl ?_
    refine r_iload C dX6_pick_34 5 rfl ?_
    refine r_aload_n C dX6_pick_36 rfl 0 rfl ?_
    refine r_get C dX6_pick_37 kX6_pick_1 15 bg_15 rfl 6 (by decide) kX6_pick_2 bv_15_6 ?_
    refine r_icmp_le (tgt := 55) C dX6_pick_40 (by decide) (fun q40 => ?_) (fun q40 => ?_)
    · have hf := itp hf q40
      obtain ⟨v3, ev3⟩ : ∃ z : Int32, z = x4 + (1 : Int32) := ⟨_, rfl⟩
      have hf := bnd_e hf v3 ev3
      refine r_iinc (v := v3) (lv' := [(0, .ref (g.1 15)), (1, .int x1), (2, .int x2), (3, .int x3), (4, .int v3), (5, .int r2)]) C dX6_pick_55 4 rfl (by rw [ev3]; rfl) (by decide) [1, 2, 3, 4, 0, 5] rfl ?_
      refine r_goto (tgt := 18) C dX6_pick_58 (by decide) ?_
      refine V.loc [0, 1, 2, 3, 4] rfl ?_
      exact hk18 _ _ _ _ _ _ hf
    · have hf := itn hf q40
      refine r_aload_n C dX6_pick_43 rfl 0 rfl ?_
      refine r_iload C dX6_pick_44 4 rfl ?_
      refine r_put (ty := .int) C dX6_pick_46 kX6_pick_1 tyX6 tyX6_ok nmX6 15 bg_15 rfl 5 (by decide) kX6_pick_0 rfl rfl rfl rfl (Nat.le_of_ble_eq_true rfl) bs_15_5 ?_
      refine nmIB (fun I4 eI4 => ?_)
      have hf := bnd_e hf I4 eI4
      refine r_aload_n C dX6_pick_49 rfl 0 rfl ?_
      refine r_iload C dX6_pick_50 5 rfl ?_
      refine r_put (ty := .int) C dX6_pick_52 kX6_pick_1 tyX6 tyX6_ok nmX6 15 bg_15 rfl 6 (by decide) kX6_pick_2 rfl rfl rfl rfl (Nat.le_of_ble_eq_true rfl) bs_15_6 ?_
      refine nmIB (fun I5 eI5 => ?_)
      have hf := bnd_e hf I5 eI5
      obtain ⟨v6, ev6⟩ : ∃ z : Int32, z = x4 + (1 : Int32) := ⟨_, rfl⟩
      have hf := bnd_e hf v6 ev6
      refine r_iinc (v := v6) (lv' := [(0, .ref (g.1 15)), (1, .int x1), (2, .int x2), (3, .int x3), (4, .int v6), (5, .int r2)]) C dX6_pick_55 4 rfl (by rw [ev6]; rfl) (by decide) [1, 2, 3, 4, 0, 5] rfl ?_
      refine r_goto (tgt := 18) C dX6_pick_58 (by decide) ?_
      refine V.loc [0, 1, 2, 3, 4] rfl ?_
      exact hk18 _ _ _ _ _ _ hf
theorem mL_X6_pick_18 {k : CT} {g : GG} (C : CX k cX6_pick 6 RX6 wsX6_pick rmX6_pick g) {ρ : (MI × MJ)} (hr : RTV k wB g cX6_pick ρ) : ∀ (n : Nat) (I : MI) (J : MJ) (x1 : Int32) (x2 : Int32) (x3 : Int32) (x4 : Int32), LP_X6_pick_18 n I J x1 x2 x3 x4 = some ρ → V k (wB g I J) 18 [(0, .ref (g.1 15)), (1, .int x1), (2, .int x2), (3, .int x3), (4, .int x4)] [] := by
  intro n
  induction n with
  | zero => intro I J x1 x2 x3 x4 hf; cases hf
  | succ n ih => intro I J x1 x2 x3 x4 hf; exact mB_X6_pick_18 C hr (fun I J x1 x2 x3 x4 h => ih I J x1 x2 x3 x4 h) I J x1 x2 x3 x4 hf
set_option maxRecDepth 100000 in
set_option maxHeartbeats 4000000 in
theorem c_X6_pick {l : Launch} {D : va_G} {g : GG} {I : MI} {J : MJ} {a1 : Int32} {a2 : Int32} {I' : MI} {J' : MJ} (hf : f_X6_pick I J a1 a2 = some (I', J')) : CON l yX6_pick wsX6_pick rmX6_pick D g (wB g I J) [.ref (g.1 15), .int a1, .int a2] none (wB g I' J') := by
  refine con_of (cc := cX6_pick) (maxL := 6) (ret := none) (by decide) rfl (Nat.le_of_ble_eq_true rfl) rfl rfl ?_
  intro k C hkl hkD h1 h2 h3
  subst hkl; subst hkD
  have hr : RTV k wB g cX6_pick (I', J') := rtv_of h1
  unfold f_X6_pick at hf
  refine V.loc (lv' := [(0, .ref (g.1 15)), (1, .int a1), (2, .int a2)]) [0, 1, 2] rfl ?_
  refine r_aload_n C dX6_pick_0 rfl 0 rfl ?_
  refine r_iconst (v := (0 : Int32)) C dX6_pick_1 (by decide) ?_
  refine r_put (ty := .int) C dX6_pick_2 kX6_pick_1 tyX6 tyX6_ok nmX6 15 bg_15 rfl 5 (by decide) kX6_pick_0 rfl rfl rfl rfl (Nat.le_of_ble_eq_true rfl) bs_15_5 ?_
  refine nmIB (fun I1 eI1 => ?_)
  have hf := bnd_e hf I1 eI1
  refine r_aload_n C dX6_pick_5 rfl 0 rfl ?_
  refine r_iconst (v := (0 : Int32)) C dX6_pick_6 (by decide) ?_
  refine r_put (ty := .int) C dX6_pick_7 kX6_pick_1 tyX6 tyX6_ok nmX6 15 bg_15 rfl 6 (by decide) kX6_pick_2 rfl rfl rfl rfl (Nat.le_of_ble_eq_true rfl) bs_15_6 ?_
  refine nmIB (fun I2 eI2 => ?_)
  have hf := bnd_e hf I2 eI2
  refine r_iload_n C dX6_pick_10 rfl 1 rfl ?_
  obtain ⟨r4, hq3, hf⟩ := bo1_e hf
  refine r_callS (o := some (.int r4)) (w' := (wB g I2 J)) (As := [.int a1]) (rest := []) C (c_X6_numbers hq3) dX6_pick_11 gX6_pick_X6_numbers rfl rfl rfl hd_X6_numbers ⟨by decide, by decide⟩ rfl rfl (Nat.le_of_ble_eq_true rfl) ?_
  refine r_istore_n (lv' := [(0, .ref (g.1 15)), (1, .int a1), (2, .int a2), (3, .int r4)]) C dX6_pick_14 rfl (by decide) [1, 2, 3, 0] rfl ?_
  refine r_iconst (v := (1 : Int32)) C dX6_pick_15 (by decide) ?_
  refine r_istore (lv' := [(0, .ref (g.1 15)), (1, .int a1), (2, .int a2), (3, .int r4), (4, .int (1 : Int32))]) C dX6_pick_16 (by decide) [1, 2, 3, 4, 0] rfl ?_
  exact mL_X6_pick_18 C hr FU _ _ _ _ _ _ hf
abbrev rmX7_side : Room := { frames := 6, cells := 0, slots := 0, locals := 137 }
theorem hd_X7_side : yX7_side.cls = RX7 ∧ yX7_side.cls ≠ "java/lang/invoke/MethodHandle" ∧ yX7_side.cls ≠ "java/lang/invoke/VarHandle" ∧ (parseMethodDescriptor yX7_side.desc).map (fun d => d.parameters.length) = some 2 := by decide +kernel
theorem kX7_side_0 : Cond.fieldLink RX7 15 (TX7 1).1 (TX7 1).2.1 (TX7 1).2.2.1 ∈ wsX7_side := by decide +kernel
theorem kX7_side_1 : ∀ w ∈ u_ws RX7 TX7 13, w ∈ wsX7_side := by decide +kernel
theorem kX7_side_2 : Cond.fieldLink RX7 34 (TX7 4).1 (TX7 4).2.1 (TX7 4).2.2.1 ∈ wsX7_side := by decide +kernel
theorem kX7_side_3 : Cond.fieldLink RX7 27 (TX7 3).1 (TX7 3).2.1 (TX7 3).2.2.1 ∈ wsX7_side := by decide +kernel
theorem kX7_side_4 : Cond.fieldLink RX7 142 (TX4 0).1 (TX4 0).2.1 (TX4 0).2.2.1 ∈ wsX7_side := by decide +kernel
theorem kX7_side_5 : ∀ w ∈ u_ws RX4 TX4 4, w ∈ wsX7_side := by decide +kernel
theorem kX7_side_6 : Cond.fieldLink RX7 173 (TX6 6).1 (TX6 6).2.1 (TX6 6).2.2.1 ∈ wsX7_side := by decide +kernel
theorem kX7_side_7 : ∀ w ∈ u_ws RX6 TX6 7, w ∈ wsX7_side := by decide +kernel
theorem kX7_side_8 : Cond.fieldLink RX7 170 (TX6 5).1 (TX6 5).2.1 (TX6 5).2.2.1 ∈ wsX7_side := by decide +kernel
theorem kX7_side_9 : Cond.fieldLink RX7 20 (TX7 2).1 (TX7 2).2.1 (TX7 2).2.2.1 ∈ wsX7_side := by decide +kernel
theorem kX7_side_10 : Cond.fieldLink RX7 11 (TX7 0).1 (TX7 0).2.1 (TX7 0).2.2.1 ∈ wsX7_side := by decide +kernel
set_option maxRecDepth 100000 in
set_option maxHeartbeats 4000000 in
theorem mB_X7_side_20 {k : CT} {g : GG} (C : CX k cX7_side 4 RX7 wsX7_side rmX7_side g) {ρ : (Int32 × MI × MJ)} (hr : RTW k wB g cX7_side .int ρ) {kk20 : MI → MJ → Int32 → Int32 → Int32 → Option (Int32 × MI × MJ)} (hk20 : ∀ (I : MI) (J : MJ) (x1 : Int32) (x2 : Int32) (x3 : Int32), kk20 I J x1 x2 x3 = some ρ → V k (wB g I J) 20 [(0, .ref (g.1 0)), (1, .int x1), (2, .int x2), (3, .int x3)] []) : ∀ (I : MI) (J : MJ) (x1 : Int32) (x2 : Int32) (x3 : Int32), LB_X7_side_20 kk20 I J x1 x2 x3 = some ρ → V k (wB g I J) 20 [(0, .ref (g.1 0)), (1, .int x1), (2, .int x2), (3, .int x3)] [] := by
  intro I J x1 x2 x3 hf
  unfold LB_X7_side_20 at hf
  refine r_iload_n C dX7_side_20 rfl 3 rfl ?_
  refine r_aload_n C dX7_side_21 rfl 0 rfl ?_
  refine r_get C dX7_side_22 kX7_side_1 0 bg_0 rfl 1 (by decide) kX7_side_0 bv_0_1 ?_
  refine r_icmp_ge (tgt := 59) C dX7_side_25 (by decide) (fun q25 => ?_) (fun q25 => ?_)
  · have hf := itp hf q25
    refine r_aload_n C dX7_side_59 rfl 0 rfl ?_
    refine r_get C dX7_side_60 kX7_side_1 0 bg_0 rfl 4 (by decide) kX7_side_2 bv_0_4 ?_
    refine r_aload_n C dX7_side_63 rfl 0 rfl ?_
    refine r_get C dX7_side_64 kX7_side_1 0 bg_0 rfl 1 (by decide) kX7_side_0 bv_0_1 ?_
    refine r_aload_n C dX7_side_67 rfl 0 rfl ?_
    refine r_get C dX7_side_68 kX7_side_1 0 bg_0 rfl 3 (by decide) kX7_side_3 bv_0_3 ?_
    refine r_get C dX7_side_71 kX7_side_5 12 bg_12 rfl 0 (by decide) kX7_side_4 bv_12_0 ?_
    refine r_iload_n C dX7_side_74 rfl 1 rfl ?_
    obtain ⟨h1, hf⟩ := chk_e hf
    refine r_iald (j := x1.toNatClampNeg) C dX7_side_75 13 bg_13 (inb_e h1) rfl ?_
    obtain ⟨I3, J4, hq2, hf⟩ := bo2_e hf
    refine r_callV (o := none) (w' := (wB g I3 J4)) (As := [.int (I 0 1), .int (I 13 x1.toNatClampNeg)]) (rest := []) C (c_X6_pick hq2) dX7_side_76 gX7_side_X6_pick rfl rfl rfl hd_X6_pick ⟨by decide, by decide⟩ 15 bg_15 rfl rfl rfl rfl (Nat.le_of_ble_eq_true rfl) ?_
    refine r_iload_n C dX7_side_79 rfl 2 rfl ?_
    refine r_if_ne (tgt := 93) C dX7_side_80 (by decide) (fun q80 => ?_) (fun q80 => ?_)
    · have hf := itn hf q80
      refine r_aload_n C dX7_side_93 rfl 0 rfl ?_
      refine r_get C dX7_side_94 kX7_side_1 0 bg_0 rfl 4 (by decide) kX7_side_2 bv_0_4 ?_
      refine r_get C dX7_side_97 kX7_side_7 15 bg_15 rfl 6 (by decide) kX7_side_6 bv_15_6 ?_
      exact hr _ _ _ _ _ dX7_side_100 rfl hf
    · have hf := itp hf q80
      refine r_aload_n C dX7_side_83 rfl 0 rfl ?_
      refine r_get C dX7_side_84 kX7_side_1 0 bg_0 rfl 4 (by decide) kX7_side_2 bv_0_4 ?_
      refine r_get C dX7_side_87 kX7_side_7 15 bg_15 rfl 5 (by decide) kX7_side_8 bv_15_5 ?_
      refine r_goto (tgt := 100) C dX7_side_90 (by decide) ?_
      exact hr _ _ _ _ _ dX7_side_100 rfl hf
  · have hf := itn hf q25
    refine r_aload_n C dX7_side_28 rfl 0 rfl ?_
    refine r_get C dX7_side_29 kX7_side_1 0 bg_0 rfl 2 (by decide) kX7_side_9 bv_0_2 ?_
    refine r_aload_n C dX7_side_32 rfl 0 rfl ?_
    refine r_get C dX7_side_33 kX7_side_1 0 bg_0 rfl 0 (by decide) kX7_side_10 bv_0_0 ?_
    refine r_iload_n C dX7_side_36 rfl 3 rfl ?_
    obtain ⟨h5, hf⟩ := chk_e hf
    refine r_aald C dX7_side_37 1 bg_1 (inb_e h5) rfl ?_
    obtain ⟨I7, J8, hq6, hf⟩ := bo2_e hf
    refine r_callV (o := none) (w' := (wB g I7 J8)) (As := [.ref (g.1 (rc x3))]) (rest := []) C (c_X1_becomeLike rc10 (rc_of (inb_e h5)) hq6) dX7_side_38 gX7_side_X1_becomeLike rfl rfl rfl hd_X1_becomeLike ⟨by decide, by decide⟩ 10 (brg rc10) rfl rfl rfl rfl (Nat.le_of_ble_eq_true rfl) ?_
    refine r_aload_n C dX7_side_41 rfl 0 rfl ?_
    refine r_get C dX7_side_42 kX7_side_1 0 bg_0 rfl 4 (by decide) kX7_side_2 bv_0_4 ?_
    refine r_iload_n C dX7_side_45 rfl 3 rfl ?_
    refine r_aload_n C dX7_side_46 rfl 0 rfl ?_
    refine r_get C dX7_side_47 kX7_side_1 0 bg_0 rfl 2 (by decide) kX7_side_9 bv_0_2 ?_
    obtain ⟨I10, J11, hq9, hf⟩ := bo2_e hf
    refine r_callV (o := none) (w' := (wB g I10 J11)) (As := [.int x3, .ref (g.1 10)]) (rest := []) C (c_X6_tryOn rc10 hq9) dX7_side_50 gX7_side_X6_tryOn rfl rfl rfl hd_X6_tryOn ⟨by decide, by decide⟩ 15 bg_15 rfl rfl rfl rfl (Nat.le_of_ble_eq_true rfl) ?_
    obtain ⟨v12, ev12⟩ : ∃ z : Int32, z = x3 + (1 : Int32) := ⟨_, rfl⟩
    have hf := bnd_e hf v12 ev12
    refine r_iinc (v := v12) (lv' := [(0, .ref (g.1 0)), (1, .int x1), (2, .int x2), (3, .int v12)]) C dX7_side_53 3 rfl (by rw [ev12]; rfl) (by decide) [1, 2, 3, 0] rfl ?_
    refine r_goto (tgt := 20) C dX7_side_56 (by decide) ?_
    exact hk20 _ _ _ _ _ hf
theorem mL_X7_side_20 {k : CT} {g : GG} (C : CX k cX7_side 4 RX7 wsX7_side rmX7_side g) {ρ : (Int32 × MI × MJ)} (hr : RTW k wB g cX7_side .int ρ) : ∀ (n : Nat) (I : MI) (J : MJ) (x1 : Int32) (x2 : Int32) (x3 : Int32), LP_X7_side_20 n I J x1 x2 x3 = some ρ → V k (wB g I J) 20 [(0, .ref (g.1 0)), (1, .int x1), (2, .int x2), (3, .int x3)] [] := by
  intro n
  induction n with
  | zero => intro I J x1 x2 x3 hf; cases hf
  | succ n ih => intro I J x1 x2 x3 hf; exact mB_X7_side_20 C hr (fun I J x1 x2 x3 h => ih I J x1 x2 x3 h) I J x1 x2 x3 hf
set_option maxRecDepth 100000 in
set_option maxHeartbeats 4000000 in
theorem c_X7_side {l : Launch} {D : va_G} {g : GG} {I : MI} {J : MJ} {a1 : Int32} {a2 : Int32} {r : Int32} {I' : MI} {J' : MJ} (hf : f_X7_side I J a1 a2 = some (r, I', J')) : CON l yX7_side wsX7_side rmX7_side D g (wB g I J) [.ref (g.1 0), .int a1, .int a2] (some (.int r)) (wB g I' J') := by
  refine con_of (cc := cX7_side) (maxL := 4) (ret := (some .int)) (by decide) rfl (Nat.le_of_ble_eq_true rfl) rfl rfl ?_
  intro k C hkl hkD h1 h2 h3
  subst hkl; subst hkD
  have hr : RTW k wB g cX7_side .int (r, I', J') := rtw_of h2
  unfold f_X7_side at hf
  refine V.loc (lv' := [(0, .ref (g.1 0)), (1, .int a1), (2, .int a2)]) [0, 1, 2] rfl ?_
  refine r_iload_n C dX7_side_0 rfl 1 rfl ?_
  obtain ⟨r2, hq1, hf⟩ := bo1_e hf
  refine r_callS (o := some (.int r2)) (w' := (wB g I J)) (As := [.int a1]) (rest := []) C (c_X7_isMonth hq1) dX7_side_1 gX7_side_X7_isMonth rfl rfl rfl hd_X7_isMonth ⟨by decide, by decide⟩ rfl rfl (Nat.le_of_ble_eq_true rfl) ?_
  refine r_if_eq (tgt := 16) C dX7_side_4 (by decide) (fun q4 => ?_) (fun q4 => ?_)
  · have hf := itp hf q4
    refine r_iconst (v := (-1 : Int32)) C dX7_side_16 (by decide) ?_
    exact hr _ _ _ _ _ dX7_side_17 rfl hf
  · have hf := itn hf q4
    refine r_iload_n C dX7_side_7 rfl 2 rfl ?_
    refine r_iconst (v := (0 : Int32)) C dX7_side_8 (by decide) ?_
    refine r_iconst (v := (1 : Int32)) C dX7_side_9 (by decide) ?_
    obtain ⟨r4, hq3, hf⟩ := bo1_e hf
    refine r_callS (o := some (.int r4)) (w' := (wB g I J)) (As := [.int a2, .int (0 : Int32), .int (1 : Int32)]) (rest := []) C (c_X7_within hq3) dX7_side_10 gX7_side_X7_within rfl rfl rfl hd_X7_within ⟨by decide, by decide⟩ rfl rfl (Nat.le_of_ble_eq_true rfl) ?_
    refine r_if_ne (tgt := 18) C dX7_side_13 (by decide) (fun q13 => ?_) (fun q13 => ?_)
    · have hf := itn hf q13
      refine r_iconst (v := (0 : Int32)) C dX7_side_18 (by decide) ?_
      refine r_istore_n (lv' := [(0, .ref (g.1 0)), (1, .int a1), (2, .int a2), (3, .int (0 : Int32))]) C dX7_side_19 rfl (by decide) [1, 2, 3, 0] rfl ?_
      exact mL_X7_side_20 C hr FU _ _ _ _ _ hf
    · have hf := itp hf q13
      refine r_iconst (v := (-1 : Int32)) C dX7_side_16 (by decide) ?_
      exact hr _ _ _ _ _ dX7_side_17 rfl hf
abbrev rmX6_tellsAll : Room := { frames := 1, cells := 0, slots := 0, locals := 22 }
theorem hd_X6_tellsAll : yX6_tellsAll.cls = RX6 ∧ yX6_tellsAll.cls ≠ "java/lang/invoke/MethodHandle" ∧ yX6_tellsAll.cls ≠ "java/lang/invoke/VarHandle" ∧ (parseMethodDescriptor yX6_tellsAll.desc).map (fun d => d.parameters.length) = some 2 := by decide +kernel
theorem kX6_tellsAll_0 : Cond.initialized yX7_within.cls ∈ wsX6_tellsAll := by decide +kernel
theorem kX6_tellsAll_1 : Cond.static yX7_within ∈ wsX6_tellsAll := by decide +kernel
theorem kX6_tellsAll_2 : Cond.fieldLink RX6 18 (TX6 2).1 (TX6 2).2.1 (TX6 2).2.2.1 ∈ wsX6_tellsAll := by decide +kernel
theorem kX6_tellsAll_3 : ∀ w ∈ u_ws RX6 TX6 7, w ∈ wsX6_tellsAll := by decide +kernel
set_option maxRecDepth 100000 in
set_option maxHeartbeats 4000000 in
theorem mB_X6_tellsAll_21 {k : CT} {g : GG} {I : MI} {J : MJ} (C : CX k cX6_tellsAll 5 RX6 wsX6_tellsAll rmX6_tellsAll g) {ρ : Int32} (hr : RRW k (wB g I J) cX6_tellsAll .boolean ρ) {kk21 : Int32 → Int32 → Int32 → Option Int32} (hk21 : ∀ (x2 : Int32) (x3 : Int32) (x4 : Int32), kk21 x2 x3 x4 = some ρ → V k (wB g I J) 21 [(0, .ref (g.1 15)), (2, .int x2), (3, .int x3), (4, .int x4)] []) : ∀ (x2 : Int32) (x3 : Int32) (x4 : Int32), LB_X6_tellsAll_21 I J kk21 x2 x3 x4 = some ρ → V k (wB g I J) 21 [(0, .ref (g.1 15)), (2, .int x2), (3, .int x3), (4, .int x4)] [] := by
  intro x2 x3 x4 hf
  unfold LB_X6_tellsAll_21 at hf
  refine r_iload C dX6_tellsAll_21 3 rfl ?_
  refine r_iload_n C dX6_tellsAll_23 rfl 1 rfl ?_
  refine r_icmp_ge (tgt := 51) C dX6_tellsAll_24 (by decide) (fun q24 => ?_) (fun q24 => ?_)
  · have hf := itp hf q24
    refine r_iconst (v := (1 : Int32)) C dX6_tellsAll_51 (by decide) ?_
    exact hr _ _ _ dX6_tellsAll_52 nb1 hf
  · have hf := itn hf q24
    refine r_iload_n C dX6_tellsAll_27 rfl 2 rfl ?_
    refine r_bipush (v := (7 : Int32)) C dX6_tellsAll_28 (by decide) ?_
    refine r_irem C dX6_tellsAll_30 (by decide) ?_
    refine r_aload_n C dX6_tellsAll_31 rfl 0 rfl ?_
    refine r_get C dX6_tellsAll_32 kX6_tellsAll_3 15 bg_15 rfl 2 (by decide) kX6_tellsAll_2 bv_15_2 ?_
    refine r_icmp_le (tgt := 40) C dX6_tellsAll_35 (by decide) (fun q35 => ?_) (fun q35 => ?_)
    · have hf := itp hf q35
      refine r_iload_n C dX6_tellsAll_40 rfl 2 rfl ?_
      refine r_bipush (v := (7 : Int32)) C dX6_tellsAll_41 (by decide) ?_
      refine r_idiv C dX6_tellsAll_43 (by decide) ?_
      refine r_nmi (fun v1 ev1 => ?_)
      have hf := bnd_e hf v1 ev1
      refine r_istore_n (lv' := [(0, .ref (g.1 15)), (2, .int x2), (3, .int v1), (4, .int x4)]) C dX6_tellsAll_44 rfl (by decide) [1, 2, 0, 3] rfl ?_
      obtain ⟨v2, ev2⟩ : ∃ z : Int32, z = x4 + (1 : Int32) := ⟨_, rfl⟩
      have hf := bnd_e hf v2 ev2
      refine r_iinc (v := v2) (lv' := [(0, .ref (g.1 15)), (2, .int x2), (3, .int v1), (4, .int v2)]) C dX6_tellsAll_45 3 rfl (by rw [ev2]; rfl) (by decide) [1, 2, 3, 0] rfl ?_
      refine r_goto (tgt := 21) C dX6_tellsAll_48 (by decide) ?_
      exact hk21 _ _ _ hf
    · have hf := itn hf q35
      refine r_iconst (v := (0 : Int32)) C dX6_tellsAll_38 (by decide) ?_
      exact hr _ _ _ dX6_tellsAll_39 nb0 hf
theorem mL_X6_tellsAll_21 {k : CT} {g : GG} {I : MI} {J : MJ} (C : CX k cX6_tellsAll 5 RX6 wsX6_tellsAll rmX6_tellsAll g) {ρ : Int32} (hr : RRW k (wB g I J) cX6_tellsAll .boolean ρ) : ∀ (n : Nat) (x2 : Int32) (x3 : Int32) (x4 : Int32), LP_X6_tellsAll_21 I J n x2 x3 x4 = some ρ → V k (wB g I J) 21 [(0, .ref (g.1 15)), (2, .int x2), (3, .int x3), (4, .int x4)] [] := by
  intro n
  induction n with
  | zero => intro x2 x3 x4 hf; cases hf
  | succ n ih => intro x2 x3 x4 hf; exact mB_X6_tellsAll_21 C hr (fun x2 x3 x4 h => ih x2 x3 x4 h) x2 x3 x4 hf
set_option maxRecDepth 100000 in
set_option maxHeartbeats 4000000 in
theorem c_X6_tellsAll {l : Launch} {D : va_G} {g : GG} {I : MI} {J : MJ} {a1 : Int32} {a2 : Int32} {r : Int32} (hf : f_X6_tellsAll I J a1 a2 = some r) : CON l yX6_tellsAll wsX6_tellsAll rmX6_tellsAll D g (wB g I J) [.ref (g.1 15), .int a1, .int a2] (some (.int r)) (wB g I J) := by
  refine con_of (cc := cX6_tellsAll) (maxL := 5) (ret := (some .boolean)) (by decide) rfl (Nat.le_of_ble_eq_true rfl) rfl rfl ?_
  intro k C hkl hkD h1 h2 h3
  subst hkl; subst hkD
  have hr : RRW k (wB g I J) cX6_tellsAll .boolean r := rrw_of h2
  unfold f_X6_tellsAll at hf
  refine V.loc (lv' := [(0, .ref (g.1 15)), (1, .int a1), (2, .int a2)]) [0, 1, 2] rfl ?_
  refine r_iload_n C dX6_tellsAll_0 rfl 1 rfl ?_
  refine r_iconst (v := (0 : Int32)) C dX6_tellsAll_1 (by decide) ?_
  refine r_iload_n C dX6_tellsAll_2 rfl 2 rfl ?_
  obtain ⟨r2, hq1, hf⟩ := bo1_e hf
  refine r_callS (o := some (.int r2)) (w' := (wB g I J)) (As := [.int a2]) (rest := [.int (0 : Int32), .int a1]) C (c_X6_numbers hq1) dX6_tellsAll_3 gX6_tellsAll_X6_numbers rfl rfl rfl hd_X6_numbers ⟨by decide, by decide⟩ rfl rfl (Nat.le_of_ble_eq_true rfl) ?_
  refine r_iconst (v := (1 : Int32)) C dX6_tellsAll_6 (by decide) ?_
  refine r_isub C dX6_tellsAll_7 ?_
  obtain ⟨r4, hq3, hf⟩ := bo1_e hf
  refine r_callSN (o := some (.int r4)) (w' := (wB g I J)) (As := [.int a1, .int (0 : Int32), .int (r2 - (1 : Int32))]) (rest := []) C (c_X7_within hq3) dX6_tellsAll_8 gX6_tellsAll_X7_within_n59 rfl rfl rfl (C.N.2.2.2.2.2.2.2.1) kX6_tellsAll_0 kX6_tellsAll_1 hd_X7_within ⟨by decide, by decide⟩ rfl rfl (Nat.le_of_ble_eq_true rfl) ?_
  refine r_if_ne (tgt := 16) C dX6_tellsAll_11 (by decide) (fun q11 => ?_) (fun q11 => ?_)
  · have hf := itn hf q11
    refine r_iload_n C dX6_tellsAll_16 rfl 1 rfl ?_
    refine r_istore_n (lv' := [(0, .ref (g.1 15)), (1, .int a1), (2, .int a2), (3, .int a1)]) C dX6_tellsAll_17 rfl (by decide) [1, 2, 3, 0] rfl ?_
    refine r_iconst (v := (0 : Int32)) C dX6_tellsAll_18 (by decide) ?_
    refine r_istore (lv' := [(0, .ref (g.1 15)), (1, .int a1), (2, .int a2), (3, .int a1), (4, .int (0 : Int32))]) C dX6_tellsAll_19 (by decide) [1, 2, 3, 4, 0] rfl ?_
    refine V.loc [0, 2, 3, 4] rfl ?_
    exact mL_X6_tellsAll_21 C hr FU _ _ _ hf
  · have hf := itp hf q11
    refine r_iconst (v := (0 : Int32)) C dX6_tellsAll_14 (by decide) ?_
    exact hr _ _ _ dX6_tellsAll_15 nb0 hf
abbrev rmX6_giveTo : Room := { frames := 2, cells := 0, slots := 0, locals := 44 }
theorem hd_X6_giveTo : yX6_giveTo.cls = RX6 ∧ yX6_giveTo.cls ≠ "java/lang/invoke/MethodHandle" ∧ yX6_giveTo.cls ≠ "java/lang/invoke/VarHandle" ∧ (parseMethodDescriptor yX6_giveTo.desc).map (fun d => d.parameters.length) = some 2 := by decide +kernel
theorem kX6_giveTo_0 : Cond.fieldLink RX6 18 (TX6 2).1 (TX6 2).2.1 (TX6 2).2.2.1 ∈ wsX6_giveTo := by decide +kernel
theorem kX6_giveTo_1 : ∀ w ∈ u_ws RX6 TX6 7, w ∈ wsX6_giveTo := by decide +kernel
theorem kX6_giveTo_2 : Cond.initialized yX7_within.cls ∈ wsX6_giveTo := by decide +kernel
theorem kX6_giveTo_3 : Cond.static yX7_within ∈ wsX6_giveTo := by decide +kernel
theorem kX6_giveTo_4 : Cond.fieldLink RX6 11 (TX6 0).1 (TX6 0).2.1 (TX6 0).2.2.1 ∈ wsX6_giveTo := by decide +kernel
theorem kX6_giveTo_5 : Cond.fieldLink RX6 15 (TX6 1).1 (TX6 1).2.1 (TX6 1).2.2.1 ∈ wsX6_giveTo := by decide +kernel
set_option maxRecDepth 100000 in
set_option maxHeartbeats 4000000 in
theorem c_X6_giveTo {l : Launch} {D : va_G} {g : GG} {I : MI} {J : MJ} {c1 : Nat} {a2 : Int32} {I' : MI} {J' : MJ} (hc1 : RC c1) (hf : f_X6_giveTo I J c1 a2 = some (I', J')) : CON l yX6_giveTo wsX6_giveTo rmX6_giveTo D g (wB g I J) [.ref (g.1 15), .ref (g.1 c1), .int a2] none (wB g I' J') := by
  refine con_of (cc := cX6_giveTo) (maxL := 3) (ret := none) (by decide) rfl (Nat.le_of_ble_eq_true rfl) rfl rfl ?_
  intro k C hkl hkD h1 h2 h3
  subst hkl; subst hkD
  have hr : RTV k wB g cX6_giveTo (I', J') := rtv_of h1
  unfold f_X6_giveTo at hf
  refine V.loc (lv' := [(0, .ref (g.1 15)), (1, .ref (g.1 c1)), (2, .int a2)]) [0, 1, 2] rfl ?_
  refine r_iload_n C dX6_giveTo_0 rfl 2 rfl ?_
  refine r_iconst (v := (1 : Int32)) C dX6_giveTo_1 (by decide) ?_
  refine r_aload_n C dX6_giveTo_2 rfl 0 rfl ?_
  refine r_get C dX6_giveTo_3 kX6_giveTo_1 15 bg_15 rfl 2 (by decide) kX6_giveTo_0 bv_15_2 ?_
  obtain ⟨r2, hq1, hf⟩ := bo1_e hf
  refine r_callSN (o := some (.int r2)) (w' := (wB g I J)) (As := [.int a2, .int (1 : Int32), .int (I 15 2)]) (rest := []) C (c_X7_within hq1) dX6_giveTo_6 gX6_giveTo_X7_within_n59 rfl rfl rfl (C.N.2.2.2.2.2.2.2.1) kX6_giveTo_2 kX6_giveTo_3 hd_X7_within ⟨by decide, by decide⟩ rfl rfl (Nat.le_of_ble_eq_true rfl) ?_
  refine r_if_ne (tgt := 20) C dX6_giveTo_9 (by decide) (fun q9 => ?_) (fun q9 => ?_)
  · have hf := itn hf q9
    refine r_aload_n C dX6_giveTo_20 rfl 1 rfl ?_
    refine r_iconst (v := (4 : Int32)) C dX6_giveTo_21 (by decide) ?_
    refine r_aload_n C dX6_giveTo_22 rfl 0 rfl ?_
    refine r_get C dX6_giveTo_23 kX6_giveTo_1 15 bg_15 rfl 0 (by decide) kX6_giveTo_4 bv_15_0 ?_
    refine r_iload_n C dX6_giveTo_26 rfl 2 rfl ?_
    refine r_iconst (v := (1 : Int32)) C dX6_giveTo_27 (by decide) ?_
    refine r_isub C dX6_giveTo_28 ?_
    obtain ⟨h3, hf⟩ := chk_e hf
    refine r_iald (j := (a2 - (1 : Int32)).toNatClampNeg) C dX6_giveTo_29 16 bg_16 (inb_e h3) rfl ?_
    obtain ⟨I5, J6, hq4, hf⟩ := bo2_e hf
    refine r_callV (o := none) (w' := (wB g I5 J6)) (As := [.int (4 : Int32), .int (I 16 (a2 - (1 : Int32)).toNatClampNeg)]) (rest := []) C (c_X1_put hc1 hq4) dX6_giveTo_30 gX6_giveTo_X1_put rfl rfl rfl hd_X1_put ⟨by decide, by decide⟩ c1 (brg hc1) rfl rfl rfl rfl (Nat.le_of_ble_eq_true rfl) ?_
    refine r_aload_n C dX6_giveTo_33 rfl 1 rfl ?_
    refine r_iconst (v := (5 : Int32)) C dX6_giveTo_34 (by decide) ?_
    refine r_aload_n C dX6_giveTo_35 rfl 0 rfl ?_
    refine r_get C dX6_giveTo_36 kX6_giveTo_1 15 bg_15 rfl 1 (by decide) kX6_giveTo_5 bv_15_1 ?_
    refine r_iload_n C dX6_giveTo_39 rfl 2 rfl ?_
    refine r_iconst (v := (1 : Int32)) C dX6_giveTo_40 (by decide) ?_
    refine r_isub C dX6_giveTo_41 ?_
    obtain ⟨h7, hf⟩ := chk_e hf
    refine r_iald (j := (a2 - (1 : Int32)).toNatClampNeg) C dX6_giveTo_42 17 bg_17 (inb_e h7) rfl ?_
    obtain ⟨I9, J10, hq8, hf⟩ := bo2_e hf
    refine r_callV (o := none) (w' := (wB g I9 J10)) (As := [.int (5 : Int32), .int (I5 17 (a2 - (1 : Int32)).toNatClampNeg)]) (rest := []) C (c_X1_put hc1 hq8) dX6_giveTo_43 gX6_giveTo_X1_put rfl rfl rfl hd_X1_put ⟨by decide, by decide⟩ c1 (brg hc1) rfl rfl rfl rfl (Nat.le_of_ble_eq_true rfl) ?_
    refine r_aload_n C dX6_giveTo_46 rfl 1 rfl ?_
    refine r_bipush (v := (12 : Int32)) C dX6_giveTo_47 (by decide) ?_
    refine r_iconst (v := (1 : Int32)) C dX6_giveTo_49 (by decide) ?_
    obtain ⟨I12, J13, hq11, hf⟩ := bo2_e hf
    refine r_callV (o := none) (w' := (wB g I12 J13)) (As := [.int (12 : Int32), .int (1 : Int32)]) (rest := []) C (c_X1_put hc1 hq11) dX6_giveTo_50 gX6_giveTo_X1_put rfl rfl rfl hd_X1_put ⟨by decide, by decide⟩ c1 (brg hc1) rfl rfl rfl rfl (Nat.le_of_ble_eq_true rfl) ?_
    exact hr _ _ _ _ dX6_giveTo_53 hf
  · have hf := itp hf q9
    refine r_aload_n C dX6_giveTo_12 rfl 1 rfl ?_
    refine r_bipush (v := (12 : Int32)) C dX6_giveTo_13 (by decide) ?_
    refine r_iconst (v := (0 : Int32)) C dX6_giveTo_15 (by decide) ?_
    obtain ⟨I15, J16, hq14, hf⟩ := bo2_e hf
    refine r_callV (o := none) (w' := (wB g I15 J16)) (As := [.int (12 : Int32), .int (0 : Int32)]) (rest := []) C (c_X1_put hc1 hq14) dX6_giveTo_16 gX6_giveTo_X1_put rfl rfl rfl hd_X1_put ⟨by decide, by decide⟩ c1 (brg hc1) rfl rfl rfl rfl (Nat.le_of_ble_eq_true rfl) ?_
    exact hr _ _ _ _ dX6_giveTo_19 hf
abbrev rmX7_take : Room := { frames := 3, cells := 0, slots := 0, locals := 66 }
theorem hd_X7_take : yX7_take.cls = RX7 ∧ yX7_take.cls ≠ "java/lang/invoke/MethodHandle" ∧ yX7_take.cls ≠ "java/lang/invoke/VarHandle" ∧ (parseMethodDescriptor yX7_take.desc).map (fun d => d.parameters.length) = some 1 := by decide +kernel
theorem kX7_take_0 : Cond.fieldLink RX7 34 (TX7 4).1 (TX7 4).2.1 (TX7 4).2.2.1 ∈ wsX7_take := by decide +kernel
theorem kX7_take_1 : ∀ w ∈ u_ws RX7 TX7 13, w ∈ wsX7_take := by decide +kernel
theorem kX7_take_2 : Cond.fieldLink RX7 15 (TX7 1).1 (TX7 1).2.1 (TX7 1).2.2.1 ∈ wsX7_take := by decide +kernel
theorem kX7_take_3 : Cond.fieldLink RX7 11 (TX7 0).1 (TX7 0).2.1 (TX7 0).2.2.1 ∈ wsX7_take := by decide +kernel
set_option maxRecDepth 100000 in
set_option maxHeartbeats 4000000 in
theorem mB_X7_take_21 {k : CT} {g : GG} (C : CX k cX7_take 4 RX7 wsX7_take rmX7_take g) {ρ : (Int32 × MI × MJ)} (hr : RTW k wB g cX7_take .int ρ) {kk21 : MI → MJ → Int32 → Int32 → Option (Int32 × MI × MJ)} (hk21 : ∀ (I : MI) (J : MJ) (x2 : Int32) (x3 : Int32), kk21 I J x2 x3 = some ρ → V k (wB g I J) 21 [(0, .ref (g.1 0)), (2, .int x2), (3, .int x3)] []) : ∀ (I : MI) (J : MJ) (x2 : Int32) (x3 : Int32), LB_X7_take_21 kk21 I J x2 x3 = some ρ → V k (wB g I J) 21 [(0, .ref (g.1 0)), (2, .int x2), (3, .int x3)] [] := by
  intro I J x2 x3 hf
  unfold LB_X7_take_21 at hf
  refine r_iload_n C dX7_take_21 rfl 2 rfl ?_
  refine r_aload_n C dX7_take_22 rfl 0 rfl ?_
  refine r_get C dX7_take_23 kX7_take_1 0 bg_0 rfl 1 (by decide) kX7_take_2 bv_0_1 ?_
  refine r_icmp_ge (tgt := 57) C dX7_take_26 (by decide) (fun q26 => ?_) (fun q26 => ?_)
  · have hf := itp hf q26
    refine r_iconst (v := (1 : Int32)) C dX7_take_57 (by decide) ?_
    exact hr _ _ _ _ _ dX7_take_58 rfl hf
  · have hf := itn hf q26
    refine r_aload_n C dX7_take_29 rfl 0 rfl ?_
    refine r_get C dX7_take_30 kX7_take_1 0 bg_0 rfl 4 (by decide) kX7_take_0 bv_0_4 ?_
    refine r_aload_n C dX7_take_33 rfl 0 rfl ?_
    refine r_get C dX7_take_34 kX7_take_1 0 bg_0 rfl 0 (by decide) kX7_take_3 bv_0_0 ?_
    refine r_iload_n C dX7_take_37 rfl 2 rfl ?_
    obtain ⟨h1, hf⟩ := chk_e hf
    refine r_aald C dX7_take_38 1 bg_1 (inb_e h1) rfl ?_
    refine r_iload_n C dX7_take_39 rfl 1 rfl ?_
    refine r_bipush (v := (7 : Int32)) C dX7_take_40 (by decide) ?_
    refine r_irem C dX7_take_42 (by decide) ?_
    obtain ⟨I3, J4, hq2, hf⟩ := bo2_e hf
    refine r_callV (o := none) (w' := (wB g I3 J4)) (As := [.ref (g.1 (rc x3)), .int (x2 - x2 / (7 : Int32) * (7 : Int32))]) (rest := []) C (c_X6_giveTo (rc_of (inb_e h1)) hq2) dX7_take_43 gX7_take_X6_giveTo rfl rfl rfl hd_X6_giveTo ⟨by decide, by decide⟩ 15 bg_15 rfl rfl rfl rfl (Nat.le_of_ble_eq_true rfl) ?_
    refine r_iload_n C dX7_take_46 rfl 1 rfl ?_
    refine r_bipush (v := (7 : Int32)) C dX7_take_47 (by decide) ?_
    refine r_idiv C dX7_take_49 (by decide) ?_
    refine r_nmi (fun v5 ev5 => ?_)
    have hf := bnd_e hf v5 ev5
    refine r_istore_n (lv' := [(0, .ref (g.1 0)), (2, .int v5), (3, .int x3)]) C dX7_take_50 rfl (by decide) [1, 0, 2] rfl ?_
    obtain ⟨v6, ev6⟩ : ∃ z : Int32, z = x3 + (1 : Int32) := ⟨_, rfl⟩
    have hf := bnd_e hf v6 ev6
    refine r_iinc (v := v6) (lv' := [(0, .ref (g.1 0)), (2, .int v5), (3, .int v6)]) C dX7_take_51 2 rfl (by rw [ev6]; rfl) (by decide) [1, 2, 0] rfl ?_
    refine r_goto (tgt := 21) C dX7_take_54 (by decide) ?_
    exact hk21 _ _ _ _ hf
theorem mL_X7_take_21 {k : CT} {g : GG} (C : CX k cX7_take 4 RX7 wsX7_take rmX7_take g) {ρ : (Int32 × MI × MJ)} (hr : RTW k wB g cX7_take .int ρ) : ∀ (n : Nat) (I : MI) (J : MJ) (x2 : Int32) (x3 : Int32), LP_X7_take_21 n I J x2 x3 = some ρ → V k (wB g I J) 21 [(0, .ref (g.1 0)), (2, .int x2), (3, .int x3)] [] := by
  intro n
  induction n with
  | zero => intro I J x2 x3 hf; cases hf
  | succ n ih => intro I J x2 x3 hf; exact mB_X7_take_21 C hr (fun I J x2 x3 h => ih I J x2 x3 h) I J x2 x3 hf
set_option maxRecDepth 100000 in
set_option maxHeartbeats 4000000 in
theorem c_X7_take {l : Launch} {D : va_G} {g : GG} {I : MI} {J : MJ} {a1 : Int32} {r : Int32} {I' : MI} {J' : MJ} (hf : f_X7_take I J a1 = some (r, I', J')) : CON l yX7_take wsX7_take rmX7_take D g (wB g I J) [.ref (g.1 0), .int a1] (some (.int r)) (wB g I' J') := by
  refine con_of (cc := cX7_take) (maxL := 4) (ret := (some .int)) (by decide) rfl (Nat.le_of_ble_eq_true rfl) rfl rfl ?_
  intro k C hkl hkD h1 h2 h3
  subst hkl; subst hkD
  have hr : RTW k wB g cX7_take .int (r, I', J') := rtw_of h2
  unfold f_X7_take at hf
  refine V.loc (lv' := [(0, .ref (g.1 0)), (1, .int a1)]) [0, 1] rfl ?_
  refine r_aload_n C dX7_take_0 rfl 0 rfl ?_
  refine r_get C dX7_take_1 kX7_take_1 0 bg_0 rfl 4 (by decide) kX7_take_0 bv_0_4 ?_
  refine r_iload_n C dX7_take_4 rfl 1 rfl ?_
  refine r_aload_n C dX7_take_5 rfl 0 rfl ?_
  refine r_get C dX7_take_6 kX7_take_1 0 bg_0 rfl 1 (by decide) kX7_take_2 bv_0_1 ?_
  obtain ⟨r2, hq1, hf⟩ := bo1_e hf
  refine r_callV (o := some (.int r2)) (w' := (wB g I J)) (As := [.int a1, .int (I 0 1)]) (rest := []) C (c_X6_tellsAll hq1) dX7_take_9 gX7_take_X6_tellsAll rfl rfl rfl hd_X6_tellsAll ⟨by decide, by decide⟩ 15 bg_15 rfl rfl rfl rfl (Nat.le_of_ble_eq_true rfl) ?_
  refine r_if_ne (tgt := 17) C dX7_take_12 (by decide) (fun q12 => ?_) (fun q12 => ?_)
  · have hf := itn hf q12
    refine r_iload_n C dX7_take_17 rfl 1 rfl ?_
    refine r_istore_n (lv' := [(0, .ref (g.1 0)), (1, .int a1), (2, .int a1)]) C dX7_take_18 rfl (by decide) [1, 2, 0] rfl ?_
    refine r_iconst (v := (0 : Int32)) C dX7_take_19 (by decide) ?_
    refine r_istore_n (lv' := [(0, .ref (g.1 0)), (1, .int a1), (2, .int a1), (3, .int (0 : Int32))]) C dX7_take_20 rfl (by decide) [1, 2, 3, 0] rfl ?_
    refine V.loc [0, 2, 3] rfl ?_
    exact mL_X7_take_21 C hr FU _ _ _ _ hf
  · have hf := itp hf q12
    refine r_iconst (v := (-1 : Int32)) C dX7_take_15 (by decide) ?_
    exact hr _ _ _ _ _ dX7_take_16 rfl hf
abbrev rmX7_frost : Room := { frames := 2, cells := 0, slots := 0, locals := 42 }
theorem hd_X7_frost : yX7_frost.cls = RX7 ∧ yX7_frost.cls ≠ "java/lang/invoke/MethodHandle" ∧ yX7_frost.cls ≠ "java/lang/invoke/VarHandle" ∧ (parseMethodDescriptor yX7_frost.desc).map (fun d => d.parameters.length) = some 2 := by decide +kernel
theorem kX7_frost_0 : Cond.fieldLink RX7 27 (TX7 3).1 (TX7 3).2.1 (TX7 3).2.2.1 ∈ wsX7_frost := by decide +kernel
theorem kX7_frost_1 : ∀ w ∈ u_ws RX7 TX7 13, w ∈ wsX7_frost := by decide +kernel
theorem kX7_frost_2 : Cond.fieldLink RX7 183 (TX4 1).1 (TX4 1).2.1 (TX4 1).2.2.1 ∈ wsX7_frost := by decide +kernel
theorem kX7_frost_3 : ∀ w ∈ u_ws RX4 TX4 4, w ∈ wsX7_frost := by decide +kernel
set_option maxRecDepth 100000 in
set_option maxHeartbeats 4000000 in
theorem c_X7_frost {l : Launch} {D : va_G} {g : GG} {I : MI} {J : MJ} {a1 : Int32} {a2 : Int32} {r : Int32} {I' : MI} {J' : MJ} (hf : f_X7_frost I J a1 a2 = some (r, I', J')) : CON l yX7_frost wsX7_frost rmX7_frost D g (wB g I J) [.ref (g.1 0), .int a1, .int a2] (some (.int r)) (wB g I' J') := by
  refine con_of (cc := cX7_frost) (maxL := 4) (ret := (some .int)) (by decide) rfl (Nat.le_of_ble_eq_true rfl) rfl rfl ?_
  intro k C hkl hkD h1 h2 h3
  subst hkl; subst hkD
  have hr : RTW k wB g cX7_frost .int (r, I', J') := rtw_of h2
  unfold f_X7_frost at hf
  refine V.loc (lv' := [(0, .ref (g.1 0)), (1, .int a1), (2, .int a2)]) [0, 1, 2] rfl ?_
  refine r_iload_n C dX7_frost_0 rfl 1 rfl ?_
  obtain ⟨r2, hq1, hf⟩ := bo1_e hf
  refine r_callS (o := some (.int r2)) (w' := (wB g I J)) (As := [.int a1]) (rest := []) C (c_X7_isMonth hq1) dX7_frost_1 gX7_frost_X7_isMonth rfl rfl rfl hd_X7_isMonth ⟨by decide, by decide⟩ rfl rfl (Nat.le_of_ble_eq_true rfl) ?_
  refine r_if_eq (tgt := 17) C dX7_frost_4 (by decide) (fun q4 => ?_) (fun q4 => ?_)
  · have hf := itp hf q4
    refine r_iconst (v := (-1 : Int32)) C dX7_frost_17 (by decide) ?_
    exact hr _ _ _ _ _ dX7_frost_18 rfl hf
  · have hf := itn hf q4
    refine r_iload_n C dX7_frost_7 rfl 2 rfl ?_
    refine r_iconst (v := (0 : Int32)) C dX7_frost_8 (by decide) ?_
    refine r_bipush (v := (23 : Int32)) C dX7_frost_9 (by decide) ?_
    obtain ⟨r4, hq3, hf⟩ := bo1_e hf
    refine r_callS (o := some (.int r4)) (w' := (wB g I J)) (As := [.int a2, .int (0 : Int32), .int (23 : Int32)]) (rest := []) C (c_X7_within hq3) dX7_frost_11 gX7_frost_X7_within rfl rfl rfl hd_X7_within ⟨by decide, by decide⟩ rfl rfl (Nat.le_of_ble_eq_true rfl) ?_
    refine r_if_ne (tgt := 19) C dX7_frost_14 (by decide) (fun q14 => ?_) (fun q14 => ?_)
    · have hf := itn hf q14
      refine r_aload_n C dX7_frost_19 rfl 0 rfl ?_
      refine r_get C dX7_frost_20 kX7_frost_1 0 bg_0 rfl 3 (by decide) kX7_frost_0 bv_0_3 ?_
      refine r_get C dX7_frost_23 kX7_frost_3 12 bg_12 rfl 1 (by decide) kX7_frost_2 bv_12_1 ?_
      refine r_iload_n C dX7_frost_26 rfl 1 rfl ?_
      obtain ⟨h5, hf⟩ := chk_e hf
      refine r_iald (j := a1.toNatClampNeg) C dX7_frost_27 14 bg_14 (inb_e h5) rfl ?_
      refine r_nmi (fun v6 ev6 => ?_)
      have hf := bnd_e hf v6 ev6
      refine r_istore_n (lv' := [(0, .ref (g.1 0)), (1, .int a1), (2, .int a2), (3, .int v6)]) C dX7_frost_28 rfl (by decide) [1, 2, 3, 0] rfl ?_
      refine r_aload_n C dX7_frost_29 rfl 0 rfl ?_
      refine r_get C dX7_frost_30 kX7_frost_1 0 bg_0 rfl 3 (by decide) kX7_frost_0 bv_0_3 ?_
      refine r_get C dX7_frost_33 kX7_frost_3 12 bg_12 rfl 1 (by decide) kX7_frost_2 bv_12_1 ?_
      refine r_iload_n C dX7_frost_36 rfl 1 rfl ?_
      refine r_iload_n C dX7_frost_37 rfl 2 rfl ?_
      obtain ⟨h7, hf⟩ := chk_e hf
      refine r_iast (j := a1.toNatClampNeg) C dX7_frost_38 14 bg_14 (inb_e h7) rfl ba_14 ?_
      refine nmIB (fun I8 eI8 => ?_)
      have hf := bnd_e hf I8 eI8
      refine r_iload_n C dX7_frost_39 rfl 3 rfl ?_
      exact hr _ _ _ _ _ dX7_frost_40 rfl hf
    · have hf := itp hf q14
      refine r_iconst (v := (-1 : Int32)) C dX7_frost_17 (by decide) ?_
      exact hr _ _ _ _ _ dX7_frost_18 rfl hf
abbrev rmX7_silence : Room := { frames := 1, cells := 0, slots := 0, locals := 22 }
theorem hd_X7_silence : yX7_silence.cls = RX7 ∧ yX7_silence.cls ≠ "java/lang/invoke/MethodHandle" ∧ yX7_silence.cls ≠ "java/lang/invoke/VarHandle" ∧ (parseMethodDescriptor yX7_silence.desc).map (fun d => d.parameters.length) = some 2 := by decide +kernel
theorem kX7_silence_0 : Cond.fieldLink RX7 27 (TX7 3).1 (TX7 3).2.1 (TX7 3).2.2.1 ∈ wsX7_silence := by decide +kernel
theorem kX7_silence_1 : ∀ w ∈ u_ws RX7 TX7 13, w ∈ wsX7_silence := by decide +kernel
theorem kX7_silence_2 : Cond.fieldLink RX7 186 (TX4 2).1 (TX4 2).2.1 (TX4 2).2.2.1 ∈ wsX7_silence := by decide +kernel
theorem kX7_silence_3 : ∀ w ∈ u_ws RX4 TX4 4, w ∈ wsX7_silence := by decide +kernel
theorem kX7_silence_4 : Cond.fieldLink RX7 189 (TX4 3).1 (TX4 3).2.1 (TX4 3).2.2.1 ∈ wsX7_silence := by decide +kernel
set_option maxRecDepth 100000 in
set_option maxHeartbeats 4000000 in
theorem c_X7_silence {l : Launch} {D : va_G} {g : GG} {I : MI} {J : MJ} {a1 : Int32} {a2 : Int32} {r : Int32} {I' : MI} {J' : MJ} (hf : f_X7_silence I J a1 a2 = some (r, I', J')) : CON l yX7_silence wsX7_silence rmX7_silence D g (wB g I J) [.ref (g.1 0), .int a1, .int a2] (some (.int r)) (wB g I' J') := by
  refine con_of (cc := cX7_silence) (maxL := 3) (ret := (some .int)) (by decide) rfl (Nat.le_of_ble_eq_true rfl) rfl rfl ?_
  intro k C hkl hkD h1 h2 h3
  subst hkl; subst hkD
  have hr : RTW k wB g cX7_silence .int (r, I', J') := rtw_of h2
  unfold f_X7_silence at hf
  refine V.loc (lv' := [(0, .ref (g.1 0)), (1, .int a1), (2, .int a2)]) [0, 1, 2] rfl ?_
  refine r_iload_n C dX7_silence_0 rfl 1 rfl ?_
  refine r_iconst (v := (0 : Int32)) C dX7_silence_1 (by decide) ?_
  refine r_bipush (v := (24 : Int32)) C dX7_silence_2 (by decide) ?_
  obtain ⟨r2, hq1, hf⟩ := bo1_e hf
  refine r_callS (o := some (.int r2)) (w' := (wB g I J)) (As := [.int a1, .int (0 : Int32), .int (24 : Int32)]) (rest := []) C (c_X7_within hq1) dX7_silence_4 gX7_silence_X7_within rfl rfl rfl hd_X7_within ⟨by decide, by decide⟩ rfl rfl (Nat.le_of_ble_eq_true rfl) ?_
  refine r_if_eq (tgt := 20) C dX7_silence_7 (by decide) (fun q7 => ?_) (fun q7 => ?_)
  · have hf := itp hf q7
    refine r_iconst (v := (-1 : Int32)) C dX7_silence_20 (by decide) ?_
    exact hr _ _ _ _ _ dX7_silence_21 rfl hf
  · have hf := itn hf q7
    refine r_iload_n C dX7_silence_10 rfl 2 rfl ?_
    refine r_iload_n C dX7_silence_11 rfl 1 rfl ?_
    refine r_bipush (v := (24 : Int32)) C dX7_silence_12 (by decide) ?_
    obtain ⟨r4, hq3, hf⟩ := bo1_e hf
    refine r_callS (o := some (.int r4)) (w' := (wB g I J)) (As := [.int a2, .int a1, .int (24 : Int32)]) (rest := []) C (c_X7_within hq3) dX7_silence_14 gX7_silence_X7_within rfl rfl rfl hd_X7_within ⟨by decide, by decide⟩ rfl rfl (Nat.le_of_ble_eq_true rfl) ?_
    refine r_if_ne (tgt := 22) C dX7_silence_17 (by decide) (fun q17 => ?_) (fun q17 => ?_)
    · have hf := itn hf q17
      refine r_aload_n C dX7_silence_22 rfl 0 rfl ?_
      refine r_get C dX7_silence_23 kX7_silence_1 0 bg_0 rfl 3 (by decide) kX7_silence_0 bv_0_3 ?_
      refine r_iload_n C dX7_silence_26 rfl 1 rfl ?_
      refine r_put (ty := .int) C dX7_silence_27 kX7_silence_3 tyX4 tyX4_ok nmX4 12 bg_12 rfl 2 (by decide) kX7_silence_2 rfl rfl rfl rfl (Nat.le_of_ble_eq_true rfl) bs_12_2 ?_
      refine nmIB (fun I5 eI5 => ?_)
      have hf := bnd_e hf I5 eI5
      refine r_aload_n C dX7_silence_30 rfl 0 rfl ?_
      refine r_get C dX7_silence_31 kX7_silence_1 0 bg_0 rfl 3 (by decide) kX7_silence_0 bv_0_3 ?_
      refine r_iload_n C dX7_silence_34 rfl 2 rfl ?_
      refine r_put (ty := .int) C dX7_silence_35 kX7_silence_3 tyX4 tyX4_ok nmX4 12 bg_12 rfl 3 (by decide) kX7_silence_4 rfl rfl rfl rfl (Nat.le_of_ble_eq_true rfl) bs_12_3 ?_
      refine nmIB (fun I6 eI6 => ?_)
      have hf := bnd_e hf I6 eI6
      refine r_iconst (v := (1 : Int32)) C dX7_silence_38 (by decide) ?_
      exact hr _ _ _ _ _ dX7_silence_39 rfl hf
    · have hf := itp hf q17
      refine r_iconst (v := (-1 : Int32)) C dX7_silence_20 (by decide) ?_
      exact hr _ _ _ _ _ dX7_silence_21 rfl hf
abbrev rmX5_changeRoom : Room := { frames := 1, cells := 0, slots := 0, locals := 22 }
theorem hd_X5_changeRoom : yX5_changeRoom.cls = RX5 ∧ yX5_changeRoom.cls ≠ "java/lang/invoke/MethodHandle" ∧ yX5_changeRoom.cls ≠ "java/lang/invoke/VarHandle" ∧ (parseMethodDescriptor yX5_changeRoom.desc).map (fun d => d.parameters.length) = some 1 := by decide +kernel
theorem kX5_changeRoom_0 : Jvm.Cond.constant RX5 39 (1000000) ∈ wsX5_changeRoom := by decide +kernel
theorem kX5_changeRoom_1 : Cond.initialized yX7_within.cls ∈ wsX5_changeRoom := by decide +kernel
theorem kX5_changeRoom_2 : Cond.static yX7_within ∈ wsX5_changeRoom := by decide +kernel
theorem kX5_changeRoom_3 : Cond.fieldLink RX5 16 (TX5 1).1 (TX5 1).2.1 (TX5 1).2.2.1 ∈ wsX5_changeRoom := by decide +kernel
theorem kX5_changeRoom_4 : ∀ w ∈ u_ws RX5 TX5 8, w ∈ wsX5_changeRoom := by decide +kernel
theorem kX5_changeRoom_5 : Cond.fieldLink RX5 10 (TX5 0).1 (TX5 0).2.1 (TX5 0).2.2.1 ∈ wsX5_changeRoom := by decide +kernel
set_option maxRecDepth 100000 in
set_option maxHeartbeats 4000000 in
theorem c_X5_changeRoom {l : Launch} {D : va_G} {g : GG} {I : MI} {J : MJ} {a1 : Int32} {r : Int32} {I' : MI} {J' : MJ} (hf : f_X5_changeRoom I J a1 = some (r, I', J')) : CON l yX5_changeRoom wsX5_changeRoom rmX5_changeRoom D g (wB g I J) [.ref (g.1 24), .int a1] (some (.int r)) (wB g I' J') := by
  refine con_of (cc := cX5_changeRoom) (maxL := 3) (ret := (some .int)) (by decide) rfl (Nat.le_of_ble_eq_true rfl) rfl rfl ?_
  intro k C hkl hkD h1 h2 h3
  subst hkl; subst hkD
  have hr : RTW k wB g cX5_changeRoom .int (r, I', J') := rtw_of h2
  unfold f_X5_changeRoom at hf
  refine V.loc (lv' := [(0, .ref (g.1 24)), (1, .int a1)]) [0, 1] rfl ?_
  refine r_iload_n C dX5_changeRoom_0 rfl 1 rfl ?_
  refine r_bipush (v := (100 : Int32)) C dX5_changeRoom_1 (by decide) ?_
  refine r_ldc (v := (1000000 : Int32)) C dX5_changeRoom_3 kX5_changeRoom_0 ?_
  obtain ⟨r2, hq1, hf⟩ := bo1_e hf
  refine r_callSN (o := some (.int r2)) (w' := (wB g I J)) (As := [.int a1, .int (100 : Int32), .int (1000000 : Int32)]) (rest := []) C (c_X7_within hq1) dX5_changeRoom_5 gX5_changeRoom_X7_within_n40 rfl rfl rfl (C.N.2.2.2.2.2.2.1) kX5_changeRoom_1 kX5_changeRoom_2 hd_X7_within ⟨by decide, by decide⟩ rfl rfl (Nat.le_of_ble_eq_true rfl) ?_
  refine r_if_eq (tgt := 19) C dX5_changeRoom_8 (by decide) (fun q8 => ?_) (fun q8 => ?_)
  · have hf := itp hf q8
    refine r_iconst (v := (-1 : Int32)) C dX5_changeRoom_19 (by decide) ?_
    exact hr _ _ _ _ _ dX5_changeRoom_20 rfl hf
  · have hf := itn hf q8
    refine r_iload_n C dX5_changeRoom_11 rfl 1 rfl ?_
    refine r_aload_n C dX5_changeRoom_12 rfl 0 rfl ?_
    refine r_get C dX5_changeRoom_13 kX5_changeRoom_4 24 bg_24 rfl 1 (by decide) kX5_changeRoom_3 bv_24_1 ?_
    refine r_icmp_ge (tgt := 21) C dX5_changeRoom_16 (by decide) (fun q16 => ?_) (fun q16 => ?_)
    · have hf := itp hf q16
      refine r_aload_n C dX5_changeRoom_21 rfl 0 rfl ?_
      refine r_get C dX5_changeRoom_22 kX5_changeRoom_4 24 bg_24 rfl 0 (by decide) kX5_changeRoom_5 bv_24_0 ?_
      refine r_nmi (fun v3 ev3 => ?_)
      have hf := bnd_e hf v3 ev3
      refine r_istore_n (lv' := [(0, .ref (g.1 24)), (1, .int a1), (2, .int v3)]) C dX5_changeRoom_25 rfl (by decide) [1, 2, 0] rfl ?_
      refine r_aload_n C dX5_changeRoom_26 rfl 0 rfl ?_
      refine r_iload_n C dX5_changeRoom_27 rfl 1 rfl ?_
      refine r_put (ty := .int) C dX5_changeRoom_28 kX5_changeRoom_4 tyX5 tyX5_ok nmX5 24 bg_24 rfl 0 (by decide) kX5_changeRoom_5 rfl rfl rfl rfl (Nat.le_of_ble_eq_true rfl) bs_24_0 ?_
      refine nmIB (fun I4 eI4 => ?_)
      have hf := bnd_e hf I4 eI4
      refine r_iload_n C dX5_changeRoom_31 rfl 2 rfl ?_
      exact hr _ _ _ _ _ dX5_changeRoom_32 rfl hf
    · have hf := itn hf q16
      refine r_iconst (v := (-1 : Int32)) C dX5_changeRoom_19 (by decide) ?_
      exact hr _ _ _ _ _ dX5_changeRoom_20 rfl hf
