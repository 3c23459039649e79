/-! constructors of the parts -/
abbrev rmX1_init : Room := { frames := 1, cells := 1, slots := 13, locals := 38 }
theorem hd_X1_init : yX1_init.cls ≠ "java/lang/invoke/MethodHandle" ∧ yX1_init.cls ≠ "java/lang/invoke/VarHandle" ∧ (parseMethodDescriptor yX1_init.desc).map (fun d => d.parameters.length) = some 0 := by decide +kernel
theorem kX1_init_0 : Cond.methodLink RX1 3 objectInit ∈ wsX1_init := by decide +kernel
theorem kX1_init_1 : Cond.instanceMethod objectInit ∈ wsX1_init := by decide +kernel
theorem kX1_init_2 : Cond.code objectInit ⟨#[0xb1]⟩ 1 none ∈ wsX1_init := by decide +kernel
theorem kX1_init_3 : Cond.arrayClass .int ∈ wsX1_init := by decide +kernel
theorem kX1_init_4 : Cond.fieldLink RX1 9 (TX1 0).1 (TX1 0).2.1 (TX1 0).2.2.1 ∈ wsX1_init := by decide +kernel
theorem kX1_init_5 : ∀ w ∈ u_ws RX1 TX1 8, w ∈ wsX1_init := by decide +kernel
theorem kX1_init_6 : Cond.fieldLink RX1 15 (TX1 1).1 (TX1 1).2.1 (TX1 1).2.2.1 ∈ wsX1_init := by decide +kernel
theorem kX1_init_7 : Cond.fieldLink RX1 19 (TX1 2).1 (TX1 2).2.1 (TX1 2).2.2.1 ∈ wsX1_init := by decide +kernel
theorem kX1_init_8 : Cond.fieldLink RX1 22 (TX1 3).1 (TX1 3).2.1 (TX1 3).2.2.1 ∈ wsX1_init := by decide +kernel
theorem kX1_init_9 : Cond.fieldLink RX1 26 (TX1 4).1 (TX1 4).2.1 (TX1 4).2.2.1 ∈ wsX1_init := by decide +kernel
theorem kX1_init_10 : Cond.fieldLink RX1 29 (TX1 5).1 (TX1 5).2.1 (TX1 5).2.2.1 ∈ wsX1_init := by decide +kernel
theorem kX1_init_11 : Cond.fieldLink RX1 32 (TX1 6).1 (TX1 6).2.1 (TX1 6).2.2.1 ∈ wsX1_init := by decide +kernel
theorem kX1_init_12 : Cond.fieldLink RX1 35 (TX1 7).1 (TX1 7).2.1 (TX1 7).2.2.1 ∈ wsX1_init := by decide +kernel
theorem kX1_init_13 : Cond.methodLink RX1 41 arraycopyName ∈ wsX1_init := by decide +kernel
theorem kX1_init_14 : Cond.native arraycopyName ∈ wsX1_init := by decide +kernel
theorem kX1_init_15 : Cond.static arraycopyName ∈ wsX1_init := by decide +kernel
theorem kX1_init_16 : Cond.initialized "java/lang/System" ∈ wsX1_init := by decide +kernel
set_option maxRecDepth 100000 in
set_option maxHeartbeats 8000000 in
theorem c_X1_init {l : Launch} {D : va_G} {g : GG} {a : Nat} : CONA (fun _ => True) l yX1_init wsX1_init rmX1_init D g [(a, .inr (1, [.null, .int 0, .int 0, .int 0, .int 0, .int 0, .int 0, .int 0]))] [.ref a] none (fun w' => ∃ b1 : Nat, w' = [(a, .inr (1, [.ref b1, .int (0 : Int32), .int (0 : Int32), .int (0 : Int32), .int (0 : Int32), .int (0 : Int32), .int (0 : Int32), .int (0 : Int32)])), (b1, .inl (g.2 1, 13, .inl (upd (upd (upd (upd (va_cpy sLST (fun _ => 0) 0 0 13) 4 (60 : Int32)) 5 (4 : Int32)) 6 (100 : Int32)) 12 (1 : Int32))))]) 1 13 := by
  refine conx_of (cc := cX1_init) (maxL := 1) (by decide) rfl rfl (Nat.le_of_ble_eq_true rfl) ?_
  intro k C0 hkl hkD hin hX h1
  subst hkl; subst hkD
  refine V.loc (lv' := [(0, .ref a)]) [0] rfl ?_
  refine r_aload_n C0 dX1_init_0 rfl 0 rfl ?_
  refine r_objI C0 dX1_init_1 kX1_init_0 kX1_init_1 kX1_init_2 (by decide) (Nat.le_of_ble_eq_true rfl) ?_
  refine r_aload_n C0 dX1_init_4 rfl 0 rfl ?_
  refine r_bipush (v := (13 : Int32)) C0 dX1_init_5 (by decide) ?_
  refine n_i (N := 13) (x' := 1) (y' := 13) C0 dX1_init_7 kX1_init_3 (by decide) (by decide +kernel) (by decide) rfl (by decide) rfl (by decide) (fun b1 C1 => ?_)
  refine r_putF (ci := 1) (fs := [.null, .int 0, .int 0, .int 0, .int 0, .int 0, .int 0, .int 0]) (ty := tyX1 0) (ws' := [(a, .inr (1, [.ref b1, .int 0, .int 0, .int 0, .int 0, .int 0, .int 0, .int 0])), (b1, .inl (g.2 1, 13, .inl (fun _ => 0)))]) C1 hin dX1_init_9 kX1_init_5 tyX1 tyX1_ok nmX1 0 rfl rfl 0 (by decide) kX1_init_4 rfl rfl (tyX1_ok 0 (by decide)) rfl rfl (Nat.le_of_ble_eq_true rfl) rfl ?_
  refine r_aload_n C1 dX1_init_12 rfl 0 rfl ?_
  refine r_iconst (v := (0 : Int32)) C1 dX1_init_13 (by decide) ?_
  refine r_put (ci := 1) (fs := [.ref b1, .int 0, .int 0, .int 0, .int 0, .int 0, .int 0, .int 0]) (ty := tyX1 1) (ws' := [(a, .inr (1, [.ref b1, .int (0 : Int32), .int 0, .int 0, .int 0, .int 0, .int 0, .int 0])), (b1, .inl (g.2 1, 13, .inl (fun _ => 0)))]) C1 dX1_init_14 kX1_init_5 tyX1 tyX1_ok nmX1 0 rfl rfl 1 (by decide) kX1_init_6 rfl (tyX1_ok 1 (by decide)) nb0 rfl (Nat.le_of_ble_eq_true rfl) rfl ?_
  refine r_aload_n C1 dX1_init_17 rfl 0 rfl ?_
  refine r_iconst (v := (0 : Int32)) C1 dX1_init_18 (by decide) ?_
  refine r_put (ci := 1) (fs := [.ref b1, .int (0 : Int32), .int 0, .int 0, .int 0, .int 0, .int 0, .int 0]) (ty := tyX1 2) (ws' := [(a, .inr (1, [.ref b1, .int (0 : Int32), .int (0 : Int32), .int 0, .int 0, .int 0, .int 0, .int 0])), (b1, .inl (g.2 1, 13, .inl (fun _ => 0)))]) C1 dX1_init_19 kX1_init_5 tyX1 tyX1_ok nmX1 0 rfl rfl 2 (by decide) kX1_init_7 rfl (tyX1_ok 2 (by decide)) nb0 rfl (Nat.le_of_ble_eq_true rfl) rfl ?_
  refine r_aload_n C1 dX1_init_22 rfl 0 rfl ?_
  refine r_iconst (v := (0 : Int32)) C1 dX1_init_23 (by decide) ?_
  refine r_put (ci := 1) (fs := [.ref b1, .int (0 : Int32), .int (0 : Int32), .int 0, .int 0, .int 0, .int 0, .int 0]) (ty := tyX1 3) (ws' := [(a, .inr (1, [.ref b1, .int (0 : Int32), .int (0 : Int32), .int (0 : Int32), .int 0, .int 0, .int 0, .int 0])), (b1, .inl (g.2 1, 13, .inl (fun _ => 0)))]) C1 dX1_init_24 kX1_init_5 tyX1 tyX1_ok nmX1 0 rfl rfl 3 (by decide) kX1_init_8 rfl (tyX1_ok 3 (by decide)) rfl rfl (Nat.le_of_ble_eq_true rfl) rfl ?_
  refine r_aload_n C1 dX1_init_27 rfl 0 rfl ?_
  refine r_iconst (v := (0 : Int32)) C1 dX1_init_28 (by decide) ?_
  refine r_put (ci := 1) (fs := [.ref b1, .int (0 : Int32), .int (0 : Int32), .int (0 : Int32), .int 0, .int 0, .int 0, .int 0]) (ty := tyX1 4) (ws' := [(a, .inr (1, [.ref b1, .int (0 : Int32), .int (0 : Int32), .int (0 : Int32), .int (0 : Int32), .int 0, .int 0, .int 0])), (b1, .inl (g.2 1, 13, .inl (fun _ => 0)))]) C1 dX1_init_29 kX1_init_5 tyX1 tyX1_ok nmX1 0 rfl rfl 4 (by decide) kX1_init_9 rfl (tyX1_ok 4 (by decide)) rfl rfl (Nat.le_of_ble_eq_true rfl) rfl ?_
  refine r_aload_n C1 dX1_init_32 rfl 0 rfl ?_
  refine r_iconst (v := (0 : Int32)) C1 dX1_init_33 (by decide) ?_
  refine r_put (ci := 1) (fs := [.ref b1, .int (0 : Int32), .int (0 : Int32), .int (0 : Int32), .int (0 : Int32), .int 0, .int 0, .int 0]) (ty := tyX1 5) (ws' := [(a, .inr (1, [.ref b1, .int (0 : Int32), .int (0 : Int32), .int (0 : Int32), .int (0 : Int32), .int (0 : Int32), .int 0, .int 0])), (b1, .inl (g.2 1, 13, .inl (fun _ => 0)))]) C1 dX1_init_34 kX1_init_5 tyX1 tyX1_ok nmX1 0 rfl rfl 5 (by decide) kX1_init_10 rfl (tyX1_ok 5 (by decide)) rfl rfl (Nat.le_of_ble_eq_true rfl) rfl ?_
  refine r_aload_n C1 dX1_init_37 rfl 0 rfl ?_
  refine r_iconst (v := (0 : Int32)) C1 dX1_init_38 (by decide) ?_
  refine r_put (ci := 1) (fs := [.ref b1, .int (0 : Int32), .int (0 : Int32), .int (0 : Int32), .int (0 : Int32), .int (0 : Int32), .int 0, .int 0]) (ty := tyX1 6) (ws' := [(a, .inr (1, [.ref b1, .int (0 : Int32), .int (0 : Int32), .int (0 : Int32), .int (0 : Int32), .int (0 : Int32), .int (0 : Int32), .int 0])), (b1, .inl (g.2 1, 13, .inl (fun _ => 0)))]) C1 dX1_init_39 kX1_init_5 tyX1 tyX1_ok nmX1 0 rfl rfl 6 (by decide) kX1_init_11 rfl (tyX1_ok 6 (by decide)) rfl rfl (Nat.le_of_ble_eq_true rfl) rfl ?_
  refine r_aload_n C1 dX1_init_42 rfl 0 rfl ?_
  refine r_iconst (v := (0 : Int32)) C1 dX1_init_43 (by decide) ?_
  refine r_put (ci := 1) (fs := [.ref b1, .int (0 : Int32), .int (0 : Int32), .int (0 : Int32), .int (0 : Int32), .int (0 : Int32), .int (0 : Int32), .int 0]) (ty := tyX1 7) (ws' := [(a, .inr (1, [.ref b1, .int (0 : Int32), .int (0 : Int32), .int (0 : Int32), .int (0 : Int32), .int (0 : Int32), .int (0 : Int32), .int (0 : Int32)])), (b1, .inl (g.2 1, 13, .inl (fun _ => 0)))]) C1 dX1_init_44 kX1_init_5 tyX1 tyX1_ok nmX1 0 rfl rfl 7 (by decide) kX1_init_12 rfl (tyX1_ok 7 (by decide)) rfl rfl (Nat.le_of_ble_eq_true rfl) rfl ?_
  refine r_getsN C1 dX1_init_47 C1.S.1 (C1.N.2.2.2.2.2.2.2.2.1) ?_
  refine r_iconst (v := (0 : Int32)) C1 dX1_init_50 (by decide) ?_
  refine r_aload_n C1 dX1_init_51 rfl 0 rfl ?_
  refine r_get (v := .ref b1) C1 dX1_init_52 kX1_init_5 0 rfl rfl 0 (by decide) kX1_init_4 rfl ?_
  refine r_iconst (v := (0 : Int32)) C1 dX1_init_55 (by decide) ?_
  refine r_bipush (v := (13 : Int32)) C1 dX1_init_56 (by decide) ?_
  refine r_tcopy (N := 13) (ws' := [(a, .inr (1, [.ref b1, .int (0 : Int32), .int (0 : Int32), .int (0 : Int32), .int (0 : Int32), .int (0 : Int32), .int (0 : Int32), .int (0 : Int32)])), (b1, .inl (g.2 1, 13, .inl (va_cpy sLST (fun _ => 0) 0 0 13)))]) C1 dX1_init_58 kX1_init_13 kX1_init_14 kX1_init_15 kX1_init_16 C1.S.1.2 1 rfl (by decide) (by decide +kernel) (by decide +kernel) (by decide) (by decide) (by decide) (Nat.le_of_ble_eq_true rfl) rfl ?_
  refine r_aload_n C1 dX1_init_61 rfl 0 rfl ?_
  refine r_get (v := .ref b1) C1 dX1_init_62 kX1_init_5 0 rfl rfl 0 (by decide) kX1_init_4 rfl ?_
  refine r_iconst (v := (4 : Int32)) C1 dX1_init_65 (by decide) ?_
  refine r_bipush (v := (60 : Int32)) C1 dX1_init_66 (by decide) ?_
  refine r_iast (j := 4) (ws' := [(a, .inr (1, [.ref b1, .int (0 : Int32), .int (0 : Int32), .int (0 : Int32), .int (0 : Int32), .int (0 : Int32), .int (0 : Int32), .int (0 : Int32)])), (b1, .inl (g.2 1, 13, .inl (upd (va_cpy sLST (fun _ => 0) 0 0 13) 4 (60 : Int32))))]) C1 dX1_init_68 1 rfl (inb_e (by decide +kernel)) (by decide +kernel) rfl ?_
  refine r_aload_n C1 dX1_init_69 rfl 0 rfl ?_
  refine r_get (v := .ref b1) C1 dX1_init_70 kX1_init_5 0 rfl rfl 0 (by decide) kX1_init_4 rfl ?_
  refine r_iconst (v := (5 : Int32)) C1 dX1_init_73 (by decide) ?_
  refine r_iconst (v := (4 : Int32)) C1 dX1_init_74 (by decide) ?_
  refine r_iast (j := 5) (ws' := [(a, .inr (1, [.ref b1, .int (0 : Int32), .int (0 : Int32), .int (0 : Int32), .int (0 : Int32), .int (0 : Int32), .int (0 : Int32), .int (0 : Int32)])), (b1, .inl (g.2 1, 13, .inl (upd (upd (va_cpy sLST (fun _ => 0) 0 0 13) 4 (60 : Int32)) 5 (4 : Int32))))]) C1 dX1_init_75 1 rfl (inb_e (by decide +kernel)) (by decide +kernel) rfl ?_
  refine r_aload_n C1 dX1_init_76 rfl 0 rfl ?_
  refine r_get (v := .ref b1) C1 dX1_init_77 kX1_init_5 0 rfl rfl 0 (by decide) kX1_init_4 rfl ?_
  refine r_bipush (v := (6 : Int32)) C1 dX1_init_80 (by decide) ?_
  refine r_bipush (v := (100 : Int32)) C1 dX1_init_82 (by decide) ?_
  refine r_iast (j := 6) (ws' := [(a, .inr (1, [.ref b1, .int (0 : Int32), .int (0 : Int32), .int (0 : Int32), .int (0 : Int32), .int (0 : Int32), .int (0 : Int32), .int (0 : Int32)])), (b1, .inl (g.2 1, 13, .inl (upd (upd (upd (va_cpy sLST (fun _ => 0) 0 0 13) 4 (60 : Int32)) 5 (4 : Int32)) 6 (100 : Int32))))]) C1 dX1_init_84 1 rfl (inb_e (by decide +kernel)) (by decide +kernel) rfl ?_
  refine r_aload_n C1 dX1_init_85 rfl 0 rfl ?_
  refine r_get (v := .ref b1) C1 dX1_init_86 kX1_init_5 0 rfl rfl 0 (by decide) kX1_init_4 rfl ?_
  refine r_bipush (v := (12 : Int32)) C1 dX1_init_89 (by decide) ?_
  refine r_iconst (v := (1 : Int32)) C1 dX1_init_91 (by decide) ?_
  refine r_iast (j := 12) (ws' := [(a, .inr (1, [.ref b1, .int (0 : Int32), .int (0 : Int32), .int (0 : Int32), .int (0 : Int32), .int (0 : Int32), .int (0 : Int32), .int (0 : Int32)])), (b1, .inl (g.2 1, 13, .inl (upd (upd (upd (upd (va_cpy sLST (fun _ => 0) 0 0 13) 4 (60 : Int32)) 5 (4 : Int32)) 6 (100 : Int32)) 12 (1 : Int32))))]) C1 dX1_init_92 1 rfl (inb_e (by decide +kernel)) (by decide +kernel) rfl ?_
  exact h1 _ _ _ dX1_init_93 ⟨b1, rfl⟩
abbrev rmX4_init : Room := { frames := 1, cells := 2, slots := 24, locals := 23 }
theorem hd_X4_init : yX4_init.cls ≠ "java/lang/invoke/MethodHandle" ∧ yX4_init.cls ≠ "java/lang/invoke/VarHandle" ∧ (parseMethodDescriptor yX4_init.desc).map (fun d => d.parameters.length) = some 0 := by decide +kernel
theorem kX4_init_0 : Cond.methodLink RX4 3 objectInit ∈ wsX4_init := by decide +kernel
theorem kX4_init_1 : Cond.instanceMethod objectInit ∈ wsX4_init := by decide +kernel
theorem kX4_init_2 : Cond.code objectInit ⟨#[0xb1]⟩ 1 none ∈ wsX4_init := by decide +kernel
theorem kX4_init_3 : Cond.arrayClass .int ∈ wsX4_init := by decide +kernel
theorem kX4_init_4 : Cond.fieldLink RX4 9 (TX4 0).1 (TX4 0).2.1 (TX4 0).2.2.1 ∈ wsX4_init := by decide +kernel
theorem kX4_init_5 : ∀ w ∈ u_ws RX4 TX4 4, w ∈ wsX4_init := by decide +kernel
theorem kX4_init_6 : Cond.fieldLink RX4 15 (TX4 1).1 (TX4 1).2.1 (TX4 1).2.2.1 ∈ wsX4_init := by decide +kernel
theorem kX4_init_7 : Cond.fieldLink RX4 18 (TX4 2).1 (TX4 2).2.1 (TX4 2).2.2.1 ∈ wsX4_init := by decide +kernel
theorem kX4_init_8 : Cond.fieldLink RX4 22 (TX4 3).1 (TX4 3).2.1 (TX4 3).2.2.1 ∈ wsX4_init := by decide +kernel
set_option maxRecDepth 100000 in
set_option maxHeartbeats 8000000 in
theorem c_X4_init {l : Launch} {D : va_G} {g : GG} {a : Nat} : CONA (fun _ => True) l yX4_init wsX4_init rmX4_init D g [(a, .inr (4, [.null, .null, .int 0, .int 0]))] [.ref a] none (fun w' => ∃ b1 b2 : Nat, w' = [(a, .inr (4, [.ref b1, .ref b2, .int (0 : Int32), .int (0 : Int32)])), (b1, .inl (g.2 1, 12, .inl (fl (20000 : Int32) 12 (fun _ => 0)))), (b2, .inl (g.2 1, 12, .inl (fun _ => 0)))]) 2 24 := by
  refine conx_of (cc := cX4_init) (maxL := 1) (by decide) rfl rfl (Nat.le_of_ble_eq_true rfl) ?_
  intro k C0 hkl hkD hin hX h1
  subst hkl; subst hkD
  refine V.loc (lv' := [(0, .ref a)]) [0] rfl ?_
  refine r_aload_n C0 dX4_init_0 rfl 0 rfl ?_
  refine r_objI C0 dX4_init_1 kX4_init_0 kX4_init_1 kX4_init_2 (by decide) (Nat.le_of_ble_eq_true rfl) ?_
  refine r_aload_n C0 dX4_init_4 rfl 0 rfl ?_
  refine r_bipush (v := (12 : Int32)) C0 dX4_init_5 (by decide) ?_
  refine n_i (N := 12) (x' := 1) (y' := 12) C0 dX4_init_7 kX4_init_3 (by decide) (by decide +kernel) (by decide) rfl (by decide) rfl (by decide) (fun b1 C1 => ?_)
  refine r_putF (ci := 4) (fs := [.null, .null, .int 0, .int 0]) (ty := tyX4 0) (ws' := [(a, .inr (4, [.ref b1, .null, .int 0, .int 0])), (b1, .inl (g.2 1, 12, .inl (fun _ => 0)))]) C1 hin dX4_init_9 kX4_init_5 tyX4 tyX4_ok nmX4 0 rfl rfl 0 (by decide) kX4_init_4 rfl rfl (tyX4_ok 0 (by decide)) rfl rfl (Nat.le_of_ble_eq_true rfl) rfl ?_
  refine r_aload_n C1 dX4_init_12 rfl 0 rfl ?_
  refine r_bipush (v := (12 : Int32)) C1 dX4_init_13 (by decide) ?_
  refine n_i (N := 12) (x' := 2) (y' := 24) C1 dX4_init_15 kX4_init_3 (by decide) (by decide +kernel) (by decide) rfl (by decide) rfl (by decide) (fun b2 C2 => ?_)
  refine r_putF (ci := 4) (fs := [.ref b1, .null, .int 0, .int 0]) (ty := tyX4 1) (ws' := [(a, .inr (4, [.ref b1, .ref b2, .int 0, .int 0])), (b1, .inl (g.2 1, 12, .inl (fun _ => 0))), (b2, .inl (g.2 1, 12, .inl (fun _ => 0)))]) C2 hin dX4_init_17 kX4_init_5 tyX4 tyX4_ok nmX4 0 rfl rfl 1 (by decide) kX4_init_6 rfl rfl (tyX4_ok 1 (by decide)) rfl rfl (Nat.le_of_ble_eq_true rfl) rfl ?_
  refine r_aload_n C2 dX4_init_20 rfl 0 rfl ?_
  refine r_iconst (v := (0 : Int32)) C2 dX4_init_21 (by decide) ?_
  refine r_put (ci := 4) (fs := [.ref b1, .ref b2, .int 0, .int 0]) (ty := tyX4 2) (ws' := [(a, .inr (4, [.ref b1, .ref b2, .int (0 : Int32), .int 0])), (b1, .inl (g.2 1, 12, .inl (fun _ => 0))), (b2, .inl (g.2 1, 12, .inl (fun _ => 0)))]) C2 dX4_init_22 kX4_init_5 tyX4 tyX4_ok nmX4 0 rfl rfl 2 (by decide) kX4_init_7 rfl (tyX4_ok 2 (by decide)) rfl rfl (Nat.le_of_ble_eq_true rfl) rfl ?_
  refine r_aload_n C2 dX4_init_25 rfl 0 rfl ?_
  refine r_iconst (v := (0 : Int32)) C2 dX4_init_26 (by decide) ?_
  refine r_put (ci := 4) (fs := [.ref b1, .ref b2, .int (0 : Int32), .int 0]) (ty := tyX4 3) (ws' := [(a, .inr (4, [.ref b1, .ref b2, .int (0 : Int32), .int (0 : Int32)])), (b1, .inl (g.2 1, 12, .inl (fun _ => 0))), (b2, .inl (g.2 1, 12, .inl (fun _ => 0)))]) C2 dX4_init_27 kX4_init_5 tyX4 tyX4_ok nmX4 0 rfl rfl 3 (by decide) kX4_init_8 rfl (tyX4_ok 3 (by decide)) rfl rfl (Nat.le_of_ble_eq_true rfl) rfl ?_
  refine r_aload_n C2 dX4_init_30 rfl 0 rfl ?_
  refine r_get (v := .ref b1) C2 dX4_init_31 kX4_init_5 0 rfl rfl 0 (by decide) kX4_init_4 rfl ?_
  refine r_sipush (v := (20000 : Int32)) C2 dX4_init_34 (by decide) ?_
  refine r_callS (o := none) (As := [.ref b1, .int (20000 : Int32)]) (rest := []) C2 (c_fill (w := fun f => [(a, .inr (4, [.ref b1, .ref b2, .int (0 : Int32), .int (0 : Int32)])), (b1, .inl (g.2 1, 12, .inl f)), (b2, .inl (g.2 1, 12, .inl (fun _ => 0)))]) (a := b1) (n := 12) (q0 := 1) (by decide) (fun f => rfl) (fun f j x => rfl)) dX4_init_37 gX4_init_J7_fill_53178 rfl rfl rfl hd_fill ⟨by decide, by decide⟩ rfl rfl (Nat.le_of_ble_eq_true rfl) ?_
  exact h1 _ _ _ dX4_init_40 ⟨b1, b2, rfl⟩
abbrev rmX6_init : Room := { frames := 1, cells := 4, slots := 68, locals := 20 }
theorem hd_X6_init : yX6_init.cls ≠ "java/lang/invoke/MethodHandle" ∧ yX6_init.cls ≠ "java/lang/invoke/VarHandle" ∧ (parseMethodDescriptor yX6_init.desc).map (fun d => d.parameters.length) = some 0 := by decide +kernel
theorem kX6_init_0 : Cond.methodLink RX6 5 objectInit ∈ wsX6_init := by decide +kernel
theorem kX6_init_1 : Cond.instanceMethod objectInit ∈ wsX6_init := by decide +kernel
theorem kX6_init_2 : Cond.code objectInit ⟨#[0xb1]⟩ 1 none ∈ wsX6_init := by decide +kernel
theorem kX6_init_3 : Cond.arrayClass .int ∈ wsX6_init := by decide +kernel
theorem kX6_init_4 : Cond.fieldLink RX6 11 (TX6 0).1 (TX6 0).2.1 (TX6 0).2.2.1 ∈ wsX6_init := by decide +kernel
theorem kX6_init_5 : ∀ w ∈ u_ws RX6 TX6 7, w ∈ wsX6_init := by decide +kernel
theorem kX6_init_6 : Cond.fieldLink RX6 15 (TX6 1).1 (TX6 1).2.1 (TX6 1).2.2.1 ∈ wsX6_init := by decide +kernel
theorem kX6_init_7 : Cond.fieldLink RX6 18 (TX6 2).1 (TX6 2).2.1 (TX6 2).2.2.1 ∈ wsX6_init := by decide +kernel
theorem kX6_init_8 : Cond.fieldLink RX6 22 (TX6 3).1 (TX6 3).2.1 (TX6 3).2.2.1 ∈ wsX6_init := by decide +kernel
theorem kX6_init_9 : Cond.fieldLink RX6 25 (TX6 4).1 (TX6 4).2.1 (TX6 4).2.2.1 ∈ wsX6_init := by decide +kernel
theorem kX6_init_10 : Cond.fieldLink RX6 28 (TX6 5).1 (TX6 5).2.1 (TX6 5).2.2.1 ∈ wsX6_init := by decide +kernel
theorem kX6_init_11 : Cond.fieldLink RX6 31 (TX6 6).1 (TX6 6).2.1 (TX6 6).2.2.1 ∈ wsX6_init := by decide +kernel
set_option maxRecDepth 100000 in
set_option maxHeartbeats 8000000 in
theorem c_X6_init {l : Launch} {D : va_G} {g : GG} {a : Nat} : CONA (fun _ => True) l yX6_init wsX6_init rmX6_init D g [(a, .inr (6, [.null, .null, .int 0, .null, .null, .int 0, .int 0]))] [.ref a] none (fun w' => ∃ b1 b2 b3 b4 : Nat, w' = [(a, .inr (6, [.ref b1, .ref b2, .int (0 : Int32), .ref b3, .ref b4, .int (0 : Int32), .int (0 : Int32)])), (b1, .inl (g.2 1, 6, .inl (fun _ => 0))), (b2, .inl (g.2 1, 6, .inl (fun _ => 0))), (b3, .inl (g.2 1, 28, .inl (fun _ => 0))), (b4, .inl (g.2 1, 28, .inl (fun _ => 0)))]) 4 68 := by
  refine conx_of (cc := cX6_init) (maxL := 1) (by decide) rfl rfl (Nat.le_of_ble_eq_true rfl) ?_
  intro k C0 hkl hkD hin hX h1
  subst hkl; subst hkD
  refine V.loc (lv' := [(0, .ref a)]) [0] rfl ?_
  refine r_aload_n C0 dX6_init_0 rfl 0 rfl ?_
  refine r_objI C0 dX6_init_1 kX6_init_0 kX6_init_1 kX6_init_2 (by decide) (Nat.le_of_ble_eq_true rfl) ?_
  refine r_aload_n C0 dX6_init_4 rfl 0 rfl ?_
  refine r_bipush (v := (6 : Int32)) C0 dX6_init_5 (by decide) ?_
  refine n_i (N := 6) (x' := 1) (y' := 6) C0 dX6_init_7 kX6_init_3 (by decide) (by decide +kernel) (by decide) rfl (by decide) rfl (by decide) (fun b1 C1 => ?_)
  refine r_putF (ci := 6) (fs := [.null, .null, .int 0, .null, .null, .int 0, .int 0]) (ty := tyX6 0) (ws' := [(a, .inr (6, [.ref b1, .null, .int 0, .null, .null, .int 0, .int 0])), (b1, .inl (g.2 1, 6, .inl (fun _ => 0)))]) C1 hin dX6_init_9 kX6_init_5 tyX6 tyX6_ok nmX6 0 rfl rfl 0 (by decide) kX6_init_4 rfl rfl (tyX6_ok 0 (by decide)) rfl rfl (Nat.le_of_ble_eq_true rfl) rfl ?_
  refine r_aload_n C1 dX6_init_12 rfl 0 rfl ?_
  refine r_bipush (v := (6 : Int32)) C1 dX6_init_13 (by decide) ?_
  refine n_i (N := 6) (x' := 2) (y' := 12) C1 dX6_init_15 kX6_init_3 (by decide) (by decide +kernel) (by decide) rfl (by decide) rfl (by decide) (fun b2 C2 => ?_)
  refine r_putF (ci := 6) (fs := [.ref b1, .null, .int 0, .null, .null, .int 0, .int 0]) (ty := tyX6 1) (ws' := [(a, .inr (6, [.ref b1, .ref b2, .int 0, .null, .null, .int 0, .int 0])), (b1, .inl (g.2 1, 6, .inl (fun _ => 0))), (b2, .inl (g.2 1, 6, .inl (fun _ => 0)))]) C2 hin dX6_init_17 kX6_init_5 tyX6 tyX6_ok nmX6 0 rfl rfl 1 (by decide) kX6_init_6 rfl rfl (tyX6_ok 1 (by decide)) rfl rfl (Nat.le_of_ble_eq_true rfl) rfl ?_
  refine r_aload_n C2 dX6_init_20 rfl 0 rfl ?_
  refine r_iconst (v := (0 : Int32)) C2 dX6_init_21 (by decide) ?_
  refine r_put (ci := 6) (fs := [.ref b1, .ref b2, .int 0, .null, .null, .int 0, .int 0]) (ty := tyX6 2) (ws' := [(a, .inr (6, [.ref b1, .ref b2, .int (0 : Int32), .null, .null, .int 0, .int 0])), (b1, .inl (g.2 1, 6, .inl (fun _ => 0))), (b2, .inl (g.2 1, 6, .inl (fun _ => 0)))]) C2 dX6_init_22 kX6_init_5 tyX6 tyX6_ok nmX6 0 rfl rfl 2 (by decide) kX6_init_7 rfl (tyX6_ok 2 (by decide)) rfl rfl (Nat.le_of_ble_eq_true rfl) rfl ?_
  refine r_aload_n C2 dX6_init_25 rfl 0 rfl ?_
  refine r_bipush (v := (28 : Int32)) C2 dX6_init_26 (by decide) ?_
  refine n_i (N := 28) (x' := 3) (y' := 40) C2 dX6_init_28 kX6_init_3 (by decide) (by decide +kernel) (by decide) rfl (by decide) rfl (by decide) (fun b3 C3 => ?_)
  refine r_putF (ci := 6) (fs := [.ref b1, .ref b2, .int (0 : Int32), .null, .null, .int 0, .int 0]) (ty := tyX6 3) (ws' := [(a, .inr (6, [.ref b1, .ref b2, .int (0 : Int32), .ref b3, .null, .int 0, .int 0])), (b1, .inl (g.2 1, 6, .inl (fun _ => 0))), (b2, .inl (g.2 1, 6, .inl (fun _ => 0))), (b3, .inl (g.2 1, 28, .inl (fun _ => 0)))]) C3 hin dX6_init_30 kX6_init_5 tyX6 tyX6_ok nmX6 0 rfl rfl 3 (by decide) kX6_init_8 rfl rfl (tyX6_ok 3 (by decide)) rfl rfl (Nat.le_of_ble_eq_true rfl) rfl ?_
  refine r_aload_n C3 dX6_init_33 rfl 0 rfl ?_
  refine r_bipush (v := (28 : Int32)) C3 dX6_init_34 (by decide) ?_
  refine n_i (N := 28) (x' := 4) (y' := 68) C3 dX6_init_36 kX6_init_3 (by decide) (by decide +kernel) (by decide) rfl (by decide) rfl (by decide) (fun b4 C4 => ?_)
  refine r_putF (ci := 6) (fs := [.ref b1, .ref b2, .int (0 : Int32), .ref b3, .null, .int 0, .int 0]) (ty := tyX6 4) (ws' := [(a, .inr (6, [.ref b1, .ref b2, .int (0 : Int32), .ref b3, .ref b4, .int 0, .int 0])), (b1, .inl (g.2 1, 6, .inl (fun _ => 0))), (b2, .inl (g.2 1, 6, .inl (fun _ => 0))), (b3, .inl (g.2 1, 28, .inl (fun _ => 0))), (b4, .inl (g.2 1, 28, .inl (fun _ => 0)))]) C4 hin dX6_init_38 kX6_init_5 tyX6 tyX6_ok nmX6 0 rfl rfl 4 (by decide) kX6_init_9 rfl rfl (tyX6_ok 4 (by decide)) rfl rfl (Nat.le_of_ble_eq_true rfl) rfl ?_
  refine r_aload_n C4 dX6_init_41 rfl 0 rfl ?_
  refine r_iconst (v := (0 : Int32)) C4 dX6_init_42 (by decide) ?_
  refine r_put (ci := 6) (fs := [.ref b1, .ref b2, .int (0 : Int32), .ref b3, .ref b4, .int 0, .int 0]) (ty := tyX6 5) (ws' := [(a, .inr (6, [.ref b1, .ref b2, .int (0 : Int32), .ref b3, .ref b4, .int (0 : Int32), .int 0])), (b1, .inl (g.2 1, 6, .inl (fun _ => 0))), (b2, .inl (g.2 1, 6, .inl (fun _ => 0))), (b3, .inl (g.2 1, 28, .inl (fun _ => 0))), (b4, .inl (g.2 1, 28, .inl (fun _ => 0)))]) C4 dX6_init_43 kX6_init_5 tyX6 tyX6_ok nmX6 0 rfl rfl 5 (by decide) kX6_init_10 rfl (tyX6_ok 5 (by decide)) rfl rfl (Nat.le_of_ble_eq_true rfl) rfl ?_
  refine r_aload_n C4 dX6_init_46 rfl 0 rfl ?_
  refine r_iconst (v := (0 : Int32)) C4 dX6_init_47 (by decide) ?_
  refine r_put (ci := 6) (fs := [.ref b1, .ref b2, .int (0 : Int32), .ref b3, .ref b4, .int (0 : Int32), .int 0]) (ty := tyX6 6) (ws' := [(a, .inr (6, [.ref b1, .ref b2, .int (0 : Int32), .ref b3, .ref b4, .int (0 : Int32), .int (0 : Int32)])), (b1, .inl (g.2 1, 6, .inl (fun _ => 0))), (b2, .inl (g.2 1, 6, .inl (fun _ => 0))), (b3, .inl (g.2 1, 28, .inl (fun _ => 0))), (b4, .inl (g.2 1, 28, .inl (fun _ => 0)))]) C4 dX6_init_48 kX6_init_5 tyX6 tyX6_ok nmX6 0 rfl rfl 6 (by decide) kX6_init_11 rfl (tyX6_ok 6 (by decide)) rfl rfl (Nat.le_of_ble_eq_true rfl) rfl ?_
  exact h1 _ _ _ dX6_init_51 ⟨b1, b2, b3, b4, rfl⟩
abbrev rmX3_init : Room := { frames := 1, cells := 3, slots := 390, locals := 20 }
theorem hd_X3_init : yX3_init.cls ≠ "java/lang/invoke/MethodHandle" ∧ yX3_init.cls ≠ "java/lang/invoke/VarHandle" ∧ (parseMethodDescriptor yX3_init.desc).map (fun d => d.parameters.length) = some 0 := by decide +kernel
theorem kX3_init_0 : Cond.methodLink RX3 3 objectInit ∈ wsX3_init := by decide +kernel
theorem kX3_init_1 : Cond.instanceMethod objectInit ∈ wsX3_init := by decide +kernel
theorem kX3_init_2 : Cond.code objectInit ⟨#[0xb1]⟩ 1 none ∈ wsX3_init := by decide +kernel
theorem kX3_init_3 : Cond.arrayClass .byte ∈ wsX3_init := by decide +kernel
theorem kX3_init_4 : Cond.fieldLink RX3 11 (TX3 0).1 (TX3 0).2.1 (TX3 0).2.2.1 ∈ wsX3_init := by decide +kernel
theorem kX3_init_5 : ∀ w ∈ u_ws RX3 TX3 7, w ∈ wsX3_init := by decide +kernel
theorem kX3_init_6 : Cond.fieldLink RX3 15 (TX3 1).1 (TX3 1).2.1 (TX3 1).2.2.1 ∈ wsX3_init := by decide +kernel
theorem kX3_init_7 : Cond.fieldLink RX3 19 (TX3 2).1 (TX3 2).2.1 (TX3 2).2.2.1 ∈ wsX3_init := by decide +kernel
theorem kX3_init_8 : Cond.arrayClass .int ∈ wsX3_init := by decide +kernel
theorem kX3_init_9 : Cond.fieldLink RX3 22 (TX3 3).1 (TX3 3).2.1 (TX3 3).2.2.1 ∈ wsX3_init := by decide +kernel
theorem kX3_init_10 : Cond.fieldLink RX3 26 (TX3 4).1 (TX3 4).2.1 (TX3 4).2.2.1 ∈ wsX3_init := by decide +kernel
theorem kX3_init_11 : Cond.fieldLink RX3 29 (TX3 5).1 (TX3 5).2.1 (TX3 5).2.2.1 ∈ wsX3_init := by decide +kernel
theorem kX3_init_12 : Cond.fieldLink RX3 32 (TX3 6).1 (TX3 6).2.1 (TX3 6).2.2.1 ∈ wsX3_init := by decide +kernel
set_option maxRecDepth 100000 in
set_option maxHeartbeats 8000000 in
theorem c_X3_init {l : Launch} {D : va_G} {g : GG} {a : Nat} : CONA (fun _ => True) l yX3_init wsX3_init rmX3_init D g [(a, .inr (3, [.null, .int 0, .int 0, .null, .null, .int 0, .int 0]))] [.ref a] none (fun w' => ∃ b1 b2 b3 : Nat, w' = [(a, .inr (3, [.ref b1, .int (0 : Int32), .int (0 : Int32), .ref b2, .ref b3, .int (0 : Int32), .int (0 : Int32)])), (b1, .inl (g.2 0, 150, .inl (fun _ => 0))), (b2, .inl (g.2 1, 120, .inl (fun _ => 0))), (b3, .inl (g.2 1, 120, .inl (fun _ => 0)))]) 3 390 := by
  refine conx_of (cc := cX3_init) (maxL := 1) (by decide) rfl rfl (Nat.le_of_ble_eq_true rfl) ?_
  intro k C0 hkl hkD hin hX h1
  subst hkl; subst hkD
  refine V.loc (lv' := [(0, .ref a)]) [0] rfl ?_
  refine r_aload_n C0 dX3_init_0 rfl 0 rfl ?_
  refine r_objI C0 dX3_init_1 kX3_init_0 kX3_init_1 kX3_init_2 (by decide) (Nat.le_of_ble_eq_true rfl) ?_
  refine r_aload_n C0 dX3_init_4 rfl 0 rfl ?_
  refine r_sipush (v := (150 : Int32)) C0 dX3_init_5 (by decide) ?_
  refine n_b (N := 150) (x' := 1) (y' := 150) C0 dX3_init_8 kX3_init_3 (by decide) (by decide +kernel) (by decide) rfl (by decide) rfl (by decide) (fun b1 C1 => ?_)
  refine r_putF (ci := 3) (fs := [.null, .int 0, .int 0, .null, .null, .int 0, .int 0]) (ty := tyX3 0) (ws' := [(a, .inr (3, [.ref b1, .int 0, .int 0, .null, .null, .int 0, .int 0])), (b1, .inl (g.2 0, 150, .inl (fun _ => 0)))]) C1 hin dX3_init_10 kX3_init_5 tyX3 tyX3_ok nmX3 0 rfl rfl 0 (by decide) kX3_init_4 rfl rfl (tyX3_ok 0 (by decide)) rfl rfl (Nat.le_of_ble_eq_true rfl) rfl ?_
  refine r_aload_n C1 dX3_init_13 rfl 0 rfl ?_
  refine r_iconst (v := (0 : Int32)) C1 dX3_init_14 (by decide) ?_
  refine r_put (ci := 3) (fs := [.ref b1, .int 0, .int 0, .null, .null, .int 0, .int 0]) (ty := tyX3 1) (ws' := [(a, .inr (3, [.ref b1, .int (0 : Int32), .int 0, .null, .null, .int 0, .int 0])), (b1, .inl (g.2 0, 150, .inl (fun _ => 0)))]) C1 dX3_init_15 kX3_init_5 tyX3 tyX3_ok nmX3 0 rfl rfl 1 (by decide) kX3_init_6 rfl (tyX3_ok 1 (by decide)) rfl rfl (Nat.le_of_ble_eq_true rfl) rfl ?_
  refine r_aload_n C1 dX3_init_18 rfl 0 rfl ?_
  refine r_iconst (v := (0 : Int32)) C1 dX3_init_19 (by decide) ?_
  refine r_put (ci := 3) (fs := [.ref b1, .int (0 : Int32), .int 0, .null, .null, .int 0, .int 0]) (ty := tyX3 2) (ws' := [(a, .inr (3, [.ref b1, .int (0 : Int32), .int (0 : Int32), .null, .null, .int 0, .int 0])), (b1, .inl (g.2 0, 150, .inl (fun _ => 0)))]) C1 dX3_init_20 kX3_init_5 tyX3 tyX3_ok nmX3 0 rfl rfl 2 (by decide) kX3_init_7 rfl (tyX3_ok 2 (by decide)) rfl rfl (Nat.le_of_ble_eq_true rfl) rfl ?_
  refine r_aload_n C1 dX3_init_23 rfl 0 rfl ?_
  refine r_bipush (v := (120 : Int32)) C1 dX3_init_24 (by decide) ?_
  refine n_i (N := 120) (x' := 2) (y' := 270) C1 dX3_init_26 kX3_init_8 (by decide) (by decide +kernel) (by decide) rfl (by decide) rfl (by decide) (fun b2 C2 => ?_)
  refine r_putF (ci := 3) (fs := [.ref b1, .int (0 : Int32), .int (0 : Int32), .null, .null, .int 0, .int 0]) (ty := tyX3 3) (ws' := [(a, .inr (3, [.ref b1, .int (0 : Int32), .int (0 : Int32), .ref b2, .null, .int 0, .int 0])), (b1, .inl (g.2 0, 150, .inl (fun _ => 0))), (b2, .inl (g.2 1, 120, .inl (fun _ => 0)))]) C2 hin dX3_init_28 kX3_init_5 tyX3 tyX3_ok nmX3 0 rfl rfl 3 (by decide) kX3_init_9 rfl rfl (tyX3_ok 3 (by decide)) rfl rfl (Nat.le_of_ble_eq_true rfl) rfl ?_
  refine r_aload_n C2 dX3_init_31 rfl 0 rfl ?_
  refine r_bipush (v := (120 : Int32)) C2 dX3_init_32 (by decide) ?_
  refine n_i (N := 120) (x' := 3) (y' := 390) C2 dX3_init_34 kX3_init_8 (by decide) (by decide +kernel) (by decide) rfl (by decide) rfl (by decide) (fun b3 C3 => ?_)
  refine r_putF (ci := 3) (fs := [.ref b1, .int (0 : Int32), .int (0 : Int32), .ref b2, .null, .int 0, .int 0]) (ty := tyX3 4) (ws' := [(a, .inr (3, [.ref b1, .int (0 : Int32), .int (0 : Int32), .ref b2, .ref b3, .int 0, .int 0])), (b1, .inl (g.2 0, 150, .inl (fun _ => 0))), (b2, .inl (g.2 1, 120, .inl (fun _ => 0))), (b3, .inl (g.2 1, 120, .inl (fun _ => 0)))]) C3 hin dX3_init_36 kX3_init_5 tyX3 tyX3_ok nmX3 0 rfl rfl 4 (by decide) kX3_init_10 rfl rfl (tyX3_ok 4 (by decide)) rfl rfl (Nat.le_of_ble_eq_true rfl) rfl ?_
  refine r_aload_n C3 dX3_init_39 rfl 0 rfl ?_
  refine r_iconst (v := (0 : Int32)) C3 dX3_init_40 (by decide) ?_
  refine r_put (ci := 3) (fs := [.ref b1, .int (0 : Int32), .int (0 : Int32), .ref b2, .ref b3, .int 0, .int 0]) (ty := tyX3 5) (ws' := [(a, .inr (3, [.ref b1, .int (0 : Int32), .int (0 : Int32), .ref b2, .ref b3, .int (0 : Int32), .int 0])), (b1, .inl (g.2 0, 150, .inl (fun _ => 0))), (b2, .inl (g.2 1, 120, .inl (fun _ => 0))), (b3, .inl (g.2 1, 120, .inl (fun _ => 0)))]) C3 dX3_init_41 kX3_init_5 tyX3 tyX3_ok nmX3 0 rfl rfl 5 (by decide) kX3_init_11 rfl (tyX3_ok 5 (by decide)) rfl rfl (Nat.le_of_ble_eq_true rfl) rfl ?_
  refine r_aload_n C3 dX3_init_44 rfl 0 rfl ?_
  refine r_iconst (v := (0 : Int32)) C3 dX3_init_45 (by decide) ?_
  refine r_put (ci := 3) (fs := [.ref b1, .int (0 : Int32), .int (0 : Int32), .ref b2, .ref b3, .int (0 : Int32), .int 0]) (ty := tyX3 6) (ws' := [(a, .inr (3, [.ref b1, .int (0 : Int32), .int (0 : Int32), .ref b2, .ref b3, .int (0 : Int32), .int (0 : Int32)])), (b1, .inl (g.2 0, 150, .inl (fun _ => 0))), (b2, .inl (g.2 1, 120, .inl (fun _ => 0))), (b3, .inl (g.2 1, 120, .inl (fun _ => 0)))]) C3 dX3_init_46 kX3_init_5 tyX3 tyX3_ok nmX3 0 rfl rfl 6 (by decide) kX3_init_12 rfl (tyX3_ok 6 (by decide)) nb0 rfl (Nat.le_of_ble_eq_true rfl) rfl ?_
  exact h1 _ _ _ dX3_init_49 ⟨b1, b2, b3, rfl⟩
abbrev rmX5_init : Room := { frames := 1, cells := 1, slots := 5, locals := 20 }
theorem hd_X5_init : yX5_init.cls ≠ "java/lang/invoke/MethodHandle" ∧ yX5_init.cls ≠ "java/lang/invoke/VarHandle" ∧ (parseMethodDescriptor yX5_init.desc).map (fun d => d.parameters.length) = some 0 := by decide +kernel
theorem kX5_init_0 : Cond.methodLink RX5 3 objectInit ∈ wsX5_init := by decide +kernel
theorem kX5_init_1 : Cond.instanceMethod objectInit ∈ wsX5_init := by decide +kernel
theorem kX5_init_2 : Cond.code objectInit ⟨#[0xb1]⟩ 1 none ∈ wsX5_init := by decide +kernel
theorem kX5_init_3 : Jvm.Cond.constant RX5 9 (50000) ∈ wsX5_init := by decide +kernel
theorem kX5_init_4 : Cond.fieldLink RX5 10 (TX5 0).1 (TX5 0).2.1 (TX5 0).2.2.1 ∈ wsX5_init := by decide +kernel
theorem kX5_init_5 : ∀ w ∈ u_ws RX5 TX5 8, w ∈ wsX5_init := by decide +kernel
theorem kX5_init_6 : Cond.fieldLink RX5 16 (TX5 1).1 (TX5 1).2.1 (TX5 1).2.2.1 ∈ wsX5_init := by decide +kernel
theorem kX5_init_7 : Cond.fieldLink RX5 19 (TX5 2).1 (TX5 2).2.1 (TX5 2).2.2.1 ∈ wsX5_init := by decide +kernel
theorem kX5_init_8 : Cond.fieldLink RX5 23 (TX5 3).1 (TX5 3).2.1 (TX5 3).2.2.1 ∈ wsX5_init := by decide +kernel
theorem kX5_init_9 : Cond.fieldLink RX5 26 (TX5 4).1 (TX5 4).2.1 (TX5 4).2.2.1 ∈ wsX5_init := by decide +kernel
theorem kX5_init_10 : Cond.fieldLink RX5 29 (TX5 5).1 (TX5 5).2.1 (TX5 5).2.2.1 ∈ wsX5_init := by decide +kernel
theorem kX5_init_11 : Cond.fieldLink RX5 32 (TX5 6).1 (TX5 6).2.1 (TX5 6).2.2.1 ∈ wsX5_init := by decide +kernel
theorem kX5_init_12 : Cond.arrayClass .long ∈ wsX5_init := by decide +kernel
theorem kX5_init_13 : Cond.fieldLink RX5 35 (TX5 7).1 (TX5 7).2.1 (TX5 7).2.2.1 ∈ wsX5_init := by decide +kernel
set_option maxRecDepth 100000 in
set_option maxHeartbeats 8000000 in
theorem c_X5_init {l : Launch} {D : va_G} {g : GG} {a : Nat} : CONA (fun _ => True) l yX5_init wsX5_init rmX5_init D g [(a, .inr (5, [.int 0, .int 0, .long 0, .long 0, .long 0, .long 0, .long 0, .null]))] [.ref a] none (fun w' => ∃ b1 : Nat, w' = [(a, .inr (5, [.int (50000 : Int32), .int (0 : Int32), .long (0 : Int64), .long (0 : Int64), .long (0 : Int64), .long (0 : Int64), .long (0 : Int64), .ref b1])), (b1, .inl (g.2 2, 5, .inr (.inl (fun _ => 0))))]) 1 5 := by
  refine conx_of (cc := cX5_init) (maxL := 1) (by decide) rfl rfl (Nat.le_of_ble_eq_true rfl) ?_
  intro k C0 hkl hkD hin hX h1
  subst hkl; subst hkD
  refine V.loc (lv' := [(0, .ref a)]) [0] rfl ?_
  refine r_aload_n C0 dX5_init_0 rfl 0 rfl ?_
  refine r_objI C0 dX5_init_1 kX5_init_0 kX5_init_1 kX5_init_2 (by decide) (Nat.le_of_ble_eq_true rfl) ?_
  refine r_aload_n C0 dX5_init_4 rfl 0 rfl ?_
  refine r_ldc (v := (50000 : Int32)) C0 dX5_init_5 kX5_init_3 ?_
  refine r_put (ci := 5) (fs := [.int 0, .int 0, .long 0, .long 0, .long 0, .long 0, .long 0, .null]) (ty := tyX5 0) (ws' := [(a, .inr (5, [.int (50000 : Int32), .int 0, .long 0, .long 0, .long 0, .long 0, .long 0, .null]))]) C0 dX5_init_7 kX5_init_5 tyX5 tyX5_ok nmX5 0 rfl rfl 0 (by decide) kX5_init_4 rfl (tyX5_ok 0 (by decide)) rfl rfl (Nat.le_of_ble_eq_true rfl) rfl ?_
  refine r_aload_n C0 dX5_init_10 rfl 0 rfl ?_
  refine r_iconst (v := (0 : Int32)) C0 dX5_init_11 (by decide) ?_
  refine r_put (ci := 5) (fs := [.int (50000 : Int32), .int 0, .long 0, .long 0, .long 0, .long 0, .long 0, .null]) (ty := tyX5 1) (ws' := [(a, .inr (5, [.int (50000 : Int32), .int (0 : Int32), .long 0, .long 0, .long 0, .long 0, .long 0, .null]))]) C0 dX5_init_12 kX5_init_5 tyX5 tyX5_ok nmX5 0 rfl rfl 1 (by decide) kX5_init_6 rfl (tyX5_ok 1 (by decide)) rfl rfl (Nat.le_of_ble_eq_true rfl) rfl ?_
  refine r_aload_n C0 dX5_init_15 rfl 0 rfl ?_
  refine r_lconst (v := (0 : Int64)) C0 dX5_init_16 (by decide) ?_
  refine r_put (ci := 5) (fs := [.int (50000 : Int32), .int (0 : Int32), .long 0, .long 0, .long 0, .long 0, .long 0, .null]) (ty := tyX5 2) (ws' := [(a, .inr (5, [.int (50000 : Int32), .int (0 : Int32), .long (0 : Int64), .long 0, .long 0, .long 0, .long 0, .null]))]) C0 dX5_init_17 kX5_init_5 tyX5 tyX5_ok nmX5 0 rfl rfl 2 (by decide) kX5_init_7 rfl (tyX5_ok 2 (by decide)) rfl rfl (Nat.le_of_ble_eq_true rfl) rfl ?_
  refine r_aload_n C0 dX5_init_20 rfl 0 rfl ?_
  refine r_lconst (v := (0 : Int64)) C0 dX5_init_21 (by decide) ?_
  refine r_put (ci := 5) (fs := [.int (50000 : Int32), .int (0 : Int32), .long (0 : Int64), .long 0, .long 0, .long 0, .long 0, .null]) (ty := tyX5 3) (ws' := [(a, .inr (5, [.int (50000 : Int32), .int (0 : Int32), .long (0 : Int64), .long (0 : Int64), .long 0, .long 0, .long 0, .null]))]) C0 dX5_init_22 kX5_init_5 tyX5 tyX5_ok nmX5 0 rfl rfl 3 (by decide) kX5_init_8 rfl (tyX5_ok 3 (by decide)) rfl rfl (Nat.le_of_ble_eq_true rfl) rfl ?_
  refine r_aload_n C0 dX5_init_25 rfl 0 rfl ?_
  refine r_lconst (v := (0 : Int64)) C0 dX5_init_26 (by decide) ?_
  refine r_put (ci := 5) (fs := [.int (50000 : Int32), .int (0 : Int32), .long (0 : Int64), .long (0 : Int64), .long 0, .long 0, .long 0, .null]) (ty := tyX5 4) (ws' := [(a, .inr (5, [.int (50000 : Int32), .int (0 : Int32), .long (0 : Int64), .long (0 : Int64), .long (0 : Int64), .long 0, .long 0, .null]))]) C0 dX5_init_27 kX5_init_5 tyX5 tyX5_ok nmX5 0 rfl rfl 4 (by decide) kX5_init_9 rfl (tyX5_ok 4 (by decide)) rfl rfl (Nat.le_of_ble_eq_true rfl) rfl ?_
  refine r_aload_n C0 dX5_init_30 rfl 0 rfl ?_
  refine r_lconst (v := (0 : Int64)) C0 dX5_init_31 (by decide) ?_
  refine r_put (ci := 5) (fs := [.int (50000 : Int32), .int (0 : Int32), .long (0 : Int64), .long (0 : Int64), .long (0 : Int64), .long 0, .long 0, .null]) (ty := tyX5 5) (ws' := [(a, .inr (5, [.int (50000 : Int32), .int (0 : Int32), .long (0 : Int64), .long (0 : Int64), .long (0 : Int64), .long (0 : Int64), .long 0, .null]))]) C0 dX5_init_32 kX5_init_5 tyX5 tyX5_ok nmX5 0 rfl rfl 5 (by decide) kX5_init_10 rfl (tyX5_ok 5 (by decide)) rfl rfl (Nat.le_of_ble_eq_true rfl) rfl ?_
  refine r_aload_n C0 dX5_init_35 rfl 0 rfl ?_
  refine r_lconst (v := (0 : Int64)) C0 dX5_init_36 (by decide) ?_
  refine r_put (ci := 5) (fs := [.int (50000 : Int32), .int (0 : Int32), .long (0 : Int64), .long (0 : Int64), .long (0 : Int64), .long (0 : Int64), .long 0, .null]) (ty := tyX5 6) (ws' := [(a, .inr (5, [.int (50000 : Int32), .int (0 : Int32), .long (0 : Int64), .long (0 : Int64), .long (0 : Int64), .long (0 : Int64), .long (0 : Int64), .null]))]) C0 dX5_init_37 kX5_init_5 tyX5 tyX5_ok nmX5 0 rfl rfl 6 (by decide) kX5_init_11 rfl (tyX5_ok 6 (by decide)) rfl rfl (Nat.le_of_ble_eq_true rfl) rfl ?_
  refine r_aload_n C0 dX5_init_40 rfl 0 rfl ?_
  refine r_iconst (v := (5 : Int32)) C0 dX5_init_41 (by decide) ?_
  refine n_l (N := 5) (x' := 1) (y' := 5) C0 dX5_init_42 kX5_init_12 (by decide) (by decide +kernel) (by decide) rfl (by decide) rfl (by decide) (fun b1 C1 => ?_)
  refine r_putF (ci := 5) (fs := [.int (50000 : Int32), .int (0 : Int32), .long (0 : Int64), .long (0 : Int64), .long (0 : Int64), .long (0 : Int64), .long (0 : Int64), .null]) (ty := tyX5 7) (ws' := [(a, .inr (5, [.int (50000 : Int32), .int (0 : Int32), .long (0 : Int64), .long (0 : Int64), .long (0 : Int64), .long (0 : Int64), .long (0 : Int64), .ref b1])), (b1, .inl (g.2 2, 5, .inr (.inl (fun _ => 0))))]) C1 hin dX5_init_44 kX5_init_5 tyX5 tyX5_ok nmX5 0 rfl rfl 7 (by decide) kX5_init_13 rfl rfl (tyX5_ok 7 (by decide)) rfl rfl (Nat.le_of_ble_eq_true rfl) rfl ?_
  exact h1 _ _ _ dX5_init_47 ⟨b1, rfl⟩
abbrev rmX2_init : Room := { frames := 1, cells := 3, slots := 36, locals := 20 }
theorem hd_X2_init : yX2_init.cls ≠ "java/lang/invoke/MethodHandle" ∧ yX2_init.cls ≠ "java/lang/invoke/VarHandle" ∧ (parseMethodDescriptor yX2_init.desc).map (fun d => d.parameters.length) = some 0 := by decide +kernel
theorem kX2_init_0 : Cond.methodLink RX2 3 objectInit ∈ wsX2_init := by decide +kernel
theorem kX2_init_1 : Cond.instanceMethod objectInit ∈ wsX2_init := by decide +kernel
theorem kX2_init_2 : Cond.code objectInit ⟨#[0xb1]⟩ 1 none ∈ wsX2_init := by decide +kernel
theorem kX2_init_3 : Cond.arrayClass .int ∈ wsX2_init := by decide +kernel
theorem kX2_init_4 : Cond.fieldLink RX2 11 (TX2 0).1 (TX2 0).2.1 (TX2 0).2.2.1 ∈ wsX2_init := by decide +kernel
theorem kX2_init_5 : ∀ w ∈ u_ws RX2 TX2 6, w ∈ wsX2_init := by decide +kernel
theorem kX2_init_6 : Cond.fieldLink RX2 15 (TX2 1).1 (TX2 1).2.1 (TX2 1).2.2.1 ∈ wsX2_init := by decide +kernel
theorem kX2_init_7 : Cond.fieldLink RX2 18 (TX2 2).1 (TX2 2).2.1 (TX2 2).2.2.1 ∈ wsX2_init := by decide +kernel
theorem kX2_init_8 : Cond.fieldLink RX2 21 (TX2 3).1 (TX2 3).2.1 (TX2 3).2.2.1 ∈ wsX2_init := by decide +kernel
theorem kX2_init_9 : Cond.fieldLink RX2 25 (TX2 4).1 (TX2 4).2.1 (TX2 4).2.2.1 ∈ wsX2_init := by decide +kernel
theorem kX2_init_10 : Cond.fieldLink RX2 28 (TX2 5).1 (TX2 5).2.1 (TX2 5).2.2.1 ∈ wsX2_init := by decide +kernel
set_option maxRecDepth 100000 in
set_option maxHeartbeats 8000000 in
theorem c_X2_init {l : Launch} {D : va_G} {g : GG} {a : Nat} : CONA (fun _ => True) l yX2_init wsX2_init rmX2_init D g [(a, .inr (2, [.null, .null, .null, .int 0, .int 0, .int 0]))] [.ref a] none (fun w' => ∃ b1 b2 b3 : Nat, w' = [(a, .inr (2, [.ref b1, .ref b2, .ref b3, .int (0 : Int32), .int (20 : Int32), .int (5 : Int32)])), (b1, .inl (g.2 1, 12, .inl (fun _ => 0))), (b2, .inl (g.2 1, 12, .inl (fun _ => 0))), (b3, .inl (g.2 1, 12, .inl (fun _ => 0)))]) 3 36 := by
  refine conx_of (cc := cX2_init) (maxL := 1) (by decide) rfl rfl (Nat.le_of_ble_eq_true rfl) ?_
  intro k C0 hkl hkD hin hX h1
  subst hkl; subst hkD
  refine V.loc (lv' := [(0, .ref a)]) [0] rfl ?_
  refine r_aload_n C0 dX2_init_0 rfl 0 rfl ?_
  refine r_objI C0 dX2_init_1 kX2_init_0 kX2_init_1 kX2_init_2 (by decide) (Nat.le_of_ble_eq_true rfl) ?_
  refine r_aload_n C0 dX2_init_4 rfl 0 rfl ?_
  refine r_bipush (v := (12 : Int32)) C0 dX2_init_5 (by decide) ?_
  refine n_i (N := 12) (x' := 1) (y' := 12) C0 dX2_init_7 kX2_init_3 (by decide) (by decide +kernel) (by decide) rfl (by decide) rfl (by decide) (fun b1 C1 => ?_)
  refine r_putF (ci := 2) (fs := [.null, .null, .null, .int 0, .int 0, .int 0]) (ty := tyX2 0) (ws' := [(a, .inr (2, [.ref b1, .null, .null, .int 0, .int 0, .int 0])), (b1, .inl (g.2 1, 12, .inl (fun _ => 0)))]) C1 hin dX2_init_9 kX2_init_5 tyX2 tyX2_ok nmX2 0 rfl rfl 0 (by decide) kX2_init_4 rfl rfl (tyX2_ok 0 (by decide)) rfl rfl (Nat.le_of_ble_eq_true rfl) rfl ?_
  refine r_aload_n C1 dX2_init_12 rfl 0 rfl ?_
  refine r_bipush (v := (12 : Int32)) C1 dX2_init_13 (by decide) ?_
  refine n_i (N := 12) (x' := 2) (y' := 24) C1 dX2_init_15 kX2_init_3 (by decide) (by decide +kernel) (by decide) rfl (by decide) rfl (by decide) (fun b2 C2 => ?_)
  refine r_putF (ci := 2) (fs := [.ref b1, .null, .null, .int 0, .int 0, .int 0]) (ty := tyX2 1) (ws' := [(a, .inr (2, [.ref b1, .ref b2, .null, .int 0, .int 0, .int 0])), (b1, .inl (g.2 1, 12, .inl (fun _ => 0))), (b2, .inl (g.2 1, 12, .inl (fun _ => 0)))]) C2 hin dX2_init_17 kX2_init_5 tyX2 tyX2_ok nmX2 0 rfl rfl 1 (by decide) kX2_init_6 rfl rfl (tyX2_ok 1 (by decide)) rfl rfl (Nat.le_of_ble_eq_true rfl) rfl ?_
  refine r_aload_n C2 dX2_init_20 rfl 0 rfl ?_
  refine r_bipush (v := (12 : Int32)) C2 dX2_init_21 (by decide) ?_
  refine n_i (N := 12) (x' := 3) (y' := 36) C2 dX2_init_23 kX2_init_3 (by decide) (by decide +kernel) (by decide) rfl (by decide) rfl (by decide) (fun b3 C3 => ?_)
  refine r_putF (ci := 2) (fs := [.ref b1, .ref b2, .null, .int 0, .int 0, .int 0]) (ty := tyX2 2) (ws' := [(a, .inr (2, [.ref b1, .ref b2, .ref b3, .int 0, .int 0, .int 0])), (b1, .inl (g.2 1, 12, .inl (fun _ => 0))), (b2, .inl (g.2 1, 12, .inl (fun _ => 0))), (b3, .inl (g.2 1, 12, .inl (fun _ => 0)))]) C3 hin dX2_init_25 kX2_init_5 tyX2 tyX2_ok nmX2 0 rfl rfl 2 (by decide) kX2_init_7 rfl rfl (tyX2_ok 2 (by decide)) rfl rfl (Nat.le_of_ble_eq_true rfl) rfl ?_
  refine r_aload_n C3 dX2_init_28 rfl 0 rfl ?_
  refine r_iconst (v := (0 : Int32)) C3 dX2_init_29 (by decide) ?_
  refine r_put (ci := 2) (fs := [.ref b1, .ref b2, .ref b3, .int 0, .int 0, .int 0]) (ty := tyX2 3) (ws' := [(a, .inr (2, [.ref b1, .ref b2, .ref b3, .int (0 : Int32), .int 0, .int 0])), (b1, .inl (g.2 1, 12, .inl (fun _ => 0))), (b2, .inl (g.2 1, 12, .inl (fun _ => 0))), (b3, .inl (g.2 1, 12, .inl (fun _ => 0)))]) C3 dX2_init_30 kX2_init_5 tyX2 tyX2_ok nmX2 0 rfl rfl 3 (by decide) kX2_init_8 rfl (tyX2_ok 3 (by decide)) rfl rfl (Nat.le_of_ble_eq_true rfl) rfl ?_
  refine r_aload_n C3 dX2_init_33 rfl 0 rfl ?_
  refine r_bipush (v := (20 : Int32)) C3 dX2_init_34 (by decide) ?_
  refine r_put (ci := 2) (fs := [.ref b1, .ref b2, .ref b3, .int (0 : Int32), .int 0, .int 0]) (ty := tyX2 4) (ws' := [(a, .inr (2, [.ref b1, .ref b2, .ref b3, .int (0 : Int32), .int (20 : Int32), .int 0])), (b1, .inl (g.2 1, 12, .inl (fun _ => 0))), (b2, .inl (g.2 1, 12, .inl (fun _ => 0))), (b3, .inl (g.2 1, 12, .inl (fun _ => 0)))]) C3 dX2_init_36 kX2_init_5 tyX2 tyX2_ok nmX2 0 rfl rfl 4 (by decide) kX2_init_9 rfl (tyX2_ok 4 (by decide)) rfl rfl (Nat.le_of_ble_eq_true rfl) rfl ?_
  refine r_aload_n C3 dX2_init_39 rfl 0 rfl ?_
  refine r_iconst (v := (5 : Int32)) C3 dX2_init_40 (by decide) ?_
  refine r_put (ci := 2) (fs := [.ref b1, .ref b2, .ref b3, .int (0 : Int32), .int (20 : Int32), .int 0]) (ty := tyX2 5) (ws' := [(a, .inr (2, [.ref b1, .ref b2, .ref b3, .int (0 : Int32), .int (20 : Int32), .int (5 : Int32)])), (b1, .inl (g.2 1, 12, .inl (fun _ => 0))), (b2, .inl (g.2 1, 12, .inl (fun _ => 0))), (b3, .inl (g.2 1, 12, .inl (fun _ => 0)))]) C3 dX2_init_41 kX2_init_5 tyX2 tyX2_ok nmX2 0 rfl rfl 5 (by decide) kX2_init_10 rfl (tyX2_ok 5 (by decide)) rfl rfl (Nat.le_of_ble_eq_true rfl) rfl ?_
  exact h1 _ _ _ dX2_init_44 ⟨b1, b2, b3, rfl⟩
abbrev rmX0_init : Room := { frames := 1, cells := 1, slots := 16, locals := 20 }
theorem hd_X0_init : yX0_init.cls ≠ "java/lang/invoke/MethodHandle" ∧ yX0_init.cls ≠ "java/lang/invoke/VarHandle" ∧ (parseMethodDescriptor yX0_init.desc).map (fun d => d.parameters.length) = some 0 := by decide +kernel
theorem kX0_init_0 : Cond.methodLink RX0 3 objectInit ∈ wsX0_init := by decide +kernel
theorem kX0_init_1 : Cond.instanceMethod objectInit ∈ wsX0_init := by decide +kernel
theorem kX0_init_2 : Cond.code objectInit ⟨#[0xb1]⟩ 1 none ∈ wsX0_init := by decide +kernel
theorem kX0_init_3 : Cond.arrayClass .int ∈ wsX0_init := by decide +kernel
theorem kX0_init_4 : Cond.fieldLink RX0 11 (TX0 0).1 (TX0 0).2.1 (TX0 0).2.2.1 ∈ wsX0_init := by decide +kernel
theorem kX0_init_5 : ∀ w ∈ u_ws RX0 TX0 3, w ∈ wsX0_init := by decide +kernel
theorem kX0_init_6 : Cond.fieldLink RX0 15 (TX0 1).1 (TX0 1).2.1 (TX0 1).2.2.1 ∈ wsX0_init := by decide +kernel
theorem kX0_init_7 : Cond.fieldLink RX0 19 (TX0 2).1 (TX0 2).2.1 (TX0 2).2.2.1 ∈ wsX0_init := by decide +kernel
set_option maxRecDepth 100000 in
set_option maxHeartbeats 8000000 in
theorem c_X0_init {l : Launch} {D : va_G} {g : GG} {a : Nat} : CONA (fun _ => True) l yX0_init wsX0_init rmX0_init D g [(a, .inr (0, [.null, .int 0, .int 0]))] [.ref a] none (fun w' => ∃ b1 : Nat, w' = [(a, .inr (0, [.ref b1, .int (0 : Int32), .int (-9 : Int32)])), (b1, .inl (g.2 1, 16, .inl (fun _ => 0)))]) 1 16 := by
  refine conx_of (cc := cX0_init) (maxL := 1) (by decide) rfl rfl (Nat.le_of_ble_eq_true rfl) ?_
  intro k C0 hkl hkD hin hX h1
  subst hkl; subst hkD
  refine V.loc (lv' := [(0, .ref a)]) [0] rfl ?_
  refine r_aload_n C0 dX0_init_0 rfl 0 rfl ?_
  refine r_objI C0 dX0_init_1 kX0_init_0 kX0_init_1 kX0_init_2 (by decide) (Nat.le_of_ble_eq_true rfl) ?_
  refine r_aload_n C0 dX0_init_4 rfl 0 rfl ?_
  refine r_bipush (v := (16 : Int32)) C0 dX0_init_5 (by decide) ?_
  refine n_i (N := 16) (x' := 1) (y' := 16) C0 dX0_init_7 kX0_init_3 (by decide) (by decide +kernel) (by decide) rfl (by decide) rfl (by decide) (fun b1 C1 => ?_)
  refine r_putF (ci := 0) (fs := [.null, .int 0, .int 0]) (ty := tyX0 0) (ws' := [(a, .inr (0, [.ref b1, .int 0, .int 0])), (b1, .inl (g.2 1, 16, .inl (fun _ => 0)))]) C1 hin dX0_init_9 kX0_init_5 tyX0 tyX0_ok nmX0 0 rfl rfl 0 (by decide) kX0_init_4 rfl rfl (tyX0_ok 0 (by decide)) rfl rfl (Nat.le_of_ble_eq_true rfl) rfl ?_
  refine r_aload_n C1 dX0_init_12 rfl 0 rfl ?_
  refine r_iconst (v := (0 : Int32)) C1 dX0_init_13 (by decide) ?_
  refine r_put (ci := 0) (fs := [.ref b1, .int 0, .int 0]) (ty := tyX0 1) (ws' := [(a, .inr (0, [.ref b1, .int (0 : Int32), .int 0])), (b1, .inl (g.2 1, 16, .inl (fun _ => 0)))]) C1 dX0_init_14 kX0_init_5 tyX0 tyX0_ok nmX0 0 rfl rfl 1 (by decide) kX0_init_6 rfl (tyX0_ok 1 (by decide)) rfl rfl (Nat.le_of_ble_eq_true rfl) rfl ?_
  refine r_aload_n C1 dX0_init_17 rfl 0 rfl ?_
  refine r_bipush (v := (-9 : Int32)) C1 dX0_init_18 (by decide) ?_
  refine r_put (ci := 0) (fs := [.ref b1, .int (0 : Int32), .int 0]) (ty := tyX0 2) (ws' := [(a, .inr (0, [.ref b1, .int (0 : Int32), .int (-9 : Int32)])), (b1, .inl (g.2 1, 16, .inl (fun _ => 0)))]) C1 dX0_init_20 kX0_init_5 tyX0 tyX0_ok nmX0 0 rfl rfl 2 (by decide) kX0_init_7 rfl (tyX0_ok 2 (by decide)) rfl rfl (Nat.le_of_ble_eq_true rfl) rfl ?_
  exact h1 _ _ _ dX0_init_23 ⟨b1, rfl⟩
