/-! the law: what holds at its start -/
theorem ax_of {args : Array Value} {s : State} {ty : FieldType} (h : (Cond.arrayClass ty).before args s = true) : ∃ c : ClassId, ArrOfT s c ty ∧ s.vm.findClass ("[" ++ ty.toString) = some c := by
  obtain ⟨c, k, comp, h1, h2, h3⟩ := Cond.arrayClass_spec h
  exact ⟨c, fun n z => ⟨fun k h => (by cases h), k, h2, comp, h3⟩, h1⟩
theorem ao_of {s : State} {C : String} (h : va_AO C s) : ∃ c : ClassId, ArrOfT s c (.object C) ∧ va_RA s c (.object C) := by
  obtain ⟨comp, c, k, h1, h2, h3, h4, h5⟩ := Cond.arrayOver_spec h
  exact ⟨c, fun n z => ⟨fun k h => (by cases h), k, h3, comp, h4⟩, k, comp, h3, h4, h1, h5⟩
theorem tb_of {args : Array Value} {s : State} {n : String} {N : Nat} {f : Nat → Int32} {A : Nat → Prop} (hN : N < 2 ^ 31) (hl : (Cond.laysStatic RX7 n "[I").before args s = true) (hini : (Cond.initialized RX7).before args s = true) (harr : (Cond.arrayOf (.static RX7 n "[I") .int).before args s = true) (hlen : (Cond.eq (.length (.static RX7 n "[I")) (.int (Int32.ofNat N))).before args s = true) (hel : ∀ j : Nat, j < N → (Cond.eq (.elem (.static RX7 n "[I") (.int (Int32.ofNat j))) (.int (f j))).before args s = true) (hA : ∀ a : Nat, a < s.heap.size → ¬ A a) : ∃ t : Nat, va_Z RX7 n "[I" (.ref t) A s s.heap ∧ va_T .int t N (fun j => .int (f j)) A s s.heap := by
  obtain ⟨t, ht, hT⟩ := va_Tof (f := fun j => .int (f j)) hN harr (va_eqt hlen) (fun j hj => va_eqt (hel j hj)) hA
  exact ⟨t, va_Zof hl hini ht hA, hT⟩
abbrev fGV : List Cond := flatC (Jvm.Cond.and given_1 narrow_1)
theorem gv_L : ∀ j, j < 13 → Cond.eq (.elem (.static RX7 "LEAST" "[I") (.int (Int32.ofNat j))) (.int (sLST j)) ∈ fGV := by decide +kernel
theorem gv_M : ∀ j, j < 13 → Cond.eq (.elem (.static RX7 "MOST" "[I") (.int (Int32.ofNat j))) (.int (sMST j)) ∈ fGV := by decide +kernel
theorem gv_T : ∀ j, j < 3 → Cond.eq (.elem (.static RX7 "TRACE_OF_KIND" "[I") (.int (Int32.ofNat j))) (.int (sTRC j)) ∈ fGV := by decide +kernel
theorem gv_A : ∀ j, j < 4 → Cond.eq (.elem (.static RX7 "AIR_OF_PLACE" "[I") (.int (Int32.ofNat j))) (.int (sAIR j)) ∈ fGV := by decide +kernel
theorem gv_1 : Cond.arrayOf (.static RX7 "LEAST" "[I") .int ∈ fGV ∧ Cond.eq (.length (.static RX7 "LEAST" "[I")) (.int (Int32.ofNat 13)) ∈ fGV := by decide +kernel
theorem gv_2 : Cond.arrayOf (.static RX7 "MOST" "[I") .int ∈ fGV ∧ Cond.eq (.length (.static RX7 "MOST" "[I")) (.int (Int32.ofNat 13)) ∈ fGV := by decide +kernel
theorem gv_3 : Cond.arrayOf (.static RX7 "TRACE_OF_KIND" "[I") .int ∈ fGV ∧ Cond.eq (.length (.static RX7 "TRACE_OF_KIND" "[I")) (.int (Int32.ofNat 3)) ∈ fGV := by decide +kernel
theorem gv_4 : Cond.arrayOf (.static RX7 "AIR_OF_PLACE" "[I") .int ∈ fGV ∧ Cond.eq (.length (.static RX7 "AIR_OF_PLACE" "[I")) (.int (Int32.ofNat 4)) ∈ fGV := by decide +kernel
theorem tw_l1 : Cond.laysStatic RX7 "LEAST" "[I" ∈ lw_tbl := by decide +kernel
theorem tw_l2 : Cond.laysStatic RX7 "MOST" "[I" ∈ lw_tbl := by decide +kernel
theorem tw_l3 : Cond.laysStatic RX7 "TRACE_OF_KIND" "[I" ∈ lw_tbl := by decide +kernel
theorem tw_l4 : Cond.laysStatic RX7 "AIR_OF_PLACE" "[I" ∈ lw_tbl := by decide +kernel
theorem tw_i : Cond.initialized RX7 ∈ lw_tbl := by decide +kernel
theorem tw_ao : Cond.arrayOver (.object RX1) ∈ lw_tbl := by decide +kernel
theorem tw_b : Cond.arrayClass .byte ∈ lw_tbl := by decide +kernel
theorem tw_w : Cond.arrayClass .int ∈ lw_tbl := by decide +kernel
theorem tw_j : Cond.arrayClass .long ∈ lw_tbl := by decide +kernel
theorem tw_n0 : Cond.methodLinkNest RX7 33 yX6_init RX7 ∈ lw_tbl := by decide +kernel
theorem tw_n1 : Cond.methodLinkNest RX7 40 yX3_init RX7 ∈ lw_tbl := by decide +kernel
theorem tw_n2 : Cond.methodLinkNest RX7 47 yX5_init RX7 ∈ lw_tbl := by decide +kernel
theorem tw_n3 : Cond.methodLinkNest RX7 54 yX2_init RX7 ∈ lw_tbl := by decide +kernel
theorem tw_n4 : Cond.methodLinkNest RX7 61 yX0_init RX7 ∈ lw_tbl := by decide +kernel
theorem tw_n5 : Cond.methodLinkNest RX1 47 yX7_within RX7 ∈ lw_tbl := by decide +kernel
theorem tw_n6 : Cond.methodLinkNest RX5 40 yX7_within RX7 ∈ lw_tbl := by decide +kernel
theorem tw_n7 : Cond.methodLinkNest RX6 59 yX7_within RX7 ∈ lw_tbl := by decide +kernel
theorem tw_n8 : Cond.fieldLinkNest RX1 38 RX7 "LEAST" "[I" RX7 ∈ lw_tbl := by decide +kernel
theorem tw_n9 : Cond.fieldLinkNest RX1 55 RX7 "AIR_OF_PLACE" "[I" RX7 ∈ lw_tbl := by decide +kernel
theorem tw_n10 : Cond.fieldLinkNest RX1 101 RX7 "MOST" "[I" RX7 ∈ lw_tbl := by decide +kernel
theorem tw_c0 : Cond.instantiable RX0 3 ∈ wsL_law := by decide +kernel
theorem tw_c1 : Cond.instantiable RX1 8 ∈ wsL_law := by decide +kernel
theorem tw_c2 : Cond.instantiable RX2 6 ∈ wsL_law := by decide +kernel
theorem tw_c3 : Cond.instantiable RX3 7 ∈ wsL_law := by decide +kernel
theorem tw_c4 : Cond.instantiable RX4 4 ∈ wsL_law := by decide +kernel
theorem tw_c5 : Cond.instantiable RX5 8 ∈ wsL_law := by decide +kernel
theorem tw_c6 : Cond.instantiable RX6 7 ∈ wsL_law := by decide +kernel
theorem tw_c7 : Cond.instantiable RX7 13 ∈ wsL_law := by decide +kernel
theorem tw_c8 : Cond.instantiable RX8 38 ∈ wsL_law := by decide +kernel
theorem st_K {args : Array Value} {s : State} (hw : ∀ w ∈ wsL_law, w.before args s = true) (ht : ∀ w ∈ lw_tbl, w.before args s = true) : ∃ (D : va_G) (c : Nat → ClassId), va_K D vwCl [(c 0, .byte), (c 1, .int), (c 2, .long), (c 3, .object RX1)] s := by
  obtain ⟨c0, i0, h0⟩ := u_known hw inlX0 (hw _ tw_c0)
  obtain ⟨c1, i1, h1⟩ := u_known hw inlX1 (hw _ tw_c1)
  obtain ⟨c2, i2, h2⟩ := u_known hw inlX2 (hw _ tw_c2)
  obtain ⟨c3, i3, h3⟩ := u_known hw inlX3 (hw _ tw_c3)
  obtain ⟨c4, i4, h4⟩ := u_known hw inlX4 (hw _ tw_c4)
  obtain ⟨c5, i5, h5⟩ := u_known hw inlX5 (hw _ tw_c5)
  obtain ⟨c6, i6, h6⟩ := u_known hw inlX6 (hw _ tw_c6)
  obtain ⟨c7, i7, h7⟩ := u_known hw inlX7 (hw _ tw_c7)
  obtain ⟨c8, i8, h8⟩ := u_known hw inlX8 (hw _ tw_c8)
  obtain ⟨ab, pb, qb⟩ := ax_of (ht _ tw_b)
  obtain ⟨aw, pw, qw⟩ := ax_of (ht _ tw_w)
  obtain ⟨aj, pj, qj⟩ := ax_of (ht _ tw_j)
  obtain ⟨ao, po, qo⟩ := ao_of (va_AO.of (ht _ tw_ao))
  refine ⟨(fun c => ([c0, c1, c2, c3, c4, c5, c6, c7, c8] : List ClassId).getD c c0, fun c => ([i0, i1, i2, i3, i4, i5, i6, i7, i8] : List (Nat → Nat)).getD c i0), fun c => ([ab, aw, aj, ao] : List ClassId).getD c ab, fun c q hq => ?_, fun c q hq => ?_⟩
  · have h9 : c < 9 := (List.getElem?_eq_some_iff.mp hq).1
    rcases (show c = 0 ∨ c = 1 ∨ c = 2 ∨ c = 3 ∨ c = 4 ∨ c = 5 ∨ c = 6 ∨ c = 7 ∨ c = 8 by omega) with rfl | rfl | rfl | rfl | rfl | rfl | rfl | rfl | rfl
    · have e : (RX0, TX0, 3) = q := Option.some.inj hq
      subst e; exact h0
    · have e : (RX1, TX1, 8) = q := Option.some.inj hq
      subst e; exact h1
    · have e : (RX2, TX2, 6) = q := Option.some.inj hq
      subst e; exact h2
    · have e : (RX3, TX3, 7) = q := Option.some.inj hq
      subst e; exact h3
    · have e : (RX4, TX4, 4) = q := Option.some.inj hq
      subst e; exact h4
    · have e : (RX5, TX5, 8) = q := Option.some.inj hq
      subst e; exact h5
    · have e : (RX6, TX6, 7) = q := Option.some.inj hq
      subst e; exact h6
    · have e : (RX7, TX7, 13) = q := Option.some.inj hq
      subst e; exact h7
    · have e : (RX8, TX8, 38) = q := Option.some.inj hq
      subst e; exact h8
  · have h4 : c < 4 := (List.getElem?_eq_some_iff.mp hq).1
    rcases (show c = 0 ∨ c = 1 ∨ c = 2 ∨ c = 3 by omega) with rfl | rfl | rfl | rfl
    · have e : (ab, FieldType.byte) = q := Option.some.inj hq
      subst e; exact ⟨pb, qb⟩
    · have e : (aw, FieldType.int) = q := Option.some.inj hq
      subst e; exact ⟨pw, qw⟩
    · have e : (aj, FieldType.long) = q := Option.some.inj hq
      subst e; exact ⟨pj, qj⟩
    · have e : (ao, FieldType.object RX1) = q := Option.some.inj hq
      subst e; exact ⟨po, qo⟩
theorem st_S {args : Array Value} {s : State} {A : Nat → Prop} (ht : ∀ w ∈ lw_tbl, w.before args s = true) (hv : (Jvm.Cond.and given_1 narrow_1).before args s = true) (hA : ∀ a : Nat, a < s.heap.size → ¬ A a) (c : Nat → ClassId) : ∃ g : GG, g.2 = c ∧ Stt g A s := by
  have hs : ∀ w ∈ fGV, w.before args s = true := flat_of_before _ hv
  obtain ⟨t0, z0⟩ := tb_of (A := A) (f := sLST) (by decide) (ht _ tw_l1) (ht _ tw_i) (hs _ gv_1.1) (hs _ gv_1.2) (fun j hj => hs _ (gv_L j hj)) hA
  obtain ⟨t1, z1⟩ := tb_of (A := A) (f := sMST) (by decide) (ht _ tw_l2) (ht _ tw_i) (hs _ gv_2.1) (hs _ gv_2.2) (fun j hj => hs _ (gv_M j hj)) hA
  obtain ⟨t2, z2⟩ := tb_of (A := A) (f := sTRC) (by decide) (ht _ tw_l3) (ht _ tw_i) (hs _ gv_3.1) (hs _ gv_3.2) (fun j hj => hs _ (gv_T j hj)) hA
  obtain ⟨t3, z3⟩ := tb_of (A := A) (f := sAIR) (by decide) (ht _ tw_l4) (ht _ tw_i) (hs _ gv_4.1) (hs _ gv_4.2) (fun j hj => hs _ (gv_A j hj)) hA
  exact ⟨(fun j => if j = 100 then t0 else if j = 101 then t1 else if j = 102 then t2 else t3, c), rfl, z0, z1, z2, z3⟩
theorem st_N {args : Array Value} {s : State} (ht : ∀ w ∈ lw_tbl, w.before args s = true) : Nst s := ⟨va_Nw.of rfl (ht _ tw_n0), va_Nw.of rfl (ht _ tw_n1), va_Nw.of rfl (ht _ tw_n2), va_Nw.of rfl (ht _ tw_n3), va_Nw.of rfl (ht _ tw_n4), va_Nw.of rfl (ht _ tw_n5), va_Nw.of rfl (ht _ tw_n6), va_Nw.of rfl (ht _ tw_n7), va_Nw.of rfl (ht _ tw_n8), va_Nw.of rfl (ht _ tw_n9), va_Nw.of rfl (ht _ tw_n10)⟩
