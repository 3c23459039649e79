/-! side: numbers, both ways -/
noncomputable def vUp (S : Nat) : Option (Nat × Nat) → Int32
  | none => -9
  | some p => if p.2 ≤ S then nI p.1 else -9
theorem LP_up12_s (I : MI) (J : MJ) (n : Nat) (x2 x4 x5 x6 x7 : Int32) : LP_X6_upOf_12 I J (n + 1) x2 x4 x5 x6 x7 = LB_X6_upOf_12 I J (LP_X6_upOf_12 I J n) x2 x4 x5 x6 x7 := rfl
theorem upOf_loop {n k S : Nat} {T : Nat → Nat → Nat} {tw ts : Nat → Nat} {I : MI} {J : MJ} (hn : n ≤ 4) (hk : k ≤ 6) (hS : S ≤ 1000000) (hTO : ∀ i, i < n → TO (T i)) (hw : WS k tw ts) (h15 : I 15 2 = nI k) (h0 : ∀ i, i < 4 → I 18 (7 * i) = 0 ∧ I 19 (7 * i) = 0) (hB : TB n k T tw ts I) : ∀ (j m x i u dr : Nat), i + j = n → j < m → x < 2 ^ 31 → u ≤ dr → dr ≤ S → LP_X6_upOf_12 I J m (nI n) (nI (S - dr)) (nI u) (nI x) (nI i) = some (vUp S (gs T tw ts k j x i u dr)) := by
  intro j
  induction j with
  | zero =>
    intro m x i u dr hi hm hx hu hd
    obtain ⟨m, rfl⟩ : ∃ z, m = z + 1 := ⟨m - 1, by omega⟩
    rw [LP_up12_s]
    unfold LB_X6_upOf_12
    rw [if_pos (nI_le (by omega) (by omega)), gs]
    unfold vUp
    dsimp only
    rw [if_pos hd]
  | succ j ih =>
    intro m x i u dr hi hm hx hu hd
    obtain ⟨m, rfl⟩ : ∃ z, m = z + 1 := ⟨m - 1, by omega⟩
    have hd7 : x % 7 < 7 := Nat.mod_lt _ (by omega)
    rw [LP_up12_s]
    unfold LB_X6_upOf_12
    simp only [bnd_d]
    rw [if_neg (nI_ge (by omega) (by omega)), rem7 hx, div7 hx, h15, show (7 : Int32) = nI 7 from rfl, pk_mul, nI_add, inbI (show i * 7 + x % 7 < 28 by omega) (by omega), chk_t, chk_t, chk_t, chk_t, nI_clamp (by omega), show i * 7 + x % 7 = 7 * i + x % 7 by omega, show nI i + (1 : Int32) = nI (i + 1) from nI_1 i]
    by_cases c1 : k < x % 7
    · rw [if_pos (nI_lt c1 (by omega)), gs_no (fun z => by unfold okd at z; omega)]; rfl
    · rw [if_neg (nI_nlt (by omega) (by omega))]
      by_cases c2 : x % 7 = 0
      · obtain ⟨z1, z2⟩ := h0 i (by omega)
        have e1 : dU T tw ts i (x % 7) = 0 := by unfold dU; rw [if_pos c2]
        have e2 : dD T tw ts i (x % 7) = 0 := by unfold dD; rw [if_pos c2]
        rw [gs_ok (Or.inl c2), e1, e2, Nat.add_zero, Nat.add_zero, c2, Nat.add_zero, z1, z2, if_neg (by decide), if_pos (nI_pos' (by omega)), Int32.sub_zero, Int32.add_zero]
        exact ih m (x / 7) (i + 1) u dr (by omega) (by omega) (by omega) hu hd
      · obtain ⟨b1, b2⟩ := hB i (by omega) (x % 7) (by omega) (by omega)
        have e1 : dU T tw ts i (x % 7) = upT (dTn T tw ts i (x % 7)) := by unfold dU; rw [if_neg c2]
        have e2 : dD T tw ts i (x % 7) = waT (dTn T tw ts i (x % 7)) + upT (dTn T tw ts i (x % 7)) := by unfold dD; rw [if_neg c2]
        have bd := dD_bd (d := x % 7) (hTO i (by omega)) hw (by omega)
        rw [e2] at bd
        cases hst : (bt (dTn T tw ts i (x % 7))).1
        · rw [hst, if_neg (by decide)] at b1
          rw [b1, b2, if_neg (n9 (by omega)), gs_ok (Or.inr ⟨by omega, hst⟩), e1, e2]
          by_cases c3 : waT (dTn T tw ts i (x % 7)) + upT (dTn T tw ts i (x % 7)) ≤ S - dr
          · rw [if_pos (nI_le c3 (by omega)), pk_sub c3, nI_add, show S - dr - (waT (dTn T tw ts i (x % 7)) + upT (dTn T tw ts i (x % 7))) = S - (dr + (waT (dTn T tw ts i (x % 7)) + upT (dTn T tw ts i (x % 7)))) by omega]
            exact ih m (x / 7) (i + 1) _ _ (by omega) (by omega) (by omega) (by omega) (by omega)
          · rw [if_neg (nI_ge (by omega) (by omega))]
            generalize hg : gs T tw ts k j (x / 7) (i + 1) (u + upT (dTn T tw ts i (x % 7))) (dr + (waT (dTn T tw ts i (x % 7)) + upT (dTn T tw ts i (x % 7)))) = o
            cases o with
            | none => rfl
            | some p =>
              have := (gs_le _ _ _ _ _ p.1 p.2 hg).1
              unfold vUp
              dsimp only
              rw [if_neg (by omega)]
        · rw [hst, if_pos rfl] at b1
          rw [b1, if_pos rfl, gs_no (fun z => by
            rcases z with z | z
            · exact c2 z
            · rw [hst] at z; exact absurd z.2 (by decide))]
          rfl
/-! the reference's number -/
abbrev K33 : Type := MI → MJ → Int32 → Int32 → Int32 → Int64 → Int32 → Option (Int32 × MI × MJ)
abbrev K58 : Type := MI → MJ → Int32 → Int32 → Int32 → Int64 → Int32 → Int32 → Int64 → Int64 → Int32 → Int32 → Option (Int32 × MI × MJ)
theorem LP_s58_s (kk : K33) (n : Nat) (I : MI) (J : MJ) (x1 x2 x3 : Int32) (y4 : Int64) (x6 x7 : Int32) (y8 y10 : Int64) (x12 x13 : Int32) : LP_X8_side_58 kk (n + 1) I J x1 x2 x3 y4 x6 x7 y8 y10 x12 x13 = LB_X8_side_58 kk (LP_X8_side_58 kk n) I J x1 x2 x3 y4 x6 x7 y8 y10 x12 x13 := rfl
theorem s58_no (kk : K33) (m : Nat) (I : MI) (J : MJ) (x1 x2 x3 : Int32) (y4 : Int64) (x6 x7 : Int32) (y8 y10 : Int64) (x13 : Int32) : LP_X8_side_58 kk (m + 1) I J x1 x2 x3 y4 x6 x7 y8 y10 0 x13 = kk I J x1 x2 x3 y4 (x6 + 1) := by
  have e : LB_X8_side_234 kk I J x1 x2 x3 y4 x6 y8 y10 0 = kk I J x1 x2 x3 y4 (x6 + 1) := by
    unfold LB_X8_side_234
    simp only [bnd_d]
    rw [if_pos trivial]
  rw [LP_s58_s]
  unfold LB_X8_side_58
  rw [e]
  by_cases a : I 0 2 ≤ x13
  · rw [if_pos a]
  · rw [if_neg a, if_pos rfl]
theorem mod_num {n k : Nat} {T : Nat → Nat → Nat} {tw ts : Nat → Nat} {IB : MI} (kk : K33) (x1 x2 x3 : Int32) (y4 : Int64) (x6 : Int32) : ∀ (j m x i u dr : Nat) (I : MI) (J : MJ), i + j = n → j + 1 < m → x < 2 ^ 31 → RR n T IB I → RT k tw ts IB I → ∃ (I' : MI) (J' : MJ), MF I I' ∧ SJ J J' ∧ LP_X8_side_58 kk m I J x1 x2 x3 y4 x6 (nI x) (lN u) (lN dr) 1 (nI i) = match gs T tw ts k j x i u dr with
      | none => kk I' J' x1 x2 x3 y4 (x6 + 1)
      | some p => LB_X8_side_234 kk I' J' x1 x2 x3 y4 x6 (lN p.1) (lN p.2) 1 := by
  intro j
  induction j with
  | zero =>
    intro m x i u dr I J hi hm hx hR hT
    obtain ⟨m, rfl⟩ : ∃ z, m = z + 1 := ⟨m - 1, by omega⟩
    have hn := hR.2.2.1
    rw [LP_s58_s]
    unfold LB_X8_side_58
    rw [hR.2.1, if_pos (nI_le (by omega) (by omega)), gs]
    exact ⟨I, J, MF.rf I, SJ.rf J, rfl⟩
  | succ j ih =>
    intro m x i u dr I J hi hm hx hR hT
    obtain ⟨m, rfl⟩ : ∃ z, m = z + 1 + 1 := ⟨m - 2, by omega⟩
    have hn := hR.2.2.1
    have hk := hT.2.2.1
    have hd7 : x % 7 < 7 := Nat.mod_lt _ (by omega)
    rw [LP_s58_s]
    unfold LB_X8_side_58
    simp only [bnd_d]
    rw [hR.2.1, if_neg (nI_ge (by omega) (by omega)), if_neg (by decide), rem7 hx, div7 hx, hT.2.1, show nI i + (1 : Int32) = nI (i + 1) from nI_1 i]
    by_cases c0 : x % 7 = 0
    · have e1 : dU T tw ts i (x % 7) = 0 := by unfold dU; rw [if_pos c0]
      have e2 : dD T tw ts i (x % 7) = 0 := by unfold dD; rw [if_pos c0]
      rw [if_pos (show nI (x % 7) ≤ (0 : Int32) by rw [c0]; decide), gs_ok (Or.inl c0), e1, e2, Nat.add_zero, Nat.add_zero]
      exact ih (m + 1) (x / 7) (i + 1) u dr I J (by omega) (by omega) (by omega) hR hT
    · rw [if_neg (show ¬ nI (x % 7) ≤ (0 : Int32) from nI_nle (by omega) (by omega))]
      obtain ⟨I1, a1, a2, a3⟩ := takesT (JM := J) hR (show i < n by omega)
      obtain ⟨I1', a1', a2', -⟩ := takes_ok (i := i) (by omega) I J
      have eI : I1' = I1 := by
        have := a1.symm.trans a1'
        injection this with this
        injection this with this
        exact this.symm
      subst eI
      have mf1 : MF I I1' := MF.now a2'
      unfold LB_X8_side_105
      rw [a1, bo2_s, bo2_s]
      by_cases c1 : k < x % 7
      · rw [if_pos (nI_lt c1 (by omega)), if_pos rfl, gs_no (fun z => by unfold okd at z; omega)]
        unfold LB_X8_side_136 LB_X8_side_160 LB_X8_side_177 LB_X8_side_178
        simp only [bnd_d]
        rw [show inb (4 : Int32) 13 = true from inbI (n := 4) (by omega) (by omega), chk_t, if_pos trivial, show inb (5 : Int32) 13 = true from inbI (n := 5) (by omega) (by omega), chk_t, if_pos trivial, if_pos trivial, show nI i + (1 : Int32) = nI (i + 1) from nI_1 i, s58_no]
        exact ⟨_, _, mf1.tr (MF.now (fun c' h => by rw [w2n h, w2n h])), SJ.rf J, rfl⟩
      · rw [if_neg (nI_nlt (by omega) (by omega)), if_neg (by decide)]
        obtain ⟨q1, q2, q3, q4, q5, q6, q7, q8⟩ := hT.2.2.2.1 (x % 7 - 1) (by omega)
        have i5 : I1' 5 (x % 7 - 1) = nI (tw (x % 7 - 1)) := by rw [a2' 5 (by decide)]; exact q2
        have i6 : I1' 6 (x % 7 - 1) = nI (ts (x % 7 - 1)) := by rw [a2' 6 (by decide)]; exact q6
        have hTO : TO (dTn T tw ts i (x % 7)) := dT_TO (d := x % 7) a3.2 hT.ws (by omega) (by omega)
        have hT3 : TV (w2 (w2 I1' 2 4 (nI (tw (x % 7 - 1)))) 2 5 (nI (ts (x % 7 - 1))) 2) (dTn T tw ts i (x % 7)) := by
          refine ⟨fun j hj => ?_, hTO⟩
          rw [w2c, w2c]
          unfold dTn T2
          by_cases e5 : j = 5
          · rw [if_pos e5, if_neg (by omega), if_pos e5]
          · rw [if_neg e5]
            by_cases e4 : j = 4
            · rw [if_pos e4, if_pos e4]
            · rw [if_neg e4, if_neg e4, if_neg e5]; exact a3.1 j hj
        obtain ⟨I5, J6, e1, e2, e3, e4⟩ := beatsM_ok (J := J) hT3
        have hmf : MF I I5 := mf1.tr ((MF.now (fun c' h => by rw [w2n h, w2n h])).tr (MF.sm e2))
        unfold LB_X8_side_136 LB_X8_side_160 LB_X8_side_177
        simp only [bnd_d]
        rw [show nI (x % 7) - (1 : Int32) = nI (x % 7 - 1) from pk_sub (b := 1) (by omega), inbI (show x % 7 - 1 < 6 by omega) (by omega), chk_t, show inb (4 : Int32) 13 = true from inbI (n := 4) (by omega) (by omega), chk_t, if_neg (by decide), chk_t, show inb (5 : Int32) 13 = true from inbI (n := 5) (by omega) (by omega), chk_t, if_neg (by decide), nI_clamp (by omega), i5, show (4 : Int32).toNatClampNeg = 4 from rfl, show (5 : Int32).toNatClampNeg = 5 from rfl, w2n (show 6 ≠ 2 by decide), i6, e1, bo3_s]
        unfold LB_X8_side_178
        simp only [bnd_d]
        rw [show nI i + (1 : Int32) = nI (i + 1) from nI_1 i]
        have hbb := bt_bd hTO
        have hto := id hTO
        unfold TO at hto
        unfold RMd at e4
        generalize hTd : dTn T tw ts i (x % 7) = Td at *
        cases hst : (bt Td).1
        · rw [hst, if_neg (by decide)] at e4
          obtain ⟨d5, d9, d6, d7, d8⟩ := e4
          have hsp : spT Td ≤ 500 ∧ 1 ≤ spT Td := by unfold spT; omega
          have n0 : nbT Td = 3600 / spT Td := by unfold nbT; rw [hst, if_neg (by decide)]
          have w0 : waT Td = nbT Td * (bt Td).2.2.2 := by unfold waT; rw [hst, if_neg (by decide)]
          have u0 : upT Td = nbT Td * ubR Td (bt Td).2.2.1 (bt Td).2.2.2 := by unfold upT; rw [ubT_R hst]
          have hn2 : nbT Td ≤ 720 := nb_bd hTO
          change I5 0 9 = nI (spT Td) at d9
          have f1 : dU T tw ts i (x % 7) = upT Td := by unfold dU; rw [if_neg c0, hTd]
          have f2 : dD T tw ts i (x % 7) = waT Td + upT Td := by unfold dD; rw [if_neg c0, hTd]
          rw [if_neg (by decide), if_neg (by decide), d9, show nz (nI (spT Td)) = true from decide_eq_true (nI_ne0 (by omega) (by omega)), chk_t, chk_t, show (3600 : Int32) = nI 3600 from rfl, pk_div (by omega) (by omega) (by omega), ← n0, nI_l (by omega), d8, d7, lN_add, lN_mul, lN_mul, lN_add, lN_add, Nat.mul_add, ← u0, ← w0, gs_ok (Or.inr ⟨by omega, by rw [hTd]; exact hst⟩), f1, f2]
          obtain ⟨I6, J7, g1, g2, g3⟩ := ih (m + 1) (x / 7) (i + 1) (u + upT Td) (dr + (waT Td + upT Td)) I5 J6 (by omega) (by omega) (by omega) (hR.cg (AG.rf _) hmf.mA.R) (hT.cg (AG.rf _) hmf.mA.T)
          exact ⟨I6, J7, hmf.tr g1, e3.tr g2, g3⟩
        · rw [if_pos rfl, if_pos rfl, s58_no, gs_no (fun z => by
            rcases z with z | z
            · exact c0 z
            · rw [hTd, hst] at z; exact absurd z.2 (by decide))]
          exact ⟨I5, J6, hmf, e3, rfl⟩
