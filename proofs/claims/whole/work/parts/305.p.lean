/-! more simple calls -/
theorem nI0 : (0 : Int32) = nI 0 := rfl
theorem l0 : ∀ {m : Nat}, m < 2 ^ 31 → (nI m = (0 : Int32)) = (m = 0) := fun h => propext (nI_eq (b := 0) h (by omega))
theorem lk {m : Nat} (k : Nat) {x : Int32} (hx : x = nI k) (hk : k < 2 ^ 31) (h : m < 2 ^ 31) : (nI m = x) = (m = k) := by subst hx; exact propext (nI_eq h hk)
theorem s_tank {IB : MI} {JB : MJ} {IM : MI} {JM : MJ} (h : REL IB JB IM JM) (a1 a2 : Int32) : SW (f_X7_tank IB JB a1 a2) (f_X8_tank IM JM a1 a2) := by
  have h0 := thr h
  unfold f_X7_tank f_X8_tank
  simp only [bnd, in_wi]
  generalize w2 IM 0 0 0 = IM at h0 ⊢
  obtain ⟨rm, hd, h1, h2, h3, h4, h5, h6, h7, hB⟩ := h0.2.2.2.1
  have hc := h0.2.2.2.2.2.2.2.2
  rcases win a1 (x := 0) (y := 1) (lo := 0) (hi := 1) rfl rfl (by omega) (by omega) with ⟨u, -, hu, rfl, e⟩ | e
  · rw [e]
    simp only [bo1_s, one0, ↓reduceIte]
    rcases (show u = 0 ∨ u = 1 by omega) with rfl | rfl
    · simp only [show (nI 0 = (0 : Int32)) = True from eq_true rfl, ↓reduceIte]
      unfold f_X5_changeRoom LB_X8_tank_25 LB_X8_tank_38 LB_X8_tank_58 LB_X8_tank_73 LB_X8_tank_87
      simp only [bnd, in_wi, show (nI 0 = (0 : Int32)) = True from eq_true rfl, show (nI 0 = (1 : Int32)) = False from by decide, ↓reduceIte]
      rcases win a2 (x := 100) (y := 1000000) (lo := 100) (hi := 1000000) rfl rfl (by omega) (by omega) with ⟨v, hv0, hv, rfl, e⟩ | e
      · rw [e]
        simp only [bo1_s, one0, ↓reduceIte, h5, h6]
        by_cases hx : hd ≤ v
        · rw [if_pos (nI_le hx (by omega)), if_pos (nI_le hx (by omega)), bo3_s]
          refine SW.ret (h1.trans h2.symm) (h0.setK (AG.w2 (by decide) (by decide)) ((AG.w2 (by decide) (by decide)).tr (AG.w2 (by decide) (by decide))) rfl rfl ⟨v, hd, w2k, ?_, hv0, hv, ?_, ?_, hx, hB⟩)
          · rw [w2j (by decide), w2k]
          · rw [w2j (by decide), h5]
          · rw [w2k, w2j (by decide), h6]
        · rw [if_neg (nI_ge (by omega) (by omega)), if_neg (nI_ge (by omega) (by omega)), bo3_s]; exact SW.same h0
      · rw [e]; exact SW.same h0
    · simp only [show (nI 1 = (0 : Int32)) = False from by decide, show (nI 1 = (1 : Int32)) = True from eq_true rfl, ↓reduceIte]
      unfold f_X5_changeHeld LB_X8_tank_25 LB_X8_tank_38 LB_X8_tank_58 LB_X8_tank_73 LB_X8_tank_87
      simp only [bnd, in_wi, show (nI 1 = (0 : Int32)) = False from by decide, show (nI 1 = (1 : Int32)) = True from eq_true rfl, ↓reduceIte, h1, h2]
      rcases win a2 (x := 0) (y := nI rm) (lo := 0) (hi := rm) rfl rfl (by omega) (by omega) with ⟨v, hv0, hv, rfl, e⟩ | e
      · rw [e]
        simp only [bo1_s, one0, ↓reduceIte, bo3_s]
        refine SW.ret (h5.trans h6.symm) (h0.setK (AG.w2 (by decide) (by decide)) ((AG.w2 (by decide) (by decide)).tr (AG.w2 (by decide) (by decide))) rfl rfl ⟨rm, v, ?_, ?_, h3, h4, w2k, w2k, hv, hB⟩)
        · rw [w2j (by decide), h1]
        · rw [w2j (by decide), w2k]
      · rw [e]; exact SW.same h0
  · rw [e]
    have n0 : ¬ a1 = 0 := fun q => by subst q; exact absurd e (by decide)
    have n1 : ¬ a1 = 1 := fun q => by subst q; exact absurd e (by decide)
    rw [if_neg n0, if_neg n1]; exact SW.same h0
theorem s_tolerance {IB : MI} {JB : MJ} {IM : MI} {JM : MJ} (h : REL IB JB IM JM) (a1 a2 : Int32) : SW (f_X7_tolerance IB JB a1 a2) (f_X8_tolerance IM JM a1 a2) := by
  have h0 := thr h
  unfold f_X7_tolerance f_X8_tolerance LB_X7_tolerance_33
  simp only [bnd, in_wi]
  generalize w2 IM 0 0 0 = IM at h0 ⊢
  obtain ⟨q, tb, tu, h1, h2, h3, h4, h5, h6, h7, h8, h9, h10⟩ := h0.2.2.2.2.2.2.2.1
  rcases win a1 (x := 0) (y := 1) (lo := 0) (hi := 1) rfl rfl (by omega) (by omega) with ⟨u, -, hu, rfl, e⟩ | e
  · rw [e]
    simp only [bo1_s, one0, ↓reduceIte]
    unfold LB_X8_tolerance_28 LB_X8_tolerance_51 LB_X8_tolerance_65
    rcases (show u = 0 ∨ u = 1 by omega) with rfl | rfl
    · simp only [bnd, in_wi, show (nI 0 = (0 : Int32)) = True from eq_true rfl, show (nI 0 = (1 : Int32)) = False from by decide, ↓reduceIte]
      rcases win a2 (x := 0) (y := 500) (lo := 0) (hi := 500) rfl rfl (by omega) (by omega) with ⟨v, hv0, hv, rfl, e⟩ | e
      · rw [e]
        simp only [bo1_s, one0, ↓reduceIte]
        refine SW.ret (h5.trans h6.symm) (h0.setG (AG.w2 (by decide) (by decide)) ((AG.w2 (by decide) (by decide)).tr (AG.w2 (by decide) (by decide))) (AJ.rf _) (AJ.rf _) ⟨q, v, tu, ?_, ?_, h3, ?_, w2k, ?_, hv, ?_, ?_, h10⟩)
        · rw [w2j (by decide), h1]
        · rw [w2j (by decide), w2j (by decide), h2]
        · simp only [w2n (show (27 : Nat) ≠ 26 by decide), w2n (show (28 : Nat) ≠ 26 by decide), w2n (show (29 : Nat) ≠ 26 by decide), w2n (show (11 : Nat) ≠ 0 by decide), w2n (show (12 : Nat) ≠ 0 by decide), w2n (show (13 : Nat) ≠ 0 by decide)]; exact h4
        · rw [w2j (by decide), w2k]
        · rw [w2j (by decide), h8]
        · rw [w2k, w2j (by decide), h9]
      · rw [e]; exact SW.same h0
    · simp only [bnd, in_wi, show (nI 1 = (0 : Int32)) = False from by decide, show (nI 1 = (1 : Int32)) = True from eq_true rfl, ↓reduceIte]
      rcases win a2 (x := 0) (y := 50) (lo := 0) (hi := 50) rfl rfl (by omega) (by omega) with ⟨v, hv0, hv, rfl, e⟩ | e
      · rw [e]
        simp only [bo1_s, one0, ↓reduceIte]
        refine SW.ret (h8.trans h9.symm) (h0.setG (AG.w2 (by decide) (by decide)) ((AG.w2 (by decide) (by decide)).tr (AG.w2 (by decide) (by decide))) (AJ.rf _) (AJ.rf _) ⟨q, tb, v, ?_, ?_, h3, ?_, ?_, ?_, h7, w2k, w2k, hv⟩)
        · rw [w2j (by decide), h1]
        · rw [w2j (by decide), w2j (by decide), h2]
        · simp only [w2n (show (27 : Nat) ≠ 26 by decide), w2n (show (28 : Nat) ≠ 26 by decide), w2n (show (29 : Nat) ≠ 26 by decide), w2n (show (11 : Nat) ≠ 0 by decide), w2n (show (12 : Nat) ≠ 0 by decide), w2n (show (13 : Nat) ≠ 0 by decide)]; exact h4
        · rw [w2j (by decide), h5]
        · rw [w2j (by decide), w2k, h6]
      · rw [e]; exact SW.same h0
  · rw [e]
    have n0 : ¬ a1 = 0 := fun q => by subst q; exact absurd e (by decide)
    have n1 : ¬ a1 = 1 := fun q => by subst q; exact absurd e (by decide)
    rw [if_neg n0, if_neg n1]; exact SW.same h0
/-- what a trait may be -/
def tlo (j : Nat) : Nat := ([5, 6, 20, 1, 5, 1, 0, 0, 0, 0, 0, 0, 0] : List Nat).getD j 0
def thi (j : Nat) : Nat := ([200, 1000, 900, 9, 400, 9, 100, 3, 3, 3, 2, 1, 1] : List Nat).getD j 0
theorem s_lo : ∀ j, j < 13 → sLST j = nI (tlo j) ∧ sMST j = nI (thi j) ∧ tlo j ≤ 1000 ∧ thi j ≤ 1000 := by
  intro j hj
  have : ∀ j : Fin 13, sLST j = nI (tlo j) ∧ sMST j = nI (thi j) ∧ tlo j ≤ 1000 ∧ thi j ≤ 1000 := by decide +kernel
  exact this ⟨j, hj⟩
theorem canBe {j : Nat} (hj : j < 13) {x : Int32} (hx : x = nI j) (a : Int32) : (∃ m : Nat, tlo j ≤ m ∧ m ≤ thi j ∧ a = nI m ∧ f_X7_canBe x a = some 1) ∨ (f_X7_canBe x a = some 0 ∧ ∀ m : Nat, m ≤ 1000000 → tlo j ≤ m → m ≤ thi j → a ≠ nI m) := by
  subst hx
  obtain ⟨s1, s2, s3, s4⟩ := s_lo j hj
  unfold f_X7_canBe
  rcases win (nI j) (x := 0) (y := 12) (lo := 0) (hi := 12) rfl rfl (by omega) (by omega) with ⟨m, -, h2, h3, e⟩ | e
  · rw [e]
    simp only [bo1_s, one0, ↓reduceIte, inbI hj (by omega), chk_t, nI_clamp (show j < 2 ^ 31 by omega)]
    rcases win a s1 s2 (by omega) (by omega) with ⟨m, h1, h2, h3, e⟩ | e
    · rw [e]
      exact Or.inl ⟨m, h1, h2, h3, rfl⟩
    · rw [e]
      refine Or.inr ⟨rfl, fun m hm h1 h2 h3 => ?_⟩
      subst h3
      rw [s1, s2] at e
      unfold f_X7_within at e
      rw [if_neg (nI_nlt h1 (by omega)), if_neg (nI_nlt h2 (by omega))] at e
      cases e
  · unfold f_X7_within at e
    rw [if_neg (show ¬ nI j < (0 : Int32) from nI_pos (by omega)), if_neg (show ¬ (12 : Int32) < nI j from nI_nlt (a := 12) (by omega) (by omega))] at e
    cases e
theorem win_not {a x y : Int32} {lo hi m : Nat} (hx : x = nI lo) (hy : y = nI hi) (hl : lo < 2 ^ 31) (hh : hi < 2 ^ 31) (e : f_X7_within a x y = some 0) (h1 : lo ≤ m) (h2 : m ≤ hi) : a ≠ nI m := by
  subst hx; subst hy
  intro h; subst h
  unfold f_X7_within at e
  rw [if_neg (nI_nlt h1 (by omega)), if_neg (nI_nlt h2 (by omega))] at e
  cases e
theorem s_tune {IB : MI} {JB : MJ} {IM : MI} {JM : MJ} (h : REL IB JB IM JM) (a1 a2 : Int32) : SW (f_X7_tune IB JB a1 a2) (f_X8_tune IM JM a1 a2) := by
  have h0 := thr h
  unfold f_X7_tune f_X8_tune
  simp only [bnd, in_wi]
  generalize w2 IM 0 0 0 = IM at h0 ⊢
  rcases win a1 (x := 5) (y := 400) (lo := 5) (hi := 400) rfl rfl (by omega) (by omega) with ⟨u, hu0, hu, rfl, e⟩ | e
  · rw [e]
    rcases canBe (j := 4) (by omega) (x := 4) rfl (nI u) with ⟨-, -, -, -, e⟩ | ⟨-, e⟩
    · rw [e]
      simp only [bo1_s, one0, ↓reduceIte]
      rcases win a2 (x := 1) (y := 9) (lo := 1) (hi := 9) rfl rfl (by omega) (by omega) with ⟨v, hv0, hv, rfl, e⟩ | e
      · rw [e]
        rcases canBe (j := 5) (by omega) (x := 5) rfl (nI v) with ⟨-, -, -, -, e⟩ | ⟨-, e⟩
        · rw [e]
          simp only [bo1_s, one0, ↓reduceIte]
          obtain ⟨k, tw, ts, h1, h2, h3, h4, h5⟩ := h0.2.2.1
          unfold f_X6_keep
          simp only [bnd, h1, h2]
          by_cases hk : k = 6
          · subst hk
            rw [if_neg (by decide), if_pos (by decide), bo3_s]; exact SW.same h0
          · rw [if_pos (show nI k < (6 : Int32) from nI_lt (b := 6) (by omega) (by omega)), if_neg (show ¬ nI k = (6 : Int32) from fun q => hk ((nI_eq (b := 6) (by omega) (by omega)).mp q))]
            simp only [inbI (show k < 6 by omega) (show (6 : Nat) < 2 ^ 31 by omega), chk_t, w2n (show (15 : Nat) ≠ 16 by decide), w2n (show (15 : Nat) ≠ 17 by decide), w2n (show (0 : Nat) ≠ 5 by decide), w2n (show (0 : Nat) ≠ 6 by decide), h1, h2, nI_clamp (show k < 2 ^ 31 by omega), w2k, bo3_s]
            refine SW.same (h0.setT (((ag_wc (by decide) (by decide)).tr (ag_wc (by decide) (by decide))).tr (AG.w2 (by decide) (by decide))) (((ag_wc (by decide) (by decide)).tr (ag_wc (by decide) (by decide))).tr (AG.w2 (by decide) (by decide))) (AJ.rf _) (AJ.rf _) ⟨k + 1, fun q => if q = k then u else tw q, fun q => if q = k then v else ts q, ?_, ?_, by omega, fun j hj => ?_, ?_⟩)
            · rw [w2k]; exact nI_1 k
            · rw [w2k]; exact nI_1 k
            · simp only [w2n (show (16 : Nat) ≠ 15 by decide), w2n (show (16 : Nat) ≠ 17 by decide), w2n (show (17 : Nat) ≠ 15 by decide), w2n (show (5 : Nat) ≠ 0 by decide), w2n (show (5 : Nat) ≠ 6 by decide), w2n (show (6 : Nat) ≠ 0 by decide), w2c]
              rw [w2n (show (17 : Nat) ≠ 16 by decide), w2n (show (6 : Nat) ≠ 5 by decide)]
              by_cases e : j = k
              · simp only [if_pos e]; exact ⟨trivial, trivial, hu0, hu, trivial, trivial, hv0, hv⟩
              · simp only [if_neg e]; exact h4 j (by omega)
            · simp only [w2n (show (18 : Nat) ≠ 15 by decide), w2n (show (18 : Nat) ≠ 17 by decide), w2n (show (18 : Nat) ≠ 16 by decide), w2n (show (19 : Nat) ≠ 15 by decide), w2n (show (19 : Nat) ≠ 17 by decide), w2n (show (19 : Nat) ≠ 16 by decide)]; exact h5
        · exact absurd rfl (e v (by omega) hv0 hv)
      · rw [e]
        rcases canBe (j := 5) (by omega) (x := 5) rfl a2 with ⟨m, m1, m2, m3, -⟩ | ⟨e2, -⟩
        · exact absurd m3 (win_not (lo := 1) (hi := 9) rfl rfl (by omega) (by omega) e m1 m2)
        · rw [e2]; exact SW.same h0
    · exact absurd rfl (e u (by omega) hu0 hu)
  · rw [e]
    rcases canBe (j := 4) (by omega) (x := 4) rfl a1 with ⟨m, m1, m2, m3, -⟩ | ⟨e2, -⟩
    · exact absurd m3 (win_not (lo := 5) (hi := 400) rfl rfl (by omega) (by omega) e m1 m2)
    · rw [e2]; exact SW.same h0
/-- who is a ram -/
theorem isRam_c {n : Nat} {I : MI} {J : MJ} (h1 : I 0 1 = nI n) (hn : n ≤ 4) (a : Int32) : (∃ i : Nat, i < n ∧ a = nI i ∧ f_X7_isRam I J a = some 1) ∨ f_X7_isRam I J a = some 0 := by
  unfold f_X7_isRam
  rw [h1]
  by_cases h0 : n = 0
  · subst h0
    right
    have : f_X7_within a 0 (nI 0 - 1) = some 0 := by
      unfold f_X7_within
      by_cases h : a < 0
      · rw [if_pos h]
      · rw [if_neg h, if_pos (by rw [i_lt] at h ⊢; rw [show (nI 0 - 1 : Int32).toInt = -1 by decide]; rw [Int32.toInt_zero] at h; omega)]
    rw [this, bo1_s, isB0, chk_t]
  · rw [show (1 : Int32) = nI 1 from rfl, pk_sub (by omega)]
    rcases win a (x := 0) (y := nI (n - 1)) (lo := 0) (hi := n - 1) rfl rfl (by omega) (by omega) with ⟨m, -, h2, h3, e⟩ | e
    · rw [e, bo1_s, isB1, chk_t]; exact Or.inl ⟨m, by omega, h3, rfl⟩
    · rw [e, bo1_s, isB0, chk_t]; exact Or.inr rfl
theorem isRam_m {n : Nat} {I I' : MI} {J J' : MJ} (h1 : I 0 1 = nI n) (h2 : I' 0 2 = nI n) (a : Int32) : f_X8_isRam I' J' a = f_X7_isRam I J a := by
  unfold f_X8_isRam f_X7_isRam
  rw [h1, h2]; rfl
theorem s_read {IB : MI} {JB : MJ} {IM : MI} {JM : MJ} (h : REL IB JB IM JM) (a1 a2 a3 : Int32) : SW (f_X7_read IB JB a1 a2 a3) (f_X8_read IM JM a1 a2 a3) := by
  have h0 := thr h
  unfold f_X7_read f_X8_read
  simp only [bnd]
  generalize w2 IM 0 0 0 = IM at h0 ⊢
  obtain ⟨n, T, r1, r2, r3, -⟩ := h0.1
  have rd : ∀ a : Int32, (rdv a ∧ f_X7_isReadable a = some 1) ∨ f_X7_isReadable a = some 0 := by
    intro a
    unfold f_X7_isReadable
    by_cases hx : a = -9
    · rw [if_pos hx]; exact Or.inl ⟨Or.inl hx, rfl⟩
    · rw [if_neg hx]
      rcases win a (x := 0) (y := 1000000) (lo := 0) (hi := 1000000) rfl rfl (by omega) (by omega) with ⟨v, -, hv, e1, e⟩ | e
      · rw [e]; exact Or.inl ⟨Or.inr ⟨v, hv, e1⟩, rfl⟩
      · rw [e]; exact Or.inr rfl
  have rq : ∀ a, f_X8_isRead a = f_X7_isReadable a := fun _ => rfl
  have bad : ∀ s0 : Int32, s0 = 0 ∨ f_X7_isRam IB JB a1 = some 0 → LB_X7_read_31 IB JB a1 a2 a3 s0 = some (-1, IB, JB) := by
    intro s0 hs
    unfold LB_X7_read_31
    rcases isRam_c (J := JB) r1 r3 a1 with ⟨i, hi, -, e⟩ | e
    · rw [e, bo1_s]
      rcases hs with rfl | hs
      · simp only [one0, ↓reduceIte]
      · rw [e] at hs; cases hs
    · rw [e]; rfl
  rw [isRam_m r1 r2 (J := JB) a1, rq, rq]
  unfold LB_X7_read_30 LB_X7_read_26
  rcases isRam_c (J := JB) r1 r3 a1 with ⟨i, hi, rfl, e⟩ | e
  · rw [e, bo1_s]
    simp only [one0, ↓reduceIte]
    rcases rd a2 with ⟨d2, e2⟩ | e2
    · rw [e2, bo1_s, bo1_s]
      simp only [one0, ↓reduceIte]
      rcases rd a3 with ⟨d3, e3⟩ | e3
      · rw [e3, bo1_s, bo1_s]
        simp only [one0, ↓reduceIte]
        have key : SW (LB_X7_read_31 IB JB (nI i) a2 a3 1) (LB_X8_read_41 IM JM (nI i) a2 a3) := by
          unfold LB_X7_read_31 LB_X8_read_41
          rw [e, bo1_s]
          simp only [one0, ↓reduceIte]
          obtain ⟨q, tb, tu, h1, h2, h3, h4, h5⟩ := h0.2.2.2.2.2.2.2.1
          unfold f_X2_keep
          simp only [bnd, h1, h2]
          by_cases hk : q = 12
          · subst hk
            rw [if_neg (by decide), if_pos (by decide), bo3_s]; exact SW.same h0
          · rw [if_pos (show nI q < (12 : Int32) from nI_lt (b := 12) (by omega) (by omega)), if_neg (show ¬ nI q = (12 : Int32) from fun z => hk ((nI_eq (b := 12) (by omega) (by omega)).mp z))]
            simp only [inbI (show q < 12 by omega) (show (12 : Nat) < 2 ^ 31 by omega), chk_t, w2n (show (26 : Nat) ≠ 27 by decide), w2n (show (26 : Nat) ≠ 28 by decide), w2n (show (26 : Nat) ≠ 29 by decide), w2n (show (0 : Nat) ≠ 11 by decide), w2n (show (0 : Nat) ≠ 12 by decide), w2n (show (0 : Nat) ≠ 13 by decide), h1, h2, nI_clamp (show q < 2 ^ 31 by omega), w2k, bo3_s]
            refine SW.same (h0.setG ((((ag_wc (by decide) (by decide)).tr (ag_wc (by decide) (by decide))).tr (ag_wc (by decide) (by decide))).tr (AG.w2 (by decide) (by decide))) ((((ag_wc (by decide) (by decide)).tr (ag_wc (by decide) (by decide))).tr (ag_wc (by decide) (by decide))).tr (AG.w2 (by decide) (by decide))) (AJ.rf _) (AJ.rf _) ⟨q + 1, tb, tu, ?_, ?_, by omega, fun j hj => ?_, ?_⟩)
            · rw [w2k]; exact nI_1 q
            · rw [w2k]; exact nI_1 q
            · have x27 : w2 (w2 (w2 (w2 IB 27 q (nI i)) 28 q a2) 29 q a3) 26 3 (nI q + 1) 27 j = if j = q then nI i else IB 27 j := by rw [w2n (by decide), w2n (by decide), w2n (by decide), w2c]
              have x28 : w2 (w2 (w2 (w2 IB 27 q (nI i)) 28 q a2) 29 q a3) 26 3 (nI q + 1) 28 j = if j = q then a2 else IB 28 j := by rw [w2n (by decide), w2n (by decide), w2c, w2n (by decide)]
              have x29 : w2 (w2 (w2 (w2 IB 27 q (nI i)) 28 q a2) 29 q a3) 26 3 (nI q + 1) 29 j = if j = q then a3 else IB 29 j := by rw [w2n (by decide), w2c, w2n (by decide), w2n (by decide)]
              have y11 : w2 (w2 (w2 (w2 IM 11 q (nI i)) 12 q a2) 13 q a3) 0 31 (nI q + 1) 11 j = if j = q then nI i else IM 11 j := by rw [w2n (by decide), w2n (by decide), w2n (by decide), w2c]
              have y12 : w2 (w2 (w2 (w2 IM 11 q (nI i)) 12 q a2) 13 q a3) 0 31 (nI q + 1) 12 j = if j = q then a2 else IM 12 j := by rw [w2n (by decide), w2n (by decide), w2c, w2n (by decide)]
              have y13 : w2 (w2 (w2 (w2 IM 11 q (nI i)) 12 q a2) 13 q a3) 0 31 (nI q + 1) 13 j = if j = q then a3 else IM 13 j := by rw [w2n (by decide), w2c, w2n (by decide), w2n (by decide)]
              rw [x27, x28, x29, y11, y12, y13]
              by_cases e : j = q
              · simp only [if_pos e]; exact ⟨trivial, trivial, trivial, ⟨i, by omega, rfl⟩, d2, d3⟩
              · simp only [if_neg e]; exact h4 j (by omega)
            · have x4 : w2 (w2 (w2 (w2 IB 27 q (nI i)) 28 q a2) 29 q a3) 26 3 (nI q + 1) 26 4 = IB 26 4 := by rw [w2j (by decide), w2n (by decide), w2n (by decide), w2n (by decide)]
              have x5 : w2 (w2 (w2 (w2 IB 27 q (nI i)) 28 q a2) 29 q a3) 26 3 (nI q + 1) 26 5 = IB 26 5 := by rw [w2j (by decide), w2n (by decide), w2n (by decide), w2n (by decide)]
              have y4 : w2 (w2 (w2 (w2 IM 11 q (nI i)) 12 q a2) 13 q a3) 0 31 (nI q + 1) 0 35 = IM 0 35 := by rw [w2j (by decide), w2n (by decide), w2n (by decide), w2n (by decide)]
              have y5 : w2 (w2 (w2 (w2 IM 11 q (nI i)) 12 q a2) 13 q a3) 0 31 (nI q + 1) 0 36 = IM 0 36 := by rw [w2j (by decide), w2n (by decide), w2n (by decide), w2n (by decide)]
              rw [x4, x5, y4, y5]; exact h5
        by_cases c2 : a2 = -9
        · rw [if_pos c2, if_pos c2]
          by_cases c3 : a3 = -9
          · rw [if_pos c3, if_pos c3, bad 0 (Or.inl rfl)]; exact SW.same h0
          · rw [if_neg c3, if_neg c3]; exact key
        · rw [if_neg c2, if_neg c2]; exact key
      · rw [e3, bo1_s, bo1_s]
        simp only [↓reduceIte]
        rw [bad 0 (Or.inl rfl)]; exact SW.same h0
    · rw [e2, bo1_s, bo1_s]
      simp only [↓reduceIte]
      rw [bad 0 (Or.inl rfl)]; exact SW.same h0
  · rw [e, bo1_s]
    simp only [↓reduceIte]
    rw [bad 0 (Or.inr e), bad 1 (Or.inr e)]
    rcases rd a2 with ⟨d2, e2⟩ | e2
    · rw [e2, bo1_s]
      simp only [one0, ↓reduceIte]
      rcases rd a3 with ⟨d3, e3⟩ | e3
      · rw [e3, bo1_s]
        simp only [one0, ↓reduceIte, ite_self]
        exact SW.same h0
      · rw [e3]; exact SW.same h0
    · rw [e2]; exact SW.same h0
