/-! tuned: the reference's loops; tuned itself -/
theorem lN_leB {a b : Nat} (ha : a < 2 ^ 62) (hb : b < 2 ^ 62) : lN a ≤ lN b ↔ a ≤ b := by
  have e : ∀ n : Nat, n < 2 ^ 62 → (lN n).toInt = (n : Int) := fun n hn => Int64.toInt_ofNat_of_lt (by omega)
  rw [Int64.le_iff_toInt_le, e a ha, e b hb]
  omega
theorem LP_t76_s (kk : MI → MJ → Int32 → Int32 → Int32 → Int32 → Int32 → Int64 → Int64 → Int32 → Option (Int32 × MI × MJ)) (n : Nat) (I : MI) (J : MJ) (x2 x3 x4 x5 x6 : Int32) (y7 y9 : Int64) (x11 x12 : Int32) : LP_X8_tuned_76 kk (n + 1) I J x2 x3 x4 x5 x6 y7 y9 x11 x12 = LB_X8_tuned_76 kk (LP_X8_tuned_76 kk n) I J x2 x3 x4 x5 x6 y7 y9 x11 x12 := rfl
theorem LP_t65_s (n : Nat) (I : MI) (J : MJ) (x2 x3 x4 x5 x6 : Int32) (y7 y9 : Int64) (x11 : Int32) : LP_X8_tuned_65 (n + 1) I J x2 x3 x4 x5 x6 y7 y9 x11 = LB_X8_tuned_65 (LP_X8_tuned_65 n) I J x2 x3 x4 x5 x6 y7 y9 x11 := rfl
abbrev K65 : Type := MI → MJ → Int32 → Int32 → Int32 → Int32 → Int32 → Int64 → Int64 → Int32 → Option (Int32 × MI × MJ)
abbrev K76 : Type := MI → MJ → Int32 → Int32 → Int32 → Int32 → Int32 → Int64 → Int64 → Int32 → Int32 → Option (Int32 × MI × MJ)
theorem m182 (k5 : K65) (k6 : K76) {I : MI} {J : MJ} {mo S wa ub nb w s : Nat} (hmo : mo < 12) (hS : S ≤ 1000000) (hI : I 3 mo = nI S) (h7 : J 0 7 = lN wa) (h8 : J 0 8 = lN ub) (hn : 0 < nb) (hn2 : nb ≤ 3600) (hb : nb * ub + nb * wa < 2 ^ 31) (x3 x4 x5 x6 : Int32) (y7 y9 : Int64) (s0 : Int32) : LB_X8_tuned_182 k5 k6 I J (nI mo) x3 x4 x5 x6 y7 y9 (nI w) (nI s) (lN nb) s0 = if nb * ub + nb * wa ≤ S ∧ s0 ≠ 0 then k6 I J (nI mo) x3 x4 (nI w) (nI s) (lN (nb * ub)) (lN (nb * wa)) (nI w) (nI (s + 1)) else k6 I J (nI mo) x3 x4 x5 x6 y7 y9 (nI w) (nI (s + 1)) := by
  unfold LB_X8_tuned_182
  simp only [bnd_d]
  rw [inbI hmo (by omega), chk_t, nI_clamp (by omega), hI, h7, h8, nI_l (by omega), lN_add, lN_mul, lN_mul, lN_mul, show nI s + (1 : Int32) = nI (s + 1) from nI_1 s]
  have e : nb * (wa + ub) = nb * ub + nb * wa := by rw [Nat.mul_add, Nat.add_comm]
  rw [e]
  by_cases a : nb * ub + nb * wa ≤ S
  · rw [if_neg (fun z => by have := (lN_lt (by omega) (by omega)).mp z; omega), if_neg (show ¬ lN nb ≤ (0 : Int64) from fun z => by have := (lN_le (b := 0) (by omega) (by omega)).mp z; omega)]
    by_cases b : s0 = 0
    · rw [if_pos b, if_neg (fun z => z.2 b)]
    · rw [if_neg b, if_pos ⟨a, b⟩]
  · rw [if_pos ((lN_lt (by omega) (by omega)).mpr (by omega)), if_neg (fun z => a z.1)]
theorem m76 (kk : K65) (k6 : K76) {T : Nat → Nat} (hT0 : TO T) {S aim mo w s : Nat} (hS : S ≤ 1000000) (ha : aim ≤ 1) (hmo : mo < 12) (h5 : 5 ≤ w) (h4 : w ≤ 400) (hm5 : w % 5 = 0) (hs1 : 1 ≤ s) (hs9 : s ≤ 9) (x4 : Int32) (I : MI) (J : MJ) (o : Option PT) (hI2 : ∀ j, j < 13 → j ≠ 4 → j ≠ 5 → I 2 j = nI (T j)) (hI : I 3 mo = nI S) (hB : BS aim T S (Xm w s) o) : ∃ (I' : MI) (J' : MJ) (o' : Option PT), LB_X8_tuned_76 kk k6 I J (nI mo) (nI aim) x4 (oW o) (oS o) (qU T o) (qV T o) (nI w) (nI s) = k6 I' J' (nI mo) (nI aim) x4 (oW o') (oS o') (qU T o') (qV T o') (nI w) (nI (s + 1)) ∧ MF I I' ∧ SJ J J' ∧ (∀ j, j < 13 → j ≠ 4 → j ≠ 5 → I' 2 j = nI (T j)) ∧ BS aim T S (Xm w (s + 1)) o' := by
  have hTO : TO (T2 T w s) := T2_TO hT0 h5 h4 hs1 hs9
  have hT3 : TV (w2 (w2 I 2 4 (nI w)) 2 5 (nI s) 2) (T2 T w s) := by
    refine ⟨fun j hj => ?_, hTO⟩
    rw [w2c, w2c]
    unfold T2
    by_cases e5 : j = 5
    · rw [if_pos e5, if_neg (by omega), if_pos e5]
    · rw [if_neg e5]
      by_cases e4 : j = 4
      · rw [if_pos e4, if_pos e4]
      · rw [if_neg e4, if_neg e4, if_neg e5]; exact hI2 j hj e4 e5
  obtain ⟨I5, J6, e1, e2, e3, e4⟩ := beatsM_ok (J := J) hT3
  have hmf : MF I I5 := (MF.now (fun c' h => by rw [w2n h, w2n h])).tr (MF.sm e2)
  have hT5 : TV (I5 2) (T2 T w s) := by rw [e2.1 2 (by decide)]; exact hT3
  have hI5 : ∀ j, j < 13 → j ≠ 4 → j ≠ 5 → I5 2 j = nI (T j) := fun j a b c => by
    rw [hT5.1 j a]; unfold T2; rw [if_neg b, if_neg c]
  have hI5' : I5 3 mo = nI S := by rw [hmf.1 3 (by decide) (by decide)]; exact hI
  have hu := up_bd hTO
  have hwa := wa_bd hTO
  have hbb := bt_bd hTO
  have hto := id hTO
  unfold TO at hto
  have sk : ¬ CAN T S (w, s) → BS aim T S (Xm w (s + 1)) o := fun hn => BS_skip hB (fun q hq => ⟨hq.1, by have := hq.2; omega⟩) (fun q hq hc => ⟨hq.1, by
    have := hq.2; have := hq.1
    by_cases e : q = (w, s)
    · subst e; exact absurd hc hn
    · have : ¬ (q.1 = w ∧ q.2 = s) := fun z => e (Prod.ext z.1 z.2)
      omega⟩)
  unfold LB_X8_tuned_76
  simp only [bnd_d]
  rw [if_neg (show ¬ (10 : Int32) ≤ nI s from nI_ge (b := 10) (by omega) (by omega)), e1, bo3_s, show nI s + (1 : Int32) = nI (s + 1) from nI_1 s]
  unfold RMd at e4
  cases hst : (bt (T2 T w s)).1
  · rw [hst, if_neg (by decide)] at e4
    obtain ⟨d5, d9, d6, d7, d8⟩ := e4
    have hsp : spT (T2 T w s) ≤ 500 ∧ 1 ≤ spT (T2 T w s) := by unfold spT; omega
    have n0 : nbT (T2 T w s) = 3600 / spT (T2 T w s) := by unfold nbT; rw [hst, if_neg (by decide)]
    have w0 : waT (T2 T w s) = nbT (T2 T w s) * (bt (T2 T w s)).2.2.2 := by unfold waT; rw [hst, if_neg (by decide)]
    have u0 : upT (T2 T w s) = nbT (T2 T w s) * ubR (T2 T w s) (bt (T2 T w s)).2.2.1 (bt (T2 T w s)).2.2.2 := by unfold upT; rw [ubT_R hst]
    have hn : nbT (T2 T w s) ≤ 720 := nb_bd hTO
    have hn0 : 0 < nbT (T2 T w s) := by
      rw [n0]
      exact Nat.div_pos (by omega) (by omega)
    change I5 0 9 = nI (spT (T2 T w s)) at d9
    have hub : ubR (T2 T w s) (bt (T2 T w s)).2.2.1 (bt (T2 T w s)).2.2.2 ≤ upT (T2 T w s) := by
      rw [u0]; exact Nat.le_mul_of_pos_left _ hn0
    generalize hUB : ubR (T2 T w s) (bt (T2 T w s)).2.2.1 (bt (T2 T w s)).2.2.2 = ub at d8 u0 hub
    generalize hWA : (bt (T2 T w s)).2.2.2 = wa at d7 w0
    generalize hNB : nbT (T2 T w s) = nb at *
    rw [if_neg (by decide), d9, show nz (nI (spT (T2 T w s))) = true from decide_eq_true (nI_ne0 (by omega) (by omega)), chk_t, show (3600 : Int32) = nI 3600 from rfl, pk_div (by omega) (by omega) (by omega), ← n0, nI_l (by omega), d8, d7]
    have hUp : pU T (w, s) = nb * ub := u0
    have hWp : pW T (w, s) = nb * wa := w0
    by_cases hu0 : ub = 0
    · rw [if_pos (show lN ub ≤ (0 : Int64) by rw [hu0]; decide)]
      exact ⟨I5, J6, o, rfl, hmf, e3, hI5, sk (fun z => by have := z.2.2.1; rw [hUp, hu0] at this; simp at this)⟩
    · rw [if_neg (show ¬ lN ub ≤ (0 : Int64) from fun z => by have := (lN_le (b := 0) (by omega) (by omega)).mp z; omega)]
      unfold LB_X8_tuned_177 LB_X8_tuned_181
      have hbd : nb * ub + nb * wa < 2 ^ 31 := by rw [← u0, ← w0]; omega
      have l182 := fun x5 x6 y7 y9 s0 => m182 kk k6 (I := I5) (J := J6) (w := w) (s := s) hmo hS hI5' d7 d8 hn0 (by omega) hbd (nI aim) x4 x5 x6 y7 y9 s0
      have hpos : 0 < nb * ub := Nat.mul_pos hn0 (by omega)
      have can : nb * ub + nb * wa ≤ S → CAN T S (w, s) := fun z => ⟨⟨h5, h4, hm5, hs1, hs9⟩, hst, by rw [hUp]; exact hpos, by rw [hUp, hWp]; exact z⟩
      have ncan : ¬ nb * ub + nb * wa ≤ S → ¬ CAN T S (w, s) := fun z y => z (by rw [← hUp, ← hWp]; exact y.2.2.2)
      have x1 : ∀ q, Xm w (s + 1) q → Xm w s q ∨ q = (w, s) := by
        intro q hq
        have := hq.2; have := hq.1
        by_cases e : q = (w, s)
        · exact Or.inr e
        · have : ¬ (q.1 = w ∧ q.2 = s) := fun z => e (Prod.ext z.1 z.2)
          exact Or.inl ⟨hq.1, by omega⟩
      have x2 : Xm w (s + 1) (w, s) := ⟨hm5, Or.inr ⟨rfl, by show s < s + 1; omega⟩⟩
      have x3 : ∀ q, Xm w s q → Xm w (s + 1) q := fun q hq => ⟨hq.1, by have := hq.2; omega⟩
      cases o with
      | none =>
        rw [if_pos (show oW none = (-9 : Int32) from rfl), l182]
        by_cases a : nb * ub + nb * wa ≤ S
        · rw [if_pos ⟨a, by decide⟩]
          exact ⟨I5, J6, some (w, s), by rw [← hUp, ← hWp]; rfl, hmf, e3, hI5, BS_first hB (can a) x2 x1⟩
        · rw [if_neg (fun z => a z.1)]
          exact ⟨I5, J6, none, rfl, hmf, e3, hI5, sk (ncan a)⟩
      | some b =>
        have hbX := hB.2.1
        have hb := hB.1
        have hbu := hb.2.2.2
        have hb1 := hb.1
        have fin1 : bet aim T (w, s) b → ∃ (I' : MI) (J' : MJ) (o' : Option PT), LB_X8_tuned_182 kk k6 I5 J6 (nI mo) (nI aim) x4 (oW (some b)) (oS (some b)) (qU T (some b)) (qV T (some b)) (nI w) (nI s) (lN nb) 1 = k6 I' J' (nI mo) (nI aim) x4 (oW o') (oS o') (qU T o') (qV T o') (nI w) (nI (s + 1)) ∧ MF I I' ∧ SJ J J' ∧ (∀ j, j < 13 → j ≠ 4 → j ≠ 5 → I' 2 j = nI (T j)) ∧ BS aim T S (Xm w (s + 1)) o' := by
          intro hx
          rw [l182]
          by_cases a : nb * ub + nb * wa ≤ S
          · rw [if_pos ⟨a, by decide⟩]
            exact ⟨I5, J6, some (w, s), by rw [← hUp, ← hWp]; rfl, hmf, e3, hI5, BS_new hB (can a) x2 x1 (Or.inl hx)⟩
          · rw [if_neg (fun z => a z.1)]
            exact ⟨I5, J6, some b, rfl, hmf, e3, hI5, sk (ncan a)⟩
        have fin0 : ¬ bet aim T (w, s) b → ∃ (I' : MI) (J' : MJ) (o' : Option PT), LB_X8_tuned_182 kk k6 I5 J6 (nI mo) (nI aim) x4 (oW (some b)) (oS (some b)) (qU T (some b)) (qV T (some b)) (nI w) (nI s) (lN nb) 0 = k6 I' J' (nI mo) (nI aim) x4 (oW o') (oS o') (qU T o') (qV T o') (nI w) (nI (s + 1)) ∧ MF I I' ∧ SJ J J' ∧ (∀ j, j < 13 → j ≠ 4 → j ≠ 5 → I' 2 j = nI (T j)) ∧ BS aim T S (Xm w (s + 1)) o' := by
          intro hx
          rw [l182, if_neg (fun z => z.2 rfl)]
          exact ⟨I5, J6, some b, rfl, hmf, e3, hI5, BS_old hB x3 x1 (Or.inr ⟨hx, by have := hbX.2; unfold lexle; dsimp only; omega⟩)⟩
        rw [if_neg (show ¬ oW (some b) = (-9 : Int32) from n9 (by omega))]
        have q1 : qU T (some b) = lN (pU T b) := rfl
        have q2 : qV T (some b) = lN (pW T b) := rfl
        by_cases a0 : aim = 0
        · subst a0
          rw [if_pos (show nI 0 = (0 : Int32) from rfl)]
          have hbet : bet 0 T (w, s) b ↔ ¬ lN nb * lN ub ≤ qU T (some b) := by
            rw [lN_mul, q1, lN_leB (by omega) (by omega)]
            unfold bet
            rw [if_pos rfl, hUp]
            omega
          by_cases c : lN nb * lN ub ≤ qU T (some b)
          · rw [if_pos c]; exact fin0 (fun z => (hbet.1 z) c)
          · rw [if_neg c]; exact fin1 (hbet.2 c)
        · rw [if_neg (show ¬ nI aim = (0 : Int32) from fun z => a0 ((nI_eq (b := 0) (by omega) (by omega)).mp z))]
          have m1 : pW T b * (nb * ub) ≤ 1000000 * (720 * (2700 * 402)) := Nat.mul_le_mul (by omega) (by omega)
          have m2 : nb * wa * pU T b ≤ (720 * (2700 * 402)) * 1000000 := Nat.mul_le_mul (by omega) (by omega)
          have hbet : bet aim T (w, s) b ↔ ¬ qV T (some b) * lN nb * lN ub ≤ lN nb * lN wa * qU T (some b) := by
            rw [q1, q2, lN_mul, lN_mul, lN_mul, lN_mul, Nat.mul_assoc (pW T b), lN_leB (by omega) (by omega)]
            unfold bet
            rw [if_neg a0, hUp, hWp]
            omega
          by_cases c : qV T (some b) * lN nb * lN ub ≤ lN nb * lN wa * qU T (some b)
          · rw [if_pos c]; exact fin0 (fun z => (hbet.1 z) c)
          · rw [if_neg c]; exact fin1 (hbet.2 c)
  · rw [if_pos rfl, if_pos rfl]
    exact ⟨I5, J6, o, rfl, hmf, e3, hI5, sk (fun z => by have := z.2.1; dsimp only at this; rw [hst] at this; exact absurd this (by decide))⟩
theorem mod_s {T : Nat → Nat} (hT0 : TO T) {S aim mo w : Nat} (hS : S ≤ 1000000) (ha : aim ≤ 1) (hmo : mo < 12) (h5 : 5 ≤ w) (h4 : w ≤ 400) (hm5 : w % 5 = 0) (x4 : Int32) (kk : K65) : ∀ (k m s : Nat) (I : MI) (J : MJ) (o : Option PT), s + k = 10 → 1 ≤ s → k < m → (∀ j, j < 13 → j ≠ 4 → j ≠ 5 → I 2 j = nI (T j)) → I 3 mo = nI S → BS aim T S (Xm w s) o → ∃ (I' : MI) (J' : MJ) (o' : Option PT), LP_X8_tuned_76 kk m I J (nI mo) (nI aim) x4 (oW o) (oS o) (qU T o) (qV T o) (nI w) (nI s) = kk I' J' (nI mo) (nI aim) x4 (oW o') (oS o') (qU T o') (qV T o') (nI (w + 5)) ∧ MF I I' ∧ SJ J J' ∧ (∀ j, j < 13 → j ≠ 4 → j ≠ 5 → I' 2 j = nI (T j)) ∧ BS aim T S (Xm (w + 5) 1) o' := by
  intro k
  induction k with
  | zero =>
    intro m s I J o hs h1 hm hI2 hI hB
    obtain ⟨m, rfl⟩ : ∃ q, m = q + 1 := ⟨m - 1, by omega⟩
    have : s = 10 := by omega
    subst this
    rw [LP_t76_s]
    unfold LB_X8_tuned_76
    simp only [bnd_d]
    rw [if_pos (by decide), show (5 : Int32) = nI 5 from rfl, nI_add]
    exact ⟨I, J, o, rfl, MF.rf I, SJ.rf J, hI2, BS_skip hB (fun q hq => ⟨hq.1, by have := hq.2; omega⟩) (fun q hq hc => ⟨hq.1, by have := hq.2; have := hc.1; have := hq.1; omega⟩)⟩
  | succ k ih =>
    intro m s I J o hs h1 hm hI2 hI hB
    obtain ⟨m, rfl⟩ : ∃ q, m = q + 1 := ⟨m - 1, by omega⟩
    obtain ⟨I1, J1, o1, a1, a2, a3, a4, a5⟩ := m76 kk (LP_X8_tuned_76 kk m) hT0 hS ha hmo h5 h4 hm5 h1 (by omega) x4 I J o hI2 hI hB
    rw [LP_t76_s, a1]
    obtain ⟨I2, J2, o2, b1, b2, b3, b4, b5⟩ := ih m (s + 1) I1 J1 o1 (by omega) (by omega) (by omega) a4 (by rw [a2.1 3 (by decide) (by decide)]; exact hI) a5
    exact ⟨I2, J2, o2, b1, a2.tr b2, a3.tr b3, b4, b5⟩
theorem mod_t {T : Nat → Nat} (hT0 : TO T) {S aim mo : Nat} (hS : S ≤ 1000000) (ha : aim ≤ 1) (hmo : mo < 12) (x4 : Int32) : ∀ (k m w : Nat) (I : MI) (J : MJ) (o : Option PT), w + 5 * k = 405 → 5 ≤ w → w % 5 = 0 → k < m → (∀ j, j < 13 → j ≠ 4 → j ≠ 5 → I 2 j = nI (T j)) → I 3 mo = nI S → BS aim T S (Xm w 1) o → ∃ (I' : MI) (J' : MJ) (o' : Option PT), LP_X8_tuned_65 m I J (nI mo) (nI aim) x4 (oW o) (oS o) (qU T o) (qV T o) (nI w) = some (if x4 = 0 then oW o' else if x4 = 1 then oS o' else oU T o', I', J') ∧ MF I I' ∧ SJ J J' ∧ BS aim T S (Xm 405 1) o' := by
  intro k
  induction k with
  | zero =>
    intro m w I J o hw h5 hm5 hm hI2 hI hB
    obtain ⟨m, rfl⟩ : ∃ q, m = q + 1 := ⟨m - 1, by omega⟩
    have : w = 405 := by omega
    subst this
    rw [LP_t65_s]
    unfold LB_X8_tuned_65
    rw [if_pos (by decide)]
    refine ⟨I, J, o, ?_, MF.rf I, SJ.rf J, hB⟩
    have e : (qU T o).toInt32 = oU T o := by
      cases o with
      | none => rfl
      | some p => exact lN_i _
    by_cases a : x4 = 0
    · rw [if_pos a, if_pos a]
    · rw [if_neg a, if_neg a]
      by_cases b : x4 = 1
      · rw [if_pos b, if_pos b]
      · rw [if_neg b, if_neg b, e]
  | succ k ih =>
    intro m w I J o hw h5 hm5 hm hI2 hI hB
    obtain ⟨m, rfl⟩ : ∃ q, m = q + 1 := ⟨m - 1, by omega⟩
    obtain ⟨I1, J1, o1, a1, a2, a3, a4, a5⟩ := mod_s hT0 hS ha hmo h5 (by omega) hm5 x4 (LP_X8_tuned_65 m) 9 FU 1 I J o (by omega) (by omega) (by rw [FU_eq]; omega) hI2 hI hB
    change LP_X8_tuned_76 (LP_X8_tuned_65 m) FU I J (nI mo) (nI aim) x4 (oW o) (oS o) (qU T o) (qV T o) (nI w) 1 = _ at a1
    rw [LP_t65_s]
    unfold LB_X8_tuned_65
    rw [if_neg (show ¬ (400 : Int32) < nI w from nI_nlt (b := w) (a := 400) (by omega) (by omega)), a1]
    obtain ⟨I2, J2, o2, b1, b2, b3, b4⟩ := ih m (w + 5) I1 J1 o1 (by omega) (by omega) (by omega) (by omega) a4 (by rw [a2.1 3 (by decide) (by decide)]; exact hI) a5
    exact ⟨I2, J2, o2, b1, a2.tr b2, a3.tr b3, b4⟩
theorem s_tuned {IB : MI} {JB : MJ} {IM : MI} {JM : MJ} (h : REL IB JB IM JM) (a1 a2 a3 a4 : Int32) : SW (f_X7_tuned IB JB a1 a2 a3 a4) (f_X8_tuned IM JM a1 a2 a3 a4) := by
  have h0 := thr h
  unfold f_X7_tuned f_X8_tuned
  simp only [bnd_d, in_wd]
  generalize w2 IM 0 0 0 = IM at h0 ⊢
  obtain ⟨n, T, hr⟩ := h0.1
  obtain ⟨sp, fr, sf, st, hS⟩ := h0.2.1
  obtain ⟨r1, r2, r3, r4, r5⟩ := id hr
  rw [isRam_m r1 r2 (J := JB) a1]
  rcases isRam_c (J := JB) r1 r3 a1 with ⟨i, hi, rfl, e⟩ | e
  · rw [e]
    simp only [bo1_s, one0, ↓reduceIte]
    rcases mon a2 with ⟨mo, hmo, rfl, e1, e2⟩ | ⟨e1, e2⟩
    · rw [e1, e2]
      simp only [bo1_s, one0, ↓reduceIte]
      rcases win a3 (x := 0) (y := 1) (lo := 0) (hi := 1) rfl rfl (by omega) (by omega) with ⟨aim, -, ha, rfl, e3⟩ | e3
      · rw [e3]
        simp only [bo1_s, one0, ↓reduceIte]
        rcases win a4 (x := 0) (y := 2) (lo := 0) (hi := 2) rfl rfl (by omega) (by omega) with ⟨wh, -, hwh, rfl, e4⟩ | e4
        · rw [e4]
          simp only [bo1_s, one0, ↓reduceIte]
          obtain ⟨ri, rm, rk⟩ := r4 i hi
          obtain ⟨s1, s2, s3⟩ := hS.1 mo hmo
          rw [inbI (show i < 4 by omega) (by omega), chk_t, rc_nI (by omega)]
          obtain ⟨I1, b1, b2, b3, b4⟩ := like_ok (J := JB) ri
          obtain ⟨I2, c1, c2, c3⟩ := takesT (JM := JM) hr hi
          rw [b1, bo2_s, c1, bo2_s]
          have hTi := ri.2
          have f0 : ∀ X : PT → Prop, (∀ q, X q → ¬ CAN (T i) (sp mo) q) → BS aim (T i) (sp mo) X none := fun X hx => hx
          obtain ⟨I3, o3, g1, g2, g3⟩ := cls_t hTi s3 ha hmo (nI wh) 9 FU 1 (T i 4) (T i 5) I1 JB none (by omega) (by omega) (by rw [FU_eq]; omega) (by rw [T2_id]; exact b3) (by rw [T2_id]; exact b4) (by rw [b2 13 (by decide) (by decide)]; exact s1) (f0 _ (fun q hq hc => by have := hq.2; have := hc.1; omega))
          obtain ⟨I4, J4, o4, k1, k2, k3, k4⟩ := mod_t hTi s3 ha hmo (nI wh) 80 FU 5 I2 JM none (by omega) (by omega) (by omega) (by rw [FU_eq]; omega) (fun j hj _ _ => c3.1 j hj) (by rw [c2.1 3 (by decide)]; exact s2) (f0 _ (fun q hq hc => by have := hq.2; have := hc.1; omega))
          have eo : o3 = o4 := BS_u (fun q hc => by
            have := hc.1
            unfold Xc Xm
            constructor <;> (intro z; omega)) g3 k4
          change LP_X7_tuned_67 FU I1 JB (nI mo) (nI aim) (nI wh) (-9) (-9) (-9) 0 1 = _ at g1
          change LP_X8_tuned_65 FU I2 JM (nI mo) (nI aim) (nI wh) (-9) (-9) (-9) 0 5 = _ at k1
          rw [g1, k1, eo]
          exact SW.same (h0.keep (b2.tr g2).bA (AG.tr c2 k2.mA) (AJ.rf _) (mJA_SJ k3))
        · rw [e4]; exact SW.same h0
      · rw [e3]; exact SW.same h0
    · rw [e1, e2]; exact SW.same h0
  · rw [e]; exact SW.same h0
