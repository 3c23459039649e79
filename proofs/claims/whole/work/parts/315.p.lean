/-! sure -/
theorem hit_one (F : Nat → Bool) (a v c : Nat) : hit F a v c ≤ one F c := by
  unfold hit one
  by_cases h : F c = true
  · rw [if_pos h]; split <;> omega
  · rw [if_neg (fun z => h z.1)]; omega
theorem hs_le (F : Nat → Bool) (a v n : Nat) : sm (hit F a v) n ≤ sm (one F) n := by
  induction n with
  | zero => exact Nat.le_refl _
  | succ n ih => rw [sm_s, sm_s]; have := hit_one F a v n; omega
theorem hs_eq (F : Nat → Bool) (a v n : Nat) : sm (hit F a v) n = sm (one F) n ↔ ∀ c, c < n → F c = true → vC c a = v := by
  induction n with
  | zero => exact ⟨fun _ c hc => by omega, fun _ => rfl⟩
  | succ n ih =>
    rw [sm_s, sm_s]
    have h1 := hit_one F a v n
    have h2 := hs_le F a v n
    constructor
    · intro h c hc hF
      by_cases e : c = n
      · subst e
        have e2 : hit F a v c = one F c := by omega
        unfold hit one at e2
        rw [if_pos hF] at e2
        by_cases hv : vC c a = v
        · exact hv
        · rw [if_neg (fun z => hv z.2)] at e2; omega
      · exact ih.1 (by omega) c (by omega) hF
    · intro h
      rw [ih.2 (fun c hc => h c (by omega))]
      congr 1
      unfold hit one
      by_cases hF : F n = true
      · rw [if_pos ⟨hF, h n (by omega) hF⟩, if_pos hF]
      · rw [if_neg (fun z => hF z.1), if_neg hF]
theorem so_0 (F : Nat → Bool) (n : Nat) : sm (one F) n = 0 ↔ ∀ c, c < n → F c = false := by
  induction n with
  | zero => exact ⟨fun _ c hc => by omega, fun _ => rfl⟩
  | succ n ih =>
    rw [sm_s]
    constructor
    · intro h c hc
      by_cases e : c = n
      · subst e
        have e2 : one F c = 0 := by omega
        unfold one at e2
        cases hF : F c
        · rfl
        · rw [if_pos hF] at e2; omega
      · exact ih.1 (by omega) c (by omega)
    · intro h
      rw [ih.2 (fun c hc => h c (by omega))]
      unfold one
      rw [if_neg (by rw [h n (by omega)]; decide)]
def SVG (F : Nat → Bool) (a v : Nat) : Prop := (∃ c, c < 256 ∧ F c = true) ∧ ∀ c, c < 256 → F c = true → vC c a = v
def SVP (F : Nat → Bool) (a : Nat) (x : Int32) : Prop := (∃ v, v < 4 ∧ x = nI v ∧ SVG F a v) ∨ (x = -9 ∧ ∀ v, v < 4 → ¬ SVG F a v)
theorem SVP_u {F : Nat → Bool} {a : Nat} {x y : Int32} (h : SVP F a x) (h2 : SVP F a y) : x = y := by
  rcases h with ⟨v, hv, rfl, g⟩ | ⟨rfl, g⟩ <;> rcases h2 with ⟨w, hw, rfl, g2⟩ | ⟨rfl, g2⟩
  · obtain ⟨⟨c, hc, hF⟩, g1⟩ := g
    rw [← g1 c hc hF, ← g2.2 c hc hF]
  · exact absurd g (g2 v hv)
  · exact absurd g2 (g w hw)
  · rfl
theorem LP_ov_s (I : MI) (J : MJ) (n : Nat) (x1 x2 : Int32) : LP_X0_onlyValueOf_2 I J (n + 1) x1 x2 = LB_X0_onlyValueOf_2 I J (LP_X0_onlyValueOf_2 I J n) x1 x2 := rfl
theorem SVG_iff {F : Nat → Bool} {a v : Nat} : SVG F a v ↔ sm (one F) 256 ≠ 0 ∧ sm (hit F a v) 256 = sm (one F) 256 := by
  unfold SVG
  rw [hs_eq]
  constructor
  · rintro ⟨⟨c, hc, hF⟩, h⟩
    exact ⟨fun z => (by rw [so_0] at z; rw [z c hc] at hF; exact absurd hF (by decide)), h⟩
  · rintro ⟨h1, h2⟩
    refine ⟨?_, h2⟩
    apply Classical.byContradiction
    intro hn
    exact h1 ((so_0 F 256).2 (fun c hc => by
      cases hF : F c
      · rfl
      · exact absurd ⟨c, hc, hF⟩ hn))
theorem only_loop {F : Nat → Bool} {I : MI} {J : MJ} (h : DI F 16 0 I) {a : Nat} (ha : a < 4) : ∀ (k m v : Nat), v + k = 4 → k < m → (∀ u, u < v → ¬ SVG F a u) → ∃ x, LP_X0_onlyValueOf_2 I J m (nI a) (nI v) = some x ∧ SVP F a x := by
  have hc : ∀ v, v < 4 → I 31 (4 * a + v) = nI (sm (hit F a v) 256) := fun v hv => by rw [h.2.1 a v ha hv, PS_e]
  have h1 := h.1
  rw [PS_e] at h1
  have b1 := sm_le (one_le F) 256
  intro k
  induction k with
  | zero =>
    intro m v hv hm hn
    obtain ⟨m, rfl⟩ : ∃ m', m = m' + 1 := ⟨m - 1, by omega⟩
    rw [LP_ov_s]
    unfold LB_X0_onlyValueOf_2
    rw [if_pos (show (4 : Int32) ≤ nI v from nI_le (a := 4) (by omega) (by omega))]
    exact ⟨_, rfl, Or.inr ⟨rfl, fun u hu => hn u (by omega)⟩⟩
  | succ k ih =>
    intro m v hv hm hn
    obtain ⟨m, rfl⟩ : ∃ m', m = m' + 1 := ⟨m - 1, by omega⟩
    rw [LP_ov_s]
    unfold LB_X0_onlyValueOf_2
    simp only [bnd_d]
    rw [if_neg (show ¬ (4 : Int32) ≤ nI v from nI_ge (b := 4) (by omega) (by omega)), h1, show nI v + (1 : Int32) = nI (v + 1) from nI_1 v]
    by_cases e0 : sm (one F) 256 = 0
    · rw [if_pos (show nI (sm (one F) 256) ≤ (0 : Int32) from nI_le (b := 0) (by omega) (by omega))]
      exact ih m (v + 1) (by omega) (by omega) (fun u hu => by
        rw [SVG_iff]; exact fun z => z.1 e0)
    · rw [if_neg (show ¬ nI (sm (one F) 256) ≤ (0 : Int32) from nI_ge (a := 0) (by omega) (by omega)), show nI a * (4 : Int32) = nI (a * 4) from pk_mul a 4, nI_add, inbI (by omega) (by omega), chk_t, nI_clamp (by omega), show a * 4 + v = 4 * a + v by omega, hc v (by omega)]
      have b2 := sm_le (hit_le F a v) 256
      by_cases e : sm (hit F a v) 256 = sm (one F) 256
      · rw [if_pos (by rw [e])]
        exact ⟨_, rfl, Or.inl ⟨v, by omega, rfl, SVG_iff.2 ⟨e0, e⟩⟩⟩
      · rw [if_neg (fun z => e ((nI_eq (by omega) (by omega)).mp z))]
        exact ih m (v + 1) (by omega) (by omega) (fun u hu => by
          by_cases e3 : u = v
          · rw [e3, SVG_iff]; exact fun z => e z.2
          · exact hn u (by omega))
theorem LP_sure_s (n : Nat) (I : MI) (J : MJ) (x1 x2 x3 x4 : Int32) : LP_X8_sure_30 (n + 1) I J x1 x2 x3 x4 = LB_X8_sure_30 (LP_X8_sure_30 n) I J x1 x2 x3 x4 := rfl
theorem sure_loop {n i q tb tu a : Nat} (ha : a < 4) {T : Nat → Nat → Nat} {IB : MI} {F : Nat → Bool} : ∀ (k m c : Nat) (x : Int32) (I : MI) (J : MJ), c + k = 256 → k < m → FX n i q tb tu T IB F I → ((x = -9 ∧ ∀ d, d < c → F d = false) ∨ ∃ v, v < 4 ∧ x = nI v ∧ (∃ d, d < c ∧ F d = true) ∧ ∀ d, d < c → F d = true → vC d a = v) → ∃ (I' : MI) (J' : MJ) (y : Int32), LP_X8_sure_30 m I J (nI i) (nI a) x (nI c) = some (y, I', J') ∧ MG I I' ∧ SJ J J' ∧ SVP F a y := by
  intro k
  induction k with
  | zero =>
    intro m c x I J hc hm h hx
    obtain ⟨m, rfl⟩ : ∃ m', m = m' + 1 := ⟨m - 1, by omega⟩
    have : c = 256 := by omega
    subst this
    rw [LP_sure_s]
    unfold LB_X8_sure_30
    rw [if_pos (show (256 : Int32) ≤ nI 256 by decide)]
    refine ⟨I, J, x, rfl, MG.rf I, SJ.rf J, ?_⟩
    rcases hx with ⟨rfl, hz⟩ | ⟨v, hv, rfl, h1, h2⟩
    · exact Or.inr ⟨rfl, fun v _ hg => by
        obtain ⟨⟨d, hd, hF⟩, -⟩ := hg
        rw [hz d hd] at hF; cases hF⟩
    · exact Or.inl ⟨v, hv, rfl, h1, h2⟩
  | succ k ih =>
    intro m c x I J hc hm h hx
    obtain ⟨m, rfl⟩ : ∃ m', m = m' + 1 := ⟨m - 1, by omega⟩
    obtain ⟨I1, J1, e1, e2, e3⟩ := h.fit (J := J) (c := c) (by omega)
    have h' := h.go (MG.mf e2)
    have hl := vC_lt c a
    rw [LP_sure_s]
    unfold LB_X8_sure_30
    simp only [bnd_d]
    rw [if_neg (show ¬ (256 : Int32) ≤ nI c from nI_ge (b := 256) (by omega) (by omega)), e1, bo3_s, show nI c + (1 : Int32) = nI (c + 1) from nI_1 c, val_ok (show c < 256 by omega) ha rfl]
    cases hF : F c
    · simp only [Bool.false_eq_true, ↓reduceIte]
      obtain ⟨I2, J2, y, a1, a2, a3, a4⟩ := ih m (c + 1) x I1 J1 (by omega) (by omega) h' (by
        rcases hx with ⟨rfl, hz⟩ | ⟨v, hv, rfl, ⟨d, hd, hF2⟩, h2⟩
        · exact Or.inl ⟨rfl, fun d hd => by
            by_cases e : d = c
            · rw [e]; exact hF
            · exact hz d (by omega)⟩
        · exact Or.inr ⟨v, hv, rfl, ⟨d, by omega, hF2⟩, fun d hd hF3 => by
            by_cases e : d = c
            · rw [e, hF] at hF3; cases hF3
            · exact h2 d (by omega) hF3⟩)
      exact ⟨I2, J2, y, a1, (MG.mf e2).tr a2, e3.tr a3, a4⟩
    · simp only [one0, ↓reduceIte, bo1_s]
      rcases hx with ⟨rfl, hz⟩ | ⟨v, hv, rfl, ⟨d, hd, hF2⟩, h2⟩
      · rw [if_pos rfl]
        obtain ⟨I2, J2, y, a1, a2, a3, a4⟩ := ih m (c + 1) (nI (vC c a)) I1 J1 (by omega) (by omega) h' (Or.inr ⟨_, hl, rfl, ⟨c, by omega, hF⟩, fun d hd hF3 => by
            by_cases e : d = c
            · rw [e]
            · rw [hz d (by omega)] at hF3; cases hF3⟩)
        exact ⟨I2, J2, y, a1, (MG.mf e2).tr a2, e3.tr a3, a4⟩
      · rw [if_neg (n9 (by omega))]
        by_cases ev : v = vC c a
        · rw [if_pos (by rw [ev])]
          obtain ⟨I2, J2, y, a1, a2, a3, a4⟩ := ih m (c + 1) (nI (vC c a)) I1 J1 (by omega) (by omega) h' (Or.inr ⟨_, hl, rfl, ⟨c, by omega, hF⟩, fun d hd hF3 => by
            by_cases e : d = c
            · rw [e]
            · rw [← ev]; exact h2 d (by omega) hF3⟩)
          exact ⟨I2, J2, y, a1, (MG.mf e2).tr a2, e3.tr a3, a4⟩
        · rw [if_neg (fun z => ev ((nI_eq (by omega) (by omega)).mp z))]
          refine ⟨I1, J1, -9, rfl, MG.mf e2, e3, Or.inr ⟨rfl, fun w _ hg => ?_⟩⟩
          have := hg.2 c (by omega) hF
          have := hg.2 d (by omega) hF2
          have := h2 d hd hF2
          omega
theorem s_sure {IB : MI} {JB : MJ} {IM : MI} {JM : MJ} (h : REL IB JB IM JM) (a1 a2 : Int32) : SW (f_X7_sure IB JB a1 a2) (f_X8_sure IM JM a1 a2) := by
  have h0 := thr h
  unfold f_X7_sure f_X8_sure
  simp only [bnd_d, in_wd]
  generalize w2 IM 0 0 0 = IM at h0 ⊢
  obtain ⟨n, T, hr⟩ := h0.1
  obtain ⟨q, tb, tu, hg⟩ := h0.2.2.2.2.2.2.2.1
  obtain ⟨r1, r2, r3, r4, r5⟩ := id hr
  rw [isRam_m r1 r2 (J := JB) a1]
  rcases isRam_c (J := JB) r1 r3 a1 with ⟨i, hi, rfl, e⟩ | e
  · rw [e]
    simp only [bo1_s, one0, ↓reduceIte]
    rcases win a2 (x := 0) (y := 3) (lo := 0) (hi := 3) rfl rfl (by omega) (by omega) with ⟨w, -, hw, rfl, e⟩ | e
    · rw [e]
      simp only [bo1_s, one0, ↓reduceIte]
      obtain ⟨I1, p1, p2, p3⟩ := try_ok (JB := JB) hr hg hi
      have hFX : FX n i q tb tu T IB (FB (T i) IB q i) IM := ⟨hr, hg, hi, by funext c; unfold FB; exact (FT_cg hg).symm⟩
      generalize FB (T i) IB q i = F at p3 hFX
      obtain ⟨I2, J2, y, b1, b2, b3, b4⟩ := sure_loop (a := w) (by omega) 256 FU 0 (-9) IM JM (by omega) (by rw [FU_eq]; omega) hFX (Or.inl ⟨rfl, fun c hc => by omega⟩)
      change LP_X8_sure_30 FU IM JM (nI i) (nI w) (-9) 0 = _ at b1
      obtain ⟨x, c1, c2⟩ := only_loop (J := JB) p3 (a := w) (by omega) 4 FU 0 (by omega) (by rw [FU_eq]; omega) (fun u hu => by omega)
      rw [p1, bo2_s, b1]
      unfold f_X0_onlyValueOf
      change LP_X0_onlyValueOf_2 I1 JB FU (nI w) 0 = _ at c1
      rw [c1, bo1_s, SVP_u c2 b4]
      exact SW.same (h0.keep p2.bA b2.mA (AJ.rf _) (mJA_SJ b3))
    · rw [e]; exact SW.same h0
  · rw [e]; exact SW.same h0
