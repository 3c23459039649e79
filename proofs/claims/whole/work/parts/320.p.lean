/-! tuned: both loops -/
def oW : Option PT → Int32
  | none => -9
  | some p => nI p.1
def oS : Option PT → Int32
  | none => -9
  | some p => nI p.2
def oU (T : Nat → Nat) : Option PT → Int32
  | none => -9
  | some p => nI (pU T p)
def oV (T : Nat → Nat) : Option PT → Int32
  | none => 0
  | some p => nI (pW T p)
def qU (T : Nat → Nat) : Option PT → Int64
  | none => -9
  | some p => lN (pU T p)
def qV (T : Nat → Nat) : Option PT → Int64
  | none => 0
  | some p => lN (pW T p)
def Xc (s w : Nat) (p : PT) : Prop := p.1 % 5 = 0 ∧ (p.2 < s ∨ (p.2 = s ∧ p.1 < w))
def Xm (w s : Nat) (p : PT) : Prop := p.1 % 5 = 0 ∧ (p.1 < w ∨ (p.1 = w ∧ p.2 < s))
theorem LP_t90_s (kk : MI → MJ → Int32 → Int32 → Int32 → Int32 → Int32 → Int32 → Int32 → Int32 → Option (Int32 × MI × MJ)) (n : Nat) (I : MI) (J : MJ) (x2 x3 x4 x5 x6 x7 x8 x9 x10 : Int32) : LP_X7_tuned_90 kk (n + 1) I J x2 x3 x4 x5 x6 x7 x8 x9 x10 = LB_X7_tuned_90 kk (LP_X7_tuned_90 kk n) I J x2 x3 x4 x5 x6 x7 x8 x9 x10 := rfl
theorem cls_w {T : Nat → Nat} (hT0 : TO T) {S aim mo s : Nat} (hS : S ≤ 1000000) (ha : aim ≤ 1) (hmo : mo < 12) (hs1 : 1 ≤ s) (hs9 : s ≤ 9) (x4 : Int32) (kk : MI → MJ → Int32 → Int32 → Int32 → Int32 → Int32 → Int32 → Int32 → Int32 → Option (Int32 × MI × MJ)) : ∀ (k m w w0 : Nat) (I : MI) (J : MJ) (o : Option PT), w + 5 * k = 405 → 5 ≤ w → w % 5 = 0 → k < m → TV (I 11) (T2 T w0 s) → CK (I 10) (T2 T w0 s) → I 13 mo = nI S → BS aim T S (Xc s w) o → ∃ (I' : MI) (o' : Option PT) (w1 : Nat), LP_X7_tuned_90 kk m I J (nI mo) (nI aim) x4 (oW o) (oS o) (oU T o) (oV T o) (nI s) (nI w) = kk I' J (nI mo) (nI aim) x4 (oW o') (oS o') (oU T o') (oV T o') (nI (s + 1)) ∧ TR I I' ∧ TV (I' 11) (T2 T w1 s) ∧ CK (I' 10) (T2 T w1 s) ∧ BS aim T S (Xc (s + 1) 5) o' := by
  intro k
  induction k with
  | zero =>
    intro m w w0 I J o hw h5 hm5 hm hT hC hI hB
    obtain ⟨m, rfl⟩ : ∃ q, m = q + 1 := ⟨m - 1, by omega⟩
    rw [LP_t90_s]
    unfold LB_X7_tuned_90
    simp only [bnd_d]
    rw [(s_lo 4 (by omega)).2.1, if_pos (show nI (thi 4) < nI w from nI_lt (show 400 < w by omega) (by omega)), show nI s + (1 : Int32) = nI (s + 1) from nI_1 s]
    exact ⟨I, o, w0, rfl, TR.rf I, hT, hC, BS_skip hB (fun q hq => ⟨hq.1, by have := hq.2; omega⟩) (fun q hq hc => ⟨hq.1, by have := hq.2; have := hc.1; omega⟩)⟩
  | succ k ih =>
    intro m w w0 I J o hw h5 hm5 hm hT hC hI hB
    obtain ⟨m, rfl⟩ : ∃ q, m = q + 1 := ⟨m - 1, by omega⟩
    have hTO : TO (T2 T w s) := T2_TO hT0 h5 (by omega) hs1 hs9
    obtain ⟨I1, p1, p2, p3, p4⟩ := put_ok (c := 10) (j := 4) (v := w) (I := I) (J := J) (T := T2 T w0 s) (by omega) (by omega) hT.1 (by have := hT.2.bd 4 (by omega); omega) hC
    rw [T2_4] at p3 p4
    change f_X1_put 10 I J 4 (nI w) = _ at p1
    have t1 : TR I I1 := fun c' a b => p2 c' a b
    have hT1 : TV (I1 11) (T2 T w s) := ⟨p3, hTO⟩
    obtain ⟨I2, e2, s2⟩ := stalls_ok (J := J) hT1 p4
    obtain ⟨I3, e3, s3⟩ := upH_ok (J := J) (s2.tv hT1) s2.ck
    obtain ⟨I4, e4, s4⟩ := waH_ok (J := J) (s3.tv (s2.tv hT1)) s3.ck
    have t2 : TR I I2 := t1.tr (TR.st s2)
    have t4 : TR I I4 := t2.tr ((TR.st s3).tr (TR.st s4))
    have hT4 : TV (I4 11) (T2 T w s) := s4.tv (s3.tv (s2.tv hT1))
    have hI4 : I4 13 mo = nI S := by rw [t4 13 (by decide) (by decide)]; exact hI
    have hu := up_bd hTO
    have hwa := wa_bd hTO
    rw [LP_t90_s]
    unfold LB_X7_tuned_90
    simp only [bnd_d]
    rw [(s_lo 4 (by omega)).2.1, if_neg (show ¬ nI (thi 4) < nI w from nI_nlt (show w ≤ 400 by omega) (by show 400 < _; omega)), p1, bo2_s, e2, bo3_s]
    cases hst : (bt (T2 T w s)).1
    · rw [if_pos (show (if false = true then (1 : Int32) else 0) = 0 from rfl), e3, bo3_s, e4, bo3_s, show (5 : Int32) = nI 5 from rfl, nI_add, nI_add]
      have sk : ¬ CAN T S (w, s) → BS aim T S (Xc s (w + 5)) o := fun hn => BS_skip hB (fun q hq => ⟨hq.1, by have := hq.2; omega⟩) (fun q hq hc => ⟨hq.1, by
        have := hq.2; have := hq.1
        by_cases e : q = (w, s)
        · subst e; exact absurd hc hn
        · have : ¬ (q.1 = w ∧ q.2 = s) := fun z => e (Prod.ext z.1 z.2)
          omega⟩)
      have go : ∀ o', BS aim T S (Xc s (w + 5)) o' → ∃ (I' : MI) (o'' : Option PT) (w1 : Nat), LP_X7_tuned_90 kk m I4 J (nI mo) (nI aim) x4 (oW o') (oS o') (oU T o') (oV T o') (nI s) (nI (w + 5)) = kk I' J (nI mo) (nI aim) x4 (oW o'') (oS o'') (oU T o'') (oV T o'') (nI (s + 1)) ∧ TR I I' ∧ TV (I' 11) (T2 T w1 s) ∧ CK (I' 10) (T2 T w1 s) ∧ BS aim T S (Xc (s + 1) 5) o'' := by
        intro o' hB'
        obtain ⟨I', o'', w1, g1, g2, g3, g4, g5⟩ := ih m (w + 5) w I4 J o' (by omega) (by omega) (by omega) (by omega) hT4 s4.ck hI4 hB'
        exact ⟨I', o'', w1, g1, t4.tr g2, g3, g4, g5⟩
      by_cases hu0 : upT (T2 T w s) = 0
      · rw [if_pos (show nI (upT (T2 T w s)) ≤ (0 : Int32) by rw [hu0]; decide)]
        exact go o (sk (fun z => by have := z.2.2.1; unfold pU at this; dsimp only at this; omega))
      · rw [if_neg (show ¬ nI (upT (T2 T w s)) ≤ (0 : Int32) from nI_nle (by omega) (by omega)), inbI hmo (by omega), chk_t, nI_clamp (by omega), hI4]
        by_cases hsp : upT (T2 T w s) + waT (T2 T w s) ≤ S
        · rw [if_pos (nI_le hsp (by omega))]
          have hcan : CAN T S (w, s) := ⟨⟨h5, by show w ≤ 400; omega, hm5, hs1, hs9⟩, hst, by show 0 < upT (T2 T w s); omega, hsp⟩
          have x1 : ∀ q, Xc s (w + 5) q → Xc s w q ∨ q = (w, s) := by
            intro q hq
            have := hq.2; have := hq.1
            by_cases e : q = (w, s)
            · exact Or.inr e
            · have : ¬ (q.1 = w ∧ q.2 = s) := fun z => e (Prod.ext z.1 z.2)
              exact Or.inl ⟨hq.1, by omega⟩
          have x2 : Xc s (w + 5) (w, s) := ⟨hm5, Or.inr ⟨rfl, by show w < w + 5; omega⟩⟩
          have x3 : ∀ q, Xc s w q → Xc s (w + 5) q := fun q hq => ⟨hq.1, by have := hq.2; omega⟩
          cases o with
          | none =>
            have gg := go (some (w, s)) (BS_first hB hcan x2 x1)
            unfold LB_X7_tuned_189
            simp only [bnd_d]
            rw [if_pos (show oU T none = (-9 : Int32) from rfl), if_pos (by decide), show (5 : Int32) = nI 5 from rfl, nI_add]
            exact gg
          | some b =>
            have hb := hB.1
            have hbu := hb.2.2.2
            have hgo1 := fun hx => go (some (w, s)) (BS_new hB hcan x2 x1 hx)
            have hgo2 := fun hx => go (some b) (BS_old hB x3 x1 hx)
            have hbX := hB.2.1
            obtain ⟨t, a1, a2, a3⟩ := adv_ok (aim := aim) (T := T) (p := (w, s)) (b := b) ha (by show upT (T2 T w s) ≤ _; omega) (by show waT (T2 T w s) ≤ _; omega) (by omega) (by omega)
            rw [if_neg (show ¬ oU T (some b) = (-9 : Int32) from n9 (by omega)), show f_X7_advantage (nI aim) (nI (upT (T2 T w s))) (nI (waT (T2 T w s))) (oU T (some b)) (oV T (some b)) = some t from a1, bo1_s]
            unfold LB_X7_tuned_189
            simp only [bnd_d]
            rw [show (5 : Int32) = nI 5 from rfl, nI_add]
            by_cases c1 : (0 : Int64) < t
            · rw [if_pos c1]
              exact hgo1 (Or.inl (a2.1 c1))
            · rw [if_neg c1]
              have nb : ¬ bet aim T (w, s) b := fun z => c1 (a2.2 z)
              by_cases c2 : t = 0
              · rw [if_pos c2]
                have hb1 := hb.1
                by_cases c3 : b.1 ≤ w
                · rw [if_pos (show oW (some b) ≤ nI w from nI_le c3 (by omega))]
                  exact hgo2 (Or.inr ⟨nb, by have := hbX.2; unfold lexle; dsimp only; omega⟩)
                · rw [if_neg (show ¬ oW (some b) ≤ nI w from nI_ge (by omega) (by omega))]
                  exact hgo1 (Or.inr ⟨nb, (a3.1 c2).2, by show w < b.1; omega⟩)
              · rw [if_neg c2]
                have : bet aim T b (w, s) := Classical.byContradiction fun z => c2 (a3.2 ⟨nb, z⟩)
                exact hgo2 (Or.inl this)
        · rw [if_neg (nI_ge (by omega) (by omega))]
          exact go o (sk (fun z => hsp z.2.2.2))
    · rw [if_pos rfl, if_neg (by decide), show nI s + (1 : Int32) = nI (s + 1) from nI_1 s]
      refine ⟨I2, o, w, rfl, t2, s2.tv hT1, s2.ck, BS_skip hB (fun q hq => ⟨hq.1, by have := hq.2; omega⟩) (fun q hq hc => ⟨hq.1, ?_⟩)⟩
      have q2 := hq.2
      have hc1 := hc.1
      by_cases e : q.2 = s
      · by_cases e2 : q.1 < w
        · exact Or.inr ⟨e, e2⟩
        · have := stall_mono (T := T) (w := w) (w' := q.1) (s := s) (by omega) hst
          have hc2 := hc.2.1
          rw [e, this] at hc2
          exact absurd hc2 (by decide)
      · omega
theorem LP_t67_s (n : Nat) (I : MI) (J : MJ) (x2 x3 x4 x5 x6 x7 x8 x9 : Int32) : LP_X7_tuned_67 (n + 1) I J x2 x3 x4 x5 x6 x7 x8 x9 = LB_X7_tuned_67 (LP_X7_tuned_67 n) I J x2 x3 x4 x5 x6 x7 x8 x9 := rfl
theorem cls_t {T : Nat → Nat} (hT0 : TO T) {S aim mo : Nat} (hS : S ≤ 1000000) (ha : aim ≤ 1) (hmo : mo < 12) (x4 : Int32) : ∀ (k m s w0 s0 : Nat) (I : MI) (J : MJ) (o : Option PT), s + k = 10 → 1 ≤ s → k < m → TV (I 11) (T2 T w0 s0) → CK (I 10) (T2 T w0 s0) → I 13 mo = nI S → BS aim T S (Xc s 5) o → ∃ (I' : MI) (o' : Option PT), LP_X7_tuned_67 m I J (nI mo) (nI aim) x4 (oW o) (oS o) (oU T o) (oV T o) (nI s) = some (if x4 = 0 then oW o' else if x4 = 1 then oS o' else oU T o', I', J) ∧ TR I I' ∧ BS aim T S (Xc 10 5) o' := by
  intro k
  induction k with
  | zero =>
    intro m s w0 s0 I J o hs h1 hm hT hC hI hB
    obtain ⟨m, rfl⟩ : ∃ q, m = q + 1 := ⟨m - 1, by omega⟩
    have : s = 10 := by omega
    subst this
    rw [LP_t67_s]
    unfold LB_X7_tuned_67
    rw [(s_lo 5 (by omega)).2.1, if_pos (show nI (thi 5) < nI 10 by decide)]
    refine ⟨I, o, ?_, TR.rf I, hB⟩
    by_cases a : x4 = 0
    · rw [if_pos a, if_pos a]
    · rw [if_neg a, if_neg a]
      by_cases b : x4 = 1
      · rw [if_pos b, if_pos b]
      · rw [if_neg b, if_neg b]
  | succ k ih =>
    intro m s w0 s0 I J o hs h1 hm hT hC hI hB
    obtain ⟨m, rfl⟩ : ∃ q, m = q + 1 := ⟨m - 1, by omega⟩
    obtain ⟨I1, p1, p2, p3, p4⟩ := put_ok (c := 10) (j := 5) (v := s) (I := I) (J := J) (T := T2 T w0 s0) (by omega) (by omega) hT.1 (by have := hT.2.bd 5 (by omega); omega) hC
    rw [T2_5] at p3 p4
    change f_X1_put 10 I J 5 (nI s) = _ at p1
    have t1 : TR I I1 := fun c' a b => p2 c' a b
    have hw0 := hT.2
    unfold TO at hw0
    have hTO : TO (T2 T w0 s) := T2_TO hT0 (show 5 ≤ w0 from hw0.2.2.2.2.2.2.2.2.1) (show w0 ≤ 400 from hw0.2.2.2.2.2.2.2.2.2.1) (by omega) (by omega)
    rw [LP_t67_s]
    unfold LB_X7_tuned_67
    rw [(s_lo 5 (by omega)).2.1, if_neg (show ¬ nI (thi 5) < nI s from nI_nlt (show s ≤ 9 by omega) (by show 9 < _; omega)), p1, bo2_s]
    obtain ⟨I2, o2, w1, g1, g2, g3, g4, g5⟩ := cls_w hT0 hS ha hmo h1 (by omega) x4 (LP_X7_tuned_67 m) 80 FU 5 w0 I1 J o (by omega) (by omega) (by omega) (by rw [FU_eq]; omega) ⟨p3, hTO⟩ p4 (by rw [t1 13 (by decide) (by decide)]; exact hI) hB
    change LP_X7_tuned_90 (LP_X7_tuned_67 m) FU I1 J (nI mo) (nI aim) x4 (oW o) (oS o) (oU T o) (oV T o) (nI s) 5 = _ at g1
    rw [g1]
    obtain ⟨I3, o3, b1, b2, b3⟩ := ih m (s + 1) w1 s I2 J o2 (by omega) (by omega) (by omega) g3 g4 (by rw [g2 13 (by decide) (by decide), t1 13 (by decide) (by decide)]; exact hI) g5
    exact ⟨I3, o3, b1, t1.tr (g2.tr b2), b3⟩
