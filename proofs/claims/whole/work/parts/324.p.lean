/-! side itself -/
theorem LP_pk18_s (n : Nat) (I : MI) (J : MJ) (x1 x2 x3 x4 : Int32) : LP_X6_pick_18 (n + 1) I J x1 x2 x3 x4 = LB_X6_pick_18 (LP_X6_pick_18 n) I J x1 x2 x3 x4 := rfl
theorem LP_s33_s (n : Nat) (I : MI) (J : MJ) (x1 x2 x3 : Int32) (y4 : Int64) (x6 : Int32) : LP_X8_side_33 (n + 1) I J x1 x2 x3 y4 x6 = LB_X8_side_33 (LP_X8_side_33 n) I J x1 x2 x3 y4 x6 := rfl
theorem m9_le {b : Nat} (h : b < 2 ^ 31) : (-9 : Int32) ≤ nI b := by
  rw [i_le, nI_toInt h, show (-9 : Int32).toInt = -9 from rfl]; omega
theorem s234 (kk : K33) {I : MI} {J : MJ} {mo S U D : Nat} (hmo : mo < 12) (hS : S ≤ 1000000) (hI : I 3 mo = nI S) (hD : D < 2 ^ 62) (x2 x3 : Int32) (y4 : Int64) (x : Nat) : LB_X8_side_234 kk I J (nI mo) x2 x3 y4 (nI x) (lN U) (lN D) 1 = if D ≤ S ∧ ¬ lN U ≤ y4 then kk I J (nI mo) x2 (nI x) (lN U) (nI (x + 1)) else kk I J (nI mo) x2 x3 y4 (nI (x + 1)) := by
  unfold LB_X8_side_234
  simp only [bnd_d]
  rw [if_neg (by decide), inbI hmo (by omega), chk_t, nI_clamp (by omega), hI, nI_l (by omega), show nI x + (1 : Int32) = nI (x + 1) from nI_1 x]
  by_cases a : D ≤ S
  · rw [if_neg (fun z => by have := (lN_ltB (by omega) hD).mp z; omega)]
    by_cases b : lN U ≤ y4
    · rw [if_pos b, if_neg (fun z => z.2 b)]
    · rw [if_neg b, if_pos ⟨a, b⟩]
  · rw [if_pos ((lN_ltB (by omega) hD).mpr (by omega)), if_neg (fun z => a z.1)]
theorem mod33 {n k mo S : Nat} {T : Nat → Nat → Nat} {tw ts : Nat → Nat} {IB : MI} (hmo : mo < 12) (hS : S ≤ 1000000) (x2 x3 : Int32) (y4 : Int64) (m x : Nat) (I : MI) (J : MJ) (hx : x < 7 ^ n) (hR : RR n T IB I) (hT : RT k tw ts IB I) (hI : I 3 mo = nI S) : ∃ (I' : MI) (J' : MJ), MF I I' ∧ SJ J J' ∧ LP_X8_side_33 (m + 1) I J (nI mo) x2 x3 y4 (nI x) = match gs T tw ts k n x 0 0 0 with
      | none => LP_X8_side_33 m I' J' (nI mo) x2 x3 y4 (nI (x + 1))
      | some p => if p.2 ≤ S ∧ ¬ lN p.1 ≤ y4 then LP_X8_side_33 m I' J' (nI mo) x2 (nI x) (lN p.1) (nI (x + 1)) else LP_X8_side_33 m I' J' (nI mo) x2 x3 y4 (nI (x + 1)) := by
  have hn := hR.2.2.1
  have h7 := p7 hn
  obtain ⟨I1, J1, a1, a2, a3⟩ := mod_num (LP_X8_side_33 m) (nI mo) x2 x3 y4 (nI x) n FU x 0 0 0 I J (by omega) (by rw [FU_eq]; omega) (by omega) hR hT
  change LP_X8_side_58 (LP_X8_side_33 m) FU I J (nI mo) x2 x3 y4 (nI x) (nI x) 0 0 1 0 = _ at a3
  refine ⟨I1, J1, a1, a2, ?_⟩
  rw [LP_s33_s]
  unfold LB_X8_side_33
  rw [numM hn hR.2.1, bo1_s, if_neg (nI_ge hx (by omega)), a3]
  have hb := gs_bd (T := T) (tw := tw) (ts := ts) (k := k) (n := n) (fun i hi => (hR.2.2.2.1 i hi).1.2) hT.ws n x 0 0 0
  generalize gs T tw ts k n x 0 0 0 = o at hb
  cases o with
  | none => dsimp only; rw [show nI x + (1 : Int32) = nI (x + 1) from nI_1 x]
  | some p =>
    have := hb p.1 p.2 (by omega) rfl
    have hb2 : n * (2 * (720 * (2700 * 402))) ≤ 4 * (2 * (720 * (2700 * 402))) := Nat.mul_le_mul_right _ hn
    dsimp only
    exact s234 (LP_X8_side_33 m) hmo hS (by rw [a1.1 3 (by decide) (by decide)]; exact hI) (by omega) x2 x3 y4 x
theorem upOf_ok {n k S x : Nat} {T : Nat → Nat → Nat} {tw ts : Nat → Nat} {I : MI} {J : MJ} (hn : n ≤ 4) (hk : k ≤ 6) (hS : S ≤ 1000000) (hTO : ∀ i, i < n → TO (T i)) (hw : WS k tw ts) (h15 : I 15 2 = nI k) (h0 : ∀ i, i < 4 → I 18 (7 * i) = 0 ∧ I 19 (7 * i) = 0) (hB : TB n k T tw ts I) (hx : x < 2 ^ 31) : f_X6_upOf I J (nI x) (nI n) (nI S) = some (vUp S (gs T tw ts k n x 0 0 0)) := by
  have := upOf_loop (J := J) hn hk hS hTO hw h15 h0 hB n FU x 0 0 0 (by omega) (by rw [FU_eq]; omega) hx (Nat.le_refl _) (Nat.zero_le _)
  rw [Nat.sub_zero] at this
  exact this
def P15 (I I' : MI) : Prop := (∀ c', c' ≠ 15 → I' c' = I c') ∧ ∀ q, q ≠ 5 → q ≠ 6 → I' 15 q = I 15 q
theorem P15.rf (I : MI) : P15 I I := ⟨fun _ _ => rfl, fun _ _ _ => rfl⟩
theorem P15.tr {I I' I'' : MI} (h : P15 I I') (h2 : P15 I' I'') : P15 I I'' := ⟨fun c a => (h2.1 c a).trans (h.1 c a), fun q a b => (h2.2 q a b).trans (h.2 q a b)⟩
theorem P15.st {I : MI} {q : Nat} {x : Int32} (h : q = 5 ∨ q = 6) : P15 I (w2 I 15 q x) := ⟨fun c a => w2n a, fun r a b => w2j (by omega)⟩
theorem P15.sf {I I' : MI} (h : P15 I I') : SF I I' := ⟨fun c _ _ d _ _ => h.1 c d, fun r _ => ⟨by rw [h.1 18 (by decide)], by rw [h.1 19 (by decide)]⟩, h.2 2 (by decide) (by decide)⟩
theorem pick_loop {n k mo S : Nat} {T : Nat → Nat → Nat} {tw ts : Nat → Nat} (hmo : mo < 12) (hS : S ≤ 1000000) (x2 : Int32) : ∀ (q m m' x bx bu : Nat) (I : MI) (J : MJ) (IM : MI) (JM : MJ), x + q = 7 ^ n → q < m → q < m' → RR n T I IM → RT k tw ts I IM → IM 3 mo = nI S → TB n k T tw ts I → I 15 5 = nI bx → I 15 6 = nI bu → bu ≤ 1000000 → ∃ (I' : MI) (IM' : MI) (JM' : MJ) (bx' bu' : Nat), LP_X6_pick_18 m I J (nI n) (nI S) (nI (7 ^ n)) (nI x) = some (I', J) ∧ LP_X8_side_33 m' IM JM (nI mo) x2 (nI bx) (lN bu) (nI x) = some (if x2 = 0 then nI bx' else nI bu', IM', JM') ∧ I' 15 5 = nI bx' ∧ I' 15 6 = nI bu' ∧ P15 I I' ∧ MF IM IM' ∧ SJ JM JM' := by
  intro q
  induction q with
  | zero =>
    intro m m' x bx bu I J IM JM hx hm hm' hR hT hI hB h5 h6 hb
    obtain ⟨m, rfl⟩ : ∃ z, m = z + 1 := ⟨m - 1, by omega⟩
    obtain ⟨m', rfl⟩ : ∃ z, m' = z + 1 := ⟨m' - 1, by omega⟩
    have hn := hR.2.2.1
    have h7 := p7 hn
    rw [LP_pk18_s, LP_s33_s]
    unfold LB_X6_pick_18 LB_X8_side_33
    rw [if_pos (nI_le (by omega) (by omega)), numM hn hR.2.1, bo1_s, if_pos (nI_le (by omega) (by omega)), lN_i]
    refine ⟨I, IM, JM, bx, bu, rfl, ?_, h5, h6, P15.rf I, MF.rf _, SJ.rf _⟩
    by_cases a : x2 = 0
    · rw [if_pos a, if_pos a]
    · rw [if_neg a, if_neg a]
  | succ q ih =>
    intro m m' x bx bu I J IM JM hx hm hm' hR hT hI hB h5 h6 hb
    obtain ⟨m, rfl⟩ : ∃ z, m = z + 1 := ⟨m - 1, by omega⟩
    obtain ⟨m', rfl⟩ : ∃ z, m' = z + 1 := ⟨m' - 1, by omega⟩
    have hn := hR.2.2.1
    have h7 := p7 hn
    obtain ⟨I1, J1, a1, a2, a3⟩ := mod33 hmo hS x2 (nI bx) (lN bu) m' x IM JM (by omega) hR hT hI
    have hu := upOf_ok (J := J) hn hT.2.2.1 hS (fun i hi => (hR.2.2.2.1 i hi).1.2) hT.ws hT.1 hT.2.2.2.2 hB (x := x) (by omega)
    have hle := gs_le (T := T) (tw := tw) (ts := ts) (k := k) n x 0 0 0
    rw [LP_pk18_s, a3]
    unfold LB_X6_pick_18
    simp only [bnd_d]
    rw [if_neg (nI_ge (by omega) (by omega)), hu, bo1_s, h6, show nI x + (1 : Int32) = nI (x + 1) from nI_1 x]
    have keep : ∃ (I' : MI) (IM' : MI) (JM' : MJ) (bx' bu' : Nat), LP_X6_pick_18 m I J (nI n) (nI S) (nI (7 ^ n)) (nI (x + 1)) = some (I', J) ∧ LP_X8_side_33 m' I1 J1 (nI mo) x2 (nI bx) (lN bu) (nI (x + 1)) = some (if x2 = 0 then nI bx' else nI bu', IM', JM') ∧ I' 15 5 = nI bx' ∧ I' 15 6 = nI bu' ∧ P15 I I' ∧ MF IM IM' ∧ SJ JM JM' := by
      obtain ⟨I2, I3, J3, bx', bu', g1, g2, g3, g4, g5, g6, g7⟩ := ih m m' (x + 1) bx bu I J I1 J1 (by omega) (by omega) (by omega) (hR.cg (AG.rf _) a1.mA.R) (hT.cg (AG.rf _) a1.mA.T) (by rw [a1.1 3 (by decide) (by decide)]; exact hI) hB h5 h6 hb
      exact ⟨I2, I3, J3, bx', bu', g1, g2, g3, g4, g5, a1.tr g6, a2.tr g7⟩
    generalize hg : gs T tw ts k n x 0 0 0 = o at hle
    cases o with
    | none =>
      rw [if_pos (show vUp S none ≤ nI bu from m9_le (by omega))]
      exact keep
    | some p =>
      have hp := hle p.1 p.2 rfl
      dsimp only
      by_cases c : p.2 ≤ S
      · have hp1 : p.1 ≤ p.2 := hp.2 (Nat.le_refl _)
        have ev : vUp S (some p) = nI p.1 := by unfold vUp; dsimp only; rw [if_pos c]
        rw [ev]
        by_cases d : p.1 ≤ bu
        · rw [if_pos (nI_le d (by omega)), if_neg (fun z => z.2 ((lN_le (by omega) (by omega)).mpr d))]
          exact keep
        · rw [if_neg (nI_ge (by omega) (by omega)), if_pos ⟨c, fun z => d ((lN_le (by omega) (by omega)).mp z)⟩]
          have p15 : P15 I (w2 (w2 I 15 5 (nI x)) 15 6 (nI p.1)) := (P15.st (Or.inl rfl)).tr (P15.st (Or.inr rfl))
          obtain ⟨I2, I3, J3, bx', bu', g1, g2, g3, g4, g5, g6, g7⟩ := ih m m' (x + 1) x p.1 (w2 (w2 I 15 5 (nI x)) 15 6 (nI p.1)) J I1 J1 (by omega) (by omega) (by omega) (hR.cg p15.sf.bA.R a1.mA.R) (hT.cg p15.sf.bA.T a1.mA.T) (by rw [a1.1 3 (by decide) (by decide)]; exact hI) (fun i hi d h1 h2 => by rw [p15.1 18 (by decide), p15.1 19 (by decide)]; exact hB i hi d h1 h2) (by rw [w2j (by decide), w2k]) w2k (by omega)
          exact ⟨I2, I3, J3, bx', bu', g1, g2, g3, g4, p15.tr g5, a1.tr g6, a2.tr g7⟩
      · have ev : vUp S (some p) = -9 := by unfold vUp; dsimp only; rw [if_neg c]
        rw [ev, if_pos (m9_le (by omega)), if_neg (fun z => c z.1)]
        exact keep
theorem gs_0 {T : Nat → Nat → Nat} {tw ts : Nat → Nat} {k : Nat} : ∀ (j i u dr : Nat), gs T tw ts k j 0 i u dr = some (u, dr) := by
  intro j
  induction j with
  | zero => intro i u dr; rw [gs]
  | succ j ih =>
    intro i u dr
    rw [gs_ok (Or.inl rfl)]
    exact ih (i + 1) u dr
theorem s_side {IB : MI} {JB : MJ} {IM : MI} {JM : MJ} (h : REL IB JB IM JM) (a1 a2 : Int32) : SW (f_X7_side IB JB a1 a2) (f_X8_side IM JM a1 a2) := by
  have h0 := thr h
  unfold f_X7_side f_X8_side
  simp only [bnd_d, in_wd]
  generalize w2 IM 0 0 0 = IM at h0 ⊢
  obtain ⟨n, T, hr⟩ := h0.1
  obtain ⟨sp, fr, sf, st, hS⟩ := h0.2.1
  obtain ⟨k, tw, ts, hT⟩ := h0.2.2.1
  have hn := hr.2.2.1
  have h7 := p7 hn
  rcases mon a1 with ⟨mo, hmo, rfl, e1, e2⟩ | ⟨e1, e2⟩
  · rw [e1, e2]
    simp only [bo1_s, one0, ↓reduceIte]
    rcases win a2 (x := 0) (y := 1) (lo := 0) (hi := 1) rfl rfl (by omega) (by omega) with ⟨wh, -, hwh, rfl, e3⟩ | e3
    · rw [e3]
      simp only [bo1_s, one0, ↓reduceIte]
      obtain ⟨s1, s2, s3⟩ := hS.1 mo hmo
      obtain ⟨I1, b1, b2, b3⟩ := cls_side hmo (nI wh) n FU 0 IB JB (by omega) (by rw [FU_eq]; omega) hr hT s1 (fun i hi => by omega)
      change LP_X7_side_20 FU IB JB (nI mo) (nI wh) 0 = _ at b1
      obtain ⟨f, hf⟩ : ∃ f, FU = f + 1 := ⟨3999, FU_eq⟩
      have hf2 : 2500 < f := by have := FU_eq; omega
      obtain ⟨I2, J2, c1, c2, c3⟩ := mod33 hmo s3 (nI wh) 0 (-1) f 0 IM JM (by omega) hr hT s2
      rw [gs_0] at c3
      dsimp only at c3
      rw [if_pos ⟨Nat.zero_le _, by decide⟩] at c3
      change LP_X8_side_33 (f + 1) IM JM (nI mo) (nI wh) 0 (-1) 0 = _ at c3
      rw [b1]
      unfold f_X6_pick
      simp only [bnd_d]
      rw [numB hn, bo1_s]
      have p15 : P15 I1 (w2 (w2 I1 15 5 0) 15 6 0) := (P15.st (Or.inl rfl)).tr (P15.st (Or.inr rfl))
      have sf2 : SF IB (w2 (w2 I1 15 5 0) 15 6 0) := b2.tr p15.sf
      obtain ⟨I3, I4, J4, bx, bu, g1, g2, g3, g4, g5, g6, g7⟩ := pick_loop (n := n) hmo s3 (nI wh) (7 ^ n - 1) FU f 1 0 0 (w2 (w2 I1 15 5 0) 15 6 0) JB I2 J2 (by omega) (by rw [FU_eq]; omega) (by omega) (hr.cg sf2.bA.R c1.mA.R) (hT.cg sf2.bA.T c1.mA.T) (by rw [c1.1 3 (by decide) (by decide)]; exact s2) (fun i hi d h1 h2 => by rw [p15.1 18 (by decide), p15.1 19 (by decide)]; exact b3 i hi d h1 h2) (by rw [w2j (by decide), w2k]; rfl) (by rw [w2k]; rfl) (by omega)
      change LP_X6_pick_18 FU (w2 (w2 I1 15 5 0) 15 6 0) JB (nI n) (nI (sp mo)) (nI (7 ^ n)) 1 = _ at g1
      rw [g1, bo2_s, hf, c3, g2, g3, g4]
      have H := h0.keep (sf2.tr g5.sf).bA (c1.tr g6).mA (AJ.rf JB) (mJA_SJ (c2.tr g7))
      by_cases e : nI wh = (0 : Int32)
      · rw [if_pos e, if_pos e]; exact SW.same H
      · rw [if_neg e, if_neg e]; exact SW.same H
    · rw [e3]; exact SW.same h0
  · rw [e1, e2]; exact SW.same h0
