/-! ails and sure -/
theorem LsF_u {F : Nat → Bool} {S S' : Nat → Prop} (hS : ∀ c, S c ↔ S' c) {x y : Int32} (h1 : LsF F S x) (h2 : LsF F S' y) : x = y := by
  rcases h1 with ⟨a1, a2⟩ | ⟨m, m1, m2, m3, m4, m5⟩
  · rcases h2 with ⟨b1, b2⟩ | ⟨k, k1, k2, k3, k4, k5⟩
    · rw [a1, b1]
    · have := a2 k ((hS k).mpr k4)
      rw [k3] at this; cases this
  · rcases h2 with ⟨b1, b2⟩ | ⟨k, k1, k2, k3, k4, k5⟩
    · have := b2 m ((hS m).mp m4)
      rw [m3] at this; cases this
    · have := m5 k ((hS k).mpr k4) k3
      have := k5 m ((hS m).mp m4) m3
      rw [m2, k2, show m = k by omega]
def mx4 (f : Nat → Nat) : Nat := max (max (f 0) (f 1)) (max (f 2) (f 3))
theorem mx4_le {f : Nat → Nat} {k : Nat} (h : ∀ v, f v ≤ k) : mx4 f ≤ k := by
  unfold mx4
  have := h 0
  have := h 1
  have := h 2
  have := h 3
  omega
/-- how many causes that fit have the commonest value of an aspect -/
def gA (F : Nat → Bool) (a : Nat) : Nat := mx4 (fun v => sm (hit F a v) 256)
theorem gA_le (F : Nat → Bool) (a : Nat) : gA F a ≤ 256 := mx4_le (fun v => sm_le (hit_le F a v) 256)
def bst (G : Nat → Nat) : Nat → Nat
  | 0 => 0
  | n + 1 => if G (n + 1) < G (bst G n) then n + 1 else bst G n
theorem bst_s (G : Nat → Nat) (n : Nat) : bst G (n + 1) = if G (n + 1) < G (bst G n) then n + 1 else bst G n := rfl
theorem bst_le (G : Nat → Nat) (n : Nat) : bst G n ≤ n := by
  induction n with
  | zero => exact Nat.le_refl _
  | succ n ih => rw [bst_s]; split <;> omega
theorem mx_imax {a b : Nat} (ha : a < 2 ^ 31) (hb : b < 2 ^ 31) : imax (nI a) (nI b) = nI (max a b) := by
  unfold imax
  by_cases h : a < b
  · rw [if_pos (nI_lt h hb), Nat.max_eq_right (by omega)]
  · rw [if_neg (nI_nlt (by omega) ha), Nat.max_eq_left (by omega)]
theorem LP_gr_s (I : MI) (J : MJ) (n : Nat) (x1 x2 x3 : Int32) : LP_X0_greatest_4 I J (n + 1) x1 x2 x3 = LB_X0_greatest_4 I J (LP_X0_greatest_4 I J n) x1 x2 x3 := rfl
theorem gr_step {I : MI} {J : MJ} {a v w k : Nat} (ha : a < 4) (hv : v < 4) (hk : I 31 (4 * a + v) = nI k) (hw : w ≤ 256) (hk2 : k ≤ 256) (m : Nat) : LP_X0_greatest_4 I J (m + 1) (nI a) (nI w) (nI v) = LP_X0_greatest_4 I J m (nI a) (nI (max w k)) (nI (v + 1)) := by
  rw [LP_gr_s]
  unfold LB_X0_greatest_4
  simp only [bnd_d]
  rw [if_neg (show ¬ (4 : Int32) ≤ nI v from nI_ge (b := 4) (by omega) (by omega)), show nI a * (4 : Int32) = nI (a * 4) from pk_mul a 4, nI_add, inbI (by omega) (by omega), chk_t, nI_clamp (by omega), show a * 4 + v = 4 * a + v by omega, hk, mx_imax (by omega) (by omega), show nI v + (1 : Int32) = nI (v + 1) from nI_1 v]
theorem greatest_ok {F : Nat → Bool} {I : MI} {J : MJ} (h : DI F 16 0 I) {a : Nat} (ha : a < 4) : f_X0_greatest I J (nI a) = some (nI (gA F a)) := by
  have hc : ∀ v, v < 4 → I 31 (4 * a + v) = nI (sm (hit F a v) 256) := fun v hv => by rw [h.2.1 a v ha hv, PS_e]
  have b : ∀ v, sm (hit F a v) 256 ≤ 256 := fun v => sm_le (hit_le F a v) 256
  have b0 := b 0
  have b1 := b 1
  have b2 := b 2
  have b3 := b 3
  unfold f_X0_greatest
  obtain ⟨f, hf⟩ : ∃ f, FU = f + 1 + 1 + 1 + 1 + 1 := ⟨3995, FU_eq⟩
  rw [hf, show (0 : Int32) = nI 0 from rfl, gr_step ha (by omega) (hc 0 (by omega)) (by omega) b0, gr_step ha (by omega) (hc 1 (by omega)) (by omega) b1, gr_step ha (by omega) (hc 2 (by omega)) (by omega) b2, gr_step ha (by omega) (hc 3 (by omega)) (by omega) b3, LP_gr_s]
  unfold LB_X0_greatest_4
  rw [if_pos (by decide)]
  unfold gA mx4
  congr 2
  dsimp only
  omega
theorem LP_nl_s (I : MI) (J : MJ) (n : Nat) (x1 x2 : Int32) : LP_X0_nextLook_15 I J (n + 1) x1 x2 = LB_X0_nextLook_15 I J (LP_X0_nextLook_15 I J n) x1 x2 := rfl
theorem nl_step {F : Nat → Bool} {I : MI} {J : MJ} (h : DI F 16 0 I) {a : Nat} (ha : a + 1 < 4) (m : Nat) : LP_X0_nextLook_15 I J (m + 1) (nI (bst (gA F) a)) (nI (a + 1)) = LP_X0_nextLook_15 I J m (nI (bst (gA F) (a + 1))) (nI (a + 1 + 1)) := by
  have h1 := bst_le (gA F) a
  have g1 := gA_le F (a + 1)
  have g2 := gA_le F (bst (gA F) a)
  rw [LP_nl_s]
  unfold LB_X0_nextLook_15
  simp only [bnd_d]
  rw [if_neg (show ¬ (4 : Int32) ≤ nI (a + 1) from nI_ge (b := 4) (by omega) (by omega)), greatest_ok h (by omega), greatest_ok h (by omega), bo1_s, bo1_s, show nI (a + 1) + (1 : Int32) = nI (a + 1 + 1) from nI_1 _, bst_s]
  by_cases hx : gA F (a + 1) < gA F (bst (gA F) a)
  · rw [if_neg (nI_ge hx (by omega)), if_pos hx]
  · rw [if_pos (nI_le (by omega) (by omega)), if_neg hx]
theorem nextLook_ok {F : Nat → Bool} {I : MI} {J : MJ} (h : DI F 16 0 I) : f_X0_nextLook I J = some (if 1 < sm (one F) 256 then nI (bst (gA F) 3) else -9) := by
  have hc := sm_le (one_le F) 256
  unfold f_X0_nextLook
  rw [h.1, PS_e]
  by_cases hx : 1 < sm (one F) 256
  · rw [if_pos (show (1 : Int32) < nI (sm (one F) 256) from nI_lt (a := 1) hx (by omega)), if_pos hx]
    obtain ⟨f, hf⟩ : ∃ f, FU = f + 1 + 1 + 1 + 1 := ⟨3996, FU_eq⟩
    rw [hf]
    have e1 := nl_step (J := J) h (a := 0) (by omega) (f + 1 + 1 + 1)
    have e2 := nl_step (J := J) h (a := 1) (by omega) (f + 1 + 1)
    have e3 := nl_step (J := J) h (a := 2) (by omega) (f + 1)
    change LP_X0_nextLook_15 I J (f + 1 + 1 + 1 + 1) 0 1 = _ at e1
    rw [e1, e2, e3, LP_nl_s]
    unfold LB_X0_nextLook_15
    rw [if_pos (by decide)]
  · rw [if_neg (show ¬ (1 : Int32) < nI (sm (one F) 256) from nI_nlt (a := 1) (by omega) (by omega)), if_neg hx]
/-! the reference -/
def MG (I I' : MI) : Prop := (∀ c', c' ≠ 0 → c' ≠ 2 → c' ≠ 14 → I' c' = I c') ∧ ∀ k, k ≠ 5 → k ≠ 9 → I' 0 k = I 0 k
theorem MG.tr {I I' I'' : MI} (h : MG I I') (h2 : MG I' I'') : MG I I'' := ⟨fun c a b d => (h2.1 c a b d).trans (h.1 c a b d), fun k a b => (h2.2 k a b).trans (h.2 k a b)⟩
theorem MG.rf (I : MI) : MG I I := ⟨fun _ _ _ _ => rfl, fun _ _ _ => rfl⟩
theorem MG.mf {I I' : MI} (h : MF I I') : MG I I' := ⟨fun c a b _ => h.1 c a b, h.2⟩
theorem MG.v {I : MI} {k : Nat} {x : Int32} : MG I (w2 I 14 k x) := ⟨fun c _ _ d => w2n d, fun k _ _ => by rw [w2n (by decide)]⟩
theorem MG.mA {I I' : MI} (s : MG I I') : mA I I' := ⟨fun c hc => s.1 c (fun e => by subst e; exact absurd hc (by decide)) (fun e => by subst e; exact absurd hc (by decide)) (fun e => by subst e; exact absurd hc (by decide)), fun p hp => by
  have h0 := (by decide : ∀ p ∈ ([(0, 2), (0, 12), (0, 13), (0, 14), (0, 17), (0, 18), (0, 20), (0, 21), (0, 27), (0, 28), (0, 29), (0, 31), (0, 35), (0, 36)] : List (Nat × Nat)), p.1 = 0 ∧ p.2 ≠ 5 ∧ p.2 ≠ 9) p hp
  rw [h0.1]; exact s.2 p.2 h0.2.1 h0.2.2⟩
/-- what the reference's fitting stands on, over its own memory -/
def FX (n i q tb tu : Nat) (T : Nat → Nat → Nat) (IB : MI) (F : Nat → Bool) (I : MI) : Prop := RR n T IB I ∧ RG q tb tu IB I ∧ i < n ∧ (fun c => FT (T i) (I 11) (I 12) (I 13) (nI tb) (nI tu) q i c) = F
theorem FX.go {n i q tb tu : Nat} {T : Nat → Nat → Nat} {IB : MI} {F : Nat → Bool} {I I' : MI} (h : FX n i q tb tu T IB F I) (s : MG I I') : FX n i q tb tu T IB F I' := ⟨h.1.cg (AG.rf _) s.mA.R, h.2.1.cg (AG.rf _) s.mA.G, h.2.2.1, by rw [s.1 11 (by decide) (by decide) (by decide), s.1 12 (by decide) (by decide) (by decide), s.1 13 (by decide) (by decide) (by decide)]; exact h.2.2.2⟩
theorem FX.fit {n i q tb tu : Nat} {T : Nat → Nat → Nat} {IB : MI} {F : Nat → Bool} {I : MI} {J : MJ} (h : FX n i q tb tu T IB F I) {c : Nat} (hc : c < 256) : ∃ (I' : MI) (J' : MJ), f_X8_isFit I J (nI i) (nI c) = some (if F c then 1 else 0, I', J') ∧ MF I I' ∧ SJ J J' := by
  obtain ⟨I', J', e1, e2, e3⟩ := isFit_ok (JM := J) h.1 h.2.1 h.2.2.1 hc
  refine ⟨I', J', ?_, e2, e3⟩
  rw [e1, ← h.2.2.2]
theorem n9 {m : Nat} (h : m < 2 ^ 31) : ¬ nI m = (-9 : Int32) := fun z => by
  have := congrArg Int32.toInt z
  rw [nI_toInt h] at this
  revert this
  rw [show (-9 : Int32).toInt = -9 by decide]
  omega
theorem LP_ails33_s (n : Nat) (I : MI) (J : MJ) (x1 x2 x3 x4 x5 : Int32) : LP_X8_ails_33 (n + 1) I J x1 x2 x3 x4 x5 = LB_X8_ails_33 (LP_X8_ails_33 n) I J x1 x2 x3 x4 x5 := rfl
theorem ails33 {n i q tb tu : Nat} {T : Nat → Nat → Nat} {IB : MI} {F : Nat → Bool} (x2 : Int32) : ∀ (k m c : Nat) (x4 : Int32) (I : MI) (J : MJ), c + k = 256 → k < m → FX n i q tb tu T IB F I → LsF F (fun y => y < c) x4 → ∃ (I' : MI) (J' : MJ) (y4 : Int32), LP_X8_ails_33 m I J (nI i) x2 (nI (sm (one F) c)) x4 (nI c) = (if (2 : Int32) ≤ x2 then LP_X8_ails_104 FU I' J' (nI i) (nI (sm (one F) 256)) (-9) 1000 0 else if x2 = 0 then some (nI (sm (one F) 256), I', J') else some (y4, I', J')) ∧ MG I I' ∧ SJ J J' ∧ LsF F (fun y => y < 256) y4 := by
  intro k
  induction k with
  | zero =>
    intro m c x4 I J hc hm h hl
    obtain ⟨m, rfl⟩ : ∃ m', m = m' + 1 := ⟨m - 1, by omega⟩
    have : c = 256 := by omega
    subst this
    rw [LP_ails33_s]
    unfold LB_X8_ails_33
    rw [if_pos (show (256 : Int32) ≤ nI 256 by decide)]
    exact ⟨I, J, x4, rfl, MG.rf I, SJ.rf J, hl⟩
  | succ k ih =>
    intro m c x4 I J hc hm h hl
    obtain ⟨m, rfl⟩ : ∃ m', m = m' + 1 := ⟨m - 1, by omega⟩
    obtain ⟨I1, J1, e1, e2, e3⟩ := h.fit (J := J) (c := c) (by omega)
    rw [LP_ails33_s]
    unfold LB_X8_ails_33
    simp only [bnd_d]
    rw [if_neg (show ¬ (256 : Int32) ≤ nI c from nI_ge (b := 256) (by omega) (by omega)), e1, bo3_s, show nI c + (1 : Int32) = nI (c + 1) from nI_1 c, show nI (sm (one F) c) + (1 : Int32) = nI (sm (one F) c + 1) from nI_1 _]
    have h' := h.go (MG.mf e2)
    cases hF : F c
    · simp only [Bool.false_eq_true, ↓reduceIte]
      have es : sm (one F) (c + 1) = sm (one F) c := by rw [sm_s, show one F c = 0 by unfold one; rw [hF]; rfl, Nat.add_zero]
      obtain ⟨I2, J2, y4, a1, a2, a3, a4⟩ := ih m (c + 1) x4 I1 J1 (by omega) (by omega) h' (by
        rcases hl with ⟨l1, l2⟩ | ⟨y, m1, m2, m3, m4, m5⟩
        · refine Or.inl ⟨l1, fun z hz => ?_⟩
          by_cases e : z = c
          · rw [e]; exact hF
          · exact l2 z (by omega)
        · refine Or.inr ⟨y, m1, m2, m3, by omega, fun z hz hz2 => ?_⟩
          by_cases e : z = c
          · rw [e, hF] at hz2; cases hz2
          · exact m5 z (by omega) hz2)
      rw [es] at a1
      exact ⟨I2, J2, y4, a1, (MG.mf e2).tr a2, e3.tr a3, a4⟩
    · simp only [one0, ↓reduceIte]
      have es : sm (one F) (c + 1) = sm (one F) c + 1 := by rw [sm_s, show one F c = 1 by unfold one; rw [hF]; rfl]
      rcases hl with ⟨l1, l2⟩ | ⟨y, m1, m2, m3, m4, m5⟩
      · rw [if_pos l1]
        obtain ⟨I2, J2, y4, a1, a2, a3, a4⟩ := ih m (c + 1) (nI c) I1 J1 (by omega) (by omega) h' (Or.inr ⟨c, by omega, rfl, hF, by omega, fun z hz hz2 => by
          by_cases e : z = c
          · omega
          · rw [l2 z (by omega)] at hz2; cases hz2⟩)
        rw [es] at a1
        exact ⟨I2, J2, y4, a1, (MG.mf e2).tr a2, e3.tr a3, a4⟩
      · rw [m2, if_neg (n9 (by omega))]
        obtain ⟨I2, J2, y4, a1, a2, a3, a4⟩ := ih m (c + 1) (nI y) I1 J1 (by omega) (by omega) h' (Or.inr ⟨y, m1, rfl, m3, by omega, fun z hz hz2 => by
          by_cases e : z = c
          · omega
          · exact m5 z (by omega) hz2⟩)
        rw [es] at a1
        exact ⟨I2, J2, y4, a1, (MG.mf e2).tr a2, e3.tr a3, a4⟩
abbrev K7 : Type := MI → MJ → Int32 → Int32 → Int32 → Int32 → Int32 → Option (Int32 × MI × MJ)
theorem LP_ails144_s (kk : K7) (n : Nat) (I : MI) (J : MJ) (x1 x3 x5 x6 x7 x8 x9 : Int32) : LP_X8_ails_144 kk (n + 1) I J x1 x3 x5 x6 x7 x8 x9 = LB_X8_ails_144 kk (LP_X8_ails_144 kk n) I J x1 x3 x5 x6 x7 x8 x9 := rfl
theorem mx4_step {F : Nat → Bool} {a c : Nat} (hF : F c = true) : mx4 (fun v => sm (hit F a v) (c + 1)) = max (mx4 (fun v => sm (hit F a v) c)) (sm (hit F a (vC c a)) c + 1) := by
  have hv := vC_lt c a
  have e : ∀ v, sm (hit F a v) (c + 1) = sm (hit F a v) c + if vC c a = v then 1 else 0 := by
    intro v
    rw [sm_s]
    unfold hit
    by_cases h : vC c a = v
    · rw [if_pos ⟨hF, h⟩, if_pos h]
    · rw [if_neg (fun z => h z.2), if_neg h]
  unfold mx4
  dsimp only
  rw [e 0, e 1, e 2, e 3]
  rcases (show vC c a = 0 ∨ vC c a = 1 ∨ vC c a = 2 ∨ vC c a = 3 by omega) with h | h | h | h <;> rw [h] <;> simp <;> omega
theorem mx4_ge (f : Nat → Nat) {v : Nat} (h : v < 4) : f v ≤ mx4 f := by
  unfold mx4
  rcases (show v = 0 ∨ v = 1 ∨ v = 2 ∨ v = 3 by omega) with rfl | rfl | rfl | rfl <;> omega
theorem ails144 {n i q tb tu a : Nat} (ha : a < 4) {T : Nat → Nat → Nat} {IB : MI} {F : Nat → Bool} (kk : K7) (x3 x5 x6 : Int32) : ∀ (k m c : Nat) (I : MI) (J : MJ), c + k = 256 → k < m → FX n i q tb tu T IB F I → (∀ v, v < 4 → I 14 v = nI (sm (hit F a v) c)) → ∃ (I' : MI) (J' : MJ), LP_X8_ails_144 kk m I J (nI i) x3 x5 x6 (nI a) (nI (mx4 (fun v => sm (hit F a v) c))) (nI c) = (if x6 ≤ nI (gA F a) then kk I' J' (nI i) x3 x5 x6 (nI (a + 1)) else kk I' J' (nI i) x3 (nI a) (nI (gA F a)) (nI (a + 1))) ∧ MG I I' ∧ SJ J J' := by
  intro k
  induction k with
  | zero =>
    intro m c I J hc hm h hv
    obtain ⟨m, rfl⟩ : ∃ m', m = m' + 1 := ⟨m - 1, by omega⟩
    have : c = 256 := by omega
    subst this
    rw [LP_ails144_s]
    unfold LB_X8_ails_144
    simp only [bnd_d]
    rw [if_pos (show (256 : Int32) ≤ nI 256 by decide), show nI a + (1 : Int32) = nI (a + 1) from nI_1 a]
    exact ⟨I, J, rfl, MG.rf I, SJ.rf J⟩
  | succ k ih =>
    intro m c I J hc hm h hv
    obtain ⟨m, rfl⟩ : ∃ m', m = m' + 1 := ⟨m - 1, by omega⟩
    obtain ⟨I1, J1, e1, e2, e3⟩ := h.fit (J := J) (c := c) (by omega)
    rw [LP_ails144_s]
    unfold LB_X8_ails_144
    simp only [bnd_d]
    rw [if_neg (show ¬ (256 : Int32) ≤ nI c from nI_ge (b := 256) (by omega) (by omega)), e1, bo3_s, show nI c + (1 : Int32) = nI (c + 1) from nI_1 c, val_ok (show c < 256 by omega) ha rfl, bo1_s]
    have h' := h.go (MG.mf e2)
    have hl := vC_lt c a
    have b : ∀ v d, sm (hit F a v) d ≤ d := fun v d => sm_le (hit_le F a v) d
    have bm : mx4 (fun v => sm (hit F a v) c) ≤ c := mx4_le (fun v => b v c)
    cases hF : F c
    · simp only [Bool.false_eq_true, ↓reduceIte]
      have es : ∀ v, sm (hit F a v) (c + 1) = sm (hit F a v) c := fun v => by rw [sm_s, show hit F a v c = 0 by unfold hit; rw [if_neg (fun z => by rw [hF] at z; cases z.1)], Nat.add_zero]
      obtain ⟨I2, J2, a1, a2, a3⟩ := ih m (c + 1) I1 J1 (by omega) (by omega) h' (fun v hv2 => by rw [e2.1 14 (by decide) (by decide), es v]; exact hv v hv2)
      rw [show (fun v => sm (hit F a v) (c + 1)) = fun v => sm (hit F a v) c from funext es] at a1
      exact ⟨I2, J2, a1, (MG.mf e2).tr a2, e3.tr a3⟩
    · simp only [one0, ↓reduceIte, inbI hl (show 4 < 2 ^ 31 by omega), chk_t, nI_clamp (show vC c a < 2 ^ 31 by omega), w2k]
      have ev : I1 14 (vC c a) + 1 = nI (sm (hit F a (vC c a)) c + 1) := by rw [e2.1 14 (by decide) (by decide), hv _ hl]; exact nI_1 _
      rw [ev]
      have hnew : ∀ v, v < 4 → w2 I1 14 (vC c a) (nI (sm (hit F a (vC c a)) c + 1)) 14 v = nI (sm (hit F a v) (c + 1)) := by
        intro v hv2
        rw [w2c, sm_s]
        unfold hit
        by_cases e : v = vC c a
        · rw [if_pos e, if_pos ⟨hF, e.symm⟩, e]
        · rw [if_neg e, if_neg (fun z => e z.2.symm), Nat.add_zero, e2.1 14 (by decide) (by decide), hv v hv2]; rfl
      have h'' := h'.go (MG.v (k := vC c a) (x := nI (sm (hit F a (vC c a)) c + 1)))
      have mg := (MG.mf e2).tr (MG.v (I := I1) (k := vC c a) (x := nI (sm (hit F a (vC c a)) c + 1)))
      obtain ⟨I2, J2, a1, a2, a3⟩ := ih m (c + 1) _ J1 (by omega) (by omega) h'' hnew
      have bv := b (vC c a) c
      rw [mx4_step hF] at a1
      by_cases hx : sm (hit F a (vC c a)) c + 1 ≤ mx4 (fun v => sm (hit F a v) c)
      · rw [if_pos (nI_le hx (by omega))]
        rw [Nat.max_eq_left hx] at a1
        exact ⟨I2, J2, a1, mg.tr a2, e3.tr a3⟩
      · rw [if_neg (nI_ge (by omega) (by omega))]
        rw [Nat.max_eq_right (by omega)] at a1
        exact ⟨I2, J2, a1, mg.tr a2, e3.tr a3⟩
theorem LP_ails118_s (kk : K7) (n : Nat) (I : MI) (J : MJ) (x1 x3 x5 x6 x7 x8 : Int32) : LP_X8_ails_118 kk (n + 1) I J x1 x3 x5 x6 x7 x8 = LB_X8_ails_118 kk (LP_X8_ails_118 kk n) I J x1 x3 x5 x6 x7 x8 := rfl
theorem ails118 (kk : K7) {J : MJ} (x1 x3 x5 x6 x7 : Int32) : ∀ (k m v : Nat) (I : MI), v + k = 4 → k < m → (∀ u, u < v → I 14 u = 0) → ∃ I' : MI, LP_X8_ails_118 kk m I J x1 x3 x5 x6 x7 (nI v) = LP_X8_ails_144 kk FU I' J x1 x3 x5 x6 x7 0 0 ∧ MG I I' ∧ ∀ u, u < 4 → I' 14 u = 0 := by
  intro k
  induction k with
  | zero =>
    intro m v I hv hm h
    obtain ⟨m, rfl⟩ : ∃ m', m = m' + 1 := ⟨m - 1, by omega⟩
    rw [LP_ails118_s]
    unfold LB_X8_ails_118
    rw [if_pos (show (4 : Int32) ≤ nI v from nI_le (a := 4) (by omega) (by omega))]
    exact ⟨I, rfl, MG.rf I, fun u hu => h u (by omega)⟩
  | succ k ih =>
    intro m v I hv hm h
    obtain ⟨m, rfl⟩ : ∃ m', m = m' + 1 := ⟨m - 1, by omega⟩
    rw [LP_ails118_s]
    unfold LB_X8_ails_118
    simp only [bnd_d]
    rw [if_neg (show ¬ (4 : Int32) ≤ nI v from nI_ge (b := 4) (by omega) (by omega)), inbI (by omega) (by omega), chk_t, nI_clamp (by omega), show nI v + (1 : Int32) = nI (v + 1) from nI_1 v]
    obtain ⟨I', e1, e2, e3⟩ := ih m (v + 1) (w2 I 14 v 0) (by omega) (by omega) (fun u hu => by
      rw [w2c]
      by_cases e : u = v
      · rw [if_pos e]
      · rw [if_neg e]; exact h u (by omega))
    exact ⟨I', e1, MG.v.tr e2, e3⟩
theorem LP_ails104_s (n : Nat) (I : MI) (J : MJ) (x1 x3 x5 x6 x7 : Int32) : LP_X8_ails_104 (n + 1) I J x1 x3 x5 x6 x7 = LB_X8_ails_104 (LP_X8_ails_104 n) I J x1 x3 x5 x6 x7 := rfl
theorem look1 {n i q tb tu a N : Nat} (ha : a < 4) (hN : 1 < N) (hN2 : N ≤ 256) {T : Nat → Nat → Nat} {IB : MI} {F : Nat → Bool} (x5 x6 : Int32) (m : Nat) (I : MI) (J : MJ) (h : FX n i q tb tu T IB F I) : ∃ (I' : MI) (J' : MJ), LP_X8_ails_104 (m + 1) I J (nI i) (nI N) x5 x6 (nI a) = (if x6 ≤ nI (gA F a) then LP_X8_ails_104 m I' J' (nI i) (nI N) x5 x6 (nI (a + 1)) else LP_X8_ails_104 m I' J' (nI i) (nI N) (nI a) (nI (gA F a)) (nI (a + 1))) ∧ MG I I' ∧ SJ J J' := by
  rw [LP_ails104_s]
  unfold LB_X8_ails_104
  rw [if_neg (show ¬ (4 : Int32) ≤ nI a from nI_ge (b := 4) (by omega) (by omega)), if_neg (show ¬ nI N ≤ (1 : Int32) from nI_ge (a := 1) hN (by omega))]
  obtain ⟨I1, e1, e2, e3⟩ := ails118 (LP_X8_ails_104 m) (J := J) (nI i) (nI N) x5 x6 (nI a) 4 FU 0 I (by omega) (by rw [FU_eq]; omega) (fun u hu => by omega)
  change LP_X8_ails_118 (LP_X8_ails_104 m) FU I J (nI i) (nI N) x5 x6 (nI a) 0 = _ at e1
  rw [e1]
  obtain ⟨I2, J2, a1, a2, a3⟩ := ails144 ha (LP_X8_ails_104 m) (nI N) x5 x6 256 FU 0 I1 J (by omega) (by rw [FU_eq]; omega) (h.go e2) (fun v hv => by rw [e3 v hv]; rfl)
  exact ⟨I2, J2, a1, e2.tr a2, a3⟩
theorem look_all {n i q tb tu N : Nat} (hN : 1 < N) (hN2 : N ≤ 256) {T : Nat → Nat → Nat} {IB : MI} {F : Nat → Bool} (I : MI) (J : MJ) (h : FX n i q tb tu T IB F I) : ∃ (I' : MI) (J' : MJ), LP_X8_ails_104 FU I J (nI i) (nI N) (-9) 1000 0 = some (nI (bst (gA F) 3), I', J') ∧ MG I I' ∧ SJ J J' := by
  obtain ⟨f, hf⟩ : ∃ f, FU = f + 1 + 1 + 1 + 1 + 1 := ⟨3995, FU_eq⟩
  have st : ∀ (m a : Nat) (I : MI) (J : MJ), a + 1 < 4 → FX n i q tb tu T IB F I → ∃ (I' : MI) (J' : MJ), LP_X8_ails_104 (m + 1) I J (nI i) (nI N) (nI (bst (gA F) a)) (nI (gA F (bst (gA F) a))) (nI (a + 1)) = LP_X8_ails_104 m I' J' (nI i) (nI N) (nI (bst (gA F) (a + 1))) (nI (gA F (bst (gA F) (a + 1)))) (nI (a + 1 + 1)) ∧ MG I I' ∧ SJ J J' := by
    intro m a I J ha h
    obtain ⟨I1, J1, e1, e2, e3⟩ := look1 (a := a + 1) ha hN hN2 (nI (bst (gA F) a)) (nI (gA F (bst (gA F) a))) m I J h
    refine ⟨I1, J1, ?_, e2, e3⟩
    have g1 := gA_le F (a + 1)
    have g2 := gA_le F (bst (gA F) a)
    rw [e1, bst_s]
    by_cases hx : gA F (a + 1) < gA F (bst (gA F) a)
    · rw [if_neg (nI_ge hx (by omega)), if_pos hx]
    · rw [if_pos (nI_le (by omega) (by omega)), if_neg hx]
  rw [hf]
  obtain ⟨I1, J1, a1, a2, a3⟩ := look1 (a := 0) (by omega) hN hN2 (-9) 1000 (f + 1 + 1 + 1 + 1) I J h
  have g0 := gA_le F 0
  change LP_X8_ails_104 (f + 1 + 1 + 1 + 1 + 1) I J (nI i) (nI N) (-9) 1000 0 = _ at a1
  rw [a1, if_neg (show ¬ (1000 : Int32) ≤ nI (gA F 0) from nI_ge (b := 1000) (by omega) (by omega))]
  obtain ⟨I2, J2, b1, b2, b3⟩ := st (f + 1 + 1 + 1) 0 I1 J1 (by omega) (h.go a2)
  change LP_X8_ails_104 (f + 1 + 1 + 1 + 1) I1 J1 (nI i) (nI N) (nI 0) (nI (gA F 0)) (nI (0 + 1)) = _ at b1
  rw [b1]
  obtain ⟨I3, J3, c1, c2, c3⟩ := st (f + 1 + 1) 1 I2 J2 (by omega) ((h.go a2).go b2)
  rw [c1]
  obtain ⟨I4, J4, d1, d2, d3⟩ := st (f + 1) 2 I3 J3 (by omega) (((h.go a2).go b2).go c2)
  rw [d1, LP_ails104_s]
  unfold LB_X8_ails_104
  rw [if_pos (by decide)]
  exact ⟨I4, J4, rfl, a2.tr (b2.tr (c2.tr d2)), a3.tr (b3.tr (c3.tr d3))⟩
theorem s_ails {IB : MI} {JB : MJ} {IM : MI} {JM : MJ} (h : REL IB JB IM JM) (a1 a2 : Int32) : SW (f_X7_ails IB JB a1 a2) (f_X8_ails IM JM a1 a2) := by
  have h0 := thr h
  unfold f_X7_ails f_X8_ails
  simp only [bnd_d, in_wd]
  generalize w2 IM 0 0 0 = IM at h0 ⊢
  obtain ⟨n, T, hr⟩ := h0.1
  obtain ⟨q, tb, tu, hg⟩ := h0.2.2.2.2.2.2.2.1
  obtain ⟨r1, r2, r3, r4, r5⟩ := id hr
  rw [isRam_m r1 r2 (J := JB) a1]
  rcases isRam_c (J := JB) r1 r3 a1 with ⟨i, hi, rfl, e⟩ | e
  · rw [e]
    simp only [bo1_s, one0, ↓reduceIte]
    rcases win a2 (x := 0) (y := 2) (lo := 0) (hi := 2) rfl rfl (by omega) (by omega) with ⟨w, -, hw, rfl, e⟩ | e
    · rw [e]
      simp only [bo1_s, one0, ↓reduceIte]
      obtain ⟨I1, p1, p2, p3⟩ := try_ok (JB := JB) hr hg hi
      have hFX : FX n i q tb tu T IB (FB (T i) IB q i) IM := ⟨hr, hg, hi, by funext c; unfold FB; exact (FT_cg hg).symm⟩
      generalize FB (T i) IB q i = F at p3 hFX
      have hc := sm_le (one_le F) 256
      obtain ⟨I2, J2, y4, b1, b2, b3, b4⟩ := ails33 (nI w) 256 FU 0 (-9) IM JM (by omega) (by rw [FU_eq]; omega) hFX (Or.inl ⟨rfl, fun c hc => by omega⟩)
      change LP_X8_ails_33 FU IM JM (nI i) (nI w) 0 (-9) 0 = _ at b1
      rw [p1, bo2_s, b1]
      have hl : I1 30 2 = y4 := LsF_u (fun c => by unfold seen; constructor <;> (intro z; omega)) p3.2.2 b4
      have hk : ∀ I3 J3, MG I2 I3 → SJ J2 J3 → REL I1 JB I3 J3 := fun I3 J3 s1 s2 => h0.keep p2.bA (b2.tr s1).mA (AJ.rf _) (mJA_SJ (b3.tr s2))
      rcases (show w = 0 ∨ w = 1 ∨ w = 2 by omega) with rfl | rfl | rfl
      · rw [if_pos (show nI 0 = (0 : Int32) from rfl), if_neg (show ¬ (2 : Int32) ≤ nI 0 by decide), if_pos (show nI 0 = (0 : Int32) from rfl), p3.1, PS_e]
        exact SW.same (hk _ _ (MG.rf _) (SJ.rf _))
      · rw [if_neg (show ¬ nI 1 = (0 : Int32) by decide), if_pos (show nI 1 = (1 : Int32) from rfl), if_neg (show ¬ (2 : Int32) ≤ nI 1 by decide), if_neg (show ¬ nI 1 = (0 : Int32) by decide), hl]
        exact SW.same (hk _ _ (MG.rf _) (SJ.rf _))
      · rw [if_neg (show ¬ nI 2 = (0 : Int32) by decide), if_neg (show ¬ nI 2 = (1 : Int32) by decide), if_pos (show (2 : Int32) ≤ nI 2 by decide), nextLook_ok p3, bo1_s]
        by_cases hx : 1 < sm (one F) 256
        · rw [if_pos hx]
          obtain ⟨I3, J3, d1, d2, d3⟩ := look_all hx hc I2 J2 (hFX.go b2)
          rw [d1]; exact SW.same (hk _ _ d2 d3)
        · rw [if_neg hx]
          obtain ⟨f, hf⟩ : ∃ f, FU = f + 1 := ⟨3999, FU_eq⟩
          rw [hf, LP_ails104_s]
          unfold LB_X8_ails_104
          rw [if_neg (by decide), if_pos (show nI (sm (one F) 256) ≤ (1 : Int32) from nI_le (b := 1) (by omega) (by omega))]
          exact SW.same (hk _ _ (MG.rf _) (SJ.rf _))
    · rw [e]; exact SW.same h0
  · rw [e]; exact SW.same h0
