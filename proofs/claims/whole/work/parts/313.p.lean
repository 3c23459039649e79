/-! all causes, tallied -/
def sm (g : Nat → Nat) : Nat → Nat
  | 0 => 0
  | n + 1 => sm g n + g n
theorem sm_s (g : Nat → Nat) (n : Nat) : sm g (n + 1) = sm g n + g n := rfl
theorem sm_0 (g : Nat → Nat) : sm g 0 = 0 := rfl
theorem sm_add (g : Nat → Nat) (a b : Nat) : sm g (a + b) = sm g a + sm (fun s => g (a + s)) b := by
  induction b with
  | zero => rfl
  | succ b ih => rw [← Nat.add_assoc, sm_s, ih, sm_s, Nat.add_assoc]
theorem sm_plus (g h : Nat → Nat) (n : Nat) : sm (fun r => g r + h r) n = sm g n + sm h n := by
  induction n with
  | zero => rfl
  | succ n ih => rw [sm_s, sm_s, sm_s, ih]; omega
theorem sm_cg {g h : Nat → Nat} (n : Nat) (e : ∀ i, i < n → g i = h i) : sm g n = sm h n := by
  induction n with
  | zero => rfl
  | succ n ih => rw [sm_s, sm_s, ih (fun i hi => e i (by omega)), e n (by omega)]
theorem sm_z (n : Nat) : sm (fun _ => 0) n = 0 := by
  induction n with
  | zero => rfl
  | succ n ih => rw [sm_s, ih]
theorem sm_swap (h : Nat → Nat → Nat) (m n : Nat) : sm (fun s => sm (fun r => h s r) m) n = sm (fun r => sm (fun s => h s r) n) m := by
  induction n with
  | zero => rw [sm_0]; exact (sm_z m).symm
  | succ n ih =>
    rw [sm_s, ih, ← sm_plus]
    exact sm_cg m (fun i _ => rfl)
theorem sm_blk (g : Nat → Nat) (n : Nat) : sm g (16 * n) = sm (fun r => sm (fun s => g (s + 16 * r)) 16) n := by
  induction n with
  | zero => rfl
  | succ n ih =>
    rw [show 16 * (n + 1) = 16 * n + 16 by omega, sm_add, ih, sm_s]
    congr 1
    exact sm_cg 16 (fun i _ => by rw [Nat.add_comm])
theorem sm_256 (g : Nat → Nat) : sm (fun s => sm (fun r => g (s + 16 * r)) 16) 16 = sm g 256 := by
  rw [sm_swap (fun s r => g (s + 16 * r)) 16 16]
  exact (sm_blk g 16).symm
theorem sm_le {g : Nat → Nat} (h : ∀ i, g i ≤ 1) (n : Nat) : sm g n ≤ n := by
  induction n with
  | zero => exact Nat.le_refl _
  | succ n ih => rw [sm_s]; have := h n; omega
def one (F : Nat → Bool) (c : Nat) : Nat := if F c = true then 1 else 0
def hit (F : Nat → Bool) (a v c : Nat) : Nat := if F c = true ∧ vC c a = v then 1 else 0
theorem one_le (F : Nat → Bool) (c : Nat) : one F c ≤ 1 := by unfold one; split <;> omega
theorem hit_le (F : Nat → Bool) (a v c : Nat) : hit F a v c ≤ 1 := by unfold hit; split <;> omega
/-- what has been summed when swing is s and rest is r -/
def PS (g : Nat → Nat) (s r : Nat) : Nat := sm (fun s' => sm (fun r' => g (s' + 16 * r')) 16) s + sm (fun r' => g (s + 16 * r')) r
theorem PS_r (g : Nat → Nat) (s r : Nat) : PS g s (r + 1) = PS g s r + g (s + 16 * r) := by unfold PS; rw [sm_s, Nat.add_assoc]
theorem PS_s (g : Nat → Nat) (s : Nat) : PS g (s + 1) 0 = PS g s 16 := by unfold PS; rw [sm_s, sm_0, Nat.add_zero]
theorem PS_e (g : Nat → Nat) : PS g 16 0 = sm g 256 := by unfold PS; rw [sm_0, Nat.add_zero]; exact sm_256 g
theorem PS_le {g : Nat → Nat} (h : ∀ i, g i ≤ 1) {s r : Nat} : PS g s r ≤ 16 * s + r := by
  unfold PS
  have h1 := sm_le (g := fun r' => g (s + 16 * r')) (fun i => h _) r
  have h2 : ∀ n, sm (fun s' => sm (fun r' => g (s' + 16 * r')) 16) n ≤ 16 * n := by
    intro n
    induction n with
    | zero => exact Nat.le_refl _
    | succ n ih => rw [sm_s]; have := sm_le (g := fun r' => g (n + 16 * r')) (fun i => h _) 16; omega
  have := h2 s
  omega
/-- seen so far -/
def seen (s r c : Nat) : Prop := c < 256 ∧ (c % 16 < s ∨ (c % 16 = s ∧ c / 16 < r))
/-- the least so far -/
def LsF (F : Nat → Bool) (S : Nat → Prop) (x : Int32) : Prop := (x = -9 ∧ ∀ c, S c → F c = false) ∨ ∃ m : Nat, m < 256 ∧ x = nI m ∧ F m = true ∧ S m ∧ ∀ c, S c → F c = true → m ≤ c
def DI (F : Nat → Bool) (s r : Nat) (I : MI) : Prop := I 30 1 = nI (PS (one F) s r) ∧ (∀ a v, a < 4 → v < 4 → I 31 (4 * a + v) = nI (PS (hit F a v) s r)) ∧ LsF F (seen s r) (I 30 2)
def TD (I I' : MI) : Prop := ∀ c', c' ≠ 10 → c' ≠ 11 → c' ≠ 30 → c' ≠ 31 → I' c' = I c'
theorem TD.tr {I I' I'' : MI} (h : TD I I') (h2 : TD I' I'') : TD I I'' := fun c a b d e => (h2 c a b d e).trans (h c a b d e)
theorem TD.rf (I : MI) : TD I I := fun _ _ _ _ _ => rfl
theorem TD.of {I I' : MI} (h : TR I I') : TD I I' := fun c a b _ _ => h c a b
theorem TD.bA {I I' : MI} (h : TD I I') : bA I I' := ⟨fun c hc => h c (fun e => by subst e; exact absurd hc (by decide)) (fun e => by subst e; exact absurd hc (by decide)) (fun e => by subst e; exact absurd hc (by decide)) (fun e => by subst e; exact absurd hc (by decide)), fun p hp => by
  have := (by decide : ∀ p ∈ ([(0, 1), (12, 2), (12, 3), (15, 2), (18, 0), (18, 7), (18, 14), (18, 21), (19, 0), (19, 7), (19, 14), (19, 21), (24, 0), (24, 1), (20, 1), (20, 2), (0, 9), (0, 10), (0, 11), (26, 3), (26, 4), (26, 5)] : List (Nat × Nat)), p.1 ≠ 10 ∧ p.1 ≠ 11 ∧ p.1 ≠ 30 ∧ p.1 ≠ 31) p hp
  rw [h p.1 this.1 this.2.1 this.2.2.1 this.2.2.2]⟩
theorem LP_admit_s (n : Nat) (I : MI) (J : MJ) (x1 x2 : Int32) : LP_X0_admit_34 (n + 1) I J x1 x2 = LB_X0_admit_34 (LP_X0_admit_34 n) I J x1 x2 := rfl
theorem admit_loop {c : Nat} (hc : c < 256) {J : MJ} : ∀ (n m a : Nat) (I : MI), a + n = 4 → n < m → ∃ I' : MI, LP_X0_admit_34 m I J (nI c) (nI a) = some (I', J) ∧ (∀ c', c' ≠ 31 → I' c' = I c') ∧ ∀ b v, b < 4 → v < 4 → I' 31 (4 * b + v) = if a ≤ b ∧ vC c b = v then I 31 (4 * b + v) + 1 else I 31 (4 * b + v) := by
  intro n
  induction n with
  | zero =>
    intro m a I ha hm
    obtain ⟨m, rfl⟩ : ∃ m', m = m' + 1 := ⟨m - 1, by omega⟩
    rw [LP_admit_s]
    unfold LB_X0_admit_34
    rw [if_pos (show (4 : Int32) ≤ nI a from nI_le (a := 4) (by omega) (by omega))]
    exact ⟨I, rfl, fun _ _ => rfl, fun b v hb hv => by rw [if_neg (by omega)]⟩
  | succ n ih =>
    intro m a I ha hm
    obtain ⟨m, rfl⟩ : ∃ m', m = m' + 1 := ⟨m - 1, by omega⟩
    have hv := vC_lt c a
    rw [LP_admit_s]
    unfold LB_X0_admit_34
    simp only [bnd_d]
    rw [if_neg (show ¬ (4 : Int32) ≤ nI a from nI_ge (b := 4) (by omega) (by omega)), vb hc (by omega), show nI a * (4 : Int32) = nI (a * 4) from pk_mul a 4, nI_add, inbI (by omega) (by omega), chk_t, chk_t, nI_clamp (by omega), show nI a + (1 : Int32) = nI (a + 1) from nI_1 a]
    obtain ⟨I', e1, e2, e3⟩ := ih m (a + 1) (w2 I 31 (a * 4 + vC c a) (I 31 (a * 4 + vC c a) + 1)) (by omega) (by omega)
    refine ⟨I', e1, fun c' h => by rw [e2 c' h, w2n h], fun b v hb hv2 => ?_⟩
    rw [e3 b v hb hv2, w2c]
    by_cases e : b = a
    · subst e
      rw [if_neg (by omega)]
      by_cases e4 : vC c b = v
      · rw [if_pos (by omega), if_pos ⟨Nat.le_refl _, e4⟩, show b * 4 + vC c b = 4 * b + v by omega]
      · rw [if_neg (by omega), if_neg (fun z => e4 z.2)]
    · rw [if_neg (show ¬ 4 * b + v = a * 4 + vC c a by omega)]
      by_cases e5 : a + 1 ≤ b ∧ vC c b = v
      · rw [if_pos e5, if_pos ⟨by omega, e5.2⟩]
      · rw [if_neg e5, if_neg (fun z => e5 ⟨by omega, z.2⟩)]
theorem admit_ok {F : Nat → Bool} {s r : Nat} (hs : s < 16) (hr : r < 16) {I : MI} {J : MJ} (hF : F (s + 16 * r) = true) (h : DI F s r I) : ∃ I' : MI, f_X0_admit I J (nI (s + 16 * r)) = some (I', J) ∧ (∀ c', c' ≠ 30 → c' ≠ 31 → I' c' = I c') ∧ DI F s (r + 1) I' := by
  obtain ⟨h1, h2, h3⟩ := h
  have hc : s + 16 * r < 256 := by omega
  have p1 := PS_le (g := one F) (one_le F) (s := s) (r := r)
  have sn : ∀ c, seen s (r + 1) c → seen s r c ∨ c = s + 16 * r := by
    intro c ⟨a, b⟩
    unfold seen
    omega
  have sn2 : ∀ c, seen s r c → seen s (r + 1) c := by
    intro c ⟨a, b⟩
    unfold seen
    omega
  have sn3 : seen s (r + 1) (s + 16 * r) := by unfold seen; omega
  have fin : ∀ (I0 : MI) (x : Int32), I0 31 = I 31 → I0 30 1 = I 30 1 + 1 → I0 30 2 = x → (∀ c', c' ≠ 30 → I0 c' = I c') → LsF F (seen s (r + 1)) x → ∃ I' : MI, LP_X0_admit_34 FU I0 J (nI (s + 16 * r)) 0 = some (I', J) ∧ (∀ c', c' ≠ 30 → c' ≠ 31 → I' c' = I c') ∧ DI F s (r + 1) I' := by
    intro I0 x q1 q2 q3 q4 q5
    obtain ⟨I', e1, e2, e3⟩ := admit_loop hc (J := J) 4 FU 0 I0 (by omega) (by rw [FU_eq]; omega)
    refine ⟨I', e1, fun c' a b => by rw [e2 c' b, q4 c' a], ?_, fun a v ha hv => ?_, ?_⟩
    · rw [e2 30 (by decide), q2, h1, PS_r, show one F (s + 16 * r) = 1 by unfold one; rw [if_pos hF]]
      exact nI_1 _
    · rw [e3 a v ha hv, q1, h2 a v ha hv, PS_r]
      unfold hit
      by_cases e : vC (s + 16 * r) a = v
      · rw [if_pos ⟨Nat.zero_le _, e⟩, if_pos ⟨hF, e⟩]; exact nI_1 _
      · rw [if_neg (fun z => e z.2), if_neg (fun z => e z.2), Nat.add_zero]
    · rw [e2 30 (by decide), q3]; exact q5
  unfold f_X0_admit
  simp only [bnd_d]
  rw [w2j (show (2 : Nat) ≠ 1 by decide)]
  have g1 : w2 I 30 1 (I 30 1 + 1) 30 1 = I 30 1 + 1 := w2k
  have n31 : ∀ (y : Int32), w2 (w2 I 30 1 (I 30 1 + 1)) 30 2 y 31 = I 31 := fun y => by rw [w2n (by decide), w2n (by decide)]
  have n1 : ∀ (y : Int32), w2 (w2 I 30 1 (I 30 1 + 1)) 30 2 y 30 1 = I 30 1 + 1 := fun y => by rw [w2j (by decide), w2k]
  have nc : ∀ (y : Int32), ∀ c', c' ≠ 30 → w2 (w2 I 30 1 (I 30 1 + 1)) 30 2 y c' = I c' := fun y c' h => by rw [w2n h, w2n h]
  rcases h3 with ⟨l1, l2⟩ | ⟨m, m1, m2, m3, m4, m5⟩
  · rw [if_pos l1]
    refine fin _ (nI (s + 16 * r)) (n31 _) (n1 _) w2k (nc _) (Or.inr ⟨s + 16 * r, hc, rfl, hF, sn3, fun c h1 h2 => ?_⟩)
    rcases sn c h1 with h | h
    · rw [l2 c h] at h2; cases h2
    · omega
  · rw [m2, if_neg (show ¬ nI m = (-9 : Int32) from fun z => by have := congrArg Int32.toInt z; rw [nI_toInt (by omega)] at this; revert this; rw [show (-9 : Int32).toInt = -9 by decide]; omega)]
    by_cases hx : m ≤ s + 16 * r
    · rw [if_pos (nI_le hx (by omega))]
      refine fin _ (nI m) (by rw [w2n (by decide)]) w2k (by rw [w2j (by decide)]; exact m2) (fun c' h => w2n h) (Or.inr ⟨m, m1, rfl, m3, sn2 _ m4, fun c h1 h2 => ?_⟩)
      rcases sn c h1 with h | h
      · exact m5 c h h2
      · omega
    · rw [if_neg (nI_ge (by omega) (by omega))]
      refine fin _ (nI (s + 16 * r)) (n31 _) (n1 _) w2k (nc _) (Or.inr ⟨s + 16 * r, hc, rfl, hF, sn3, fun c h1 h2 => ?_⟩)
      rcases sn c h1 with h | h
      · have := m5 c h h2; omega
      · omega
theorem DI_no {F : Nat → Bool} {s r : Nat} {I : MI} (hs : s < 16) (hF : F (s + 16 * r) = false) (h : DI F s r I) : DI F s (r + 1) I := by
  obtain ⟨h1, h2, h3⟩ := h
  have sn : ∀ c, seen s (r + 1) c → seen s r c ∨ c = s + 16 * r := by
    intro c ⟨a, b⟩
    unfold seen
    omega
  have sn2 : ∀ c, seen s r c → seen s (r + 1) c := by
    intro c ⟨a, b⟩
    unfold seen
    omega
  refine ⟨?_, fun a v ha hv => ?_, ?_⟩
  · rw [h1, PS_r, show one F (s + 16 * r) = 0 by unfold one; rw [hF]; rfl, Nat.add_zero]
  · rw [h2 a v ha hv, PS_r, show hit F a v (s + 16 * r) = 0 by unfold hit; rw [if_neg (fun z => by rw [hF] at z; cases z.1)], Nat.add_zero]
  · rcases h3 with ⟨l1, l2⟩ | ⟨m, m1, m2, m3, m4, m5⟩
    · refine Or.inl ⟨l1, fun c h => ?_⟩
      rcases sn c h with h | h
      · exact l2 c h
      · rw [h]; exact hF
    · refine Or.inr ⟨m, m1, m2, m3, sn2 _ m4, fun c h h2 => ?_⟩
      rcases sn c h with h | h
      · exact m5 c h h2
      · rw [h, hF] at h2; cases h2
/-- the trial Ram is Ram T, but for what a cause sets -/
def TC (T : Nat → Nat) (I : MI) : Prop := ∃ T0, TV (I 11) T0 ∧ CK (I 10) T0 ∧ ∀ c, cT T0 c = cT T c
theorem LP_try30_s (kk : MI → MJ → Int32 → Int32 → Option (MI × MJ)) (n : Nat) (I : MI) (J : MJ) (x1 x2 x3 : Int32) : LP_X7_tryAllCauses_30 kk (n + 1) I J x1 x2 x3 = LB_X7_tryAllCauses_30 kk (LP_X7_tryAllCauses_30 kk n) I J x1 x2 x3 := rfl
theorem LP_try22_s (n : Nat) (I : MI) (J : MJ) (x1 x2 : Int32) : LP_X7_tryAllCauses_22 (n + 1) I J x1 x2 = LB_X7_tryAllCauses_22 (LP_X7_tryAllCauses_22 n) I J x1 x2 := rfl
/-- the fits, as the class's memory has the readings -/
def FB (T : Nat → Nat) (I : MI) (q i : Nat) : Nat → Bool := fun c => FT T (I 27) (I 28) (I 29) (I 26 4) (I 26 5) q i c
theorem FB_td {T : Nat → Nat} {I I' : MI} {q i : Nat} (h : TD I I') : FB T I' q i = FB T I q i := by
  unfold FB
  rw [h 26 (by decide) (by decide) (by decide) (by decide), h 27 (by decide) (by decide) (by decide) (by decide), h 28 (by decide) (by decide) (by decide) (by decide), h 29 (by decide) (by decide) (by decide) (by decide)]
theorem try_in {T : Nat → Nat} {q i s : Nat} {F : Nat → Bool} (hq : q ≤ 12) (hs : s < 16) {J : MJ} (kk : MI → MJ → Int32 → Int32 → Option (MI × MJ)) : ∀ (n m r : Nat) (I : MI), r + n = 16 → n < m → I 26 3 = nI q → FB T I q i = F → TC T I → DI F s r I → ∃ I' : MI, LP_X7_tryAllCauses_30 kk m I J (nI i) (nI s) (nI r) = kk I' J (nI i) (nI (s + 1)) ∧ TD I I' ∧ TC T I' ∧ DI F s 16 I' := by
  intro n
  induction n with
  | zero =>
    intro m r I hr hm h3 hF hT hd
    obtain ⟨m, rfl⟩ : ∃ m', m = m' + 1 := ⟨m - 1, by omega⟩
    rw [LP_try30_s]
    unfold LB_X7_tryAllCauses_30
    simp only [bnd_d]
    rw [if_pos (show (16 : Int32) ≤ nI r from nI_le (a := 16) (by omega) (by omega)), show nI s + (1 : Int32) = nI (s + 1) from nI_1 s]
    have : r = 16 := by omega
    subst this
    exact ⟨I, rfl, TD.rf I, hT, hd⟩
  | succ n ih =>
    intro m r I hr hm h3 hF hT hd
    obtain ⟨m, rfl⟩ : ∃ m', m = m' + 1 := ⟨m - 1, by omega⟩
    obtain ⟨T0, t1, t2, t3⟩ := hT
    rw [LP_try30_s]
    unfold LB_X7_tryAllCauses_30
    simp only [bnd_d]
    rw [if_neg (show ¬ (16 : Int32) ≤ nI r from nI_ge (b := 16) (by omega) (by omega)), show (16 : Int32) * nI r = nI (16 * r) from pk_mul 16 r, nI_add, show nI r + (1 : Int32) = nI (r + 1) from nI_1 r]
    obtain ⟨I1, p1, p2, p3, p4⟩ := suffer_ok (c := s + 16 * r) (by omega) (J := J) t1 t2
    obtain ⟨I2, q1, q2, q3, q4⟩ := agree_ok (q := q) (i := i) (T := T0) (J := J) hq (by rw [p2 26 (by decide) (by decide)]; exact h3) p3 p4
    have k2 := p2.tr q2
    have hF2 : FT T0 (I1 27) (I1 28) (I1 29) (I1 26 4) (I1 26 5) q i (s + 16 * r) = F (s + 16 * r) := by
      rw [p2 26 (by decide) (by decide), p2 27 (by decide) (by decide), p2 28 (by decide) (by decide), p2 29 (by decide) (by decide), ← hF]
      unfold FB FT
      rw [t3]
    have hT2 : TC T I2 := ⟨_, q3, q4, fun c => by rw [un7_agree]; exact t3 c⟩
    rw [p1, bo2_s, q1, bo3_s, hF2]
    have hd2 : DI F s r I2 := by
      obtain ⟨h1, h2, h4⟩ := hd
      refine ⟨?_, ?_, ?_⟩
      · rw [k2 30 (by decide) (by decide)]; exact h1
      · rw [k2 31 (by decide) (by decide)]; exact h2
      · rw [k2 30 (by decide) (by decide)]; exact h4
    cases hc : F (s + 16 * r)
    · simp only [Bool.false_eq_true, ↓reduceIte]
      obtain ⟨I3, a1, a2, a3, a4⟩ := ih m (r + 1) I2 (by omega) (by omega) (by rw [k2 26 (by decide) (by decide)]; exact h3) (by rw [FB_td (TD.of k2)]; exact hF) hT2 (DI_no hs hc hd2)
      exact ⟨I3, a1, (TD.of k2).tr a2, a3, a4⟩
    · simp only [one0, ↓reduceIte]
      obtain ⟨I4, b1, b2, b3⟩ := admit_ok (J := J) hs (show r < 16 by omega) hc hd2
      have k4 : TD I2 I4 := fun c a b d e => b2 c d e
      rw [b1, bo2_s]
      obtain ⟨I3, a1, a2, a3, a4⟩ := ih m (r + 1) I4 (by omega) (by omega) (by rw [k4 26 (by decide) (by decide) (by decide) (by decide), k2 26 (by decide) (by decide)]; exact h3) (by rw [FB_td ((TD.of k2).tr k4)]; exact hF) (by
        obtain ⟨T1, u1, u2, u3⟩ := hT2
        exact ⟨T1, by rw [b2 11 (by decide) (by decide)]; exact u1, by rw [b2 10 (by decide) (by decide)]; exact u2, u3⟩) b3
      exact ⟨I3, a1, ((TD.of k2).tr k4).tr a2, a3, a4⟩
theorem DI_s {F : Nat → Bool} {s : Nat} {I : MI} (h : DI F s 16 I) : DI F (s + 1) 0 I := by
  obtain ⟨h1, h2, h3⟩ := h
  have e : seen (s + 1) 0 = seen s 16 := by
    funext c
    unfold seen
    apply propext
    constructor <;> (intro ⟨a, b⟩; omega)
  refine ⟨by rw [PS_s]; exact h1, fun a v ha hv => by rw [PS_s]; exact h2 a v ha hv, by rw [e]; exact h3⟩
theorem try_out {T : Nat → Nat} {q i : Nat} {F : Nat → Bool} (hq : q ≤ 12) {J : MJ} : ∀ (n m s : Nat) (I : MI), s + n = 16 → n < m → I 26 3 = nI q → FB T I q i = F → TC T I → DI F s 0 I → ∃ I' : MI, LP_X7_tryAllCauses_22 m I J (nI i) (nI s) = some (I', J) ∧ TD I I' ∧ DI F 16 0 I' := by
  intro n
  induction n with
  | zero =>
    intro m s I hs hm h3 hF hT hd
    obtain ⟨m, rfl⟩ : ∃ m', m = m' + 1 := ⟨m - 1, by omega⟩
    rw [LP_try22_s]
    unfold LB_X7_tryAllCauses_22
    rw [if_pos (show (16 : Int32) ≤ nI s from nI_le (a := 16) (by omega) (by omega))]
    have : s = 16 := by omega
    subst this
    exact ⟨I, rfl, TD.rf I, hd⟩
  | succ n ih =>
    intro m s I hs hm h3 hF hT hd
    obtain ⟨m, rfl⟩ : ∃ m', m = m' + 1 := ⟨m - 1, by omega⟩
    rw [LP_try22_s]
    unfold LB_X7_tryAllCauses_22
    rw [if_neg (show ¬ (16 : Int32) ≤ nI s from nI_ge (b := 16) (by omega) (by omega))]
    obtain ⟨I1, e1, e2, e3, e4⟩ := try_in (T := T) (q := q) (i := i) (s := s) (F := F) hq (by omega) (J := J) (LP_X7_tryAllCauses_22 m) 16 FU 0 I (by omega) (by rw [FU_eq]; omega) h3 hF hT hd
    change LP_X7_tryAllCauses_30 (LP_X7_tryAllCauses_22 m) FU I J (nI i) (nI s) 0 = _ at e1
    rw [e1]
    obtain ⟨I2, a1, a2, a3⟩ := ih m (s + 1) I1 (by omega) (by omega) (by rw [e2 26 (by decide) (by decide) (by decide) (by decide)]; exact h3) (by rw [FB_td e2]; exact hF) e3 (DI_s e4)
    exact ⟨I2, a1, e2.tr a2, a3⟩
theorem try_ok {n i q tb tu : Nat} {T : Nat → Nat → Nat} {IB IM : MI} {JB : MJ} (hr : RR n T IB IM) (hg : RG q tb tu IB IM) (hi : i < n) : ∃ I' : MI, f_X7_tryAllCauses IB JB (nI i) = some (I', JB) ∧ TD IB I' ∧ DI (FB (T i) IB q i) 16 0 I' := by
  have hn := hr.2.2.1
  unfold f_X7_tryAllCauses f_X0_begin
  simp only [bnd_d]
  rw [bo2_s, inbI (by omega) (by omega), chk_t, rc_nI (by omega)]
  have hb : ∀ c', c' ≠ 30 → c' ≠ 31 → w2 (w2 (w1 IB 31 (fl 0 16 (IB 31))) 30 1 0) 30 2 (-9) c' = IB c' := fun c' a b => by rw [w2n a, w2n a]; unfold w1; rw [if_neg b]
  obtain ⟨I1, p1, p2, p3, p4⟩ := like_ok (c := 2 + 2 * i) (I := w2 (w2 (w1 IB 31 (fl 0 16 (IB 31))) 30 1 0) 30 2 (-9)) (J := JB) (T := T i) (by rw [hb _ (by omega) (by omega)]; exact (hr.2.2.2.1 i hi).1)
  rw [p1, bo2_s]
  have k : TD IB I1 := fun c a b d e => by rw [p2 c a b, hb c d e]
  obtain ⟨I2, a1, a2, a3⟩ := try_out (T := T i) (q := q) (i := i) (F := FB (T i) IB q i) hg.2.2.1 (J := JB) 16 FU 0 I1 (by omega) (by rw [FU_eq]; omega) (by rw [k 26 (by decide) (by decide) (by decide) (by decide)]; exact hg.1) (FB_td k) ⟨T i, p3, p4, fun _ => rfl⟩ (by
    refine ⟨?_, fun a v ha hv => ?_, ?_⟩
    · rw [p2 30 (by decide) (by decide), w2j (by decide), w2k]; rfl
    · rw [p2 31 (by decide) (by decide), w2n (by decide), w2n (by decide)]
      unfold w1 fl
      rw [if_pos rfl, if_pos (by omega)]; rfl
    · rw [p2 30 (by decide) (by decide), w2k]
      exact Or.inl ⟨rfl, fun c h => by unfold seen at h; omega⟩)
  exact ⟨I2, a1, k.tr a2, a3⟩
