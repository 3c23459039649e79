/-! tuned: the order of trials -/
abbrev PT : Type := Nat × Nat
def T2 (T : Nat → Nat) (w s : Nat) : Nat → Nat := fun q => if q = 4 then w else if q = 5 then s else T q
theorem T2_4 (T : Nat → Nat) (w s v : Nat) : un (T2 T w s) 4 v = T2 T v s := by
  funext q
  unfold un T2
  by_cases h : q = 4
  · rw [if_pos h, if_pos h]
  · rw [if_neg h, if_neg h, if_neg h]
theorem T2_5 (T : Nat → Nat) (w s v : Nat) : un (T2 T w s) 5 v = T2 T w v := by
  funext q
  unfold un T2
  by_cases h : q = 5
  · rw [if_pos h, if_neg (by omega), if_pos h]
  · rw [if_neg h, if_neg h, if_neg h]
theorem T2_id (T : Nat → Nat) : T2 T (T 4) (T 5) = T := by
  funext q
  unfold T2
  by_cases h : q = 4
  · rw [if_pos h, h]
  · rw [if_neg h]
    by_cases h5 : q = 5
    · rw [if_pos h5, h5]
    · rw [if_neg h5]
theorem T2_TO {T : Nat → Nat} (h : TO T) {w s : Nat} (h1 : 5 ≤ w) (h2 : w ≤ 400) (h3 : 1 ≤ s) (h4 : s ≤ 9) : TO (T2 T w s) := by
  have e : ∀ q, q ≠ 4 → q ≠ 5 → T2 T w s q = T q := fun q a b => by unfold T2; rw [if_neg a, if_neg b]
  have e4 : T2 T w s 4 = w := rfl
  have e5 : T2 T w s 5 = s := rfl
  unfold TO at h ⊢
  rw [e 0 (by decide) (by decide), e 1 (by decide) (by decide), e 2 (by decide) (by decide), e 3 (by decide) (by decide), e4, e5, e 6 (by decide) (by decide), e 7 (by decide) (by decide), e 8 (by decide) (by decide), e 9 (by decide) (by decide), e 10 (by decide) (by decide), e 11 (by decide) (by decide), e 12 (by decide) (by decide)]
  omega
theorem rk_mono {gn dr fw hf hf' : Nat} (h : hf ≤ hf') : ∀ (n t sp wa : Nat), (rk gn dr fw hf n t sp wa).1 = true → (rk gn dr fw hf' n t sp wa).1 = true := by
  intro n
  induction n with
  | zero => intro t sp wa _; rfl
  | succ n ih =>
    intro t sp wa
    unfold rk
    intro hx
    by_cases a : hf ≤ (sp + gn - sp * dr / 100) * (sp + gn - sp * dr / 100) / 50
    · rw [if_pos a] at hx; exact absurd hx Bool.false_ne_true
    · rw [if_neg a] at hx
      rw [if_neg (by omega)]
      by_cases b : sp + gn - sp * dr / 100 ≤ sp
      · rw [if_pos b]
      · rw [if_neg b] at hx
        rw [if_neg b]; exact ih _ _ _ hx
theorem stall_mono {T : Nat → Nat} {w w' s : Nat} (h : w ≤ w') (hs : (bt (T2 T w s)).1 = true) : (bt (T2 T w' s)).1 = true := by
  unfold bt at hs ⊢
  have e1 : gnT (T2 T w' s) = gnT (T2 T w s) := rfl
  have e2 : drT (T2 T w' s) = drT (T2 T w s) := rfl
  have e3 : fwT (T2 T w' s) = fwT (T2 T w s) := rfl
  rw [e1, e2, e3]
  refine rk_mono ?_ _ _ _ _ hs
  show w * opT (T2 T w s) ≤ w' * opT (T2 T w s)
  exact Nat.mul_le_mul_right _ h
def pU (T : Nat → Nat) (p : PT) : Nat := upT (T2 T p.1 p.2)
def pW (T : Nat → Nat) (p : PT) : Nat := waT (T2 T p.1 p.2)
def CAN (T : Nat → Nat) (S : Nat) (p : PT) : Prop := (5 ≤ p.1 ∧ p.1 ≤ 400 ∧ p.1 % 5 = 0 ∧ 1 ≤ p.2 ∧ p.2 ≤ 9) ∧ (bt (T2 T p.1 p.2)).1 = false ∧ 0 < pU T p ∧ pU T p + pW T p ≤ S
def bet (aim : Nat) (T : Nat → Nat) (p b : PT) : Prop := if aim = 0 then pU T b < pU T p else pW T p * pU T b < pW T b * pU T p
theorem bet_as {aim : Nat} {T : Nat → Nat} {p b : PT} (h : bet aim T p b) : ¬ bet aim T b p := by
  unfold bet at h ⊢
  split <;> rename_i e
  · rw [if_pos e] at h; omega
  · rw [if_neg e] at h; omega
theorem bet_nt {aim : Nat} {T : Nat → Nat} {p b q : PT} (h : bet aim T p b) (hq : 0 < pU T q) : bet aim T p q ∨ bet aim T q b := by
  unfold bet at h ⊢
  by_cases e : aim = 0
  · rw [if_pos e] at h; rw [if_pos e, if_pos e]; omega
  · rw [if_neg e] at h; rw [if_neg e, if_neg e]
    apply Classical.byContradiction
    intro hn
    have a1 : pW T q * pU T p ≤ pW T p * pU T q := Nat.le_of_not_lt (fun z => hn (Or.inl z))
    have a2 : pW T b * pU T q ≤ pW T q * pU T b := Nat.le_of_not_lt (fun z => hn (Or.inr z))
    have b1 : pW T q * pU T p * pU T b ≤ pW T p * pU T q * pU T b := Nat.mul_le_mul_right _ a1
    have b2 : pW T b * pU T q * pU T p ≤ pW T q * pU T b * pU T p := Nat.mul_le_mul_right _ a2
    have b3 : pW T p * pU T b * pU T q < pW T b * pU T p * pU T q := Nat.mul_lt_mul_of_pos_right h hq
    rw [Nat.mul_right_comm (pW T q)] at b1
    rw [Nat.mul_right_comm (pW T b)] at b2
    rw [Nat.mul_right_comm (pW T p)] at b1
    omega
def lexle (p q : PT) : Prop := p.1 < q.1 ∨ (p.1 = q.1 ∧ p.2 ≤ q.2)
def ordr (aim : Nat) (T : Nat → Nat) (p q : PT) : Prop := bet aim T p q ∨ (¬ bet aim T q p ∧ lexle p q)
def BST (aim : Nat) (T : Nat → Nat) (S : Nat) (X : PT → Prop) (p : PT) : Prop := CAN T S p ∧ X p ∧ ∀ q, X q → CAN T S q → ordr aim T p q
def BS (aim : Nat) (T : Nat → Nat) (S : Nat) (X : PT → Prop) : Option PT → Prop
  | none => ∀ q, X q → ¬ CAN T S q
  | some p => BST aim T S X p
theorem BST_u {aim S : Nat} {T : Nat → Nat} {X Y : PT → Prop} (hXY : ∀ q, CAN T S q → (X q ↔ Y q)) {p q : PT} (h : BST aim T S X p) (h2 : BST aim T S Y q) : p = q := by
  have a := h.2.2 q ((hXY q h2.1).2 h2.2.1) h2.1
  have b := h2.2.2 p ((hXY p h.1).1 h.2.1) h.1
  rcases a with a | ⟨a, la⟩ <;> rcases b with b | ⟨b, lb⟩
  · exact absurd b (bet_as a)
  · exact absurd a b
  · exact absurd b a
  · unfold lexle at la lb
    exact Prod.ext (by omega) (by omega)
theorem BS_u {aim S : Nat} {T : Nat → Nat} {X Y : PT → Prop} (hXY : ∀ q, CAN T S q → (X q ↔ Y q)) {o o' : Option PT} (h : BS aim T S X o) (h2 : BS aim T S Y o') : o = o' := by
  cases o with
  | none =>
    cases o' with
    | none => rfl
    | some q => exact absurd h2.1 (h q ((hXY q h2.1).2 h2.2.1))
  | some p =>
    cases o' with
    | none => exact absurd h.1 (h2 p ((hXY p h.1).1 h.2.1))
    | some q => rw [BST_u hXY h h2]
theorem BS_skip {aim S : Nat} {T : Nat → Nat} {X X' : PT → Prop} {o : Option PT} (h : BS aim T S X o) (h1 : ∀ q, X q → X' q) (h2 : ∀ q, X' q → CAN T S q → X q) : BS aim T S X' o := by
  cases o with
  | none => exact fun q hq hc => h q (h2 q hq hc) hc
  | some p => exact ⟨h.1, h1 p h.2.1, fun q hq hc => h.2.2 q (h2 q hq hc) hc⟩
theorem BS_first {aim S : Nat} {T : Nat → Nat} {X X' : PT → Prop} {p : PT} (h : BS aim T S X none) (hp : CAN T S p) (h1 : X' p) (h2 : ∀ q, X' q → X q ∨ q = p) : BS aim T S X' (some p) :=
  ⟨hp, h1, fun q hq hc => by
    rcases h2 q hq with e | e
    · exact absurd hc (h q e)
    · subst e; exact Or.inr ⟨fun z => bet_as z z, Or.inr ⟨rfl, Nat.le_refl _⟩⟩⟩
theorem BS_new {aim S : Nat} {T : Nat → Nat} {X X' : PT → Prop} {p b : PT} (h : BS aim T S X (some b)) (hp : CAN T S p) (h1 : X' p) (h2 : ∀ q, X' q → X q ∨ q = p) (hb : bet aim T p b ∨ (¬ bet aim T p b ∧ ¬ bet aim T b p ∧ p.1 < b.1)) : BS aim T S X' (some p) :=
  ⟨hp, h1, fun q hq hc => by
    rcases h2 q hq with e | e
    · have o := h.2.2 q e hc
      rcases hb with hb | ⟨hb, hb2, hb3⟩
      · rcases bet_nt hb hc.2.2.1 with z | z
        · exact Or.inl z
        · rcases o with o | o
          · exact absurd z (bet_as o)
          · exact absurd z o.1
      · rcases o with o | ⟨o, ol⟩
        · rcases bet_nt o hp.2.2.1 with z | z
          · exact absurd z hb2
          · exact Or.inl z
        · refine Or.inr ⟨fun z => ?_, ?_⟩
          · rcases bet_nt z h.1.2.2.1 with y | y
            · exact o y
            · exact hb2 y
          · unfold lexle at ol ⊢; omega
    · subst e; exact Or.inr ⟨fun z => bet_as z z, Or.inr ⟨rfl, Nat.le_refl _⟩⟩⟩
theorem BS_old {aim S : Nat} {T : Nat → Nat} {X X' : PT → Prop} {p b : PT} (h : BS aim T S X (some b)) (h1 : ∀ q, X q → X' q) (h2 : ∀ q, X' q → X q ∨ q = p) (ho : ordr aim T b p) : BS aim T S X' (some b) :=
  ⟨h.1, h1 b h.2.1, fun q hq hc => by
    rcases h2 q hq with e | e
    · exact h.2.2 q e hc
    · subst e; exact ho⟩
theorem lsub_toInt {a b : Nat} (ha : a < 2 ^ 62) (hb : b < 2 ^ 62) : (lN a - lN b).toInt = (a : Int) - b := by
  have e : ∀ n : Nat, n < 2 ^ 62 → (lN n).toInt = (n : Int) := fun n hn => Int64.toInt_ofNat_of_lt (by omega)
  rw [Int64.toInt_sub, e a ha, e b hb]
  apply Int.bmod_eq_of_le <;> omega
theorem sgn {t : Int64} {d : Int} (h : t.toInt = d) : ((0 : Int64) < t ↔ 0 < d) ∧ (t = 0 ↔ d = 0) := by
  constructor
  · rw [Int64.lt_iff_toInt_lt, h, Int64.toInt_zero]
  · rw [← h]
    exact ⟨fun z => by rw [z, Int64.toInt_zero], fun z => Int64.toInt_inj.mp (by rw [z, Int64.toInt_zero])⟩
theorem adv_ok {aim : Nat} {T : Nat → Nat} {p b : PT} (ha : aim ≤ 1) (h1 : pU T p ≤ 1000000) (h2 : pW T p ≤ 1000000) (h3 : pU T b ≤ 1000000) (h4 : pW T b ≤ 1000000) : ∃ t : Int64, f_X7_advantage (nI aim) (nI (pU T p)) (nI (pW T p)) (nI (pU T b)) (nI (pW T b)) = some t ∧ ((0 : Int64) < t ↔ bet aim T p b) ∧ (t = 0 ↔ ¬ bet aim T p b ∧ ¬ bet aim T b p) := by
  unfold f_X7_advantage bet
  generalize pU T p = u at *
  generalize pW T p = w at *
  generalize pU T b = u' at *
  generalize pW T b = w' at *
  by_cases e : aim = 0
  · subst e
    rw [if_pos (show nI 0 = (0 : Int32) from rfl), if_pos rfl, if_pos rfl]
    have := sgn (t := (nI u - nI u').toInt64) (d := (u : Int) - u') (by rw [Int32.toInt_toInt64, pk_sub_toInt (by omega) (by omega)])
    refine ⟨_, rfl, this.1.trans (by omega), this.2.trans (by omega)⟩
  · rw [if_neg (show ¬ nI aim = (0 : Int32) from fun z => e ((nI_eq (b := 0) (by omega) (by omega)).mp z)), if_neg e, if_neg e, nI_l (by omega), nI_l (by omega), nI_l (by omega), nI_l (by omega), lN_mul, lN_mul]
    have m1 : w' * u ≤ 1000000 * 1000000 := Nat.mul_le_mul h4 h1
    have m2 : w * u' ≤ 1000000 * 1000000 := Nat.mul_le_mul h2 h3
    have := sgn (lsub_toInt (a := w' * u) (b := w * u') (by omega) (by omega))
    exact ⟨_, rfl, this.1.trans (by omega), this.2.trans (by omega)⟩
