/-! rights: reading -/
theorem sb_k : ∀ b : Fin 256, (b.val < 128 → (nI b.val).toInt8.toInt32 = nI b.val) ∧ (128 ≤ b.val → (nI b.val).toInt8.toInt32 < 0) := by decide +kernel
def sb (b : Nat) : Int32 := (nI b).toInt8.toInt32
theorem sb_lo {b : Nat} (h : b < 128) : sb b = nI b := (sb_k ⟨b, by omega⟩).1 h
theorem sb_hi {b : Nat} (h : 128 ≤ b) (h2 : b < 256) : (sb b).toInt < 0 := by
  have := (sb_k ⟨b, h2⟩).2 h
  rw [i_lt, Int32.toInt_zero] at this
  exact this
theorem sb_eq {b c : Nat} (hb : b < 256) (hc : c < 128) : sb b = nI c ↔ b = c := by
  rcases Nat.lt_or_ge b 128 with h | h
  · rw [sb_lo h, nI_eq (by omega) (by omega)]
  · constructor
    · intro z
      have := sb_hi h hb
      rw [z, nI_toInt (by omega)] at this
      omega
    · intro z; omega
theorem sb_lt {b c : Nat} (hb : b < 256) (hc : c < 128) : sb b < nI c ↔ b < c ∨ 128 ≤ b := by
  rcases Nat.lt_or_ge b 128 with h | h
  · rw [sb_lo h, nI_ltI (by omega) (by omega)]; omega
  · have := sb_hi h hb
    rw [i_lt, nI_toInt (by omega)]; omega
theorem sb_le {b c : Nat} (hb : b < 256) (hc : c < 128) : sb b ≤ nI c ↔ b ≤ c ∨ 128 ≤ b := by
  rcases Nat.lt_or_ge b 128 with h | h
  · rw [sb_lo h, nI_leI (by omega) (by omega)]; omega
  · have := sb_hi h hb
    rw [i_le, nI_toInt (by omega)]; omega
def DB (b : Nat → Nat) (L : Nat) (I : MI) : Prop := I 20 1 = nI L ∧ L ≤ 150 ∧ ∀ j, j < L → b j < 256 ∧ I 21 j = sb (b j)
def DMd (b : Nat → Nat) (L : Nat) (I : MI) : Prop := I 0 20 = nI L ∧ L ≤ 150 ∧ ∀ j, j < L → b j < 256 ∧ I 7 j = nI (b j)
def P20 (I I' : MI) : Prop := (∀ c', c' ≠ 20 → I' c' = I c') ∧ ∀ q, q ≠ 5 → q ≠ 6 → I' 20 q = I 20 q
theorem P20.rf (I : MI) : P20 I I := ⟨fun _ _ => rfl, fun _ _ _ => rfl⟩
theorem P20.tr {I I' I'' : MI} (h : P20 I I') (h2 : P20 I' I'') : P20 I I'' := ⟨fun c a => (h2.1 c a).trans (h.1 c a), fun q a b => (h2.2 q a b).trans (h.2 q a b)⟩
theorem P20.st {I : MI} {q : Nat} {x : Int32} (h : q = 5 ∨ q = 6) : P20 I (w2 I 20 q x) := ⟨fun c a => w2n a, fun r a b => w2j (by omega)⟩
theorem DB.go {b : Nat → Nat} {L : Nat} {I I' : MI} (h : DB b L I) (s : P20 I I') : DB b L I' := ⟨(s.2 1 (by decide) (by decide)).trans h.1, h.2.1, by rw [s.1 21 (by decide)]; exact h.2.2⟩
def P24 (I I' : MI) : Prop := (∀ c', c' ≠ 0 → I' c' = I c') ∧ ∀ q, q ≠ 24 → q ≠ 25 → q ≠ 26 → I' 0 q = I 0 q
theorem P24.rf (I : MI) : P24 I I := ⟨fun _ _ => rfl, fun _ _ _ _ => rfl⟩
theorem P24.tr {I I' I'' : MI} (h : P24 I I') (h2 : P24 I' I'') : P24 I I'' := ⟨fun c a => (h2.1 c a).trans (h.1 c a), fun q a b d => (h2.2 q a b d).trans (h.2 q a b d)⟩
theorem P24.st {I : MI} {q : Nat} {x : Int32} (h : q = 24 ∨ q = 25 ∨ q = 26) : P24 I (w2 I 0 q x) := ⟨fun c a => w2n a, fun r a b d => w2j (by omega)⟩
theorem DMd.go {b : Nat → Nat} {L : Nat} {I I' : MI} (h : DMd b L I) (s : P24 I I') : DMd b L I' := ⟨(s.2 20 (by decide) (by decide) (by decide)).trans h.1, h.2.1, by rw [s.1 7 (by decide)]; exact h.2.2⟩
/-- the class at a place: no fault yet, or a fault there -/
def AT (I : MI) (p : Nat) (ok : Bool) : Prop := I 20 5 = nI p ∧ I 20 6 = if ok = true then 0 else 1
theorem cSign {b : Nat → Nat} {L p c : Nat} {I : MI} {J : MJ} (h : DB b L I) (ha : AT I p true) (hp : p ≤ 150) (hc : c < 128) : ∃ I' : MI, f_X3_readSign I J (nI c) = some (I', J) ∧ P20 I I' ∧ ((p < L ∧ b p = c ∧ AT I' (p + 1) true) ∨ (¬ (p < L ∧ b p = c) ∧ AT I' p false)) := by
  obtain ⟨h1, h2, h3⟩ := h
  obtain ⟨a1, a2⟩ := ha
  unfold f_X3_readSign
  simp only [bnd_d]
  rw [a2, if_pos rfl, h1, a1]
  have f : ∃ I' : MI, some (w2 I 20 6 1, J) = some (I', J) ∧ P20 I I' ∧ AT I' p false := ⟨_, rfl, P20.st (Or.inr rfl), by rw [w2j (by decide)]; exact a1, by rw [w2k]; rfl⟩
  by_cases e : L ≤ p
  · rw [if_pos (nI_le e (by omega))]
    obtain ⟨I', q1, q2, q3⟩ := f
    exact ⟨I', q1, q2, Or.inr ⟨fun z => by omega, q3⟩⟩
  · obtain ⟨g1, g2⟩ := h3 p (by omega)
    rw [if_neg (nI_ge (by omega) (by omega)), inbI (by omega) (by omega), chk_t, nI_clamp (by omega), g2]
    by_cases e2 : b p = c
    · rw [if_pos ((sb_eq g1 hc).mpr e2)]
      exact ⟨_, rfl, P20.st (Or.inl rfl), Or.inl ⟨by omega, e2, by rw [w2k]; exact nI_1 p, by rw [w2j (by decide), a2]⟩⟩
    · rw [if_neg (fun z => e2 ((sb_eq g1 hc).mp z))]
      obtain ⟨I', q1, q2, q3⟩ := f
      exact ⟨I', q1, q2, Or.inr ⟨fun z => e2 z.2, q3⟩⟩
theorem cSign_f {p : Nat} {I : MI} {J : MJ} {x : Int32} (ha : AT I p false) : f_X3_readSign I J x = some (I, J) := by
  unfold f_X3_readSign
  rw [ha.2, if_neg (by decide)]
theorem cNum_f {p : Nat} {I : MI} {J : MJ} {x y : Int32} (ha : AT I p false) : f_X3_readNumber I J x y = some (0, I, J) := by
  unfold f_X3_readNumber
  rw [ha.2, if_neg (by decide)]
def isD (b : Nat → Nat) (L p : Nat) : Prop := p < L ∧ 48 ≤ b p ∧ b p ≤ 57
theorem digit_ok {b : Nat → Nat} {L p : Nat} {I : MI} {J : MJ} (h : DB b L I) (ha : I 20 5 = nI p) (hp : p ≤ 150) : (isD b L p ∧ f_X3_digitHere I J = some (nI (b p - 48))) ∨ (¬ isD b L p ∧ f_X3_digitHere I J = some (-9)) := by
  obtain ⟨h1, h2, h3⟩ := h
  unfold f_X3_digitHere isD
  rw [h1, ha]
  by_cases e : L ≤ p
  · rw [if_pos (nI_le e (by omega))]
    exact Or.inr ⟨fun z => by omega, rfl⟩
  · obtain ⟨g1, g2⟩ := h3 p (by omega)
    rw [if_neg (nI_ge (by omega) (by omega)), inbI (by omega) (by omega), chk_t, chk_t, chk_t, nI_clamp (by omega), g2]
    by_cases e2 : b p < 48 ∨ 128 ≤ b p
    · rw [if_pos (show sb (b p) < (48 : Int32) from (sb_lt (c := 48) g1 (by omega)).mpr e2)]
      exact Or.inr ⟨fun z => by omega, rfl⟩
    · rw [if_neg (show ¬ sb (b p) < (48 : Int32) from fun z => e2 ((sb_lt (c := 48) g1 (by omega)).mp z))]
      by_cases e3 : b p ≤ 57
      · rw [if_pos (show sb (b p) ≤ (57 : Int32) from (sb_le (c := 57) g1 (by omega)).mpr (Or.inl e3)), sb_lo (by omega), show nI (b p) - (48 : Int32) = nI (b p - 48) from pk_sub (b := 48) (by omega)]
        exact Or.inl ⟨⟨by omega, by omega, e3⟩, rfl⟩
      · rw [if_neg (show ¬ sb (b p) ≤ (57 : Int32) from fun z => by have := (sb_le (c := 57) g1 (by omega)).mp z; omega)]
        exact Or.inr ⟨fun z => by omega, rfl⟩
/-- the digits behind the first -/
def NL (b : Nat → Nat) (L most : Nat) : Nat → Nat → Nat → Bool → Nat → Nat → Prop
  | 0, p, v, ok, q, w => ¬ isD b L p ∧ ok = true ∧ q = p ∧ w = v
  | n + 1, p, v, ok, q, w => (¬ isD b L p ∧ ok = true ∧ q = p ∧ w = v) ∨ (isD b L p ∧ ¬ 10 * v + (b p - 48) ≤ most ∧ ok = false ∧ q = p ∧ w = 0) ∨ (isD b L p ∧ 10 * v + (b p - 48) ≤ most ∧ NL b L most n (p + 1) (10 * v + (b p - 48)) ok q w)
theorem NL_bd {b : Nat → Nat} {L most q w : Nat} {ok : Bool} : ∀ (n p v : Nat), NL b L most n p v ok q w → p ≤ q ∧ (p ≤ L → q ≤ L) ∧ (v ≤ most → w ≤ most) ∧ (ok = true → v ≤ w) ∧ (ok = true → ¬ isD b L q) := by
  intro n
  induction n with
  | zero =>
    intro p v h
    obtain ⟨h, rfl, rfl, rfl⟩ := h
    exact ⟨Nat.le_refl _, fun z => z, fun z => z, fun _ => Nat.le_refl _, fun _ => h⟩
  | succ n ih =>
    intro p v h
    rcases h with ⟨h, rfl, rfl, rfl⟩ | ⟨h, h2, rfl, rfl, rfl⟩ | ⟨h, h2, h3⟩
    · exact ⟨Nat.le_refl _, fun z => z, fun z => z, fun _ => Nat.le_refl _, fun _ => h⟩
    · exact ⟨Nat.le_refl _, fun z => z, fun z => Nat.zero_le _, fun z => (by cases z), fun z => (by cases z)⟩
    · have ih := ih _ _ h3
      exact ⟨by omega, fun z => ih.2.1 (by have := h.1; omega), fun _ => ih.2.2.1 h2, fun z => by have := ih.2.2.2.1 z; omega, ih.2.2.2.2⟩
theorem LP_rn48_s (n : Nat) (I : MI) (J : MJ) (x2 x3 : Int32) : LP_X3_readNumber_48 (n + 1) I J x2 x3 = LB_X3_readNumber_48 (LP_X3_readNumber_48 n) I J x2 x3 := rfl
theorem cls_nl {b : Nat → Nat} {L most : Nat} (hmost : most ≤ 9999) : ∀ (n m p v : Nat) (I : MI) (J : MJ), L ≤ p + n → n < m → p ≤ L → 0 < v → v ≤ most → DB b L I → AT I p true → ∃ (ok : Bool) (q w : Nat) (I' : MI), NL b L most n p v ok q w ∧ LP_X3_readNumber_48 m I J (nI most) (nI v) = some (nI w, I', J) ∧ P20 I I' ∧ AT I' q ok := by
  intro n
  induction n with
  | zero =>
    intro m p v I J hn hm hp hv hv2 h ha
    obtain ⟨m, rfl⟩ : ∃ z, m = z + 1 := ⟨m - 1, by omega⟩
    have hL := h.2.1
    rw [LP_rn48_s]
    unfold LB_X3_readNumber_48
    rw [h.1, ha.1, if_pos (nI_le (by omega) (by omega))]
    exact ⟨true, p, v, I, ⟨fun z => (by have := z.1; omega), rfl, rfl, rfl⟩, rfl, P20.rf I, ha⟩
  | succ n ih =>
    intro m p v I J hn hm hp hv hv2 h ha
    obtain ⟨m, rfl⟩ : ∃ z, m = z + 1 := ⟨m - 1, by omega⟩
    have hL := h.2.1
    rw [LP_rn48_s]
    unfold LB_X3_readNumber_48
    simp only [bnd_d]
    rcases digit_ok (J := J) h ha.1 (by omega) with ⟨d1, d2⟩ | ⟨d1, d2⟩
    · have d1' := d1
      unfold isD at d1'
      rw [h.1, ha.1, if_neg (nI_ge (by omega) (by omega)), if_neg (nI_nle hv (by omega)), d2, bo1_s, if_pos (nI_pos' (by omega)), show (10 : Int32) = nI 10 from rfl, pk_mul, nI_add]
      by_cases e : 10 * v + (b p - 48) ≤ most
      · rw [if_pos (nI_le e (by omega)), show nI p + (1 : Int32) = nI (p + 1) from nI_1 p]
        have s : P20 I (w2 I 20 5 (nI (p + 1))) := P20.st (Or.inl rfl)
        obtain ⟨ok, q, w, I', g1, g2, g3, g4⟩ := ih m (p + 1) (10 * v + (b p - 48)) (w2 I 20 5 (nI (p + 1))) J (by omega) (by omega) (by omega) (by omega) e (h.go s) ⟨w2k, by rw [w2j (by decide)]; exact ha.2⟩
        exact ⟨ok, q, w, I', Or.inr (Or.inr ⟨d1, e, g1⟩), g2, s.tr g3, g4⟩
      · rw [if_neg (nI_ge (by omega) (by omega))]
        exact ⟨false, p, 0, _, Or.inr (Or.inl ⟨d1, e, rfl, rfl, rfl⟩), rfl, P20.st (Or.inr rfl), by rw [w2j (by decide)]; exact ha.1, by rw [w2k]; rfl⟩
    · rw [h.1, ha.1]
      by_cases e : L ≤ p
      · rw [if_pos (nI_le e (by omega))]
        exact ⟨true, p, v, I, Or.inl ⟨d1, rfl, rfl, rfl⟩, rfl, P20.rf I, ha⟩
      · rw [if_neg (nI_ge (by omega) (by omega)), if_neg (nI_nle hv (by omega)), d2, bo1_s, if_neg (by decide)]
        exact ⟨true, p, v, I, Or.inl ⟨d1, rfl, rfl, rfl⟩, rfl, P20.rf I, ha⟩
/-- a number: its first digit, and those behind it -/
def NM (b : Nat → Nat) (L most lo p : Nat) (ok : Bool) (q w : Nat) : Prop :=
  (¬ (isD b L p ∧ lo ≤ b p - 48 ∧ b p - 48 ≤ most) ∧ ok = false ∧ q = p ∧ w = 0) ∨
  ((isD b L p ∧ lo ≤ b p - 48 ∧ b p - 48 ≤ most) ∧ ((b p = 48 ∧ ok = true ∧ q = p + 1 ∧ w = 0) ∨ (b p ≠ 48 ∧ NL b L most 150 (p + 1) (b p - 48) ok q w)))
theorem cNum {b : Nat → Nat} {L most lo p : Nat} {I : MI} {J : MJ} (hmost : most ≤ 9999) (hlo : lo ≤ 1) (h : DB b L I) (ha : AT I p true) (hp : p ≤ L) : ∃ (ok : Bool) (q w : Nat) (I' : MI), NM b L most lo p ok q w ∧ f_X3_readNumber I J (nI lo) (nI most) = some (nI w, I', J) ∧ P20 I I' ∧ AT I' q ok := by
  have hL := h.2.1
  have f : ∃ I' : MI, some ((0 : Int32), w2 I 20 6 1, J) = some (nI 0, I', J) ∧ P20 I I' ∧ AT I' p false := ⟨_, rfl, P20.st (Or.inr rfl), by rw [w2j (by decide)]; exact ha.1, by rw [w2k]; rfl⟩
  obtain ⟨I0, f1, f2, f3⟩ := f
  unfold f_X3_readNumber
  simp only [bnd_d]
  rw [ha.2, if_pos (show (if true = true then (0 : Int32) else 1) = 0 from rfl)]
  rcases digit_ok (J := J) h ha.1 (by omega) with ⟨d1, d2⟩ | ⟨d1, d2⟩
  · have d1' := d1
    unfold isD at d1'
    rw [d2, bo1_s, if_neg (nI_pos (by omega))]
    by_cases e : most < b p - 48
    · rw [if_pos (nI_lt e (by omega))]
      exact ⟨false, p, 0, I0, Or.inl ⟨fun z => by omega, rfl, rfl, rfl⟩, f1, f2, f3⟩
    · rw [if_neg (nI_nlt (by omega) (by omega))]
      have s : P20 I (w2 I 20 5 (nI (p + 1))) := P20.st (Or.inl rfl)
      have a1 : AT (w2 I 20 5 (nI (p + 1))) (p + 1) true := ⟨w2k, by rw [w2j (by decide)]; exact ha.2⟩
      rw [ha.1, show nI p + (1 : Int32) = nI (p + 1) from nI_1 p]
      by_cases e0 : b p = 48
      · have z0 : b p - 48 = 0 := by omega
        rw [if_pos (show nI (b p - 48) = (0 : Int32) by rw [z0]; rfl)]
        by_cases el : lo = 0
        · rw [if_pos (show nI lo ≤ (0 : Int32) by rw [el]; decide)]
          refine ⟨true, p + 1, 0, _, Or.inr ⟨⟨d1, by omega, by omega⟩, Or.inl ⟨e0, rfl, rfl, rfl⟩⟩, ?_, s, a1⟩
          obtain ⟨m, hm⟩ : ∃ f, FU = f + 1 := ⟨3999, FU_eq⟩
          rw [z0, hm, LP_rn48_s]
          unfold LB_X3_readNumber_48
          by_cases eq1 : w2 I 20 5 (nI (p + 1)) 20 1 ≤ w2 I 20 5 (nI (p + 1)) 20 5
          · rw [if_pos eq1]
          · rw [if_neg eq1, if_pos (show nI 0 ≤ (0 : Int32) by decide)]
        · rw [if_neg (show ¬ nI lo ≤ (0 : Int32) from nI_nle (by omega) (by omega))]
          exact ⟨false, p, 0, I0, Or.inl ⟨fun z => by omega, rfl, rfl, rfl⟩, f1, f2, f3⟩
      · rw [if_neg (show ¬ nI (b p - 48) = (0 : Int32) from nI_ne0 (by omega) (by omega))]
        obtain ⟨ok, q, w, I', g1, g2, g3, g4⟩ := cls_nl hmost 150 FU (p + 1) (b p - 48) (w2 I 20 5 (nI (p + 1))) J (by omega) (by rw [FU_eq]; omega) (by omega) (by omega) (by omega) (h.go s) a1
        exact ⟨ok, q, w, I', Or.inr ⟨⟨d1, by omega, by omega⟩, Or.inr ⟨e0, g1⟩⟩, g2, s.tr g3, g4⟩
  · rw [d2, bo1_s, if_pos (by decide)]
    exact ⟨false, p, 0, I0, Or.inl ⟨fun z => d1 z.1, rfl, rfl, rfl⟩, f1, f2, f3⟩
theorem NM_bd {b : Nat → Nat} {L most lo p q w : Nat} {ok : Bool} (h : NM b L most lo p ok q w) (hp : p ≤ L) : p ≤ q ∧ q ≤ L ∧ w ≤ most ∧ (ok = true → p < q ∧ lo ≤ w) ∧ (ok = true → (w = 0 ∧ b p = 48) ∨ ¬ isD b L q) := by
  rcases h with ⟨_, rfl, rfl, rfl⟩ | ⟨⟨hd, h1, h2⟩, ⟨h3, rfl, rfl, rfl⟩ | ⟨h3, h4⟩⟩
  · exact ⟨Nat.le_refl _, hp, Nat.zero_le _, fun z => (by cases z), fun z => (by cases z)⟩
  · have := hd.1
    exact ⟨by omega, by omega, Nat.zero_le _, fun _ => ⟨by omega, by omega⟩, fun _ => Or.inl ⟨rfl, h3⟩⟩
  · have := hd.1
    have := hd.2.1
    obtain ⟨a, b', c, d, e⟩ := NL_bd _ _ _ h4
    exact ⟨by omega, b' (by omega), c h2, fun z => ⟨by omega, by have := d z; omega⟩, fun z => Or.inr (e z)⟩
