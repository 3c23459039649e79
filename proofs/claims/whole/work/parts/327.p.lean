/-! rights: an item, all items -/
theorem LP_ri93_s (n : Nat) (I : MI) (J : MJ) (x1 x3 x4 x5 : Int32) : LP_X3_readItem_93 (n + 1) I J x1 x3 x4 x5 = LB_X3_readItem_93 (LP_X3_readItem_93 n) I J x1 x3 x4 x5 := rfl
theorem c93_f {q : Nat} {I : MI} {J : MJ} (ha : AT I q false) (x1 x3 x4 x5 : Int32) : LP_X3_readItem_93 FU I J x1 x3 x4 x5 = some (I, J) := by
  obtain ⟨f, hf⟩ : ∃ f, FU = f + 1 := ⟨3999, FU_eq⟩
  rw [hf, LP_ri93_s]
  unfold LB_X3_readItem_93
  rw [ha.2, if_neg (show ¬ (if false = true then (0 : Int32) else 1) = 0 by decide)]
  by_cases e : x3 ≤ x5
  · rw [if_pos e]
  · rw [if_neg e]
theorem t68 {q : Nat} {I : MI} {J : MJ} (ha : AT I q false) (x1 x2 x3 : Int32) : LB_X3_readItem_68 I J x1 x2 x3 = some (I, J) := by
  unfold LB_X3_readItem_68
  rw [cSign_f ha, bo2_s, cNum_f ha, bo3_s, cSign_f ha, bo2_s, c93_f ha]
theorem tif {q : Nat} {I : MI} {J : MJ} {o : Option (MI × MJ)} (ha : AT I q false) (x1 x2 x3 : Int32) : (if I 20 6 = (0 : Int32) then o else LB_X3_readItem_68 I J x1 x2 x3) = some (I, J) := by
  rw [ha.2, if_neg (show ¬ (if false = true then (0 : Int32) else 1) = 0 by decide), t68 ha]
def P23 (I I' : MI) : Prop := (∀ c', c' ≠ 20 → c' ≠ 23 → I' c' = I c') ∧ ∀ q, q ≠ 5 → q ≠ 6 → I' 20 q = I 20 q
theorem P23.of {I I' : MI} (h : P20 I I') : P23 I I' := ⟨fun c a _ => h.1 c a, h.2⟩
theorem P23.tr {I I' I'' : MI} (h : P23 I I') (h2 : P23 I' I'') : P23 I I'' := ⟨fun c a b => (h2.1 c a b).trans (h.1 c a b), fun q a b => (h2.2 q a b).trans (h.2 q a b)⟩
theorem P23.rf (I : MI) : P23 I I := P23.of (P20.rf I)
theorem DB.go3 {b : Nat → Nat} {L : Nat} {I I' : MI} (h : DB b L I) (s : P23 I I') : DB b L I' := ⟨(s.2 1 (by decide) (by decide)).trans h.1, h.2.1, by rw [s.1 21 (by decide) (by decide)]; exact h.2.2⟩
/-- the reference, while it reads item x -/
def P9 (x : Nat) (I I' : MI) : Prop := (∀ c', c' ≠ 0 → c' ≠ 9 → I' c' = I c') ∧ (∀ q, q ≠ 24 → q ≠ 25 → q ≠ 26 → I' 0 q = I 0 q) ∧ ∀ j, j < 4 * x → I' 9 j = I 9 j
theorem P9.of {x : Nat} {I I' : MI} (h : P24 I I') : P9 x I I' := ⟨fun c a _ => h.1 c a, h.2, fun j _ => by rw [h.1 9 (by decide)]⟩
theorem P9.tr {x : Nat} {I I' I'' : MI} (h : P9 x I I') (h2 : P9 x I' I'') : P9 x I I'' := ⟨fun c a b => (h2.1 c a b).trans (h.1 c a b), fun q a b d => (h2.2.1 q a b d).trans (h.2.1 q a b d), fun j hj => (h2.2.2 j hj).trans (h.2.2 j hj)⟩
theorem P9.st {x k : Nat} {I : MI} {v : Int32} (h : 4 * x ≤ k) : P9 x I (w2 I 9 k v) := ⟨fun c _ b => w2n b, fun q _ _ _ => by rw [w2n (by decide)], fun j hj => w2j (by omega)⟩
theorem DMd.go9 {b : Nat → Nat} {L x : Nat} {I I' : MI} (h : DMd b L I) (s : P9 x I I') : DMd b L I' := ⟨(s.2.1 20 (by decide) (by decide) (by decide)).trans h.1, h.2.1, by rw [s.1 7 (by decide) (by decide)]; exact h.2.2⟩
theorem add_loop {F A B G : Nat} (hF : F < 5) (hB24 : B ≤ 24) {q : Nat} {J : MJ} : ∀ (n m h : Nat) (I : MI), h + n = B → n < m → AT I q true → ∃ I' : MI, LP_X3_readItem_93 m I J (nI F) (nI B) (nI G) (nI h) = some (I', J) ∧ (∀ c', c' ≠ 23 → I' c' = I c') ∧ ∀ f k, f < 5 → k < 24 → I' 23 (24 * f + k) = if F = f ∧ h ≤ k ∧ k < B then I 23 (24 * f + k) + nI G else I 23 (24 * f + k) := by
  intro n
  induction n with
  | zero =>
    intro m h I hn hm ha
    obtain ⟨m, rfl⟩ : ∃ z, m = z + 1 := ⟨m - 1, by omega⟩
    rw [LP_ri93_s]
    unfold LB_X3_readItem_93
    rw [if_pos (nI_le (by omega) (by omega))]
    exact ⟨I, rfl, fun _ _ => rfl, fun f k hf hk => by rw [if_neg (by omega)]⟩
  | succ n ih =>
    intro m h I hn hm ha
    obtain ⟨m, rfl⟩ : ∃ z, m = z + 1 := ⟨m - 1, by omega⟩
    rw [LP_ri93_s]
    unfold LB_X3_readItem_93
    simp only [bnd_d]
    rw [if_neg (nI_ge (by omega) (by omega)), ha.2, if_pos (show (if true = true then (0 : Int32) else 1) = 0 from rfl), show (24 : Int32) = nI 24 from rfl, pk_mul, nI_add, inbI (by omega) (by omega), chk_t, chk_t, nI_clamp (by omega), show F * 24 + h = 24 * F + h by omega, show nI h + (1 : Int32) = nI (h + 1) from nI_1 h]
    obtain ⟨I', g1, g2, g3⟩ := ih m (h + 1) (w2 I 23 (24 * F + h) (I 23 (24 * F + h) + nI G)) (by omega) (by omega) ⟨by rw [w2n (by decide)]; exact ha.1, by rw [w2n (by decide)]; exact ha.2⟩
    refine ⟨I', g1, fun c' z => by rw [g2 c' z, w2n z], fun f k hf hk => ?_⟩
    rw [g3 f k hf hk, w2c]
    by_cases e : F = f ∧ h = k
    · obtain ⟨rfl, rfl⟩ := e
      rw [if_neg (by omega), if_pos rfl, if_pos (by omega)]
    · have : ¬ 24 * f + k = 24 * F + h := fun z => e (by omega)
      rw [if_neg this]
      by_cases e2 : F = f ∧ h + 1 ≤ k ∧ k < B
      · rw [if_pos e2, if_pos (by omega)]
      · rw [if_neg e2, if_neg (fun z => e2 ⟨z.1, by
          by_cases e3 : h = k
          · exact absurd ⟨z.1, e3⟩ e
          · omega, z.2.2⟩)]
def ITEM (b : Nat → Nat) (L x p : Nat) (IB : MI) (JB : MJ) (IM : MI) (JM : MJ) : Prop := ∃ IB' IM' : MI, f_X3_readItem IB JB = some (IB', JB) ∧ P9 x IM IM' ∧ P23 IB IB' ∧
  ((∃ e : Nat, e ≤ L ∧ f_X8_readsItem IM JM (nI (4 * x)) = some (0, IM', JM) ∧ AT IB' e false ∧ IM' 0 26 = nI e) ∨
   (∃ F A B G q : Nat, F < 5 ∧ A < B ∧ B ≤ 24 ∧ G ≤ 9999 ∧ q ≤ L ∧ p < q ∧ f_X8_readsItem IM JM (nI (4 * x)) = some (1, IM', JM) ∧ AT IB' q true ∧ IM' 0 24 = nI q ∧ IM' 9 (4 * x) = nI F ∧ IM' 9 (4 * x + 1) = nI A ∧ IM' 9 (4 * x + 2) = nI B ∧ IM' 9 (4 * x + 3) = nI G ∧ ∀ f k, f < 5 → k < 24 → IB' 23 (24 * f + k) = if F = f ∧ A ≤ k ∧ k < B then IB 23 (24 * f + k) + nI G else IB 23 (24 * f + k)))
theorem item_sim {b : Nat → Nat} {L x p : Nat} {IB IM : MI} {JB JM : MJ} (hB : DB b L IB) (hM : DMd b L IM) (ha : AT IB p true) (hm : IM 0 24 = nI p) (hp : p ≤ L) (hx : x < 12) : ITEM b L x p IB JB IM JM := by
  have hL := hB.2.1
  unfold ITEM f_X3_readItem f_X8_readsItem
  simp only [bnd_d, in_wd]
  -- f
  obtain ⟨I1, M1, a1, a2, a3, a4⟩ := sgn_sim (JB := JB) (JM := JM) (c := 102) hB hM ha hm hp (by omega)
  change f_X3_readSign IB JB 102 = _ at a1
  change (f_X8_sign IM JM 102 = _ ∧ _) ∨ (f_X8_sign IM JM 102 = _ ∧ _) at a4
  rw [a1, bo2_s]
  rcases a4 with ⟨b1, b2, b3, b4, -⟩ | ⟨b1, b2, b3, -⟩
  case inr =>
    rw [b1, bo3_s, if_pos rfl, cNum_f b2, bo3_s, cSign_f b2, bo2_s, cNum_f b2, bo3_s, cSign_f b2, bo2_s, cNum_f b2, bo3_s, tif b2]
    exact ⟨I1, M1, rfl, P9.of a3, P23.of a2, Or.inl ⟨p, hp, rfl, b2, b3⟩⟩
  rw [b1, bo3_s, if_neg (by decide)]
  have hB1 := hB.go a2
  have hM1 := hM.go a3
  -- the farm
  obtain ⟨ok, q, F, I2, c1, c2, c3, c4⟩ := cNum (J := JB) (most := 4) (lo := 0) (by omega) (by omega) hB1 b2 (by omega)
  change f_X3_readNumber I1 JB 0 4 = _ at c2
  rw [c2, bo3_s]
  have e52 := mIn (J := JM) hM1 b3 (show p + 1 ≤ L by omega) (lo := 48) (hi := 52) (by omega) (by omega)
  rw [byteAt_ok hM1 b3 (by omega)] at e52 ⊢
  rw [bo1_s] at e52
  change f_X7_within _ 48 52 = _ at e52
  rw [bo1_s, e52, bo1_s, bo1_s]
  have farm : ¬ (isD b L (p + 1) ∧ b (p + 1) - 48 ≤ 4) → ok = false ∧ q = p + 1 ∧ F = 0 := by
    intro hn
    rcases c1 with ⟨-, z1, z2, z3⟩ | ⟨⟨z1, -, z2⟩, -⟩
    · exact ⟨z1, z2, z3⟩
    · exact absurd ⟨z1, z2⟩ hn
  by_cases hd : isD b L (p + 1) ∧ b (p + 1) - 48 ≤ 4
  case neg =>
    obtain ⟨rfl, rfl, rfl⟩ := farm hd
    rw [if_neg (show ¬ (p + 1 < L ∧ 48 ≤ b (p + 1) ∧ b (p + 1) ≤ 52) from fun z => hd ⟨⟨z.1, by omega, by omega⟩, by omega⟩), if_pos rfl, b3, cSign_f c4, bo2_s, cNum_f c4, bo3_s, cSign_f c4, bo2_s, cNum_f c4, bo3_s, tif c4]
    exact ⟨I2, _, rfl, P9.of (a3.tr (P24.st (Or.inr (Or.inr rfl)))), P23.of (a2.tr c3), Or.inl ⟨p + 1, by omega, rfl, c4, w2k⟩⟩
  have hd1 := hd.1
  unfold isD at hd1
  have dd := hd.2
  rw [if_pos (show p + 1 < L ∧ 48 ≤ b (p + 1) ∧ b (p + 1) ≤ 52 from ⟨hd1.1, by omega, by omega⟩), if_neg (show ¬ (1 : Int32) = 0 by decide), if_pos hd1.1, inbI (show 4 * x < 52 by omega) (by omega), chk_t, nI_clamp (by omega), show nI (b (p + 1)) - (48 : Int32) = nI (b (p + 1) - 48) from pk_sub (b := 48) (by omega), w2n (show 0 ≠ 9 by decide), b3, show nI (p + 1) + (1 : Int32) = nI (p + 2) from nI_1 (p + 1)]
  have s2 : P9 x M1 (w2 (w2 M1 9 (4 * x) (nI (b (p + 1) - 48))) 0 24 (nI (p + 2))) := (P9.st (by omega)).tr (P9.of (P24.st (Or.inl rfl)))
  have m2 : w2 (w2 M1 9 (4 * x) (nI (b (p + 1) - 48))) 0 24 (nI (p + 2)) 0 24 = nI (p + 2) := w2k
  have f2 : w2 (w2 M1 9 (4 * x) (nI (b (p + 1) - 48))) 0 24 (nI (p + 2)) 9 (4 * x) = nI (b (p + 1) - 48) := by rw [w2n (by decide), w2k]
  generalize w2 (w2 M1 9 (4 * x) (nI (b (p + 1) - 48))) 0 24 (nI (p + 2)) = M2 at s2 m2 f2 ⊢
  have hM2 := hM1.go9 s2
  have s20 : P9 x IM M2 := (P9.of a3).tr s2
  have far : (ok = true ∧ q = p + 2 ∧ F = b (p + 1) - 48) ∨ (ok = false ∧ q = p + 2 ∧ F = 0 ∧ isD b L (p + 2)) := by
    rcases c1 with ⟨z1, -⟩ | ⟨-, ⟨z1, z2, z3, z4⟩ | ⟨z1, z2⟩⟩
    · exact absurd ⟨hd.1, by omega, hd.2⟩ z1
    · exact Or.inl ⟨z2, z3, by omega⟩
    · rcases z2 with ⟨-, y1, y2, y3⟩ | ⟨y0, -, y1, y2, y3⟩ | ⟨y0, y1, -⟩
      · exact Or.inl ⟨y1, y2, y3⟩
      · exact Or.inr ⟨y1, y2, y3, y0⟩
      · omega
  -- a blank
  rcases far with ⟨rfl, rfl, rfl⟩ | ⟨rfl, rfl, rfl, hd2⟩
  case inr =>
    have es : f_X8_sign M2 JM 32 = some (0, w2 M2 0 26 (nI (p + 2)), JM) := by
      have hd2' := hd2
      unfold isD at hd2'
      unfold f_X8_sign
      simp only [bnd_d]
      rw [byteAt_ok hM2 m2 (by omega), bo1_s, if_pos hd2.1, if_neg (show ¬ nI (b (p + 2)) = (32 : Int32) from fun z => by have := (nI_eq (b := 32) (by omega) (by omega)).mp z; omega), m2]
    rw [es, bo3_s, if_pos rfl, cSign_f c4, bo2_s, cNum_f c4, bo3_s, cSign_f c4, bo2_s, cNum_f c4, bo3_s, tif c4]
    exact ⟨I2, _, rfl, s20.tr (P9.of (P24.st (Or.inr (Or.inr rfl)))), P23.of (a2.tr c3), Or.inl ⟨p + 2, by have := hd2.1; omega, rfl, c4, w2k⟩⟩
  have hB2 := hB1.go c3
  obtain ⟨I3, M3, d1, d2, d3, d4⟩ := sgn_sim (JB := JB) (JM := JM) (c := 32) hB2 hM2 c4 m2 (by omega) (by omega)
  change f_X3_readSign I2 JB 32 = _ at d1
  change (f_X8_sign M2 JM 32 = _ ∧ _) ∨ (f_X8_sign M2 JM 32 = _ ∧ _) at d4
  have s3 : P9 x IM M3 := s20.tr (P9.of d3)
  have t3 : P20 IB I3 := (a2.tr c3).tr d2
  rw [d1, bo2_s]
  rcases d4 with ⟨e1, e2, e3, e4, -⟩ | ⟨e1, e2, e3, -⟩
  case inr =>
    rw [e1, bo3_s, if_pos rfl, cNum_f e2, bo3_s, cSign_f e2, bo2_s, cNum_f e2, bo3_s, tif e2]
    exact ⟨I3, M3, rfl, s3, P23.of t3, Or.inl ⟨p + 2, by omega, rfl, e2, e3⟩⟩
  rw [e1, bo3_s, if_neg (by decide)]
  have hB3 := hB.go t3
  have hM3 := hM.go9 s3
  have f3 : M3 9 (4 * x) = nI (b (p + 1) - 48) := by rw [d3.1 9 (by decide)]; exact f2
  -- from
  obtain ⟨ok, q, A, I4, M4, g1, g2, g3, g4, g5, g6, g7⟩ := num_sim (JB := JB) (JM := JM) (most := 23) (lo := 0) (-1) (by omega) (by omega) (by omega) hB3 hM3 e2 e3 (by omega)
  change f_X3_readNumber I3 JB 0 23 = _ at g1
  have t4 : P20 IB I4 := t3.tr g2
  have hB4 := hB.go t4
  rw [g1, bo3_s]
  rcases g7 with ⟨g8, ⟨rfl, g9, g10⟩ | ⟨-, g9, -⟩ | ⟨rfl, -, g9, g10, g11⟩⟩ | ⟨rfl, g8, g9, g10, g11, g12⟩
  · change f_X8_reads M3 JM 48 23 (-1) = _ at g9
    rw [g9, bo3_s, if_pos rfl, cSign_f g3, bo2_s, cNum_f g3, bo3_s, tif g3]
    exact ⟨I4, M4, rfl, s3.tr (P9.of g8), P23.of t4, Or.inl ⟨q, g4, rfl, g3, g10⟩⟩
  · exact absurd (show (-1 : Int32) < nI A by rw [i_lt, nI_toInt (by omega), show (-1 : Int32).toInt = -1 from rfl]; omega) g9
  · change f_X8_reads M3 JM 48 23 (-1) = _ at g9
    rw [g9, bo3_s, if_neg (by decide), show nI (4 * x) + (1 : Int32) = nI (4 * x + 1) from nI_1 _, inbI (show 4 * x + 1 < 52 by omega) (by omega), chk_t, nI_clamp (show 4 * x + 1 < 2 ^ 31 by omega), g11]
    have s4 : P9 x IM (w2 M4 9 (4 * x + 1) (nI A)) := s3.tr ((P9.of g8).tr (P9.st (by omega)))
    have m4 : w2 M4 9 (4 * x + 1) (nI A) 0 24 = nI q := by rw [w2n (by decide)]; exact g10
    have f4 : w2 M4 9 (4 * x + 1) (nI A) 9 (4 * x) = nI (b (p + 1) - 48) ∧ w2 M4 9 (4 * x + 1) (nI A) 9 (4 * x + 1) = nI A := by
      rw [w2j (by omega), w2k, g8.1 9 (by decide)]; exact ⟨f3, rfl⟩
    generalize w2 M4 9 (4 * x + 1) (nI A) = M5 at s4 m4 f4 ⊢
    -- a stroke
    obtain ⟨I5, M6, h1, h2, h3, h4⟩ := sgn_sim (JB := JB) (JM := JM) (c := 45) hB4 (hM.go9 s4) g3 m4 g4 (by omega)
    change f_X3_readSign I4 JB 45 = _ at h1
    change (f_X8_sign M5 JM 45 = _ ∧ _) ∨ (f_X8_sign M5 JM 45 = _ ∧ _) at h4
    have s6 : P9 x IM M6 := s4.tr (P9.of h3)
    have t5 : P20 IB I5 := t4.tr h2
    rw [h1, bo2_s]
    rcases h4 with ⟨i1, i2, i3, i4, -⟩ | ⟨i1, i2, i3, -⟩
    case inr =>
      rw [i1, bo3_s, if_pos rfl, cNum_f i2, bo3_s, tif i2]
      exact ⟨I5, M6, rfl, s6, P23.of t5, Or.inl ⟨q, g4, rfl, i2, i3⟩⟩
    have f6 : M6 9 (4 * x) = nI (b (p + 1) - 48) ∧ M6 9 (4 * x + 1) = nI A := by rw [h3.1 9 (by decide)]; exact f4
    rw [i1, bo3_s, if_neg (by decide), chk_t, f6.2]
    -- to
    obtain ⟨ok, r, B, I6, M7, j1, j2, j3, j4, j5, j6, j7⟩ := num_sim (JB := JB) (JM := JM) (most := 24) (lo := 1) (nI A) (by omega) (by omega) (by omega) (hB.go t5) (hM.go9 s6) i2 i3 (by omega)
    change f_X3_readNumber I5 JB 1 24 = _ at j1
    have t6 : P20 IB I6 := t5.tr j2
    rw [j1, bo3_s]
    rcases j7 with ⟨j8, ⟨rfl, j9, j10⟩ | ⟨rfl, j9, j10, j11⟩ | ⟨rfl, j9, j10, j11, j12⟩⟩ | ⟨rfl, j8, -⟩
    · change f_X8_reads M6 JM 49 24 (nI A) = _ at j9
      rw [j9, bo3_s, if_pos rfl, tif j3]
      exact ⟨I6, M7, rfl, s6.tr (P9.of j8), P23.of t6, Or.inl ⟨r, j4, rfl, j3, j10⟩⟩
    · change f_X8_reads M6 JM 49 24 (nI A) = _ at j10
      have jr := j6 rfl
      rw [j10, bo3_s, if_pos rfl, j3.2, if_pos (show (if true = true then (0 : Int32) else 1) = 0 from rfl), if_neg j9, w2j (show 5 ≠ 6 by decide), j3.1, show nI r - (1 : Int32) = nI (r - 1) from pk_sub (b := 1) (by omega)]
      have at' : AT (w2 (w2 I6 20 6 1) 20 5 (nI (r - 1))) (r - 1) false := ⟨w2k, by rw [w2j (by decide), w2k]; rfl⟩
      rw [t68 at']
      exact ⟨_, M7, rfl, s6.tr (P9.of j8), P23.of (t6.tr ((P20.st (Or.inr rfl)).tr (P20.st (Or.inl rfl)))), Or.inl ⟨r - 1, by omega, rfl, at', j11⟩⟩
    · change f_X8_reads M6 JM 49 24 (nI A) = _ at j10
      have jr := j6 rfl
      have hAB : A < B := (nI_ltI (by omega) (by omega)).mp j9
      rw [j10, bo3_s, if_neg (show ¬ (1 : Int32) = 0 by decide), show (2 : Int32) = nI 2 from rfl, nI_add, inbI (show 4 * x + 2 < 52 by omega) (by omega), chk_t, nI_clamp (show 4 * x + 2 < 2 ^ 31 by omega), j12, j3.2, if_pos (show (if true = true then (0 : Int32) else 1) = 0 from rfl), if_pos j9]
      have s7 : P9 x IM (w2 M7 9 (4 * x + 2) (nI B)) := s6.tr ((P9.of j8).tr (P9.st (by omega)))
      have m7 : w2 M7 9 (4 * x + 2) (nI B) 0 24 = nI r := by rw [w2n (by decide)]; exact j11
      have f7 : w2 M7 9 (4 * x + 2) (nI B) 9 (4 * x) = nI (b (p + 1) - 48) ∧ w2 M7 9 (4 * x + 2) (nI B) 9 (4 * x + 1) = nI A ∧ w2 M7 9 (4 * x + 2) (nI B) 9 (4 * x + 2) = nI B := by
        rw [w2j (by omega), w2j (by omega), w2k, j8.1 9 (by decide)]; exact ⟨f6.1, f6.2, rfl⟩
      generalize w2 M7 9 (4 * x + 2) (nI B) = M8 at s7 m7 f7 ⊢
      unfold LB_X3_readItem_68
      -- a colon
      obtain ⟨I7, M9, k1, k2, k3, k4⟩ := sgn_sim (JB := JB) (JM := JM) (c := 58) (hB.go t6) (hM.go9 s7) j3 m7 j4 (by omega)
      change f_X3_readSign I6 JB 58 = _ at k1
      change (f_X8_sign M8 JM 58 = _ ∧ _) ∨ (f_X8_sign M8 JM 58 = _ ∧ _) at k4
      have s9 : P9 x IM M9 := s7.tr (P9.of k3)
      have t7 : P20 IB I7 := t6.tr k2
      rw [k1, bo2_s]
      rcases k4 with ⟨l1, l2, l3, l4, -⟩ | ⟨l1, l2, l3, -⟩
      case inr =>
        rw [l1, bo3_s, if_pos rfl, cNum_f l2, bo3_s, cSign_f l2, bo2_s, c93_f l2]
        exact ⟨I7, M9, rfl, s9, P23.of t7, Or.inl ⟨r, j4, rfl, l2, l3⟩⟩
      rw [l1, bo3_s, if_neg (by decide)]
      have f9 : M9 9 (4 * x) = nI (b (p + 1) - 48) ∧ M9 9 (4 * x + 1) = nI A ∧ M9 9 (4 * x + 2) = nI B := by rw [k3.1 9 (by decide)]; exact f7
      -- litres
      obtain ⟨ok, u, G, I8, M10, n1, n2, n3, n4, n5, n6, n7⟩ := num_sim (JB := JB) (JM := JM) (most := 9999) (lo := 1) (0) (by omega) (by omega) (by omega) (hB.go t7) (hM.go9 s9) l2 l3 (by omega)
      change f_X3_readNumber I7 JB 1 9999 = _ at n1
      have t8 : P20 IB I8 := t7.tr n2
      rw [n1, bo3_s]
      rcases n7 with ⟨n8, ⟨rfl, n9', n10⟩ | ⟨rfl, n9', n10, n11⟩ | ⟨rfl, n9', n10, n11, n12⟩⟩ | ⟨rfl, n8, -⟩
      · change f_X8_reads M9 JM 49 9999 0 = _ at n9'
        rw [n9', bo3_s, if_pos rfl, cSign_f n3, bo2_s, c93_f n3]
        exact ⟨I8, M10, rfl, s9.tr (P9.of n8), P23.of t8, Or.inl ⟨u, n4, rfl, n3, n10⟩⟩
      · have := (n6 rfl).2
        exact absurd (show (0 : Int32) < nI G from nI_lt (a := 0) (by omega) (by omega)) n9'
      · change f_X8_reads M9 JM 49 9999 0 = _ at n10
        have nu := n6 rfl
        rw [n10, bo3_s, if_neg (by decide), show (3 : Int32) = nI 3 from rfl, nI_add, inbI (show 4 * x + 3 < 52 by omega) (by omega), chk_t, nI_clamp (show 4 * x + 3 < 2 ^ 31 by omega), n12]
        have s10 : P9 x IM (w2 M10 9 (4 * x + 3) (nI G)) := s9.tr ((P9.of n8).tr (P9.st (by omega)))
        have m10 : w2 M10 9 (4 * x + 3) (nI G) 0 24 = nI u := by rw [w2n (by decide)]; exact n11
        have f10 : w2 M10 9 (4 * x + 3) (nI G) 9 (4 * x) = nI (b (p + 1) - 48) ∧ w2 M10 9 (4 * x + 3) (nI G) 9 (4 * x + 1) = nI A ∧ w2 M10 9 (4 * x + 3) (nI G) 9 (4 * x + 2) = nI B ∧ w2 M10 9 (4 * x + 3) (nI G) 9 (4 * x + 3) = nI G := by
          rw [w2j (by omega), w2j (by omega), w2j (by omega), w2k, n8.1 9 (by decide)]; exact ⟨f9.1, f9.2.1, f9.2.2, rfl⟩
        generalize w2 M10 9 (4 * x + 3) (nI G) = M11 at s10 m10 f10 ⊢
        -- the end
        obtain ⟨I9, M12, o1, o2, o3, o4⟩ := sgn_sim (JB := JB) (JM := JM) (c := 59) (hB.go t8) (hM.go9 s10) n3 m10 n4 (by omega)
        change f_X3_readSign I8 JB 59 = _ at o1
        change (f_X8_sign M11 JM 59 = _ ∧ _) ∨ (f_X8_sign M11 JM 59 = _ ∧ _) at o4
        have s12 : P9 x IM M12 := s10.tr (P9.of o3)
        have t9 : P20 IB I9 := t8.tr o2
        rw [o1, bo2_s]
        rcases o4 with ⟨v1, v2, v3, v4, -⟩ | ⟨v1, v2, v3, -⟩
        case inr =>
          rw [v1, bo3_s, isB0, chk_t, c93_f v2]
          exact ⟨I9, M12, rfl, s12, P23.of t9, Or.inl ⟨u, n4, rfl, v2, v3⟩⟩
        rw [v1, bo3_s, isB1, chk_t]
        obtain ⟨I10, w1, w2', w3⟩ := add_loop (F := b (p + 1) - 48) (A := A) (B := B) (G := G) (by omega) j5 (q := u + 1) (J := JB) (B - A) FU A I9 (by omega) (by rw [FU_eq]; omega) v2
        rw [w1]
        have gq := g6 rfl
        refine ⟨I10, M12, rfl, s12, (P23.of t9).tr ⟨fun c' _ z => w2' c' z, fun q _ _ => by rw [w2' 20 (by decide)]⟩, Or.inr ⟨b (p + 1) - 48, A, B, G, u + 1, by omega, hAB, j5, n5, by omega, by omega, rfl, ⟨by rw [w2' 20 (by decide)]; exact v2.1, by rw [w2' 20 (by decide)]; exact v2.2⟩, v3, ?_, ?_, ?_, ?_, fun f k hf hk => ?_⟩⟩
        · rw [o3.1 9 (by decide)]; exact f10.1
        · rw [o3.1 9 (by decide)]; exact f10.2.1
        · rw [o3.1 9 (by decide)]; exact f10.2.2.1
        · rw [o3.1 9 (by decide)]; exact f10.2.2.2
        · rw [w3 f k hf hk, t9.1 23 (by decide)]
      · have := (n6 rfl).2
        omega
    · have := (j6 rfl).2
      omega
  · change f_X8_reads M3 JM 48 23 (-1) = _ at g11
    have g9' := g9
    unfold isD at g9'
    obtain ⟨I5, h1, h2, h3⟩ := cSign (J := JB) (c := 45) hB4 g3 (by omega) (by omega)
    change f_X3_readSign I4 JB 45 = _ at h1
    rcases h3 with ⟨-, h4, -⟩ | ⟨-, h4⟩
    · omega
    · rw [g11, bo3_s, if_pos rfl, h1, bo2_s, cNum_f h4, bo3_s, tif h4]
      exact ⟨I5, M4, rfl, s3.tr (P9.of g10), P23.of (t4.tr h2), Or.inl ⟨q, g4, rfl, h4, g12⟩⟩
