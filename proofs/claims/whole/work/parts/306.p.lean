/-! calls that only read, on the class's side; typing -/
def SR (IB : MI) (JB : MJ) (x : Option Int32) (y : Option (Int32 × MI × MJ)) : Prop := ∃ (r : Int32) (IM : MI) (JM : MJ), x = some r ∧ y = some (r, IM, JM) ∧ REL IB JB IM JM
def SL (IB : MI) (JB : MJ) (x : Option Int64) (y : Option (Int64 × MI × MJ)) : Prop := ∃ (r : Int64) (IM : MI) (JM : MJ), x = some r ∧ y = some (r, IM, JM) ∧ REL IB JB IM JM
theorem SR.ret {r r' : Int32} {IB : MI} {JB : MJ} {IM : MI} {JM : MJ} (e : r = r') (h : REL IB JB IM JM) : SR IB JB (some r) (some (r', IM, JM)) := by subst e; exact ⟨r, IM, JM, rfl, rfl, h⟩
theorem SL.ret {r r' : Int64} {IB : MI} {JB : MJ} {IM : MI} {JM : MJ} (e : r = r') (h : REL IB JB IM JM) : SL IB JB (some r) (some (r', IM, JM)) := by subst e; exact ⟨r, IM, JM, rfl, rfl, h⟩
theorem s_trace {IB : MI} {JB : MJ} {IM : MI} {JM : MJ} (h : REL IB JB IM JM) : SL IB JB (f_X7_trace IB JB) (f_X8_trace IM JM) := SL.ret h.2.2.2.2.2.2.2.2 (thr h)
theorem s_count {IB : MI} {JB : MJ} {IM : MI} {JM : MJ} (h : REL IB JB IM JM) (a1 : Int32) : SR IB JB (f_X7_count IB JB a1) (f_X8_count IM JM a1) := by
  have h0 := thr h
  unfold f_X7_count f_X8_count
  simp only [bnd]
  generalize w2 IM 0 0 0 = IM at h0 ⊢
  obtain ⟨⟨n, T, n1, n2, -⟩, -, ⟨k, tw, ts, k1, k2, -⟩, -, ⟨L, b, d1, d2, -⟩, ⟨q, F, A, B, G, q1, q2, -⟩, ⟨mo, dy, hr, m1, m2, -, m3, m4, -, m5, m6, -⟩, ⟨p, tb, tu, p1, p2, -⟩, -⟩ := id h0
  by_cases c0 : a1 = 0
  · rw [if_pos c0, if_pos c0]; exact SR.ret (n1.trans n2.symm) h0
  · rw [if_neg c0, if_neg c0]
    by_cases c1 : a1 = 1
    · rw [if_pos c1, if_pos c1]; exact SR.ret (k1.trans k2.symm) h0
    · rw [if_neg c1, if_neg c1]
      by_cases c2 : a1 = 2
      · rw [if_pos c2, if_pos c2]; exact SR.ret (q1.trans q2.symm) h0
      · rw [if_neg c2, if_neg c2]
        by_cases c3 : a1 = 3
        · rw [if_pos c3, if_pos c3]; exact SR.ret (p1.trans p2.symm) h0
        · rw [if_neg c3, if_neg c3]
          by_cases c4 : a1 = 4
          · rw [if_pos c4, if_pos c4]; exact SR.ret (m1.trans m2.symm) h0
          · rw [if_neg c4, if_neg c4]
            by_cases c5 : a1 = 5
            · rw [if_pos c5, if_pos c5]; exact SR.ret (m3.trans m4.symm) h0
            · rw [if_neg c5, if_neg c5]
              by_cases c6 : a1 = 6
              · rw [if_pos c6, if_pos c6]; exact SR.ret (m5.trans m6.symm) h0
              · rw [if_neg c6, if_neg c6]
                by_cases c7 : a1 = 7
                · rw [if_pos c7, if_pos c7]; exact SR.ret (d1.trans d2.symm) h0
                · rw [if_neg c7, if_neg c7]; exact SR.ret rfl h0
theorem s_book {IB : MI} {JB : MJ} {IM : MI} {JM : MJ} (h : REL IB JB IM JM) (a1 : Int32) : SL IB JB (f_X7_book IB JB a1) (f_X8_book IM JM a1) := by
  have h0 := thr h
  unfold f_X7_book f_X8_book
  simp only [bnd, in_wi]
  generalize w2 IM 0 0 0 = IM at h0 ⊢
  obtain ⟨rm, hd, h1, h2, h3, h4, h5, h6, h7, b0, b1, b2, b3, b4, b5⟩ := h0.2.2.2.1
  rcases win a1 (x := 0) (y := 10) (lo := 0) (hi := 10) rfl rfl (by omega) (by omega) with ⟨m, -, hm, rfl, e⟩ | e
  · rw [e]
    simp only [bo1_s, one0, ↓reduceIte, inbI (show m < 11 by omega) (show 11 < 2 ^ 31 by omega), chk_t, nI_clamp (show m < 2 ^ 31 by omega)]
    rcases (show m = 0 ∨ m = 1 ∨ m = 2 ∨ m = 3 ∨ m = 4 ∨ m = 5 ∨ (6 ≤ m ∧ m ≤ 10) by omega) with rfl | rfl | rfl | rfl | rfl | rfl | ⟨m1, m2⟩
    · rw [if_pos (show nI 0 = (0 : Int32) from rfl), if_neg (by decide)]; exact SL.ret b0 h0
    · rw [if_neg (by decide), if_pos (show nI 1 = (1 : Int32) from rfl), if_neg (by decide)]; exact SL.ret b1 h0
    · rw [if_neg (by decide), if_neg (by decide), if_pos (show nI 2 = (2 : Int32) from rfl), if_neg (by decide)]; exact SL.ret b2 h0
    · rw [if_neg (by decide), if_neg (by decide), if_neg (by decide), if_pos (show nI 3 = (3 : Int32) from rfl), if_neg (by decide)]; exact SL.ret b3 h0
    · rw [if_neg (by decide), if_neg (by decide), if_neg (by decide), if_neg (by decide), if_pos (show nI 4 = (4 : Int32) from rfl), if_neg (by decide)]; exact SL.ret b4 h0
    · rw [if_neg (by decide), if_neg (by decide), if_neg (by decide), if_neg (by decide), if_neg (by decide), if_pos (show nI 5 = (5 : Int32) from rfl), if_pos (show nI 5 = (5 : Int32) from rfl), h5, h6]; exact SL.ret rfl h0
    · have ne : ∀ k : Nat, k ≤ 5 → ¬ nI m = nI k := fun k hk q => by have := (nI_eq (by omega) (by omega)).mp q; omega
      rw [if_neg (show ¬ nI m = (0 : Int32) from ne 0 (by omega)), if_neg (show ¬ nI m = (1 : Int32) from ne 1 (by omega)), if_neg (show ¬ nI m = (2 : Int32) from ne 2 (by omega)), if_neg (show ¬ nI m = (3 : Int32) from ne 3 (by omega)), if_neg (show ¬ nI m = (4 : Int32) from ne 4 (by omega)), if_neg (show ¬ nI m = (5 : Int32) from ne 5 (by omega)), if_neg (show ¬ nI m = (5 : Int32) from ne 5 (by omega))]
      rcases win (nI m) (x := 6) (y := 10) (lo := 6) (hi := 10) rfl rfl (by omega) (by omega) with ⟨-, -, -, -, e⟩ | e
      · rw [e]
        simp only [bo1_s, one0, ↓reduceIte]
        rw [show (6 : Int32) = nI 6 from rfl, pk_sub m1, inbI (by omega) (by omega), chk_t, nI_clamp (by omega)]
        exact SL.ret ((b5 (m - 6) (by omega)).trans (by rw [show 6 + (m - 6) = m by omega])) h0
      · exact absurd rfl (win_not (lo := 6) (hi := 10) rfl rfl (by omega) (by omega) e m1 m2)
  · have ne : ∀ k : Nat, k ≤ 10 → ¬ a1 = nI k := fun k hk => win_not (lo := 0) (hi := 10) rfl rfl (by omega) (by omega) e (by omega) hk
    rw [e, if_neg (show ¬ a1 = (0 : Int32) from ne 0 (by omega)), if_neg (show ¬ a1 = (1 : Int32) from ne 1 (by omega)), if_neg (show ¬ a1 = (2 : Int32) from ne 2 (by omega)), if_neg (show ¬ a1 = (3 : Int32) from ne 3 (by omega)), if_neg (show ¬ a1 = (4 : Int32) from ne 4 (by omega)), if_neg (show ¬ a1 = (5 : Int32) from ne 5 (by omega))]
    rcases win a1 (x := 6) (y := 10) (lo := 6) (hi := 10) rfl rfl (by omega) (by omega) with ⟨m, -, m1, m2, -⟩ | e
    · exact absurd m2 (ne m m1)
    · rw [e]; exact SL.ret rfl h0
theorem sI_bd {F A B G : Nat → Nat} {f h : Nat} : ∀ q, q ≤ 12 → (∀ i, i < q → G i ≤ 9999) → sI F A B G f h q ≤ 9999 * q := by
  intro q
  induction q with
  | zero => intro _ _; exact Nat.le_refl _
  | succ q ih =>
    intro h1 h2
    have := ih (by omega) (fun i hi => h2 i (by omega))
    have := h2 q (by omega)
    unfold sI
    split <;> omega
theorem sI_s (F A B G : Nat → Nat) (f h n : Nat) : sI F A B G f h (n + 1) = sI F A B G f h n + if F n = f ∧ A n ≤ h ∧ h < B n then G n else 0 := rfl
theorem LP_rightOf_s (I : MI) (J : MJ) (n : Nat) (x1 x2 x3 x4 : Int32) : LP_X8_rightOf_5 I J (n + 1) x1 x2 x3 x4 = LB_X8_rightOf_5 I J (LP_X8_rightOf_5 I J n) x1 x2 x3 x4 := rfl
theorem rightOf_loop {q : Nat} {F A B G : Nat → Nat} {IB IM : MI} {JM : MJ} (h : RQ q F A B G IB IM) {f hh : Nat} (hf : f < 5) (hh2 : hh < 24) : ∀ n m i : Nat, i + n = q → n < m → LP_X8_rightOf_5 IM JM m (nI f) (nI hh) (nI (sI F A B G f hh i)) (nI i) = some (nI (sI F A B G f hh q)) := by
  obtain ⟨h1, h2, h3, h4, -⟩ := h
  intro n
  induction n with
  | zero =>
    intro m i hi hm
    obtain ⟨m, rfl⟩ : ∃ m', m = m' + 1 := ⟨m - 1, by omega⟩
    have : i = q := by omega
    subst this
    rw [LP_rightOf_s]
    unfold LB_X8_rightOf_5
    rw [h2, if_pos (nI_le (Nat.le_refl _) (by omega))]
  | succ n ih =>
    intro m i hi hm
    obtain ⟨m, rfl⟩ : ∃ m', m = m' + 1 := ⟨m - 1, by omega⟩
    obtain ⟨g0, g1, g2, g3, g4, g5, g6, g7⟩ := h4 i (by omega)
    rw [LP_rightOf_s]
    unfold LB_X8_rightOf_5
    simp only [bnd]
    rw [h2, if_neg (nI_ge (by omega) (by omega)), show (4 : Int32) = nI 4 from rfl, show (3 : Int32) = nI 3 from rfl, show (2 : Int32) = nI 2 from rfl, show (1 : Int32) = nI 1 from rfl, show (0 : Int32) = nI 0 from rfl, pk_mul]
    simp only [nI_add, Nat.add_zero]
    simp only [inbI (show 4 * i < 48 by omega) (by omega), inbI (show 4 * i + 1 < 48 by omega) (by omega), inbI (show 4 * i + 2 < 48 by omega) (by omega), inbI (show 4 * i + 3 < 48 by omega) (by omega), chk_t, nI_clamp (show 4 * i < 2 ^ 31 by omega), nI_clamp (show 4 * i + 1 < 2 ^ 31 by omega), nI_clamp (show 4 * i + 2 < 2 ^ 31 by omega), nI_clamp (show 4 * i + 3 < 2 ^ 31 by omega), g0, g1, g2, g3, nI_add]
    have nx := ih m (i + 1) (by omega) (by omega)
    rw [sI_s] at nx
    by_cases c1 : F i = f
    · rw [if_pos (by rw [c1])]
      by_cases c2 : hh < A i
      · rw [if_pos (nI_lt c2 (by omega))]
        rw [if_neg (by omega), Nat.add_zero] at nx; exact nx
      · rw [if_neg (nI_nlt (by omega) (by omega))]
        by_cases c3 : B i ≤ hh
        · rw [if_pos (nI_le c3 (by omega))]
          rw [if_neg (by omega), Nat.add_zero] at nx; exact nx
        · rw [if_neg (nI_ge (by omega) (by omega))]
          rw [if_pos ⟨c1, by omega, by omega⟩] at nx; exact nx
    · rw [if_neg (fun z => c1 ((nI_eq (by omega) (by omega)).mp z))]
      rw [if_neg (by omega), Nat.add_zero] at nx; exact nx
theorem rightOf_ok {q : Nat} {F A B G : Nat → Nat} {IB IM : MI} {JM : MJ} (h : RQ q F A B G IB IM) {f hh : Nat} (hf : f < 5) (hh2 : hh < 24) : f_X8_rightOf IM JM (nI f) (nI hh) = some (nI (sI F A B G f hh q)) := by
  unfold f_X8_rightOf
  exact rightOf_loop h hf hh2 q FU 0 (by omega) (by have := h.2.2.1; rw [FU_eq]; omega)
theorem litresOf_ok {q : Nat} {F A B G : Nat → Nat} {IB IM : MI} {JB : MJ} (h : RQ q F A B G IB IM) {f hh : Nat} (hf : f < 5) (hh2 : hh < 24) : f_X3_litresOf IB JB (nI f) (nI hh) = some (nI (sI F A B G f hh q)) := by
  unfold f_X3_litresOf
  rw [show (24 : Int32) = nI 24 from rfl, pk_mul, nI_add, inbI (by omega) (by omega), chk_t, nI_clamp (by omega), show f * 24 + hh = 24 * f + hh by omega, h.2.2.2.2 f hh hf hh2]
theorem s_right {IB : MI} {JB : MJ} {IM : MI} {JM : MJ} (h : REL IB JB IM JM) (a1 a2 : Int32) : SR IB JB (f_X7_right IB JB a1 a2) (f_X8_right IM JM a1 a2) := by
  have h0 := thr h
  unfold f_X7_right f_X8_right
  simp only [bnd, in_wi]
  generalize w2 IM 0 0 0 = IM at h0 ⊢
  obtain ⟨q, F, A, B, G, hq⟩ := h0.2.2.2.2.2.1
  rcases win a1 (x := 0) (y := 4) (lo := 0) (hi := 4) rfl rfl (by omega) (by omega) with ⟨f, -, hf, rfl, e⟩ | e
  · rw [e]
    simp only [bo1_s, one0, ↓reduceIte]
    rcases win a2 (x := 0) (y := 23) (lo := 0) (hi := 23) rfl rfl (by omega) (by omega) with ⟨hh, -, hh2, rfl, e⟩ | e
    · rw [e]
      simp only [bo1_s, one0, ↓reduceIte]
      rw [litresOf_ok hq (by omega) (by omega), rightOf_ok hq (by omega) (by omega), bo1_s, bo1_s]
      exact SR.ret rfl h0
    · rw [e]; exact SR.ret rfl h0
  · rw [e]; exact SR.ret rfl h0
theorem rc_nI {i : Nat} (h : i < 4) : rc (nI i) = 2 + 2 * i := by unfold rc; rw [nI_clamp (by omega)]
theorem s_about {IB : MI} {JB : MJ} {IM : MI} {JM : MJ} (h : REL IB JB IM JM) (a1 a2 : Int32) : SR IB JB (f_X7_about IB JB a1 a2) (f_X8_about IM JM a1 a2) := by
  have h0 := thr h
  unfold f_X7_about f_X8_about
  simp only [bnd, in_wi]
  generalize w2 IM 0 0 0 = IM at h0 ⊢
  obtain ⟨n, T, r1, r2, r3, r4, r5⟩ := h0.1
  rw [isRam_m r1 r2 (J := JB) a1]
  rcases isRam_c (J := JB) r1 r3 a1 with ⟨i, hi, rfl, e⟩ | e
  · rw [e]
    simp only [bo1_s, one0, ↓reduceIte]
    rcases win a2 (x := 0) (y := 12) (lo := 0) (hi := 12) rfl rfl (by omega) (by omega) with ⟨j, -, hj, rfl, e⟩ | e
    · unfold f_X1_trait
      rw [e]
      simp only [bo1_s, one0, ↓reduceIte]
      rw [rc_nI (by omega), show (13 : Int32) = nI 13 from rfl, pk_mul, nI_add, inbI (by omega) (by omega), inbI (by omega) (by omega), inbI (by omega) (by omega), chk_t, chk_t, chk_t, nI_clamp (by omega), nI_clamp (by omega), (r4 i hi).1.1 j (by omega), (r4 i hi).2.1 j (by omega), bo1_s]
      exact SR.ret rfl h0
    · rw [e]; exact SR.ret rfl h0
  · rw [e]; exact SR.ret rfl h0
