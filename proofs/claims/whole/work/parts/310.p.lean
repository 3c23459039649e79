/-! take -/
theorem LP_num6_s (n : Nat) (x0 x1 x2 : Int32) : LP_X6_numbers_4 (n + 1) x0 x1 x2 = LB_X6_numbers_4 (LP_X6_numbers_4 n) x0 x1 x2 := rfl
theorem LP_num8_s (I : MI) (J : MJ) (n : Nat) (x1 x2 : Int32) : LP_X8_numbers_4 I J (n + 1) x1 x2 = LB_X8_numbers_4 I J (LP_X8_numbers_4 I J n) x1 x2 := rfl
theorem num6 {n : Nat} (hn : n ≤ 4) : ∀ m f i v : Nat, i + m = n → m < f → LP_X6_numbers_4 f (nI n) (nI v) (nI i) = some (nI (v * 7 ^ m)) := by
  intro m
  induction m with
  | zero =>
    intro f i v hi hf
    obtain ⟨f, rfl⟩ : ∃ f', f = f' + 1 := ⟨f - 1, by omega⟩
    rw [LP_num6_s]
    unfold LB_X6_numbers_4
    rw [if_pos (nI_le (by omega) (by omega)), Nat.pow_zero, Nat.mul_one]
  | succ m ih =>
    intro f i v hi hf
    obtain ⟨f, rfl⟩ : ∃ f', f = f' + 1 := ⟨f - 1, by omega⟩
    rw [LP_num6_s]
    unfold LB_X6_numbers_4
    simp only [bnd]
    rw [if_neg (nI_ge (by omega) (by omega)), show (7 : Int32) = nI 7 from rfl, pk_mul, show nI i + (1 : Int32) = nI (i + 1) from nI_1 i, ih f (i + 1) (v * 7) (by omega) (by omega), Nat.pow_succ, Nat.mul_assoc, Nat.mul_comm 7]
theorem num8 {n : Nat} (hn : n ≤ 4) {I : MI} {J : MJ} (h2 : I 0 2 = nI n) : ∀ m f i v : Nat, i + m = n → m < f → LP_X8_numbers_4 I J f (nI v) (nI i) = some (nI (v * 7 ^ m)) := by
  intro m
  induction m with
  | zero =>
    intro f i v hi hf
    obtain ⟨f, rfl⟩ : ∃ f', f = f' + 1 := ⟨f - 1, by omega⟩
    rw [LP_num8_s]
    unfold LB_X8_numbers_4
    rw [h2, if_pos (nI_le (by omega) (by omega)), Nat.pow_zero, Nat.mul_one]
  | succ m ih =>
    intro f i v hi hf
    obtain ⟨f, rfl⟩ : ∃ f', f = f' + 1 := ⟨f - 1, by omega⟩
    rw [LP_num8_s]
    unfold LB_X8_numbers_4
    simp only [bnd]
    rw [h2, if_neg (nI_ge (by omega) (by omega)), show (7 : Int32) = nI 7 from rfl, pk_mul, show nI i + (1 : Int32) = nI (i + 1) from nI_1 i, ih f (i + 1) (v * 7) (by omega) (by omega), Nat.pow_succ, Nat.mul_assoc, Nat.mul_comm 7]
theorem numB {n : Nat} (hn : n ≤ 4) : f_X6_numbers (nI n) = some (nI (7 ^ n)) := by
  have := num6 hn n FU 0 1 (by omega) (by rw [FU_eq]; omega)
  rw [Nat.one_mul] at this
  exact this
theorem numM {n : Nat} (hn : n ≤ 4) {I : MI} {J : MJ} (h2 : I 0 2 = nI n) : f_X8_numbers I J = some (nI (7 ^ n)) := by
  have := num8 (J := J) hn h2 n FU 0 1 (by omega) (by rw [FU_eq]; omega)
  rw [Nat.one_mul] at this
  exact this
theorem p7 {n : Nat} (hn : n ≤ 4) : 1 ≤ 7 ^ n ∧ 7 ^ n ≤ 2401 := by
  rcases (show n = 0 ∨ n = 1 ∨ n = 2 ∨ n = 3 ∨ n = 4 by omega) with rfl | rfl | rfl | rfl | rfl <;> decide
/-- all of m digits by 7 are k at most -/
def dg (k : Nat) : Nat → Nat → Prop
  | 0, _ => True
  | m + 1, N => N % 7 ≤ k ∧ dg k m (N / 7)
theorem LP_tells_s (I : MI) (J : MJ) (n : Nat) (x2 x3 x4 : Int32) : LP_X6_tellsAll_21 I J (n + 1) x2 x3 x4 = LB_X6_tellsAll_21 I J (LP_X6_tellsAll_21 I J n) x2 x3 x4 := rfl
theorem LP_take22_s (n : Nat) (I : MI) (J : MJ) (x1 x2 x3 x4 : Int32) : LP_X8_take_22 (n + 1) I J x1 x2 x3 x4 = LB_X8_take_22 (LP_X8_take_22 n) I J x1 x2 x3 x4 := rfl
theorem LP_take74_s (n : Nat) (I : MI) (J : MJ) (x3 x4 : Int32) : LP_X8_take_74 (n + 1) I J x3 x4 = LB_X8_take_74 (LP_X8_take_74 n) I J x3 x4 := rfl
theorem LP_take21_s (n : Nat) (I : MI) (J : MJ) (x2 x3 : Int32) : LP_X7_take_21 (n + 1) I J x2 x3 = LB_X7_take_21 (LP_X7_take_21 n) I J x2 x3 := rfl
theorem rem7 {N : Nat} (h : N < 2 ^ 31) : nI N - nI N / (7 : Int32) * (7 : Int32) = nI (N % 7) := pk_rem (d := 7) h (by omega) (by omega)
theorem div7 {N : Nat} (h : N < 2 ^ 31) : nI N / (7 : Int32) = nI (N / 7) := pk_div (d := 7) h (by omega) (by omega)
theorem tells_loop {n k : Nat} (hn : n ≤ 4) (hk : k ≤ 6) {IB IM : MI} {JB JM : MJ} (b15 : IB 15 2 = nI k) (m14 : IM 0 14 = nI k) (m2 : IM 0 2 = nI n) (a : Int32) : ∀ m f i N : Nat, i + m = n → m + 1 < f → N < 2 ^ 31 →
    (dg k m N ∧ LP_X6_tellsAll_21 IB JB f (nI n) (nI N) (nI i) = some 1 ∧ LP_X8_take_22 f IM JM a 1 (nI N) (nI i) = LP_X8_take_74 FU IM JM a 0) ∨ (LP_X6_tellsAll_21 IB JB f (nI n) (nI N) (nI i) = some 0 ∧ LP_X8_take_22 f IM JM a 1 (nI N) (nI i) = some (-1, IM, JM)) := by
  intro m
  induction m with
  | zero =>
    intro f i N hi hf hN
    obtain ⟨f, rfl⟩ : ∃ f', f = f' + 1 := ⟨f - 1, by omega⟩
    rw [LP_tells_s, LP_take22_s]
    unfold LB_X6_tellsAll_21 LB_X8_take_22
    rw [m2, if_pos (nI_le (by omega) (by omega)), if_pos (nI_le (by omega) (by omega))]
    simp only [one0, ↓reduceIte]
    exact Or.inl ⟨trivial, trivial, trivial⟩
  | succ m ih =>
    intro f i N hi hf hN
    obtain ⟨f, rfl⟩ : ∃ f', f = f' + 1 := ⟨f - 1, by omega⟩
    rw [LP_tells_s, LP_take22_s]
    unfold LB_X6_tellsAll_21 LB_X8_take_22
    simp only [bnd, one0, ↓reduceIte]
    have hni : ¬ nI n ≤ nI i := nI_ge (by omega) (by omega)
    rw [m2, m14, b15, rem7 hN, div7 hN, show nI i + (1 : Int32) = nI (i + 1) from nI_1 i]
    simp only [if_neg hni]
    have hm7 : N % 7 < 7 := Nat.mod_lt _ (by omega)
    by_cases hd : N % 7 ≤ k
    · rw [if_pos (nI_le hd (by omega)), if_neg (nI_nlt hd (by omega))]
      rcases ih f (i + 1) (N / 7) (by omega) (by omega) (by omega) with ⟨d, e1, e2⟩ | ⟨e1, e2⟩
      · exact Or.inl ⟨⟨hd, d⟩, e1, e2⟩
      · exact Or.inr ⟨e1, e2⟩
    · rw [if_neg (nI_ge (by omega) (by omega)), if_pos (nI_lt (by omega) (by omega))]
      refine Or.inr ⟨rfl, ?_⟩
      obtain ⟨f, rfl⟩ : ∃ f', f = f' + 1 := ⟨f - 1, by omega⟩
      rw [LP_take22_s]
      unfold LB_X8_take_22
      simp only [↓reduceIte, ite_self]
theorem okV_pl {T : Nat → Nat} {j v : Nat} (hj : 2 ≤ j) (h1 : tlo j ≤ v) (h2 : v ≤ thi j) : okV T j v := ⟨h1, h2, fun z => by omega, fun z => by omega⟩
theorem putT {i j v : Nat} {x y : Int32} {I : MI} {J : MJ} {T : Nat → Nat} (hj : j < 13) (hx : x = nI j) (hy : y = nI v) (ok : okV T j v) (hT : TV (I (2 + 2 * i + 1)) T) (hC : CK (I (2 + 2 * i)) T) : ∃ I' : MI, f_X1_put (2 + 2 * i) I J x y = some (I', J) ∧ (∀ c', c' ≠ 2 + 2 * i → c' ≠ 2 + 2 * i + 1 → I' c' = I c') ∧ TV (I' (2 + 2 * i + 1)) (un T j v) ∧ CK (I' (2 + 2 * i)) (un T j v) := by
  subst hx; subst hy
  obtain ⟨I', p1, p2, p3, p4⟩ := put_ok (c := 2 + 2 * i) (j := j) (v := v) (I := I) (J := J) (T := T) hj (by have := thi_bd hj ok.2.1; omega) hT.1 (by have := hT.2.bd j hj; omega) hC
  exact ⟨I', p1, p2, ⟨p3, hT.2.set hj ok⟩, p4⟩
set_option maxHeartbeats 1000000 in
theorem give_loop {n k : Nat} {tw ts : Nat → Nat} : ∀ (m f i N : Nat) (IB : MI) (JB : MJ) (IM : MI) (JM : MJ) (T : Nat → Nat → Nat), i + m = n → m < f → N < 2 ^ 31 → dg k m N → REL IB JB IM JM → RR n T IB IM → RT k tw ts IB IM → SW (LP_X7_take_21 f IB JB (nI N) (nI i)) (LP_X8_take_74 f IM JM (nI N) (nI i)) := by
  intro m
  induction m with
  | zero =>
    intro f i N IB JB IM JM T hi hf hN hd h hr ht
    have hn := hr.2.2.1
    obtain ⟨f, rfl⟩ : ∃ f', f = f' + 1 := ⟨f - 1, by omega⟩
    rw [LP_take21_s, LP_take74_s]
    unfold LB_X7_take_21 LB_X8_take_74
    rw [hr.1, hr.2.1, if_pos (nI_le (by omega) (by omega)), if_pos (nI_le (by omega) (by omega))]
    exact SW.same h
  | succ m ih =>
    intro f i N IB JB IM JM T hi hf hN hd h hr ht
    have hn := hr.2.2.1
    obtain ⟨t1, t2, t3, t4, t5⟩ := id ht
    obtain ⟨f, rfl⟩ : ∃ f', f = f' + 1 := ⟨f - 1, by omega⟩
    obtain ⟨ri, rm, rk⟩ := hr.2.2.2.1 i (by omega)
    rw [LP_take21_s, LP_take74_s]
    unfold LB_X7_take_21 LB_X8_take_74
    simp only [bnd]
    rw [hr.1, hr.2.1, rem7 hN, div7 hN, if_neg (nI_ge (by omega) (by omega)), if_neg (nI_ge (by omega) (by omega)), show nI i + (1 : Int32) = nI (i + 1) from nI_1 i, inbI (by omega) (by omega), chk_t, rc_nI (by omega)]
    have hd1 : N % 7 ≤ k := hd.1
    have hd2 : dg k m (N / 7) := hd.2
    have a12 : (13 : Int32) * nI i + (12 : Int32) = nI (13 * i + 12) := by rw [show (13 : Int32) = nI 13 from rfl, show (12 : Int32) = nI 12 from rfl, pk_mul, nI_add]
    have a4 : (13 : Int32) * nI i + (4 : Int32) = nI (13 * i + 4) := by rw [show (13 : Int32) = nI 13 from rfl, show (4 : Int32) = nI 4 from rfl, pk_mul, nI_add]
    have a5 : (13 : Int32) * nI i + (5 : Int32) = nI (13 * i + 5) := by rw [show (13 : Int32) = nI 13 from rfl, show (5 : Int32) = nI 5 from rfl, pk_mul, nI_add]
    generalize hdd : N % 7 = d at hd1 ⊢
    unfold f_X6_giveTo LB_X8_take_116
    simp only [bnd]
    rw [a12, a4, a5, t1]
    simp only [inbI (show 13 * i + 12 < 52 by omega) (by omega), inbI (show 13 * i + 4 < 52 by omega) (by omega), inbI (show 13 * i + 5 < 52 by omega) (by omega), nI_clamp (show 13 * i + 12 < 2 ^ 31 by omega), nI_clamp (show 13 * i + 4 < 2 ^ 31 by omega), nI_clamp (show 13 * i + 5 < 2 ^ 31 by omega), chk_t, show nI i + (1 : Int32) = nI (i + 1) from nI_1 i]
    by_cases d0 : d = 0
    · subst d0
      have e0 : f_X7_within (nI 0) 1 (nI k) = some 0 := by unfold f_X7_within; rw [if_pos (by decide)]
      rw [e0]
      simp only [bo1_s, ↓reduceIte, show (nI 0 ≤ (0 : Int32)) = True from eq_true (by decide)]
      obtain ⟨I1, p1, p2, p3, p4⟩ := putT (i := i) (j := 12) (v := 0) (x := 12) (y := 0) (J := JB) (by omega) rfl rfl (okV_pl (by omega) (Nat.le_refl _) (Nat.zero_le _)) ri rk
      rw [p1, bo2_s, bo2_s]
      have hr' : RR n (uT T i (un (T i) 12 0)) I1 (w2 IM 1 (13 * i + 12) 0) := hr.upd (by omega) (by rw [p2 0 (by omega) (by omega)]) (fun c h1 h2 h3 h4 => p2 c h3 h4) p3 p4 (by rw [w2n (by decide)]) (fun q hq => by rw [w2j (by omega)]) (fun q hq => by
        rw [w2c]; unfold un
        by_cases e : q = 12
        · rw [if_pos (by omega), if_pos e]; rfl
        · rw [if_neg (by omega), if_neg e]; exact rm q hq)
      have h' : REL I1 JB (w2 IM 1 (13 * i + 12) 0) JM := h.setR (AG.ram (i := i) (by omega) p2 (by decide) (by decide)) (ag_wc (by decide) (by decide)) (AJ.rf _) (AJ.rf _) ⟨n, _, hr'⟩
      exact ih f (i + 1) (N / 7) _ _ _ _ _ (by omega) (by omega) (by omega) hd2 h' hr' (ht.cg (AG.ram (i := i) (by omega) p2 (by decide) (by decide)) (ag_wc (by decide) (by decide)))
    · obtain ⟨w1, w2', w3, w4, w5, w6, w7, w8⟩ := t4 (d - 1) (by omega)
      have e0 : f_X7_within (nI d) 1 (nI k) = some 1 := by
        unfold f_X7_within
        rw [if_neg (show ¬ nI d < (1 : Int32) from nI_nlt (b := 1) (by omega) (by omega)), if_neg (nI_nlt hd1 (by omega))]
      rw [e0, show nI d - (1 : Int32) = nI (d - 1) from pk_sub (b := 1) (by omega), inbI (by omega) (by omega)]
      simp only [bo1_s, one0, ↓reduceIte, chk_t, nI_clamp (show d - 1 < 2 ^ 31 by omega)]
      have hd0 : ¬ nI d ≤ (0 : Int32) := nI_nle (by omega) (by omega)
      simp only [if_neg hd0]
      obtain ⟨I1, p1, p2, p3, p4⟩ := putT (i := i) (j := 4) (v := tw (d - 1)) (x := 4) (y := IB 16 (d - 1)) (J := JB) (by omega) rfl w1 (okV_pl (by omega) w3 w4) ri rk
      rw [p1, bo2_s]
      obtain ⟨I2, q1, q2, q3, q4⟩ := putT (i := i) (j := 5) (v := ts (d - 1)) (x := 5) (y := I1 17 (d - 1)) (J := JB) (by omega) rfl (by rw [p2 17 (by omega) (by omega)]; exact w5) (okV_pl (by omega) w7 w8) p3 p4
      rw [q1, bo2_s]
      obtain ⟨I3, s1, s2, s3, s4⟩ := putT (i := i) (j := 12) (v := 1) (x := 12) (y := 1) (J := JB) (by omega) rfl rfl (okV_pl (by omega) (Nat.zero_le _) (Nat.le_refl _)) q3 q4
      rw [s1, bo2_s, bo2_s]
      have kc : ∀ c', c' ≠ 2 + 2 * i → c' ≠ 2 + 2 * i + 1 → I3 c' = IB c' := fun c' x1 x2 => by rw [s2 c' x1 x2, q2 c' x1 x2, p2 c' x1 x2]
      simp only [w2n (show (5 : Nat) ≠ 1 by decide), w2n (show (6 : Nat) ≠ 1 by decide), w2', w6]
      have hr' : RR n (uT T i (un (un (un (T i) 4 (tw (d - 1))) 5 (ts (d - 1))) 12 1)) I3 (w2 (w2 (w2 IM 1 (13 * i + 12) 1) 1 (13 * i + 4) (nI (tw (d - 1)))) 1 (13 * i + 5) (nI (ts (d - 1)))) := hr.upd (by omega) (by rw [kc 0 (by omega) (by omega)]) (fun c h1 h2 h3 h4 => kc c h3 h4) s3 s4 (by rw [w2n (by decide), w2n (by decide), w2n (by decide)]) (fun q hq => by rw [w2j (by omega), w2j (by omega), w2j (by omega)]) (fun q hq => by
        rw [w2c, w2c, w2c]; unfold un
        by_cases e5 : q = 5
        · rw [if_pos (by omega), if_neg (by omega), if_pos e5]
        · rw [if_neg (by omega)]
          by_cases e4 : q = 4
          · rw [if_pos (by omega), if_neg (by omega), if_neg e5, if_pos e4]
          · rw [if_neg (by omega)]
            by_cases e12 : q = 12
            · rw [if_pos (by omega), if_pos e12]; rfl
            · rw [if_neg (by omega), if_neg e12, if_neg e5, if_neg e4]; exact rm q hq)
      have hm : ∀ {cs : List Nat} {fs : List (Nat × Nat)}, 1 ∉ cs → (∀ p ∈ fs, p.1 ≠ 1) → AG cs fs IM (w2 (w2 (w2 IM 1 (13 * i + 12) 1) 1 (13 * i + 4) (nI (tw (d - 1)))) 1 (13 * i + 5) (nI (ts (d - 1)))) := fun x1 x2 => ((ag_wc x1 x2).tr (ag_wc x1 x2)).tr (ag_wc x1 x2)
      have h' : REL I3 JB (w2 (w2 (w2 IM 1 (13 * i + 12) 1) 1 (13 * i + 4) (nI (tw (d - 1)))) 1 (13 * i + 5) (nI (ts (d - 1)))) JM := h.setR (AG.ram (i := i) (by omega) kc (by decide) (by decide)) (hm (by decide) (by decide)) (AJ.rf _) (AJ.rf _) ⟨n, _, hr'⟩
      exact ih f (i + 1) (N / 7) _ _ _ _ _ (by omega) (by omega) (by omega) hd2 h' hr' (ht.cg (AG.ram (i := i) (by omega) kc (by decide) (by decide)) (hm (by decide) (by decide)))
theorem s_take {IB : MI} {JB : MJ} {IM : MI} {JM : MJ} (h : REL IB JB IM JM) (a1 : Int32) : SW (f_X7_take IB JB a1) (f_X8_take IM JM a1) := by
  have h0 := thr h
  unfold f_X7_take f_X8_take f_X6_tellsAll
  simp only [bnd, in_wi]
  generalize w2 IM 0 0 0 = IM at h0 ⊢
  obtain ⟨n, T, hr⟩ := h0.1
  obtain ⟨k, tw, ts, ht⟩ := h0.2.2.1
  have hn := hr.2.2.1
  have hp := p7 hn
  rw [hr.1, numB hn, numM hn hr.2.1, bo1_s, bo1_s, show nI (7 ^ n) - (1 : Int32) = nI (7 ^ n - 1) from pk_sub (b := 1) hp.1]
  rcases win a1 (x := 0) (y := nI (7 ^ n - 1)) (lo := 0) (hi := 7 ^ n - 1) rfl rfl (by omega) (by omega) with ⟨N, -, hN, rfl, e⟩ | e
  · rw [e]
    simp only [bo1_s, one0, ↓reduceIte]
    rcases tells_loop hn ht.2.2.1 (JB := JB) (JM := JM) ht.1 ht.2.1 hr.2.1 (nI N) n FU 0 N (by omega) (by rw [FU_eq]; omega) (by omega) with ⟨d, e1, e2⟩ | ⟨e1, e2⟩
    · change LP_X6_tellsAll_21 IB JB FU (nI n) (nI N) 0 = some 1 at e1
      change LP_X8_take_22 FU IM JM (nI N) 1 (nI N) 0 = _ at e2
      rw [e1, e2, bo1_s]
      simp only [one0, ↓reduceIte]
      exact give_loop n FU 0 N IB JB IM JM T (by omega) (by rw [FU_eq]; omega) (by omega) d h0 hr ht
    · change LP_X6_tellsAll_21 IB JB FU (nI n) (nI N) 0 = some 0 at e1
      change LP_X8_take_22 FU IM JM (nI N) 1 (nI N) 0 = _ at e2
      rw [e1, e2]; exact SW.same h0
  · rw [e]
    simp only [bo1_s, ↓reduceIte]
    obtain ⟨f, hf⟩ : ∃ f, FU = f + 1 := ⟨3999, FU_eq⟩
    rw [hf, LP_take22_s]
    unfold LB_X8_take_22
    simp only [↓reduceIte, ite_self]
    exact SW.same h0
