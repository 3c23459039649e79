/-! side -/
def dTn (T : Nat → Nat → Nat) (tw ts : Nat → Nat) (i d : Nat) : Nat → Nat := T2 (T i) (tw (d - 1)) (ts (d - 1))
abbrev okd (T : Nat → Nat → Nat) (tw ts : Nat → Nat) (k i d : Nat) : Prop := d = 0 ∨ (d ≤ k ∧ (bt (dTn T tw ts i d)).1 = false)
def dU (T : Nat → Nat → Nat) (tw ts : Nat → Nat) (i d : Nat) : Nat := if d = 0 then 0 else upT (dTn T tw ts i d)
def dD (T : Nat → Nat → Nat) (tw ts : Nat → Nat) (i d : Nat) : Nat := if d = 0 then 0 else waT (dTn T tw ts i d) + upT (dTn T tw ts i d)
def gs (T : Nat → Nat → Nat) (tw ts : Nat → Nat) (k : Nat) : Nat → Nat → Nat → Nat → Nat → Option (Nat × Nat)
  | 0, _, _, u, dr => some (u, dr)
  | j + 1, x, i, u, dr => if okd T tw ts k i (x % 7) then gs T tw ts k j (x / 7) (i + 1) (u + dU T tw ts i (x % 7)) (dr + dD T tw ts i (x % 7)) else none
theorem gs_ok {T : Nat → Nat → Nat} {tw ts : Nat → Nat} {k j x i u dr : Nat} (h : okd T tw ts k i (x % 7)) : gs T tw ts k (j + 1) x i u dr = gs T tw ts k j (x / 7) (i + 1) (u + dU T tw ts i (x % 7)) (dr + dD T tw ts i (x % 7)) := by
  rw [gs, if_pos h]
theorem gs_no {T : Nat → Nat → Nat} {tw ts : Nat → Nat} {k j x i u dr : Nat} (h : ¬ okd T tw ts k i (x % 7)) : gs T tw ts k (j + 1) x i u dr = none := by
  rw [gs, if_neg h]
theorem dU_le (T : Nat → Nat → Nat) (tw ts : Nat → Nat) (i d : Nat) : dU T tw ts i d ≤ dD T tw ts i d := by
  unfold dU dD
  split <;> omega
theorem gs_le {T : Nat → Nat → Nat} {tw ts : Nat → Nat} {k : Nat} : ∀ (j x i u dr U D : Nat), gs T tw ts k j x i u dr = some (U, D) → dr ≤ D ∧ (u ≤ dr → U ≤ D) := by
  intro j
  induction j with
  | zero =>
    intro x i u dr U D h
    rw [gs] at h
    injection h with h
    injection h with h1 h2
    omega
  | succ j ih =>
    intro x i u dr U D h
    by_cases e : okd T tw ts k i (x % 7)
    · rw [gs_ok e] at h
      obtain ⟨a, b⟩ := ih _ _ _ _ _ _ h
      have := dU_le T tw ts i (x % 7)
      exact ⟨by omega, fun z => b (by omega)⟩
    · rw [gs_no e] at h; cases h
theorem lN_ltB {a b : Nat} (ha : a < 2 ^ 62) (hb : b < 2 ^ 62) : lN a < lN b ↔ a < b := by
  have e : ∀ n : Nat, n < 2 ^ 62 → (lN n).toInt = (n : Int) := fun n hn => Int64.toInt_ofNat_of_lt (by omega)
  rw [Int64.lt_iff_toInt_lt, e a ha, e b hb]
  omega
def WS (k : Nat) (tw ts : Nat → Nat) : Prop := ∀ j, j < k → 5 ≤ tw j ∧ tw j ≤ 400 ∧ 1 ≤ ts j ∧ ts j ≤ 9
theorem RT.ws {k : Nat} {tw ts : Nat → Nat} {IB IM : MI} (h : RT k tw ts IB IM) : WS k tw ts := fun j hj => by
  have := h.2.2.2.1 j hj
  exact ⟨this.2.2.1, this.2.2.2.1, this.2.2.2.2.2.2.1, this.2.2.2.2.2.2.2⟩
theorem dT_TO {T : Nat → Nat → Nat} {tw ts : Nat → Nat} {k i d : Nat} (hT : TO (T i)) (hw : WS k tw ts) (h1 : 1 ≤ d) (h2 : d ≤ k) : TO (dTn T tw ts i d) := by
  obtain ⟨a, b, c, e⟩ := hw (d - 1) (by omega)
  exact T2_TO hT a b c e
theorem dD_bd {T : Nat → Nat → Nat} {tw ts : Nat → Nat} {k i d : Nat} (hT : TO (T i)) (hw : WS k tw ts) (h2 : d ≤ k) : dD T tw ts i d ≤ 2 * (720 * (2700 * 402)) := by
  unfold dD
  split
  · omega
  · have ht := dT_TO (d := d) hT hw (by omega) h2
    have := up_bd ht
    have := wa_bd ht
    omega
theorem gs_bd {T : Nat → Nat → Nat} {tw ts : Nat → Nat} {k n : Nat} (hT : ∀ i, i < n → TO (T i)) (hw : WS k tw ts) : ∀ (j x i u dr U D : Nat), i + j = n → gs T tw ts k j x i u dr = some (U, D) → D ≤ dr + j * (2 * (720 * (2700 * 402))) := by
  intro j
  induction j with
  | zero =>
    intro x i u dr U D hi h
    rw [gs] at h
    injection h with h
    injection h with h1 h2
    omega
  | succ j ih =>
    intro x i u dr U D hi h
    by_cases e : okd T tw ts k i (x % 7)
    · rw [gs_ok e] at h
      have a := ih _ _ _ _ _ _ (by omega) h
      have hd : x % 7 ≤ k := by unfold okd at e; omega
      have b := dD_bd (hT i (by omega)) hw hd
      have : (j + 1) * (2 * (720 * (2700 * 402))) = j * (2 * (720 * (2700 * 402))) + 2 * (720 * (2700 * 402)) := Nat.succ_mul _ _
      omega
    · rw [gs_no e] at h; cases h
/-! the class's table -/
theorem LP_try_s (n : Nat) (I : MI) (J : MJ) (c : Nat) (x3 x4 : Int32) : LP_X6_tryOn_8 (n + 1) I J c x3 x4 = LB_X6_tryOn_8 (LP_X6_tryOn_8 n) I J c x3 x4 := rfl
theorem tryOn_loop {T : Nat → Nat → Nat} {tw ts : Nat → Nat} {i k : Nat} (hi : i < 4) (hT0 : TO (T i)) (hk : k ≤ 6) (hw : WS k tw ts) : ∀ (q m j w0 s0 : Nat) (I : MI) (J : MJ), j + q = k → q < m → TV (I 11) (T2 (T i) w0 s0) → CK (I 10) (T2 (T i) w0 s0) → I 15 2 = nI k → (∀ j, j < k → I 16 j = nI (tw j) ∧ I 17 j = nI (ts j)) → ∃ I' : MI, LP_X6_tryOn_8 m I J 10 (nI (i * 7)) (nI j) = some (I', J) ∧ (∀ c', c' ≠ 10 → c' ≠ 11 → c' ≠ 18 → c' ≠ 19 → I' c' = I c') ∧ (∀ p, (p ≤ 7 * i + j ∨ 7 * i + 7 ≤ p) → I' 18 p = I 18 p ∧ I' 19 p = I 19 p) ∧ ∀ d, j < d → d ≤ k → I' 18 (7 * i + d) = (if (bt (dTn T tw ts i d)).1 = true then -9 else nI (waT (dTn T tw ts i d) + upT (dTn T tw ts i d))) ∧ I' 19 (7 * i + d) = nI (upT (dTn T tw ts i d)) := by
  intro q
  induction q with
  | zero =>
    intro m j w0 s0 I J hj hm hT hC h15 h16
    obtain ⟨m, rfl⟩ : ∃ z, m = z + 1 := ⟨m - 1, by omega⟩
    rw [LP_try_s]
    unfold LB_X6_tryOn_8
    rw [h15, if_pos (nI_le (by omega) (by omega))]
    exact ⟨I, rfl, fun _ _ _ _ _ => rfl, fun _ _ => ⟨rfl, rfl⟩, fun d a b => by omega⟩
  | succ q ih =>
    intro m j w0 s0 I J hj hm hT hC h15 h16
    obtain ⟨m, rfl⟩ : ∃ z, m = z + 1 := ⟨m - 1, by omega⟩
    obtain ⟨a16, a17⟩ := h16 j (by omega)
    obtain ⟨b1, b2, b3, b4⟩ := hw j (by omega)
    obtain ⟨I1, p1, p2, p3, p4⟩ := put_ok (c := 10) (j := 4) (v := tw j) (I := I) (J := J) (T := T2 (T i) w0 s0) (by omega) (by omega) hT.1 (by have := hT.2.bd 4 (by omega); omega) hC
    rw [T2_4] at p3 p4
    have hs0 : s0 < 2 ^ 31 := by have := hT.2.bd 5 (by omega); change s0 ≤ 1000 at this; omega
    obtain ⟨I2, r1, r2, r3, r4⟩ := put_ok (c := 10) (j := 5) (v := ts j) (I := I1) (J := J) (T := T2 (T i) (tw j) s0) (by omega) (by omega) p3 hs0 p4
    rw [T2_5] at r3 r4
    change f_X1_put 10 I J 4 (nI (tw j)) = _ at p1
    change f_X1_put 10 I1 J 5 (nI (ts j)) = _ at r1
    have t2 : TR I I2 := TR.tr (fun c' a b => p2 c' a b) (fun c' a b => r2 c' a b)
    have hTO : TO (T2 (T i) (tw j) (ts j)) := T2_TO hT0 b1 b2 b3 b4
    have hT2 : TV (I2 11) (T2 (T i) (tw j) (ts j)) := ⟨r3, hTO⟩
    have i17 : I1 17 j = nI (ts j) := by rw [p2 17 (by decide) (by decide)]; exact a17
    obtain ⟨I3, e3, s3⟩ := stalls_ok (J := J) hT2 r4
    have key : ∀ (I4 : MI) (v : Int32), ST 10 (T2 (T i) (tw j) (ts j)) I2 I4 → v = (if (bt (T2 (T i) (tw j) (ts j))).1 = true then -9 else nI (waT (T2 (T i) (tw j) (ts j)) + upT (T2 (T i) (tw j) (ts j)))) → ∃ I' : MI, LB_X6_tryOn_67 (LP_X6_tryOn_8 m) I4 J 10 (nI (i * 7)) (nI j) ((nI (i * 7) + nI j) + (1 : Int32)) v = some (I', J) ∧ (∀ c', c' ≠ 10 → c' ≠ 11 → c' ≠ 18 → c' ≠ 19 → I' c' = I c') ∧ (∀ p, (p ≤ 7 * i + j ∨ 7 * i + 7 ≤ p) → I' 18 p = I 18 p ∧ I' 19 p = I 19 p) ∧ ∀ d, j < d → d ≤ k → I' 18 (7 * i + d) = (if (bt (dTn T tw ts i d)).1 = true then -9 else nI (waT (dTn T tw ts i d) + upT (dTn T tw ts i d))) ∧ I' 19 (7 * i + d) = nI (upT (dTn T tw ts i d)) := by
      intro I4 v s4 hv
      have t4 : TR I I4 := t2.tr (TR.st s4)
      have hT4 : TV (w2 I4 18 (7 * i + j + 1) v 11) (T2 (T i) (tw j) (ts j)) := by rw [w2n (by decide)]; exact s4.tv hT2
      have hC4 : CK (w2 I4 18 (7 * i + j + 1) v 10) (T2 (T i) (tw j) (ts j)) := by rw [w2n (by decide)]; exact s4.ck
      obtain ⟨I5, e5, s5⟩ := upH_ok (J := J) hT4 hC4
      have t5 : ∀ c', c' ≠ 10 → c' ≠ 11 → c' ≠ 18 → I5 c' = I c' := fun c' z1 z2 z3 => by rw [s5.1 c' z1, w2n z3, t4 c' z1 z2]
      unfold LB_X6_tryOn_67
      simp only [bnd_d]
      rw [nI_add, show nI (i * 7 + j) + (1 : Int32) = nI (i * 7 + j + 1) from nI_1 _, inbI (by omega) (by omega), chk_t, nI_clamp (by omega), show i * 7 + j + 1 = 7 * i + j + 1 by omega, e5, bo3_s, chk_t, show nI j + (1 : Int32) = nI (j + 1) from nI_1 j]
      generalize hI6 : w2 I5 19 (7 * i + j + 1) (nI (upT (T2 (T i) (tw j) (ts j)))) = I6
      have g6 : ∀ c', c' ≠ 10 → c' ≠ 11 → c' ≠ 18 → c' ≠ 19 → I6 c' = I c' := fun c' z1 z2 z3 z4 => by rw [← hI6, w2n z4, t5 c' z1 z2 z3]
      have g18 : ∀ p, I6 18 p = if p = 7 * i + j + 1 then v else I 18 p := fun p => by
        rw [← hI6, w2n (by decide), s5.1 18 (by decide), w2c, t4 18 (by decide) (by decide)]
      have g19 : ∀ p, I6 19 p = if p = 7 * i + j + 1 then nI (upT (T2 (T i) (tw j) (ts j))) else I 19 p := fun p => by
        rw [← hI6, w2c, t5 19 (by decide) (by decide) (by decide)]
      obtain ⟨I7, c1, c2, c3, c4⟩ := ih m (j + 1) (tw j) (ts j) I6 J (by omega) (by omega) (by rw [← hI6, w2n (by decide)]; exact s5.tv hT4) (by rw [← hI6, w2n (by decide)]; exact s5.ck) (by rw [g6 15 (by decide) (by decide) (by decide) (by decide)]; exact h15) (fun z hz => by rw [g6 16 (by decide) (by decide) (by decide) (by decide), g6 17 (by decide) (by decide) (by decide) (by decide)]; exact h16 z hz)
      refine ⟨I7, c1, fun c' z1 z2 z3 z4 => (c2 c' z1 z2 z3 z4).trans (g6 c' z1 z2 z3 z4), fun p hp => ?_, fun d h1 h2 => ?_⟩
      · obtain ⟨y1, y2⟩ := c3 p (by omega)
        rw [y1, y2, g18, g19, if_neg (by omega), if_neg (by omega)]
        exact ⟨rfl, rfl⟩
      · by_cases ed : d = j + 1
        · obtain ⟨y1, y2⟩ := c3 (7 * i + d) (by omega)
          have e9 : 7 * i + d = 7 * i + j + 1 := by omega
          rw [y1, y2, g18, g19, if_pos e9, if_pos e9, hv, ed]
          exact ⟨rfl, rfl⟩
        · exact c4 d (by omega) h2
    rw [LP_try_s]
    unfold LB_X6_tryOn_8
    rw [h15, if_neg (nI_ge (by omega) (by omega)), inbI (show j < 6 by omega) (by omega), chk_t, nI_clamp (by omega), a16, p1, bo2_s, chk_t, i17, r1, bo2_s, e3, bo3_s]
    cases hst : (bt (T2 (T i) (tw j) (ts j))).1
    · obtain ⟨I4, e4, s4⟩ := drH_ok (J := J) (s3.tv hT2) s3.ck
      rw [if_pos (show (if false = true then (1 : Int32) else 0) = 0 from rfl), e4, bo3_s]
      exact key I4 _ (s3.tr s4) (by rw [hst]; rfl)
    · rw [if_neg (show ¬ (if true = true then (1 : Int32) else 0) = 0 by decide)]
      exact key I3 _ s3 (by rw [hst]; rfl)
def TB (n k : Nat) (T : Nat → Nat → Nat) (tw ts : Nat → Nat) (I : MI) : Prop := ∀ i, i < n → ∀ d, 1 ≤ d → d ≤ k → I 18 (7 * i + d) = (if (bt (dTn T tw ts i d)).1 = true then -9 else nI (waT (dTn T tw ts i d) + upT (dTn T tw ts i d))) ∧ I 19 (7 * i + d) = nI (upT (dTn T tw ts i d))
def SF (I I' : MI) : Prop := (∀ c', c' ≠ 10 → c' ≠ 11 → c' ≠ 15 → c' ≠ 18 → c' ≠ 19 → I' c' = I c') ∧ (∀ r, r < 4 → I' 18 (7 * r) = I 18 (7 * r) ∧ I' 19 (7 * r) = I 19 (7 * r)) ∧ I' 15 2 = I 15 2
theorem SF.rf (I : MI) : SF I I := ⟨fun _ _ _ _ _ _ => rfl, fun _ _ => ⟨rfl, rfl⟩, rfl⟩
theorem SF.tr {I I' I'' : MI} (h : SF I I') (h2 : SF I' I'') : SF I I'' := ⟨fun c a b d e f => (h2.1 c a b d e f).trans (h.1 c a b d e f), fun r hr => ⟨(h2.2.1 r hr).1.trans (h.2.1 r hr).1, (h2.2.1 r hr).2.trans (h.2.1 r hr).2⟩, h2.2.2.trans h.2.2⟩
theorem SF.bA {I I' : MI} (h : SF I I') : bA I I' := ⟨fun c hc => by
  have := (by decide : ∀ c ∈ ([2, 3, 4, 5, 6, 7, 8, 9, 13, 14, 16, 17, 21, 22, 27, 28, 29] : List Nat), c ≠ 10 ∧ c ≠ 11 ∧ c ≠ 15 ∧ c ≠ 18 ∧ c ≠ 19) c hc
  exact h.1 c this.1 this.2.1 this.2.2.1 this.2.2.2.1 this.2.2.2.2, fun p hp => by
  have := (by decide : ∀ p ∈ ([(0, 1), (12, 2), (12, 3), (15, 2), (18, 0), (18, 7), (18, 14), (18, 21), (19, 0), (19, 7), (19, 14), (19, 21), (24, 0), (24, 1), (20, 1), (20, 2), (0, 9), (0, 10), (0, 11), (26, 3), (26, 4), (26, 5)] : List (Nat × Nat)), (p.1 ≠ 10 ∧ p.1 ≠ 11 ∧ p.1 ≠ 15 ∧ p.1 ≠ 18 ∧ p.1 ≠ 19) ∨ p = (15, 2) ∨ (p.1 = 18 ∨ p.1 = 19) ∧ (p.2 = 7 * 0 ∨ p.2 = 7 * 1 ∨ p.2 = 7 * 2 ∨ p.2 = 7 * 3)) p hp
  rcases this with ⟨a, b, c, d, e⟩ | e | ⟨e, f⟩
  · rw [h.1 p.1 a b c d e]
  · rw [e]; exact h.2.2
  · rcases e with e | e <;> rcases f with f | f | f | f <;> rw [e, f]
    · exact (h.2.1 0 (by omega)).1
    · exact (h.2.1 1 (by omega)).1
    · exact (h.2.1 2 (by omega)).1
    · exact (h.2.1 3 (by omega)).1
    · exact (h.2.1 0 (by omega)).2
    · exact (h.2.1 1 (by omega)).2
    · exact (h.2.1 2 (by omega)).2
    · exact (h.2.1 3 (by omega)).2⟩
theorem LP_sd20_s (n : Nat) (I : MI) (J : MJ) (x1 x2 x3 : Int32) : LP_X7_side_20 (n + 1) I J x1 x2 x3 = LB_X7_side_20 (LP_X7_side_20 n) I J x1 x2 x3 := rfl
theorem cls_side {n k mo S : Nat} {T : Nat → Nat → Nat} {tw ts : Nat → Nat} {IM : MI} (hmo : mo < 12) (x2 : Int32) : ∀ (q m i : Nat) (I : MI) (J : MJ), i + q = n → q < m → RR n T I IM → RT k tw ts I IM → I 13 mo = nI S → TB i k T tw ts I → ∃ I' : MI, LP_X7_side_20 m I J (nI mo) x2 (nI i) = (bo2 (f_X6_pick I' J (nI n) (nI S)) fun I3 J4 => if x2 = (0 : Int32) then some (I3 15 5, I3, J4) else some (I3 15 6, I3, J4)) ∧ SF I I' ∧ TB n k T tw ts I' := by
  intro q
  induction q with
  | zero =>
    intro m i I J hi hm hR hT hI hB
    obtain ⟨m, rfl⟩ : ∃ z, m = z + 1 := ⟨m - 1, by omega⟩
    have hn := hR.2.2.1
    have : i = n := by omega
    subst this
    rw [LP_sd20_s]
    unfold LB_X7_side_20
    rw [hR.1, if_pos (nI_le (by omega) (by omega)), inbI hmo (by omega), chk_t, nI_clamp (by omega), hI]
    exact ⟨I, rfl, SF.rf I, hB⟩
  | succ q ih =>
    intro m i I J hi hm hR hT hI hB
    obtain ⟨m, rfl⟩ : ∃ z, m = z + 1 := ⟨m - 1, by omega⟩
    have hn := hR.2.2.1
    have hk := hT.2.2.1
    have ri := (hR.2.2.2.1 i (by omega)).1
    obtain ⟨I1, b1, b2, b3, b4⟩ := like_ok (J := J) ri
    obtain ⟨I2, c1, c2, c3, c4⟩ := tryOn_loop (T := T) (tw := tw) (ts := ts) (i := i) (k := k) (by omega) ri.2 hk hT.ws k FU 0 (T i 4) (T i 5) I1 J (by omega) (by rw [FU_eq]; omega) (by rw [T2_id]; exact b3) (by rw [T2_id]; exact b4) (by rw [b2 15 (by decide) (by decide)]; exact hT.1) (fun j hj => by rw [b2 16 (by decide) (by decide), b2 17 (by decide) (by decide)]; exact ⟨(hT.2.2.2.1 j hj).1, (hT.2.2.2.1 j hj).2.2.2.2.1⟩)
    have sf : SF I I2 := ⟨fun c' z1 z2 z3 z4 z5 => (c2 c' z1 z2 z4 z5).trans (b2 c' z1 z2), fun r hr => by
      obtain ⟨y1, y2⟩ := c3 (7 * r) (by omega)
      rw [y1, y2, b2 18 (by decide) (by decide), b2 19 (by decide) (by decide)]
      exact ⟨rfl, rfl⟩, by rw [c2 15 (by decide) (by decide) (by decide) (by decide), b2 15 (by decide) (by decide)]⟩
    rw [LP_sd20_s]
    unfold LB_X7_side_20
    simp only [bnd_d]
    rw [hR.1, if_neg (nI_ge (by omega) (by omega)), inbI (show i < 4 by omega) (by omega), chk_t, rc_nI (by omega), b1, bo2_s]
    unfold f_X6_tryOn
    simp only [bnd_d]
    rw [show (7 : Int32) = nI 7 from rfl, pk_mul, show (0 : Int32) = nI 0 from rfl, c1, bo2_s, show nI i + (1 : Int32) = nI (i + 1) from nI_1 i]
    obtain ⟨I3, d1, d2, d3⟩ := ih m (i + 1) I2 J (by omega) (by omega) (hR.cg sf.bA.R (AG.rf _)) (hT.cg sf.bA.T (AG.rf _)) (by rw [sf.1 13 (by decide) (by decide) (by decide) (by decide) (by decide)]; exact hI) (fun i' hi' d h1 h2 => by
      by_cases e : i' = i
      · subst e; exact c4 d (by omega) h2
      · obtain ⟨y1, y2⟩ := c3 (7 * i' + d) (by omega)
        rw [y1, y2, b2 18 (by decide) (by decide), b2 19 (by decide) (by decide)]
        exact hB i' (by omega) d h1 h2)
    exact ⟨I3, d1, sf.tr d2, d3⟩
