/-! rights itself -/
theorem LP_ta20_s (n : Nat) (I : MI) (J : MJ) (x1 : Int32) : LP_X3_tellAnew_20 (n + 1) I J x1 = LB_X3_tellAnew_20 (LP_X3_tellAnew_20 n) I J x1 := rfl
theorem LP_ri12_s (n : Nat) (I : MI) (J : MJ) (x1 : Int32) : LP_X8_rights_12 (n + 1) I J x1 = LB_X8_rights_12 (LP_X8_rights_12 n) I J x1 := rfl
theorem LP_ri63_s (n : Nat) (I : MI) (J : MJ) (x1 x2 : Int32) : LP_X8_rights_63 (n + 1) I J x1 x2 = LB_X8_rights_63 (LP_X8_rights_63 n) I J x1 x2 := rfl
theorem copy63 {x : Nat} (hx : x ≤ 12) {J : MJ} : ∀ (n m j : Nat) (I : MI), j + n = 4 * x → n < m → ∃ I' : MI, LP_X8_rights_63 m I J (nI x) (nI j) = some (nI x, w2 (w2 I' 0 21 (nI x)) 0 20 0, J) ∧ (∀ c', c' ≠ 8 → I' c' = I c') ∧ (∀ k, k < j → I' 8 k = I 8 k) ∧ ∀ k, j ≤ k → k < 4 * x → I' 8 k = I 9 k := by
  intro n
  induction n with
  | zero =>
    intro m j I hj hm
    obtain ⟨m, rfl⟩ : ∃ z, m = z + 1 := ⟨m - 1, by omega⟩
    rw [LP_ri63_s]
    unfold LB_X8_rights_63
    simp only [bnd_d]
    rw [show (4 : Int32) = nI 4 from rfl, pk_mul, if_pos (nI_le (by omega) (by omega))]
    exact ⟨I, rfl, fun _ _ => rfl, fun _ _ => rfl, fun k h1 h2 => by omega⟩
  | succ n ih =>
    intro m j I hj hm
    obtain ⟨m, rfl⟩ : ∃ z, m = z + 1 := ⟨m - 1, by omega⟩
    rw [LP_ri63_s]
    unfold LB_X8_rights_63
    simp only [bnd_d]
    rw [show (4 : Int32) = nI 4 from rfl, pk_mul, if_neg (nI_ge (by omega) (by omega)), inbI (show j < 52 by omega) (by omega), chk_t, inbI (show j < 48 by omega) (by omega), chk_t, nI_clamp (by omega), show nI j + (1 : Int32) = nI (j + 1) from nI_1 j]
    obtain ⟨I', g1, g2, g3, g4⟩ := ih m (j + 1) (w2 I 8 j (I 9 j)) (by omega) (by omega)
    refine ⟨I', g1, fun c' z => by rw [g2 c' z, w2n z], fun k hk => by rw [g3 k (by omega), w2j (by omega)], fun k h1 h2 => ?_⟩
    by_cases e : k = j
    · subst e; rw [g3 k (by omega), w2k]
    · rw [g4 k (by omega) h2, w2n (by decide)]
theorem P23.bA {I I' : MI} (h : P23 I I') : bA I I' := ⟨fun c hc => h.1 c (fun e => by subst e; exact absurd hc (by decide)) (fun e => by subst e; exact absurd hc (by decide)), fun p hp => by
  have := (by decide : ∀ p ∈ ([(0, 1), (12, 2), (12, 3), (15, 2), (18, 0), (18, 7), (18, 14), (18, 21), (19, 0), (19, 7), (19, 14), (19, 21), (24, 0), (24, 1), (20, 1), (20, 2), (0, 9), (0, 10), (0, 11), (26, 3), (26, 4), (26, 5)] : List (Nat × Nat)), (p.1 ≠ 20 ∧ p.1 ≠ 23) ∨ (p.1 = 20 ∧ p.2 ≠ 5 ∧ p.2 ≠ 6)) p hp
  rcases this with ⟨a, b⟩ | ⟨a, b, c⟩
  · rw [h.1 p.1 a b]
  · rw [a]; exact h.2 p.2 b c⟩
theorem P9.mA {x : Nat} {I I' : MI} (h : P9 x I I') : mA I I' := ⟨fun c hc => h.1 c (fun e => by subst e; exact absurd hc (by decide)) (fun e => by subst e; exact absurd hc (by decide)), fun p hp => by
  have := (by decide : ∀ p ∈ ([(0, 2), (0, 12), (0, 13), (0, 14), (0, 17), (0, 18), (0, 20), (0, 21), (0, 27), (0, 28), (0, 29), (0, 31), (0, 35), (0, 36)] : List (Nat × Nat)), p.1 = 0 ∧ p.2 ≠ 24 ∧ p.2 ≠ 25 ∧ p.2 ≠ 26) p hp
  rw [this.1]; exact h.2.1 p.2 this.2.1 this.2.2.1 this.2.2.2⟩
/-- what has been read so far -/
def GOT (x : Nat) (F A B G : Nat → Nat) (IB IM : MI) : Prop := (∀ i, i < x → IM 9 (4 * i) = nI (F i) ∧ IM 9 (4 * i + 1) = nI (A i) ∧ IM 9 (4 * i + 2) = nI (B i) ∧ IM 9 (4 * i + 3) = nI (G i) ∧ F i < 5 ∧ A i < B i ∧ B i ≤ 24 ∧ G i ≤ 9999) ∧ ∀ f h, f < 5 → h < 24 → IB 23 (24 * f + h) = nI (sI F A B G f h x)
theorem sI_cg {F A B G F' A' B' G' : Nat → Nat} {f h : Nat} : ∀ n, (∀ i, i < n → F' i = F i ∧ A' i = A i ∧ B' i = B i ∧ G' i = G i) → sI F' A' B' G' f h n = sI F A B G f h n := by
  intro n
  induction n with
  | zero => intro _; rfl
  | succ n ih =>
    intro e
    rw [sI_s, sI_s, ih (fun i hi => e i (by omega)), (e n (by omega)).1, (e n (by omega)).2.1, (e n (by omega)).2.2.1, (e n (by omega)).2.2.2]
def up1 (F : Nat → Nat) (x v : Nat) : Nat → Nat := fun i => if i = x then v else F i
theorem up1_k (F : Nat → Nat) (x v : Nat) : up1 F x v x = v := if_pos rfl
theorem up1_n {F : Nat → Nat} {x v i : Nat} (h : i ≠ x) : up1 F x v i = F i := if_neg h
theorem rights_end {L x : Nat} {b F A B G : Nat → Nat} {IB IM : MI} {JB JM : MJ} (h : REL IB JB IM JM) (hx : x ≤ 12) (hg : GOT x F A B G IB IM) : SW (some (nI x, w2 (w2 (w1 IB 22 (va_cpy (IB 23) (IB 22) (0 : Int32).toNatClampNeg (0 : Int32).toNatClampNeg (120 : Int32).toNatClampNeg)) 20 2 (nI x)) 20 1 0, JB)) (LP_X8_rights_63 FU IM JM (nI x) 0) := by
  obtain ⟨I', g1, g2, g3, g4⟩ := copy63 hx (J := JM) (4 * x) FU 0 IM (by omega) (by rw [FU_eq]; omega)
  change LP_X8_rights_63 FU IM JM (nI x) 0 = _ at g1
  rw [g1]
  have w1n : ∀ (c' : Nat) (v : Nat → Int32), c' ≠ 22 → w1 IB 22 v c' = IB c' := fun c' v z => by unfold w1; rw [if_neg z]
  generalize hV : va_cpy (IB 23) (IB 22) (0 : Int32).toNatClampNeg (0 : Int32).toNatClampNeg (120 : Int32).toNatClampNeg = V
  have hV2 : ∀ k, k < 120 → V k = IB 23 k := by
    intro k hk
    rw [← hV, show (0 : Int32).toNatClampNeg = 0 from rfl, show (120 : Int32).toNatClampNeg = 120 from rfl]
    unfold va_cpy
    simp [hk]
  have H1 : REL (w2 (w1 IB 22 V) 20 2 (nI x)) JB (w2 I' 0 21 (nI x)) JM := by
    refine h.setQ ?_ ?_ (AJ.rf _) (AJ.rf _) ⟨x, F, A, B, G, by rw [w2k], by rw [w2k], hx, fun i hi => ?_, fun f k hf hk => ?_⟩
    · refine ⟨fun c hc => ?_, fun p hp => ?_⟩
      · have := (by decide : ∀ c ∈ ([2, 3, 4, 5, 6, 7, 8, 9, 13, 14, 16, 17, 21, 27, 28, 29] : List Nat), c ≠ 20 ∧ c ≠ 22) c hc
        rw [w2n this.1, w1n c V this.2]
      · have := (by decide : ∀ p ∈ ([(0, 1), (12, 2), (12, 3), (15, 2), (18, 0), (18, 7), (18, 14), (18, 21), (19, 0), (19, 7), (19, 14), (19, 21), (24, 0), (24, 1), (20, 1), (0, 9), (0, 10), (0, 11), (26, 3), (26, 4), (26, 5)] : List (Nat × Nat)), (p.1 ≠ 20 ∧ p.1 ≠ 22) ∨ (p.1 = 20 ∧ p.2 ≠ 2)) p hp
        rcases this with ⟨a, b⟩ | ⟨a, b⟩
        · rw [w2n a, w1n p.1 V b]
        · rw [a, w2j b, w1n 20 V (by decide)]
    · refine ⟨fun c hc => ?_, fun p hp => ?_⟩
      · have := (by decide : ∀ c ∈ ([1, 3, 4, 5, 6, 7, 11, 12, 13] : List Nat), c ≠ 0 ∧ c ≠ 8) c hc
        rw [w2n this.1, g2 c this.2]
      · have := (by decide : ∀ p ∈ ([(0, 2), (0, 12), (0, 13), (0, 14), (0, 17), (0, 18), (0, 20), (0, 27), (0, 28), (0, 29), (0, 31), (0, 35), (0, 36)] : List (Nat × Nat)), p.1 = 0 ∧ p.2 ≠ 21) p hp
        rw [this.1, w2j this.2, g2 0 (by decide)]
    · obtain ⟨e1, e2, e3, e4, e5⟩ := hg.1 i hi
      rw [w2n (show 8 ≠ 0 by decide), g4 (4 * i) (by omega) (by omega), g4 (4 * i + 1) (by omega) (by omega), g4 (4 * i + 2) (by omega) (by omega), g4 (4 * i + 3) (by omega) (by omega)]
      exact ⟨e1, e2, e3, e4, e5⟩
    · rw [w2n (by decide)]
      unfold w1
      rw [if_pos rfl, hV2 _ (by omega)]
      exact hg.2 f k hf hk
  refine SW.same (H1.setD ?_ ?_ (AJ.rf _) (AJ.rf _) ⟨0, fun _ => 0, by rw [w2k]; rfl, by rw [w2k]; rfl, by omega, fun j hj => by omega⟩)
  · exact AG.w2 (by decide) (by decide)
  · exact AG.w2 (by decide) (by decide)
theorem rights_loop {b : Nat → Nat} {L : Nat} : ∀ (n m m' x p : Nat) (F A B G : Nat → Nat) (IB : MI) (JB : MJ) (IM : MI) (JM : MJ), x + n = 12 → n < m → n < m' → REL IB JB IM JM → DB b L IB → DMd b L IM → AT IB p true → IM 0 24 = nI p → p ≤ L → GOT x F A B G IB IM → SW (LP_X3_tellAnew_20 m IB JB (nI x)) (LP_X8_rights_12 m' IM JM (nI x)) := by
  intro n
  induction n with
  | zero =>
    intro m m' x p F A B G IB JB IM JM hx hm hm' h hB hM ha h24 hp hg
    obtain ⟨m, rfl⟩ : ∃ z, m = z + 1 := ⟨m - 1, by omega⟩
    obtain ⟨m', rfl⟩ : ∃ z, m' = z + 1 := ⟨m' - 1, by omega⟩
    have hL := hB.2.1
    have : x = 12 := by omega
    subst this
    rw [LP_ta20_s, LP_ri12_s]
    unfold LB_X3_tellAnew_20 LB_X8_rights_12 LB_X3_tellAnew_54
    simp only [bnd_d]
    rw [if_pos (show (12 : Int32) ≤ nI 12 by decide), ha.2, if_pos (show (if true = true then (0 : Int32) else 1) = 0 from rfl), hB.1, ha.1, hM.1, h24]
    by_cases e : L ≤ p
    · rw [if_pos (nI_le e (by omega)), if_pos (nI_le e (by omega))]
      exact rights_end (b := b) (L := L) h (by omega) hg
    · rw [if_neg (nI_ge (by omega) (by omega)), if_neg (nI_ge (by omega) (by omega)), if_pos (show nI 12 = (12 : Int32) from rfl)]
      exact SW.same h
  | succ n ih =>
    intro m m' x p F A B G IB JB IM JM hx hm hm' h hB hM ha h24 hp hg
    obtain ⟨m, rfl⟩ : ∃ z, m = z + 1 := ⟨m - 1, by omega⟩
    obtain ⟨m', rfl⟩ : ∃ z, m' = z + 1 := ⟨m' - 1, by omega⟩
    have hL := hB.2.1
    rw [LP_ta20_s, LP_ri12_s]
    unfold LB_X3_tellAnew_20 LB_X8_rights_12
    simp only [bnd_d]
    rw [if_neg (show ¬ (12 : Int32) ≤ nI x from nI_ge (b := 12) (by omega) (by omega)), hB.1, ha.1, hM.1, h24]
    by_cases e : L ≤ p
    · rw [if_pos (nI_le e (by omega)), if_pos (nI_le e (by omega))]
      unfold LB_X3_tellAnew_54
      simp only [bnd_d]
      rw [ha.2, if_pos (show (if true = true then (0 : Int32) else 1) = 0 from rfl), hB.1, ha.1, if_pos (nI_le e (by omega))]
      exact rights_end (b := b) (L := L) h (by omega) hg
    · rw [if_neg (nI_ge (by omega) (by omega)), if_neg (nI_ge (by omega) (by omega)), ha.2, if_pos (show (if true = true then (0 : Int32) else 1) = 0 from rfl), if_neg (show ¬ nI x = (12 : Int32) from fun z => by have := (nI_eq (b := 12) (by omega) (by omega)).mp z; omega), show (4 : Int32) = nI 4 from rfl, pk_mul]
      obtain ⟨I1, M1, a1, a2, a3, a4⟩ := item_sim (JB := JB) (JM := JM) (x := x) hB hM ha h24 hp (by omega)
      have h1 := h.keep a3.bA a2.mA (AJ.rf _) (AJ.rf _)
      rw [a1, bo2_s, show nI x + (1 : Int32) = nI (x + 1) from nI_1 x]
      rcases a4 with ⟨q, q0, q1, q2, q3⟩ | ⟨f, a, c, g, q, f1, f2, f3, f4, f5, f6, f7, f8, f9, f10, f11, f12, f13, f14⟩
      · rw [q1, bo3_s, if_pos rfl, q3]
        obtain ⟨m, rfl⟩ : ∃ z, m = z + 1 := ⟨m - 1, by omega⟩
        have hB1 := hB.go3 a3
        rw [LP_ta20_s]
        have e54 : LB_X3_tellAnew_54 I1 JB (nI (x + 1)) = some (-10 - nI q, I1, JB) := by
          unfold LB_X3_tellAnew_54
          rw [q2.2, if_neg (show ¬ (if false = true then (0 : Int32) else 1) = 0 by decide), q2.1]
        unfold LB_X3_tellAnew_20
        rw [e54, q2.2, if_neg (show ¬ (if false = true then (0 : Int32) else 1) = 0 by decide)]
        by_cases z1 : (12 : Int32) ≤ nI (x + 1)
        · rw [if_pos z1]; exact SW.same h1
        · rw [if_neg z1]
          by_cases z2 : I1 20 1 ≤ I1 20 5
          · rw [if_pos z2]; exact SW.same h1
          · rw [if_neg z2]; exact SW.same h1
      · rw [f7, bo3_s, if_neg (by decide)]
        refine ih m m' (x + 1) q (up1 F x f) (up1 A x a) (up1 B x c) (up1 G x g) I1 JB M1 JM (by omega) (by omega) (by omega) h1 (hB.go3 a3) (hM.go9 a2) f8 f9 f5 ⟨fun i hi => ?_, fun f' k hf hk => ?_⟩
        · by_cases ei : i = x
          · subst ei
            rw [up1_k, up1_k, up1_k, up1_k]
            exact ⟨f10, f11, f12, f13, f1, f2, f3, f4⟩
          · rw [up1_n ei, up1_n ei, up1_n ei, up1_n ei, a2.2.2 (4 * i) (by omega), a2.2.2 (4 * i + 1) (by omega), a2.2.2 (4 * i + 2) (by omega), a2.2.2 (4 * i + 3) (by omega)]
            exact hg.1 i (by omega)
        · rw [f14 f' k hf hk, hg.2 f' k hf hk, sI_s, sI_cg (F := F) (A := A) (B := B) (G := G) x (fun i hi => ⟨up1_n (by omega), up1_n (by omega), up1_n (by omega), up1_n (by omega)⟩), up1_k, up1_k, up1_k, up1_k]
          by_cases ef : f = f' ∧ a ≤ k ∧ k < c
          · rw [if_pos ef, if_pos ef, nI_add]
          · rw [if_neg ef, if_neg ef, Nat.add_zero]
theorem s_rights {IB : MI} {JB : MJ} {IM : MI} {JM : MJ} (h : REL IB JB IM JM) : SW (f_X7_rights IB JB) (f_X8_rights IM JM) := by
  have h0 := thr h
  unfold f_X7_rights f_X8_rights f_X3_tellAnew
  simp only [bnd_d]
  generalize w2 IM 0 0 0 = IM at h0 ⊢
  obtain ⟨L, b, d1, d2, d3, d4⟩ := h0.2.2.2.2.1
  generalize hV : fl (0 : Int32) 120 (IB 23) = V
  have hV2 : ∀ k, k < 120 → V k = 0 := by
    intro k hk
    rw [← hV]
    unfold fl
    simp [hk]
  have p23 : P23 IB (w2 (w2 (w1 IB 23 V) 20 5 0) 20 6 0) := ⟨fun c' z1 z2 => by rw [w2n z1, w2n z1]; unfold w1; rw [if_neg z2], fun q z1 z2 => by rw [w2j z2, w2j z1]; unfold w1; rw [if_neg (by decide)]⟩
  have p9 : P9 0 IM (w2 IM 0 24 0) := P9.of (P24.st (Or.inl rfl))
  have hB : DB b L IB := ⟨d1, d3, fun j hj => ⟨(d4 j hj).1, (d4 j hj).2.2⟩⟩
  have hM : DMd b L IM := ⟨d2, d3, fun j hj => ⟨(d4 j hj).1, (d4 j hj).2.1⟩⟩
  have key := rights_loop (b := b) (L := L) 12 FU FU 0 0 (fun _ => 0) (fun _ => 0) (fun _ => 0) (fun _ => 0) (w2 (w2 (w1 IB 23 V) 20 5 0) 20 6 0) JB (w2 IM 0 24 0) JM (by omega) (by rw [FU_eq]; omega) (by rw [FU_eq]; omega) (h0.keep p23.bA p9.mA (AJ.rf _) (AJ.rf _)) (hB.go3 p23) (hM.go9 p9) ⟨by rw [w2j (by decide), w2k]; rfl, by rw [w2k]; rfl⟩ (by rw [w2k]; rfl) (Nat.zero_le _) ⟨fun i hi => by omega, fun f k hf hk => by
    rw [w2n (by decide), w2n (by decide)]
    unfold w1
    rw [if_pos rfl, hV2 _ (by omega)]
    rfl⟩
  obtain ⟨r, I1, J1, I2, J2, e1, e2, e3⟩ := key
  change LP_X3_tellAnew_20 FU (w2 (w2 (w1 IB 23 V) 20 5 0) 20 6 0) JB 0 = _ at e1
  change LP_X8_rights_12 FU (w2 IM 0 24 0) JM 0 = _ at e2
  rw [e1, e2, bo3_s]
  exact SW.same e3
