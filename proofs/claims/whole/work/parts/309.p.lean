/-! ram and take -/
def nt (a b c d : Nat) : Nat → Nat := fun q => if q = 0 then a else if q = 1 then b else if q = 2 then c else if q = 3 then d else dfT q
theorem LP_ram_s (n : Nat) (I : MI) (J : MJ) (x1 x2 x3 x4 x5 x6 : Int32) : LP_X8_ram_77 (n + 1) I J x1 x2 x3 x4 x5 x6 = LB_X8_ram_77 (LP_X8_ram_77 n) I J x1 x2 x3 x4 x5 x6 := rfl
set_option maxHeartbeats 1000000 in
theorem ram_loop {N f r l b : Nat} (hN : N < 4) {J : MJ} : ∀ (n m j : Nat) (I : MI), j + n = 13 → n < m → I 0 2 = nI N → (∀ q, 13 * N ≤ q → q < 13 * N + j → I 1 q = 0) → ∃ I' : MI, LP_X8_ram_77 m I J (nI f) (nI r) (nI l) (nI b) (nI (13 * N)) (nI j) = some (nI N, I', J) ∧ (∀ c', c' ≠ 0 → c' ≠ 1 → I' c' = I c') ∧ (∀ k, k ≠ 2 → I' 0 k = I 0 k) ∧ I' 0 2 = nI (N + 1) ∧ (∀ q, (q < 13 * N ∨ 13 * N + 13 ≤ q) → I' 1 q = I 1 q) ∧ ∀ q, q < 13 → I' 1 (13 * N + q) = nI (nt f r l b q) := by
  intro n
  induction n with
  | zero =>
    intro m j I hj hm h2 hz
    obtain ⟨m, rfl⟩ : ∃ m', m = m' + 1 := ⟨m - 1, by omega⟩
    rw [LP_ram_s]
    unfold LB_X8_ram_77
    rw [if_pos (show (13 : Int32) ≤ nI j from nI_le (a := 13) (by omega) (by omega))]
    simp only [bnd]
    have ad : ∀ k : Nat, k < 13 → inb (nI (13 * N + k)) 52 = true ∧ (nI (13 * N + k)).toNatClampNeg = 13 * N + k := by
      intro k hk
      exact ⟨inbI (by omega) (by omega), nI_clamp (by omega)⟩
    have a0 := ad 0 (by omega)
    have a1 := ad 1 (by omega)
    have a2 := ad 2 (by omega)
    have a3 := ad 3 (by omega)
    have a4 := ad 4 (by omega)
    have a5 := ad 5 (by omega)
    have a6 := ad 6 (by omega)
    have a12 := ad 12 (by omega)
    rw [show (0 : Int32) = nI 0 from rfl, show (1 : Int32) = nI 1 from rfl, show (2 : Int32) = nI 2 from rfl, show (3 : Int32) = nI 3 from rfl, show (4 : Int32) = nI 4 from rfl, show (5 : Int32) = nI 5 from rfl, show (6 : Int32) = nI 6 from rfl, show (12 : Int32) = nI 12 from rfl]
    simp only [a0.1, a1.1, a2.1, a3.1, a4.1, a5.1, a6.1, a12.1, a0.2, a1.2, a2.2, a3.2, a4.2, a5.2, a6.2, a12.2, chk_t, w2n (show (0 : Nat) ≠ 1 by decide), h2, w2k, nI_add]
    refine ⟨_, by rw [pk_sub (by omega)]; rfl, fun c' q0 q1 => ?_, fun k hk => ?_, w2k, fun q hq => ?_, fun q hq => ?_⟩
    · rw [w2n q0, w2n q1, w2n q1, w2n q1, w2n q1, w2n q1, w2n q1, w2n q1, w2n q1]
    · rw [w2j hk]
      simp only [w2n (show (0 : Nat) ≠ 1 by decide)]
    · rw [w2n (by decide)]
      simp only [w2c]
      rw [if_neg (by omega), if_neg (by omega), if_neg (by omega), if_neg (by omega), if_neg (by omega), if_neg (by omega), if_neg (by omega), if_neg (by omega)]
    · rw [w2n (by decide)]
      simp only [w2c, Nat.add_left_cancel_iff]
      have hz' := hz (13 * N + q) (by omega) (by omega)
      unfold nt dfT
      rcases (show q = 0 ∨ q = 1 ∨ q = 2 ∨ q = 3 ∨ q = 4 ∨ q = 5 ∨ q = 6 ∨ q = 7 ∨ q = 8 ∨ q = 9 ∨ q = 10 ∨ q = 11 ∨ q = 12 by omega) with rfl | rfl | rfl | rfl | rfl | rfl | rfl | rfl | rfl | rfl | rfl | rfl | rfl <;> simp [hz'] <;> rfl
  | succ n ih =>
    intro m j I hj hm h2 hz
    obtain ⟨m, rfl⟩ : ∃ m', m = m' + 1 := ⟨m - 1, by omega⟩
    rw [LP_ram_s]
    unfold LB_X8_ram_77
    rw [if_neg (show ¬ (13 : Int32) ≤ nI j from nI_ge (b := 13) (by omega) (by omega)), nI_add, inbI (by omega) (by omega), chk_t]
    simp only [bnd]
    rw [nI_clamp (by omega), show nI j + (1 : Int32) = nI (j + 1) from nI_1 j]
    obtain ⟨I', e1, e2, e3, e4, e5, e6⟩ := ih m (j + 1) (w2 I 1 (13 * N + j) 0) (by omega) (by omega) (by rw [w2n (by decide)]; exact h2) (fun q q1 q2 => by
      rw [w2c]
      by_cases e : q = 13 * N + j
      · rw [if_pos e]
      · rw [if_neg e]; exact hz q q1 (by omega))
    refine ⟨I', e1, fun c' q0 q1 => by rw [e2 c' q0 q1, w2n q1], fun k hk => by rw [e3 k hk, w2n (by decide)], e4, fun q hq => ?_, e6⟩
    rw [e5 q hq, w2j (by omega)]
set_option maxHeartbeats 1000000 in
theorem s_ram {IB : MI} {JB : MJ} {IM : MI} {JM : MJ} (h : REL IB JB IM JM) (a1 a2 a3 a4 : Int32) : SW (f_X7_ram IB JB a1 a2 a3 a4) (f_X8_ram IM JM a1 a2 a3 a4) := by
  have h0 := thr h
  unfold f_X7_ram f_X8_ram
  simp only [bnd, in_wi]
  generalize w2 IM 0 0 0 = IM at h0 ⊢
  obtain ⟨n, T, hr⟩ := h0.1
  obtain ⟨r1, r2, r3, r4, r5⟩ := id hr
  have b37 : LB_X7_ram_37 IB JB a1 a2 a3 a4 = some (-1, IB, JB) := rfl
  rw [b37]
  rcases win a1 (x := 5) (y := 200) (lo := 5) (hi := 200) rfl rfl (by omega) (by omega) with ⟨f, f1, f2, rfl, e1⟩ | e1
  · rw [e1]
    rcases canBe (j := 0) (by omega) (x := 0) rfl (nI f) with ⟨-, -, -, -, c1⟩ | ⟨-, c1⟩
    · rw [c1]
      simp only [bo1_s, one0, ↓reduceIte]
      rcases win a2 (x := nI f + 1) (y := 1000) (lo := f + 1) (hi := 1000) (nI_1 f) rfl (by omega) (by omega) with ⟨r, g1, g2, rfl, e2⟩ | e2
      · rw [e2]
        rcases canBe (j := 1) (by omega) (x := 1) rfl (nI r) with ⟨-, -, -, -, c2⟩ | ⟨-, c2⟩
        · rw [c2]
          simp only [bo1_s, one0, ↓reduceIte]
          rcases win a3 (x := 20) (y := 900) (lo := 20) (hi := 900) rfl rfl (by omega) (by omega) with ⟨l, l1, l2, rfl, e3⟩ | e3
          · rw [e3]
            rcases canBe (j := 2) (by omega) (x := 2) rfl (nI l) with ⟨-, -, -, -, c3⟩ | ⟨-, c3⟩
            · rw [c3]
              simp only [bo1_s, one0, ↓reduceIte]
              rcases win a4 (x := 1) (y := 9) (lo := 1) (hi := 9) rfl rfl (by omega) (by omega) with ⟨b, b1, b2, rfl, e4⟩ | e4
              · rw [e4]
                rcases canBe (j := 3) (by omega) (x := 3) rfl (nI b) with ⟨-, -, -, -, c4⟩ | ⟨-, c4⟩
                · rw [c4]
                  simp only [bo1_s, one0, ↓reduceIte]
                  unfold LB_X7_ram_38
                  simp only [one0, ↓reduceIte, bnd]
                  rw [if_pos (nI_lt (by omega) (by omega)), r1, r2]
                  by_cases hn : n = 4
                  · subst hn
                    rw [if_neg (by decide), if_pos (by decide)]; exact SW.same h0
                  · rw [if_pos (show nI n < (4 : Int32) from nI_lt (b := 4) (by omega) (by omega)), if_neg (show ¬ nI n = (4 : Int32) from fun z => hn ((nI_eq (b := 4) (by omega) (by omega)).mp z)), inbI (by omega) (by omega), chk_t, rc_nI (by omega)]
                    obtain ⟨z1, z2⟩ := r5 n (Nat.le_refl _) (by omega)
                    obtain ⟨I1, p1, p2, p3, p4⟩ := put_raw (c := 2 + 2 * n) (j := 0) (x := nI f) (I := IB) (J := JB) (by omega)
                    obtain ⟨I2, q1, q2, q3, q4⟩ := put_raw (c := 2 + 2 * n) (j := 1) (x := nI r) (I := I1) (J := JB) (by omega)
                    obtain ⟨I3, s1, s2, s3, s4⟩ := put_raw (c := 2 + 2 * n) (j := 2) (x := nI l) (I := I2) (J := JB) (by omega)
                    obtain ⟨I4, t1, t2, t3, t4⟩ := put_raw (c := 2 + 2 * n) (j := 3) (x := nI b) (I := I3) (J := JB) (by omega)
                    have k1 : I1 (2 + 2 * n) 1 = 0 := by
                      rcases p4 with ⟨p4, -⟩ | p4
                      · rw [p4]; exact z1
                      · exact p4
                    have k2 : I2 (2 + 2 * n) 1 = 0 := by
                      rcases q4 with ⟨q4, -⟩ | q4
                      · rw [q4]; exact k1
                      · exact q4
                    have k3 : I3 (2 + 2 * n) 1 = 0 := by
                      rcases s4 with ⟨s4, -⟩ | s4
                      · rw [s4]; exact k2
                      · exact s4
                    have k4 : I4 (2 + 2 * n) 1 = 0 := by
                      rcases t4 with ⟨t4, -⟩ | t4
                      · rw [t4]; exact k3
                      · exact t4
                    have kc : ∀ c', c' ≠ 2 + 2 * n → c' ≠ 2 + 2 * n + 1 → I4 c' = IB c' := fun c' x1 x2 => by rw [t2 c' x1 x2, s2 c' x1 x2, q2 c' x1 x2, p2 c' x1 x2]
                    have kt : ∀ q, q < 13 → I4 (2 + 2 * n + 1) q = nI (nt f r l b q) := by
                      intro q hq
                      rw [t3 q, s3 q, q3 q, p3 q]
                      unfold nt
                      by_cases y0 : q = 0
                      · subst y0; rfl
                      · by_cases y1 : q = 1
                        · subst y1; rfl
                        · by_cases y2 : q = 2
                          · subst y2; rfl
                          · by_cases y3 : q = 3
                            · subst y3; rfl
                            · rw [if_neg y3, if_neg y2, if_neg y1, if_neg y0, if_neg y0, if_neg y1, if_neg y2, if_neg y3]
                              exact z2 q (by omega) hq
                    change f_X1_put (2 + 2 * n) IB JB 0 (nI f) = some (I1, JB) at p1
                    change f_X1_put (2 + 2 * n) I1 JB 1 (nI r) = some (I2, JB) at q1
                    change f_X1_put (2 + 2 * n) I2 JB 2 (nI l) = some (I3, JB) at s1
                    change f_X1_put (2 + 2 * n) I3 JB 3 (nI b) = some (I4, JB) at t1
                    rw [p1, bo2_s, q1, bo2_s, s1, bo2_s, t1, bo2_s]
                    have k0 : I4 0 1 = nI n := by rw [kc 0 (by omega) (by omega)]; exact r1
                    simp only [k0, w2k]
                    obtain ⟨IM', m1, m2, m3, m4, m5, m6⟩ := ram_loop (N := n) (f := f) (r := r) (l := l) (b := b) (by omega) (J := JM) 13 FU 0 IM (by omega) (by rw [FU_eq]; omega) r2 (fun q x1 x2 => by omega)
                    rw [show (13 : Int32) * nI n = nI (13 * n) from pk_mul 13 n]
                    change LP_X8_ram_77 FU IM JM (nI f) (nI r) (nI l) (nI b) (nI (13 * n)) 0 = some (nI n, IM', JM) at m1
                    rw [m1]
                    have hto : TO (nt f r l b) := by
                      unfold TO nt dfT
                      simp
                      omega
                    refine SW.ret (by rw [show (1 : Int32) = nI 1 from rfl, nI_add, pk_sub (by omega)]; rfl) (h0.setR ((AG.ram (i := n) (by omega) kc (by decide) (by decide)).tr (AG.w2 (by decide) (by decide))) ?_ (AJ.rf _) (AJ.rf _) ⟨n + 1, uT T n (nt f r l b), ?_, m4, by omega, fun i hi => ?_, fun i hi hi4 => ?_⟩)
                    · refine ⟨fun c hc => m2 c (fun z => by subst z; exact absurd hc (by decide)) (fun z => by subst z; exact absurd hc (by decide)), fun p hp => ?_⟩
                      have h9 := (by decide : ∀ p ∈ ([(0, 12), (0, 13), (0, 14), (0, 17), (0, 18), (0, 20), (0, 21), (0, 27), (0, 28), (0, 29), (0, 31), (0, 35), (0, 36)] : List (Nat × Nat)), p.1 = 0 ∧ p.2 ≠ 2) p hp
                      rw [h9.1]; exact m3 p.2 h9.2
                    · rw [w2k]; exact nI_1 n
                    · unfold uT
                      rw [w2n (by omega), w2n (by omega)]
                      by_cases e : i = n
                      · subst e
                        rw [if_pos rfl]
                        exact ⟨⟨kt, hto⟩, m6, Or.inl k4⟩
                      · rw [if_neg e, kc (2 + 2 * i) (by omega) (by omega), kc (2 + 2 * i + 1) (by omega) (by omega)]
                        refine ⟨(r4 i (by omega)).1, fun j hj => ?_, (r4 i (by omega)).2.2⟩
                        rw [m5 _ (by omega)]; exact (r4 i (by omega)).2.1 j hj
                    · rw [w2n (by omega), w2n (by omega), kc (2 + 2 * i) (by omega) (by omega), kc (2 + 2 * i + 1) (by omega) (by omega)]
                      exact r5 i (by omega) hi4
                · exact absurd rfl (c4 b (by omega) b1 b2)
              · rw [e4]
                rcases canBe (j := 3) (by omega) (x := 3) rfl a4 with ⟨m, m1, m2, m3, -⟩ | ⟨c4, -⟩
                · exact absurd m3 (win_not (lo := 1) (hi := 9) rfl rfl (by omega) (by omega) e4 m1 m2)
                · rw [c4]; exact SW.same h0
            · exact absurd rfl (c3 l (by omega) l1 l2)
          · rw [e3]
            rcases canBe (j := 2) (by omega) (x := 2) rfl a3 with ⟨m, m1, m2, m3, -⟩ | ⟨c3, -⟩
            · exact absurd m3 (win_not (lo := 20) (hi := 900) rfl rfl (by omega) (by omega) e3 m1 m2)
            · rw [c3]; exact SW.same h0
        · exact absurd rfl (c2 r (by omega) (show 6 ≤ r by omega) g2)
      · rw [e2]
        have bad : LB_X7_ram_38 IB JB (nI f) a2 a3 a4 1 = some (-1, IB, JB) ∨ f_X7_canBe 1 a2 = some 0 := by
          rcases canBe (j := 1) (by omega) (x := 1) rfl a2 with ⟨m, m1, m2, m3, -⟩ | ⟨c2, -⟩
          · left
            unfold LB_X7_ram_38
            simp only [one0, ↓reduceIte]
            have hm := thi_bd (j := 1) (by omega) m2
            rw [if_neg]
            intro z
            subst m3
            have : f < m := (nI_ltI (by omega) (by omega)).mp z
            exact win_not (x := nI f + 1) (y := 1000) (lo := f + 1) (hi := 1000) (m := m) (nI_1 f) rfl (by omega) (by omega) e2 (by omega) m2 rfl
          · exact Or.inr c2
        have z1 : ∀ a, f_X7_canBe 2 a = some 1 ∨ f_X7_canBe 2 a = some 0 := fun a => by
          rcases canBe (j := 2) (by omega) (x := 2) rfl a with ⟨-, -, -, -, c⟩ | ⟨c, -⟩
          · exact Or.inl c
          · exact Or.inr c
        have z2 : ∀ a, f_X7_canBe 3 a = some 1 ∨ f_X7_canBe 3 a = some 0 := fun a => by
          rcases canBe (j := 3) (by omega) (x := 3) rfl a with ⟨-, -, -, -, c⟩ | ⟨c, -⟩
          · exact Or.inl c
          · exact Or.inr c
        rcases bad with bad | bad
        · rw [bad]
          rcases canBe (j := 1) (by omega) (x := 1) rfl a2 with ⟨-, -, -, -, c⟩ | ⟨c, -⟩
          · rw [c]
            rcases z1 a3 with w | w
            · rw [w]
              rcases z2 a4 with u | u
              · rw [u]; exact SW.same h0
              · rw [u]; exact SW.same h0
            · rw [w]; exact SW.same h0
          · rw [c]; exact SW.same h0
        · rw [bad]; exact SW.same h0
    · exact absurd rfl (c1 f (by omega) f1 f2)
  · rw [e1]
    rcases canBe (j := 0) (by omega) (x := 0) rfl a1 with ⟨m, m1, m2, m3, -⟩ | ⟨c1, -⟩
    · exact absurd m3 (win_not (lo := 5) (hi := 200) rfl rfl (by omega) (by omega) e1 m1 m2)
    · rw [c1]; exact SW.same h0
