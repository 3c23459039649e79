/-! what a cause makes of a ram; whether it fits -/
theorem nb_bd {T : Nat → Nat} (h : TO T) : nbT T ≤ 720 := by
  unfold nbT
  split
  · omega
  · have := bt_bd h
    have h2 : 5 ≤ spT T := by unfold spT; omega
    have : 3600 / spT T ≤ 3600 / 5 := Nat.div_le_div (Nat.le_refl _) h2 (by omega)
    omega
theorem ub_bd {T : Nat → Nat} (h : TO T) : ubT T ≤ 2700 * 402 := by
  have := lf_bd h
  unfold ubT
  split
  · omega
  · split <;> omega
theorem up_bd {T : Nat → Nat} (h : TO T) : upT T ≤ 720 * (2700 * 402) := Nat.mul_le_mul (nb_bd h) (ub_bd h)
theorem wa_bd {T : Nat → Nat} (h : TO T) : waT T ≤ 720 * (2700 * 402) := by
  unfold waT
  split
  · have hop := h.op
    unfold TO at h
    have q1 : 36 * T 3 * opT T ≤ 36 * 9 * 12 := Nat.mul_le_mul (by omega) hop
    have q2 : 36 * T 3 * opT T * T 0 ≤ 36 * 9 * 12 * 200 := Nat.mul_le_mul q1 (by omega)
    omega
  · exact Nat.mul_le_mul (nb_bd h) (bt_bd h).2.2.2
def airN (p : Nat) : Nat := if p = 0 then 100 else if p = 1 then 60 else if p = 2 then 20 else 0
def cT (T : Nat → Nat) (c : Nat) : Nat → Nat := un (un (un (un T 7 (c % 4)) 8 (c / 4 % 4)) 9 (c / 16 % 4)) 6 (airN (c / 64 % 4))
/-- the value of a cause by an aspect -/
def vC (c a : Nat) : Nat := c / 4 ^ a % 4
theorem vC_lt (c a : Nat) : vC c a < 4 := Nat.mod_lt _ (by omega)
theorem vb {c a : Nat} (hc : c < 256) (ha : a < 4) : (nI c >>> (((2 : Int32) * nI a) &&& 31)) &&& (3 : Int32) = nI (vC c a) := by
  unfold vC
  have hq : c / 4 ^ a < 2 ^ 32 := Nat.lt_of_le_of_lt (Nat.div_le_self _ _) (by omega)
  have hs : nI c >>> (((2 : Int32) * nI a) &&& 31) = nI (c / 2 ^ (2 * a)) := pk_shrN (by omega) _ (2 * a) (by
    rcases (show a = 0 ∨ a = 1 ∨ a = 2 ∨ a = 3 by omega) with rfl | rfl | rfl | rfl <;> decide +kernel)
  rw [hs, Nat.pow_mul, show (2 : Nat) ^ 2 = 4 from rfl]
  exact pk_andN hq 2 (by decide +kernel)
theorem vC_0 (c : Nat) : vC c 0 = c % 4 := by unfold vC; rw [Nat.pow_zero, Nat.div_one]
theorem vC_1 (c : Nat) : vC c 1 = c / 4 % 4 := by unfold vC; rw [Nat.pow_one]
theorem vC_2 (c : Nat) : vC c 2 = c / 16 % 4 := rfl
theorem vC_3 (c : Nat) : vC c 3 = c / 64 % 4 := rfl
theorem air_bd (p : Nat) : airN p ≤ 100 := by
  unfold airN
  split
  · omega
  · split
    · omega
    · split <;> omega
theorem TO_c {T : Nat → Nat} (h : TO T) (c : Nat) : TO (cT T c) := by
  have a1 := Nat.mod_lt c (show 0 < 4 by omega)
  have a2 := Nat.mod_lt (c / 4) (show 0 < 4 by omega)
  have a3 := Nat.mod_lt (c / 16) (show 0 < 4 by omega)
  have a4 := air_bd (c / 64 % 4)
  unfold TO at h
  unfold TO cT un
  simp
  omega
theorem putG {c j v : Nat} {x y : Int32} {I : MI} {J : MJ} {T : Nat → Nat} (hj : j < 13) (hx : x = nI j) (hy : y = nI v) (ok : okV T j v) (hT : TV (I (c + 1)) T) (hC : CK (I c) T) : ∃ I' : MI, f_X1_put c I J x y = some (I', J) ∧ (∀ c', c' ≠ c → c' ≠ c + 1 → I' c' = I c') ∧ TV (I' (c + 1)) (un T j v) ∧ CK (I' c) (un T j v) := by
  subst hx; subst hy
  obtain ⟨I', p1, p2, p3, p4⟩ := put_ok (c := c) (j := j) (v := v) (I := I) (J := J) (T := T) hj (by have := thi_bd hj ok.2.1; omega) hT.1 (by have := hT.2.bd j hj; omega) hC
  exact ⟨I', p1, p2, ⟨p3, hT.2.set hj ok⟩, p4⟩
/-- only the trial Ram's cells change -/
def TR (I I' : MI) : Prop := ∀ c', c' ≠ 10 → c' ≠ 11 → I' c' = I c'
theorem TR.tr {I I' I'' : MI} (h : TR I I') (h2 : TR I' I'') : TR I I'' := fun c a b => (h2 c a b).trans (h c a b)
theorem TR.rf (I : MI) : TR I I := fun _ _ _ => rfl
theorem TR.bA {I I' : MI} (h : TR I I') : bA I I' := ⟨fun c hc => h c (fun e => by subst e; exact absurd hc (by decide)) (fun e => by subst e; exact absurd hc (by decide)), fun p hp => by
  have := (by decide : ∀ p ∈ ([(0, 1), (12, 2), (12, 3), (15, 2), (18, 0), (18, 7), (18, 14), (18, 21), (19, 0), (19, 7), (19, 14), (19, 21), (24, 0), (24, 1), (20, 1), (20, 2), (0, 9), (0, 10), (0, 11), (26, 3), (26, 4), (26, 5)] : List (Nat × Nat)), p.1 ≠ 10 ∧ p.1 ≠ 11) p hp
  rw [h p.1 this.1 this.2]⟩
theorem TR.st {I I' : MI} {T : Nat → Nat} (h : ST 10 T I I') : TR I I' := fun c a _ => h.1 c a
theorem like_ok {c : Nat} {I : MI} {J : MJ} {T : Nat → Nat} (hT : TV (I (c + 1)) T) : ∃ I' : MI, f_X1_becomeLike 10 I J c = some (I', J) ∧ TR I I' ∧ TV (I' 11) T ∧ CK (I' 10) T := by
  unfold f_X1_becomeLike
  simp only [bnd]
  refine ⟨_, rfl, fun c' a b => ?_, ⟨fun j hj => ?_, hT.2⟩, Or.inl w2k⟩
  · rw [w2n a]; unfold w1; rw [if_neg b]
  · rw [w2n (by decide)]
    unfold w1
    rw [if_pos rfl, show (0 : Int32).toNatClampNeg = 0 from rfl, show (13 : Int32).toNatClampNeg = 13 from rfl, pk_cpy_in (by omega) (by omega), Nat.zero_add, Nat.sub_zero]
    exact hT.1 j hj
theorem air_s {p : Nat} (h : p < 4) : sAIR p = nI (airN p) := by
  rcases (show p = 0 ∨ p = 1 ∨ p = 2 ∨ p = 3 by omega) with rfl | rfl | rfl | rfl <;> rfl
theorem un7_agree {T : Nat → Nat} {c0 c : Nat} : cT (cT T c0) c = cT T c := by
  funext q
  unfold cT un
  by_cases h6 : q = 6
  · rw [if_pos h6, if_pos h6]
  · by_cases h9 : q = 9
    · rw [if_neg h6, if_pos h9, if_neg h6, if_pos h9]
    · by_cases h8 : q = 8
      · rw [if_neg h6, if_neg h9, if_pos h8, if_neg h6, if_neg h9, if_pos h8]
      · by_cases h7 : q = 7
        · rw [if_neg h6, if_neg h9, if_neg h8, if_pos h7, if_neg h6, if_neg h9, if_neg h8, if_pos h7]
        · simp only [if_neg h6, if_neg h9, if_neg h8, if_neg h7]
theorem suffer_ok {c : Nat} (hc : c < 256) {I : MI} {J : MJ} {T : Nat → Nat} (hT : TV (I 11) T) (hC : CK (I 10) T) : ∃ I' : MI, f_X1_suffer 10 I J (nI c) = some (I', J) ∧ TR I I' ∧ TV (I' 11) (cT T c) ∧ CK (I' 10) (cT T c) := by
  have b0 : nI c &&& (3 : Int32) = nI (c % 4) := pk_andN (by omega) 2 (by decide +kernel)
  have b1 := vb hc (a := 1) (by omega)
  have b2 := vb hc (a := 2) (by omega)
  have b3 := vb hc (a := 3) (by omega)
  rw [vC_1] at b1
  rw [vC_2] at b2
  rw [vC_3] at b3
  have m0 := Nat.mod_lt c (show 0 < 4 by omega)
  have m1 := Nat.mod_lt (c / 4) (show 0 < 4 by omega)
  have m2 := Nat.mod_lt (c / 16) (show 0 < 4 by omega)
  have m3 := Nat.mod_lt (c / 64) (show 0 < 4 by omega)
  unfold f_X1_suffer
  obtain ⟨I1, p1, p2, p3, p4⟩ := putG (c := 10) (j := 7) (v := c % 4) (x := 7) (y := nI c &&& 3) (J := J) (by omega) rfl b0 (okV_pl (by omega) (Nat.zero_le _) (show c % 4 ≤ 3 by omega)) hT hC
  obtain ⟨I2, q1, q2, q3, q4⟩ := putG (c := 10) (j := 8) (v := c / 4 % 4) (x := 8) (y := (nI c >>> ((2 : Int32) &&& 31)) &&& 3) (J := J) (by omega) rfl b1 (okV_pl (by omega) (Nat.zero_le _) (show c / 4 % 4 ≤ 3 by omega)) p3 p4
  obtain ⟨I3, r1, r2, r3, r4⟩ := putG (c := 10) (j := 9) (v := c / 16 % 4) (x := 9) (y := (nI c >>> ((4 : Int32) &&& 31)) &&& 3) (J := J) (by omega) rfl b2 (okV_pl (by omega) (Nat.zero_le _) (show c / 16 % 4 ≤ 3 by omega)) q3 q4
  have b3' : (nI c >>> ((6 : Int32) &&& 31)) &&& 3 = nI (c / 64 % 4) := b3
  obtain ⟨I4, s1, s2, s3, s4⟩ := putG (c := 10) (j := 6) (v := airN (c / 64 % 4)) (x := 6) (y := sAIR (c / 64 % 4)) (J := J) (by omega) rfl (air_s m3) (okV_pl (by omega) (Nat.zero_le _) (air_bd _)) r3 r4
  rw [p1, bo2_s, q1, bo2_s, r1, bo2_s, b3', inbI m3 (by omega), chk_t, nI_clamp (by omega), s1, bo2_s]
  exact ⟨I4, rfl, fun c' a b => by rw [s2 c' a b, r2 c' a b, q2 c' a b, p2 c' a b], s3, s4⟩
/-- does one reading agree -/
def eqb (a b : Int32) : Bool := decide (a = b)
def ltb (a b : Int32) : Bool := decide (a < b)
theorem eqb_t {a b : Int32} (h : a = b) : eqb a b = true := decide_eq_true h
theorem eqb_f {a b : Int32} (h : ¬ a = b) : eqb a b = false := decide_eq_false h
theorem ltb_t {a b : Int32} (h : a < b) : ltb a b = true := decide_eq_true h
theorem ltb_f {a b : Int32} (h : ¬ a < b) : ltb a b = false := decide_eq_false h
def okb (R B U : Nat → Int32) (tb tu i be up : Int32) (j : Nat) : Bool := !eqb (R j) i || ((eqb (B j) (-9) || !ltb tb (iabs (be - B j))) && (eqb (U j) (-9) || !ltb ((U j * tu) / 100) (iabs (up - U j))))
def allb (f : Nat → Bool) : Nat → Nat → Bool
  | 0, _ => true
  | n + 1, i => f i && allb f n (i + 1)
theorem allb_0 (f : Nat → Bool) (i : Nat) : allb f 0 i = true := rfl
theorem allb_s (f : Nat → Bool) (n i : Nat) : allb f (n + 1) i = (f i && allb f n (i + 1)) := rfl
theorem LP_agree_s (n : Nat) (I : MI) (J : MJ) (x1 x3 x4 x5 : Int32) : LP_X2_agreeWith_14 (n + 1) I J x1 x3 x4 x5 = LB_X2_agreeWith_14 (LP_X2_agreeWith_14 n) I J x1 x3 x4 x5 := rfl
theorem agree_loop {q : Nat} (hq : q ≤ 12) {I : MI} {J : MJ} (h3 : I 26 3 = nI q) (x1 x3 x4 : Int32) : ∀ n m j : Nat, j + n = q → n < m → LP_X2_agreeWith_14 m I J x1 x3 x4 (nI j) = some (if allb (okb (I 27) (I 28) (I 29) (I 26 4) (I 26 5) x1 x3 x4) n j then 1 else 0, I, J) := by
  intro n
  induction n with
  | zero =>
    intro m j hj hm
    obtain ⟨m, rfl⟩ : ∃ m', m = m' + 1 := ⟨m - 1, by omega⟩
    rw [LP_agree_s]
    unfold LB_X2_agreeWith_14
    rw [h3, if_pos (nI_le (by omega) (by omega)), allb_0]
    rfl
  | succ n ih =>
    intro m j hj hm
    obtain ⟨m, rfl⟩ : ∃ m', m = m' + 1 := ⟨m - 1, by omega⟩
    rw [LP_agree_s]
    unfold LB_X2_agreeWith_14 f_X2_isNearBeats f_X2_isNearUp
    simp only [bnd]
    have hnj : ¬ nI q ≤ nI j := nI_ge (by omega) (by omega)
    rw [h3, if_neg hnj, inbI (by omega) (by omega), chk_t, nI_clamp (by omega), show nI j + (1 : Int32) = nI (j + 1) from nI_1 j, ih m (j + 1) (by omega) (by omega)]
    simp only [chk_t]
    rw [allb_s]
    generalize allb (okb (I 27) (I 28) (I 29) (I 26 4) (I 26 5) x1 x3 x4) n (j + 1) = Z
    unfold okb
    by_cases c1 : I 27 j = x1
    · rw [if_pos c1, eqb_t c1]
      by_cases c2 : I 28 j = -9
      · rw [if_pos c2, eqb_t c2, bo1_s]
        simp only [one0, ↓reduceIte]
        by_cases c3 : I 29 j = -9
        · rw [if_pos c3, eqb_t c3, bo1_s]
          simp only [one0, ↓reduceIte, Bool.not_true, Bool.false_or, Bool.true_or, Bool.true_and]
        · rw [if_neg c3, eqb_f c3]
          by_cases c4 : (I 29 j * I 26 5) / 100 < iabs (x4 - I 29 j)
          · rw [if_pos c4, ltb_t c4, bo1_s]; rfl
          · rw [if_neg c4, ltb_f c4, bo1_s]
            simp only [one0, ↓reduceIte, Bool.not_true, Bool.false_or, Bool.true_or, Bool.true_and, Bool.not_false]
      · rw [if_neg c2, eqb_f c2]
        by_cases c5 : I 26 4 < iabs (x3 - I 28 j)
        · rw [if_pos c5, ltb_t c5, bo1_s]; rfl
        · rw [if_neg c5, ltb_f c5, bo1_s]
          simp only [one0, ↓reduceIte]
          by_cases c3 : I 29 j = -9
          · rw [if_pos c3, eqb_t c3, bo1_s]
            simp only [one0, ↓reduceIte, Bool.not_true, Bool.false_or, Bool.true_or, Bool.true_and, Bool.not_false]
          · rw [if_neg c3, eqb_f c3]
            by_cases c4 : (I 29 j * I 26 5) / 100 < iabs (x4 - I 29 j)
            · rw [if_pos c4, ltb_t c4, bo1_s]; rfl
            · rw [if_neg c4, ltb_f c4, bo1_s]
              simp only [one0, ↓reduceIte, Bool.not_true, Bool.false_or, Bool.true_or, Bool.true_and, Bool.not_false]
    · rw [if_neg c1, eqb_f c1]
      simp only [Bool.not_false, Bool.true_or, Bool.true_and]
/-- does a cause fit -/
def FT (T : Nat → Nat) (R B U : Nat → Int32) (tb tu : Int32) (q i c : Nat) : Bool := allb (okb R B U tb tu (nI i) (nI (nbT (cT T c))) (nI (upT (cT T c)))) q 0
theorem agree_ok {q i c : Nat} (hq : q ≤ 12) {I : MI} {J : MJ} {T : Nat → Nat} (h3 : I 26 3 = nI q) (hT : TV (I 11) (cT T c)) (hC : CK (I 10) (cT T c)) : ∃ I' : MI, f_X2_agreeWith I J (nI i) 10 = some (if FT T (I 27) (I 28) (I 29) (I 26 4) (I 26 5) q i c then 1 else 0, I', J) ∧ TR I I' ∧ TV (I' 11) (cT T c) ∧ CK (I' 10) (cT T c) := by
  obtain ⟨I1, e1, h1⟩ := beats_ok (c := 10) (J := J) hT hC
  obtain ⟨I2, e2, h2⟩ := upH_ok (c := 10) (J := J) (h1.tv hT) h1.ck
  have h12 := h1.tr h2
  refine ⟨I2, ?_, TR.st h12, h12.tv hT, h12.ck⟩
  unfold f_X2_agreeWith
  have h3' : I2 26 3 = nI q := by rw [h12.1 26 (by decide)]; exact h3
  have := agree_loop hq (J := J) h3' (nI i) (nI (nbT (cT T c))) (nI (upT (cT T c))) q FU 0 (by omega) (by rw [FU_eq]; omega)
  rw [h12.1 26 (by decide), h12.1 27 (by decide), h12.1 28 (by decide), h12.1 29 (by decide)] at this
  rw [e1, bo3_s, e2, bo3_s]
  exact this
