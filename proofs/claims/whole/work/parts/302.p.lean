/-! the reference's beat -/
def lfR (T : Nat → Nat) (wa : Nat) : Nat := wa * T 0 * wkT T (T 10) / (100 * T 1)
def ubR (T : Nat → Nat) (sp wa : Nat) : Nat := if sp < T 1 / 20 then 0 else lfR T wa - (lfR T wa * T 9 + 19) / 20
theorem ubT_R {T : Nat → Nat} (h : (bt T).1 = false) : ubT T = ubR T (bt T).2.2.1 (bt T).2.2.2 := by
  unfold ubT
  rw [h, if_neg (by decide)]
  rfl
/-- what a beat of the reference may change: its own fields -/
def SM (I I' : MI) : Prop := (∀ c', c' ≠ 0 → I' c' = I c') ∧ ∀ k, k ≠ 5 → k ≠ 9 → I' 0 k = I 0 k
def SJ (J J' : MJ) : Prop := (∀ c', c' ≠ 0 → J' c' = J c') ∧ ∀ k, k ≠ 6 → k ≠ 7 → k ≠ 8 → J' 0 k = J 0 k
theorem SM.rf (I : MI) : SM I I := ⟨fun _ _ => rfl, fun _ _ _ => rfl⟩
theorem SJ.rf (J : MJ) : SJ J J := ⟨fun _ _ => rfl, fun _ _ _ _ => rfl⟩
theorem SM.tr {I I' I'' : MI} (h : SM I I') (h2 : SM I' I'') : SM I I'' := ⟨fun c e => by rw [h2.1 c e, h.1 c e], fun k a b => by rw [h2.2 k a b, h.2 k a b]⟩
theorem SJ.tr {I I' I'' : MJ} (h : SJ I I') (h2 : SJ I' I'') : SJ I I'' := ⟨fun c e => by rw [h2.1 c e, h.1 c e], fun k a b d => by rw [h2.2 k a b d, h.2 k a b d]⟩
theorem SM.st {I : MI} {k : Nat} {x : Int32} (h : k = 5 ∨ k = 9) : SM I (w2 I 0 k x) := ⟨fun c e => w2n e, fun j a b => w2j (by omega)⟩
theorem SJ.st {I : MJ} {k : Nat} {x : Int64} (h : k = 6 ∨ k = 7 ∨ k = 8) : SJ I (w2J I 0 k x) := ⟨fun c e => w2Jn e, fun j a b d => w2Jj (by omega)⟩
def RMd (T : Nat → Nat) (I : MI) (J : MJ) (r : Bool × Nat × Nat × Nat) : Prop := if r.1 then I 0 5 = -9 else I 0 5 = nI r.2.1 ∧ I 0 9 = nI (r.2.1 + 4 + T 1 / 200) ∧ J 0 6 = lN r.2.2.1 ∧ J 0 7 = lN r.2.2.2 ∧ J 0 8 = lN (ubR T r.2.2.1 r.2.2.2)
theorem workOf_ok {k : Nat} {I : MI} {J : MJ} {T : Nat → Nat} (hT : TV (I 2) T) (hk : k ≤ 2) : f_X8_workOf I J (nI k) = some (nI (wkT T k)) := by
  have hb := hT.2
  unfold TO at hb
  have a0 : ((40 : Int32) + nI (T 6) / (4 : Int32)) - (3 : Int32) * nI (T 7) = nI (wk0 T) := by
    rw [show (40 : Int32) = nI 40 from rfl, show (4 : Int32) = nI 4 from rfl, show (3 : Int32) = nI 3 from rfl, pk_div (by omega) (by omega) (by omega), nI_add, pk_mul, pk_sub (by omega)]; rfl
  have b0 : 31 ≤ wk0 T ∧ wk0 T ≤ 65 := by unfold wk0; omega
  have l38 : ∀ v : Nat, 31 ≤ v → v ≤ 80 → LB_X8_workOf_46 I J (nI k) (nI v) = some (nI (if k < 2 then v else min (v + v / 10) 85 - 2 * T 8)) := by
    intro v h1 h2
    unfold LB_X8_workOf_46
    rw [show (1 : Int32) = nI 1 from rfl, show (2 : Int32) = nI 2 from rfl, show (10 : Int32) = nI 10 from rfl, show (85 : Int32) = nI 85 from rfl]
    by_cases h : k < 2
    · rw [if_pos (nI_le (by omega) (by omega)), if_pos h]
    · rw [if_neg (nI_ge (a := 1) (b := k) (by omega) (by omega)), if_neg h]
      simp only [bnd, hT.1 8 (by decide)]
      rw [pk_div (by omega) (by omega) (by omega), nI_add, pk_mul]
      by_cases h3 : v + v / 10 ≤ 85
      · rw [if_pos (nI_le h3 (by omega)), pk_sub (by omega), Nat.min_eq_left h3]
      · rw [if_neg (nI_ge (by omega) (by omega)), pk_sub (by omega), Nat.min_eq_right (by omega)]
  unfold f_X8_workOf
  simp only [bnd, hT.1 6 (by decide), hT.1 7 (by decide), a0]
  unfold wkT wk1 LB_X8_workOf_45
  rw [show (0 : Int32) = nI 0 from rfl]
  by_cases h : k < 1
  · rw [if_pos (nI_le (by omega) (by omega)), l38 _ b0.1 (by omega), if_pos h]
  · rw [if_neg (nI_ge (a := 0) (b := k) (by omega) (by omega)), show (8 : Int32) = nI 8 from rfl, show (80 : Int32) = nI 80 from rfl, nI_add, if_neg h]
    by_cases h3 : wk0 T + 8 ≤ 80
    · rw [if_pos (nI_le h3 (by omega)), l38 _ (by omega) (by omega), Nat.min_eq_left h3]
    · rw [if_neg (nI_ge (by omega) (by omega)), l38 _ (by omega) (by omega), Nat.min_eq_right (show 80 ≤ wk0 T + 8 by omega)]
theorem lfR_bd {T : Nat → Nat} (hb : TO T) {wa : Nat} : lfR T wa ≤ wa := by
  have h2 := wk_bd hb (T 10)
  have h0 : T 0 < T 1 := hb.2.2.1
  unfold lfR
  apply Nat.div_le_of_le_mul
  have h3 : wa * T 0 * wkT T (T 10) ≤ wa * T 1 * 100 := Nat.mul_le_mul (Nat.mul_le_mul_left _ (by omega)) (by omega)
  have h4 : wa * T 1 * 100 = 100 * T 1 * wa := by rw [Nat.mul_comm wa, Nat.mul_assoc, Nat.mul_comm wa, ← Nat.mul_assoc, Nat.mul_comm (T 1)]
  omega
theorem LP_beats_s (n : Nat) (I : MI) (J : MJ) (x1 x2 x3 : Int32) : LP_X8_beats_62 (n + 1) I J x1 x2 x3 = LB_X8_beats_62 (LP_X8_beats_62 n) I J x1 x2 x3 := rfl
set_option maxHeartbeats 1000000 in
theorem rk_M {T : Nat → Nat} (hb : TO T) : ∀ (n m t sp wa : Nat) (I : MI) (J : MJ), n < m → t + n = 401 → 1 ≤ t → sp ≤ 489 → wa ≤ 2700 * t → TV (I 2) T → J 0 6 = lN sp → J 0 7 = lN wa → J 0 8 = lN 0 → I 0 5 = -9 →
    ∃ (I' : MI) (J' : MJ), LP_X8_beats_62 m I J (nI (gnT T)) (nI (opT T)) (nI t) = some (if (rk (gnT T) (drT T) (fwT T) (hfT T) n t sp wa).1 then 0 else 1, I', J') ∧ SM I I' ∧ SJ J J' ∧ RMd T I' J' (rk (gnT T) (drT T) (fwT T) (hfT T) n t sp wa) := by
  have hg := hb.gn
  have hd := hb.dr
  have hfw := hb.fw
  have hh := hb.hf
  have hop := hb.op
  have ho := hb
  unfold TO at ho
  intro n
  induction n with
  | zero =>
    intro m t sp wa I J hm ht ht1 hsp hwa hT h6 h7 h8 h5
    obtain ⟨m, rfl⟩ : ∃ m', m = m' + 1 := ⟨m - 1, by omega⟩
    rw [LP_beats_s]
    unfold LB_X8_beats_62
    rw [if_pos (show (400 : Int32) < nI t from nI_lt (a := 400) (by omega) (by omega))]
    exact ⟨I, J, rfl, SM.rf I, SJ.rf J, h5⟩
  | succ n ih =>
    intro m t sp wa I J hm ht ht1 hsp hwa hT h6 h7 h8 h5
    obtain ⟨m, rfl⟩ : ∃ m', m = m' + 1 := ⟨m - 1, by omega⟩
    rw [LP_beats_s]
    unfold LB_X8_beats_62
    rw [if_neg (show ¬ (400 : Int32) < nI t from nI_nlt (a := 400) (by omega) (by omega))]
    have e3 : ((3 : Int32) + nI (T 8)).toInt64 = lN (drT T) := by rw [show (3 : Int32) = nI 3 from rfl, nI_add, nI_l (by omega)]; rfl
    simp only [bnd, h6, hT.1 8 (by decide), e3, nI_l (show gnT T < 2 ^ 31 by omega), sp_64 hsp hg hd, w2Jk, w2Jj (show (7 : Nat) ≠ 6 by decide), w2Jj (show (6 : Nat) ≠ 7 by decide), w2Jj (show (8 : Nat) ≠ 7 by decide), w2Jj (show (8 : Nat) ≠ 6 by decide), h7, h8, hT.1 3 (by decide), hT.1 4 (by decide), nI_l (show T 3 < 2 ^ 31 by omega), nI_l (show T 4 < 2 ^ 31 by omega), nI_l (show opT T < 2 ^ 31 by omega)]
    generalize hs : sp + gnT T - sp * drT T / 100 = s2
    have hs2 : s2 ≤ 2489 := by omega
    have hq : s2 * s2 ≤ 2489 * 2489 := Nat.mul_le_mul hs2 hs2
    have hw : s2 * fwT T ≤ 2489 * 108 := Nat.mul_le_mul hs2 hfw
    rw [lN_mul s2 s2, show (50 : Int64) = lN 50 from rfl, pk_lDiv (by omega) (by omega) (by omega), lN_mul s2, lN_mul (s2 * T 3), show s2 * T 3 * opT T = s2 * fwT T from Nat.mul_assoc _ _ _, show (100 : Int64) = lN 100 from rfl, pk_lDiv (by omega) (by omega) (by omega), lN_add, lN_mul (T 4), show T 4 * opT T = hfT T from rfl]
    have hsd : s2 * s2 / 50 ≤ 2489 * 2489 := by omega
    unfold rk
    simp only [hs]
    by_cases hc : hfT T ≤ s2 * s2 / 50
    · have hc1 : ¬ lN (s2 * s2 / 50) < lN (hfT T) := by rw [pk_lLT (by omega) (by omega)]; omega
      rw [if_neg hc1, if_pos hc]
      simp only [w2n (show (2 : Nat) ≠ 0 by decide), hT.1 1 (by decide), hT.1 10 (by decide), hT.1 0 (by decide), hT.1 9 (by decide)]
      rw [show (20 : Int32) = nI 20 from rfl, show (200 : Int32) = nI 200 from rfl, show (4 : Int32) = nI 4 from rfl, pk_div (by omega) (by omega) (by omega), pk_div (by omega) (by omega) (by omega), nI_l (show T 1 / 20 < 2 ^ 31 by omega), nI_add, nI_add]
      have hI : SM I (w2 (w2 I 0 5 (nI t)) 0 9 (nI (t + 4 + T 1 / 200))) := (SM.st (Or.inl rfl)).tr (SM.st (Or.inr rfl))
      have hJ : SJ J (w2J (w2J J 0 6 (lN s2)) 0 7 (lN (wa + s2 * fwT T / 100))) := (SJ.st (Or.inl rfl)).tr (SJ.st (Or.inr (Or.inl rfl)))
      by_cases hx : s2 < T 1 / 20
      · rw [if_pos (by rw [pk_lLT (by omega) (by omega)]; exact hx)]
        refine ⟨_, _, rfl, hI, hJ, ?_⟩
        unfold RMd
        simp only [Bool.false_eq_true, ↓reduceIte]
        refine ⟨by rw [w2j (by decide), w2k], by rw [w2k], by rw [w2Jj (by decide), w2Jk], by rw [w2Jk], ?_⟩
        rw [w2Jj (by decide), w2Jj (by decide), h8]
        unfold ubR
        rw [if_pos hx]
      · rw [if_neg (by rw [pk_lLT (by omega) (by omega)]; exact hx)]
        have hT2 : TV (w2 (w2 I 0 5 (nI t)) 0 9 (nI (t + 4 + T 1 / 200)) 2) T := by rw [w2n (by decide), w2n (by decide)]; exact hT
        have hwk := wk_bd hb (T 10)
        have hwa2 : wa + s2 * fwT T / 100 ≤ 2700 * 402 := by omega
        have hl := lfR_bd hb (wa := wa + s2 * fwT T / 100)
        have q1 : (wa + s2 * fwT T / 100) * T 0 * wkT T (T 10) ≤ 2700 * 402 * 200 * 85 := Nat.mul_le_mul (Nat.mul_le_mul hwa2 (by omega)) hwk
        have hnz : nzl (lN 100 * lN (T 1)) = true := decide_eq_true (by rw [lN_mul, show (0 : Int64) = lN 0 from rfl, pk_lEQ (by omega) (by omega)]; omega)
        rw [workOf_ok hT2 (by omega), bo1_s, nI_l (show T 1 < 2 ^ 31 by omega), nI_l (show T 0 < 2 ^ 31 by omega), nI_l (show T 9 < 2 ^ 31 by omega), nI_l (show wkT T (T 10) < 2 ^ 31 by omega), hnz, chk_t, lN_mul, lN_mul, lN_mul, pk_lDiv (by omega) (by omega) (by omega)]
        rw [show (wa + s2 * fwT T / 100) * T 0 * wkT T (T 10) / (100 * T 1) = lfR T (wa + s2 * fwT T / 100) from rfl]
        generalize hlv : lfR T (wa + s2 * fwT T / 100) = lv at hl ⊢
        have q3 : T 9 * lv ≤ 3 * lv := Nat.mul_le_mul_right _ (by omega)
        rw [show (19 : Int64) = lN 19 from rfl, show (20 : Int64) = lN 20 from rfl, lN_mul, lN_add, pk_lDiv (by omega) (by omega) (by omega), lN_sub (by omega)]
        refine ⟨_, _, rfl, hI, hJ.tr ((SJ.st (Or.inr (Or.inr rfl))).tr (SJ.st (Or.inr (Or.inr rfl)))), ?_⟩
        unfold RMd
        simp only [Bool.false_eq_true, ↓reduceIte]
        refine ⟨by rw [w2j (by decide), w2k], by rw [w2k], by rw [w2Jj (by decide), w2Jj (by decide), w2Jj (by decide), w2Jk], by rw [w2Jj (by decide), w2Jj (by decide), w2Jk], ?_⟩
        rw [w2Jk]
        unfold ubR
        rw [if_neg hx, hlv, Nat.mul_comm]
    · have hc1 : lN (s2 * s2 / 50) < lN (hfT T) := by rw [pk_lLT (by omega) (by omega)]; omega
      rw [if_pos hc1, if_neg hc]
      have hJ : SJ J (w2J (w2J J 0 6 (lN s2)) 0 7 (lN (wa + s2 * fwT T / 100))) := (SJ.st (Or.inl rfl)).tr (SJ.st (Or.inr (Or.inl rfl)))
      by_cases he : s2 ≤ sp
      · rw [if_neg (by rw [pk_lLT (by omega) (by omega)]; omega), if_pos he]
        exact ⟨_, _, rfl, SM.rf I, hJ, h5⟩
      · rw [if_pos (by rw [pk_lLT (by omega) (by omega)]; omega), if_neg he, show (1 : Int32) = nI 1 from rfl, nI_add]
        obtain ⟨I', J', e1, e2, e3, e4⟩ := ih m (t + 1) s2 (wa + s2 * fwT T / 100) I (w2J (w2J J 0 6 (lN s2)) 0 7 (lN (wa + s2 * fwT T / 100))) (by omega) (by omega) (by omega) (sq_lt hh hc) (by omega) hT (by rw [w2Jj (by decide), w2Jk]) (by rw [w2Jk]) (by rw [w2Jj (by decide), w2Jj (by decide), h8]) h5
        exact ⟨I', J', e1, e2, hJ.tr e3, e4⟩
theorem FU_400 : 400 < FU := by rw [FU_eq]; omega
theorem beatsM_in {I : MI} {J : MJ} {T : Nat → Nat} (hb : TO T) (hi : TV (I 2) T) (h6 : J 0 6 = lN 0) (h7 : J 0 7 = lN 0) (h8 : J 0 8 = lN 0) (h5 : I 0 5 = -9) : ∃ (I' : MI) (J' : MJ), LP_X8_beats_62 FU I J (nI (gnT T)) (nI (opT T)) (nI 1) = some (if (bt T).1 then 0 else 1, I', J') ∧ SM I I' ∧ SJ J J' ∧ RMd T I' J' (bt T) := by
  unfold bt
  exact rk_M hb 400 FU 1 0 0 I J FU_400 (by omega) (by omega) (by omega) (by omega) hi h6 h7 h8 h5
theorem beatsM_un {I : MI} {J : MJ} {T : Nat → Nat} (hT : TV (I 2) T) : f_X8_beats I J = LP_X8_beats_62 FU (w2 (w2 I 0 5 (-9)) 0 9 (-9)) (w2J (w2J (w2J J 0 6 0) 0 7 0) 0 8 0) (nI (gnT T)) (nI (opT T)) (nI 1) := by
  have ho := hT.2
  unfold TO at ho
  unfold f_X8_beats
  have hnz : nz (nI (T 2)) = true := decide_eq_true (nI_ne0 (by omega) (by omega))
  simp only [bnd, hT.1 0 (by decide), hT.1 2 (by decide), hT.1 5 (by decide), hT.1 7 (by decide)]
  rw [hnz, chk_t, show (200 : Int32) = nI 200 from rfl, pk_mul, pk_div (by omega) (by omega) (by omega), nI_add]
  rfl
theorem beatsM_ok {I : MI} {J : MJ} {T : Nat → Nat} (hT : TV (I 2) T) : ∃ (I' : MI) (J' : MJ), f_X8_beats I J = some (if (bt T).1 then 0 else 1, I', J') ∧ SM I I' ∧ SJ J J' ∧ RMd T I' J' (bt T) := by
  rw [beatsM_un hT]
  have hi : TV (w2 (w2 I 0 5 (-9)) 0 9 (-9) 2) T := by rw [w2n (by decide), w2n (by decide)]; exact hT
  have h5 : w2 (w2 I 0 5 (-9)) 0 9 (-9) 0 5 = -9 := by rw [w2j (by decide), w2k]
  have h6 : w2J (w2J (w2J J 0 6 0) 0 7 0) 0 8 0 0 6 = lN 0 := by rw [w2Jj (by decide), w2Jj (by decide), w2Jk]; rfl
  have h7 : w2J (w2J (w2J J 0 6 0) 0 7 0) 0 8 0 0 7 = lN 0 := by rw [w2Jj (by decide), w2Jk]; rfl
  have h8 : w2J (w2J (w2J J 0 6 0) 0 7 0) 0 8 0 0 8 = lN 0 := by rw [w2Jk]; rfl
  obtain ⟨I', J', e1, e2, e3, e4⟩ := beatsM_in hT.2 hi h6 h7 h8 h5
  exact ⟨I', J', e1, ((SM.st (Or.inl rfl)).tr (SM.st (Or.inr rfl))).tr e2, ((SJ.st (Or.inl rfl)).tr ((SJ.st (Or.inr (Or.inl rfl))).tr (SJ.st (Or.inr (Or.inr rfl))))).tr e3, e4⟩
/-- what hourOf answers -/
def hrT (T : Nat → Nat) (w : Nat) : Nat := if w = 0 then nbT T else if w = 1 then waT T else if w = 2 then upT T else waT T + upT T
set_option maxHeartbeats 1000000 in
theorem hourM_ok {I : MI} {J : MJ} {T : Nat → Nat} (hT : TV (I 2) T) {w : Nat} (hw : w ≤ 3) : ∃ (I' : MI) (J' : MJ), f_X8_hourOf I J (nI w) = some (nI (hrT T w), I', J') ∧ SM I I' ∧ SJ J J' ∧ RMd T I' J' (bt T) := by
  obtain ⟨I', J', e1, e2, e3, e4⟩ := beatsM_ok (J := J) hT
  have hT2 : TV (I' 2) T := by rw [e2.1 2 (by decide)]; exact hT
  have ho := hT.2
  have hop := hT.2.op
  have hb := bt_bd hT.2
  unfold TO at ho
  refine ⟨I', J', ?_, e2, e3, e4⟩
  unfold f_X8_hourOf hrT
  rw [e1, bo3_s, show (0 : Int32) = nI 0 from rfl, show (1 : Int32) = nI 1 from rfl, show (2 : Int32) = nI 2 from rfl, show (3 : Int32) = nI 3 from rfl]
  rcases Bool.eq_false_or_eq_true (bt T).1 with hs | hs
  · have u0 : upT T = 0 := by unfold upT nbT; rw [hs, if_pos rfl, Nat.zero_mul]
    have n0 : nbT T = 0 := by unfold nbT; rw [hs, if_pos rfl]
    have w0 : waT T = 36 * T 3 * opT T * T 0 / 10 := by unfold waT; rw [hs, if_pos rfl]
    have q1 : 36 * T 3 * opT T ≤ 36 * 9 * 12 := Nat.mul_le_mul (by omega) hop
    have q2 : 36 * T 3 * opT T * T 0 ≤ 36 * 9 * 12 * 200 := Nat.mul_le_mul q1 (by omega)
    simp only [hs, ↓reduceIte, bnd, hT2.1 3 (by decide), hT2.1 5 (by decide), hT2.1 7 (by decide), hT2.1 0 (by decide)]
    rw [show (36 : Int32) = nI 36 from rfl, show (10 : Int32) = nI 10 from rfl, nI_add, pk_mul, pk_mul, pk_mul, show T 5 + T 7 = opT T from rfl, pk_div (by omega) (by omega) (by omega), ← w0]
    rcases (show w = 0 ∨ w = 1 ∨ w = 2 ∨ w = 3 by omega) with rfl | rfl | rfl | rfl
    · rw [if_neg (by decide), if_neg (by decide), n0]; rfl
    · rw [if_pos rfl]; rfl
    · rw [if_neg (by decide), if_neg (by decide), u0]; rfl
    · rw [if_neg (by decide), if_pos rfl, u0]; rfl
  · unfold RMd at e4
    rw [hs, if_neg (by decide)] at e4
    obtain ⟨d5, d9, d6, d7, d8⟩ := e4
    have hsp : spT T ≤ 500 ∧ 1 ≤ spT T := by unfold spT; omega
    have n0 : nbT T = 3600 / spT T := by unfold nbT; rw [hs, if_neg (by decide)]
    have w0 : waT T = nbT T * (bt T).2.2.2 := by unfold waT; rw [hs, if_neg (by decide)]
    have u0 : upT T = nbT T * ubR T (bt T).2.2.1 (bt T).2.2.2 := by unfold upT; rw [ubT_R hs]
    have hn : nbT T ≤ 3600 := by rw [n0]; exact Nat.div_le_self _ _
    simp only [hs, ↓reduceIte, bnd, Bool.false_eq_true, d9, d7, d8]
    rw [if_neg (by decide), show (bt T).2.1 + 4 + T 1 / 200 = spT T from rfl, show nz (nI (spT T)) = true from decide_eq_true (nI_ne0 (by omega) (by omega)), chk_t, show (3600 : Int32) = nI 3600 from rfl, pk_div (by omega) (by omega) (by omega), ← n0, nI_l (by omega), lN_add, lN_mul, lN_mul, lN_mul, lN_i, lN_i, lN_i, lN_i]
    rcases (show w = 0 ∨ w = 1 ∨ w = 2 ∨ w = 3 by omega) with rfl | rfl | rfl | rfl
    · rw [if_pos rfl]; rfl
    · rw [if_neg (by decide), if_pos rfl, ← w0]; rfl
    · rw [if_neg (by decide), if_neg (by decide), if_pos rfl, ← u0]; rfl
    · rw [if_neg (by decide), if_neg (by decide), if_neg (by decide), Nat.mul_add, ← w0, ← u0]; rfl
theorem LP_takes_s (n : Nat) (I : MI) (J : MJ) (x1 x2 : Int32) : LP_X8_takes_2 (n + 1) I J x1 x2 = LB_X8_takes_2 (LP_X8_takes_2 n) I J x1 x2 := rfl
theorem takes_loop {i : Nat} (hi : i < 4) : ∀ (n m j : Nat) (I : MI) (J : MJ), j + n = 13 → n < m → ∃ I' : MI, LP_X8_takes_2 m I J (nI i) (nI j) = some (I', J) ∧ (∀ c', c' ≠ 2 → I' c' = I c') ∧ ∀ q, I' 2 q = if j ≤ q ∧ q < 13 then I 1 (13 * i + q) else I 2 q := by
  intro n
  induction n with
  | zero =>
    intro m j I J hj hm
    obtain ⟨m, rfl⟩ : ∃ m', m = m' + 1 := ⟨m - 1, by omega⟩
    rw [LP_takes_s]
    unfold LB_X8_takes_2
    rw [if_pos (show (13 : Int32) ≤ nI j from nI_le (a := 13) (by omega) (by omega))]
    exact ⟨I, rfl, fun _ _ => rfl, fun q => by rw [if_neg (by omega)]⟩
  | succ n ih =>
    intro m j I J hj hm
    obtain ⟨m, rfl⟩ : ∃ m', m = m' + 1 := ⟨m - 1, by omega⟩
    rw [LP_takes_s]
    unfold LB_X8_takes_2
    rw [if_neg (show ¬ (13 : Int32) ≤ nI j from nI_ge (b := 13) (by omega) (by omega)), show (13 : Int32) = nI 13 from rfl, show (1 : Int32) = nI 1 from rfl, pk_mul, nI_add, inbI (by omega) (by omega), inbI (by omega) (by omega), chk_t, chk_t]
    simp only [bnd]
    rw [nI_add, nI_clamp (by omega), nI_clamp (by omega)]
    obtain ⟨I', e1, e2, e3⟩ := ih m (j + 1) (w2 I 2 j (I 1 (13 * i + j))) J (by omega) (by omega)
    refine ⟨I', e1, fun c' h => by rw [e2 c' h, w2n h], fun q => ?_⟩
    rw [e3 q, w2n (by decide), w2c]
    by_cases h : q = j
    · subst h; rw [if_neg (by omega), if_pos rfl, if_pos (by omega)]
    · rw [if_neg h]
      by_cases h2 : j + 1 ≤ q ∧ q < 13
      · rw [if_pos h2, if_pos (by omega)]
      · rw [if_neg h2, if_neg (by omega)]
theorem takes_ok {i : Nat} (hi : i < 4) (I : MI) (J : MJ) : ∃ I' : MI, f_X8_takes I J (nI i) = some (I', J) ∧ (∀ c', c' ≠ 2 → I' c' = I c') ∧ ∀ q, q < 13 → I' 2 q = I 1 (13 * i + q) := by
  obtain ⟨I', e1, e2, e3⟩ := takes_loop hi 13 FU 0 I J (by omega) (by rw [FU_eq]; omega)
  exact ⟨I', e1, e2, fun q hq => by rw [e3 q, if_pos (by omega)]⟩
