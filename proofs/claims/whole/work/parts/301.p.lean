/-! traits, the beat that follows from them, the class's getters -/
theorem bo2_s {α β γ : Type} {a : α} {b : β} {k : α → β → Option γ} : bo2 (some (a, b)) k = k a b := rfl
theorem bo3_s {α β γ δ : Type} {a : α} {b : β} {c : γ} {k : α → β → γ → Option δ} : bo3 (some (a, b, c)) k = k a b c := rfl
theorem inbI {n N : Nat} (h : n < N) (hN : N < 2 ^ 31) : inb (nI n) N = true := decide_eq_true (vp_in_nI h hN : ¬ (nI n < 0 ∨ N ≤ (nI n).toNatClampNeg))
theorem isB0 : isB 0 = true := by decide +kernel
theorem isB1 : isB 1 = true := by decide +kernel
def TO (T : Nat → Nat) : Prop := 5 ≤ T 0 ∧ T 0 ≤ 200 ∧ T 0 < T 1 ∧ T 1 ≤ 1000 ∧ 20 ≤ T 2 ∧ T 2 ≤ 900 ∧ 1 ≤ T 3 ∧ T 3 ≤ 9 ∧ 5 ≤ T 4 ∧ T 4 ≤ 400 ∧ 1 ≤ T 5 ∧ T 5 ≤ 9 ∧ T 6 ≤ 100 ∧ T 7 ≤ 3 ∧ T 8 ≤ 3 ∧ T 9 ≤ 3 ∧ T 10 ≤ 2 ∧ T 11 ≤ 1 ∧ T 12 ≤ 1
def TV (f : Nat → Int32) (T : Nat → Nat) : Prop := (∀ j, j < 13 → f j = nI (T j)) ∧ TO T
def gnT (T : Nat → Nat) : Nat := 200 * T 0 / T 2
def drT (T : Nat → Nat) : Nat := 3 + T 8
def opT (T : Nat → Nat) : Nat := T 5 + T 7
def fwT (T : Nat → Nat) : Nat := T 3 * opT T
def hfT (T : Nat → Nat) : Nat := T 4 * opT T
def bt (T : Nat → Nat) : Bool × Nat × Nat × Nat := rk (gnT T) (drT T) (fwT T) (hfT T) 400 1 0 0
theorem TO.gn {T : Nat → Nat} (h : TO T) : gnT T ≤ 2000 := by
  obtain ⟨h0, h1, -, -, h2, -⟩ := h
  unfold gnT
  have : 200 * T 0 / T 2 ≤ 40000 / 20 := Nat.div_le_div (by omega) h2 (by omega)
  omega
theorem TO.dr {T : Nat → Nat} (h : TO T) : drT T ≤ 6 := by
  unfold TO at h; unfold drT; omega
theorem TO.op {T : Nat → Nat} (h : TO T) : opT T ≤ 12 := by
  unfold TO at h; unfold opT; omega
theorem TO.fw {T : Nat → Nat} (h : TO T) : fwT T ≤ 108 := by
  have h1 := h.op
  unfold TO at h
  exact Nat.mul_le_mul (show T 3 ≤ 9 by omega) h1
theorem TO.hf {T : Nat → Nat} (h : TO T) : hfT T ≤ 4800 := by
  have h1 := h.op
  unfold TO at h
  exact Nat.mul_le_mul (show T 4 ≤ 400 by omega) h1
theorem rk_bd {gn dr fw hf : Nat} (hg : gn ≤ 2000) (hd : dr ≤ 6) (hfw : fw ≤ 108) (hh : hf ≤ 4800) : ∀ (n t sp wa : Nat), t + n = 401 → 1 ≤ t → sp ≤ 489 → wa ≤ 2700 * t → 1 ≤ (rk gn dr fw hf n t sp wa).2.1 ∧ (rk gn dr fw hf n t sp wa).2.1 ≤ 401 ∧ (rk gn dr fw hf n t sp wa).2.2.1 ≤ 2489 ∧ (rk gn dr fw hf n t sp wa).2.2.2 ≤ 2700 * 402 := by
  intro n
  induction n with
  | zero => intro t sp wa h1 h2 h3 h4; unfold rk; exact ⟨h2, show t ≤ 401 by omega, show sp ≤ 2489 by omega, show wa ≤ 2700 * 402 by omega⟩
  | succ n ih =>
    intro t sp wa h1 h2 h3 h4
    unfold rk
    have hs2 : sp + gn - sp * dr / 100 ≤ 2489 := by omega
    generalize sp + gn - sp * dr / 100 = s2 at hs2 ⊢
    have hw : s2 * fw ≤ 2489 * 108 := Nat.mul_le_mul hs2 hfw
    by_cases hc : hf ≤ s2 * s2 / 50
    · rw [if_pos hc]; exact ⟨h2, show t ≤ 401 by omega, hs2, show wa + s2 * fw / 100 ≤ 2700 * 402 by omega⟩
    · rw [if_neg hc]
      by_cases he : s2 ≤ sp
      · rw [if_pos he]; exact ⟨h2, show t ≤ 401 by omega, hs2, show wa + s2 * fw / 100 ≤ 2700 * 402 by omega⟩
      · rw [if_neg he]
        exact ih (t + 1) s2 _ (by omega) (by omega) (sq_lt hh hc) (by omega)
theorem bt_bd {T : Nat → Nat} (h : TO T) : 1 ≤ (bt T).2.1 ∧ (bt T).2.1 ≤ 401 ∧ (bt T).2.2.1 ≤ 2489 ∧ (bt T).2.2.2 ≤ 2700 * 402 := rk_bd h.gn h.dr h.fw h.hf 400 1 0 0 (by omega) (by omega) (by omega) (by omega)
/-- a Ram's cache: not reckoned, or reckoned right -/
def CK (f : Nat → Int32) (T : Nat → Nat) : Prop := f 1 = 0 ∨ ((f 1 = 1 ∧ RKx f (T 1) (bt T)) ∧ RKd f (bt T))
/-- from I to I' only the Ram in cell c has been reckoned -/
def ST (c : Nat) (T : Nat → Nat) (I I' : MI) : Prop := (∀ c', c' ≠ c → I' c' = I c') ∧ (I' c 1 = 1 ∧ RKx (I' c) (T 1) (bt T)) ∧ RKd (I' c) (bt T)
theorem ST.ck {c : Nat} {T : Nat → Nat} {I I' : MI} (h : ST c T I I') : CK (I' c) T := Or.inr h.2
theorem ST.tv {c : Nat} {T : Nat → Nat} {I I' : MI} (h : ST c T I I') (hT : TV (I (c + 1)) T) : TV (I' (c + 1)) T := by rw [h.1 (c + 1) (by omega)]; exact hT
theorem ST.tr {c : Nat} {T : Nat → Nat} {I I' I'' : MI} (h : ST c T I I') (h2 : ST c T I' I'') : ST c T I I'' := ⟨fun c' e => by rw [h2.1 c' e, h.1 c' e], h2.2⟩
set_option maxHeartbeats 1000000 in
theorem reckon_ok {c : Nat} {I : MI} {J : MJ} {T : Nat → Nat} (hT : TV (I (c + 1)) T) (hC : CK (I c) T) : ∃ I' : MI, f_X1_reckon c I J = some (I', J) ∧ ST c T I I' := by
  unfold f_X1_reckon
  rcases hC with h | ⟨⟨h, hx⟩, hr⟩
  · have hb := hT.2
    have hn : c + 1 ≠ c := by omega
    rw [if_pos h]
    simp only [bnd, w2n hn, hT.1 0 (by decide), hT.1 2 (by decide), hT.1 3 (by decide), hT.1 4 (by decide), hT.1 5 (by decide), hT.1 7 (by decide), hT.1 8 (by decide)]
    have b0 : T 0 ≤ 200 := hb.2.1
    have b2 : T 2 ≤ 900 ∧ 20 ≤ T 2 := ⟨hb.2.2.2.2.2.1, hb.2.2.2.2.1⟩
    rw [show (200 : Int32) = nI 200 from rfl, pk_mul, nI_l (by omega), nI_l (by omega), share_ok (by omega) (by omega) (by omega), bo1_s, lN_i, show (3 : Int32) = nI 3 from rfl, nI_add, nI_add, pk_mul, pk_mul]
    have b1 : T 1 ≤ 1000 := hb.2.2.2.1
    obtain ⟨I', e1, e2, e3, e5, e4⟩ := rk_B (c := c) (ri := T 1) hb.gn hb.dr hb.fw hb.hf b1 400 FU 1 0 0 (w2 (w2 (w2 (w2 (w2 (w2 I c 1 1) c 2 1) c 4 0) c 5 0) c 7 0) c 3 1) J (by rw [FU_eq]; omega) (by decide) (by decide) (by decide) (by rw [w2k]; rfl) (by rw [w2j (by decide), w2j (by decide), w2j (by decide), w2k]; rfl) (by rw [w2j (by decide), w2j (by decide), w2k]; rfl) (by rw [w2j (by decide), w2j (by decide), w2j (by decide), w2j (by decide), w2k]) (by rw [w2j (by decide), w2k]) (by rw [w2n hn, w2n hn, w2n hn, w2n hn, w2n hn, w2n hn, hT.1 1 (by decide)])
    refine ⟨I', e1, fun c' hc => ?_, ⟨?_, e5⟩, e4⟩
    · rw [e2 c' hc, w2n hc, w2n hc, w2n hc, w2n hc, w2n hc, w2n hc]
    · rw [e3, w2j (by decide), w2j (by decide), w2j (by decide), w2j (by decide), w2j (by decide), w2k]
  · rw [if_neg (by rw [h]; decide)]
    exact ⟨I, rfl, fun _ _ => rfl, ⟨h, hx⟩, hr⟩
def spT (T : Nat → Nat) : Nat := (bt T).2.1 + 4 + T 1 / 200
def nbT (T : Nat → Nat) : Nat := if (bt T).1 then 0 else 3600 / spT T
def wk0 (T : Nat → Nat) : Nat := 40 + T 6 / 4 - 3 * T 7
def wk1 (T : Nat → Nat) (k : Nat) : Nat := if k < 1 then wk0 T else min (wk0 T + 8) 80
def wkT (T : Nat → Nat) (k : Nat) : Nat := if k < 2 then wk1 T k else min (wk1 T k + wk1 T k / 10) 85 - 2 * T 8
def lfT (T : Nat → Nat) : Nat := (bt T).2.2.2 * T 0 * wkT T (T 10) / (100 * T 1)
def ubT (T : Nat → Nat) : Nat := if (bt T).1 then 0 else if (bt T).2.2.1 < T 1 / 20 then 0 else lfT T - (lfT T * T 9 + 19) / 20
def waT (T : Nat → Nat) : Nat := if (bt T).1 then 36 * T 3 * opT T * T 0 / 10 else nbT T * (bt T).2.2.2
def upT (T : Nat → Nat) : Nat := nbT T * ubT T
theorem stalls_ok {c : Nat} {I : MI} {J : MJ} {T : Nat → Nat} (hT : TV (I (c + 1)) T) (hC : CK (I c) T) : ∃ I' : MI, f_X1_stalls c I J = some (if (bt T).1 then 1 else 0, I', J) ∧ ST c T I I' := by
  obtain ⟨I', e, h⟩ := reckon_ok (J := J) hT hC
  refine ⟨I', ?_, h⟩
  unfold f_X1_stalls
  rw [e, bo2_s, h.2.2.1]
  cases (bt T).1
  · rw [if_neg (by decide), isB0]; rfl
  · rw [if_pos rfl, isB1]; rfl
theorem shutTick_ok {c : Nat} {I : MI} {J : MJ} {T : Nat → Nat} (hT : TV (I (c + 1)) T) (hC : CK (I c) T) : ∃ I' : MI, f_X1_shutTick c I J = some (nI (bt T).2.1, I', J) ∧ ST c T I I' := by
  obtain ⟨I', e, h⟩ := reckon_ok (J := J) hT hC
  exact ⟨I', by unfold f_X1_shutTick; rw [e, bo2_s, h.2.2.2.1], h⟩
theorem shutSpeed_ok {c : Nat} {I : MI} {J : MJ} {T : Nat → Nat} (hT : TV (I (c + 1)) T) (hC : CK (I c) T) : ∃ I' : MI, f_X1_shutSpeed c I J = some (nI (bt T).2.2.1, I', J) ∧ ST c T I I' := by
  obtain ⟨I', e, h⟩ := reckon_ok (J := J) hT hC
  exact ⟨I', by unfold f_X1_shutSpeed; rw [e, bo2_s, h.2.2.2.2.1], h⟩
theorem wasteOfBeat_ok {c : Nat} {I : MI} {J : MJ} {T : Nat → Nat} (hT : TV (I (c + 1)) T) (hC : CK (I c) T) : ∃ I' : MI, f_X1_wasteOfBeat c I J = some (nI (bt T).2.2.2, I', J) ∧ ST c T I I' := by
  obtain ⟨I', e, h⟩ := reckon_ok (J := J) hT hC
  exact ⟨I', by unfold f_X1_wasteOfBeat; rw [e, bo2_s, h.2.2.2.2.2], h⟩
theorem span_ok {c : Nat} {I : MI} {J : MJ} {T : Nat → Nat} (hs : (bt T).1 = false) (hT : TV (I (c + 1)) T) (hC : CK (I c) T) : ∃ I' : MI, f_X1_spanOfBeat c I J = some (nI (spT T), I', J) ∧ ST c T I I' := by
  obtain ⟨I', e, h⟩ := reckon_ok (J := J) hT hC
  refine ⟨I', ?_, h⟩
  unfold f_X1_spanOfBeat
  rw [e, bo2_s, show I' c 6 = nI (spT T) from h.2.1.2.2 hs]
theorem beats_ok {c : Nat} {I : MI} {J : MJ} {T : Nat → Nat} (hT : TV (I (c + 1)) T) (hC : CK (I c) T) : ∃ I' : MI, f_X1_beatsAnHour c I J = some (nI (nbT T), I', J) ∧ ST c T I I' := by
  obtain ⟨I', e, h⟩ := reckon_ok (J := J) hT hC
  refine ⟨I', ?_, h⟩
  unfold f_X1_beatsAnHour
  rw [e, bo2_s, show I' c 7 = nI (nbT T) from h.2.1.2.1]
theorem workBy_ok {c k : Nat} {I : MI} {J : MJ} {T : Nat → Nat} (hT : TV (I (c + 1)) T) (hk : k ≤ 2) : f_X1_workBy c I J (nI k) = some (nI (wkT T k)) := by
  have hb := hT.2
  unfold TO at hb
  have a0 : ((40 : Int32) + nI (T 6) / (4 : Int32)) - (3 : Int32) * nI (T 7) = nI (wk0 T) := by
    rw [show (40 : Int32) = nI 40 from rfl, show (4 : Int32) = nI 4 from rfl, show (3 : Int32) = nI 3 from rfl, pk_div (by omega) (by omega) (by omega), nI_add, pk_mul, pk_sub (by omega)]; rfl
  have b0 : 31 ≤ wk0 T ∧ wk0 T ≤ 65 := by unfold wk0; omega
  have mn : ∀ a b : Nat, a < 2 ^ 31 → b < 2 ^ 31 → imin (nI a) (nI b) = nI (min a b) := by
    intro a b ha hb
    unfold imin
    by_cases h : b < a
    · rw [if_pos (nI_lt h ha), Nat.min_eq_right (by omega)]
    · rw [if_neg (nI_nlt (by omega) hb), Nat.min_eq_left (by omega)]
  have l38 : ∀ v : Nat, 31 ≤ v → v ≤ 80 → LB_X1_workBy_38 c I J (nI k) (nI v) = some (nI (if k < 2 then v else min (v + v / 10) 85 - 2 * T 8)) := by
    intro v h1 h2
    unfold LB_X1_workBy_38
    rw [show (2 : Int32) = nI 2 from rfl, show (10 : Int32) = nI 10 from rfl, show (85 : Int32) = nI 85 from rfl]
    by_cases h : k < 2
    · rw [if_pos (nI_lt h (by omega)), if_pos h]
    · rw [if_neg (nI_nlt (a := k) (b := 2) (by omega) (by omega)), if_neg h]
      simp only [bnd, hT.1 8 (by decide)]
      rw [pk_div (by omega) (by omega) (by omega), nI_add, mn _ _ (by omega) (by omega), pk_mul, pk_sub (by omega)]
  unfold f_X1_workBy
  simp only [bnd, hT.1 6 (by decide), hT.1 7 (by decide), a0]
  unfold wkT wk1
  rw [show (1 : Int32) = nI 1 from rfl]
  by_cases h : k < 1
  · rw [if_pos (nI_lt h (by omega)), l38 _ b0.1 (by omega), if_pos h]
  · rw [if_neg (nI_nlt (a := k) (b := 1) (by omega) (by omega)), show (8 : Int32) = nI 8 from rfl, show (80 : Int32) = nI 80 from rfl, nI_add, mn _ _ (by omega) (by omega), l38 _ (by omega) (by omega), if_neg h]
theorem wk_bd {T : Nat → Nat} (hb : TO T) (k : Nat) : wkT T k ≤ 85 := by
  unfold TO at hb
  unfold wkT wk1 wk0
  split <;> split <;> omega
theorem lf_bd {T : Nat → Nat} (hb : TO T) : lfT T ≤ 2700 * 402 := by
  have h1 := (bt_bd hb).2.2.2
  have h2 := wk_bd hb (T 10)
  have h0 : T 0 < T 1 := hb.2.2.1
  unfold lfT
  have h3 : (bt T).2.2.2 * T 0 * wkT T (T 10) ≤ (bt T).2.2.2 * T 1 * 100 := Nat.mul_le_mul (Nat.mul_le_mul_left _ (by omega)) (by omega)
  have h4 : (bt T).2.2.2 * T 1 * 100 = (bt T).2.2.2 * (100 * T 1) := by rw [Nat.mul_assoc, Nat.mul_comm (T 1) 100]
  have h5 : (bt T).2.2.2 * T 0 * wkT T (T 10) / (100 * T 1) ≤ (bt T).2.2.2 := by
    apply Nat.div_le_of_le_mul
    rw [h4] at h3
    rw [Nat.mul_comm (100 * T 1)]
    exact h3
  omega
theorem up_ok {c : Nat} {I : MI} {J : MJ} {T : Nat → Nat} (hT : TV (I (c + 1)) T) (hC : CK (I c) T) : ∃ I' : MI, f_X1_upOfBeat c I J = some (nI (ubT T), I', J) ∧ ST c T I I' := by
  obtain ⟨I', e, h⟩ := reckon_ok (J := J) hT hC
  have hT2 := h.tv hT
  have hb := bt_bd hT.2
  have hl := lf_bd hT.2
  have hw := wk_bd hT.2 (T 10)
  have ho := hT.2
  unfold TO at ho
  refine ⟨I', ?_, h⟩
  unfold f_X1_upOfBeat ubT
  rw [e, bo2_s, h.2.2.1, h.2.2.2.2.1, h.2.2.2.2.2, hT2.1 1 (by decide), hT2.1 10 (by decide), hT2.1 0 (by decide), hT2.1 9 (by decide), show (20 : Int32) = nI 20 from rfl, pk_div (by omega) (by omega) (by omega)]
  rcases Bool.eq_false_or_eq_true (bt T).1 with hs | hs
  · simp only [hs, ↓reduceIte]
    rw [if_neg (by decide : ¬ (1 : Int32) = 0)]; rfl
  · simp only [hs, ↓reduceIte, Bool.false_eq_true]
    by_cases hx : (bt T).2.2.1 < T 1 / 20
    · rw [if_neg (nI_ge hx (by omega)), if_pos hx]; rfl
    · rw [if_pos (nI_le (by omega) (by omega)), if_neg hx, workBy_ok hT2 (by omega), bo1_s, nI_l (by omega), nI_l (by omega), nI_l (by omega), nI_l (by omega), nI_l (by omega), show (100 : Int64) = lN 100 from rfl, lN_mul, lN_mul, lN_mul]
      have q1 : (bt T).2.2.2 * T 0 * wkT T (T 10) ≤ 2700 * 402 * 200 * 85 := Nat.mul_le_mul (Nat.mul_le_mul hb.2.2.2 (by omega)) hw
      rw [share_ok (by omega) (by omega) (by omega), bo1_s]
      simp only [bnd]
      have q2 : lfT T * T 9 ≤ 2700 * 402 * 3 := Nat.mul_le_mul hl (by omega)
      have q3 : lfT T * T 9 ≤ lfT T * 3 := Nat.mul_le_mul_left _ (by omega)
      rw [show (bt T).2.2.2 * T 0 * wkT T (T 10) / (100 * T 1) = lfT T from rfl, show (19 : Int64) = lN 19 from rfl, show (20 : Int64) = lN 20 from rfl, lN_mul, lN_add, pk_lDiv (by omega) (by omega) (by omega), lN_sub (by omega), lN_i]
theorem upH_ok {c : Nat} {I : MI} {J : MJ} {T : Nat → Nat} (hT : TV (I (c + 1)) T) (hC : CK (I c) T) : ∃ I' : MI, f_X1_upAnHour c I J = some (nI (upT T), I', J) ∧ ST c T I I' := by
  obtain ⟨I1, e1, h1⟩ := beats_ok (J := J) hT hC
  obtain ⟨I2, e2, h2⟩ := up_ok (J := J) (h1.tv hT) h1.ck
  refine ⟨I2, ?_, h1.tr h2⟩
  unfold f_X1_upAnHour
  rw [e1, bo3_s, e2, bo3_s, pk_mul]; rfl
theorem waH_ok {c : Nat} {I : MI} {J : MJ} {T : Nat → Nat} (hT : TV (I (c + 1)) T) (hC : CK (I c) T) : ∃ I' : MI, f_X1_wasteAnHour c I J = some (nI (waT T), I', J) ∧ ST c T I I' := by
  obtain ⟨I1, e1, h1⟩ := stalls_ok (J := J) hT hC
  obtain ⟨I2, e2, h2⟩ := beats_ok (J := J) (h1.tv hT) h1.ck
  have hT1 := h1.tv hT
  have ho := hT.2
  have hop := hT.2.op
  unfold TO at ho
  unfold f_X1_wasteAnHour waT
  rw [e1, bo3_s]
  cases hs : (bt T).1
  · refine ⟨I2, ?_, h1.tr h2⟩
    rw [if_pos (by simp), if_neg (by simp), e2, bo3_s, h2.2.2.2.2.2, pk_mul]
  · refine ⟨I1, ?_, h1⟩
    have q1 : 36 * T 3 * opT T ≤ 36 * 9 * 12 := Nat.mul_le_mul (by omega) hop
    have q2 : 36 * T 3 * opT T * T 0 ≤ 36 * 9 * 12 * 200 := Nat.mul_le_mul q1 (by omega)
    rw [if_neg (by simp), if_pos rfl, hT1.1 3 (by decide), hT1.1 5 (by decide), hT1.1 7 (by decide), hT1.1 0 (by decide), show (36 : Int32) = nI 36 from rfl, show (10 : Int32) = nI 10 from rfl, nI_add, pk_mul, pk_mul, pk_mul, show T 5 + T 7 = opT T from rfl, pk_div (by omega) (by omega) (by omega)]
theorem drH_ok {c : Nat} {I : MI} {J : MJ} {T : Nat → Nat} (hT : TV (I (c + 1)) T) (hC : CK (I c) T) : ∃ I' : MI, f_X1_drawsAnHour c I J = some (nI (waT T + upT T), I', J) ∧ ST c T I I' := by
  obtain ⟨I1, e1, h1⟩ := waH_ok (J := J) hT hC
  obtain ⟨I2, e2, h2⟩ := upH_ok (J := J) (h1.tv hT) h1.ck
  refine ⟨I2, ?_, h1.tr h2⟩
  unfold f_X1_drawsAnHour
  rw [e1, bo3_s, e2, bo3_s, nI_add]
