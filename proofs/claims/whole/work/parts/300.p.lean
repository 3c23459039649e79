/-! numbers and tables -/
theorem w2c {I : MI} {c k : Nat} {x : Int32} (j : Nat) : w2 I c k x c j = if j = k then x else I c j := by simp [w2, upd]
theorem w2k {I : MI} {c k : Nat} {x : Int32} : w2 I c k x c k = x := by simp [w2, upd]
theorem w2n {I : MI} {c k c' : Nat} {x : Int32} (h : c' ≠ c) : w2 I c k x c' = I c' := by simp [w2, h]
theorem w2j {I : MI} {c k j : Nat} {x : Int32} (h : j ≠ k) : w2 I c k x c j = I c j := by simp [w2, upd, h]
theorem w2Jc {I : MJ} {c k : Nat} {x : Int64} (j : Nat) : w2J I c k x c j = if j = k then x else I c j := by simp [w2J, vp_updL]
theorem w2Jk {I : MJ} {c k : Nat} {x : Int64} : w2J I c k x c k = x := by simp [w2J, vp_updL]
theorem w2Jn {I : MJ} {c k c' : Nat} {x : Int64} (h : c' ≠ c) : w2J I c k x c' = I c' := by simp [w2J, h]
theorem w2Jj {I : MJ} {c k j : Nat} {x : Int64} (h : j ≠ k) : w2J I c k x c j = I c j := by simp [w2J, vp_updL, h]
/-- the swing of a beat, tick by tick: stalled, tick, speed, waste -/
def rk (gn dr fw hf : Nat) : Nat → Nat → Nat → Nat → Bool × Nat × Nat × Nat
  | 0, t, sp, wa => (true, t, sp, wa)
  | n + 1, t, sp, wa =>
    if hf ≤ (sp + gn - sp * dr / 100) * (sp + gn - sp * dr / 100) / 50 then (false, t, sp + gn - sp * dr / 100, wa + (sp + gn - sp * dr / 100) * fw / 100)
    else if sp + gn - sp * dr / 100 ≤ sp then (true, t, sp + gn - sp * dr / 100, wa + (sp + gn - sp * dr / 100) * fw / 100)
    else rk gn dr fw hf n (t + 1) (sp + gn - sp * dr / 100) (wa + (sp + gn - sp * dr / 100) * fw / 100)
def RKd (f : Nat → Int32) (r : Bool × Nat × Nat × Nat) : Prop := f 2 = (if r.1 then 1 else 0) ∧ f 3 = nI r.2.1 ∧ f 4 = nI r.2.2.1 ∧ f 5 = nI r.2.2.2
/-- what is kept with a beat: the beats of an hour; its span, where it doesn't stall -/
def RKx (f : Nat → Int32) (ri : Nat) (r : Bool × Nat × Nat × Nat) : Prop := f 7 = nI (if r.1 then 0 else 3600 / (r.2.1 + 4 + ri / 200)) ∧ (r.1 = false → f 6 = nI (r.2.1 + 4 + ri / 200))
theorem bo1_s {α β : Type} {a : α} {k : α → Option β} : bo1 (some a) k = k a := rfl
theorem chk_t {β : Type} {e : Option β} : chk true e = e := rfl
theorem share_ok {a b : Nat} (ha : a < 2 ^ 63) (h0 : 0 < b) (hb : b < 2 ^ 63) : f_X1_share (lN a) (lN b) = some (lN (a / b)) := by
  unfold f_X1_share
  have h1 : ¬ lN b ≤ (0 : Int64) := by
    rw [show (0 : Int64) = lN 0 from rfl, pk_lLE hb (by omega)]; omega
  have h2 : nzl (lN b) = true := decide_eq_true (by rw [show (0 : Int64) = lN 0 from rfl, pk_lEQ hb (by omega)]; omega)
  rw [if_neg h1, h2, chk_t, pk_lDiv ha h0 hb]
theorem sp_up {sp gn dr : Nat} (hd : dr ≤ 6) : sp * dr / 100 ≤ sp := by
  have : sp * dr ≤ sp * 6 := Nat.mul_le_mul_left _ hd
  omega
theorem sq_lt {x h : Nat} (h1 : h ≤ 4800) (h2 : ¬ h ≤ x * x / 50) : x ≤ 489 := by
  rcases Nat.lt_or_ge x 490 with h3 | h3
  · omega
  · have : 490 * 490 ≤ x * x := Nat.mul_le_mul h3 h3
    omega
theorem sp_32 {sp gn dr : Nat} (h1 : sp ≤ 489) (hg : gn ≤ 2000) (hd : dr ≤ 6) : (nI sp + nI gn) - ((nI sp * nI dr) / (100 : Int32)) = nI (sp + gn - sp * dr / 100) := by
  have h3 : sp * dr ≤ 489 * 6 := Nat.mul_le_mul h1 hd
  have h4 := sp_up (sp := sp) (gn := gn) hd
  rw [nI_add, pk_mul, show (100 : Int32) = nI 100 from rfl, pk_div (by omega) (by omega) (by omega), pk_sub (by omega)]
theorem sp_64 {sp gn dr : Nat} (h1 : sp ≤ 489) (hg : gn ≤ 2000) (hd : dr ≤ 6) : (lN sp + lN gn) - ((lN sp * lN dr) / (100 : Int64)) = lN (sp + gn - sp * dr / 100) := by
  have h3 : sp * dr ≤ 489 * 6 := Nat.mul_le_mul h1 hd
  have h4 := sp_up (sp := sp) (gn := gn) hd
  rw [lN_add, lN_mul, show (100 : Int64) = lN 100 from rfl, pk_lDiv (by omega) (by omega) (by omega), lN_sub (by omega)]
theorem LP_reckon_s (c n : Nat) (I : MI) (J : MJ) (x1 x2 x4 x5 : Int32) : LP_X1_reckon_106 c (n + 1) I J x1 x2 x4 x5 = LB_X1_reckon_106 c (LP_X1_reckon_106 c n) I J x1 x2 x4 x5 := rfl
theorem rk_B {c gn dr fw hf ri : Nat} (hg : gn ≤ 2000) (hd : dr ≤ 6) (hfw : fw ≤ 108) (hh : hf ≤ 4800) (hri : ri ≤ 1000) : ∀ (n m t sp wa : Nat) (I : MI) (J : MJ), n < m → t + n = 401 → sp ≤ 489 → wa ≤ 2700 * t → I c 3 = nI t → I c 4 = nI sp → I c 5 = nI wa → I c 2 = 1 → I c 7 = 0 → I (c + 1) 1 = nI ri →
    ∃ I' : MI, LP_X1_reckon_106 c m I J (nI gn) (nI dr) (nI fw) (nI hf) = some (I', J) ∧ (∀ c', c' ≠ c → I' c' = I c') ∧ I' c 1 = I c 1 ∧ RKx (I' c) ri (rk gn dr fw hf n t sp wa) ∧ RKd (I' c) (rk gn dr fw hf n t sp wa) := by
  have hn : c + 1 ≠ c := by omega
  intro n
  induction n with
  | zero =>
    intro m t sp wa I J hm ht hsp hwa h3 h4 h5 h2 h7 hR
    obtain ⟨m, rfl⟩ : ∃ m', m = m' + 1 := ⟨m - 1, by omega⟩
    rw [LP_reckon_s]
    unfold LB_X1_reckon_106
    rw [if_pos (by rw [h3]; exact nI_lt (a := 400) (by omega) (by omega))]
    exact ⟨I, rfl, fun _ _ => rfl, rfl, ⟨h7, fun h => by cases h⟩, h2, h3, h4, h5⟩
  | succ n ih =>
    intro m t sp wa I J hm ht hsp hwa h3 h4 h5 h2 h7 hR
    obtain ⟨m, rfl⟩ : ∃ m', m = m' + 1 := ⟨m - 1, by omega⟩
    rw [LP_reckon_s]
    unfold LB_X1_reckon_106
    rw [if_neg (by rw [h3]; exact nI_nlt (a := 400) (by omega) (by omega))]
    simp only [bnd, h4, sp_32 hsp hg hd, w2k, w2j (show (5 : Nat) ≠ 4 by decide), w2j (show (4 : Nat) ≠ 5 by decide), w2j (show (3 : Nat) ≠ 5 by decide), w2j (show (3 : Nat) ≠ 4 by decide), w2j (show (3 : Nat) ≠ 2 by decide), w2n hn, h5, h3, hR]
    generalize hs : sp + gn - sp * dr / 100 = s2
    have hs2 : s2 ≤ 2489 := by omega
    have hq : s2 * s2 ≤ 2489 * 2489 := Nat.mul_le_mul hs2 hs2
    have hw : s2 * fw ≤ 2489 * 108 := Nat.mul_le_mul hs2 hfw
    rw [pk_mul s2 s2, show (50 : Int32) = nI 50 from rfl, pk_div (by omega) (by omega) (by omega), pk_mul s2 fw, show (100 : Int32) = nI 100 from rfl, pk_div (by omega) (by omega) (by omega), nI_add]
    have hsd : s2 * s2 / 50 ≤ 2489 * 2489 := by omega
    unfold rk
    simp only [hs]
    by_cases hc : hf ≤ s2 * s2 / 50
    · rw [if_neg (nI_nlt hc (by omega)), if_pos hc]
      rw [show (4 : Int32) = nI 4 from rfl, show (200 : Int32) = nI 200 from rfl, pk_div (by omega) (by omega) (by omega), nI_add, nI_add, nI_l (by omega), show (3600 : Int64) = lN 3600 from rfl, share_ok (by omega) (by omega) (by omega), bo1_s, lN_i]
      refine ⟨_, rfl, fun c' h => ?_, ?_, ⟨?_, fun _ => ?_⟩, ?_, ?_, ?_, ?_⟩
      · rw [w2n h, w2n h, w2n h, w2n h, w2n h]
      · rw [w2j (by decide), w2j (by decide), w2j (by decide), w2j (by decide), w2j (by decide)]
      · rw [w2k]; rfl
      · rw [w2j (by decide), w2k]
      · rw [w2j (by decide), w2j (by decide), w2k]; rfl
      · rw [w2j (by decide), w2j (by decide), w2j (by decide), w2j (by decide), w2j (by decide), h3]
      · rw [w2j (by decide), w2j (by decide), w2j (by decide), w2j (by decide), w2k]
      · rw [w2j (by decide), w2j (by decide), w2j (by decide), w2k]
    · rw [if_pos (nI_lt (by omega) (by omega)), if_neg hc]
      by_cases he : s2 ≤ sp
      · rw [if_neg (nI_nlt he (by omega)), if_pos he]
        refine ⟨_, rfl, fun c' h => ?_, ?_, ⟨?_, fun h => by cases h⟩, ?_, ?_, ?_, ?_⟩
        · rw [w2n h, w2n h]
        · rw [w2j (by decide), w2j (by decide)]
        · rw [w2j (by decide), w2j (by decide), h7]; rfl
        · rw [w2j (by decide), w2j (by decide), h2]; rfl
        · rw [w2j (by decide), w2j (by decide), h3]
        · rw [w2j (by decide), w2k]
        · rw [w2k]
      · rw [if_pos (nI_lt (by omega) (by omega)), if_neg he]
        have hx := sq_lt hh hc
        obtain ⟨I', e1, e2, e3, e5, e4⟩ := ih m (t + 1) s2 (wa + s2 * fw / 100) (w2 (w2 (w2 I c 4 (nI s2)) c 5 (nI (wa + s2 * fw / 100))) c 3 (nI t + 1)) J (by omega) (by omega) hx (by omega) (by rw [w2k]; exact nI_1 t) (by rw [w2j (by decide), w2j (by decide), w2k]) (by rw [w2j (by decide), w2k]) (by rw [w2j (by decide), w2j (by decide), w2j (by decide), h2]) (by rw [w2j (by decide), w2j (by decide), w2j (by decide), h7]) (by rw [w2n hn, w2n hn, w2n hn, hR])
        refine ⟨I', e1, fun c' h => ?_, ?_, e5, e4⟩
        · rw [e2 c' h, w2n h, w2n h, w2n h]
        · rw [e3, w2j (by decide), w2j (by decide), w2j (by decide)]
