/-! hours: the farms, and all hours -/
theorem LP_hr37_s (kk : MI → MJ → Int32 → Int64 → Int32 → Option (Int32 × MI × MJ)) (n : Nat) (I : MI) (J : MJ) (x1 : Int32) (y2 : Int64) (x4 x5 : Int32) : LP_X7_hours_37 kk (n + 1) I J x1 y2 x4 x5 = LB_X7_hours_37 kk (LP_X7_hours_37 kk n) I J x1 y2 x4 x5 := rfl
theorem LP_g322_s (n : Nat) (I : MI) (J : MJ) (x3 x4 : Int32) : LP_X8_goes_322 (n + 1) I J x3 x4 = LB_X8_goes_322 (LP_X8_goes_322 n) I J x3 x4 := rfl
theorem l_acc (a b y : Int64) (x d : Int32) (h : (a - y).toInt32 = x) (hb : b.toInt32 = d) : (a + b - y).toInt32 = x + d := by
  rw [← h, ← hb, ← Int64.toInt32_add]
  congr 1
  apply Int64.toBitVec_inj.mp
  simp only [Int64.toBitVec_sub, Int64.toBitVec_add]
  generalize a.toBitVec = a
  generalize b.toBitVec = b
  generalize y.toBitVec = y
  rw [BitVec.sub_eq_add_neg, BitVec.sub_eq_add_neg, BitVec.add_assoc, BitVec.add_assoc, BitVec.add_comm b]
theorem serve_loop (kk : MI → MJ → Int32 → Int64 → Int32 → Option (Int32 × MI × MJ)) (x1 : Int32) (y2 : Int64) (x4 x2 : Int32) : ∀ (k m m' f : Nat) (x3 : Int32) (IB : MI) (JB : MJ) (IM : MI) (JM : MJ), f + k = 5 → k < m → k < m' → REL IB JB IM JM → (JB 24 6 - y2).toInt32 = x2 + x3 → ∃ (IB' : MI) (JB' : MJ) (IM' : MI) (JM' : MJ) (x3' : Int32), LP_X7_hours_37 kk m IB JB x1 y2 x4 (nI f) = kk IB' JB' x1 y2 (x4 + 1) ∧ LP_X8_goes_322 m' IM JM x3 (nI f) = some (x3', IM', JM') ∧ REL IB' JB' IM' JM' ∧ (JB' 24 6 - y2).toInt32 = x2 + x3' := by
  intro k
  induction k with
  | zero =>
    intro m m' f x3 IB JB IM JM hf hm hm' h hj
    obtain ⟨m, rfl⟩ : ∃ q, m = q + 1 := ⟨m - 1, by omega⟩
    obtain ⟨m', rfl⟩ : ∃ q, m' = q + 1 := ⟨m' - 1, by omega⟩
    obtain ⟨I1, I2, e1, e2, e3⟩ := next_ok h x3
    rw [LP_hr37_s, LP_g322_s]
    unfold LB_X7_hours_37 LB_X8_goes_322
    simp only [bnd_d]
    rw [if_pos (show (5 : Int32) ≤ nI f from nI_le (a := 5) (by omega) (by omega)), if_pos (show (5 : Int32) ≤ nI f from nI_le (a := 5) (by omega) (by omega)), e1, bo2_s, e2]
    exact ⟨I1, JB, I2, JM, x3, rfl, rfl, e3, hj⟩
  | succ k ih =>
    intro m m' f x3 IB JB IM JM hf hm hm' h hj
    obtain ⟨m, rfl⟩ : ∃ q, m = q + 1 := ⟨m - 1, by omega⟩
    obtain ⟨m', rfl⟩ : ∃ q, m' = q + 1 := ⟨m' - 1, by omega⟩
    obtain ⟨mo, dy, hr, n1, n2, n3, n4, n5, n6, n7, n8, n9'⟩ := h.2.2.2.2.2.2.1
    obtain ⟨q, F, A, B, G, hQ⟩ := h.2.2.2.2.2.1
    obtain ⟨rm, hd, k1, k2, k3, k4, k5, k6, k7, k8, k9, k10, k11, k12, k13⟩ := h.2.2.2.1
    have hs := sI_bd (F := F) (A := A) (B := B) (f := f) (h := hr) q hQ.2.2.1 (fun i hi => (hQ.2.2.2.1 i hi).2.2.2.2.2.2.2)
    have hq := hQ.2.2.1
    have l1 := litresOf_ok (JB := JB) hQ (f := f) (by omega) n9'
    have l2 := rightOf_ok (JM := JM) hQ (f := f) (by omega) n9'
    generalize sI F A B G f hr q = r at hs l1 l2
    have key : ∃ (IB' : MI) (JB' : MJ) (IM' : MI) (JM' : MJ), f_X5_serve IB JB (nI f) (nI r) = some (IB', JB') ∧ LB_X8_goes_358 (LP_X8_goes_322 m') IM JM x3 (nI f) (nI r) (nI (min r hd)) = LP_X8_goes_322 m' IM' JM' (x3 + nI (r - min r hd)) (nI (f + 1)) ∧ REL IB' JB' IM' JM' ∧ JB' 24 6 = JB 24 6 + (nI (r - min r hd)).toInt64 := by
      have hmr : min r hd ≤ r := Nat.min_le_left _ _
      have hmh : min r hd ≤ hd := Nat.min_le_right _ _
      unfold f_X5_serve LB_X8_goes_358
      simp only [bnd_d]
      rw [k5, k6, imin_n (by omega) (by omega), pk_sub hmh, pk_sub hmr, inbI (show f < 5 by omega) (by omega), chk_t, chk_t, nI_clamp (show f < 2 ^ 31 by omega), show (6 : Int32) = nI 6 from rfl, nI_add, inbI (show 6 + f < 11 by omega) (by omega), chk_t, chk_t, nI_clamp (show 6 + f < 2 ^ 31 by omega), show nI f + (1 : Int32) = nI (f + 1) from nI_1 f]
      generalize (nI (r - min r hd)).toInt64 = d
      generalize (nI (min r hd)).toInt64 = g
      refine ⟨_, _, _, _, rfl, rfl, h.setK (ag_wc (by decide) (by decide)) (AG.w2 (by decide) (by decide)) (by rw [w2Jn (by decide), w2Jn (by decide), w2Jn (by decide)]) (by rw [w2Jn (by decide), w2Jn (by decide), w2Jn (by decide)]) ⟨rm, hd - min r hd, by rw [w2j (by decide)]; exact k1, by rw [w2j (by decide)]; exact k2, k3, k4, by rw [w2k], by rw [w2k], by omega, ?_, ?_, ?_, ?_, ?_, fun f' hf' => ?_⟩, ?_⟩
      · rw [w2Jn (by decide), w2Jj (by decide), w2Jj (by decide), w2Jj (by omega), w2Jj (by decide), w2Jj (by decide)]; exact k8
      · rw [w2Jn (by decide), w2Jj (by decide), w2Jj (by decide), w2Jj (by omega), w2Jj (by decide), w2Jj (by decide)]; exact k9
      · rw [w2Jn (by decide), w2Jj (by decide), w2Jj (by decide), w2Jj (by omega), w2Jj (by decide), w2Jj (by decide)]; exact k10
      · rw [w2Jn (by decide), w2Jj (by decide), w2Jk, w2Jj (by omega), w2Jj (by decide), w2Jk, k11]
      · rw [w2Jn (by decide), w2Jk, w2Jj (by decide), w2Jj (by omega), w2Jk, w2Jj (by decide), k12]
      · by_cases e : f' = f
        · subst e
          rw [w2Jk, w2Jk, w2Jn (show 25 ≠ 24 by decide), w2Jn (show 25 ≠ 24 by decide), w2Jj (show 6 + f' ≠ 4 by omega), w2Jj (show 6 + f' ≠ 3 by omega), k13 f' hf']
        · rw [w2Jj e, w2Jj (show 6 + f' ≠ 6 + f by omega), w2Jn (show 25 ≠ 24 by decide), w2Jn (show 25 ≠ 24 by decide), w2Jj (show 6 + f' ≠ 4 by omega), w2Jj (show 6 + f' ≠ 3 by omega), k13 f' hf']
      · rw [w2Jn (by decide), w2Jk, w2Jj (by decide)]
    obtain ⟨I1, J1, I2, J2, a1, a2, a3, a4⟩ := key
    rw [LP_hr37_s, LP_g322_s]
    unfold LB_X7_hours_37 LB_X8_goes_322
    simp only [bnd_d]
    rw [if_neg (show ¬ (5 : Int32) ≤ nI f from nI_ge (b := 5) (by omega) (by omega)), if_neg (show ¬ (5 : Int32) ≤ nI f from nI_ge (b := 5) (by omega) (by omega)), n7, n8, l1, l2, bo1_s, bo1_s, a1, bo2_s, k6, show nI f + (1 : Int32) = nI (f + 1) from nI_1 f]
    have e9 : (if nI hd ≤ nI r then LB_X8_goes_358 (LP_X8_goes_322 m') IM JM x3 (nI f) (nI r) (nI hd) else LB_X8_goes_358 (LP_X8_goes_322 m') IM JM x3 (nI f) (nI r) (nI r)) = LB_X8_goes_358 (LP_X8_goes_322 m') IM JM x3 (nI f) (nI r) (nI (min r hd)) := by
      by_cases e : hd ≤ r
      · rw [if_pos (nI_le e (by omega)), Nat.min_eq_right e]
      · rw [if_neg (nI_ge (by omega) (by omega)), Nat.min_eq_left (by omega)]
    rw [e9, a2]
    exact ih m m' (f + 1) _ I1 J1 I2 J2 (by omega) (by omega) (by omega) a3 (by rw [a4, l_acc _ _ _ _ (nI (r - min r hd)) hj (by rw [Int32.toInt32_toInt64]), Int32.add_assoc])
theorem LP_hr24_s (n : Nat) (I : MI) (J : MJ) (x1 : Int32) (y2 : Int64) (x4 : Int32) : LP_X7_hours_24 (n + 1) I J x1 y2 x4 = LB_X7_hours_24 (LP_X7_hours_24 n) I J x1 y2 x4 := rfl
theorem LP_hr22_s (n : Nat) (I : MI) (J : MJ) (x1 x2 x3 : Int32) : LP_X8_hours_22 (n + 1) I J x1 x2 x3 = LB_X8_hours_22 (LP_X8_hours_22 n) I J x1 x2 x3 := rfl
theorem VI_id {IB : MI} {hM : Nat} (h : IB 24 1 = nI hM) : VI IB hM = IB := by
  funext c k
  unfold VI
  by_cases e : c = 24
  · subst e
    rw [w2c]
    by_cases e2 : k = 1
    · rw [if_pos e2, e2, h]
    · rw [if_neg e2]
  · rw [w2n e]
theorem VJ_id (JB : MJ) : VJ JB 0 = JB := by
  funext c k
  unfold VJ
  by_cases e : c = 24
  · subst e
    rw [w2Jc]
    by_cases e2 : k = 4
    · rw [if_pos e2, e2, show lN 0 = 0 from rfl, Int64.add_zero]
    · rw [if_neg e2]
  · rw [w2Jn e]
theorem hour1 {IB : MI} {JB : MJ} {IM : MI} {JM : MJ} (h : REL IB JB IM JM) : ∃ (IB' : MI) (JB' : MJ) (IM' : MI) (JM' : MJ), f_X7_runRams IB JB = some (IB', JB') ∧ f_X8_goes IM JM = LP_X8_goes_322 FU IM' JM' 0 0 ∧ REL IB' JB' IM' JM' ∧ JB' 24 6 = JB 24 6 := by
  obtain ⟨mo, dy, hr, hN⟩ := h.2.2.2.2.2.2.1
  obtain ⟨sp, fr, sf, st, hS⟩ := h.2.1
  obtain ⟨n, T, hR⟩ := h.1
  obtain ⟨rm, hd, hK⟩ := h.2.2.2.1
  obtain ⟨s1, s2, s3⟩ := hS.1 mo hN.2.2.1
  have e1 := VI_id hK.2.2.2.2.1
  have h' : REL (VI IB hd) (VJ JB 0) IM JM := by rw [e1, VJ_id]; exact h
  have hK' : RK rm hd (VI IB hd) IM (VJ JB 0) JM := by rw [e1, VJ_id]; exact hK
  have b1 := hK.2.2.2.1
  have b2 := hK.2.2.2.2.2.2.1
  have b3 := hR.2.2.1
  have b4 := hN.2.2.1
  obtain ⟨I1, J1, I2, J2, a1, a2, a3, a4⟩ := run_loop n FU FU 0 (sp mo) n T hd 0 IB JB IM JM (by omega) (by rw [FU_eq]; omega) (by rw [FU_eq]; omega) s3 (by omega) h' hR hS hN hK' hK.2.2.2.2.1 (Or.inl rfl)
  refine ⟨I1, J1, I2, J2, ?_, ?_, a3, a4⟩
  · unfold f_X7_runRams
    simp only [bnd_d]
    rw [hN.1, inbI b4 (by omega), chk_t, nI_clamp (by omega), s1]
    exact a1
  · obtain ⟨-, -, h3, h4, h5, h6, h7, h8⟩ := hS
    unfold f_X8_goes
    simp only [bnd_d]
    rw [hN.2.1, inbI b4 (by omega), chk_t, nI_clamp (by omega), s2, hN.2.2.2.2.2.2.2.1, h4, h7]
    have b9 := hN.2.2.2.2.2.2.2.2
    unfold quiet at a2
    by_cases c : sf ≤ hr
    · rw [if_neg (nI_nlt c (by omega))]
      by_cases d : hr < st
      · rw [if_neg (nI_ge d (by omega))]
        rw [if_pos ⟨c, d⟩] at a2; exact a2
      · rw [if_pos (nI_le (by omega) (by omega))]
        rw [if_neg (fun z => d z.2)] at a2; exact a2
    · rw [if_pos (nI_lt (by omega) (by omega))]
      rw [if_neg (fun z => c z.1)] at a2; exact a2
theorem hours_loop {N : Nat} (hN : N ≤ 720) (y2 : Int64) : ∀ (k m m' f : Nat) (x2 : Int32) (IB : MI) (JB : MJ) (IM : MI) (JM : MJ), f + k = N → k < m → k < m' → REL IB JB IM JM → (JB 24 6 - y2).toInt32 = x2 → SW (LP_X7_hours_24 m IB JB (nI N) y2 (nI f)) (LP_X8_hours_22 m' IM JM (nI N) x2 (nI f)) := by
  intro k
  induction k with
  | zero =>
    intro m m' f x2 IB JB IM JM hf hm hm' h hj
    obtain ⟨m, rfl⟩ : ∃ q, m = q + 1 := ⟨m - 1, by omega⟩
    obtain ⟨m', rfl⟩ : ∃ q, m' = q + 1 := ⟨m' - 1, by omega⟩
    rw [LP_hr24_s, LP_hr22_s]
    unfold LB_X7_hours_24 LB_X8_hours_22
    rw [if_pos (nI_le (by omega) (by omega)), if_pos (nI_le (by omega) (by omega)), hj]
    exact SW.same h
  | succ k ih =>
    intro m m' f x2 IB JB IM JM hf hm hm' h hj
    obtain ⟨m, rfl⟩ : ∃ q, m = q + 1 := ⟨m - 1, by omega⟩
    obtain ⟨m', rfl⟩ : ∃ q, m' = q + 1 := ⟨m' - 1, by omega⟩
    obtain ⟨I1, J1, I2, J2, a1, a2, a3, a4⟩ := hour1 h
    rw [LP_hr24_s, LP_hr22_s]
    unfold LB_X7_hours_24 LB_X8_hours_22
    simp only [bnd_d]
    rw [if_neg (nI_ge (by omega) (by omega)), if_neg (nI_ge (by omega) (by omega)), a1, bo2_s, a2]
    obtain ⟨I3, J3, I4, J4, x3, b1, b2, b3, b4⟩ := serve_loop (LP_X7_hours_24 m) (nI N) y2 (nI f) x2 5 FU FU 0 0 I1 J1 I2 J2 (by omega) (by rw [FU_eq]; omega) (by rw [FU_eq]; omega) a3 (by rw [a4, hj, Int32.add_zero])
    change LP_X7_hours_37 (LP_X7_hours_24 m) FU I1 J1 (nI N) y2 (nI f) 0 = _ at b1
    change LP_X8_goes_322 FU I2 J2 0 0 = _ at b2
    rw [b1, b2, bo3_s, show nI f + (1 : Int32) = nI (f + 1) from nI_1 f]
    exact ih m m' (f + 1) _ I3 J3 I4 J4 (by omega) (by omega) (by omega) b3 b4
theorem s_hours {IB : MI} {JB : MJ} {IM : MI} {JM : MJ} (h : REL IB JB IM JM) (a1 : Int32) : SW (f_X7_hours IB JB a1) (f_X8_hours IM JM a1) := by
  have h0 := thr h
  unfold f_X7_hours f_X8_hours
  simp only [bnd_d, in_wd]
  generalize w2 IM 0 0 0 = IM at h0 ⊢
  rcases win a1 (x := 1) (y := 720) (lo := 1) (hi := 720) rfl rfl (by omega) (by omega) with ⟨w, -, hw, rfl, e⟩ | e
  · rw [e]
    simp only [bo1_s, one0, ↓reduceIte]
    exact hours_loop hw (JB 24 6) w FU FU 0 0 IB JB IM JM (by omega) (by rw [FU_eq]; omega) (by rw [FU_eq]; omega) h0 (by rw [Int64.sub_self]; rfl)
  · rw [e]; exact SW.same h0
