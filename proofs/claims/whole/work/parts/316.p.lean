/-! an hour: the rams run, the tank spills -/
theorem imax_sub {a b : Nat} (ha : a < 2 ^ 30) (hb : b < 2 ^ 30) : imax (nI a - nI b) 0 = nI (a - b) := by
  unfold imax
  by_cases h : b ≤ a
  · rw [pk_sub h, if_neg (nI_pos (by omega))]
  · rw [if_pos (by rw [i_lt, pk_sub_toInt ha hb, Int32.toInt_zero]; omega), show a - b = 0 by omega]; rfl
theorem imin_n {a b : Nat} (ha : a < 2 ^ 31) (hb : b < 2 ^ 31) : imin (nI a) (nI b) = nI (min a b) := by
  unfold imin
  by_cases h : b < a
  · rw [if_pos (nI_lt h ha), Nat.min_eq_right (by omega)]
  · rw [if_neg (nI_nlt (by omega) hb), Nat.min_eq_left (by omega)]
def aT (T : Nat → Nat) : Nat := T 6 - (1 + T 9) + T 11
def lT (T : Nat → Nat) : Nat → Nat := if (bt T).1 = true then T else un T 6 (aT T)
theorem aT_bd {T : Nat → Nat} (h : TO T) : aT T ≤ 100 := by
  unfold TO at h
  unfold aT
  omega
theorem lT_TO {T : Nat → Nat} (h : TO T) : TO (lT T) := by
  have := aT_bd h
  unfold lT
  split
  · exact h
  · exact h.set (by omega) ⟨by show 0 ≤ _; omega, by show _ ≤ 100; omega, by omega, by omega⟩
theorem air_sub {T : Nat → Nat} (h : TO T) : nI (T 6) - 1 - nI (T 9) = nI (T 6) - nI (1 + T 9) := by
  rw [← nI_add, show (1 : Int32) = nI 1 from rfl]
  apply Int32.toBitVec_inj.mp
  simp only [Int32.toBitVec_sub, Int32.toBitVec_add]
  generalize (nI (T 6)).toBitVec = x
  generalize (nI 1).toBitVec = y
  generalize (nI (T 9)).toBitVec = z
  rw [BitVec.sub_eq_add_neg, BitVec.sub_eq_add_neg, BitVec.sub_eq_add_neg, BitVec.neg_add, BitVec.sub_eq_add_neg, BitVec.add_assoc]
theorem loseAir_ok {c : Nat} {I : MI} {J : MJ} {T : Nat → Nat} (hT : TV (I (c + 1)) T) (hC : CK (I c) T) : ∃ I' : MI, f_X1_loseAir c I J = some (I', J) ∧ (∀ c', c' ≠ c → c' ≠ c + 1 → I' c' = I c') ∧ TV (I' (c + 1)) (lT T) ∧ CK (I' c) (lT T) := by
  obtain ⟨I1, e1, h1⟩ := stalls_ok (J := J) hT hC
  have hT1 := h1.tv hT
  have hC1 := h1.ck
  have hb := id hT.2
  have ha := aT_bd hT.2
  have hlo := lT_TO hT.2
  unfold f_X1_loseAir
  simp only [bnd_d]
  rw [e1, bo3_s]
  unfold lT at hlo ⊢
  cases hs : (bt T).1
  · rw [hs] at hlo
    simp only [Bool.false_eq_true, ↓reduceIte] at hlo ⊢
    unfold TO at hb
    rw [hT1.1 6 (by omega), hT1.1 9 (by omega), hT1.1 11 (by omega), air_sub hT.2, imax_sub (by omega) (by omega), nI_add, (s_lo 6 (by omega)).2.1, imin_n (by omega) (by show 100 < _; omega), show thi 6 = 100 from rfl, show min (T 6 - (1 + T 9) + T 11) 100 = aT T by unfold aT; omega]
    obtain ⟨I2, p1, p2, p3, p4⟩ := put_ok (c := c) (j := 6) (v := aT T) (I := I1) (J := J) (T := T) (by omega) (by omega) hT1.1 (by omega) hC1
    change f_X1_put c I1 J 6 (nI (aT T)) = _ at p1
    rw [p1, bo2_s]
    exact ⟨I2, rfl, fun c' a b => by rw [p2 c' a b, h1.1 c' a], ⟨p3, hlo⟩, p4⟩
  · simp only [one0, ↓reduceIte]
    exact ⟨I1, rfl, fun c' a b => h1.1 c' a, hT1, hC1⟩
def stp (fr : Nat → Nat) (sf st mo hr : Nat) (T : Nat → Nat) : Bool := (decide (sf ≤ hr) && decide (hr < st)) || (decide (hr < fr mo) && decide (T 5 ≤ 2))
theorem stop_ok {c : Nat} {I IM : MI} {J : MJ} {T : Nat → Nat} {sp fr : Nat → Nat} {sf st mo hr : Nat} (hT : TV (I (c + 1)) T) (h : RS sp fr sf st I IM) (hm : mo < 12) (hh : hr < 24) : f_X4_stop I J c (nI mo) (nI hr) = some (if stp fr sf st mo hr T = true then 1 else 0) := by
  obtain ⟨h1, h2, h3, h4, h5, h6, h7, h8⟩ := h
  obtain ⟨f1, f2, f3⟩ := h2 mo hm
  have hb := hT.2
  unfold TO at hb
  have l21 : LB_X4_stop_21 I J c (nI mo) (nI hr) 0 = some (if hr < fr mo ∧ T 5 ≤ 2 then 1 else 0) := by
    unfold LB_X4_stop_21
    rw [if_pos rfl, inbI hm (by omega), chk_t, nI_clamp (by omega), f1]
    by_cases a : hr < fr mo
    · rw [if_neg (nI_ge a (by omega)), trait_ok (j := 5) (x := 5) (by omega) rfl, bo1_s, hT.1 5 (by omega)]
      by_cases b : T 5 ≤ 2
      · rw [if_neg (show ¬ (3 : Int32) ≤ nI (T 5) from nI_ge (b := 3) (by omega) (by omega)), if_pos ⟨a, b⟩]
      · rw [if_pos (show (3 : Int32) ≤ nI (T 5) from nI_le (a := 3) (by omega) (by omega)), if_neg (fun z => b z.2)]
    · rw [if_pos (nI_le (by omega) (by omega)), if_neg (fun z => a z.1)]
  have l1 : LB_X4_stop_21 I J c (nI mo) (nI hr) 1 = some 1 := by
    unfold LB_X4_stop_21
    rw [if_neg (by decide)]
  unfold f_X4_stop LB_X4_stop_20 stp
  rw [h3, h6, l21, l1]
  by_cases a : sf ≤ hr
  · rw [if_neg (nI_nlt a (by omega))]
    by_cases b : hr < st
    · rw [if_neg (nI_ge b (by omega)), decide_eq_true a, decide_eq_true b]; rfl
    · rw [if_pos (nI_le (by omega) (by omega)), decide_eq_false b]
      simp
  · rw [if_pos (nI_lt (by omega) (by omega)), decide_eq_false a]
    simp
theorem LP_run_s (n : Nat) (I : MI) (J : MJ) (x1 x2 : Int32) : LP_X7_runRams_15 (n + 1) I J x1 x2 = LB_X7_runRams_15 (LP_X7_runRams_15 n) I J x1 x2 := rfl
def goR (fr : Nat → Nat) (sf st mo hr : Nat) (T : Nat → Nat) : Bool := decide (T 12 = 1) && !stp fr sf st mo hr T
theorem cls_no {n i : Nat} {T : Nat → Nat → Nat} {IB IM : MI} {JB : MJ} {sp fr : Nat → Nat} {sf st mo dy hr : Nat} (hR : RR n T IB IM) (hS : RS sp fr sf st IB IM) (hN : RN mo dy hr IB IM) (hi : i < n) (hg : goR fr sf st mo hr (T i) = false) (m : Nat) (x : Int32) : LP_X7_runRams_15 (m + 1) IB JB x (nI i) = LP_X7_runRams_15 m IB JB x (nI (i + 1)) := by
  obtain ⟨r1, r2, r3, r4, r5⟩ := hR
  obtain ⟨n1, n2, n3, n4, n5, n6, n7, n8, n9⟩ := hN
  obtain ⟨ri, rm, rk⟩ := r4 i hi
  have hb := ri.2
  unfold TO at hb
  rw [LP_run_s]
  unfold LB_X7_runRams_15
  simp only [bnd_d]
  rw [r1, if_neg (nI_ge hi (by omega)), inbI (by omega) (by omega), chk_t, rc_nI (by omega), trait_ok (j := 12) (x := 12) (by omega) rfl, bo1_s, ri.1 12 (by omega), show nI i + (1 : Int32) = nI (i + 1) from nI_1 i, n1, n7, stop_ok ri hS n3 n9, bo1_s]
  by_cases e : T i 12 = 0
  · rw [if_pos (by rw [e]; rfl)]
  · rw [if_neg (show ¬ nI (T i 12) = (0 : Int32) from fun z => e ((nI_eq (b := 0) (by omega) (by omega)).mp z))]
    unfold goR at hg
    rw [decide_eq_true (show T i 12 = 1 by omega)] at hg
    simp only [Bool.true_and, Bool.not_eq_false'] at hg
    rw [hg, if_pos rfl, if_neg (by decide)]
theorem cls_go {n i xs : Nat} {T : Nat → Nat → Nat} {IB IM : MI} {JB : MJ} {sp fr : Nat → Nat} {sf st mo dy hr : Nat} (hR : RR n T IB IM) (hS : RS sp fr sf st IB IM) (hN : RN mo dy hr IB IM) (hi : i < n) (hg : goR fr sf st mo hr (T i) = true) (hx : xs ≤ 1000000) (m : Nat) : ∃ I1 : MI, ST (2 + 2 * i) (T i) IB I1 ∧ LP_X7_runRams_15 (m + 1) IB JB (nI xs) (nI i) = if upT (T i) + waT (T i) ≤ xs then bo2 (f_X5_receive I1 JB (nI (upT (T i))) (nI (waT (T i)))) fun I20 J21 => bo2 (f_X1_loseAir (2 + 2 * i) I20 J21) fun I23 J24 => LP_X7_runRams_15 m I23 J24 (nI (xs - (upT (T i) + waT (T i)))) (nI (i + 1)) else LP_X7_runRams_15 m I1 JB (nI xs) (nI (i + 1)) := by
  obtain ⟨r1, r2, r3, r4, r5⟩ := hR
  obtain ⟨n1, n2, n3, n4, n5, n6, n7, n8, n9⟩ := hN
  obtain ⟨ri, rm, rk⟩ := r4 i hi
  have hu := up_bd ri.2
  have hw := wa_bd ri.2
  unfold goR at hg
  simp only [Bool.and_eq_true, decide_eq_true_eq, Bool.not_eq_true'] at hg
  obtain ⟨I1, e1, h1⟩ := upH_ok (J := JB) ri rk
  obtain ⟨I2, e2, h2⟩ := waH_ok (J := JB) (h1.tv ri) h1.ck
  refine ⟨I2, h1.tr h2, ?_⟩
  rw [LP_run_s]
  unfold LB_X7_runRams_15
  simp only [bnd_d]
  rw [r1, if_neg (nI_ge hi (by omega)), inbI (by omega) (by omega), chk_t, rc_nI (by omega), trait_ok (j := 12) (x := 12) (by omega) rfl, bo1_s, ri.1 12 (by omega), show nI i + (1 : Int32) = nI (i + 1) from nI_1 i, n1, n7, stop_ok ri hS n3 n9, bo1_s, hg.1, hg.2, if_neg (show ¬ nI 1 = (0 : Int32) by decide), if_pos (by decide), e1, bo3_s, e2, bo3_s, nI_add]
  by_cases e : upT (T i) + waT (T i) ≤ xs
  · rw [if_pos (nI_le e (by omega)), if_pos e, pk_sub e]
  · rw [if_neg (nI_ge (by omega) (by omega)), if_neg e]
abbrev K5 : Type := MI → MJ → Int32 → Int32 → Int32 → Option (Int32 × MI × MJ)
theorem LP_goes_s (n : Nat) (I : MI) (J : MJ) (x1 x2 x3 : Int32) : LP_X8_goes_40 (n + 1) I J x1 x2 x3 = LB_X8_goes_40 (LP_X8_goes_40 n) I J x1 x2 x3 := rfl
theorem m232 (kk : K5) {I : MI} {J : MJ} {T : Nat → Nat} (hT : TV (I 2) T) {i : Nat} (hi : i < 4) (x1 x2 : Int32) (s : Bool) : LB_X8_goes_232 kk I J x1 x2 (nI i) (if s = true then 0 else 1) = kk (if s = true then I else w2 I 1 (13 * i + 6) (nI (aT T))) J x1 x2 (nI (i + 1)) := by
  have hb := id hT.2
  unfold TO at hb
  unfold LB_X8_goes_232
  simp only [bnd_d]
  rw [show nI i + (1 : Int32) = nI (i + 1) from nI_1 i]
  cases s
  · simp only [Bool.false_eq_true, ↓reduceIte, one0]
    have l294 : ∀ a b : Nat, a + b = aT T → LB_X8_goes_294 kk I J x1 x2 (nI i) (nI a) (nI b) = kk (w2 I 1 (13 * i + 6) (nI (aT T))) J x1 x2 (nI (i + 1)) := by
      intro a b e
      unfold LB_X8_goes_294
      simp only [bnd_d]
      rw [nI_add, e, show (13 : Int32) = nI 13 from rfl, show (6 : Int32) = nI 6 from rfl, pk_mul, nI_add, inbI (by omega) (by omega), chk_t, nI_clamp (by omega), show nI i + (1 : Int32) = nI (i + 1) from nI_1 i]
    have l267 : ∀ a : Nat, a = T 6 - (1 + T 9) → LB_X8_goes_267 kk I J x1 x2 (nI i) (nI a) = kk (w2 I 1 (13 * i + 6) (nI (aT T))) J x1 x2 (nI (i + 1)) := by
      intro a e
      unfold LB_X8_goes_267 LB_X8_goes_293
      rw [hT.1 11 (by omega), if_neg (show ¬ (100 : Int32) ≤ nI a from nI_ge (b := 100) (by omega) (by omega))]
      by_cases e1 : T 11 = 1
      · rw [if_pos (by rw [e1]; rfl)]
        exact l294 a 1 (by unfold aT; omega)
      · rw [if_neg (show ¬ nI (T 11) = (1 : Int32) from fun z => e1 ((nI_eq (b := 1) (by omega) (by omega)).mp z))]
        exact l294 a 0 (by unfold aT; omega)
    rw [hT.1 6 (by omega), hT.1 9 (by omega), air_sub hT.2]
    by_cases e : 1 + T 9 ≤ T 6
    · rw [pk_sub e, if_pos (nI_pos' (by omega))]
      exact l267 _ rfl
    · rw [if_neg (by rw [i_le, Int32.toInt_zero, pk_sub_toInt (by omega) (by omega)]; omega)]
      exact l267 0 (by omega)
  · simp only [↓reduceIte]
theorem m154 (kk : K5) {I : MI} {J : MJ} {T : Nat → Nat} (hT : TV (I 2) T) {i up hM rm : Nat} (hi : i < 4) (h17 : I 0 17 = nI rm) (h18 : I 0 18 = nI hM) (hrm : rm ≤ 1000000) (hhm : hM ≤ rm) (hu : up ≤ 1000000) (x1 x2 : Int32) (s : Bool) : ∃ (I' : MI) (J' : MJ), LB_X8_goes_154 kk I J x1 x2 (nI i) (nI up) (if s = true then 0 else 1) = kk (if s = true then I' else w2 I' 1 (13 * i + 6) (nI (aT T))) J' x1 x2 (nI (i + 1)) ∧ mAK I I' ∧ I' 0 17 = nI rm ∧ I' 0 18 = nI (min (hM + up) rm) ∧ J' 10 0 = J 10 0 + (nI up).toInt64 ∧ J' 10 1 = J 10 1 + (nI (waT T)).toInt64 ∧ J' 10 2 = J 10 2 + lN (hM + up - rm) ∧ (∀ k, 3 ≤ k → J' 10 k = J 10 k) ∧ J' 0 1 = J 0 1 := by
  obtain ⟨I3, J4, e1, e2, e3, -⟩ := hourM_ok (J := w2J J 10 0 (J 10 0 + (nI up).toInt64)) hT (w := 1) (by omega)
  change f_X8_hourOf I (w2J J 10 0 (J 10 0 + (nI up).toInt64)) 1 = some (nI (waT T), I3, J4) at e1
  have a18 : I3 0 18 = nI hM := (e2.2 18 (by decide) (by decide)).trans h18
  have a17 : I3 0 17 = nI rm := (e2.2 17 (by decide) (by decide)).trans h17
  have hT3 : TV (I3 2) T := by rw [e2.1 2 (by decide)]; exact hT
  have j10 : ∀ k, J4 10 k = w2J J 10 0 (J 10 0 + (nI up).toInt64) 10 k := fun k => by rw [e3.1 10 (by decide)]
  have j0 : J4 0 1 = J 0 1 := (e3.2 1 (by decide) (by decide) (by decide)).trans (by rw [w2Jn (by decide)])
  have ag : mAK I I3 := AG.sub (mA_SM e2) (by decide) (by decide)
  unfold LB_X8_goes_154
  simp only [bnd_d]
  rw [e1, bo3_s, w2k, w2j (by decide), a18, a17, nI_add]
  by_cases e : hM + up ≤ rm
  · rw [if_pos (nI_le e (by omega)), m232 kk (T := T) (by rw [w2n (by decide)]; exact hT3) hi]
    refine ⟨w2 I3 0 18 (nI (hM + up)), _, rfl, ag.tr (AG.w2 (by decide) (by decide)), by rw [w2j (by decide)]; exact a17, by rw [w2k, Nat.min_eq_left e], ?_, ?_, ?_, fun k hk => ?_, ?_⟩
    · rw [w2Jj (by decide), j10, w2Jk]
    · rw [w2Jk, w2Jj (by decide)]
    · rw [w2Jj (by decide), j10, w2Jj (by decide), show hM + up - rm = 0 by omega, show lN 0 = 0 from rfl, Int64.add_zero]
    · rw [w2Jj (by omega), j10, w2Jj (by omega)]
    · rw [w2Jn (by decide)]; exact j0
  · rw [if_neg (nI_ge (by omega) (by omega)), m232 kk (T := T) (by rw [w2n (by decide), w2n (by decide)]; exact hT3) hi, pk_sub (by omega), nI_l (n := hM + up - rm) (by omega)]
    refine ⟨w2 (w2 I3 0 18 (nI (hM + up))) 0 18 (nI rm), _, rfl, ag.tr (AG.tr (AG.w2 (by decide) (by decide)) (AG.w2 (by decide) (by decide))), by rw [w2j (by decide), w2j (by decide)]; exact a17, by rw [w2k, Nat.min_eq_right (by omega)], ?_, ?_, ?_, fun k hk => ?_, ?_⟩
    · rw [w2Jj (by decide), w2Jj (by decide), j10, w2Jk]
    · rw [w2Jj (by decide), w2Jk, w2Jj (by decide)]
    · rw [w2Jk, w2Jj (by decide), j10, w2Jj (by decide)]
    · rw [w2Jj (by omega), w2Jj (by omega), j10, w2Jj (by omega)]
    · rw [w2Jn (by decide), w2Jn (by decide)]; exact j0
def quiet (sf st hr : Nat) : Int32 := if sf ≤ hr ∧ hr < st then 1 else 0
theorem mod_flag {n i : Nat} {T : Nat → Nat → Nat} {IB IM : MI} {JM : MJ} {sp fr : Nat → Nat} {sf st mo dy hr : Nat} (hR : RR n T IB IM) (hS : RS sp fr sf st IB IM) (hN : RN mo dy hr IB IM) (hi : i < n) (m : Nat) (x : Int32) : ∃ I1 : MI, mA IM I1 ∧ TV (I1 2) (T i) ∧ LP_X8_goes_40 (m + 1) IM JM x (quiet sf st hr) (nI i) = LB_X8_goes_99 (LP_X8_goes_40 m) I1 JM x (quiet sf st hr) (nI i) (if goR fr sf st mo hr (T i) = true then 1 else 0) := by
  have hn := hR.2.2.1
  obtain ⟨I1, e1, e2, e3⟩ := takesT (JM := JM) hR hi
  refine ⟨I1, e2, e3, ?_⟩
  obtain ⟨h1, h2, h3, h4, h5, h6, h7, h8⟩ := hS
  obtain ⟨n1, n2, n3, n4, n5, n6, n7, n8, n9⟩ := hN
  obtain ⟨f1, f2, f3⟩ := h2 mo n3
  have hb := id e3.2
  unfold TO at hb
  rw [LP_goes_s]
  unfold LB_X8_goes_40 LB_X8_goes_94 LB_X8_goes_98
  have i27 : I1 0 27 = nI mo := (e2.2 (0, 27) (by decide)).trans n2
  have i29 : I1 0 29 = nI hr := (e2.2 (0, 29) (by decide)).trans n8
  have i4 : I1 4 mo = nI (fr mo) := by rw [e2.1 4 (by decide)]; exact f2
  rw [hR.2.1, if_neg (nI_ge hi (by omega)), e1, bo2_s, e3.1 12 (by omega), e3.1 5 (by omega), i27, i29, inbI n3 (by omega), chk_t, nI_clamp (by omega), i4]
  unfold goR stp
  by_cases a : T i 12 = 1
  · rw [if_pos (by rw [a]; rfl), decide_eq_true a]
    unfold quiet
    by_cases b : sf ≤ hr ∧ hr < st
    · rw [if_pos b, if_neg (by decide), decide_eq_true b.1, decide_eq_true b.2]; rfl
    · have b' : (decide (sf ≤ hr) && decide (hr < st)) = false := by
        rw [Bool.and_eq_false_iff, decide_eq_false_iff_not, decide_eq_false_iff_not]
        by_cases z : sf ≤ hr
        · exact Or.inr (fun z2 => b ⟨z, z2⟩)
        · exact Or.inl z
      rw [if_neg b, if_pos rfl, b']
      by_cases c : T i 5 ≤ 2
      · rw [if_neg (show ¬ (2 : Int32) < nI (T i 5) from nI_nlt (b := T i 5) (a := 2) c (by omega)), decide_eq_true c]
        by_cases d : hr < fr mo
        · rw [if_pos (nI_lt d (by omega)), decide_eq_true d]; rfl
        · rw [if_neg (nI_nlt (by omega) (by omega)), decide_eq_false d]; rfl
      · rw [if_pos (show (2 : Int32) < nI (T i 5) from nI_lt (a := 2) (by omega) (by omega)), decide_eq_false c]
        simp
  · rw [if_neg (show ¬ nI (T i 12) = (1 : Int32) from fun z => a ((nI_eq (b := 1) (by omega) (by omega)).mp z)), decide_eq_false a]; rfl
