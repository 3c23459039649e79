/-! hours -/
def VI (I : MI) (hM : Nat) : MI := w2 I 24 1 (nI hM)
def VJ (J : MJ) (ov : Nat) : MJ := w2J J 24 4 (J 24 4 + lN ov)
theorem VI_n {I : MI} {hM c : Nat} (h : c ≠ 24) : VI I hM c = I c := w2n h
theorem w2_cg {I I' : MI} {c k c' : Nat} {x : Int32} (h : I' c' = I c') : w2 I' c k x c' = w2 I c k x c' := by
  unfold w2
  by_cases e : c' = c
  · subst e; simp [h]
  · simp [e, h]
theorem VI_st {I I' : MI} {c : Nat} {T : Nat → Nat} {hM : Nat} (hc : c ≠ 24) (s : ST c T I I') : ST c T (VI I hM) (VI I' hM) := by
  refine ⟨fun c' h => w2_cg (s.1 c' h), ?_⟩
  rw [VI_n hc]; exact s.2
theorem m99_0 (kk : K5) {I : MI} {J : MJ} (x x2 : Int32) (i : Nat) : LB_X8_goes_99 kk I J x x2 (nI i) 0 = kk I J x x2 (nI (i + 1)) := by
  unfold LB_X8_goes_99 LB_X8_goes_115
  simp only [bnd_d]
  rw [if_pos trivial, if_pos trivial, show nI i + (1 : Int32) = nI (i + 1) from nI_1 i]
theorem m99_1 (kk : K5) {I : MI} {J : MJ} {T : Nat → Nat} (hT : TV (I 2) T) {xs : Nat} (hx : xs ≤ 1000000) (x2 : Int32) (i : Nat) : ∃ (I' : MI) (J' : MJ), SM I I' ∧ SJ J J' ∧ LB_X8_goes_99 kk I J (nI xs) x2 (nI i) 1 = if upT T + waT T ≤ xs then LB_X8_goes_154 kk I' J' (nI (xs - (upT T + waT T))) x2 (nI i) (nI (upT T)) (if (bt T).1 = true then 0 else 1) else kk I' J' (nI xs) x2 (nI (i + 1)) := by
  have hu := up_bd hT.2
  have hw := wa_bd hT.2
  obtain ⟨I1, J1, e1, s1, t1, -⟩ := hourM_ok (J := J) hT (w := 3) (by omega)
  have hT1 : TV (I1 2) T := by rw [s1.1 2 (by decide)]; exact hT
  obtain ⟨I2, J2, e2, s2, t2, r2⟩ := hourM_ok (J := J1) hT1 (w := 2) (by omega)
  have hb := bt_bd hT.2
  change f_X8_hourOf I J 3 = some (nI (waT T + upT T), I1, J1) at e1
  change f_X8_hourOf I1 J1 2 = some (nI (upT T), I2, J2) at e2
  unfold LB_X8_goes_99 LB_X8_goes_115
  simp only [bnd_d]
  rw [if_neg (by decide), e1, bo3_s, if_neg (by decide), show nI i + (1 : Int32) = nI (i + 1) from nI_1 i]
  by_cases e : upT T + waT T ≤ xs
  · refine ⟨I2, J2, s1.tr s2, t1.tr t2, ?_⟩
    rw [if_neg (nI_nlt (by omega) (by omega)), if_pos e, e2, bo3_s, pk_sub (by omega), Nat.add_comm (waT T)]
    unfold RMd at r2
    cases hs : (bt T).1
    · rw [hs] at r2
      simp only [Bool.false_eq_true, ↓reduceIte] at r2 ⊢
      rw [r2.1, if_neg (n9 (by omega))]
    · rw [hs] at r2
      simp only [↓reduceIte] at r2 ⊢
      rw [r2, if_pos rfl]
  · refine ⟨I1, J1, s1, t1, ?_⟩
    rw [if_pos (nI_lt (by omega) (by omega)), if_neg e]
theorem spill_ok {IB : MI} {JB : MJ} {rm hM ov : Nat} (h0 : IB 24 0 = nI rm) (h1 : IB 24 1 = nI (hM + ov)) (hr : rm ≤ 1000000) (hh : hM ≤ rm) (ho : hM + ov ≤ 6000000) (hc : ov = 0 ∨ hM = rm) : f_X5_spillOver IB JB = some (VI IB hM, VJ JB ov) := by
  unfold f_X5_spillOver
  simp only [bnd_d]
  rw [h0, h1, imax_sub (by omega) (by omega), show hM + ov - rm = ov by omega, pk_sub (by omega), nI_l (by omega), show hM + ov - ov = hM by omega]
  rfl
theorem run_loop {sp fr : Nat → Nat} {sf st mo dy hr rm : Nat} : ∀ (k m m' i xs n : Nat) (T : Nat → Nat → Nat) (hM ov : Nat) (IB : MI) (JB : MJ) (IM : MI) (JM : MJ), i + k = n → k < m → k < m' → xs ≤ 1000000 → hM + ov ≤ 1000000 * (i + 1) → REL (VI IB hM) (VJ JB ov) IM JM → RR n T IB IM → RS sp fr sf st IB IM → RN mo dy hr IB IM → RK rm hM (VI IB hM) IM (VJ JB ov) JM → IB 24 1 = nI (hM + ov) → (ov = 0 ∨ hM = rm) → ∃ (IB' : MI) (JB' : MJ) (IM' : MI) (JM' : MJ), LP_X7_runRams_15 m IB JB (nI xs) (nI i) = some (IB', JB') ∧ LP_X8_goes_40 m' IM JM (nI xs) (quiet sf st hr) (nI i) = LP_X8_goes_322 FU IM' JM' 0 0 ∧ REL IB' JB' IM' JM' ∧ JB' 24 6 = JB 24 6 := by
  intro k
  induction k with
  | zero =>
    intro m m' i xs n T hM ov IB JB IM JM hi hm hm' hx ho h hR hS hN hK h1 hc
    obtain ⟨m, rfl⟩ : ∃ q, m = q + 1 := ⟨m - 1, by omega⟩
    obtain ⟨m', rfl⟩ : ∃ q, m' = q + 1 := ⟨m' - 1, by omega⟩
    have hn := hR.2.2.1
    have k0 : IB 24 0 = nI rm := by have := hK.1; unfold VI at this; rw [w2j (by decide)] at this; exact this
    rw [LP_run_s, LP_goes_s]
    unfold LB_X7_runRams_15 LB_X8_goes_40
    rw [hR.1, if_pos (nI_le (by omega) (by omega)), hR.2.1, if_pos (nI_le (by omega) (by omega)), spill_ok k0 h1 hK.2.2.2.1 hK.2.2.2.2.2.2.1 (by omega) hc, bo2_s]
    exact ⟨_, _, _, _, rfl, rfl, h, by unfold VJ; rw [w2Jj (by decide)]⟩
  | succ k ih =>
    intro m m' i xs n T hM ov IB JB IM JM hi hm hm' hx ho h hR hS hN hK h1 hc
    obtain ⟨m, rfl⟩ : ∃ q, m = q + 1 := ⟨m - 1, by omega⟩
    obtain ⟨m', rfl⟩ : ∃ q, m' = q + 1 := ⟨m' - 1, by omega⟩
    have hn := hR.2.2.1
    have hin : i < n := by omega
    obtain ⟨I1, a1, a2, a3⟩ := mod_flag (JM := JM) hR hS hN hin m' (nI xs)
    rw [a3]
    cases hg : goR fr sf st mo hr (T i)
    · rw [if_neg (by decide), m99_0, cls_no hR hS hN hin hg]
      exact ih m m' (i + 1) xs n T hM ov IB JB I1 JM (by omega) (by omega) (by omega) hx (by omega) (h.keep (AG.rf _) a1 (AJ.rf _) (AJ.rf _)) (hR.cg (AG.rf _) a1.R) (hS.cg (AG.rf _) a1.S) (hN.cg (AG.rf _) a1.N) (hK.cg (AG.rf _) a1.K (AJ.rf _) (AJ.rf _)) h1 hc
    · rw [if_pos rfl]
      obtain ⟨I2, J2, s2, t2, b2⟩ := m99_1 (LP_X8_goes_40 m') (J := JM) a2 hx (quiet sf st hr) i
      have a12 : mA IM I2 := AG.tr a1 (mA_SM s2)
      have hT2 : TV (I2 2) (T i) := by rw [s2.1 2 (by decide)]; exact a2
      obtain ⟨I3, s3, b3⟩ := cls_go (JB := JB) hR hS hN hin hg hx m
      have vR : RR n T (VI IB hM) IM := hR.cg (AG.one (c := 24) (fun c' hc' => VI_n hc') (by decide) (by decide)) (AG.rf _)
      have vs : ST (2 + 2 * i) (T i) (VI IB hM) (VI I3 hM) := VI_st (by omega) s3
      have h3 : REL (VI I3 hM) (VJ JB ov) I2 J2 := (h.st vR hin vs).keep (AG.rf _) a12 (AJ.rf _) (mJA_SJ t2)
      have fr3 : ∀ c', c' ≠ 2 + 2 * i → c' ≠ 2 + 2 * i + 1 → I3 c' = IB c' := fun c' q _ => s3.1 c' q
      have hR3 : RR n T I3 I2 := (hR.st hin s3).cg (AG.rf _) a12.R
      have hS3 : RS sp fr sf st I3 I2 := hS.cg (AG.ram (i := i) (by omega) fr3 (by decide) (by decide)) a12.S
      have hN3 : RN mo dy hr I3 I2 := hN.cg (AG.ram (i := i) (by omega) fr3 (by decide) (by decide)) a12.N
      have hK3 : RK rm hM (VI I3 hM) I2 (VJ JB ov) J2 := hK.cg (AG.ram (i := i) (by omega) (fun c' q _ => vs.1 c' q) (by decide) (by decide)) a12.K (AJ.rf _) (AJ.sub (mJA_SJ t2) (by decide) (by decide))
      have g1 : I3 24 1 = nI (hM + ov) := by rw [s3.1 24 (by omega)]; exact h1
      rw [b2, b3]
      by_cases e : upT (T i) + waT (T i) ≤ xs
      · rw [if_pos e, if_pos e]
        obtain ⟨k1, k2, k3, k4, k5, k6, k7, k8, k9, k10, k11, k12, k13⟩ := hK3
        obtain ⟨I4, J4, c1, c2, c3, c4, c5, c6, c7, c8, c9⟩ := m154 (LP_X8_goes_40 m') (J := J2) hT2 (i := i) (up := upT (T i)) (by omega) k2 k6 k4 k7 (by omega) (nI (xs - (upT (T i) + waT (T i)))) (quiet sf st hr) (bt (T i)).1
        rw [c1]
        unfold f_X5_receive
        simp only [bnd_d, bo2_s]
        rw [g1, nI_add]
        generalize hI5 : w2 I3 24 1 (nI (hM + ov + upT (T i))) = I5
        generalize hJ5 : w2J (w2J JB 24 2 (JB 24 2 + (nI (upT (T i))).toInt64)) 24 3 (w2J JB 24 2 (JB 24 2 + (nI (upT (T i))).toInt64) 24 3 + (nI (waT (T i))).toInt64) = J5
        have f5 : ∀ c', c' ≠ 24 → I5 c' = I3 c' := fun c' q => by rw [← hI5]; exact w2n q
        have hr5 : TV (I5 (2 + 2 * i + 1)) (T i) ∧ CK (I5 (2 + 2 * i)) (T i) := by
          rw [f5 _ (by omega), f5 _ (by omega)]
          exact ⟨(hR3.2.2.2.1 i hin).1, (hR3.2.2.2.1 i hin).2.2⟩
        obtain ⟨I6, d1, d2, d3, d4⟩ := loseAir_ok (J := J5) hr5.1 hr5.2
        rw [d1, bo2_s]
        have jd : ∀ k, k ≠ 2 → k ≠ 3 → J5 24 k = JB 24 k := fun k q1 q2 => by rw [← hJ5, w2Jj q2, w2Jj q1]
        have jn : ∀ c', c' ≠ 24 → J5 c' = JB c' := fun c' q => by rw [← hJ5, w2Jn q, w2Jn q]
        have j2 : J5 24 2 = JB 24 2 + (nI (upT (T i))).toInt64 := by rw [← hJ5, w2Jj (by decide), w2Jk]
        have j3 : J5 24 3 = JB 24 3 + (nI (waT (T i))).toInt64 := by rw [← hJ5, w2Jk, w2Jj (by decide)]
        have vk : ∀ k, k ≠ 4 → ∀ (J : MJ) (o : Nat), VJ J o 24 k = J 24 k := fun k q J o => by unfold VJ; rw [w2Jj q]
        have v4 : ∀ (J : MJ) (o : Nat), VJ J o 24 4 = J 24 4 + lN o := fun J o => by unfold VJ; rw [w2Jk]
        have vn : ∀ (J : MJ) (o c' : Nat), c' ≠ 24 → VJ J o c' = J c' := fun J o c' q => by unfold VJ; rw [w2Jn q]
        have K5 : RK rm (min (hM + upT (T i)) rm) (VI I5 (min (hM + upT (T i)) rm)) I4 (VJ J5 (ov + (hM + upT (T i) - rm))) J4 := by
          refine ⟨?_, c3, k3, k4, by unfold VI; rw [w2k], c4, Nat.min_le_right _ _, ?_, ?_, ?_, ?_, ?_, fun f hf => ?_⟩
          · unfold VI at k1 ⊢
            rw [w2j (by decide)] at k1 ⊢
            rw [← hI5, w2j (by decide)]; exact k1
          · rw [vk 2 (by decide)] at k8 ⊢
            rw [j2, c5, k8]
          · rw [vk 3 (by decide)] at k9 ⊢
            rw [j3, c6, k9]
          · rw [v4] at k10 ⊢
            rw [jd 4 (by decide) (by decide), c7, ← k10, ← lN_add, Int64.add_assoc]
          · rw [vk 5 (by decide)] at k11 ⊢
            rw [jd 5 (by decide) (by decide), c8 3 (by omega), k11]
          · rw [vk 6 (by decide)] at k12 ⊢
            rw [jd 6 (by decide) (by decide), c8 4 (by omega), k12]
          · have := k13 f hf
            rw [vn _ _ _ (by decide)] at this ⊢
            rw [jn 25 (by decide), c8 (6 + f) (by omega), this]
        have H5 : REL (VI I5 (min (hM + upT (T i)) rm)) (VJ J5 (ov + (hM + upT (T i) - rm))) I4 J4 := h3.setK (AG.one (c := 24) (fun c' q => by rw [VI_n q, VI_n q, f5 c' q]) (by decide) (by decide)) c2 (by rw [vn _ _ _ (by decide), vn _ _ _ (by decide), jn 0 (by decide)]) c9 ⟨_, _, K5⟩
        generalize hI7 : (if (bt (T i)).1 = true then I4 else w2 I4 1 (13 * i + 6) (nI (aT (T i)))) = I7
        have m7 : ∀ c', c' ≠ 1 → I7 c' = I4 c' := fun c' q => by
          rw [← hI7]
          split
          · rfl
          · exact w2n q
        have hR5 : RR n T I5 I4 := hR3.cg (AG.one (c := 24) (fun c' q => f5 c' q) (by decide) (by decide)) ⟨fun c hc' => c2.1 c (by revert c; decide), fun p hp => c2.2 p (by revert p; decide)⟩
        have upd : ∀ V6 V5 : MI, (∀ c', c' ≠ 24 → V6 c' = I6 c') → (∀ c', c' ≠ 24 → V5 c' = I5 c') → RR n T V5 I4 → RR n (uT T i (lT (T i))) V6 I7 := by
          intro V6 V5 q6 q5 qR
          refine qR.upd hin (by rw [q6 0 (by decide), q5 0 (by decide), d2 0 (by omega) (by omega)]) (fun c w1 w2' w3 w4 => by rw [q6 c (by omega), q5 c (by omega)]; exact d2 c w3 w4) (by rw [q6 _ (by omega)]; exact d3) (by rw [q6 _ (by omega)]; exact d4) (by rw [m7 0 (by decide)]) (fun q hq => ?_) (fun j hj => ?_)
          · rw [← hI7]
            split
            · rfl
            · exact w2j (by omega)
          · have hj4 := (qR.2.2.2.1 i hin).2.1 j hj
            rw [← hI7]
            unfold lT
            cases hs : (bt (T i)).1
            · simp only [Bool.false_eq_true, ↓reduceIte]
              rw [w2c]
              unfold un
              by_cases q : j = 6
              · rw [if_pos (by omega), if_pos q]
              · rw [if_neg (by omega), if_neg q]; exact hj4
            · simp only [↓reduceIte]
              exact hj4
        have ag7 : ∀ {cs : List Nat} {fs : List (Nat × Nat)}, 1 ∉ cs → (∀ p ∈ fs, p.1 ≠ 1) → AG cs fs I4 I7 := fun a b => AG.one m7 a b
        have v6 : ∀ c', c' ≠ 2 + 2 * i → c' ≠ 2 + 2 * i + 1 → VI I6 (min (hM + upT (T i)) rm) c' = VI I5 (min (hM + upT (T i)) rm) c' := fun c' q1 q2 => w2_cg (d2 c' q1 q2)
        have vR5 : RR n T (VI I5 (min (hM + upT (T i)) rm)) I4 := hR5.cg (AG.one (c := 24) (fun c' hc' => VI_n hc') (by decide) (by decide)) (AG.rf _)
        have H6 : REL (VI I6 (min (hM + upT (T i)) rm)) (VJ J5 (ov + (hM + upT (T i) - rm))) I7 J4 := H5.setR (AG.ram (i := i) (by omega) v6 (by decide) (by decide)) (ag7 (by decide) (by decide)) (AJ.rf _) (AJ.rf _) ⟨n, _, upd _ _ (fun c' q => VI_n q) (fun c' q => VI_n q) vR5⟩
        have d2' : ∀ c', c' ≠ 24 → c' ≠ 2 + 2 * i → c' ≠ 2 + 2 * i + 1 → I6 c' = I3 c' := fun c' q q1 q2 => (d2 c' q1 q2).trans (f5 c' q)
        have hS6 : RS sp fr sf st I6 I7 := (hS3.cg (AG.one (c := 24) f5 (by decide) (by decide)) ⟨fun c hc' => c2.1 c (by revert c; decide), fun p hp => c2.2 p (by revert p; decide)⟩).cg (AG.ram (i := i) (by omega) d2 (by decide) (by decide)) (ag7 (by decide) (by decide))
        have hN6 : RN mo dy hr I6 I7 := (hN3.cg (AG.one (c := 24) f5 (by decide) (by decide)) ⟨fun c hc' => c2.1 c (by revert c; decide), fun p hp => c2.2 p (by revert p; decide)⟩).cg (AG.ram (i := i) (by omega) d2 (by decide) (by decide)) (ag7 (by decide) (by decide))
        have hK6 := K5.cg (AG.ram (i := i) (by omega) v6 (by decide) (by decide)) (ag7 (by decide) (by decide)) (AJ.rf _) (AJ.rf _)
        obtain ⟨I8, J8, I9, J9, g5, g6, g7, g8⟩ := ih m m' (i + 1) (xs - (upT (T i) + waT (T i))) n _ (min (hM + upT (T i)) rm) (ov + (hM + upT (T i) - rm)) I6 J5 I7 J4 (by omega) (by omega) (by omega) (by omega) (by omega) H6 (upd _ _ (fun c' q => rfl) (fun c' q => rfl) hR5) hS6 hN6 hK6 (by rw [d2 24 (by omega) (by omega), ← hI5, w2k]; congr 1; omega) (by omega)
        exact ⟨I8, J8, I9, J9, g5, g6, g7, g8.trans (jd 6 (by decide) (by decide))⟩
      · rw [if_neg e, if_neg e]
        exact ih m m' (i + 1) xs n T hM ov I3 JB I2 J2 (by omega) (by omega) (by omega) hx (by omega) h3 hR3 hS3 hN3 hK3 g1 hc
/-! the farms are served; the next hour -/
theorem next_ok {IB : MI} {JB : MJ} {IM : MI} {JM : MJ} (h : REL IB JB IM JM) (x : Int32) : ∃ (I' : MI) (I'' : MI), f_X7_goToNextHour IB JB = some (I', JB) ∧ (if w2 IM 0 29 (IM 0 29 + 1) 0 29 = (24 : Int32) then LB_X8_goes_465 (w2 (w2 (w2 IM 0 29 (IM 0 29 + 1)) 0 29 0) 0 28 (w2 (w2 IM 0 29 (IM 0 29 + 1)) 0 29 0 0 28 + 1)) JM x else LB_X8_goes_465 (w2 IM 0 29 (IM 0 29 + 1)) JM x) = some (x, I'', JM) ∧ REL I' JB I'' JM := by
  obtain ⟨mo, dy, hr, n1, n2, n3, n4, n5, n6, n7, n8, n9'⟩ := h.2.2.2.2.2.2.1
  have fin : ∀ (IB' IM' : MI) (mo' dy' hr' : Nat), (∀ c', c' ≠ 0 → IB' c' = IB c') → (∀ k, k ≠ 9 → k ≠ 10 → k ≠ 11 → IB' 0 k = IB 0 k) → (∀ c', c' ≠ 0 → IM' c' = IM c') → (∀ k, k ≠ 27 → k ≠ 28 → k ≠ 29 → IM' 0 k = IM 0 k) → RN mo' dy' hr' IB' IM' → REL IB' JB IM' JM := by
    intro IB' IM' mo' dy' hr' b0 b1 m0 m1 hN
    refine h.setN ⟨fun c hc => b0 c (by revert c; decide), fun p hp => ?_⟩ ⟨fun c hc => m0 c (by revert c; decide), fun p hp => ?_⟩ (AJ.rf _) (AJ.rf _) ⟨_, _, _, hN⟩
    · by_cases e : p.1 = 0
      · have : ∀ p ∈ ([(0, 1), (12, 2), (12, 3), (15, 2), (18, 0), (18, 7), (18, 14), (18, 21), (19, 0), (19, 7), (19, 14), (19, 21), (24, 0), (24, 1), (20, 1), (20, 2), (26, 3), (26, 4), (26, 5)] : List (Nat × Nat)), p.1 = 0 → p.2 ≠ 9 ∧ p.2 ≠ 10 ∧ p.2 ≠ 11 := by decide
        have := this p hp e
        rw [e]; exact b1 p.2 this.1 this.2.1 this.2.2
      · rw [b0 p.1 e]
    · by_cases e : p.1 = 0
      · have : ∀ p ∈ ([(0, 2), (0, 12), (0, 13), (0, 14), (0, 17), (0, 18), (0, 20), (0, 21), (0, 31), (0, 35), (0, 36)] : List (Nat × Nat)), p.1 = 0 → p.2 ≠ 27 ∧ p.2 ≠ 28 ∧ p.2 ≠ 29 := by decide
        have := this p hp e
        rw [e]; exact m1 p.2 this.1 this.2.1 this.2.2
      · rw [m0 p.1 e]
  unfold f_X7_goToNextHour
  simp only [bnd_d]
  simp only [w2k]
  rw [n7, n8, show nI hr + (1 : Int32) = nI (hr + 1) from nI_1 hr]
  by_cases a : hr = 23
  · subst a
    rw [if_pos (show nI (23 + 1) = (24 : Int32) from rfl), if_pos (show nI (23 + 1) = (24 : Int32) from rfl)]
    unfold LB_X7_goToNextHour_34 LB_X8_goes_465
    simp only [bnd_d]
    rw [w2k, w2k, w2j (show 10 ≠ 11 by decide), w2j (show 10 ≠ 11 by decide), w2j (show 28 ≠ 29 by decide), w2j (show 28 ≠ 29 by decide), n4, n5, show nI dy + (1 : Int32) = nI (dy + 1) from nI_1 dy]
    by_cases b : dy = 29
    · subst b
      rw [if_pos (show nI (29 + 1) = (30 : Int32) from rfl), if_pos (show nI (29 + 1) = (30 : Int32) from rfl)]
      refine ⟨_, _, rfl, rfl, fin _ _ ((mo + 1) % 12) 0 0 ?_ ?_ ?_ ?_ ?_⟩
      · intro c' q; rw [w2n q, w2n q, w2n q, w2n q, w2n q]
      · intro k q1 q2 q3; rw [w2j q1, w2j q2, w2j q2, w2j q3, w2j q3]
      · intro c' q; rw [w2n q, w2n q, w2n q, w2n q, w2n q]
      · intro k q1 q2 q3; rw [w2j q1, w2j q2, w2j q2, w2j q3, w2j q3]
      · have e1 : ∀ x : Int32, x = nI mo → x + 1 - (x + 1) / 12 * 12 = nI ((mo + 1) % 12) := by
          intro x hx
          rw [hx, show nI mo + (1 : Int32) = nI (mo + 1) from nI_1 mo, show (12 : Int32) = nI 12 from rfl, pk_div (by omega) (by omega) (by omega), pk_mul, pk_sub (by omega)]
          congr 1
          omega
        refine ⟨?_, ?_, by omega, ?_, ?_, by omega, ?_, ?_, by omega⟩
        · rw [w2k]; exact e1 _ (by rw [w2j (by decide), w2j (by decide), w2j (by decide), w2j (by decide)]; exact n1)
        · rw [w2k]; exact e1 _ (by rw [w2j (by decide), w2j (by decide), w2j (by decide), w2j (by decide)]; exact n2)
        · rw [w2j (by decide), w2k]; rfl
        · rw [w2j (by decide), w2k]; rfl
        · rw [w2j (by decide), w2j (by decide), w2j (by decide), w2k]; rfl
        · rw [w2j (by decide), w2j (by decide), w2j (by decide), w2k]; rfl
    · have e30 : ¬ nI (dy + 1) = (30 : Int32) := fun z => by have := (nI_eq (b := 30) (by omega) (by omega)).mp z; omega
      rw [if_neg e30, if_neg e30]
      refine ⟨_, _, rfl, rfl, fin _ _ mo (dy + 1) 0 ?_ ?_ ?_ ?_ ?_⟩
      · intro c' q; rw [w2n q, w2n q, w2n q]
      · intro k q1 q2 q3; rw [w2j q2, w2j q3, w2j q3]
      · intro c' q; rw [w2n q, w2n q, w2n q]
      · intro k q1 q2 q3; rw [w2j q2, w2j q3, w2j q3]
      · refine ⟨?_, ?_, n3, ?_, ?_, by omega, ?_, ?_, by omega⟩
        · rw [w2j (by decide), w2j (by decide), w2j (by decide)]; exact n1
        · rw [w2j (by decide), w2j (by decide), w2j (by decide)]; exact n2
        · rw [w2k]
        · rw [w2k]
        · rw [w2j (by decide), w2k]; rfl
        · rw [w2j (by decide), w2k]; rfl
  · have e24 : ¬ nI (hr + 1) = (24 : Int32) := fun z => by have := (nI_eq (b := 24) (by omega) (by omega)).mp z; omega
    rw [if_neg e24, if_neg e24]
    unfold LB_X7_goToNextHour_34 LB_X8_goes_465
    have e30 : ¬ nI dy = (30 : Int32) := fun z => by have := (nI_eq (b := 30) (by omega) (by omega)).mp z; omega
    rw [w2j (show 10 ≠ 11 by decide), w2j (show 28 ≠ 29 by decide), n4, n5, if_neg e30, if_neg e30]
    refine ⟨_, _, rfl, rfl, fin _ _ mo dy (hr + 1) ?_ ?_ ?_ ?_ ?_⟩
    · intro c' q; rw [w2n q]
    · intro k q1 q2 q3; rw [w2j q3]
    · intro c' q; rw [w2n q]
    · intro k q1 q2 q3; rw [w2j q3]
    · refine ⟨?_, ?_, n3, ?_, ?_, n6, ?_, ?_, by omega⟩
      · rw [w2j (by decide)]; exact n1
      · rw [w2j (by decide)]; exact n2
      · rw [w2j (by decide)]; exact n4
      · rw [w2j (by decide)]; exact n5
      · rw [w2k]
      · rw [w2k]
