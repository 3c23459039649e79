/-! set, ram, work, beat, hourly -/
theorem trait_ok {c j : Nat} {I : MI} {J : MJ} (hj : j < 13) {x : Int32} (hx : x = nI j) : f_X1_trait c I J x = some (I (c + 1) j) := by
  subst hx
  unfold f_X1_trait
  rcases win (nI j) (x := 0) (y := 12) (lo := 0) (hi := 12) rfl rfl (by omega) (by omega) with ⟨-, -, -, -, e⟩ | e
  · rw [e]
    simp only [bo1_s, one0, ↓reduceIte, inbI hj (by omega), chk_t, nI_clamp (show j < 2 ^ 31 by omega)]
  · exact absurd rfl (win_not (lo := 0) (hi := 12) rfl rfl (by omega) (by omega) e (by omega) (show j ≤ 12 by omega))
theorem TO.set {T : Nat → Nat} {j v : Nat} (h : TO T) (hj : j < 13) (ok : okV T j v) : TO (un T j v) := by
  obtain ⟨o1, o2, o3, o4⟩ := ok
  unfold TO at h
  unfold TO un
  rcases (show j = 0 ∨ j = 1 ∨ j = 2 ∨ j = 3 ∨ j = 4 ∨ j = 5 ∨ j = 6 ∨ j = 7 ∨ j = 8 ∨ j = 9 ∨ j = 10 ∨ j = 11 ∨ j = 12 by omega) with rfl | rfl | rfl | rfl | rfl | rfl | rfl | rfl | rfl | rfl | rfl | rfl | rfl <;> simp only [tlo, thi, List.getD_cons_zero, List.getD_cons_succ] at o1 o2 <;> simp <;> omega
theorem thi_bd {j v : Nat} (hj : j < 13) (h : v ≤ thi j) : v ≤ 1000 := by have := (s_lo j hj).2.2.2; omega
set_option maxHeartbeats 1000000 in
theorem s_set {IB : MI} {JB : MJ} {IM : MI} {JM : MJ} (h : REL IB JB IM JM) (a1 a2 a3 : Int32) : SW (f_X7_set IB JB a1 a2 a3) (f_X8_set IM JM a1 a2 a3) := by
  have h0 := thr h
  unfold f_X7_set f_X8_set
  simp only [bnd, in_wi]
  generalize w2 IM 0 0 0 = IM at h0 ⊢
  obtain ⟨n, T, hr⟩ := h0.1
  obtain ⟨r1, r2, r3, r4, r5⟩ := id hr
  rw [isRam_m r1 r2 (J := JB) a1]
  rcases isRam_c (J := JB) r1 r3 a1 with ⟨i, hi, rfl, er⟩ | e
  · rw [er]
    simp only [bo1_s, one0, ↓reduceIte]
    rcases win a2 (x := 0) (y := 12) (lo := 0) (hi := 12) rfl rfl (by omega) (by omega) with ⟨j, -, hj, rfl, e⟩ | e
    · rw [e]
      simp only [bo1_s, one0, ↓reduceIte]
      obtain ⟨ri, rm, rk⟩ := r4 i hi
      have hb := ri.2
      have hT1 := hb.bd 1 (by omega)
      have hT0 := hb.bd 0 (by omega)
      have c4 : rc (nI i) = 2 + 2 * i := rc_nI (by omega)
      rw [inbI (show i < 4 by omega) (by omega), chk_t, c4]
      rcases canBe (j := j) (by omega) rfl a3 with ⟨v, v1, v2, rfl, e2⟩ | ⟨e2, v3⟩
      · have hv := thi_bd (by omega) v2
        rw [e2]
        simp only [bo1_s, one0, ↓reduceIte]
        have fin : okV (T i) j v → (bo1 (f_X1_trait (2 + 2 * i) IB JB (nI j)) fun r2 => bo2 (f_X1_put (2 + 2 * i) IB JB (nI j) (nI v)) fun I4 J5 => some (r2, I4, J5)) = f_X7_set IB JB (nI i) (nI j) (nI v) → SW (f_X7_set IB JB (nI i) (nI j) (nI v)) (bo1 (some (1 : Int32)) fun r7 => if r7 = 0 then some (-1, IM, JM) else chk (inb (13 * nI i + nI j) 52) (chk (inb (13 * nI i + nI j) 52) (some (IM 1 (13 * nI i + nI j).toNatClampNeg, w2 IM 1 (13 * nI i + nI j).toNatClampNeg (nI v), JM)))) := by
          intro ok e9
          rw [← e9]
          obtain ⟨I', p1, p2, p3, p4⟩ := put_ok (c := 2 + 2 * i) (j := j) (v := v) (I := IB) (J := JB) (T := T i) (by omega) (by omega) ri.1 (by have := hb.bd j (by omega); omega) rk
          rw [trait_ok (by omega) rfl, bo1_s, p1, bo2_s, bo1_s]
          simp only [one0, ↓reduceIte]
          rw [show (13 : Int32) = nI 13 from rfl, pk_mul, nI_add, inbI (by omega) (by omega), chk_t, chk_t, nI_clamp (by omega)]
          refine SW.ret ((ri.1 j (by omega)).trans (rm j (by omega)).symm) (h0.setR (AG.ram (i := i) (by omega) p2 (by decide) (by decide)) (ag_wc (by decide) (by decide)) (AJ.rf _) (AJ.rf _) ⟨n, uT T i (un (T i) j v), hr.upd hi ?_ ?_ ⟨p3, hb.set (by omega) ok⟩ p4 ?_ ?_ ?_⟩)
          · rw [p2 0 (by omega) (by omega)]
          · intro c h1 h2 h3 h4; exact p2 c h3 h4
          · rw [w2n (by decide)]
          · intro q hq; rw [w2j (by omega)]
          · intro q hq
            rw [w2c]
            unfold un
            by_cases e : q = j
            · rw [if_pos (by omega), if_pos e]
            · rw [if_neg (by omega), if_neg e]; exact rm q hq
        have e9 : f_X7_set IB JB (nI i) (nI j) (nI v) = (if nI j = 0 then bo1 (f_X1_trait (2 + 2 * i) IB JB 1) fun r7 => if r7 ≤ nI v then some (-1, IB, JB) else LB_X7_set_40 IB JB (nI j) (nI v) (2 + 2 * i) else LB_X7_set_40 IB JB (nI j) (nI v) (2 + 2 * i)) := by
          unfold f_X7_set
          rw [er, e2, bo1_s, bo1_s]
          simp only [one0, ↓reduceIte]
          rw [inbI (show i < 4 by omega) (by omega), chk_t, c4]
        rw [← e9]
        rcases isValue_ok (JM := JM) hr hi (show j < 13 by omega) (nI v) with ⟨w, ok, ew, e3⟩ | ⟨e3, nk⟩
        · have : v = w := (nI_eq (by omega) (by have := thi_bd (by omega) ok.2.1; omega)).mp ew
          subst this
          rw [e3]
          refine fin ok ?_
          rw [e9]
          by_cases j0 : j = 0
          · subst j0
            have := ok.2.2.1 rfl
            rw [if_pos (show nI 0 = (0 : Int32) from rfl), trait_ok (j := 1) (x := 1) (by omega) rfl, bo1_s, ri.1 1 (by omega), if_neg (nI_ge (by omega) (by omega))]
            unfold LB_X7_set_40
            rw [if_neg (by decide)]
          · rw [if_neg (show ¬ nI j = (0 : Int32) from fun z => j0 ((nI_eq (b := 0) (by omega) (by omega)).mp z))]
            unfold LB_X7_set_40
            by_cases j1 : j = 1
            · subst j1
              have := ok.2.2.2 rfl
              rw [if_pos (show nI 1 = (1 : Int32) from rfl), trait_ok (j := 0) (x := 0) (by omega) rfl, bo1_s, ri.1 0 (by omega), if_pos (nI_lt (by omega) (by omega))]
            · rw [if_neg (show ¬ nI j = (1 : Int32) from fun z => j1 ((nI_eq (b := 1) (by omega) (by omega)).mp z))]
        · rw [e3, e9]
          have hno : (j = 0 ∧ T i 1 ≤ v) ∨ (j = 1 ∧ v ≤ T i 0) := by
            rcases Nat.lt_or_ge 1 j with hj2 | hj2
            · exact absurd rfl (nk v (by omega) ⟨v1, v2, fun z => by omega, fun z => by omega⟩)
            · by_cases q1 : j = 0
              · by_cases q2 : T i 1 ≤ v
                · exact Or.inl ⟨q1, q2⟩
                · exact absurd rfl (nk v (by omega) ⟨v1, v2, fun z => by omega, fun z => by omega⟩)
              · by_cases q2 : v ≤ T i 0
                · exact Or.inr ⟨by omega, q2⟩
                · exact absurd rfl (nk v (by omega) ⟨v1, v2, fun z => by omega, fun z => by omega⟩)
          rcases hno with ⟨rfl, q⟩ | ⟨rfl, q⟩
          · rw [if_pos (show nI 0 = (0 : Int32) from rfl), trait_ok (j := 1) (x := 1) (by omega) rfl, bo1_s, ri.1 1 (by omega), if_pos (nI_le q (by omega))]
            exact SW.same h0
          · rw [if_neg (show ¬ nI 1 = (0 : Int32) by decide)]
            unfold LB_X7_set_40
            rw [if_pos (show nI 1 = (1 : Int32) from rfl), trait_ok (j := 0) (x := 0) (by omega) rfl, bo1_s, ri.1 0 (by omega), if_neg (nI_nlt q (by omega))]
            exact SW.same h0
      · rw [e2]
        rcases isValue_ok (JM := JM) hr hi (show j < 13 by omega) a3 with ⟨w, ok, ew, -⟩ | ⟨e3, -⟩
        · exact absurd ew (v3 w (by have := thi_bd (by omega) ok.2.1; omega) ok.1 ok.2.1)
        · rw [e3]; exact SW.same h0
    · rw [e]
      have : f_X7_canBe a2 a3 = some 0 := by unfold f_X7_canBe; rw [e]; rfl
      rw [this]; exact SW.same h0
  · rw [e]; exact SW.same h0
theorem ram_st {i : Nat} {c : Nat} {T : Nat → Nat → Nat} {IB : MI} : c = 2 + 2 * i → c + 1 = 2 + 2 * i + 1 := fun h => by omega
theorem s_hourly {IB : MI} {JB : MJ} {IM : MI} {JM : MJ} (h : REL IB JB IM JM) (a1 a2 : Int32) : SW (f_X7_hourly IB JB a1 a2) (f_X8_hourly IM JM a1 a2) := by
  have h0 := thr h
  unfold f_X7_hourly f_X8_hourly
  simp only [bnd, in_wi]
  generalize w2 IM 0 0 0 = IM at h0 ⊢
  obtain ⟨n, T, hr⟩ := h0.1
  obtain ⟨r1, r2, r3, r4, r5⟩ := id hr
  rw [isRam_m r1 r2 (J := JB) a1]
  rcases isRam_c (J := JB) r1 r3 a1 with ⟨i, hi, rfl, e⟩ | e
  · rw [e]
    simp only [bo1_s, one0, ↓reduceIte]
    rcases win a2 (x := 0) (y := 3) (lo := 0) (hi := 3) rfl rfl (by omega) (by omega) with ⟨w, -, hw, rfl, e⟩ | e
    · obtain ⟨ri, rm, rk⟩ := r4 i hi
      rw [e]
      simp only [bo1_s, one0, ↓reduceIte]
      rw [inbI (show i < 4 by omega) (by omega), chk_t, rc_nI (by omega)]
      obtain ⟨I1, t1, t2, t3⟩ := takesT (JM := JM) hr hi
      obtain ⟨I2, J2, u1, u2, u3, u4⟩ := hourM_ok (J := JM) t3 hw
      rw [t1, bo2_s, u1, bo3_s]
      have hm : ∀ IB', ST (2 + 2 * i) (T i) IB IB' → REL IB' JB I2 J2 := fun IB' s => (h0.st hr hi s).keep (AG.rf _) (t2.tr (mA_SM u2)) (AJ.rf _) (mJA_SJ u3)
      rcases (show w = 0 ∨ w = 1 ∨ w = 2 ∨ w = 3 by omega) with rfl | rfl | rfl | rfl
      · obtain ⟨I', p1, p2⟩ := beats_ok (J := JB) ri rk
        rw [if_pos (show nI 0 = (0 : Int32) from rfl), p1, bo3_s]; exact SW.same (hm _ p2)
      · obtain ⟨I', p1, p2⟩ := waH_ok (J := JB) ri rk
        rw [if_neg (show ¬ nI 1 = (0 : Int32) by decide), if_pos (show nI 1 = (1 : Int32) from rfl), p1, bo3_s]; exact SW.same (hm _ p2)
      · obtain ⟨I', p1, p2⟩ := upH_ok (J := JB) ri rk
        rw [if_neg (show ¬ nI 2 = (0 : Int32) by decide), if_neg (show ¬ nI 2 = (1 : Int32) by decide), if_pos (show nI 2 = (2 : Int32) from rfl), p1, bo3_s]; exact SW.same (hm _ p2)
      · obtain ⟨I', p1, p2⟩ := drH_ok (J := JB) ri rk
        rw [if_neg (show ¬ nI 3 = (0 : Int32) by decide), if_neg (show ¬ nI 3 = (1 : Int32) by decide), if_neg (show ¬ nI 3 = (2 : Int32) by decide), p1, bo3_s]; exact SW.same (hm _ p2)
    · rw [e]; exact SW.same h0
  · rw [e]; exact SW.same h0
theorem s_beat {IB : MI} {JB : MJ} {IM : MI} {JM : MJ} (h : REL IB JB IM JM) (a1 a2 : Int32) : SW (f_X7_beat IB JB a1 a2) (f_X8_beat IM JM a1 a2) := by
  have h0 := thr h
  unfold f_X7_beat f_X8_beat
  simp only [bnd, in_wi]
  generalize w2 IM 0 0 0 = IM at h0 ⊢
  obtain ⟨n, T, hr⟩ := h0.1
  obtain ⟨r1, r2, r3, r4, r5⟩ := id hr
  rw [isRam_m r1 r2 (J := JB) a1]
  rcases isRam_c (J := JB) r1 r3 a1 with ⟨i, hi, rfl, e⟩ | e
  · rw [e]
    simp only [bo1_s, one0, ↓reduceIte]
    rcases win a2 (x := 0) (y := 4) (lo := 0) (hi := 4) rfl rfl (by omega) (by omega) with ⟨w, -, hw, rfl, e⟩ | e
    · obtain ⟨ri, rm, rk⟩ := r4 i hi
      rw [e]
      simp only [bo1_s, one0, ↓reduceIte]
      rw [inbI (show i < 4 by omega) (by omega), chk_t, rc_nI (by omega)]
      obtain ⟨I1, t1, t2, t3⟩ := takesT (JM := JM) hr hi
      obtain ⟨I2, J2, u1, u2, u3, u4⟩ := beatsM_ok (J := JM) t3
      obtain ⟨I3, p1, p2⟩ := stalls_ok (J := JB) ri rk
      rw [t1, bo2_s, u1, bo3_s, p1, bo3_s]
      have hm : ∀ IB', ST (2 + 2 * i) (T i) IB IB' → REL IB' JB I2 J2 := fun IB' s => (h0.st hr hi s).keep (AG.rf _) (t2.tr (mA_SM u2)) (AJ.rf _) (mJA_SJ u3)
      have ri2 := p2.tv ri
      rcases Bool.eq_false_or_eq_true (bt (T i)).1 with hs | hs
      · simp only [hs, ↓reduceIte, one0]; exact SW.same (hm _ p2)
      · unfold RMd at u4
        rw [hs, if_neg (by decide)] at u4
        obtain ⟨d5, d9, d6, d7, d8⟩ := u4
        simp only [hs, ↓reduceIte, one0, Bool.false_eq_true, d5, d6, d7, d8, d9, lN_i]
        rcases (show w = 0 ∨ w = 1 ∨ w = 2 ∨ w = 3 ∨ w = 4 by omega) with rfl | rfl | rfl | rfl | rfl
        · obtain ⟨I', q1, q2⟩ := shutTick_ok (J := JB) ri2 p2.ck
          rw [if_pos (show nI 0 = (0 : Int32) from rfl), if_pos (show nI 0 = (0 : Int32) from rfl), q1, bo3_s]; exact SW.same (hm _ (p2.tr q2))
        · obtain ⟨I', q1, q2⟩ := shutSpeed_ok (J := JB) ri2 p2.ck
          simp only [show (nI 1 = (0 : Int32)) = False from by decide, show (nI 1 = (1 : Int32)) = True from eq_true rfl, ↓reduceIte]
          rw [q1, bo3_s]; exact SW.same (hm _ (p2.tr q2))
        · obtain ⟨I', q1, q2⟩ := wasteOfBeat_ok (J := JB) ri2 p2.ck
          simp only [show (nI 2 = (0 : Int32)) = False from by decide, show (nI 2 = (1 : Int32)) = False from by decide, show (nI 2 = (2 : Int32)) = True from eq_true rfl, ↓reduceIte]
          rw [q1, bo3_s]; exact SW.same (hm _ (p2.tr q2))
        · obtain ⟨I', q1, q2⟩ := up_ok (J := JB) ri2 p2.ck
          simp only [show (nI 3 = (0 : Int32)) = False from by decide, show (nI 3 = (1 : Int32)) = False from by decide, show (nI 3 = (2 : Int32)) = False from by decide, show (nI 3 = (3 : Int32)) = True from eq_true rfl, ↓reduceIte]
          rw [q1, bo3_s, ubT_R hs]; exact SW.same (hm _ (p2.tr q2))
        · obtain ⟨I', q1, q2⟩ := span_ok (J := JB) hs ri2 p2.ck
          simp only [show (nI 4 = (0 : Int32)) = False from by decide, show (nI 4 = (1 : Int32)) = False from by decide, show (nI 4 = (2 : Int32)) = False from by decide, show (nI 4 = (3 : Int32)) = False from by decide, ↓reduceIte]
          rw [q1, bo3_s]; exact SW.same (hm _ (p2.tr q2))
    · rw [e]; exact SW.same h0
  · rw [e]; exact SW.same h0
theorem s_work {IB : MI} {JB : MJ} {IM : MI} {JM : MJ} (h : REL IB JB IM JM) (a1 a2 : Int32) : SW (f_X7_work IB JB a1 a2) (f_X8_work IM JM a1 a2) := by
  have h0 := thr h
  unfold f_X7_work f_X8_work
  simp only [bnd, in_wi]
  generalize w2 IM 0 0 0 = IM at h0 ⊢
  obtain ⟨n, T, hr⟩ := h0.1
  obtain ⟨r1, r2, r3, r4, r5⟩ := id hr
  rw [isRam_m r1 r2 (J := JB) a2]
  rcases win a1 (x := 0) (y := 2) (lo := 0) (hi := 2) rfl rfl (by omega) (by omega) with ⟨w, -, hw, rfl, e⟩ | e
  · rw [e]
    rcases canBe (j := 10) (by omega) (x := 10) rfl (nI w) with ⟨-, -, -, -, e2⟩ | ⟨-, e2⟩
    · rw [e2]
      simp only [bo1_s, one0, ↓reduceIte]
      rcases isRam_c (J := JB) r1 r3 a2 with ⟨i, hi, rfl, e⟩ | e
      · obtain ⟨ri, rm, rk⟩ := r4 i hi
        rw [e]
        simp only [bo1_s, one0, ↓reduceIte]
        have hg : ∀ (x : Int64) (y : Int64), (sTRC w).toInt64 = x → SW (chk (inb (nI w) 3) (chk (inb (nI i) 4) (bo1 (f_X1_workBy (rc (nI i)) IB (w2J JB 0 12 (JB 0 12 + (sTRC (nI w).toNatClampNeg).toInt64)) (nI w)) fun r9 => some (r9, IB, w2J JB 0 12 (JB 0 12 + (sTRC (nI w).toNatClampNeg).toInt64))))) (bo2 (f_X8_takes IM (w2J JM 0 1 (JM 0 1 + x)) (nI i)) fun I20 J21 => bo1 (f_X8_workOf I20 J21 (nI w)) fun r23 => some (r23, I20, J21)) := by
          intro x y hx
          obtain ⟨I1, t1, t2, t3⟩ := takesT (JM := w2J JM 0 1 (JM 0 1 + x)) hr hi
          rw [inbI (by omega) (by omega), inbI (by omega) (by omega), chk_t, chk_t, rc_nI (by omega), workBy_ok ri hw, bo1_s, t1, bo2_s, workOf_ok t3 hw, bo1_s, nI_clamp (by omega), hx]
          obtain ⟨gR, gS, gT, gK, gD, gQ, gN, gG, gC⟩ := h0.keep (AG.rf _) t2 (AJ.rf _) (AJ.rf _)
          obtain ⟨rm, hd, hk⟩ := gK
          refine SW.same ⟨gR, gS, gT, ⟨rm, hd, hk.cg (AG.rf _) (AG.rf _) (AJ.w2 (by decide) (by decide)) (AJ.w2 (by decide) (by decide))⟩, gD, gQ, gN, gG, ?_⟩
          rw [w2Jk, w2Jk, gC]
        rcases (show w = 0 ∨ w = 1 ∨ w = 2 by omega) with rfl | rfl | rfl
        · rw [if_pos (show nI 0 = (0 : Int32) from rfl)]; exact hg 1 0 (by decide)
        · rw [if_neg (show ¬ nI 1 = (0 : Int32) by decide), if_pos (show nI 1 = (1 : Int32) from rfl)]; exact hg 11 0 (by decide)
        · rw [if_neg (show ¬ nI 2 = (0 : Int32) by decide), if_neg (show ¬ nI 2 = (1 : Int32) by decide)]; exact hg 111 0 (by decide)
      · rw [e]; exact SW.same h0
    · exact absurd rfl (e2 w (by omega) (Nat.zero_le _) hw)
  · rw [e]
    rcases canBe (j := 10) (by omega) (x := 10) rfl a1 with ⟨m, m1, m2, m3, -⟩ | ⟨e2, -⟩
    · exact absurd m3 (win_not (lo := 0) (hi := 2) rfl rfl (by omega) (by omega) e m1 m2)
    · rw [e2]; exact SW.same h0
