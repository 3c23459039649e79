/-! the reference's fitting -/
theorem i_neg {t : Int32} (h : 0 ≤ t.toInt) : (-t).toInt = -t.toInt := by
  rw [Int32.toInt_neg, Int.bmod_eq_of_le (by have := t.toInt_lt; omega) (by have := t.toInt_lt; omega)]
theorem abs_in {d t : Int32} (hd : -2147483648 < d.toInt) (ht : 0 ≤ t.toInt) : f_X7_within d (-t) t = some (if t < iabs d then 0 else 1) := by
  unfold f_X7_within iabs
  have hn := i_neg ht
  by_cases h0 : 0 ≤ d
  · rw [if_pos h0]
    rw [i_le, Int32.toInt_zero] at h0
    rw [if_neg (by rw [i_lt, hn]; omega)]
    split <;> rfl
  · rw [if_neg h0]
    rw [i_le, Int32.toInt_zero] at h0
    have hz : (0 - d).toInt = -d.toInt := by
      rw [Int32.toInt_sub, Int32.toInt_zero, Int.bmod_eq_of_le (by omega) (by have := d.toInt_lt; omega)]; omega
    rw [if_neg (show ¬ t < d by rw [i_lt]; omega)]
    by_cases h1 : t < 0 - d
    · rw [if_pos (show d < -t by rw [i_lt] at h1 ⊢; rw [hn]; omega), if_pos h1]
    · rw [if_neg (show ¬ d < -t by rw [i_lt] at h1 ⊢; rw [hn]; omega), if_neg h1]
theorem rd_diff {x : Int32} {v : Nat} (hx : rdv x) (hv : v ≤ 2000000000) : -2147483648 < (nI v - x).toInt := by
  rcases hx with rfl | ⟨m, hm, rfl⟩
  · have h9 : (-9 : Int32).toInt = -9 := by decide
    rw [Int32.toInt_sub, nI_toInt (by omega), h9, Int.bmod_eq_of_le (by omega) (by omega)]
    omega
  · rw [Int32.toInt_sub, nI_toInt (by omega), nI_toInt (by omega), Int.bmod_eq_of_le (by omega) (by omega)]
    omega
theorem bnd_d {α β : Type} (v : α) (k : α → β) : bnd v k = k v := (rfl : bnd v k = bnd v k).trans rfl
theorem in_wd (a x y : Int32) : f_X8_in a x y = f_X7_within a x y := (rfl : f_X8_in a x y = f_X8_in a x y).trans rfl
theorem LP_isFit_s (n : Nat) (I : MI) (J : MJ) (x1 x4 x5 x6 x7 : Int32) : LP_X8_isFit_104 (n + 1) I J x1 x4 x5 x6 x7 = LB_X8_isFit_104 (LP_X8_isFit_104 n) I J x1 x4 x5 x6 x7 := rfl
theorem isFit_0 (n : Nat) (I : MI) (J : MJ) (x1 x4 x5 x7 : Int32) : LP_X8_isFit_104 (n + 1) I J x1 x4 x5 0 x7 = some (0, I, J) := by
  rw [LP_isFit_s]
  unfold LB_X8_isFit_104
  simp only [isB0, chk_t, ↓reduceIte, ite_self]
set_option maxHeartbeats 1000000 in
theorem isFit_loop {q tb tu be up : Nat} (hq : q ≤ 12) (hb : be ≤ 2000000000) (hu : up ≤ 2000000000) (htb : tb ≤ 500) (htu : tu ≤ 50) {I : MI} {J : MJ} (h31 : I 0 31 = nI q) (h35 : I 0 35 = nI tb) (h36 : I 0 36 = nI tu) (hd : ∀ j, j < q → rdv (I 12 j) ∧ rdv (I 13 j)) (x1 : Int32) : ∀ n m j : Nat, j + n = q → n + 1 < m → LP_X8_isFit_104 m I J x1 (nI be) (nI up) 1 (nI j) = some (if allb (okb (I 11) (I 12) (I 13) (nI tb) (nI tu) x1 (nI be) (nI up)) n j then 1 else 0, I, J) := by
  intro n
  induction n with
  | zero =>
    intro m j hj hm
    obtain ⟨m, rfl⟩ : ∃ m', m = m' + 1 := ⟨m - 1, by omega⟩
    rw [LP_isFit_s]
    unfold LB_X8_isFit_104
    rw [h31, if_pos (nI_le (by omega) (by omega)), isB1, chk_t, allb_0]
    rfl
  | succ n ih =>
    intro m j hj hm
    obtain ⟨m, rfl⟩ : ∃ m', m = m' + 1 + 1 := ⟨m - 2, by omega⟩
    obtain ⟨d2, d3⟩ := hd j (by omega)
    rw [LP_isFit_s]
    unfold LB_X8_isFit_104 LB_X8_isFit_166 LB_X8_isFit_171
    simp only [bnd_d, one0, ↓reduceIte]
    have hnj : ¬ nI q ≤ nI j := nI_ge (by omega) (by omega)
    rw [h31, if_neg hnj, inbI (show j < 12 by omega) (by omega), nI_clamp (by omega), show nI j + (1 : Int32) = nI (j + 1) from nI_1 j, ih (m + 1) (j + 1) (by omega) (by omega), h35, h36]
    simp only [chk_t, isFit_0, in_wd]
    rw [allb_s, abs_in (rd_diff d2 hb) (by rw [nI_toInt (by omega)]; omega)]
    generalize allb (okb (I 11) (I 12) (I 13) (nI tb) (nI tu) x1 (nI be) (nI up)) n (j + 1) = Z
    unfold okb
    by_cases c1 : I 11 j = x1
    · rw [if_pos c1, eqb_t c1]
      have sB : ∀ X Y : Option (Int32 × MI × MJ), (if I 12 j = -9 then X else bo1 (some (if nI tb < iabs (nI be - I 12 j) then (0 : Int32) else 1)) fun r => if r = 0 then Y else X) = if (eqb (I 12 j) (-9) || !ltb (nI tb) (iabs (nI be - I 12 j))) = true then X else Y := by
        intro X Y
        by_cases c2 : I 12 j = -9
        · rw [if_pos c2, eqb_t c2]; rfl
        · rw [if_neg c2, eqb_f c2]
          by_cases c5 : nI tb < iabs (nI be - I 12 j)
          · rw [if_pos c5, ltb_t c5]; rfl
          · rw [if_neg c5, ltb_f c5, bo1_s]
            simp only [one0, ↓reduceIte]; rfl
      rw [sB]
      generalize (eqb (I 12 j) (-9) || !ltb (nI tb) (iabs (nI be - I 12 j))) = bB
      by_cases c3 : I 13 j = -9
      · rw [if_pos c3, eqb_t c3]
        cases bB
        · rfl
        · simp only [↓reduceIte, Bool.not_true, Bool.false_or, Bool.true_or, Bool.true_and, Bool.and_self]
      · obtain ⟨u, hu1, hu2⟩ : ∃ m : Nat, m ≤ 1000000 ∧ I 13 j = nI m := by
          rcases d3 with d3 | d3
          · exact absurd d3 c3
          · exact d3
        have hp : u * tu ≤ 1000000 * 50 := Nat.mul_le_mul hu1 htu
        have eo : (((I 13 j).toInt64 * (nI tu).toInt64) / (100 : Int64)).toInt32 = nI (u * tu / 100) := by
          rw [hu2, nI_l (by omega), nI_l (by omega), lN_mul, show (100 : Int64) = lN 100 from rfl, pk_lDiv (by omega) (by omega) (by omega), lN_i]
        have ec : (I 13 j * nI tu) / (100 : Int32) = nI (u * tu / 100) := by
          rw [hu2, pk_mul, show (100 : Int32) = nI 100 from rfl, pk_div (by omega) (by omega) (by omega)]
        rw [eo, ec, if_neg c3, eqb_f c3, abs_in (rd_diff d3 hu) (by rw [nI_toInt (by omega)]; omega)]
        by_cases c4 : nI (u * tu / 100) < iabs (nI up - I 13 j)
        · rw [if_pos c4, ltb_t c4, bo1_s]
          cases bB
          · rfl
          · rfl
        · rw [if_neg c4, ltb_f c4, bo1_s]
          simp only [one0, ↓reduceIte]
          cases bB
          · rfl
          · simp only [↓reduceIte, Bool.not_true, Bool.false_or, Bool.true_or, Bool.true_and, Bool.and_self, Bool.not_false]
    · rw [if_neg c1, eqb_f c1]
      simp only [Bool.not_false, Bool.true_or, Bool.true_and]
/-- what fitting may change of the reference -/
def MF (I I' : MI) : Prop := (∀ c', c' ≠ 0 → c' ≠ 2 → I' c' = I c') ∧ ∀ k, k ≠ 5 → k ≠ 9 → I' 0 k = I 0 k
theorem MF.tr {I I' I'' : MI} (h : MF I I') (h2 : MF I' I'') : MF I I'' := ⟨fun c a b => (h2.1 c a b).trans (h.1 c a b), fun k a b => (h2.2 k a b).trans (h.2 k a b)⟩
theorem MF.rf (I : MI) : MF I I := ⟨fun _ _ _ => rfl, fun _ _ _ => rfl⟩
theorem MF.sm {I I' : MI} (h : SM I I') : MF I I' := ⟨fun c a _ => h.1 c a, h.2⟩
theorem MF.now {I I' : MI} (h : ∀ c', c' ≠ 2 → I' c' = I c') : MF I I' := ⟨fun c _ b => h c b, fun k _ _ => by rw [h 0 (by decide)]⟩
theorem MF.mA {I I' : MI} (s : MF I I') : mA I I' := ⟨fun c hc => s.1 c (fun e => by subst e; exact absurd hc (by decide)) (fun e => by subst e; exact absurd hc (by decide)), fun p hp => by
  have h0 := (by decide : ∀ p ∈ ([(0, 2), (0, 12), (0, 13), (0, 14), (0, 17), (0, 18), (0, 20), (0, 21), (0, 27), (0, 28), (0, 29), (0, 31), (0, 35), (0, 36)] : List (Nat × Nat)), p.1 = 0 ∧ p.2 ≠ 5 ∧ p.2 ≠ 9) p hp
  rw [h0.1]; exact s.2 p.2 h0.2.1 h0.2.2⟩
theorem val_ok {c a : Nat} (hc : c < 256) (ha : a < 4) {x : Int32} (hx : x = nI a) : f_X8_valueOf (nI c) x = some (nI (vC c a)) := by
  subst hx
  unfold f_X8_valueOf
  rw [vb hc ha]
set_option maxHeartbeats 1000000 in
theorem isFit_ok {n i c q tb tu : Nat} {T : Nat → Nat → Nat} {IB IM : MI} {JM : MJ} (hr : RR n T IB IM) (hg : RG q tb tu IB IM) (hi : i < n) (hc : c < 256) : ∃ (I' : MI) (J' : MJ), f_X8_isFit IM JM (nI i) (nI c) = some (if FT (T i) (IM 11) (IM 12) (IM 13) (nI tb) (nI tu) q i c then 1 else 0, I', J') ∧ MF IM I' ∧ SJ JM J' := by
  have hn := hr.2.2.1
  obtain ⟨g1, g2, g3, g4, g5, g6, g7, g8, g9, g10⟩ := hg
  obtain ⟨I1, e1, e2, e3⟩ := takes_ok (i := i) (by omega) IM JM
  have ri := hr.2.2.2.1 i hi
  have hto := TO_c ri.1.2 c
  unfold f_X8_isFit
  simp only [bnd]
  rw [e1, bo2_s, val_ok hc (a := 0) (x := 0) (by omega) rfl, val_ok hc (a := 1) (x := 1) (by omega) rfl, val_ok hc (a := 2) (x := 2) (by omega) rfl, val_ok hc (a := 3) (x := 3) (by omega) rfl]
  simp only [bo1_s]
  have h3 := vC_lt c 3
  have key : ∀ x : Int32, x = nI (airN (c / 64 % 4)) → ∃ (I' : MI) (J' : MJ), LB_X8_isFit_83 (w2 (w2 (w2 I1 2 7 (nI (vC c 0))) 2 8 (nI (vC c 1))) 2 9 (nI (vC c 2))) JM (nI i) 6 x = some (if FT (T i) (IM 11) (IM 12) (IM 13) (nI tb) (nI tu) q i c then 1 else 0, I', J') ∧ MF IM I' ∧ SJ JM J' := by
    intro x hx
    unfold LB_X8_isFit_83
    simp only [bnd]
    rw [show inb (6 : Int32) 13 = true by decide +kernel, chk_t, show (6 : Int32).toNatClampNeg = 6 from rfl, hx]
    have hT : TV (w2 (w2 (w2 (w2 I1 2 7 (nI (vC c 0))) 2 8 (nI (vC c 1))) 2 9 (nI (vC c 2))) 2 6 (nI (airN (c / 64 % 4))) 2) (cT (T i) c) := by
      refine ⟨fun j hj => ?_, hto⟩
      rw [w2c, w2c, w2c, w2c, vC_0, vC_1, vC_2]
      unfold cT un
      by_cases y6 : j = 6
      · rw [if_pos y6, if_pos y6]
      · by_cases y9 : j = 9
        · rw [if_neg y6, if_pos y9, if_neg y6, if_pos y9]
        · by_cases y8 : j = 8
          · rw [if_neg y6, if_neg y9, if_pos y8, if_neg y6, if_neg y9, if_pos y8]
          · by_cases y7 : j = 7
            · rw [if_neg y6, if_neg y9, if_neg y8, if_pos y7, if_neg y6, if_neg y9, if_neg y8, if_pos y7]
            · simp only [if_neg y6, if_neg y9, if_neg y8, if_neg y7]
              rw [e3 j hj]; exact ri.2.1 j hj
    have hf0 : MF IM (w2 (w2 (w2 (w2 I1 2 7 (nI (vC c 0))) 2 8 (nI (vC c 1))) 2 9 (nI (vC c 2))) 2 6 (nI (airN (c / 64 % 4)))) := MF.now (fun c' h => by rw [w2n h, w2n h, w2n h, w2n h, e2 c' h])
    generalize w2 (w2 (w2 (w2 I1 2 7 (nI (vC c 0))) 2 8 (nI (vC c 1))) 2 9 (nI (vC c 2))) 2 6 (nI (airN (c / 64 % 4))) = I2 at hT hf0 ⊢
    obtain ⟨I3, J3, a1, a2, a3, -⟩ := hourM_ok (J := JM) hT (w := 0) (by omega)
    have hT3 : TV (I3 2) (cT (T i) c) := by rw [a2.1 2 (by decide)]; exact hT
    obtain ⟨I4, J4, b1, b2, b3, -⟩ := hourM_ok (J := J3) hT3 (w := 2) (by omega)
    change f_X8_hourOf I2 JM 0 = _ at a1
    change f_X8_hourOf I3 J3 2 = _ at b1
    rw [a1, bo3_s, b1, bo3_s]
    have hf : MF IM I4 := hf0.tr ((MF.sm a2).tr (MF.sm b2))
    have l := isFit_loop (q := q) (tb := tb) (tu := tu) (be := nbT (cT (T i) c)) (up := upT (cT (T i) c)) g3 (by have := nb_bd hto; omega) (by have := up_bd hto; omega) g7 g10 (I := I4) (J := J4) (by rw [hf.2 31 (by decide) (by decide)]; exact g2) (by rw [hf.2 35 (by decide) (by decide)]; exact g6) (by rw [hf.2 36 (by decide) (by decide)]; exact g9) (fun j hj => by rw [hf.1 12 (by decide) (by decide), hf.1 13 (by decide) (by decide)]; exact (g4 j hj).2.2.2.2) (nI i) q FU 0 (by omega) (by rw [FU_eq]; omega)
    rw [hf.1 11 (by decide) (by decide), hf.1 12 (by decide) (by decide), hf.1 13 (by decide) (by decide)] at l
    exact ⟨I4, J4, l, hf, a3.tr b3⟩
  have h64 : vC c 3 = c / 64 % 4 := vC_3 c
  by_cases z0 : vC c 3 = 0
  · rw [z0, if_pos (show nI 0 = (0 : Int32) from rfl)]
    exact key 100 (by rw [← h64, z0]; rfl)
  · rw [if_neg (show ¬ nI (vC c 3) = (0 : Int32) from fun z => z0 ((nI_eq (b := 0) (by omega) (by omega)).mp z))]
    by_cases z1 : vC c 3 = 1
    · rw [z1, if_pos (show nI 1 = (1 : Int32) from rfl)]
      exact key 60 (by rw [← h64, z1]; rfl)
    · rw [if_neg (show ¬ nI (vC c 3) = (1 : Int32) from fun z => z1 ((nI_eq (b := 1) (by omega) (by omega)).mp z))]
      by_cases z2 : vC c 3 = 2
      · rw [z2, if_pos (show nI 2 = (2 : Int32) from rfl)]
        exact key 20 (by rw [← h64, z2]; rfl)
      · rw [if_neg (show ¬ nI (vC c 3) = (2 : Int32) from fun z => z2 ((nI_eq (b := 2) (by omega) (by omega)).mp z))]
        exact key 0 (by rw [← h64, show vC c 3 = 3 by omega]; rfl)
theorem okb_cg {R B U R' B' U' : Nat → Int32} {tb tu i be up : Int32} : ∀ (n j : Nat), (∀ k, j ≤ k → k < j + n → R k = R' k ∧ B k = B' k ∧ U k = U' k) → allb (okb R B U tb tu i be up) n j = allb (okb R' B' U' tb tu i be up) n j := by
  intro n
  induction n with
  | zero => intro j _; rw [allb_0, allb_0]
  | succ n ih =>
    intro j h
    obtain ⟨h1, h2, h3⟩ := h j (Nat.le_refl _) (by omega)
    rw [allb_s, allb_s, ih (j + 1) (fun k a b => h k (by omega) (by omega))]
    unfold okb
    rw [h1, h2, h3]
theorem FT_cg {q tb tu i c : Nat} {T : Nat → Nat} {IB IM : MI} (hg : RG q tb tu IB IM) : FT T (IB 27) (IB 28) (IB 29) (IB 26 4) (IB 26 5) q i c = FT T (IM 11) (IM 12) (IM 13) (nI tb) (nI tu) q i c := by
  obtain ⟨g1, g2, g3, g4, g5, g6, g7, g8, g9, g10⟩ := hg
  unfold FT
  rw [g5, g8]
  exact okb_cg q 0 (fun k _ h => ⟨(g4 k (by omega)).1, (g4 k (by omega)).2.1, (g4 k (by omega)).2.2.1⟩)
theorem s_fits {IB : MI} {JB : MJ} {IM : MI} {JM : MJ} (h : REL IB JB IM JM) (a1 a2 : Int32) : SW (f_X7_fits IB JB a1 a2) (f_X8_fits IM JM a1 a2) := by
  have h0 := thr h
  unfold f_X7_fits f_X8_fits
  simp only [bnd, in_wi]
  generalize w2 IM 0 0 0 = IM at h0 ⊢
  obtain ⟨n, T, hr⟩ := h0.1
  obtain ⟨q, tb, tu, hg⟩ := h0.2.2.2.2.2.2.2.1
  obtain ⟨r1, r2, r3, r4, r5⟩ := id hr
  rw [isRam_m r1 r2 (J := JB) a1]
  rcases isRam_c (J := JB) r1 r3 a1 with ⟨i, hi, rfl, e⟩ | e
  · rw [e]
    simp only [bo1_s, one0, ↓reduceIte]
    rcases win a2 (x := 0) (y := 255) (lo := 0) (hi := 255) rfl rfl (by omega) (by omega) with ⟨c, -, hc, rfl, e⟩ | e
    · rw [e]
      simp only [bo1_s, one0, ↓reduceIte]
      rw [inbI (show i < 4 by omega) (by omega), chk_t, rc_nI (by omega)]
      obtain ⟨I1, p1, p2, p3, p4⟩ := like_ok (J := JB) (r4 i hi).1
      obtain ⟨I2, q1, q2, q3, q4⟩ := suffer_ok (show c < 256 by omega) (J := JB) p3 p4
      have k12 := p2.tr q2
      obtain ⟨I3, s1, s2, -, -⟩ := agree_ok (q := q) (i := i) (J := JB) hg.2.2.1 (by rw [k12 26 (by decide) (by decide)]; exact hg.1) q3 q4
      obtain ⟨IM', JM', t1, t2, t3⟩ := isFit_ok (JM := JM) hr hg hi (show c < 256 by omega)
      rw [p1, bo2_s, q1, bo2_s, s1, bo3_s, t1, bo3_s, k12 26 (by decide) (by decide), k12 27 (by decide) (by decide), k12 28 (by decide) (by decide), k12 29 (by decide) (by decide), FT_cg hg]
      have hk : REL I3 JB IM' JM' := h0.keep (k12.tr s2).bA t2.mA (AJ.rf _) (mJA_SJ t3)
      cases FT (T i) (IM 11) (IM 12) (IM 13) (nI tb) (nI tu) q i c
      · simp only [Bool.false_eq_true, ↓reduceIte]; exact SW.same hk
      · simp only [one0, ↓reduceIte]; exact SW.same hk
    · rw [e]; exact SW.same h0
  · rw [e]; exact SW.same h0
