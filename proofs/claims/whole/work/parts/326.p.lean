/-! rights: one item, both ways -/
theorem win_n {x lo hi : Nat} (hx : x < 2 ^ 31) (hl : lo < 2 ^ 31) (hh : hi < 2 ^ 31) : f_X7_within (nI x) (nI lo) (nI hi) = some (if lo ≤ x ∧ x ≤ hi then 1 else 0) := by
  unfold f_X7_within
  by_cases a : x < lo
  · rw [if_pos (nI_lt a hl), if_neg (fun z => by omega)]
  · rw [if_neg (nI_nlt (by omega) hx)]
    by_cases b : hi < x
    · rw [if_pos (nI_lt b hx), if_neg (fun z => by omega)]
    · rw [if_neg (nI_nlt (by omega) hh), if_pos (by omega)]
theorem win_m {lo : Nat} {y : Int32} (hl : lo < 2 ^ 31) : f_X7_within (-1) (nI lo) y = some 0 := by
  unfold f_X7_within
  rw [if_pos (by rw [i_lt, nI_toInt hl, show (-1 : Int32).toInt = -1 from rfl]; omega)]
theorem byteAt_ok {b : Nat → Nat} {L p : Nat} {I : MI} {J : MJ} (h : DMd b L I) (ha : I 0 24 = nI p) (hp : p ≤ L) : f_X8_byteAt I J = some (if p < L then nI (b p) else -1) := by
  obtain ⟨h1, h2, h3⟩ := h
  unfold f_X8_byteAt
  rw [h1, ha]
  by_cases e : p < L
  · rw [if_neg (nI_ge e (by omega)), inbI (by omega) (by omega), chk_t, nI_clamp (by omega), if_pos e, (h3 p e).2]
  · rw [if_pos (nI_le (by omega) (by omega)), if_neg e]
theorem mIn {b : Nat → Nat} {L p lo hi : Nat} {I : MI} {J : MJ} (h : DMd b L I) (ha : I 0 24 = nI p) (hp : p ≤ L) (hl : lo < 2 ^ 31) (hh : hi < 2 ^ 31) : (bo1 (f_X8_byteAt I J) fun r => f_X7_within r (nI lo) (nI hi)) = some (if p < L ∧ lo ≤ b p ∧ b p ≤ hi then 1 else 0) := by
  rw [byteAt_ok h ha hp, bo1_s]
  by_cases e : p < L
  · have := (h.2.2 p e).1
    rw [if_pos e, win_n (by omega) hl hh]
    by_cases c : lo ≤ b p ∧ b p ≤ hi
    · rw [if_pos c, if_pos ⟨e, c⟩]
    · rw [if_neg c, if_neg (fun z => c z.2)]
  · rw [if_neg e, win_m hl, if_neg (fun z => e z.1)]
theorem sgn_sim {b : Nat → Nat} {L p c : Nat} {IB IM : MI} {JB JM : MJ} (hB : DB b L IB) (hM : DMd b L IM) (ha : AT IB p true) (hm : IM 0 24 = nI p) (hp : p ≤ L) (hc : c < 128) : ∃ IB' IM' : MI, f_X3_readSign IB JB (nI c) = some (IB', JB) ∧ P20 IB IB' ∧ P24 IM IM' ∧ ((f_X8_sign IM JM (nI c) = some (1, IM', JM) ∧ AT IB' (p + 1) true ∧ IM' 0 24 = nI (p + 1) ∧ p < L ∧ b p = c) ∨ (f_X8_sign IM JM (nI c) = some (0, IM', JM) ∧ AT IB' p false ∧ IM' 0 26 = nI p ∧ ¬ (p < L ∧ b p = c))) := by
  have hL := hB.2.1
  obtain ⟨I1, c1, c2, c3⟩ := cSign (J := JB) hB ha (by omega) hc
  have no : ¬ (p < L ∧ b p = c) → f_X8_sign IM JM (nI c) = some (0, w2 IM 0 26 (nI p), JM) := by
    intro hn
    unfold f_X8_sign
    simp only [bnd_d]
    rw [byteAt_ok hM hm hp, bo1_s, hm]
    by_cases e : p < L
    · have := (hM.2.2 p e).1
      rw [if_pos e, if_neg (fun z => hn ⟨e, (nI_eq (by omega) (by omega)).mp z⟩)]
    · rw [if_neg e, if_neg (fun z => by
        have := congrArg Int32.toInt z
        rw [nI_toInt (by omega), show (-1 : Int32).toInt = -1 from rfl] at this
        omega)]
  rcases c3 with ⟨e1, e2, e3⟩ | ⟨e1, e2⟩
  · refine ⟨I1, w2 IM 0 24 (nI (p + 1)), c1, c2, P24.st (Or.inl rfl), Or.inl ⟨?_, e3, w2k, e1, e2⟩⟩
    unfold f_X8_sign
    simp only [bnd_d]
    rw [byteAt_ok hM hm hp, bo1_s, if_pos e1, if_pos (by rw [e2]), hm, show nI p + (1 : Int32) = nI (p + 1) from nI_1 p]
  · exact ⟨I1, w2 IM 0 26 (nI p), c1, c2, P24.st (Or.inr (Or.inr rfl)), Or.inr ⟨no e1, e2, w2k, e1⟩⟩
theorem LP_rd34_s (n : Nat) (I : MI) (J : MJ) (x2 x3 x4 : Int32) : LP_X8_reads_34 (n + 1) I J x2 x3 x4 = LB_X8_reads_34 (LP_X8_reads_34 n) I J x2 x3 x4 := rfl
/-- what the reference answers where a number ends -/
def RES (x3 : Int32) (ok : Bool) (q w : Nat) (I I' : MI) (J : MJ) (o : Option (Int32 × MI × MJ)) : Prop := P24 I I' ∧ ((ok = false ∧ o = some (0, I', J) ∧ I' 0 26 = nI q) ∨ (ok = true ∧ ¬ x3 < nI w ∧ o = some (0, I', J) ∧ I' 0 26 = nI (q - 1)) ∨ (ok = true ∧ x3 < nI w ∧ o = some (1, I', J) ∧ I' 0 24 = nI q ∧ I' 0 25 = nI w))
theorem rd_stop {b : Nat → Nat} {L most p v st : Nat} {kk : MI → MJ → Int32 → Int32 → Int32 → Option (Int32 × MI × MJ)} {x3 : Int32} {I : MI} {J : MJ} (h : DMd b L I) (ha : I 0 24 = nI p) (hv : I 0 25 = nI v) (hp : p ≤ L) (h1 : 1 ≤ p) (hd : ¬ isD b L p) : ∃ I' : MI, RES x3 true p v I I' J (LB_X8_reads_34 kk I J (nI most) x3 (nI st)) := by
  have e := mIn (J := J) h ha hp (lo := 48) (hi := 57) (by omega) (by omega)
  unfold LB_X8_reads_34
  simp only [bnd_d, in_wd]
  rw [if_neg (show ¬ (p < L ∧ 48 ≤ b p ∧ b p ≤ 57) from hd)] at e
  rw [byteAt_ok h ha hp] at e ⊢
  rw [bo1_s] at e ⊢
  change f_X7_within _ 48 57 = _ at e
  rw [e, bo1_s, if_pos rfl, hv, ha]
  by_cases c : x3 < nI v
  · rw [if_pos c]
    exact ⟨I, P24.rf I, Or.inr (Or.inr ⟨rfl, c, rfl, ha, hv⟩)⟩
  · rw [if_neg c, show nI p - (1 : Int32) = nI (p - 1) from pk_sub (b := 1) h1]
    exact ⟨_, P24.st (Or.inr (Or.inr rfl)), Or.inr (Or.inl ⟨rfl, c, rfl, w2k⟩)⟩
theorem rd_dig {b : Nat → Nat} {L most p v st : Nat} {kk : MI → MJ → Int32 → Int32 → Int32 → Option (Int32 × MI × MJ)} {x3 : Int32} {I : MI} {J : MJ} (hmost : most ≤ 9999) (hv2 : v ≤ most) (h : DMd b L I) (ha : I 0 24 = nI p) (hv : I 0 25 = nI v) (hp : p ≤ L) (hd : isD b L p) (hz : v = 0 → ¬ st < p) (hst : st < 2 ^ 31) : LB_X8_reads_34 kk I J (nI most) x3 (nI st) = if 10 * v + (b p - 48) ≤ most then kk (w2 (w2 I 0 25 (nI (10 * v + (b p - 48)))) 0 24 (nI (p + 1))) J (nI most) x3 (nI st) else some (0, w2 I 0 26 (nI p), J) := by
  have hL := h.2.1
  have e := mIn (J := J) h ha hp (lo := 48) (hi := 57) (by omega) (by omega)
  have hd' := hd
  unfold isD at hd'
  unfold LB_X8_reads_34
  simp only [bnd_d, in_wd]
  rw [if_pos (show p < L ∧ 48 ≤ b p ∧ b p ≤ 57 from hd)] at e
  rw [byteAt_ok h ha hp] at e ⊢
  rw [bo1_s] at e ⊢
  change f_X7_within _ 48 57 = _ at e
  rw [e, bo1_s, if_neg (by decide), bo1_s, if_pos hd'.1, hv, ha, show (10 : Int32) = nI 10 from rfl, show (48 : Int32) = nI 48 from rfl, pk_mul, nI_add, pk_sub (by omega), show 10 * v + b p - 48 = 10 * v + (b p - 48) by omega]
  have l81 : LB_X8_reads_81 kk I J (nI most) x3 (nI st) (nI (10 * v + (b p - 48))) = if 10 * v + (b p - 48) ≤ most then kk (w2 (w2 I 0 25 (nI (10 * v + (b p - 48)))) 0 24 (nI (p + 1))) J (nI most) x3 (nI st) else some (0, w2 I 0 26 (nI p), J) := by
    unfold LB_X8_reads_81
    simp only [bnd_d]
    rw [w2j (show 24 ≠ 25 by decide), ha, show nI p + (1 : Int32) = nI (p + 1) from nI_1 p]
    by_cases c : 10 * v + (b p - 48) ≤ most
    · rw [if_pos (nI_le c (by omega)), if_pos c]
    · rw [if_neg (nI_ge (by omega) (by omega)), if_neg c]
  by_cases c : v = 0
  · rw [if_pos (by rw [c]; rfl), if_neg (nI_nlt (by have := hz c; omega) hst), l81]
  · rw [if_neg (show ¬ nI v = (0 : Int32) from nI_ne0 (by omega) (by omega)), l81]
theorem mod_nl {b : Nat → Nat} {L most q w st : Nat} {ok : Bool} {x3 : Int32} (hmost : most ≤ 9999) (hst : st < 2 ^ 31) : ∀ (n m p v : Nat) (I : MI) (J : MJ), n < m → p ≤ L → 1 ≤ p → 0 < v → v ≤ most → DMd b L I → I 0 24 = nI p → I 0 25 = nI v → NL b L most n p v ok q w → ∃ I' : MI, RES x3 ok q w I I' J (LP_X8_reads_34 m I J (nI most) x3 (nI st)) := by
  intro n
  induction n with
  | zero =>
    intro m p v I J hm hp h1 hv hv2 h ha h25 hN
    obtain ⟨m, rfl⟩ : ∃ z, m = z + 1 := ⟨m - 1, by omega⟩
    obtain ⟨hd, rfl, rfl, rfl⟩ := hN
    rw [LP_rd34_s]
    exact rd_stop h ha h25 hp h1 hd
  | succ n ih =>
    intro m p v I J hm hp h1 hv hv2 h ha h25 hN
    obtain ⟨m, rfl⟩ : ∃ z, m = z + 1 := ⟨m - 1, by omega⟩
    rw [LP_rd34_s]
    rcases hN with ⟨hd, rfl, rfl, rfl⟩ | ⟨hd, h2, rfl, rfl, rfl⟩ | ⟨hd, h2, h3⟩
    · exact rd_stop h ha h25 hp h1 hd
    · rw [rd_dig hmost hv2 h ha h25 hp hd (fun z => by omega) hst, if_neg h2]
      exact ⟨_, P24.st (Or.inr (Or.inr rfl)), Or.inl ⟨rfl, rfl, w2k⟩⟩
    · rw [rd_dig hmost hv2 h ha h25 hp hd (fun z => by omega) hst, if_pos h2]
      have s : P24 I (w2 (w2 I 0 25 (nI (10 * v + (b p - 48)))) 0 24 (nI (p + 1))) := (P24.st (Or.inr (Or.inl rfl))).tr (P24.st (Or.inl rfl))
      obtain ⟨I', g1, g2⟩ := ih m (p + 1) (10 * v + (b p - 48)) (w2 (w2 I 0 25 (nI (10 * v + (b p - 48)))) 0 24 (nI (p + 1))) J (by omega) (by have := hd.1; omega) (by omega) (by omega) h2 (h.go s) w2k (by rw [w2j (by decide), w2k]) h3
      exact ⟨I', s.tr g1, g2⟩
theorem num_sim {b : Nat → Nat} {L most lo p : Nat} {IB IM : MI} {JB JM : MJ} (x3 : Int32) (hmost : most ≤ 9999) (h9 : 9 ≤ most) (hlo : lo ≤ 1) (hB : DB b L IB) (hM : DMd b L IM) (ha : AT IB p true) (hm : IM 0 24 = nI p) (hp : p ≤ L) : ∃ (ok : Bool) (q w : Nat) (IB' IM' : MI), f_X3_readNumber IB JB (nI lo) (nI most) = some (nI w, IB', JB) ∧ P20 IB IB' ∧ AT IB' q ok ∧ q ≤ L ∧ w ≤ most ∧ (ok = true → p < q ∧ lo ≤ w) ∧ (RES x3 ok q w IM IM' JM (f_X8_reads IM JM (nI (48 + lo)) (nI most) x3) ∨ (ok = true ∧ w = 0 ∧ isD b L q ∧ P24 IM IM' ∧ f_X8_reads IM JM (nI (48 + lo)) (nI most) x3 = some (0, IM', JM) ∧ IM' 0 26 = nI q)) := by
  obtain ⟨ok, q, w, I1, c1, c2, c3, c4⟩ := cNum (J := JB) hmost hlo hB ha hp
  obtain ⟨bd1, bd2, bd3, bd4, bd5⟩ := NM_bd c1 hp
  have hL := hB.2.1
  have e := mIn (J := JM) hM hm hp (lo := 48 + lo) (hi := 57) (by omega) (by omega)
  have un : f_X8_reads IM JM (nI (48 + lo)) (nI most) x3 = if p < L ∧ 48 + lo ≤ b p ∧ b p ≤ 57 then LP_X8_reads_34 FU (w2 IM 0 25 0) JM (nI most) x3 (nI p) else some (0, w2 IM 0 26 (nI p), JM) := by
    unfold f_X8_reads
    simp only [bnd_d, in_wd]
    rw [byteAt_ok hM hm hp] at e ⊢
    rw [bo1_s] at e ⊢
    change f_X7_within _ (nI (48 + lo)) 57 = _ at e
    rw [e, bo1_s, hm]
    by_cases c : p < L ∧ 48 + lo ≤ b p ∧ b p ≤ 57
    · rw [if_pos c, if_pos c, if_neg (by decide)]
    · rw [if_neg c, if_neg c, if_pos rfl]
  rw [un]
  rcases c1 with ⟨hn, rfl, rfl, rfl⟩ | ⟨⟨hd, h1, h2⟩, hc⟩
  · rw [if_neg (fun z => hn ⟨⟨z.1, by omega, z.2.2⟩, by omega, by omega⟩)]
    exact ⟨false, q, 0, I1, w2 IM 0 26 (nI q), c2, c3, c4, bd2, bd3, bd4, Or.inl ⟨P24.st (Or.inr (Or.inr rfl)), Or.inl ⟨rfl, rfl, w2k⟩⟩⟩
  · have hd' := hd
    unfold isD at hd'
    rw [if_pos ⟨hd'.1, by omega, hd'.2.2⟩]
    obtain ⟨f, hf⟩ : ∃ f, FU = f + 1 + 1 := ⟨3998, FU_eq⟩
    have hf2 : 200 < f := by have := FU_eq; omega
    have s0 : P24 IM (w2 IM 0 25 0) := P24.st (Or.inr (Or.inl rfl))
    have a0 : w2 IM 0 25 0 0 24 = nI p := by rw [w2j (by decide)]; exact hm
    rw [hf, LP_rd34_s, rd_dig hmost (v := 0) (by omega) (hM.go s0) a0 (by rw [w2k]; rfl) hp hd (fun _ => by omega) (by omega), Nat.mul_zero, Nat.zero_add, if_pos h2]
    have s1 : P24 IM (w2 (w2 (w2 IM 0 25 0) 0 25 (nI (b p - 48))) 0 24 (nI (p + 1))) := s0.tr ((P24.st (Or.inr (Or.inl rfl))).tr (P24.st (Or.inl rfl)))
    have a1 : w2 (w2 (w2 IM 0 25 0) 0 25 (nI (b p - 48))) 0 24 (nI (p + 1)) 0 24 = nI (p + 1) := w2k
    have a2 : w2 (w2 (w2 IM 0 25 0) 0 25 (nI (b p - 48))) 0 24 (nI (p + 1)) 0 25 = nI (b p - 48) := by rw [w2j (by decide), w2k]
    rcases hc with ⟨z1, rfl, rfl, rfl⟩ | ⟨z1, z2⟩
    · have z0 : b p - 48 = 0 := by omega
      rw [z0] at a2 s1 a1 ⊢
      by_cases hq : isD b L (p + 1)
      · have ed := mIn (J := JM) (hM.go s1) a1 bd2 (lo := 48) (hi := 57) (by omega) (by omega)
        refine ⟨true, p + 1, 0, I1, w2 (w2 (w2 (w2 IM 0 25 0) 0 25 (nI 0)) 0 24 (nI (p + 1))) 0 26 (nI (p + 1)), c2, c3, c4, bd2, bd3, bd4, Or.inr ⟨rfl, rfl, hq, s1.tr (P24.st (Or.inr (Or.inr rfl))), ?_, w2k⟩⟩
        rw [LP_rd34_s]
        unfold LB_X8_reads_34
        simp only [bnd_d, in_wd]
        rw [if_pos (show p + 1 < L ∧ 48 ≤ b (p + 1) ∧ b (p + 1) ≤ 57 from hq)] at ed
        rw [byteAt_ok (hM.go s1) a1 bd2] at ed ⊢
        rw [bo1_s] at ed ⊢
        change f_X7_within _ 48 57 = _ at ed
        rw [ed, bo1_s, if_neg (by decide), bo1_s, a2, a1, if_pos (show nI 0 = (0 : Int32) from rfl), if_pos (nI_lt (by omega) (by omega))]
      · obtain ⟨I', g⟩ := rd_stop (most := most) (st := p) (kk := LP_X8_reads_34 f) (x3 := x3) (J := JM) (hM.go s1) a1 a2 bd2 (by omega) hq
        rw [LP_rd34_s]
        exact ⟨true, p + 1, 0, I1, I', c2, c3, c4, bd2, bd3, bd4, Or.inl ⟨s1.tr g.1, g.2⟩⟩
    · obtain ⟨I', g⟩ := mod_nl (x3 := x3) (st := p) hmost (by omega) 150 (f + 1) (p + 1) (b p - 48) _ JM (by omega) (by omega) (by omega) (by omega) h2 (hM.go s1) a1 a2 z2
      exact ⟨ok, q, w, I1, I', c2, c3, c4, bd2, bd3, bd4, Or.inl ⟨s1.tr g.1, g.2⟩⟩
