/-! simple calls, one after the other -/
def SW (x y : Option (Int32 × MI × MJ)) : Prop := ∃ (r : Int32) (IB : MI) (JB : MJ) (IM : MI) (JM : MJ), x = some (r, IB, JB) ∧ y = some (r, IM, JM) ∧ REL IB JB IM JM
theorem SW.same {r : Int32} {IB : MI} {JB : MJ} {IM : MI} {JM : MJ} (h : REL IB JB IM JM) : SW (some (r, IB, JB)) (some (r, IM, JM)) := ⟨r, IB, JB, IM, JM, rfl, rfl, h⟩
theorem SW.ret {r r' : Int32} {IB : MI} {JB : MJ} {IM : MI} {JM : MJ} (e : r = r') (h : REL IB JB IM JM) : SW (some (r, IB, JB)) (some (r', IM, JM)) := by subst e; exact SW.same h
theorem thr {IB : MI} {JB : MJ} {IM : MI} {JM : MJ} (h : REL IB JB IM JM) : REL IB JB (w2 IM 0 0 0) JM := h.keep (AG.rf _) (AG.w2 (by decide) (by decide)) (AJ.rf _) (AJ.rf _)
theorem ag_wc {cs : List Nat} {fs : List (Nat × Nat)} {I : MI} {c k : Nat} {x : Int32} (h1 : c ∉ cs) (h2 : ∀ p ∈ fs, p.1 ≠ c) : AG cs fs I (w2 I c k x) := AG.one (fun _ h => w2n h) h1 h2
theorem one0 : ((1 : Int32) = 0) = False := by decide
theorem i_lt {x y : Int32} : x < y ↔ x.toInt < y.toInt := Int32.lt_iff_toInt_lt
theorem i_le {x y : Int32} : x ≤ y ↔ x.toInt ≤ y.toInt := Int32.le_iff_toInt_le
/-- is a number between two others -/
theorem win {x y : Int32} {lo hi : Nat} (a : Int32) (hx : x = nI lo) (hy : y = nI hi) (hl : lo < 2 ^ 31) (hh : hi < 2 ^ 31) : (∃ m : Nat, lo ≤ m ∧ m ≤ hi ∧ a = nI m ∧ f_X7_within a x y = some 1) ∨ f_X7_within a x y = some 0 := by
  subst hx; subst hy
  unfold f_X7_within
  by_cases h1 : a < nI lo
  · rw [if_pos h1]; exact Or.inr rfl
  · rw [if_neg h1]
    by_cases h2 : nI hi < a
    · rw [if_pos h2]; exact Or.inr rfl
    · rw [if_neg h2]
      rw [i_lt, nI_toInt hl] at h1
      rw [i_lt, nI_toInt hh] at h2
      obtain ⟨j, hj, e⟩ := nI_of (x := a) (by rw [i_lt, Int32.toInt_zero]; omega)
      subst e
      rw [nI_toInt hj] at h1 h2
      exact Or.inl ⟨j, by omega, by omega, rfl, rfl⟩
theorem in_wi (a x y : Int32) : f_X8_in a x y = f_X7_within a x y := rfl
theorem mon (a : Int32) : (∃ m : Nat, m < 12 ∧ a = nI m ∧ f_X7_isMonth a = some 1 ∧ f_X8_isMonth a = some 1) ∨ (f_X7_isMonth a = some 0 ∧ f_X8_isMonth a = some 0) := by
  unfold f_X7_isMonth f_X8_isMonth
  rw [in_wi]
  rcases win a (x := 0) (y := 11) (lo := 0) (hi := 11) rfl rfl (by omega) (by omega) with ⟨m, h1, h2, h3, h4⟩ | h4
  · rw [h4, bo1_s, isB1, chk_t]; exact Or.inl ⟨m, by omega, h3, rfl, rfl⟩
  · rw [h4, bo1_s, isB0, chk_t]; exact Or.inr ⟨rfl, rfl⟩
theorem s_spring {IB : MI} {JB : MJ} {IM : MI} {JM : MJ} (h : REL IB JB IM JM) (a1 a2 : Int32) : SW (f_X7_spring IB JB a1 a2) (f_X8_spring IM JM a1 a2) := by
  have h0 := thr h
  unfold f_X7_spring f_X8_spring
  simp only [bnd]
  generalize w2 IM 0 0 0 = IM at h0 ⊢
  rcases mon a1 with ⟨m, hm, rfl, e1, e2⟩ | ⟨e1, e2⟩
  · rw [e1, e2]
    simp only [in_wi, bo1_s, one0, ↓reduceIte]
    rcases win a2 (x := 0) (y := 1000000) (lo := 0) (hi := 1000000) rfl rfl (by omega) (by omega) with ⟨v, -, hv, rfl, e⟩ | e
    · rw [e]
      simp only [bo1_s, one0, ↓reduceIte, inbI hm (by omega), chk_t, nI_clamp (show m < 2 ^ 31 by omega)]
      obtain ⟨sp, fr, sf, st, hS⟩ := h0.2.1
      refine SW.ret ((hS.1 m hm).1.trans (hS.1 m hm).2.1.symm) (h0.setS (ag_wc (by decide) (by decide)) (ag_wc (by decide) (by decide)) (AJ.rf _) (AJ.rf _) ⟨fun q => if q = m then v else sp q, fr, sf, st, fun q hq => ?_, ?_⟩)
      · rw [w2c, w2c]
        dsimp only
        by_cases e : q = m
        · rw [if_pos e, if_pos e, if_pos e]; exact ⟨rfl, rfl, hv⟩
        · rw [if_neg e, if_neg e, if_neg e]; exact hS.1 q hq
      · simp only [w2n (show (14 : Nat) ≠ 13 by decide), w2n (show (12 : Nat) ≠ 13 by decide), w2n (show (4 : Nat) ≠ 3 by decide), w2n (show (0 : Nat) ≠ 3 by decide)]
        exact hS.2
    · rw [e]; exact SW.same h0
  · rw [e1, e2]; exact SW.same h0
theorem s_frost {IB : MI} {JB : MJ} {IM : MI} {JM : MJ} (h : REL IB JB IM JM) (a1 a2 : Int32) : SW (f_X7_frost IB JB a1 a2) (f_X8_frost IM JM a1 a2) := by
  have h0 := thr h
  unfold f_X7_frost f_X8_frost
  simp only [bnd]
  generalize w2 IM 0 0 0 = IM at h0 ⊢
  rcases mon a1 with ⟨m, hm, rfl, e1, e2⟩ | ⟨e1, e2⟩
  · rw [e1, e2]
    simp only [in_wi, bo1_s, one0, ↓reduceIte]
    rcases win a2 (x := 0) (y := 23) (lo := 0) (hi := 23) rfl rfl (by omega) (by omega) with ⟨v, -, hv, rfl, e⟩ | e
    · rw [e]
      simp only [bo1_s, one0, ↓reduceIte, inbI hm (by omega), chk_t, nI_clamp (show m < 2 ^ 31 by omega)]
      obtain ⟨sp, fr, sf, st, hS⟩ := h0.2.1
      refine SW.ret ((hS.2.1 m hm).1.trans (hS.2.1 m hm).2.1.symm) (h0.setS (ag_wc (by decide) (by decide)) (ag_wc (by decide) (by decide)) (AJ.rf _) (AJ.rf _) ⟨sp, fun q => if q = m then v else fr q, sf, st, ?_, fun q hq => ?_, ?_⟩)
      · simp only [w2n (show (13 : Nat) ≠ 14 by decide), w2n (show (3 : Nat) ≠ 4 by decide)]
        exact hS.1
      · rw [w2c, w2c]
        dsimp only
        by_cases e : q = m
        · rw [if_pos e, if_pos e, if_pos e]; exact ⟨rfl, rfl, hv⟩
        · rw [if_neg e, if_neg e, if_neg e]; exact hS.2.1 q hq
      · simp only [w2n (show (12 : Nat) ≠ 14 by decide), w2n (show (0 : Nat) ≠ 4 by decide)]
        exact hS.2.2
    · rw [e]; exact SW.same h0
  · rw [e1, e2]; exact SW.same h0
theorem s_silence {IB : MI} {JB : MJ} {IM : MI} {JM : MJ} (h : REL IB JB IM JM) (a1 a2 : Int32) : SW (f_X7_silence IB JB a1 a2) (f_X8_silence IM JM a1 a2) := by
  have h0 := thr h
  unfold f_X7_silence f_X8_silence
  simp only [bnd, in_wi]
  generalize w2 IM 0 0 0 = IM at h0 ⊢
  rcases win a1 (x := 0) (y := 24) (lo := 0) (hi := 24) rfl rfl (by omega) (by omega) with ⟨u, -, hu, rfl, e⟩ | e
  · rw [e]
    simp only [bo1_s, one0, ↓reduceIte]
    rcases win a2 (x := nI u) (y := 24) (lo := u) (hi := 24) rfl rfl (by omega) (by omega) with ⟨v, -, hv, rfl, e⟩ | e
    · rw [e]
      simp only [bo1_s, one0, ↓reduceIte]
      obtain ⟨sp, fr, sf, st, hS⟩ := h0.2.1
      refine SW.same (h0.setS ((AG.w2 (by decide) (by decide)).tr (AG.w2 (by decide) (by decide))) ((AG.w2 (by decide) (by decide)).tr (AG.w2 (by decide) (by decide))) (AJ.rf _) (AJ.rf _) ⟨sp, fr, u, v, ?_, ?_, ?_, ?_, hu, ?_, ?_, hv⟩)
      · simp only [w2n (show (13 : Nat) ≠ 12 by decide), w2n (show (3 : Nat) ≠ 0 by decide)]; exact hS.1
      · simp only [w2n (show (14 : Nat) ≠ 12 by decide), w2n (show (4 : Nat) ≠ 0 by decide)]; exact hS.2.1
      · rw [w2j (by decide), w2k]
      · rw [w2j (by decide), w2k]
      · rw [w2k]
      · rw [w2k]
    · rw [e]; exact SW.same h0
  · rw [e]; exact SW.same h0
theorem s_forget {IB : MI} {JB : MJ} {IM : MI} {JM : MJ} (h : REL IB JB IM JM) : SW (f_X7_forget IB JB) (f_X8_forget IM JM) := by
  have h0 := thr h
  unfold f_X7_forget f_X8_forget
  simp only [bnd]
  generalize w2 IM 0 0 0 = IM at h0 ⊢
  obtain ⟨k, tw, ts, h1, h2, h3, h4, h5⟩ := h0.2.2.1
  refine SW.ret (h1.trans h2.symm) (h0.setT (AG.w2 (by decide) (by decide)) (AG.w2 (by decide) (by decide)) (AJ.rf _) (AJ.rf _) ⟨0, tw, ts, w2k, w2k, by omega, fun j hj => by omega, ?_⟩)
  rw [w2n (by decide), w2n (by decide)]; exact h5
theorem s_clear {IB : MI} {JB : MJ} {IM : MI} {JM : MJ} (h : REL IB JB IM JM) : SW (f_X7_clear IB JB) (f_X8_clear IM JM) := by
  have h0 := thr h
  unfold f_X7_clear f_X8_clear
  simp only [bnd]
  generalize w2 IM 0 0 0 = IM at h0 ⊢
  obtain ⟨L, b, h1, h2, h3, h4⟩ := h0.2.2.2.2.1
  exact SW.ret (h1.trans h2.symm) (h0.setD (AG.w2 (by decide) (by decide)) (AG.w2 (by decide) (by decide)) (AJ.rf _) (AJ.rf _) ⟨0, b, w2k, w2k, by omega, fun j hj => by omega⟩)
theorem s_wipe {IB : MI} {JB : MJ} {IM : MI} {JM : MJ} (h : REL IB JB IM JM) : SW (f_X7_wipe IB JB) (f_X8_wipe IM JM) := by
  have h0 := thr h
  unfold f_X7_wipe f_X8_wipe
  simp only [bnd]
  generalize w2 IM 0 0 0 = IM at h0 ⊢
  obtain ⟨q, tb, tu, h1, h2, h3, h4, h5⟩ := h0.2.2.2.2.2.2.2.1
  refine SW.ret (h1.trans h2.symm) (h0.setG (AG.w2 (by decide) (by decide)) (AG.w2 (by decide) (by decide)) (AJ.rf _) (AJ.rf _) ⟨0, tb, tu, w2k, w2k, by omega, fun j hj => by omega, ?_⟩)
  rw [w2j (by decide), w2j (by decide), w2j (by decide), w2j (by decide)]; exact h5
