/-! the law: its script, its rows -/
def LX (k : CT) (b L : Nat) (xs : Nat → Int32) : Prop := va_X b L xs (ks k) (ks k).heap ∧ b < (ks k).heap.size ∧ ¬ kA k b ∧ L < 2 ^ 31
abbrev LV (b : Nat) (gB gM : GG) (i : Nat) : List (Nat × Value) := [(0, .ref b), (1, .ref (gB.1 0)), (2, .ref (gM.1 0)), (3, .int (nI i))]
theorem kL_78 : Cond.constantLong RL 78 (4294967295) ∈ wsL_law := by decide +kernel
section LROWS
variable {k : CT} {cc : ByteArray} {nL : Nat} {own : String} {Ts : List Cond} {R : Room} {g g' : GG} {ws : va_W} {pc : Nat} {lv : List (Nat × Value)} {st : List Value} {b L : Nat} {xs : Nat → Int32}
theorem CX.gx (C : CX k cc nL own Ts R g) (h : GX g g') : CX k cc nL own Ts R g' := by
  obtain ⟨h1, h2⟩ := h
  have e : tg g' = tg g := by show [(g'.2 0, FieldType.byte), (g'.2 1, .int), (g'.2 2, .long), (g'.2 3, .object RX1)] = _; rw [h1]
  refine ⟨C.x, C.b, C.ml, C.n, C.o, C.t, by rw [e]; exact C.K, C.A, ?_, C.N, C.rm, C.cx, C.cy⟩
  have h := C.S
  unfold Stt at h ⊢
  rw [h2 100 (by decide), h2 101 (by decide), h2 102 (by decide), h2 103 (by decide)]
  exact h
theorem r_scr (C : CX k cc nL own Ts R g) (X : LX k b L xs) {x : Int32} {j : Nat} (hx : x = nI j) (hj : j < L) (d : decode cc pc = .ok (.iaload, 1)) (kk : V k ws (pc + 1) lv (.int (xs j) :: st)) : V k ws pc lv (.int x :: .ref b :: st) := by
  subst hx
  intro ls H locs hl hP hD hS
  have e : (nI j).toNatClampNeg = j := nI_clamp (Nat.lt_trans hj X.2.2.2)
  refine va_sld C.x C.b X.1 X.2.1 X.2.2.1 hS (vp_in_nI hj X.2.2.2) d ?_
  rw [e]
  exact kk ls H locs hl hP hD hS
theorem r_slen (C : CX k cc nL own Ts R g) (X : LX k b L xs) (d : decode cc pc = .ok (.arraylength, 1)) (kk : V k ws (pc + 1) lv (.int (nI L) :: st)) : V k ws pc lv (.ref b :: st) := fun ls H locs hl hP hD hS => va_slen C.x C.b X.1 X.2.1 X.2.2.1 hS d (kk ls H locs hl hP hD hS)
theorem L_arg {gB gM : GG} {i c : Nat} {n : Int} (C : CX k cL_law 4 RL wsL_law room_1 g) (X : LX k b L xs) (hc : i + c < L) (hn : Int32.ofInt n = nI c) (d0 : decode cL_law pc = .ok (.aload_n 0, 1)) (d1 : decode cL_law (pc + 1) = .ok (.iload_n 3, 1)) (d2 : decode cL_law (pc + 2) = .ok (.iconst n, 1)) (d3 : decode cL_law (pc + 3) = .ok (.iadd, 1)) (d4 : decode cL_law (pc + 4) = .ok (.iaload, 1)) (kk : V k ws (pc + 5) (LV b gB gM i) (.int (xs (i + c)) :: st)) : V k ws pc (LV b gB gM i) st := by
  refine r_aload_n C d0 rfl 0 rfl ?_
  refine r_iload_n C d1 rfl 3 rfl ?_
  refine r_iconst (v := nI c) C d2 hn ?_
  refine r_iadd C d3 ?_
  exact r_scr C X (nI_add i c) hc d4 kk
end LROWS
