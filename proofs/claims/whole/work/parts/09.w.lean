/-! pure combinators -/
theorem FU_ex : ∃ n : Nat, n = 4000 := ⟨4000, rfl⟩
/-- the fuel: a number that nothing unfolds -/
noncomputable def FU : Nat := Classical.choose FU_ex
theorem FU_eq : FU = 4000 := Classical.choose_spec FU_ex
def bnd {α β : Type} (v : α) (k : α → β) : β := k v
theorem bnd_e {α β : Type} {v : α} {k : α → β} {r : β} (h : bnd v k = r) (x : α) (e : x = v) : k x = r := by subst e; exact h
def chk {β : Type} (b : Bool) (e : Option β) : Option β := match b with
  | true => e
  | false => none
theorem chk_e {β : Type} {b : Bool} {e : Option β} {r : β} (h : chk b e = some r) : b = true ∧ e = some r := by
  cases b with
  | true => exact ⟨rfl, h⟩
  | false => cases h
def bo1 {α β : Type} (x : Option α) (k : α → Option β) : Option β := match x with
  | some a => k a
  | none => none
def bo2 {α β γ : Type} (x : Option (α × β)) (k : α → β → Option γ) : Option γ := match x with
  | some a => k a.1 a.2
  | none => none
def bo3 {α β γ δ : Type} (x : Option (α × β × γ)) (k : α → β → γ → Option δ) : Option δ := match x with
  | some a => k a.1 a.2.1 a.2.2
  | none => none
theorem bo1_e {α β : Type} {x : Option α} {k : α → Option β} {r : β} (h : bo1 x k = some r) : ∃ a, x = some a ∧ k a = some r := by
  cases x with
  | none => cases h
  | some a => exact ⟨a, rfl, h⟩
theorem bo2_e {α β γ : Type} {x : Option (α × β)} {k : α → β → Option γ} {r : γ} (h : bo2 x k = some r) : ∃ a b, x = some (a, b) ∧ k a b = some r := by
  cases x with
  | none => cases h
  | some a => exact ⟨a.1, a.2, rfl, h⟩
theorem bo3_e {α β γ δ : Type} {x : Option (α × β × γ)} {k : α → β → γ → Option δ} {r : δ} (h : bo3 x k = some r) : ∃ a b c, x = some (a, b, c) ∧ k a b c = some r := by
  cases x with
  | none => cases h
  | some a => exact ⟨a.1, a.2.1, a.2.2, rfl, h⟩
theorem itp {α : Type} {c : Prop} [Decidable c] {a b r : α} (h : (if c then a else b) = r) (hc : c) : a = r := by rwa [if_pos hc] at h
theorem itn {α : Type} {c : Prop} [Decidable c] {a b r : α} (h : (if c then a else b) = r) (hc : ¬ c) : b = r := by rwa [if_neg hc] at h
def inb (i : Int32) (n : Nat) : Bool := decide (¬ (i < 0 ∨ n ≤ i.toNatClampNeg))
theorem inb_e {i : Int32} {n : Nat} (h : inb i n = true) : vp_in i n := (of_decide_eq_true h : ¬ (i < 0 ∨ n ≤ i.toNatClampNeg))
def nz (y : Int32) : Bool := decide (¬ y = 0)
theorem nz_e {y : Int32} (h : nz y = true) : ¬ y = 0 := of_decide_eq_true h
def nzl (y : Int64) : Bool := decide (¬ y = 0)
theorem nzl_e {y : Int64} (h : nzl y = true) : ¬ y = 0 := of_decide_eq_true h
def isB (v : Int32) : Bool := decide (v &&& 1 = v)
theorem isB_e {v : Int32} (h : isB v = true) : narrow .boolean (.int v) = .int v := congrArg Value.int (of_decide_eq_true h)
theorem nb0 : narrow .boolean (.int 0) = .int 0 := isB_e (by decide +kernel)
theorem nb1 : narrow .boolean (.int 1) = .int 1 := isB_e (by decide +kernel)
def w1 (I : MI) (c : Nat) (f : Nat → Int32) : MI := fun c' => if c' = c then f else I c'
/-! rams -/
def RC (c : Nat) : Prop := c = 2 ∨ c = 4 ∨ c = 6 ∨ c = 8 ∨ c = 10
theorem rc10 : RC 10 := by unfold RC; omega
def rc (i : Int32) : Nat := 2 + 2 * i.toNatClampNeg
theorem rc_of {i : Int32} (h : vp_in i 4) : RC (rc i) := by
  have h2 : ¬ 4 ≤ i.toNatClampNeg := fun h3 => h (Or.inr h3)
  unfold RC rc
  omega
def rf (g : GG) (I : MI) (c : Nat) : List Value := [.ref (g.1 (c + 1)), .int (I c 1), .int (I c 2), .int (I c 3), .int (I c 4), .int (I c 5), .int (I c 6), .int (I c 7)]
def bf_0 (g : GG) (I : MI) (J : MJ) : List Value := [.ref (g.1 1), .int (I 0 1), .ref (g.1 10), .ref (g.1 12), .ref (g.1 15), .ref (g.1 20), .ref (g.1 24), .ref (g.1 26), .ref (g.1 30), .int (I 0 9), .int (I 0 10), .int (I 0 11), .long (J 0 12)]
def bf_12 (g : GG) (I : MI) (J : MJ) : List Value := [.ref (g.1 13), .ref (g.1 14), .int (I 12 2), .int (I 12 3)]
def bf_15 (g : GG) (I : MI) (J : MJ) : List Value := [.ref (g.1 16), .ref (g.1 17), .int (I 15 2), .ref (g.1 18), .ref (g.1 19), .int (I 15 5), .int (I 15 6)]
def bf_20 (g : GG) (I : MI) (J : MJ) : List Value := [.ref (g.1 21), .int (I 20 1), .int (I 20 2), .ref (g.1 22), .ref (g.1 23), .int (I 20 5), .int (I 20 6)]
def bf_24 (g : GG) (I : MI) (J : MJ) : List Value := [.int (I 24 0), .int (I 24 1), .long (J 24 2), .long (J 24 3), .long (J 24 4), .long (J 24 5), .long (J 24 6), .ref (g.1 25)]
def bf_26 (g : GG) (I : MI) (J : MJ) : List Value := [.ref (g.1 27), .ref (g.1 28), .ref (g.1 29), .int (I 26 3), .int (I 26 4), .int (I 26 5)]
def bf_30 (g : GG) (I : MI) (J : MJ) : List Value := [.ref (g.1 31), .int (I 30 1), .int (I 30 2)]
def wB (g : GG) (I : MI) (J : MJ) : va_W := [(g.1 0, .inr (7, bf_0 g I J)), (g.1 1, .inl (g.2 3, 4, .inr (.inr (.inr (.inr (fun j => some (g.1 (2 + 2 * j)))))))), (g.1 2, .inr (1, rf g I 2)), (g.1 3, .inl (g.2 1, 13, .inl (I 3))), (g.1 4, .inr (1, rf g I 4)), (g.1 5, .inl (g.2 1, 13, .inl (I 5))), (g.1 6, .inr (1, rf g I 6)), (g.1 7, .inl (g.2 1, 13, .inl (I 7))), (g.1 8, .inr (1, rf g I 8)), (g.1 9, .inl (g.2 1, 13, .inl (I 9))), (g.1 10, .inr (1, rf g I 10)), (g.1 11, .inl (g.2 1, 13, .inl (I 11))), (g.1 12, .inr (4, bf_12 g I J)), (g.1 13, .inl (g.2 1, 12, .inl (I 13))), (g.1 14, .inl (g.2 1, 12, .inl (I 14))), (g.1 15, .inr (6, bf_15 g I J)), (g.1 16, .inl (g.2 1, 6, .inl (I 16))), (g.1 17, .inl (g.2 1, 6, .inl (I 17))), (g.1 18, .inl (g.2 1, 28, .inl (I 18))), (g.1 19, .inl (g.2 1, 28, .inl (I 19))), (g.1 20, .inr (3, bf_20 g I J)), (g.1 21, .inl (g.2 0, 150, .inl (I 21))), (g.1 22, .inl (g.2 1, 120, .inl (I 22))), (g.1 23, .inl (g.2 1, 120, .inl (I 23))), (g.1 24, .inr (5, bf_24 g I J)), (g.1 25, .inl (g.2 2, 5, .inr (.inl (J 25)))), (g.1 26, .inr (2, bf_26 g I J)), (g.1 27, .inl (g.2 1, 12, .inl (I 27))), (g.1 28, .inl (g.2 1, 12, .inl (I 28))), (g.1 29, .inl (g.2 1, 12, .inl (I 29))), (g.1 30, .inr (0, bf_30 g I J)), (g.1 31, .inl (g.2 1, 16, .inl (I 31)))]
section WORLDS
variable {k : CT} {g : GG} {I : MI} {J : MJ} {pc : Nat} {lv : List (Nat × Value)} {st : List Value}
theorem bg_0 : (wB g I J)[0]? = some (g.1 0, .inr (7, bf_0 g I J)) := rfl
theorem bv_0_0 : (bf_0 g I J)[0]? = some (.ref (g.1 1)) := rfl
theorem bv_0_1 : (bf_0 g I J)[1]? = some (.int (I 0 1)) := rfl
theorem bs_0_1 {x : Int32} : (wB g I J).set 0 (g.1 0, .inr (7, (bf_0 g I J).set 1 (.int x))) = wB g (w2 I 0 1 x) J := rfl
theorem bv_0_2 : (bf_0 g I J)[2]? = some (.ref (g.1 10)) := rfl
theorem bv_0_3 : (bf_0 g I J)[3]? = some (.ref (g.1 12)) := rfl
theorem bv_0_4 : (bf_0 g I J)[4]? = some (.ref (g.1 15)) := rfl
theorem bv_0_5 : (bf_0 g I J)[5]? = some (.ref (g.1 20)) := rfl
theorem bv_0_6 : (bf_0 g I J)[6]? = some (.ref (g.1 24)) := rfl
theorem bv_0_7 : (bf_0 g I J)[7]? = some (.ref (g.1 26)) := rfl
theorem bv_0_8 : (bf_0 g I J)[8]? = some (.ref (g.1 30)) := rfl
theorem bv_0_9 : (bf_0 g I J)[9]? = some (.int (I 0 9)) := rfl
theorem bs_0_9 {x : Int32} : (wB g I J).set 0 (g.1 0, .inr (7, (bf_0 g I J).set 9 (.int x))) = wB g (w2 I 0 9 x) J := rfl
theorem bv_0_10 : (bf_0 g I J)[10]? = some (.int (I 0 10)) := rfl
theorem bs_0_10 {x : Int32} : (wB g I J).set 0 (g.1 0, .inr (7, (bf_0 g I J).set 10 (.int x))) = wB g (w2 I 0 10 x) J := rfl
theorem bv_0_11 : (bf_0 g I J)[11]? = some (.int (I 0 11)) := rfl
theorem bs_0_11 {x : Int32} : (wB g I J).set 0 (g.1 0, .inr (7, (bf_0 g I J).set 11 (.int x))) = wB g (w2 I 0 11 x) J := rfl
theorem bv_0_12 : (bf_0 g I J)[12]? = some (.long (J 0 12)) := rfl
theorem bs_0_12 {x : Int64} : (wB g I J).set 0 (g.1 0, .inr (7, (bf_0 g I J).set 12 (.long x))) = wB g I (w2J J 0 12 x) := rfl
theorem bg_1 : (wB g I J)[1]? = some (g.1 1, .inl (g.2 3, 4, .inr (.inr (.inr (.inr (fun j => some (g.1 (2 + 2 * j)))))))) := rfl
theorem bg_3 : (wB g I J)[3]? = some (g.1 3, .inl (g.2 1, 13, .inl (I 3))) := rfl
theorem ba_3 {j : Nat} {x : Int32} : (wB g I J).set 3 (g.1 3, .inl (g.2 1, 13, .inl (upd (I 3) j x))) = wB g (w2 I 3 j x) J := rfl
theorem bc_3 {f : Nat → Int32} : (wB g I J).set 3 (g.1 3, .inl (g.2 1, 13, .inl f)) = wB g (w1 I 3 f) J := rfl
theorem bg_5 : (wB g I J)[5]? = some (g.1 5, .inl (g.2 1, 13, .inl (I 5))) := rfl
theorem ba_5 {j : Nat} {x : Int32} : (wB g I J).set 5 (g.1 5, .inl (g.2 1, 13, .inl (upd (I 5) j x))) = wB g (w2 I 5 j x) J := rfl
theorem bc_5 {f : Nat → Int32} : (wB g I J).set 5 (g.1 5, .inl (g.2 1, 13, .inl f)) = wB g (w1 I 5 f) J := rfl
theorem bg_7 : (wB g I J)[7]? = some (g.1 7, .inl (g.2 1, 13, .inl (I 7))) := rfl
theorem ba_7 {j : Nat} {x : Int32} : (wB g I J).set 7 (g.1 7, .inl (g.2 1, 13, .inl (upd (I 7) j x))) = wB g (w2 I 7 j x) J := rfl
theorem bc_7 {f : Nat → Int32} : (wB g I J).set 7 (g.1 7, .inl (g.2 1, 13, .inl f)) = wB g (w1 I 7 f) J := rfl
theorem bg_9 : (wB g I J)[9]? = some (g.1 9, .inl (g.2 1, 13, .inl (I 9))) := rfl
theorem ba_9 {j : Nat} {x : Int32} : (wB g I J).set 9 (g.1 9, .inl (g.2 1, 13, .inl (upd (I 9) j x))) = wB g (w2 I 9 j x) J := rfl
theorem bc_9 {f : Nat → Int32} : (wB g I J).set 9 (g.1 9, .inl (g.2 1, 13, .inl f)) = wB g (w1 I 9 f) J := rfl
theorem bg_11 : (wB g I J)[11]? = some (g.1 11, .inl (g.2 1, 13, .inl (I 11))) := rfl
theorem ba_11 {j : Nat} {x : Int32} : (wB g I J).set 11 (g.1 11, .inl (g.2 1, 13, .inl (upd (I 11) j x))) = wB g (w2 I 11 j x) J := rfl
theorem bc_11 {f : Nat → Int32} : (wB g I J).set 11 (g.1 11, .inl (g.2 1, 13, .inl f)) = wB g (w1 I 11 f) J := rfl
theorem bg_12 : (wB g I J)[12]? = some (g.1 12, .inr (4, bf_12 g I J)) := rfl
theorem bv_12_0 : (bf_12 g I J)[0]? = some (.ref (g.1 13)) := rfl
theorem bv_12_1 : (bf_12 g I J)[1]? = some (.ref (g.1 14)) := rfl
theorem bv_12_2 : (bf_12 g I J)[2]? = some (.int (I 12 2)) := rfl
theorem bs_12_2 {x : Int32} : (wB g I J).set 12 (g.1 12, .inr (4, (bf_12 g I J).set 2 (.int x))) = wB g (w2 I 12 2 x) J := rfl
theorem bv_12_3 : (bf_12 g I J)[3]? = some (.int (I 12 3)) := rfl
theorem bs_12_3 {x : Int32} : (wB g I J).set 12 (g.1 12, .inr (4, (bf_12 g I J).set 3 (.int x))) = wB g (w2 I 12 3 x) J := rfl
theorem bg_13 : (wB g I J)[13]? = some (g.1 13, .inl (g.2 1, 12, .inl (I 13))) := rfl
theorem ba_13 {j : Nat} {x : Int32} : (wB g I J).set 13 (g.1 13, .inl (g.2 1, 12, .inl (upd (I 13) j x))) = wB g (w2 I 13 j x) J := rfl
theorem bc_13 {f : Nat → Int32} : (wB g I J).set 13 (g.1 13, .inl (g.2 1, 12, .inl f)) = wB g (w1 I 13 f) J := rfl
theorem bg_14 : (wB g I J)[14]? = some (g.1 14, .inl (g.2 1, 12, .inl (I 14))) := rfl
theorem ba_14 {j : Nat} {x : Int32} : (wB g I J).set 14 (g.1 14, .inl (g.2 1, 12, .inl (upd (I 14) j x))) = wB g (w2 I 14 j x) J := rfl
theorem bc_14 {f : Nat → Int32} : (wB g I J).set 14 (g.1 14, .inl (g.2 1, 12, .inl f)) = wB g (w1 I 14 f) J := rfl
theorem bg_15 : (wB g I J)[15]? = some (g.1 15, .inr (6, bf_15 g I J)) := rfl
theorem bv_15_0 : (bf_15 g I J)[0]? = some (.ref (g.1 16)) := rfl
theorem bv_15_1 : (bf_15 g I J)[1]? = some (.ref (g.1 17)) := rfl
theorem bv_15_2 : (bf_15 g I J)[2]? = some (.int (I 15 2)) := rfl
theorem bs_15_2 {x : Int32} : (wB g I J).set 15 (g.1 15, .inr (6, (bf_15 g I J).set 2 (.int x))) = wB g (w2 I 15 2 x) J := rfl
theorem bv_15_3 : (bf_15 g I J)[3]? = some (.ref (g.1 18)) := rfl
theorem bv_15_4 : (bf_15 g I J)[4]? = some (.ref (g.1 19)) := rfl
theorem bv_15_5 : (bf_15 g I J)[5]? = some (.int (I 15 5)) := rfl
theorem bs_15_5 {x : Int32} : (wB g I J).set 15 (g.1 15, .inr (6, (bf_15 g I J).set 5 (.int x))) = wB g (w2 I 15 5 x) J := rfl
theorem bv_15_6 : (bf_15 g I J)[6]? = some (.int (I 15 6)) := rfl
theorem bs_15_6 {x : Int32} : (wB g I J).set 15 (g.1 15, .inr (6, (bf_15 g I J).set 6 (.int x))) = wB g (w2 I 15 6 x) J := rfl
theorem bg_16 : (wB g I J)[16]? = some (g.1 16, .inl (g.2 1, 6, .inl (I 16))) := rfl
theorem ba_16 {j : Nat} {x : Int32} : (wB g I J).set 16 (g.1 16, .inl (g.2 1, 6, .inl (upd (I 16) j x))) = wB g (w2 I 16 j x) J := rfl
theorem bc_16 {f : Nat → Int32} : (wB g I J).set 16 (g.1 16, .inl (g.2 1, 6, .inl f)) = wB g (w1 I 16 f) J := rfl
theorem bg_17 : (wB g I J)[17]? = some (g.1 17, .inl (g.2 1, 6, .inl (I 17))) := rfl
theorem ba_17 {j : Nat} {x : Int32} : (wB g I J).set 17 (g.1 17, .inl (g.2 1, 6, .inl (upd (I 17) j x))) = wB g (w2 I 17 j x) J := rfl
theorem bc_17 {f : Nat → Int32} : (wB g I J).set 17 (g.1 17, .inl (g.2 1, 6, .inl f)) = wB g (w1 I 17 f) J := rfl
theorem bg_18 : (wB g I J)[18]? = some (g.1 18, .inl (g.2 1, 28, .inl (I 18))) := rfl
theorem ba_18 {j : Nat} {x : Int32} : (wB g I J).set 18 (g.1 18, .inl (g.2 1, 28, .inl (upd (I 18) j x))) = wB g (w2 I 18 j x) J := rfl
theorem bc_18 {f : Nat → Int32} : (wB g I J).set 18 (g.1 18, .inl (g.2 1, 28, .inl f)) = wB g (w1 I 18 f) J := rfl
theorem bg_19 : (wB g I J)[19]? = some (g.1 19, .inl (g.2 1, 28, .inl (I 19))) := rfl
theorem ba_19 {j : Nat} {x : Int32} : (wB g I J).set 19 (g.1 19, .inl (g.2 1, 28, .inl (upd (I 19) j x))) = wB g (w2 I 19 j x) J := rfl
theorem bc_19 {f : Nat → Int32} : (wB g I J).set 19 (g.1 19, .inl (g.2 1, 28, .inl f)) = wB g (w1 I 19 f) J := rfl
theorem bg_20 : (wB g I J)[20]? = some (g.1 20, .inr (3, bf_20 g I J)) := rfl
theorem bv_20_0 : (bf_20 g I J)[0]? = some (.ref (g.1 21)) := rfl
theorem bv_20_1 : (bf_20 g I J)[1]? = some (.int (I 20 1)) := rfl
theorem bs_20_1 {x : Int32} : (wB g I J).set 20 (g.1 20, .inr (3, (bf_20 g I J).set 1 (.int x))) = wB g (w2 I 20 1 x) J := rfl
theorem bv_20_2 : (bf_20 g I J)[2]? = some (.int (I 20 2)) := rfl
theorem bs_20_2 {x : Int32} : (wB g I J).set 20 (g.1 20, .inr (3, (bf_20 g I J).set 2 (.int x))) = wB g (w2 I 20 2 x) J := rfl
theorem bv_20_3 : (bf_20 g I J)[3]? = some (.ref (g.1 22)) := rfl
theorem bv_20_4 : (bf_20 g I J)[4]? = some (.ref (g.1 23)) := rfl
theorem bv_20_5 : (bf_20 g I J)[5]? = some (.int (I 20 5)) := rfl
theorem bs_20_5 {x : Int32} : (wB g I J).set 20 (g.1 20, .inr (3, (bf_20 g I J).set 5 (.int x))) = wB g (w2 I 20 5 x) J := rfl
theorem bv_20_6 : (bf_20 g I J)[6]? = some (.int (I 20 6)) := rfl
theorem bs_20_6 {x : Int32} : (wB g I J).set 20 (g.1 20, .inr (3, (bf_20 g I J).set 6 (.int x))) = wB g (w2 I 20 6 x) J := rfl
theorem bg_21 : (wB g I J)[21]? = some (g.1 21, .inl (g.2 0, 150, .inl (I 21))) := rfl
theorem ba_21 {j : Nat} {x : Int32} : (wB g I J).set 21 (g.1 21, .inl (g.2 0, 150, .inl (upd (I 21) j x))) = wB g (w2 I 21 j x) J := rfl
theorem bc_21 {f : Nat → Int32} : (wB g I J).set 21 (g.1 21, .inl (g.2 0, 150, .inl f)) = wB g (w1 I 21 f) J := rfl
theorem bg_22 : (wB g I J)[22]? = some (g.1 22, .inl (g.2 1, 120, .inl (I 22))) := rfl
theorem ba_22 {j : Nat} {x : Int32} : (wB g I J).set 22 (g.1 22, .inl (g.2 1, 120, .inl (upd (I 22) j x))) = wB g (w2 I 22 j x) J := rfl
theorem bc_22 {f : Nat → Int32} : (wB g I J).set 22 (g.1 22, .inl (g.2 1, 120, .inl f)) = wB g (w1 I 22 f) J := rfl
theorem bg_23 : (wB g I J)[23]? = some (g.1 23, .inl (g.2 1, 120, .inl (I 23))) := rfl
theorem ba_23 {j : Nat} {x : Int32} : (wB g I J).set 23 (g.1 23, .inl (g.2 1, 120, .inl (upd (I 23) j x))) = wB g (w2 I 23 j x) J := rfl
theorem bc_23 {f : Nat → Int32} : (wB g I J).set 23 (g.1 23, .inl (g.2 1, 120, .inl f)) = wB g (w1 I 23 f) J := rfl
theorem bg_24 : (wB g I J)[24]? = some (g.1 24, .inr (5, bf_24 g I J)) := rfl
theorem bv_24_0 : (bf_24 g I J)[0]? = some (.int (I 24 0)) := rfl
theorem bs_24_0 {x : Int32} : (wB g I J).set 24 (g.1 24, .inr (5, (bf_24 g I J).set 0 (.int x))) = wB g (w2 I 24 0 x) J := rfl
theorem bv_24_1 : (bf_24 g I J)[1]? = some (.int (I 24 1)) := rfl
theorem bs_24_1 {x : Int32} : (wB g I J).set 24 (g.1 24, .inr (5, (bf_24 g I J).set 1 (.int x))) = wB g (w2 I 24 1 x) J := rfl
theorem bv_24_2 : (bf_24 g I J)[2]? = some (.long (J 24 2)) := rfl
theorem bs_24_2 {x : Int64} : (wB g I J).set 24 (g.1 24, .inr (5, (bf_24 g I J).set 2 (.long x))) = wB g I (w2J J 24 2 x) := rfl
theorem bv_24_3 : (bf_24 g I J)[3]? = some (.long (J 24 3)) := rfl
theorem bs_24_3 {x : Int64} : (wB g I J).set 24 (g.1 24, .inr (5, (bf_24 g I J).set 3 (.long x))) = wB g I (w2J J 24 3 x) := rfl
theorem bv_24_4 : (bf_24 g I J)[4]? = some (.long (J 24 4)) := rfl
theorem bs_24_4 {x : Int64} : (wB g I J).set 24 (g.1 24, .inr (5, (bf_24 g I J).set 4 (.long x))) = wB g I (w2J J 24 4 x) := rfl
theorem bv_24_5 : (bf_24 g I J)[5]? = some (.long (J 24 5)) := rfl
theorem bs_24_5 {x : Int64} : (wB g I J).set 24 (g.1 24, .inr (5, (bf_24 g I J).set 5 (.long x))) = wB g I (w2J J 24 5 x) := rfl
theorem bv_24_6 : (bf_24 g I J)[6]? = some (.long (J 24 6)) := rfl
theorem bs_24_6 {x : Int64} : (wB g I J).set 24 (g.1 24, .inr (5, (bf_24 g I J).set 6 (.long x))) = wB g I (w2J J 24 6 x) := rfl
theorem bv_24_7 : (bf_24 g I J)[7]? = some (.ref (g.1 25)) := rfl
theorem bg_25 : (wB g I J)[25]? = some (g.1 25, .inl (g.2 2, 5, .inr (.inl (J 25)))) := rfl
theorem ba_25 {j : Nat} {x : Int64} : (wB g I J).set 25 (g.1 25, .inl (g.2 2, 5, .inr (.inl (vp_updL (J 25) j x)))) = wB g I (w2J J 25 j x) := rfl
theorem bg_26 : (wB g I J)[26]? = some (g.1 26, .inr (2, bf_26 g I J)) := rfl
theorem bv_26_0 : (bf_26 g I J)[0]? = some (.ref (g.1 27)) := rfl
theorem bv_26_1 : (bf_26 g I J)[1]? = some (.ref (g.1 28)) := rfl
theorem bv_26_2 : (bf_26 g I J)[2]? = some (.ref (g.1 29)) := rfl
theorem bv_26_3 : (bf_26 g I J)[3]? = some (.int (I 26 3)) := rfl
theorem bs_26_3 {x : Int32} : (wB g I J).set 26 (g.1 26, .inr (2, (bf_26 g I J).set 3 (.int x))) = wB g (w2 I 26 3 x) J := rfl
theorem bv_26_4 : (bf_26 g I J)[4]? = some (.int (I 26 4)) := rfl
theorem bs_26_4 {x : Int32} : (wB g I J).set 26 (g.1 26, .inr (2, (bf_26 g I J).set 4 (.int x))) = wB g (w2 I 26 4 x) J := rfl
theorem bv_26_5 : (bf_26 g I J)[5]? = some (.int (I 26 5)) := rfl
theorem bs_26_5 {x : Int32} : (wB g I J).set 26 (g.1 26, .inr (2, (bf_26 g I J).set 5 (.int x))) = wB g (w2 I 26 5 x) J := rfl
theorem bg_27 : (wB g I J)[27]? = some (g.1 27, .inl (g.2 1, 12, .inl (I 27))) := rfl
theorem ba_27 {j : Nat} {x : Int32} : (wB g I J).set 27 (g.1 27, .inl (g.2 1, 12, .inl (upd (I 27) j x))) = wB g (w2 I 27 j x) J := rfl
theorem bc_27 {f : Nat → Int32} : (wB g I J).set 27 (g.1 27, .inl (g.2 1, 12, .inl f)) = wB g (w1 I 27 f) J := rfl
theorem bg_28 : (wB g I J)[28]? = some (g.1 28, .inl (g.2 1, 12, .inl (I 28))) := rfl
theorem ba_28 {j : Nat} {x : Int32} : (wB g I J).set 28 (g.1 28, .inl (g.2 1, 12, .inl (upd (I 28) j x))) = wB g (w2 I 28 j x) J := rfl
theorem bc_28 {f : Nat → Int32} : (wB g I J).set 28 (g.1 28, .inl (g.2 1, 12, .inl f)) = wB g (w1 I 28 f) J := rfl
theorem bg_29 : (wB g I J)[29]? = some (g.1 29, .inl (g.2 1, 12, .inl (I 29))) := rfl
theorem ba_29 {j : Nat} {x : Int32} : (wB g I J).set 29 (g.1 29, .inl (g.2 1, 12, .inl (upd (I 29) j x))) = wB g (w2 I 29 j x) J := rfl
theorem bc_29 {f : Nat → Int32} : (wB g I J).set 29 (g.1 29, .inl (g.2 1, 12, .inl f)) = wB g (w1 I 29 f) J := rfl
theorem bg_30 : (wB g I J)[30]? = some (g.1 30, .inr (0, bf_30 g I J)) := rfl
theorem bv_30_0 : (bf_30 g I J)[0]? = some (.ref (g.1 31)) := rfl
theorem bv_30_1 : (bf_30 g I J)[1]? = some (.int (I 30 1)) := rfl
theorem bs_30_1 {x : Int32} : (wB g I J).set 30 (g.1 30, .inr (0, (bf_30 g I J).set 1 (.int x))) = wB g (w2 I 30 1 x) J := rfl
theorem bv_30_2 : (bf_30 g I J)[2]? = some (.int (I 30 2)) := rfl
theorem bs_30_2 {x : Int32} : (wB g I J).set 30 (g.1 30, .inr (0, (bf_30 g I J).set 2 (.int x))) = wB g (w2 I 30 2 x) J := rfl
theorem bg_31 : (wB g I J)[31]? = some (g.1 31, .inl (g.2 1, 16, .inl (I 31))) := rfl
theorem ba_31 {j : Nat} {x : Int32} : (wB g I J).set 31 (g.1 31, .inl (g.2 1, 16, .inl (upd (I 31) j x))) = wB g (w2 I 31 j x) J := rfl
theorem bc_31 {f : Nat → Int32} : (wB g I J).set 31 (g.1 31, .inl (g.2 1, 16, .inl f)) = wB g (w1 I 31 f) J := rfl
theorem brg {c : Nat} (h : RC c) : (wB g I J)[c]? = some (g.1 c, .inr (1, rf g I c)) := by rcases h with rfl | rfl | rfl | rfl | rfl <;> rfl
theorem brt {c : Nat} (h : RC c) : (wB g I J)[c + 1]? = some (g.1 (c + 1), .inl (g.2 1, 13, .inl (I (c + 1)))) := by rcases h with rfl | rfl | rfl | rfl | rfl <;> rfl
theorem brs_1 {c : Nat} (h : RC c) {x : Int32} : (wB g I J).set c (g.1 c, .inr (1, (rf g I c).set 1 (.int x))) = wB g (w2 I c 1 x) J := by rcases h with rfl | rfl | rfl | rfl | rfl <;> rfl
theorem brs_2 {c : Nat} (h : RC c) {x : Int32} : (wB g I J).set c (g.1 c, .inr (1, (rf g I c).set 2 (.int x))) = wB g (w2 I c 2 x) J := by rcases h with rfl | rfl | rfl | rfl | rfl <;> rfl
theorem brs_3 {c : Nat} (h : RC c) {x : Int32} : (wB g I J).set c (g.1 c, .inr (1, (rf g I c).set 3 (.int x))) = wB g (w2 I c 3 x) J := by rcases h with rfl | rfl | rfl | rfl | rfl <;> rfl
theorem brs_4 {c : Nat} (h : RC c) {x : Int32} : (wB g I J).set c (g.1 c, .inr (1, (rf g I c).set 4 (.int x))) = wB g (w2 I c 4 x) J := by rcases h with rfl | rfl | rfl | rfl | rfl <;> rfl
theorem brs_5 {c : Nat} (h : RC c) {x : Int32} : (wB g I J).set c (g.1 c, .inr (1, (rf g I c).set 5 (.int x))) = wB g (w2 I c 5 x) J := by rcases h with rfl | rfl | rfl | rfl | rfl <;> rfl
theorem brs_6 {c : Nat} (h : RC c) {x : Int32} : (wB g I J).set c (g.1 c, .inr (1, (rf g I c).set 6 (.int x))) = wB g (w2 I c 6 x) J := by rcases h with rfl | rfl | rfl | rfl | rfl <;> rfl
theorem brs_7 {c : Nat} (h : RC c) {x : Int32} : (wB g I J).set c (g.1 c, .inr (1, (rf g I c).set 7 (.int x))) = wB g (w2 I c 7 x) J := by rcases h with rfl | rfl | rfl | rfl | rfl <;> rfl
theorem brts {c j : Nat} (h : RC c) {x : Int32} : (wB g I J).set (c + 1) (g.1 (c + 1), .inl (g.2 1, 13, .inl (upd (I (c + 1)) j x))) = wB g (w2 I (c + 1) j x) J := by rcases h with rfl | rfl | rfl | rfl | rfl <;> rfl
theorem brtc {c : Nat} (h : RC c) {f : Nat → Int32} : (wB g I J).set (c + 1) (g.1 (c + 1), .inl (g.2 1, 13, .inl f)) = wB g (w1 I (c + 1) f) J := by rcases h with rfl | rfl | rfl | rfl | rfl <;> rfl
theorem brv_0 {c : Nat} : (rf g I c)[0]? = some (.ref (g.1 (c + 1))) := rfl
theorem brv_1 {c : Nat} : (rf g I c)[1]? = some (.int (I c 1)) := rfl
theorem brv_2 {c : Nat} : (rf g I c)[2]? = some (.int (I c 2)) := rfl
theorem brv_3 {c : Nat} : (rf g I c)[3]? = some (.int (I c 3)) := rfl
theorem brv_4 {c : Nat} : (rf g I c)[4]? = some (.int (I c 4)) := rfl
theorem brv_5 {c : Nat} : (rf g I c)[5]? = some (.int (I c 5)) := rfl
theorem brv_6 {c : Nat} : (rf g I c)[6]? = some (.int (I c 6)) := rfl
theorem brv_7 {c : Nat} : (rf g I c)[7]? = some (.int (I c 7)) := rfl
def mf_0 (g : GG) (I : MI) (J : MJ) : List Value := [.int (I 0 0), .long (J 0 1), .int (I 0 2), .ref (g.1 1), .ref (g.1 2), .int (I 0 5), .long (J 0 6), .long (J 0 7), .long (J 0 8), .int (I 0 9), .ref (g.1 3), .ref (g.1 4), .int (I 0 12), .int (I 0 13), .int (I 0 14), .ref (g.1 5), .ref (g.1 6), .int (I 0 17), .int (I 0 18), .ref (g.1 7), .int (I 0 20), .int (I 0 21), .ref (g.1 8), .ref (g.1 9), .int (I 0 24), .int (I 0 25), .int (I 0 26), .int (I 0 27), .int (I 0 28), .int (I 0 29), .ref (g.1 10), .int (I 0 31), .ref (g.1 11), .ref (g.1 12), .ref (g.1 13), .int (I 0 35), .int (I 0 36), .ref (g.1 14)]
def wM (g : GG) (I : MI) (J : MJ) : va_W := [(g.1 0, .inr (8, mf_0 g I J)), (g.1 1, .inl (g.2 1, 52, .inl (I 1))), (g.1 2, .inl (g.2 1, 13, .inl (I 2))), (g.1 3, .inl (g.2 1, 12, .inl (I 3))), (g.1 4, .inl (g.2 1, 12, .inl (I 4))), (g.1 5, .inl (g.2 1, 6, .inl (I 5))), (g.1 6, .inl (g.2 1, 6, .inl (I 6))), (g.1 7, .inl (g.2 1, 150, .inl (I 7))), (g.1 8, .inl (g.2 1, 48, .inl (I 8))), (g.1 9, .inl (g.2 1, 52, .inl (I 9))), (g.1 10, .inl (g.2 2, 11, .inr (.inl (J 10)))), (g.1 11, .inl (g.2 1, 12, .inl (I 11))), (g.1 12, .inl (g.2 1, 12, .inl (I 12))), (g.1 13, .inl (g.2 1, 12, .inl (I 13))), (g.1 14, .inl (g.2 1, 4, .inl (I 14)))]
theorem mg_0 : (wM g I J)[0]? = some (g.1 0, .inr (8, mf_0 g I J)) := rfl
theorem mv_0_0 : (mf_0 g I J)[0]? = some (.int (I 0 0)) := rfl
theorem ms_0_0 {x : Int32} : (wM g I J).set 0 (g.1 0, .inr (8, (mf_0 g I J).set 0 (.int x))) = wM g (w2 I 0 0 x) J := rfl
theorem mv_0_1 : (mf_0 g I J)[1]? = some (.long (J 0 1)) := rfl
theorem ms_0_1 {x : Int64} : (wM g I J).set 0 (g.1 0, .inr (8, (mf_0 g I J).set 1 (.long x))) = wM g I (w2J J 0 1 x) := rfl
theorem mv_0_2 : (mf_0 g I J)[2]? = some (.int (I 0 2)) := rfl
theorem ms_0_2 {x : Int32} : (wM g I J).set 0 (g.1 0, .inr (8, (mf_0 g I J).set 2 (.int x))) = wM g (w2 I 0 2 x) J := rfl
theorem mv_0_3 : (mf_0 g I J)[3]? = some (.ref (g.1 1)) := rfl
theorem mv_0_4 : (mf_0 g I J)[4]? = some (.ref (g.1 2)) := rfl
theorem mv_0_5 : (mf_0 g I J)[5]? = some (.int (I 0 5)) := rfl
theorem ms_0_5 {x : Int32} : (wM g I J).set 0 (g.1 0, .inr (8, (mf_0 g I J).set 5 (.int x))) = wM g (w2 I 0 5 x) J := rfl
theorem mv_0_6 : (mf_0 g I J)[6]? = some (.long (J 0 6)) := rfl
theorem ms_0_6 {x : Int64} : (wM g I J).set 0 (g.1 0, .inr (8, (mf_0 g I J).set 6 (.long x))) = wM g I (w2J J 0 6 x) := rfl
theorem mv_0_7 : (mf_0 g I J)[7]? = some (.long (J 0 7)) := rfl
theorem ms_0_7 {x : Int64} : (wM g I J).set 0 (g.1 0, .inr (8, (mf_0 g I J).set 7 (.long x))) = wM g I (w2J J 0 7 x) := rfl
theorem mv_0_8 : (mf_0 g I J)[8]? = some (.long (J 0 8)) := rfl
theorem ms_0_8 {x : Int64} : (wM g I J).set 0 (g.1 0, .inr (8, (mf_0 g I J).set 8 (.long x))) = wM g I (w2J J 0 8 x) := rfl
theorem mv_0_9 : (mf_0 g I J)[9]? = some (.int (I 0 9)) := rfl
theorem ms_0_9 {x : Int32} : (wM g I J).set 0 (g.1 0, .inr (8, (mf_0 g I J).set 9 (.int x))) = wM g (w2 I 0 9 x) J := rfl
theorem mv_0_10 : (mf_0 g I J)[10]? = some (.ref (g.1 3)) := rfl
theorem mv_0_11 : (mf_0 g I J)[11]? = some (.ref (g.1 4)) := rfl
theorem mv_0_12 : (mf_0 g I J)[12]? = some (.int (I 0 12)) := rfl
theorem ms_0_12 {x : Int32} : (wM g I J).set 0 (g.1 0, .inr (8, (mf_0 g I J).set 12 (.int x))) = wM g (w2 I 0 12 x) J := rfl
theorem mv_0_13 : (mf_0 g I J)[13]? = some (.int (I 0 13)) := rfl
theorem ms_0_13 {x : Int32} : (wM g I J).set 0 (g.1 0, .inr (8, (mf_0 g I J).set 13 (.int x))) = wM g (w2 I 0 13 x) J := rfl
theorem mv_0_14 : (mf_0 g I J)[14]? = some (.int (I 0 14)) := rfl
theorem ms_0_14 {x : Int32} : (wM g I J).set 0 (g.1 0, .inr (8, (mf_0 g I J).set 14 (.int x))) = wM g (w2 I 0 14 x) J := rfl
theorem mv_0_15 : (mf_0 g I J)[15]? = some (.ref (g.1 5)) := rfl
theorem mv_0_16 : (mf_0 g I J)[16]? = some (.ref (g.1 6)) := rfl
theorem mv_0_17 : (mf_0 g I J)[17]? = some (.int (I 0 17)) := rfl
theorem ms_0_17 {x : Int32} : (wM g I J).set 0 (g.1 0, .inr (8, (mf_0 g I J).set 17 (.int x))) = wM g (w2 I 0 17 x) J := rfl
theorem mv_0_18 : (mf_0 g I J)[18]? = some (.int (I 0 18)) := rfl
theorem ms_0_18 {x : Int32} : (wM g I J).set 0 (g.1 0, .inr (8, (mf_0 g I J).set 18 (.int x))) = wM g (w2 I 0 18 x) J := rfl
theorem mv_0_19 : (mf_0 g I J)[19]? = some (.ref (g.1 7)) := rfl
theorem mv_0_20 : (mf_0 g I J)[20]? = some (.int (I 0 20)) := rfl
theorem ms_0_20 {x : Int32} : (wM g I J).set 0 (g.1 0, .inr (8, (mf_0 g I J).set 20 (.int x))) = wM g (w2 I 0 20 x) J := rfl
theorem mv_0_21 : (mf_0 g I J)[21]? = some (.int (I 0 21)) := rfl
theorem ms_0_21 {x : Int32} : (wM g I J).set 0 (g.1 0, .inr (8, (mf_0 g I J).set 21 (.int x))) = wM g (w2 I 0 21 x) J := rfl
theorem mv_0_22 : (mf_0 g I J)[22]? = some (.ref (g.1 8)) := rfl
theorem mv_0_23 : (mf_0 g I J)[23]? = some (.ref (g.1 9)) := rfl
theorem mv_0_24 : (mf_0 g I J)[24]? = some (.int (I 0 24)) := rfl
theorem ms_0_24 {x : Int32} : (wM g I J).set 0 (g.1 0, .inr (8, (mf_0 g I J).set 24 (.int x))) = wM g (w2 I 0 24 x) J := rfl
theorem mv_0_25 : (mf_0 g I J)[25]? = some (.int (I 0 25)) := rfl
theorem ms_0_25 {x : Int32} : (wM g I J).set 0 (g.1 0, .inr (8, (mf_0 g I J).set 25 (.int x))) = wM g (w2 I 0 25 x) J := rfl
theorem mv_0_26 : (mf_0 g I J)[26]? = some (.int (I 0 26)) := rfl
theorem ms_0_26 {x : Int32} : (wM g I J).set 0 (g.1 0, .inr (8, (mf_0 g I J).set 26 (.int x))) = wM g (w2 I 0 26 x) J := rfl
theorem mv_0_27 : (mf_0 g I J)[27]? = some (.int (I 0 27)) := rfl
theorem ms_0_27 {x : Int32} : (wM g I J).set 0 (g.1 0, .inr (8, (mf_0 g I J).set 27 (.int x))) = wM g (w2 I 0 27 x) J := rfl
theorem mv_0_28 : (mf_0 g I J)[28]? = some (.int (I 0 28)) := rfl
theorem ms_0_28 {x : Int32} : (wM g I J).set 0 (g.1 0, .inr (8, (mf_0 g I J).set 28 (.int x))) = wM g (w2 I 0 28 x) J := rfl
theorem mv_0_29 : (mf_0 g I J)[29]? = some (.int (I 0 29)) := rfl
theorem ms_0_29 {x : Int32} : (wM g I J).set 0 (g.1 0, .inr (8, (mf_0 g I J).set 29 (.int x))) = wM g (w2 I 0 29 x) J := rfl
theorem mv_0_30 : (mf_0 g I J)[30]? = some (.ref (g.1 10)) := rfl
theorem mv_0_31 : (mf_0 g I J)[31]? = some (.int (I 0 31)) := rfl
theorem ms_0_31 {x : Int32} : (wM g I J).set 0 (g.1 0, .inr (8, (mf_0 g I J).set 31 (.int x))) = wM g (w2 I 0 31 x) J := rfl
theorem mv_0_32 : (mf_0 g I J)[32]? = some (.ref (g.1 11)) := rfl
theorem mv_0_33 : (mf_0 g I J)[33]? = some (.ref (g.1 12)) := rfl
theorem mv_0_34 : (mf_0 g I J)[34]? = some (.ref (g.1 13)) := rfl
theorem mv_0_35 : (mf_0 g I J)[35]? = some (.int (I 0 35)) := rfl
theorem ms_0_35 {x : Int32} : (wM g I J).set 0 (g.1 0, .inr (8, (mf_0 g I J).set 35 (.int x))) = wM g (w2 I 0 35 x) J := rfl
theorem mv_0_36 : (mf_0 g I J)[36]? = some (.int (I 0 36)) := rfl
theorem ms_0_36 {x : Int32} : (wM g I J).set 0 (g.1 0, .inr (8, (mf_0 g I J).set 36 (.int x))) = wM g (w2 I 0 36 x) J := rfl
theorem mv_0_37 : (mf_0 g I J)[37]? = some (.ref (g.1 14)) := rfl
theorem mg_1 : (wM g I J)[1]? = some (g.1 1, .inl (g.2 1, 52, .inl (I 1))) := rfl
theorem ma_1 {j : Nat} {x : Int32} : (wM g I J).set 1 (g.1 1, .inl (g.2 1, 52, .inl (upd (I 1) j x))) = wM g (w2 I 1 j x) J := rfl
theorem mg_2 : (wM g I J)[2]? = some (g.1 2, .inl (g.2 1, 13, .inl (I 2))) := rfl
theorem ma_2 {j : Nat} {x : Int32} : (wM g I J).set 2 (g.1 2, .inl (g.2 1, 13, .inl (upd (I 2) j x))) = wM g (w2 I 2 j x) J := rfl
theorem mg_3 : (wM g I J)[3]? = some (g.1 3, .inl (g.2 1, 12, .inl (I 3))) := rfl
theorem ma_3 {j : Nat} {x : Int32} : (wM g I J).set 3 (g.1 3, .inl (g.2 1, 12, .inl (upd (I 3) j x))) = wM g (w2 I 3 j x) J := rfl
theorem mg_4 : (wM g I J)[4]? = some (g.1 4, .inl (g.2 1, 12, .inl (I 4))) := rfl
theorem ma_4 {j : Nat} {x : Int32} : (wM g I J).set 4 (g.1 4, .inl (g.2 1, 12, .inl (upd (I 4) j x))) = wM g (w2 I 4 j x) J := rfl
theorem mg_5 : (wM g I J)[5]? = some (g.1 5, .inl (g.2 1, 6, .inl (I 5))) := rfl
theorem ma_5 {j : Nat} {x : Int32} : (wM g I J).set 5 (g.1 5, .inl (g.2 1, 6, .inl (upd (I 5) j x))) = wM g (w2 I 5 j x) J := rfl
theorem mg_6 : (wM g I J)[6]? = some (g.1 6, .inl (g.2 1, 6, .inl (I 6))) := rfl
theorem ma_6 {j : Nat} {x : Int32} : (wM g I J).set 6 (g.1 6, .inl (g.2 1, 6, .inl (upd (I 6) j x))) = wM g (w2 I 6 j x) J := rfl
theorem mg_7 : (wM g I J)[7]? = some (g.1 7, .inl (g.2 1, 150, .inl (I 7))) := rfl
theorem ma_7 {j : Nat} {x : Int32} : (wM g I J).set 7 (g.1 7, .inl (g.2 1, 150, .inl (upd (I 7) j x))) = wM g (w2 I 7 j x) J := rfl
theorem mg_8 : (wM g I J)[8]? = some (g.1 8, .inl (g.2 1, 48, .inl (I 8))) := rfl
theorem ma_8 {j : Nat} {x : Int32} : (wM g I J).set 8 (g.1 8, .inl (g.2 1, 48, .inl (upd (I 8) j x))) = wM g (w2 I 8 j x) J := rfl
theorem mg_9 : (wM g I J)[9]? = some (g.1 9, .inl (g.2 1, 52, .inl (I 9))) := rfl
theorem ma_9 {j : Nat} {x : Int32} : (wM g I J).set 9 (g.1 9, .inl (g.2 1, 52, .inl (upd (I 9) j x))) = wM g (w2 I 9 j x) J := rfl
theorem mg_10 : (wM g I J)[10]? = some (g.1 10, .inl (g.2 2, 11, .inr (.inl (J 10)))) := rfl
theorem ma_10 {j : Nat} {x : Int64} : (wM g I J).set 10 (g.1 10, .inl (g.2 2, 11, .inr (.inl (vp_updL (J 10) j x)))) = wM g I (w2J J 10 j x) := rfl
theorem mg_11 : (wM g I J)[11]? = some (g.1 11, .inl (g.2 1, 12, .inl (I 11))) := rfl
theorem ma_11 {j : Nat} {x : Int32} : (wM g I J).set 11 (g.1 11, .inl (g.2 1, 12, .inl (upd (I 11) j x))) = wM g (w2 I 11 j x) J := rfl
theorem mg_12 : (wM g I J)[12]? = some (g.1 12, .inl (g.2 1, 12, .inl (I 12))) := rfl
theorem ma_12 {j : Nat} {x : Int32} : (wM g I J).set 12 (g.1 12, .inl (g.2 1, 12, .inl (upd (I 12) j x))) = wM g (w2 I 12 j x) J := rfl
theorem mg_13 : (wM g I J)[13]? = some (g.1 13, .inl (g.2 1, 12, .inl (I 13))) := rfl
theorem ma_13 {j : Nat} {x : Int32} : (wM g I J).set 13 (g.1 13, .inl (g.2 1, 12, .inl (upd (I 13) j x))) = wM g (w2 I 13 j x) J := rfl
theorem mg_14 : (wM g I J)[14]? = some (g.1 14, .inl (g.2 1, 4, .inl (I 14))) := rfl
theorem ma_14 {j : Nat} {x : Int32} : (wM g I J).set 14 (g.1 14, .inl (g.2 1, 4, .inl (upd (I 14) j x))) = wM g (w2 I 14 j x) J := rfl
theorem nmIB {I' : MI} (kk : ∀ I1 : MI, I1 = I' → V k (wB g I1 J) pc lv st) : V k (wB g I' J) pc lv st := kk I' rfl
theorem nmJB {J' : MJ} (kk : ∀ J1 : MJ, J1 = J' → V k (wB g I J1) pc lv st) : V k (wB g I J') pc lv st := kk J' rfl
theorem nmIM {I' : MI} (kk : ∀ I1 : MI, I1 = I' → V k (wM g I1 J) pc lv st) : V k (wM g I' J) pc lv st := kk I' rfl
theorem nmJM {J' : MJ} (kk : ∀ J1 : MJ, J1 = J' → V k (wM g I J1) pc lv st) : V k (wM g I J') pc lv st := kk J' rfl
end WORLDS
/-! the ends of a walk -/
def RTW (k : CT) (w : GG → MI → MJ → va_W) (g : GG) (cc : ByteArray) (ty : FieldType) (ρ : Int32 × MI × MJ) : Prop := ∀ (pc : Nat) (lv : List (Nat × Value)) (v : Int32) (I : MI) (J : MJ), decode cc pc = .ok (.ireturn, 1) → narrow ty (.int v) = .int v → some (v, I, J) = some ρ → V k (w g I J) pc lv [.int v]
def RTL (k : CT) (w : GG → MI → MJ → va_W) (g : GG) (cc : ByteArray) (ρ : Int64 × MI × MJ) : Prop := ∀ (pc : Nat) (lv : List (Nat × Value)) (v : Int64) (I : MI) (J : MJ), decode cc pc = .ok (.lreturn, 1) → some (v, I, J) = some ρ → V k (w g I J) pc lv [.long v]
def RTV (k : CT) (w : GG → MI → MJ → va_W) (g : GG) (cc : ByteArray) (ρ : MI × MJ) : Prop := ∀ (pc : Nat) (lv : List (Nat × Value)) (I : MI) (J : MJ), decode cc pc = .ok (.return_, 1) → some (I, J) = some ρ → V k (w g I J) pc lv []
def RRW (k : CT) (w : va_W) (cc : ByteArray) (ty : FieldType) (ρ : Int32) : Prop := ∀ (pc : Nat) (lv : List (Nat × Value)) (v : Int32), decode cc pc = .ok (.ireturn, 1) → narrow ty (.int v) = .int v → some v = some ρ → V k w pc lv [.int v]
def RRL (k : CT) (w : va_W) (cc : ByteArray) (ρ : Int64) : Prop := ∀ (pc : Nat) (lv : List (Nat × Value)) (v : Int64), decode cc pc = .ok (.lreturn, 1) → some v = some ρ → V k w pc lv [.long v]
theorem rtw_of {k : CT} {w : GG → MI → MJ → va_W} {g : GG} {cc : ByteArray} {ty : FieldType} {r : Int32} {I' : MI} {J' : MJ} (h : ∀ (pc : Nat) (lv : List (Nat × Value)) (v : Int32) (ty' : FieldType), decode cc pc = .ok (.ireturn, 1) → some ty = some ty' → narrow ty' (.int v) = .int v → some (Value.int r) = some (.int v) → V k (w g I' J') pc lv [.int v]) : RTW k w g cc ty (r, I', J') := by
  intro pc lv v I J d hn e
  cases e
  exact h pc lv _ _ d rfl hn rfl
theorem rtl_of {k : CT} {w : GG → MI → MJ → va_W} {g : GG} {cc : ByteArray} {r : Int64} {I' : MI} {J' : MJ} (h : ∀ (pc : Nat) (lv : List (Nat × Value)) (v : Int64), decode cc pc = .ok (.lreturn, 1) → some FieldType.long = some .long → some (Value.long r) = some (.long v) → V k (w g I' J') pc lv [.long v]) : RTL k w g cc (r, I', J') := by
  intro pc lv v I J d e
  cases e
  exact h pc lv _ d rfl rfl
theorem rtv_of {k : CT} {w : GG → MI → MJ → va_W} {g : GG} {cc : ByteArray} {I' : MI} {J' : MJ} (h : ∀ (pc : Nat) (lv : List (Nat × Value)), decode cc pc = .ok (.return_, 1) → (none : Option FieldType) = none → (none : Option Value) = none → V k (w g I' J') pc lv []) : RTV k w g cc (I', J') := by
  intro pc lv I J d e
  cases e
  exact h pc lv d rfl rfl
theorem rrw_of {k : CT} {w : va_W} {cc : ByteArray} {ty : FieldType} {r : Int32} (h : ∀ (pc : Nat) (lv : List (Nat × Value)) (v : Int32) (ty' : FieldType), decode cc pc = .ok (.ireturn, 1) → some ty = some ty' → narrow ty' (.int v) = .int v → some (Value.int r) = some (.int v) → V k w pc lv [.int v]) : RRW k w cc ty r := by
  intro pc lv v d hn e
  cases e
  exact h pc lv _ _ d rfl hn rfl
theorem rrl_of {k : CT} {w : va_W} {cc : ByteArray} {r : Int64} (h : ∀ (pc : Nat) (lv : List (Nat × Value)) (v : Int64), decode cc pc = .ok (.lreturn, 1) → some FieldType.long = some .long → some (Value.long r) = some (.long v) → V k w pc lv [.long v]) : RRL k w cc r := by
  intro pc lv v d e
  cases e
  exact h pc lv _ d rfl rfl
/-! Arrays.fill(int[], int) -/
theorem dFL_0 : decode cJ7_fill_53178 0 = .ok (.iconst 0, 1) := by decide +kernel
theorem dFL_1 : decode cJ7_fill_53178 1 = .ok (.istore_n 2, 1) := by decide +kernel
theorem dFL_2 : decode cJ7_fill_53178 2 = .ok (.aload_n 0, 1) := by decide +kernel
theorem dFL_3 : decode cJ7_fill_53178 3 = .ok (.arraylength, 1) := by decide +kernel
theorem dFL_4 : decode cJ7_fill_53178 4 = .ok (.istore_n 3, 1) := by decide +kernel
theorem dFL_5 : decode cJ7_fill_53178 5 = .ok (.iload_n 2, 1) := by decide +kernel
theorem dFL_6 : decode cJ7_fill_53178 6 = .ok (.iload_n 3, 1) := by decide +kernel
theorem dFL_7 : decode cJ7_fill_53178 7 = .ok (.if_icmp .ge 13, 3) := by decide +kernel
theorem dFL_10 : decode cJ7_fill_53178 10 = .ok (.aload_n 0, 1) := by decide +kernel
theorem dFL_11 : decode cJ7_fill_53178 11 = .ok (.iload_n 2, 1) := by decide +kernel
theorem dFL_12 : decode cJ7_fill_53178 12 = .ok (.iload_n 1, 1) := by decide +kernel
theorem dFL_13 : decode cJ7_fill_53178 13 = .ok (.iastore, 1) := by decide +kernel
theorem dFL_14 : decode cJ7_fill_53178 14 = .ok (.iinc 2 1, 3) := by decide +kernel
theorem dFL_17 : decode cJ7_fill_53178 17 = .ok (.goto (-12), 3) := by decide +kernel
theorem dFL_20 : decode cJ7_fill_53178 20 = .ok (.return_, 1) := by decide +kernel
def fl (v : Int32) (i : Nat) (f : Nat → Int32) : Nat → Int32 := fun j => if j < i then v else f j
theorem fl_0 (v : Int32) (f : Nat → Int32) : fl v 0 f = f := by funext j; simp [fl]
theorem fl_s (v : Int32) (i : Nat) (f : Nat → Int32) : upd (fl v i f) i v = fl v (i + 1) f := by
  funext j
  unfold upd fl
  by_cases h : j = i
  · subst h; simp
  · rw [if_neg h]
    by_cases h2 : j < i
    · rw [if_pos h2, if_pos (by omega)]
    · rw [if_neg h2, if_neg (by omega)]
abbrev rmFL : Room := { frames := 0, cells := 0, slots := 0, locals := 0 }
set_option maxRecDepth 100000 in
set_option maxHeartbeats 4000000 in
theorem fill_loop {k : CT} {g : GG} {w : (Nat → Int32) → va_W} {a n q0 : Nat} (hn : n < 2 ^ 31) (hg : ∀ f, (w f)[q0]? = some (a, .inl (g.2 1, n, .inl f))) (hs : ∀ f j x, (w f).set q0 (a, .inl (g.2 1, n, .inl (upd f j x))) = w (upd f j x)) (C : CX k cJ7_fill_53178 4 RJ7 wsJ7_fill_53178 rmFL g) {v : Int32} {f : Nat → Int32}
    (hr : ∀ (pc : Nat) (lv : List (Nat × Value)), decode cJ7_fill_53178 pc = .ok (.return_, 1) → V k (w (fl v n f)) pc lv []) : ∀ m i : Nat, i + m = n → V k (w (fl v i f)) 5 [(0, .ref a), (1, .int v), (2, .int (nI i)), (3, .int (nI n))] [] := by
  intro m
  induction m with
  | zero =>
    intro i hi
    have hi : i = n := by omega
    subst hi
    refine r_iload_n C dFL_5 rfl 2 rfl ?_
    refine r_iload_n C dFL_6 rfl 3 rfl ?_
    refine r_icmp_ge (tgt := 20) C dFL_7 (by decide) (fun c => ?_) (fun c => ?_)
    · exact hr 20 _ dFL_20
    · exact absurd (nI_le (Nat.le_refl _) hn) c
  | succ m ih =>
    intro i hi
    refine r_iload_n C dFL_5 rfl 2 rfl ?_
    refine r_iload_n C dFL_6 rfl 3 rfl ?_
    refine r_icmp_ge (tgt := 20) C dFL_7 (by decide) (fun c => ?_) (fun c => ?_)
    · exact absurd c (nI_ge (by omega) hn)
    · refine r_aload_n C dFL_10 rfl 0 rfl ?_
      refine r_iload_n C dFL_11 rfl 2 rfl ?_
      refine r_iload_n C dFL_12 rfl 1 rfl ?_
      refine r_iast (j := i) C dFL_13 q0 (hg _) (vp_in_nI (by omega) hn) (nI_clamp (by omega)) (hs _ _ _) ?_
      rw [fl_s]
      refine r_iinc (v := nI (i + 1)) (lv' := [(0, .ref a), (1, .int v), (2, .int (nI (i + 1))), (3, .int (nI n))]) C dFL_14 2 rfl (nI_1 i) (by decide) [1, 2, 0, 3] rfl ?_
      refine r_goto (tgt := 5) C dFL_17 (by decide) ?_
      exact ih (i + 1) (by omega)
set_option maxRecDepth 100000 in
set_option maxHeartbeats 4000000 in
theorem c_fill {l : Launch} {D : va_G} {g : GG} {w : (Nat → Int32) → va_W} {a n q0 : Nat} (hn : n < 2 ^ 31) (hg : ∀ f, (w f)[q0]? = some (a, .inl (g.2 1, n, .inl f))) (hs : ∀ f j x, (w f).set q0 (a, .inl (g.2 1, n, .inl (upd f j x))) = w (upd f j x)) {v : Int32} {f : Nat → Int32} : CON l yJ7_fill_53178 wsJ7_fill_53178 rmFL D g (w f) [.ref a, .int v] none (w (fl v n f)) := by
  refine con_of (cc := cJ7_fill_53178) (maxL := 4) (ret := none) (by decide) rfl (Nat.le_of_ble_eq_true rfl) rfl rfl ?_
  intro k C hkl hkD h1 h2 h3
  refine V.loc (lv' := [(0, .ref a), (1, .int v)]) [0, 1] rfl ?_
  refine r_iconst (v := (0 : Int32)) C dFL_0 (by decide) ?_
  refine r_istore_n (lv' := [(0, .ref a), (1, .int v), (2, .int 0)]) C dFL_1 rfl (by decide) [1, 2, 0] rfl ?_
  refine r_aload_n C dFL_2 rfl 0 rfl ?_
  refine r_alen (v := nI n) C dFL_3 q0 (hg _) rfl ?_
  refine r_istore_n (lv' := [(0, .ref a), (1, .int v), (2, .int (nI 0)), (3, .int (nI n))]) C dFL_4 rfl (by decide) [1, 2, 3, 0] rfl ?_
  have e := fill_loop hn hg hs C (v := v) (f := f) (fun pc lv d => h1 pc lv d rfl rfl) n 0 (by omega)
  rw [fl_0] at e
  exact e
theorem hd_fill : yJ7_fill_53178.cls ≠ "java/lang/invoke/MethodHandle" ∧ yJ7_fill_53178.cls ≠ "java/lang/invoke/VarHandle" ∧ (parseMethodDescriptor yJ7_fill_53178.desc).map (fun d => d.parameters.length) = some 2 := by decide +kernel
theorem w1_self (I : MI) (c : Nat) : w1 I c (I c) = I := by funext c'; unfold w1; split <;> simp_all
theorem c_fill_31 {l : Launch} {D : va_G} {g : GG} {I : MI} {J : MJ} {v : Int32} : CON l yJ7_fill_53178 wsJ7_fill_53178 rmFL D g (wB g I J) [.ref (g.1 31), .int v] none (wB g (w1 I 31 (fl v 16 (I 31))) J) := by
  have e := c_fill (l := l) (D := D) (g := g) (w := fun f => wB g (w1 I 31 f) J) (a := g.1 31) (n := 16) (q0 := 31) (by decide) (fun f => rfl) (fun f j x => rfl) (v := v) (f := I 31)
  simp only [w1_self] at e
  exact e
theorem c_fill_23 {l : Launch} {D : va_G} {g : GG} {I : MI} {J : MJ} {v : Int32} : CON l yJ7_fill_53178 wsJ7_fill_53178 rmFL D g (wB g I J) [.ref (g.1 23), .int v] none (wB g (w1 I 23 (fl v 120 (I 23))) J) := by
  have e := c_fill (l := l) (D := D) (g := g) (w := fun f => wB g (w1 I 23 f) J) (a := g.1 23) (n := 120) (q0 := 23) (by decide) (fun f => rfl) (fun f j x => rfl) (v := v) (f := I 23)
  simp only [w1_self] at e
  exact e
