/-! the memory as two tables, the judgement V, contracts CON -/
abbrev MI : Type := Nat → Nat → Int32
abbrev MJ : Type := Nat → Nat → Int64
def w2 (I : MI) (c k : Nat) (x : Int32) : MI := fun c' => if c' = c then upd (I c) k x else I c'
def w2J (J : MJ) (c k : Nat) (x : Int64) : MJ := fun c' => if c' = c then vp_updL (J c) k x else J c'
abbrev GG : Type := (Nat → Nat) × (Nat → ClassId)
abbrev tg (g : GG) : List (ClassId × FieldType) := [(g.2 0, .byte), (g.2 1, .int), (g.2 2, .long), (g.2 3, .object RX1)]
def sLST (j : Nat) : Int32 := ([5, 6, 20, 1, 5, 1, 0, 0, 0, 0, 0, 0, 0] : List Int32).getD j 0
def sMST (j : Nat) : Int32 := ([200, 1000, 900, 9, 400, 9, 100, 3, 3, 3, 2, 1, 1] : List Int32).getD j 0
def sTRC (j : Nat) : Int32 := ([1, 11, 111] : List Int32).getD j 0
def sAIR (j : Nat) : Int32 := ([100, 60, 20, 0] : List Int32).getD j 0
/-- the class's static arrays: where they are, what they hold, outside A -/
def Stt (g : GG) (A : Nat → Prop) (U : State) : Prop :=
  (va_Z RX7 "LEAST" "[I" (.ref (g.1 100)) A U U.heap ∧ va_T .int (g.1 100) 13 (fun j => .int (sLST j)) A U U.heap) ∧
  (va_Z RX7 "MOST" "[I" (.ref (g.1 101)) A U U.heap ∧ va_T .int (g.1 101) 13 (fun j => .int (sMST j)) A U U.heap) ∧
  (va_Z RX7 "TRACE_OF_KIND" "[I" (.ref (g.1 102)) A U U.heap ∧ va_T .int (g.1 102) 3 (fun j => .int (sTRC j)) A U U.heap) ∧
  (va_Z RX7 "AIR_OF_PLACE" "[I" (.ref (g.1 103)) A U U.heap ∧ va_T .int (g.1 103) 4 (fun j => .int (sAIR j)) A U U.heap)
theorem Stt1 {C n d : String} {t N : Nat} {f : Nat → Value} {A B : Nat → Prop} {s U : State} {H : Heap} {locs : List Loc} (h : va_Z C n d (.ref t) A s s.heap ∧ va_T .int t N f A s s.heap) (hS : va_S A s.heap H locs) (hvm : s.vm.Alike U.vm) (hU : U.heap = H) (hAB : ∀ q, B q → A q) : va_Z C n d (.ref t) B U U.heap ∧ va_T .int t N f B U U.heap := by
  rw [hU]
  exact ⟨((h.1.kept (H1 := H) hS.2.1).moved hvm).narrow hAB, ((h.2.kept (H1 := H) hS.2.1).moved hvm).narrow hAB⟩
theorem Stt.go {g : GG} {A B : Nat → Prop} {s U : State} {H : Heap} {locs : List Loc} (h : Stt g A s) (hS : va_S A s.heap H locs) (hvm : s.vm.Alike U.vm) (hU : U.heap = H) (hAB : ∀ q, B q → A q) : Stt g B U :=
  ⟨Stt1 h.1 hS hvm hU hAB, Stt1 h.2.1 hS hvm hU hAB, Stt1 h.2.2.1 hS hvm hU hAB, Stt1 h.2.2.2 hS hvm hU hAB⟩

/-- the links between nest mates -/
def Nst (U : State) : Prop := va_Nw (.methodLinkNest RX7 33 yX6_init RX7) U ∧ va_Nw (.methodLinkNest RX7 40 yX3_init RX7) U ∧ va_Nw (.methodLinkNest RX7 47 yX5_init RX7) U ∧ va_Nw (.methodLinkNest RX7 54 yX2_init RX7) U ∧ va_Nw (.methodLinkNest RX7 61 yX0_init RX7) U ∧ va_Nw (.methodLinkNest RX1 47 yX7_within RX7) U ∧ va_Nw (.methodLinkNest RX5 40 yX7_within RX7) U ∧ va_Nw (.methodLinkNest RX6 59 yX7_within RX7) U ∧ va_Nw (.fieldLinkNest RX1 38 RX7 "LEAST" "[I" RX7) U ∧ va_Nw (.fieldLinkNest RX1 55 RX7 "AIR_OF_PLACE" "[I" RX7) U ∧ va_Nw (.fieldLinkNest RX1 101 RX7 "MOST" "[I" RX7) U
theorem Nst.warm {s U : State} (hW : s.WarmedH U.vm) (h : Nst s) : Nst U := ⟨va_Nw.warmM hW (h.1), va_Nw.warmM hW (h.2.1), va_Nw.warmM hW (h.2.2.1), va_Nw.warmM hW (h.2.2.2.1), va_Nw.warmM hW (h.2.2.2.2.1), va_Nw.warmM hW (h.2.2.2.2.2.1), va_Nw.warmM hW (h.2.2.2.2.2.2.1), va_Nw.warmM hW (h.2.2.2.2.2.2.2.1), va_Nw.warmF hW (h.2.2.2.2.2.2.2.2.1), va_Nw.warmF hW (h.2.2.2.2.2.2.2.2.2.1), va_Nw.warmF hW (h.2.2.2.2.2.2.2.2.2.2)⟩
theorem Nst.same {s U : State} (e : s.vm = U.vm) (h : Nst s) : Nst U := ⟨va_Nw.same rfl e (h.1), va_Nw.same rfl e (h.2.1), va_Nw.same rfl e (h.2.2.1), va_Nw.same rfl e (h.2.2.2.1), va_Nw.same rfl e (h.2.2.2.2.1), va_Nw.same rfl e (h.2.2.2.2.2.1), va_Nw.same rfl e (h.2.2.2.2.2.2.1), va_Nw.same rfl e (h.2.2.2.2.2.2.2.1), va_Nw.same rfl e (h.2.2.2.2.2.2.2.2.1), va_Nw.same rfl e (h.2.2.2.2.2.2.2.2.2.1), va_Nw.same rfl e (h.2.2.2.2.2.2.2.2.2.2)⟩
/-- a walk's fixed things: program, launch, env, room, state, method, args, below, meth, code, goal, free cells, tables, locals, cells, slots -/
abbrev CT : Type := Program × Launch × Env × Room × State × MethodId × Array Value × List Frame × Method × Code × (State → Prop) × (Nat → Prop) × va_G × Nat × Nat × Nat
abbrev kp (k : CT) : Program := k.1
abbrev kl (k : CT) : Launch := k.2.1
abbrev ke (k : CT) : Env := k.2.2.1
abbrev kR (k : CT) : Room := k.2.2.2.1
abbrev ks (k : CT) : State := k.2.2.2.2.1
abbrev km (k : CT) : MethodId := k.2.2.2.2.2.1
abbrev ka (k : CT) : Array Value := k.2.2.2.2.2.2.1
abbrev kb (k : CT) : List Frame := k.2.2.2.2.2.2.2.1
abbrev kM (k : CT) : Method := k.2.2.2.2.2.2.2.2.1
abbrev kc (k : CT) : Code := k.2.2.2.2.2.2.2.2.2.1
abbrev kQ (k : CT) : State → Prop := k.2.2.2.2.2.2.2.2.2.2.1
abbrev kA (k : CT) : Nat → Prop := k.2.2.2.2.2.2.2.2.2.2.2.1
abbrev kD (k : CT) : va_G := k.2.2.2.2.2.2.2.2.2.2.2.2.1
abbrev kn (k : CT) : Nat := k.2.2.2.2.2.2.2.2.2.2.2.2.2.1
abbrev kx (k : CT) : Nat := k.2.2.2.2.2.2.2.2.2.2.2.2.2.2.1
abbrev ky (k : CT) : Nat := k.2.2.2.2.2.2.2.2.2.2.2.2.2.2.2
def V (k : CT) (ws : va_W) (pc : Nat) (lv : List (Nat × Value)) (st : List Value) : Prop := ∀ (ls : Array Slot) (H : Heap) (locs : List Loc), lv_has ls (kn k) lv → va_P (kD k) vwCl ws H → va_D (kA k) ws → va_S (kA k) (ks k).heap H locs → W (kp k) (kl k) (ke k) (kR k) (ks k) (km k) (ka k) (kb k) (kM k) (kc k) H locs (kx k) (ky k) (kQ k) (F0 (km k) pc ls st)
def CX (k : CT) (cc : ByteArray) (nL : Nat) (own : String) (Ts : List Cond) (R : Room) (g : GG) : Prop := (kp k).tables.exec = Jvm.exec ∧ (kc k).code = cc ∧ (kc k).maxLocals = kn k ∧ kn k = nL ∧ (ks k).vm.findClass own = some (km k).cls ∧ (∀ w ∈ Ts, w.before (ka k) (ks k) = true) ∧ va_K (kD k) vwCl (tg g) (ks k) ∧ (∀ q, (ks k).heap.size ≤ q → kA k q) ∧ Stt g (kA k) (ks k) ∧ Nst (ks k) ∧ kR k = R ∧ kx k ≤ R.cells ∧ ky k ≤ R.slots
section ROWS
variable {k : CT} {cc : ByteArray} {nL : Nat} {own : String} {Ts : List Cond} {R : Room} {g : GG} {ws : va_W} {pc : Nat} {lv : List (Nat × Value)} {st : List Value}
theorem CX.x (C : CX k cc nL own Ts R g) : (kp k).tables.exec = Jvm.exec := C.1
theorem CX.b (C : CX k cc nL own Ts R g) : (kc k).code = cc := C.2.1
theorem CX.ml (C : CX k cc nL own Ts R g) : (kc k).maxLocals = kn k := C.2.2.1
theorem CX.n (C : CX k cc nL own Ts R g) : kn k = nL := C.2.2.2.1
theorem CX.o (C : CX k cc nL own Ts R g) : (ks k).vm.findClass own = some (km k).cls := C.2.2.2.2.1
theorem CX.t (C : CX k cc nL own Ts R g) : ∀ w ∈ Ts, w.before (ka k) (ks k) = true := C.2.2.2.2.2.1
theorem CX.K (C : CX k cc nL own Ts R g) : va_K (kD k) vwCl (tg g) (ks k) := C.2.2.2.2.2.2.1
theorem CX.A (C : CX k cc nL own Ts R g) : ∀ q, (ks k).heap.size ≤ q → kA k q := C.2.2.2.2.2.2.2.1
theorem CX.S (C : CX k cc nL own Ts R g) : Stt g (kA k) (ks k) := C.2.2.2.2.2.2.2.2.1
theorem CX.N (C : CX k cc nL own Ts R g) : Nst (ks k) := C.2.2.2.2.2.2.2.2.2.1
theorem CX.rm (C : CX k cc nL own Ts R g) : kR k = R := C.2.2.2.2.2.2.2.2.2.2.1
theorem CX.cx (C : CX k cc nL own Ts R g) : kx k ≤ R.cells := C.2.2.2.2.2.2.2.2.2.2.2.1
theorem CX.cy (C : CX k cc nL own Ts R g) : ky k ≤ R.slots := C.2.2.2.2.2.2.2.2.2.2.2.2
/-- other names for what the locals and the stack hold -/
theorem V.loc {lv' : List (Nat × Value)} (pl : List Nat) (hl : lv_pick lv pl = lv') (kk : V k ws pc lv' st) : V k ws pc lv st := fun ls H locs h hP hD hS => kk ls H locs (lv_sub h pl hl) hP hD hS
theorem r_nmi {x : Int32} (kk : ∀ y : Int32, y = x → V k ws pc lv (.int y :: st)) : V k ws pc lv (.int x :: st) := kk x rfl
theorem r_nml {x : Int64} (kk : ∀ y : Int64, y = x → V k ws pc lv (.long y :: st)) : V k ws pc lv (.long x :: st) := kk x rfl
theorem r_iconst (C : CX k cc nL own Ts R g) {n : Int} {v : Int32} (d : decode cc pc = .ok (.iconst n, 1)) (hv : Int32.ofInt n = v) (kk : V k ws (pc + 1) lv (.int v :: st)) : V k ws pc lv st := fun ls H locs hl hP hD hS => lv_iconst C.x C.b d hv (kk ls H locs hl hP hD hS)
theorem r_bipush (C : CX k cc nL own Ts R g) {n : Int} {v : Int32} (d : decode cc pc = .ok (.bipush n, 2)) (hv : (Int8.ofInt n).toInt32 = v) (kk : V k ws (pc + 2) lv (.int v :: st)) : V k ws pc lv st := fun ls H locs hl hP hD hS => lv_bipush C.x C.b d hv (kk ls H locs hl hP hD hS)
theorem r_sipush (C : CX k cc nL own Ts R g) {n : Int} {v : Int32} (d : decode cc pc = .ok (.sipush n, 3)) (hv : (Int16.ofInt n).toInt32 = v) (kk : V k ws (pc + 3) lv (.int v :: st)) : V k ws pc lv st := fun ls H locs hl hP hD hS => lv_sipush C.x C.b d hv (kk ls H locs hl hP hD hS)
theorem r_lconst (C : CX k cc nL own Ts R g) {n : Fin 2} {v : Int64} (d : decode cc pc = .ok (.lconst n, 1)) (hv : Int64.ofNat (n : Nat) = v) (kk : V k ws (pc + 1) lv (.long v :: st)) : V k ws pc lv st := fun ls H locs hl hP hD hS => lv_lconst C.x C.b d hv (kk ls H locs hl hP hD hS)
theorem r_ldc (C : CX k cc nL own Ts R g) {index : Nat} {v : Int32} (d : decode cc pc = .ok (.ldc index, 2)) (hw : Jvm.Cond.constant own index v ∈ Ts) (kk : V k ws (pc + 2) lv (.int v :: st)) : V k ws pc lv st := fun ls H locs hl hP hD hS => lv_ldc C.x C.b C.o (C.t _ hw) d (kk ls H locs hl hP hD hS)
theorem r_ldc2 (C : CX k cc nL own Ts R g) {index : Nat} {v : Int64} (d : decode cc pc = .ok (.ldc2_w index, 3)) (hw : Jvm.Cond.constantLong own index v ∈ Ts) (kk : V k ws (pc + 3) lv (.long v :: st)) : V k ws pc lv st := fun ls H locs hl hP hD hS => lv_ldc2 C.x C.b C.o (C.t _ hw) d (kk ls H locs hl hP hD hS)
theorem r_iload_n (C : CX k cc nL own Ts R g) {j : Fin 4} {i : Nat} {x : Int32} (d : decode cc pc = .ok (.iload_n j, 1)) (hi : (j : Nat) = i) (pl : Nat) (h : lv[pl]? = some (i, .int x)) (kk : V k ws (pc + 1) lv (.int x :: st)) : V k ws pc lv st := fun ls H locs hl hP hD hS => lv_iload_n C.x C.b d hi (lv_at hl pl h) (kk ls H locs hl hP hD hS)
theorem r_iload (C : CX k cc nL own Ts R g) {i : Nat} {x : Int32} (d : decode cc pc = .ok (.iload i, 2)) (pl : Nat) (h : lv[pl]? = some (i, .int x)) (kk : V k ws (pc + 2) lv (.int x :: st)) : V k ws pc lv st := fun ls H locs hl hP hD hS => lv_iload C.x C.b d (lv_at hl pl h) (kk ls H locs hl hP hD hS)
theorem r_istore_n (C : CX k cc nL own Ts R g) {j : Fin 4} {i : Nat} {x : Int32} {lv' : List (Nat × Value)} (d : decode cc pc = .ok (.istore_n j, 1)) (hi : (j : Nat) = i) (hn : i < nL) (pl : List Nat) (h : lv_pick ((i, Value.int x) :: lv.filter (fun q => !(q.1 == i) && !(q.1 + 1 == i && q.2.category == 2))) pl = lv') (kk : V k ws (pc + 1) lv' st) : V k ws pc lv (.int x :: st) := fun ls H locs hl hP hD hS => lv_istore_n C.x C.b d hi hl (C.n ▸ hn) rfl (fun ls hl => kk ls H locs (lv_sub hl pl h) hP hD hS)
theorem r_istore (C : CX k cc nL own Ts R g) {i : Nat} {x : Int32} {lv' : List (Nat × Value)} (d : decode cc pc = .ok (.istore i, 2)) (hn : i < nL) (pl : List Nat) (h : lv_pick ((i, Value.int x) :: lv.filter (fun q => !(q.1 == i) && !(q.1 + 1 == i && q.2.category == 2))) pl = lv') (kk : V k ws (pc + 2) lv' st) : V k ws pc lv (.int x :: st) := fun ls H locs hl hP hD hS => lv_istore C.x C.b d hl (C.n ▸ hn) rfl (fun ls hl => kk ls H locs (lv_sub hl pl h) hP hD hS)
theorem r_lload_n (C : CX k cc nL own Ts R g) {j : Fin 4} {i : Nat} {x : Int64} (d : decode cc pc = .ok (.lload_n j, 1)) (hi : (j : Nat) = i) (pl : Nat) (h : lv[pl]? = some (i, .long x)) (kk : V k ws (pc + 1) lv (.long x :: st)) : V k ws pc lv st := fun ls H locs hl hP hD hS => lv_lload_n C.x C.b d hi (lv_at hl pl h) (kk ls H locs hl hP hD hS)
theorem r_lload (C : CX k cc nL own Ts R g) {i : Nat} {x : Int64} (d : decode cc pc = .ok (.lload i, 2)) (pl : Nat) (h : lv[pl]? = some (i, .long x)) (kk : V k ws (pc + 2) lv (.long x :: st)) : V k ws pc lv st := fun ls H locs hl hP hD hS => lv_lload C.x C.b d (lv_at hl pl h) (kk ls H locs hl hP hD hS)
theorem r_lstore_n (C : CX k cc nL own Ts R g) {j : Fin 4} {i : Nat} {x : Int64} {lv' : List (Nat × Value)} (d : decode cc pc = .ok (.lstore_n j, 1)) (hi : (j : Nat) = i) (hn : i + 1 < nL) (pl : List Nat) (h : lv_pick ((i, Value.long x) :: lv.filter (fun q => !(q.1 == i) && (!(q.1 == i + 1) && !(q.1 + 1 == i && q.2.category == 2)))) pl = lv') (kk : V k ws (pc + 1) lv' st) : V k ws pc lv (.long x :: st) := fun ls H locs hl hP hD hS => lv_lstore_n C.x C.b d hi hl (C.n ▸ hn) rfl (fun ls hl => kk ls H locs (lv_sub hl pl h) hP hD hS)
theorem r_lstore (C : CX k cc nL own Ts R g) {i : Nat} {x : Int64} {lv' : List (Nat × Value)} (d : decode cc pc = .ok (.lstore i, 2)) (hn : i + 1 < nL) (pl : List Nat) (h : lv_pick ((i, Value.long x) :: lv.filter (fun q => !(q.1 == i) && (!(q.1 == i + 1) && !(q.1 + 1 == i && q.2.category == 2)))) pl = lv') (kk : V k ws (pc + 2) lv' st) : V k ws pc lv (.long x :: st) := fun ls H locs hl hP hD hS => lv_lstore C.x C.b d hl (C.n ▸ hn) rfl (fun ls hl => kk ls H locs (lv_sub hl pl h) hP hD hS)
theorem r_aload_n (C : CX k cc nL own Ts R g) {j : Fin 4} {i : Nat} {x : Nat} (d : decode cc pc = .ok (.aload_n j, 1)) (hi : (j : Nat) = i) (pl : Nat) (h : lv[pl]? = some (i, .ref x)) (kk : V k ws (pc + 1) lv (.ref x :: st)) : V k ws pc lv st := fun ls H locs hl hP hD hS => lv_aload_n C.x C.b d hi (lv_at hl pl h) (kk ls H locs hl hP hD hS)
theorem r_aload (C : CX k cc nL own Ts R g) {i : Nat} {x : Nat} (d : decode cc pc = .ok (.aload i, 2)) (pl : Nat) (h : lv[pl]? = some (i, .ref x)) (kk : V k ws (pc + 2) lv (.ref x :: st)) : V k ws pc lv st := fun ls H locs hl hP hD hS => lv_aload C.x C.b d (lv_at hl pl h) (kk ls H locs hl hP hD hS)
theorem r_astore_n (C : CX k cc nL own Ts R g) {j : Fin 4} {i : Nat} {x : Nat} {lv' : List (Nat × Value)} (d : decode cc pc = .ok (.astore_n j, 1)) (hi : (j : Nat) = i) (hn : i < nL) (pl : List Nat) (h : lv_pick ((i, Value.ref x) :: lv.filter (fun q => !(q.1 == i) && !(q.1 + 1 == i && q.2.category == 2))) pl = lv') (kk : V k ws (pc + 1) lv' st) : V k ws pc lv (.ref x :: st) := fun ls H locs hl hP hD hS => lv_astore_n C.x C.b d hi hl (C.n ▸ hn) rfl (fun ls hl => kk ls H locs (lv_sub hl pl h) hP hD hS)
theorem r_astore (C : CX k cc nL own Ts R g) {i : Nat} {x : Nat} {lv' : List (Nat × Value)} (d : decode cc pc = .ok (.astore i, 2)) (hn : i < nL) (pl : List Nat) (h : lv_pick ((i, Value.ref x) :: lv.filter (fun q => !(q.1 == i) && !(q.1 + 1 == i && q.2.category == 2))) pl = lv') (kk : V k ws (pc + 2) lv' st) : V k ws pc lv (.ref x :: st) := fun ls H locs hl hP hD hS => lv_astore C.x C.b d hl (C.n ▸ hn) rfl (fun ls hl => kk ls H locs (lv_sub hl pl h) hP hD hS)
theorem r_iinc (C : CX k cc nL own Ts R g) {i : Nat} {n : Int} {x v : Int32} {lv' : List (Nat × Value)} (d : decode cc pc = .ok (.iinc i n, 3)) (kl : Nat) (hk : lv[kl]? = some (i, .int x)) (hv : x + Int32.ofInt n = v) (hn : i < nL) (pl : List Nat) (h : lv_pick ((i, Value.int v) :: lv.filter (fun q => !(q.1 == i) && !(q.1 + 1 == i && q.2.category == 2))) pl = lv') (kk : V k ws (pc + 3) lv' st) : V k ws pc lv st := fun ls H locs hl hP hD hS => lv_iinc C.x C.b d hl hk hv (C.n ▸ hn) rfl (fun ls hl => kk ls H locs (lv_sub hl pl h) hP hD hS)
theorem r_iadd (C : CX k cc nL own Ts R g) {x y : Int32} (d : decode cc pc = .ok (.iadd, 1)) (kk : V k ws (pc + 1) lv (.int (x + y) :: st)) : V k ws pc lv (.int y :: .int x :: st) := fun ls H locs hl hP hD hS => lv_iadd C.x C.b d (kk ls H locs hl hP hD hS)
theorem r_isub (C : CX k cc nL own Ts R g) {x y : Int32} (d : decode cc pc = .ok (.isub, 1)) (kk : V k ws (pc + 1) lv (.int (x - y) :: st)) : V k ws pc lv (.int y :: .int x :: st) := fun ls H locs hl hP hD hS => lv_isub C.x C.b d (kk ls H locs hl hP hD hS)
theorem r_imul (C : CX k cc nL own Ts R g) {x y : Int32} (d : decode cc pc = .ok (.imul, 1)) (kk : V k ws (pc + 1) lv (.int (x * y) :: st)) : V k ws pc lv (.int y :: .int x :: st) := fun ls H locs hl hP hD hS => lv_imul C.x C.b d (kk ls H locs hl hP hD hS)
theorem r_iand (C : CX k cc nL own Ts R g) {x y : Int32} (d : decode cc pc = .ok (.iand, 1)) (kk : V k ws (pc + 1) lv (.int (x &&& y) :: st)) : V k ws pc lv (.int y :: .int x :: st) := fun ls H locs hl hP hD hS => lv_iand C.x C.b d (kk ls H locs hl hP hD hS)
theorem r_ior (C : CX k cc nL own Ts R g) {x y : Int32} (d : decode cc pc = .ok (.ior, 1)) (kk : V k ws (pc + 1) lv (.int (x ||| y) :: st)) : V k ws pc lv (.int y :: .int x :: st) := fun ls H locs hl hP hD hS => lv_ior C.x C.b d (kk ls H locs hl hP hD hS)
theorem r_ixor (C : CX k cc nL own Ts R g) {x y : Int32} (d : decode cc pc = .ok (.ixor, 1)) (kk : V k ws (pc + 1) lv (.int (x ^^^ y) :: st)) : V k ws pc lv (.int y :: .int x :: st) := fun ls H locs hl hP hD hS => lv_ixor C.x C.b d (kk ls H locs hl hP hD hS)
theorem r_ishl (C : CX k cc nL own Ts R g) {x y : Int32} (d : decode cc pc = .ok (.ishl, 1)) (kk : V k ws (pc + 1) lv (.int (x <<< (y &&& 31)) :: st)) : V k ws pc lv (.int y :: .int x :: st) := fun ls H locs hl hP hD hS => lv_ishl C.x C.b d (kk ls H locs hl hP hD hS)
theorem r_ishr (C : CX k cc nL own Ts R g) {x y : Int32} (d : decode cc pc = .ok (.ishr, 1)) (kk : V k ws (pc + 1) lv (.int (x >>> (y &&& 31)) :: st)) : V k ws pc lv (.int y :: .int x :: st) := fun ls H locs hl hP hD hS => lv_ishr C.x C.b d (kk ls H locs hl hP hD hS)
theorem r_ladd (C : CX k cc nL own Ts R g) {x y : Int64} (d : decode cc pc = .ok (.ladd, 1)) (kk : V k ws (pc + 1) lv (.long (x + y) :: st)) : V k ws pc lv (.long y :: .long x :: st) := fun ls H locs hl hP hD hS => lv_ladd C.x C.b d (kk ls H locs hl hP hD hS)
theorem r_lsub (C : CX k cc nL own Ts R g) {x y : Int64} (d : decode cc pc = .ok (.lsub, 1)) (kk : V k ws (pc + 1) lv (.long (x - y) :: st)) : V k ws pc lv (.long y :: .long x :: st) := fun ls H locs hl hP hD hS => lv_lsub C.x C.b d (kk ls H locs hl hP hD hS)
theorem r_lmul (C : CX k cc nL own Ts R g) {x y : Int64} (d : decode cc pc = .ok (.lmul, 1)) (kk : V k ws (pc + 1) lv (.long (x * y) :: st)) : V k ws pc lv (.long y :: .long x :: st) := fun ls H locs hl hP hD hS => lv_lmul C.x C.b d (kk ls H locs hl hP hD hS)
theorem r_land (C : CX k cc nL own Ts R g) {x y : Int64} (d : decode cc pc = .ok (.land, 1)) (kk : V k ws (pc + 1) lv (.long (x &&& y) :: st)) : V k ws pc lv (.long y :: .long x :: st) := fun ls H locs hl hP hD hS => lv_land C.x C.b d (kk ls H locs hl hP hD hS)
theorem r_lor (C : CX k cc nL own Ts R g) {x y : Int64} (d : decode cc pc = .ok (.lor, 1)) (kk : V k ws (pc + 1) lv (.long (x ||| y) :: st)) : V k ws pc lv (.long y :: .long x :: st) := fun ls H locs hl hP hD hS => lv_lor C.x C.b d (kk ls H locs hl hP hD hS)
theorem r_lxor (C : CX k cc nL own Ts R g) {x y : Int64} (d : decode cc pc = .ok (.lxor, 1)) (kk : V k ws (pc + 1) lv (.long (x ^^^ y) :: st)) : V k ws pc lv (.long y :: .long x :: st) := fun ls H locs hl hP hD hS => lv_lxor C.x C.b d (kk ls H locs hl hP hD hS)
theorem r_idiv (C : CX k cc nL own Ts R g) {x y : Int32} (d : decode cc pc = .ok (.idiv, 1)) (hne : ¬ y = 0) (kk : V k ws (pc + 1) lv (.int (x / y) :: st)) : V k ws pc lv (.int y :: .int x :: st) := fun ls H locs hl hP hD hS => lv_idiv C.x C.b d hne (kk ls H locs hl hP hD hS)
theorem r_irem (C : CX k cc nL own Ts R g) {x y : Int32} (d : decode cc pc = .ok (.irem, 1)) (hne : ¬ y = 0) (kk : V k ws (pc + 1) lv (.int (x - x / y * y) :: st)) : V k ws pc lv (.int y :: .int x :: st) := fun ls H locs hl hP hD hS => lv_irem C.x C.b d hne (kk ls H locs hl hP hD hS)
theorem r_ldiv (C : CX k cc nL own Ts R g) {x y : Int64} (d : decode cc pc = .ok (.ldiv, 1)) (hne : ¬ y = 0) (kk : V k ws (pc + 1) lv (.long (x / y) :: st)) : V k ws pc lv (.long y :: .long x :: st) := fun ls H locs hl hP hD hS => lv_ldiv C.x C.b d hne (kk ls H locs hl hP hD hS)
theorem r_lrem (C : CX k cc nL own Ts R g) {x y : Int64} (d : decode cc pc = .ok (.lrem, 1)) (hne : ¬ y = 0) (kk : V k ws (pc + 1) lv (.long (x - x / y * y) :: st)) : V k ws pc lv (.long y :: .long x :: st) := fun ls H locs hl hP hD hS => lv_lrem C.x C.b d hne (kk ls H locs hl hP hD hS)
theorem r_ineg (C : CX k cc nL own Ts R g) {x : Int32} (d : decode cc pc = .ok (.ineg, 1)) (kk : V k ws (pc + 1) lv (.int (-x) :: st)) : V k ws pc lv (.int x :: st) := fun ls H locs hl hP hD hS => lv_ineg C.x C.b d (kk ls H locs hl hP hD hS)
theorem r_i2l (C : CX k cc nL own Ts R g) {x : Int32} (d : decode cc pc = .ok (.i2l, 1)) (kk : V k ws (pc + 1) lv (.long x.toInt64 :: st)) : V k ws pc lv (.int x :: st) := fun ls H locs hl hP hD hS => lv_i2l C.x C.b d rfl (kk ls H locs hl hP hD hS)
theorem r_l2i (C : CX k cc nL own Ts R g) {x : Int64} (d : decode cc pc = .ok (.l2i, 1)) (kk : V k ws (pc + 1) lv (.int x.toInt32 :: st)) : V k ws pc lv (.long x :: st) := fun ls H locs hl hP hD hS => lv_l2i C.x C.b d rfl (kk ls H locs hl hP hD hS)
theorem r_i2b (C : CX k cc nL own Ts R g) {x : Int32} (d : decode cc pc = .ok (.i2b, 1)) (kk : V k ws (pc + 1) lv (.int x.toInt8.toInt32 :: st)) : V k ws pc lv (.int x :: st) := fun ls H locs hl hP hD hS => lv_i2b C.x C.b d rfl (kk ls H locs hl hP hD hS)
theorem r_lshl (C : CX k cc nL own Ts R g) {x : Int64} {y : Int32} (d : decode cc pc = .ok (.lshl, 1)) (kk : V k ws (pc + 1) lv (.long (x <<< (y.toInt64 &&& 63)) :: st)) : V k ws pc lv (.int y :: .long x :: st) := fun ls H locs hl hP hD hS => lv_lshl C.x C.b d rfl (kk ls H locs hl hP hD hS)
theorem r_lshr (C : CX k cc nL own Ts R g) {x : Int64} {y : Int32} (d : decode cc pc = .ok (.lshr, 1)) (kk : V k ws (pc + 1) lv (.long (x >>> (y.toInt64 &&& 63)) :: st)) : V k ws pc lv (.int y :: .long x :: st) := fun ls H locs hl hP hD hS => lv_lshr C.x C.b d rfl (kk ls H locs hl hP hD hS)
theorem r_dup (C : CX k cc nL own Ts R g) {va : Value} (d : decode cc pc = .ok (.dup, 1)) (hva : va.category = 1) (kk : V k ws (pc + 1) lv (va :: va :: st)) : V k ws pc lv (va :: st) := fun ls H locs hl hP hD hS => lv_dup C.x C.b d hva (kk ls H locs hl hP hD hS)
theorem r_pop (C : CX k cc nL own Ts R g) {va : Value} (d : decode cc pc = .ok (.pop, 1)) (hva : va.category = 1) (kk : V k ws (pc + 1) lv st) : V k ws pc lv (va :: st) := fun ls H locs hl hP hD hS => lv_pop C.x C.b d hva (kk ls H locs hl hP hD hS)
theorem r_dup2 (C : CX k cc nL own Ts R g) {va vb : Value} (d : decode cc pc = .ok (.dup2, 1)) (hva : va.category = 1) (hvb : vb.category = 1) (kk : V k ws (pc + 1) lv (va :: vb :: va :: vb :: st)) : V k ws pc lv (va :: vb :: st) := fun ls H locs hl hP hD hS => lv_dup2_11 C.x C.b d hva hvb (kk ls H locs hl hP hD hS)
theorem r_if_eq (C : CX k cc nL own Ts R g) {x : Int32} {off : Int} {tgt : Nat} (d : decode cc pc = .ok (.ifCond .eq off, 3)) (ht : (pc : Int) + off = (tgt : Int)) (kt : x = 0 → V k ws tgt lv st) (kf : ¬ x = 0 → V k ws (pc + 3) lv st) : V k ws pc lv (.int x :: st) := fun ls H locs hl hP hD hS => lv_if_eq C.x C.b d ht (fun c => kt c ls H locs hl hP hD hS) (fun c => kf c ls H locs hl hP hD hS)
theorem r_icmp_eq (C : CX k cc nL own Ts R g) {x y : Int32} {off : Int} {tgt : Nat} (d : decode cc pc = .ok (.if_icmp .eq off, 3)) (ht : (pc : Int) + off = (tgt : Int)) (kt : x = y → V k ws tgt lv st) (kf : ¬ x = y → V k ws (pc + 3) lv st) : V k ws pc lv (.int y :: .int x :: st) := fun ls H locs hl hP hD hS => lv_icmp_eq C.x C.b d ht (fun c => kt c ls H locs hl hP hD hS) (fun c => kf c ls H locs hl hP hD hS)
theorem r_if_ne (C : CX k cc nL own Ts R g) {x : Int32} {off : Int} {tgt : Nat} (d : decode cc pc = .ok (.ifCond .ne off, 3)) (ht : (pc : Int) + off = (tgt : Int)) (kt : ¬ x = 0 → V k ws tgt lv st) (kf : x = 0 → V k ws (pc + 3) lv st) : V k ws pc lv (.int x :: st) := fun ls H locs hl hP hD hS => lv_if_ne C.x C.b d ht (fun c => kt c ls H locs hl hP hD hS) (fun c => kf c ls H locs hl hP hD hS)
theorem r_icmp_ne (C : CX k cc nL own Ts R g) {x y : Int32} {off : Int} {tgt : Nat} (d : decode cc pc = .ok (.if_icmp .ne off, 3)) (ht : (pc : Int) + off = (tgt : Int)) (kt : ¬ x = y → V k ws tgt lv st) (kf : x = y → V k ws (pc + 3) lv st) : V k ws pc lv (.int y :: .int x :: st) := fun ls H locs hl hP hD hS => lv_icmp_ne C.x C.b d ht (fun c => kt c ls H locs hl hP hD hS) (fun c => kf c ls H locs hl hP hD hS)
theorem r_if_lt (C : CX k cc nL own Ts R g) {x : Int32} {off : Int} {tgt : Nat} (d : decode cc pc = .ok (.ifCond .lt off, 3)) (ht : (pc : Int) + off = (tgt : Int)) (kt : x < 0 → V k ws tgt lv st) (kf : ¬ x < 0 → V k ws (pc + 3) lv st) : V k ws pc lv (.int x :: st) := fun ls H locs hl hP hD hS => lv_if_lt C.x C.b d ht (fun c => kt c ls H locs hl hP hD hS) (fun c => kf c ls H locs hl hP hD hS)
theorem r_icmp_lt (C : CX k cc nL own Ts R g) {x y : Int32} {off : Int} {tgt : Nat} (d : decode cc pc = .ok (.if_icmp .lt off, 3)) (ht : (pc : Int) + off = (tgt : Int)) (kt : x < y → V k ws tgt lv st) (kf : ¬ x < y → V k ws (pc + 3) lv st) : V k ws pc lv (.int y :: .int x :: st) := fun ls H locs hl hP hD hS => lv_icmp_lt C.x C.b d ht (fun c => kt c ls H locs hl hP hD hS) (fun c => kf c ls H locs hl hP hD hS)
theorem r_if_ge (C : CX k cc nL own Ts R g) {x : Int32} {off : Int} {tgt : Nat} (d : decode cc pc = .ok (.ifCond .ge off, 3)) (ht : (pc : Int) + off = (tgt : Int)) (kt : 0 ≤ x → V k ws tgt lv st) (kf : ¬ 0 ≤ x → V k ws (pc + 3) lv st) : V k ws pc lv (.int x :: st) := fun ls H locs hl hP hD hS => lv_if_ge C.x C.b d ht (fun c => kt c ls H locs hl hP hD hS) (fun c => kf c ls H locs hl hP hD hS)
theorem r_icmp_ge (C : CX k cc nL own Ts R g) {x y : Int32} {off : Int} {tgt : Nat} (d : decode cc pc = .ok (.if_icmp .ge off, 3)) (ht : (pc : Int) + off = (tgt : Int)) (kt : y ≤ x → V k ws tgt lv st) (kf : ¬ y ≤ x → V k ws (pc + 3) lv st) : V k ws pc lv (.int y :: .int x :: st) := fun ls H locs hl hP hD hS => lv_icmp_ge C.x C.b d ht (fun c => kt c ls H locs hl hP hD hS) (fun c => kf c ls H locs hl hP hD hS)
theorem r_if_gt (C : CX k cc nL own Ts R g) {x : Int32} {off : Int} {tgt : Nat} (d : decode cc pc = .ok (.ifCond .gt off, 3)) (ht : (pc : Int) + off = (tgt : Int)) (kt : 0 < x → V k ws tgt lv st) (kf : ¬ 0 < x → V k ws (pc + 3) lv st) : V k ws pc lv (.int x :: st) := fun ls H locs hl hP hD hS => lv_if_gt C.x C.b d ht (fun c => kt c ls H locs hl hP hD hS) (fun c => kf c ls H locs hl hP hD hS)
theorem r_icmp_gt (C : CX k cc nL own Ts R g) {x y : Int32} {off : Int} {tgt : Nat} (d : decode cc pc = .ok (.if_icmp .gt off, 3)) (ht : (pc : Int) + off = (tgt : Int)) (kt : y < x → V k ws tgt lv st) (kf : ¬ y < x → V k ws (pc + 3) lv st) : V k ws pc lv (.int y :: .int x :: st) := fun ls H locs hl hP hD hS => lv_icmp_gt C.x C.b d ht (fun c => kt c ls H locs hl hP hD hS) (fun c => kf c ls H locs hl hP hD hS)
theorem r_if_le (C : CX k cc nL own Ts R g) {x : Int32} {off : Int} {tgt : Nat} (d : decode cc pc = .ok (.ifCond .le off, 3)) (ht : (pc : Int) + off = (tgt : Int)) (kt : x ≤ 0 → V k ws tgt lv st) (kf : ¬ x ≤ 0 → V k ws (pc + 3) lv st) : V k ws pc lv (.int x :: st) := fun ls H locs hl hP hD hS => lv_if_le C.x C.b d ht (fun c => kt c ls H locs hl hP hD hS) (fun c => kf c ls H locs hl hP hD hS)
theorem r_icmp_le (C : CX k cc nL own Ts R g) {x y : Int32} {off : Int} {tgt : Nat} (d : decode cc pc = .ok (.if_icmp .le off, 3)) (ht : (pc : Int) + off = (tgt : Int)) (kt : x ≤ y → V k ws tgt lv st) (kf : ¬ x ≤ y → V k ws (pc + 3) lv st) : V k ws pc lv (.int y :: .int x :: st) := fun ls H locs hl hP hD hS => lv_icmp_le C.x C.b d ht (fun c => kt c ls H locs hl hP hD hS) (fun c => kf c ls H locs hl hP hD hS)
theorem lg3 (x y : Int64) : (y < x ∧ ¬ x = y ∧ ¬ x < y ∧ lg_cmp x y = 1) ∨ (x = y ∧ ¬ y < x ∧ ¬ x < y ∧ lg_cmp x y = 0) ∨ (x < y ∧ ¬ x = y ∧ ¬ y < x ∧ lg_cmp x y = -1) := by
  by_cases h1 : y < x
  · refine Or.inl ⟨h1, fun h => ?_, fun h => ?_, by simp [lg_cmp, h1]⟩
    · subst h; rw [Int64.lt_iff_toInt_lt] at h1; omega
    · rw [Int64.lt_iff_toInt_lt] at h1 h; omega
  · by_cases h2 : x = y
    · subst h2; exact Or.inr (Or.inl ⟨rfl, h1, h1, by simp [lg_cmp]⟩)
    · refine Or.inr (Or.inr ⟨?_, h2, h1, by simp [lg_cmp, h1, h2]⟩)
      rw [Int64.lt_iff_toInt_lt] at h1 ⊢
      have : x.toInt ≠ y.toInt := fun h => h2 (Int64.toInt_inj.mp h)
      omega
theorem lg_eq {x y : Int64} : lg_cmp x y = 0 ↔ x = y := by
  rcases lg3 x y with ⟨a, b, c, d⟩ | ⟨a, b, c, d⟩ | ⟨a, b, c, d⟩ <;> rw [d] <;> simp [a, b]
theorem lg_lt {x y : Int64} : lg_cmp x y < 0 ↔ x < y := by
  rcases lg3 x y with ⟨a, b, c, d⟩ | ⟨a, b, c, d⟩ | ⟨a, b, c, d⟩ <;> rw [d]
  · exact ⟨fun h => absurd h (by decide), fun h => absurd h c⟩
  · exact ⟨fun h => absurd h (by decide), fun h => absurd h c⟩
  · exact ⟨fun _ => a, fun _ => by decide⟩
theorem lg_gt {x y : Int64} : 0 < lg_cmp x y ↔ y < x := by
  rcases lg3 x y with ⟨a, b, c, d⟩ | ⟨a, b, c, d⟩ | ⟨a, b, c, d⟩ <;> rw [d]
  · exact ⟨fun _ => a, fun _ => by decide⟩
  · exact ⟨fun h => absurd h (by decide), fun h => absurd h b⟩
  · exact ⟨fun h => absurd h (by decide), fun h => absurd h c⟩
theorem l_nlt {x y : Int64} : ¬ x < y ↔ y ≤ x := by rw [Int64.lt_iff_toInt_lt, Int64.le_iff_toInt_le]; omega
theorem i_nlt {x y : Int32} : ¬ x < y ↔ y ≤ x := by rw [Int32.lt_iff_toInt_lt, Int32.le_iff_toInt_le]; omega
theorem lg_ge {x y : Int64} : 0 ≤ lg_cmp x y ↔ y ≤ x := by rw [← l_nlt, ← i_nlt, lg_lt]
theorem lg_le {x y : Int64} : lg_cmp x y ≤ 0 ↔ x ≤ y := by rw [← l_nlt, ← i_nlt, lg_gt]
theorem r_lcmp_eq (C : CX k cc nL own Ts R g) {x y : Int64} {off : Int} {tgt : Nat} (d0 : decode cc pc = .ok (.lcmp, 1)) (d : decode cc (pc + 1) = .ok (.ifCond .eq off, 3)) (ht : ((pc + 1 : Nat) : Int) + off = (tgt : Int)) (kt : x = y → V k ws tgt lv st) (kf : ¬ x = y → V k ws (pc + 1 + 3) lv st) : V k ws pc lv (.long y :: .long x :: st) := fun ls H locs hl hP hD hS => W.lcmp C.x C.b d0 (lv_if_eq C.x C.b d ht (fun c => kt (lg_eq.mp c) ls H locs hl hP hD hS) (fun c => kf (fun h => c (lg_eq.mpr h)) ls H locs hl hP hD hS))
theorem r_lcmp_ne (C : CX k cc nL own Ts R g) {x y : Int64} {off : Int} {tgt : Nat} (d0 : decode cc pc = .ok (.lcmp, 1)) (d : decode cc (pc + 1) = .ok (.ifCond .ne off, 3)) (ht : ((pc + 1 : Nat) : Int) + off = (tgt : Int)) (kt : ¬ x = y → V k ws tgt lv st) (kf : x = y → V k ws (pc + 1 + 3) lv st) : V k ws pc lv (.long y :: .long x :: st) := fun ls H locs hl hP hD hS => W.lcmp C.x C.b d0 (lv_if_ne C.x C.b d ht (fun c => kt (fun h => c (lg_eq.mpr h)) ls H locs hl hP hD hS) (fun c => kf (lg_eq.mp c) ls H locs hl hP hD hS))
theorem r_lcmp_lt (C : CX k cc nL own Ts R g) {x y : Int64} {off : Int} {tgt : Nat} (d0 : decode cc pc = .ok (.lcmp, 1)) (d : decode cc (pc + 1) = .ok (.ifCond .lt off, 3)) (ht : ((pc + 1 : Nat) : Int) + off = (tgt : Int)) (kt : x < y → V k ws tgt lv st) (kf : ¬ x < y → V k ws (pc + 1 + 3) lv st) : V k ws pc lv (.long y :: .long x :: st) := fun ls H locs hl hP hD hS => W.lcmp C.x C.b d0 (lv_if_lt C.x C.b d ht (fun c => kt (lg_lt.mp c) ls H locs hl hP hD hS) (fun c => kf (fun h => c (lg_lt.mpr h)) ls H locs hl hP hD hS))
theorem r_lcmp_ge (C : CX k cc nL own Ts R g) {x y : Int64} {off : Int} {tgt : Nat} (d0 : decode cc pc = .ok (.lcmp, 1)) (d : decode cc (pc + 1) = .ok (.ifCond .ge off, 3)) (ht : ((pc + 1 : Nat) : Int) + off = (tgt : Int)) (kt : y ≤ x → V k ws tgt lv st) (kf : ¬ y ≤ x → V k ws (pc + 1 + 3) lv st) : V k ws pc lv (.long y :: .long x :: st) := fun ls H locs hl hP hD hS => W.lcmp C.x C.b d0 (lv_if_ge C.x C.b d ht (fun c => kt (lg_ge.mp c) ls H locs hl hP hD hS) (fun c => kf (fun h => c (lg_ge.mpr h)) ls H locs hl hP hD hS))
theorem r_lcmp_gt (C : CX k cc nL own Ts R g) {x y : Int64} {off : Int} {tgt : Nat} (d0 : decode cc pc = .ok (.lcmp, 1)) (d : decode cc (pc + 1) = .ok (.ifCond .gt off, 3)) (ht : ((pc + 1 : Nat) : Int) + off = (tgt : Int)) (kt : y < x → V k ws tgt lv st) (kf : ¬ y < x → V k ws (pc + 1 + 3) lv st) : V k ws pc lv (.long y :: .long x :: st) := fun ls H locs hl hP hD hS => W.lcmp C.x C.b d0 (lv_if_gt C.x C.b d ht (fun c => kt (lg_gt.mp c) ls H locs hl hP hD hS) (fun c => kf (fun h => c (lg_gt.mpr h)) ls H locs hl hP hD hS))
theorem r_lcmp_le (C : CX k cc nL own Ts R g) {x y : Int64} {off : Int} {tgt : Nat} (d0 : decode cc pc = .ok (.lcmp, 1)) (d : decode cc (pc + 1) = .ok (.ifCond .le off, 3)) (ht : ((pc + 1 : Nat) : Int) + off = (tgt : Int)) (kt : x ≤ y → V k ws tgt lv st) (kf : ¬ x ≤ y → V k ws (pc + 1 + 3) lv st) : V k ws pc lv (.long y :: .long x :: st) := fun ls H locs hl hP hD hS => W.lcmp C.x C.b d0 (lv_if_le C.x C.b d ht (fun c => kt (lg_le.mp c) ls H locs hl hP hD hS) (fun c => kf (fun h => c (lg_le.mpr h)) ls H locs hl hP hD hS))
theorem r_goto (C : CX k cc nL own Ts R g) {off : Int} {tgt : Nat} (d : decode cc pc = .ok (.goto off, 3)) (ht : (pc : Int) + off = (tgt : Int)) (kk : V k ws tgt lv st) : V k ws pc lv st := fun ls H locs hl hP hD hS => lv_goto C.x C.b d ht (kk ls H locs hl hP hD hS)
theorem r_tabOut (C : CX k cc nL own Ts R g) {dflt lo hi : Int} {offs : Array Int} {len : Nat} {x : Int32} {tgt : Nat} (d : decode cc pc = .ok (.tableswitch dflt lo hi offs, len)) (h : x.toInt < lo ∨ hi < x.toInt) (ht : (pc : Int) + dflt = (tgt : Int)) (kk : V k ws tgt lv st) : V k ws pc lv (.int x :: st) := fun ls H locs hl hP hD hS => lv_tableOut C.x C.b d h ht (kk ls H locs hl hP hD hS)
theorem r_tabIn (C : CX k cc nL own Ts R g) {dflt lo hi : Int} {offs : Array Int} {len : Nat} {x : Int32} {off : Int} {tgt : Nat} (d : decode cc pc = .ok (.tableswitch dflt lo hi offs, len)) (h1 : ¬ x.toInt < lo) (h2 : ¬ hi < x.toInt) (ho : offs[(x.toInt - lo).toNat]? = some off) (ht : (pc : Int) + off = (tgt : Int)) (kk : V k ws tgt lv st) : V k ws pc lv (.int x :: st) := fun ls H locs hl hP hD hS => lv_tableIn C.x C.b d h1 h2 ho ht (kk ls H locs hl hP hD hS)
theorem r_look (C : CX k cc nL own Ts R g) {dflt : Int} {ps : Array (Int × Int)} {len : Nat} {x : Int32} {off : Int} {tgt : Nat} (d : decode cc pc = .ok (.lookupswitch dflt ps, len)) (hp : (ps.toList.zip (ps.toList.drop 1)).all (fun (a, next) => a.1 < next.1) = true) (ho : Op.lookupswitch.offset ps.toList dflt x.toInt = off) (ht : (pc : Int) + off = (tgt : Int)) (kk : V k ws tgt lv st) : V k ws pc lv (.int x :: st) := fun ls H locs hl hP hD hS => lv_lookup C.x C.b d hp ho ht (kk ls H locs hl hP hD hS)
theorem r_get (C : CX k cc nL own Ts R g) {Cn : String} {T : u_T} {N ci index a : Nat} {fs : List Value} {v : Value} (d : decode cc pc = .ok (.getfield index, 3)) (hin : ∀ w ∈ u_ws Cn T N, w ∈ Ts) (q0 : Nat) (he : ws[q0]? = some (a, .inr (ci, fs))) (hc : vwCl[ci]? = some (Cn, T, N)) (kf : Nat) (hk : kf < N) (hw : Cond.fieldLink own index (T kf).1 (T kf).2.1 (T kf).2.2.1 ∈ Ts) (hv : fs[kf]? = some v) (kk : V k ws (pc + 3) lv (v :: st)) : V k ws pc lv (.ref a :: st) := fun ls H locs hl hP hD hS => va_get C.x C.b C.t hin C.o C.K hP q0 he hc kf hk (C.t _ hw) (fun _ h => h) hv d (kk ls H locs hl hP hD hS)
theorem r_put (C : CX k cc nL own Ts R g) {Cn : String} {T : u_T} {N ci index a : Nat} {fs : List Value} {v : Value} {ty : FieldType} {ws' : va_W} (d : decode cc pc = .ok (.putfield index, 3)) (hin : ∀ w ∈ u_ws Cn T N, w ∈ Ts) (ty0 : Nat → FieldType) (hty : ∀ k, k < N → parseFieldDescriptor (T k).2.2.1 = some (ty0 k)) (hnm : ∀ a, a < N → ∀ b, b < N → a ≠ b → (T a).2.1 ≠ (T b).2.1) (q0 : Nat) (he : ws[q0]? = some (a, .inr (ci, fs))) (hc : vwCl[ci]? = some (Cn, T, N)) (kf : Nat) (hk : kf < N) (hw : Cond.fieldLink own index (T kf).1 (T kf).2.1 (T kf).2.2.1 ∈ Ts) (hfin : (T kf).2.2.2 = false) (hd : parseFieldDescriptor (T kf).2.2.1 = some ty) (hn : narrow ty v = v) (hfit : fits ty v = true) (hlen : kf < fs.length) (hset : ws.set q0 (a, .inr (ci, fs.set kf v)) = ws') (kk : V k ws' (pc + 3) lv st) : V k ws pc lv (v :: .ref a :: st) := by
  subst hset
  exact fun ls H locs hl hP hD hS => va_put C.x C.b C.t hin ty0 hty hnm C.o C.K hP hD hS q0 he hc kf hk (C.t _ hw) (fun _ h => h) hfin hd hn hfit hlen d (fun H1 locs1 hP hD hS => kk ls H1 locs1 hl hP hD hS)
theorem r_iald (C : CX k cc nL own Ts R g) {a n j : Nat} {f : Nat → Int32} {i : Int32} (d : decode cc pc = .ok (.iaload, 1)) (q0 : Nat) (ha : ws[q0]? = some (a, .inl (g.2 1, n, .inl f))) (hi : vp_in i n) (hj : i.toNatClampNeg = j) (kk : V k ws (pc + 1) lv (.int (f j) :: st)) : V k ws pc lv (.int i :: .ref a :: st) := by
  subst hj
  exact fun ls H locs hl hP hD hS => va_iald C.x C.b C.K hP q0 1 ha rfl hi d (kk ls H locs hl hP hD hS)
theorem r_bald (C : CX k cc nL own Ts R g) {a n j : Nat} {f : Nat → Int32} {i : Int32} (d : decode cc pc = .ok (.baload, 1)) (q0 : Nat) (ha : ws[q0]? = some (a, .inl (g.2 0, n, .inl f))) (hi : vp_in i n) (hj : i.toNatClampNeg = j) (kk : V k ws (pc + 1) lv (.int (f j) :: st)) : V k ws pc lv (.int i :: .ref a :: st) := by
  subst hj
  exact fun ls H locs hl hP hD hS => va_bald C.x C.b C.K hP q0 0 ha rfl hi d (kk ls H locs hl hP hD hS)
theorem r_lald (C : CX k cc nL own Ts R g) {a n j : Nat} {f : Nat → Int64} {i : Int32} (d : decode cc pc = .ok (.laload, 1)) (q0 : Nat) (ha : ws[q0]? = some (a, .inl (g.2 2, n, .inr (.inl f)))) (hi : vp_in i n) (hj : i.toNatClampNeg = j) (kk : V k ws (pc + 1) lv (.long (f j) :: st)) : V k ws pc lv (.int i :: .ref a :: st) := by
  subst hj
  exact fun ls H locs hl hP hD hS => va_lald C.x C.b C.K hP q0 2 ha rfl hi d (kk ls H locs hl hP hD hS)
theorem r_aald (C : CX k cc nL own Ts R g) {a n : Nat} {f : Nat → Option Nat} {i : Int32} {b : Nat} (d : decode cc pc = .ok (.aaload, 1)) (q0 : Nat) (ha : ws[q0]? = some (a, .inl (g.2 3, n, .inr (.inr (.inr (.inr f)))))) (hi : vp_in i n) (hf : f i.toNatClampNeg = some b) (kk : V k ws (pc + 1) lv (.ref b :: st)) : V k ws pc lv (.int i :: .ref a :: st) := fun ls H locs hl hP hD hS => va_aldq C.x C.b C.K hP q0 3 ha rfl hi d (by rw [hf]; exact (kk ls H locs hl hP hD hS))
theorem r_iast (C : CX k cc nL own Ts R g) {a n j : Nat} {f : Nat → Int32} {i x : Int32} {ws' : va_W} (d : decode cc pc = .ok (.iastore, 1)) (q0 : Nat) (ha : ws[q0]? = some (a, .inl (g.2 1, n, .inl f))) (hi : vp_in i n) (hj : i.toNatClampNeg = j) (hset : ws.set q0 (a, .inl (g.2 1, n, .inl (upd f j x))) = ws') (kk : V k ws' (pc + 1) lv st) : V k ws pc lv (.int x :: .int i :: .ref a :: st) := by
  subst hj; subst hset
  exact fun ls H locs hl hP hD hS => va_iast C.x C.b C.K hP hD hS q0 1 ha rfl hi d (fun H1 locs1 hP hD hS => kk ls H1 locs1 hl hP hD hS)
theorem r_bast (C : CX k cc nL own Ts R g) {a n j : Nat} {f : Nat → Int32} {i x : Int32} {ws' : va_W} (d : decode cc pc = .ok (.bastore, 1)) (q0 : Nat) (ha : ws[q0]? = some (a, .inl (g.2 0, n, .inl f))) (hi : vp_in i n) (hj : i.toNatClampNeg = j) (hset : ws.set q0 (a, .inl (g.2 0, n, .inl (upd f j (vp_nar .byte x)))) = ws') (kk : V k ws' (pc + 1) lv st) : V k ws pc lv (.int x :: .int i :: .ref a :: st) := by
  subst hj; subst hset
  exact fun ls H locs hl hP hD hS => va_bast C.x C.b C.K hP hD hS q0 0 ha rfl hi d (fun H1 locs1 hP hD hS => kk ls H1 locs1 hl hP hD hS)
theorem r_last (C : CX k cc nL own Ts R g) {a n j : Nat} {f : Nat → Int64} {i : Int32} {x : Int64} {ws' : va_W} (d : decode cc pc = .ok (.lastore, 1)) (q0 : Nat) (ha : ws[q0]? = some (a, .inl (g.2 2, n, .inr (.inl f)))) (hi : vp_in i n) (hj : i.toNatClampNeg = j) (hset : ws.set q0 (a, .inl (g.2 2, n, .inr (.inl (vp_updL f j x)))) = ws') (kk : V k ws' (pc + 1) lv st) : V k ws pc lv (.long x :: .int i :: .ref a :: st) := by
  subst hj; subst hset
  exact fun ls H locs hl hP hD hS => va_last C.x C.b C.K hP hD hS q0 2 ha rfl hi d (fun H1 locs1 hP hD hS => kk ls H1 locs1 hl hP hD hS)
theorem r_alen (C : CX k cc nL own Ts R g) {a : Nat} {x : vp_A} {v : Int32} (d : decode cc pc = .ok (.arraylength, 1)) (q0 : Nat) (ha : ws[q0]? = some (a, .inl (g.2 1, x))) (hv : Int32.ofNat x.1 = v) (kk : V k ws (pc + 1) lv (.int v :: st)) : V k ws pc lv (.ref a :: st) := fun ls H locs hl hP hD hS => va_alen C.x C.b C.K hP q0 1 ha rfl hv d (kk ls H locs hl hP hD hS)
theorem r_gets (C : CX k cc nL own Ts R g) {n dd : String} {t N index : Nat} {f : Nat → Value} (d : decode cc pc = .ok (.getstatic index, 3)) (hZ : va_Z RX7 n dd (.ref t) (kA k) (ks k) (ks k).heap ∧ va_T .int t N f (kA k) (ks k) (ks k).heap) (hw : Cond.fieldLink own index RX7 n dd ∈ Ts) (kk : V k ws (pc + 3) lv (.ref t :: st)) : V k ws pc lv st := fun ls H locs hl hP hD hS => va_gets C.x C.b hZ.1 hS C.o (C.t _ hw) (fun _ h => h) d (kk ls H locs hl hP hD hS)
theorem r_getsN (C : CX k cc nL own Ts R g) {n dd : String} {t N index : Nat} {f : Nat → Value} (d : decode cc pc = .ok (.getstatic index, 3)) (hZ : va_Z RX7 n dd (.ref t) (kA k) (ks k) (ks k).heap ∧ va_T .int t N f (kA k) (ks k) (ks k).heap) (hw : va_Nw (.fieldLinkNest own index RX7 n dd RX7) (ks k)) (kk : V k ws (pc + 3) lv (.ref t :: st)) : V k ws pc lv st := fun ls H locs hl hP hD hS => va_getsN C.x C.b hZ.1 hS C.o (va_Nw.use rfl hw) (fun _ h => h) d (kk ls H locs hl hP hD hS)
theorem r_tald (C : CX k cc nL own Ts R g) {n dd : String} {t N j : Nat} {f : Nat → Int32} {i : Int32} (d : decode cc pc = .ok (.iaload, 1)) (hZ : va_Z RX7 n dd (.ref t) (kA k) (ks k) (ks k).heap ∧ va_T .int t N (fun j => .int (f j)) (kA k) (ks k) (ks k).heap) (hi : vp_in i N) (hj : i.toNatClampNeg = j) (kk : V k ws (pc + 1) lv (.int (f j) :: st)) : V k ws pc lv (.int i :: .ref t :: st) := by
  subst hj
  exact fun ls H locs hl hP hD hS => va_ti C.x C.b hZ.2 hS hi rfl d (kk ls H locs hl hP hD hS)
def imin (x y : Int32) : Int32 := if y < x then y else x
def imax (x y : Int32) : Int32 := if x < y then y else x
def iabs (x : Int32) : Int32 := if 0 ≤ x then x else 0 - x
theorem r_mmin (C : CX k cc nL own Ts R g) {index : Nat} {x y : Int32} (d : decode cc pc = .ok (.invokestatic index, 3)) (h1 : Cond.methodLink own index Lib.Math.min.name ∈ Ts) (h2 : Cond.static Lib.Math.min.name ∈ Ts) (h3 : Cond.initialized "java/lang/Math" ∈ Ts) (h4 : Cond.code Lib.Math.min.name Lib.Math.min.code 2 (some .int) ∈ Ts) (hfr : 1 ≤ R.frames) (hlo : (st.map fun v => v.category).sum + 13 ≤ R.locals) (kk : V k ws (pc + 3) lv (.int (imin x y) :: st)) : V k ws pc lv (.int y :: .int x :: st) := fun ls H locs hl hP hD hS => va_mmin C.x C.b (C.ml.trans hl.1.symm) C.o (C.t _ h1) (C.t _ h2) (C.t _ h3) (C.t _ h4) (C.rm ▸ hfr) (C.rm ▸ hlo) (C.rm ▸ C.cx) (C.rm ▸ C.cy) d (kk ls H locs hl hP hD hS)
theorem r_mmax (C : CX k cc nL own Ts R g) {index : Nat} {x y : Int32} (d : decode cc pc = .ok (.invokestatic index, 3)) (h1 : Cond.methodLink own index Lib.Math.max.name ∈ Ts) (h2 : Cond.static Lib.Math.max.name ∈ Ts) (h3 : Cond.initialized "java/lang/Math" ∈ Ts) (h4 : Cond.code Lib.Math.max.name Lib.Math.max.code 2 (some .int) ∈ Ts) (hfr : 1 ≤ R.frames) (hlo : (st.map fun v => v.category).sum + 13 ≤ R.locals) (kk : V k ws (pc + 3) lv (.int (imax x y) :: st)) : V k ws pc lv (.int y :: .int x :: st) := fun ls H locs hl hP hD hS => va_mmax C.x C.b (C.ml.trans hl.1.symm) C.o (C.t _ h1) (C.t _ h2) (C.t _ h3) (C.t _ h4) (C.rm ▸ hfr) (C.rm ▸ hlo) (C.rm ▸ C.cx) (C.rm ▸ C.cy) d (kk ls H locs hl hP hD hS)
theorem r_mabs (C : CX k cc nL own Ts R g) {index : Nat} {x : Int32} (d : decode cc pc = .ok (.invokestatic index, 3)) (h1 : Cond.methodLink own index Lib.Math.abs.name ∈ Ts) (h2 : Cond.static Lib.Math.abs.name ∈ Ts) (h3 : Cond.initialized "java/lang/Math" ∈ Ts) (h4 : Cond.code Lib.Math.abs.name Lib.Math.abs.code 1 (some .int) ∈ Ts) (hfr : 1 ≤ R.frames) (hlo : (st.map fun v => v.category).sum + 13 ≤ R.locals) (kk : V k ws (pc + 3) lv (.int (iabs x) :: st)) : V k ws pc lv (.int x :: st) := fun ls H locs hl hP hD hS => va_mabs C.x C.b (C.ml.trans hl.1.symm) C.o (C.t _ h1) (C.t _ h2) (C.t _ h3) (C.t _ h4) (C.rm ▸ hfr) (C.rm ▸ hlo) (C.rm ▸ C.cx) (C.rm ▸ C.cy) d (kk ls H locs hl hP hD hS)
theorem r_copyi (C : CX k cc nL own Ts R g) {index a0 a n0 n1 : Nat} {f h : Nat → Int32} {sp dp n : Int32} {ws' : va_W} (d : decode cc pc = .ok (.invokestatic index, 3)) (w1 : Cond.methodLink own index arraycopyName ∈ Ts) (w2 : Cond.native arraycopyName ∈ Ts) (w3 : Cond.static arraycopyName ∈ Ts) (w4 : Cond.initialized "java/lang/System" ∈ Ts) (q0 q1 : Nat) (ha0 : ws[q0]? = some (a0, .inl (g.2 1, n0, .inl f))) (ha1 : ws[q1]? = some (a, .inl (g.2 1, n1, .inl h))) (h1 : ¬ sp < 0) (h2 : ¬ dp < 0) (h3 : ¬ n < 0) (h4 : sp.toNatClampNeg + n.toNatClampNeg ≤ n0) (h5 : dp.toNatClampNeg + n.toNatClampNeg ≤ n1) (hfr : 1 ≤ R.frames) (hlo : (st.map fun v => v.category).sum + (nativeFrameWords "java/lang/System" "arraycopy" 5 + 11) ≤ R.locals) (hset : ws.set q1 (a, .inl (g.2 1, n1, .inl (va_cpy f h sp.toNatClampNeg dp.toNatClampNeg n.toNatClampNeg))) = ws') (kk : V k ws' (pc + 3) lv st) : V k ws pc lv (.int n :: .int dp :: .ref a :: .int sp :: .ref a0 :: st) := by
  subst hset
  exact fun ls H locs hl hP hD hS => va_copyi C.x C.b (C.ml.trans hl.1.symm) C.o (C.t _ w1) (C.t _ w2) (C.t _ w3) (C.t _ w4) C.K hP hD hS q0 q1 1 1 ha0 ha1 rfl rfl rfl h1 h2 h3 h4 h5 (fun _ _ => rfl) (C.rm ▸ hfr) (C.rm ▸ hlo) d (fun H1 locs1 hP hD hS => kk ls H1 locs1 hl hP hD hS)
/-- a contract's start and end -/
def PRE (D : va_G) (g : GG) (w : va_W) (sz : Nat) (U : State) : Prop := U.heap.size = sz ∧ va_P D vwCl w U.heap ∧ va_K D vwCl (tg g) U ∧ va_D (fun _ => True) w ∧ Stt g (va_A w sz) U ∧ Nst U
def POST (D : va_G) (g : GG) (w' : va_W) (A : Nat → Prop) (o : Option Value) : Array Value → State → Outcome → State → Prop := fun _ st oc t => (oc = .returned o ∧ va_P D vwCl w' t.heap ∧ va_K D vwCl (tg g) t ∧ va_D A w') ∧ va_F A st t
def CON (l : Launch) (y : MethodName) (wsm : List Cond) (rm : Room) (D : va_G) (g : GG) (w : va_W) (As : List Value) (o : Option Value) (w' : va_W) : Prop := ∀ sz : Nat, Met l y wsm rm (va_Pc As (PRE D g w sz)) (POST D g w' (va_A w sz) o) 0 0 (va_A w sz)
theorem pre_blind {D : va_G} {g : GG} {w : va_W} {sz : Nat} {As : List Value} : FrameBlind (va_Pc As (PRE D g w sz)) := by
  intro a U f mk q
  obtain ⟨q0, q1, qP, qK, qD, qS, qN⟩ := q
  refine ⟨q0, q1, qP, va_K.moved (u := U) (U := U.calling f mk a) (Vm.Alike.refl U.vm) qK, qD, ?_, Nst.same rfl qN⟩
  exact Stt.go (U := U.calling f mk a) (H := U.heap) (locs := []) qS va_S.rf (Vm.Alike.refl U.vm) rfl (fun _ h => h)
theorem fr_all {A : Nat → Prop} {ws : va_W} {H0 H : Heap} {locs : List Loc} (hD : va_D A ws) (hS : va_S A H0 H locs) (hA : ∀ q, H0.size ≤ q → A q) : ∀ q, va_A ws H.size q → A q := by
  intro q h
  rcases h with ⟨j, e, h⟩ | h
  · exact hD.2 j (q, e) h
  · exact hA q (Nat.le_trans hS.1 h)
section CALLS
variable {y : MethodName} {wsc ws'' : List Cond} {rm : Room} {w w' : va_W} {As rest : List Value} {o : Option Value} {bytes : ByteArray} {maxL n index b : Nat} {ret : Option FieldType} {Cn : String}
theorem pre_here (C : CX k cc nL own Ts R g) {H : Heap} {locs : List Loc} (hP : va_P (kD k) vwCl w H) (hD : va_D (kA k) w) (hS : va_S (kA k) (ks k).heap H locs) : ∀ U : State, U.heap = H → (ks k).WarmedH U.vm → va_Pc As (PRE (kD k) g w H.size) As.toArray U := fun U hU hW => ⟨rfl, by rw [hU], by rw [hU]; exact hP, va_K.moved hW.alike C.K, hD.weaken (fun _ _ _ _ => trivial), C.S.go hS hW.alike hU (fr_all hD hS C.A), C.N.warm hW⟩
theorem r_run (C : CX k cc nL own Ts R g) {ls : Array Slot} {H : Heap} {locs : List Loc} {st0 : List Value} {a : Array Value} (hl : lv_has ls (kn k) lv) (hD : va_D (kA k) w) (hS : va_S (kA k) (ks k).heap H locs)
    (hr : va_Run (kp k) (kl k) (ke k) (kR k) (ks k) (km k) (ka k) (kb k) (kM k) (kc k) H locs (kx k) (ky k) 0 0 (F0 (km k) pc ls st0) rest (POST (kD k) g w' (va_A w H.size) o a) (va_A w H.size))
    (kk : V k w' (pc + 3) lv (o.toList ++ rest)) : W (kp k) (kl k) (ke k) (kR k) (ks k) (km k) (ka k) (kb k) (kM k) (kc k) H locs (kx k) (ky k) (kQ k) (F0 (km k) pc ls st0) := by
  intro T hT X
  have hF := fr_all hD hS C.A
  obtain ⟨v, st₀, t, T', L, h0, X', hL, e1, e2, ⟨⟨hv, hP1, hK1, hD1⟩, hz, hk⟩, st⟩ := hr T hT X
  cases hv
  rw [h0] at hz hk
  obtain ⟨t2, a1, b1⟩ := kk ls T'.heap (locs ++ L) hl (by rw [e1]; exact hP1) (hD1.weaken (fun _ q _ h => hF q.1 h))
    ⟨Nat.le_trans hS.1 (by rw [e1]; exact hz), fun q h1 h2 => by rw [e1, hk q (Nat.lt_of_lt_of_le h1 hS.1) (fun z => h2 (hF q z))]; exact hS.2.1 q h1 h2, fun q hq => by
      rcases List.mem_append.mp hq with h | h
      · exact hS.2.2 q h
      · exact hF _ (hL q h)⟩ T' rfl X'
  exact ⟨t2, st t2 a1, b1⟩
/-- a virtual call, the world as it stands -/
theorem r_callV (C : CX k cc nL own Ts R g) (hM : CON (kl k) y wsc rm (kD k) g w (.ref b :: As) o w') (d : decode cc pc = .ok (.invokevirtual index, 3)) (hG : GoodIn Ts (wsV own index Cn y wsc)) (hw : wsc = Cond.code y bytes maxL ret :: ws'') (hrc : rm.cells = 0) (hrs : rm.slots = 0)
    (hd : y.cls = Cn ∧ y.cls ≠ "java/lang/invoke/MethodHandle" ∧ y.cls ≠ "java/lang/invoke/VarHandle" ∧ (parseMethodDescriptor y.desc).map (fun d => d.parameters.length) = some n) (hR : rm.frames + 1 ≤ R.frames ∧ 8 + (maxL + 11) + rm.locals ≤ R.locals)
    (q0 : Nat) {ci : Nat} {fs : List Value} {q : vw_C} (he : w[q0]? = some (b, .inr (ci, fs))) (hc : vwCl[ci]? = some q) (hq : q.1 = Cn) (hn : As.length = n) (hst : st = As.reverse ++ .ref b :: rest) (hW : (rest.map fun v => v.category).sum ≤ 8)
    (kk : V k w' (pc + 3) lv (o.toList ++ rest)) : V k w pc lv st := by
  subst hst; subst hq
  intro ls H locs hl hP hD hS
  refine r_run C hl hD hS (va_runV (As := As) (rest := rest) (nL := kn k) ⟨C.x, C.b, C.ml, C.o, C.t⟩ (hM H.size) (cwV n C.t hG hw hrc hrs hd (C.rm ▸ hR)) ⟨pre_blind, va_recv C.K hP hc he, pre_here C hP hD hS⟩ rfl hn hl.1 rfl (lv_room hW) d ⟨C.rm ▸ C.cx, C.rm ▸ C.cy⟩) kk
theorem r_callS (C : CX k cc nL own Ts R g) (hM : CON (kl k) y wsc rm (kD k) g w As o w') (d : decode cc pc = .ok (.invokestatic index, 3)) (hG : GoodIn Ts (va_wsS own index y wsc)) (hw : wsc = Cond.code y bytes maxL ret :: ws'') (hrc : rm.cells = 0) (hrs : rm.slots = 0)
    (hd : y.cls ≠ "java/lang/invoke/MethodHandle" ∧ y.cls ≠ "java/lang/invoke/VarHandle" ∧ (parseMethodDescriptor y.desc).map (fun d => d.parameters.length) = some n) (hR : rm.frames + 1 ≤ R.frames ∧ 8 + (maxL + 11) + rm.locals ≤ R.locals)
    (hn : As.length = n) (hst : st = As.reverse ++ rest) (hW : (rest.map fun v => v.category).sum ≤ 8)
    (kk : V k w' (pc + 3) lv (o.toList ++ rest)) : V k w pc lv st := by
  subst hst
  intro ls H locs hl hP hD hS
  refine r_run C hl hD hS (va_runS (As := As) (rest := rest) (nL := kn k) ⟨C.x, C.b, C.ml, C.o, C.t⟩ (hM H.size) (va_cwS n C.t hG hw hrc hrs hd (C.rm ▸ hR)) ⟨pre_blind, pre_here C hP hD hS⟩ rfl hn hl.1 rfl (lv_room hW) d ⟨C.rm ▸ C.cx, C.rm ▸ C.cy⟩) kk
theorem r_callSN {host : String} (C : CX k cc nL own Ts R g) (hM : CON (kl k) y wsc rm (kD k) g w As o w') (d : decode cc pc = .ok (.invokestatic index, 3)) (hG : GoodIn Ts wsc) (hw : wsc = Cond.code y bytes maxL ret :: ws'') (hrc : rm.cells = 0) (hrs : rm.slots = 0)
    (hnw : va_Nw (.methodLinkNest own index y host) (ks k)) (hini : Cond.initialized y.cls ∈ Ts) (hsta : Cond.static y ∈ Ts)
    (hd : y.cls ≠ "java/lang/invoke/MethodHandle" ∧ y.cls ≠ "java/lang/invoke/VarHandle" ∧ (parseMethodDescriptor y.desc).map (fun d => d.parameters.length) = some n) (hR : rm.frames + 1 ≤ R.frames ∧ 8 + (maxL + 11) + rm.locals ≤ R.locals)
    (hn : As.length = n) (hst : st = As.reverse ++ rest) (hW : (rest.map fun v => v.category).sum ≤ 8)
    (kk : V k w' (pc + 3) lv (o.toList ++ rest)) : V k w pc lv st := by
  subst hst
  intro ls H locs hl hP hD hS
  refine r_run C hl hD hS (va_runSN (As := As) (rest := rest) (nL := kn k) ⟨C.x, C.b, C.ml, C.o, C.t⟩ (hM H.size) ⟨va_cnB n C.t hG hw hrc hrs hnw (C.t _ hini) hd (C.rm ▸ hR), C.t _ hsta, trivial⟩ ⟨pre_blind, pre_here C hP hD hS⟩ rfl hn hl.1 rfl (lv_room hW) d ⟨C.rm ▸ C.cx, C.rm ▸ C.cy⟩) kk
end CALLS
end ROWS
/-- a method's contract out of a walk of its body -/
theorem con_of {l : Launch} {y : MethodName} {wsm ws' : List Cond} {rm : Room} {D : va_G} {g : GG} {w w' : va_W} {As : List Value} {o : Option Value} {cc : ByteArray} {maxL : Nat} {ret : Option FieldType} (hy : plainName y.cls = true) (hw : wsm = Cond.code y cc maxL ret :: ws') (hAs : (lg_sl As).length ≤ maxL) (hrc : rm.cells = 0) (hrs : rm.slots = 0)
    (body : ∀ k : CT, CX k cc maxL y.cls wsm rm g → kl k = l → kD k = D →
      (∀ (pc : Nat) (lv : List (Nat × Value)), decode cc pc = .ok (.return_, 1) → ret = none → o = none → V k w' pc lv []) →
      (∀ (pc : Nat) (lv : List (Nat × Value)) (v : Int32) (ty : FieldType), decode cc pc = .ok (.ireturn, 1) → ret = some ty → narrow ty (.int v) = .int v → o = some (.int v) → V k w' pc lv [.int v]) →
      (∀ (pc : Nat) (lv : List (Nat × Value)) (v : Int64), decode cc pc = .ok (.lreturn, 1) → ret = some .long → o = some (.long v) → V k w' pc lv [.long v]) →
      V k w 0 (lv_args 0 As) []) : CON l y wsm rm D g w As o w' := by
  intro sz
  refine Met.ofW (cc := cc) (maxL := maxL) (ret := ret) hy hw ?_
  intro p e s m args below meth c s₁ B hml hv
  obtain ⟨rfl, hsz, hP, hK, hD0, hSt, hN⟩ := hv
  subst hsz
  have hlocks := B.notSynchronized
  have hD := hD0.self (sz := s.heap.size)
  have hA : ∀ q : Nat, s.heap.size ≤ q → va_A w s.heap.size q := fun q h => Or.inr h
  have hl := lv_entry As (n := maxL) hAs
  rw [lg_entry_eq]
  have key := body (p, l, e, (headSpec wsm rm).room, s, m, As.toArray, below, meth, c, MQ below (POST D g w' (va_A w s.heap.size) o) As.toArray s 0 0 (va_A w s.heap.size), va_A w s.heap.size, D, maxL, 0, 0)
    ⟨B.exec, B.bytes, hml, rfl, findClass_of_methodNamed B.named, atoms_spec (ws := wsm) B.pre, hK, hA, hSt, hN, rfl, Nat.zero_le _, Nat.zero_le _⟩ rfl rfl
    (fun pc lv d h1 h2 => by
      subst h2
      intro ls H locs hl hP hD hS
      exact W.vret B.exec B.bytes (B.returns.trans h1) (fun t ht hW => ⟨⟨rfl, by rw [ht]; exact hP, va_K.moved hW.alike hK, hD⟩, hS.F ht⟩) hS.2.2 d)
    (fun pc lv v ty d h1 hn h2 => by
      subst h2
      intro ls H locs hl hP hD hS
      exact W.zret B.exec B.bytes (B.returns.trans h1) hn (fun t ht hW => ⟨⟨rfl, by rw [ht]; exact hP, va_K.moved hW.alike hK, hD⟩, hS.F ht⟩) hS.2.2 d)
    (fun pc lv v d h1 h2 => by
      subst h2
      intro ls H locs hl hP hD hS
      exact W.lret B.exec B.bytes (B.returns.trans h1) (fun t ht hW => ⟨⟨rfl, by rw [ht]; exact hP, va_K.moved hW.alike hK, hD⟩, hS.F ht⟩) hS.2.2 d)
  exact key _ s.heap [] hl hP hD va_S.rf

