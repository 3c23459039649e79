/-! rows that make cells; calls beside other cells -/
def stx (k : CT) (x y : Nat) : CT := (kp k, kl k, ke k, kR k, ks k, km k, ka k, kb k, kM k, kc k, kQ k, kA k, kD k, kn k, x, y)
def POSTX (D : va_G) (g : GG) (P : va_W → Prop) (A : Nat → Prop) (o : Option Value) : Array Value → State → Outcome → State → Prop := fun _ st oc t => (oc = .returned o ∧ ∃ w' : va_W, P w' ∧ va_P D vwCl w' t.heap ∧ va_K D vwCl (tg g) t ∧ va_D A w') ∧ va_F A st t
def CONX (l : Launch) (y : MethodName) (wsm : List Cond) (rm : Room) (D : va_G) (g : GG) (w : va_W) (As : List Value) (o : Option Value) (P : va_W → Prop) (mc ms : Nat) : Prop := ∀ sz : Nat, Met l y wsm rm (va_Pc As (PRE D g w sz)) (POSTX D g P (va_A w sz) o) mc ms (va_A w sz)
theorem partL {D : va_G} {A : Nat → Prop} {a b : va_W} {H : Heap} (hP : va_P D vwCl (a ++ b) H) (hD : va_D A (a ++ b)) : va_P D vwCl a H ∧ va_D A a := by
  have at' : ∀ (i : Nat) (q : Nat × va_E), a[i]? = some q → (a ++ b)[i]? = some q := fun i q h => by
    rw [List.getElem?_append_left (List.getElem?_eq_some_iff.mp h).1]; exact h
  exact ⟨fun i q h => hP i q (at' i q h), fun i j p q h1 h2 e => hD.1 i j p q (at' i p h1) (at' j q h2) e, fun i q h => hD.2 i q (at' i q h)⟩
theorem partR {D : va_G} {A : Nat → Prop} {a b : va_W} {H : Heap} (hP : va_P D vwCl (a ++ b) H) (hD : va_D A (a ++ b)) : va_P D vwCl b H ∧ va_D A b := by
  have at' : ∀ (i : Nat) (q : Nat × va_E), b[i]? = some q → (a ++ b)[a.length + i]? = some q := fun i q h => by
    rw [List.getElem?_append_right (by omega), Nat.add_sub_cancel_left]; exact h
  exact ⟨fun i q h => hP _ q (at' i q h), fun i j p q h1 h2 e => by
    have := hD.1 _ _ p q (at' i p h1) (at' j q h2) e
    omega, fun i q h => hD.2 _ q (at' i q h)⟩
theorem joinA {A0 : Nat → Prop} {D : va_G} {wr wc w1 : va_W} {H H1 : Heap} (hP : va_P D vwCl (wr ++ wc) H) (hD : va_D A0 (wr ++ wc)) (hk : ∀ q : Nat, q < H.size → ¬ va_A wc H.size q → H1[q]? = H[q]?) (hF : ∀ q, va_A wc H.size q → A0 q) (hP1 : va_P D vwCl w1 H1) (hD1 : va_D (va_A wc H.size) w1) : va_P D vwCl (wr ++ w1) H1 ∧ va_D A0 (wr ++ w1) := by
  obtain ⟨pL, dL⟩ := partL hP hD
  have apart : ∀ (i : Nat) (q : Nat × va_E), wr[i]? = some q → q.1 < H.size ∧ ¬ va_A wc H.size q.1 := by
    intro i q hq
    have hi := (List.getElem?_eq_some_iff.mp hq).1
    refine ⟨(pL i q hq).lt, fun h => ?_⟩
    rcases h with ⟨j, e, h⟩ | h
    · have := hD.1 i (wr.length + j) q (q.1, e) (by rw [List.getElem?_append_left hi]; exact hq) (by rw [List.getElem?_append_right (by omega), Nat.add_sub_cancel_left]; exact h) rfl
      omega
    · have := (pL i q hq).lt
      omega
  refine ⟨va_P.app (fun i q hq => ?_) hP1, va_D.app dL (hD1.weaken (fun i q _ h => hF q.1 h)) (fun i j x y hx hy hxy => ?_)⟩
  · obtain ⟨g1, g2⟩ := apart i q hq
    exact (pL i q hq).kept (hk q.1 g1 g2)
  · exact (apart i x hx).2 (by rw [hxy]; exact hD1.2 j y hy)
theorem swapPD {D : va_G} {A : Nat → Prop} {a b : va_W} {H : Heap} (hP : va_P D vwCl (a ++ b) H) (hD : va_D A (a ++ b)) : va_P D vwCl (b ++ a) H ∧ va_D A (b ++ a) := by
  obtain ⟨p1, d1⟩ := partL hP hD
  obtain ⟨p2, d2⟩ := partR hP hD
  refine ⟨va_P.app p2 p1, va_D.app d2 d1 (fun i j x y hx hy hxy => ?_)⟩
  have hj := (List.getElem?_eq_some_iff.mp hy).1
  have := hD.1 j (a.length + i) y x (by rw [List.getElem?_append_left hj]; exact hy) (by rw [List.getElem?_append_right (by omega), Nat.add_sub_cancel_left]; exact hx) hxy.symm
  omega
theorem fm_of {f : Nat → Option (Nat × va_E)} : ∀ (is : List Nat) (l : va_W), is.map f = l.map some → is.filterMap f = l
  | [], [], _ => rfl
  | [], _ :: _, h => by cases h
  | _ :: _, [], h => by cases h
  | i :: is, x :: l, h => by
    have h1 : f i = some x := (List.cons.inj h).1
    have h2 := fm_of is l (List.cons.inj h).2
    rw [List.filterMap_cons, h1]
    show x :: is.filterMap f = x :: l
    rw [h2]
section CROWS
variable {k : CT} {cc : ByteArray} {nL : Nat} {own : String} {Ts : List Cond} {R : Room} {g : GG} {ws : va_W} {pc : Nat} {lv : List (Nat × Value)} {st : List Value}
theorem CX.sx (C : CX k cc nL own Ts R g) {x y : Nat} (hx : x ≤ R.cells) (hy : y ≤ R.slots) : CX (stx k x y) cc nL own Ts R g := ⟨C.x, C.b, C.ml, C.n, C.o, C.t, C.K, C.A, C.S, C.N, C.rm, hx, hy⟩
theorem V.sub {ws' : va_W} (is : List Nat) (hs : is.map (fun i => ws[i]?) = ws'.map some) (hn : va_nd is = true) (kk : V k ws' pc lv st) : V k ws pc lv st := fun ls H locs hl hP hD hS => kk ls H locs hl (hP.sub is (fm_of is ws' hs)) (hD.sub is hn hs) hS
theorem V.swap {a b : va_W} (kk : V k (b ++ a) pc lv st) : V k (a ++ b) pc lv st := fun ls H locs hl hP hD hS => kk ls H locs hl (swapPD hP hD).1 (swapPD hP hD).2 hS
theorem V.widen {x y : Nat} (hx : kx k ≤ x) (hy : ky k ≤ y) (kk : V (stx k x y) ws pc lv st) : V k ws pc lv st := fun ls H locs hl hP hD hS => W.widen hx hy (kk ls H locs hl hP hD hS)
theorem V.refs {q0 a n : Nat} {cA : ClassId} {f f' : Nat → Option Nat} (ha : ws[q0]? = some (a, .inl (cA, n, .inr (.inr (.inr (.inr f)))))) (hf : ∀ j, j < n → f j = f' j) (kk : V k (ws.set q0 (a, .inl (cA, n, .inr (.inr (.inr (.inr f')))))) pc lv st) : V k ws pc lv st := fun ls H locs hl hP hD hS => by
  have h0 : H[a]? = some (vp_cell cA (n, .inr (.inr (.inr (.inr f))))) := hP q0 _ ha
  have e : vp_cell cA (n, .inr (.inr (.inr (.inr f)))) = vp_cell cA (n, .inr (.inr (.inr (.inr f')))) := by
    rw [vp_cell_q, vp_cell_q]
    unfold arrV
    congr 1
    apply congrArg
    funext j
    show va_rf (f j.val) = va_rf (f' j.val)
    rw [hf j.val j.isLt]
  exact kk ls H locs hl (hP.set hD ha (show H[a]? = some (vp_cell cA (n, .inr (.inr (.inr (.inr f'))))) by rw [← e]; exact h0) (fun _ _ => rfl)) (hD.set ha) hS
theorem r_objI (C : CX k cc nL own Ts R g) {index a : Nat} (d : decode cc pc = .ok (.invokespecial index, 3)) (h1 : Cond.methodLink own index objectInit ∈ Ts) (h2 : Cond.instanceMethod objectInit ∈ Ts) (h3 : Cond.code objectInit ⟨#[0xb1]⟩ 1 none ∈ Ts) (hf : 1 ≤ R.frames) (hlo : (st.map fun v => v.category).sum + 12 ≤ R.locals) (kk : V k ws (pc + 3) lv st) : V k ws pc lv (.ref a :: st) := fun ls H locs hl hP hD hS =>
  W.objInit C.x C.b C.o (C.t _ h1) (C.t _ h2) (C.t _ h3) rfl (by rw [C.ml]; exact hl.1) rfl d (C.rm ▸ hf) (by rw [C.rm]; show 2 * 0 + _ + 12 ≤ _; omega) (kk ls H locs hl hP hD hS)
theorem r_newO (C : CX k cc nL own Ts R g) {Cn : String} {T : u_T} {N ci index : Nat} {fs : List Value} (d : decode cc pc = .ok (.new index, 3)) (hin : ∀ w ∈ u_ws Cn T N, w ∈ Ts) (ty : Nat → FieldType) (hty : ∀ k, k < N → parseFieldDescriptor (T k).2.2.1 = some (ty k)) (hcl : Cond.classLink own index Cn ∈ Ts) (hinst : Cond.instantiable Cn N ∈ Ts) (hini : Cond.initialized Cn ∈ Ts) (hc : vwCl[ci]? = some (Cn, T, N)) (hfs : ∀ j, j < N → defaultValue (ty j) = vp_V fs j) (hx : kx k + 1 ≤ R.cells) (hy : ky k + N ≤ R.slots) (kk : ∀ a : Nat, V (stx k (kx k + 1) (ky k + N)) (ws ++ [(a, .inr (ci, fs))]) (pc + 3) lv (.ref a :: st)) : V k ws pc lv st := fun ls H locs hl hP hD hS =>
  va_new C.x C.b C.t hin ty hty C.o (C.t _ hcl) (C.t _ hinst) (C.t _ hini) C.K hP hD hS C.A hc hfs (by rw [C.rm]; exact hx) (by rw [C.rm]; exact hy) d (fun q H1 hP hD hS => kk q ls H1 locs hl hP hD hS)
theorem r_newP (C : CX k cc nL own Ts R g) {atype : ArrayType} {ty : FieldType} (ti : Nat) (hti : (tg g)[ti]? = some (g.2 ti, ty)) (hRA : ∀ (U : State) (c : ClassId), va_RA U c ty → U.vm.findClass ("[" ++ ty.toString) = some c) {n : Int32} {N : Nat} {a0 : vp_A} (d : decode cc pc = .ok (.newarray atype, 2)) (harr : Cond.arrayClass (newarray.typeOf atype) ∈ Ts) (hty : newarray.typeOf atype = ty) (ha : ∀ cA : ClassId, vp_cell cA a0 = arrV cA N (fun _ => defaultValue ty)) (hn : ¬ n < 0) (hN : n.toNatClampNeg = N) (hb : N * componentBytes ty ≤ 536870912) (hx : kx k + 1 ≤ R.cells) (hy : ky k + N ≤ R.slots) (kk : ∀ a : Nat, V (stx k (kx k + 1) (ky k + N)) (ws ++ [(a, .inl (g.2 ti, a0))]) (pc + 2) lv (.ref a :: st)) : V k ws pc lv (.int n :: st) := fun ls H locs hl hP hD hS =>
  va_newa C.x C.b (C.t _ harr) hty C.K hP hD hS C.A ha hn hN hb (by rw [C.rm]; exact hx) (by rw [C.rm]; exact hy) d (fun q cA H1 hK hP hD hS => by
    have e1 := hRA _ _ (hK.2 4 (cA, ty) rfl).2
    have e2 := hRA _ _ (C.K.2 ti (g.2 ti, ty) hti).2
    have : cA = g.2 ti := Option.some.inj (e1.symm.trans e2)
    subst this
    exact kk q ls H1 locs hl hP hD hS)
theorem r_newi (C : CX k cc nL own Ts R g) {n : Int32} {N : Nat} (d : decode cc pc = .ok (.newarray .int, 2)) (harr : Cond.arrayClass .int ∈ Ts) (hn : ¬ n < 0) (hN : n.toNatClampNeg = N) (hb : N * componentBytes .int ≤ 536870912) (hx : kx k + 1 ≤ R.cells) (hy : ky k + N ≤ R.slots) (kk : ∀ a : Nat, V (stx k (kx k + 1) (ky k + N)) (ws ++ [(a, .inl (g.2 1, N, .inl (fun _ => 0)))]) (pc + 2) lv (.ref a :: st)) : V k ws pc lv (.int n :: st) :=
  r_newP C (ty := .int) 1 rfl (fun _ _ h => h) d harr rfl (fun _ => rfl) hn hN hb hx hy kk
theorem r_newb (C : CX k cc nL own Ts R g) {n : Int32} {N : Nat} (d : decode cc pc = .ok (.newarray .byte, 2)) (harr : Cond.arrayClass .byte ∈ Ts) (hn : ¬ n < 0) (hN : n.toNatClampNeg = N) (hb : N * componentBytes .byte ≤ 536870912) (hx : kx k + 1 ≤ R.cells) (hy : ky k + N ≤ R.slots) (kk : ∀ a : Nat, V (stx k (kx k + 1) (ky k + N)) (ws ++ [(a, .inl (g.2 0, N, .inl (fun _ => 0)))]) (pc + 2) lv (.ref a :: st)) : V k ws pc lv (.int n :: st) :=
  r_newP C (ty := .byte) 0 rfl (fun _ _ h => h) d harr rfl (fun _ => rfl) hn hN hb hx hy kk
theorem r_newl (C : CX k cc nL own Ts R g) {n : Int32} {N : Nat} (d : decode cc pc = .ok (.newarray .long, 2)) (harr : Cond.arrayClass .long ∈ Ts) (hn : ¬ n < 0) (hN : n.toNatClampNeg = N) (hb : N * componentBytes .long ≤ 536870912) (hx : kx k + 1 ≤ R.cells) (hy : ky k + N ≤ R.slots) (kk : ∀ a : Nat, V (stx k (kx k + 1) (ky k + N)) (ws ++ [(a, .inl (g.2 2, N, .inr (.inl (fun _ => 0))))]) (pc + 2) lv (.ref a :: st)) : V k ws pc lv (.int n :: st) :=
  r_newP C (ty := .long) 2 rfl (fun _ _ h => h) d harr rfl (fun _ => rfl) hn hN hb hx hy kk
theorem r_newq (C : CX k cc nL own Ts R g) (hAO : va_AO RX1 (ks k)) {index : Nat} {n : Int32} {N : Nat} (d : decode cc pc = .ok (.anewarray index, 3)) (hcl : Cond.classLink own index RX1 ∈ Ts) (hn : ¬ n < 0) (hN : n.toNatClampNeg = N) (hb : N * 4 ≤ 536870912) (hx : kx k + 1 ≤ R.cells) (hy : ky k + N ≤ R.slots) (kk : ∀ a : Nat, V (stx k (kx k + 1) (ky k + N)) (ws ++ [(a, .inl (g.2 3, N, .inr (.inr (.inr (.inr (fun _ => none))))))]) (pc + 3) lv (.ref a :: st)) : V k ws pc lv (.int n :: st) := fun ls H locs hl hP hD hS =>
  va_newq C.x C.b C.o (C.t _ hcl) hAO C.K hP hD hS C.A hn hN hb (by rw [C.rm]; exact hx) (by rw [C.rm]; exact hy) d (fun q cA H1 hK hP hD hS => by
    obtain ⟨_, _, _, _, _, e1⟩ := (hK.2 4 (cA, .object RX1) rfl).2
    obtain ⟨_, _, _, _, _, e2⟩ := (C.K.2 3 (g.2 3, .object RX1) rfl).2
    have : cA = g.2 3 := Option.some.inj (e1.symm.trans e2)
    subst this
    exact kk q ls H1 locs hl hP hD hS)
theorem r_putF (C : CX k cc nL own Ts R g) (hi : (kM k).name = "<init>") {T : u_T} {N ci index a : Nat} {fs : List Value} {v : Value} {ty : FieldType} {ws' : va_W} (d : decode cc pc = .ok (.putfield index, 3)) (hin : ∀ w ∈ u_ws own T N, w ∈ Ts) (ty0 : Nat → FieldType) (hty : ∀ k, k < N → parseFieldDescriptor (T k).2.2.1 = some (ty0 k)) (hnm : ∀ a, a < N → ∀ b, b < N → a ≠ b → (T a).2.1 ≠ (T b).2.1) (q0 : Nat) (he : ws[q0]? = some (a, .inr (ci, fs))) (hc : vwCl[ci]? = some (own, T, N)) (kf : Nat) (hk : kf < N) (hw : Cond.fieldLink own index (T kf).1 (T kf).2.1 (T kf).2.2.1 ∈ Ts) (hfin : (T kf).2.2.2 = true) (hdc : (T kf).1 = own) (hd : parseFieldDescriptor (T kf).2.2.1 = some ty) (hn : narrow ty v = v) (hfit : fits ty v = true) (hlen : kf < fs.length) (hset : ws.set q0 (a, .inr (ci, fs.set kf v)) = ws') (kk : V k ws' (pc + 3) lv st) : V k ws pc lv (v :: .ref a :: st) := by
  subst hset
  exact fun ls H locs hl hP hD hS => va_putF C.x C.b C.t hin ty0 hty hnm C.o C.K hP hD hS q0 he hc kf hk (C.t _ hw) (fun _ h => h) hfin hi hdc hd hn hfit hlen d (fun H1 locs1 hP hD hS => kk ls H1 locs1 hl hP hD hS)
theorem r_astq (C : CX k cc nL own Ts R g) {a n v : Nat} {f : Nat → Option Nat} {vs : List Value} {i : Int32} {ws' : va_W} (d : decode cc pc = .ok (.aastore, 1)) (q0 qk : Nat) (ha : ws[q0]? = some (a, .inl (g.2 3, n, .inr (.inr (.inr (.inr f)))))) (hv : ws[qk]? = some (v, .inr (1, vs))) (hin : vp_in i n) (hset : ws.set q0 (a, .inl (g.2 3, n, .inr (.inr (.inr (.inr (va_up f i.toNatClampNeg (some v))))))) = ws') (kk : V k ws' (pc + 1) lv st) : V k ws pc lv (.ref v :: .int i :: .ref a :: st) := by
  subst hset
  exact fun ls H locs hl hP hD hS => va_astq (r := (RX1, TX1, 8)) C.x C.b C.K hP hD hS q0 3 qk 1 ha rfl hv rfl hin d (fun H1 locs1 hP hD hS => kk ls H1 locs1 hl hP hD hS)
/-- System.arraycopy out of a table of the class -/
theorem r_tcopy (C : CX k cc nL own Ts R g) {index a t n0 n1 : Nat} {f h : Nat → Int32} {n : Int32} {N : Nat} {ws' : va_W} (d : decode cc pc = .ok (.invokestatic index, 3)) (w1 : Cond.methodLink own index arraycopyName ∈ Ts) (w2 : Cond.native arraycopyName ∈ Ts) (w3 : Cond.static arraycopyName ∈ Ts) (w4 : Cond.initialized "java/lang/System" ∈ Ts) (hX : va_T .int t n0 (fun j => .int (f j)) (kA k) (ks k) (ks k).heap) (q1 : Nat) (ha1 : ws[q1]? = some (a, .inl (g.2 1, n1, .inl h))) (h3 : ¬ n < 0) (hN : n.toNatClampNeg = N) (hN2 : n.toInt = (N : Int)) (h4 : N ≤ n0) (h5 : N ≤ n1) (hfr : 1 ≤ R.frames) (hlo : (st.map fun v => v.category).sum + (nativeFrameWords "java/lang/System" "arraycopy" 5 + 11) ≤ R.locals) (hset : ws.set q1 (a, .inl (g.2 1, n1, .inl (va_cpy f h 0 0 N))) = ws') (kk : V k ws' (pc + 3) lv st) : V k ws pc lv (.int n :: .int 0 :: .ref a :: .int 0 :: .ref t :: st) := by
  subst hset
  intro ls H locs hl hP hD hS T hT X
  obtain ⟨scr, s1, s2, s3, s4, -, s5, s7⟩ := hX
  have c0 : H[t]? = some scr := by rw [hS.2.1 t (Array.getElem?_eq_some_iff.mp s1).1 s7]; exact s1
  have c1 : H[a]? = some (vp_cell (g.2 1) (n1, .inl h)) := hP q1 _ ha1
  obtain ⟨s6, k0, hk0, cm0, hkk0⟩ := s2
  obtain ⟨-, k1, hk1, cm1, hkk1⟩ := (C.K.2 1 (g.2 1, .int) rfl).1 n1 (fun j => .int (h j))
  have z0 : ((0 : Int32)).toInt = 0 := rfl
  obtain ⟨vm', X', step⟩ := X.arraycopy C.x C.o (C.t _ w1) (C.t _ w2) (C.t _ w3) (C.t _ w4) (src := t) (dst := a) (cs := scr) (cd := vp_cell (g.2 1) (n1, .inl h)) (srcPos := 0) (destPos := 0) (n := n) (by rw [hT]; exact c0) (by rw [hT]; exact c1) s6 (fun _ q => by cases q) s3 (fun q => by cases q) hk0 hk1 hkk0 hkk1 (by simp [refKind]) (by decide) (by decide) h3
    (by rw [z0, hN2]; omega)
    (by rw [z0, hN2]; show ¬ _ > ((arrV (g.2 1) n1 (fun j => .int (h j))).slots.size : Int); rw [arrV_size]; omega)
    (fun vm₁ _ i hi => by
      have e : scr.slots.getD ((0 : Int32).toNatClampNeg + i) .null = .int (f ((0 : Int32).toNatClampNeg + i)) := by
        rw [Array.getD_eq_getD_getElem?, s5 _ (by show 0 + i < n0; omega)]
        rfl
      rw [e]
      exact ⟨rfl, trivial⟩)
    (g := F0 (km k) pc ls (.int n :: .int 0 :: .ref a :: .int 0 :: .ref t :: st)) rfl (by rw [C.ml]; exact hl.1) (rest := st) rfl (by rw [C.b]; exact d) (C.rm ▸ hfr) (by rw [C.rm]; show 2 * 0 + _ + _ ≤ _; omega)
  have e1 : copied scr (vp_cell (g.2 1) (n1, .inl h)) 0 0 n = vp_cell (g.2 1) (n1, .inl (va_cpy f h 0 0 N)) := by
    rw [← hN]
    exact va_copiedX (fun z => .int z) scr (g.2 1) f h s5 (by show 0 + _ ≤ n0; omega)
  rw [e1] at X' step
  have hz : a < H.size := (Array.getElem?_eq_some_iff.mp c1).1
  have hheap : ((T.setVm vm').setCell a (vp_cell (g.2 1) (n1, .inl (va_cpy f h 0 0 N)))).heap = H.setIfInBounds a (vp_cell (g.2 1) (n1, .inl (va_cpy f h 0 0 N))) := by rw [← hT]; rfl
  have oq : ∀ q : Nat, q ≠ a → (H.setIfInBounds a (vp_cell (g.2 1) (n1, .inl (va_cpy f h 0 0 N))))[q]? = H[q]? := fun q hq => by simp [Array.getElem?_setIfInBounds, Ne.symm hq]
  obtain ⟨t', a1, b1⟩ := kk ls _ _ hl (hP.set hD ha1 (show (H.setIfInBounds a _)[a]? = some _ by simp [Array.getElem?_setIfInBounds, hz]) oq) (hD.set ha1) ⟨by simp; exact hS.1, fun q g1 g2 => by
      rw [oq q (fun e => g2 (by rw [e]; exact hD.2 q1 _ ha1))]
      exact hS.2.1 q g1 g2, fun q hq => by
      rcases List.mem_append.mp hq with h | h
      · exact hS.2.2 q h
      · obtain ⟨z, -, hz⟩ := List.mem_map.mp h
        rw [← hz]
        exact hD.2 q1 _ ha1⟩ _ hheap X'
  exact ⟨t', step t' a1, b1⟩
section CCALLS
variable {y : MethodName} {wsc ws'' : List Cond} {rm : Room} {w wr : va_W} {P : va_W → Prop} {As rest : List Value} {o : Option Value} {bytes : ByteArray} {maxL n index b mc ms : Nat} {ret : Option FieldType} {Cn : String}
theorem pre_part (C : CX k cc nL own Ts R g) {H : Heap} {locs : List Loc} (hP : va_P (kD k) vwCl (wr ++ w) H) (hD : va_D (kA k) (wr ++ w)) (hS : va_S (kA k) (ks k).heap H locs) : ∀ U : State, U.heap = H → (ks k).WarmedH U.vm → va_Pc As (PRE (kD k) g w H.size) As.toArray U := pre_here C (partR hP hD).1 (partR hP hD).2 hS
theorem r_runX (C : CX k cc nL own Ts R g) {ls : Array Slot} {H : Heap} {locs : List Loc} {st0 : List Value} {a : Array Value} (hl : lv_has ls (kn k) lv) (hP : va_P (kD k) vwCl (wr ++ w) H) (hD : va_D (kA k) (wr ++ w)) (hS : va_S (kA k) (ks k).heap H locs)
    (hr : va_Run (kp k) (kl k) (ke k) (kR k) (ks k) (km k) (ka k) (kb k) (kM k) (kc k) H locs (kx k) (ky k) mc ms (F0 (km k) pc ls st0) rest (POSTX (kD k) g P (va_A w H.size) o a) (va_A w H.size))
    (kk : ∀ w' : va_W, P w' → V (stx k (kx k + mc) (ky k + ms)) (wr ++ w') (pc + 3) lv (o.toList ++ rest)) : W (kp k) (kl k) (ke k) (kR k) (ks k) (km k) (ka k) (kb k) (kM k) (kc k) H locs (kx k) (ky k) (kQ k) (F0 (km k) pc ls st0) := by
  intro T hT X
  have hF := fr_all (partR hP hD).2 hS C.A
  obtain ⟨v, st₀, t, T', L, h0, X', hL, e1, e2, ⟨⟨hv, w', hw', hP1, hK1, hD1⟩, hz, hk⟩, st⟩ := hr T hT X
  cases hv
  rw [h0] at hz hk
  obtain ⟨jP, jD⟩ := joinA (H1 := T'.heap) hP hD (fun q g1 g2 => by rw [e1]; exact hk q g1 g2) hF (by rw [e1]; exact hP1) hD1
  obtain ⟨t2, a1, b1⟩ := kk w' hw' ls T'.heap (locs ++ L) hl jP jD
    ⟨Nat.le_trans hS.1 (by rw [e1]; exact hz), fun q h1 h2 => by rw [e1, hk q (Nat.lt_of_lt_of_le h1 hS.1) (fun z => h2 (hF q z))]; exact hS.2.1 q h1 h2, fun q hq => by
      rcases List.mem_append.mp hq with h | h
      · exact hS.2.2 q h
      · exact hF _ (hL q h)⟩ T' rfl X'
  exact ⟨t2, st t2 a1, b1⟩
theorem CON.x {l : Launch} {D : va_G} {w' : va_W} (h : CON l y wsc rm D g w As o w') : CONX l y wsc rm D g w As o (fun z => z = w') 0 0 := by
  intro sz
  exact MetFree.mono (h sz) (fun _ _ h => h) (fun _ _ _ _ _ h => h) (fun _ _ _ _ _ q => ⟨⟨⟨q.1.1.1, w', rfl, q.1.1.2.1, q.1.1.2.2.1, q.1.1.2.2.2⟩, q.1.2⟩, q.2⟩)
end CCALLS
end CROWS
