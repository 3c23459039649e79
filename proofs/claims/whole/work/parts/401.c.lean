/-! a constructor's contract out of its walk; calls beside other cells -/
def CONA (X : State → Prop) (l : Launch) (y : MethodName) (wsm : List Cond) (rm : Room) (D : va_G) (g : GG) (w : va_W) (As : List Value) (o : Option Value) (P : va_W → Prop) (mc ms : Nat) : Prop := ∀ sz : Nat, Met l y wsm rm (va_Pc As (fun U => PRE D g w sz U ∧ X U)) (POSTX D g P (va_A w sz) o) mc ms (va_A w sz)
def Blind (X : State → Prop) : Prop := FrameBlind (fun (_ : Array Value) (U : State) => X U)
theorem blind_T : Blind (fun _ => True) := fun _ _ _ _ _ => trivial
theorem blind_AO : Blind (va_AO RX1) := fun a U f mk q => va_AO.moved (u := U) (U := U.calling f mk a) (Vm.Alike.refl U.vm) q
theorem conx_of {X : State → Prop} {l : Launch} {y : MethodName} {wsm ws' : List Cond} {rm : Room} {D : va_G} {g : GG} {w : va_W} {P : va_W → Prop} {As : List Value} {cc : ByteArray} {maxL mc ms : Nat} (hy : plainName y.cls = true) (hyi : y.name = "<init>") (hw : wsm = Cond.code y cc maxL none :: ws') (hAs : (lg_sl As).length ≤ maxL)
    (body : ∀ k : CT, CX (stx k 0 0) cc maxL y.cls wsm rm g → kl k = l → kD k = D → (kM k).name = "<init>" → X (ks k) →
      (∀ (pc : Nat) (lv : List (Nat × Value)) (w' : va_W), decode cc pc = .ok (.return_, 1) → P w' → V (stx k mc ms) w' pc lv []) →
      V (stx k 0 0) w 0 (lv_args 0 As) []) : CONA X l y wsm rm D g w As none P mc ms := by
  intro sz
  refine Met.ofW (cc := cc) (maxL := maxL) (ret := none) hy hw ?_
  intro p e s m args below meth c s₁ B hml hv
  obtain ⟨rfl, ⟨hsz, hP, hK, hD0, hSt, hN⟩, hX⟩ := hv
  subst hsz
  have hlocks := B.notSynchronized
  have hin : meth.name = "<init>" := (name_of_methodNamed B.named B.method).1.trans hyi
  have hD := hD0.self (sz := s.heap.size)
  have hA : ∀ q : Nat, s.heap.size ≤ q → va_A w s.heap.size q := fun q h => Or.inr h
  have hl := lv_entry As (n := maxL) hAs
  rw [lg_entry_eq]
  have key := body (p, l, e, (headSpec wsm rm).room, s, m, As.toArray, below, meth, c, MQ below (POSTX D g P (va_A w s.heap.size) none) As.toArray s mc ms (va_A w s.heap.size), va_A w s.heap.size, D, maxL, 0, 0)
    ⟨B.exec, B.bytes, hml, rfl, findClass_of_methodNamed B.named, atoms_spec (ws := wsm) B.pre, hK, hA, hSt, hN, rfl, Nat.zero_le _, Nat.zero_le _⟩ rfl rfl hin hX
    (fun pc lv w' d hw' => by
      intro ls H locs hl hP hD hS
      exact W.vret B.exec B.bytes B.returns (fun t ht hW => ⟨⟨rfl, w', hw', by rw [ht]; exact hP, va_K.moved hW.alike hK, hD⟩, hS.F ht⟩) hS.2.2 d)
  exact key _ s.heap [] hl hP hD va_S.rf
section CROWS2
variable {k : CT} {cc : ByteArray} {nL : Nat} {own : String} {Ts : List Cond} {R : Room} {g : GG} {ws : va_W} {pc : Nat} {lv : List (Nat × Value)} {st : List Value} {x y x' y' : Nat}
theorem CX.to (C : CX (stx k x y) cc nL own Ts R g) (hx : x' ≤ R.cells) (hy : y' ≤ R.slots) : CX (stx k x' y') cc nL own Ts R g := ⟨C.x, C.b, C.ml, C.n, C.o, C.t, C.K, C.A, C.S, C.N, C.rm, hx, hy⟩
theorem n_O (C : CX (stx k x y) cc nL own Ts R g) {Cn : String} {T : u_T} {N ci index : Nat} {fs : List Value} (d : decode cc pc = .ok (.new index, 3)) (hin : ∀ w ∈ u_ws Cn T N, w ∈ Ts) (ty : Nat → FieldType) (hty : ∀ k, k < N → parseFieldDescriptor (T k).2.2.1 = some (ty k)) (hcl : Cond.classLink own index Cn ∈ Ts) (hinst : Cond.instantiable Cn N ∈ Ts) (hini : Cond.initialized Cn ∈ Ts) (hc : vwCl[ci]? = some (Cn, T, N)) (hfs : ∀ j, j < N → defaultValue (ty j) = vp_V fs j) (hx : x + 1 = x') (hx2 : x' ≤ R.cells) (hy : y + N = y') (hy2 : y' ≤ R.slots) (kk : ∀ a : Nat, CX (stx k x' y') cc nL own Ts R g → V (stx k x' y') (ws ++ [(a, .inr (ci, fs))]) (pc + 3) lv (.ref a :: st)) : V (stx k x y) ws pc lv st := by
  subst hx; subst hy
  exact r_newO C d hin ty hty hcl hinst hini hc hfs hx2 hy2 (fun a => kk a (C.to hx2 hy2))
theorem n_i (C : CX (stx k x y) cc nL own Ts R g) {n : Int32} {N : Nat} (d : decode cc pc = .ok (.newarray .int, 2)) (harr : Cond.arrayClass .int ∈ Ts) (hn : ¬ n < 0) (hN : n.toNatClampNeg = N) (hb : N * componentBytes .int ≤ 536870912) (hx : x + 1 = x') (hx2 : x' ≤ R.cells) (hy : y + N = y') (hy2 : y' ≤ R.slots) (kk : ∀ a : Nat, CX (stx k x' y') cc nL own Ts R g → V (stx k x' y') (ws ++ [(a, .inl (g.2 1, N, .inl (fun _ => 0)))]) (pc + 2) lv (.ref a :: st)) : V (stx k x y) ws pc lv (.int n :: st) := by
  subst hx; subst hy
  exact r_newi C d harr hn hN hb hx2 hy2 (fun a => kk a (C.to hx2 hy2))
theorem n_b (C : CX (stx k x y) cc nL own Ts R g) {n : Int32} {N : Nat} (d : decode cc pc = .ok (.newarray .byte, 2)) (harr : Cond.arrayClass .byte ∈ Ts) (hn : ¬ n < 0) (hN : n.toNatClampNeg = N) (hb : N * componentBytes .byte ≤ 536870912) (hx : x + 1 = x') (hx2 : x' ≤ R.cells) (hy : y + N = y') (hy2 : y' ≤ R.slots) (kk : ∀ a : Nat, CX (stx k x' y') cc nL own Ts R g → V (stx k x' y') (ws ++ [(a, .inl (g.2 0, N, .inl (fun _ => 0)))]) (pc + 2) lv (.ref a :: st)) : V (stx k x y) ws pc lv (.int n :: st) := by
  subst hx; subst hy
  exact r_newb C d harr hn hN hb hx2 hy2 (fun a => kk a (C.to hx2 hy2))
theorem n_l (C : CX (stx k x y) cc nL own Ts R g) {n : Int32} {N : Nat} (d : decode cc pc = .ok (.newarray .long, 2)) (harr : Cond.arrayClass .long ∈ Ts) (hn : ¬ n < 0) (hN : n.toNatClampNeg = N) (hb : N * componentBytes .long ≤ 536870912) (hx : x + 1 = x') (hx2 : x' ≤ R.cells) (hy : y + N = y') (hy2 : y' ≤ R.slots) (kk : ∀ a : Nat, CX (stx k x' y') cc nL own Ts R g → V (stx k x' y') (ws ++ [(a, .inl (g.2 2, N, .inr (.inl (fun _ => 0))))]) (pc + 2) lv (.ref a :: st)) : V (stx k x y) ws pc lv (.int n :: st) := by
  subst hx; subst hy
  exact r_newl C d harr hn hN hb hx2 hy2 (fun a => kk a (C.to hx2 hy2))
theorem n_q (C : CX (stx k x y) cc nL own Ts R g) (hAO : va_AO RX1 (ks k)) {index : Nat} {n : Int32} {N : Nat} (d : decode cc pc = .ok (.anewarray index, 3)) (hcl : Cond.classLink own index RX1 ∈ Ts) (hn : ¬ n < 0) (hN : n.toNatClampNeg = N) (hb : N * 4 ≤ 536870912) (hx : x + 1 = x') (hx2 : x' ≤ R.cells) (hy : y + N = y') (hy2 : y' ≤ R.slots) (kk : ∀ a : Nat, CX (stx k x' y') cc nL own Ts R g → V (stx k x' y') (ws ++ [(a, .inl (g.2 3, N, .inr (.inr (.inr (.inr (fun _ => none))))))]) (pc + 3) lv (.ref a :: st)) : V (stx k x y) ws pc lv (.int n :: st) := by
  subst hx; subst hy
  exact r_newq C hAO d hcl hn hN hb hx2 hy2 (fun a => kk a (C.to hx2 hy2))
theorem n_astq (C : CX k cc nL own Ts R g) {a n v j : Nat} {f : Nat → Option Nat} {vs : List Value} {i : Int32} {ws' : va_W} (d : decode cc pc = .ok (.aastore, 1)) (q0 qk : Nat) (ha : ws[q0]? = some (a, .inl (g.2 3, n, .inr (.inr (.inr (.inr f)))))) (hv : ws[qk]? = some (v, .inr (1, vs))) (hin : vp_in i n) (hj : i.toNatClampNeg = j) (hset : ws.set q0 (a, .inl (g.2 3, n, .inr (.inr (.inr (.inr (va_up f j (some v))))))) = ws') (kk : V k ws' (pc + 1) lv st) : V k ws pc lv (.ref v :: .int i :: .ref a :: st) := by
  subst hj
  exact r_astq C d q0 qk ha hv hin hset kk
section CC2
variable {X : State → Prop} {m : MethodName} {wsc ws'' : List Cond} {rm : Room} {w w' wr : va_W} {P : va_W → Prop} {As rest : List Value} {o : Option Value} {bytes : ByteArray} {maxL n index b mc ms : Nat} {ret : Option FieldType} {Cn : String}
theorem preA_blind {D : va_G} {g : GG} {w : va_W} {sz : Nat} {As : List Value} (hX : Blind X) : FrameBlind (va_Pc As (fun U => PRE D g w sz U ∧ X U)) := by
  intro a U f mk q
  obtain ⟨q0, q1, q2⟩ := q
  obtain ⟨-, r⟩ := pre_blind (D := D) (g := g) (w := w) (sz := sz) (As := As) a U f mk ⟨q0, q1⟩
  exact ⟨q0, r, hX a U f mk q2⟩
theorem preA_part (C : CX k cc nL own Ts R g) (hXm : ∀ U : State, (ks k).WarmedH U.vm → X U) {H : Heap} {locs : List Loc} (hP : va_P (kD k) vwCl (wr ++ w) H) (hD : va_D (kA k) (wr ++ w)) (hS : va_S (kA k) (ks k).heap H locs) : ∀ U : State, U.heap = H → (ks k).WarmedH U.vm → va_Pc As (fun U => PRE (kD k) g w H.size U ∧ X U) As.toArray U := fun U hU hW => by
  obtain ⟨r0, r⟩ := pre_part (As := As) C hP hD hS U hU hW
  exact ⟨r0, r, hXm U hW⟩
/-- a constructor called: the new cell stands last -/
theorem n_I (C : CX (stx k x y) cc nL own Ts R g) (hM : CONA X (kl k) m wsc rm (kD k) g w (.ref b :: As) none P mc ms) (hXb : Blind X) (hXm : ∀ U : State, (ks k).WarmedH U.vm → X U) (d : decode cc pc = .ok (.invokespecial index, 3)) (hG : GoodIn Ts wsc) (hw : wsc = Cond.code m bytes maxL none :: ws'') (hrc : rm.cells = mc) (hrs : rm.slots = ms) (hini : Cond.initialized m.cls ∈ Ts) (hlk : Cond.methodLink own index m ∈ Ts) (hins : Cond.instanceMethod m ∈ Ts) (hy1 : m.name = "<init>")
    (hd : m.cls ≠ "java/lang/invoke/MethodHandle" ∧ m.cls ≠ "java/lang/invoke/VarHandle" ∧ (parseMethodDescriptor m.desc).map (fun d => d.parameters.length) = some n) (hR : rm.frames + 1 ≤ R.frames ∧ 8 + (maxL + 11) + rm.locals ≤ R.locals)
    (hn : As.length = n) (hst : st = As.reverse ++ .ref b :: rest) (hW : (rest.map fun v => v.category).sum ≤ 8) (hx : x + mc = x') (hx2 : x' ≤ R.cells) (hy : y + ms = y') (hy2 : y' ≤ R.slots)
    (kk : ∀ w' : va_W, P w' → CX (stx k x' y') cc nL own Ts R g → V (stx k x' y') (wr ++ w') (pc + 3) lv rest) : V (stx k x y) (wr ++ w) pc lv st := by
  subst hst; subst hx; subst hy
  intro ls H locs hl hP hD hS
  exact r_runX (o := none) C hl hP hD hS (va_runI (As := As) (rest := rest) (nL := kn k) ⟨C.x, C.b, C.ml, C.o, C.t⟩ (hM H.size) (cwI n C.t hG hw hrc hrs (C.t _ hini) (C.t _ hlk) (C.t _ hins) hy1 hd (C.rm ▸ hR)) ⟨preA_blind hXb, preA_part C hXm hP hD hS⟩ rfl hn hl.1 rfl (lv_room hW) d ⟨C.rm ▸ hx2, C.rm ▸ hy2⟩) (fun w' hw' => kk w' hw' (C.to hx2 hy2))
theorem n_IN {host : String} (C : CX (stx k x y) cc nL own Ts R g) (hM : CONA X (kl k) m wsc rm (kD k) g w (.ref b :: As) none P mc ms) (hXb : Blind X) (hXm : ∀ U : State, (ks k).WarmedH U.vm → X U) (d : decode cc pc = .ok (.invokespecial index, 3)) (hG : GoodIn Ts wsc) (hw : wsc = Cond.code m bytes maxL none :: ws'') (hrc : rm.cells = mc) (hrs : rm.slots = ms) (hini : Cond.initialized m.cls ∈ Ts) (hnw : va_Nw (.methodLinkNest own index m host) (ks k)) (hins : Cond.instanceMethod m ∈ Ts) (hy1 : m.name = "<init>")
    (hd : m.cls ≠ "java/lang/invoke/MethodHandle" ∧ m.cls ≠ "java/lang/invoke/VarHandle" ∧ (parseMethodDescriptor m.desc).map (fun d => d.parameters.length) = some n) (hR : rm.frames + 1 ≤ R.frames ∧ 8 + (maxL + 11) + rm.locals ≤ R.locals)
    (hn : As.length = n) (hst : st = As.reverse ++ .ref b :: rest) (hW : (rest.map fun v => v.category).sum ≤ 8) (hx : x + mc = x') (hx2 : x' ≤ R.cells) (hy : y + ms = y') (hy2 : y' ≤ R.slots)
    (kk : ∀ w' : va_W, P w' → CX (stx k x' y') cc nL own Ts R g → V (stx k x' y') (wr ++ w') (pc + 3) lv rest) : V (stx k x y) (wr ++ w) pc lv st := by
  subst hst; subst hx; subst hy
  intro ls H locs hl hP hD hS
  exact r_runX (o := none) C hl hP hD hS (va_runIN (As := As) (rest := rest) (nL := kn k) ⟨C.x, C.b, C.ml, C.o, C.t⟩ (hM H.size) ⟨va_cnB n C.t hG hw hrc hrs hnw (C.t _ hini) hd (C.rm ▸ hR), hy1, C.t _ hins⟩ ⟨preA_blind hXb, preA_part C hXm hP hD hS⟩ rfl hn hl.1 rfl (lv_room hW) d ⟨C.rm ▸ hx2, C.rm ▸ hy2⟩) (fun w' hw' => kk w' hw' (C.to hx2 hy2))
/-- a virtual call beside other cells -/
theorem n_V (C : CX k cc nL own Ts R g) (hM : CON (kl k) m wsc rm (kD k) g w (.ref b :: As) o w') (d : decode cc pc = .ok (.invokevirtual index, 3)) (hG : GoodIn Ts (wsV own index Cn m wsc)) (hw : wsc = Cond.code m bytes maxL ret :: ws'') (hrc : rm.cells = 0) (hrs : rm.slots = 0)
    (hd : m.cls = Cn ∧ m.cls ≠ "java/lang/invoke/MethodHandle" ∧ m.cls ≠ "java/lang/invoke/VarHandle" ∧ (parseMethodDescriptor m.desc).map (fun d => d.parameters.length) = some n) (hR : rm.frames + 1 ≤ R.frames ∧ 8 + (maxL + 11) + rm.locals ≤ R.locals)
    (q0 : Nat) {ci : Nat} {fs : List Value} {q : vw_C} (he : w[q0]? = some (b, .inr (ci, fs))) (hc : vwCl[ci]? = some q) (hq : q.1 = Cn) (hn : As.length = n) (hst : st = As.reverse ++ .ref b :: rest) (hW : (rest.map fun v => v.category).sum ≤ 8)
    (kk : V k (wr ++ w') (pc + 3) lv (o.toList ++ rest)) : V k (wr ++ w) pc lv st := by
  subst hst; subst hq
  intro ls H locs hl hP hD hS
  exact r_runX (P := fun z => z = w') (mc := 0) (ms := 0) C hl hP hD hS (va_runV (As := As) (rest := rest) (nL := kn k) ⟨C.x, C.b, C.ml, C.o, C.t⟩ (hM.x H.size) (cwV n C.t hG hw hrc hrs hd (C.rm ▸ hR)) ⟨pre_blind, va_recv C.K (partR hP hD).1 hc he, pre_part C hP hD hS⟩ rfl hn hl.1 rfl (lv_room hW) d ⟨C.rm ▸ C.cx, C.rm ▸ C.cy⟩) (fun z hz => by subst hz; exact kk)
end CC2
end CROWS2
