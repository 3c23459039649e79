/-! the law: its loop, and the whole walk -/
theorem lt5 : ∀ L, L < 5 → ∀ i, i < 5 → nI L - 5 < nI i := by decide +kernel
set_option maxRecDepth 100000 in
set_option maxHeartbeats 8000000 in
theorem law_step {k : CT} {gB gM : GG} {b L : Nat} {xs : Nat → Int32} (C : CX k cL_law 4 RL wsL_law room_1 gB) (M : CX k cL_law 4 RL wsL_law room_1 gM) (X : LX k b L xs) {i : Nat} (hi : i + 5 ≤ L) {IB : MI} {JB : MJ} {IM : MI} {JM : MJ} (h : REL IB JB IM JM) (nxt : ∀ (IB' : MI) (JB' : MJ) (IM' : MI) (JM' : MJ), REL IB' JB' IM' JM' → V k (wM gM IM' JM' ++ wB gB IB' JB') 1073 (LV b gB gM i) []) : V k (wM gM IM JM ++ wB gB IB JB) 26 (LV b gB gM i) [] := by
  refine r_aload_n C dL_law_26 rfl 0 rfl ?_
  refine r_iload_n C dL_law_27 rfl 3 rfl ?_
  refine r_scr (j := i) C X rfl (by omega) dL_law_28 ?_
  refine r_bipush (v := (31 : Int32)) C dL_law_29 (by decide) ?_
  refine r_iand C dL_law_31 ?_
  by_cases q_0 : (xs i &&& 31) = (0 : Int32)
  · refine r_tabIn (tgt := 164) C dL_law_32 (by rw [q_0]; decide) (by rw [q_0]; decide) (by rw [q_0]; rfl) (by decide) ?_
    exact cs_0 C M X hi h nxt
  by_cases q_1 : (xs i &&& 31) = (1 : Int32)
  · refine r_tabIn (tgt := 217) C dL_law_32 (by rw [q_1]; decide) (by rw [q_1]; decide) (by rw [q_1]; rfl) (by decide) ?_
    exact cs_1 C M X hi h nxt
  by_cases q_2 : (xs i &&& 31) = (2 : Int32)
  · refine r_tabIn (tgt := 260) C dL_law_32 (by rw [q_2]; decide) (by rw [q_2]; decide) (by rw [q_2]; rfl) (by decide) ?_
    exact cs_2 C M X hi h nxt
  by_cases q_3 : (xs i &&& 31) = (3 : Int32)
  · refine r_tabIn (tgt := 293) C dL_law_32 (by rw [q_3]; decide) (by rw [q_3]; decide) (by rw [q_3]; rfl) (by decide) ?_
    exact cs_3 C M X hi h nxt
  by_cases q_4 : (xs i &&& 31) = (4 : Int32)
  · refine r_tabIn (tgt := 326) C dL_law_32 (by rw [q_4]; decide) (by rw [q_4]; decide) (by rw [q_4]; rfl) (by decide) ?_
    exact cs_4 C M X hi h nxt
  by_cases q_5 : (xs i &&& 31) = (5 : Int32)
  · refine r_tabIn (tgt := 359) C dL_law_32 (by rw [q_5]; decide) (by rw [q_5]; decide) (by rw [q_5]; rfl) (by decide) ?_
    exact cs_5 C M X hi h nxt
  by_cases q_6 : (xs i &&& 31) = (6 : Int32)
  · refine r_tabIn (tgt := 392) C dL_law_32 (by rw [q_6]; decide) (by rw [q_6]; decide) (by rw [q_6]; rfl) (by decide) ?_
    exact cs_6 C M X hi h nxt
  by_cases q_7 : (xs i &&& 31) = (7 : Int32)
  · refine r_tabIn (tgt := 425) C dL_law_32 (by rw [q_7]; decide) (by rw [q_7]; decide) (by rw [q_7]; rfl) (by decide) ?_
    exact cs_7 C M X hi h nxt
  by_cases q_8 : (xs i &&& 31) = (8 : Int32)
  · refine r_tabIn (tgt := 478) C dL_law_32 (by rw [q_8]; decide) (by rw [q_8]; decide) (by rw [q_8]; rfl) (by decide) ?_
    exact cs_8 C M X hi h nxt
  by_cases q_9 : (xs i &&& 31) = (9 : Int32)
  · refine r_tabIn (tgt := 511) C dL_law_32 (by rw [q_9]; decide) (by rw [q_9]; decide) (by rw [q_9]; rfl) (by decide) ?_
    exact cs_9 C M X hi h nxt
  by_cases q_10 : (xs i &&& 31) = (10 : Int32)
  · refine r_tabIn (tgt := 524) C dL_law_32 (by rw [q_10]; decide) (by rw [q_10]; decide) (by rw [q_10]; rfl) (by decide) ?_
    exact cs_10 C M X hi h nxt
  by_cases q_11 : (xs i &&& 31) = (11 : Int32)
  · refine r_tabIn (tgt := 557) C dL_law_32 (by rw [q_11]; decide) (by rw [q_11]; decide) (by rw [q_11]; rfl) (by decide) ?_
    exact cs_11 C M X hi h nxt
  by_cases q_12 : (xs i &&& 31) = (12 : Int32)
  · refine r_tabIn (tgt := 580) C dL_law_32 (by rw [q_12]; decide) (by rw [q_12]; decide) (by rw [q_12]; rfl) (by decide) ?_
    exact cs_12 C M X hi h nxt
  by_cases q_13 : (xs i &&& 31) = (13 : Int32)
  · refine r_tabIn (tgt := 613) C dL_law_32 (by rw [q_13]; decide) (by rw [q_13]; decide) (by rw [q_13]; rfl) (by decide) ?_
    exact cs_13 C M X hi h nxt
  by_cases q_14 : (xs i &&& 31) = (14 : Int32)
  · refine r_tabIn (tgt := 646) C dL_law_32 (by rw [q_14]; decide) (by rw [q_14]; decide) (by rw [q_14]; rfl) (by decide) ?_
    exact cs_14 C M X hi h nxt
  by_cases q_15 : (xs i &&& 31) = (15 : Int32)
  · refine r_tabIn (tgt := 679) C dL_law_32 (by rw [q_15]; decide) (by rw [q_15]; decide) (by rw [q_15]; rfl) (by decide) ?_
    exact cs_15 C M X hi h nxt
  by_cases q_16 : (xs i &&& 31) = (16 : Int32)
  · refine r_tabIn (tgt := 742) C dL_law_32 (by rw [q_16]; decide) (by rw [q_16]; decide) (by rw [q_16]; rfl) (by decide) ?_
    exact cs_16 C M X hi h nxt
  by_cases q_17 : (xs i &&& 31) = (17 : Int32)
  · refine r_tabIn (tgt := 755) C dL_law_32 (by rw [q_17]; decide) (by rw [q_17]; decide) (by rw [q_17]; rfl) (by decide) ?_
    exact cs_17 C M X hi h nxt
  by_cases q_18 : (xs i &&& 31) = (18 : Int32)
  · refine r_tabIn (tgt := 768) C dL_law_32 (by rw [q_18]; decide) (by rw [q_18]; decide) (by rw [q_18]; rfl) (by decide) ?_
    exact cs_18 C M X hi h nxt
  by_cases q_19 : (xs i &&& 31) = (19 : Int32)
  · refine r_tabIn (tgt := 801) C dL_law_32 (by rw [q_19]; decide) (by rw [q_19]; decide) (by rw [q_19]; rfl) (by decide) ?_
    exact cs_19 C M X hi h nxt
  by_cases q_20 : (xs i &&& 31) = (20 : Int32)
  · refine r_tabIn (tgt := 824) C dL_law_32 (by rw [q_20]; decide) (by rw [q_20]; decide) (by rw [q_20]; rfl) (by decide) ?_
    exact cs_20 C M X hi h nxt
  by_cases q_21 : (xs i &&& 31) = (21 : Int32)
  · refine r_tabIn (tgt := 848) C dL_law_32 (by rw [q_21]; decide) (by rw [q_21]; decide) (by rw [q_21]; rfl) (by decide) ?_
    exact cs_21 C M X hi h nxt
  by_cases q_22 : (xs i &&& 31) = (22 : Int32)
  · refine r_tabIn (tgt := 891) C dL_law_32 (by rw [q_22]; decide) (by rw [q_22]; decide) (by rw [q_22]; rfl) (by decide) ?_
    exact cs_22 C M X hi h nxt
  by_cases q_23 : (xs i &&& 31) = (23 : Int32)
  · refine r_tabIn (tgt := 904) C dL_law_32 (by rw [q_23]; decide) (by rw [q_23]; decide) (by rw [q_23]; rfl) (by decide) ?_
    exact cs_23 C M X hi h nxt
  by_cases q_24 : (xs i &&& 31) = (24 : Int32)
  · refine r_tabIn (tgt := 937) C dL_law_32 (by rw [q_24]; decide) (by rw [q_24]; decide) (by rw [q_24]; rfl) (by decide) ?_
    exact cs_24 C M X hi h nxt
  by_cases q_25 : (xs i &&& 31) = (25 : Int32)
  · refine r_tabIn (tgt := 970) C dL_law_32 (by rw [q_25]; decide) (by rw [q_25]; decide) (by rw [q_25]; rfl) (by decide) ?_
    exact cs_25 C M X hi h nxt
  by_cases q_26 : (xs i &&& 31) = (26 : Int32)
  · refine r_tabIn (tgt := 1003) C dL_law_32 (by rw [q_26]; decide) (by rw [q_26]; decide) (by rw [q_26]; rfl) (by decide) ?_
    exact cs_26 C M X hi h nxt
  by_cases q_27 : (xs i &&& 31) = (27 : Int32)
  · refine r_tabIn (tgt := 1036) C dL_law_32 (by rw [q_27]; decide) (by rw [q_27]; decide) (by rw [q_27]; rfl) (by decide) ?_
    exact cs_27 C M X hi h nxt
  by_cases q_28 : (xs i &&& 31) = (28 : Int32)
  · refine r_tabIn (tgt := 1059) C dL_law_32 (by rw [q_28]; decide) (by rw [q_28]; decide) (by rw [q_28]; rfl) (by decide) ?_
    exact cs_28 C M X hi h nxt
  refine r_tabOut (tgt := 1073) C dL_law_32 (by have a0 := lv_neT q_0 (a := 0) (by decide); have a1 := lv_neT q_1 (a := 1) (by decide); have a2 := lv_neT q_2 (a := 2) (by decide); have a3 := lv_neT q_3 (a := 3) (by decide); have a4 := lv_neT q_4 (a := 4) (by decide); have a5 := lv_neT q_5 (a := 5) (by decide); have a6 := lv_neT q_6 (a := 6) (by decide); have a7 := lv_neT q_7 (a := 7) (by decide); have a8 := lv_neT q_8 (a := 8) (by decide); have a9 := lv_neT q_9 (a := 9) (by decide); have a10 := lv_neT q_10 (a := 10) (by decide); have a11 := lv_neT q_11 (a := 11) (by decide); have a12 := lv_neT q_12 (a := 12) (by decide); have a13 := lv_neT q_13 (a := 13) (by decide); have a14 := lv_neT q_14 (a := 14) (by decide); have a15 := lv_neT q_15 (a := 15) (by decide); have a16 := lv_neT q_16 (a := 16) (by decide); have a17 := lv_neT q_17 (a := 17) (by decide); have a18 := lv_neT q_18 (a := 18) (by decide); have a19 := lv_neT q_19 (a := 19) (by decide); have a20 := lv_neT q_20 (a := 20) (by decide); have a21 := lv_neT q_21 (a := 21) (by decide); have a22 := lv_neT q_22 (a := 22) (by decide); have a23 := lv_neT q_23 (a := 23) (by decide); have a24 := lv_neT q_24 (a := 24) (by decide); have a25 := lv_neT q_25 (a := 25) (by decide); have a26 := lv_neT q_26 (a := 26) (by decide); have a27 := lv_neT q_27 (a := 27) (by decide); have a28 := lv_neT q_28 (a := 28) (by decide); omega) (by decide) ?_
  exact nxt _ _ _ _ h
theorem law_loop {k : CT} {gB gM : GG} {b L : Nat} {xs : Nat → Int32} (C : CX k cL_law 4 RL wsL_law room_1 gB) (M : CX k cL_law 4 RL wsL_law room_1 gM) (X : LX k b L xs) (hL : L ≤ 2560) (fin : ∀ (ws : va_W) (lv : List (Nat × Value)), V k ws 1079 lv []) : ∀ n i : Nat, L - i < n → i ≤ L → ∀ (IB : MI) (JB : MJ) (IM : MI) (JM : MJ), REL IB JB IM JM → V k (wM gM IM JM ++ wB gB IB JB) 18 (LV b gB gM i) [] := by
  intro n
  induction n with
  | zero => intro i h; exact absurd h (Nat.not_lt_zero _)
  | succ n ih =>
    intro i hn hiL IB JB IM JM h
    refine r_iload_n C dL_law_18 rfl 3 rfl ?_
    refine r_aload_n C dL_law_19 rfl 0 rfl ?_
    refine r_slen C X dL_law_20 ?_
    refine r_iconst (v := (5 : Int32)) C dL_law_21 (by decide) ?_
    refine r_isub C dL_law_22 ?_
    refine r_icmp_gt (tgt := 1079) C dL_law_23 (by decide) (fun _ => fin _ _) (fun c => ?_)
    have hi : i + 5 ≤ L := by
      rcases Nat.lt_or_ge L 5 with h5 | h5
      · exact absurd (lt5 L h5 i (by omega)) c
      · rcases Nat.lt_or_ge L (i + 5) with h6 | h6
        · refine absurd ?_ c
          have e : nI L - 5 = nI (L - 5) := pk_sub (a := L) (b := 5) h5
          rw [e]
          exact nI_lt (by omega) (by omega)
        · exact h6
    refine law_step C M X hi h (fun IB' JB' IM' JM' h' => ?_)
    refine r_iinc (v := nI (i + 5)) (lv' := LV b gB gM (i + 5)) C dL_law_1073 3 rfl (nI_add i 5) (by decide) [1, 2, 3, 0] rfl ?_
    refine r_goto (tgt := 18) C dL_law_1076 (by decide) ?_
    exact ih (i + 5) (by omega) hi IB' JB' IM' JM' h'
theorem kL_a : Cond.classLink RL 7 RX7 ∈ wsL_law := by decide +kernel
theorem kL_b : Cond.initialized RX7 ∈ wsL_law := by decide +kernel
theorem kL_c : Cond.classLink RL 10 RX8 ∈ wsL_law := by decide +kernel
theorem kL_d : Cond.initialized RX8 ∈ wsL_law := by decide +kernel
theorem kL_e : Cond.initialized yX7_init.cls ∈ wsL_law := by decide +kernel
theorem kL_f : Cond.methodLink RL 9 yX7_init ∈ wsL_law := by decide +kernel
theorem kL_g : Cond.instanceMethod yX7_init ∈ wsL_law := by decide +kernel
theorem kL_h : Cond.initialized yX8_init.cls ∈ wsL_law := by decide +kernel
theorem kL_i : Cond.methodLink RL 12 yX8_init ∈ wsL_law := by decide +kernel
theorem kL_j : Cond.instanceMethod yX8_init ∈ wsL_law := by decide +kernel
set_option maxRecDepth 100000 in
set_option maxHeartbeats 8000000 in
theorem law_body {k : CT} {g : GG} {b L : Nat} {xs : Nat → Int32} (C : CX (stx k 0 0) cL_law 4 RL wsL_law room_1 g) (hAO : va_AO RX1 (ks k)) (X : LX k b L xs) (hL : L ≤ 2560) (fin : ∀ (ws : va_W) (lv : List (Nat × Value)), V (stx k 47 1136) ws 1079 lv []) : V (stx k 0 0) [] 0 [(0, .ref b)] [] := by
  refine n_O (ci := 7) (fs := [.null, .int 0, .null, .null, .null, .null, .null, .null, .null, .int 0, .int 0, .int 0, .long 0]) (x' := 1) (y' := 13) C dL_law_0 inlX7 tyX7 tyX7_ok kL_a tw_c7 kL_b rfl (by decide +kernel) rfl (by decide) rfl (by decide) (fun a C1 => ?_)
  refine r_dup C1 dL_law_3 rfl ?_
  refine n_I (wr := []) (As := []) (rest := [.ref a]) (x' := 32) (y' := 696) C1 c_X7_init blind_AO (fun U hW => va_AO.moved hW.alike hAO) dL_law_4 gL_law_X7_init rfl rfl rfl kL_e kL_f kL_g rfl hd_X7_init ⟨by decide, by decide⟩ rfl rfl (Nat.le_of_ble_eq_true rfl) rfl (by decide) rfl (by decide) ?_
  rintro _ ⟨gB, hgB, rfl, rfl⟩ C2
  show V (stx k 32 696) (wB gB IB0 JB0) _ _ _
  refine r_astore_n (lv' := [(0, .ref b), (1, .ref (gB.1 0))]) C2 dL_law_7 rfl (by decide) [1, 0] rfl ?_
  refine n_O (ci := 8) (fs := [.int 0, .long 0, .int 0, .null, .null, .int 0, .long 0, .long 0, .long 0, .int 0, .null, .null, .int 0, .int 0, .int 0, .null, .null, .int 0, .int 0, .null, .int 0, .int 0, .null, .null, .int 0, .int 0, .int 0, .int 0, .int 0, .int 0, .null, .int 0, .null, .null, .null, .int 0, .int 0, .null]) (x' := 33) (y' := 734) C2 dL_law_8 inlX8 tyX8 tyX8_ok kL_c tw_c8 kL_d rfl (by decide +kernel) rfl (by decide) rfl (by decide) (fun a C3 => ?_)
  refine r_dup C3 dL_law_11 rfl ?_
  refine n_I (wr := wB gB IB0 JB0) (As := []) (rest := [.ref a]) (x' := 47) (y' := 1136) C3 c_X8_init blind_T (fun _ _ => trivial) dL_law_12 gL_law_X8_init rfl rfl rfl kL_h kL_i kL_j rfl hd_X8_init ⟨by decide, by decide⟩ rfl rfl (Nat.le_of_ble_eq_true rfl) rfl (by decide) rfl (by decide) ?_
  rintro _ ⟨gM, hgM, rfl, rfl⟩ C4
  refine r_astore_n (lv' := [(0, .ref b), (1, .ref (gB.1 0)), (2, .ref (gM.1 0))]) C4 dL_law_15 rfl (by decide) [1, 2, 0] rfl ?_
  refine r_iconst (v := (0 : Int32)) C4 dL_law_16 (by decide) ?_
  refine r_istore_n (lv' := LV b gB gM 0) C4 dL_law_17 rfl (by decide) [1, 2, 3, 0] rfl ?_
  refine V.swap ?_
  exact law_loop (C4.gx hgB) (C4.gx hgM) X hL fin (L + 1) 0 (by omega) (by omega) _ _ _ _ rel0
set_option maxRecDepth 100000 in
set_option maxHeartbeats 4000000 in
/-- from the entry, for every script of at most 2560 ints, the law comes to its end with true -/
theorem whole_start {p : Program} {e : Env} {s : State} {m : MethodId} {below : List Frame} {meth : Method} {c : Code} (l : Launch) {b L : Nat} {xs : Nat → Int32} (hL : L ≤ 2560) (C0 : lw_At p s m meth c b L xs) : W p l e room_1 s m #[Value.ref b] below meth c s.heap [] 0 0 (lw_Z below #[Value.ref b] s) (entryFrame m ([Value.ref b] : List Value).toArray 4) := by
  obtain ⟨hx, hb, hr, hml, ho, ht, hX, hbl, hlk, hgv⟩ := C0
  have hw : ∀ w ∈ wsL_law, w.before #[Value.ref b] s = true := fun w h => ht w (wsL_law_in w h)
  obtain ⟨D, cA, hK⟩ := st_K hw ht
  have hA0 : ∀ a : Nat, a < s.heap.size → ¬ s.heap.size ≤ a := fun a h => by omega
  obtain ⟨g, hg, hS⟩ := st_S (A := fun q => s.heap.size ≤ q) ht hgv hA0 cA
  subst hg
  have C : CX (stx (p, l, e, room_1, s, m, #[Value.ref b], below, meth, c, lw_Z below #[Value.ref b] s, fun q => s.heap.size ≤ q, D, 4, 0, 0) 0 0) cL_law 4 RL wsL_law room_1 g := ⟨hx, hb, hml, rfl, ho, hw, hK, fun _ h => h, hS, st_N ht, rfl, Nat.zero_le _, Nat.zero_le _⟩
  have key := law_body C (va_AO.of (ht _ tw_ao)) ⟨hX, hbl, hA0 b hbl, by omega⟩ hL (fun ws lv => by
    refine r_iconst (v := (1 : Int32)) (C.to (x' := 47) (y' := 1136) (by decide) (by decide)) dL_law_1079 (by decide) ?_
    intro ls H locs hl hP hD hS
    exact va_forget (fun q hq => hS.2.2 q hq) (W.widen (show (47 : Nat) ≤ 600000 by decide) (show (1136 : Nat) ≤ 7302250 by decide) (lw_ret hx hb hr hlk dL_law_1080)))
  have hl := lv_entry [Value.ref b] (n := 4) (Nat.le_of_ble_eq_true rfl)
  rw [lg_entry_eq]
  have n0 : ∀ (j : Nat) (q : Nat × va_E), ([] : va_W)[j]? = some q → False := fun j q h => by simp at h
  exact key _ s.heap [] hl (fun j q h => (n0 j q h).elim) ⟨fun i j q r h _ _ => (n0 i q h).elim, fun j q h => (n0 j q h).elim⟩ va_S.rf
