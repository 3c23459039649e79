/-! typing, traits, beats -/
theorem byte_ok (z : Int64) : ∃ b : Nat, b < 256 ∧ (z &&& (255 : Int64)).toInt32 = nI b ∧ vp_nar .byte (z.toInt32.toInt8.toInt32) = (nI b).toInt8.toInt32 := by
  refine ⟨z.toBitVec.toNat % 256, Nat.mod_lt _ (by decide), ?_, ?_⟩
  · apply Int32.toBitVec_inj.mp
    rw [Int64.toBitVec_toInt32, Int64.toBitVec_and]
    apply BitVec.eq_of_toNat_eq
    rw [BitVec.signExtend_eq_setWidth_of_le _ (by decide), BitVec.toNat_setWidth, BitVec.toNat_and, show ((255 : Int64).toBitVec).toNat = 2 ^ 8 - 1 by decide, Nat.and_two_pow_sub_one_eq_mod]
    unfold nI
    rw [Int32.toBitVec_ofNat', BitVec.toNat_ofNat]
  · rw [pk_vb]
    congr 1
    apply Int8.toBitVec_inj.mp
    rw [Int32.toBitVec_toInt8, Int32.toBitVec_toInt8, Int64.toBitVec_toInt32]
    apply BitVec.eq_of_toNat_eq
    unfold nI
    rw [BitVec.signExtend_eq_setWidth_of_le _ (by decide), BitVec.signExtend_eq_setWidth_of_le _ (by decide), BitVec.signExtend_eq_setWidth_of_le _ (by decide), BitVec.toNat_setWidth, BitVec.toNat_setWidth, BitVec.toNat_setWidth, Int32.toBitVec_ofNat', BitVec.toNat_ofNat]
    omega
theorem LP_write_s (n : Nat) (I : MI) (J : MJ) (y1 : Int64) (x4 : Int32) : LP_X3_write_20 (n + 1) I J y1 x4 = LB_X3_write_20 (LP_X3_write_20 n) I J y1 x4 := rfl
theorem LP_type_s (n : Nat) (I : MI) (J : MJ) (y1 : Int64) (x4 : Int32) : LP_X8_type_37 (n + 1) I J y1 x4 = LB_X8_type_37 (LP_X8_type_37 n) I J y1 x4 := rfl
theorem type_loop (y : Int64) : ∀ (m fu : Nat) (IB : MI) (JB : MJ) (IM : MI) (JM : MJ) (L : Nat) (b : Nat → Nat), m < fu → m ≤ 8 → L + m ≤ 150 → REL IB JB IM JM → RD L b IB IM → SW (LP_X3_write_20 fu IB JB y (nI m - 1)) (LP_X8_type_37 fu IM JM y (nI m - 1)) := by
  intro m
  induction m with
  | zero =>
    intro fu IB JB IM JM L b hf hm hL h hd
    obtain ⟨fu, rfl⟩ : ∃ f, fu = f + 1 := ⟨fu - 1, by omega⟩
    rw [LP_write_s, LP_type_s]
    unfold LB_X3_write_20 LB_X8_type_37
    rw [if_pos (by decide), if_pos (by decide)]
    exact SW.ret (hd.1.trans hd.2.1.symm) h
  | succ m ih =>
    intro fu IB JB IM JM L b hf hm hL h hd
    obtain ⟨fu, rfl⟩ : ∃ f, fu = f + 1 := ⟨fu - 1, by omega⟩
    obtain ⟨d1, d2, d3, d4⟩ := id hd
    rw [LP_write_s, LP_type_s]
    unfold LB_X3_write_20 LB_X8_type_37
    simp only [bnd]
    have e1 : nI (m + 1) - 1 = nI m := nI_pred m
    rw [e1, if_neg (nI_pos (by omega)), if_neg (nI_pos (by omega)), d1, d2, inbI (by omega) (by omega), chk_t, chk_t, nI_clamp (by omega)]
    simp only [w2n (show (20 : Nat) ≠ 21 by decide), w2n (show (0 : Nat) ≠ 7 by decide), d1, d2]
    obtain ⟨v, v1, v2, v3⟩ := byte_ok (y >>> (((8 : Int32) * nI m).toInt64 &&& 63))
    rw [v2, v3, show nI m + (-1 : Int32) = nI m - 1 by rw [Int32.sub_eq_add_neg]]
    have hx : RD (L + 1) (fun q => if q = L then v else b q) (w2 (w2 IB 21 L ((nI v).toInt8.toInt32)) 20 1 (nI L + 1)) (w2 (w2 IM 7 L (nI v)) 0 20 (nI L + 1)) := by
      refine ⟨by rw [w2k]; exact nI_1 L, by rw [w2k]; exact nI_1 L, by omega, fun j hj => ?_⟩
      rw [w2n (show (7 : Nat) ≠ 0 by decide), w2n (show (21 : Nat) ≠ 20 by decide), w2c, w2c]
      dsimp only
      by_cases e : j = L
      · rw [if_pos e, if_pos e, if_pos e]; exact ⟨v1, rfl, rfl⟩
      · rw [if_neg e, if_neg e, if_neg e]; exact d4 j (by omega)
    exact ih fu _ JB _ JM (L + 1) _ (by omega) (by omega) (by omega) (h.setD ((ag_wc (by decide) (by decide)).tr (AG.w2 (by decide) (by decide))) ((ag_wc (by decide) (by decide)).tr (AG.w2 (by decide) (by decide))) (AJ.rf _) (AJ.rf _) ⟨_, _, hx⟩) hx
theorem s_type {IB : MI} {JB : MJ} {IM : MI} {JM : MJ} (h : REL IB JB IM JM) (a1 : Int64) (a3 : Int32) : SW (f_X7_type IB JB a1 a3) (f_X8_type IM JM a1 a3) := by
  have h0 := thr h
  unfold f_X7_type f_X8_type f_X3_write
  simp only [bnd, in_wi]
  generalize w2 IM 0 0 0 = IM at h0 ⊢
  obtain ⟨L, b, hd⟩ := h0.2.2.2.2.1
  rcases win a3 (x := 1) (y := 8) (lo := 1) (hi := 8) rfl rfl (by omega) (by omega) with ⟨m, hm0, hm, rfl, e⟩ | e
  · rw [e]
    simp only [bo1_s, one0, ↓reduceIte]
    rw [hd.1, hd.2.1, nI_add]
    have := hd.2.2.1
    by_cases hx : L + m ≤ 150
    · rw [if_pos (show nI (L + m) ≤ (150 : Int32) from nI_le (b := 150) hx (by omega)), if_pos (show nI (L + m) ≤ (150 : Int32) from nI_le (b := 150) hx (by omega))]
      obtain ⟨r, IB', JB', IM', JM', e1, e2, e3⟩ := type_loop a1 m FU IB JB IM JM L b (by rw [FU_eq]; omega) hm hx h0 hd
      rw [e1, e2, bo3_s]; exact SW.same e3
    · rw [if_neg (show ¬ nI (L + m) ≤ (150 : Int32) from nI_ge (a := 150) (by omega) (by omega)), if_neg (show ¬ nI (L + m) ≤ (150 : Int32) from nI_ge (a := 150) (by omega) (by omega)), bo3_s]
      exact SW.same h0
  · rw [e]; exact SW.same h0
/-! put -/
theorem TO.bd {T : Nat → Nat} (h : TO T) : ∀ q, q < 13 → T q ≤ 1000 := by
  unfold TO at h
  intro q hq
  rcases (show q = 0 ∨ q = 1 ∨ q = 2 ∨ q = 3 ∨ q = 4 ∨ q = 5 ∨ q = 6 ∨ q = 7 ∨ q = 8 ∨ q = 9 ∨ q = 10 ∨ q = 11 ∨ q = 12 by omega) with rfl | rfl | rfl | rfl | rfl | rfl | rfl | rfl | rfl | rfl | rfl | rfl | rfl <;> omega
def un (T : Nat → Nat) (j v : Nat) : Nat → Nat := fun q => if q = j then v else T q
theorem un_k (T : Nat → Nat) (j v : Nat) : un T j v j = v := by simp [un]
theorem un_n {T : Nat → Nat} {j v q : Nat} (h : q ≠ j) : un T j v q = T q := by simp [un, h]
theorem bt_cg {T T' : Nat → Nat} (h0 : T' 0 = T 0) (h2 : T' 2 = T 2) (h3 : T' 3 = T 3) (h4 : T' 4 = T 4) (h5 : T' 5 = T 5) (h7 : T' 7 = T 7) (h8 : T' 8 = T 8) : bt T' = bt T := by
  have e1 : gnT T' = gnT T := by unfold gnT; rw [h0, h2]
  have e2 : drT T' = drT T := by unfold drT; rw [h8]
  have e3 : opT T' = opT T := by unfold opT; rw [h5, h7]
  have e4 : fwT T' = fwT T := by unfold fwT; rw [e3, h3]
  have e5 : hfT T' = hfT T := by unfold hfT; rw [e3, h4]
  unfold bt
  rw [e1, e2, e4, e5]
theorem bt_air {T : Nat → Nat} {j v : Nat} (h : j = 6 ∨ j = 9) : bt (un T j v) = bt T := by
  rcases h with rfl | rfl <;> exact bt_cg (un_n (by decide)) (un_n (by decide)) (un_n (by decide)) (un_n (by decide)) (un_n (by decide)) (un_n (by decide)) (un_n (by decide))
theorem put_raw {c j : Nat} {x : Int32} {I : MI} {J : MJ} (hj : j < 13) : ∃ I' : MI, f_X1_put c I J (nI j) x = some (I', J) ∧ (∀ c', c' ≠ c → c' ≠ c + 1 → I' c' = I c') ∧ (∀ q, I' (c + 1) q = if q = j then x else I (c + 1) q) ∧ ((I' c = I c ∧ (I (c + 1) j = x ∨ j = 6 ∨ j = 9)) ∨ I' c 1 = 0) := by
  unfold f_X1_put
  rcases win (nI j) (x := 0) (y := 12) (lo := 0) (hi := 12) rfl rfl (by omega) (by omega) with ⟨-, -, -, -, e⟩ | e
  · rw [e]
    simp only [bo1_s, one0, ↓reduceIte, inbI hj (by omega), chk_t, nI_clamp (show j < 2 ^ 31 by omega), bnd]
    have h1 : ∀ c', c' ≠ c → c' ≠ c + 1 → w2 I (c + 1) j x c' = I c' := fun c' _ h => w2n h
    have h2 : ∀ q, w2 I (c + 1) j x (c + 1) q = if q = j then x else I (c + 1) q := fun q => w2c q
    by_cases e1 : I (c + 1) j = x
    · rw [if_pos e1]
      refine ⟨I, rfl, fun _ _ _ => rfl, fun q => ?_, Or.inl ⟨rfl, Or.inl e1⟩⟩
      by_cases e2 : q = j
      · rw [if_pos e2, e2, e1]
      · rw [if_neg e2]
    · rw [if_neg e1]
      by_cases e6 : j = 6
      · subst e6
        rw [if_pos (show nI 6 = (6 : Int32) from rfl)]
        exact ⟨_, rfl, h1, h2, Or.inl ⟨w2n (by omega), Or.inr (Or.inl rfl)⟩⟩
      · rw [if_neg (show ¬ nI j = (6 : Int32) from fun z => e6 ((nI_eq (b := 6) (by omega) (by omega)).mp z))]
        by_cases e9 : j = 9
        · subst e9
          rw [if_pos (show nI 9 = (9 : Int32) from rfl)]
          exact ⟨_, rfl, h1, h2, Or.inl ⟨w2n (by omega), Or.inr (Or.inr rfl)⟩⟩
        · rw [if_neg (show ¬ nI j = (9 : Int32) from fun z => e9 ((nI_eq (b := 9) (by omega) (by omega)).mp z))]
          refine ⟨_, rfl, fun c' a b => ?_, fun q => ?_, Or.inr w2k⟩
          · rw [w2n a, w2n b]
          · rw [w2n (by omega)]; exact h2 q
  · exact absurd rfl (win_not (lo := 0) (hi := 12) rfl rfl (by omega) (by omega) e (by omega) (show j ≤ 12 by omega))
theorem put_ok {c j v : Nat} {I : MI} {J : MJ} {T : Nat → Nat} (hj : j < 13) (hv : v < 2 ^ 31) (hT : ∀ q, q < 13 → I (c + 1) q = nI (T q)) (hb : T j < 2 ^ 31) (hC : CK (I c) T) : ∃ I' : MI, f_X1_put c I J (nI j) (nI v) = some (I', J) ∧ (∀ c', c' ≠ c → c' ≠ c + 1 → I' c' = I c') ∧ (∀ q, q < 13 → I' (c + 1) q = nI (un T j v q)) ∧ CK (I' c) (un T j v) := by
  obtain ⟨I', e1, e2, e3, e4⟩ := put_raw (c := c) (x := nI v) (I := I) (J := J) hj
  refine ⟨I', e1, e2, fun q hq => ?_, ?_⟩
  · rw [e3 q]
    unfold un
    by_cases e : q = j
    · rw [if_pos e, if_pos e]
    · rw [if_neg e, if_neg e, hT q hq]
  · rcases e4 with ⟨a, b⟩ | a
    · rw [a]
      have : bt (un T j v) = bt T ∧ un T j v 1 = T 1 := by
        rcases b with b | b
        · rw [hT j hj, nI_eq hb hv] at b
          have : un T j v = T := by
            funext q
            unfold un
            by_cases e : q = j
            · rw [if_pos e, e, b]
            · rw [if_neg e]
          rw [this]; exact ⟨rfl, rfl⟩
        · exact ⟨bt_air b, if_neg (by omega)⟩
      unfold CK
      rw [this.1, this.2]; exact hC
    · exact Or.inl a
def uT (T : Nat → Nat → Nat) (i : Nat) (t : Nat → Nat) : Nat → Nat → Nat := fun a => if a = i then t else T a
theorem RR.upd {n i : Nat} {T : Nat → Nat → Nat} {t : Nat → Nat} {IB IM IB' IM' : MI} (h : RR n T IB IM) (hi : i < n) (h0 : IB' 0 1 = IB 0 1) (hc : ∀ c, 2 ≤ c → c < 10 → c ≠ 2 + 2 * i → c ≠ 2 + 2 * i + 1 → IB' c = IB c) (ht : TV (IB' (2 + 2 * i + 1)) t) (hk : CK (IB' (2 + 2 * i)) t) (m0 : IM' 0 2 = IM 0 2) (m1 : ∀ q, (q < 13 * i ∨ 13 * i + 13 ≤ q) → IM' 1 q = IM 1 q) (m2 : ∀ j, j < 13 → IM' 1 (13 * i + j) = nI (t j)) : RR n (uT T i t) IB' IM' := by
  obtain ⟨r1, r2, r3, r4, r5⟩ := h
  refine ⟨h0.trans r1, m0.trans r2, r3, fun a ha => ?_, fun a h1 h2 => ?_⟩
  · unfold uT
    by_cases e : a = i
    · subst e
      rw [if_pos rfl]
      exact ⟨ht, m2, hk⟩
    · rw [if_neg e, hc (2 + 2 * a) (by omega) (by omega) (by omega) (by omega), hc (2 + 2 * a + 1) (by omega) (by omega) (by omega) (by omega)]
      refine ⟨(r4 a ha).1, fun j hj => ?_, (r4 a ha).2.2⟩
      rw [m1 _ (by omega)]
      exact (r4 a ha).2.1 j hj
  · rw [hc (2 + 2 * a) (by omega) (by omega) (by omega) (by omega), hc (2 + 2 * a + 1) (by omega) (by omega) (by omega) (by omega)]
    exact r5 a h1 h2
theorem RR.st {n i : Nat} {T : Nat → Nat → Nat} {IB IM IB' : MI} (h : RR n T IB IM) (hi : i < n) (s : ST (2 + 2 * i) (T i) IB IB') : RR n T IB' IM := by
  have hn := h.2.2.1
  have := h.upd (t := T i) (IM' := IM) hi (by rw [s.1 0 (by omega)]) (fun c h1 h2 h3 h4 => s.1 c h3) (s.tv (h.2.2.2.1 i hi).1) s.ck rfl (fun _ _ => rfl) (h.2.2.2.1 i hi).2.1
  have e : uT T i (T i) = T := by
    funext a
    unfold uT
    by_cases e : a = i
    · rw [if_pos e, e]
    · rw [if_neg e]
  rw [e] at this
  exact this
/-- a Ram has been reckoned: the relation stays -/
theorem ramc_ne {i : Nat} (h : i < 4) (L : List Nat) (hL : L.all (fun c => c < 2 || 10 ≤ c) = true) : 2 + 2 * i ∉ L ∧ 2 + 2 * i + 1 ∉ L := by
  refine ⟨fun z => ?_, fun z => ?_⟩
  · have := List.all_eq_true.mp hL _ z
    simp at this
    omega
  · have := List.all_eq_true.mp hL _ z
    simp at this
    omega
theorem ramp_ne {i : Nat} (h : i < 4) (L : List (Nat × Nat)) (hL : L.all (fun p => p.1 < 2 || 10 ≤ p.1) = true) : ∀ p ∈ L, p.1 ≠ 2 + 2 * i ∧ p.1 ≠ 2 + 2 * i + 1 := by
  intro p hp
  have := List.all_eq_true.mp hL _ hp
  simp at this
  omega
/-- only the cells of Ram i change -/
theorem AG.ram {cs : List Nat} {fs : List (Nat × Nat)} {I I' : MI} {i : Nat} (hi : i < 4) (h : ∀ c', c' ≠ 2 + 2 * i → c' ≠ 2 + 2 * i + 1 → I' c' = I c') (h1 : cs.all (fun c => c < 2 || 10 ≤ c) = true) (h2 : fs.all (fun p => p.1 < 2 || 10 ≤ p.1) = true) : AG cs fs I I' :=
  ⟨fun c hc => h c (fun e => (ramc_ne hi cs h1).1 (e ▸ hc)) (fun e => (ramc_ne hi cs h1).2 (e ▸ hc)), fun p hp => by rw [h p.1 (ramp_ne hi fs h2 p hp).1 (ramp_ne hi fs h2 p hp).2]⟩
theorem REL.st {n i : Nat} {T : Nat → Nat → Nat} {IB IM IB' : MI} {JB JM : MJ} (h : REL IB JB IM JM) (hr : RR n T IB IM) (hi : i < n) (s : ST (2 + 2 * i) (T i) IB IB') : REL IB' JB IM JM :=
  h.setR (AG.ram (i := i) (by have := hr.2.2.1; omega) (fun c' h1 _ => s.1 c' h1) (by decide) (by decide)) (AG.rf _) (AJ.rf _) (AJ.rf _) ⟨n, T, hr.st hi s⟩
/-- the reference's scratch -/
theorem mA_SM {I I' : MI} (s : SM I I') : mA I I' := ⟨fun c hc => s.1 c (fun e => by subst e; exact absurd hc (by decide)), fun p hp => by
  have h0 : p.1 = 0 ∧ p.2 ≠ 5 ∧ p.2 ≠ 9 := by
    exact (by decide : ∀ p ∈ ([(0, 2), (0, 12), (0, 13), (0, 14), (0, 17), (0, 18), (0, 20), (0, 21), (0, 27), (0, 28), (0, 29), (0, 31), (0, 35), (0, 36)] : List (Nat × Nat)), p.1 = 0 ∧ p.2 ≠ 5 ∧ p.2 ≠ 9) p hp
  rw [h0.1]; exact s.2 p.2 h0.2.1 h0.2.2⟩
theorem mJA_SJ {I I' : MJ} (s : SJ I I') : mJA I I' := ⟨fun c hc => s.1 c (fun e => by subst e; exact absurd hc (by decide)), fun p hp => by
  have h0 : p = (0, 1) := by simpa using hp
  subst h0; exact s.2 1 (by decide) (by decide) (by decide)⟩
theorem mA_now {I I' : MI} (s : ∀ c', c' ≠ 2 → I' c' = I c') : mA I I' := AG.one s (by decide) (by decide)
theorem takesT {n i : Nat} {T : Nat → Nat → Nat} {IB IM : MI} {JM : MJ} (hr : RR n T IB IM) (hi : i < n) : ∃ I' : MI, f_X8_takes IM JM (nI i) = some (I', JM) ∧ mA IM I' ∧ TV (I' 2) (T i) := by
  obtain ⟨I', e1, e2, e3⟩ := takes_ok (i := i) (by have := hr.2.2.1; omega) IM JM
  exact ⟨I', e1, mA_now e2, fun j hj => by rw [e3 j hj]; exact (hr.2.2.2.1 i hi).2.1 j hj, (hr.2.2.2.1 i hi).1.2⟩

def okV (T : Nat → Nat) (j v : Nat) : Prop := tlo j ≤ v ∧ v ≤ thi j ∧ (j = 0 → v < T 1) ∧ (j = 1 → T 0 < v)
set_option maxHeartbeats 1000000 in
theorem isValue_ok {n i j : Nat} {T : Nat → Nat → Nat} {IB IM : MI} {JM : MJ} (hr : RR n T IB IM) (hi : i < n) (hj : j < 13) (a : Int32) : (∃ v : Nat, okV (T i) j v ∧ a = nI v ∧ f_X8_isValue IM JM (13 * nI i) (nI j) a = some 1) ∨ (f_X8_isValue IM JM (13 * nI i) (nI j) a = some 0 ∧ ∀ v : Nat, v ≤ 1000000 → okV (T i) j v → a ≠ nI v) := by
  have hn := hr.2.2.1
  have r4 := hr.2.2.2.1 i hi
  have m0 : IM 1 (13 * i) = nI (T i 0) := r4.2.1 0 (by omega)
  have m1 : IM 1 (13 * i + 1) = nI (T i 1) := r4.2.1 1 (by omega)
  have hb := r4.1.2
  unfold TO at hb
  have e13 : (13 : Int32) * nI i = nI (13 * i) := pk_mul 13 i
  have key : ∀ (lo hi' : Nat) (x y : Int32), x = nI lo → y = nI hi' → lo ≤ 1001 → hi' ≤ 1000 → (∀ v, v ≤ 1000000 → (okV (T i) j v ↔ lo ≤ v ∧ v ≤ hi')) → f_X8_isValue IM JM (nI (13 * i)) (nI j) a = (bo1 (f_X7_within a x y) fun r => chk (isB r) (some r)) → (∃ v : Nat, okV (T i) j v ∧ a = nI v ∧ f_X8_isValue IM JM (nI (13 * i)) (nI j) a = some 1) ∨ (f_X8_isValue IM JM (nI (13 * i)) (nI j) a = some 0 ∧ ∀ v : Nat, v ≤ 1000000 → okV (T i) j v → a ≠ nI v) := by
    intro lo hi' x y hx hy hl hh hok he
    rw [he]
    rcases win a hx hy (by omega) (by omega) with ⟨v, h1, h2, h3, e⟩ | e
    · rw [e]; exact Or.inl ⟨v, (hok v (by omega)).mpr ⟨h1, h2⟩, h3, rfl⟩
    · rw [e]; exact Or.inr ⟨rfl, fun v hv h => win_not hx hy (by omega) (by omega) e ((hok v hv).mp h).1 ((hok v hv).mp h).2⟩
  rw [e13]
  rcases (show j = 0 ∨ j = 1 ∨ j = 2 ∨ j = 3 ∨ j = 4 ∨ j = 5 ∨ j = 6 ∨ j = 7 ∨ j = 8 ∨ j = 9 ∨ j = 10 ∨ j = 11 ∨ j = 12 by omega) with rfl | rfl | rfl | rfl | rfl | rfl | rfl | rfl | rfl | rfl | rfl | rfl | rfl
  · unfold f_X8_isValue
    rw [if_pos (show nI 0 = (0 : Int32) from rfl), in_wi, show nI (13 * i) + (1 : Int32) = nI (13 * i + 1) from nI_1 _, inbI (by omega) (by omega), nI_clamp (by omega), m1]
    simp only [chk_t]
    rcases win a (x := 5) (y := 200) (lo := 5) (hi := 200) rfl rfl (by omega) (by omega) with ⟨v, h1, h2, rfl, e⟩ | e
    · rw [e]
      simp only [bo1_s, one0, ↓reduceIte]
      by_cases hx : T i 1 ≤ v
      · rw [if_pos (nI_le hx (by omega))]
        refine Or.inr ⟨rfl, fun w hw hok q => ?_⟩
        have := (nI_eq (by omega) (by omega)).mp q
        have := hok.2.2.1 rfl
        omega
      · rw [if_neg (nI_ge (by omega) (by omega))]
        exact Or.inl ⟨v, ⟨h1, h2, fun _ => by omega, fun z => by omega⟩, rfl, rfl⟩
    · rw [e]
      exact Or.inr ⟨rfl, fun w hw hok => win_not (lo := 5) (hi := 200) rfl rfl (by omega) (by omega) e hok.1 hok.2.1⟩
  · refine key (T i 0 + 1) 1000 (nI (T i 0) + 1) 1000 (nI_1 _) rfl (by omega) (by omega) (fun v hv => ⟨fun h => ⟨by have := h.2.2.2 rfl; omega, h.2.1⟩, fun h => ⟨show 6 ≤ v by omega, h.2, fun z => by omega, fun _ => by omega⟩⟩) ?_
    unfold f_X8_isValue
    rw [if_neg (show ¬ nI 1 = (0 : Int32) by decide), if_pos (show nI 1 = (1 : Int32) from rfl), in_wi, show nI (13 * i) + (0 : Int32) = nI (13 * i) from by rw [show (0 : Int32) = nI 0 from rfl, nI_add, Nat.add_zero], inbI (by omega) (by omega), nI_clamp (by omega), m0, chk_t]
  · refine key 20 900 20 900 rfl rfl (by omega) (by omega) (fun v hv => ⟨fun h => ⟨h.1, h.2.1⟩, fun h => ⟨h.1, h.2, fun z => by omega, fun z => by omega⟩⟩) ?_
    unfold f_X8_isValue
    rw [if_neg (show ¬ nI 2 = (0 : Int32) by decide), if_neg (show ¬ nI 2 = (1 : Int32) by decide), if_pos (show nI 2 = (2 : Int32) from rfl), in_wi]
  · refine key 1 9 1 9 rfl rfl (by omega) (by omega) (fun v hv => ⟨fun h => ⟨h.1, h.2.1⟩, fun h => ⟨h.1, h.2, fun z => by omega, fun z => by omega⟩⟩) ?_
    unfold f_X8_isValue
    rw [if_neg (show ¬ nI 3 = (0 : Int32) by decide), if_neg (show ¬ nI 3 = (1 : Int32) by decide), if_neg (show ¬ nI 3 = (2 : Int32) by decide), if_pos (show nI 3 = (3 : Int32) from rfl), in_wi]
  · refine key 5 400 5 400 rfl rfl (by omega) (by omega) (fun v hv => ⟨fun h => ⟨h.1, h.2.1⟩, fun h => ⟨h.1, h.2, fun z => by omega, fun z => by omega⟩⟩) ?_
    unfold f_X8_isValue
    rw [if_neg (show ¬ nI 4 = (0 : Int32) by decide), if_neg (show ¬ nI 4 = (1 : Int32) by decide), if_neg (show ¬ nI 4 = (2 : Int32) by decide), if_neg (show ¬ nI 4 = (3 : Int32) by decide), if_pos (show nI 4 = (4 : Int32) from rfl), in_wi]
  · refine key 1 9 1 9 rfl rfl (by omega) (by omega) (fun v hv => ⟨fun h => ⟨h.1, h.2.1⟩, fun h => ⟨h.1, h.2, fun z => by omega, fun z => by omega⟩⟩) ?_
    unfold f_X8_isValue
    rw [if_neg (show ¬ nI 5 = (0 : Int32) by decide), if_neg (show ¬ nI 5 = (1 : Int32) by decide), if_neg (show ¬ nI 5 = (2 : Int32) by decide), if_neg (show ¬ nI 5 = (3 : Int32) by decide), if_neg (show ¬ nI 5 = (4 : Int32) by decide), if_pos (show nI 5 = (5 : Int32) from rfl), in_wi]
  · refine key 0 100 0 100 rfl rfl (by omega) (by omega) (fun v hv => ⟨fun h => ⟨h.1, h.2.1⟩, fun h => ⟨h.1, h.2, fun z => by omega, fun z => by omega⟩⟩) ?_
    unfold f_X8_isValue
    rw [if_neg (show ¬ nI 6 = (0 : Int32) by decide), if_neg (show ¬ nI 6 = (1 : Int32) by decide), if_neg (show ¬ nI 6 = (2 : Int32) by decide), if_neg (show ¬ nI 6 = (3 : Int32) by decide), if_neg (show ¬ nI 6 = (4 : Int32) by decide), if_neg (show ¬ nI 6 = (5 : Int32) by decide), if_pos (show nI 6 = (6 : Int32) from rfl), in_wi]
  · refine key 0 3 0 3 rfl rfl (by omega) (by omega) (fun v hv => ⟨fun h => ⟨h.1, h.2.1⟩, fun h => ⟨h.1, h.2, fun z => by omega, fun z => by omega⟩⟩) ?_
    unfold f_X8_isValue
    rw [if_neg (show ¬ nI 7 = (0 : Int32) by decide), if_neg (show ¬ nI 7 = (1 : Int32) by decide), if_neg (show ¬ nI 7 = (2 : Int32) by decide), if_neg (show ¬ nI 7 = (3 : Int32) by decide), if_neg (show ¬ nI 7 = (4 : Int32) by decide), if_neg (show ¬ nI 7 = (5 : Int32) by decide), if_neg (show ¬ nI 7 = (6 : Int32) by decide), if_pos (show nI 7 = (7 : Int32) from rfl), in_wi]
  · refine key 0 3 0 3 rfl rfl (by omega) (by omega) (fun v hv => ⟨fun h => ⟨h.1, h.2.1⟩, fun h => ⟨h.1, h.2, fun z => by omega, fun z => by omega⟩⟩) ?_
    unfold f_X8_isValue
    rw [if_neg (show ¬ nI 8 = (0 : Int32) by decide), if_neg (show ¬ nI 8 = (1 : Int32) by decide), if_neg (show ¬ nI 8 = (2 : Int32) by decide), if_neg (show ¬ nI 8 = (3 : Int32) by decide), if_neg (show ¬ nI 8 = (4 : Int32) by decide), if_neg (show ¬ nI 8 = (5 : Int32) by decide), if_neg (show ¬ nI 8 = (6 : Int32) by decide), if_neg (show ¬ nI 8 = (7 : Int32) by decide), if_pos (show nI 8 = (8 : Int32) from rfl), in_wi]
  · refine key 0 3 0 3 rfl rfl (by omega) (by omega) (fun v hv => ⟨fun h => ⟨h.1, h.2.1⟩, fun h => ⟨h.1, h.2, fun z => by omega, fun z => by omega⟩⟩) ?_
    unfold f_X8_isValue
    rw [if_neg (show ¬ nI 9 = (0 : Int32) by decide), if_neg (show ¬ nI 9 = (1 : Int32) by decide), if_neg (show ¬ nI 9 = (2 : Int32) by decide), if_neg (show ¬ nI 9 = (3 : Int32) by decide), if_neg (show ¬ nI 9 = (4 : Int32) by decide), if_neg (show ¬ nI 9 = (5 : Int32) by decide), if_neg (show ¬ nI 9 = (6 : Int32) by decide), if_neg (show ¬ nI 9 = (7 : Int32) by decide), if_neg (show ¬ nI 9 = (8 : Int32) by decide), if_pos (show nI 9 = (9 : Int32) from rfl), in_wi]
  · refine key 0 2 0 2 rfl rfl (by omega) (by omega) (fun v hv => ⟨fun h => ⟨h.1, h.2.1⟩, fun h => ⟨h.1, h.2, fun z => by omega, fun z => by omega⟩⟩) ?_
    unfold f_X8_isValue
    rw [if_neg (show ¬ nI 10 = (0 : Int32) by decide), if_neg (show ¬ nI 10 = (1 : Int32) by decide), if_neg (show ¬ nI 10 = (2 : Int32) by decide), if_neg (show ¬ nI 10 = (3 : Int32) by decide), if_neg (show ¬ nI 10 = (4 : Int32) by decide), if_neg (show ¬ nI 10 = (5 : Int32) by decide), if_neg (show ¬ nI 10 = (6 : Int32) by decide), if_neg (show ¬ nI 10 = (7 : Int32) by decide), if_neg (show ¬ nI 10 = (8 : Int32) by decide), if_neg (show ¬ nI 10 = (9 : Int32) by decide), if_pos (show nI 10 = (10 : Int32) from rfl), in_wi]
  · refine key 0 1 0 1 rfl rfl (by omega) (by omega) (fun v hv => ⟨fun h => ⟨h.1, h.2.1⟩, fun h => ⟨h.1, h.2, fun z => by omega, fun z => by omega⟩⟩) ?_
    unfold f_X8_isValue
    rw [if_neg (show ¬ nI 11 = (0 : Int32) by decide), if_neg (show ¬ nI 11 = (1 : Int32) by decide), if_neg (show ¬ nI 11 = (2 : Int32) by decide), if_neg (show ¬ nI 11 = (3 : Int32) by decide), if_neg (show ¬ nI 11 = (4 : Int32) by decide), if_neg (show ¬ nI 11 = (5 : Int32) by decide), if_neg (show ¬ nI 11 = (6 : Int32) by decide), if_neg (show ¬ nI 11 = (7 : Int32) by decide), if_neg (show ¬ nI 11 = (8 : Int32) by decide), if_neg (show ¬ nI 11 = (9 : Int32) by decide), if_neg (show ¬ nI 11 = (10 : Int32) by decide), in_wi]
  · refine key 0 1 0 1 rfl rfl (by omega) (by omega) (fun v hv => ⟨fun h => ⟨h.1, h.2.1⟩, fun h => ⟨h.1, h.2, fun z => by omega, fun z => by omega⟩⟩) ?_
    unfold f_X8_isValue
    rw [if_neg (show ¬ nI 12 = (0 : Int32) by decide), if_neg (show ¬ nI 12 = (1 : Int32) by decide), if_neg (show ¬ nI 12 = (2 : Int32) by decide), if_neg (show ¬ nI 12 = (3 : Int32) by decide), if_neg (show ¬ nI 12 = (4 : Int32) by decide), if_neg (show ¬ nI 12 = (5 : Int32) by decide), if_neg (show ¬ nI 12 = (6 : Int32) by decide), if_neg (show ¬ nI 12 = (7 : Int32) by decide), if_neg (show ¬ nI 12 = (8 : Int32) by decide), if_neg (show ¬ nI 12 = (9 : Int32) by decide), if_neg (show ¬ nI 12 = (10 : Int32) by decide), in_wi]
