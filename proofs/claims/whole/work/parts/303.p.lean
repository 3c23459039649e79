/-! what stays: cells and single places of a table -/
def AG (cs : List Nat) (fs : List (Nat × Nat)) (I I' : MI) : Prop := (∀ c ∈ cs, I' c = I c) ∧ ∀ p ∈ fs, I' p.1 p.2 = I p.1 p.2
theorem AG.rf {cs : List Nat} {fs : List (Nat × Nat)} (I : MI) : AG cs fs I I := ⟨fun _ _ => rfl, fun _ _ => rfl⟩
theorem AG.tr {cs : List Nat} {fs : List (Nat × Nat)} {I I' I'' : MI} (h : AG cs fs I I') (h2 : AG cs fs I' I'') : AG cs fs I I'' := ⟨fun c hc => (h2.1 c hc).trans (h.1 c hc), fun p hp => (h2.2 p hp).trans (h.2 p hp)⟩
theorem AG.sub {cs cs' : List Nat} {fs fs' : List (Nat × Nat)} {I I' : MI} (h : AG cs fs I I') (h1 : cs' ⊆ cs) (h2 : fs' ⊆ fs) : AG cs' fs' I I' := ⟨fun c hc => h.1 c (h1 hc), fun p hp => h.2 p (h2 hp)⟩
theorem AG.w2 {cs : List Nat} {fs : List (Nat × Nat)} {I : MI} {c k : Nat} {x : Int32} (h1 : c ∉ cs) (h2 : (c, k) ∉ fs) : AG cs fs I (w2 I c k x) := by
  refine ⟨fun c' hc => w2n (fun e => h1 (e ▸ hc)), fun p hp => ?_⟩
  by_cases e : p.1 = c
  · have e2 : p.2 ≠ k := fun e2 => h2 (by rw [← e, ← e2]; exact hp)
    subst e
    exact w2j e2
  · rw [w2n e]
/-- only cell c changes -/
theorem AG.one {cs : List Nat} {fs : List (Nat × Nat)} {I I' : MI} {c : Nat} (h : ∀ c', c' ≠ c → I' c' = I c') (h1 : c ∉ cs) (h2 : ∀ p ∈ fs, p.1 ≠ c) : AG cs fs I I' := ⟨fun c' hc => h c' (fun e => h1 (e ▸ hc)), fun p hp => by rw [h p.1 (h2 p hp)]⟩
def AJ (cs : List Nat) (fs : List (Nat × Nat)) (I I' : MJ) : Prop := (∀ c ∈ cs, I' c = I c) ∧ ∀ p ∈ fs, I' p.1 p.2 = I p.1 p.2
theorem AJ.rf {cs : List Nat} {fs : List (Nat × Nat)} (I : MJ) : AJ cs fs I I := ⟨fun _ _ => rfl, fun _ _ => rfl⟩
theorem AJ.tr {cs : List Nat} {fs : List (Nat × Nat)} {I I' I'' : MJ} (h : AJ cs fs I I') (h2 : AJ cs fs I' I'') : AJ cs fs I I'' := ⟨fun c hc => (h2.1 c hc).trans (h.1 c hc), fun p hp => (h2.2 p hp).trans (h.2 p hp)⟩
theorem AJ.sub {cs cs' : List Nat} {fs fs' : List (Nat × Nat)} {I I' : MJ} (h : AJ cs fs I I') (h1 : cs' ⊆ cs) (h2 : fs' ⊆ fs) : AJ cs' fs' I I' := ⟨fun c hc => h.1 c (h1 hc), fun p hp => h.2 p (h2 hp)⟩
theorem AJ.w2 {cs : List Nat} {fs : List (Nat × Nat)} {I : MJ} {c k : Nat} {x : Int64} (h1 : c ∉ cs) (h2 : (c, k) ∉ fs) : AJ cs fs I (w2J I c k x) := by
  refine ⟨fun c' hc => w2Jn (fun e => h1 (e ▸ hc)), fun p hp => ?_⟩
  by_cases e : p.1 = c
  · have e2 : p.2 ≠ k := fun e2 => h2 (by rw [← e, ← e2]; exact hp)
    subst e
    exact w2Jj e2
  · rw [w2Jn e]

abbrev bR : MI → MI → Prop := AG [2, 3, 4, 5, 6, 7, 8, 9] [(0, 1)]
abbrev bS : MI → MI → Prop := AG [13, 14] [(12, 2), (12, 3)]
abbrev bT : MI → MI → Prop := AG [16, 17] [(15, 2), (18, 0), (18, 7), (18, 14), (18, 21), (19, 0), (19, 7), (19, 14), (19, 21)]
abbrev bK : MI → MI → Prop := AG [] [(24, 0), (24, 1)]
abbrev bD : MI → MI → Prop := AG [21] [(20, 1)]
abbrev bQ : MI → MI → Prop := AG [22] [(20, 2)]
abbrev bN : MI → MI → Prop := AG [] [(0, 9), (0, 10), (0, 11)]
abbrev bG : MI → MI → Prop := AG [27, 28, 29] [(26, 3), (26, 4), (26, 5)]
abbrev bA : MI → MI → Prop := AG [2, 3, 4, 5, 6, 7, 8, 9, 13, 14, 16, 17, 21, 22, 27, 28, 29] [(0, 1), (12, 2), (12, 3), (15, 2), (18, 0), (18, 7), (18, 14), (18, 21), (19, 0), (19, 7), (19, 14), (19, 21), (24, 0), (24, 1), (20, 1), (20, 2), (0, 9), (0, 10), (0, 11), (26, 3), (26, 4), (26, 5)]
abbrev bAR : MI → MI → Prop := AG [13, 14, 16, 17, 21, 22, 27, 28, 29] [(12, 2), (12, 3), (15, 2), (18, 0), (18, 7), (18, 14), (18, 21), (19, 0), (19, 7), (19, 14), (19, 21), (24, 0), (24, 1), (20, 1), (20, 2), (0, 9), (0, 10), (0, 11), (26, 3), (26, 4), (26, 5)]
abbrev bAS : MI → MI → Prop := AG [2, 3, 4, 5, 6, 7, 8, 9, 16, 17, 21, 22, 27, 28, 29] [(0, 1), (15, 2), (18, 0), (18, 7), (18, 14), (18, 21), (19, 0), (19, 7), (19, 14), (19, 21), (24, 0), (24, 1), (20, 1), (20, 2), (0, 9), (0, 10), (0, 11), (26, 3), (26, 4), (26, 5)]
abbrev bAT : MI → MI → Prop := AG [2, 3, 4, 5, 6, 7, 8, 9, 13, 14, 21, 22, 27, 28, 29] [(0, 1), (12, 2), (12, 3), (24, 0), (24, 1), (20, 1), (20, 2), (0, 9), (0, 10), (0, 11), (26, 3), (26, 4), (26, 5)]
abbrev bAK : MI → MI → Prop := AG [2, 3, 4, 5, 6, 7, 8, 9, 13, 14, 16, 17, 21, 22, 27, 28, 29] [(0, 1), (12, 2), (12, 3), (15, 2), (18, 0), (18, 7), (18, 14), (18, 21), (19, 0), (19, 7), (19, 14), (19, 21), (20, 1), (20, 2), (0, 9), (0, 10), (0, 11), (26, 3), (26, 4), (26, 5)]
abbrev bAD : MI → MI → Prop := AG [2, 3, 4, 5, 6, 7, 8, 9, 13, 14, 16, 17, 22, 27, 28, 29] [(0, 1), (12, 2), (12, 3), (15, 2), (18, 0), (18, 7), (18, 14), (18, 21), (19, 0), (19, 7), (19, 14), (19, 21), (24, 0), (24, 1), (20, 2), (0, 9), (0, 10), (0, 11), (26, 3), (26, 4), (26, 5)]
abbrev bAQ : MI → MI → Prop := AG [2, 3, 4, 5, 6, 7, 8, 9, 13, 14, 16, 17, 21, 27, 28, 29] [(0, 1), (12, 2), (12, 3), (15, 2), (18, 0), (18, 7), (18, 14), (18, 21), (19, 0), (19, 7), (19, 14), (19, 21), (24, 0), (24, 1), (20, 1), (0, 9), (0, 10), (0, 11), (26, 3), (26, 4), (26, 5)]
abbrev bAN : MI → MI → Prop := AG [2, 3, 4, 5, 6, 7, 8, 9, 13, 14, 16, 17, 21, 22, 27, 28, 29] [(0, 1), (12, 2), (12, 3), (15, 2), (18, 0), (18, 7), (18, 14), (18, 21), (19, 0), (19, 7), (19, 14), (19, 21), (24, 0), (24, 1), (20, 1), (20, 2), (26, 3), (26, 4), (26, 5)]
abbrev bAG : MI → MI → Prop := AG [2, 3, 4, 5, 6, 7, 8, 9, 13, 14, 16, 17, 21, 22] [(0, 1), (12, 2), (12, 3), (15, 2), (18, 0), (18, 7), (18, 14), (18, 21), (19, 0), (19, 7), (19, 14), (19, 21), (24, 0), (24, 1), (20, 1), (20, 2), (0, 9), (0, 10), (0, 11)]
theorem bA.R {I I' : MI} (h : bA I I') : bR I I' := AG.sub h (by decide) (by decide)
theorem bAS.R {I I' : MI} (h : bAS I I') : bR I I' := AG.sub h (by decide) (by decide)
theorem bAT.R {I I' : MI} (h : bAT I I') : bR I I' := AG.sub h (by decide) (by decide)
theorem bAK.R {I I' : MI} (h : bAK I I') : bR I I' := AG.sub h (by decide) (by decide)
theorem bAD.R {I I' : MI} (h : bAD I I') : bR I I' := AG.sub h (by decide) (by decide)
theorem bAQ.R {I I' : MI} (h : bAQ I I') : bR I I' := AG.sub h (by decide) (by decide)
theorem bAN.R {I I' : MI} (h : bAN I I') : bR I I' := AG.sub h (by decide) (by decide)
theorem bAG.R {I I' : MI} (h : bAG I I') : bR I I' := AG.sub h (by decide) (by decide)
theorem bA.S {I I' : MI} (h : bA I I') : bS I I' := AG.sub h (by decide) (by decide)
theorem bAR.S {I I' : MI} (h : bAR I I') : bS I I' := AG.sub h (by decide) (by decide)
theorem bAT.S {I I' : MI} (h : bAT I I') : bS I I' := AG.sub h (by decide) (by decide)
theorem bAK.S {I I' : MI} (h : bAK I I') : bS I I' := AG.sub h (by decide) (by decide)
theorem bAD.S {I I' : MI} (h : bAD I I') : bS I I' := AG.sub h (by decide) (by decide)
theorem bAQ.S {I I' : MI} (h : bAQ I I') : bS I I' := AG.sub h (by decide) (by decide)
theorem bAN.S {I I' : MI} (h : bAN I I') : bS I I' := AG.sub h (by decide) (by decide)
theorem bAG.S {I I' : MI} (h : bAG I I') : bS I I' := AG.sub h (by decide) (by decide)
theorem bA.T {I I' : MI} (h : bA I I') : bT I I' := AG.sub h (by decide) (by decide)
theorem bAR.T {I I' : MI} (h : bAR I I') : bT I I' := AG.sub h (by decide) (by decide)
theorem bAS.T {I I' : MI} (h : bAS I I') : bT I I' := AG.sub h (by decide) (by decide)
theorem bAK.T {I I' : MI} (h : bAK I I') : bT I I' := AG.sub h (by decide) (by decide)
theorem bAD.T {I I' : MI} (h : bAD I I') : bT I I' := AG.sub h (by decide) (by decide)
theorem bAQ.T {I I' : MI} (h : bAQ I I') : bT I I' := AG.sub h (by decide) (by decide)
theorem bAN.T {I I' : MI} (h : bAN I I') : bT I I' := AG.sub h (by decide) (by decide)
theorem bAG.T {I I' : MI} (h : bAG I I') : bT I I' := AG.sub h (by decide) (by decide)
theorem bA.K {I I' : MI} (h : bA I I') : bK I I' := AG.sub h (by decide) (by decide)
theorem bAR.K {I I' : MI} (h : bAR I I') : bK I I' := AG.sub h (by decide) (by decide)
theorem bAS.K {I I' : MI} (h : bAS I I') : bK I I' := AG.sub h (by decide) (by decide)
theorem bAT.K {I I' : MI} (h : bAT I I') : bK I I' := AG.sub h (by decide) (by decide)
theorem bAD.K {I I' : MI} (h : bAD I I') : bK I I' := AG.sub h (by decide) (by decide)
theorem bAQ.K {I I' : MI} (h : bAQ I I') : bK I I' := AG.sub h (by decide) (by decide)
theorem bAN.K {I I' : MI} (h : bAN I I') : bK I I' := AG.sub h (by decide) (by decide)
theorem bAG.K {I I' : MI} (h : bAG I I') : bK I I' := AG.sub h (by decide) (by decide)
theorem bA.D {I I' : MI} (h : bA I I') : bD I I' := AG.sub h (by decide) (by decide)
theorem bAR.D {I I' : MI} (h : bAR I I') : bD I I' := AG.sub h (by decide) (by decide)
theorem bAS.D {I I' : MI} (h : bAS I I') : bD I I' := AG.sub h (by decide) (by decide)
theorem bAT.D {I I' : MI} (h : bAT I I') : bD I I' := AG.sub h (by decide) (by decide)
theorem bAK.D {I I' : MI} (h : bAK I I') : bD I I' := AG.sub h (by decide) (by decide)
theorem bAQ.D {I I' : MI} (h : bAQ I I') : bD I I' := AG.sub h (by decide) (by decide)
theorem bAN.D {I I' : MI} (h : bAN I I') : bD I I' := AG.sub h (by decide) (by decide)
theorem bAG.D {I I' : MI} (h : bAG I I') : bD I I' := AG.sub h (by decide) (by decide)
theorem bA.Q {I I' : MI} (h : bA I I') : bQ I I' := AG.sub h (by decide) (by decide)
theorem bAR.Q {I I' : MI} (h : bAR I I') : bQ I I' := AG.sub h (by decide) (by decide)
theorem bAS.Q {I I' : MI} (h : bAS I I') : bQ I I' := AG.sub h (by decide) (by decide)
theorem bAT.Q {I I' : MI} (h : bAT I I') : bQ I I' := AG.sub h (by decide) (by decide)
theorem bAK.Q {I I' : MI} (h : bAK I I') : bQ I I' := AG.sub h (by decide) (by decide)
theorem bAD.Q {I I' : MI} (h : bAD I I') : bQ I I' := AG.sub h (by decide) (by decide)
theorem bAN.Q {I I' : MI} (h : bAN I I') : bQ I I' := AG.sub h (by decide) (by decide)
theorem bAG.Q {I I' : MI} (h : bAG I I') : bQ I I' := AG.sub h (by decide) (by decide)
theorem bA.N {I I' : MI} (h : bA I I') : bN I I' := AG.sub h (by decide) (by decide)
theorem bAR.N {I I' : MI} (h : bAR I I') : bN I I' := AG.sub h (by decide) (by decide)
theorem bAS.N {I I' : MI} (h : bAS I I') : bN I I' := AG.sub h (by decide) (by decide)
theorem bAT.N {I I' : MI} (h : bAT I I') : bN I I' := AG.sub h (by decide) (by decide)
theorem bAK.N {I I' : MI} (h : bAK I I') : bN I I' := AG.sub h (by decide) (by decide)
theorem bAD.N {I I' : MI} (h : bAD I I') : bN I I' := AG.sub h (by decide) (by decide)
theorem bAQ.N {I I' : MI} (h : bAQ I I') : bN I I' := AG.sub h (by decide) (by decide)
theorem bAG.N {I I' : MI} (h : bAG I I') : bN I I' := AG.sub h (by decide) (by decide)
theorem bA.G {I I' : MI} (h : bA I I') : bG I I' := AG.sub h (by decide) (by decide)
theorem bAR.G {I I' : MI} (h : bAR I I') : bG I I' := AG.sub h (by decide) (by decide)
theorem bAS.G {I I' : MI} (h : bAS I I') : bG I I' := AG.sub h (by decide) (by decide)
theorem bAT.G {I I' : MI} (h : bAT I I') : bG I I' := AG.sub h (by decide) (by decide)
theorem bAK.G {I I' : MI} (h : bAK I I') : bG I I' := AG.sub h (by decide) (by decide)
theorem bAD.G {I I' : MI} (h : bAD I I') : bG I I' := AG.sub h (by decide) (by decide)
theorem bAQ.G {I I' : MI} (h : bAQ I I') : bG I I' := AG.sub h (by decide) (by decide)
theorem bAN.G {I I' : MI} (h : bAN I I') : bG I I' := AG.sub h (by decide) (by decide)
abbrev mR : MI → MI → Prop := AG [1] [(0, 2)]
abbrev mS : MI → MI → Prop := AG [3, 4] [(0, 12), (0, 13)]
abbrev mT : MI → MI → Prop := AG [5, 6] [(0, 14)]
abbrev mK : MI → MI → Prop := AG [] [(0, 17), (0, 18)]
abbrev mD : MI → MI → Prop := AG [7] [(0, 20)]
abbrev mQ : MI → MI → Prop := AG [8] [(0, 21)]
abbrev mN : MI → MI → Prop := AG [] [(0, 27), (0, 28), (0, 29)]
abbrev mG : MI → MI → Prop := AG [11, 12, 13] [(0, 31), (0, 35), (0, 36)]
abbrev mA : MI → MI → Prop := AG [1, 3, 4, 5, 6, 7, 8, 11, 12, 13] [(0, 2), (0, 12), (0, 13), (0, 14), (0, 17), (0, 18), (0, 20), (0, 21), (0, 27), (0, 28), (0, 29), (0, 31), (0, 35), (0, 36)]
abbrev mAR : MI → MI → Prop := AG [3, 4, 5, 6, 7, 8, 11, 12, 13] [(0, 12), (0, 13), (0, 14), (0, 17), (0, 18), (0, 20), (0, 21), (0, 27), (0, 28), (0, 29), (0, 31), (0, 35), (0, 36)]
abbrev mAS : MI → MI → Prop := AG [1, 5, 6, 7, 8, 11, 12, 13] [(0, 2), (0, 14), (0, 17), (0, 18), (0, 20), (0, 21), (0, 27), (0, 28), (0, 29), (0, 31), (0, 35), (0, 36)]
abbrev mAT : MI → MI → Prop := AG [1, 3, 4, 7, 8, 11, 12, 13] [(0, 2), (0, 12), (0, 13), (0, 17), (0, 18), (0, 20), (0, 21), (0, 27), (0, 28), (0, 29), (0, 31), (0, 35), (0, 36)]
abbrev mAK : MI → MI → Prop := AG [1, 3, 4, 5, 6, 7, 8, 11, 12, 13] [(0, 2), (0, 12), (0, 13), (0, 14), (0, 20), (0, 21), (0, 27), (0, 28), (0, 29), (0, 31), (0, 35), (0, 36)]
abbrev mAD : MI → MI → Prop := AG [1, 3, 4, 5, 6, 8, 11, 12, 13] [(0, 2), (0, 12), (0, 13), (0, 14), (0, 17), (0, 18), (0, 21), (0, 27), (0, 28), (0, 29), (0, 31), (0, 35), (0, 36)]
abbrev mAQ : MI → MI → Prop := AG [1, 3, 4, 5, 6, 7, 11, 12, 13] [(0, 2), (0, 12), (0, 13), (0, 14), (0, 17), (0, 18), (0, 20), (0, 27), (0, 28), (0, 29), (0, 31), (0, 35), (0, 36)]
abbrev mAN : MI → MI → Prop := AG [1, 3, 4, 5, 6, 7, 8, 11, 12, 13] [(0, 2), (0, 12), (0, 13), (0, 14), (0, 17), (0, 18), (0, 20), (0, 21), (0, 31), (0, 35), (0, 36)]
abbrev mAG : MI → MI → Prop := AG [1, 3, 4, 5, 6, 7, 8] [(0, 2), (0, 12), (0, 13), (0, 14), (0, 17), (0, 18), (0, 20), (0, 21), (0, 27), (0, 28), (0, 29)]
theorem mA.R {I I' : MI} (h : mA I I') : mR I I' := AG.sub h (by decide) (by decide)
theorem mAS.R {I I' : MI} (h : mAS I I') : mR I I' := AG.sub h (by decide) (by decide)
theorem mAT.R {I I' : MI} (h : mAT I I') : mR I I' := AG.sub h (by decide) (by decide)
theorem mAK.R {I I' : MI} (h : mAK I I') : mR I I' := AG.sub h (by decide) (by decide)
theorem mAD.R {I I' : MI} (h : mAD I I') : mR I I' := AG.sub h (by decide) (by decide)
theorem mAQ.R {I I' : MI} (h : mAQ I I') : mR I I' := AG.sub h (by decide) (by decide)
theorem mAN.R {I I' : MI} (h : mAN I I') : mR I I' := AG.sub h (by decide) (by decide)
theorem mAG.R {I I' : MI} (h : mAG I I') : mR I I' := AG.sub h (by decide) (by decide)
theorem mA.S {I I' : MI} (h : mA I I') : mS I I' := AG.sub h (by decide) (by decide)
theorem mAR.S {I I' : MI} (h : mAR I I') : mS I I' := AG.sub h (by decide) (by decide)
theorem mAT.S {I I' : MI} (h : mAT I I') : mS I I' := AG.sub h (by decide) (by decide)
theorem mAK.S {I I' : MI} (h : mAK I I') : mS I I' := AG.sub h (by decide) (by decide)
theorem mAD.S {I I' : MI} (h : mAD I I') : mS I I' := AG.sub h (by decide) (by decide)
theorem mAQ.S {I I' : MI} (h : mAQ I I') : mS I I' := AG.sub h (by decide) (by decide)
theorem mAN.S {I I' : MI} (h : mAN I I') : mS I I' := AG.sub h (by decide) (by decide)
theorem mAG.S {I I' : MI} (h : mAG I I') : mS I I' := AG.sub h (by decide) (by decide)
theorem mA.T {I I' : MI} (h : mA I I') : mT I I' := AG.sub h (by decide) (by decide)
theorem mAR.T {I I' : MI} (h : mAR I I') : mT I I' := AG.sub h (by decide) (by decide)
theorem mAS.T {I I' : MI} (h : mAS I I') : mT I I' := AG.sub h (by decide) (by decide)
theorem mAK.T {I I' : MI} (h : mAK I I') : mT I I' := AG.sub h (by decide) (by decide)
theorem mAD.T {I I' : MI} (h : mAD I I') : mT I I' := AG.sub h (by decide) (by decide)
theorem mAQ.T {I I' : MI} (h : mAQ I I') : mT I I' := AG.sub h (by decide) (by decide)
theorem mAN.T {I I' : MI} (h : mAN I I') : mT I I' := AG.sub h (by decide) (by decide)
theorem mAG.T {I I' : MI} (h : mAG I I') : mT I I' := AG.sub h (by decide) (by decide)
theorem mA.K {I I' : MI} (h : mA I I') : mK I I' := AG.sub h (by decide) (by decide)
theorem mAR.K {I I' : MI} (h : mAR I I') : mK I I' := AG.sub h (by decide) (by decide)
theorem mAS.K {I I' : MI} (h : mAS I I') : mK I I' := AG.sub h (by decide) (by decide)
theorem mAT.K {I I' : MI} (h : mAT I I') : mK I I' := AG.sub h (by decide) (by decide)
theorem mAD.K {I I' : MI} (h : mAD I I') : mK I I' := AG.sub h (by decide) (by decide)
theorem mAQ.K {I I' : MI} (h : mAQ I I') : mK I I' := AG.sub h (by decide) (by decide)
theorem mAN.K {I I' : MI} (h : mAN I I') : mK I I' := AG.sub h (by decide) (by decide)
theorem mAG.K {I I' : MI} (h : mAG I I') : mK I I' := AG.sub h (by decide) (by decide)
theorem mA.D {I I' : MI} (h : mA I I') : mD I I' := AG.sub h (by decide) (by decide)
theorem mAR.D {I I' : MI} (h : mAR I I') : mD I I' := AG.sub h (by decide) (by decide)
theorem mAS.D {I I' : MI} (h : mAS I I') : mD I I' := AG.sub h (by decide) (by decide)
theorem mAT.D {I I' : MI} (h : mAT I I') : mD I I' := AG.sub h (by decide) (by decide)
theorem mAK.D {I I' : MI} (h : mAK I I') : mD I I' := AG.sub h (by decide) (by decide)
theorem mAQ.D {I I' : MI} (h : mAQ I I') : mD I I' := AG.sub h (by decide) (by decide)
theorem mAN.D {I I' : MI} (h : mAN I I') : mD I I' := AG.sub h (by decide) (by decide)
theorem mAG.D {I I' : MI} (h : mAG I I') : mD I I' := AG.sub h (by decide) (by decide)
theorem mA.Q {I I' : MI} (h : mA I I') : mQ I I' := AG.sub h (by decide) (by decide)
theorem mAR.Q {I I' : MI} (h : mAR I I') : mQ I I' := AG.sub h (by decide) (by decide)
theorem mAS.Q {I I' : MI} (h : mAS I I') : mQ I I' := AG.sub h (by decide) (by decide)
theorem mAT.Q {I I' : MI} (h : mAT I I') : mQ I I' := AG.sub h (by decide) (by decide)
theorem mAK.Q {I I' : MI} (h : mAK I I') : mQ I I' := AG.sub h (by decide) (by decide)
theorem mAD.Q {I I' : MI} (h : mAD I I') : mQ I I' := AG.sub h (by decide) (by decide)
theorem mAN.Q {I I' : MI} (h : mAN I I') : mQ I I' := AG.sub h (by decide) (by decide)
theorem mAG.Q {I I' : MI} (h : mAG I I') : mQ I I' := AG.sub h (by decide) (by decide)
theorem mA.N {I I' : MI} (h : mA I I') : mN I I' := AG.sub h (by decide) (by decide)
theorem mAR.N {I I' : MI} (h : mAR I I') : mN I I' := AG.sub h (by decide) (by decide)
theorem mAS.N {I I' : MI} (h : mAS I I') : mN I I' := AG.sub h (by decide) (by decide)
theorem mAT.N {I I' : MI} (h : mAT I I') : mN I I' := AG.sub h (by decide) (by decide)
theorem mAK.N {I I' : MI} (h : mAK I I') : mN I I' := AG.sub h (by decide) (by decide)
theorem mAD.N {I I' : MI} (h : mAD I I') : mN I I' := AG.sub h (by decide) (by decide)
theorem mAQ.N {I I' : MI} (h : mAQ I I') : mN I I' := AG.sub h (by decide) (by decide)
theorem mAG.N {I I' : MI} (h : mAG I I') : mN I I' := AG.sub h (by decide) (by decide)
theorem mA.G {I I' : MI} (h : mA I I') : mG I I' := AG.sub h (by decide) (by decide)
theorem mAR.G {I I' : MI} (h : mAR I I') : mG I I' := AG.sub h (by decide) (by decide)
theorem mAS.G {I I' : MI} (h : mAS I I') : mG I I' := AG.sub h (by decide) (by decide)
theorem mAT.G {I I' : MI} (h : mAT I I') : mG I I' := AG.sub h (by decide) (by decide)
theorem mAK.G {I I' : MI} (h : mAK I I') : mG I I' := AG.sub h (by decide) (by decide)
theorem mAD.G {I I' : MI} (h : mAD I I') : mG I I' := AG.sub h (by decide) (by decide)
theorem mAQ.G {I I' : MI} (h : mAQ I I') : mG I I' := AG.sub h (by decide) (by decide)
theorem mAN.G {I I' : MI} (h : mAN I I') : mG I I' := AG.sub h (by decide) (by decide)
abbrev bJ : MJ → MJ → Prop := AJ [25] [(24, 2), (24, 3), (24, 4), (24, 5), (24, 6)]
abbrev mJ : MJ → MJ → Prop := AJ [10] []
abbrev bJA : MJ → MJ → Prop := AJ [25] [(24, 2), (24, 3), (24, 4), (24, 5), (24, 6), (0, 12)]
abbrev mJA : MJ → MJ → Prop := AJ [10] [(0, 1)]
def dfT (j : Nat) : Nat := if j = 4 then 60 else if j = 5 then 4 else if j = 6 then 100 else if j = 12 then 1 else 0
/-! the two memories, part by part -/
def RR (n : Nat) (T : Nat → Nat → Nat) (IB IM : MI) : Prop := IB 0 1 = nI n ∧ IM 0 2 = nI n ∧ n ≤ 4 ∧ (∀ i, i < n → TV (IB (2 + 2 * i + 1)) (T i) ∧ (∀ j, j < 13 → IM 1 (13 * i + j) = nI (T i j)) ∧ CK (IB (2 + 2 * i)) (T i)) ∧ ∀ i, n ≤ i → i < 4 → IB (2 + 2 * i) 1 = 0 ∧ ∀ j, 4 ≤ j → j < 13 → IB (2 + 2 * i + 1) j = nI (dfT j)
def RS (sp fr : Nat → Nat) (sf st : Nat) (IB IM : MI) : Prop := (∀ m, m < 12 → IB 13 m = nI (sp m) ∧ IM 3 m = nI (sp m) ∧ sp m ≤ 1000000) ∧ (∀ m, m < 12 → IB 14 m = nI (fr m) ∧ IM 4 m = nI (fr m) ∧ fr m ≤ 23) ∧ IB 12 2 = nI sf ∧ IM 0 12 = nI sf ∧ sf ≤ 24 ∧ IB 12 3 = nI st ∧ IM 0 13 = nI st ∧ st ≤ 24
def RT (k : Nat) (tw ts : Nat → Nat) (IB IM : MI) : Prop := IB 15 2 = nI k ∧ IM 0 14 = nI k ∧ k ≤ 6 ∧ (∀ j, j < k → IB 16 j = nI (tw j) ∧ IM 5 j = nI (tw j) ∧ 5 ≤ tw j ∧ tw j ≤ 400 ∧ IB 17 j = nI (ts j) ∧ IM 6 j = nI (ts j) ∧ 1 ≤ ts j ∧ ts j ≤ 9) ∧ ∀ i, i < 4 → IB 18 (7 * i) = 0 ∧ IB 19 (7 * i) = 0
def RK (rm hd : Nat) (IB IM : MI) (JB JM : MJ) : Prop := IB 24 0 = nI rm ∧ IM 0 17 = nI rm ∧ 100 ≤ rm ∧ rm ≤ 1000000 ∧ IB 24 1 = nI hd ∧ IM 0 18 = nI hd ∧ hd ≤ rm ∧ JB 24 2 = JM 10 0 ∧ JB 24 3 = JM 10 1 ∧ JB 24 4 = JM 10 2 ∧ JB 24 5 = JM 10 3 ∧ JB 24 6 = JM 10 4 ∧ ∀ f, f < 5 → JB 25 f = JM 10 (6 + f)
def RD (L : Nat) (by_ : Nat → Nat) (IB IM : MI) : Prop := IB 20 1 = nI L ∧ IM 0 20 = nI L ∧ L ≤ 150 ∧ ∀ j, j < L → by_ j < 256 ∧ IM 7 j = nI (by_ j) ∧ IB 21 j = (nI (by_ j)).toInt8.toInt32
/-- what the first n items give a farm in an hour -/
def sI (F A B G : Nat → Nat) (f h : Nat) : Nat → Nat
  | 0 => 0
  | n + 1 => sI F A B G f h n + if F n = f ∧ A n ≤ h ∧ h < B n then G n else 0
def RQ (q : Nat) (F A B G : Nat → Nat) (IB IM : MI) : Prop := IB 20 2 = nI q ∧ IM 0 21 = nI q ∧ q ≤ 12 ∧ (∀ i, i < q → IM 8 (4 * i) = nI (F i) ∧ IM 8 (4 * i + 1) = nI (A i) ∧ IM 8 (4 * i + 2) = nI (B i) ∧ IM 8 (4 * i + 3) = nI (G i) ∧ F i < 5 ∧ A i < B i ∧ B i ≤ 24 ∧ G i ≤ 9999) ∧ ∀ f h, f < 5 → h < 24 → IB 22 (24 * f + h) = nI (sI F A B G f h q)
def RN (mo dy hr : Nat) (IB IM : MI) : Prop := IB 0 9 = nI mo ∧ IM 0 27 = nI mo ∧ mo < 12 ∧ IB 0 10 = nI dy ∧ IM 0 28 = nI dy ∧ dy < 30 ∧ IB 0 11 = nI hr ∧ IM 0 29 = nI hr ∧ hr < 24
def rdv (x : Int32) : Prop := x = -9 ∨ ∃ m : Nat, m ≤ 1000000 ∧ x = nI m
def RG (q tb tu : Nat) (IB IM : MI) : Prop := IB 26 3 = nI q ∧ IM 0 31 = nI q ∧ q ≤ 12 ∧ (∀ j, j < q → IB 27 j = IM 11 j ∧ IB 28 j = IM 12 j ∧ IB 29 j = IM 13 j ∧ (∃ r : Nat, r < 4 ∧ IM 11 j = nI r) ∧ rdv (IM 12 j) ∧ rdv (IM 13 j)) ∧ IB 26 4 = nI tb ∧ IM 0 35 = nI tb ∧ tb ≤ 500 ∧ IB 26 5 = nI tu ∧ IM 0 36 = nI tu ∧ tu ≤ 50
theorem RR.cg {n : Nat} {T : Nat → Nat → Nat} {IB IM IB' IM' : MI} (h : RR n T IB IM) (a : bR IB IB') (b : mR IM IM') : RR n T IB' IM' := by
  obtain ⟨h1, h2, h3, h4, h5⟩ := h
  have c0 : ∀ i, i < 4 → IB' (2 + 2 * i) = IB (2 + 2 * i) := fun i hi => a.1 _ (by rcases (show i = 0 ∨ i = 1 ∨ i = 2 ∨ i = 3 by omega) with rfl | rfl | rfl | rfl <;> decide)
  have c1 : ∀ i, i < 4 → IB' (2 + 2 * i + 1) = IB (2 + 2 * i + 1) := fun i hi => a.1 _ (by rcases (show i = 0 ∨ i = 1 ∨ i = 2 ∨ i = 3 by omega) with rfl | rfl | rfl | rfl <;> decide)
  have b1 : IM' 1 = IM 1 := b.1 1 (by decide)
  refine ⟨(a.2 (0, 1) (by decide)).trans h1, (b.2 (0, 2) (by decide)).trans h2, h3, fun i hi => ?_, fun i h6 h7 => ?_⟩
  · rw [c0 i (by omega), c1 i (by omega), b1]; exact h4 i hi
  · rw [c0 i h7, c1 i h7]; exact h5 i h6 h7
theorem RS.cg {sp fr : Nat → Nat} {sf st : Nat} {IB IM IB' IM' : MI} (h : RS sp fr sf st IB IM) (a : bS IB IB') (b : mS IM IM') : RS sp fr sf st IB' IM' := by
  obtain ⟨h1, h2, h3, h4, h5, h6, h7, h8⟩ := h
  have a13 : IB' 13 = IB 13 := a.1 13 (by decide)
  have a14 : IB' 14 = IB 14 := a.1 14 (by decide)
  have b3 : IM' 3 = IM 3 := b.1 3 (by decide)
  have b4 : IM' 4 = IM 4 := b.1 4 (by decide)
  refine ⟨?_, ?_, (a.2 (12, 2) (by decide)).trans h3, (b.2 (0, 12) (by decide)).trans h4, h5, (a.2 (12, 3) (by decide)).trans h6, (b.2 (0, 13) (by decide)).trans h7, h8⟩
  · rw [a13, b3]; exact h1
  · rw [a14, b4]; exact h2
theorem RT.cg {k : Nat} {tw ts : Nat → Nat} {IB IM IB' IM' : MI} (h : RT k tw ts IB IM) (a : bT IB IB') (b : mT IM IM') : RT k tw ts IB' IM' := by
  obtain ⟨h1, h2, h3, h4, h5⟩ := h
  have a16 : IB' 16 = IB 16 := a.1 16 (by decide)
  have a17 : IB' 17 = IB 17 := a.1 17 (by decide)
  have b5 : IM' 5 = IM 5 := b.1 5 (by decide)
  have b6 : IM' 6 = IM 6 := b.1 6 (by decide)
  refine ⟨(a.2 (15, 2) (by decide)).trans h1, (b.2 (0, 14) (by decide)).trans h2, h3, ?_, fun i hi => ?_⟩
  · rw [a16, a17, b5, b6]; exact h4
  · have e1 : IB' 18 (7 * i) = IB 18 (7 * i) := a.2 (18, 7 * i) (by rcases (show i = 0 ∨ i = 1 ∨ i = 2 ∨ i = 3 by omega) with rfl | rfl | rfl | rfl <;> decide)
    have e2 : IB' 19 (7 * i) = IB 19 (7 * i) := a.2 (19, 7 * i) (by rcases (show i = 0 ∨ i = 1 ∨ i = 2 ∨ i = 3 by omega) with rfl | rfl | rfl | rfl <;> decide)
    rw [e1, e2]; exact h5 i hi
theorem RK.cg {rm hd : Nat} {IB IM IB' IM' : MI} {JB JM JB' JM' : MJ} (h : RK rm hd IB IM JB JM) (a : bK IB IB') (b : mK IM IM') (c : bJ JB JB') (d : mJ JM JM') : RK rm hd IB' IM' JB' JM' := by
  obtain ⟨h1, h2, h3, h4, h5, h6, h7, h8, h9, h10, h11, h12, h13⟩ := h
  have d10 : JM' 10 = JM 10 := d.1 10 (by decide)
  have c25 : JB' 25 = JB 25 := c.1 25 (by decide)
  refine ⟨(a.2 (24, 0) (by decide)).trans h1, (b.2 (0, 17) (by decide)).trans h2, h3, h4, (a.2 (24, 1) (by decide)).trans h5, (b.2 (0, 18) (by decide)).trans h6, h7, ?_, ?_, ?_, ?_, ?_, ?_⟩
  · rw [d10]; exact (c.2 (24, 2) (by decide)).trans h8
  · rw [d10]; exact (c.2 (24, 3) (by decide)).trans h9
  · rw [d10]; exact (c.2 (24, 4) (by decide)).trans h10
  · rw [d10]; exact (c.2 (24, 5) (by decide)).trans h11
  · rw [d10]; exact (c.2 (24, 6) (by decide)).trans h12
  · rw [d10, c25]; exact h13
theorem RD.cg {L : Nat} {by_ : Nat → Nat} {IB IM IB' IM' : MI} (h : RD L by_ IB IM) (a : bD IB IB') (b : mD IM IM') : RD L by_ IB' IM' := by
  obtain ⟨h1, h2, h3, h4⟩ := h
  have e1 : IB' 21 = IB 21 := a.1 21 (by decide)
  have e2 : IM' 7 = IM 7 := b.1 7 (by decide)
  refine ⟨(a.2 (20, 1) (by decide)).trans h1, (b.2 (0, 20) (by decide)).trans h2, h3, ?_⟩
  rw [e1, e2]; exact h4
theorem RQ.cg {q : Nat} {F A B G : Nat → Nat} {IB IM IB' IM' : MI} (h : RQ q F A B G IB IM) (a : bQ IB IB') (b : mQ IM IM') : RQ q F A B G IB' IM' := by
  obtain ⟨h1, h2, h3, h4, h5⟩ := h
  have e1 : IB' 22 = IB 22 := a.1 22 (by decide)
  have e2 : IM' 8 = IM 8 := b.1 8 (by decide)
  refine ⟨(a.2 (20, 2) (by decide)).trans h1, (b.2 (0, 21) (by decide)).trans h2, h3, ?_, ?_⟩
  · rw [e2]; exact h4
  · rw [e1]; exact h5
theorem RN.cg {mo dy hr : Nat} {IB IM IB' IM' : MI} (h : RN mo dy hr IB IM) (a : bN IB IB') (b : mN IM IM') : RN mo dy hr IB' IM' := by
  obtain ⟨h1, h2, h3, h4, h5, h6, h7, h8, h9⟩ := h
  exact ⟨(a.2 (0, 9) (by decide)).trans h1, (b.2 (0, 27) (by decide)).trans h2, h3, (a.2 (0, 10) (by decide)).trans h4, (b.2 (0, 28) (by decide)).trans h5, h6, (a.2 (0, 11) (by decide)).trans h7, (b.2 (0, 29) (by decide)).trans h8, h9⟩
theorem RG.cg {q tb tu : Nat} {IB IM IB' IM' : MI} (h : RG q tb tu IB IM) (a : bG IB IB') (b : mG IM IM') : RG q tb tu IB' IM' := by
  obtain ⟨h1, h2, h3, h4, h5, h6, h7, h8, h9, h10⟩ := h
  have a27 : IB' 27 = IB 27 := a.1 27 (by decide)
  have a28 : IB' 28 = IB 28 := a.1 28 (by decide)
  have a29 : IB' 29 = IB 29 := a.1 29 (by decide)
  have b11 : IM' 11 = IM 11 := b.1 11 (by decide)
  have b12 : IM' 12 = IM 12 := b.1 12 (by decide)
  have b13 : IM' 13 = IM 13 := b.1 13 (by decide)
  refine ⟨(a.2 (26, 3) (by decide)).trans h1, (b.2 (0, 31) (by decide)).trans h2, h3, ?_, (a.2 (26, 4) (by decide)).trans h5, (b.2 (0, 35) (by decide)).trans h6, h7, (a.2 (26, 5) (by decide)).trans h8, (b.2 (0, 36) (by decide)).trans h9, h10⟩
  rw [a27, a28, a29, b11, b12, b13]; exact h4
/-- the class's memory stands for the reference's -/
def REL (IB : MI) (JB : MJ) (IM : MI) (JM : MJ) : Prop := (∃ n T, RR n T IB IM) ∧ (∃ sp fr sf st, RS sp fr sf st IB IM) ∧ (∃ k tw ts, RT k tw ts IB IM) ∧ (∃ rm hd, RK rm hd IB IM JB JM) ∧ (∃ L b, RD L b IB IM) ∧ (∃ q F A B G, RQ q F A B G IB IM) ∧ (∃ mo dy hr, RN mo dy hr IB IM) ∧ (∃ q tb tu, RG q tb tu IB IM) ∧ JB 0 12 = JM 0 1

theorem REL.keep {IB IM IB' IM' : MI} {JB JM JB' JM' : MJ} (h : REL IB JB IM JM) (a : bA IB IB') (b : mA IM IM') (c : bJA JB JB') (d : mJA JM JM') : REL IB' JB' IM' JM' := by
  obtain ⟨hR, hS, hT, hK, hD, hQ, hN, hG, hC⟩ := h
  have c1 : bJ JB JB' := AJ.sub c (by decide) (by decide)
  have d1 : mJ JM JM' := AJ.sub d (by decide) (by decide)
  refine ⟨(hR.elim fun v0 h => h.elim fun v1 h => ⟨v0, v1, h.cg a.R b.R⟩), (hS.elim fun v0 h => h.elim fun v1 h => h.elim fun v2 h => h.elim fun v3 h => ⟨v0, v1, v2, v3, h.cg a.S b.S⟩), (hT.elim fun v0 h => h.elim fun v1 h => h.elim fun v2 h => ⟨v0, v1, v2, h.cg a.T b.T⟩), (hK.elim fun v0 h => h.elim fun v1 h => ⟨v0, v1, h.cg a.K b.K c1 d1⟩), (hD.elim fun v0 h => h.elim fun v1 h => ⟨v0, v1, h.cg a.D b.D⟩), (hQ.elim fun v0 h => h.elim fun v1 h => h.elim fun v2 h => h.elim fun v3 h => h.elim fun v4 h => ⟨v0, v1, v2, v3, v4, h.cg a.Q b.Q⟩), (hN.elim fun v0 h => h.elim fun v1 h => h.elim fun v2 h => ⟨v0, v1, v2, h.cg a.N b.N⟩), (hG.elim fun v0 h => h.elim fun v1 h => h.elim fun v2 h => ⟨v0, v1, v2, h.cg a.G b.G⟩), ?_⟩
  exact (c.2 (0, 12) (by decide)).trans (hC.trans (d.2 (0, 1) (by decide)).symm)
theorem REL.setR {IB IM IB' IM' : MI} {JB JM JB' JM' : MJ} (h : REL IB JB IM JM) (a : bAR IB IB') (b : mAR IM IM') (c : bJA JB JB') (d : mJA JM JM') (hx : ∃ n T, RR n T IB' IM') : REL IB' JB' IM' JM' := by
  obtain ⟨hR, hS, hT, hK, hD, hQ, hN, hG, hC⟩ := h
  have c1 : bJ JB JB' := AJ.sub c (by decide) (by decide)
  have d1 : mJ JM JM' := AJ.sub d (by decide) (by decide)
  exact ⟨hx, (hS.elim fun v0 h => h.elim fun v1 h => h.elim fun v2 h => h.elim fun v3 h => ⟨v0, v1, v2, v3, h.cg a.S b.S⟩), (hT.elim fun v0 h => h.elim fun v1 h => h.elim fun v2 h => ⟨v0, v1, v2, h.cg a.T b.T⟩), (hK.elim fun v0 h => h.elim fun v1 h => ⟨v0, v1, h.cg a.K b.K c1 d1⟩), (hD.elim fun v0 h => h.elim fun v1 h => ⟨v0, v1, h.cg a.D b.D⟩), (hQ.elim fun v0 h => h.elim fun v1 h => h.elim fun v2 h => h.elim fun v3 h => h.elim fun v4 h => ⟨v0, v1, v2, v3, v4, h.cg a.Q b.Q⟩), (hN.elim fun v0 h => h.elim fun v1 h => h.elim fun v2 h => ⟨v0, v1, v2, h.cg a.N b.N⟩), (hG.elim fun v0 h => h.elim fun v1 h => h.elim fun v2 h => ⟨v0, v1, v2, h.cg a.G b.G⟩), (c.2 (0, 12) (by decide)).trans (hC.trans (d.2 (0, 1) (by decide)).symm)⟩
theorem REL.setS {IB IM IB' IM' : MI} {JB JM JB' JM' : MJ} (h : REL IB JB IM JM) (a : bAS IB IB') (b : mAS IM IM') (c : bJA JB JB') (d : mJA JM JM') (hx : ∃ sp fr sf st, RS sp fr sf st IB' IM') : REL IB' JB' IM' JM' := by
  obtain ⟨hR, hS, hT, hK, hD, hQ, hN, hG, hC⟩ := h
  have c1 : bJ JB JB' := AJ.sub c (by decide) (by decide)
  have d1 : mJ JM JM' := AJ.sub d (by decide) (by decide)
  exact ⟨(hR.elim fun v0 h => h.elim fun v1 h => ⟨v0, v1, h.cg a.R b.R⟩), hx, (hT.elim fun v0 h => h.elim fun v1 h => h.elim fun v2 h => ⟨v0, v1, v2, h.cg a.T b.T⟩), (hK.elim fun v0 h => h.elim fun v1 h => ⟨v0, v1, h.cg a.K b.K c1 d1⟩), (hD.elim fun v0 h => h.elim fun v1 h => ⟨v0, v1, h.cg a.D b.D⟩), (hQ.elim fun v0 h => h.elim fun v1 h => h.elim fun v2 h => h.elim fun v3 h => h.elim fun v4 h => ⟨v0, v1, v2, v3, v4, h.cg a.Q b.Q⟩), (hN.elim fun v0 h => h.elim fun v1 h => h.elim fun v2 h => ⟨v0, v1, v2, h.cg a.N b.N⟩), (hG.elim fun v0 h => h.elim fun v1 h => h.elim fun v2 h => ⟨v0, v1, v2, h.cg a.G b.G⟩), (c.2 (0, 12) (by decide)).trans (hC.trans (d.2 (0, 1) (by decide)).symm)⟩
theorem REL.setT {IB IM IB' IM' : MI} {JB JM JB' JM' : MJ} (h : REL IB JB IM JM) (a : bAT IB IB') (b : mAT IM IM') (c : bJA JB JB') (d : mJA JM JM') (hx : ∃ k tw ts, RT k tw ts IB' IM') : REL IB' JB' IM' JM' := by
  obtain ⟨hR, hS, hT, hK, hD, hQ, hN, hG, hC⟩ := h
  have c1 : bJ JB JB' := AJ.sub c (by decide) (by decide)
  have d1 : mJ JM JM' := AJ.sub d (by decide) (by decide)
  exact ⟨(hR.elim fun v0 h => h.elim fun v1 h => ⟨v0, v1, h.cg a.R b.R⟩), (hS.elim fun v0 h => h.elim fun v1 h => h.elim fun v2 h => h.elim fun v3 h => ⟨v0, v1, v2, v3, h.cg a.S b.S⟩), hx, (hK.elim fun v0 h => h.elim fun v1 h => ⟨v0, v1, h.cg a.K b.K c1 d1⟩), (hD.elim fun v0 h => h.elim fun v1 h => ⟨v0, v1, h.cg a.D b.D⟩), (hQ.elim fun v0 h => h.elim fun v1 h => h.elim fun v2 h => h.elim fun v3 h => h.elim fun v4 h => ⟨v0, v1, v2, v3, v4, h.cg a.Q b.Q⟩), (hN.elim fun v0 h => h.elim fun v1 h => h.elim fun v2 h => ⟨v0, v1, v2, h.cg a.N b.N⟩), (hG.elim fun v0 h => h.elim fun v1 h => h.elim fun v2 h => ⟨v0, v1, v2, h.cg a.G b.G⟩), (c.2 (0, 12) (by decide)).trans (hC.trans (d.2 (0, 1) (by decide)).symm)⟩
theorem REL.setK {IB IM IB' IM' : MI} {JB JM JB' JM' : MJ} (h : REL IB JB IM JM) (a : bAK IB IB') (b : mAK IM IM') (c : JB' 0 12 = JB 0 12) (d : JM' 0 1 = JM 0 1) (hx : ∃ rm hd, RK rm hd IB' IM' JB' JM') : REL IB' JB' IM' JM' := by
  obtain ⟨hR, hS, hT, hK, hD, hQ, hN, hG, hC⟩ := h
  exact ⟨(hR.elim fun v0 h => h.elim fun v1 h => ⟨v0, v1, h.cg a.R b.R⟩), (hS.elim fun v0 h => h.elim fun v1 h => h.elim fun v2 h => h.elim fun v3 h => ⟨v0, v1, v2, v3, h.cg a.S b.S⟩), (hT.elim fun v0 h => h.elim fun v1 h => h.elim fun v2 h => ⟨v0, v1, v2, h.cg a.T b.T⟩), hx, (hD.elim fun v0 h => h.elim fun v1 h => ⟨v0, v1, h.cg a.D b.D⟩), (hQ.elim fun v0 h => h.elim fun v1 h => h.elim fun v2 h => h.elim fun v3 h => h.elim fun v4 h => ⟨v0, v1, v2, v3, v4, h.cg a.Q b.Q⟩), (hN.elim fun v0 h => h.elim fun v1 h => h.elim fun v2 h => ⟨v0, v1, v2, h.cg a.N b.N⟩), (hG.elim fun v0 h => h.elim fun v1 h => h.elim fun v2 h => ⟨v0, v1, v2, h.cg a.G b.G⟩), c.trans (hC.trans d.symm)⟩
theorem REL.setD {IB IM IB' IM' : MI} {JB JM JB' JM' : MJ} (h : REL IB JB IM JM) (a : bAD IB IB') (b : mAD IM IM') (c : bJA JB JB') (d : mJA JM JM') (hx : ∃ L b, RD L b IB' IM') : REL IB' JB' IM' JM' := by
  obtain ⟨hR, hS, hT, hK, hD, hQ, hN, hG, hC⟩ := h
  have c1 : bJ JB JB' := AJ.sub c (by decide) (by decide)
  have d1 : mJ JM JM' := AJ.sub d (by decide) (by decide)
  exact ⟨(hR.elim fun v0 h => h.elim fun v1 h => ⟨v0, v1, h.cg a.R b.R⟩), (hS.elim fun v0 h => h.elim fun v1 h => h.elim fun v2 h => h.elim fun v3 h => ⟨v0, v1, v2, v3, h.cg a.S b.S⟩), (hT.elim fun v0 h => h.elim fun v1 h => h.elim fun v2 h => ⟨v0, v1, v2, h.cg a.T b.T⟩), (hK.elim fun v0 h => h.elim fun v1 h => ⟨v0, v1, h.cg a.K b.K c1 d1⟩), hx, (hQ.elim fun v0 h => h.elim fun v1 h => h.elim fun v2 h => h.elim fun v3 h => h.elim fun v4 h => ⟨v0, v1, v2, v3, v4, h.cg a.Q b.Q⟩), (hN.elim fun v0 h => h.elim fun v1 h => h.elim fun v2 h => ⟨v0, v1, v2, h.cg a.N b.N⟩), (hG.elim fun v0 h => h.elim fun v1 h => h.elim fun v2 h => ⟨v0, v1, v2, h.cg a.G b.G⟩), (c.2 (0, 12) (by decide)).trans (hC.trans (d.2 (0, 1) (by decide)).symm)⟩
theorem REL.setQ {IB IM IB' IM' : MI} {JB JM JB' JM' : MJ} (h : REL IB JB IM JM) (a : bAQ IB IB') (b : mAQ IM IM') (c : bJA JB JB') (d : mJA JM JM') (hx : ∃ q F A B G, RQ q F A B G IB' IM') : REL IB' JB' IM' JM' := by
  obtain ⟨hR, hS, hT, hK, hD, hQ, hN, hG, hC⟩ := h
  have c1 : bJ JB JB' := AJ.sub c (by decide) (by decide)
  have d1 : mJ JM JM' := AJ.sub d (by decide) (by decide)
  exact ⟨(hR.elim fun v0 h => h.elim fun v1 h => ⟨v0, v1, h.cg a.R b.R⟩), (hS.elim fun v0 h => h.elim fun v1 h => h.elim fun v2 h => h.elim fun v3 h => ⟨v0, v1, v2, v3, h.cg a.S b.S⟩), (hT.elim fun v0 h => h.elim fun v1 h => h.elim fun v2 h => ⟨v0, v1, v2, h.cg a.T b.T⟩), (hK.elim fun v0 h => h.elim fun v1 h => ⟨v0, v1, h.cg a.K b.K c1 d1⟩), (hD.elim fun v0 h => h.elim fun v1 h => ⟨v0, v1, h.cg a.D b.D⟩), hx, (hN.elim fun v0 h => h.elim fun v1 h => h.elim fun v2 h => ⟨v0, v1, v2, h.cg a.N b.N⟩), (hG.elim fun v0 h => h.elim fun v1 h => h.elim fun v2 h => ⟨v0, v1, v2, h.cg a.G b.G⟩), (c.2 (0, 12) (by decide)).trans (hC.trans (d.2 (0, 1) (by decide)).symm)⟩
theorem REL.setN {IB IM IB' IM' : MI} {JB JM JB' JM' : MJ} (h : REL IB JB IM JM) (a : bAN IB IB') (b : mAN IM IM') (c : bJA JB JB') (d : mJA JM JM') (hx : ∃ mo dy hr, RN mo dy hr IB' IM') : REL IB' JB' IM' JM' := by
  obtain ⟨hR, hS, hT, hK, hD, hQ, hN, hG, hC⟩ := h
  have c1 : bJ JB JB' := AJ.sub c (by decide) (by decide)
  have d1 : mJ JM JM' := AJ.sub d (by decide) (by decide)
  exact ⟨(hR.elim fun v0 h => h.elim fun v1 h => ⟨v0, v1, h.cg a.R b.R⟩), (hS.elim fun v0 h => h.elim fun v1 h => h.elim fun v2 h => h.elim fun v3 h => ⟨v0, v1, v2, v3, h.cg a.S b.S⟩), (hT.elim fun v0 h => h.elim fun v1 h => h.elim fun v2 h => ⟨v0, v1, v2, h.cg a.T b.T⟩), (hK.elim fun v0 h => h.elim fun v1 h => ⟨v0, v1, h.cg a.K b.K c1 d1⟩), (hD.elim fun v0 h => h.elim fun v1 h => ⟨v0, v1, h.cg a.D b.D⟩), (hQ.elim fun v0 h => h.elim fun v1 h => h.elim fun v2 h => h.elim fun v3 h => h.elim fun v4 h => ⟨v0, v1, v2, v3, v4, h.cg a.Q b.Q⟩), hx, (hG.elim fun v0 h => h.elim fun v1 h => h.elim fun v2 h => ⟨v0, v1, v2, h.cg a.G b.G⟩), (c.2 (0, 12) (by decide)).trans (hC.trans (d.2 (0, 1) (by decide)).symm)⟩
theorem REL.setG {IB IM IB' IM' : MI} {JB JM JB' JM' : MJ} (h : REL IB JB IM JM) (a : bAG IB IB') (b : mAG IM IM') (c : bJA JB JB') (d : mJA JM JM') (hx : ∃ q tb tu, RG q tb tu IB' IM') : REL IB' JB' IM' JM' := by
  obtain ⟨hR, hS, hT, hK, hD, hQ, hN, hG, hC⟩ := h
  have c1 : bJ JB JB' := AJ.sub c (by decide) (by decide)
  have d1 : mJ JM JM' := AJ.sub d (by decide) (by decide)
  exact ⟨(hR.elim fun v0 h => h.elim fun v1 h => ⟨v0, v1, h.cg a.R b.R⟩), (hS.elim fun v0 h => h.elim fun v1 h => h.elim fun v2 h => h.elim fun v3 h => ⟨v0, v1, v2, v3, h.cg a.S b.S⟩), (hT.elim fun v0 h => h.elim fun v1 h => h.elim fun v2 h => ⟨v0, v1, v2, h.cg a.T b.T⟩), (hK.elim fun v0 h => h.elim fun v1 h => ⟨v0, v1, h.cg a.K b.K c1 d1⟩), (hD.elim fun v0 h => h.elim fun v1 h => ⟨v0, v1, h.cg a.D b.D⟩), (hQ.elim fun v0 h => h.elim fun v1 h => h.elim fun v2 h => h.elim fun v3 h => h.elim fun v4 h => ⟨v0, v1, v2, v3, v4, h.cg a.Q b.Q⟩), (hN.elim fun v0 h => h.elim fun v1 h => h.elim fun v2 h => ⟨v0, v1, v2, h.cg a.N b.N⟩), hx, (c.2 (0, 12) (by decide)).trans (hC.trans (d.2 (0, 1) (by decide)).symm)⟩
