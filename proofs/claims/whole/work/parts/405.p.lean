/-! the starts stand for each other -/
theorem ram0_e : ∀ j, j < 13 → 4 ≤ j → ram0 j = nI (dfT j) := by decide +kernel
theorem spr0_e : ∀ j, j < 12 → spr0 j = nI 20000 := by decide +kernel
theorem fl0_e : ∀ j, j < 12 → fl (20000 : Int32) 12 (fun _ => 0) j = nI 20000 := by decide +kernel
theorem rr0 : RR 0 (fun _ _ => 0) IB0 IM0 := by
  refine ⟨nI_0.symm, nI_0.symm, by decide, fun i hi => absurd hi (Nat.not_lt_zero _), fun i _ hi => ?_⟩
  rcases (show i = 0 ∨ i = 1 ∨ i = 2 ∨ i = 3 by omega) with rfl | rfl | rfl | rfl <;> exact ⟨rfl, fun j h4 h13 => ram0_e j h13 h4⟩
theorem rs0 : RS (fun _ => 20000) (fun _ => 0) 0 0 IB0 IM0 :=
  ⟨fun m hm => ⟨fl0_e m hm, spr0_e m hm, by show (20000 : Nat) ≤ 1000000; omega⟩, fun m _ => ⟨nI_0.symm, nI_0.symm, by show (0 : Nat) ≤ 23; omega⟩, nI_0.symm, nI_0.symm, by decide, nI_0.symm, nI_0.symm, by decide⟩
theorem rt0 : RT 0 (fun _ => 0) (fun _ => 0) IB0 IM0 := ⟨nI_0.symm, nI_0.symm, by decide, fun j hj => absurd hj (Nat.not_lt_zero _), fun _ _ => ⟨rfl, rfl⟩⟩
theorem rk0 : RK 50000 0 IB0 IM0 JB0 JM0 := ⟨rfl, rfl, by decide, by decide, nI_0.symm, nI_0.symm, by decide, rfl, rfl, rfl, rfl, rfl, fun _ _ => rfl⟩
theorem rd0 : RD 0 (fun _ => 0) IB0 IM0 := ⟨nI_0.symm, nI_0.symm, by decide, fun j hj => absurd hj (Nat.not_lt_zero _)⟩
theorem rq0 : RQ 0 (fun _ => 0) (fun _ => 0) (fun _ => 0) (fun _ => 0) IB0 IM0 := ⟨nI_0.symm, nI_0.symm, by decide, fun j hj => absurd hj (Nat.not_lt_zero _), fun _ _ _ _ => nI_0.symm⟩
theorem rn0 : RN 0 0 0 IB0 IM0 := ⟨nI_0.symm, nI_0.symm, by decide, nI_0.symm, nI_0.symm, by decide, nI_0.symm, nI_0.symm, by decide⟩
theorem rg0 : RG 0 20 5 IB0 IM0 := ⟨nI_0.symm, nI_0.symm, by decide, fun j hj => absurd hj (Nat.not_lt_zero _), rfl, rfl, by decide, rfl, rfl, by decide⟩
theorem rel0 : REL IB0 JB0 IM0 JM0 := ⟨⟨_, _, rr0⟩, ⟨_, _, _, _, rs0⟩, ⟨_, _, _, rt0⟩, ⟨_, _, rk0⟩, ⟨_, _, rd0⟩, ⟨_, _, _, _, _, rq0⟩, ⟨_, _, _, rn0⟩, ⟨_, _, _, rg0⟩, rfl⟩
