/-! the law: its cases -/
set_option maxRecDepth 100000 in
set_option maxHeartbeats 4000000 in
theorem cs_8 {k : CT} {gB gM : GG} {b L : Nat} {xs : Nat → Int32} (C : CX k cL_law 4 RL wsL_law room_1 gB) (M : CX k cL_law 4 RL wsL_law room_1 gM) (X : LX k b L xs) {i : Nat} (hi : i + 5 ≤ L) {IB : MI} {JB : MJ} {IM : MI} {JM : MJ} (h : REL IB JB IM JM) (kk : ∀ (IB' : MI) (JB' : MJ) (IM' : MI) (JM' : MJ), REL IB' JB' IM' JM' → V k (wM gM IM' JM' ++ wB gB IB' JB') 1073 (LV b gB gM i) []) : V k (wM gM IM JM ++ wB gB IB JB) 478 (LV b gB gM i) [] := by
  obtain ⟨r, IB', JB', IM', JM', e1, e2, hrel⟩ := s_tune h ((xs (i + 1))) ((xs (i + 2)))
  refine r_aload_n C dL_law_478 rfl 1 rfl ?_
  refine L_arg (c := 1) C X (by omega) (by decide) dL_law_479 dL_law_480 dL_law_481 dL_law_482 dL_law_483 ?_
  refine L_arg (c := 2) C X (by omega) (by decide) dL_law_484 dL_law_485 dL_law_486 dL_law_487 dL_law_488 ?_
  refine n_V (wr := wM gM IM JM) (w' := wB gB IB' JB') (o := some (.int r)) (As := [.int (xs (i + 1)), .int (xs (i + 2))]) (rest := []) C (c_X7_tune e1) dL_law_489 gL_law_X7_tune rfl rfl rfl hd_X7_tune ⟨by decide, by decide⟩ 0 rfl rfl rfl rfl rfl (Nat.le_of_ble_eq_true rfl) ?_
  refine V.swap ?_
  refine r_aload_n C dL_law_492 rfl 2 rfl ?_
  refine L_arg (c := 1) C X (by omega) (by decide) dL_law_493 dL_law_494 dL_law_495 dL_law_496 dL_law_497 ?_
  refine L_arg (c := 2) C X (by omega) (by decide) dL_law_498 dL_law_499 dL_law_500 dL_law_501 dL_law_502 ?_
  refine n_V (wr := wB gB IB' JB') (w' := wM gM IM' JM') (o := some (.int r)) (As := [.int (xs (i + 1)), .int (xs (i + 2))]) (rest := [.int r]) M (c_X8_tune e2) dL_law_503 gL_law_X8_tune rfl rfl rfl hd_X8_tune ⟨by decide, by decide⟩ 0 rfl rfl rfl rfl rfl (Nat.le_of_ble_eq_true rfl) ?_
  refine V.swap ?_
  exact r_icmp_eq (tgt := 1073) C dL_law_506 (by decide) (fun _ => kk _ _ _ _ hrel) (fun c => absurd rfl c)
set_option maxRecDepth 100000 in
set_option maxHeartbeats 4000000 in
theorem cs_9 {k : CT} {gB gM : GG} {b L : Nat} {xs : Nat → Int32} (C : CX k cL_law 4 RL wsL_law room_1 gB) (M : CX k cL_law 4 RL wsL_law room_1 gM) (X : LX k b L xs) {i : Nat} (hi : i + 5 ≤ L) {IB : MI} {JB : MJ} {IM : MI} {JM : MJ} (h : REL IB JB IM JM) (kk : ∀ (IB' : MI) (JB' : MJ) (IM' : MI) (JM' : MJ), REL IB' JB' IM' JM' → V k (wM gM IM' JM' ++ wB gB IB' JB') 1073 (LV b gB gM i) []) : V k (wM gM IM JM ++ wB gB IB JB) 511 (LV b gB gM i) [] := by
  obtain ⟨r, IB', JB', IM', JM', e1, e2, hrel⟩ := s_forget h 
  refine r_aload_n C dL_law_511 rfl 1 rfl ?_
  refine n_V (wr := wM gM IM JM) (w' := wB gB IB' JB') (o := some (.int r)) (As := []) (rest := []) C (c_X7_forget e1) dL_law_512 gL_law_X7_forget rfl rfl rfl hd_X7_forget ⟨by decide, by decide⟩ 0 rfl rfl rfl rfl rfl (Nat.le_of_ble_eq_true rfl) ?_
  refine V.swap ?_
  refine r_aload_n C dL_law_515 rfl 2 rfl ?_
  refine n_V (wr := wB gB IB' JB') (w' := wM gM IM' JM') (o := some (.int r)) (As := []) (rest := [.int r]) M (c_X8_forget e2) dL_law_516 gL_law_X8_forget rfl rfl rfl hd_X8_forget ⟨by decide, by decide⟩ 0 rfl rfl rfl rfl rfl (Nat.le_of_ble_eq_true rfl) ?_
  refine V.swap ?_
  exact r_icmp_eq (tgt := 1073) C dL_law_519 (by decide) (fun _ => kk _ _ _ _ hrel) (fun c => absurd rfl c)
set_option maxRecDepth 100000 in
set_option maxHeartbeats 4000000 in
theorem cs_10 {k : CT} {gB gM : GG} {b L : Nat} {xs : Nat → Int32} (C : CX k cL_law 4 RL wsL_law room_1 gB) (M : CX k cL_law 4 RL wsL_law room_1 gM) (X : LX k b L xs) {i : Nat} (hi : i + 5 ≤ L) {IB : MI} {JB : MJ} {IM : MI} {JM : MJ} (h : REL IB JB IM JM) (kk : ∀ (IB' : MI) (JB' : MJ) (IM' : MI) (JM' : MJ), REL IB' JB' IM' JM' → V k (wM gM IM' JM' ++ wB gB IB' JB') 1073 (LV b gB gM i) []) : V k (wM gM IM JM ++ wB gB IB JB) 524 (LV b gB gM i) [] := by
  obtain ⟨r, IB', JB', IM', JM', e1, e2, hrel⟩ := s_side h ((xs (i + 1))) ((xs (i + 2)))
  refine r_aload_n C dL_law_524 rfl 1 rfl ?_
  refine L_arg (c := 1) C X (by omega) (by decide) dL_law_525 dL_law_526 dL_law_527 dL_law_528 dL_law_529 ?_
  refine L_arg (c := 2) C X (by omega) (by decide) dL_law_530 dL_law_531 dL_law_532 dL_law_533 dL_law_534 ?_
  refine n_V (wr := wM gM IM JM) (w' := wB gB IB' JB') (o := some (.int r)) (As := [.int (xs (i + 1)), .int (xs (i + 2))]) (rest := []) C (c_X7_side e1) dL_law_535 gL_law_X7_side rfl rfl rfl hd_X7_side ⟨by decide, by decide⟩ 0 rfl rfl rfl rfl rfl (Nat.le_of_ble_eq_true rfl) ?_
  refine V.swap ?_
  refine r_aload_n C dL_law_538 rfl 2 rfl ?_
  refine L_arg (c := 1) C X (by omega) (by decide) dL_law_539 dL_law_540 dL_law_541 dL_law_542 dL_law_543 ?_
  refine L_arg (c := 2) C X (by omega) (by decide) dL_law_544 dL_law_545 dL_law_546 dL_law_547 dL_law_548 ?_
  refine n_V (wr := wB gB IB' JB') (w' := wM gM IM' JM') (o := some (.int r)) (As := [.int (xs (i + 1)), .int (xs (i + 2))]) (rest := [.int r]) M (c_X8_side e2) dL_law_549 gL_law_X8_side rfl rfl rfl hd_X8_side ⟨by decide, by decide⟩ 0 rfl rfl rfl rfl rfl (Nat.le_of_ble_eq_true rfl) ?_
  refine V.swap ?_
  exact r_icmp_eq (tgt := 1073) C dL_law_552 (by decide) (fun _ => kk _ _ _ _ hrel) (fun c => absurd rfl c)
set_option maxRecDepth 100000 in
set_option maxHeartbeats 4000000 in
theorem cs_11 {k : CT} {gB gM : GG} {b L : Nat} {xs : Nat → Int32} (C : CX k cL_law 4 RL wsL_law room_1 gB) (M : CX k cL_law 4 RL wsL_law room_1 gM) (X : LX k b L xs) {i : Nat} (hi : i + 5 ≤ L) {IB : MI} {JB : MJ} {IM : MI} {JM : MJ} (h : REL IB JB IM JM) (kk : ∀ (IB' : MI) (JB' : MJ) (IM' : MI) (JM' : MJ), REL IB' JB' IM' JM' → V k (wM gM IM' JM' ++ wB gB IB' JB') 1073 (LV b gB gM i) []) : V k (wM gM IM JM ++ wB gB IB JB) 557 (LV b gB gM i) [] := by
  obtain ⟨r, IB', JB', IM', JM', e1, e2, hrel⟩ := s_take h ((xs (i + 1)))
  refine r_aload_n C dL_law_557 rfl 1 rfl ?_
  refine L_arg (c := 1) C X (by omega) (by decide) dL_law_558 dL_law_559 dL_law_560 dL_law_561 dL_law_562 ?_
  refine n_V (wr := wM gM IM JM) (w' := wB gB IB' JB') (o := some (.int r)) (As := [.int (xs (i + 1))]) (rest := []) C (c_X7_take e1) dL_law_563 gL_law_X7_take rfl rfl rfl hd_X7_take ⟨by decide, by decide⟩ 0 rfl rfl rfl rfl rfl (Nat.le_of_ble_eq_true rfl) ?_
  refine V.swap ?_
  refine r_aload_n C dL_law_566 rfl 2 rfl ?_
  refine L_arg (c := 1) C X (by omega) (by decide) dL_law_567 dL_law_568 dL_law_569 dL_law_570 dL_law_571 ?_
  refine n_V (wr := wB gB IB' JB') (w' := wM gM IM' JM') (o := some (.int r)) (As := [.int (xs (i + 1))]) (rest := [.int r]) M (c_X8_take e2) dL_law_572 gL_law_X8_take rfl rfl rfl hd_X8_take ⟨by decide, by decide⟩ 0 rfl rfl rfl rfl rfl (Nat.le_of_ble_eq_true rfl) ?_
  refine V.swap ?_
  exact r_icmp_eq (tgt := 1073) C dL_law_575 (by decide) (fun _ => kk _ _ _ _ hrel) (fun c => absurd rfl c)
set_option maxRecDepth 100000 in
set_option maxHeartbeats 4000000 in
theorem cs_12 {k : CT} {gB gM : GG} {b L : Nat} {xs : Nat → Int32} (C : CX k cL_law 4 RL wsL_law room_1 gB) (M : CX k cL_law 4 RL wsL_law room_1 gM) (X : LX k b L xs) {i : Nat} (hi : i + 5 ≤ L) {IB : MI} {JB : MJ} {IM : MI} {JM : MJ} (h : REL IB JB IM JM) (kk : ∀ (IB' : MI) (JB' : MJ) (IM' : MI) (JM' : MJ), REL IB' JB' IM' JM' → V k (wM gM IM' JM' ++ wB gB IB' JB') 1073 (LV b gB gM i) []) : V k (wM gM IM JM ++ wB gB IB JB) 580 (LV b gB gM i) [] := by
  obtain ⟨r, IB', JB', IM', JM', e1, e2, hrel⟩ := s_frost h ((xs (i + 1))) ((xs (i + 2)))
  refine r_aload_n C dL_law_580 rfl 1 rfl ?_
  refine L_arg (c := 1) C X (by omega) (by decide) dL_law_581 dL_law_582 dL_law_583 dL_law_584 dL_law_585 ?_
  refine L_arg (c := 2) C X (by omega) (by decide) dL_law_586 dL_law_587 dL_law_588 dL_law_589 dL_law_590 ?_
  refine n_V (wr := wM gM IM JM) (w' := wB gB IB' JB') (o := some (.int r)) (As := [.int (xs (i + 1)), .int (xs (i + 2))]) (rest := []) C (c_X7_frost e1) dL_law_591 gL_law_X7_frost rfl rfl rfl hd_X7_frost ⟨by decide, by decide⟩ 0 rfl rfl rfl rfl rfl (Nat.le_of_ble_eq_true rfl) ?_
  refine V.swap ?_
  refine r_aload_n C dL_law_594 rfl 2 rfl ?_
  refine L_arg (c := 1) C X (by omega) (by decide) dL_law_595 dL_law_596 dL_law_597 dL_law_598 dL_law_599 ?_
  refine L_arg (c := 2) C X (by omega) (by decide) dL_law_600 dL_law_601 dL_law_602 dL_law_603 dL_law_604 ?_
  refine n_V (wr := wB gB IB' JB') (w' := wM gM IM' JM') (o := some (.int r)) (As := [.int (xs (i + 1)), .int (xs (i + 2))]) (rest := [.int r]) M (c_X8_frost e2) dL_law_605 gL_law_X8_frost rfl rfl rfl hd_X8_frost ⟨by decide, by decide⟩ 0 rfl rfl rfl rfl rfl (Nat.le_of_ble_eq_true rfl) ?_
  refine V.swap ?_
  exact r_icmp_eq (tgt := 1073) C dL_law_608 (by decide) (fun _ => kk _ _ _ _ hrel) (fun c => absurd rfl c)
set_option maxRecDepth 100000 in
set_option maxHeartbeats 4000000 in
theorem cs_13 {k : CT} {gB gM : GG} {b L : Nat} {xs : Nat → Int32} (C : CX k cL_law 4 RL wsL_law room_1 gB) (M : CX k cL_law 4 RL wsL_law room_1 gM) (X : LX k b L xs) {i : Nat} (hi : i + 5 ≤ L) {IB : MI} {JB : MJ} {IM : MI} {JM : MJ} (h : REL IB JB IM JM) (kk : ∀ (IB' : MI) (JB' : MJ) (IM' : MI) (JM' : MJ), REL IB' JB' IM' JM' → V k (wM gM IM' JM' ++ wB gB IB' JB') 1073 (LV b gB gM i) []) : V k (wM gM IM JM ++ wB gB IB JB) 613 (LV b gB gM i) [] := by
  obtain ⟨r, IB', JB', IM', JM', e1, e2, hrel⟩ := s_silence h ((xs (i + 1))) ((xs (i + 2)))
  refine r_aload_n C dL_law_613 rfl 1 rfl ?_
  refine L_arg (c := 1) C X (by omega) (by decide) dL_law_614 dL_law_615 dL_law_616 dL_law_617 dL_law_618 ?_
  refine L_arg (c := 2) C X (by omega) (by decide) dL_law_619 dL_law_620 dL_law_621 dL_law_622 dL_law_623 ?_
  refine n_V (wr := wM gM IM JM) (w' := wB gB IB' JB') (o := some (.int r)) (As := [.int (xs (i + 1)), .int (xs (i + 2))]) (rest := []) C (c_X7_silence e1) dL_law_624 gL_law_X7_silence rfl rfl rfl hd_X7_silence ⟨by decide, by decide⟩ 0 rfl rfl rfl rfl rfl (Nat.le_of_ble_eq_true rfl) ?_
  refine V.swap ?_
  refine r_aload_n C dL_law_627 rfl 2 rfl ?_
  refine L_arg (c := 1) C X (by omega) (by decide) dL_law_628 dL_law_629 dL_law_630 dL_law_631 dL_law_632 ?_
  refine L_arg (c := 2) C X (by omega) (by decide) dL_law_633 dL_law_634 dL_law_635 dL_law_636 dL_law_637 ?_
  refine n_V (wr := wB gB IB' JB') (w' := wM gM IM' JM') (o := some (.int r)) (As := [.int (xs (i + 1)), .int (xs (i + 2))]) (rest := [.int r]) M (c_X8_silence e2) dL_law_638 gL_law_X8_silence rfl rfl rfl hd_X8_silence ⟨by decide, by decide⟩ 0 rfl rfl rfl rfl rfl (Nat.le_of_ble_eq_true rfl) ?_
  refine V.swap ?_
  exact r_icmp_eq (tgt := 1073) C dL_law_641 (by decide) (fun _ => kk _ _ _ _ hrel) (fun c => absurd rfl c)
set_option maxRecDepth 100000 in
set_option maxHeartbeats 4000000 in
theorem cs_14 {k : CT} {gB gM : GG} {b L : Nat} {xs : Nat → Int32} (C : CX k cL_law 4 RL wsL_law room_1 gB) (M : CX k cL_law 4 RL wsL_law room_1 gM) (X : LX k b L xs) {i : Nat} (hi : i + 5 ≤ L) {IB : MI} {JB : MJ} {IM : MI} {JM : MJ} (h : REL IB JB IM JM) (kk : ∀ (IB' : MI) (JB' : MJ) (IM' : MI) (JM' : MJ), REL IB' JB' IM' JM' → V k (wM gM IM' JM' ++ wB gB IB' JB') 1073 (LV b gB gM i) []) : V k (wM gM IM JM ++ wB gB IB JB) 646 (LV b gB gM i) [] := by
  obtain ⟨r, IB', JB', IM', JM', e1, e2, hrel⟩ := s_tank h ((xs (i + 1))) ((xs (i + 2)))
  refine r_aload_n C dL_law_646 rfl 1 rfl ?_
  refine L_arg (c := 1) C X (by omega) (by decide) dL_law_647 dL_law_648 dL_law_649 dL_law_650 dL_law_651 ?_
  refine L_arg (c := 2) C X (by omega) (by decide) dL_law_652 dL_law_653 dL_law_654 dL_law_655 dL_law_656 ?_
  refine n_V (wr := wM gM IM JM) (w' := wB gB IB' JB') (o := some (.int r)) (As := [.int (xs (i + 1)), .int (xs (i + 2))]) (rest := []) C (c_X7_tank e1) dL_law_657 gL_law_X7_tank rfl rfl rfl hd_X7_tank ⟨by decide, by decide⟩ 0 rfl rfl rfl rfl rfl (Nat.le_of_ble_eq_true rfl) ?_
  refine V.swap ?_
  refine r_aload_n C dL_law_660 rfl 2 rfl ?_
  refine L_arg (c := 1) C X (by omega) (by decide) dL_law_661 dL_law_662 dL_law_663 dL_law_664 dL_law_665 ?_
  refine L_arg (c := 2) C X (by omega) (by decide) dL_law_666 dL_law_667 dL_law_668 dL_law_669 dL_law_670 ?_
  refine n_V (wr := wB gB IB' JB') (w' := wM gM IM' JM') (o := some (.int r)) (As := [.int (xs (i + 1)), .int (xs (i + 2))]) (rest := [.int r]) M (c_X8_tank e2) dL_law_671 gL_law_X8_tank rfl rfl rfl hd_X8_tank ⟨by decide, by decide⟩ 0 rfl rfl rfl rfl rfl (Nat.le_of_ble_eq_true rfl) ?_
  refine V.swap ?_
  exact r_icmp_eq (tgt := 1073) C dL_law_674 (by decide) (fun _ => kk _ _ _ _ hrel) (fun c => absurd rfl c)
set_option maxRecDepth 100000 in
set_option maxHeartbeats 4000000 in
theorem cs_15 {k : CT} {gB gM : GG} {b L : Nat} {xs : Nat → Int32} (C : CX k cL_law 4 RL wsL_law room_1 gB) (M : CX k cL_law 4 RL wsL_law room_1 gM) (X : LX k b L xs) {i : Nat} (hi : i + 5 ≤ L) {IB : MI} {JB : MJ} {IM : MI} {JM : MJ} (h : REL IB JB IM JM) (kk : ∀ (IB' : MI) (JB' : MJ) (IM' : MI) (JM' : MJ), REL IB' JB' IM' JM' → V k (wM gM IM' JM' ++ wB gB IB' JB') 1073 (LV b gB gM i) []) : V k (wM gM IM JM ++ wB gB IB JB) 679 (LV b gB gM i) [] := by
  obtain ⟨r, IB', JB', IM', JM', e1, e2, hrel⟩ := s_type h ((((xs (i + 1)).toInt64 <<< ((32 : Int32).toInt64 &&& 63)) ||| ((xs (i + 2)).toInt64 &&& (4294967295 : Int64)))) ((xs (i + 3)))
  refine r_aload_n C dL_law_679 rfl 1 rfl ?_
  refine L_arg (c := 1) C X (by omega) (by decide) dL_law_680 dL_law_681 dL_law_682 dL_law_683 dL_law_684 ?_
  refine r_i2l C dL_law_685 ?_
  refine r_bipush (v := (32 : Int32)) C dL_law_686 (by decide) ?_
  refine r_lshl C dL_law_688 ?_
  refine L_arg (c := 2) C X (by omega) (by decide) dL_law_689 dL_law_690 dL_law_691 dL_law_692 dL_law_693 ?_
  refine r_i2l C dL_law_694 ?_
  refine r_ldc2 (v := (4294967295 : Int64)) C dL_law_695 kL_78 ?_
  refine r_land C dL_law_698 ?_
  refine r_lor C dL_law_699 ?_
  refine L_arg (c := 3) C X (by omega) (by decide) dL_law_700 dL_law_701 dL_law_702 dL_law_703 dL_law_704 ?_
  refine n_V (wr := wM gM IM JM) (w' := wB gB IB' JB') (o := some (.int r)) (As := [.long (((xs (i + 1)).toInt64 <<< ((32 : Int32).toInt64 &&& 63)) ||| ((xs (i + 2)).toInt64 &&& (4294967295 : Int64))), .int (xs (i + 3))]) (rest := []) C (c_X7_type e1) dL_law_705 gL_law_X7_type rfl rfl rfl hd_X7_type ⟨by decide, by decide⟩ 0 rfl rfl rfl rfl rfl (Nat.le_of_ble_eq_true rfl) ?_
  refine V.swap ?_
  refine r_aload_n C dL_law_708 rfl 2 rfl ?_
  refine L_arg (c := 1) C X (by omega) (by decide) dL_law_709 dL_law_710 dL_law_711 dL_law_712 dL_law_713 ?_
  refine r_i2l C dL_law_714 ?_
  refine r_bipush (v := (32 : Int32)) C dL_law_715 (by decide) ?_
  refine r_lshl C dL_law_717 ?_
  refine L_arg (c := 2) C X (by omega) (by decide) dL_law_718 dL_law_719 dL_law_720 dL_law_721 dL_law_722 ?_
  refine r_i2l C dL_law_723 ?_
  refine r_ldc2 (v := (4294967295 : Int64)) C dL_law_724 kL_78 ?_
  refine r_land C dL_law_727 ?_
  refine r_lor C dL_law_728 ?_
  refine L_arg (c := 3) C X (by omega) (by decide) dL_law_729 dL_law_730 dL_law_731 dL_law_732 dL_law_733 ?_
  refine n_V (wr := wB gB IB' JB') (w' := wM gM IM' JM') (o := some (.int r)) (As := [.long (((xs (i + 1)).toInt64 <<< ((32 : Int32).toInt64 &&& 63)) ||| ((xs (i + 2)).toInt64 &&& (4294967295 : Int64))), .int (xs (i + 3))]) (rest := [.int r]) M (c_X8_type e2) dL_law_734 gL_law_X8_type rfl rfl rfl hd_X8_type ⟨by decide, by decide⟩ 0 rfl rfl rfl rfl rfl (Nat.le_of_ble_eq_true rfl) ?_
  refine V.swap ?_
  exact r_icmp_eq (tgt := 1073) C dL_law_737 (by decide) (fun _ => kk _ _ _ _ hrel) (fun c => absurd rfl c)
