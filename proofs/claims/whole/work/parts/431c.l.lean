/-! the law: its cases -/
set_option maxRecDepth 100000 in
set_option maxHeartbeats 4000000 in
theorem cs_16 {k : CT} {gB gM : GG} {b L : Nat} {xs : Nat → Int32} (C : CX k cL_law 4 RL wsL_law room_1 gB) (M : CX k cL_law 4 RL wsL_law room_1 gM) (X : LX k b L xs) {i : Nat} (hi : i + 5 ≤ L) {IB : MI} {JB : MJ} {IM : MI} {JM : MJ} (h : REL IB JB IM JM) (kk : ∀ (IB' : MI) (JB' : MJ) (IM' : MI) (JM' : MJ), REL IB' JB' IM' JM' → V k (wM gM IM' JM' ++ wB gB IB' JB') 1073 (LV b gB gM i) []) : V k (wM gM IM JM ++ wB gB IB JB) 742 (LV b gB gM i) [] := by
  obtain ⟨r, IB', JB', IM', JM', e1, e2, hrel⟩ := s_clear h 
  refine r_aload_n C dL_law_742 rfl 1 rfl ?_
  refine n_V (wr := wM gM IM JM) (w' := wB gB IB' JB') (o := some (.int r)) (As := []) (rest := []) C (c_X7_clear e1) dL_law_743 gL_law_X7_clear rfl rfl rfl hd_X7_clear ⟨by decide, by decide⟩ 0 rfl rfl rfl rfl rfl (Nat.le_of_ble_eq_true rfl) ?_
  refine V.swap ?_
  refine r_aload_n C dL_law_746 rfl 2 rfl ?_
  refine n_V (wr := wB gB IB' JB') (w' := wM gM IM' JM') (o := some (.int r)) (As := []) (rest := [.int r]) M (c_X8_clear e2) dL_law_747 gL_law_X8_clear rfl rfl rfl hd_X8_clear ⟨by decide, by decide⟩ 0 rfl rfl rfl rfl rfl (Nat.le_of_ble_eq_true rfl) ?_
  refine V.swap ?_
  exact r_icmp_eq (tgt := 1073) C dL_law_750 (by decide) (fun _ => kk _ _ _ _ hrel) (fun c => absurd rfl c)
set_option maxRecDepth 100000 in
set_option maxHeartbeats 4000000 in
theorem cs_17 {k : CT} {gB gM : GG} {b L : Nat} {xs : Nat → Int32} (C : CX k cL_law 4 RL wsL_law room_1 gB) (M : CX k cL_law 4 RL wsL_law room_1 gM) (X : LX k b L xs) {i : Nat} (hi : i + 5 ≤ L) {IB : MI} {JB : MJ} {IM : MI} {JM : MJ} (h : REL IB JB IM JM) (kk : ∀ (IB' : MI) (JB' : MJ) (IM' : MI) (JM' : MJ), REL IB' JB' IM' JM' → V k (wM gM IM' JM' ++ wB gB IB' JB') 1073 (LV b gB gM i) []) : V k (wM gM IM JM ++ wB gB IB JB) 755 (LV b gB gM i) [] := by
  obtain ⟨r, IB', JB', IM', JM', e1, e2, hrel⟩ := s_rights h 
  refine r_aload_n C dL_law_755 rfl 1 rfl ?_
  refine n_V (wr := wM gM IM JM) (w' := wB gB IB' JB') (o := some (.int r)) (As := []) (rest := []) C (c_X7_rights e1) dL_law_756 gL_law_X7_rights rfl rfl rfl hd_X7_rights ⟨by decide, by decide⟩ 0 rfl rfl rfl rfl rfl (Nat.le_of_ble_eq_true rfl) ?_
  refine V.swap ?_
  refine r_aload_n C dL_law_759 rfl 2 rfl ?_
  refine n_V (wr := wB gB IB' JB') (w' := wM gM IM' JM') (o := some (.int r)) (As := []) (rest := [.int r]) M (c_X8_rights e2) dL_law_760 gL_law_X8_rights rfl rfl rfl hd_X8_rights ⟨by decide, by decide⟩ 0 rfl rfl rfl rfl rfl (Nat.le_of_ble_eq_true rfl) ?_
  refine V.swap ?_
  exact r_icmp_eq (tgt := 1073) C dL_law_763 (by decide) (fun _ => kk _ _ _ _ hrel) (fun c => absurd rfl c)
set_option maxRecDepth 100000 in
set_option maxHeartbeats 4000000 in
theorem cs_18 {k : CT} {gB gM : GG} {b L : Nat} {xs : Nat → Int32} (C : CX k cL_law 4 RL wsL_law room_1 gB) (M : CX k cL_law 4 RL wsL_law room_1 gM) (X : LX k b L xs) {i : Nat} (hi : i + 5 ≤ L) {IB : MI} {JB : MJ} {IM : MI} {JM : MJ} (h : REL IB JB IM JM) (kk : ∀ (IB' : MI) (JB' : MJ) (IM' : MI) (JM' : MJ), REL IB' JB' IM' JM' → V k (wM gM IM' JM' ++ wB gB IB' JB') 1073 (LV b gB gM i) []) : V k (wM gM IM JM ++ wB gB IB JB) 768 (LV b gB gM i) [] := by
  obtain ⟨r, IM', JM', e1, e2, hrel⟩ := s_right h ((xs (i + 1))) ((xs (i + 2)))
  refine r_aload_n C dL_law_768 rfl 1 rfl ?_
  refine L_arg (c := 1) C X (by omega) (by decide) dL_law_769 dL_law_770 dL_law_771 dL_law_772 dL_law_773 ?_
  refine L_arg (c := 2) C X (by omega) (by decide) dL_law_774 dL_law_775 dL_law_776 dL_law_777 dL_law_778 ?_
  refine n_V (wr := wM gM IM JM) (w' := wB gB IB JB) (o := some (.int r)) (As := [.int (xs (i + 1)), .int (xs (i + 2))]) (rest := []) C (c_X7_right e1) dL_law_779 gL_law_X7_right rfl rfl rfl hd_X7_right ⟨by decide, by decide⟩ 0 rfl rfl rfl rfl rfl (Nat.le_of_ble_eq_true rfl) ?_
  refine V.swap ?_
  refine r_aload_n C dL_law_782 rfl 2 rfl ?_
  refine L_arg (c := 1) C X (by omega) (by decide) dL_law_783 dL_law_784 dL_law_785 dL_law_786 dL_law_787 ?_
  refine L_arg (c := 2) C X (by omega) (by decide) dL_law_788 dL_law_789 dL_law_790 dL_law_791 dL_law_792 ?_
  refine n_V (wr := wB gB IB JB) (w' := wM gM IM' JM') (o := some (.int r)) (As := [.int (xs (i + 1)), .int (xs (i + 2))]) (rest := [.int r]) M (c_X8_right e2) dL_law_793 gL_law_X8_right rfl rfl rfl hd_X8_right ⟨by decide, by decide⟩ 0 rfl rfl rfl rfl rfl (Nat.le_of_ble_eq_true rfl) ?_
  refine V.swap ?_
  exact r_icmp_eq (tgt := 1073) C dL_law_796 (by decide) (fun _ => kk _ _ _ _ hrel) (fun c => absurd rfl c)
set_option maxRecDepth 100000 in
set_option maxHeartbeats 4000000 in
theorem cs_19 {k : CT} {gB gM : GG} {b L : Nat} {xs : Nat → Int32} (C : CX k cL_law 4 RL wsL_law room_1 gB) (M : CX k cL_law 4 RL wsL_law room_1 gM) (X : LX k b L xs) {i : Nat} (hi : i + 5 ≤ L) {IB : MI} {JB : MJ} {IM : MI} {JM : MJ} (h : REL IB JB IM JM) (kk : ∀ (IB' : MI) (JB' : MJ) (IM' : MI) (JM' : MJ), REL IB' JB' IM' JM' → V k (wM gM IM' JM' ++ wB gB IB' JB') 1073 (LV b gB gM i) []) : V k (wM gM IM JM ++ wB gB IB JB) 801 (LV b gB gM i) [] := by
  obtain ⟨r, IB', JB', IM', JM', e1, e2, hrel⟩ := s_hours h ((xs (i + 1)))
  refine r_aload_n C dL_law_801 rfl 1 rfl ?_
  refine L_arg (c := 1) C X (by omega) (by decide) dL_law_802 dL_law_803 dL_law_804 dL_law_805 dL_law_806 ?_
  refine n_V (wr := wM gM IM JM) (w' := wB gB IB' JB') (o := some (.int r)) (As := [.int (xs (i + 1))]) (rest := []) C (c_X7_hours e1) dL_law_807 gL_law_X7_hours rfl rfl rfl hd_X7_hours ⟨by decide, by decide⟩ 0 rfl rfl rfl rfl rfl (Nat.le_of_ble_eq_true rfl) ?_
  refine V.swap ?_
  refine r_aload_n C dL_law_810 rfl 2 rfl ?_
  refine L_arg (c := 1) C X (by omega) (by decide) dL_law_811 dL_law_812 dL_law_813 dL_law_814 dL_law_815 ?_
  refine n_V (wr := wB gB IB' JB') (w' := wM gM IM' JM') (o := some (.int r)) (As := [.int (xs (i + 1))]) (rest := [.int r]) M (c_X8_hours e2) dL_law_816 gL_law_X8_hours rfl rfl rfl hd_X8_hours ⟨by decide, by decide⟩ 0 rfl rfl rfl rfl rfl (Nat.le_of_ble_eq_true rfl) ?_
  refine V.swap ?_
  exact r_icmp_eq (tgt := 1073) C dL_law_819 (by decide) (fun _ => kk _ _ _ _ hrel) (fun c => absurd rfl c)
set_option maxRecDepth 100000 in
set_option maxHeartbeats 4000000 in
theorem cs_20 {k : CT} {gB gM : GG} {b L : Nat} {xs : Nat → Int32} (C : CX k cL_law 4 RL wsL_law room_1 gB) (M : CX k cL_law 4 RL wsL_law room_1 gM) (X : LX k b L xs) {i : Nat} (hi : i + 5 ≤ L) {IB : MI} {JB : MJ} {IM : MI} {JM : MJ} (h : REL IB JB IM JM) (kk : ∀ (IB' : MI) (JB' : MJ) (IM' : MI) (JM' : MJ), REL IB' JB' IM' JM' → V k (wM gM IM' JM' ++ wB gB IB' JB') 1073 (LV b gB gM i) []) : V k (wM gM IM JM ++ wB gB IB JB) 824 (LV b gB gM i) [] := by
  obtain ⟨r, IM', JM', e1, e2, hrel⟩ := s_book h ((xs (i + 1)))
  refine r_aload_n C dL_law_824 rfl 1 rfl ?_
  refine L_arg (c := 1) C X (by omega) (by decide) dL_law_825 dL_law_826 dL_law_827 dL_law_828 dL_law_829 ?_
  refine n_V (wr := wM gM IM JM) (w' := wB gB IB JB) (o := some (.long r)) (As := [.int (xs (i + 1))]) (rest := []) C (c_X7_book e1) dL_law_830 gL_law_X7_book rfl rfl rfl hd_X7_book ⟨by decide, by decide⟩ 0 rfl rfl rfl rfl rfl (Nat.le_of_ble_eq_true rfl) ?_
  refine V.swap ?_
  refine r_aload_n C dL_law_833 rfl 2 rfl ?_
  refine L_arg (c := 1) C X (by omega) (by decide) dL_law_834 dL_law_835 dL_law_836 dL_law_837 dL_law_838 ?_
  refine n_V (wr := wB gB IB JB) (w' := wM gM IM' JM') (o := some (.long r)) (As := [.int (xs (i + 1))]) (rest := [.long r]) M (c_X8_book e2) dL_law_839 gL_law_X8_book rfl rfl rfl hd_X8_book ⟨by decide, by decide⟩ 0 rfl rfl rfl rfl rfl (Nat.le_of_ble_eq_true rfl) ?_
  refine V.swap ?_
  exact r_lcmp_eq (tgt := 1073) C dL_law_842 dL_law_843 (by decide) (fun _ => kk _ _ _ _ hrel) (fun c => absurd rfl c)
set_option maxRecDepth 100000 in
set_option maxHeartbeats 4000000 in
theorem cs_21 {k : CT} {gB gM : GG} {b L : Nat} {xs : Nat → Int32} (C : CX k cL_law 4 RL wsL_law room_1 gB) (M : CX k cL_law 4 RL wsL_law room_1 gM) (X : LX k b L xs) {i : Nat} (hi : i + 5 ≤ L) {IB : MI} {JB : MJ} {IM : MI} {JM : MJ} (h : REL IB JB IM JM) (kk : ∀ (IB' : MI) (JB' : MJ) (IM' : MI) (JM' : MJ), REL IB' JB' IM' JM' → V k (wM gM IM' JM' ++ wB gB IB' JB') 1073 (LV b gB gM i) []) : V k (wM gM IM JM ++ wB gB IB JB) 848 (LV b gB gM i) [] := by
  obtain ⟨r, IB', JB', IM', JM', e1, e2, hrel⟩ := s_read h ((xs (i + 1))) ((xs (i + 2))) ((xs (i + 3)))
  refine r_aload_n C dL_law_848 rfl 1 rfl ?_
  refine L_arg (c := 1) C X (by omega) (by decide) dL_law_849 dL_law_850 dL_law_851 dL_law_852 dL_law_853 ?_
  refine L_arg (c := 2) C X (by omega) (by decide) dL_law_854 dL_law_855 dL_law_856 dL_law_857 dL_law_858 ?_
  refine L_arg (c := 3) C X (by omega) (by decide) dL_law_859 dL_law_860 dL_law_861 dL_law_862 dL_law_863 ?_
  refine n_V (wr := wM gM IM JM) (w' := wB gB IB' JB') (o := some (.int r)) (As := [.int (xs (i + 1)), .int (xs (i + 2)), .int (xs (i + 3))]) (rest := []) C (c_X7_read e1) dL_law_864 gL_law_X7_read rfl rfl rfl hd_X7_read ⟨by decide, by decide⟩ 0 rfl rfl rfl rfl rfl (Nat.le_of_ble_eq_true rfl) ?_
  refine V.swap ?_
  refine r_aload_n C dL_law_867 rfl 2 rfl ?_
  refine L_arg (c := 1) C X (by omega) (by decide) dL_law_868 dL_law_869 dL_law_870 dL_law_871 dL_law_872 ?_
  refine L_arg (c := 2) C X (by omega) (by decide) dL_law_873 dL_law_874 dL_law_875 dL_law_876 dL_law_877 ?_
  refine L_arg (c := 3) C X (by omega) (by decide) dL_law_878 dL_law_879 dL_law_880 dL_law_881 dL_law_882 ?_
  refine n_V (wr := wB gB IB' JB') (w' := wM gM IM' JM') (o := some (.int r)) (As := [.int (xs (i + 1)), .int (xs (i + 2)), .int (xs (i + 3))]) (rest := [.int r]) M (c_X8_read e2) dL_law_883 gL_law_X8_read rfl rfl rfl hd_X8_read ⟨by decide, by decide⟩ 0 rfl rfl rfl rfl rfl (Nat.le_of_ble_eq_true rfl) ?_
  refine V.swap ?_
  exact r_icmp_eq (tgt := 1073) C dL_law_886 (by decide) (fun _ => kk _ _ _ _ hrel) (fun c => absurd rfl c)
set_option maxRecDepth 100000 in
set_option maxHeartbeats 4000000 in
theorem cs_22 {k : CT} {gB gM : GG} {b L : Nat} {xs : Nat → Int32} (C : CX k cL_law 4 RL wsL_law room_1 gB) (M : CX k cL_law 4 RL wsL_law room_1 gM) (X : LX k b L xs) {i : Nat} (hi : i + 5 ≤ L) {IB : MI} {JB : MJ} {IM : MI} {JM : MJ} (h : REL IB JB IM JM) (kk : ∀ (IB' : MI) (JB' : MJ) (IM' : MI) (JM' : MJ), REL IB' JB' IM' JM' → V k (wM gM IM' JM' ++ wB gB IB' JB') 1073 (LV b gB gM i) []) : V k (wM gM IM JM ++ wB gB IB JB) 891 (LV b gB gM i) [] := by
  obtain ⟨r, IB', JB', IM', JM', e1, e2, hrel⟩ := s_wipe h 
  refine r_aload_n C dL_law_891 rfl 1 rfl ?_
  refine n_V (wr := wM gM IM JM) (w' := wB gB IB' JB') (o := some (.int r)) (As := []) (rest := []) C (c_X7_wipe e1) dL_law_892 gL_law_X7_wipe rfl rfl rfl hd_X7_wipe ⟨by decide, by decide⟩ 0 rfl rfl rfl rfl rfl (Nat.le_of_ble_eq_true rfl) ?_
  refine V.swap ?_
  refine r_aload_n C dL_law_895 rfl 2 rfl ?_
  refine n_V (wr := wB gB IB' JB') (w' := wM gM IM' JM') (o := some (.int r)) (As := []) (rest := [.int r]) M (c_X8_wipe e2) dL_law_896 gL_law_X8_wipe rfl rfl rfl hd_X8_wipe ⟨by decide, by decide⟩ 0 rfl rfl rfl rfl rfl (Nat.le_of_ble_eq_true rfl) ?_
  refine V.swap ?_
  exact r_icmp_eq (tgt := 1073) C dL_law_899 (by decide) (fun _ => kk _ _ _ _ hrel) (fun c => absurd rfl c)
set_option maxRecDepth 100000 in
set_option maxHeartbeats 4000000 in
theorem cs_23 {k : CT} {gB gM : GG} {b L : Nat} {xs : Nat → Int32} (C : CX k cL_law 4 RL wsL_law room_1 gB) (M : CX k cL_law 4 RL wsL_law room_1 gM) (X : LX k b L xs) {i : Nat} (hi : i + 5 ≤ L) {IB : MI} {JB : MJ} {IM : MI} {JM : MJ} (h : REL IB JB IM JM) (kk : ∀ (IB' : MI) (JB' : MJ) (IM' : MI) (JM' : MJ), REL IB' JB' IM' JM' → V k (wM gM IM' JM' ++ wB gB IB' JB') 1073 (LV b gB gM i) []) : V k (wM gM IM JM ++ wB gB IB JB) 904 (LV b gB gM i) [] := by
  obtain ⟨r, IB', JB', IM', JM', e1, e2, hrel⟩ := s_tolerance h ((xs (i + 1))) ((xs (i + 2)))
  refine r_aload_n C dL_law_904 rfl 1 rfl ?_
  refine L_arg (c := 1) C X (by omega) (by decide) dL_law_905 dL_law_906 dL_law_907 dL_law_908 dL_law_909 ?_
  refine L_arg (c := 2) C X (by omega) (by decide) dL_law_910 dL_law_911 dL_law_912 dL_law_913 dL_law_914 ?_
  refine n_V (wr := wM gM IM JM) (w' := wB gB IB' JB') (o := some (.int r)) (As := [.int (xs (i + 1)), .int (xs (i + 2))]) (rest := []) C (c_X7_tolerance e1) dL_law_915 gL_law_X7_tolerance rfl rfl rfl hd_X7_tolerance ⟨by decide, by decide⟩ 0 rfl rfl rfl rfl rfl (Nat.le_of_ble_eq_true rfl) ?_
  refine V.swap ?_
  refine r_aload_n C dL_law_918 rfl 2 rfl ?_
  refine L_arg (c := 1) C X (by omega) (by decide) dL_law_919 dL_law_920 dL_law_921 dL_law_922 dL_law_923 ?_
  refine L_arg (c := 2) C X (by omega) (by decide) dL_law_924 dL_law_925 dL_law_926 dL_law_927 dL_law_928 ?_
  refine n_V (wr := wB gB IB' JB') (w' := wM gM IM' JM') (o := some (.int r)) (As := [.int (xs (i + 1)), .int (xs (i + 2))]) (rest := [.int r]) M (c_X8_tolerance e2) dL_law_929 gL_law_X8_tolerance rfl rfl rfl hd_X8_tolerance ⟨by decide, by decide⟩ 0 rfl rfl rfl rfl rfl (Nat.le_of_ble_eq_true rfl) ?_
  refine V.swap ?_
  exact r_icmp_eq (tgt := 1073) C dL_law_932 (by decide) (fun _ => kk _ _ _ _ hrel) (fun c => absurd rfl c)
