/-! the law: its cases -/
set_option maxRecDepth 100000 in
set_option maxHeartbeats 4000000 in
theorem cs_24 {k : CT} {gB gM : GG} {b L : Nat} {xs : Nat → Int32} (C : CX k cL_law 4 RL wsL_law room_1 gB) (M : CX k cL_law 4 RL wsL_law room_1 gM) (X : LX k b L xs) {i : Nat} (hi : i + 5 ≤ L) {IB : MI} {JB : MJ} {IM : MI} {JM : MJ} (h : REL IB JB IM JM) (kk : ∀ (IB' : MI) (JB' : MJ) (IM' : MI) (JM' : MJ), REL IB' JB' IM' JM' → V k (wM gM IM' JM' ++ wB gB IB' JB') 1073 (LV b gB gM i) []) : V k (wM gM IM JM ++ wB gB IB JB) 937 (LV b gB gM i) [] := by
  obtain ⟨r, IB', JB', IM', JM', e1, e2, hrel⟩ := s_fits h ((xs (i + 1))) ((xs (i + 2)))
  refine r_aload_n C dL_law_937 rfl 1 rfl ?_
  refine L_arg (c := 1) C X (by omega) (by decide) dL_law_938 dL_law_939 dL_law_940 dL_law_941 dL_law_942 ?_
  refine L_arg (c := 2) C X (by omega) (by decide) dL_law_943 dL_law_944 dL_law_945 dL_law_946 dL_law_947 ?_
  refine n_V (wr := wM gM IM JM) (w' := wB gB IB' JB') (o := some (.int r)) (As := [.int (xs (i + 1)), .int (xs (i + 2))]) (rest := []) C (c_X7_fits e1) dL_law_948 gL_law_X7_fits rfl rfl rfl hd_X7_fits ⟨by decide, by decide⟩ 0 rfl rfl rfl rfl rfl (Nat.le_of_ble_eq_true rfl) ?_
  refine V.swap ?_
  refine r_aload_n C dL_law_951 rfl 2 rfl ?_
  refine L_arg (c := 1) C X (by omega) (by decide) dL_law_952 dL_law_953 dL_law_954 dL_law_955 dL_law_956 ?_
  refine L_arg (c := 2) C X (by omega) (by decide) dL_law_957 dL_law_958 dL_law_959 dL_law_960 dL_law_961 ?_
  refine n_V (wr := wB gB IB' JB') (w' := wM gM IM' JM') (o := some (.int r)) (As := [.int (xs (i + 1)), .int (xs (i + 2))]) (rest := [.int r]) M (c_X8_fits e2) dL_law_962 gL_law_X8_fits rfl rfl rfl hd_X8_fits ⟨by decide, by decide⟩ 0 rfl rfl rfl rfl rfl (Nat.le_of_ble_eq_true rfl) ?_
  refine V.swap ?_
  exact r_icmp_eq (tgt := 1073) C dL_law_965 (by decide) (fun _ => kk _ _ _ _ hrel) (fun c => absurd rfl c)
set_option maxRecDepth 100000 in
set_option maxHeartbeats 4000000 in
theorem cs_25 {k : CT} {gB gM : GG} {b L : Nat} {xs : Nat → Int32} (C : CX k cL_law 4 RL wsL_law room_1 gB) (M : CX k cL_law 4 RL wsL_law room_1 gM) (X : LX k b L xs) {i : Nat} (hi : i + 5 ≤ L) {IB : MI} {JB : MJ} {IM : MI} {JM : MJ} (h : REL IB JB IM JM) (kk : ∀ (IB' : MI) (JB' : MJ) (IM' : MI) (JM' : MJ), REL IB' JB' IM' JM' → V k (wM gM IM' JM' ++ wB gB IB' JB') 1073 (LV b gB gM i) []) : V k (wM gM IM JM ++ wB gB IB JB) 970 (LV b gB gM i) [] := by
  obtain ⟨r, IB', JB', IM', JM', e1, e2, hrel⟩ := s_ails h ((xs (i + 1))) ((xs (i + 2)))
  refine r_aload_n C dL_law_970 rfl 1 rfl ?_
  refine L_arg (c := 1) C X (by omega) (by decide) dL_law_971 dL_law_972 dL_law_973 dL_law_974 dL_law_975 ?_
  refine L_arg (c := 2) C X (by omega) (by decide) dL_law_976 dL_law_977 dL_law_978 dL_law_979 dL_law_980 ?_
  refine n_V (wr := wM gM IM JM) (w' := wB gB IB' JB') (o := some (.int r)) (As := [.int (xs (i + 1)), .int (xs (i + 2))]) (rest := []) C (c_X7_ails e1) dL_law_981 gL_law_X7_ails rfl rfl rfl hd_X7_ails ⟨by decide, by decide⟩ 0 rfl rfl rfl rfl rfl (Nat.le_of_ble_eq_true rfl) ?_
  refine V.swap ?_
  refine r_aload_n C dL_law_984 rfl 2 rfl ?_
  refine L_arg (c := 1) C X (by omega) (by decide) dL_law_985 dL_law_986 dL_law_987 dL_law_988 dL_law_989 ?_
  refine L_arg (c := 2) C X (by omega) (by decide) dL_law_990 dL_law_991 dL_law_992 dL_law_993 dL_law_994 ?_
  refine n_V (wr := wB gB IB' JB') (w' := wM gM IM' JM') (o := some (.int r)) (As := [.int (xs (i + 1)), .int (xs (i + 2))]) (rest := [.int r]) M (c_X8_ails e2) dL_law_995 gL_law_X8_ails rfl rfl rfl hd_X8_ails ⟨by decide, by decide⟩ 0 rfl rfl rfl rfl rfl (Nat.le_of_ble_eq_true rfl) ?_
  refine V.swap ?_
  exact r_icmp_eq (tgt := 1073) C dL_law_998 (by decide) (fun _ => kk _ _ _ _ hrel) (fun c => absurd rfl c)
set_option maxRecDepth 100000 in
set_option maxHeartbeats 4000000 in
theorem cs_26 {k : CT} {gB gM : GG} {b L : Nat} {xs : Nat → Int32} (C : CX k cL_law 4 RL wsL_law room_1 gB) (M : CX k cL_law 4 RL wsL_law room_1 gM) (X : LX k b L xs) {i : Nat} (hi : i + 5 ≤ L) {IB : MI} {JB : MJ} {IM : MI} {JM : MJ} (h : REL IB JB IM JM) (kk : ∀ (IB' : MI) (JB' : MJ) (IM' : MI) (JM' : MJ), REL IB' JB' IM' JM' → V k (wM gM IM' JM' ++ wB gB IB' JB') 1073 (LV b gB gM i) []) : V k (wM gM IM JM ++ wB gB IB JB) 1003 (LV b gB gM i) [] := by
  obtain ⟨r, IB', JB', IM', JM', e1, e2, hrel⟩ := s_sure h ((xs (i + 1))) ((xs (i + 2)))
  refine r_aload_n C dL_law_1003 rfl 1 rfl ?_
  refine L_arg (c := 1) C X (by omega) (by decide) dL_law_1004 dL_law_1005 dL_law_1006 dL_law_1007 dL_law_1008 ?_
  refine L_arg (c := 2) C X (by omega) (by decide) dL_law_1009 dL_law_1010 dL_law_1011 dL_law_1012 dL_law_1013 ?_
  refine n_V (wr := wM gM IM JM) (w' := wB gB IB' JB') (o := some (.int r)) (As := [.int (xs (i + 1)), .int (xs (i + 2))]) (rest := []) C (c_X7_sure e1) dL_law_1014 gL_law_X7_sure rfl rfl rfl hd_X7_sure ⟨by decide, by decide⟩ 0 rfl rfl rfl rfl rfl (Nat.le_of_ble_eq_true rfl) ?_
  refine V.swap ?_
  refine r_aload_n C dL_law_1017 rfl 2 rfl ?_
  refine L_arg (c := 1) C X (by omega) (by decide) dL_law_1018 dL_law_1019 dL_law_1020 dL_law_1021 dL_law_1022 ?_
  refine L_arg (c := 2) C X (by omega) (by decide) dL_law_1023 dL_law_1024 dL_law_1025 dL_law_1026 dL_law_1027 ?_
  refine n_V (wr := wB gB IB' JB') (w' := wM gM IM' JM') (o := some (.int r)) (As := [.int (xs (i + 1)), .int (xs (i + 2))]) (rest := [.int r]) M (c_X8_sure e2) dL_law_1028 gL_law_X8_sure rfl rfl rfl hd_X8_sure ⟨by decide, by decide⟩ 0 rfl rfl rfl rfl rfl (Nat.le_of_ble_eq_true rfl) ?_
  refine V.swap ?_
  exact r_icmp_eq (tgt := 1073) C dL_law_1031 (by decide) (fun _ => kk _ _ _ _ hrel) (fun c => absurd rfl c)
set_option maxRecDepth 100000 in
set_option maxHeartbeats 4000000 in
theorem cs_27 {k : CT} {gB gM : GG} {b L : Nat} {xs : Nat → Int32} (C : CX k cL_law 4 RL wsL_law room_1 gB) (M : CX k cL_law 4 RL wsL_law room_1 gM) (X : LX k b L xs) {i : Nat} (hi : i + 5 ≤ L) {IB : MI} {JB : MJ} {IM : MI} {JM : MJ} (h : REL IB JB IM JM) (kk : ∀ (IB' : MI) (JB' : MJ) (IM' : MI) (JM' : MJ), REL IB' JB' IM' JM' → V k (wM gM IM' JM' ++ wB gB IB' JB') 1073 (LV b gB gM i) []) : V k (wM gM IM JM ++ wB gB IB JB) 1036 (LV b gB gM i) [] := by
  obtain ⟨r, IM', JM', e1, e2, hrel⟩ := s_count h ((xs (i + 1)))
  refine r_aload_n C dL_law_1036 rfl 1 rfl ?_
  refine L_arg (c := 1) C X (by omega) (by decide) dL_law_1037 dL_law_1038 dL_law_1039 dL_law_1040 dL_law_1041 ?_
  refine n_V (wr := wM gM IM JM) (w' := wB gB IB JB) (o := some (.int r)) (As := [.int (xs (i + 1))]) (rest := []) C (c_X7_count e1) dL_law_1042 gL_law_X7_count rfl rfl rfl hd_X7_count ⟨by decide, by decide⟩ 0 rfl rfl rfl rfl rfl (Nat.le_of_ble_eq_true rfl) ?_
  refine V.swap ?_
  refine r_aload_n C dL_law_1045 rfl 2 rfl ?_
  refine L_arg (c := 1) C X (by omega) (by decide) dL_law_1046 dL_law_1047 dL_law_1048 dL_law_1049 dL_law_1050 ?_
  refine n_V (wr := wB gB IB JB) (w' := wM gM IM' JM') (o := some (.int r)) (As := [.int (xs (i + 1))]) (rest := [.int r]) M (c_X8_count e2) dL_law_1051 gL_law_X8_count rfl rfl rfl hd_X8_count ⟨by decide, by decide⟩ 0 rfl rfl rfl rfl rfl (Nat.le_of_ble_eq_true rfl) ?_
  refine V.swap ?_
  exact r_icmp_eq (tgt := 1073) C dL_law_1054 (by decide) (fun _ => kk _ _ _ _ hrel) (fun c => absurd rfl c)
set_option maxRecDepth 100000 in
set_option maxHeartbeats 4000000 in
theorem cs_28 {k : CT} {gB gM : GG} {b L : Nat} {xs : Nat → Int32} (C : CX k cL_law 4 RL wsL_law room_1 gB) (M : CX k cL_law 4 RL wsL_law room_1 gM) (X : LX k b L xs) {i : Nat} (hi : i + 5 ≤ L) {IB : MI} {JB : MJ} {IM : MI} {JM : MJ} (h : REL IB JB IM JM) (kk : ∀ (IB' : MI) (JB' : MJ) (IM' : MI) (JM' : MJ), REL IB' JB' IM' JM' → V k (wM gM IM' JM' ++ wB gB IB' JB') 1073 (LV b gB gM i) []) : V k (wM gM IM JM ++ wB gB IB JB) 1059 (LV b gB gM i) [] := by
  obtain ⟨r, IM', JM', e1, e2, hrel⟩ := s_trace h 
  refine r_aload_n C dL_law_1059 rfl 1 rfl ?_
  refine n_V (wr := wM gM IM JM) (w' := wB gB IB JB) (o := some (.long r)) (As := []) (rest := []) C (c_X7_trace e1) dL_law_1060 gL_law_X7_trace rfl rfl rfl hd_X7_trace ⟨by decide, by decide⟩ 0 rfl rfl rfl rfl rfl (Nat.le_of_ble_eq_true rfl) ?_
  refine V.swap ?_
  refine r_aload_n C dL_law_1063 rfl 2 rfl ?_
  refine n_V (wr := wB gB IB JB) (w' := wM gM IM' JM') (o := some (.long r)) (As := []) (rest := [.long r]) M (c_X8_trace e2) dL_law_1064 gL_law_X8_trace rfl rfl rfl hd_X8_trace ⟨by decide, by decide⟩ 0 rfl rfl rfl rfl rfl (Nat.le_of_ble_eq_true rfl) ?_
  refine V.swap ?_
  exact r_lcmp_eq (tgt := 1073) C dL_law_1067 dL_law_1068 (by decide) (fun _ => kk _ _ _ _ hrel) (fun c => absurd rfl c)
