theorem dX7_runRams_0 : decode cX7_runRams 0 = .ok (.aload_n 0, 1) := by decide +kernel
theorem dX7_runRams_1 : decode cX7_runRams 1 = .ok (.getfield 27, 3) := by decide +kernel
theorem dX7_runRams_4 : decode cX7_runRams 4 = .ok (.getfield 142, 3) := by decide +kernel
theorem dX7_runRams_7 : decode cX7_runRams 7 = .ok (.aload_n 0, 1) := by decide +kernel
theorem dX7_runRams_8 : decode cX7_runRams 8 = .ok (.getfield 66, 3) := by decide +kernel
theorem dX7_runRams_11 : decode cX7_runRams 11 = .ok (.iaload, 1) := by decide +kernel
theorem dX7_runRams_12 : decode cX7_runRams 12 = .ok (.istore_n 1, 1) := by decide +kernel
theorem dX7_runRams_13 : decode cX7_runRams 13 = .ok (.iconst 0, 1) := by decide +kernel
theorem dX7_runRams_14 : decode cX7_runRams 14 = .ok (.istore_n 2, 1) := by decide +kernel
theorem dX7_runRams_15 : decode cX7_runRams 15 = .ok (.iload_n 2, 1) := by decide +kernel
theorem dX7_runRams_16 : decode cX7_runRams 16 = .ok (.aload_n 0, 1) := by decide +kernel
theorem dX7_runRams_17 : decode cX7_runRams 17 = .ok (.getfield 15, 3) := by decide +kernel
theorem dX7_runRams_20 : decode cX7_runRams 20 = .ok (.if_icmp .ge 94, 3) := by decide +kernel
theorem dX7_runRams_23 : decode cX7_runRams 23 = .ok (.aload_n 0, 1) := by decide +kernel
theorem dX7_runRams_24 : decode cX7_runRams 24 = .ok (.getfield 11, 3) := by decide +kernel
theorem dX7_runRams_27 : decode cX7_runRams 27 = .ok (.iload_n 2, 1) := by decide +kernel
theorem dX7_runRams_28 : decode cX7_runRams 28 = .ok (.aaload, 1) := by decide +kernel
theorem dX7_runRams_29 : decode cX7_runRams 29 = .ok (.astore_n 3, 1) := by decide +kernel
theorem dX7_runRams_30 : decode cX7_runRams 30 = .ok (.aload_n 3, 1) := by decide +kernel
theorem dX7_runRams_31 : decode cX7_runRams 31 = .ok (.bipush 12, 2) := by decide +kernel
theorem dX7_runRams_33 : decode cX7_runRams 33 = .ok (.invokevirtual 91, 3) := by decide +kernel
theorem dX7_runRams_36 : decode cX7_runRams 36 = .ok (.ifCond .eq 72, 3) := by decide +kernel
theorem dX7_runRams_39 : decode cX7_runRams 39 = .ok (.aload_n 0, 1) := by decide +kernel
theorem dX7_runRams_40 : decode cX7_runRams 40 = .ok (.getfield 27, 3) := by decide +kernel
theorem dX7_runRams_43 : decode cX7_runRams 43 = .ok (.aload_n 3, 1) := by decide +kernel
theorem dX7_runRams_44 : decode cX7_runRams 44 = .ok (.aload_n 0, 1) := by decide +kernel
theorem dX7_runRams_45 : decode cX7_runRams 45 = .ok (.getfield 66, 3) := by decide +kernel
theorem dX7_runRams_48 : decode cX7_runRams 48 = .ok (.aload_n 0, 1) := by decide +kernel
theorem dX7_runRams_49 : decode cX7_runRams 49 = .ok (.getfield 72, 3) := by decide +kernel
theorem dX7_runRams_52 : decode cX7_runRams 52 = .ok (.invokevirtual 286, 3) := by decide +kernel
theorem dX7_runRams_55 : decode cX7_runRams 55 = .ok (.ifCond .eq 6, 3) := by decide +kernel
theorem dX7_runRams_58 : decode cX7_runRams 58 = .ok (.goto 50, 3) := by decide +kernel
theorem dX7_runRams_61 : decode cX7_runRams 61 = .ok (.aload_n 3, 1) := by decide +kernel
theorem dX7_runRams_62 : decode cX7_runRams 62 = .ok (.invokevirtual 132, 3) := by decide +kernel
theorem dX7_runRams_65 : decode cX7_runRams 65 = .ok (.istore 4, 2) := by decide +kernel
theorem dX7_runRams_67 : decode cX7_runRams 67 = .ok (.aload_n 3, 1) := by decide +kernel
theorem dX7_runRams_68 : decode cX7_runRams 68 = .ok (.invokevirtual 129, 3) := by decide +kernel
theorem dX7_runRams_71 : decode cX7_runRams 71 = .ok (.istore 5, 2) := by decide +kernel
theorem dX7_runRams_73 : decode cX7_runRams 73 = .ok (.iload 4, 2) := by decide +kernel
theorem dX7_runRams_75 : decode cX7_runRams 75 = .ok (.iload 5, 2) := by decide +kernel
theorem dX7_runRams_77 : decode cX7_runRams 77 = .ok (.iadd, 1) := by decide +kernel
theorem dX7_runRams_78 : decode cX7_runRams 78 = .ok (.iload_n 1, 1) := by decide +kernel
theorem dX7_runRams_79 : decode cX7_runRams 79 = .ok (.if_icmp .le 6, 3) := by decide +kernel
theorem dX7_runRams_82 : decode cX7_runRams 82 = .ok (.goto 26, 3) := by decide +kernel
theorem dX7_runRams_85 : decode cX7_runRams 85 = .ok (.iload_n 1, 1) := by decide +kernel
theorem dX7_runRams_86 : decode cX7_runRams 86 = .ok (.iload 4, 2) := by decide +kernel
theorem dX7_runRams_88 : decode cX7_runRams 88 = .ok (.iload 5, 2) := by decide +kernel
theorem dX7_runRams_90 : decode cX7_runRams 90 = .ok (.iadd, 1) := by decide +kernel
theorem dX7_runRams_91 : decode cX7_runRams 91 = .ok (.isub, 1) := by decide +kernel
theorem dX7_runRams_92 : decode cX7_runRams 92 = .ok (.istore_n 1, 1) := by decide +kernel
theorem dX7_runRams_93 : decode cX7_runRams 93 = .ok (.aload_n 0, 1) := by decide +kernel
theorem dX7_runRams_94 : decode cX7_runRams 94 = .ok (.getfield 48, 3) := by decide +kernel
theorem dX7_runRams_97 : decode cX7_runRams 97 = .ok (.iload 4, 2) := by decide +kernel
theorem dX7_runRams_99 : decode cX7_runRams 99 = .ok (.iload 5, 2) := by decide +kernel
theorem dX7_runRams_101 : decode cX7_runRams 101 = .ok (.invokevirtual 290, 3) := by decide +kernel
theorem dX7_runRams_104 : decode cX7_runRams 104 = .ok (.aload_n 3, 1) := by decide +kernel
theorem dX7_runRams_105 : decode cX7_runRams 105 = .ok (.invokevirtual 293, 3) := by decide +kernel
theorem dX7_runRams_108 : decode cX7_runRams 108 = .ok (.iinc 2 1, 3) := by decide +kernel
theorem dX7_runRams_111 : decode cX7_runRams 111 = .ok (.goto (-96), 3) := by decide +kernel
theorem dX7_runRams_114 : decode cX7_runRams 114 = .ok (.aload_n 0, 1) := by decide +kernel
theorem dX7_runRams_115 : decode cX7_runRams 115 = .ok (.getfield 48, 3) := by decide +kernel
theorem dX7_runRams_118 : decode cX7_runRams 118 = .ok (.invokevirtual 296, 3) := by decide +kernel
theorem dX7_runRams_121 : decode cX7_runRams 121 = .ok (.return_, 1) := by decide +kernel
theorem dX7_goToNextHour_0 : decode cX7_goToNextHour 0 = .ok (.aload_n 0, 1) := by decide +kernel
theorem dX7_goToNextHour_1 : decode cX7_goToNextHour 1 = .ok (.dup, 1) := by decide +kernel
theorem dX7_goToNextHour_2 : decode cX7_goToNextHour 2 = .ok (.getfield 72, 3) := by decide +kernel
theorem dX7_goToNextHour_5 : decode cX7_goToNextHour 5 = .ok (.iconst 1, 1) := by decide +kernel
theorem dX7_goToNextHour_6 : decode cX7_goToNextHour 6 = .ok (.iadd, 1) := by decide +kernel
theorem dX7_goToNextHour_7 : decode cX7_goToNextHour 7 = .ok (.putfield 72, 3) := by decide +kernel
theorem dX7_goToNextHour_10 : decode cX7_goToNextHour 10 = .ok (.aload_n 0, 1) := by decide +kernel
theorem dX7_goToNextHour_11 : decode cX7_goToNextHour 11 = .ok (.getfield 72, 3) := by decide +kernel
theorem dX7_goToNextHour_14 : decode cX7_goToNextHour 14 = .ok (.bipush 24, 2) := by decide +kernel
theorem dX7_goToNextHour_16 : decode cX7_goToNextHour 16 = .ok (.if_icmp .ne 18, 3) := by decide +kernel
theorem dX7_goToNextHour_19 : decode cX7_goToNextHour 19 = .ok (.aload_n 0, 1) := by decide +kernel
theorem dX7_goToNextHour_20 : decode cX7_goToNextHour 20 = .ok (.iconst 0, 1) := by decide +kernel
theorem dX7_goToNextHour_21 : decode cX7_goToNextHour 21 = .ok (.putfield 72, 3) := by decide +kernel
theorem dX7_goToNextHour_24 : decode cX7_goToNextHour 24 = .ok (.aload_n 0, 1) := by decide +kernel
theorem dX7_goToNextHour_25 : decode cX7_goToNextHour 25 = .ok (.dup, 1) := by decide +kernel
theorem dX7_goToNextHour_26 : decode cX7_goToNextHour 26 = .ok (.getfield 69, 3) := by decide +kernel
theorem dX7_goToNextHour_29 : decode cX7_goToNextHour 29 = .ok (.iconst 1, 1) := by decide +kernel
theorem dX7_goToNextHour_30 : decode cX7_goToNextHour 30 = .ok (.iadd, 1) := by decide +kernel
theorem dX7_goToNextHour_31 : decode cX7_goToNextHour 31 = .ok (.putfield 69, 3) := by decide +kernel
theorem dX7_goToNextHour_34 : decode cX7_goToNextHour 34 = .ok (.aload_n 0, 1) := by decide +kernel
theorem dX7_goToNextHour_35 : decode cX7_goToNextHour 35 = .ok (.getfield 69, 3) := by decide +kernel
theorem dX7_goToNextHour_38 : decode cX7_goToNextHour 38 = .ok (.bipush 30, 2) := by decide +kernel
theorem dX7_goToNextHour_40 : decode cX7_goToNextHour 40 = .ok (.if_icmp .ne 21, 3) := by decide +kernel
theorem dX7_goToNextHour_43 : decode cX7_goToNextHour 43 = .ok (.aload_n 0, 1) := by decide +kernel
theorem dX7_goToNextHour_44 : decode cX7_goToNextHour 44 = .ok (.iconst 0, 1) := by decide +kernel
theorem dX7_goToNextHour_45 : decode cX7_goToNextHour 45 = .ok (.putfield 69, 3) := by decide +kernel
theorem dX7_goToNextHour_48 : decode cX7_goToNextHour 48 = .ok (.aload_n 0, 1) := by decide +kernel
theorem dX7_goToNextHour_49 : decode cX7_goToNextHour 49 = .ok (.aload_n 0, 1) := by decide +kernel
theorem dX7_goToNextHour_50 : decode cX7_goToNextHour 50 = .ok (.getfield 66, 3) := by decide +kernel
theorem dX7_goToNextHour_53 : decode cX7_goToNextHour 53 = .ok (.iconst 1, 1) := by decide +kernel
theorem dX7_goToNextHour_54 : decode cX7_goToNextHour 54 = .ok (.iadd, 1) := by decide +kernel
theorem dX7_goToNextHour_55 : decode cX7_goToNextHour 55 = .ok (.bipush 12, 2) := by decide +kernel
theorem dX7_goToNextHour_57 : decode cX7_goToNextHour 57 = .ok (.irem, 1) := by decide +kernel
theorem dX7_goToNextHour_58 : decode cX7_goToNextHour 58 = .ok (.putfield 66, 3) := by decide +kernel
theorem dX7_goToNextHour_61 : decode cX7_goToNextHour 61 = .ok (.return_, 1) := by decide +kernel
set_option maxRecDepth 20000 in
theorem ggX7_tryAllCauses_X0_begin : GoodIn wsX7_tryAllCauses wsX0_begin := goodIn_r _ [9, 10, 11, 12, 13, 14, 15, 16, 116, 117, 118] (by decide +kernel) (by decide +kernel)
set_option maxRecDepth 20000 in
theorem gX7_tryAllCauses_X0_begin : GoodIn wsX7_tryAllCauses (wsV RX7 299 RX0 yX0_begin wsX0_begin) := goodIn_app (goodIn_of _ (by decide +kernel)) ggX7_tryAllCauses_X0_begin
set_option maxRecDepth 20000 in
theorem ggX7_tryAllCauses_X1_becomeLike : GoodIn wsX7_tryAllCauses wsX1_becomeLike := goodIn_r _ [21, 22, 23, 24, 25, 26, 27, 119, 120, 121, 122, 123, 124, 125, 126] (by decide +kernel) (by decide +kernel)
set_option maxRecDepth 20000 in
theorem gX7_tryAllCauses_X1_becomeLike : GoodIn wsX7_tryAllCauses (wsV RX7 145 RX1 yX1_becomeLike wsX1_becomeLike) := goodIn_app (goodIn_of _ (by decide +kernel)) ggX7_tryAllCauses_X1_becomeLike
set_option maxRecDepth 20000 in
theorem ggX7_tryAllCauses_X1_suffer : GoodIn wsX7_tryAllCauses wsX1_suffer := goodIn_r _ [31, 32, 33, 34, 20, 35, 22, 27, 36, 37, 38, 119, 120, 121, 122, 123, 124, 125, 126] (by decide +kernel) (by decide +kernel)
set_option maxRecDepth 20000 in
theorem gX7_tryAllCauses_X1_suffer : GoodIn wsX7_tryAllCauses (wsV RX7 257 RX1 yX1_suffer wsX1_suffer) := goodIn_app (goodIn_of _ (by decide +kernel)) ggX7_tryAllCauses_X1_suffer
set_option maxRecDepth 20000 in
theorem ggX7_tryAllCauses_X2_agreeWith : GoodIn wsX7_tryAllCauses wsX2_agreeWith := goodIn_r _ [43, 44, 45, 46, 47, 48, 20, 49, 50, 51, 52, 53, 54, 27, 55, 56, 57, 22, 58, 59, 60, 61, 62, 63, 64, 65, 66, 67, 68, 69, 70, 71, 72, 73, 74, 75, 76, 77, 78, 79, 80, 81, 82, 83, 84, 85, 86, 42, 87, 88, 89, 90, 91, 92, 93, 94, 95, 96, 97, 98, 127, 128, 129, 130, 131, 132, 119, 120, 121, 122, 123, 124, 125, 126] (by decide +kernel) (by decide +kernel)
set_option maxRecDepth 20000 in
theorem gX7_tryAllCauses_X2_agreeWith : GoodIn wsX7_tryAllCauses (wsV RX7 261 RX2 yX2_agreeWith wsX2_agreeWith) := goodIn_app (goodIn_of _ (by decide +kernel)) ggX7_tryAllCauses_X2_agreeWith
set_option maxRecDepth 20000 in
theorem ggX7_tryAllCauses_X0_admit : GoodIn wsX7_tryAllCauses wsX0_admit := goodIn_r _ [102, 11, 12, 10, 116, 117, 118] (by decide +kernel) (by decide +kernel)
set_option maxRecDepth 20000 in
theorem gX7_tryAllCauses_X0_admit : GoodIn wsX7_tryAllCauses (wsV RX7 302 RX0 yX0_admit wsX0_admit) := goodIn_app (goodIn_of _ (by decide +kernel)) ggX7_tryAllCauses_X0_admit
theorem dX7_tryAllCauses_0 : decode cX7_tryAllCauses 0 = .ok (.aload_n 0, 1) := by decide +kernel
theorem dX7_tryAllCauses_1 : decode cX7_tryAllCauses 1 = .ok (.getfield 62, 3) := by decide +kernel
theorem dX7_tryAllCauses_4 : decode cX7_tryAllCauses 4 = .ok (.invokevirtual 299, 3) := by decide +kernel
theorem dX7_tryAllCauses_7 : decode cX7_tryAllCauses 7 = .ok (.aload_n 0, 1) := by decide +kernel
theorem dX7_tryAllCauses_8 : decode cX7_tryAllCauses 8 = .ok (.getfield 20, 3) := by decide +kernel
theorem dX7_tryAllCauses_11 : decode cX7_tryAllCauses 11 = .ok (.aload_n 0, 1) := by decide +kernel
theorem dX7_tryAllCauses_12 : decode cX7_tryAllCauses 12 = .ok (.getfield 11, 3) := by decide +kernel
theorem dX7_tryAllCauses_15 : decode cX7_tryAllCauses 15 = .ok (.iload_n 1, 1) := by decide +kernel
theorem dX7_tryAllCauses_16 : decode cX7_tryAllCauses 16 = .ok (.aaload, 1) := by decide +kernel
theorem dX7_tryAllCauses_17 : decode cX7_tryAllCauses 17 = .ok (.invokevirtual 145, 3) := by decide +kernel
theorem dX7_tryAllCauses_20 : decode cX7_tryAllCauses 20 = .ok (.iconst 0, 1) := by decide +kernel
theorem dX7_tryAllCauses_21 : decode cX7_tryAllCauses 21 = .ok (.istore_n 2, 1) := by decide +kernel
theorem dX7_tryAllCauses_22 : decode cX7_tryAllCauses 22 = .ok (.iload_n 2, 1) := by decide +kernel
theorem dX7_tryAllCauses_23 : decode cX7_tryAllCauses 23 = .ok (.bipush 16, 2) := by decide +kernel
theorem dX7_tryAllCauses_25 : decode cX7_tryAllCauses 25 = .ok (.if_icmp .ge 64, 3) := by decide +kernel
theorem dX7_tryAllCauses_28 : decode cX7_tryAllCauses 28 = .ok (.iconst 0, 1) := by decide +kernel
theorem dX7_tryAllCauses_29 : decode cX7_tryAllCauses 29 = .ok (.istore_n 3, 1) := by decide +kernel
theorem dX7_tryAllCauses_30 : decode cX7_tryAllCauses 30 = .ok (.iload_n 3, 1) := by decide +kernel
theorem dX7_tryAllCauses_31 : decode cX7_tryAllCauses 31 = .ok (.bipush 16, 2) := by decide +kernel
theorem dX7_tryAllCauses_33 : decode cX7_tryAllCauses 33 = .ok (.if_icmp .ge 50, 3) := by decide +kernel
theorem dX7_tryAllCauses_36 : decode cX7_tryAllCauses 36 = .ok (.iload_n 2, 1) := by decide +kernel
theorem dX7_tryAllCauses_37 : decode cX7_tryAllCauses 37 = .ok (.bipush 16, 2) := by decide +kernel
theorem dX7_tryAllCauses_39 : decode cX7_tryAllCauses 39 = .ok (.iload_n 3, 1) := by decide +kernel
theorem dX7_tryAllCauses_40 : decode cX7_tryAllCauses 40 = .ok (.imul, 1) := by decide +kernel
theorem dX7_tryAllCauses_41 : decode cX7_tryAllCauses 41 = .ok (.iadd, 1) := by decide +kernel
theorem dX7_tryAllCauses_42 : decode cX7_tryAllCauses 42 = .ok (.istore 4, 2) := by decide +kernel
theorem dX7_tryAllCauses_44 : decode cX7_tryAllCauses 44 = .ok (.aload_n 0, 1) := by decide +kernel
theorem dX7_tryAllCauses_45 : decode cX7_tryAllCauses 45 = .ok (.getfield 20, 3) := by decide +kernel
theorem dX7_tryAllCauses_48 : decode cX7_tryAllCauses 48 = .ok (.iload 4, 2) := by decide +kernel
theorem dX7_tryAllCauses_50 : decode cX7_tryAllCauses 50 = .ok (.invokevirtual 257, 3) := by decide +kernel
theorem dX7_tryAllCauses_53 : decode cX7_tryAllCauses 53 = .ok (.aload_n 0, 1) := by decide +kernel
theorem dX7_tryAllCauses_54 : decode cX7_tryAllCauses 54 = .ok (.getfield 55, 3) := by decide +kernel
theorem dX7_tryAllCauses_57 : decode cX7_tryAllCauses 57 = .ok (.iload_n 1, 1) := by decide +kernel
theorem dX7_tryAllCauses_58 : decode cX7_tryAllCauses 58 = .ok (.aload_n 0, 1) := by decide +kernel
theorem dX7_tryAllCauses_59 : decode cX7_tryAllCauses 59 = .ok (.getfield 20, 3) := by decide +kernel
theorem dX7_tryAllCauses_62 : decode cX7_tryAllCauses 62 = .ok (.invokevirtual 261, 3) := by decide +kernel
theorem dX7_tryAllCauses_65 : decode cX7_tryAllCauses 65 = .ok (.ifCond .eq 12, 3) := by decide +kernel
theorem dX7_tryAllCauses_68 : decode cX7_tryAllCauses 68 = .ok (.aload_n 0, 1) := by decide +kernel
theorem dX7_tryAllCauses_69 : decode cX7_tryAllCauses 69 = .ok (.getfield 62, 3) := by decide +kernel
theorem dX7_tryAllCauses_72 : decode cX7_tryAllCauses 72 = .ok (.iload 4, 2) := by decide +kernel
theorem dX7_tryAllCauses_74 : decode cX7_tryAllCauses 74 = .ok (.invokevirtual 302, 3) := by decide +kernel
theorem dX7_tryAllCauses_77 : decode cX7_tryAllCauses 77 = .ok (.iinc 3 1, 3) := by decide +kernel
theorem dX7_tryAllCauses_80 : decode cX7_tryAllCauses 80 = .ok (.goto (-50), 3) := by decide +kernel
theorem dX7_tryAllCauses_83 : decode cX7_tryAllCauses 83 = .ok (.iinc 2 1, 3) := by decide +kernel
theorem dX7_tryAllCauses_86 : decode cX7_tryAllCauses 86 = .ok (.goto (-64), 3) := by decide +kernel
theorem dX7_tryAllCauses_89 : decode cX7_tryAllCauses 89 = .ok (.return_, 1) := by decide +kernel
theorem dX8_init_0 : decode cX8_init 0 = .ok (.aload_n 0, 1) := by decide +kernel
theorem dX8_init_1 : decode cX8_init 1 = .ok (.invokespecial 1, 3) := by decide +kernel
theorem dX8_init_4 : decode cX8_init 4 = .ok (.aload_n 0, 1) := by decide +kernel
theorem dX8_init_5 : decode cX8_init 5 = .ok (.bipush 52, 2) := by decide +kernel
theorem dX8_init_7 : decode cX8_init 7 = .ok (.newarray .int, 2) := by decide +kernel
theorem dX8_init_9 : decode cX8_init 9 = .ok (.putfield 7, 3) := by decide +kernel
theorem dX8_init_12 : decode cX8_init 12 = .ok (.aload_n 0, 1) := by decide +kernel
theorem dX8_init_13 : decode cX8_init 13 = .ok (.bipush 13, 2) := by decide +kernel
theorem dX8_init_15 : decode cX8_init 15 = .ok (.newarray .int, 2) := by decide +kernel
theorem dX8_init_17 : decode cX8_init 17 = .ok (.putfield 13, 3) := by decide +kernel
theorem dX8_init_20 : decode cX8_init 20 = .ok (.aload_n 0, 1) := by decide +kernel
theorem dX8_init_21 : decode cX8_init 21 = .ok (.bipush 12, 2) := by decide +kernel
theorem dX8_init_23 : decode cX8_init 23 = .ok (.newarray .int, 2) := by decide +kernel
theorem dX8_init_25 : decode cX8_init 25 = .ok (.putfield 16, 3) := by decide +kernel
theorem dX8_init_28 : decode cX8_init 28 = .ok (.aload_n 0, 1) := by decide +kernel
theorem dX8_init_29 : decode cX8_init 29 = .ok (.bipush 12, 2) := by decide +kernel
theorem dX8_init_31 : decode cX8_init 31 = .ok (.newarray .int, 2) := by decide +kernel
theorem dX8_init_33 : decode cX8_init 33 = .ok (.putfield 19, 3) := by decide +kernel
theorem dX8_init_36 : decode cX8_init 36 = .ok (.aload_n 0, 1) := by decide +kernel
theorem dX8_init_37 : decode cX8_init 37 = .ok (.bipush 6, 2) := by decide +kernel
theorem dX8_init_39 : decode cX8_init 39 = .ok (.newarray .int, 2) := by decide +kernel
theorem dX8_init_41 : decode cX8_init 41 = .ok (.putfield 22, 3) := by decide +kernel
theorem dX8_init_44 : decode cX8_init 44 = .ok (.aload_n 0, 1) := by decide +kernel
theorem dX8_init_45 : decode cX8_init 45 = .ok (.bipush 6, 2) := by decide +kernel
theorem dX8_init_47 : decode cX8_init 47 = .ok (.newarray .int, 2) := by decide +kernel
theorem dX8_init_49 : decode cX8_init 49 = .ok (.putfield 25, 3) := by decide +kernel
theorem dX8_init_52 : decode cX8_init 52 = .ok (.aload_n 0, 1) := by decide +kernel
theorem dX8_init_53 : decode cX8_init 53 = .ok (.ldc 28, 2) := by decide +kernel
theorem dX8_init_55 : decode cX8_init 55 = .ok (.putfield 29, 3) := by decide +kernel
theorem dX8_init_58 : decode cX8_init 58 = .ok (.aload_n 0, 1) := by decide +kernel
theorem dX8_init_59 : decode cX8_init 59 = .ok (.sipush 150, 3) := by decide +kernel
theorem dX8_init_62 : decode cX8_init 62 = .ok (.newarray .int, 2) := by decide +kernel
theorem dX8_init_64 : decode cX8_init 64 = .ok (.putfield 33, 3) := by decide +kernel
theorem dX8_init_67 : decode cX8_init 67 = .ok (.aload_n 0, 1) := by decide +kernel
theorem dX8_init_68 : decode cX8_init 68 = .ok (.bipush 48, 2) := by decide +kernel
theorem dX8_init_70 : decode cX8_init 70 = .ok (.newarray .int, 2) := by decide +kernel
theorem dX8_init_72 : decode cX8_init 72 = .ok (.putfield 36, 3) := by decide +kernel
theorem dX8_init_75 : decode cX8_init 75 = .ok (.aload_n 0, 1) := by decide +kernel
theorem dX8_init_76 : decode cX8_init 76 = .ok (.bipush 52, 2) := by decide +kernel
theorem dX8_init_78 : decode cX8_init 78 = .ok (.newarray .int, 2) := by decide +kernel
theorem dX8_init_80 : decode cX8_init 80 = .ok (.putfield 39, 3) := by decide +kernel
theorem dX8_init_83 : decode cX8_init 83 = .ok (.aload_n 0, 1) := by decide +kernel
theorem dX8_init_84 : decode cX8_init 84 = .ok (.bipush 11, 2) := by decide +kernel
theorem dX8_init_86 : decode cX8_init 86 = .ok (.newarray .long, 2) := by decide +kernel
theorem dX8_init_88 : decode cX8_init 88 = .ok (.putfield 42, 3) := by decide +kernel
theorem dX8_init_91 : decode cX8_init 91 = .ok (.aload_n 0, 1) := by decide +kernel
theorem dX8_init_92 : decode cX8_init 92 = .ok (.bipush 12, 2) := by decide +kernel
theorem dX8_init_94 : decode cX8_init 94 = .ok (.newarray .int, 2) := by decide +kernel
theorem dX8_init_96 : decode cX8_init 96 = .ok (.putfield 46, 3) := by decide +kernel
theorem dX8_init_99 : decode cX8_init 99 = .ok (.aload_n 0, 1) := by decide +kernel
theorem dX8_init_100 : decode cX8_init 100 = .ok (.bipush 12, 2) := by decide +kernel
theorem dX8_init_102 : decode cX8_init 102 = .ok (.newarray .int, 2) := by decide +kernel
theorem dX8_init_104 : decode cX8_init 104 = .ok (.putfield 49, 3) := by decide +kernel
theorem dX8_init_107 : decode cX8_init 107 = .ok (.aload_n 0, 1) := by decide +kernel
theorem dX8_init_108 : decode cX8_init 108 = .ok (.bipush 12, 2) := by decide +kernel
theorem dX8_init_110 : decode cX8_init 110 = .ok (.newarray .int, 2) := by decide +kernel
theorem dX8_init_112 : decode cX8_init 112 = .ok (.putfield 52, 3) := by decide +kernel
theorem dX8_init_115 : decode cX8_init 115 = .ok (.aload_n 0, 1) := by decide +kernel
theorem dX8_init_116 : decode cX8_init 116 = .ok (.bipush 20, 2) := by decide +kernel
theorem dX8_init_118 : decode cX8_init 118 = .ok (.putfield 55, 3) := by decide +kernel
theorem dX8_init_121 : decode cX8_init 121 = .ok (.aload_n 0, 1) := by decide +kernel
theorem dX8_init_122 : decode cX8_init 122 = .ok (.iconst 5, 1) := by decide +kernel
theorem dX8_init_123 : decode cX8_init 123 = .ok (.putfield 58, 3) := by decide +kernel
theorem dX8_init_126 : decode cX8_init 126 = .ok (.aload_n 0, 1) := by decide +kernel
theorem dX8_init_127 : decode cX8_init 127 = .ok (.iconst 4, 1) := by decide +kernel
theorem dX8_init_128 : decode cX8_init 128 = .ok (.newarray .int, 2) := by decide +kernel
theorem dX8_init_130 : decode cX8_init 130 = .ok (.putfield 61, 3) := by decide +kernel
theorem dX8_init_133 : decode cX8_init 133 = .ok (.iconst 0, 1) := by decide +kernel
theorem dX8_init_134 : decode cX8_init 134 = .ok (.istore_n 1, 1) := by decide +kernel
theorem dX8_init_135 : decode cX8_init 135 = .ok (.iload_n 1, 1) := by decide +kernel
theorem dX8_init_136 : decode cX8_init 136 = .ok (.bipush 12, 2) := by decide +kernel
theorem dX8_init_138 : decode cX8_init 138 = .ok (.if_icmp .ge 18, 3) := by decide +kernel
theorem dX8_init_141 : decode cX8_init 141 = .ok (.aload_n 0, 1) := by decide +kernel
theorem dX8_init_142 : decode cX8_init 142 = .ok (.getfield 16, 3) := by decide +kernel
theorem dX8_init_145 : decode cX8_init 145 = .ok (.iload_n 1, 1) := by decide +kernel
theorem dX8_init_146 : decode cX8_init 146 = .ok (.sipush 20000, 3) := by decide +kernel
theorem dX8_init_149 : decode cX8_init 149 = .ok (.iastore, 1) := by decide +kernel
theorem dX8_init_150 : decode cX8_init 150 = .ok (.iinc 1 1, 3) := by decide +kernel
theorem dX8_init_153 : decode cX8_init 153 = .ok (.goto (-18), 3) := by decide +kernel
theorem dX8_init_156 : decode cX8_init 156 = .ok (.return_, 1) := by decide +kernel
theorem dX8_in_0 : decode cX8_in 0 = .ok (.iload_n 0, 1) := by decide +kernel
theorem dX8_in_1 : decode cX8_in 1 = .ok (.iload_n 1, 1) := by decide +kernel
theorem dX8_in_2 : decode cX8_in 2 = .ok (.if_icmp .lt 12, 3) := by decide +kernel
theorem dX8_in_5 : decode cX8_in 5 = .ok (.iload_n 0, 1) := by decide +kernel
theorem dX8_in_6 : decode cX8_in 6 = .ok (.iload_n 2, 1) := by decide +kernel
theorem dX8_in_7 : decode cX8_in 7 = .ok (.if_icmp .gt 7, 3) := by decide +kernel
theorem dX8_in_10 : decode cX8_in 10 = .ok (.iconst 1, 1) := by decide +kernel
theorem dX8_in_11 : decode cX8_in 11 = .ok (.goto 4, 3) := by decide +kernel
theorem dX8_in_14 : decode cX8_in 14 = .ok (.iconst 0, 1) := by decide +kernel
theorem dX8_in_15 : decode cX8_in 15 = .ok (.ireturn, 1) := by decide +kernel
set_option maxRecDepth 20000 in
theorem ggX8_isRam_X8_in : GoodIn wsX8_isRam wsX8_in := goodIn_r _ [5] (by decide +kernel) (by decide +kernel)
set_option maxRecDepth 20000 in
theorem gX8_isRam_X8_in : GoodIn wsX8_isRam (va_wsS RX8 70 yX8_in wsX8_in) := goodIn_app (goodIn_of _ (by decide +kernel)) ggX8_isRam_X8_in
theorem dX8_isRam_0 : decode cX8_isRam 0 = .ok (.iload_n 1, 1) := by decide +kernel
theorem dX8_isRam_1 : decode cX8_isRam 1 = .ok (.iconst 0, 1) := by decide +kernel
theorem dX8_isRam_2 : decode cX8_isRam 2 = .ok (.aload_n 0, 1) := by decide +kernel
theorem dX8_isRam_3 : decode cX8_isRam 3 = .ok (.getfield 67, 3) := by decide +kernel
theorem dX8_isRam_6 : decode cX8_isRam 6 = .ok (.iconst 1, 1) := by decide +kernel
theorem dX8_isRam_7 : decode cX8_isRam 7 = .ok (.isub, 1) := by decide +kernel
theorem dX8_isRam_8 : decode cX8_isRam 8 = .ok (.invokestatic 70, 3) := by decide +kernel
theorem dX8_isRam_11 : decode cX8_isRam 11 = .ok (.ireturn, 1) := by decide +kernel
set_option maxRecDepth 20000 in
theorem ggX8_ram_X8_in : GoodIn wsX8_ram wsX8_in := goodIn_r _ [7] (by decide +kernel) (by decide +kernel)
set_option maxRecDepth 20000 in
theorem gX8_ram_X8_in : GoodIn wsX8_ram (va_wsS RX8 70 yX8_in wsX8_in) := goodIn_app (goodIn_of _ (by decide +kernel)) ggX8_ram_X8_in
theorem dX8_ram_0 : decode cX8_ram 0 = .ok (.aload_n 0, 1) := by decide +kernel
theorem dX8_ram_1 : decode cX8_ram 1 = .ok (.iconst 0, 1) := by decide +kernel
theorem dX8_ram_2 : decode cX8_ram 2 = .ok (.putfield 64, 3) := by decide +kernel
theorem dX8_ram_5 : decode cX8_ram 5 = .ok (.iload_n 1, 1) := by decide +kernel
theorem dX8_ram_6 : decode cX8_ram 6 = .ok (.iconst 5, 1) := by decide +kernel
theorem dX8_ram_7 : decode cX8_ram 7 = .ok (.sipush 200, 3) := by decide +kernel
theorem dX8_ram_10 : decode cX8_ram 10 = .ok (.invokestatic 70, 3) := by decide +kernel
theorem dX8_ram_13 : decode cX8_ram 13 = .ok (.ifCond .eq 39, 3) := by decide +kernel
theorem dX8_ram_16 : decode cX8_ram 16 = .ok (.iload_n 2, 1) := by decide +kernel
theorem dX8_ram_17 : decode cX8_ram 17 = .ok (.iload_n 1, 1) := by decide +kernel
theorem dX8_ram_18 : decode cX8_ram 18 = .ok (.iconst 1, 1) := by decide +kernel
theorem dX8_ram_19 : decode cX8_ram 19 = .ok (.iadd, 1) := by decide +kernel
theorem dX8_ram_20 : decode cX8_ram 20 = .ok (.sipush 1000, 3) := by decide +kernel
theorem dX8_ram_23 : decode cX8_ram 23 = .ok (.invokestatic 70, 3) := by decide +kernel
theorem dX8_ram_26 : decode cX8_ram 26 = .ok (.ifCond .eq 26, 3) := by decide +kernel
theorem dX8_ram_29 : decode cX8_ram 29 = .ok (.iload_n 3, 1) := by decide +kernel
theorem dX8_ram_30 : decode cX8_ram 30 = .ok (.bipush 20, 2) := by decide +kernel
theorem dX8_ram_32 : decode cX8_ram 32 = .ok (.sipush 900, 3) := by decide +kernel
theorem dX8_ram_35 : decode cX8_ram 35 = .ok (.invokestatic 70, 3) := by decide +kernel
theorem dX8_ram_38 : decode cX8_ram 38 = .ok (.ifCond .eq 14, 3) := by decide +kernel
theorem dX8_ram_41 : decode cX8_ram 41 = .ok (.iload 4, 2) := by decide +kernel
theorem dX8_ram_43 : decode cX8_ram 43 = .ok (.iconst 1, 1) := by decide +kernel
theorem dX8_ram_44 : decode cX8_ram 44 = .ok (.bipush 9, 2) := by decide +kernel
theorem dX8_ram_46 : decode cX8_ram 46 = .ok (.invokestatic 70, 3) := by decide +kernel
theorem dX8_ram_49 : decode cX8_ram 49 = .ok (.ifCond .ne 5, 3) := by decide +kernel
theorem dX8_ram_52 : decode cX8_ram 52 = .ok (.iconst (-1), 1) := by decide +kernel
theorem dX8_ram_53 : decode cX8_ram 53 = .ok (.ireturn, 1) := by decide +kernel
theorem dX8_ram_54 : decode cX8_ram 54 = .ok (.aload_n 0, 1) := by decide +kernel
theorem dX8_ram_55 : decode cX8_ram 55 = .ok (.getfield 67, 3) := by decide +kernel
theorem dX8_ram_58 : decode cX8_ram 58 = .ok (.iconst 4, 1) := by decide +kernel
theorem dX8_ram_59 : decode cX8_ram 59 = .ok (.if_icmp .ne 6, 3) := by decide +kernel
theorem dX8_ram_62 : decode cX8_ram 62 = .ok (.bipush (-3), 2) := by decide +kernel
theorem dX8_ram_64 : decode cX8_ram 64 = .ok (.ireturn, 1) := by decide +kernel
theorem dX8_ram_65 : decode cX8_ram 65 = .ok (.bipush 13, 2) := by decide +kernel
theorem dX8_ram_67 : decode cX8_ram 67 = .ok (.aload_n 0, 1) := by decide +kernel
theorem dX8_ram_68 : decode cX8_ram 68 = .ok (.getfield 67, 3) := by decide +kernel
theorem dX8_ram_71 : decode cX8_ram 71 = .ok (.imul, 1) := by decide +kernel
theorem dX8_ram_72 : decode cX8_ram 72 = .ok (.istore 5, 2) := by decide +kernel
theorem dX8_ram_74 : decode cX8_ram 74 = .ok (.iconst 0, 1) := by decide +kernel
theorem dX8_ram_75 : decode cX8_ram 75 = .ok (.istore 6, 2) := by decide +kernel
theorem dX8_ram_77 : decode cX8_ram 77 = .ok (.iload 6, 2) := by decide +kernel
theorem dX8_ram_79 : decode cX8_ram 79 = .ok (.bipush 13, 2) := by decide +kernel
theorem dX8_ram_81 : decode cX8_ram 81 = .ok (.if_icmp .ge 20, 3) := by decide +kernel
theorem dX8_ram_84 : decode cX8_ram 84 = .ok (.aload_n 0, 1) := by decide +kernel
theorem dX8_ram_85 : decode cX8_ram 85 = .ok (.getfield 7, 3) := by decide +kernel
theorem dX8_ram_88 : decode cX8_ram 88 = .ok (.iload 5, 2) := by decide +kernel
theorem dX8_ram_90 : decode cX8_ram 90 = .ok (.iload 6, 2) := by decide +kernel
theorem dX8_ram_92 : decode cX8_ram 92 = .ok (.iadd, 1) := by decide +kernel
theorem dX8_ram_93 : decode cX8_ram 93 = .ok (.iconst 0, 1) := by decide +kernel
theorem dX8_ram_94 : decode cX8_ram 94 = .ok (.iastore, 1) := by decide +kernel
theorem dX8_ram_95 : decode cX8_ram 95 = .ok (.iinc 6 1, 3) := by decide +kernel
theorem dX8_ram_98 : decode cX8_ram 98 = .ok (.goto (-21), 3) := by decide +kernel
theorem dX8_ram_101 : decode cX8_ram 101 = .ok (.aload_n 0, 1) := by decide +kernel
theorem dX8_ram_102 : decode cX8_ram 102 = .ok (.getfield 7, 3) := by decide +kernel
theorem dX8_ram_105 : decode cX8_ram 105 = .ok (.iload 5, 2) := by decide +kernel
theorem dX8_ram_107 : decode cX8_ram 107 = .ok (.iconst 0, 1) := by decide +kernel
theorem dX8_ram_108 : decode cX8_ram 108 = .ok (.iadd, 1) := by decide +kernel
theorem dX8_ram_109 : decode cX8_ram 109 = .ok (.iload_n 1, 1) := by decide +kernel
theorem dX8_ram_110 : decode cX8_ram 110 = .ok (.iastore, 1) := by decide +kernel
theorem dX8_ram_111 : decode cX8_ram 111 = .ok (.aload_n 0, 1) := by decide +kernel
theorem dX8_ram_112 : decode cX8_ram 112 = .ok (.getfield 7, 3) := by decide +kernel
theorem dX8_ram_115 : decode cX8_ram 115 = .ok (.iload 5, 2) := by decide +kernel
theorem dX8_ram_117 : decode cX8_ram 117 = .ok (.iconst 1, 1) := by decide +kernel
theorem dX8_ram_118 : decode cX8_ram 118 = .ok (.iadd, 1) := by decide +kernel
theorem dX8_ram_119 : decode cX8_ram 119 = .ok (.iload_n 2, 1) := by decide +kernel
theorem dX8_ram_120 : decode cX8_ram 120 = .ok (.iastore, 1) := by decide +kernel
theorem dX8_ram_121 : decode cX8_ram 121 = .ok (.aload_n 0, 1) := by decide +kernel
theorem dX8_ram_122 : decode cX8_ram 122 = .ok (.getfield 7, 3) := by decide +kernel
theorem dX8_ram_125 : decode cX8_ram 125 = .ok (.iload 5, 2) := by decide +kernel
theorem dX8_ram_127 : decode cX8_ram 127 = .ok (.iconst 2, 1) := by decide +kernel
theorem dX8_ram_128 : decode cX8_ram 128 = .ok (.iadd, 1) := by decide +kernel
theorem dX8_ram_129 : decode cX8_ram 129 = .ok (.iload_n 3, 1) := by decide +kernel
theorem dX8_ram_130 : decode cX8_ram 130 = .ok (.iastore, 1) := by decide +kernel
theorem dX8_ram_131 : decode cX8_ram 131 = .ok (.aload_n 0, 1) := by decide +kernel
theorem dX8_ram_132 : decode cX8_ram 132 = .ok (.getfield 7, 3) := by decide +kernel
theorem dX8_ram_135 : decode cX8_ram 135 = .ok (.iload 5, 2) := by decide +kernel
theorem dX8_ram_137 : decode cX8_ram 137 = .ok (.iconst 3, 1) := by decide +kernel
theorem dX8_ram_138 : decode cX8_ram 138 = .ok (.iadd, 1) := by decide +kernel
theorem dX8_ram_139 : decode cX8_ram 139 = .ok (.iload 4, 2) := by decide +kernel
theorem dX8_ram_141 : decode cX8_ram 141 = .ok (.iastore, 1) := by decide +kernel
theorem dX8_ram_142 : decode cX8_ram 142 = .ok (.aload_n 0, 1) := by decide +kernel
theorem dX8_ram_143 : decode cX8_ram 143 = .ok (.getfield 7, 3) := by decide +kernel
theorem dX8_ram_146 : decode cX8_ram 146 = .ok (.iload 5, 2) := by decide +kernel
theorem dX8_ram_148 : decode cX8_ram 148 = .ok (.iconst 4, 1) := by decide +kernel
theorem dX8_ram_149 : decode cX8_ram 149 = .ok (.iadd, 1) := by decide +kernel
theorem dX8_ram_150 : decode cX8_ram 150 = .ok (.bipush 60, 2) := by decide +kernel
theorem dX8_ram_152 : decode cX8_ram 152 = .ok (.iastore, 1) := by decide +kernel
theorem dX8_ram_153 : decode cX8_ram 153 = .ok (.aload_n 0, 1) := by decide +kernel
theorem dX8_ram_154 : decode cX8_ram 154 = .ok (.getfield 7, 3) := by decide +kernel
theorem dX8_ram_157 : decode cX8_ram 157 = .ok (.iload 5, 2) := by decide +kernel
theorem dX8_ram_159 : decode cX8_ram 159 = .ok (.iconst 5, 1) := by decide +kernel
theorem dX8_ram_160 : decode cX8_ram 160 = .ok (.iadd, 1) := by decide +kernel
theorem dX8_ram_161 : decode cX8_ram 161 = .ok (.iconst 4, 1) := by decide +kernel
theorem dX8_ram_162 : decode cX8_ram 162 = .ok (.iastore, 1) := by decide +kernel
theorem dX8_ram_163 : decode cX8_ram 163 = .ok (.aload_n 0, 1) := by decide +kernel
theorem dX8_ram_164 : decode cX8_ram 164 = .ok (.getfield 7, 3) := by decide +kernel
theorem dX8_ram_167 : decode cX8_ram 167 = .ok (.iload 5, 2) := by decide +kernel
theorem dX8_ram_169 : decode cX8_ram 169 = .ok (.bipush 6, 2) := by decide +kernel
theorem dX8_ram_171 : decode cX8_ram 171 = .ok (.iadd, 1) := by decide +kernel
theorem dX8_ram_172 : decode cX8_ram 172 = .ok (.bipush 100, 2) := by decide +kernel
theorem dX8_ram_174 : decode cX8_ram 174 = .ok (.iastore, 1) := by decide +kernel
theorem dX8_ram_175 : decode cX8_ram 175 = .ok (.aload_n 0, 1) := by decide +kernel
theorem dX8_ram_176 : decode cX8_ram 176 = .ok (.getfield 7, 3) := by decide +kernel
theorem dX8_ram_179 : decode cX8_ram 179 = .ok (.iload 5, 2) := by decide +kernel
theorem dX8_ram_181 : decode cX8_ram 181 = .ok (.bipush 12, 2) := by decide +kernel
theorem dX8_ram_183 : decode cX8_ram 183 = .ok (.iadd, 1) := by decide +kernel
theorem dX8_ram_184 : decode cX8_ram 184 = .ok (.iconst 1, 1) := by decide +kernel
theorem dX8_ram_185 : decode cX8_ram 185 = .ok (.iastore, 1) := by decide +kernel
theorem dX8_ram_186 : decode cX8_ram 186 = .ok (.aload_n 0, 1) := by decide +kernel
theorem dX8_ram_187 : decode cX8_ram 187 = .ok (.dup, 1) := by decide +kernel
theorem dX8_ram_188 : decode cX8_ram 188 = .ok (.getfield 67, 3) := by decide +kernel
theorem dX8_ram_191 : decode cX8_ram 191 = .ok (.iconst 1, 1) := by decide +kernel
theorem dX8_ram_192 : decode cX8_ram 192 = .ok (.iadd, 1) := by decide +kernel
theorem dX8_ram_193 : decode cX8_ram 193 = .ok (.putfield 67, 3) := by decide +kernel
theorem dX8_ram_196 : decode cX8_ram 196 = .ok (.aload_n 0, 1) := by decide +kernel
theorem dX8_ram_197 : decode cX8_ram 197 = .ok (.getfield 67, 3) := by decide +kernel
theorem dX8_ram_200 : decode cX8_ram 200 = .ok (.iconst 1, 1) := by decide +kernel
theorem dX8_ram_201 : decode cX8_ram 201 = .ok (.isub, 1) := by decide +kernel
theorem dX8_ram_202 : decode cX8_ram 202 = .ok (.ireturn, 1) := by decide +kernel
set_option maxRecDepth 20000 in
theorem ggX8_isValue_X8_in : GoodIn wsX8_isValue wsX8_in := goodIn_r _ [5] (by decide +kernel) (by decide +kernel)
set_option maxRecDepth 20000 in
theorem gX8_isValue_X8_in : GoodIn wsX8_isValue (va_wsS RX8 70 yX8_in wsX8_in) := goodIn_app (goodIn_of _ (by decide +kernel)) ggX8_isValue_X8_in
theorem dX8_isValue_0 : decode cX8_isValue 0 = .ok (.iload_n 2, 1) := by decide +kernel
theorem dX8_isValue_1 : decode cX8_isValue 1 = .ok (.tableswitch 163 0 10 #[59, 88, 106, 116, 124, 133, 141, 149, 149, 149, 156], 59) := by decide +kernel
theorem dX8_isValue_60 : decode cX8_isValue 60 = .ok (.iload_n 3, 1) := by decide +kernel
theorem dX8_isValue_61 : decode cX8_isValue 61 = .ok (.iconst 5, 1) := by decide +kernel
theorem dX8_isValue_62 : decode cX8_isValue 62 = .ok (.sipush 200, 3) := by decide +kernel
theorem dX8_isValue_65 : decode cX8_isValue 65 = .ok (.invokestatic 70, 3) := by decide +kernel
theorem dX8_isValue_68 : decode cX8_isValue 68 = .ok (.ifCond .eq 19, 3) := by decide +kernel
theorem dX8_isValue_71 : decode cX8_isValue 71 = .ok (.iload_n 3, 1) := by decide +kernel
theorem dX8_isValue_72 : decode cX8_isValue 72 = .ok (.aload_n 0, 1) := by decide +kernel
theorem dX8_isValue_73 : decode cX8_isValue 73 = .ok (.getfield 7, 3) := by decide +kernel
theorem dX8_isValue_76 : decode cX8_isValue 76 = .ok (.iload_n 1, 1) := by decide +kernel
theorem dX8_isValue_77 : decode cX8_isValue 77 = .ok (.iconst 1, 1) := by decide +kernel
theorem dX8_isValue_78 : decode cX8_isValue 78 = .ok (.iadd, 1) := by decide +kernel
theorem dX8_isValue_79 : decode cX8_isValue 79 = .ok (.iaload, 1) := by decide +kernel
theorem dX8_isValue_80 : decode cX8_isValue 80 = .ok (.if_icmp .ge 7, 3) := by decide +kernel
theorem dX8_isValue_83 : decode cX8_isValue 83 = .ok (.iconst 1, 1) := by decide +kernel
theorem dX8_isValue_84 : decode cX8_isValue 84 = .ok (.goto 4, 3) := by decide +kernel
theorem dX8_isValue_87 : decode cX8_isValue 87 = .ok (.iconst 0, 1) := by decide +kernel
theorem dX8_isValue_88 : decode cX8_isValue 88 = .ok (.ireturn, 1) := by decide +kernel
theorem dX8_isValue_89 : decode cX8_isValue 89 = .ok (.iload_n 3, 1) := by decide +kernel
theorem dX8_isValue_90 : decode cX8_isValue 90 = .ok (.aload_n 0, 1) := by decide +kernel
theorem dX8_isValue_91 : decode cX8_isValue 91 = .ok (.getfield 7, 3) := by decide +kernel
theorem dX8_isValue_94 : decode cX8_isValue 94 = .ok (.iload_n 1, 1) := by decide +kernel
theorem dX8_isValue_95 : decode cX8_isValue 95 = .ok (.iconst 0, 1) := by decide +kernel
theorem dX8_isValue_96 : decode cX8_isValue 96 = .ok (.iadd, 1) := by decide +kernel
theorem dX8_isValue_97 : decode cX8_isValue 97 = .ok (.iaload, 1) := by decide +kernel
theorem dX8_isValue_98 : decode cX8_isValue 98 = .ok (.iconst 1, 1) := by decide +kernel
theorem dX8_isValue_99 : decode cX8_isValue 99 = .ok (.iadd, 1) := by decide +kernel
theorem dX8_isValue_100 : decode cX8_isValue 100 = .ok (.sipush 1000, 3) := by decide +kernel
theorem dX8_isValue_103 : decode cX8_isValue 103 = .ok (.invokestatic 70, 3) := by decide +kernel
theorem dX8_isValue_106 : decode cX8_isValue 106 = .ok (.ireturn, 1) := by decide +kernel
theorem dX8_isValue_107 : decode cX8_isValue 107 = .ok (.iload_n 3, 1) := by decide +kernel
theorem dX8_isValue_108 : decode cX8_isValue 108 = .ok (.bipush 20, 2) := by decide +kernel
theorem dX8_isValue_110 : decode cX8_isValue 110 = .ok (.sipush 900, 3) := by decide +kernel
theorem dX8_isValue_113 : decode cX8_isValue 113 = .ok (.invokestatic 70, 3) := by decide +kernel
theorem dX8_isValue_116 : decode cX8_isValue 116 = .ok (.ireturn, 1) := by decide +kernel
theorem dX8_isValue_117 : decode cX8_isValue 117 = .ok (.iload_n 3, 1) := by decide +kernel
theorem dX8_isValue_118 : decode cX8_isValue 118 = .ok (.iconst 1, 1) := by decide +kernel
theorem dX8_isValue_119 : decode cX8_isValue 119 = .ok (.bipush 9, 2) := by decide +kernel
theorem dX8_isValue_121 : decode cX8_isValue 121 = .ok (.invokestatic 70, 3) := by decide +kernel
theorem dX8_isValue_124 : decode cX8_isValue 124 = .ok (.ireturn, 1) := by decide +kernel
theorem dX8_isValue_125 : decode cX8_isValue 125 = .ok (.iload_n 3, 1) := by decide +kernel
theorem dX8_isValue_126 : decode cX8_isValue 126 = .ok (.iconst 5, 1) := by decide +kernel
theorem dX8_isValue_127 : decode cX8_isValue 127 = .ok (.sipush 400, 3) := by decide +kernel
theorem dX8_isValue_130 : decode cX8_isValue 130 = .ok (.invokestatic 70, 3) := by decide +kernel
theorem dX8_isValue_133 : decode cX8_isValue 133 = .ok (.ireturn, 1) := by decide +kernel
theorem dX8_isValue_134 : decode cX8_isValue 134 = .ok (.iload_n 3, 1) := by decide +kernel
theorem dX8_isValue_135 : decode cX8_isValue 135 = .ok (.iconst 1, 1) := by decide +kernel
theorem dX8_isValue_136 : decode cX8_isValue 136 = .ok (.bipush 9, 2) := by decide +kernel
theorem dX8_isValue_138 : decode cX8_isValue 138 = .ok (.invokestatic 70, 3) := by decide +kernel
theorem dX8_isValue_141 : decode cX8_isValue 141 = .ok (.ireturn, 1) := by decide +kernel
theorem dX8_isValue_142 : decode cX8_isValue 142 = .ok (.iload_n 3, 1) := by decide +kernel
theorem dX8_isValue_143 : decode cX8_isValue 143 = .ok (.iconst 0, 1) := by decide +kernel
theorem dX8_isValue_144 : decode cX8_isValue 144 = .ok (.bipush 100, 2) := by decide +kernel
theorem dX8_isValue_146 : decode cX8_isValue 146 = .ok (.invokestatic 70, 3) := by decide +kernel
theorem dX8_isValue_149 : decode cX8_isValue 149 = .ok (.ireturn, 1) := by decide +kernel
theorem dX8_isValue_150 : decode cX8_isValue 150 = .ok (.iload_n 3, 1) := by decide +kernel
theorem dX8_isValue_151 : decode cX8_isValue 151 = .ok (.iconst 0, 1) := by decide +kernel
theorem dX8_isValue_152 : decode cX8_isValue 152 = .ok (.iconst 3, 1) := by decide +kernel
theorem dX8_isValue_153 : decode cX8_isValue 153 = .ok (.invokestatic 70, 3) := by decide +kernel
theorem dX8_isValue_156 : decode cX8_isValue 156 = .ok (.ireturn, 1) := by decide +kernel
theorem dX8_isValue_157 : decode cX8_isValue 157 = .ok (.iload_n 3, 1) := by decide +kernel
theorem dX8_isValue_158 : decode cX8_isValue 158 = .ok (.iconst 0, 1) := by decide +kernel
theorem dX8_isValue_159 : decode cX8_isValue 159 = .ok (.iconst 2, 1) := by decide +kernel
theorem dX8_isValue_160 : decode cX8_isValue 160 = .ok (.invokestatic 70, 3) := by decide +kernel
theorem dX8_isValue_163 : decode cX8_isValue 163 = .ok (.ireturn, 1) := by decide +kernel
theorem dX8_isValue_164 : decode cX8_isValue 164 = .ok (.iload_n 3, 1) := by decide +kernel
theorem dX8_isValue_165 : decode cX8_isValue 165 = .ok (.iconst 0, 1) := by decide +kernel
theorem dX8_isValue_166 : decode cX8_isValue 166 = .ok (.iconst 1, 1) := by decide +kernel
theorem dX8_isValue_167 : decode cX8_isValue 167 = .ok (.invokestatic 70, 3) := by decide +kernel
theorem dX8_isValue_170 : decode cX8_isValue 170 = .ok (.ireturn, 1) := by decide +kernel
set_option maxRecDepth 20000 in
theorem ggX8_set_X8_isRam : GoodIn wsX8_set wsX8_isRam := goodIn_r _ [7, 8, 9, 10, 6, 11, 16, 17, 18, 19, 20, 21, 22, 23, 24, 25, 26, 27, 28, 29, 30, 31, 32, 33, 34, 35, 36, 37, 38, 39, 40, 41, 42, 43, 44, 45, 46, 47, 48, 49, 50, 51, 52, 53] (by decide +kernel) (by decide +kernel)
set_option maxRecDepth 20000 in
theorem gX8_set_X8_isRam : GoodIn wsX8_set (wsV RX8 74 RX8 yX8_isRam wsX8_isRam) := goodIn_app (goodIn_of _ (by decide +kernel)) ggX8_set_X8_isRam
set_option maxRecDepth 20000 in
theorem ggX8_set_X8_in : GoodIn wsX8_set wsX8_in := goodIn_r _ [11] (by decide +kernel) (by decide +kernel)
set_option maxRecDepth 20000 in
theorem gX8_set_X8_in : GoodIn wsX8_set (va_wsS RX8 70 yX8_in wsX8_in) := goodIn_app (goodIn_of _ (by decide +kernel)) ggX8_set_X8_in
set_option maxRecDepth 20000 in
theorem ggX8_set_X8_isValue : GoodIn wsX8_set wsX8_isValue := goodIn_r _ [15, 2, 9, 10, 6, 11, 16, 17, 18, 19, 20, 21, 22, 23, 24, 25, 26, 27, 28, 29, 30, 31, 32, 33, 34, 35, 36, 37, 38, 39, 40, 41, 42, 43, 44, 45, 46, 47, 48, 49, 50, 51, 52, 53] (by decide +kernel) (by decide +kernel)
set_option maxRecDepth 20000 in
theorem gX8_set_X8_isValue : GoodIn wsX8_set (wsV RX8 78 RX8 yX8_isValue wsX8_isValue) := goodIn_app (goodIn_of _ (by decide +kernel)) ggX8_set_X8_isValue
theorem dX8_set_0 : decode cX8_set 0 = .ok (.aload_n 0, 1) := by decide +kernel
theorem dX8_set_1 : decode cX8_set 1 = .ok (.iconst 0, 1) := by decide +kernel
theorem dX8_set_2 : decode cX8_set 2 = .ok (.putfield 64, 3) := by decide +kernel
theorem dX8_set_5 : decode cX8_set 5 = .ok (.aload_n 0, 1) := by decide +kernel
theorem dX8_set_6 : decode cX8_set 6 = .ok (.iload_n 1, 1) := by decide +kernel
theorem dX8_set_7 : decode cX8_set 7 = .ok (.invokevirtual 74, 3) := by decide +kernel
theorem dX8_set_10 : decode cX8_set 10 = .ok (.ifCond .eq 26, 3) := by decide +kernel
theorem dX8_set_13 : decode cX8_set 13 = .ok (.iload_n 2, 1) := by decide +kernel
theorem dX8_set_14 : decode cX8_set 14 = .ok (.iconst 0, 1) := by decide +kernel
theorem dX8_set_15 : decode cX8_set 15 = .ok (.bipush 12, 2) := by decide +kernel
theorem dX8_set_17 : decode cX8_set 17 = .ok (.invokestatic 70, 3) := by decide +kernel
theorem dX8_set_20 : decode cX8_set 20 = .ok (.ifCond .eq 16, 3) := by decide +kernel
theorem dX8_set_23 : decode cX8_set 23 = .ok (.aload_n 0, 1) := by decide +kernel
theorem dX8_set_24 : decode cX8_set 24 = .ok (.bipush 13, 2) := by decide +kernel
theorem dX8_set_26 : decode cX8_set 26 = .ok (.iload_n 1, 1) := by decide +kernel
theorem dX8_set_27 : decode cX8_set 27 = .ok (.imul, 1) := by decide +kernel
theorem dX8_set_28 : decode cX8_set 28 = .ok (.iload_n 2, 1) := by decide +kernel
theorem dX8_set_29 : decode cX8_set 29 = .ok (.iload_n 3, 1) := by decide +kernel
theorem dX8_set_30 : decode cX8_set 30 = .ok (.invokevirtual 78, 3) := by decide +kernel
theorem dX8_set_33 : decode cX8_set 33 = .ok (.ifCond .ne 5, 3) := by decide +kernel
theorem dX8_set_36 : decode cX8_set 36 = .ok (.iconst (-1), 1) := by decide +kernel
theorem dX8_set_37 : decode cX8_set 37 = .ok (.ireturn, 1) := by decide +kernel
theorem dX8_set_38 : decode cX8_set 38 = .ok (.aload_n 0, 1) := by decide +kernel
theorem dX8_set_39 : decode cX8_set 39 = .ok (.getfield 7, 3) := by decide +kernel
theorem dX8_set_42 : decode cX8_set 42 = .ok (.bipush 13, 2) := by decide +kernel
theorem dX8_set_44 : decode cX8_set 44 = .ok (.iload_n 1, 1) := by decide +kernel
theorem dX8_set_45 : decode cX8_set 45 = .ok (.imul, 1) := by decide +kernel
theorem dX8_set_46 : decode cX8_set 46 = .ok (.iload_n 2, 1) := by decide +kernel
theorem dX8_set_47 : decode cX8_set 47 = .ok (.iadd, 1) := by decide +kernel
theorem dX8_set_48 : decode cX8_set 48 = .ok (.iaload, 1) := by decide +kernel
theorem dX8_set_49 : decode cX8_set 49 = .ok (.istore 4, 2) := by decide +kernel
theorem dX8_set_51 : decode cX8_set 51 = .ok (.aload_n 0, 1) := by decide +kernel
theorem dX8_set_52 : decode cX8_set 52 = .ok (.getfield 7, 3) := by decide +kernel
theorem dX8_set_55 : decode cX8_set 55 = .ok (.bipush 13, 2) := by decide +kernel
theorem dX8_set_57 : decode cX8_set 57 = .ok (.iload_n 1, 1) := by decide +kernel
theorem dX8_set_58 : decode cX8_set 58 = .ok (.imul, 1) := by decide +kernel
theorem dX8_set_59 : decode cX8_set 59 = .ok (.iload_n 2, 1) := by decide +kernel
theorem dX8_set_60 : decode cX8_set 60 = .ok (.iadd, 1) := by decide +kernel
theorem dX8_set_61 : decode cX8_set 61 = .ok (.iload_n 3, 1) := by decide +kernel
theorem dX8_set_62 : decode cX8_set 62 = .ok (.iastore, 1) := by decide +kernel
theorem dX8_set_63 : decode cX8_set 63 = .ok (.iload 4, 2) := by decide +kernel
theorem dX8_set_65 : decode cX8_set 65 = .ok (.ireturn, 1) := by decide +kernel
set_option maxRecDepth 20000 in
theorem ggX8_about_X8_isRam : GoodIn wsX8_about wsX8_isRam := goodIn_r _ [7, 8, 9, 10, 6, 11, 12, 13, 14, 15, 16, 17, 18, 19, 20, 21, 22, 23, 24, 25, 26, 27, 28, 29, 30, 31, 32, 33, 34, 35, 36, 37, 38, 39, 40, 41, 42, 43, 44, 45, 46, 47, 48, 49] (by decide +kernel) (by decide +kernel)
set_option maxRecDepth 20000 in
theorem gX8_about_X8_isRam : GoodIn wsX8_about (wsV RX8 74 RX8 yX8_isRam wsX8_isRam) := goodIn_app (goodIn_of _ (by decide +kernel)) ggX8_about_X8_isRam
set_option maxRecDepth 20000 in
theorem ggX8_about_X8_in : GoodIn wsX8_about wsX8_in := goodIn_r _ [11] (by decide +kernel) (by decide +kernel)
set_option maxRecDepth 20000 in
theorem gX8_about_X8_in : GoodIn wsX8_about (va_wsS RX8 70 yX8_in wsX8_in) := goodIn_app (goodIn_of _ (by decide +kernel)) ggX8_about_X8_in
theorem dX8_about_0 : decode cX8_about 0 = .ok (.aload_n 0, 1) := by decide +kernel
theorem dX8_about_1 : decode cX8_about 1 = .ok (.iconst 0, 1) := by decide +kernel
theorem dX8_about_2 : decode cX8_about 2 = .ok (.putfield 64, 3) := by decide +kernel
theorem dX8_about_5 : decode cX8_about 5 = .ok (.aload_n 0, 1) := by decide +kernel
theorem dX8_about_6 : decode cX8_about 6 = .ok (.iload_n 1, 1) := by decide +kernel
theorem dX8_about_7 : decode cX8_about 7 = .ok (.invokevirtual 74, 3) := by decide +kernel
theorem dX8_about_10 : decode cX8_about 10 = .ok (.ifCond .eq 27, 3) := by decide +kernel
theorem dX8_about_13 : decode cX8_about 13 = .ok (.iload_n 2, 1) := by decide +kernel
theorem dX8_about_14 : decode cX8_about 14 = .ok (.iconst 0, 1) := by decide +kernel
theorem dX8_about_15 : decode cX8_about 15 = .ok (.bipush 12, 2) := by decide +kernel
theorem dX8_about_17 : decode cX8_about 17 = .ok (.invokestatic 70, 3) := by decide +kernel
theorem dX8_about_20 : decode cX8_about 20 = .ok (.ifCond .eq 17, 3) := by decide +kernel
theorem dX8_about_23 : decode cX8_about 23 = .ok (.aload_n 0, 1) := by decide +kernel
theorem dX8_about_24 : decode cX8_about 24 = .ok (.getfield 7, 3) := by decide +kernel
theorem dX8_about_27 : decode cX8_about 27 = .ok (.bipush 13, 2) := by decide +kernel
theorem dX8_about_29 : decode cX8_about 29 = .ok (.iload_n 1, 1) := by decide +kernel
theorem dX8_about_30 : decode cX8_about 30 = .ok (.imul, 1) := by decide +kernel
theorem dX8_about_31 : decode cX8_about 31 = .ok (.iload_n 2, 1) := by decide +kernel
theorem dX8_about_32 : decode cX8_about 32 = .ok (.iadd, 1) := by decide +kernel
theorem dX8_about_33 : decode cX8_about 33 = .ok (.iaload, 1) := by decide +kernel
theorem dX8_about_34 : decode cX8_about 34 = .ok (.goto 4, 3) := by decide +kernel
theorem dX8_about_37 : decode cX8_about 37 = .ok (.iconst (-1), 1) := by decide +kernel
theorem dX8_about_38 : decode cX8_about 38 = .ok (.ireturn, 1) := by decide +kernel
theorem dX8_takes_0 : decode cX8_takes 0 = .ok (.iconst 0, 1) := by decide +kernel
theorem dX8_takes_1 : decode cX8_takes 1 = .ok (.istore_n 2, 1) := by decide +kernel
theorem dX8_takes_2 : decode cX8_takes 2 = .ok (.iload_n 2, 1) := by decide +kernel
theorem dX8_takes_3 : decode cX8_takes 3 = .ok (.bipush 13, 2) := by decide +kernel
theorem dX8_takes_5 : decode cX8_takes 5 = .ok (.if_icmp .ge 26, 3) := by decide +kernel
theorem dX8_takes_8 : decode cX8_takes 8 = .ok (.aload_n 0, 1) := by decide +kernel
theorem dX8_takes_9 : decode cX8_takes 9 = .ok (.getfield 13, 3) := by decide +kernel
theorem dX8_takes_12 : decode cX8_takes 12 = .ok (.iload_n 2, 1) := by decide +kernel
theorem dX8_takes_13 : decode cX8_takes 13 = .ok (.aload_n 0, 1) := by decide +kernel
theorem dX8_takes_14 : decode cX8_takes 14 = .ok (.getfield 7, 3) := by decide +kernel
theorem dX8_takes_17 : decode cX8_takes 17 = .ok (.bipush 13, 2) := by decide +kernel
theorem dX8_takes_19 : decode cX8_takes 19 = .ok (.iload_n 1, 1) := by decide +kernel
theorem dX8_takes_20 : decode cX8_takes 20 = .ok (.imul, 1) := by decide +kernel
theorem dX8_takes_21 : decode cX8_takes 21 = .ok (.iload_n 2, 1) := by decide +kernel
theorem dX8_takes_22 : decode cX8_takes 22 = .ok (.iadd, 1) := by decide +kernel
theorem dX8_takes_23 : decode cX8_takes 23 = .ok (.iaload, 1) := by decide +kernel
theorem dX8_takes_24 : decode cX8_takes 24 = .ok (.iastore, 1) := by decide +kernel
theorem dX8_takes_25 : decode cX8_takes 25 = .ok (.iinc 2 1, 3) := by decide +kernel
theorem dX8_takes_28 : decode cX8_takes 28 = .ok (.goto (-26), 3) := by decide +kernel
theorem dX8_takes_31 : decode cX8_takes 31 = .ok (.return_, 1) := by decide +kernel
theorem dX8_workOf_0 : decode cX8_workOf 0 = .ok (.bipush 40, 2) := by decide +kernel
theorem dX8_workOf_2 : decode cX8_workOf 2 = .ok (.aload_n 0, 1) := by decide +kernel
theorem dX8_workOf_3 : decode cX8_workOf 3 = .ok (.getfield 13, 3) := by decide +kernel
theorem dX8_workOf_6 : decode cX8_workOf 6 = .ok (.bipush 6, 2) := by decide +kernel
theorem dX8_workOf_8 : decode cX8_workOf 8 = .ok (.iaload, 1) := by decide +kernel
theorem dX8_workOf_9 : decode cX8_workOf 9 = .ok (.iconst 4, 1) := by decide +kernel
theorem dX8_workOf_10 : decode cX8_workOf 10 = .ok (.idiv, 1) := by decide +kernel
theorem dX8_workOf_11 : decode cX8_workOf 11 = .ok (.iadd, 1) := by decide +kernel
theorem dX8_workOf_12 : decode cX8_workOf 12 = .ok (.iconst 3, 1) := by decide +kernel
theorem dX8_workOf_13 : decode cX8_workOf 13 = .ok (.aload_n 0, 1) := by decide +kernel
theorem dX8_workOf_14 : decode cX8_workOf 14 = .ok (.getfield 13, 3) := by decide +kernel
theorem dX8_workOf_17 : decode cX8_workOf 17 = .ok (.bipush 7, 2) := by decide +kernel
theorem dX8_workOf_19 : decode cX8_workOf 19 = .ok (.iaload, 1) := by decide +kernel
theorem dX8_workOf_20 : decode cX8_workOf 20 = .ok (.imul, 1) := by decide +kernel
theorem dX8_workOf_21 : decode cX8_workOf 21 = .ok (.isub, 1) := by decide +kernel
theorem dX8_workOf_22 : decode cX8_workOf 22 = .ok (.istore_n 2, 1) := by decide +kernel
theorem dX8_workOf_23 : decode cX8_workOf 23 = .ok (.iload_n 1, 1) := by decide +kernel
theorem dX8_workOf_24 : decode cX8_workOf 24 = .ok (.ifCond .le 22, 3) := by decide +kernel
theorem dX8_workOf_27 : decode cX8_workOf 27 = .ok (.iload_n 2, 1) := by decide +kernel
theorem dX8_workOf_28 : decode cX8_workOf 28 = .ok (.bipush 8, 2) := by decide +kernel
theorem dX8_workOf_30 : decode cX8_workOf 30 = .ok (.iadd, 1) := by decide +kernel
theorem dX8_workOf_31 : decode cX8_workOf 31 = .ok (.bipush 80, 2) := by decide +kernel
theorem dX8_workOf_33 : decode cX8_workOf 33 = .ok (.if_icmp .le 8, 3) := by decide +kernel
theorem dX8_workOf_36 : decode cX8_workOf 36 = .ok (.bipush 80, 2) := by decide +kernel
theorem dX8_workOf_38 : decode cX8_workOf 38 = .ok (.goto 7, 3) := by decide +kernel
theorem dX8_workOf_41 : decode cX8_workOf 41 = .ok (.iload_n 2, 1) := by decide +kernel
theorem dX8_workOf_42 : decode cX8_workOf 42 = .ok (.bipush 8, 2) := by decide +kernel
theorem dX8_workOf_44 : decode cX8_workOf 44 = .ok (.iadd, 1) := by decide +kernel
theorem dX8_workOf_45 : decode cX8_workOf 45 = .ok (.istore_n 2, 1) := by decide +kernel
theorem dX8_workOf_46 : decode cX8_workOf 46 = .ok (.iload_n 1, 1) := by decide +kernel
theorem dX8_workOf_47 : decode cX8_workOf 47 = .ok (.iconst 1, 1) := by decide +kernel
theorem dX8_workOf_48 : decode cX8_workOf 48 = .ok (.if_icmp .le 35, 3) := by decide +kernel
theorem dX8_workOf_51 : decode cX8_workOf 51 = .ok (.iload_n 2, 1) := by decide +kernel
theorem dX8_workOf_52 : decode cX8_workOf 52 = .ok (.iload_n 2, 1) := by decide +kernel
theorem dX8_workOf_53 : decode cX8_workOf 53 = .ok (.bipush 10, 2) := by decide +kernel
theorem dX8_workOf_55 : decode cX8_workOf 55 = .ok (.idiv, 1) := by decide +kernel
theorem dX8_workOf_56 : decode cX8_workOf 56 = .ok (.iadd, 1) := by decide +kernel
theorem dX8_workOf_57 : decode cX8_workOf 57 = .ok (.istore_n 2, 1) := by decide +kernel
theorem dX8_workOf_58 : decode cX8_workOf 58 = .ok (.iload_n 2, 1) := by decide +kernel
theorem dX8_workOf_59 : decode cX8_workOf 59 = .ok (.bipush 85, 2) := by decide +kernel
theorem dX8_workOf_61 : decode cX8_workOf 61 = .ok (.if_icmp .le 8, 3) := by decide +kernel
theorem dX8_workOf_64 : decode cX8_workOf 64 = .ok (.bipush 85, 2) := by decide +kernel
theorem dX8_workOf_66 : decode cX8_workOf 66 = .ok (.goto 4, 3) := by decide +kernel
theorem dX8_workOf_69 : decode cX8_workOf 69 = .ok (.iload_n 2, 1) := by decide +kernel
theorem dX8_workOf_70 : decode cX8_workOf 70 = .ok (.istore_n 2, 1) := by decide +kernel
theorem dX8_workOf_71 : decode cX8_workOf 71 = .ok (.iload_n 2, 1) := by decide +kernel
theorem dX8_workOf_72 : decode cX8_workOf 72 = .ok (.iconst 2, 1) := by decide +kernel
theorem dX8_workOf_73 : decode cX8_workOf 73 = .ok (.aload_n 0, 1) := by decide +kernel
theorem dX8_workOf_74 : decode cX8_workOf 74 = .ok (.getfield 13, 3) := by decide +kernel
theorem dX8_workOf_77 : decode cX8_workOf 77 = .ok (.bipush 8, 2) := by decide +kernel
theorem dX8_workOf_79 : decode cX8_workOf 79 = .ok (.iaload, 1) := by decide +kernel
theorem dX8_workOf_80 : decode cX8_workOf 80 = .ok (.imul, 1) := by decide +kernel
theorem dX8_workOf_81 : decode cX8_workOf 81 = .ok (.isub, 1) := by decide +kernel
theorem dX8_workOf_82 : decode cX8_workOf 82 = .ok (.istore_n 2, 1) := by decide +kernel
theorem dX8_workOf_83 : decode cX8_workOf 83 = .ok (.iload_n 2, 1) := by decide +kernel
theorem dX8_workOf_84 : decode cX8_workOf 84 = .ok (.ireturn, 1) := by decide +kernel
set_option maxRecDepth 20000 in
theorem ggX8_work_X8_in : GoodIn wsX8_work wsX8_in := goodIn_r _ [8] (by decide +kernel) (by decide +kernel)
set_option maxRecDepth 20000 in
theorem gX8_work_X8_in : GoodIn wsX8_work (va_wsS RX8 70 yX8_in wsX8_in) := goodIn_app (goodIn_of _ (by decide +kernel)) ggX8_work_X8_in
set_option maxRecDepth 20000 in
theorem ggX8_work_X8_isRam : GoodIn wsX8_work wsX8_isRam := goodIn_r _ [12, 13, 5, 6, 7, 8, 24, 25, 26, 27, 28, 29, 30, 31, 32, 33, 34, 35, 36, 37, 38, 39, 40, 41, 42, 43, 44, 45, 46, 47, 48, 49, 50, 51, 52, 53, 54, 55, 56, 57, 58, 59, 60, 61] (by decide +kernel) (by decide +kernel)
set_option maxRecDepth 20000 in
theorem gX8_work_X8_isRam : GoodIn wsX8_work (wsV RX8 74 RX8 yX8_isRam wsX8_isRam) := goodIn_app (goodIn_of _ (by decide +kernel)) ggX8_work_X8_isRam
set_option maxRecDepth 20000 in
theorem ggX8_work_X8_takes : GoodIn wsX8_work wsX8_takes := goodIn_r _ [17, 18, 19, 24, 25, 26, 27, 28, 29, 30, 31, 32, 33, 34, 35, 36, 37, 38, 39, 40, 41, 42, 43, 44, 45, 46, 47, 48, 49, 50, 51, 52, 53, 54, 55, 56, 57, 58, 59, 60, 61] (by decide +kernel) (by decide +kernel)
set_option maxRecDepth 20000 in
theorem gX8_work_X8_takes : GoodIn wsX8_work (wsV RX8 89 RX8 yX8_takes wsX8_takes) := goodIn_app (goodIn_of _ (by decide +kernel)) ggX8_work_X8_takes
set_option maxRecDepth 20000 in
theorem ggX8_work_X8_workOf : GoodIn wsX8_work wsX8_workOf := goodIn_r _ [23, 18, 24, 25, 26, 27, 28, 29, 30, 31, 32, 33, 34, 35, 36, 37, 38, 39, 40, 41, 42, 43, 44, 45, 46, 47, 48, 49, 50, 51, 52, 53, 54, 55, 56, 57, 58, 59, 60, 61] (by decide +kernel) (by decide +kernel)
set_option maxRecDepth 20000 in
theorem gX8_work_X8_workOf : GoodIn wsX8_work (wsV RX8 93 RX8 yX8_workOf wsX8_workOf) := goodIn_app (goodIn_of _ (by decide +kernel)) ggX8_work_X8_workOf
theorem dX8_work_0 : decode cX8_work 0 = .ok (.aload_n 0, 1) := by decide +kernel
theorem dX8_work_1 : decode cX8_work 1 = .ok (.iconst 0, 1) := by decide +kernel
theorem dX8_work_2 : decode cX8_work 2 = .ok (.putfield 64, 3) := by decide +kernel
theorem dX8_work_5 : decode cX8_work 5 = .ok (.iload_n 1, 1) := by decide +kernel
theorem dX8_work_6 : decode cX8_work 6 = .ok (.iconst 0, 1) := by decide +kernel
theorem dX8_work_7 : decode cX8_work 7 = .ok (.iconst 2, 1) := by decide +kernel
theorem dX8_work_8 : decode cX8_work 8 = .ok (.invokestatic 70, 3) := by decide +kernel
theorem dX8_work_11 : decode cX8_work 11 = .ok (.ifCond .eq 11, 3) := by decide +kernel
theorem dX8_work_14 : decode cX8_work 14 = .ok (.aload_n 0, 1) := by decide +kernel
theorem dX8_work_15 : decode cX8_work 15 = .ok (.iload_n 2, 1) := by decide +kernel
theorem dX8_work_16 : decode cX8_work 16 = .ok (.invokevirtual 74, 3) := by decide +kernel
theorem dX8_work_19 : decode cX8_work 19 = .ok (.ifCond .ne 5, 3) := by decide +kernel
theorem dX8_work_22 : decode cX8_work 22 = .ok (.iconst (-1), 1) := by decide +kernel
theorem dX8_work_23 : decode cX8_work 23 = .ok (.ireturn, 1) := by decide +kernel
theorem dX8_work_24 : decode cX8_work 24 = .ok (.aload_n 0, 1) := by decide +kernel
theorem dX8_work_25 : decode cX8_work 25 = .ok (.dup, 1) := by decide +kernel
theorem dX8_work_26 : decode cX8_work 26 = .ok (.getfield 81, 3) := by decide +kernel
theorem dX8_work_29 : decode cX8_work 29 = .ok (.iload_n 1, 1) := by decide +kernel
theorem dX8_work_30 : decode cX8_work 30 = .ok (.ifCond .ne 7, 3) := by decide +kernel
theorem dX8_work_33 : decode cX8_work 33 = .ok (.lconst 1, 1) := by decide +kernel
theorem dX8_work_34 : decode cX8_work 34 = .ok (.goto 17, 3) := by decide +kernel
theorem dX8_work_37 : decode cX8_work 37 = .ok (.iload_n 1, 1) := by decide +kernel
theorem dX8_work_38 : decode cX8_work 38 = .ok (.iconst 1, 1) := by decide +kernel
theorem dX8_work_39 : decode cX8_work 39 = .ok (.if_icmp .ne 9, 3) := by decide +kernel
theorem dX8_work_42 : decode cX8_work 42 = .ok (.ldc2_w 85, 3) := by decide +kernel
theorem dX8_work_45 : decode cX8_work 45 = .ok (.goto 6, 3) := by decide +kernel
theorem dX8_work_48 : decode cX8_work 48 = .ok (.ldc2_w 87, 3) := by decide +kernel
theorem dX8_work_51 : decode cX8_work 51 = .ok (.ladd, 1) := by decide +kernel
theorem dX8_work_52 : decode cX8_work 52 = .ok (.putfield 81, 3) := by decide +kernel
theorem dX8_work_55 : decode cX8_work 55 = .ok (.aload_n 0, 1) := by decide +kernel
theorem dX8_work_56 : decode cX8_work 56 = .ok (.iload_n 2, 1) := by decide +kernel
theorem dX8_work_57 : decode cX8_work 57 = .ok (.invokevirtual 89, 3) := by decide +kernel
theorem dX8_work_60 : decode cX8_work 60 = .ok (.aload_n 0, 1) := by decide +kernel
theorem dX8_work_61 : decode cX8_work 61 = .ok (.iload_n 1, 1) := by decide +kernel
theorem dX8_work_62 : decode cX8_work 62 = .ok (.invokevirtual 93, 3) := by decide +kernel
theorem dX8_work_65 : decode cX8_work 65 = .ok (.ireturn, 1) := by decide +kernel
set_option maxRecDepth 20000 in
theorem ggX8_beats_X8_workOf : GoodIn wsX8_beats wsX8_workOf := goodIn_r _ [15, 1, 16, 17, 18, 19, 20, 21, 22, 23, 24, 25, 26, 27, 28, 29, 30, 31, 32, 33, 34, 35, 36, 37, 38, 39, 40, 41, 42, 43, 44, 45, 46, 47, 48, 49, 50, 51, 52, 53] (by decide +kernel) (by decide +kernel)
set_option maxRecDepth 20000 in
theorem gX8_beats_X8_workOf : GoodIn wsX8_beats (wsV RX8 93 RX8 yX8_workOf wsX8_workOf) := goodIn_app (goodIn_of _ (by decide +kernel)) ggX8_beats_X8_workOf
theorem dX8_beats_0 : decode cX8_beats 0 = .ok (.sipush 200, 3) := by decide +kernel
theorem dX8_beats_3 : decode cX8_beats 3 = .ok (.aload_n 0, 1) := by decide +kernel
theorem dX8_beats_4 : decode cX8_beats 4 = .ok (.getfield 13, 3) := by decide +kernel
theorem dX8_beats_7 : decode cX8_beats 7 = .ok (.iconst 0, 1) := by decide +kernel
theorem dX8_beats_8 : decode cX8_beats 8 = .ok (.iaload, 1) := by decide +kernel
theorem dX8_beats_9 : decode cX8_beats 9 = .ok (.imul, 1) := by decide +kernel
theorem dX8_beats_10 : decode cX8_beats 10 = .ok (.aload_n 0, 1) := by decide +kernel
theorem dX8_beats_11 : decode cX8_beats 11 = .ok (.getfield 13, 3) := by decide +kernel
theorem dX8_beats_14 : decode cX8_beats 14 = .ok (.iconst 2, 1) := by decide +kernel
theorem dX8_beats_15 : decode cX8_beats 15 = .ok (.iaload, 1) := by decide +kernel
theorem dX8_beats_16 : decode cX8_beats 16 = .ok (.idiv, 1) := by decide +kernel
theorem dX8_beats_17 : decode cX8_beats 17 = .ok (.istore_n 1, 1) := by decide +kernel
theorem dX8_beats_18 : decode cX8_beats 18 = .ok (.aload_n 0, 1) := by decide +kernel
theorem dX8_beats_19 : decode cX8_beats 19 = .ok (.getfield 13, 3) := by decide +kernel
theorem dX8_beats_22 : decode cX8_beats 22 = .ok (.iconst 5, 1) := by decide +kernel
theorem dX8_beats_23 : decode cX8_beats 23 = .ok (.iaload, 1) := by decide +kernel
theorem dX8_beats_24 : decode cX8_beats 24 = .ok (.aload_n 0, 1) := by decide +kernel
theorem dX8_beats_25 : decode cX8_beats 25 = .ok (.getfield 13, 3) := by decide +kernel
theorem dX8_beats_28 : decode cX8_beats 28 = .ok (.bipush 7, 2) := by decide +kernel
theorem dX8_beats_30 : decode cX8_beats 30 = .ok (.iaload, 1) := by decide +kernel
theorem dX8_beats_31 : decode cX8_beats 31 = .ok (.iadd, 1) := by decide +kernel
theorem dX8_beats_32 : decode cX8_beats 32 = .ok (.istore_n 2, 1) := by decide +kernel
theorem dX8_beats_33 : decode cX8_beats 33 = .ok (.aload_n 0, 1) := by decide +kernel
theorem dX8_beats_34 : decode cX8_beats 34 = .ok (.lconst 0, 1) := by decide +kernel
theorem dX8_beats_35 : decode cX8_beats 35 = .ok (.putfield 97, 3) := by decide +kernel
theorem dX8_beats_38 : decode cX8_beats 38 = .ok (.aload_n 0, 1) := by decide +kernel
theorem dX8_beats_39 : decode cX8_beats 39 = .ok (.lconst 0, 1) := by decide +kernel
theorem dX8_beats_40 : decode cX8_beats 40 = .ok (.putfield 100, 3) := by decide +kernel
theorem dX8_beats_43 : decode cX8_beats 43 = .ok (.aload_n 0, 1) := by decide +kernel
theorem dX8_beats_44 : decode cX8_beats 44 = .ok (.lconst 0, 1) := by decide +kernel
theorem dX8_beats_45 : decode cX8_beats 45 = .ok (.putfield 103, 3) := by decide +kernel
theorem dX8_beats_48 : decode cX8_beats 48 = .ok (.aload_n 0, 1) := by decide +kernel
theorem dX8_beats_49 : decode cX8_beats 49 = .ok (.bipush (-9), 2) := by decide +kernel
theorem dX8_beats_51 : decode cX8_beats 51 = .ok (.putfield 106, 3) := by decide +kernel
theorem dX8_beats_54 : decode cX8_beats 54 = .ok (.aload_n 0, 1) := by decide +kernel
theorem dX8_beats_55 : decode cX8_beats 55 = .ok (.bipush (-9), 2) := by decide +kernel
theorem dX8_beats_57 : decode cX8_beats 57 = .ok (.putfield 109, 3) := by decide +kernel
theorem dX8_beats_60 : decode cX8_beats 60 = .ok (.iconst 1, 1) := by decide +kernel
theorem dX8_beats_61 : decode cX8_beats 61 = .ok (.istore_n 3, 1) := by decide +kernel
theorem dX8_beats_62 : decode cX8_beats 62 = .ok (.iload_n 3, 1) := by decide +kernel
theorem dX8_beats_63 : decode cX8_beats 63 = .ok (.sipush 400, 3) := by decide +kernel
theorem dX8_beats_66 : decode cX8_beats 66 = .ok (.if_icmp .gt 223, 3) := by decide +kernel
theorem dX8_beats_69 : decode cX8_beats 69 = .ok (.aload_n 0, 1) := by decide +kernel
theorem dX8_beats_70 : decode cX8_beats 70 = .ok (.getfield 97, 3) := by decide +kernel
theorem dX8_beats_73 : decode cX8_beats 73 = .ok (.lstore 4, 2) := by decide +kernel
theorem dX8_beats_75 : decode cX8_beats 75 = .ok (.aload_n 0, 1) := by decide +kernel
theorem dX8_beats_76 : decode cX8_beats 76 = .ok (.lload 4, 2) := by decide +kernel
theorem dX8_beats_78 : decode cX8_beats 78 = .ok (.iload_n 1, 1) := by decide +kernel
theorem dX8_beats_79 : decode cX8_beats 79 = .ok (.i2l, 1) := by decide +kernel
theorem dX8_beats_80 : decode cX8_beats 80 = .ok (.ladd, 1) := by decide +kernel
theorem dX8_beats_81 : decode cX8_beats 81 = .ok (.lload 4, 2) := by decide +kernel
theorem dX8_beats_83 : decode cX8_beats 83 = .ok (.iconst 3, 1) := by decide +kernel
theorem dX8_beats_84 : decode cX8_beats 84 = .ok (.aload_n 0, 1) := by decide +kernel
theorem dX8_beats_85 : decode cX8_beats 85 = .ok (.getfield 13, 3) := by decide +kernel
theorem dX8_beats_88 : decode cX8_beats 88 = .ok (.bipush 8, 2) := by decide +kernel
theorem dX8_beats_90 : decode cX8_beats 90 = .ok (.iaload, 1) := by decide +kernel
theorem dX8_beats_91 : decode cX8_beats 91 = .ok (.iadd, 1) := by decide +kernel
theorem dX8_beats_92 : decode cX8_beats 92 = .ok (.i2l, 1) := by decide +kernel
theorem dX8_beats_93 : decode cX8_beats 93 = .ok (.lmul, 1) := by decide +kernel
theorem dX8_beats_94 : decode cX8_beats 94 = .ok (.ldc2_w 112, 3) := by decide +kernel
theorem dX8_beats_97 : decode cX8_beats 97 = .ok (.ldiv, 1) := by decide +kernel
theorem dX8_beats_98 : decode cX8_beats 98 = .ok (.lsub, 1) := by decide +kernel
theorem dX8_beats_99 : decode cX8_beats 99 = .ok (.putfield 97, 3) := by decide +kernel
theorem dX8_beats_102 : decode cX8_beats 102 = .ok (.aload_n 0, 1) := by decide +kernel
theorem dX8_beats_103 : decode cX8_beats 103 = .ok (.dup, 1) := by decide +kernel
theorem dX8_beats_104 : decode cX8_beats 104 = .ok (.getfield 100, 3) := by decide +kernel
theorem dX8_beats_107 : decode cX8_beats 107 = .ok (.aload_n 0, 1) := by decide +kernel
theorem dX8_beats_108 : decode cX8_beats 108 = .ok (.getfield 97, 3) := by decide +kernel
theorem dX8_beats_111 : decode cX8_beats 111 = .ok (.aload_n 0, 1) := by decide +kernel
theorem dX8_beats_112 : decode cX8_beats 112 = .ok (.getfield 13, 3) := by decide +kernel
theorem dX8_beats_115 : decode cX8_beats 115 = .ok (.iconst 3, 1) := by decide +kernel
theorem dX8_beats_116 : decode cX8_beats 116 = .ok (.iaload, 1) := by decide +kernel
theorem dX8_beats_117 : decode cX8_beats 117 = .ok (.i2l, 1) := by decide +kernel
theorem dX8_beats_118 : decode cX8_beats 118 = .ok (.lmul, 1) := by decide +kernel
theorem dX8_beats_119 : decode cX8_beats 119 = .ok (.iload_n 2, 1) := by decide +kernel
theorem dX8_beats_120 : decode cX8_beats 120 = .ok (.i2l, 1) := by decide +kernel
theorem dX8_beats_121 : decode cX8_beats 121 = .ok (.lmul, 1) := by decide +kernel
theorem dX8_beats_122 : decode cX8_beats 122 = .ok (.ldc2_w 112, 3) := by decide +kernel
theorem dX8_beats_125 : decode cX8_beats 125 = .ok (.ldiv, 1) := by decide +kernel
theorem dX8_beats_126 : decode cX8_beats 126 = .ok (.ladd, 1) := by decide +kernel
theorem dX8_beats_127 : decode cX8_beats 127 = .ok (.putfield 100, 3) := by decide +kernel
theorem dX8_beats_130 : decode cX8_beats 130 = .ok (.aload_n 0, 1) := by decide +kernel
theorem dX8_beats_131 : decode cX8_beats 131 = .ok (.getfield 97, 3) := by decide +kernel
theorem dX8_beats_134 : decode cX8_beats 134 = .ok (.aload_n 0, 1) := by decide +kernel
theorem dX8_beats_135 : decode cX8_beats 135 = .ok (.getfield 97, 3) := by decide +kernel
theorem dX8_beats_138 : decode cX8_beats 138 = .ok (.lmul, 1) := by decide +kernel
theorem dX8_beats_139 : decode cX8_beats 139 = .ok (.ldc2_w 114, 3) := by decide +kernel
theorem dX8_beats_142 : decode cX8_beats 142 = .ok (.ldiv, 1) := by decide +kernel
theorem dX8_beats_143 : decode cX8_beats 143 = .ok (.aload_n 0, 1) := by decide +kernel
theorem dX8_beats_144 : decode cX8_beats 144 = .ok (.getfield 13, 3) := by decide +kernel
theorem dX8_beats_147 : decode cX8_beats 147 = .ok (.iconst 4, 1) := by decide +kernel
theorem dX8_beats_148 : decode cX8_beats 148 = .ok (.iaload, 1) := by decide +kernel
theorem dX8_beats_149 : decode cX8_beats 149 = .ok (.i2l, 1) := by decide +kernel
theorem dX8_beats_150 : decode cX8_beats 150 = .ok (.iload_n 2, 1) := by decide +kernel
theorem dX8_beats_151 : decode cX8_beats 151 = .ok (.i2l, 1) := by decide +kernel
theorem dX8_beats_152 : decode cX8_beats 152 = .ok (.lmul, 1) := by decide +kernel
theorem dX8_beats_153 : decode cX8_beats 153 = .ok (.lcmp, 1) := by decide +kernel
theorem dX8_beats_154 : decode cX8_beats 154 = .ok (.ifCond .lt 117, 3) := by decide +kernel
theorem dX8_beats_157 : decode cX8_beats 157 = .ok (.aload_n 0, 1) := by decide +kernel
theorem dX8_beats_158 : decode cX8_beats 158 = .ok (.iload_n 3, 1) := by decide +kernel
theorem dX8_beats_159 : decode cX8_beats 159 = .ok (.putfield 106, 3) := by decide +kernel
theorem dX8_beats_162 : decode cX8_beats 162 = .ok (.aload_n 0, 1) := by decide +kernel
theorem dX8_beats_163 : decode cX8_beats 163 = .ok (.iload_n 3, 1) := by decide +kernel
theorem dX8_beats_164 : decode cX8_beats 164 = .ok (.iconst 4, 1) := by decide +kernel
theorem dX8_beats_165 : decode cX8_beats 165 = .ok (.iadd, 1) := by decide +kernel
theorem dX8_beats_166 : decode cX8_beats 166 = .ok (.aload_n 0, 1) := by decide +kernel
theorem dX8_beats_167 : decode cX8_beats 167 = .ok (.getfield 13, 3) := by decide +kernel
theorem dX8_beats_170 : decode cX8_beats 170 = .ok (.iconst 1, 1) := by decide +kernel
theorem dX8_beats_171 : decode cX8_beats 171 = .ok (.iaload, 1) := by decide +kernel
theorem dX8_beats_172 : decode cX8_beats 172 = .ok (.sipush 200, 3) := by decide +kernel
theorem dX8_beats_175 : decode cX8_beats 175 = .ok (.idiv, 1) := by decide +kernel
theorem dX8_beats_176 : decode cX8_beats 176 = .ok (.iadd, 1) := by decide +kernel
theorem dX8_beats_177 : decode cX8_beats 177 = .ok (.putfield 109, 3) := by decide +kernel
theorem dX8_beats_180 : decode cX8_beats 180 = .ok (.aload_n 0, 1) := by decide +kernel
theorem dX8_beats_181 : decode cX8_beats 181 = .ok (.getfield 97, 3) := by decide +kernel
theorem dX8_beats_184 : decode cX8_beats 184 = .ok (.aload_n 0, 1) := by decide +kernel
theorem dX8_beats_185 : decode cX8_beats 185 = .ok (.getfield 13, 3) := by decide +kernel
theorem dX8_beats_188 : decode cX8_beats 188 = .ok (.iconst 1, 1) := by decide +kernel
theorem dX8_beats_189 : decode cX8_beats 189 = .ok (.iaload, 1) := by decide +kernel
theorem dX8_beats_190 : decode cX8_beats 190 = .ok (.bipush 20, 2) := by decide +kernel
theorem dX8_beats_192 : decode cX8_beats 192 = .ok (.idiv, 1) := by decide +kernel
theorem dX8_beats_193 : decode cX8_beats 193 = .ok (.i2l, 1) := by decide +kernel
theorem dX8_beats_194 : decode cX8_beats 194 = .ok (.lcmp, 1) := by decide +kernel
theorem dX8_beats_195 : decode cX8_beats 195 = .ok (.ifCond .lt 74, 3) := by decide +kernel
theorem dX8_beats_198 : decode cX8_beats 198 = .ok (.aload_n 0, 1) := by decide +kernel
theorem dX8_beats_199 : decode cX8_beats 199 = .ok (.aload_n 0, 1) := by decide +kernel
theorem dX8_beats_200 : decode cX8_beats 200 = .ok (.getfield 100, 3) := by decide +kernel
theorem dX8_beats_203 : decode cX8_beats 203 = .ok (.aload_n 0, 1) := by decide +kernel
theorem dX8_beats_204 : decode cX8_beats 204 = .ok (.getfield 13, 3) := by decide +kernel
theorem dX8_beats_207 : decode cX8_beats 207 = .ok (.iconst 0, 1) := by decide +kernel
theorem dX8_beats_208 : decode cX8_beats 208 = .ok (.iaload, 1) := by decide +kernel
theorem dX8_beats_209 : decode cX8_beats 209 = .ok (.i2l, 1) := by decide +kernel
theorem dX8_beats_210 : decode cX8_beats 210 = .ok (.lmul, 1) := by decide +kernel
theorem dX8_beats_211 : decode cX8_beats 211 = .ok (.aload_n 0, 1) := by decide +kernel
theorem dX8_beats_212 : decode cX8_beats 212 = .ok (.aload_n 0, 1) := by decide +kernel
theorem dX8_beats_213 : decode cX8_beats 213 = .ok (.getfield 13, 3) := by decide +kernel
theorem dX8_beats_216 : decode cX8_beats 216 = .ok (.bipush 10, 2) := by decide +kernel
theorem dX8_beats_218 : decode cX8_beats 218 = .ok (.iaload, 1) := by decide +kernel
theorem dX8_beats_219 : decode cX8_beats 219 = .ok (.invokevirtual 93, 3) := by decide +kernel
theorem dX8_beats_222 : decode cX8_beats 222 = .ok (.i2l, 1) := by decide +kernel
theorem dX8_beats_223 : decode cX8_beats 223 = .ok (.lmul, 1) := by decide +kernel
theorem dX8_beats_224 : decode cX8_beats 224 = .ok (.ldc2_w 112, 3) := by decide +kernel
theorem dX8_beats_227 : decode cX8_beats 227 = .ok (.aload_n 0, 1) := by decide +kernel
theorem dX8_beats_228 : decode cX8_beats 228 = .ok (.getfield 13, 3) := by decide +kernel
theorem dX8_beats_231 : decode cX8_beats 231 = .ok (.iconst 1, 1) := by decide +kernel
theorem dX8_beats_232 : decode cX8_beats 232 = .ok (.iaload, 1) := by decide +kernel
theorem dX8_beats_233 : decode cX8_beats 233 = .ok (.i2l, 1) := by decide +kernel
theorem dX8_beats_234 : decode cX8_beats 234 = .ok (.lmul, 1) := by decide +kernel
theorem dX8_beats_235 : decode cX8_beats 235 = .ok (.ldiv, 1) := by decide +kernel
theorem dX8_beats_236 : decode cX8_beats 236 = .ok (.putfield 103, 3) := by decide +kernel
theorem dX8_beats_239 : decode cX8_beats 239 = .ok (.aload_n 0, 1) := by decide +kernel
theorem dX8_beats_240 : decode cX8_beats 240 = .ok (.dup, 1) := by decide +kernel
theorem dX8_beats_241 : decode cX8_beats 241 = .ok (.getfield 103, 3) := by decide +kernel
theorem dX8_beats_244 : decode cX8_beats 244 = .ok (.aload_n 0, 1) := by decide +kernel
theorem dX8_beats_245 : decode cX8_beats 245 = .ok (.getfield 13, 3) := by decide +kernel
theorem dX8_beats_248 : decode cX8_beats 248 = .ok (.bipush 9, 2) := by decide +kernel
theorem dX8_beats_250 : decode cX8_beats 250 = .ok (.iaload, 1) := by decide +kernel
theorem dX8_beats_251 : decode cX8_beats 251 = .ok (.i2l, 1) := by decide +kernel
theorem dX8_beats_252 : decode cX8_beats 252 = .ok (.aload_n 0, 1) := by decide +kernel
theorem dX8_beats_253 : decode cX8_beats 253 = .ok (.getfield 103, 3) := by decide +kernel
theorem dX8_beats_256 : decode cX8_beats 256 = .ok (.lmul, 1) := by decide +kernel
theorem dX8_beats_257 : decode cX8_beats 257 = .ok (.ldc2_w 116, 3) := by decide +kernel
theorem dX8_beats_260 : decode cX8_beats 260 = .ok (.ladd, 1) := by decide +kernel
theorem dX8_beats_261 : decode cX8_beats 261 = .ok (.ldc2_w 118, 3) := by decide +kernel
theorem dX8_beats_264 : decode cX8_beats 264 = .ok (.ldiv, 1) := by decide +kernel
theorem dX8_beats_265 : decode cX8_beats 265 = .ok (.lsub, 1) := by decide +kernel
theorem dX8_beats_266 : decode cX8_beats 266 = .ok (.putfield 103, 3) := by decide +kernel
theorem dX8_beats_269 : decode cX8_beats 269 = .ok (.iconst 1, 1) := by decide +kernel
theorem dX8_beats_270 : decode cX8_beats 270 = .ok (.ireturn, 1) := by decide +kernel
theorem dX8_beats_271 : decode cX8_beats 271 = .ok (.aload_n 0, 1) := by decide +kernel
theorem dX8_beats_272 : decode cX8_beats 272 = .ok (.getfield 97, 3) := by decide +kernel
theorem dX8_beats_275 : decode cX8_beats 275 = .ok (.lload 4, 2) := by decide +kernel
theorem dX8_beats_277 : decode cX8_beats 277 = .ok (.lcmp, 1) := by decide +kernel
theorem dX8_beats_278 : decode cX8_beats 278 = .ok (.ifCond .gt 5, 3) := by decide +kernel
theorem dX8_beats_281 : decode cX8_beats 281 = .ok (.iconst 0, 1) := by decide +kernel
theorem dX8_beats_282 : decode cX8_beats 282 = .ok (.ireturn, 1) := by decide +kernel
theorem dX8_beats_283 : decode cX8_beats 283 = .ok (.iinc 3 1, 3) := by decide +kernel
theorem dX8_beats_286 : decode cX8_beats 286 = .ok (.goto (-224), 3) := by decide +kernel
theorem dX8_beats_289 : decode cX8_beats 289 = .ok (.iconst 0, 1) := by decide +kernel
theorem dX8_beats_290 : decode cX8_beats 290 = .ok (.ireturn, 1) := by decide +kernel
set_option maxRecDepth 20000 in
theorem ggX8_beat_X8_isRam : GoodIn wsX8_beat wsX8_isRam := goodIn_r _ [11, 12, 13, 14, 10, 15, 34, 35, 36, 37, 38, 39, 40, 41, 42, 43, 44, 45, 46, 47, 48, 49, 50, 51, 52, 53, 54, 55, 56, 57, 58, 59, 60, 61, 62, 63, 64, 65, 66, 67, 68, 69, 70, 71] (by decide +kernel) (by decide +kernel)
set_option maxRecDepth 20000 in
theorem gX8_beat_X8_isRam : GoodIn wsX8_beat (wsV RX8 74 RX8 yX8_isRam wsX8_isRam) := goodIn_app (goodIn_of _ (by decide +kernel)) ggX8_beat_X8_isRam
set_option maxRecDepth 20000 in
theorem ggX8_beat_X8_in : GoodIn wsX8_beat wsX8_in := goodIn_r _ [15] (by decide +kernel) (by decide +kernel)
set_option maxRecDepth 20000 in
theorem gX8_beat_X8_in : GoodIn wsX8_beat (va_wsS RX8 70 yX8_in wsX8_in) := goodIn_app (goodIn_of _ (by decide +kernel)) ggX8_beat_X8_in
set_option maxRecDepth 20000 in
theorem ggX8_beat_X8_takes : GoodIn wsX8_beat wsX8_takes := goodIn_r _ [19, 20, 21, 34, 35, 36, 37, 38, 39, 40, 41, 42, 43, 44, 45, 46, 47, 48, 49, 50, 51, 52, 53, 54, 55, 56, 57, 58, 59, 60, 61, 62, 63, 64, 65, 66, 67, 68, 69, 70, 71] (by decide +kernel) (by decide +kernel)
set_option maxRecDepth 20000 in
theorem gX8_beat_X8_takes : GoodIn wsX8_beat (wsV RX8 89 RX8 yX8_takes wsX8_takes) := goodIn_app (goodIn_of _ (by decide +kernel)) ggX8_beat_X8_takes
set_option maxRecDepth 20000 in
theorem ggX8_beat_X8_beats : GoodIn wsX8_beat wsX8_beats := goodIn_r _ [25, 20, 3, 4, 5, 2, 6, 26, 27, 28, 29, 30, 31, 32, 10, 33, 34, 35, 36, 37, 38, 39, 40, 41, 42, 43, 44, 45, 46, 47, 48, 49, 50, 51, 52, 53, 54, 55, 56, 57, 58, 59, 60, 61, 62, 63, 64, 65, 66, 67, 68, 69, 70, 71] (by decide +kernel) (by decide +kernel)
set_option maxRecDepth 20000 in
theorem gX8_beat_X8_beats : GoodIn wsX8_beat (wsV RX8 120 RX8 yX8_beats wsX8_beats) := goodIn_app (goodIn_of _ (by decide +kernel)) ggX8_beat_X8_beats
theorem dX8_beat_0 : decode cX8_beat 0 = .ok (.aload_n 0, 1) := by decide +kernel
theorem dX8_beat_1 : decode cX8_beat 1 = .ok (.iconst 0, 1) := by decide +kernel
theorem dX8_beat_2 : decode cX8_beat 2 = .ok (.putfield 64, 3) := by decide +kernel
theorem dX8_beat_5 : decode cX8_beat 5 = .ok (.aload_n 0, 1) := by decide +kernel
theorem dX8_beat_6 : decode cX8_beat 6 = .ok (.iload_n 1, 1) := by decide +kernel
theorem dX8_beat_7 : decode cX8_beat 7 = .ok (.invokevirtual 74, 3) := by decide +kernel
theorem dX8_beat_10 : decode cX8_beat 10 = .ok (.ifCond .eq 12, 3) := by decide +kernel
theorem dX8_beat_13 : decode cX8_beat 13 = .ok (.iload_n 2, 1) := by decide +kernel
theorem dX8_beat_14 : decode cX8_beat 14 = .ok (.iconst 0, 1) := by decide +kernel
theorem dX8_beat_15 : decode cX8_beat 15 = .ok (.iconst 4, 1) := by decide +kernel
theorem dX8_beat_16 : decode cX8_beat 16 = .ok (.invokestatic 70, 3) := by decide +kernel
theorem dX8_beat_19 : decode cX8_beat 19 = .ok (.ifCond .ne 5, 3) := by decide +kernel
theorem dX8_beat_22 : decode cX8_beat 22 = .ok (.iconst (-1), 1) := by decide +kernel
theorem dX8_beat_23 : decode cX8_beat 23 = .ok (.ireturn, 1) := by decide +kernel
theorem dX8_beat_24 : decode cX8_beat 24 = .ok (.aload_n 0, 1) := by decide +kernel
theorem dX8_beat_25 : decode cX8_beat 25 = .ok (.iload_n 1, 1) := by decide +kernel
theorem dX8_beat_26 : decode cX8_beat 26 = .ok (.invokevirtual 89, 3) := by decide +kernel
theorem dX8_beat_29 : decode cX8_beat 29 = .ok (.aload_n 0, 1) := by decide +kernel
theorem dX8_beat_30 : decode cX8_beat 30 = .ok (.invokevirtual 120, 3) := by decide +kernel
theorem dX8_beat_33 : decode cX8_beat 33 = .ok (.ifCond .ne 6, 3) := by decide +kernel
theorem dX8_beat_36 : decode cX8_beat 36 = .ok (.bipush (-9), 2) := by decide +kernel
theorem dX8_beat_38 : decode cX8_beat 38 = .ok (.ireturn, 1) := by decide +kernel
theorem dX8_beat_39 : decode cX8_beat 39 = .ok (.iload_n 2, 1) := by decide +kernel
theorem dX8_beat_40 : decode cX8_beat 40 = .ok (.ifCond .ne 10, 3) := by decide +kernel
theorem dX8_beat_43 : decode cX8_beat 43 = .ok (.aload_n 0, 1) := by decide +kernel
theorem dX8_beat_44 : decode cX8_beat 44 = .ok (.getfield 106, 3) := by decide +kernel
theorem dX8_beat_47 : decode cX8_beat 47 = .ok (.goto 46, 3) := by decide +kernel
theorem dX8_beat_50 : decode cX8_beat 50 = .ok (.iload_n 2, 1) := by decide +kernel
theorem dX8_beat_51 : decode cX8_beat 51 = .ok (.iconst 1, 1) := by decide +kernel
theorem dX8_beat_52 : decode cX8_beat 52 = .ok (.if_icmp .ne 11, 3) := by decide +kernel
theorem dX8_beat_55 : decode cX8_beat 55 = .ok (.aload_n 0, 1) := by decide +kernel
theorem dX8_beat_56 : decode cX8_beat 56 = .ok (.getfield 97, 3) := by decide +kernel
theorem dX8_beat_59 : decode cX8_beat 59 = .ok (.l2i, 1) := by decide +kernel
theorem dX8_beat_60 : decode cX8_beat 60 = .ok (.goto 33, 3) := by decide +kernel
theorem dX8_beat_63 : decode cX8_beat 63 = .ok (.iload_n 2, 1) := by decide +kernel
theorem dX8_beat_64 : decode cX8_beat 64 = .ok (.iconst 2, 1) := by decide +kernel
theorem dX8_beat_65 : decode cX8_beat 65 = .ok (.if_icmp .ne 11, 3) := by decide +kernel
theorem dX8_beat_68 : decode cX8_beat 68 = .ok (.aload_n 0, 1) := by decide +kernel
theorem dX8_beat_69 : decode cX8_beat 69 = .ok (.getfield 100, 3) := by decide +kernel
theorem dX8_beat_72 : decode cX8_beat 72 = .ok (.l2i, 1) := by decide +kernel
theorem dX8_beat_73 : decode cX8_beat 73 = .ok (.goto 20, 3) := by decide +kernel
theorem dX8_beat_76 : decode cX8_beat 76 = .ok (.iload_n 2, 1) := by decide +kernel
theorem dX8_beat_77 : decode cX8_beat 77 = .ok (.iconst 3, 1) := by decide +kernel
theorem dX8_beat_78 : decode cX8_beat 78 = .ok (.if_icmp .ne 11, 3) := by decide +kernel
theorem dX8_beat_81 : decode cX8_beat 81 = .ok (.aload_n 0, 1) := by decide +kernel
theorem dX8_beat_82 : decode cX8_beat 82 = .ok (.getfield 103, 3) := by decide +kernel
theorem dX8_beat_85 : decode cX8_beat 85 = .ok (.l2i, 1) := by decide +kernel
theorem dX8_beat_86 : decode cX8_beat 86 = .ok (.goto 7, 3) := by decide +kernel
theorem dX8_beat_89 : decode cX8_beat 89 = .ok (.aload_n 0, 1) := by decide +kernel
theorem dX8_beat_90 : decode cX8_beat 90 = .ok (.getfield 109, 3) := by decide +kernel
theorem dX8_beat_93 : decode cX8_beat 93 = .ok (.ireturn, 1) := by decide +kernel
set_option maxRecDepth 20000 in
theorem ggX8_hourOf_X8_beats : GoodIn wsX8_hourOf wsX8_beats := goodIn_r _ [9, 1, 10, 3, 4, 11, 2, 12, 13, 14, 15, 16, 17, 18, 8, 19, 20, 21, 22, 23, 24, 25, 26, 27, 28, 29, 30, 31, 32, 33, 34, 35, 36, 37, 38, 39, 40, 41, 42, 43, 44, 45, 46, 47, 48, 49, 50, 51, 52, 53, 54, 55, 56, 57] (by decide +kernel) (by decide +kernel)
set_option maxRecDepth 20000 in
theorem gX8_hourOf_X8_beats : GoodIn wsX8_hourOf (wsV RX8 120 RX8 yX8_beats wsX8_beats) := goodIn_app (goodIn_of _ (by decide +kernel)) ggX8_hourOf_X8_beats
theorem dX8_hourOf_0 : decode cX8_hourOf 0 = .ok (.aload_n 0, 1) := by decide +kernel
theorem dX8_hourOf_1 : decode cX8_hourOf 1 = .ok (.invokevirtual 120, 3) := by decide +kernel
theorem dX8_hourOf_4 : decode cX8_hourOf 4 = .ok (.ifCond .ne 54, 3) := by decide +kernel
theorem dX8_hourOf_7 : decode cX8_hourOf 7 = .ok (.bipush 36, 2) := by decide +kernel
theorem dX8_hourOf_9 : decode cX8_hourOf 9 = .ok (.aload_n 0, 1) := by decide +kernel
theorem dX8_hourOf_10 : decode cX8_hourOf 10 = .ok (.getfield 13, 3) := by decide +kernel
theorem dX8_hourOf_13 : decode cX8_hourOf 13 = .ok (.iconst 3, 1) := by decide +kernel
theorem dX8_hourOf_14 : decode cX8_hourOf 14 = .ok (.iaload, 1) := by decide +kernel
theorem dX8_hourOf_15 : decode cX8_hourOf 15 = .ok (.imul, 1) := by decide +kernel
theorem dX8_hourOf_16 : decode cX8_hourOf 16 = .ok (.aload_n 0, 1) := by decide +kernel
theorem dX8_hourOf_17 : decode cX8_hourOf 17 = .ok (.getfield 13, 3) := by decide +kernel
theorem dX8_hourOf_20 : decode cX8_hourOf 20 = .ok (.iconst 5, 1) := by decide +kernel
theorem dX8_hourOf_21 : decode cX8_hourOf 21 = .ok (.iaload, 1) := by decide +kernel
theorem dX8_hourOf_22 : decode cX8_hourOf 22 = .ok (.aload_n 0, 1) := by decide +kernel
theorem dX8_hourOf_23 : decode cX8_hourOf 23 = .ok (.getfield 13, 3) := by decide +kernel
theorem dX8_hourOf_26 : decode cX8_hourOf 26 = .ok (.bipush 7, 2) := by decide +kernel
theorem dX8_hourOf_28 : decode cX8_hourOf 28 = .ok (.iaload, 1) := by decide +kernel
theorem dX8_hourOf_29 : decode cX8_hourOf 29 = .ok (.iadd, 1) := by decide +kernel
theorem dX8_hourOf_30 : decode cX8_hourOf 30 = .ok (.imul, 1) := by decide +kernel
theorem dX8_hourOf_31 : decode cX8_hourOf 31 = .ok (.aload_n 0, 1) := by decide +kernel
theorem dX8_hourOf_32 : decode cX8_hourOf 32 = .ok (.getfield 13, 3) := by decide +kernel
theorem dX8_hourOf_35 : decode cX8_hourOf 35 = .ok (.iconst 0, 1) := by decide +kernel
theorem dX8_hourOf_36 : decode cX8_hourOf 36 = .ok (.iaload, 1) := by decide +kernel
theorem dX8_hourOf_37 : decode cX8_hourOf 37 = .ok (.imul, 1) := by decide +kernel
theorem dX8_hourOf_38 : decode cX8_hourOf 38 = .ok (.bipush 10, 2) := by decide +kernel
theorem dX8_hourOf_40 : decode cX8_hourOf 40 = .ok (.idiv, 1) := by decide +kernel
theorem dX8_hourOf_41 : decode cX8_hourOf 41 = .ok (.istore_n 2, 1) := by decide +kernel
theorem dX8_hourOf_42 : decode cX8_hourOf 42 = .ok (.iload_n 1, 1) := by decide +kernel
theorem dX8_hourOf_43 : decode cX8_hourOf 43 = .ok (.iconst 1, 1) := by decide +kernel
theorem dX8_hourOf_44 : decode cX8_hourOf 44 = .ok (.if_icmp .eq 8, 3) := by decide +kernel
theorem dX8_hourOf_47 : decode cX8_hourOf 47 = .ok (.iload_n 1, 1) := by decide +kernel
theorem dX8_hourOf_48 : decode cX8_hourOf 48 = .ok (.iconst 3, 1) := by decide +kernel
theorem dX8_hourOf_49 : decode cX8_hourOf 49 = .ok (.if_icmp .ne 7, 3) := by decide +kernel
theorem dX8_hourOf_52 : decode cX8_hourOf 52 = .ok (.iload_n 2, 1) := by decide +kernel
theorem dX8_hourOf_53 : decode cX8_hourOf 53 = .ok (.goto 4, 3) := by decide +kernel
theorem dX8_hourOf_56 : decode cX8_hourOf 56 = .ok (.iconst 0, 1) := by decide +kernel
theorem dX8_hourOf_57 : decode cX8_hourOf 57 = .ok (.ireturn, 1) := by decide +kernel
theorem dX8_hourOf_58 : decode cX8_hourOf 58 = .ok (.sipush 3600, 3) := by decide +kernel
theorem dX8_hourOf_61 : decode cX8_hourOf 61 = .ok (.aload_n 0, 1) := by decide +kernel
theorem dX8_hourOf_62 : decode cX8_hourOf 62 = .ok (.getfield 109, 3) := by decide +kernel
theorem dX8_hourOf_65 : decode cX8_hourOf 65 = .ok (.idiv, 1) := by decide +kernel
theorem dX8_hourOf_66 : decode cX8_hourOf 66 = .ok (.istore_n 2, 1) := by decide +kernel
theorem dX8_hourOf_67 : decode cX8_hourOf 67 = .ok (.iload_n 1, 1) := by decide +kernel
theorem dX8_hourOf_68 : decode cX8_hourOf 68 = .ok (.ifCond .ne 8, 3) := by decide +kernel
theorem dX8_hourOf_71 : decode cX8_hourOf 71 = .ok (.iload_n 2, 1) := by decide +kernel
theorem dX8_hourOf_72 : decode cX8_hourOf 72 = .ok (.i2l, 1) := by decide +kernel
theorem dX8_hourOf_73 : decode cX8_hourOf 73 = .ok (.goto 45, 3) := by decide +kernel
theorem dX8_hourOf_76 : decode cX8_hourOf 76 = .ok (.iload_n 1, 1) := by decide +kernel
theorem dX8_hourOf_77 : decode cX8_hourOf 77 = .ok (.iconst 1, 1) := by decide +kernel
theorem dX8_hourOf_78 : decode cX8_hourOf 78 = .ok (.if_icmp .ne 13, 3) := by decide +kernel
theorem dX8_hourOf_81 : decode cX8_hourOf 81 = .ok (.iload_n 2, 1) := by decide +kernel
theorem dX8_hourOf_82 : decode cX8_hourOf 82 = .ok (.i2l, 1) := by decide +kernel
theorem dX8_hourOf_83 : decode cX8_hourOf 83 = .ok (.aload_n 0, 1) := by decide +kernel
theorem dX8_hourOf_84 : decode cX8_hourOf 84 = .ok (.getfield 100, 3) := by decide +kernel
theorem dX8_hourOf_87 : decode cX8_hourOf 87 = .ok (.lmul, 1) := by decide +kernel
theorem dX8_hourOf_88 : decode cX8_hourOf 88 = .ok (.goto 30, 3) := by decide +kernel
theorem dX8_hourOf_91 : decode cX8_hourOf 91 = .ok (.iload_n 1, 1) := by decide +kernel
theorem dX8_hourOf_92 : decode cX8_hourOf 92 = .ok (.iconst 2, 1) := by decide +kernel
theorem dX8_hourOf_93 : decode cX8_hourOf 93 = .ok (.if_icmp .ne 13, 3) := by decide +kernel
theorem dX8_hourOf_96 : decode cX8_hourOf 96 = .ok (.iload_n 2, 1) := by decide +kernel
theorem dX8_hourOf_97 : decode cX8_hourOf 97 = .ok (.i2l, 1) := by decide +kernel
theorem dX8_hourOf_98 : decode cX8_hourOf 98 = .ok (.aload_n 0, 1) := by decide +kernel
theorem dX8_hourOf_99 : decode cX8_hourOf 99 = .ok (.getfield 103, 3) := by decide +kernel
theorem dX8_hourOf_102 : decode cX8_hourOf 102 = .ok (.lmul, 1) := by decide +kernel
theorem dX8_hourOf_103 : decode cX8_hourOf 103 = .ok (.goto 15, 3) := by decide +kernel
theorem dX8_hourOf_106 : decode cX8_hourOf 106 = .ok (.iload_n 2, 1) := by decide +kernel
theorem dX8_hourOf_107 : decode cX8_hourOf 107 = .ok (.i2l, 1) := by decide +kernel
theorem dX8_hourOf_108 : decode cX8_hourOf 108 = .ok (.aload_n 0, 1) := by decide +kernel
theorem dX8_hourOf_109 : decode cX8_hourOf 109 = .ok (.getfield 100, 3) := by decide +kernel
theorem dX8_hourOf_112 : decode cX8_hourOf 112 = .ok (.aload_n 0, 1) := by decide +kernel
theorem dX8_hourOf_113 : decode cX8_hourOf 113 = .ok (.getfield 103, 3) := by decide +kernel
theorem dX8_hourOf_116 : decode cX8_hourOf 116 = .ok (.ladd, 1) := by decide +kernel
theorem dX8_hourOf_117 : decode cX8_hourOf 117 = .ok (.lmul, 1) := by decide +kernel
theorem dX8_hourOf_118 : decode cX8_hourOf 118 = .ok (.l2i, 1) := by decide +kernel
theorem dX8_hourOf_119 : decode cX8_hourOf 119 = .ok (.ireturn, 1) := by decide +kernel
set_option maxRecDepth 20000 in
theorem ggX8_hourly_X8_isRam : GoodIn wsX8_hourly wsX8_isRam := goodIn_r _ [6, 7, 8, 9, 5, 10, 38, 39, 40, 41, 42, 43, 44, 45, 46, 47, 48, 49, 50, 51, 52, 53, 54, 55, 56, 57, 58, 59, 60, 61, 62, 63, 64, 65, 66, 67, 68, 69, 70, 71, 72, 73, 74, 75] (by decide +kernel) (by decide +kernel)
set_option maxRecDepth 20000 in
theorem gX8_hourly_X8_isRam : GoodIn wsX8_hourly (wsV RX8 74 RX8 yX8_isRam wsX8_isRam) := goodIn_app (goodIn_of _ (by decide +kernel)) ggX8_hourly_X8_isRam
set_option maxRecDepth 20000 in
theorem ggX8_hourly_X8_in : GoodIn wsX8_hourly wsX8_in := goodIn_r _ [10] (by decide +kernel) (by decide +kernel)
set_option maxRecDepth 20000 in
theorem gX8_hourly_X8_in : GoodIn wsX8_hourly (va_wsS RX8 70 yX8_in wsX8_in) := goodIn_app (goodIn_of _ (by decide +kernel)) ggX8_hourly_X8_in
set_option maxRecDepth 20000 in
theorem ggX8_hourly_X8_takes : GoodIn wsX8_hourly wsX8_takes := goodIn_r _ [14, 15, 16, 38, 39, 40, 41, 42, 43, 44, 45, 46, 47, 48, 49, 50, 51, 52, 53, 54, 55, 56, 57, 58, 59, 60, 61, 62, 63, 64, 65, 66, 67, 68, 69, 70, 71, 72, 73, 74, 75] (by decide +kernel) (by decide +kernel)
set_option maxRecDepth 20000 in
theorem gX8_hourly_X8_takes : GoodIn wsX8_hourly (wsV RX8 89 RX8 yX8_takes wsX8_takes) := goodIn_app (goodIn_of _ (by decide +kernel)) ggX8_hourly_X8_takes
set_option maxRecDepth 20000 in
theorem ggX8_hourly_X8_hourOf : GoodIn wsX8_hourly wsX8_hourOf := goodIn_r _ [20, 15, 21, 22, 23, 24, 25, 26, 5, 27, 28, 29, 30, 31, 32, 33, 34, 35, 36, 37, 38, 39, 40, 41, 42, 43, 44, 45, 46, 47, 48, 49, 50, 51, 52, 53, 54, 55, 56, 57, 58, 59, 60, 61, 62, 63, 64, 65, 66, 67, 68, 69, 70, 71, 72, 73, 74, 75] (by decide +kernel) (by decide +kernel)
set_option maxRecDepth 20000 in
theorem gX8_hourly_X8_hourOf : GoodIn wsX8_hourly (wsV RX8 124 RX8 yX8_hourOf wsX8_hourOf) := goodIn_app (goodIn_of _ (by decide +kernel)) ggX8_hourly_X8_hourOf
theorem dX8_hourly_0 : decode cX8_hourly 0 = .ok (.aload_n 0, 1) := by decide +kernel
theorem dX8_hourly_1 : decode cX8_hourly 1 = .ok (.iconst 0, 1) := by decide +kernel
theorem dX8_hourly_2 : decode cX8_hourly 2 = .ok (.putfield 64, 3) := by decide +kernel
theorem dX8_hourly_5 : decode cX8_hourly 5 = .ok (.aload_n 0, 1) := by decide +kernel
theorem dX8_hourly_6 : decode cX8_hourly 6 = .ok (.iload_n 1, 1) := by decide +kernel
theorem dX8_hourly_7 : decode cX8_hourly 7 = .ok (.invokevirtual 74, 3) := by decide +kernel
theorem dX8_hourly_10 : decode cX8_hourly 10 = .ok (.ifCond .eq 12, 3) := by decide +kernel
theorem dX8_hourly_13 : decode cX8_hourly 13 = .ok (.iload_n 2, 1) := by decide +kernel
theorem dX8_hourly_14 : decode cX8_hourly 14 = .ok (.iconst 0, 1) := by decide +kernel
theorem dX8_hourly_15 : decode cX8_hourly 15 = .ok (.iconst 3, 1) := by decide +kernel
theorem dX8_hourly_16 : decode cX8_hourly 16 = .ok (.invokestatic 70, 3) := by decide +kernel
theorem dX8_hourly_19 : decode cX8_hourly 19 = .ok (.ifCond .ne 5, 3) := by decide +kernel
theorem dX8_hourly_22 : decode cX8_hourly 22 = .ok (.iconst (-1), 1) := by decide +kernel
theorem dX8_hourly_23 : decode cX8_hourly 23 = .ok (.ireturn, 1) := by decide +kernel
theorem dX8_hourly_24 : decode cX8_hourly 24 = .ok (.aload_n 0, 1) := by decide +kernel
theorem dX8_hourly_25 : decode cX8_hourly 25 = .ok (.iload_n 1, 1) := by decide +kernel
theorem dX8_hourly_26 : decode cX8_hourly 26 = .ok (.invokevirtual 89, 3) := by decide +kernel
theorem dX8_hourly_29 : decode cX8_hourly 29 = .ok (.aload_n 0, 1) := by decide +kernel
theorem dX8_hourly_30 : decode cX8_hourly 30 = .ok (.iload_n 2, 1) := by decide +kernel
theorem dX8_hourly_31 : decode cX8_hourly 31 = .ok (.invokevirtual 124, 3) := by decide +kernel
theorem dX8_hourly_34 : decode cX8_hourly 34 = .ok (.ireturn, 1) := by decide +kernel
set_option maxRecDepth 20000 in
theorem ggX8_isMonth_X8_in : GoodIn wsX8_isMonth wsX8_in := goodIn_r _ [4] (by decide +kernel) (by decide +kernel)
set_option maxRecDepth 20000 in
theorem gX8_isMonth_X8_in : GoodIn wsX8_isMonth (va_wsS RX8 70 yX8_in wsX8_in) := goodIn_app (goodIn_of _ (by decide +kernel)) ggX8_isMonth_X8_in
theorem dX8_isMonth_0 : decode cX8_isMonth 0 = .ok (.iload_n 0, 1) := by decide +kernel
theorem dX8_isMonth_1 : decode cX8_isMonth 1 = .ok (.iconst 0, 1) := by decide +kernel
theorem dX8_isMonth_2 : decode cX8_isMonth 2 = .ok (.bipush 11, 2) := by decide +kernel
theorem dX8_isMonth_4 : decode cX8_isMonth 4 = .ok (.invokestatic 70, 3) := by decide +kernel
theorem dX8_isMonth_7 : decode cX8_isMonth 7 = .ok (.ireturn, 1) := by decide +kernel
set_option maxRecDepth 20000 in
theorem ggX8_spring_X8_isMonth : GoodIn wsX8_spring wsX8_isMonth := goodIn_r _ [7, 8, 9, 6, 10] (by decide +kernel) (by decide +kernel)
set_option maxRecDepth 20000 in
theorem gX8_spring_X8_isMonth : GoodIn wsX8_spring (va_wsS RX8 127 yX8_isMonth wsX8_isMonth) := goodIn_app (goodIn_of _ (by decide +kernel)) ggX8_spring_X8_isMonth
set_option maxRecDepth 20000 in
theorem ggX8_spring_X8_in : GoodIn wsX8_spring wsX8_in := goodIn_r _ [10] (by decide +kernel) (by decide +kernel)
set_option maxRecDepth 20000 in
theorem gX8_spring_X8_in : GoodIn wsX8_spring (va_wsS RX8 70 yX8_in wsX8_in) := goodIn_app (goodIn_of _ (by decide +kernel)) ggX8_spring_X8_in
theorem dX8_spring_0 : decode cX8_spring 0 = .ok (.aload_n 0, 1) := by decide +kernel
theorem dX8_spring_1 : decode cX8_spring 1 = .ok (.iconst 0, 1) := by decide +kernel
theorem dX8_spring_2 : decode cX8_spring 2 = .ok (.putfield 64, 3) := by decide +kernel
theorem dX8_spring_5 : decode cX8_spring 5 = .ok (.iload_n 1, 1) := by decide +kernel
theorem dX8_spring_6 : decode cX8_spring 6 = .ok (.invokestatic 127, 3) := by decide +kernel
theorem dX8_spring_9 : decode cX8_spring 9 = .ok (.ifCond .eq 13, 3) := by decide +kernel
theorem dX8_spring_12 : decode cX8_spring 12 = .ok (.iload_n 2, 1) := by decide +kernel
theorem dX8_spring_13 : decode cX8_spring 13 = .ok (.iconst 0, 1) := by decide +kernel
theorem dX8_spring_14 : decode cX8_spring 14 = .ok (.ldc 130, 2) := by decide +kernel
theorem dX8_spring_16 : decode cX8_spring 16 = .ok (.invokestatic 70, 3) := by decide +kernel
theorem dX8_spring_19 : decode cX8_spring 19 = .ok (.ifCond .ne 5, 3) := by decide +kernel
theorem dX8_spring_22 : decode cX8_spring 22 = .ok (.iconst (-1), 1) := by decide +kernel
theorem dX8_spring_23 : decode cX8_spring 23 = .ok (.ireturn, 1) := by decide +kernel
theorem dX8_spring_24 : decode cX8_spring 24 = .ok (.aload_n 0, 1) := by decide +kernel
theorem dX8_spring_25 : decode cX8_spring 25 = .ok (.getfield 16, 3) := by decide +kernel
theorem dX8_spring_28 : decode cX8_spring 28 = .ok (.iload_n 1, 1) := by decide +kernel
theorem dX8_spring_29 : decode cX8_spring 29 = .ok (.iaload, 1) := by decide +kernel
theorem dX8_spring_30 : decode cX8_spring 30 = .ok (.istore_n 3, 1) := by decide +kernel
theorem dX8_spring_31 : decode cX8_spring 31 = .ok (.aload_n 0, 1) := by decide +kernel
theorem dX8_spring_32 : decode cX8_spring 32 = .ok (.getfield 16, 3) := by decide +kernel
theorem dX8_spring_35 : decode cX8_spring 35 = .ok (.iload_n 1, 1) := by decide +kernel
theorem dX8_spring_36 : decode cX8_spring 36 = .ok (.iload_n 2, 1) := by decide +kernel
theorem dX8_spring_37 : decode cX8_spring 37 = .ok (.iastore, 1) := by decide +kernel
theorem dX8_spring_38 : decode cX8_spring 38 = .ok (.iload_n 3, 1) := by decide +kernel
theorem dX8_spring_39 : decode cX8_spring 39 = .ok (.ireturn, 1) := by decide +kernel
set_option maxRecDepth 20000 in
theorem ggX8_tuned_X8_isRam : GoodIn wsX8_tuned wsX8_isRam := goodIn_r _ [12, 13, 14, 15, 11, 16, 39, 40, 41, 42, 43, 44, 45, 46, 47, 48, 49, 50, 51, 52, 53, 54, 55, 56, 57, 58, 59, 60, 61, 62, 63, 64, 65, 66, 67, 68, 69, 70, 71, 72, 73, 74, 75, 76] (by decide +kernel) (by decide +kernel)
set_option maxRecDepth 20000 in
theorem gX8_tuned_X8_isRam : GoodIn wsX8_tuned (wsV RX8 74 RX8 yX8_isRam wsX8_isRam) := goodIn_app (goodIn_of _ (by decide +kernel)) ggX8_tuned_X8_isRam
set_option maxRecDepth 20000 in
theorem ggX8_tuned_X8_isMonth : GoodIn wsX8_tuned wsX8_isMonth := goodIn_r _ [19, 14, 15, 11, 16] (by decide +kernel) (by decide +kernel)
set_option maxRecDepth 20000 in
theorem gX8_tuned_X8_isMonth : GoodIn wsX8_tuned (va_wsS RX8 127 yX8_isMonth wsX8_isMonth) := goodIn_app (goodIn_of _ (by decide +kernel)) ggX8_tuned_X8_isMonth
set_option maxRecDepth 20000 in
theorem ggX8_tuned_X8_in : GoodIn wsX8_tuned wsX8_in := goodIn_r _ [16] (by decide +kernel) (by decide +kernel)
set_option maxRecDepth 20000 in
theorem gX8_tuned_X8_in : GoodIn wsX8_tuned (va_wsS RX8 70 yX8_in wsX8_in) := goodIn_app (goodIn_of _ (by decide +kernel)) ggX8_tuned_X8_in
set_option maxRecDepth 20000 in
theorem ggX8_tuned_X8_takes : GoodIn wsX8_tuned wsX8_takes := goodIn_r _ [23, 3, 24, 39, 40, 41, 42, 43, 44, 45, 46, 47, 48, 49, 50, 51, 52, 53, 54, 55, 56, 57, 58, 59, 60, 61, 62, 63, 64, 65, 66, 67, 68, 69, 70, 71, 72, 73, 74, 75, 76] (by decide +kernel) (by decide +kernel)
set_option maxRecDepth 20000 in
theorem gX8_tuned_X8_takes : GoodIn wsX8_tuned (wsV RX8 89 RX8 yX8_takes wsX8_takes) := goodIn_app (goodIn_of _ (by decide +kernel)) ggX8_tuned_X8_takes
set_option maxRecDepth 20000 in
theorem ggX8_tuned_X8_beats : GoodIn wsX8_tuned wsX8_beats := goodIn_r _ [28, 3, 29, 6, 4, 30, 5, 31, 32, 33, 34, 35, 36, 37, 11, 38, 39, 40, 41, 42, 43, 44, 45, 46, 47, 48, 49, 50, 51, 52, 53, 54, 55, 56, 57, 58, 59, 60, 61, 62, 63, 64, 65, 66, 67, 68, 69, 70, 71, 72, 73, 74, 75, 76] (by decide +kernel) (by decide +kernel)
set_option maxRecDepth 20000 in
theorem gX8_tuned_X8_beats : GoodIn wsX8_tuned (wsV RX8 120 RX8 yX8_beats wsX8_beats) := goodIn_app (goodIn_of _ (by decide +kernel)) ggX8_tuned_X8_beats
theorem dX8_tuned_0 : decode cX8_tuned 0 = .ok (.aload_n 0, 1) := by decide +kernel
theorem dX8_tuned_1 : decode cX8_tuned 1 = .ok (.iconst 0, 1) := by decide +kernel
theorem dX8_tuned_2 : decode cX8_tuned 2 = .ok (.putfield 64, 3) := by decide +kernel
theorem dX8_tuned_5 : decode cX8_tuned 5 = .ok (.aload_n 0, 1) := by decide +kernel
theorem dX8_tuned_6 : decode cX8_tuned 6 = .ok (.iload_n 1, 1) := by decide +kernel
theorem dX8_tuned_7 : decode cX8_tuned 7 = .ok (.invokevirtual 74, 3) := by decide +kernel
theorem dX8_tuned_10 : decode cX8_tuned 10 = .ok (.ifCond .eq 29, 3) := by decide +kernel
theorem dX8_tuned_13 : decode cX8_tuned 13 = .ok (.iload_n 2, 1) := by decide +kernel
theorem dX8_tuned_14 : decode cX8_tuned 14 = .ok (.invokestatic 127, 3) := by decide +kernel
theorem dX8_tuned_17 : decode cX8_tuned 17 = .ok (.ifCond .eq 22, 3) := by decide +kernel
theorem dX8_tuned_20 : decode cX8_tuned 20 = .ok (.iload_n 3, 1) := by decide +kernel
theorem dX8_tuned_21 : decode cX8_tuned 21 = .ok (.iconst 0, 1) := by decide +kernel
theorem dX8_tuned_22 : decode cX8_tuned 22 = .ok (.iconst 1, 1) := by decide +kernel
theorem dX8_tuned_23 : decode cX8_tuned 23 = .ok (.invokestatic 70, 3) := by decide +kernel
theorem dX8_tuned_26 : decode cX8_tuned 26 = .ok (.ifCond .eq 13, 3) := by decide +kernel
theorem dX8_tuned_29 : decode cX8_tuned 29 = .ok (.iload 4, 2) := by decide +kernel
theorem dX8_tuned_31 : decode cX8_tuned 31 = .ok (.iconst 0, 1) := by decide +kernel
theorem dX8_tuned_32 : decode cX8_tuned 32 = .ok (.iconst 2, 1) := by decide +kernel
theorem dX8_tuned_33 : decode cX8_tuned 33 = .ok (.invokestatic 70, 3) := by decide +kernel
theorem dX8_tuned_36 : decode cX8_tuned 36 = .ok (.ifCond .ne 5, 3) := by decide +kernel
theorem dX8_tuned_39 : decode cX8_tuned 39 = .ok (.iconst (-1), 1) := by decide +kernel
theorem dX8_tuned_40 : decode cX8_tuned 40 = .ok (.ireturn, 1) := by decide +kernel
theorem dX8_tuned_41 : decode cX8_tuned 41 = .ok (.aload_n 0, 1) := by decide +kernel
theorem dX8_tuned_42 : decode cX8_tuned 42 = .ok (.iload_n 1, 1) := by decide +kernel
theorem dX8_tuned_43 : decode cX8_tuned 43 = .ok (.invokevirtual 89, 3) := by decide +kernel
theorem dX8_tuned_46 : decode cX8_tuned 46 = .ok (.bipush (-9), 2) := by decide +kernel
theorem dX8_tuned_48 : decode cX8_tuned 48 = .ok (.istore 5, 2) := by decide +kernel
theorem dX8_tuned_50 : decode cX8_tuned 50 = .ok (.bipush (-9), 2) := by decide +kernel
theorem dX8_tuned_52 : decode cX8_tuned 52 = .ok (.istore 6, 2) := by decide +kernel
theorem dX8_tuned_54 : decode cX8_tuned 54 = .ok (.ldc2_w 131, 3) := by decide +kernel
theorem dX8_tuned_57 : decode cX8_tuned 57 = .ok (.lstore 7, 2) := by decide +kernel
theorem dX8_tuned_59 : decode cX8_tuned 59 = .ok (.lconst 0, 1) := by decide +kernel
theorem dX8_tuned_60 : decode cX8_tuned 60 = .ok (.lstore 9, 2) := by decide +kernel
theorem dX8_tuned_62 : decode cX8_tuned 62 = .ok (.iconst 5, 1) := by decide +kernel
theorem dX8_tuned_63 : decode cX8_tuned 63 = .ok (.istore 11, 2) := by decide +kernel
theorem dX8_tuned_65 : decode cX8_tuned 65 = .ok (.iload 11, 2) := by decide +kernel
theorem dX8_tuned_67 : decode cX8_tuned 67 = .ok (.sipush 400, 3) := by decide +kernel
theorem dX8_tuned_70 : decode cX8_tuned 70 = .ok (.if_icmp .gt 187, 3) := by decide +kernel
theorem dX8_tuned_73 : decode cX8_tuned 73 = .ok (.iconst 1, 1) := by decide +kernel
theorem dX8_tuned_74 : decode cX8_tuned 74 = .ok (.istore 12, 2) := by decide +kernel
theorem dX8_tuned_76 : decode cX8_tuned 76 = .ok (.iload 12, 2) := by decide +kernel
theorem dX8_tuned_78 : decode cX8_tuned 78 = .ok (.bipush 10, 2) := by decide +kernel
theorem dX8_tuned_80 : decode cX8_tuned 80 = .ok (.if_icmp .ge 171, 3) := by decide +kernel
theorem dX8_tuned_83 : decode cX8_tuned 83 = .ok (.aload_n 0, 1) := by decide +kernel
theorem dX8_tuned_84 : decode cX8_tuned 84 = .ok (.getfield 13, 3) := by decide +kernel
theorem dX8_tuned_87 : decode cX8_tuned 87 = .ok (.iconst 4, 1) := by decide +kernel
theorem dX8_tuned_88 : decode cX8_tuned 88 = .ok (.iload 11, 2) := by decide +kernel
theorem dX8_tuned_90 : decode cX8_tuned 90 = .ok (.iastore, 1) := by decide +kernel
theorem dX8_tuned_91 : decode cX8_tuned 91 = .ok (.aload_n 0, 1) := by decide +kernel
theorem dX8_tuned_92 : decode cX8_tuned 92 = .ok (.getfield 13, 3) := by decide +kernel
theorem dX8_tuned_95 : decode cX8_tuned 95 = .ok (.iconst 5, 1) := by decide +kernel
theorem dX8_tuned_96 : decode cX8_tuned 96 = .ok (.iload 12, 2) := by decide +kernel
theorem dX8_tuned_98 : decode cX8_tuned 98 = .ok (.iastore, 1) := by decide +kernel
theorem dX8_tuned_99 : decode cX8_tuned 99 = .ok (.aload_n 0, 1) := by decide +kernel
theorem dX8_tuned_100 : decode cX8_tuned 100 = .ok (.invokevirtual 120, 3) := by decide +kernel
theorem dX8_tuned_103 : decode cX8_tuned 103 = .ok (.ifCond .eq 142, 3) := by decide +kernel
theorem dX8_tuned_106 : decode cX8_tuned 106 = .ok (.aload_n 0, 1) := by decide +kernel
theorem dX8_tuned_107 : decode cX8_tuned 107 = .ok (.getfield 103, 3) := by decide +kernel
theorem dX8_tuned_110 : decode cX8_tuned 110 = .ok (.lconst 0, 1) := by decide +kernel
theorem dX8_tuned_111 : decode cX8_tuned 111 = .ok (.lcmp, 1) := by decide +kernel
theorem dX8_tuned_112 : decode cX8_tuned 112 = .ok (.ifCond .le 133, 3) := by decide +kernel
theorem dX8_tuned_115 : decode cX8_tuned 115 = .ok (.sipush 3600, 3) := by decide +kernel
theorem dX8_tuned_118 : decode cX8_tuned 118 = .ok (.aload_n 0, 1) := by decide +kernel
theorem dX8_tuned_119 : decode cX8_tuned 119 = .ok (.getfield 109, 3) := by decide +kernel
theorem dX8_tuned_122 : decode cX8_tuned 122 = .ok (.idiv, 1) := by decide +kernel
theorem dX8_tuned_123 : decode cX8_tuned 123 = .ok (.i2l, 1) := by decide +kernel
theorem dX8_tuned_124 : decode cX8_tuned 124 = .ok (.lstore 13, 2) := by decide +kernel
theorem dX8_tuned_126 : decode cX8_tuned 126 = .ok (.iload 5, 2) := by decide +kernel
theorem dX8_tuned_128 : decode cX8_tuned 128 = .ok (.bipush (-9), 2) := by decide +kernel
theorem dX8_tuned_130 : decode cX8_tuned 130 = .ok (.if_icmp .eq 47, 3) := by decide +kernel
theorem dX8_tuned_133 : decode cX8_tuned 133 = .ok (.iload_n 3, 1) := by decide +kernel
theorem dX8_tuned_134 : decode cX8_tuned 134 = .ok (.ifCond .ne 19, 3) := by decide +kernel
theorem dX8_tuned_137 : decode cX8_tuned 137 = .ok (.lload 13, 2) := by decide +kernel
theorem dX8_tuned_139 : decode cX8_tuned 139 = .ok (.aload_n 0, 1) := by decide +kernel
theorem dX8_tuned_140 : decode cX8_tuned 140 = .ok (.getfield 103, 3) := by decide +kernel
theorem dX8_tuned_143 : decode cX8_tuned 143 = .ok (.lmul, 1) := by decide +kernel
theorem dX8_tuned_144 : decode cX8_tuned 144 = .ok (.lload 7, 2) := by decide +kernel
theorem dX8_tuned_146 : decode cX8_tuned 146 = .ok (.lcmp, 1) := by decide +kernel
theorem dX8_tuned_147 : decode cX8_tuned 147 = .ok (.ifCond .le 34, 3) := by decide +kernel
theorem dX8_tuned_150 : decode cX8_tuned 150 = .ok (.goto 27, 3) := by decide +kernel
theorem dX8_tuned_153 : decode cX8_tuned 153 = .ok (.lload 13, 2) := by decide +kernel
theorem dX8_tuned_155 : decode cX8_tuned 155 = .ok (.aload_n 0, 1) := by decide +kernel
theorem dX8_tuned_156 : decode cX8_tuned 156 = .ok (.getfield 100, 3) := by decide +kernel
theorem dX8_tuned_159 : decode cX8_tuned 159 = .ok (.lmul, 1) := by decide +kernel
theorem dX8_tuned_160 : decode cX8_tuned 160 = .ok (.lload 7, 2) := by decide +kernel
theorem dX8_tuned_162 : decode cX8_tuned 162 = .ok (.lmul, 1) := by decide +kernel
theorem dX8_tuned_163 : decode cX8_tuned 163 = .ok (.lload 9, 2) := by decide +kernel
theorem dX8_tuned_165 : decode cX8_tuned 165 = .ok (.lload 13, 2) := by decide +kernel
theorem dX8_tuned_167 : decode cX8_tuned 167 = .ok (.lmul, 1) := by decide +kernel
theorem dX8_tuned_168 : decode cX8_tuned 168 = .ok (.aload_n 0, 1) := by decide +kernel
theorem dX8_tuned_169 : decode cX8_tuned 169 = .ok (.getfield 103, 3) := by decide +kernel
theorem dX8_tuned_172 : decode cX8_tuned 172 = .ok (.lmul, 1) := by decide +kernel
theorem dX8_tuned_173 : decode cX8_tuned 173 = .ok (.lcmp, 1) := by decide +kernel
theorem dX8_tuned_174 : decode cX8_tuned 174 = .ok (.ifCond .ge 7, 3) := by decide +kernel
theorem dX8_tuned_177 : decode cX8_tuned 177 = .ok (.iconst 1, 1) := by decide +kernel
theorem dX8_tuned_178 : decode cX8_tuned 178 = .ok (.goto 4, 3) := by decide +kernel
theorem dX8_tuned_181 : decode cX8_tuned 181 = .ok (.iconst 0, 1) := by decide +kernel
theorem dX8_tuned_182 : decode cX8_tuned 182 = .ok (.istore 15, 2) := by decide +kernel
theorem dX8_tuned_184 : decode cX8_tuned 184 = .ok (.lload 13, 2) := by decide +kernel
theorem dX8_tuned_186 : decode cX8_tuned 186 = .ok (.aload_n 0, 1) := by decide +kernel
theorem dX8_tuned_187 : decode cX8_tuned 187 = .ok (.getfield 100, 3) := by decide +kernel
theorem dX8_tuned_190 : decode cX8_tuned 190 = .ok (.aload_n 0, 1) := by decide +kernel
theorem dX8_tuned_191 : decode cX8_tuned 191 = .ok (.getfield 103, 3) := by decide +kernel
theorem dX8_tuned_194 : decode cX8_tuned 194 = .ok (.ladd, 1) := by decide +kernel
theorem dX8_tuned_195 : decode cX8_tuned 195 = .ok (.lmul, 1) := by decide +kernel
theorem dX8_tuned_196 : decode cX8_tuned 196 = .ok (.aload_n 0, 1) := by decide +kernel
theorem dX8_tuned_197 : decode cX8_tuned 197 = .ok (.getfield 16, 3) := by decide +kernel
theorem dX8_tuned_200 : decode cX8_tuned 200 = .ok (.iload_n 2, 1) := by decide +kernel
theorem dX8_tuned_201 : decode cX8_tuned 201 = .ok (.iaload, 1) := by decide +kernel
theorem dX8_tuned_202 : decode cX8_tuned 202 = .ok (.i2l, 1) := by decide +kernel
theorem dX8_tuned_203 : decode cX8_tuned 203 = .ok (.lcmp, 1) := by decide +kernel
theorem dX8_tuned_204 : decode cX8_tuned 204 = .ok (.ifCond .gt 41, 3) := by decide +kernel
theorem dX8_tuned_207 : decode cX8_tuned 207 = .ok (.lload 13, 2) := by decide +kernel
theorem dX8_tuned_209 : decode cX8_tuned 209 = .ok (.lconst 0, 1) := by decide +kernel
theorem dX8_tuned_210 : decode cX8_tuned 210 = .ok (.lcmp, 1) := by decide +kernel
theorem dX8_tuned_211 : decode cX8_tuned 211 = .ok (.ifCond .le 34, 3) := by decide +kernel
theorem dX8_tuned_214 : decode cX8_tuned 214 = .ok (.iload 15, 2) := by decide +kernel
theorem dX8_tuned_216 : decode cX8_tuned 216 = .ok (.ifCond .eq 29, 3) := by decide +kernel
theorem dX8_tuned_219 : decode cX8_tuned 219 = .ok (.iload 11, 2) := by decide +kernel
theorem dX8_tuned_221 : decode cX8_tuned 221 = .ok (.istore 5, 2) := by decide +kernel
theorem dX8_tuned_223 : decode cX8_tuned 223 = .ok (.iload 12, 2) := by decide +kernel
theorem dX8_tuned_225 : decode cX8_tuned 225 = .ok (.istore 6, 2) := by decide +kernel
theorem dX8_tuned_227 : decode cX8_tuned 227 = .ok (.lload 13, 2) := by decide +kernel
theorem dX8_tuned_229 : decode cX8_tuned 229 = .ok (.aload_n 0, 1) := by decide +kernel
theorem dX8_tuned_230 : decode cX8_tuned 230 = .ok (.getfield 103, 3) := by decide +kernel
theorem dX8_tuned_233 : decode cX8_tuned 233 = .ok (.lmul, 1) := by decide +kernel
theorem dX8_tuned_234 : decode cX8_tuned 234 = .ok (.lstore 7, 2) := by decide +kernel
theorem dX8_tuned_236 : decode cX8_tuned 236 = .ok (.lload 13, 2) := by decide +kernel
theorem dX8_tuned_238 : decode cX8_tuned 238 = .ok (.aload_n 0, 1) := by decide +kernel
theorem dX8_tuned_239 : decode cX8_tuned 239 = .ok (.getfield 100, 3) := by decide +kernel
theorem dX8_tuned_242 : decode cX8_tuned 242 = .ok (.lmul, 1) := by decide +kernel
theorem dX8_tuned_243 : decode cX8_tuned 243 = .ok (.lstore 9, 2) := by decide +kernel
theorem dX8_tuned_245 : decode cX8_tuned 245 = .ok (.iinc 12 1, 3) := by decide +kernel
theorem dX8_tuned_248 : decode cX8_tuned 248 = .ok (.goto (-172), 3) := by decide +kernel
theorem dX8_tuned_251 : decode cX8_tuned 251 = .ok (.iinc 11 5, 3) := by decide +kernel
theorem dX8_tuned_254 : decode cX8_tuned 254 = .ok (.goto (-189), 3) := by decide +kernel
theorem dX8_tuned_257 : decode cX8_tuned 257 = .ok (.iload 4, 2) := by decide +kernel
theorem dX8_tuned_259 : decode cX8_tuned 259 = .ok (.ifCond .ne 8, 3) := by decide +kernel
theorem dX8_tuned_262 : decode cX8_tuned 262 = .ok (.iload 5, 2) := by decide +kernel
theorem dX8_tuned_264 : decode cX8_tuned 264 = .ok (.goto 17, 3) := by decide +kernel
theorem dX8_tuned_267 : decode cX8_tuned 267 = .ok (.iload 4, 2) := by decide +kernel
theorem dX8_tuned_269 : decode cX8_tuned 269 = .ok (.iconst 1, 1) := by decide +kernel
theorem dX8_tuned_270 : decode cX8_tuned 270 = .ok (.if_icmp .ne 8, 3) := by decide +kernel
theorem dX8_tuned_273 : decode cX8_tuned 273 = .ok (.iload 6, 2) := by decide +kernel
theorem dX8_tuned_275 : decode cX8_tuned 275 = .ok (.goto 6, 3) := by decide +kernel
theorem dX8_tuned_278 : decode cX8_tuned 278 = .ok (.lload 7, 2) := by decide +kernel
theorem dX8_tuned_280 : decode cX8_tuned 280 = .ok (.l2i, 1) := by decide +kernel
theorem dX8_tuned_281 : decode cX8_tuned 281 = .ok (.ireturn, 1) := by decide +kernel
set_option maxRecDepth 20000 in
theorem ggX8_tune_X8_in : GoodIn wsX8_tune wsX8_in := goodIn_r _ [8] (by decide +kernel) (by decide +kernel)
set_option maxRecDepth 20000 in
theorem gX8_tune_X8_in : GoodIn wsX8_tune (va_wsS RX8 70 yX8_in wsX8_in) := goodIn_app (goodIn_of _ (by decide +kernel)) ggX8_tune_X8_in
theorem dX8_tune_0 : decode cX8_tune 0 = .ok (.aload_n 0, 1) := by decide +kernel
theorem dX8_tune_1 : decode cX8_tune 1 = .ok (.iconst 0, 1) := by decide +kernel
theorem dX8_tune_2 : decode cX8_tune 2 = .ok (.putfield 64, 3) := by decide +kernel
theorem dX8_tune_5 : decode cX8_tune 5 = .ok (.iload_n 1, 1) := by decide +kernel
theorem dX8_tune_6 : decode cX8_tune 6 = .ok (.iconst 5, 1) := by decide +kernel
theorem dX8_tune_7 : decode cX8_tune 7 = .ok (.sipush 400, 3) := by decide +kernel
theorem dX8_tune_10 : decode cX8_tune 10 = .ok (.invokestatic 70, 3) := by decide +kernel
theorem dX8_tune_13 : decode cX8_tune 13 = .ok (.ifCond .eq 13, 3) := by decide +kernel
theorem dX8_tune_16 : decode cX8_tune 16 = .ok (.iload_n 2, 1) := by decide +kernel
theorem dX8_tune_17 : decode cX8_tune 17 = .ok (.iconst 1, 1) := by decide +kernel
theorem dX8_tune_18 : decode cX8_tune 18 = .ok (.bipush 9, 2) := by decide +kernel
theorem dX8_tune_20 : decode cX8_tune 20 = .ok (.invokestatic 70, 3) := by decide +kernel
theorem dX8_tune_23 : decode cX8_tune 23 = .ok (.ifCond .ne 5, 3) := by decide +kernel
theorem dX8_tune_26 : decode cX8_tune 26 = .ok (.iconst (-1), 1) := by decide +kernel
theorem dX8_tune_27 : decode cX8_tune 27 = .ok (.ireturn, 1) := by decide +kernel
theorem dX8_tune_28 : decode cX8_tune 28 = .ok (.aload_n 0, 1) := by decide +kernel
theorem dX8_tune_29 : decode cX8_tune 29 = .ok (.getfield 133, 3) := by decide +kernel
theorem dX8_tune_32 : decode cX8_tune 32 = .ok (.bipush 6, 2) := by decide +kernel
theorem dX8_tune_34 : decode cX8_tune 34 = .ok (.if_icmp .ne 6, 3) := by decide +kernel
theorem dX8_tune_37 : decode cX8_tune 37 = .ok (.bipush (-3), 2) := by decide +kernel
theorem dX8_tune_39 : decode cX8_tune 39 = .ok (.ireturn, 1) := by decide +kernel
theorem dX8_tune_40 : decode cX8_tune 40 = .ok (.aload_n 0, 1) := by decide +kernel
theorem dX8_tune_41 : decode cX8_tune 41 = .ok (.getfield 22, 3) := by decide +kernel
theorem dX8_tune_44 : decode cX8_tune 44 = .ok (.aload_n 0, 1) := by decide +kernel
theorem dX8_tune_45 : decode cX8_tune 45 = .ok (.getfield 133, 3) := by decide +kernel
theorem dX8_tune_48 : decode cX8_tune 48 = .ok (.iload_n 1, 1) := by decide +kernel
theorem dX8_tune_49 : decode cX8_tune 49 = .ok (.iastore, 1) := by decide +kernel
theorem dX8_tune_50 : decode cX8_tune 50 = .ok (.aload_n 0, 1) := by decide +kernel
theorem dX8_tune_51 : decode cX8_tune 51 = .ok (.getfield 25, 3) := by decide +kernel
theorem dX8_tune_54 : decode cX8_tune 54 = .ok (.aload_n 0, 1) := by decide +kernel
theorem dX8_tune_55 : decode cX8_tune 55 = .ok (.getfield 133, 3) := by decide +kernel
theorem dX8_tune_58 : decode cX8_tune 58 = .ok (.iload_n 2, 1) := by decide +kernel
theorem dX8_tune_59 : decode cX8_tune 59 = .ok (.iastore, 1) := by decide +kernel
theorem dX8_tune_60 : decode cX8_tune 60 = .ok (.aload_n 0, 1) := by decide +kernel
theorem dX8_tune_61 : decode cX8_tune 61 = .ok (.dup, 1) := by decide +kernel
theorem dX8_tune_62 : decode cX8_tune 62 = .ok (.getfield 133, 3) := by decide +kernel
theorem dX8_tune_65 : decode cX8_tune 65 = .ok (.iconst 1, 1) := by decide +kernel
theorem dX8_tune_66 : decode cX8_tune 66 = .ok (.iadd, 1) := by decide +kernel
theorem dX8_tune_67 : decode cX8_tune 67 = .ok (.putfield 133, 3) := by decide +kernel
theorem dX8_tune_70 : decode cX8_tune 70 = .ok (.aload_n 0, 1) := by decide +kernel
theorem dX8_tune_71 : decode cX8_tune 71 = .ok (.getfield 133, 3) := by decide +kernel
theorem dX8_tune_74 : decode cX8_tune 74 = .ok (.iconst 1, 1) := by decide +kernel
theorem dX8_tune_75 : decode cX8_tune 75 = .ok (.isub, 1) := by decide +kernel
theorem dX8_tune_76 : decode cX8_tune 76 = .ok (.ireturn, 1) := by decide +kernel
theorem dX8_forget_0 : decode cX8_forget 0 = .ok (.aload_n 0, 1) := by decide +kernel
theorem dX8_forget_1 : decode cX8_forget 1 = .ok (.iconst 0, 1) := by decide +kernel
theorem dX8_forget_2 : decode cX8_forget 2 = .ok (.putfield 64, 3) := by decide +kernel
theorem dX8_forget_5 : decode cX8_forget 5 = .ok (.aload_n 0, 1) := by decide +kernel
theorem dX8_forget_6 : decode cX8_forget 6 = .ok (.getfield 133, 3) := by decide +kernel
theorem dX8_forget_9 : decode cX8_forget 9 = .ok (.istore_n 1, 1) := by decide +kernel
theorem dX8_forget_10 : decode cX8_forget 10 = .ok (.aload_n 0, 1) := by decide +kernel
theorem dX8_forget_11 : decode cX8_forget 11 = .ok (.iconst 0, 1) := by decide +kernel
theorem dX8_forget_12 : decode cX8_forget 12 = .ok (.putfield 133, 3) := by decide +kernel
theorem dX8_forget_15 : decode cX8_forget 15 = .ok (.iload_n 1, 1) := by decide +kernel
theorem dX8_forget_16 : decode cX8_forget 16 = .ok (.ireturn, 1) := by decide +kernel
theorem dX8_numbers_0 : decode cX8_numbers 0 = .ok (.iconst 1, 1) := by decide +kernel
theorem dX8_numbers_1 : decode cX8_numbers 1 = .ok (.istore_n 1, 1) := by decide +kernel
theorem dX8_numbers_2 : decode cX8_numbers 2 = .ok (.iconst 0, 1) := by decide +kernel
theorem dX8_numbers_3 : decode cX8_numbers 3 = .ok (.istore_n 2, 1) := by decide +kernel
theorem dX8_numbers_4 : decode cX8_numbers 4 = .ok (.iload_n 2, 1) := by decide +kernel
theorem dX8_numbers_5 : decode cX8_numbers 5 = .ok (.aload_n 0, 1) := by decide +kernel
theorem dX8_numbers_6 : decode cX8_numbers 6 = .ok (.getfield 67, 3) := by decide +kernel
theorem dX8_numbers_9 : decode cX8_numbers 9 = .ok (.if_icmp .ge 14, 3) := by decide +kernel
theorem dX8_numbers_12 : decode cX8_numbers 12 = .ok (.iload_n 1, 1) := by decide +kernel
theorem dX8_numbers_13 : decode cX8_numbers 13 = .ok (.bipush 7, 2) := by decide +kernel
theorem dX8_numbers_15 : decode cX8_numbers 15 = .ok (.imul, 1) := by decide +kernel
theorem dX8_numbers_16 : decode cX8_numbers 16 = .ok (.istore_n 1, 1) := by decide +kernel
theorem dX8_numbers_17 : decode cX8_numbers 17 = .ok (.iinc 2 1, 3) := by decide +kernel
theorem dX8_numbers_20 : decode cX8_numbers 20 = .ok (.goto (-16), 3) := by decide +kernel
theorem dX8_numbers_23 : decode cX8_numbers 23 = .ok (.iload_n 1, 1) := by decide +kernel
theorem dX8_numbers_24 : decode cX8_numbers 24 = .ok (.ireturn, 1) := by decide +kernel
set_option maxRecDepth 20000 in
theorem ggX8_side_X8_isMonth : GoodIn wsX8_side wsX8_isMonth := goodIn_r _ [15, 16, 17, 14, 18] (by decide +kernel) (by decide +kernel)
set_option maxRecDepth 20000 in
theorem gX8_side_X8_isMonth : GoodIn wsX8_side (va_wsS RX8 127 yX8_isMonth wsX8_isMonth) := goodIn_app (goodIn_of _ (by decide +kernel)) ggX8_side_X8_isMonth
set_option maxRecDepth 20000 in
theorem ggX8_side_X8_in : GoodIn wsX8_side wsX8_in := goodIn_r _ [18] (by decide +kernel) (by decide +kernel)
set_option maxRecDepth 20000 in
theorem gX8_side_X8_in : GoodIn wsX8_side (va_wsS RX8 70 yX8_in wsX8_in) := goodIn_app (goodIn_of _ (by decide +kernel)) ggX8_side_X8_in
set_option maxRecDepth 20000 in
theorem ggX8_side_X8_numbers : GoodIn wsX8_side wsX8_numbers := goodIn_r _ [22, 3, 42, 43, 44, 45, 46, 47, 48, 49, 50, 51, 52, 53, 54, 55, 56, 57, 58, 59, 60, 61, 62, 63, 64, 65, 66, 67, 68, 69, 70, 71, 72, 73, 74, 75, 76, 77, 78, 79] (by decide +kernel) (by decide +kernel)
set_option maxRecDepth 20000 in
theorem gX8_side_X8_numbers : GoodIn wsX8_side (wsV RX8 138 RX8 yX8_numbers wsX8_numbers) := goodIn_app (goodIn_of _ (by decide +kernel)) ggX8_side_X8_numbers
set_option maxRecDepth 20000 in
theorem ggX8_side_X8_takes : GoodIn wsX8_side wsX8_takes := goodIn_r _ [26, 5, 27, 42, 43, 44, 45, 46, 47, 48, 49, 50, 51, 52, 53, 54, 55, 56, 57, 58, 59, 60, 61, 62, 63, 64, 65, 66, 67, 68, 69, 70, 71, 72, 73, 74, 75, 76, 77, 78, 79] (by decide +kernel) (by decide +kernel)
set_option maxRecDepth 20000 in
theorem gX8_side_X8_takes : GoodIn wsX8_side (wsV RX8 89 RX8 yX8_takes wsX8_takes) := goodIn_app (goodIn_of _ (by decide +kernel)) ggX8_side_X8_takes
set_option maxRecDepth 20000 in
theorem ggX8_side_X8_beats : GoodIn wsX8_side wsX8_beats := goodIn_r _ [31, 5, 32, 10, 9, 33, 8, 34, 35, 36, 37, 38, 39, 40, 14, 41, 42, 43, 44, 45, 46, 47, 48, 49, 50, 51, 52, 53, 54, 55, 56, 57, 58, 59, 60, 61, 62, 63, 64, 65, 66, 67, 68, 69, 70, 71, 72, 73, 74, 75, 76, 77, 78, 79] (by decide +kernel) (by decide +kernel)
set_option maxRecDepth 20000 in
theorem gX8_side_X8_beats : GoodIn wsX8_side (wsV RX8 120 RX8 yX8_beats wsX8_beats) := goodIn_app (goodIn_of _ (by decide +kernel)) ggX8_side_X8_beats
theorem dX8_side_0 : decode cX8_side 0 = .ok (.aload_n 0, 1) := by decide +kernel
theorem dX8_side_1 : decode cX8_side 1 = .ok (.iconst 0, 1) := by decide +kernel
theorem dX8_side_2 : decode cX8_side 2 = .ok (.putfield 64, 3) := by decide +kernel
theorem dX8_side_5 : decode cX8_side 5 = .ok (.iload_n 1, 1) := by decide +kernel
theorem dX8_side_6 : decode cX8_side 6 = .ok (.invokestatic 127, 3) := by decide +kernel
theorem dX8_side_9 : decode cX8_side 9 = .ok (.ifCond .eq 12, 3) := by decide +kernel
theorem dX8_side_12 : decode cX8_side 12 = .ok (.iload_n 2, 1) := by decide +kernel
theorem dX8_side_13 : decode cX8_side 13 = .ok (.iconst 0, 1) := by decide +kernel
theorem dX8_side_14 : decode cX8_side 14 = .ok (.iconst 1, 1) := by decide +kernel
theorem dX8_side_15 : decode cX8_side 15 = .ok (.invokestatic 70, 3) := by decide +kernel
theorem dX8_side_18 : decode cX8_side 18 = .ok (.ifCond .ne 5, 3) := by decide +kernel
theorem dX8_side_21 : decode cX8_side 21 = .ok (.iconst (-1), 1) := by decide +kernel
theorem dX8_side_22 : decode cX8_side 22 = .ok (.ireturn, 1) := by decide +kernel
theorem dX8_side_23 : decode cX8_side 23 = .ok (.iconst 0, 1) := by decide +kernel
theorem dX8_side_24 : decode cX8_side 24 = .ok (.istore_n 3, 1) := by decide +kernel
theorem dX8_side_25 : decode cX8_side 25 = .ok (.ldc2_w 136, 3) := by decide +kernel
theorem dX8_side_28 : decode cX8_side 28 = .ok (.lstore 4, 2) := by decide +kernel
theorem dX8_side_30 : decode cX8_side 30 = .ok (.iconst 0, 1) := by decide +kernel
theorem dX8_side_31 : decode cX8_side 31 = .ok (.istore 6, 2) := by decide +kernel
theorem dX8_side_33 : decode cX8_side 33 = .ok (.iload 6, 2) := by decide +kernel
theorem dX8_side_35 : decode cX8_side 35 = .ok (.aload_n 0, 1) := by decide +kernel
theorem dX8_side_36 : decode cX8_side 36 = .ok (.invokevirtual 138, 3) := by decide +kernel
theorem dX8_side_39 : decode cX8_side 39 = .ok (.if_icmp .ge 234, 3) := by decide +kernel
theorem dX8_side_42 : decode cX8_side 42 = .ok (.iload 6, 2) := by decide +kernel
theorem dX8_side_44 : decode cX8_side 44 = .ok (.istore 7, 2) := by decide +kernel
theorem dX8_side_46 : decode cX8_side 46 = .ok (.lconst 0, 1) := by decide +kernel
theorem dX8_side_47 : decode cX8_side 47 = .ok (.lstore 8, 2) := by decide +kernel
theorem dX8_side_49 : decode cX8_side 49 = .ok (.lconst 0, 1) := by decide +kernel
theorem dX8_side_50 : decode cX8_side 50 = .ok (.lstore 10, 2) := by decide +kernel
theorem dX8_side_52 : decode cX8_side 52 = .ok (.iconst 1, 1) := by decide +kernel
theorem dX8_side_53 : decode cX8_side 53 = .ok (.istore 12, 2) := by decide +kernel
theorem dX8_side_55 : decode cX8_side 55 = .ok (.iconst 0, 1) := by decide +kernel
theorem dX8_side_56 : decode cX8_side 56 = .ok (.istore 13, 2) := by decide +kernel
theorem dX8_side_58 : decode cX8_side 58 = .ok (.iload 13, 2) := by decide +kernel
theorem dX8_side_60 : decode cX8_side 60 = .ok (.aload_n 0, 1) := by decide +kernel
theorem dX8_side_61 : decode cX8_side 61 = .ok (.getfield 67, 3) := by decide +kernel
theorem dX8_side_64 : decode cX8_side 64 = .ok (.if_icmp .ge 170, 3) := by decide +kernel
theorem dX8_side_67 : decode cX8_side 67 = .ok (.iload 12, 2) := by decide +kernel
theorem dX8_side_69 : decode cX8_side 69 = .ok (.ifCond .eq 165, 3) := by decide +kernel
theorem dX8_side_72 : decode cX8_side 72 = .ok (.iload 7, 2) := by decide +kernel
theorem dX8_side_74 : decode cX8_side 74 = .ok (.bipush 7, 2) := by decide +kernel
theorem dX8_side_76 : decode cX8_side 76 = .ok (.irem, 1) := by decide +kernel
theorem dX8_side_77 : decode cX8_side 77 = .ok (.istore 14, 2) := by decide +kernel
theorem dX8_side_79 : decode cX8_side 79 = .ok (.iload 7, 2) := by decide +kernel
theorem dX8_side_81 : decode cX8_side 81 = .ok (.bipush 7, 2) := by decide +kernel
theorem dX8_side_83 : decode cX8_side 83 = .ok (.idiv, 1) := by decide +kernel
theorem dX8_side_84 : decode cX8_side 84 = .ok (.istore 7, 2) := by decide +kernel
theorem dX8_side_86 : decode cX8_side 86 = .ok (.iload 14, 2) := by decide +kernel
theorem dX8_side_88 : decode cX8_side 88 = .ok (.ifCond .le 140, 3) := by decide +kernel
theorem dX8_side_91 : decode cX8_side 91 = .ok (.iload 14, 2) := by decide +kernel
theorem dX8_side_93 : decode cX8_side 93 = .ok (.aload_n 0, 1) := by decide +kernel
theorem dX8_side_94 : decode cX8_side 94 = .ok (.getfield 133, 3) := by decide +kernel
theorem dX8_side_97 : decode cX8_side 97 = .ok (.if_icmp .gt 7, 3) := by decide +kernel
theorem dX8_side_100 : decode cX8_side 100 = .ok (.iconst 1, 1) := by decide +kernel
theorem dX8_side_101 : decode cX8_side 101 = .ok (.goto 4, 3) := by decide +kernel
theorem dX8_side_104 : decode cX8_side 104 = .ok (.iconst 0, 1) := by decide +kernel
theorem dX8_side_105 : decode cX8_side 105 = .ok (.istore 12, 2) := by decide +kernel
theorem dX8_side_107 : decode cX8_side 107 = .ok (.aload_n 0, 1) := by decide +kernel
theorem dX8_side_108 : decode cX8_side 108 = .ok (.iload 13, 2) := by decide +kernel
theorem dX8_side_110 : decode cX8_side 110 = .ok (.invokevirtual 89, 3) := by decide +kernel
theorem dX8_side_113 : decode cX8_side 113 = .ok (.aload_n 0, 1) := by decide +kernel
theorem dX8_side_114 : decode cX8_side 114 = .ok (.getfield 13, 3) := by decide +kernel
theorem dX8_side_117 : decode cX8_side 117 = .ok (.iconst 4, 1) := by decide +kernel
theorem dX8_side_118 : decode cX8_side 118 = .ok (.iload 12, 2) := by decide +kernel
theorem dX8_side_120 : decode cX8_side 120 = .ok (.ifCond .eq 15, 3) := by decide +kernel
theorem dX8_side_123 : decode cX8_side 123 = .ok (.aload_n 0, 1) := by decide +kernel
theorem dX8_side_124 : decode cX8_side 124 = .ok (.getfield 22, 3) := by decide +kernel
theorem dX8_side_127 : decode cX8_side 127 = .ok (.iload 14, 2) := by decide +kernel
theorem dX8_side_129 : decode cX8_side 129 = .ok (.iconst 1, 1) := by decide +kernel
theorem dX8_side_130 : decode cX8_side 130 = .ok (.isub, 1) := by decide +kernel
theorem dX8_side_131 : decode cX8_side 131 = .ok (.iaload, 1) := by decide +kernel
theorem dX8_side_132 : decode cX8_side 132 = .ok (.goto 4, 3) := by decide +kernel
theorem dX8_side_135 : decode cX8_side 135 = .ok (.iconst 5, 1) := by decide +kernel
theorem dX8_side_136 : decode cX8_side 136 = .ok (.iastore, 1) := by decide +kernel
theorem dX8_side_137 : decode cX8_side 137 = .ok (.aload_n 0, 1) := by decide +kernel
theorem dX8_side_138 : decode cX8_side 138 = .ok (.getfield 13, 3) := by decide +kernel
theorem dX8_side_141 : decode cX8_side 141 = .ok (.iconst 5, 1) := by decide +kernel
theorem dX8_side_142 : decode cX8_side 142 = .ok (.iload 12, 2) := by decide +kernel
theorem dX8_side_144 : decode cX8_side 144 = .ok (.ifCond .eq 15, 3) := by decide +kernel
theorem dX8_side_147 : decode cX8_side 147 = .ok (.aload_n 0, 1) := by decide +kernel
theorem dX8_side_148 : decode cX8_side 148 = .ok (.getfield 25, 3) := by decide +kernel
theorem dX8_side_151 : decode cX8_side 151 = .ok (.iload 14, 2) := by decide +kernel
theorem dX8_side_153 : decode cX8_side 153 = .ok (.iconst 1, 1) := by decide +kernel
theorem dX8_side_154 : decode cX8_side 154 = .ok (.isub, 1) := by decide +kernel
theorem dX8_side_155 : decode cX8_side 155 = .ok (.iaload, 1) := by decide +kernel
theorem dX8_side_156 : decode cX8_side 156 = .ok (.goto 4, 3) := by decide +kernel
theorem dX8_side_159 : decode cX8_side 159 = .ok (.iconst 1, 1) := by decide +kernel
theorem dX8_side_160 : decode cX8_side 160 = .ok (.iastore, 1) := by decide +kernel
theorem dX8_side_161 : decode cX8_side 161 = .ok (.iload 12, 2) := by decide +kernel
theorem dX8_side_163 : decode cX8_side 163 = .ok (.ifCond .eq 14, 3) := by decide +kernel
theorem dX8_side_166 : decode cX8_side 166 = .ok (.aload_n 0, 1) := by decide +kernel
theorem dX8_side_167 : decode cX8_side 167 = .ok (.invokevirtual 120, 3) := by decide +kernel
theorem dX8_side_170 : decode cX8_side 170 = .ok (.ifCond .eq 7, 3) := by decide +kernel
theorem dX8_side_173 : decode cX8_side 173 = .ok (.iconst 1, 1) := by decide +kernel
theorem dX8_side_174 : decode cX8_side 174 = .ok (.goto 4, 3) := by decide +kernel
theorem dX8_side_177 : decode cX8_side 177 = .ok (.iconst 0, 1) := by decide +kernel
theorem dX8_side_178 : decode cX8_side 178 = .ok (.istore 12, 2) := by decide +kernel
theorem dX8_side_180 : decode cX8_side 180 = .ok (.iload 12, 2) := by decide +kernel
theorem dX8_side_182 : decode cX8_side 182 = .ok (.ifCond .eq 46, 3) := by decide +kernel
theorem dX8_side_185 : decode cX8_side 185 = .ok (.lload 8, 2) := by decide +kernel
theorem dX8_side_187 : decode cX8_side 187 = .ok (.sipush 3600, 3) := by decide +kernel
theorem dX8_side_190 : decode cX8_side 190 = .ok (.aload_n 0, 1) := by decide +kernel
theorem dX8_side_191 : decode cX8_side 191 = .ok (.getfield 109, 3) := by decide +kernel
theorem dX8_side_194 : decode cX8_side 194 = .ok (.idiv, 1) := by decide +kernel
theorem dX8_side_195 : decode cX8_side 195 = .ok (.i2l, 1) := by decide +kernel
theorem dX8_side_196 : decode cX8_side 196 = .ok (.aload_n 0, 1) := by decide +kernel
theorem dX8_side_197 : decode cX8_side 197 = .ok (.getfield 103, 3) := by decide +kernel
theorem dX8_side_200 : decode cX8_side 200 = .ok (.lmul, 1) := by decide +kernel
theorem dX8_side_201 : decode cX8_side 201 = .ok (.ladd, 1) := by decide +kernel
theorem dX8_side_202 : decode cX8_side 202 = .ok (.lstore 8, 2) := by decide +kernel
theorem dX8_side_204 : decode cX8_side 204 = .ok (.lload 10, 2) := by decide +kernel
theorem dX8_side_206 : decode cX8_side 206 = .ok (.sipush 3600, 3) := by decide +kernel
theorem dX8_side_209 : decode cX8_side 209 = .ok (.aload_n 0, 1) := by decide +kernel
theorem dX8_side_210 : decode cX8_side 210 = .ok (.getfield 109, 3) := by decide +kernel
theorem dX8_side_213 : decode cX8_side 213 = .ok (.idiv, 1) := by decide +kernel
theorem dX8_side_214 : decode cX8_side 214 = .ok (.i2l, 1) := by decide +kernel
theorem dX8_side_215 : decode cX8_side 215 = .ok (.aload_n 0, 1) := by decide +kernel
theorem dX8_side_216 : decode cX8_side 216 = .ok (.getfield 100, 3) := by decide +kernel
theorem dX8_side_219 : decode cX8_side 219 = .ok (.aload_n 0, 1) := by decide +kernel
theorem dX8_side_220 : decode cX8_side 220 = .ok (.getfield 103, 3) := by decide +kernel
theorem dX8_side_223 : decode cX8_side 223 = .ok (.ladd, 1) := by decide +kernel
theorem dX8_side_224 : decode cX8_side 224 = .ok (.lmul, 1) := by decide +kernel
theorem dX8_side_225 : decode cX8_side 225 = .ok (.ladd, 1) := by decide +kernel
theorem dX8_side_226 : decode cX8_side 226 = .ok (.lstore 10, 2) := by decide +kernel
theorem dX8_side_228 : decode cX8_side 228 = .ok (.iinc 13 1, 3) := by decide +kernel
theorem dX8_side_231 : decode cX8_side 231 = .ok (.goto (-173), 3) := by decide +kernel
theorem dX8_side_234 : decode cX8_side 234 = .ok (.iload 12, 2) := by decide +kernel
theorem dX8_side_236 : decode cX8_side 236 = .ok (.ifCond .eq 31, 3) := by decide +kernel
theorem dX8_side_239 : decode cX8_side 239 = .ok (.lload 10, 2) := by decide +kernel
theorem dX8_side_241 : decode cX8_side 241 = .ok (.aload_n 0, 1) := by decide +kernel
theorem dX8_side_242 : decode cX8_side 242 = .ok (.getfield 16, 3) := by decide +kernel
theorem dX8_side_245 : decode cX8_side 245 = .ok (.iload_n 1, 1) := by decide +kernel
theorem dX8_side_246 : decode cX8_side 246 = .ok (.iaload, 1) := by decide +kernel
theorem dX8_side_247 : decode cX8_side 247 = .ok (.i2l, 1) := by decide +kernel
theorem dX8_side_248 : decode cX8_side 248 = .ok (.lcmp, 1) := by decide +kernel
theorem dX8_side_249 : decode cX8_side 249 = .ok (.ifCond .gt 18, 3) := by decide +kernel
theorem dX8_side_252 : decode cX8_side 252 = .ok (.lload 8, 2) := by decide +kernel
theorem dX8_side_254 : decode cX8_side 254 = .ok (.lload 4, 2) := by decide +kernel
theorem dX8_side_256 : decode cX8_side 256 = .ok (.lcmp, 1) := by decide +kernel
theorem dX8_side_257 : decode cX8_side 257 = .ok (.ifCond .le 10, 3) := by decide +kernel
theorem dX8_side_260 : decode cX8_side 260 = .ok (.lload 8, 2) := by decide +kernel
theorem dX8_side_262 : decode cX8_side 262 = .ok (.lstore 4, 2) := by decide +kernel
theorem dX8_side_264 : decode cX8_side 264 = .ok (.iload 6, 2) := by decide +kernel
theorem dX8_side_266 : decode cX8_side 266 = .ok (.istore_n 3, 1) := by decide +kernel
theorem dX8_side_267 : decode cX8_side 267 = .ok (.iinc 6 1, 3) := by decide +kernel
theorem dX8_side_270 : decode cX8_side 270 = .ok (.goto (-237), 3) := by decide +kernel
theorem dX8_side_273 : decode cX8_side 273 = .ok (.iload_n 2, 1) := by decide +kernel
theorem dX8_side_274 : decode cX8_side 274 = .ok (.ifCond .ne 7, 3) := by decide +kernel
theorem dX8_side_277 : decode cX8_side 277 = .ok (.iload_n 3, 1) := by decide +kernel
theorem dX8_side_278 : decode cX8_side 278 = .ok (.goto 6, 3) := by decide +kernel
theorem dX8_side_281 : decode cX8_side 281 = .ok (.lload 4, 2) := by decide +kernel
theorem dX8_side_283 : decode cX8_side 283 = .ok (.l2i, 1) := by decide +kernel
theorem dX8_side_284 : decode cX8_side 284 = .ok (.ireturn, 1) := by decide +kernel
set_option maxRecDepth 20000 in
theorem ggX8_take_X8_numbers : GoodIn wsX8_take wsX8_numbers := goodIn_r _ [11, 2, 15, 16, 17, 18, 19, 20, 21, 22, 23, 24, 25, 26, 27, 28, 29, 30, 31, 32, 33, 34, 35, 36, 37, 38, 39, 40, 41, 42, 43, 44, 45, 46, 47, 48, 49, 50, 51, 52] (by decide +kernel) (by decide +kernel)
set_option maxRecDepth 20000 in
theorem gX8_take_X8_numbers : GoodIn wsX8_take (wsV RX8 138 RX8 yX8_numbers wsX8_numbers) := goodIn_app (goodIn_of _ (by decide +kernel)) ggX8_take_X8_numbers
set_option maxRecDepth 20000 in
theorem ggX8_take_X8_in : GoodIn wsX8_take wsX8_in := goodIn_r _ [14] (by decide +kernel) (by decide +kernel)
set_option maxRecDepth 20000 in
theorem gX8_take_X8_in : GoodIn wsX8_take (va_wsS RX8 70 yX8_in wsX8_in) := goodIn_app (goodIn_of _ (by decide +kernel)) ggX8_take_X8_in
theorem dX8_take_0 : decode cX8_take 0 = .ok (.aload_n 0, 1) := by decide +kernel
theorem dX8_take_1 : decode cX8_take 1 = .ok (.iconst 0, 1) := by decide +kernel
theorem dX8_take_2 : decode cX8_take 2 = .ok (.putfield 64, 3) := by decide +kernel
theorem dX8_take_5 : decode cX8_take 5 = .ok (.iload_n 1, 1) := by decide +kernel
theorem dX8_take_6 : decode cX8_take 6 = .ok (.iconst 0, 1) := by decide +kernel
theorem dX8_take_7 : decode cX8_take 7 = .ok (.aload_n 0, 1) := by decide +kernel
theorem dX8_take_8 : decode cX8_take 8 = .ok (.invokevirtual 138, 3) := by decide +kernel
theorem dX8_take_11 : decode cX8_take 11 = .ok (.iconst 1, 1) := by decide +kernel
theorem dX8_take_12 : decode cX8_take 12 = .ok (.isub, 1) := by decide +kernel
theorem dX8_take_13 : decode cX8_take 13 = .ok (.invokestatic 70, 3) := by decide +kernel
theorem dX8_take_16 : decode cX8_take 16 = .ok (.istore_n 2, 1) := by decide +kernel
theorem dX8_take_17 : decode cX8_take 17 = .ok (.iload_n 1, 1) := by decide +kernel
theorem dX8_take_18 : decode cX8_take 18 = .ok (.istore_n 3, 1) := by decide +kernel
theorem dX8_take_19 : decode cX8_take 19 = .ok (.iconst 0, 1) := by decide +kernel
theorem dX8_take_20 : decode cX8_take 20 = .ok (.istore 4, 2) := by decide +kernel
theorem dX8_take_22 : decode cX8_take 22 = .ok (.iload 4, 2) := by decide +kernel
theorem dX8_take_24 : decode cX8_take 24 = .ok (.aload_n 0, 1) := by decide +kernel
theorem dX8_take_25 : decode cX8_take 25 = .ok (.getfield 67, 3) := by decide +kernel
theorem dX8_take_28 : decode cX8_take 28 = .ok (.if_icmp .ge 35, 3) := by decide +kernel
theorem dX8_take_31 : decode cX8_take 31 = .ok (.iload_n 2, 1) := by decide +kernel
theorem dX8_take_32 : decode cX8_take 32 = .ok (.ifCond .eq 31, 3) := by decide +kernel
theorem dX8_take_35 : decode cX8_take 35 = .ok (.iload_n 3, 1) := by decide +kernel
theorem dX8_take_36 : decode cX8_take 36 = .ok (.bipush 7, 2) := by decide +kernel
theorem dX8_take_38 : decode cX8_take 38 = .ok (.irem, 1) := by decide +kernel
theorem dX8_take_39 : decode cX8_take 39 = .ok (.aload_n 0, 1) := by decide +kernel
theorem dX8_take_40 : decode cX8_take 40 = .ok (.getfield 133, 3) := by decide +kernel
theorem dX8_take_43 : decode cX8_take 43 = .ok (.if_icmp .gt 7, 3) := by decide +kernel
theorem dX8_take_46 : decode cX8_take 46 = .ok (.iconst 1, 1) := by decide +kernel
theorem dX8_take_47 : decode cX8_take 47 = .ok (.goto 4, 3) := by decide +kernel
theorem dX8_take_50 : decode cX8_take 50 = .ok (.iconst 0, 1) := by decide +kernel
theorem dX8_take_51 : decode cX8_take 51 = .ok (.istore_n 2, 1) := by decide +kernel
theorem dX8_take_52 : decode cX8_take 52 = .ok (.iload_n 3, 1) := by decide +kernel
theorem dX8_take_53 : decode cX8_take 53 = .ok (.bipush 7, 2) := by decide +kernel
theorem dX8_take_55 : decode cX8_take 55 = .ok (.idiv, 1) := by decide +kernel
theorem dX8_take_56 : decode cX8_take 56 = .ok (.istore_n 3, 1) := by decide +kernel
theorem dX8_take_57 : decode cX8_take 57 = .ok (.iinc 4 1, 3) := by decide +kernel
theorem dX8_take_60 : decode cX8_take 60 = .ok (.goto (-38), 3) := by decide +kernel
theorem dX8_take_63 : decode cX8_take 63 = .ok (.iload_n 2, 1) := by decide +kernel
theorem dX8_take_64 : decode cX8_take 64 = .ok (.ifCond .ne 5, 3) := by decide +kernel
theorem dX8_take_67 : decode cX8_take 67 = .ok (.iconst (-1), 1) := by decide +kernel
theorem dX8_take_68 : decode cX8_take 68 = .ok (.ireturn, 1) := by decide +kernel
theorem dX8_take_69 : decode cX8_take 69 = .ok (.iload_n 1, 1) := by decide +kernel
theorem dX8_take_70 : decode cX8_take 70 = .ok (.istore_n 3, 1) := by decide +kernel
theorem dX8_take_71 : decode cX8_take 71 = .ok (.iconst 0, 1) := by decide +kernel
theorem dX8_take_72 : decode cX8_take 72 = .ok (.istore 4, 2) := by decide +kernel
