theorem dX6_pick_0 : decode cX6_pick 0 = .ok (.aload_n 0, 1) := by decide +kernel
theorem dX6_pick_1 : decode cX6_pick 1 = .ok (.iconst 0, 1) := by decide +kernel
theorem dX6_pick_2 : decode cX6_pick 2 = .ok (.putfield 28, 3) := by decide +kernel
theorem dX6_pick_5 : decode cX6_pick 5 = .ok (.aload_n 0, 1) := by decide +kernel
theorem dX6_pick_6 : decode cX6_pick 6 = .ok (.iconst 0, 1) := by decide +kernel
theorem dX6_pick_7 : decode cX6_pick 7 = .ok (.putfield 31, 3) := by decide +kernel
theorem dX6_pick_10 : decode cX6_pick 10 = .ok (.iload_n 1, 1) := by decide +kernel
theorem dX6_pick_11 : decode cX6_pick 11 = .ok (.invokestatic 51, 3) := by decide +kernel
theorem dX6_pick_14 : decode cX6_pick 14 = .ok (.istore_n 3, 1) := by decide +kernel
theorem dX6_pick_15 : decode cX6_pick 15 = .ok (.iconst 1, 1) := by decide +kernel
theorem dX6_pick_16 : decode cX6_pick 16 = .ok (.istore 4, 2) := by decide +kernel
theorem dX6_pick_18 : decode cX6_pick 18 = .ok (.iload 4, 2) := by decide +kernel
theorem dX6_pick_20 : decode cX6_pick 20 = .ok (.iload_n 3, 1) := by decide +kernel
theorem dX6_pick_21 : decode cX6_pick 21 = .ok (.if_icmp .ge 40, 3) := by decide +kernel
theorem dX6_pick_24 : decode cX6_pick 24 = .ok (.aload_n 0, 1) := by decide +kernel
theorem dX6_pick_25 : decode cX6_pick 25 = .ok (.iload 4, 2) := by decide +kernel
theorem dX6_pick_27 : decode cX6_pick 27 = .ok (.iload_n 1, 1) := by decide +kernel
theorem dX6_pick_28 : decode cX6_pick 28 = .ok (.iload_n 2, 1) := by decide +kernel
theorem dX6_pick_29 : decode cX6_pick 29 = .ok (.invokevirtual 55, 3) := by decide +kernel
theorem dX6_pick_32 : decode cX6_pick 32 = .ok (.istore 5, 2) := by decide +kernel
theorem dX6_pick_34 : decode cX6_pick 34 = .ok (.iload 5, 2) := by decide +kernel
theorem dX6_pick_36 : decode cX6_pick 36 = .ok (.aload_n 0, 1) := by decide +kernel
theorem dX6_pick_37 : decode cX6_pick 37 = .ok (.getfield 31, 3) := by decide +kernel
theorem dX6_pick_40 : decode cX6_pick 40 = .ok (.if_icmp .le 15, 3) := by decide +kernel
theorem dX6_pick_43 : decode cX6_pick 43 = .ok (.aload_n 0, 1) := by decide +kernel
theorem dX6_pick_44 : decode cX6_pick 44 = .ok (.iload 4, 2) := by decide +kernel
theorem dX6_pick_46 : decode cX6_pick 46 = .ok (.putfield 28, 3) := by decide +kernel
theorem dX6_pick_49 : decode cX6_pick 49 = .ok (.aload_n 0, 1) := by decide +kernel
theorem dX6_pick_50 : decode cX6_pick 50 = .ok (.iload 5, 2) := by decide +kernel
theorem dX6_pick_52 : decode cX6_pick 52 = .ok (.putfield 31, 3) := by decide +kernel
theorem dX6_pick_55 : decode cX6_pick 55 = .ok (.iinc 4 1, 3) := by decide +kernel
theorem dX6_pick_58 : decode cX6_pick 58 = .ok (.goto (-40), 3) := by decide +kernel
theorem dX6_pick_61 : decode cX6_pick 61 = .ok (.return_, 1) := by decide +kernel
set_option maxRecDepth 20000 in
theorem ggX6_tellsAll_X6_numbers : GoodIn wsX6_tellsAll wsX6_numbers := goodIn_r _ [5] (by decide +kernel) (by decide +kernel)
set_option maxRecDepth 20000 in
theorem gX6_tellsAll_X6_numbers : GoodIn wsX6_tellsAll (va_wsS RX6 51 yX6_numbers wsX6_numbers) := goodIn_app (goodIn_of _ (by decide +kernel)) ggX6_tellsAll_X6_numbers
set_option maxRecDepth 20000 in
theorem ggX6_tellsAll_X7_within : GoodIn wsX6_tellsAll wsX7_within := goodIn_r _ [8] (by decide +kernel) (by decide +kernel)
set_option maxRecDepth 20000 in
theorem gX6_tellsAll_X7_within_n59 : GoodIn wsX6_tellsAll (wsX7_within) := ggX6_tellsAll_X7_within
theorem dX6_tellsAll_0 : decode cX6_tellsAll 0 = .ok (.iload_n 1, 1) := by decide +kernel
theorem dX6_tellsAll_1 : decode cX6_tellsAll 1 = .ok (.iconst 0, 1) := by decide +kernel
theorem dX6_tellsAll_2 : decode cX6_tellsAll 2 = .ok (.iload_n 2, 1) := by decide +kernel
theorem dX6_tellsAll_3 : decode cX6_tellsAll 3 = .ok (.invokestatic 51, 3) := by decide +kernel
theorem dX6_tellsAll_6 : decode cX6_tellsAll 6 = .ok (.iconst 1, 1) := by decide +kernel
theorem dX6_tellsAll_7 : decode cX6_tellsAll 7 = .ok (.isub, 1) := by decide +kernel
theorem dX6_tellsAll_8 : decode cX6_tellsAll 8 = .ok (.invokestatic 59, 3) := by decide +kernel
theorem dX6_tellsAll_11 : decode cX6_tellsAll 11 = .ok (.ifCond .ne 5, 3) := by decide +kernel
theorem dX6_tellsAll_14 : decode cX6_tellsAll 14 = .ok (.iconst 0, 1) := by decide +kernel
theorem dX6_tellsAll_15 : decode cX6_tellsAll 15 = .ok (.ireturn, 1) := by decide +kernel
theorem dX6_tellsAll_16 : decode cX6_tellsAll 16 = .ok (.iload_n 1, 1) := by decide +kernel
theorem dX6_tellsAll_17 : decode cX6_tellsAll 17 = .ok (.istore_n 3, 1) := by decide +kernel
theorem dX6_tellsAll_18 : decode cX6_tellsAll 18 = .ok (.iconst 0, 1) := by decide +kernel
theorem dX6_tellsAll_19 : decode cX6_tellsAll 19 = .ok (.istore 4, 2) := by decide +kernel
theorem dX6_tellsAll_21 : decode cX6_tellsAll 21 = .ok (.iload 4, 2) := by decide +kernel
theorem dX6_tellsAll_23 : decode cX6_tellsAll 23 = .ok (.iload_n 2, 1) := by decide +kernel
theorem dX6_tellsAll_24 : decode cX6_tellsAll 24 = .ok (.if_icmp .ge 27, 3) := by decide +kernel
theorem dX6_tellsAll_27 : decode cX6_tellsAll 27 = .ok (.iload_n 3, 1) := by decide +kernel
theorem dX6_tellsAll_28 : decode cX6_tellsAll 28 = .ok (.bipush 7, 2) := by decide +kernel
theorem dX6_tellsAll_30 : decode cX6_tellsAll 30 = .ok (.irem, 1) := by decide +kernel
theorem dX6_tellsAll_31 : decode cX6_tellsAll 31 = .ok (.aload_n 0, 1) := by decide +kernel
theorem dX6_tellsAll_32 : decode cX6_tellsAll 32 = .ok (.getfield 18, 3) := by decide +kernel
theorem dX6_tellsAll_35 : decode cX6_tellsAll 35 = .ok (.if_icmp .le 5, 3) := by decide +kernel
theorem dX6_tellsAll_38 : decode cX6_tellsAll 38 = .ok (.iconst 0, 1) := by decide +kernel
theorem dX6_tellsAll_39 : decode cX6_tellsAll 39 = .ok (.ireturn, 1) := by decide +kernel
theorem dX6_tellsAll_40 : decode cX6_tellsAll 40 = .ok (.iload_n 3, 1) := by decide +kernel
theorem dX6_tellsAll_41 : decode cX6_tellsAll 41 = .ok (.bipush 7, 2) := by decide +kernel
theorem dX6_tellsAll_43 : decode cX6_tellsAll 43 = .ok (.idiv, 1) := by decide +kernel
theorem dX6_tellsAll_44 : decode cX6_tellsAll 44 = .ok (.istore_n 3, 1) := by decide +kernel
theorem dX6_tellsAll_45 : decode cX6_tellsAll 45 = .ok (.iinc 4 1, 3) := by decide +kernel
theorem dX6_tellsAll_48 : decode cX6_tellsAll 48 = .ok (.goto (-27), 3) := by decide +kernel
theorem dX6_tellsAll_51 : decode cX6_tellsAll 51 = .ok (.iconst 1, 1) := by decide +kernel
theorem dX6_tellsAll_52 : decode cX6_tellsAll 52 = .ok (.ireturn, 1) := by decide +kernel
set_option maxRecDepth 20000 in
theorem ggX6_giveTo_X7_within : GoodIn wsX6_giveTo wsX7_within := goodIn_r _ [6] (by decide +kernel) (by decide +kernel)
set_option maxRecDepth 20000 in
theorem gX6_giveTo_X7_within_n59 : GoodIn wsX6_giveTo (wsX7_within) := ggX6_giveTo_X7_within
set_option maxRecDepth 20000 in
theorem ggX6_giveTo_X1_put : GoodIn wsX6_giveTo wsX1_put := goodIn_r _ [11, 12, 13, 4, 5, 6, 21, 22, 23, 24, 25, 26, 27, 28] (by decide +kernel) (by decide +kernel)
set_option maxRecDepth 20000 in
theorem gX6_giveTo_X1_put : GoodIn wsX6_giveTo (wsV RX6 34 RX1 yX1_put wsX1_put) := goodIn_app (goodIn_of _ (by decide +kernel)) ggX6_giveTo_X1_put
theorem dX6_giveTo_0 : decode cX6_giveTo 0 = .ok (.iload_n 2, 1) := by decide +kernel
theorem dX6_giveTo_1 : decode cX6_giveTo 1 = .ok (.iconst 1, 1) := by decide +kernel
theorem dX6_giveTo_2 : decode cX6_giveTo 2 = .ok (.aload_n 0, 1) := by decide +kernel
theorem dX6_giveTo_3 : decode cX6_giveTo 3 = .ok (.getfield 18, 3) := by decide +kernel
theorem dX6_giveTo_6 : decode cX6_giveTo 6 = .ok (.invokestatic 59, 3) := by decide +kernel
theorem dX6_giveTo_9 : decode cX6_giveTo 9 = .ok (.ifCond .ne 11, 3) := by decide +kernel
theorem dX6_giveTo_12 : decode cX6_giveTo 12 = .ok (.aload_n 1, 1) := by decide +kernel
theorem dX6_giveTo_13 : decode cX6_giveTo 13 = .ok (.bipush 12, 2) := by decide +kernel
theorem dX6_giveTo_15 : decode cX6_giveTo 15 = .ok (.iconst 0, 1) := by decide +kernel
theorem dX6_giveTo_16 : decode cX6_giveTo 16 = .ok (.invokevirtual 34, 3) := by decide +kernel
theorem dX6_giveTo_19 : decode cX6_giveTo 19 = .ok (.return_, 1) := by decide +kernel
theorem dX6_giveTo_20 : decode cX6_giveTo 20 = .ok (.aload_n 1, 1) := by decide +kernel
theorem dX6_giveTo_21 : decode cX6_giveTo 21 = .ok (.iconst 4, 1) := by decide +kernel
theorem dX6_giveTo_22 : decode cX6_giveTo 22 = .ok (.aload_n 0, 1) := by decide +kernel
theorem dX6_giveTo_23 : decode cX6_giveTo 23 = .ok (.getfield 11, 3) := by decide +kernel
theorem dX6_giveTo_26 : decode cX6_giveTo 26 = .ok (.iload_n 2, 1) := by decide +kernel
theorem dX6_giveTo_27 : decode cX6_giveTo 27 = .ok (.iconst 1, 1) := by decide +kernel
theorem dX6_giveTo_28 : decode cX6_giveTo 28 = .ok (.isub, 1) := by decide +kernel
theorem dX6_giveTo_29 : decode cX6_giveTo 29 = .ok (.iaload, 1) := by decide +kernel
theorem dX6_giveTo_30 : decode cX6_giveTo 30 = .ok (.invokevirtual 34, 3) := by decide +kernel
theorem dX6_giveTo_33 : decode cX6_giveTo 33 = .ok (.aload_n 1, 1) := by decide +kernel
theorem dX6_giveTo_34 : decode cX6_giveTo 34 = .ok (.iconst 5, 1) := by decide +kernel
theorem dX6_giveTo_35 : decode cX6_giveTo 35 = .ok (.aload_n 0, 1) := by decide +kernel
theorem dX6_giveTo_36 : decode cX6_giveTo 36 = .ok (.getfield 15, 3) := by decide +kernel
theorem dX6_giveTo_39 : decode cX6_giveTo 39 = .ok (.iload_n 2, 1) := by decide +kernel
theorem dX6_giveTo_40 : decode cX6_giveTo 40 = .ok (.iconst 1, 1) := by decide +kernel
theorem dX6_giveTo_41 : decode cX6_giveTo 41 = .ok (.isub, 1) := by decide +kernel
theorem dX6_giveTo_42 : decode cX6_giveTo 42 = .ok (.iaload, 1) := by decide +kernel
theorem dX6_giveTo_43 : decode cX6_giveTo 43 = .ok (.invokevirtual 34, 3) := by decide +kernel
theorem dX6_giveTo_46 : decode cX6_giveTo 46 = .ok (.aload_n 1, 1) := by decide +kernel
theorem dX6_giveTo_47 : decode cX6_giveTo 47 = .ok (.bipush 12, 2) := by decide +kernel
theorem dX6_giveTo_49 : decode cX6_giveTo 49 = .ok (.iconst 1, 1) := by decide +kernel
theorem dX6_giveTo_50 : decode cX6_giveTo 50 = .ok (.invokevirtual 34, 3) := by decide +kernel
theorem dX6_giveTo_53 : decode cX6_giveTo 53 = .ok (.return_, 1) := by decide +kernel
theorem dX6_numbers_0 : decode cX6_numbers 0 = .ok (.iconst 1, 1) := by decide +kernel
theorem dX6_numbers_1 : decode cX6_numbers 1 = .ok (.istore_n 1, 1) := by decide +kernel
theorem dX6_numbers_2 : decode cX6_numbers 2 = .ok (.iconst 0, 1) := by decide +kernel
theorem dX6_numbers_3 : decode cX6_numbers 3 = .ok (.istore_n 2, 1) := by decide +kernel
theorem dX6_numbers_4 : decode cX6_numbers 4 = .ok (.iload_n 2, 1) := by decide +kernel
theorem dX6_numbers_5 : decode cX6_numbers 5 = .ok (.iload_n 0, 1) := by decide +kernel
theorem dX6_numbers_6 : decode cX6_numbers 6 = .ok (.if_icmp .ge 14, 3) := by decide +kernel
theorem dX6_numbers_9 : decode cX6_numbers 9 = .ok (.iload_n 1, 1) := by decide +kernel
theorem dX6_numbers_10 : decode cX6_numbers 10 = .ok (.bipush 7, 2) := by decide +kernel
theorem dX6_numbers_12 : decode cX6_numbers 12 = .ok (.imul, 1) := by decide +kernel
theorem dX6_numbers_13 : decode cX6_numbers 13 = .ok (.istore_n 1, 1) := by decide +kernel
theorem dX6_numbers_14 : decode cX6_numbers 14 = .ok (.iinc 2 1, 3) := by decide +kernel
theorem dX6_numbers_17 : decode cX6_numbers 17 = .ok (.goto (-13), 3) := by decide +kernel
theorem dX6_numbers_20 : decode cX6_numbers 20 = .ok (.iload_n 1, 1) := by decide +kernel
theorem dX6_numbers_21 : decode cX6_numbers 21 = .ok (.ireturn, 1) := by decide +kernel
theorem dX6_upOf_0 : decode cX6_upOf 0 = .ok (.iload_n 3, 1) := by decide +kernel
theorem dX6_upOf_1 : decode cX6_upOf 1 = .ok (.istore 4, 2) := by decide +kernel
theorem dX6_upOf_3 : decode cX6_upOf 3 = .ok (.iconst 0, 1) := by decide +kernel
theorem dX6_upOf_4 : decode cX6_upOf 4 = .ok (.istore 5, 2) := by decide +kernel
theorem dX6_upOf_6 : decode cX6_upOf 6 = .ok (.iload_n 1, 1) := by decide +kernel
theorem dX6_upOf_7 : decode cX6_upOf 7 = .ok (.istore 6, 2) := by decide +kernel
theorem dX6_upOf_9 : decode cX6_upOf 9 = .ok (.iconst 0, 1) := by decide +kernel
theorem dX6_upOf_10 : decode cX6_upOf 10 = .ok (.istore 7, 2) := by decide +kernel
theorem dX6_upOf_12 : decode cX6_upOf 12 = .ok (.iload 7, 2) := by decide +kernel
theorem dX6_upOf_14 : decode cX6_upOf 14 = .ok (.iload_n 2, 1) := by decide +kernel
theorem dX6_upOf_15 : decode cX6_upOf 15 = .ok (.if_icmp .ge 93, 3) := by decide +kernel
theorem dX6_upOf_18 : decode cX6_upOf 18 = .ok (.iload 6, 2) := by decide +kernel
theorem dX6_upOf_20 : decode cX6_upOf 20 = .ok (.bipush 7, 2) := by decide +kernel
theorem dX6_upOf_22 : decode cX6_upOf 22 = .ok (.irem, 1) := by decide +kernel
theorem dX6_upOf_23 : decode cX6_upOf 23 = .ok (.istore 8, 2) := by decide +kernel
theorem dX6_upOf_25 : decode cX6_upOf 25 = .ok (.iload 6, 2) := by decide +kernel
theorem dX6_upOf_27 : decode cX6_upOf 27 = .ok (.bipush 7, 2) := by decide +kernel
theorem dX6_upOf_29 : decode cX6_upOf 29 = .ok (.idiv, 1) := by decide +kernel
theorem dX6_upOf_30 : decode cX6_upOf 30 = .ok (.istore 6, 2) := by decide +kernel
theorem dX6_upOf_32 : decode cX6_upOf 32 = .ok (.iload 7, 2) := by decide +kernel
theorem dX6_upOf_34 : decode cX6_upOf 34 = .ok (.bipush 7, 2) := by decide +kernel
theorem dX6_upOf_36 : decode cX6_upOf 36 = .ok (.imul, 1) := by decide +kernel
theorem dX6_upOf_37 : decode cX6_upOf 37 = .ok (.iload 8, 2) := by decide +kernel
theorem dX6_upOf_39 : decode cX6_upOf 39 = .ok (.iadd, 1) := by decide +kernel
theorem dX6_upOf_40 : decode cX6_upOf 40 = .ok (.istore 9, 2) := by decide +kernel
theorem dX6_upOf_42 : decode cX6_upOf 42 = .ok (.iload 8, 2) := by decide +kernel
theorem dX6_upOf_44 : decode cX6_upOf 44 = .ok (.aload_n 0, 1) := by decide +kernel
theorem dX6_upOf_45 : decode cX6_upOf 45 = .ok (.getfield 18, 3) := by decide +kernel
theorem dX6_upOf_48 : decode cX6_upOf 48 = .ok (.if_icmp .gt 27, 3) := by decide +kernel
theorem dX6_upOf_51 : decode cX6_upOf 51 = .ok (.aload_n 0, 1) := by decide +kernel
theorem dX6_upOf_52 : decode cX6_upOf 52 = .ok (.getfield 22, 3) := by decide +kernel
theorem dX6_upOf_55 : decode cX6_upOf 55 = .ok (.iload 9, 2) := by decide +kernel
theorem dX6_upOf_57 : decode cX6_upOf 57 = .ok (.iaload, 1) := by decide +kernel
theorem dX6_upOf_58 : decode cX6_upOf 58 = .ok (.bipush (-9), 2) := by decide +kernel
theorem dX6_upOf_60 : decode cX6_upOf 60 = .ok (.if_icmp .eq 15, 3) := by decide +kernel
theorem dX6_upOf_63 : decode cX6_upOf 63 = .ok (.aload_n 0, 1) := by decide +kernel
theorem dX6_upOf_64 : decode cX6_upOf 64 = .ok (.getfield 22, 3) := by decide +kernel
theorem dX6_upOf_67 : decode cX6_upOf 67 = .ok (.iload 9, 2) := by decide +kernel
theorem dX6_upOf_69 : decode cX6_upOf 69 = .ok (.iaload, 1) := by decide +kernel
theorem dX6_upOf_70 : decode cX6_upOf 70 = .ok (.iload 4, 2) := by decide +kernel
theorem dX6_upOf_72 : decode cX6_upOf 72 = .ok (.if_icmp .le 6, 3) := by decide +kernel
theorem dX6_upOf_75 : decode cX6_upOf 75 = .ok (.bipush (-9), 2) := by decide +kernel
theorem dX6_upOf_77 : decode cX6_upOf 77 = .ok (.ireturn, 1) := by decide +kernel
theorem dX6_upOf_78 : decode cX6_upOf 78 = .ok (.iload 4, 2) := by decide +kernel
theorem dX6_upOf_80 : decode cX6_upOf 80 = .ok (.aload_n 0, 1) := by decide +kernel
theorem dX6_upOf_81 : decode cX6_upOf 81 = .ok (.getfield 22, 3) := by decide +kernel
theorem dX6_upOf_84 : decode cX6_upOf 84 = .ok (.iload 9, 2) := by decide +kernel
theorem dX6_upOf_86 : decode cX6_upOf 86 = .ok (.iaload, 1) := by decide +kernel
theorem dX6_upOf_87 : decode cX6_upOf 87 = .ok (.isub, 1) := by decide +kernel
theorem dX6_upOf_88 : decode cX6_upOf 88 = .ok (.istore 4, 2) := by decide +kernel
theorem dX6_upOf_90 : decode cX6_upOf 90 = .ok (.iload 5, 2) := by decide +kernel
theorem dX6_upOf_92 : decode cX6_upOf 92 = .ok (.aload_n 0, 1) := by decide +kernel
theorem dX6_upOf_93 : decode cX6_upOf 93 = .ok (.getfield 25, 3) := by decide +kernel
theorem dX6_upOf_96 : decode cX6_upOf 96 = .ok (.iload 9, 2) := by decide +kernel
theorem dX6_upOf_98 : decode cX6_upOf 98 = .ok (.iaload, 1) := by decide +kernel
theorem dX6_upOf_99 : decode cX6_upOf 99 = .ok (.iadd, 1) := by decide +kernel
theorem dX6_upOf_100 : decode cX6_upOf 100 = .ok (.istore 5, 2) := by decide +kernel
theorem dX6_upOf_102 : decode cX6_upOf 102 = .ok (.iinc 7 1, 3) := by decide +kernel
theorem dX6_upOf_105 : decode cX6_upOf 105 = .ok (.goto (-93), 3) := by decide +kernel
theorem dX6_upOf_108 : decode cX6_upOf 108 = .ok (.iload 5, 2) := by decide +kernel
theorem dX6_upOf_110 : decode cX6_upOf 110 = .ok (.ireturn, 1) := by decide +kernel
set_option maxRecDepth 20000 in
theorem ggX7_init_X1_init : GoodIn wsX7_init wsX1_init := goodIn_r _ [40, 41, 2, 3, 42, 43, 44, 45, 46, 47, 48, 49, 50, 51, 52, 53, 54, 129, 130, 131, 132, 133, 134, 135, 136] (by decide +kernel) (by decide +kernel)
set_option maxRecDepth 20000 in
theorem gX7_init_X1_init : GoodIn wsX7_init (wsX1_init) := ggX7_init_X1_init
set_option maxRecDepth 20000 in
theorem ggX7_init_X4_init : GoodIn wsX7_init wsX4_init := goodIn_r _ [57, 58, 2, 3, 42, 59, 60, 61, 62, 63, 64, 65, 66, 137, 138, 139, 140] (by decide +kernel) (by decide +kernel)
set_option maxRecDepth 20000 in
theorem gX7_init_X4_init : GoodIn wsX7_init (wsX4_init) := ggX7_init_X4_init
set_option maxRecDepth 20000 in
theorem ggX7_init_X6_init : GoodIn wsX7_init wsX6_init := goodIn_r _ [68, 69, 2, 3, 42, 70, 71, 72, 73, 74, 75, 76, 141, 142, 143, 144, 145, 146, 147] (by decide +kernel) (by decide +kernel)
set_option maxRecDepth 20000 in
theorem gX7_init_X6_init_n33 : GoodIn wsX7_init (wsX6_init) := ggX7_init_X6_init
set_option maxRecDepth 20000 in
theorem ggX7_init_X3_init : GoodIn wsX7_init wsX3_init := goodIn_r _ [78, 79, 2, 3, 80, 81, 82, 83, 42, 84, 85, 86, 87, 148, 149, 150, 151, 152, 153, 154] (by decide +kernel) (by decide +kernel)
set_option maxRecDepth 20000 in
theorem gX7_init_X3_init_n40 : GoodIn wsX7_init (wsX3_init) := ggX7_init_X3_init
set_option maxRecDepth 20000 in
theorem ggX7_init_X5_init : GoodIn wsX7_init wsX5_init := goodIn_r _ [89, 90, 2, 3, 91, 92, 93, 94, 95, 96, 97, 98, 99, 100, 155, 156, 157, 158, 159, 160, 161, 162] (by decide +kernel) (by decide +kernel)
set_option maxRecDepth 20000 in
theorem gX7_init_X5_init_n47 : GoodIn wsX7_init (wsX5_init) := ggX7_init_X5_init
set_option maxRecDepth 20000 in
theorem ggX7_init_X2_init : GoodIn wsX7_init wsX2_init := goodIn_r _ [102, 103, 2, 3, 42, 104, 105, 106, 107, 108, 109, 163, 164, 165, 166, 167, 168] (by decide +kernel) (by decide +kernel)
set_option maxRecDepth 20000 in
theorem gX7_init_X2_init_n54 : GoodIn wsX7_init (wsX2_init) := ggX7_init_X2_init
set_option maxRecDepth 20000 in
theorem ggX7_init_X0_init : GoodIn wsX7_init wsX0_init := goodIn_r _ [111, 112, 2, 3, 42, 113, 114, 115, 169, 170, 171] (by decide +kernel) (by decide +kernel)
set_option maxRecDepth 20000 in
theorem gX7_init_X0_init_n61 : GoodIn wsX7_init (wsX0_init) := ggX7_init_X0_init
theorem dX7_init_0 : decode cX7_init 0 = .ok (.aload_n 0, 1) := by decide +kernel
theorem dX7_init_1 : decode cX7_init 1 = .ok (.invokespecial 1, 3) := by decide +kernel
theorem dX7_init_4 : decode cX7_init 4 = .ok (.aload_n 0, 1) := by decide +kernel
theorem dX7_init_5 : decode cX7_init 5 = .ok (.iconst 4, 1) := by decide +kernel
theorem dX7_init_6 : decode cX7_init 6 = .ok (.anewarray 9, 3) := by decide +kernel
theorem dX7_init_9 : decode cX7_init 9 = .ok (.putfield 11, 3) := by decide +kernel
theorem dX7_init_12 : decode cX7_init 12 = .ok (.aload_n 0, 1) := by decide +kernel
theorem dX7_init_13 : decode cX7_init 13 = .ok (.iconst 0, 1) := by decide +kernel
theorem dX7_init_14 : decode cX7_init 14 = .ok (.putfield 15, 3) := by decide +kernel
theorem dX7_init_17 : decode cX7_init 17 = .ok (.aload_n 0, 1) := by decide +kernel
theorem dX7_init_18 : decode cX7_init 18 = .ok (.new 9, 3) := by decide +kernel
theorem dX7_init_21 : decode cX7_init 21 = .ok (.dup, 1) := by decide +kernel
theorem dX7_init_22 : decode cX7_init 22 = .ok (.invokespecial 19, 3) := by decide +kernel
theorem dX7_init_25 : decode cX7_init 25 = .ok (.putfield 20, 3) := by decide +kernel
theorem dX7_init_28 : decode cX7_init 28 = .ok (.aload_n 0, 1) := by decide +kernel
theorem dX7_init_29 : decode cX7_init 29 = .ok (.new 24, 3) := by decide +kernel
theorem dX7_init_32 : decode cX7_init 32 = .ok (.dup, 1) := by decide +kernel
theorem dX7_init_33 : decode cX7_init 33 = .ok (.invokespecial 26, 3) := by decide +kernel
theorem dX7_init_36 : decode cX7_init 36 = .ok (.putfield 27, 3) := by decide +kernel
theorem dX7_init_39 : decode cX7_init 39 = .ok (.aload_n 0, 1) := by decide +kernel
theorem dX7_init_40 : decode cX7_init 40 = .ok (.new 31, 3) := by decide +kernel
theorem dX7_init_43 : decode cX7_init 43 = .ok (.dup, 1) := by decide +kernel
theorem dX7_init_44 : decode cX7_init 44 = .ok (.invokespecial 33, 3) := by decide +kernel
theorem dX7_init_47 : decode cX7_init 47 = .ok (.putfield 34, 3) := by decide +kernel
theorem dX7_init_50 : decode cX7_init 50 = .ok (.aload_n 0, 1) := by decide +kernel
theorem dX7_init_51 : decode cX7_init 51 = .ok (.new 38, 3) := by decide +kernel
theorem dX7_init_54 : decode cX7_init 54 = .ok (.dup, 1) := by decide +kernel
theorem dX7_init_55 : decode cX7_init 55 = .ok (.invokespecial 40, 3) := by decide +kernel
theorem dX7_init_58 : decode cX7_init 58 = .ok (.putfield 41, 3) := by decide +kernel
theorem dX7_init_61 : decode cX7_init 61 = .ok (.aload_n 0, 1) := by decide +kernel
theorem dX7_init_62 : decode cX7_init 62 = .ok (.new 45, 3) := by decide +kernel
theorem dX7_init_65 : decode cX7_init 65 = .ok (.dup, 1) := by decide +kernel
theorem dX7_init_66 : decode cX7_init 66 = .ok (.invokespecial 47, 3) := by decide +kernel
theorem dX7_init_69 : decode cX7_init 69 = .ok (.putfield 48, 3) := by decide +kernel
theorem dX7_init_72 : decode cX7_init 72 = .ok (.aload_n 0, 1) := by decide +kernel
theorem dX7_init_73 : decode cX7_init 73 = .ok (.new 52, 3) := by decide +kernel
theorem dX7_init_76 : decode cX7_init 76 = .ok (.dup, 1) := by decide +kernel
theorem dX7_init_77 : decode cX7_init 77 = .ok (.invokespecial 54, 3) := by decide +kernel
theorem dX7_init_80 : decode cX7_init 80 = .ok (.putfield 55, 3) := by decide +kernel
theorem dX7_init_83 : decode cX7_init 83 = .ok (.aload_n 0, 1) := by decide +kernel
theorem dX7_init_84 : decode cX7_init 84 = .ok (.new 59, 3) := by decide +kernel
theorem dX7_init_87 : decode cX7_init 87 = .ok (.dup, 1) := by decide +kernel
theorem dX7_init_88 : decode cX7_init 88 = .ok (.invokespecial 61, 3) := by decide +kernel
theorem dX7_init_91 : decode cX7_init 91 = .ok (.putfield 62, 3) := by decide +kernel
theorem dX7_init_94 : decode cX7_init 94 = .ok (.aload_n 0, 1) := by decide +kernel
theorem dX7_init_95 : decode cX7_init 95 = .ok (.iconst 0, 1) := by decide +kernel
theorem dX7_init_96 : decode cX7_init 96 = .ok (.putfield 66, 3) := by decide +kernel
theorem dX7_init_99 : decode cX7_init 99 = .ok (.aload_n 0, 1) := by decide +kernel
theorem dX7_init_100 : decode cX7_init 100 = .ok (.iconst 0, 1) := by decide +kernel
theorem dX7_init_101 : decode cX7_init 101 = .ok (.putfield 69, 3) := by decide +kernel
theorem dX7_init_104 : decode cX7_init 104 = .ok (.aload_n 0, 1) := by decide +kernel
theorem dX7_init_105 : decode cX7_init 105 = .ok (.iconst 0, 1) := by decide +kernel
theorem dX7_init_106 : decode cX7_init 106 = .ok (.putfield 72, 3) := by decide +kernel
theorem dX7_init_109 : decode cX7_init 109 = .ok (.aload_n 0, 1) := by decide +kernel
theorem dX7_init_110 : decode cX7_init 110 = .ok (.lconst 0, 1) := by decide +kernel
theorem dX7_init_111 : decode cX7_init 111 = .ok (.putfield 75, 3) := by decide +kernel
theorem dX7_init_114 : decode cX7_init 114 = .ok (.iconst 0, 1) := by decide +kernel
theorem dX7_init_115 : decode cX7_init 115 = .ok (.istore_n 1, 1) := by decide +kernel
theorem dX7_init_116 : decode cX7_init 116 = .ok (.iload_n 1, 1) := by decide +kernel
theorem dX7_init_117 : decode cX7_init 117 = .ok (.iconst 4, 1) := by decide +kernel
theorem dX7_init_118 : decode cX7_init 118 = .ok (.if_icmp .ge 22, 3) := by decide +kernel
theorem dX7_init_121 : decode cX7_init 121 = .ok (.aload_n 0, 1) := by decide +kernel
theorem dX7_init_122 : decode cX7_init 122 = .ok (.getfield 11, 3) := by decide +kernel
theorem dX7_init_125 : decode cX7_init 125 = .ok (.iload_n 1, 1) := by decide +kernel
theorem dX7_init_126 : decode cX7_init 126 = .ok (.new 9, 3) := by decide +kernel
theorem dX7_init_129 : decode cX7_init 129 = .ok (.dup, 1) := by decide +kernel
theorem dX7_init_130 : decode cX7_init 130 = .ok (.invokespecial 19, 3) := by decide +kernel
theorem dX7_init_133 : decode cX7_init 133 = .ok (.aastore, 1) := by decide +kernel
theorem dX7_init_134 : decode cX7_init 134 = .ok (.iinc 1 1, 3) := by decide +kernel
theorem dX7_init_137 : decode cX7_init 137 = .ok (.goto (-21), 3) := by decide +kernel
theorem dX7_init_140 : decode cX7_init 140 = .ok (.return_, 1) := by decide +kernel
set_option maxRecDepth 20000 in
theorem ggX7_ram_X7_canBe : GoodIn wsX7_ram wsX7_canBe := goodIn_r _ [6, 7, 8, 9, 10, 5, 11] (by decide +kernel) (by decide +kernel)
set_option maxRecDepth 20000 in
theorem gX7_ram_X7_canBe : GoodIn wsX7_ram (va_wsS RX7 79 yX7_canBe wsX7_canBe) := goodIn_app (goodIn_of _ (by decide +kernel)) ggX7_ram_X7_canBe
set_option maxRecDepth 20000 in
theorem ggX7_ram_X1_put : GoodIn wsX7_ram wsX1_put := goodIn_r _ [16, 17, 18, 10, 5, 11, 32, 33, 34, 35, 36, 37, 38, 39] (by decide +kernel) (by decide +kernel)
set_option maxRecDepth 20000 in
theorem gX7_ram_X1_put : GoodIn wsX7_ram (wsV RX7 83 RX1 yX1_put wsX1_put) := goodIn_app (goodIn_of _ (by decide +kernel)) ggX7_ram_X1_put
theorem dX7_ram_0 : decode cX7_ram 0 = .ok (.iconst 0, 1) := by decide +kernel
theorem dX7_ram_1 : decode cX7_ram 1 = .ok (.iload_n 1, 1) := by decide +kernel
theorem dX7_ram_2 : decode cX7_ram 2 = .ok (.invokestatic 79, 3) := by decide +kernel
theorem dX7_ram_5 : decode cX7_ram 5 = .ok (.ifCond .eq 32, 3) := by decide +kernel
theorem dX7_ram_8 : decode cX7_ram 8 = .ok (.iconst 1, 1) := by decide +kernel
theorem dX7_ram_9 : decode cX7_ram 9 = .ok (.iload_n 2, 1) := by decide +kernel
theorem dX7_ram_10 : decode cX7_ram 10 = .ok (.invokestatic 79, 3) := by decide +kernel
theorem dX7_ram_13 : decode cX7_ram 13 = .ok (.ifCond .eq 24, 3) := by decide +kernel
theorem dX7_ram_16 : decode cX7_ram 16 = .ok (.iconst 2, 1) := by decide +kernel
theorem dX7_ram_17 : decode cX7_ram 17 = .ok (.iload_n 3, 1) := by decide +kernel
theorem dX7_ram_18 : decode cX7_ram 18 = .ok (.invokestatic 79, 3) := by decide +kernel
theorem dX7_ram_21 : decode cX7_ram 21 = .ok (.ifCond .eq 16, 3) := by decide +kernel
theorem dX7_ram_24 : decode cX7_ram 24 = .ok (.iconst 3, 1) := by decide +kernel
theorem dX7_ram_25 : decode cX7_ram 25 = .ok (.iload 4, 2) := by decide +kernel
theorem dX7_ram_27 : decode cX7_ram 27 = .ok (.invokestatic 79, 3) := by decide +kernel
theorem dX7_ram_30 : decode cX7_ram 30 = .ok (.ifCond .eq 7, 3) := by decide +kernel
theorem dX7_ram_33 : decode cX7_ram 33 = .ok (.iconst 1, 1) := by decide +kernel
theorem dX7_ram_34 : decode cX7_ram 34 = .ok (.goto 4, 3) := by decide +kernel
theorem dX7_ram_37 : decode cX7_ram 37 = .ok (.iconst 0, 1) := by decide +kernel
theorem dX7_ram_38 : decode cX7_ram 38 = .ok (.istore 5, 2) := by decide +kernel
theorem dX7_ram_40 : decode cX7_ram 40 = .ok (.iload 5, 2) := by decide +kernel
theorem dX7_ram_42 : decode cX7_ram 42 = .ok (.ifCond .eq 8, 3) := by decide +kernel
theorem dX7_ram_45 : decode cX7_ram 45 = .ok (.iload_n 2, 1) := by decide +kernel
theorem dX7_ram_46 : decode cX7_ram 46 = .ok (.iload_n 1, 1) := by decide +kernel
theorem dX7_ram_47 : decode cX7_ram 47 = .ok (.if_icmp .gt 5, 3) := by decide +kernel
theorem dX7_ram_50 : decode cX7_ram 50 = .ok (.iconst (-1), 1) := by decide +kernel
theorem dX7_ram_51 : decode cX7_ram 51 = .ok (.ireturn, 1) := by decide +kernel
theorem dX7_ram_52 : decode cX7_ram 52 = .ok (.aload_n 0, 1) := by decide +kernel
theorem dX7_ram_53 : decode cX7_ram 53 = .ok (.getfield 15, 3) := by decide +kernel
theorem dX7_ram_56 : decode cX7_ram 56 = .ok (.iconst 4, 1) := by decide +kernel
theorem dX7_ram_57 : decode cX7_ram 57 = .ok (.if_icmp .lt 6, 3) := by decide +kernel
theorem dX7_ram_60 : decode cX7_ram 60 = .ok (.bipush (-3), 2) := by decide +kernel
theorem dX7_ram_62 : decode cX7_ram 62 = .ok (.ireturn, 1) := by decide +kernel
theorem dX7_ram_63 : decode cX7_ram 63 = .ok (.aload_n 0, 1) := by decide +kernel
theorem dX7_ram_64 : decode cX7_ram 64 = .ok (.getfield 11, 3) := by decide +kernel
theorem dX7_ram_67 : decode cX7_ram 67 = .ok (.aload_n 0, 1) := by decide +kernel
theorem dX7_ram_68 : decode cX7_ram 68 = .ok (.getfield 15, 3) := by decide +kernel
theorem dX7_ram_71 : decode cX7_ram 71 = .ok (.aaload, 1) := by decide +kernel
theorem dX7_ram_72 : decode cX7_ram 72 = .ok (.astore 6, 2) := by decide +kernel
theorem dX7_ram_74 : decode cX7_ram 74 = .ok (.aload 6, 2) := by decide +kernel
theorem dX7_ram_76 : decode cX7_ram 76 = .ok (.iconst 0, 1) := by decide +kernel
theorem dX7_ram_77 : decode cX7_ram 77 = .ok (.iload_n 1, 1) := by decide +kernel
theorem dX7_ram_78 : decode cX7_ram 78 = .ok (.invokevirtual 83, 3) := by decide +kernel
theorem dX7_ram_81 : decode cX7_ram 81 = .ok (.aload 6, 2) := by decide +kernel
theorem dX7_ram_83 : decode cX7_ram 83 = .ok (.iconst 1, 1) := by decide +kernel
theorem dX7_ram_84 : decode cX7_ram 84 = .ok (.iload_n 2, 1) := by decide +kernel
theorem dX7_ram_85 : decode cX7_ram 85 = .ok (.invokevirtual 83, 3) := by decide +kernel
theorem dX7_ram_88 : decode cX7_ram 88 = .ok (.aload 6, 2) := by decide +kernel
theorem dX7_ram_90 : decode cX7_ram 90 = .ok (.iconst 2, 1) := by decide +kernel
theorem dX7_ram_91 : decode cX7_ram 91 = .ok (.iload_n 3, 1) := by decide +kernel
theorem dX7_ram_92 : decode cX7_ram 92 = .ok (.invokevirtual 83, 3) := by decide +kernel
theorem dX7_ram_95 : decode cX7_ram 95 = .ok (.aload 6, 2) := by decide +kernel
theorem dX7_ram_97 : decode cX7_ram 97 = .ok (.iconst 3, 1) := by decide +kernel
theorem dX7_ram_98 : decode cX7_ram 98 = .ok (.iload 4, 2) := by decide +kernel
theorem dX7_ram_100 : decode cX7_ram 100 = .ok (.invokevirtual 83, 3) := by decide +kernel
theorem dX7_ram_103 : decode cX7_ram 103 = .ok (.aload_n 0, 1) := by decide +kernel
theorem dX7_ram_104 : decode cX7_ram 104 = .ok (.dup, 1) := by decide +kernel
theorem dX7_ram_105 : decode cX7_ram 105 = .ok (.getfield 15, 3) := by decide +kernel
theorem dX7_ram_108 : decode cX7_ram 108 = .ok (.iconst 1, 1) := by decide +kernel
theorem dX7_ram_109 : decode cX7_ram 109 = .ok (.iadd, 1) := by decide +kernel
theorem dX7_ram_110 : decode cX7_ram 110 = .ok (.putfield 15, 3) := by decide +kernel
theorem dX7_ram_113 : decode cX7_ram 113 = .ok (.aload_n 0, 1) := by decide +kernel
theorem dX7_ram_114 : decode cX7_ram 114 = .ok (.getfield 15, 3) := by decide +kernel
theorem dX7_ram_117 : decode cX7_ram 117 = .ok (.iconst 1, 1) := by decide +kernel
theorem dX7_ram_118 : decode cX7_ram 118 = .ok (.isub, 1) := by decide +kernel
theorem dX7_ram_119 : decode cX7_ram 119 = .ok (.ireturn, 1) := by decide +kernel
set_option maxRecDepth 20000 in
theorem ggX7_set_X7_isRam : GoodIn wsX7_set wsX7_isRam := goodIn_r _ [6, 7, 8, 9, 5, 10, 27, 28, 29, 30, 31, 32, 33, 34, 35, 36, 37, 38, 39] (by decide +kernel) (by decide +kernel)
set_option maxRecDepth 20000 in
theorem gX7_set_X7_isRam : GoodIn wsX7_set (wsV RX7 87 RX7 yX7_isRam wsX7_isRam) := goodIn_app (goodIn_of _ (by decide +kernel)) ggX7_set_X7_isRam
set_option maxRecDepth 20000 in
theorem ggX7_set_X7_canBe : GoodIn wsX7_set wsX7_canBe := goodIn_r _ [13, 14, 15, 8, 9, 5, 10] (by decide +kernel) (by decide +kernel)
set_option maxRecDepth 20000 in
theorem gX7_set_X7_canBe : GoodIn wsX7_set (va_wsS RX7 79 yX7_canBe wsX7_canBe) := goodIn_app (goodIn_of _ (by decide +kernel)) ggX7_set_X7_canBe
set_option maxRecDepth 20000 in
theorem ggX7_set_X1_trait : GoodIn wsX7_set wsX1_trait := goodIn_r _ [20, 21, 9, 5, 10, 40, 41, 42, 43, 44, 45, 46, 47] (by decide +kernel) (by decide +kernel)
set_option maxRecDepth 20000 in
theorem gX7_set_X1_trait : GoodIn wsX7_set (wsV RX7 91 RX1 yX1_trait wsX1_trait) := goodIn_app (goodIn_of _ (by decide +kernel)) ggX7_set_X1_trait
set_option maxRecDepth 20000 in
theorem ggX7_set_X1_put : GoodIn wsX7_set wsX1_put := goodIn_r _ [25, 21, 26, 9, 5, 10, 40, 41, 42, 43, 44, 45, 46, 47] (by decide +kernel) (by decide +kernel)
set_option maxRecDepth 20000 in
theorem gX7_set_X1_put : GoodIn wsX7_set (wsV RX7 83 RX1 yX1_put wsX1_put) := goodIn_app (goodIn_of _ (by decide +kernel)) ggX7_set_X1_put
theorem dX7_set_0 : decode cX7_set 0 = .ok (.aload_n 0, 1) := by decide +kernel
theorem dX7_set_1 : decode cX7_set 1 = .ok (.iload_n 1, 1) := by decide +kernel
theorem dX7_set_2 : decode cX7_set 2 = .ok (.invokevirtual 87, 3) := by decide +kernel
theorem dX7_set_5 : decode cX7_set 5 = .ok (.ifCond .eq 11, 3) := by decide +kernel
theorem dX7_set_8 : decode cX7_set 8 = .ok (.iload_n 2, 1) := by decide +kernel
theorem dX7_set_9 : decode cX7_set 9 = .ok (.iload_n 3, 1) := by decide +kernel
theorem dX7_set_10 : decode cX7_set 10 = .ok (.invokestatic 79, 3) := by decide +kernel
theorem dX7_set_13 : decode cX7_set 13 = .ok (.ifCond .ne 5, 3) := by decide +kernel
theorem dX7_set_16 : decode cX7_set 16 = .ok (.iconst (-1), 1) := by decide +kernel
theorem dX7_set_17 : decode cX7_set 17 = .ok (.ireturn, 1) := by decide +kernel
theorem dX7_set_18 : decode cX7_set 18 = .ok (.aload_n 0, 1) := by decide +kernel
theorem dX7_set_19 : decode cX7_set 19 = .ok (.getfield 11, 3) := by decide +kernel
theorem dX7_set_22 : decode cX7_set 22 = .ok (.iload_n 1, 1) := by decide +kernel
theorem dX7_set_23 : decode cX7_set 23 = .ok (.aaload, 1) := by decide +kernel
theorem dX7_set_24 : decode cX7_set 24 = .ok (.astore 4, 2) := by decide +kernel
theorem dX7_set_26 : decode cX7_set 26 = .ok (.iload_n 2, 1) := by decide +kernel
theorem dX7_set_27 : decode cX7_set 27 = .ok (.ifCond .ne 13, 3) := by decide +kernel
theorem dX7_set_30 : decode cX7_set 30 = .ok (.iload_n 3, 1) := by decide +kernel
theorem dX7_set_31 : decode cX7_set 31 = .ok (.aload 4, 2) := by decide +kernel
theorem dX7_set_33 : decode cX7_set 33 = .ok (.iconst 1, 1) := by decide +kernel
theorem dX7_set_34 : decode cX7_set 34 = .ok (.invokevirtual 91, 3) := by decide +kernel
theorem dX7_set_37 : decode cX7_set 37 = .ok (.if_icmp .ge 18, 3) := by decide +kernel
theorem dX7_set_40 : decode cX7_set 40 = .ok (.iload_n 2, 1) := by decide +kernel
theorem dX7_set_41 : decode cX7_set 41 = .ok (.iconst 1, 1) := by decide +kernel
theorem dX7_set_42 : decode cX7_set 42 = .ok (.if_icmp .ne 15, 3) := by decide +kernel
theorem dX7_set_45 : decode cX7_set 45 = .ok (.iload_n 3, 1) := by decide +kernel
theorem dX7_set_46 : decode cX7_set 46 = .ok (.aload 4, 2) := by decide +kernel
theorem dX7_set_48 : decode cX7_set 48 = .ok (.iconst 0, 1) := by decide +kernel
theorem dX7_set_49 : decode cX7_set 49 = .ok (.invokevirtual 91, 3) := by decide +kernel
theorem dX7_set_52 : decode cX7_set 52 = .ok (.if_icmp .gt 5, 3) := by decide +kernel
theorem dX7_set_55 : decode cX7_set 55 = .ok (.iconst (-1), 1) := by decide +kernel
theorem dX7_set_56 : decode cX7_set 56 = .ok (.ireturn, 1) := by decide +kernel
theorem dX7_set_57 : decode cX7_set 57 = .ok (.aload 4, 2) := by decide +kernel
theorem dX7_set_59 : decode cX7_set 59 = .ok (.iload_n 2, 1) := by decide +kernel
theorem dX7_set_60 : decode cX7_set 60 = .ok (.invokevirtual 91, 3) := by decide +kernel
theorem dX7_set_63 : decode cX7_set 63 = .ok (.istore 5, 2) := by decide +kernel
theorem dX7_set_65 : decode cX7_set 65 = .ok (.aload 4, 2) := by decide +kernel
theorem dX7_set_67 : decode cX7_set 67 = .ok (.iload_n 2, 1) := by decide +kernel
theorem dX7_set_68 : decode cX7_set 68 = .ok (.iload_n 3, 1) := by decide +kernel
theorem dX7_set_69 : decode cX7_set 69 = .ok (.invokevirtual 83, 3) := by decide +kernel
theorem dX7_set_72 : decode cX7_set 72 = .ok (.iload 5, 2) := by decide +kernel
theorem dX7_set_74 : decode cX7_set 74 = .ok (.ireturn, 1) := by decide +kernel
set_option maxRecDepth 20000 in
theorem ggX7_about_X7_isRam : GoodIn wsX7_about wsX7_isRam := goodIn_r _ [6, 7, 8, 9, 5, 10, 17, 18, 19, 20, 21, 22, 23, 24, 25, 26, 27, 28, 29] (by decide +kernel) (by decide +kernel)
set_option maxRecDepth 20000 in
theorem gX7_about_X7_isRam : GoodIn wsX7_about (wsV RX7 87 RX7 yX7_isRam wsX7_isRam) := goodIn_app (goodIn_of _ (by decide +kernel)) ggX7_about_X7_isRam
set_option maxRecDepth 20000 in
theorem ggX7_about_X7_within : GoodIn wsX7_about wsX7_within := goodIn_r _ [10] (by decide +kernel) (by decide +kernel)
set_option maxRecDepth 20000 in
theorem gX7_about_X7_within : GoodIn wsX7_about (va_wsS RX7 95 yX7_within wsX7_within) := goodIn_app (goodIn_of _ (by decide +kernel)) ggX7_about_X7_within
set_option maxRecDepth 20000 in
theorem ggX7_about_X1_trait : GoodIn wsX7_about wsX1_trait := goodIn_r _ [15, 16, 9, 5, 10, 30, 31, 32, 33, 34, 35, 36, 37] (by decide +kernel) (by decide +kernel)
set_option maxRecDepth 20000 in
theorem gX7_about_X1_trait : GoodIn wsX7_about (wsV RX7 91 RX1 yX1_trait wsX1_trait) := goodIn_app (goodIn_of _ (by decide +kernel)) ggX7_about_X1_trait
theorem dX7_about_0 : decode cX7_about 0 = .ok (.aload_n 0, 1) := by decide +kernel
theorem dX7_about_1 : decode cX7_about 1 = .ok (.iload_n 1, 1) := by decide +kernel
theorem dX7_about_2 : decode cX7_about 2 = .ok (.invokevirtual 87, 3) := by decide +kernel
theorem dX7_about_5 : decode cX7_about 5 = .ok (.ifCond .eq 13, 3) := by decide +kernel
theorem dX7_about_8 : decode cX7_about 8 = .ok (.iload_n 2, 1) := by decide +kernel
theorem dX7_about_9 : decode cX7_about 9 = .ok (.iconst 0, 1) := by decide +kernel
theorem dX7_about_10 : decode cX7_about 10 = .ok (.bipush 12, 2) := by decide +kernel
theorem dX7_about_12 : decode cX7_about 12 = .ok (.invokestatic 95, 3) := by decide +kernel
theorem dX7_about_15 : decode cX7_about 15 = .ok (.ifCond .ne 5, 3) := by decide +kernel
theorem dX7_about_18 : decode cX7_about 18 = .ok (.iconst (-1), 1) := by decide +kernel
theorem dX7_about_19 : decode cX7_about 19 = .ok (.ireturn, 1) := by decide +kernel
theorem dX7_about_20 : decode cX7_about 20 = .ok (.aload_n 0, 1) := by decide +kernel
theorem dX7_about_21 : decode cX7_about 21 = .ok (.getfield 11, 3) := by decide +kernel
theorem dX7_about_24 : decode cX7_about 24 = .ok (.iload_n 1, 1) := by decide +kernel
theorem dX7_about_25 : decode cX7_about 25 = .ok (.aaload, 1) := by decide +kernel
theorem dX7_about_26 : decode cX7_about 26 = .ok (.iload_n 2, 1) := by decide +kernel
theorem dX7_about_27 : decode cX7_about 27 = .ok (.invokevirtual 91, 3) := by decide +kernel
theorem dX7_about_30 : decode cX7_about 30 = .ok (.ireturn, 1) := by decide +kernel
set_option maxRecDepth 20000 in
theorem ggX7_work_X7_canBe : GoodIn wsX7_work wsX7_canBe := goodIn_r _ [7, 8, 9, 10, 11, 6, 12] (by decide +kernel) (by decide +kernel)
set_option maxRecDepth 20000 in
theorem gX7_work_X7_canBe : GoodIn wsX7_work (va_wsS RX7 79 yX7_canBe wsX7_canBe) := goodIn_app (goodIn_of _ (by decide +kernel)) ggX7_work_X7_canBe
set_option maxRecDepth 20000 in
theorem ggX7_work_X7_isRam : GoodIn wsX7_work wsX7_isRam := goodIn_r _ [16, 17, 10, 11, 6, 12, 28, 29, 30, 31, 32, 33, 34, 35, 36, 37, 38, 39, 40] (by decide +kernel) (by decide +kernel)
set_option maxRecDepth 20000 in
theorem gX7_work_X7_isRam : GoodIn wsX7_work (wsV RX7 87 RX7 yX7_isRam wsX7_isRam) := goodIn_app (goodIn_of _ (by decide +kernel)) ggX7_work_X7_isRam
set_option maxRecDepth 20000 in
theorem ggX7_work_X1_workBy : GoodIn wsX7_work wsX1_workBy := goodIn_r _ [22, 23, 24, 25, 26, 27, 41, 42, 43, 44, 45, 46, 47, 48] (by decide +kernel) (by decide +kernel)
set_option maxRecDepth 20000 in
theorem gX7_work_X1_workBy : GoodIn wsX7_work (wsV RX7 103 RX1 yX1_workBy wsX1_workBy) := goodIn_app (goodIn_of _ (by decide +kernel)) ggX7_work_X1_workBy
theorem dX7_work_0 : decode cX7_work 0 = .ok (.bipush 10, 2) := by decide +kernel
theorem dX7_work_2 : decode cX7_work 2 = .ok (.iload_n 1, 1) := by decide +kernel
theorem dX7_work_3 : decode cX7_work 3 = .ok (.invokestatic 79, 3) := by decide +kernel
theorem dX7_work_6 : decode cX7_work 6 = .ok (.ifCond .eq 11, 3) := by decide +kernel
theorem dX7_work_9 : decode cX7_work 9 = .ok (.aload_n 0, 1) := by decide +kernel
theorem dX7_work_10 : decode cX7_work 10 = .ok (.iload_n 2, 1) := by decide +kernel
theorem dX7_work_11 : decode cX7_work 11 = .ok (.invokevirtual 87, 3) := by decide +kernel
theorem dX7_work_14 : decode cX7_work 14 = .ok (.ifCond .ne 5, 3) := by decide +kernel
theorem dX7_work_17 : decode cX7_work 17 = .ok (.iconst (-1), 1) := by decide +kernel
theorem dX7_work_18 : decode cX7_work 18 = .ok (.ireturn, 1) := by decide +kernel
theorem dX7_work_19 : decode cX7_work 19 = .ok (.aload_n 0, 1) := by decide +kernel
theorem dX7_work_20 : decode cX7_work 20 = .ok (.dup, 1) := by decide +kernel
theorem dX7_work_21 : decode cX7_work 21 = .ok (.getfield 75, 3) := by decide +kernel
theorem dX7_work_24 : decode cX7_work 24 = .ok (.getstatic 99, 3) := by decide +kernel
theorem dX7_work_27 : decode cX7_work 27 = .ok (.iload_n 1, 1) := by decide +kernel
theorem dX7_work_28 : decode cX7_work 28 = .ok (.iaload, 1) := by decide +kernel
theorem dX7_work_29 : decode cX7_work 29 = .ok (.i2l, 1) := by decide +kernel
theorem dX7_work_30 : decode cX7_work 30 = .ok (.ladd, 1) := by decide +kernel
theorem dX7_work_31 : decode cX7_work 31 = .ok (.putfield 75, 3) := by decide +kernel
theorem dX7_work_34 : decode cX7_work 34 = .ok (.aload_n 0, 1) := by decide +kernel
theorem dX7_work_35 : decode cX7_work 35 = .ok (.getfield 11, 3) := by decide +kernel
theorem dX7_work_38 : decode cX7_work 38 = .ok (.iload_n 2, 1) := by decide +kernel
theorem dX7_work_39 : decode cX7_work 39 = .ok (.aaload, 1) := by decide +kernel
theorem dX7_work_40 : decode cX7_work 40 = .ok (.iload_n 1, 1) := by decide +kernel
theorem dX7_work_41 : decode cX7_work 41 = .ok (.invokevirtual 103, 3) := by decide +kernel
theorem dX7_work_44 : decode cX7_work 44 = .ok (.ireturn, 1) := by decide +kernel
set_option maxRecDepth 20000 in
theorem ggX7_beat_X7_isRam : GoodIn wsX7_beat wsX7_isRam := goodIn_r _ [6, 7, 8, 9, 5, 10, 63, 64, 65, 66, 67, 68, 69, 70, 71, 72, 73, 74, 75] (by decide +kernel) (by decide +kernel)
set_option maxRecDepth 20000 in
theorem gX7_beat_X7_isRam : GoodIn wsX7_beat (wsV RX7 87 RX7 yX7_isRam wsX7_isRam) := goodIn_app (goodIn_of _ (by decide +kernel)) ggX7_beat_X7_isRam
set_option maxRecDepth 20000 in
theorem ggX7_beat_X7_within : GoodIn wsX7_beat wsX7_within := goodIn_r _ [10] (by decide +kernel) (by decide +kernel)
set_option maxRecDepth 20000 in
theorem gX7_beat_X7_within : GoodIn wsX7_beat (va_wsS RX7 95 yX7_within wsX7_within) := goodIn_app (goodIn_of _ (by decide +kernel)) ggX7_beat_X7_within
set_option maxRecDepth 20000 in
theorem ggX7_beat_X1_stalls : GoodIn wsX7_beat wsX1_stalls := goodIn_r _ [15, 16, 17, 18, 19, 14, 20, 21, 22, 23, 24, 25, 26, 27, 28, 29, 30, 31, 76, 77, 78, 79, 80, 81, 82, 83] (by decide +kernel) (by decide +kernel)
set_option maxRecDepth 20000 in
theorem gX7_beat_X1_stalls : GoodIn wsX7_beat (wsV RX7 106 RX1 yX1_stalls wsX1_stalls) := goodIn_app (goodIn_of _ (by decide +kernel)) ggX7_beat_X1_stalls
set_option maxRecDepth 20000 in
theorem ggX7_beat_X1_shutTick : GoodIn wsX7_beat wsX1_shutTick := goodIn_r _ [35, 26, 17, 18, 19, 14, 20, 21, 16, 22, 23, 24, 25, 27, 28, 29, 30, 31, 76, 77, 78, 79, 80, 81, 82, 83] (by decide +kernel) (by decide +kernel)
set_option maxRecDepth 20000 in
theorem gX7_beat_X1_shutTick : GoodIn wsX7_beat (wsV RX7 110 RX1 yX1_shutTick wsX1_shutTick) := goodIn_app (goodIn_of _ (by decide +kernel)) ggX7_beat_X1_shutTick
set_option maxRecDepth 20000 in
theorem ggX7_beat_X1_shutSpeed : GoodIn wsX7_beat wsX1_shutSpeed := goodIn_r _ [39, 22, 17, 18, 19, 14, 20, 21, 16, 23, 24, 25, 26, 27, 28, 29, 30, 31, 76, 77, 78, 79, 80, 81, 82, 83] (by decide +kernel) (by decide +kernel)
set_option maxRecDepth 20000 in
theorem gX7_beat_X1_shutSpeed : GoodIn wsX7_beat (wsV RX7 114 RX1 yX1_shutSpeed wsX1_shutSpeed) := goodIn_app (goodIn_of _ (by decide +kernel)) ggX7_beat_X1_shutSpeed
set_option maxRecDepth 20000 in
theorem ggX7_beat_X1_wasteOfBeat : GoodIn wsX7_beat wsX1_wasteOfBeat := goodIn_r _ [43, 23, 17, 18, 19, 14, 20, 21, 16, 22, 24, 25, 26, 27, 28, 29, 30, 31, 76, 77, 78, 79, 80, 81, 82, 83] (by decide +kernel) (by decide +kernel)
set_option maxRecDepth 20000 in
theorem gX7_beat_X1_wasteOfBeat : GoodIn wsX7_beat (wsV RX7 117 RX1 yX1_wasteOfBeat wsX1_wasteOfBeat) := goodIn_app (goodIn_of _ (by decide +kernel)) ggX7_beat_X1_wasteOfBeat
set_option maxRecDepth 20000 in
theorem ggX7_beat_X1_upOfBeat : GoodIn wsX7_beat wsX1_upOfBeat := goodIn_r _ [47, 16, 22, 25, 23, 48, 49, 50, 17, 18, 19, 14, 20, 21, 24, 26, 27, 28, 29, 30, 31, 51, 52, 53, 54, 55, 56, 57, 58, 76, 77, 78, 79, 80, 81, 82, 83] (by decide +kernel) (by decide +kernel)
set_option maxRecDepth 20000 in
theorem gX7_beat_X1_upOfBeat : GoodIn wsX7_beat (wsV RX7 120 RX1 yX1_upOfBeat wsX1_upOfBeat) := goodIn_app (goodIn_of _ (by decide +kernel)) ggX7_beat_X1_upOfBeat
set_option maxRecDepth 20000 in
theorem ggX7_beat_X1_spanOfBeat : GoodIn wsX7_beat wsX1_spanOfBeat := goodIn_r _ [62, 27, 17, 18, 19, 14, 20, 21, 16, 22, 23, 24, 25, 26, 28, 29, 30, 31, 76, 77, 78, 79, 80, 81, 82, 83] (by decide +kernel) (by decide +kernel)
set_option maxRecDepth 20000 in
theorem gX7_beat_X1_spanOfBeat : GoodIn wsX7_beat (wsV RX7 123 RX1 yX1_spanOfBeat wsX1_spanOfBeat) := goodIn_app (goodIn_of _ (by decide +kernel)) ggX7_beat_X1_spanOfBeat
theorem dX7_beat_0 : decode cX7_beat 0 = .ok (.aload_n 0, 1) := by decide +kernel
theorem dX7_beat_1 : decode cX7_beat 1 = .ok (.iload_n 1, 1) := by decide +kernel
theorem dX7_beat_2 : decode cX7_beat 2 = .ok (.invokevirtual 87, 3) := by decide +kernel
theorem dX7_beat_5 : decode cX7_beat 5 = .ok (.ifCond .eq 12, 3) := by decide +kernel
theorem dX7_beat_8 : decode cX7_beat 8 = .ok (.iload_n 2, 1) := by decide +kernel
theorem dX7_beat_9 : decode cX7_beat 9 = .ok (.iconst 0, 1) := by decide +kernel
theorem dX7_beat_10 : decode cX7_beat 10 = .ok (.iconst 4, 1) := by decide +kernel
theorem dX7_beat_11 : decode cX7_beat 11 = .ok (.invokestatic 95, 3) := by decide +kernel
theorem dX7_beat_14 : decode cX7_beat 14 = .ok (.ifCond .ne 5, 3) := by decide +kernel
theorem dX7_beat_17 : decode cX7_beat 17 = .ok (.iconst (-1), 1) := by decide +kernel
theorem dX7_beat_18 : decode cX7_beat 18 = .ok (.ireturn, 1) := by decide +kernel
theorem dX7_beat_19 : decode cX7_beat 19 = .ok (.aload_n 0, 1) := by decide +kernel
theorem dX7_beat_20 : decode cX7_beat 20 = .ok (.getfield 11, 3) := by decide +kernel
theorem dX7_beat_23 : decode cX7_beat 23 = .ok (.iload_n 1, 1) := by decide +kernel
theorem dX7_beat_24 : decode cX7_beat 24 = .ok (.aaload, 1) := by decide +kernel
theorem dX7_beat_25 : decode cX7_beat 25 = .ok (.astore_n 3, 1) := by decide +kernel
theorem dX7_beat_26 : decode cX7_beat 26 = .ok (.aload_n 3, 1) := by decide +kernel
theorem dX7_beat_27 : decode cX7_beat 27 = .ok (.invokevirtual 106, 3) := by decide +kernel
theorem dX7_beat_30 : decode cX7_beat 30 = .ok (.ifCond .eq 6, 3) := by decide +kernel
theorem dX7_beat_33 : decode cX7_beat 33 = .ok (.bipush (-9), 2) := by decide +kernel
theorem dX7_beat_35 : decode cX7_beat 35 = .ok (.ireturn, 1) := by decide +kernel
theorem dX7_beat_36 : decode cX7_beat 36 = .ok (.iload_n 2, 1) := by decide +kernel
theorem dX7_beat_37 : decode cX7_beat 37 = .ok (.tableswitch 51 0 3 #[31, 36, 41, 46], 31) := by decide +kernel
theorem dX7_beat_68 : decode cX7_beat 68 = .ok (.aload_n 3, 1) := by decide +kernel
theorem dX7_beat_69 : decode cX7_beat 69 = .ok (.invokevirtual 110, 3) := by decide +kernel
theorem dX7_beat_72 : decode cX7_beat 72 = .ok (.ireturn, 1) := by decide +kernel
theorem dX7_beat_73 : decode cX7_beat 73 = .ok (.aload_n 3, 1) := by decide +kernel
theorem dX7_beat_74 : decode cX7_beat 74 = .ok (.invokevirtual 114, 3) := by decide +kernel
theorem dX7_beat_77 : decode cX7_beat 77 = .ok (.ireturn, 1) := by decide +kernel
theorem dX7_beat_78 : decode cX7_beat 78 = .ok (.aload_n 3, 1) := by decide +kernel
theorem dX7_beat_79 : decode cX7_beat 79 = .ok (.invokevirtual 117, 3) := by decide +kernel
theorem dX7_beat_82 : decode cX7_beat 82 = .ok (.ireturn, 1) := by decide +kernel
theorem dX7_beat_83 : decode cX7_beat 83 = .ok (.aload_n 3, 1) := by decide +kernel
theorem dX7_beat_84 : decode cX7_beat 84 = .ok (.invokevirtual 120, 3) := by decide +kernel
theorem dX7_beat_87 : decode cX7_beat 87 = .ok (.ireturn, 1) := by decide +kernel
theorem dX7_beat_88 : decode cX7_beat 88 = .ok (.aload_n 3, 1) := by decide +kernel
theorem dX7_beat_89 : decode cX7_beat 89 = .ok (.invokevirtual 123, 3) := by decide +kernel
theorem dX7_beat_92 : decode cX7_beat 92 = .ok (.ireturn, 1) := by decide +kernel
set_option maxRecDepth 20000 in
theorem ggX7_hourly_X7_isRam : GoodIn wsX7_hourly wsX7_isRam := goodIn_r _ [6, 7, 8, 9, 5, 10, 66, 67, 68, 69, 70, 71, 72, 73, 74, 75, 76, 77, 78] (by decide +kernel) (by decide +kernel)
set_option maxRecDepth 20000 in
theorem gX7_hourly_X7_isRam : GoodIn wsX7_hourly (wsV RX7 87 RX7 yX7_isRam wsX7_isRam) := goodIn_app (goodIn_of _ (by decide +kernel)) ggX7_hourly_X7_isRam
set_option maxRecDepth 20000 in
theorem ggX7_hourly_X7_within : GoodIn wsX7_hourly wsX7_within := goodIn_r _ [10] (by decide +kernel) (by decide +kernel)
set_option maxRecDepth 20000 in
theorem gX7_hourly_X7_within : GoodIn wsX7_hourly (va_wsS RX7 95 yX7_within wsX7_within) := goodIn_app (goodIn_of _ (by decide +kernel)) ggX7_hourly_X7_within
set_option maxRecDepth 20000 in
theorem ggX7_hourly_X1_beatsAnHour : GoodIn wsX7_hourly wsX1_beatsAnHour := goodIn_r _ [15, 16, 17, 18, 19, 14, 20, 21, 22, 23, 24, 25, 26, 27, 28, 29, 30, 31, 79, 80, 81, 82, 83, 84, 85, 86] (by decide +kernel) (by decide +kernel)
set_option maxRecDepth 20000 in
theorem gX7_hourly_X1_beatsAnHour : GoodIn wsX7_hourly (wsV RX7 126 RX1 yX1_beatsAnHour wsX1_beatsAnHour) := goodIn_app (goodIn_of _ (by decide +kernel)) ggX7_hourly_X1_beatsAnHour
set_option maxRecDepth 20000 in
theorem ggX7_hourly_X1_wasteAnHour : GoodIn wsX7_hourly wsX1_wasteAnHour := goodIn_r _ [35, 25, 24, 36, 37, 38, 14, 39, 22, 17, 18, 19, 20, 21, 23, 16, 26, 27, 28, 29, 30, 31, 40, 12, 13, 15, 79, 80, 81, 82, 83, 84, 85, 86] (by decide +kernel) (by decide +kernel)
set_option maxRecDepth 20000 in
theorem gX7_hourly_X1_wasteAnHour : GoodIn wsX7_hourly (wsV RX7 129 RX1 yX1_wasteAnHour wsX1_wasteAnHour) := goodIn_app (goodIn_of _ (by decide +kernel)) ggX7_hourly_X1_wasteAnHour
set_option maxRecDepth 20000 in
theorem ggX7_hourly_X1_upAnHour : GoodIn wsX7_hourly wsX1_upAnHour := goodIn_r _ [44, 40, 12, 13, 14, 15, 16, 17, 18, 19, 20, 21, 22, 23, 24, 25, 26, 27, 28, 29, 30, 31, 45, 46, 47, 48, 49, 50, 51, 52, 53, 54, 55, 56, 57, 58, 59, 79, 80, 81, 82, 83, 84, 85, 86] (by decide +kernel) (by decide +kernel)
set_option maxRecDepth 20000 in
theorem gX7_hourly_X1_upAnHour : GoodIn wsX7_hourly (wsV RX7 132 RX1 yX1_upAnHour wsX1_upAnHour) := goodIn_app (goodIn_of _ (by decide +kernel)) ggX7_hourly_X1_upAnHour
set_option maxRecDepth 20000 in
theorem ggX7_hourly_X1_drawsAnHour : GoodIn wsX7_hourly wsX1_drawsAnHour := goodIn_r _ [63, 64, 33, 34, 14, 35, 25, 24, 36, 37, 38, 39, 22, 17, 18, 19, 20, 21, 23, 16, 26, 27, 28, 29, 30, 31, 40, 12, 13, 15, 65, 42, 43, 44, 45, 46, 47, 48, 49, 50, 51, 52, 53, 54, 55, 56, 57, 58, 59, 79, 80, 81, 82, 83, 84, 85, 86] (by decide +kernel) (by decide +kernel)
set_option maxRecDepth 20000 in
theorem gX7_hourly_X1_drawsAnHour : GoodIn wsX7_hourly (wsV RX7 135 RX1 yX1_drawsAnHour wsX1_drawsAnHour) := goodIn_app (goodIn_of _ (by decide +kernel)) ggX7_hourly_X1_drawsAnHour
theorem dX7_hourly_0 : decode cX7_hourly 0 = .ok (.aload_n 0, 1) := by decide +kernel
theorem dX7_hourly_1 : decode cX7_hourly 1 = .ok (.iload_n 1, 1) := by decide +kernel
theorem dX7_hourly_2 : decode cX7_hourly 2 = .ok (.invokevirtual 87, 3) := by decide +kernel
theorem dX7_hourly_5 : decode cX7_hourly 5 = .ok (.ifCond .eq 12, 3) := by decide +kernel
theorem dX7_hourly_8 : decode cX7_hourly 8 = .ok (.iload_n 2, 1) := by decide +kernel
theorem dX7_hourly_9 : decode cX7_hourly 9 = .ok (.iconst 0, 1) := by decide +kernel
theorem dX7_hourly_10 : decode cX7_hourly 10 = .ok (.iconst 3, 1) := by decide +kernel
theorem dX7_hourly_11 : decode cX7_hourly 11 = .ok (.invokestatic 95, 3) := by decide +kernel
theorem dX7_hourly_14 : decode cX7_hourly 14 = .ok (.ifCond .ne 5, 3) := by decide +kernel
theorem dX7_hourly_17 : decode cX7_hourly 17 = .ok (.iconst (-1), 1) := by decide +kernel
theorem dX7_hourly_18 : decode cX7_hourly 18 = .ok (.ireturn, 1) := by decide +kernel
theorem dX7_hourly_19 : decode cX7_hourly 19 = .ok (.aload_n 0, 1) := by decide +kernel
theorem dX7_hourly_20 : decode cX7_hourly 20 = .ok (.getfield 11, 3) := by decide +kernel
theorem dX7_hourly_23 : decode cX7_hourly 23 = .ok (.iload_n 1, 1) := by decide +kernel
theorem dX7_hourly_24 : decode cX7_hourly 24 = .ok (.aaload, 1) := by decide +kernel
theorem dX7_hourly_25 : decode cX7_hourly 25 = .ok (.astore_n 3, 1) := by decide +kernel
theorem dX7_hourly_26 : decode cX7_hourly 26 = .ok (.iload_n 2, 1) := by decide +kernel
theorem dX7_hourly_27 : decode cX7_hourly 27 = .ok (.tableswitch 40 0 2 #[25, 30, 35], 25) := by decide +kernel
theorem dX7_hourly_52 : decode cX7_hourly 52 = .ok (.aload_n 3, 1) := by decide +kernel
theorem dX7_hourly_53 : decode cX7_hourly 53 = .ok (.invokevirtual 126, 3) := by decide +kernel
theorem dX7_hourly_56 : decode cX7_hourly 56 = .ok (.ireturn, 1) := by decide +kernel
theorem dX7_hourly_57 : decode cX7_hourly 57 = .ok (.aload_n 3, 1) := by decide +kernel
theorem dX7_hourly_58 : decode cX7_hourly 58 = .ok (.invokevirtual 129, 3) := by decide +kernel
theorem dX7_hourly_61 : decode cX7_hourly 61 = .ok (.ireturn, 1) := by decide +kernel
theorem dX7_hourly_62 : decode cX7_hourly 62 = .ok (.aload_n 3, 1) := by decide +kernel
theorem dX7_hourly_63 : decode cX7_hourly 63 = .ok (.invokevirtual 132, 3) := by decide +kernel
theorem dX7_hourly_66 : decode cX7_hourly 66 = .ok (.ireturn, 1) := by decide +kernel
theorem dX7_hourly_67 : decode cX7_hourly 67 = .ok (.aload_n 3, 1) := by decide +kernel
theorem dX7_hourly_68 : decode cX7_hourly 68 = .ok (.invokevirtual 135, 3) := by decide +kernel
theorem dX7_hourly_71 : decode cX7_hourly 71 = .ok (.ireturn, 1) := by decide +kernel
set_option maxRecDepth 20000 in
theorem ggX7_spring_X7_isMonth : GoodIn wsX7_spring wsX7_isMonth := goodIn_r _ [7, 8, 9, 6, 10] (by decide +kernel) (by decide +kernel)
set_option maxRecDepth 20000 in
theorem gX7_spring_X7_isMonth : GoodIn wsX7_spring (va_wsS RX7 138 yX7_isMonth wsX7_isMonth) := goodIn_app (goodIn_of _ (by decide +kernel)) ggX7_spring_X7_isMonth
set_option maxRecDepth 20000 in
theorem ggX7_spring_X7_within : GoodIn wsX7_spring wsX7_within := goodIn_r _ [10] (by decide +kernel) (by decide +kernel)
set_option maxRecDepth 20000 in
theorem gX7_spring_X7_within : GoodIn wsX7_spring (va_wsS RX7 95 yX7_within wsX7_within) := goodIn_app (goodIn_of _ (by decide +kernel)) ggX7_spring_X7_within
theorem dX7_spring_0 : decode cX7_spring 0 = .ok (.iload_n 1, 1) := by decide +kernel
theorem dX7_spring_1 : decode cX7_spring 1 = .ok (.invokestatic 138, 3) := by decide +kernel
theorem dX7_spring_4 : decode cX7_spring 4 = .ok (.ifCond .eq 13, 3) := by decide +kernel
theorem dX7_spring_7 : decode cX7_spring 7 = .ok (.iload_n 2, 1) := by decide +kernel
theorem dX7_spring_8 : decode cX7_spring 8 = .ok (.iconst 0, 1) := by decide +kernel
theorem dX7_spring_9 : decode cX7_spring 9 = .ok (.ldc 141, 2) := by decide +kernel
theorem dX7_spring_11 : decode cX7_spring 11 = .ok (.invokestatic 95, 3) := by decide +kernel
theorem dX7_spring_14 : decode cX7_spring 14 = .ok (.ifCond .ne 5, 3) := by decide +kernel
theorem dX7_spring_17 : decode cX7_spring 17 = .ok (.iconst (-1), 1) := by decide +kernel
theorem dX7_spring_18 : decode cX7_spring 18 = .ok (.ireturn, 1) := by decide +kernel
theorem dX7_spring_19 : decode cX7_spring 19 = .ok (.aload_n 0, 1) := by decide +kernel
theorem dX7_spring_20 : decode cX7_spring 20 = .ok (.getfield 27, 3) := by decide +kernel
theorem dX7_spring_23 : decode cX7_spring 23 = .ok (.getfield 142, 3) := by decide +kernel
theorem dX7_spring_26 : decode cX7_spring 26 = .ok (.iload_n 1, 1) := by decide +kernel
theorem dX7_spring_27 : decode cX7_spring 27 = .ok (.iaload, 1) := by decide +kernel
theorem dX7_spring_28 : decode cX7_spring 28 = .ok (.istore_n 3, 1) := by decide +kernel
theorem dX7_spring_29 : decode cX7_spring 29 = .ok (.aload_n 0, 1) := by decide +kernel
theorem dX7_spring_30 : decode cX7_spring 30 = .ok (.getfield 27, 3) := by decide +kernel
theorem dX7_spring_33 : decode cX7_spring 33 = .ok (.getfield 142, 3) := by decide +kernel
theorem dX7_spring_36 : decode cX7_spring 36 = .ok (.iload_n 1, 1) := by decide +kernel
theorem dX7_spring_37 : decode cX7_spring 37 = .ok (.iload_n 2, 1) := by decide +kernel
theorem dX7_spring_38 : decode cX7_spring 38 = .ok (.iastore, 1) := by decide +kernel
theorem dX7_spring_39 : decode cX7_spring 39 = .ok (.iload_n 3, 1) := by decide +kernel
theorem dX7_spring_40 : decode cX7_spring 40 = .ok (.ireturn, 1) := by decide +kernel
set_option maxRecDepth 20000 in
theorem ggX7_tuned_X7_isRam : GoodIn wsX7_tuned wsX7_isRam := goodIn_r _ [10, 11, 12, 13, 9, 14, 82, 83, 84, 85, 86, 87, 88, 89, 90, 91, 92, 93, 94] (by decide +kernel) (by decide +kernel)
set_option maxRecDepth 20000 in
theorem gX7_tuned_X7_isRam : GoodIn wsX7_tuned (wsV RX7 87 RX7 yX7_isRam wsX7_isRam) := goodIn_app (goodIn_of _ (by decide +kernel)) ggX7_tuned_X7_isRam
set_option maxRecDepth 20000 in
theorem ggX7_tuned_X7_isMonth : GoodIn wsX7_tuned wsX7_isMonth := goodIn_r _ [17, 12, 13, 9, 14] (by decide +kernel) (by decide +kernel)
set_option maxRecDepth 20000 in
theorem gX7_tuned_X7_isMonth : GoodIn wsX7_tuned (va_wsS RX7 138 yX7_isMonth wsX7_isMonth) := goodIn_app (goodIn_of _ (by decide +kernel)) ggX7_tuned_X7_isMonth
set_option maxRecDepth 20000 in
theorem ggX7_tuned_X7_within : GoodIn wsX7_tuned wsX7_within := goodIn_r _ [14] (by decide +kernel) (by decide +kernel)
set_option maxRecDepth 20000 in
theorem gX7_tuned_X7_within : GoodIn wsX7_tuned (va_wsS RX7 95 yX7_within wsX7_within) := goodIn_app (goodIn_of _ (by decide +kernel)) ggX7_tuned_X7_within
set_option maxRecDepth 20000 in
theorem ggX7_tuned_X1_becomeLike : GoodIn wsX7_tuned wsX1_becomeLike := goodIn_r _ [22, 23, 24, 25, 26, 27, 28, 99, 100, 101, 102, 103, 104, 105, 106] (by decide +kernel) (by decide +kernel)
set_option maxRecDepth 20000 in
theorem gX7_tuned_X1_becomeLike : GoodIn wsX7_tuned (wsV RX7 145 RX1 yX1_becomeLike wsX1_becomeLike) := goodIn_app (goodIn_of _ (by decide +kernel)) ggX7_tuned_X1_becomeLike
set_option maxRecDepth 20000 in
theorem ggX7_tuned_X1_put : GoodIn wsX7_tuned wsX1_put := goodIn_r _ [32, 23, 28, 13, 9, 14, 99, 100, 101, 102, 103, 104, 105, 106] (by decide +kernel) (by decide +kernel)
set_option maxRecDepth 20000 in
theorem gX7_tuned_X1_put : GoodIn wsX7_tuned (wsV RX7 83 RX1 yX1_put wsX1_put) := goodIn_app (goodIn_of _ (by decide +kernel)) ggX7_tuned_X1_put
set_option maxRecDepth 20000 in
theorem ggX7_tuned_X1_stalls : GoodIn wsX7_tuned wsX1_stalls := goodIn_r _ [36, 37, 38, 39, 40, 21, 41, 28, 42, 43, 44, 23, 45, 46, 47, 48, 49, 50, 99, 100, 101, 102, 103, 104, 105, 106] (by decide +kernel) (by decide +kernel)
set_option maxRecDepth 20000 in
theorem gX7_tuned_X1_stalls : GoodIn wsX7_tuned (wsV RX7 106 RX1 yX1_stalls wsX1_stalls) := goodIn_app (goodIn_of _ (by decide +kernel)) ggX7_tuned_X1_stalls
set_option maxRecDepth 20000 in
theorem ggX7_tuned_X1_upAnHour : GoodIn wsX7_tuned wsX1_upAnHour := goodIn_r _ [54, 55, 56, 57, 21, 58, 44, 38, 39, 40, 41, 28, 37, 42, 43, 23, 45, 46, 47, 48, 49, 50, 59, 60, 61, 62, 63, 64, 65, 66, 67, 68, 69, 70, 71, 72, 73, 99, 100, 101, 102, 103, 104, 105, 106] (by decide +kernel) (by decide +kernel)
set_option maxRecDepth 20000 in
theorem gX7_tuned_X1_upAnHour : GoodIn wsX7_tuned (wsV RX7 132 RX1 yX1_upAnHour wsX1_upAnHour) := goodIn_app (goodIn_of _ (by decide +kernel)) ggX7_tuned_X1_upAnHour
set_option maxRecDepth 20000 in
theorem ggX7_tuned_X1_wasteAnHour : GoodIn wsX7_tuned wsX1_wasteAnHour := goodIn_r _ [77, 23, 43, 78, 34, 35, 21, 36, 37, 38, 39, 40, 41, 28, 42, 44, 45, 46, 47, 48, 49, 50, 55, 56, 57, 58, 99, 100, 101, 102, 103, 104, 105, 106] (by decide +kernel) (by decide +kernel)
set_option maxRecDepth 20000 in
theorem gX7_tuned_X1_wasteAnHour : GoodIn wsX7_tuned (wsV RX7 129 RX1 yX1_wasteAnHour wsX1_wasteAnHour) := goodIn_app (goodIn_of _ (by decide +kernel)) ggX7_tuned_X1_wasteAnHour
set_option maxRecDepth 20000 in
theorem ggX7_tuned_X7_advantage : GoodIn wsX7_tuned wsX7_advantage := goodIn_r _ [81] (by decide +kernel) (by decide +kernel)
set_option maxRecDepth 20000 in
theorem gX7_tuned_X7_advantage : GoodIn wsX7_tuned (va_wsS RX7 152 yX7_advantage wsX7_advantage) := goodIn_app (goodIn_of _ (by decide +kernel)) ggX7_tuned_X7_advantage
theorem dX7_tuned_0 : decode cX7_tuned 0 = .ok (.aload_n 0, 1) := by decide +kernel
theorem dX7_tuned_1 : decode cX7_tuned 1 = .ok (.iload_n 1, 1) := by decide +kernel
theorem dX7_tuned_2 : decode cX7_tuned 2 = .ok (.invokevirtual 87, 3) := by decide +kernel
theorem dX7_tuned_5 : decode cX7_tuned 5 = .ok (.ifCond .eq 29, 3) := by decide +kernel
theorem dX7_tuned_8 : decode cX7_tuned 8 = .ok (.iload_n 2, 1) := by decide +kernel
theorem dX7_tuned_9 : decode cX7_tuned 9 = .ok (.invokestatic 138, 3) := by decide +kernel
theorem dX7_tuned_12 : decode cX7_tuned 12 = .ok (.ifCond .eq 22, 3) := by decide +kernel
theorem dX7_tuned_15 : decode cX7_tuned 15 = .ok (.iload_n 3, 1) := by decide +kernel
theorem dX7_tuned_16 : decode cX7_tuned 16 = .ok (.iconst 0, 1) := by decide +kernel
theorem dX7_tuned_17 : decode cX7_tuned 17 = .ok (.iconst 1, 1) := by decide +kernel
theorem dX7_tuned_18 : decode cX7_tuned 18 = .ok (.invokestatic 95, 3) := by decide +kernel
theorem dX7_tuned_21 : decode cX7_tuned 21 = .ok (.ifCond .eq 13, 3) := by decide +kernel
theorem dX7_tuned_24 : decode cX7_tuned 24 = .ok (.iload 4, 2) := by decide +kernel
theorem dX7_tuned_26 : decode cX7_tuned 26 = .ok (.iconst 0, 1) := by decide +kernel
theorem dX7_tuned_27 : decode cX7_tuned 27 = .ok (.iconst 2, 1) := by decide +kernel
theorem dX7_tuned_28 : decode cX7_tuned 28 = .ok (.invokestatic 95, 3) := by decide +kernel
theorem dX7_tuned_31 : decode cX7_tuned 31 = .ok (.ifCond .ne 5, 3) := by decide +kernel
theorem dX7_tuned_34 : decode cX7_tuned 34 = .ok (.iconst (-1), 1) := by decide +kernel
theorem dX7_tuned_35 : decode cX7_tuned 35 = .ok (.ireturn, 1) := by decide +kernel
theorem dX7_tuned_36 : decode cX7_tuned 36 = .ok (.aload_n 0, 1) := by decide +kernel
theorem dX7_tuned_37 : decode cX7_tuned 37 = .ok (.getfield 20, 3) := by decide +kernel
theorem dX7_tuned_40 : decode cX7_tuned 40 = .ok (.aload_n 0, 1) := by decide +kernel
theorem dX7_tuned_41 : decode cX7_tuned 41 = .ok (.getfield 11, 3) := by decide +kernel
theorem dX7_tuned_44 : decode cX7_tuned 44 = .ok (.iload_n 1, 1) := by decide +kernel
theorem dX7_tuned_45 : decode cX7_tuned 45 = .ok (.aaload, 1) := by decide +kernel
theorem dX7_tuned_46 : decode cX7_tuned 46 = .ok (.invokevirtual 145, 3) := by decide +kernel
theorem dX7_tuned_49 : decode cX7_tuned 49 = .ok (.bipush (-9), 2) := by decide +kernel
theorem dX7_tuned_51 : decode cX7_tuned 51 = .ok (.istore 5, 2) := by decide +kernel
theorem dX7_tuned_53 : decode cX7_tuned 53 = .ok (.bipush (-9), 2) := by decide +kernel
theorem dX7_tuned_55 : decode cX7_tuned 55 = .ok (.istore 6, 2) := by decide +kernel
theorem dX7_tuned_57 : decode cX7_tuned 57 = .ok (.bipush (-9), 2) := by decide +kernel
theorem dX7_tuned_59 : decode cX7_tuned 59 = .ok (.istore 7, 2) := by decide +kernel
theorem dX7_tuned_61 : decode cX7_tuned 61 = .ok (.iconst 0, 1) := by decide +kernel
theorem dX7_tuned_62 : decode cX7_tuned 62 = .ok (.istore 8, 2) := by decide +kernel
theorem dX7_tuned_64 : decode cX7_tuned 64 = .ok (.iconst 1, 1) := by decide +kernel
theorem dX7_tuned_65 : decode cX7_tuned 65 = .ok (.istore 9, 2) := by decide +kernel
theorem dX7_tuned_67 : decode cX7_tuned 67 = .ok (.iload 9, 2) := by decide +kernel
theorem dX7_tuned_69 : decode cX7_tuned 69 = .ok (.getstatic 149, 3) := by decide +kernel
theorem dX7_tuned_72 : decode cX7_tuned 72 = .ok (.iconst 5, 1) := by decide +kernel
theorem dX7_tuned_73 : decode cX7_tuned 73 = .ok (.iaload, 1) := by decide +kernel
theorem dX7_tuned_74 : decode cX7_tuned 74 = .ok (.if_icmp .gt 166, 3) := by decide +kernel
theorem dX7_tuned_77 : decode cX7_tuned 77 = .ok (.aload_n 0, 1) := by decide +kernel
theorem dX7_tuned_78 : decode cX7_tuned 78 = .ok (.getfield 20, 3) := by decide +kernel
theorem dX7_tuned_81 : decode cX7_tuned 81 = .ok (.iconst 5, 1) := by decide +kernel
theorem dX7_tuned_82 : decode cX7_tuned 82 = .ok (.iload 9, 2) := by decide +kernel
theorem dX7_tuned_84 : decode cX7_tuned 84 = .ok (.invokevirtual 83, 3) := by decide +kernel
theorem dX7_tuned_87 : decode cX7_tuned 87 = .ok (.iconst 5, 1) := by decide +kernel
theorem dX7_tuned_88 : decode cX7_tuned 88 = .ok (.istore 10, 2) := by decide +kernel
theorem dX7_tuned_90 : decode cX7_tuned 90 = .ok (.iload 10, 2) := by decide +kernel
theorem dX7_tuned_92 : decode cX7_tuned 92 = .ok (.getstatic 149, 3) := by decide +kernel
theorem dX7_tuned_95 : decode cX7_tuned 95 = .ok (.iconst 4, 1) := by decide +kernel
theorem dX7_tuned_96 : decode cX7_tuned 96 = .ok (.iaload, 1) := by decide +kernel
theorem dX7_tuned_97 : decode cX7_tuned 97 = .ok (.if_icmp .gt 137, 3) := by decide +kernel
theorem dX7_tuned_100 : decode cX7_tuned 100 = .ok (.aload_n 0, 1) := by decide +kernel
theorem dX7_tuned_101 : decode cX7_tuned 101 = .ok (.getfield 20, 3) := by decide +kernel
theorem dX7_tuned_104 : decode cX7_tuned 104 = .ok (.iconst 4, 1) := by decide +kernel
theorem dX7_tuned_105 : decode cX7_tuned 105 = .ok (.iload 10, 2) := by decide +kernel
theorem dX7_tuned_107 : decode cX7_tuned 107 = .ok (.invokevirtual 83, 3) := by decide +kernel
theorem dX7_tuned_110 : decode cX7_tuned 110 = .ok (.aload_n 0, 1) := by decide +kernel
theorem dX7_tuned_111 : decode cX7_tuned 111 = .ok (.getfield 20, 3) := by decide +kernel
theorem dX7_tuned_114 : decode cX7_tuned 114 = .ok (.invokevirtual 106, 3) := by decide +kernel
theorem dX7_tuned_117 : decode cX7_tuned 117 = .ok (.ifCond .eq 6, 3) := by decide +kernel
theorem dX7_tuned_120 : decode cX7_tuned 120 = .ok (.goto 114, 3) := by decide +kernel
theorem dX7_tuned_123 : decode cX7_tuned 123 = .ok (.aload_n 0, 1) := by decide +kernel
theorem dX7_tuned_124 : decode cX7_tuned 124 = .ok (.getfield 20, 3) := by decide +kernel
theorem dX7_tuned_127 : decode cX7_tuned 127 = .ok (.invokevirtual 132, 3) := by decide +kernel
theorem dX7_tuned_130 : decode cX7_tuned 130 = .ok (.istore 11, 2) := by decide +kernel
theorem dX7_tuned_132 : decode cX7_tuned 132 = .ok (.aload_n 0, 1) := by decide +kernel
theorem dX7_tuned_133 : decode cX7_tuned 133 = .ok (.getfield 20, 3) := by decide +kernel
theorem dX7_tuned_136 : decode cX7_tuned 136 = .ok (.invokevirtual 129, 3) := by decide +kernel
theorem dX7_tuned_139 : decode cX7_tuned 139 = .ok (.istore 12, 2) := by decide +kernel
theorem dX7_tuned_141 : decode cX7_tuned 141 = .ok (.iload 11, 2) := by decide +kernel
theorem dX7_tuned_143 : decode cX7_tuned 143 = .ok (.ifCond .le 85, 3) := by decide +kernel
theorem dX7_tuned_146 : decode cX7_tuned 146 = .ok (.iload 11, 2) := by decide +kernel
theorem dX7_tuned_148 : decode cX7_tuned 148 = .ok (.iload 12, 2) := by decide +kernel
theorem dX7_tuned_150 : decode cX7_tuned 150 = .ok (.iadd, 1) := by decide +kernel
theorem dX7_tuned_151 : decode cX7_tuned 151 = .ok (.aload_n 0, 1) := by decide +kernel
theorem dX7_tuned_152 : decode cX7_tuned 152 = .ok (.getfield 27, 3) := by decide +kernel
theorem dX7_tuned_155 : decode cX7_tuned 155 = .ok (.getfield 142, 3) := by decide +kernel
theorem dX7_tuned_158 : decode cX7_tuned 158 = .ok (.iload_n 2, 1) := by decide +kernel
theorem dX7_tuned_159 : decode cX7_tuned 159 = .ok (.iaload, 1) := by decide +kernel
theorem dX7_tuned_160 : decode cX7_tuned 160 = .ok (.if_icmp .le 6, 3) := by decide +kernel
theorem dX7_tuned_163 : decode cX7_tuned 163 = .ok (.goto 65, 3) := by decide +kernel
theorem dX7_tuned_166 : decode cX7_tuned 166 = .ok (.iload 7, 2) := by decide +kernel
theorem dX7_tuned_168 : decode cX7_tuned 168 = .ok (.bipush (-9), 2) := by decide +kernel
theorem dX7_tuned_170 : decode cX7_tuned 170 = .ok (.if_icmp .ne 7, 3) := by decide +kernel
theorem dX7_tuned_173 : decode cX7_tuned 173 = .ok (.lconst 1, 1) := by decide +kernel
theorem dX7_tuned_174 : decode cX7_tuned 174 = .ok (.goto 15, 3) := by decide +kernel
theorem dX7_tuned_177 : decode cX7_tuned 177 = .ok (.iload_n 3, 1) := by decide +kernel
theorem dX7_tuned_178 : decode cX7_tuned 178 = .ok (.iload 11, 2) := by decide +kernel
theorem dX7_tuned_180 : decode cX7_tuned 180 = .ok (.iload 12, 2) := by decide +kernel
theorem dX7_tuned_182 : decode cX7_tuned 182 = .ok (.iload 7, 2) := by decide +kernel
theorem dX7_tuned_184 : decode cX7_tuned 184 = .ok (.iload 8, 2) := by decide +kernel
theorem dX7_tuned_186 : decode cX7_tuned 186 = .ok (.invokestatic 152, 3) := by decide +kernel
theorem dX7_tuned_189 : decode cX7_tuned 189 = .ok (.lstore 13, 2) := by decide +kernel
theorem dX7_tuned_191 : decode cX7_tuned 191 = .ok (.lload 13, 2) := by decide +kernel
theorem dX7_tuned_193 : decode cX7_tuned 193 = .ok (.lconst 0, 1) := by decide +kernel
theorem dX7_tuned_194 : decode cX7_tuned 194 = .ok (.lcmp, 1) := by decide +kernel
theorem dX7_tuned_195 : decode cX7_tuned 195 = .ok (.ifCond .gt 17, 3) := by decide +kernel
theorem dX7_tuned_198 : decode cX7_tuned 198 = .ok (.lload 13, 2) := by decide +kernel
theorem dX7_tuned_200 : decode cX7_tuned 200 = .ok (.lconst 0, 1) := by decide +kernel
theorem dX7_tuned_201 : decode cX7_tuned 201 = .ok (.lcmp, 1) := by decide +kernel
theorem dX7_tuned_202 : decode cX7_tuned 202 = .ok (.ifCond .ne 26, 3) := by decide +kernel
theorem dX7_tuned_205 : decode cX7_tuned 205 = .ok (.iload 10, 2) := by decide +kernel
theorem dX7_tuned_207 : decode cX7_tuned 207 = .ok (.iload 5, 2) := by decide +kernel
theorem dX7_tuned_209 : decode cX7_tuned 209 = .ok (.if_icmp .ge 19, 3) := by decide +kernel
theorem dX7_tuned_212 : decode cX7_tuned 212 = .ok (.iload 10, 2) := by decide +kernel
theorem dX7_tuned_214 : decode cX7_tuned 214 = .ok (.istore 5, 2) := by decide +kernel
theorem dX7_tuned_216 : decode cX7_tuned 216 = .ok (.iload 9, 2) := by decide +kernel
theorem dX7_tuned_218 : decode cX7_tuned 218 = .ok (.istore 6, 2) := by decide +kernel
theorem dX7_tuned_220 : decode cX7_tuned 220 = .ok (.iload 11, 2) := by decide +kernel
theorem dX7_tuned_222 : decode cX7_tuned 222 = .ok (.istore 7, 2) := by decide +kernel
theorem dX7_tuned_224 : decode cX7_tuned 224 = .ok (.iload 12, 2) := by decide +kernel
theorem dX7_tuned_226 : decode cX7_tuned 226 = .ok (.istore 8, 2) := by decide +kernel
theorem dX7_tuned_228 : decode cX7_tuned 228 = .ok (.iinc 10 5, 3) := by decide +kernel
theorem dX7_tuned_231 : decode cX7_tuned 231 = .ok (.goto (-141), 3) := by decide +kernel
theorem dX7_tuned_234 : decode cX7_tuned 234 = .ok (.iinc 9 1, 3) := by decide +kernel
theorem dX7_tuned_237 : decode cX7_tuned 237 = .ok (.goto (-170), 3) := by decide +kernel
theorem dX7_tuned_240 : decode cX7_tuned 240 = .ok (.iload 4, 2) := by decide +kernel
theorem dX7_tuned_242 : decode cX7_tuned 242 = .ok (.ifCond .ne 8, 3) := by decide +kernel
theorem dX7_tuned_245 : decode cX7_tuned 245 = .ok (.iload 5, 2) := by decide +kernel
theorem dX7_tuned_247 : decode cX7_tuned 247 = .ok (.goto 16, 3) := by decide +kernel
theorem dX7_tuned_250 : decode cX7_tuned 250 = .ok (.iload 4, 2) := by decide +kernel
theorem dX7_tuned_252 : decode cX7_tuned 252 = .ok (.iconst 1, 1) := by decide +kernel
theorem dX7_tuned_253 : decode cX7_tuned 253 = .ok (.if_icmp .ne 8, 3) := by decide +kernel
theorem dX7_tuned_256 : decode cX7_tuned 256 = .ok (.iload 6, 2) := by decide +kernel
theorem dX7_tuned_258 : decode cX7_tuned 258 = .ok (.goto 5, 3) := by decide +kernel
theorem dX7_tuned_261 : decode cX7_tuned 261 = .ok (.iload 7, 2) := by decide +kernel
theorem dX7_tuned_263 : decode cX7_tuned 263 = .ok (.ireturn, 1) := by decide +kernel
set_option maxRecDepth 20000 in
theorem ggX7_tune_X7_canBe : GoodIn wsX7_tune wsX7_canBe := goodIn_r _ [5, 6, 7, 8, 9, 4, 10] (by decide +kernel) (by decide +kernel)
set_option maxRecDepth 20000 in
theorem gX7_tune_X7_canBe : GoodIn wsX7_tune (va_wsS RX7 79 yX7_canBe wsX7_canBe) := goodIn_app (goodIn_of _ (by decide +kernel)) ggX7_tune_X7_canBe
set_option maxRecDepth 20000 in
theorem ggX7_tune_X6_keep : GoodIn wsX7_tune wsX6_keep := goodIn_r _ [15, 16, 17, 18, 32, 33, 34, 35, 36, 37, 38] (by decide +kernel) (by decide +kernel)
set_option maxRecDepth 20000 in
theorem gX7_tune_X6_keep : GoodIn wsX7_tune (wsV RX7 156 RX6 yX6_keep wsX6_keep) := goodIn_app (goodIn_of _ (by decide +kernel)) ggX7_tune_X6_keep
theorem dX7_tune_0 : decode cX7_tune 0 = .ok (.iconst 4, 1) := by decide +kernel
theorem dX7_tune_1 : decode cX7_tune 1 = .ok (.iload_n 1, 1) := by decide +kernel
theorem dX7_tune_2 : decode cX7_tune 2 = .ok (.invokestatic 79, 3) := by decide +kernel
theorem dX7_tune_5 : decode cX7_tune 5 = .ok (.ifCond .eq 11, 3) := by decide +kernel
theorem dX7_tune_8 : decode cX7_tune 8 = .ok (.iconst 5, 1) := by decide +kernel
theorem dX7_tune_9 : decode cX7_tune 9 = .ok (.iload_n 2, 1) := by decide +kernel
theorem dX7_tune_10 : decode cX7_tune 10 = .ok (.invokestatic 79, 3) := by decide +kernel
theorem dX7_tune_13 : decode cX7_tune 13 = .ok (.ifCond .ne 5, 3) := by decide +kernel
theorem dX7_tune_16 : decode cX7_tune 16 = .ok (.iconst (-1), 1) := by decide +kernel
theorem dX7_tune_17 : decode cX7_tune 17 = .ok (.ireturn, 1) := by decide +kernel
theorem dX7_tune_18 : decode cX7_tune 18 = .ok (.aload_n 0, 1) := by decide +kernel
theorem dX7_tune_19 : decode cX7_tune 19 = .ok (.getfield 34, 3) := by decide +kernel
theorem dX7_tune_22 : decode cX7_tune 22 = .ok (.iload_n 1, 1) := by decide +kernel
theorem dX7_tune_23 : decode cX7_tune 23 = .ok (.iload_n 2, 1) := by decide +kernel
theorem dX7_tune_24 : decode cX7_tune 24 = .ok (.invokevirtual 156, 3) := by decide +kernel
theorem dX7_tune_27 : decode cX7_tune 27 = .ok (.ireturn, 1) := by decide +kernel
theorem dX7_forget_0 : decode cX7_forget 0 = .ok (.aload_n 0, 1) := by decide +kernel
theorem dX7_forget_1 : decode cX7_forget 1 = .ok (.getfield 34, 3) := by decide +kernel
theorem dX7_forget_4 : decode cX7_forget 4 = .ok (.getfield 160, 3) := by decide +kernel
theorem dX7_forget_7 : decode cX7_forget 7 = .ok (.istore_n 1, 1) := by decide +kernel
theorem dX7_forget_8 : decode cX7_forget 8 = .ok (.aload_n 0, 1) := by decide +kernel
theorem dX7_forget_9 : decode cX7_forget 9 = .ok (.getfield 34, 3) := by decide +kernel
theorem dX7_forget_12 : decode cX7_forget 12 = .ok (.iconst 0, 1) := by decide +kernel
theorem dX7_forget_13 : decode cX7_forget 13 = .ok (.putfield 160, 3) := by decide +kernel
theorem dX7_forget_16 : decode cX7_forget 16 = .ok (.iload_n 1, 1) := by decide +kernel
theorem dX7_forget_17 : decode cX7_forget 17 = .ok (.ireturn, 1) := by decide +kernel
set_option maxRecDepth 20000 in
theorem ggX7_side_X7_isMonth : GoodIn wsX7_side wsX7_isMonth := goodIn_r _ [12, 13, 14, 11, 15] (by decide +kernel) (by decide +kernel)
set_option maxRecDepth 20000 in
theorem gX7_side_X7_isMonth : GoodIn wsX7_side (va_wsS RX7 138 yX7_isMonth wsX7_isMonth) := goodIn_app (goodIn_of _ (by decide +kernel)) ggX7_side_X7_isMonth
set_option maxRecDepth 20000 in
theorem ggX7_side_X7_within : GoodIn wsX7_side wsX7_within := goodIn_r _ [15] (by decide +kernel) (by decide +kernel)
set_option maxRecDepth 20000 in
theorem gX7_side_X7_within : GoodIn wsX7_side (va_wsS RX7 95 yX7_within wsX7_within) := goodIn_app (goodIn_of _ (by decide +kernel)) ggX7_side_X7_within
set_option maxRecDepth 20000 in
theorem ggX7_side_X1_becomeLike : GoodIn wsX7_side wsX1_becomeLike := goodIn_r _ [20, 21, 22, 23, 24, 25, 26, 129, 130, 131, 132, 133, 134, 135, 136] (by decide +kernel) (by decide +kernel)
set_option maxRecDepth 20000 in
theorem gX7_side_X1_becomeLike : GoodIn wsX7_side (wsV RX7 145 RX1 yX1_becomeLike wsX1_becomeLike) := goodIn_app (goodIn_of _ (by decide +kernel)) ggX7_side_X1_becomeLike
set_option maxRecDepth 20000 in
theorem ggX7_side_X6_tryOn : GoodIn wsX7_side wsX6_tryOn := goodIn_r _ [31, 32, 33, 34, 35, 36, 37, 38, 39, 19, 40, 21, 26, 14, 11, 15, 41, 42, 43, 44, 45, 46, 47, 48, 49, 50, 51, 52, 53, 54, 55, 56, 57, 58, 59, 60, 61, 62, 63, 64, 65, 66, 67, 68, 69, 70, 71, 72, 73, 74, 75, 76, 77, 78, 79, 80, 81, 82, 83, 84, 85, 86, 87, 88, 89, 90, 91, 122, 123, 124, 125, 126, 127, 128, 129, 130, 131, 132, 133, 134, 135, 136] (by decide +kernel) (by decide +kernel)
set_option maxRecDepth 20000 in
theorem gX7_side_X6_tryOn : GoodIn wsX7_side (wsV RX7 163 RX6 yX6_tryOn wsX6_tryOn) := goodIn_app (goodIn_of _ (by decide +kernel)) ggX7_side_X6_tryOn
set_option maxRecDepth 20000 in
theorem ggX7_side_X6_pick : GoodIn wsX7_side wsX6_pick := goodIn_r _ [95, 96, 97, 98, 99, 30, 100, 101, 102, 103, 104, 32, 35, 36, 122, 123, 124, 125, 126, 127, 128] (by decide +kernel) (by decide +kernel)
set_option maxRecDepth 20000 in
theorem gX7_side_X6_pick : GoodIn wsX7_side (wsV RX7 167 RX6 yX6_pick wsX6_pick) := goodIn_app (goodIn_of _ (by decide +kernel)) ggX7_side_X6_pick
theorem dX7_side_0 : decode cX7_side 0 = .ok (.iload_n 1, 1) := by decide +kernel
theorem dX7_side_1 : decode cX7_side 1 = .ok (.invokestatic 138, 3) := by decide +kernel
theorem dX7_side_4 : decode cX7_side 4 = .ok (.ifCond .eq 12, 3) := by decide +kernel
theorem dX7_side_7 : decode cX7_side 7 = .ok (.iload_n 2, 1) := by decide +kernel
theorem dX7_side_8 : decode cX7_side 8 = .ok (.iconst 0, 1) := by decide +kernel
theorem dX7_side_9 : decode cX7_side 9 = .ok (.iconst 1, 1) := by decide +kernel
theorem dX7_side_10 : decode cX7_side 10 = .ok (.invokestatic 95, 3) := by decide +kernel
theorem dX7_side_13 : decode cX7_side 13 = .ok (.ifCond .ne 5, 3) := by decide +kernel
theorem dX7_side_16 : decode cX7_side 16 = .ok (.iconst (-1), 1) := by decide +kernel
theorem dX7_side_17 : decode cX7_side 17 = .ok (.ireturn, 1) := by decide +kernel
theorem dX7_side_18 : decode cX7_side 18 = .ok (.iconst 0, 1) := by decide +kernel
theorem dX7_side_19 : decode cX7_side 19 = .ok (.istore_n 3, 1) := by decide +kernel
theorem dX7_side_20 : decode cX7_side 20 = .ok (.iload_n 3, 1) := by decide +kernel
theorem dX7_side_21 : decode cX7_side 21 = .ok (.aload_n 0, 1) := by decide +kernel
theorem dX7_side_22 : decode cX7_side 22 = .ok (.getfield 15, 3) := by decide +kernel
theorem dX7_side_25 : decode cX7_side 25 = .ok (.if_icmp .ge 34, 3) := by decide +kernel
theorem dX7_side_28 : decode cX7_side 28 = .ok (.aload_n 0, 1) := by decide +kernel
theorem dX7_side_29 : decode cX7_side 29 = .ok (.getfield 20, 3) := by decide +kernel
theorem dX7_side_32 : decode cX7_side 32 = .ok (.aload_n 0, 1) := by decide +kernel
theorem dX7_side_33 : decode cX7_side 33 = .ok (.getfield 11, 3) := by decide +kernel
theorem dX7_side_36 : decode cX7_side 36 = .ok (.iload_n 3, 1) := by decide +kernel
theorem dX7_side_37 : decode cX7_side 37 = .ok (.aaload, 1) := by decide +kernel
theorem dX7_side_38 : decode cX7_side 38 = .ok (.invokevirtual 145, 3) := by decide +kernel
theorem dX7_side_41 : decode cX7_side 41 = .ok (.aload_n 0, 1) := by decide +kernel
theorem dX7_side_42 : decode cX7_side 42 = .ok (.getfield 34, 3) := by decide +kernel
theorem dX7_side_45 : decode cX7_side 45 = .ok (.iload_n 3, 1) := by decide +kernel
theorem dX7_side_46 : decode cX7_side 46 = .ok (.aload_n 0, 1) := by decide +kernel
theorem dX7_side_47 : decode cX7_side 47 = .ok (.getfield 20, 3) := by decide +kernel
theorem dX7_side_50 : decode cX7_side 50 = .ok (.invokevirtual 163, 3) := by decide +kernel
theorem dX7_side_53 : decode cX7_side 53 = .ok (.iinc 3 1, 3) := by decide +kernel
theorem dX7_side_56 : decode cX7_side 56 = .ok (.goto (-36), 3) := by decide +kernel
theorem dX7_side_59 : decode cX7_side 59 = .ok (.aload_n 0, 1) := by decide +kernel
theorem dX7_side_60 : decode cX7_side 60 = .ok (.getfield 34, 3) := by decide +kernel
theorem dX7_side_63 : decode cX7_side 63 = .ok (.aload_n 0, 1) := by decide +kernel
theorem dX7_side_64 : decode cX7_side 64 = .ok (.getfield 15, 3) := by decide +kernel
theorem dX7_side_67 : decode cX7_side 67 = .ok (.aload_n 0, 1) := by decide +kernel
theorem dX7_side_68 : decode cX7_side 68 = .ok (.getfield 27, 3) := by decide +kernel
theorem dX7_side_71 : decode cX7_side 71 = .ok (.getfield 142, 3) := by decide +kernel
theorem dX7_side_74 : decode cX7_side 74 = .ok (.iload_n 1, 1) := by decide +kernel
theorem dX7_side_75 : decode cX7_side 75 = .ok (.iaload, 1) := by decide +kernel
theorem dX7_side_76 : decode cX7_side 76 = .ok (.invokevirtual 167, 3) := by decide +kernel
theorem dX7_side_79 : decode cX7_side 79 = .ok (.iload_n 2, 1) := by decide +kernel
theorem dX7_side_80 : decode cX7_side 80 = .ok (.ifCond .ne 13, 3) := by decide +kernel
theorem dX7_side_83 : decode cX7_side 83 = .ok (.aload_n 0, 1) := by decide +kernel
theorem dX7_side_84 : decode cX7_side 84 = .ok (.getfield 34, 3) := by decide +kernel
theorem dX7_side_87 : decode cX7_side 87 = .ok (.getfield 170, 3) := by decide +kernel
theorem dX7_side_90 : decode cX7_side 90 = .ok (.goto 10, 3) := by decide +kernel
theorem dX7_side_93 : decode cX7_side 93 = .ok (.aload_n 0, 1) := by decide +kernel
theorem dX7_side_94 : decode cX7_side 94 = .ok (.getfield 34, 3) := by decide +kernel
theorem dX7_side_97 : decode cX7_side 97 = .ok (.getfield 173, 3) := by decide +kernel
theorem dX7_side_100 : decode cX7_side 100 = .ok (.ireturn, 1) := by decide +kernel
set_option maxRecDepth 20000 in
theorem ggX7_take_X6_tellsAll : GoodIn wsX7_take wsX6_tellsAll := goodIn_r _ [8, 9, 10, 11, 7, 12, 13, 14, 15, 42, 43, 44, 45, 46, 47, 48] (by decide +kernel) (by decide +kernel)
set_option maxRecDepth 20000 in
theorem gX7_take_X6_tellsAll : GoodIn wsX7_take (wsV RX7 176 RX6 yX6_tellsAll wsX6_tellsAll) := goodIn_app (goodIn_of _ (by decide +kernel)) ggX7_take_X6_tellsAll
set_option maxRecDepth 20000 in
theorem ggX7_take_X6_giveTo : GoodIn wsX7_take wsX6_giveTo := goodIn_r _ [19, 9, 20, 21, 13, 14, 15, 22, 23, 24, 25, 26, 27, 28, 42, 43, 44, 45, 46, 47, 48, 49, 50, 51, 52, 53, 54, 55, 56] (by decide +kernel) (by decide +kernel)
set_option maxRecDepth 20000 in
theorem gX7_take_X6_giveTo : GoodIn wsX7_take (wsV RX7 179 RX6 yX6_giveTo wsX6_giveTo) := goodIn_app (goodIn_of _ (by decide +kernel)) ggX7_take_X6_giveTo
theorem dX7_take_0 : decode cX7_take 0 = .ok (.aload_n 0, 1) := by decide +kernel
theorem dX7_take_1 : decode cX7_take 1 = .ok (.getfield 34, 3) := by decide +kernel
theorem dX7_take_4 : decode cX7_take 4 = .ok (.iload_n 1, 1) := by decide +kernel
theorem dX7_take_5 : decode cX7_take 5 = .ok (.aload_n 0, 1) := by decide +kernel
theorem dX7_take_6 : decode cX7_take 6 = .ok (.getfield 15, 3) := by decide +kernel
theorem dX7_take_9 : decode cX7_take 9 = .ok (.invokevirtual 176, 3) := by decide +kernel
theorem dX7_take_12 : decode cX7_take 12 = .ok (.ifCond .ne 5, 3) := by decide +kernel
theorem dX7_take_15 : decode cX7_take 15 = .ok (.iconst (-1), 1) := by decide +kernel
theorem dX7_take_16 : decode cX7_take 16 = .ok (.ireturn, 1) := by decide +kernel
theorem dX7_take_17 : decode cX7_take 17 = .ok (.iload_n 1, 1) := by decide +kernel
theorem dX7_take_18 : decode cX7_take 18 = .ok (.istore_n 2, 1) := by decide +kernel
theorem dX7_take_19 : decode cX7_take 19 = .ok (.iconst 0, 1) := by decide +kernel
theorem dX7_take_20 : decode cX7_take 20 = .ok (.istore_n 3, 1) := by decide +kernel
theorem dX7_take_21 : decode cX7_take 21 = .ok (.iload_n 3, 1) := by decide +kernel
theorem dX7_take_22 : decode cX7_take 22 = .ok (.aload_n 0, 1) := by decide +kernel
theorem dX7_take_23 : decode cX7_take 23 = .ok (.getfield 15, 3) := by decide +kernel
theorem dX7_take_26 : decode cX7_take 26 = .ok (.if_icmp .ge 31, 3) := by decide +kernel
theorem dX7_take_29 : decode cX7_take 29 = .ok (.aload_n 0, 1) := by decide +kernel
theorem dX7_take_30 : decode cX7_take 30 = .ok (.getfield 34, 3) := by decide +kernel
theorem dX7_take_33 : decode cX7_take 33 = .ok (.aload_n 0, 1) := by decide +kernel
theorem dX7_take_34 : decode cX7_take 34 = .ok (.getfield 11, 3) := by decide +kernel
theorem dX7_take_37 : decode cX7_take 37 = .ok (.iload_n 3, 1) := by decide +kernel
theorem dX7_take_38 : decode cX7_take 38 = .ok (.aaload, 1) := by decide +kernel
theorem dX7_take_39 : decode cX7_take 39 = .ok (.iload_n 2, 1) := by decide +kernel
theorem dX7_take_40 : decode cX7_take 40 = .ok (.bipush 7, 2) := by decide +kernel
theorem dX7_take_42 : decode cX7_take 42 = .ok (.irem, 1) := by decide +kernel
theorem dX7_take_43 : decode cX7_take 43 = .ok (.invokevirtual 179, 3) := by decide +kernel
theorem dX7_take_46 : decode cX7_take 46 = .ok (.iload_n 2, 1) := by decide +kernel
theorem dX7_take_47 : decode cX7_take 47 = .ok (.bipush 7, 2) := by decide +kernel
theorem dX7_take_49 : decode cX7_take 49 = .ok (.idiv, 1) := by decide +kernel
theorem dX7_take_50 : decode cX7_take 50 = .ok (.istore_n 2, 1) := by decide +kernel
theorem dX7_take_51 : decode cX7_take 51 = .ok (.iinc 3 1, 3) := by decide +kernel
theorem dX7_take_54 : decode cX7_take 54 = .ok (.goto (-33), 3) := by decide +kernel
theorem dX7_take_57 : decode cX7_take 57 = .ok (.iconst 1, 1) := by decide +kernel
theorem dX7_take_58 : decode cX7_take 58 = .ok (.ireturn, 1) := by decide +kernel
set_option maxRecDepth 20000 in
theorem ggX7_frost_X7_isMonth : GoodIn wsX7_frost wsX7_isMonth := goodIn_r _ [6, 7, 8, 5, 9] (by decide +kernel) (by decide +kernel)
set_option maxRecDepth 20000 in
theorem gX7_frost_X7_isMonth : GoodIn wsX7_frost (va_wsS RX7 138 yX7_isMonth wsX7_isMonth) := goodIn_app (goodIn_of _ (by decide +kernel)) ggX7_frost_X7_isMonth
set_option maxRecDepth 20000 in
theorem ggX7_frost_X7_within : GoodIn wsX7_frost wsX7_within := goodIn_r _ [9] (by decide +kernel) (by decide +kernel)
set_option maxRecDepth 20000 in
theorem gX7_frost_X7_within : GoodIn wsX7_frost (va_wsS RX7 95 yX7_within wsX7_within) := goodIn_app (goodIn_of _ (by decide +kernel)) ggX7_frost_X7_within
theorem dX7_frost_0 : decode cX7_frost 0 = .ok (.iload_n 1, 1) := by decide +kernel
theorem dX7_frost_1 : decode cX7_frost 1 = .ok (.invokestatic 138, 3) := by decide +kernel
theorem dX7_frost_4 : decode cX7_frost 4 = .ok (.ifCond .eq 13, 3) := by decide +kernel
theorem dX7_frost_7 : decode cX7_frost 7 = .ok (.iload_n 2, 1) := by decide +kernel
theorem dX7_frost_8 : decode cX7_frost 8 = .ok (.iconst 0, 1) := by decide +kernel
theorem dX7_frost_9 : decode cX7_frost 9 = .ok (.bipush 23, 2) := by decide +kernel
theorem dX7_frost_11 : decode cX7_frost 11 = .ok (.invokestatic 95, 3) := by decide +kernel
theorem dX7_frost_14 : decode cX7_frost 14 = .ok (.ifCond .ne 5, 3) := by decide +kernel
theorem dX7_frost_17 : decode cX7_frost 17 = .ok (.iconst (-1), 1) := by decide +kernel
theorem dX7_frost_18 : decode cX7_frost 18 = .ok (.ireturn, 1) := by decide +kernel
theorem dX7_frost_19 : decode cX7_frost 19 = .ok (.aload_n 0, 1) := by decide +kernel
theorem dX7_frost_20 : decode cX7_frost 20 = .ok (.getfield 27, 3) := by decide +kernel
theorem dX7_frost_23 : decode cX7_frost 23 = .ok (.getfield 183, 3) := by decide +kernel
theorem dX7_frost_26 : decode cX7_frost 26 = .ok (.iload_n 1, 1) := by decide +kernel
theorem dX7_frost_27 : decode cX7_frost 27 = .ok (.iaload, 1) := by decide +kernel
theorem dX7_frost_28 : decode cX7_frost 28 = .ok (.istore_n 3, 1) := by decide +kernel
theorem dX7_frost_29 : decode cX7_frost 29 = .ok (.aload_n 0, 1) := by decide +kernel
theorem dX7_frost_30 : decode cX7_frost 30 = .ok (.getfield 27, 3) := by decide +kernel
theorem dX7_frost_33 : decode cX7_frost 33 = .ok (.getfield 183, 3) := by decide +kernel
theorem dX7_frost_36 : decode cX7_frost 36 = .ok (.iload_n 1, 1) := by decide +kernel
theorem dX7_frost_37 : decode cX7_frost 37 = .ok (.iload_n 2, 1) := by decide +kernel
theorem dX7_frost_38 : decode cX7_frost 38 = .ok (.iastore, 1) := by decide +kernel
theorem dX7_frost_39 : decode cX7_frost 39 = .ok (.iload_n 3, 1) := by decide +kernel
theorem dX7_frost_40 : decode cX7_frost 40 = .ok (.ireturn, 1) := by decide +kernel
set_option maxRecDepth 20000 in
theorem ggX7_silence_X7_within : GoodIn wsX7_silence wsX7_within := goodIn_r _ [7] (by decide +kernel) (by decide +kernel)
set_option maxRecDepth 20000 in
theorem gX7_silence_X7_within : GoodIn wsX7_silence (va_wsS RX7 95 yX7_within wsX7_within) := goodIn_app (goodIn_of _ (by decide +kernel)) ggX7_silence_X7_within
theorem dX7_silence_0 : decode cX7_silence 0 = .ok (.iload_n 1, 1) := by decide +kernel
theorem dX7_silence_1 : decode cX7_silence 1 = .ok (.iconst 0, 1) := by decide +kernel
theorem dX7_silence_2 : decode cX7_silence 2 = .ok (.bipush 24, 2) := by decide +kernel
theorem dX7_silence_4 : decode cX7_silence 4 = .ok (.invokestatic 95, 3) := by decide +kernel
theorem dX7_silence_7 : decode cX7_silence 7 = .ok (.ifCond .eq 13, 3) := by decide +kernel
theorem dX7_silence_10 : decode cX7_silence 10 = .ok (.iload_n 2, 1) := by decide +kernel
theorem dX7_silence_11 : decode cX7_silence 11 = .ok (.iload_n 1, 1) := by decide +kernel
theorem dX7_silence_12 : decode cX7_silence 12 = .ok (.bipush 24, 2) := by decide +kernel
theorem dX7_silence_14 : decode cX7_silence 14 = .ok (.invokestatic 95, 3) := by decide +kernel
theorem dX7_silence_17 : decode cX7_silence 17 = .ok (.ifCond .ne 5, 3) := by decide +kernel
theorem dX7_silence_20 : decode cX7_silence 20 = .ok (.iconst (-1), 1) := by decide +kernel
theorem dX7_silence_21 : decode cX7_silence 21 = .ok (.ireturn, 1) := by decide +kernel
theorem dX7_silence_22 : decode cX7_silence 22 = .ok (.aload_n 0, 1) := by decide +kernel
theorem dX7_silence_23 : decode cX7_silence 23 = .ok (.getfield 27, 3) := by decide +kernel
theorem dX7_silence_26 : decode cX7_silence 26 = .ok (.iload_n 1, 1) := by decide +kernel
theorem dX7_silence_27 : decode cX7_silence 27 = .ok (.putfield 186, 3) := by decide +kernel
theorem dX7_silence_30 : decode cX7_silence 30 = .ok (.aload_n 0, 1) := by decide +kernel
theorem dX7_silence_31 : decode cX7_silence 31 = .ok (.getfield 27, 3) := by decide +kernel
theorem dX7_silence_34 : decode cX7_silence 34 = .ok (.iload_n 2, 1) := by decide +kernel
theorem dX7_silence_35 : decode cX7_silence 35 = .ok (.putfield 189, 3) := by decide +kernel
theorem dX7_silence_38 : decode cX7_silence 38 = .ok (.iconst 1, 1) := by decide +kernel
theorem dX7_silence_39 : decode cX7_silence 39 = .ok (.ireturn, 1) := by decide +kernel
set_option maxRecDepth 20000 in
theorem ggX7_tank_X5_changeRoom : GoodIn wsX7_tank wsX5_changeRoom := goodIn_r _ [6, 7, 8, 9, 10, 11, 12, 30, 31, 32, 33, 34, 35, 36, 37] (by decide +kernel) (by decide +kernel)
set_option maxRecDepth 20000 in
theorem gX7_tank_X5_changeRoom : GoodIn wsX7_tank (wsV RX7 192 RX5 yX5_changeRoom wsX5_changeRoom) := goodIn_app (goodIn_of _ (by decide +kernel)) ggX7_tank_X5_changeRoom
set_option maxRecDepth 20000 in
theorem ggX7_tank_X5_changeHeld : GoodIn wsX7_tank wsX5_changeHeld := goodIn_r _ [16, 9, 8, 10, 11, 12, 30, 31, 32, 33, 34, 35, 36, 37] (by decide +kernel) (by decide +kernel)
set_option maxRecDepth 20000 in
theorem gX7_tank_X5_changeHeld : GoodIn wsX7_tank (wsV RX7 195 RX5 yX5_changeHeld wsX5_changeHeld) := goodIn_app (goodIn_of _ (by decide +kernel)) ggX7_tank_X5_changeHeld
theorem dX7_tank_0 : decode cX7_tank 0 = .ok (.iload_n 1, 1) := by decide +kernel
theorem dX7_tank_1 : decode cX7_tank 1 = .ok (.ifCond .ne 12, 3) := by decide +kernel
theorem dX7_tank_4 : decode cX7_tank 4 = .ok (.aload_n 0, 1) := by decide +kernel
theorem dX7_tank_5 : decode cX7_tank 5 = .ok (.getfield 48, 3) := by decide +kernel
theorem dX7_tank_8 : decode cX7_tank 8 = .ok (.iload_n 2, 1) := by decide +kernel
theorem dX7_tank_9 : decode cX7_tank 9 = .ok (.invokevirtual 192, 3) := by decide +kernel
theorem dX7_tank_12 : decode cX7_tank 12 = .ok (.ireturn, 1) := by decide +kernel
theorem dX7_tank_13 : decode cX7_tank 13 = .ok (.iload_n 1, 1) := by decide +kernel
theorem dX7_tank_14 : decode cX7_tank 14 = .ok (.iconst 1, 1) := by decide +kernel
theorem dX7_tank_15 : decode cX7_tank 15 = .ok (.if_icmp .ne 14, 3) := by decide +kernel
theorem dX7_tank_18 : decode cX7_tank 18 = .ok (.aload_n 0, 1) := by decide +kernel
theorem dX7_tank_19 : decode cX7_tank 19 = .ok (.getfield 48, 3) := by decide +kernel
theorem dX7_tank_22 : decode cX7_tank 22 = .ok (.iload_n 2, 1) := by decide +kernel
theorem dX7_tank_23 : decode cX7_tank 23 = .ok (.invokevirtual 195, 3) := by decide +kernel
theorem dX7_tank_26 : decode cX7_tank 26 = .ok (.goto 4, 3) := by decide +kernel
theorem dX7_tank_29 : decode cX7_tank 29 = .ok (.iconst (-1), 1) := by decide +kernel
theorem dX7_tank_30 : decode cX7_tank 30 = .ok (.ireturn, 1) := by decide +kernel
set_option maxRecDepth 20000 in
theorem ggX7_type_X7_within : GoodIn wsX7_type wsX7_within := goodIn_r _ [5] (by decide +kernel) (by decide +kernel)
set_option maxRecDepth 20000 in
theorem gX7_type_X7_within : GoodIn wsX7_type (va_wsS RX7 95 yX7_within wsX7_within) := goodIn_app (goodIn_of _ (by decide +kernel)) ggX7_type_X7_within
set_option maxRecDepth 20000 in
theorem ggX7_type_X3_write : GoodIn wsX7_type wsX3_write := goodIn_r _ [10, 11, 12, 26, 27, 28, 29, 30, 31, 32] (by decide +kernel) (by decide +kernel)
set_option maxRecDepth 20000 in
theorem gX7_type_X3_write : GoodIn wsX7_type (wsV RX7 198 RX3 yX3_write wsX3_write) := goodIn_app (goodIn_of _ (by decide +kernel)) ggX7_type_X3_write
theorem dX7_type_0 : decode cX7_type 0 = .ok (.iload_n 3, 1) := by decide +kernel
theorem dX7_type_1 : decode cX7_type 1 = .ok (.iconst 1, 1) := by decide +kernel
theorem dX7_type_2 : decode cX7_type 2 = .ok (.bipush 8, 2) := by decide +kernel
theorem dX7_type_4 : decode cX7_type 4 = .ok (.invokestatic 95, 3) := by decide +kernel
theorem dX7_type_7 : decode cX7_type 7 = .ok (.ifCond .ne 5, 3) := by decide +kernel
theorem dX7_type_10 : decode cX7_type 10 = .ok (.iconst (-1), 1) := by decide +kernel
theorem dX7_type_11 : decode cX7_type 11 = .ok (.ireturn, 1) := by decide +kernel
theorem dX7_type_12 : decode cX7_type 12 = .ok (.aload_n 0, 1) := by decide +kernel
theorem dX7_type_13 : decode cX7_type 13 = .ok (.getfield 41, 3) := by decide +kernel
theorem dX7_type_16 : decode cX7_type 16 = .ok (.lload_n 1, 1) := by decide +kernel
theorem dX7_type_17 : decode cX7_type 17 = .ok (.iload_n 3, 1) := by decide +kernel
theorem dX7_type_18 : decode cX7_type 18 = .ok (.invokevirtual 198, 3) := by decide +kernel
theorem dX7_type_21 : decode cX7_type 21 = .ok (.ireturn, 1) := by decide +kernel
theorem dX7_clear_0 : decode cX7_clear 0 = .ok (.aload_n 0, 1) := by decide +kernel
theorem dX7_clear_1 : decode cX7_clear 1 = .ok (.getfield 41, 3) := by decide +kernel
theorem dX7_clear_4 : decode cX7_clear 4 = .ok (.getfield 202, 3) := by decide +kernel
theorem dX7_clear_7 : decode cX7_clear 7 = .ok (.istore_n 1, 1) := by decide +kernel
theorem dX7_clear_8 : decode cX7_clear 8 = .ok (.aload_n 0, 1) := by decide +kernel
theorem dX7_clear_9 : decode cX7_clear 9 = .ok (.getfield 41, 3) := by decide +kernel
theorem dX7_clear_12 : decode cX7_clear 12 = .ok (.iconst 0, 1) := by decide +kernel
theorem dX7_clear_13 : decode cX7_clear 13 = .ok (.putfield 202, 3) := by decide +kernel
theorem dX7_clear_16 : decode cX7_clear 16 = .ok (.iload_n 1, 1) := by decide +kernel
theorem dX7_clear_17 : decode cX7_clear 17 = .ok (.ireturn, 1) := by decide +kernel
set_option maxRecDepth 20000 in
theorem ggX7_rights_X3_tellAnew : GoodIn wsX7_rights wsX3_tellAnew := goodIn_r _ [6, 7, 8, 9, 10, 11, 12, 13, 14, 15, 16, 17, 18, 19, 20, 21, 22, 23, 5, 24, 25, 26, 27, 28, 29, 30, 31, 32, 33, 34, 35, 36, 37, 51, 52, 53, 54, 55, 56, 57] (by decide +kernel) (by decide +kernel)
set_option maxRecDepth 20000 in
theorem gX7_rights_X3_tellAnew : GoodIn wsX7_rights (wsV RX7 205 RX3 yX3_tellAnew wsX3_tellAnew) := goodIn_app (goodIn_of _ (by decide +kernel)) ggX7_rights_X3_tellAnew
theorem dX7_rights_0 : decode cX7_rights 0 = .ok (.aload_n 0, 1) := by decide +kernel
theorem dX7_rights_1 : decode cX7_rights 1 = .ok (.getfield 41, 3) := by decide +kernel
theorem dX7_rights_4 : decode cX7_rights 4 = .ok (.invokevirtual 205, 3) := by decide +kernel
theorem dX7_rights_7 : decode cX7_rights 7 = .ok (.ireturn, 1) := by decide +kernel
set_option maxRecDepth 20000 in
theorem ggX7_right_X7_within : GoodIn wsX7_right wsX7_within := goodIn_r _ [5] (by decide +kernel) (by decide +kernel)
set_option maxRecDepth 20000 in
theorem gX7_right_X7_within : GoodIn wsX7_right (va_wsS RX7 95 yX7_within wsX7_within) := goodIn_app (goodIn_of _ (by decide +kernel)) ggX7_right_X7_within
set_option maxRecDepth 20000 in
theorem ggX7_right_X3_litresOf : GoodIn wsX7_right wsX3_litresOf := goodIn_r _ [10, 11, 25, 26, 27, 28, 29, 30, 31] (by decide +kernel) (by decide +kernel)
set_option maxRecDepth 20000 in
theorem gX7_right_X3_litresOf : GoodIn wsX7_right (wsV RX7 208 RX3 yX3_litresOf wsX3_litresOf) := goodIn_app (goodIn_of _ (by decide +kernel)) ggX7_right_X3_litresOf
theorem dX7_right_0 : decode cX7_right 0 = .ok (.iload_n 1, 1) := by decide +kernel
theorem dX7_right_1 : decode cX7_right 1 = .ok (.iconst 0, 1) := by decide +kernel
theorem dX7_right_2 : decode cX7_right 2 = .ok (.iconst 4, 1) := by decide +kernel
theorem dX7_right_3 : decode cX7_right 3 = .ok (.invokestatic 95, 3) := by decide +kernel
theorem dX7_right_6 : decode cX7_right 6 = .ok (.ifCond .eq 13, 3) := by decide +kernel
theorem dX7_right_9 : decode cX7_right 9 = .ok (.iload_n 2, 1) := by decide +kernel
theorem dX7_right_10 : decode cX7_right 10 = .ok (.iconst 0, 1) := by decide +kernel
theorem dX7_right_11 : decode cX7_right 11 = .ok (.bipush 23, 2) := by decide +kernel
theorem dX7_right_13 : decode cX7_right 13 = .ok (.invokestatic 95, 3) := by decide +kernel
theorem dX7_right_16 : decode cX7_right 16 = .ok (.ifCond .ne 5, 3) := by decide +kernel
theorem dX7_right_19 : decode cX7_right 19 = .ok (.iconst (-1), 1) := by decide +kernel
theorem dX7_right_20 : decode cX7_right 20 = .ok (.ireturn, 1) := by decide +kernel
theorem dX7_right_21 : decode cX7_right 21 = .ok (.aload_n 0, 1) := by decide +kernel
theorem dX7_right_22 : decode cX7_right 22 = .ok (.getfield 41, 3) := by decide +kernel
theorem dX7_right_25 : decode cX7_right 25 = .ok (.iload_n 1, 1) := by decide +kernel
theorem dX7_right_26 : decode cX7_right 26 = .ok (.iload_n 2, 1) := by decide +kernel
theorem dX7_right_27 : decode cX7_right 27 = .ok (.invokevirtual 208, 3) := by decide +kernel
theorem dX7_right_30 : decode cX7_right 30 = .ok (.ireturn, 1) := by decide +kernel
set_option maxRecDepth 20000 in
theorem ggX7_hours_X7_within : GoodIn wsX7_hours wsX7_within := goodIn_r _ [8] (by decide +kernel) (by decide +kernel)
set_option maxRecDepth 20000 in
theorem gX7_hours_X7_within : GoodIn wsX7_hours (va_wsS RX7 95 yX7_within wsX7_within) := goodIn_app (goodIn_of _ (by decide +kernel)) ggX7_hours_X7_within
set_option maxRecDepth 20000 in
theorem ggX7_hours_X7_runRams : GoodIn wsX7_hours wsX7_runRams := goodIn_r _ [12, 13, 14, 15, 16, 17, 4, 1, 18, 19, 20, 21, 22, 23, 6, 7, 8, 24, 25, 26, 27, 28, 29, 30, 31, 32, 33, 34, 35, 36, 37, 38, 39, 40, 41, 42, 43, 44, 45, 46, 47, 48, 49, 50, 51, 52, 53, 54, 55, 56, 57, 58, 59, 60, 61, 62, 63, 64, 65, 66, 67, 68, 69, 70, 71, 72, 73, 74, 75, 76, 77, 78, 79, 80, 81, 82, 83, 84, 85, 86, 87, 88, 89, 90, 91, 92, 93, 94, 95, 96, 97, 98, 99, 100, 101, 102, 103, 104, 124, 125, 126, 127, 128, 129, 130, 131, 132, 133, 134, 135, 136, 145, 146, 147, 148, 149, 150, 151, 152, 153, 154, 155, 156, 137, 138, 139, 140, 141, 142, 143, 144] (by decide +kernel) (by decide +kernel)
set_option maxRecDepth 20000 in
theorem gX7_hours_X7_runRams : GoodIn wsX7_hours (wsV RX7 214 RX7 yX7_runRams wsX7_runRams) := goodIn_app (goodIn_of _ (by decide +kernel)) ggX7_hours_X7_runRams
set_option maxRecDepth 20000 in
theorem ggX7_hours_X3_litresOf : GoodIn wsX7_hours wsX3_litresOf := goodIn_r _ [109, 110, 157, 158, 159, 160, 161, 162, 163] (by decide +kernel) (by decide +kernel)
set_option maxRecDepth 20000 in
theorem gX7_hours_X3_litresOf : GoodIn wsX7_hours (wsV RX7 208 RX3 yX3_litresOf wsX3_litresOf) := goodIn_app (goodIn_of _ (by decide +kernel)) ggX7_hours_X3_litresOf
set_option maxRecDepth 20000 in
theorem ggX7_hours_X5_serve : GoodIn wsX7_hours wsX5_serve := goodIn_r _ [114, 84, 115, 68, 69, 70, 116, 117, 118, 137, 138, 139, 140, 141, 142, 143, 144] (by decide +kernel) (by decide +kernel)
set_option maxRecDepth 20000 in
theorem gX7_hours_X5_serve : GoodIn wsX7_hours (wsV RX7 217 RX5 yX5_serve wsX5_serve) := goodIn_app (goodIn_of _ (by decide +kernel)) ggX7_hours_X5_serve
set_option maxRecDepth 20000 in
theorem ggX7_hours_X7_goToNextHour : GoodIn wsX7_hours wsX7_goToNextHour := goodIn_r _ [122, 4, 123, 15, 124, 125, 126, 127, 128, 129, 130, 131, 132, 133, 134, 135, 136] (by decide +kernel) (by decide +kernel)
set_option maxRecDepth 20000 in
theorem gX7_hours_X7_goToNextHour : GoodIn wsX7_hours (wsV RX7 220 RX7 yX7_goToNextHour wsX7_goToNextHour) := goodIn_app (goodIn_of _ (by decide +kernel)) ggX7_hours_X7_goToNextHour
theorem dX7_hours_0 : decode cX7_hours 0 = .ok (.iload_n 1, 1) := by decide +kernel
theorem dX7_hours_1 : decode cX7_hours 1 = .ok (.iconst 1, 1) := by decide +kernel
theorem dX7_hours_2 : decode cX7_hours 2 = .ok (.sipush 720, 3) := by decide +kernel
theorem dX7_hours_5 : decode cX7_hours 5 = .ok (.invokestatic 95, 3) := by decide +kernel
theorem dX7_hours_8 : decode cX7_hours 8 = .ok (.ifCond .ne 5, 3) := by decide +kernel
theorem dX7_hours_11 : decode cX7_hours 11 = .ok (.iconst (-1), 1) := by decide +kernel
theorem dX7_hours_12 : decode cX7_hours 12 = .ok (.ireturn, 1) := by decide +kernel
theorem dX7_hours_13 : decode cX7_hours 13 = .ok (.aload_n 0, 1) := by decide +kernel
theorem dX7_hours_14 : decode cX7_hours 14 = .ok (.getfield 48, 3) := by decide +kernel
theorem dX7_hours_17 : decode cX7_hours 17 = .ok (.getfield 211, 3) := by decide +kernel
theorem dX7_hours_20 : decode cX7_hours 20 = .ok (.lstore_n 2, 1) := by decide +kernel
theorem dX7_hours_21 : decode cX7_hours 21 = .ok (.iconst 0, 1) := by decide +kernel
theorem dX7_hours_22 : decode cX7_hours 22 = .ok (.istore 4, 2) := by decide +kernel
theorem dX7_hours_24 : decode cX7_hours 24 = .ok (.iload 4, 2) := by decide +kernel
theorem dX7_hours_26 : decode cX7_hours 26 = .ok (.iload_n 1, 1) := by decide +kernel
theorem dX7_hours_27 : decode cX7_hours 27 = .ok (.if_icmp .ge 54, 3) := by decide +kernel
theorem dX7_hours_30 : decode cX7_hours 30 = .ok (.aload_n 0, 1) := by decide +kernel
theorem dX7_hours_31 : decode cX7_hours 31 = .ok (.invokevirtual 214, 3) := by decide +kernel
theorem dX7_hours_34 : decode cX7_hours 34 = .ok (.iconst 0, 1) := by decide +kernel
theorem dX7_hours_35 : decode cX7_hours 35 = .ok (.istore 5, 2) := by decide +kernel
theorem dX7_hours_37 : decode cX7_hours 37 = .ok (.iload 5, 2) := by decide +kernel
theorem dX7_hours_39 : decode cX7_hours 39 = .ok (.iconst 5, 1) := by decide +kernel
theorem dX7_hours_40 : decode cX7_hours 40 = .ok (.if_icmp .ge 31, 3) := by decide +kernel
theorem dX7_hours_43 : decode cX7_hours 43 = .ok (.aload_n 0, 1) := by decide +kernel
theorem dX7_hours_44 : decode cX7_hours 44 = .ok (.getfield 48, 3) := by decide +kernel
theorem dX7_hours_47 : decode cX7_hours 47 = .ok (.iload 5, 2) := by decide +kernel
theorem dX7_hours_49 : decode cX7_hours 49 = .ok (.aload_n 0, 1) := by decide +kernel
theorem dX7_hours_50 : decode cX7_hours 50 = .ok (.getfield 41, 3) := by decide +kernel
theorem dX7_hours_53 : decode cX7_hours 53 = .ok (.iload 5, 2) := by decide +kernel
theorem dX7_hours_55 : decode cX7_hours 55 = .ok (.aload_n 0, 1) := by decide +kernel
theorem dX7_hours_56 : decode cX7_hours 56 = .ok (.getfield 72, 3) := by decide +kernel
theorem dX7_hours_59 : decode cX7_hours 59 = .ok (.invokevirtual 208, 3) := by decide +kernel
theorem dX7_hours_62 : decode cX7_hours 62 = .ok (.invokevirtual 217, 3) := by decide +kernel
theorem dX7_hours_65 : decode cX7_hours 65 = .ok (.iinc 5 1, 3) := by decide +kernel
theorem dX7_hours_68 : decode cX7_hours 68 = .ok (.goto (-31), 3) := by decide +kernel
theorem dX7_hours_71 : decode cX7_hours 71 = .ok (.aload_n 0, 1) := by decide +kernel
theorem dX7_hours_72 : decode cX7_hours 72 = .ok (.invokevirtual 220, 3) := by decide +kernel
theorem dX7_hours_75 : decode cX7_hours 75 = .ok (.iinc 4 1, 3) := by decide +kernel
theorem dX7_hours_78 : decode cX7_hours 78 = .ok (.goto (-54), 3) := by decide +kernel
theorem dX7_hours_81 : decode cX7_hours 81 = .ok (.aload_n 0, 1) := by decide +kernel
theorem dX7_hours_82 : decode cX7_hours 82 = .ok (.getfield 48, 3) := by decide +kernel
theorem dX7_hours_85 : decode cX7_hours 85 = .ok (.getfield 211, 3) := by decide +kernel
theorem dX7_hours_88 : decode cX7_hours 88 = .ok (.lload_n 2, 1) := by decide +kernel
theorem dX7_hours_89 : decode cX7_hours 89 = .ok (.lsub, 1) := by decide +kernel
theorem dX7_hours_90 : decode cX7_hours 90 = .ok (.l2i, 1) := by decide +kernel
theorem dX7_hours_91 : decode cX7_hours 91 = .ok (.ireturn, 1) := by decide +kernel
set_option maxRecDepth 20000 in
theorem ggX7_book_X7_within : GoodIn wsX7_book wsX7_within := goodIn_r _ [13] (by decide +kernel) (by decide +kernel)
set_option maxRecDepth 20000 in
theorem gX7_book_X7_within : GoodIn wsX7_book (va_wsS RX7 95 yX7_within wsX7_within) := goodIn_app (goodIn_of _ (by decide +kernel)) ggX7_book_X7_within
theorem dX7_book_0 : decode cX7_book 0 = .ok (.iload_n 1, 1) := by decide +kernel
theorem dX7_book_1 : decode cX7_book 1 = .ok (.tableswitch 88 0 5 #[39, 47, 55, 63, 71, 79], 39) := by decide +kernel
theorem dX7_book_40 : decode cX7_book 40 = .ok (.aload_n 0, 1) := by decide +kernel
theorem dX7_book_41 : decode cX7_book 41 = .ok (.getfield 48, 3) := by decide +kernel
theorem dX7_book_44 : decode cX7_book 44 = .ok (.getfield 223, 3) := by decide +kernel
theorem dX7_book_47 : decode cX7_book 47 = .ok (.lreturn, 1) := by decide +kernel
theorem dX7_book_48 : decode cX7_book 48 = .ok (.aload_n 0, 1) := by decide +kernel
theorem dX7_book_49 : decode cX7_book 49 = .ok (.getfield 48, 3) := by decide +kernel
theorem dX7_book_52 : decode cX7_book 52 = .ok (.getfield 226, 3) := by decide +kernel
theorem dX7_book_55 : decode cX7_book 55 = .ok (.lreturn, 1) := by decide +kernel
theorem dX7_book_56 : decode cX7_book 56 = .ok (.aload_n 0, 1) := by decide +kernel
theorem dX7_book_57 : decode cX7_book 57 = .ok (.getfield 48, 3) := by decide +kernel
theorem dX7_book_60 : decode cX7_book 60 = .ok (.getfield 229, 3) := by decide +kernel
theorem dX7_book_63 : decode cX7_book 63 = .ok (.lreturn, 1) := by decide +kernel
theorem dX7_book_64 : decode cX7_book 64 = .ok (.aload_n 0, 1) := by decide +kernel
theorem dX7_book_65 : decode cX7_book 65 = .ok (.getfield 48, 3) := by decide +kernel
theorem dX7_book_68 : decode cX7_book 68 = .ok (.getfield 232, 3) := by decide +kernel
theorem dX7_book_71 : decode cX7_book 71 = .ok (.lreturn, 1) := by decide +kernel
theorem dX7_book_72 : decode cX7_book 72 = .ok (.aload_n 0, 1) := by decide +kernel
theorem dX7_book_73 : decode cX7_book 73 = .ok (.getfield 48, 3) := by decide +kernel
theorem dX7_book_76 : decode cX7_book 76 = .ok (.getfield 211, 3) := by decide +kernel
theorem dX7_book_79 : decode cX7_book 79 = .ok (.lreturn, 1) := by decide +kernel
theorem dX7_book_80 : decode cX7_book 80 = .ok (.aload_n 0, 1) := by decide +kernel
theorem dX7_book_81 : decode cX7_book 81 = .ok (.getfield 48, 3) := by decide +kernel
theorem dX7_book_84 : decode cX7_book 84 = .ok (.getfield 235, 3) := by decide +kernel
theorem dX7_book_87 : decode cX7_book 87 = .ok (.i2l, 1) := by decide +kernel
theorem dX7_book_88 : decode cX7_book 88 = .ok (.lreturn, 1) := by decide +kernel
theorem dX7_book_89 : decode cX7_book 89 = .ok (.iload_n 1, 1) := by decide +kernel
theorem dX7_book_90 : decode cX7_book 90 = .ok (.bipush 6, 2) := by decide +kernel
theorem dX7_book_92 : decode cX7_book 92 = .ok (.bipush 10, 2) := by decide +kernel
theorem dX7_book_94 : decode cX7_book 94 = .ok (.invokestatic 95, 3) := by decide +kernel
theorem dX7_book_97 : decode cX7_book 97 = .ok (.ifCond .eq 18, 3) := by decide +kernel
theorem dX7_book_100 : decode cX7_book 100 = .ok (.aload_n 0, 1) := by decide +kernel
theorem dX7_book_101 : decode cX7_book 101 = .ok (.getfield 48, 3) := by decide +kernel
theorem dX7_book_104 : decode cX7_book 104 = .ok (.getfield 238, 3) := by decide +kernel
theorem dX7_book_107 : decode cX7_book 107 = .ok (.iload_n 1, 1) := by decide +kernel
theorem dX7_book_108 : decode cX7_book 108 = .ok (.bipush 6, 2) := by decide +kernel
theorem dX7_book_110 : decode cX7_book 110 = .ok (.isub, 1) := by decide +kernel
theorem dX7_book_111 : decode cX7_book 111 = .ok (.laload, 1) := by decide +kernel
theorem dX7_book_112 : decode cX7_book 112 = .ok (.goto 6, 3) := by decide +kernel
theorem dX7_book_115 : decode cX7_book 115 = .ok (.ldc2_w 242, 3) := by decide +kernel
theorem dX7_book_118 : decode cX7_book 118 = .ok (.lreturn, 1) := by decide +kernel
set_option maxRecDepth 20000 in
theorem ggX7_read_X7_isReadable : GoodIn wsX7_read wsX7_isReadable := goodIn_r _ [5, 6, 7, 8, 4, 9] (by decide +kernel) (by decide +kernel)
set_option maxRecDepth 20000 in
theorem gX7_read_X7_isReadable : GoodIn wsX7_read (va_wsS RX7 244 yX7_isReadable wsX7_isReadable) := goodIn_app (goodIn_of _ (by decide +kernel)) ggX7_read_X7_isReadable
set_option maxRecDepth 20000 in
theorem ggX7_read_X7_isRam : GoodIn wsX7_read wsX7_isRam := goodIn_r _ [13, 14, 7, 8, 4, 9, 24, 25, 26, 27, 28, 29, 30, 31, 32, 33, 34, 35, 36] (by decide +kernel) (by decide +kernel)
set_option maxRecDepth 20000 in
theorem gX7_read_X7_isRam : GoodIn wsX7_read (wsV RX7 87 RX7 yX7_isRam wsX7_isRam) := goodIn_app (goodIn_of _ (by decide +kernel)) ggX7_read_X7_isRam
set_option maxRecDepth 20000 in
theorem ggX7_read_X2_keep : GoodIn wsX7_read wsX2_keep := goodIn_r _ [19, 20, 21, 22, 23, 37, 38, 39, 40, 41, 42] (by decide +kernel) (by decide +kernel)
set_option maxRecDepth 20000 in
theorem gX7_read_X2_keep : GoodIn wsX7_read (wsV RX7 247 RX2 yX2_keep wsX2_keep) := goodIn_app (goodIn_of _ (by decide +kernel)) ggX7_read_X2_keep
theorem dX7_read_0 : decode cX7_read 0 = .ok (.iload_n 2, 1) := by decide +kernel
theorem dX7_read_1 : decode cX7_read 1 = .ok (.invokestatic 244, 3) := by decide +kernel
theorem dX7_read_4 : decode cX7_read 4 = .ok (.ifCond .eq 26, 3) := by decide +kernel
theorem dX7_read_7 : decode cX7_read 7 = .ok (.iload_n 3, 1) := by decide +kernel
theorem dX7_read_8 : decode cX7_read 8 = .ok (.invokestatic 244, 3) := by decide +kernel
theorem dX7_read_11 : decode cX7_read 11 = .ok (.ifCond .eq 19, 3) := by decide +kernel
theorem dX7_read_14 : decode cX7_read 14 = .ok (.iload_n 2, 1) := by decide +kernel
theorem dX7_read_15 : decode cX7_read 15 = .ok (.bipush (-9), 2) := by decide +kernel
theorem dX7_read_17 : decode cX7_read 17 = .ok (.if_icmp .ne 9, 3) := by decide +kernel
theorem dX7_read_20 : decode cX7_read 20 = .ok (.iload_n 3, 1) := by decide +kernel
theorem dX7_read_21 : decode cX7_read 21 = .ok (.bipush (-9), 2) := by decide +kernel
theorem dX7_read_23 : decode cX7_read 23 = .ok (.if_icmp .eq 7, 3) := by decide +kernel
theorem dX7_read_26 : decode cX7_read 26 = .ok (.iconst 1, 1) := by decide +kernel
theorem dX7_read_27 : decode cX7_read 27 = .ok (.goto 4, 3) := by decide +kernel
theorem dX7_read_30 : decode cX7_read 30 = .ok (.iconst 0, 1) := by decide +kernel
theorem dX7_read_31 : decode cX7_read 31 = .ok (.istore 4, 2) := by decide +kernel
theorem dX7_read_33 : decode cX7_read 33 = .ok (.aload_n 0, 1) := by decide +kernel
theorem dX7_read_34 : decode cX7_read 34 = .ok (.iload_n 1, 1) := by decide +kernel
theorem dX7_read_35 : decode cX7_read 35 = .ok (.invokevirtual 87, 3) := by decide +kernel
theorem dX7_read_38 : decode cX7_read 38 = .ok (.ifCond .eq 8, 3) := by decide +kernel
theorem dX7_read_41 : decode cX7_read 41 = .ok (.iload 4, 2) := by decide +kernel
theorem dX7_read_43 : decode cX7_read 43 = .ok (.ifCond .ne 5, 3) := by decide +kernel
theorem dX7_read_46 : decode cX7_read 46 = .ok (.iconst (-1), 1) := by decide +kernel
theorem dX7_read_47 : decode cX7_read 47 = .ok (.ireturn, 1) := by decide +kernel
theorem dX7_read_48 : decode cX7_read 48 = .ok (.aload_n 0, 1) := by decide +kernel
theorem dX7_read_49 : decode cX7_read 49 = .ok (.getfield 55, 3) := by decide +kernel
theorem dX7_read_52 : decode cX7_read 52 = .ok (.iload_n 1, 1) := by decide +kernel
theorem dX7_read_53 : decode cX7_read 53 = .ok (.iload_n 2, 1) := by decide +kernel
theorem dX7_read_54 : decode cX7_read 54 = .ok (.iload_n 3, 1) := by decide +kernel
theorem dX7_read_55 : decode cX7_read 55 = .ok (.invokevirtual 247, 3) := by decide +kernel
theorem dX7_read_58 : decode cX7_read 58 = .ok (.ireturn, 1) := by decide +kernel
theorem dX7_wipe_0 : decode cX7_wipe 0 = .ok (.aload_n 0, 1) := by decide +kernel
theorem dX7_wipe_1 : decode cX7_wipe 1 = .ok (.getfield 55, 3) := by decide +kernel
theorem dX7_wipe_4 : decode cX7_wipe 4 = .ok (.getfield 250, 3) := by decide +kernel
theorem dX7_wipe_7 : decode cX7_wipe 7 = .ok (.istore_n 1, 1) := by decide +kernel
theorem dX7_wipe_8 : decode cX7_wipe 8 = .ok (.aload_n 0, 1) := by decide +kernel
theorem dX7_wipe_9 : decode cX7_wipe 9 = .ok (.getfield 55, 3) := by decide +kernel
theorem dX7_wipe_12 : decode cX7_wipe 12 = .ok (.iconst 0, 1) := by decide +kernel
theorem dX7_wipe_13 : decode cX7_wipe 13 = .ok (.putfield 250, 3) := by decide +kernel
theorem dX7_wipe_16 : decode cX7_wipe 16 = .ok (.iload_n 1, 1) := by decide +kernel
theorem dX7_wipe_17 : decode cX7_wipe 17 = .ok (.ireturn, 1) := by decide +kernel
set_option maxRecDepth 20000 in
theorem ggX7_tolerance_X7_within : GoodIn wsX7_tolerance wsX7_within := goodIn_r _ [7] (by decide +kernel) (by decide +kernel)
set_option maxRecDepth 20000 in
theorem gX7_tolerance_X7_within : GoodIn wsX7_tolerance (va_wsS RX7 95 yX7_within wsX7_within) := goodIn_app (goodIn_of _ (by decide +kernel)) ggX7_tolerance_X7_within
theorem dX7_tolerance_0 : decode cX7_tolerance 0 = .ok (.iload_n 1, 1) := by decide +kernel
theorem dX7_tolerance_1 : decode cX7_tolerance 1 = .ok (.ifCond .ne 32, 3) := by decide +kernel
theorem dX7_tolerance_4 : decode cX7_tolerance 4 = .ok (.iload_n 2, 1) := by decide +kernel
theorem dX7_tolerance_5 : decode cX7_tolerance 5 = .ok (.iconst 0, 1) := by decide +kernel
theorem dX7_tolerance_6 : decode cX7_tolerance 6 = .ok (.sipush 500, 3) := by decide +kernel
theorem dX7_tolerance_9 : decode cX7_tolerance 9 = .ok (.invokestatic 95, 3) := by decide +kernel
theorem dX7_tolerance_12 : decode cX7_tolerance 12 = .ok (.ifCond .eq 21, 3) := by decide +kernel
theorem dX7_tolerance_15 : decode cX7_tolerance 15 = .ok (.aload_n 0, 1) := by decide +kernel
theorem dX7_tolerance_16 : decode cX7_tolerance 16 = .ok (.getfield 55, 3) := by decide +kernel
theorem dX7_tolerance_19 : decode cX7_tolerance 19 = .ok (.getfield 251, 3) := by decide +kernel
theorem dX7_tolerance_22 : decode cX7_tolerance 22 = .ok (.istore_n 3, 1) := by decide +kernel
theorem dX7_tolerance_23 : decode cX7_tolerance 23 = .ok (.aload_n 0, 1) := by decide +kernel
theorem dX7_tolerance_24 : decode cX7_tolerance 24 = .ok (.getfield 55, 3) := by decide +kernel
theorem dX7_tolerance_27 : decode cX7_tolerance 27 = .ok (.iload_n 2, 1) := by decide +kernel
theorem dX7_tolerance_28 : decode cX7_tolerance 28 = .ok (.putfield 251, 3) := by decide +kernel
theorem dX7_tolerance_31 : decode cX7_tolerance 31 = .ok (.iload_n 3, 1) := by decide +kernel
theorem dX7_tolerance_32 : decode cX7_tolerance 32 = .ok (.ireturn, 1) := by decide +kernel
theorem dX7_tolerance_33 : decode cX7_tolerance 33 = .ok (.iload_n 1, 1) := by decide +kernel
theorem dX7_tolerance_34 : decode cX7_tolerance 34 = .ok (.iconst 1, 1) := by decide +kernel
theorem dX7_tolerance_35 : decode cX7_tolerance 35 = .ok (.if_icmp .ne 31, 3) := by decide +kernel
theorem dX7_tolerance_38 : decode cX7_tolerance 38 = .ok (.iload_n 2, 1) := by decide +kernel
theorem dX7_tolerance_39 : decode cX7_tolerance 39 = .ok (.iconst 0, 1) := by decide +kernel
theorem dX7_tolerance_40 : decode cX7_tolerance 40 = .ok (.bipush 50, 2) := by decide +kernel
theorem dX7_tolerance_42 : decode cX7_tolerance 42 = .ok (.invokestatic 95, 3) := by decide +kernel
theorem dX7_tolerance_45 : decode cX7_tolerance 45 = .ok (.ifCond .eq 21, 3) := by decide +kernel
theorem dX7_tolerance_48 : decode cX7_tolerance 48 = .ok (.aload_n 0, 1) := by decide +kernel
theorem dX7_tolerance_49 : decode cX7_tolerance 49 = .ok (.getfield 55, 3) := by decide +kernel
theorem dX7_tolerance_52 : decode cX7_tolerance 52 = .ok (.getfield 254, 3) := by decide +kernel
theorem dX7_tolerance_55 : decode cX7_tolerance 55 = .ok (.istore_n 3, 1) := by decide +kernel
theorem dX7_tolerance_56 : decode cX7_tolerance 56 = .ok (.aload_n 0, 1) := by decide +kernel
theorem dX7_tolerance_57 : decode cX7_tolerance 57 = .ok (.getfield 55, 3) := by decide +kernel
theorem dX7_tolerance_60 : decode cX7_tolerance 60 = .ok (.iload_n 2, 1) := by decide +kernel
theorem dX7_tolerance_61 : decode cX7_tolerance 61 = .ok (.putfield 254, 3) := by decide +kernel
theorem dX7_tolerance_64 : decode cX7_tolerance 64 = .ok (.iload_n 3, 1) := by decide +kernel
theorem dX7_tolerance_65 : decode cX7_tolerance 65 = .ok (.ireturn, 1) := by decide +kernel
theorem dX7_tolerance_66 : decode cX7_tolerance 66 = .ok (.iconst (-1), 1) := by decide +kernel
theorem dX7_tolerance_67 : decode cX7_tolerance 67 = .ok (.ireturn, 1) := by decide +kernel
set_option maxRecDepth 20000 in
theorem ggX7_fits_X7_isRam : GoodIn wsX7_fits wsX7_isRam := goodIn_r _ [8, 9, 10, 11, 7, 12, 92, 93, 94, 95, 96, 97, 98, 99, 100, 101, 102, 103, 104] (by decide +kernel) (by decide +kernel)
set_option maxRecDepth 20000 in
theorem gX7_fits_X7_isRam : GoodIn wsX7_fits (wsV RX7 87 RX7 yX7_isRam wsX7_isRam) := goodIn_app (goodIn_of _ (by decide +kernel)) ggX7_fits_X7_isRam
set_option maxRecDepth 20000 in
theorem ggX7_fits_X7_within : GoodIn wsX7_fits wsX7_within := goodIn_r _ [12] (by decide +kernel) (by decide +kernel)
set_option maxRecDepth 20000 in
theorem gX7_fits_X7_within : GoodIn wsX7_fits (va_wsS RX7 95 yX7_within wsX7_within) := goodIn_app (goodIn_of _ (by decide +kernel)) ggX7_fits_X7_within
set_option maxRecDepth 20000 in
theorem ggX7_fits_X1_becomeLike : GoodIn wsX7_fits wsX1_becomeLike := goodIn_r _ [17, 18, 19, 20, 21, 22, 23, 105, 106, 107, 108, 109, 110, 111, 112] (by decide +kernel) (by decide +kernel)
set_option maxRecDepth 20000 in
theorem gX7_fits_X1_becomeLike : GoodIn wsX7_fits (wsV RX7 145 RX1 yX1_becomeLike wsX1_becomeLike) := goodIn_app (goodIn_of _ (by decide +kernel)) ggX7_fits_X1_becomeLike
set_option maxRecDepth 20000 in
theorem ggX7_fits_X1_suffer : GoodIn wsX7_fits wsX1_suffer := goodIn_r _ [27, 28, 29, 30, 16, 31, 18, 23, 11, 7, 12, 105, 106, 107, 108, 109, 110, 111, 112] (by decide +kernel) (by decide +kernel)
set_option maxRecDepth 20000 in
theorem gX7_fits_X1_suffer : GoodIn wsX7_fits (wsV RX7 257 RX1 yX1_suffer wsX1_suffer) := goodIn_app (goodIn_of _ (by decide +kernel)) ggX7_fits_X1_suffer
set_option maxRecDepth 20000 in
theorem ggX7_fits_X2_agreeWith : GoodIn wsX7_fits wsX2_agreeWith := goodIn_r _ [36, 37, 38, 39, 40, 41, 16, 42, 43, 44, 45, 46, 47, 23, 48, 49, 50, 18, 51, 52, 53, 54, 55, 56, 57, 58, 59, 60, 61, 62, 63, 64, 65, 66, 67, 68, 69, 70, 71, 72, 73, 74, 75, 76, 77, 78, 79, 35, 80, 81, 82, 83, 84, 85, 86, 87, 88, 89, 90, 91, 113, 114, 115, 116, 117, 118, 105, 106, 107, 108, 109, 110, 111, 112] (by decide +kernel) (by decide +kernel)
set_option maxRecDepth 20000 in
theorem gX7_fits_X2_agreeWith : GoodIn wsX7_fits (wsV RX7 261 RX2 yX2_agreeWith wsX2_agreeWith) := goodIn_app (goodIn_of _ (by decide +kernel)) ggX7_fits_X2_agreeWith
theorem dX7_fits_0 : decode cX7_fits 0 = .ok (.aload_n 0, 1) := by decide +kernel
theorem dX7_fits_1 : decode cX7_fits 1 = .ok (.iload_n 1, 1) := by decide +kernel
theorem dX7_fits_2 : decode cX7_fits 2 = .ok (.invokevirtual 87, 3) := by decide +kernel
theorem dX7_fits_5 : decode cX7_fits 5 = .ok (.ifCond .eq 14, 3) := by decide +kernel
theorem dX7_fits_8 : decode cX7_fits 8 = .ok (.iload_n 2, 1) := by decide +kernel
theorem dX7_fits_9 : decode cX7_fits 9 = .ok (.iconst 0, 1) := by decide +kernel
theorem dX7_fits_10 : decode cX7_fits 10 = .ok (.sipush 255, 3) := by decide +kernel
theorem dX7_fits_13 : decode cX7_fits 13 = .ok (.invokestatic 95, 3) := by decide +kernel
theorem dX7_fits_16 : decode cX7_fits 16 = .ok (.ifCond .ne 5, 3) := by decide +kernel
theorem dX7_fits_19 : decode cX7_fits 19 = .ok (.iconst (-1), 1) := by decide +kernel
theorem dX7_fits_20 : decode cX7_fits 20 = .ok (.ireturn, 1) := by decide +kernel
theorem dX7_fits_21 : decode cX7_fits 21 = .ok (.aload_n 0, 1) := by decide +kernel
theorem dX7_fits_22 : decode cX7_fits 22 = .ok (.getfield 20, 3) := by decide +kernel
theorem dX7_fits_25 : decode cX7_fits 25 = .ok (.aload_n 0, 1) := by decide +kernel
theorem dX7_fits_26 : decode cX7_fits 26 = .ok (.getfield 11, 3) := by decide +kernel
theorem dX7_fits_29 : decode cX7_fits 29 = .ok (.iload_n 1, 1) := by decide +kernel
theorem dX7_fits_30 : decode cX7_fits 30 = .ok (.aaload, 1) := by decide +kernel
theorem dX7_fits_31 : decode cX7_fits 31 = .ok (.invokevirtual 145, 3) := by decide +kernel
theorem dX7_fits_34 : decode cX7_fits 34 = .ok (.aload_n 0, 1) := by decide +kernel
theorem dX7_fits_35 : decode cX7_fits 35 = .ok (.getfield 20, 3) := by decide +kernel
theorem dX7_fits_38 : decode cX7_fits 38 = .ok (.iload_n 2, 1) := by decide +kernel
theorem dX7_fits_39 : decode cX7_fits 39 = .ok (.invokevirtual 257, 3) := by decide +kernel
theorem dX7_fits_42 : decode cX7_fits 42 = .ok (.aload_n 0, 1) := by decide +kernel
theorem dX7_fits_43 : decode cX7_fits 43 = .ok (.getfield 55, 3) := by decide +kernel
theorem dX7_fits_46 : decode cX7_fits 46 = .ok (.iload_n 1, 1) := by decide +kernel
theorem dX7_fits_47 : decode cX7_fits 47 = .ok (.aload_n 0, 1) := by decide +kernel
theorem dX7_fits_48 : decode cX7_fits 48 = .ok (.getfield 20, 3) := by decide +kernel
theorem dX7_fits_51 : decode cX7_fits 51 = .ok (.invokevirtual 261, 3) := by decide +kernel
theorem dX7_fits_54 : decode cX7_fits 54 = .ok (.ifCond .eq 7, 3) := by decide +kernel
theorem dX7_fits_57 : decode cX7_fits 57 = .ok (.iconst 1, 1) := by decide +kernel
theorem dX7_fits_58 : decode cX7_fits 58 = .ok (.goto 4, 3) := by decide +kernel
theorem dX7_fits_61 : decode cX7_fits 61 = .ok (.iconst 0, 1) := by decide +kernel
theorem dX7_fits_62 : decode cX7_fits 62 = .ok (.ireturn, 1) := by decide +kernel
set_option maxRecDepth 20000 in
theorem ggX7_ails_X7_isRam : GoodIn wsX7_ails wsX7_isRam := goodIn_r _ [8, 9, 10, 11, 7, 12, 126, 127, 128, 129, 130, 131, 132, 133, 134, 135, 136, 137, 138] (by decide +kernel) (by decide +kernel)
set_option maxRecDepth 20000 in
theorem gX7_ails_X7_isRam : GoodIn wsX7_ails (wsV RX7 87 RX7 yX7_isRam wsX7_isRam) := goodIn_app (goodIn_of _ (by decide +kernel)) ggX7_ails_X7_isRam
set_option maxRecDepth 20000 in
theorem ggX7_ails_X7_within : GoodIn wsX7_ails wsX7_within := goodIn_r _ [12] (by decide +kernel) (by decide +kernel)
set_option maxRecDepth 20000 in
theorem gX7_ails_X7_within : GoodIn wsX7_ails (va_wsS RX7 95 yX7_within wsX7_within) := goodIn_app (goodIn_of _ (by decide +kernel)) ggX7_ails_X7_within
set_option maxRecDepth 20000 in
theorem ggX7_ails_X7_tryAllCauses : GoodIn wsX7_ails wsX7_tryAllCauses := goodIn_r _ [16, 1, 17, 18, 19, 20, 21, 22, 23, 24, 25, 26, 27, 28, 29, 30, 31, 32, 33, 34, 35, 36, 37, 38, 39, 40, 41, 42, 43, 44, 45, 46, 47, 48, 49, 50, 11, 7, 12, 51, 52, 53, 54, 55, 56, 57, 58, 59, 60, 61, 62, 63, 64, 65, 66, 67, 68, 69, 70, 71, 72, 73, 74, 75, 76, 77, 78, 79, 80, 81, 82, 83, 84, 85, 86, 87, 88, 89, 90, 91, 92, 93, 94, 95, 96, 97, 98, 99, 100, 101, 102, 103, 104, 105, 106, 107, 108, 109, 110, 111, 112, 113, 114, 126, 127, 128, 129, 130, 131, 132, 133, 134, 135, 136, 137, 138, 139, 140, 141, 142, 143, 144, 145, 146, 147, 148, 149, 150, 151, 152, 153, 154, 155] (by decide +kernel) (by decide +kernel)
set_option maxRecDepth 20000 in
theorem gX7_ails_X7_tryAllCauses : GoodIn wsX7_ails (wsV RX7 265 RX7 yX7_tryAllCauses wsX7_tryAllCauses) := goodIn_app (goodIn_of _ (by decide +kernel)) ggX7_ails_X7_tryAllCauses
set_option maxRecDepth 20000 in
theorem ggX7_ails_X0_nextLook : GoodIn wsX7_ails wsX0_nextLook := goodIn_r _ [118, 26, 119, 120, 121, 23, 122, 25, 123, 124, 94, 125, 139, 140, 141] (by decide +kernel) (by decide +kernel)
set_option maxRecDepth 20000 in
theorem gX7_ails_X0_nextLook : GoodIn wsX7_ails (wsV RX7 274 RX0 yX0_nextLook wsX0_nextLook) := goodIn_app (goodIn_of _ (by decide +kernel)) ggX7_ails_X0_nextLook
theorem dX7_ails_0 : decode cX7_ails 0 = .ok (.aload_n 0, 1) := by decide +kernel
theorem dX7_ails_1 : decode cX7_ails 1 = .ok (.iload_n 1, 1) := by decide +kernel
theorem dX7_ails_2 : decode cX7_ails 2 = .ok (.invokevirtual 87, 3) := by decide +kernel
theorem dX7_ails_5 : decode cX7_ails 5 = .ok (.ifCond .eq 12, 3) := by decide +kernel
theorem dX7_ails_8 : decode cX7_ails 8 = .ok (.iload_n 2, 1) := by decide +kernel
theorem dX7_ails_9 : decode cX7_ails 9 = .ok (.iconst 0, 1) := by decide +kernel
theorem dX7_ails_10 : decode cX7_ails 10 = .ok (.iconst 2, 1) := by decide +kernel
theorem dX7_ails_11 : decode cX7_ails 11 = .ok (.invokestatic 95, 3) := by decide +kernel
theorem dX7_ails_14 : decode cX7_ails 14 = .ok (.ifCond .ne 5, 3) := by decide +kernel
theorem dX7_ails_17 : decode cX7_ails 17 = .ok (.iconst (-1), 1) := by decide +kernel
theorem dX7_ails_18 : decode cX7_ails 18 = .ok (.ireturn, 1) := by decide +kernel
theorem dX7_ails_19 : decode cX7_ails 19 = .ok (.aload_n 0, 1) := by decide +kernel
theorem dX7_ails_20 : decode cX7_ails 20 = .ok (.iload_n 1, 1) := by decide +kernel
theorem dX7_ails_21 : decode cX7_ails 21 = .ok (.invokevirtual 265, 3) := by decide +kernel
theorem dX7_ails_24 : decode cX7_ails 24 = .ok (.iload_n 2, 1) := by decide +kernel
theorem dX7_ails_25 : decode cX7_ails 25 = .ok (.lookupswitch 43 #[(0, 27), (1, 35)], 27) := by decide +kernel
theorem dX7_ails_52 : decode cX7_ails 52 = .ok (.aload_n 0, 1) := by decide +kernel
theorem dX7_ails_53 : decode cX7_ails 53 = .ok (.getfield 62, 3) := by decide +kernel
theorem dX7_ails_56 : decode cX7_ails 56 = .ok (.getfield 268, 3) := by decide +kernel
theorem dX7_ails_59 : decode cX7_ails 59 = .ok (.ireturn, 1) := by decide +kernel
theorem dX7_ails_60 : decode cX7_ails 60 = .ok (.aload_n 0, 1) := by decide +kernel
theorem dX7_ails_61 : decode cX7_ails 61 = .ok (.getfield 62, 3) := by decide +kernel
theorem dX7_ails_64 : decode cX7_ails 64 = .ok (.getfield 271, 3) := by decide +kernel
theorem dX7_ails_67 : decode cX7_ails 67 = .ok (.ireturn, 1) := by decide +kernel
theorem dX7_ails_68 : decode cX7_ails 68 = .ok (.aload_n 0, 1) := by decide +kernel
theorem dX7_ails_69 : decode cX7_ails 69 = .ok (.getfield 62, 3) := by decide +kernel
theorem dX7_ails_72 : decode cX7_ails 72 = .ok (.invokevirtual 274, 3) := by decide +kernel
theorem dX7_ails_75 : decode cX7_ails 75 = .ok (.ireturn, 1) := by decide +kernel
set_option maxRecDepth 20000 in
theorem ggX7_sure_X7_isRam : GoodIn wsX7_sure wsX7_isRam := goodIn_r _ [6, 7, 8, 9, 5, 10, 117, 118, 119, 120, 121, 122, 123, 124, 125, 126, 127, 128, 129] (by decide +kernel) (by decide +kernel)
set_option maxRecDepth 20000 in
theorem gX7_sure_X7_isRam : GoodIn wsX7_sure (wsV RX7 87 RX7 yX7_isRam wsX7_isRam) := goodIn_app (goodIn_of _ (by decide +kernel)) ggX7_sure_X7_isRam
set_option maxRecDepth 20000 in
theorem ggX7_sure_X7_within : GoodIn wsX7_sure wsX7_within := goodIn_r _ [10] (by decide +kernel) (by decide +kernel)
set_option maxRecDepth 20000 in
theorem gX7_sure_X7_within : GoodIn wsX7_sure (va_wsS RX7 95 yX7_within wsX7_within) := goodIn_app (goodIn_of _ (by decide +kernel)) ggX7_sure_X7_within
set_option maxRecDepth 20000 in
theorem ggX7_sure_X7_tryAllCauses : GoodIn wsX7_sure wsX7_tryAllCauses := goodIn_r _ [14, 1, 15, 16, 17, 18, 19, 20, 21, 22, 23, 24, 25, 26, 27, 28, 29, 30, 31, 32, 33, 34, 35, 36, 37, 38, 39, 40, 41, 42, 43, 44, 45, 46, 47, 48, 9, 5, 10, 49, 50, 51, 52, 53, 54, 55, 56, 57, 58, 59, 60, 61, 62, 63, 64, 65, 66, 67, 68, 69, 70, 71, 72, 73, 74, 75, 76, 77, 78, 79, 80, 81, 82, 83, 84, 85, 86, 87, 88, 89, 90, 91, 92, 93, 94, 95, 96, 97, 98, 99, 100, 101, 102, 103, 104, 105, 106, 107, 108, 109, 110, 111, 112, 117, 118, 119, 120, 121, 122, 123, 124, 125, 126, 127, 128, 129, 130, 131, 132, 133, 134, 135, 136, 137, 138, 139, 140, 141, 142, 143, 144, 145, 146] (by decide +kernel) (by decide +kernel)
set_option maxRecDepth 20000 in
theorem gX7_sure_X7_tryAllCauses : GoodIn wsX7_sure (wsV RX7 265 RX7 yX7_tryAllCauses wsX7_tryAllCauses) := goodIn_app (goodIn_of _ (by decide +kernel)) ggX7_sure_X7_tryAllCauses
set_option maxRecDepth 20000 in
theorem ggX7_sure_X0_onlyValueOf : GoodIn wsX7_sure wsX0_onlyValueOf := goodIn_r _ [116, 24, 23, 130, 131, 132] (by decide +kernel) (by decide +kernel)
set_option maxRecDepth 20000 in
theorem gX7_sure_X0_onlyValueOf : GoodIn wsX7_sure (wsV RX7 277 RX0 yX0_onlyValueOf wsX0_onlyValueOf) := goodIn_app (goodIn_of _ (by decide +kernel)) ggX7_sure_X0_onlyValueOf
theorem dX7_sure_0 : decode cX7_sure 0 = .ok (.aload_n 0, 1) := by decide +kernel
theorem dX7_sure_1 : decode cX7_sure 1 = .ok (.iload_n 1, 1) := by decide +kernel
theorem dX7_sure_2 : decode cX7_sure 2 = .ok (.invokevirtual 87, 3) := by decide +kernel
theorem dX7_sure_5 : decode cX7_sure 5 = .ok (.ifCond .eq 12, 3) := by decide +kernel
theorem dX7_sure_8 : decode cX7_sure 8 = .ok (.iload_n 2, 1) := by decide +kernel
theorem dX7_sure_9 : decode cX7_sure 9 = .ok (.iconst 0, 1) := by decide +kernel
theorem dX7_sure_10 : decode cX7_sure 10 = .ok (.iconst 3, 1) := by decide +kernel
theorem dX7_sure_11 : decode cX7_sure 11 = .ok (.invokestatic 95, 3) := by decide +kernel
theorem dX7_sure_14 : decode cX7_sure 14 = .ok (.ifCond .ne 5, 3) := by decide +kernel
theorem dX7_sure_17 : decode cX7_sure 17 = .ok (.iconst (-1), 1) := by decide +kernel
theorem dX7_sure_18 : decode cX7_sure 18 = .ok (.ireturn, 1) := by decide +kernel
theorem dX7_sure_19 : decode cX7_sure 19 = .ok (.aload_n 0, 1) := by decide +kernel
theorem dX7_sure_20 : decode cX7_sure 20 = .ok (.iload_n 1, 1) := by decide +kernel
theorem dX7_sure_21 : decode cX7_sure 21 = .ok (.invokevirtual 265, 3) := by decide +kernel
theorem dX7_sure_24 : decode cX7_sure 24 = .ok (.aload_n 0, 1) := by decide +kernel
theorem dX7_sure_25 : decode cX7_sure 25 = .ok (.getfield 62, 3) := by decide +kernel
theorem dX7_sure_28 : decode cX7_sure 28 = .ok (.iload_n 2, 1) := by decide +kernel
theorem dX7_sure_29 : decode cX7_sure 29 = .ok (.invokevirtual 277, 3) := by decide +kernel
theorem dX7_sure_32 : decode cX7_sure 32 = .ok (.ireturn, 1) := by decide +kernel
theorem dX7_count_0 : decode cX7_count 0 = .ok (.iload_n 1, 1) := by decide +kernel
theorem dX7_count_1 : decode cX7_count 1 = .ok (.tableswitch 99 0 7 #[47, 52, 60, 68, 76, 81, 86, 91], 47) := by decide +kernel
theorem dX7_count_48 : decode cX7_count 48 = .ok (.aload_n 0, 1) := by decide +kernel
theorem dX7_count_49 : decode cX7_count 49 = .ok (.getfield 15, 3) := by decide +kernel
theorem dX7_count_52 : decode cX7_count 52 = .ok (.ireturn, 1) := by decide +kernel
theorem dX7_count_53 : decode cX7_count 53 = .ok (.aload_n 0, 1) := by decide +kernel
theorem dX7_count_54 : decode cX7_count 54 = .ok (.getfield 34, 3) := by decide +kernel
theorem dX7_count_57 : decode cX7_count 57 = .ok (.getfield 160, 3) := by decide +kernel
theorem dX7_count_60 : decode cX7_count 60 = .ok (.ireturn, 1) := by decide +kernel
theorem dX7_count_61 : decode cX7_count 61 = .ok (.aload_n 0, 1) := by decide +kernel
theorem dX7_count_62 : decode cX7_count 62 = .ok (.getfield 41, 3) := by decide +kernel
theorem dX7_count_65 : decode cX7_count 65 = .ok (.getfield 280, 3) := by decide +kernel
theorem dX7_count_68 : decode cX7_count 68 = .ok (.ireturn, 1) := by decide +kernel
theorem dX7_count_69 : decode cX7_count 69 = .ok (.aload_n 0, 1) := by decide +kernel
theorem dX7_count_70 : decode cX7_count 70 = .ok (.getfield 55, 3) := by decide +kernel
theorem dX7_count_73 : decode cX7_count 73 = .ok (.getfield 250, 3) := by decide +kernel
theorem dX7_count_76 : decode cX7_count 76 = .ok (.ireturn, 1) := by decide +kernel
theorem dX7_count_77 : decode cX7_count 77 = .ok (.aload_n 0, 1) := by decide +kernel
theorem dX7_count_78 : decode cX7_count 78 = .ok (.getfield 66, 3) := by decide +kernel
theorem dX7_count_81 : decode cX7_count 81 = .ok (.ireturn, 1) := by decide +kernel
theorem dX7_count_82 : decode cX7_count 82 = .ok (.aload_n 0, 1) := by decide +kernel
theorem dX7_count_83 : decode cX7_count 83 = .ok (.getfield 69, 3) := by decide +kernel
theorem dX7_count_86 : decode cX7_count 86 = .ok (.ireturn, 1) := by decide +kernel
theorem dX7_count_87 : decode cX7_count 87 = .ok (.aload_n 0, 1) := by decide +kernel
theorem dX7_count_88 : decode cX7_count 88 = .ok (.getfield 72, 3) := by decide +kernel
theorem dX7_count_91 : decode cX7_count 91 = .ok (.ireturn, 1) := by decide +kernel
theorem dX7_count_92 : decode cX7_count 92 = .ok (.aload_n 0, 1) := by decide +kernel
theorem dX7_count_93 : decode cX7_count 93 = .ok (.getfield 41, 3) := by decide +kernel
theorem dX7_count_96 : decode cX7_count 96 = .ok (.getfield 202, 3) := by decide +kernel
theorem dX7_count_99 : decode cX7_count 99 = .ok (.ireturn, 1) := by decide +kernel
theorem dX7_count_100 : decode cX7_count 100 = .ok (.iconst (-1), 1) := by decide +kernel
theorem dX7_count_101 : decode cX7_count 101 = .ok (.ireturn, 1) := by decide +kernel
theorem dX7_trace_0 : decode cX7_trace 0 = .ok (.aload_n 0, 1) := by decide +kernel
theorem dX7_trace_1 : decode cX7_trace 1 = .ok (.getfield 75, 3) := by decide +kernel
theorem dX7_trace_4 : decode cX7_trace 4 = .ok (.lreturn, 1) := by decide +kernel
theorem dX7_within_0 : decode cX7_within 0 = .ok (.iload_n 0, 1) := by decide +kernel
theorem dX7_within_1 : decode cX7_within 1 = .ok (.iload_n 1, 1) := by decide +kernel
theorem dX7_within_2 : decode cX7_within 2 = .ok (.if_icmp .lt 12, 3) := by decide +kernel
theorem dX7_within_5 : decode cX7_within 5 = .ok (.iload_n 0, 1) := by decide +kernel
theorem dX7_within_6 : decode cX7_within 6 = .ok (.iload_n 2, 1) := by decide +kernel
theorem dX7_within_7 : decode cX7_within 7 = .ok (.if_icmp .gt 7, 3) := by decide +kernel
theorem dX7_within_10 : decode cX7_within 10 = .ok (.iconst 1, 1) := by decide +kernel
theorem dX7_within_11 : decode cX7_within 11 = .ok (.goto 4, 3) := by decide +kernel
theorem dX7_within_14 : decode cX7_within 14 = .ok (.iconst 0, 1) := by decide +kernel
theorem dX7_within_15 : decode cX7_within 15 = .ok (.ireturn, 1) := by decide +kernel
set_option maxRecDepth 20000 in
theorem ggX7_canBe_X7_within : GoodIn wsX7_canBe wsX7_within := goodIn_r _ [6] (by decide +kernel) (by decide +kernel)
set_option maxRecDepth 20000 in
theorem gX7_canBe_X7_within : GoodIn wsX7_canBe (va_wsS RX7 95 yX7_within wsX7_within) := goodIn_app (goodIn_of _ (by decide +kernel)) ggX7_canBe_X7_within
theorem dX7_canBe_0 : decode cX7_canBe 0 = .ok (.iload_n 0, 1) := by decide +kernel
theorem dX7_canBe_1 : decode cX7_canBe 1 = .ok (.iconst 0, 1) := by decide +kernel
theorem dX7_canBe_2 : decode cX7_canBe 2 = .ok (.bipush 12, 2) := by decide +kernel
theorem dX7_canBe_4 : decode cX7_canBe 4 = .ok (.invokestatic 95, 3) := by decide +kernel
theorem dX7_canBe_7 : decode cX7_canBe 7 = .ok (.ifCond .eq 24, 3) := by decide +kernel
theorem dX7_canBe_10 : decode cX7_canBe 10 = .ok (.iload_n 1, 1) := by decide +kernel
theorem dX7_canBe_11 : decode cX7_canBe 11 = .ok (.getstatic 283, 3) := by decide +kernel
theorem dX7_canBe_14 : decode cX7_canBe 14 = .ok (.iload_n 0, 1) := by decide +kernel
theorem dX7_canBe_15 : decode cX7_canBe 15 = .ok (.iaload, 1) := by decide +kernel
theorem dX7_canBe_16 : decode cX7_canBe 16 = .ok (.getstatic 149, 3) := by decide +kernel
theorem dX7_canBe_19 : decode cX7_canBe 19 = .ok (.iload_n 0, 1) := by decide +kernel
theorem dX7_canBe_20 : decode cX7_canBe 20 = .ok (.iaload, 1) := by decide +kernel
theorem dX7_canBe_21 : decode cX7_canBe 21 = .ok (.invokestatic 95, 3) := by decide +kernel
theorem dX7_canBe_24 : decode cX7_canBe 24 = .ok (.ifCond .eq 7, 3) := by decide +kernel
theorem dX7_canBe_27 : decode cX7_canBe 27 = .ok (.iconst 1, 1) := by decide +kernel
theorem dX7_canBe_28 : decode cX7_canBe 28 = .ok (.goto 4, 3) := by decide +kernel
theorem dX7_canBe_31 : decode cX7_canBe 31 = .ok (.iconst 0, 1) := by decide +kernel
theorem dX7_canBe_32 : decode cX7_canBe 32 = .ok (.ireturn, 1) := by decide +kernel
set_option maxRecDepth 20000 in
theorem ggX7_isMonth_X7_within : GoodIn wsX7_isMonth wsX7_within := goodIn_r _ [4] (by decide +kernel) (by decide +kernel)
set_option maxRecDepth 20000 in
theorem gX7_isMonth_X7_within : GoodIn wsX7_isMonth (va_wsS RX7 95 yX7_within wsX7_within) := goodIn_app (goodIn_of _ (by decide +kernel)) ggX7_isMonth_X7_within
theorem dX7_isMonth_0 : decode cX7_isMonth 0 = .ok (.iload_n 0, 1) := by decide +kernel
theorem dX7_isMonth_1 : decode cX7_isMonth 1 = .ok (.iconst 0, 1) := by decide +kernel
theorem dX7_isMonth_2 : decode cX7_isMonth 2 = .ok (.bipush 11, 2) := by decide +kernel
theorem dX7_isMonth_4 : decode cX7_isMonth 4 = .ok (.invokestatic 95, 3) := by decide +kernel
theorem dX7_isMonth_7 : decode cX7_isMonth 7 = .ok (.ireturn, 1) := by decide +kernel
set_option maxRecDepth 20000 in
theorem ggX7_isReadable_X7_within : GoodIn wsX7_isReadable wsX7_within := goodIn_r _ [5] (by decide +kernel) (by decide +kernel)
set_option maxRecDepth 20000 in
theorem gX7_isReadable_X7_within : GoodIn wsX7_isReadable (va_wsS RX7 95 yX7_within wsX7_within) := goodIn_app (goodIn_of _ (by decide +kernel)) ggX7_isReadable_X7_within
theorem dX7_isReadable_0 : decode cX7_isReadable 0 = .ok (.iload_n 0, 1) := by decide +kernel
theorem dX7_isReadable_1 : decode cX7_isReadable 1 = .ok (.bipush (-9), 2) := by decide +kernel
theorem dX7_isReadable_3 : decode cX7_isReadable 3 = .ok (.if_icmp .eq 13, 3) := by decide +kernel
theorem dX7_isReadable_6 : decode cX7_isReadable 6 = .ok (.iload_n 0, 1) := by decide +kernel
theorem dX7_isReadable_7 : decode cX7_isReadable 7 = .ok (.iconst 0, 1) := by decide +kernel
theorem dX7_isReadable_8 : decode cX7_isReadable 8 = .ok (.ldc 141, 2) := by decide +kernel
theorem dX7_isReadable_10 : decode cX7_isReadable 10 = .ok (.invokestatic 95, 3) := by decide +kernel
theorem dX7_isReadable_13 : decode cX7_isReadable 13 = .ok (.ifCond .eq 7, 3) := by decide +kernel
theorem dX7_isReadable_16 : decode cX7_isReadable 16 = .ok (.iconst 1, 1) := by decide +kernel
theorem dX7_isReadable_17 : decode cX7_isReadable 17 = .ok (.goto 4, 3) := by decide +kernel
theorem dX7_isReadable_20 : decode cX7_isReadable 20 = .ok (.iconst 0, 1) := by decide +kernel
theorem dX7_isReadable_21 : decode cX7_isReadable 21 = .ok (.ireturn, 1) := by decide +kernel
set_option maxRecDepth 20000 in
theorem ggX7_isRam_X7_within : GoodIn wsX7_isRam wsX7_within := goodIn_r _ [5] (by decide +kernel) (by decide +kernel)
set_option maxRecDepth 20000 in
theorem gX7_isRam_X7_within : GoodIn wsX7_isRam (va_wsS RX7 95 yX7_within wsX7_within) := goodIn_app (goodIn_of _ (by decide +kernel)) ggX7_isRam_X7_within
theorem dX7_isRam_0 : decode cX7_isRam 0 = .ok (.iload_n 1, 1) := by decide +kernel
theorem dX7_isRam_1 : decode cX7_isRam 1 = .ok (.iconst 0, 1) := by decide +kernel
theorem dX7_isRam_2 : decode cX7_isRam 2 = .ok (.aload_n 0, 1) := by decide +kernel
theorem dX7_isRam_3 : decode cX7_isRam 3 = .ok (.getfield 15, 3) := by decide +kernel
theorem dX7_isRam_6 : decode cX7_isRam 6 = .ok (.iconst 1, 1) := by decide +kernel
theorem dX7_isRam_7 : decode cX7_isRam 7 = .ok (.isub, 1) := by decide +kernel
theorem dX7_isRam_8 : decode cX7_isRam 8 = .ok (.invokestatic 95, 3) := by decide +kernel
theorem dX7_isRam_11 : decode cX7_isRam 11 = .ok (.ireturn, 1) := by decide +kernel
theorem dX7_advantage_0 : decode cX7_advantage 0 = .ok (.iload_n 0, 1) := by decide +kernel
theorem dX7_advantage_1 : decode cX7_advantage 1 = .ok (.ifCond .ne 10, 3) := by decide +kernel
theorem dX7_advantage_4 : decode cX7_advantage 4 = .ok (.iload_n 1, 1) := by decide +kernel
theorem dX7_advantage_5 : decode cX7_advantage 5 = .ok (.iload_n 3, 1) := by decide +kernel
theorem dX7_advantage_6 : decode cX7_advantage 6 = .ok (.isub, 1) := by decide +kernel
theorem dX7_advantage_7 : decode cX7_advantage 7 = .ok (.i2l, 1) := by decide +kernel
theorem dX7_advantage_8 : decode cX7_advantage 8 = .ok (.goto 15, 3) := by decide +kernel
theorem dX7_advantage_11 : decode cX7_advantage 11 = .ok (.iload 4, 2) := by decide +kernel
theorem dX7_advantage_13 : decode cX7_advantage 13 = .ok (.i2l, 1) := by decide +kernel
theorem dX7_advantage_14 : decode cX7_advantage 14 = .ok (.iload_n 1, 1) := by decide +kernel
theorem dX7_advantage_15 : decode cX7_advantage 15 = .ok (.i2l, 1) := by decide +kernel
theorem dX7_advantage_16 : decode cX7_advantage 16 = .ok (.lmul, 1) := by decide +kernel
theorem dX7_advantage_17 : decode cX7_advantage 17 = .ok (.iload_n 2, 1) := by decide +kernel
theorem dX7_advantage_18 : decode cX7_advantage 18 = .ok (.i2l, 1) := by decide +kernel
theorem dX7_advantage_19 : decode cX7_advantage 19 = .ok (.iload_n 3, 1) := by decide +kernel
theorem dX7_advantage_20 : decode cX7_advantage 20 = .ok (.i2l, 1) := by decide +kernel
theorem dX7_advantage_21 : decode cX7_advantage 21 = .ok (.lmul, 1) := by decide +kernel
theorem dX7_advantage_22 : decode cX7_advantage 22 = .ok (.lsub, 1) := by decide +kernel
theorem dX7_advantage_23 : decode cX7_advantage 23 = .ok (.lreturn, 1) := by decide +kernel
set_option maxRecDepth 20000 in
theorem ggX7_runRams_X1_trait : GoodIn wsX7_runRams wsX1_trait := goodIn_r _ [12, 13, 14, 15, 16, 115, 116, 117, 118, 119, 120, 121, 122] (by decide +kernel) (by decide +kernel)
set_option maxRecDepth 20000 in
theorem gX7_runRams_X1_trait : GoodIn wsX7_runRams (wsV RX7 91 RX1 yX1_trait wsX1_trait) := goodIn_app (goodIn_of _ (by decide +kernel)) ggX7_runRams_X1_trait
set_option maxRecDepth 20000 in
theorem ggX7_runRams_X4_stop : GoodIn wsX7_runRams wsX4_stop := goodIn_r _ [21, 22, 23, 24, 25, 9, 10, 11, 12, 13, 14, 15, 16, 111, 112, 113, 114, 115, 116, 117, 118, 119, 120, 121, 122] (by decide +kernel) (by decide +kernel)
set_option maxRecDepth 20000 in
theorem gX7_runRams_X4_stop : GoodIn wsX7_runRams (wsV RX7 286 RX4 yX4_stop wsX4_stop) := goodIn_app (goodIn_of _ (by decide +kernel)) ggX7_runRams_X4_stop
set_option maxRecDepth 20000 in
theorem ggX7_runRams_X1_upAnHour : GoodIn wsX7_runRams wsX1_upAnHour := goodIn_r _ [29, 30, 31, 32, 11, 33, 34, 35, 36, 37, 38, 39, 40, 41, 42, 13, 43, 44, 45, 46, 47, 48, 49, 50, 51, 52, 53, 54, 55, 56, 57, 58, 59, 60, 61, 62, 63, 115, 116, 117, 118, 119, 120, 121, 122] (by decide +kernel) (by decide +kernel)
set_option maxRecDepth 20000 in
theorem gX7_runRams_X1_upAnHour : GoodIn wsX7_runRams (wsV RX7 132 RX1 yX1_upAnHour wsX1_upAnHour) := goodIn_app (goodIn_of _ (by decide +kernel)) ggX7_runRams_X1_upAnHour
set_option maxRecDepth 20000 in
theorem ggX7_runRams_X1_wasteAnHour : GoodIn wsX7_runRams wsX1_wasteAnHour := goodIn_r _ [67, 13, 42, 68, 69, 70, 11, 71, 40, 35, 36, 37, 38, 39, 41, 34, 43, 44, 45, 46, 47, 48, 30, 31, 32, 33, 115, 116, 117, 118, 119, 120, 121, 122] (by decide +kernel) (by decide +kernel)
set_option maxRecDepth 20000 in
theorem gX7_runRams_X1_wasteAnHour : GoodIn wsX7_runRams (wsV RX7 129 RX1 yX1_wasteAnHour wsX1_wasteAnHour) := goodIn_app (goodIn_of _ (by decide +kernel)) ggX7_runRams_X1_wasteAnHour
set_option maxRecDepth 20000 in
theorem ggX7_runRams_X5_receive : GoodIn wsX7_runRams wsX5_receive := goodIn_r _ [76, 77, 78, 79, 123, 124, 125, 126, 127, 128, 129, 130] (by decide +kernel) (by decide +kernel)
set_option maxRecDepth 20000 in
theorem gX7_runRams_X5_receive : GoodIn wsX7_runRams (wsV RX7 290 RX5 yX5_receive wsX5_receive) := goodIn_app (goodIn_of _ (by decide +kernel)) ggX7_runRams_X5_receive
set_option maxRecDepth 20000 in
theorem ggX7_runRams_X1_loseAir : GoodIn wsX7_runRams wsX1_loseAir := goodIn_r _ [83, 13, 84, 85, 62, 86, 60, 61, 63, 68, 69, 70, 11, 71, 40, 35, 36, 37, 38, 39, 41, 42, 34, 43, 44, 45, 46, 47, 48, 87, 88, 89, 90, 14, 15, 16, 115, 116, 117, 118, 119, 120, 121, 122] (by decide +kernel) (by decide +kernel)
set_option maxRecDepth 20000 in
theorem gX7_runRams_X1_loseAir : GoodIn wsX7_runRams (wsV RX7 293 RX1 yX1_loseAir wsX1_loseAir) := goodIn_app (goodIn_of _ (by decide +kernel)) ggX7_runRams_X1_loseAir
set_option maxRecDepth 20000 in
theorem ggX7_runRams_X5_spillOver : GoodIn wsX7_runRams wsX5_spillOver := goodIn_r _ [94, 77, 95, 96, 85, 62, 86, 97, 123, 124, 125, 126, 127, 128, 129, 130] (by decide +kernel) (by decide +kernel)
set_option maxRecDepth 20000 in
theorem gX7_runRams_X5_spillOver : GoodIn wsX7_runRams (wsV RX7 296 RX5 yX5_spillOver wsX5_spillOver) := goodIn_app (goodIn_of _ (by decide +kernel)) ggX7_runRams_X5_spillOver
