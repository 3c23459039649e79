theorem dX0_init_0 : decode cX0_init 0 = .ok (.aload_n 0, 1) := by decide +kernel
theorem dX0_init_1 : decode cX0_init 1 = .ok (.invokespecial 3, 3) := by decide +kernel
theorem dX0_init_4 : decode cX0_init 4 = .ok (.aload_n 0, 1) := by decide +kernel
theorem dX0_init_5 : decode cX0_init 5 = .ok (.bipush 16, 2) := by decide +kernel
theorem dX0_init_7 : decode cX0_init 7 = .ok (.newarray .int, 2) := by decide +kernel
theorem dX0_init_9 : decode cX0_init 9 = .ok (.putfield 11, 3) := by decide +kernel
theorem dX0_init_12 : decode cX0_init 12 = .ok (.aload_n 0, 1) := by decide +kernel
theorem dX0_init_13 : decode cX0_init 13 = .ok (.iconst 0, 1) := by decide +kernel
theorem dX0_init_14 : decode cX0_init 14 = .ok (.putfield 15, 3) := by decide +kernel
theorem dX0_init_17 : decode cX0_init 17 = .ok (.aload_n 0, 1) := by decide +kernel
theorem dX0_init_18 : decode cX0_init 18 = .ok (.bipush (-9), 2) := by decide +kernel
theorem dX0_init_20 : decode cX0_init 20 = .ok (.putfield 19, 3) := by decide +kernel
theorem dX0_init_23 : decode cX0_init 23 = .ok (.return_, 1) := by decide +kernel
set_option maxRecDepth 20000 in
theorem ggX0_begin_J7_fill_53178 : GoodIn wsX0_begin wsJ7_fill_53178 := goodIn_r _ [7] (by decide +kernel) (by decide +kernel)
set_option maxRecDepth 20000 in
theorem gX0_begin_J7_fill_53178 : GoodIn wsX0_begin (va_wsS RX0 22 yJ7_fill_53178 wsJ7_fill_53178) := goodIn_app (goodIn_of _ (by decide +kernel)) ggX0_begin_J7_fill_53178
theorem dX0_begin_0 : decode cX0_begin 0 = .ok (.aload_n 0, 1) := by decide +kernel
theorem dX0_begin_1 : decode cX0_begin 1 = .ok (.getfield 11, 3) := by decide +kernel
theorem dX0_begin_4 : decode cX0_begin 4 = .ok (.iconst 0, 1) := by decide +kernel
theorem dX0_begin_5 : decode cX0_begin 5 = .ok (.invokestatic 22, 3) := by decide +kernel
theorem dX0_begin_8 : decode cX0_begin 8 = .ok (.aload_n 0, 1) := by decide +kernel
theorem dX0_begin_9 : decode cX0_begin 9 = .ok (.iconst 0, 1) := by decide +kernel
theorem dX0_begin_10 : decode cX0_begin 10 = .ok (.putfield 15, 3) := by decide +kernel
theorem dX0_begin_13 : decode cX0_begin 13 = .ok (.aload_n 0, 1) := by decide +kernel
theorem dX0_begin_14 : decode cX0_begin 14 = .ok (.bipush (-9), 2) := by decide +kernel
theorem dX0_begin_16 : decode cX0_begin 16 = .ok (.putfield 19, 3) := by decide +kernel
theorem dX0_begin_19 : decode cX0_begin 19 = .ok (.return_, 1) := by decide +kernel
theorem dX0_admit_0 : decode cX0_admit 0 = .ok (.aload_n 0, 1) := by decide +kernel
theorem dX0_admit_1 : decode cX0_admit 1 = .ok (.dup, 1) := by decide +kernel
theorem dX0_admit_2 : decode cX0_admit 2 = .ok (.getfield 15, 3) := by decide +kernel
theorem dX0_admit_5 : decode cX0_admit 5 = .ok (.iconst 1, 1) := by decide +kernel
theorem dX0_admit_6 : decode cX0_admit 6 = .ok (.iadd, 1) := by decide +kernel
theorem dX0_admit_7 : decode cX0_admit 7 = .ok (.putfield 15, 3) := by decide +kernel
theorem dX0_admit_10 : decode cX0_admit 10 = .ok (.aload_n 0, 1) := by decide +kernel
theorem dX0_admit_11 : decode cX0_admit 11 = .ok (.getfield 19, 3) := by decide +kernel
theorem dX0_admit_14 : decode cX0_admit 14 = .ok (.bipush (-9), 2) := by decide +kernel
theorem dX0_admit_16 : decode cX0_admit 16 = .ok (.if_icmp .eq 11, 3) := by decide +kernel
theorem dX0_admit_19 : decode cX0_admit 19 = .ok (.iload_n 1, 1) := by decide +kernel
theorem dX0_admit_20 : decode cX0_admit 20 = .ok (.aload_n 0, 1) := by decide +kernel
theorem dX0_admit_21 : decode cX0_admit 21 = .ok (.getfield 19, 3) := by decide +kernel
theorem dX0_admit_24 : decode cX0_admit 24 = .ok (.if_icmp .ge 8, 3) := by decide +kernel
theorem dX0_admit_27 : decode cX0_admit 27 = .ok (.aload_n 0, 1) := by decide +kernel
theorem dX0_admit_28 : decode cX0_admit 28 = .ok (.iload_n 1, 1) := by decide +kernel
theorem dX0_admit_29 : decode cX0_admit 29 = .ok (.putfield 19, 3) := by decide +kernel
theorem dX0_admit_32 : decode cX0_admit 32 = .ok (.iconst 0, 1) := by decide +kernel
theorem dX0_admit_33 : decode cX0_admit 33 = .ok (.istore_n 2, 1) := by decide +kernel
theorem dX0_admit_34 : decode cX0_admit 34 = .ok (.iload_n 2, 1) := by decide +kernel
theorem dX0_admit_35 : decode cX0_admit 35 = .ok (.iconst 4, 1) := by decide +kernel
theorem dX0_admit_36 : decode cX0_admit 36 = .ok (.if_icmp .ge 29, 3) := by decide +kernel
theorem dX0_admit_39 : decode cX0_admit 39 = .ok (.aload_n 0, 1) := by decide +kernel
theorem dX0_admit_40 : decode cX0_admit 40 = .ok (.getfield 11, 3) := by decide +kernel
theorem dX0_admit_43 : decode cX0_admit 43 = .ok (.iload_n 2, 1) := by decide +kernel
theorem dX0_admit_44 : decode cX0_admit 44 = .ok (.iconst 4, 1) := by decide +kernel
theorem dX0_admit_45 : decode cX0_admit 45 = .ok (.imul, 1) := by decide +kernel
theorem dX0_admit_46 : decode cX0_admit 46 = .ok (.iload_n 1, 1) := by decide +kernel
theorem dX0_admit_47 : decode cX0_admit 47 = .ok (.iconst 2, 1) := by decide +kernel
theorem dX0_admit_48 : decode cX0_admit 48 = .ok (.iload_n 2, 1) := by decide +kernel
theorem dX0_admit_49 : decode cX0_admit 49 = .ok (.imul, 1) := by decide +kernel
theorem dX0_admit_50 : decode cX0_admit 50 = .ok (.ishr, 1) := by decide +kernel
theorem dX0_admit_51 : decode cX0_admit 51 = .ok (.iconst 3, 1) := by decide +kernel
theorem dX0_admit_52 : decode cX0_admit 52 = .ok (.iand, 1) := by decide +kernel
theorem dX0_admit_53 : decode cX0_admit 53 = .ok (.iadd, 1) := by decide +kernel
theorem dX0_admit_54 : decode cX0_admit 54 = .ok (.dup2, 1) := by decide +kernel
theorem dX0_admit_55 : decode cX0_admit 55 = .ok (.iaload, 1) := by decide +kernel
theorem dX0_admit_56 : decode cX0_admit 56 = .ok (.iconst 1, 1) := by decide +kernel
theorem dX0_admit_57 : decode cX0_admit 57 = .ok (.iadd, 1) := by decide +kernel
theorem dX0_admit_58 : decode cX0_admit 58 = .ok (.iastore, 1) := by decide +kernel
theorem dX0_admit_59 : decode cX0_admit 59 = .ok (.iinc 2 1, 3) := by decide +kernel
theorem dX0_admit_62 : decode cX0_admit 62 = .ok (.goto (-28), 3) := by decide +kernel
theorem dX0_admit_65 : decode cX0_admit 65 = .ok (.return_, 1) := by decide +kernel
theorem dX0_onlyValueOf_0 : decode cX0_onlyValueOf 0 = .ok (.iconst 0, 1) := by decide +kernel
theorem dX0_onlyValueOf_1 : decode cX0_onlyValueOf 1 = .ok (.istore_n 2, 1) := by decide +kernel
theorem dX0_onlyValueOf_2 : decode cX0_onlyValueOf 2 = .ok (.iload_n 2, 1) := by decide +kernel
theorem dX0_onlyValueOf_3 : decode cX0_onlyValueOf 3 = .ok (.iconst 4, 1) := by decide +kernel
theorem dX0_onlyValueOf_4 : decode cX0_onlyValueOf 4 = .ok (.if_icmp .ge 35, 3) := by decide +kernel
theorem dX0_onlyValueOf_7 : decode cX0_onlyValueOf 7 = .ok (.aload_n 0, 1) := by decide +kernel
theorem dX0_onlyValueOf_8 : decode cX0_onlyValueOf 8 = .ok (.getfield 15, 3) := by decide +kernel
theorem dX0_onlyValueOf_11 : decode cX0_onlyValueOf 11 = .ok (.ifCond .le 22, 3) := by decide +kernel
theorem dX0_onlyValueOf_14 : decode cX0_onlyValueOf 14 = .ok (.aload_n 0, 1) := by decide +kernel
theorem dX0_onlyValueOf_15 : decode cX0_onlyValueOf 15 = .ok (.getfield 11, 3) := by decide +kernel
theorem dX0_onlyValueOf_18 : decode cX0_onlyValueOf 18 = .ok (.iload_n 1, 1) := by decide +kernel
theorem dX0_onlyValueOf_19 : decode cX0_onlyValueOf 19 = .ok (.iconst 4, 1) := by decide +kernel
theorem dX0_onlyValueOf_20 : decode cX0_onlyValueOf 20 = .ok (.imul, 1) := by decide +kernel
theorem dX0_onlyValueOf_21 : decode cX0_onlyValueOf 21 = .ok (.iload_n 2, 1) := by decide +kernel
theorem dX0_onlyValueOf_22 : decode cX0_onlyValueOf 22 = .ok (.iadd, 1) := by decide +kernel
theorem dX0_onlyValueOf_23 : decode cX0_onlyValueOf 23 = .ok (.iaload, 1) := by decide +kernel
theorem dX0_onlyValueOf_24 : decode cX0_onlyValueOf 24 = .ok (.aload_n 0, 1) := by decide +kernel
theorem dX0_onlyValueOf_25 : decode cX0_onlyValueOf 25 = .ok (.getfield 15, 3) := by decide +kernel
theorem dX0_onlyValueOf_28 : decode cX0_onlyValueOf 28 = .ok (.if_icmp .ne 5, 3) := by decide +kernel
theorem dX0_onlyValueOf_31 : decode cX0_onlyValueOf 31 = .ok (.iload_n 2, 1) := by decide +kernel
theorem dX0_onlyValueOf_32 : decode cX0_onlyValueOf 32 = .ok (.ireturn, 1) := by decide +kernel
theorem dX0_onlyValueOf_33 : decode cX0_onlyValueOf 33 = .ok (.iinc 2 1, 3) := by decide +kernel
theorem dX0_onlyValueOf_36 : decode cX0_onlyValueOf 36 = .ok (.goto (-34), 3) := by decide +kernel
theorem dX0_onlyValueOf_39 : decode cX0_onlyValueOf 39 = .ok (.bipush (-9), 2) := by decide +kernel
theorem dX0_onlyValueOf_41 : decode cX0_onlyValueOf 41 = .ok (.ireturn, 1) := by decide +kernel
set_option maxRecDepth 20000 in
theorem ggX0_nextLook_X0_greatest : GoodIn wsX0_nextLook wsX0_greatest := goodIn_r _ [6, 7, 8, 9, 10, 11, 12, 13, 14] (by decide +kernel) (by decide +kernel)
set_option maxRecDepth 20000 in
theorem gX0_nextLook_X0_greatest : GoodIn wsX0_nextLook (wsV RX0 28 RX0 yX0_greatest wsX0_greatest) := goodIn_app (goodIn_of _ (by decide +kernel)) ggX0_nextLook_X0_greatest
theorem dX0_nextLook_0 : decode cX0_nextLook 0 = .ok (.aload_n 0, 1) := by decide +kernel
theorem dX0_nextLook_1 : decode cX0_nextLook 1 = .ok (.getfield 15, 3) := by decide +kernel
theorem dX0_nextLook_4 : decode cX0_nextLook 4 = .ok (.iconst 1, 1) := by decide +kernel
theorem dX0_nextLook_5 : decode cX0_nextLook 5 = .ok (.if_icmp .gt 6, 3) := by decide +kernel
theorem dX0_nextLook_8 : decode cX0_nextLook 8 = .ok (.bipush (-9), 2) := by decide +kernel
theorem dX0_nextLook_10 : decode cX0_nextLook 10 = .ok (.ireturn, 1) := by decide +kernel
theorem dX0_nextLook_11 : decode cX0_nextLook 11 = .ok (.iconst 0, 1) := by decide +kernel
theorem dX0_nextLook_12 : decode cX0_nextLook 12 = .ok (.istore_n 1, 1) := by decide +kernel
theorem dX0_nextLook_13 : decode cX0_nextLook 13 = .ok (.iconst 1, 1) := by decide +kernel
theorem dX0_nextLook_14 : decode cX0_nextLook 14 = .ok (.istore_n 2, 1) := by decide +kernel
theorem dX0_nextLook_15 : decode cX0_nextLook 15 = .ok (.iload_n 2, 1) := by decide +kernel
theorem dX0_nextLook_16 : decode cX0_nextLook 16 = .ok (.iconst 4, 1) := by decide +kernel
theorem dX0_nextLook_17 : decode cX0_nextLook 17 = .ok (.if_icmp .ge 24, 3) := by decide +kernel
theorem dX0_nextLook_20 : decode cX0_nextLook 20 = .ok (.aload_n 0, 1) := by decide +kernel
theorem dX0_nextLook_21 : decode cX0_nextLook 21 = .ok (.iload_n 2, 1) := by decide +kernel
theorem dX0_nextLook_22 : decode cX0_nextLook 22 = .ok (.invokevirtual 28, 3) := by decide +kernel
theorem dX0_nextLook_25 : decode cX0_nextLook 25 = .ok (.aload_n 0, 1) := by decide +kernel
theorem dX0_nextLook_26 : decode cX0_nextLook 26 = .ok (.iload_n 1, 1) := by decide +kernel
theorem dX0_nextLook_27 : decode cX0_nextLook 27 = .ok (.invokevirtual 28, 3) := by decide +kernel
theorem dX0_nextLook_30 : decode cX0_nextLook 30 = .ok (.if_icmp .ge 5, 3) := by decide +kernel
theorem dX0_nextLook_33 : decode cX0_nextLook 33 = .ok (.iload_n 2, 1) := by decide +kernel
theorem dX0_nextLook_34 : decode cX0_nextLook 34 = .ok (.istore_n 1, 1) := by decide +kernel
theorem dX0_nextLook_35 : decode cX0_nextLook 35 = .ok (.iinc 2 1, 3) := by decide +kernel
theorem dX0_nextLook_38 : decode cX0_nextLook 38 = .ok (.goto (-23), 3) := by decide +kernel
theorem dX0_nextLook_41 : decode cX0_nextLook 41 = .ok (.iload_n 1, 1) := by decide +kernel
theorem dX0_nextLook_42 : decode cX0_nextLook 42 = .ok (.ireturn, 1) := by decide +kernel
theorem dX0_greatest_0 : decode cX0_greatest 0 = .ok (.iconst 0, 1) := by decide +kernel
theorem dX0_greatest_1 : decode cX0_greatest 1 = .ok (.istore_n 2, 1) := by decide +kernel
theorem dX0_greatest_2 : decode cX0_greatest 2 = .ok (.iconst 0, 1) := by decide +kernel
theorem dX0_greatest_3 : decode cX0_greatest 3 = .ok (.istore_n 3, 1) := by decide +kernel
theorem dX0_greatest_4 : decode cX0_greatest 4 = .ok (.iload_n 3, 1) := by decide +kernel
theorem dX0_greatest_5 : decode cX0_greatest 5 = .ok (.iconst 4, 1) := by decide +kernel
theorem dX0_greatest_6 : decode cX0_greatest 6 = .ok (.if_icmp .ge 24, 3) := by decide +kernel
theorem dX0_greatest_9 : decode cX0_greatest 9 = .ok (.iload_n 2, 1) := by decide +kernel
theorem dX0_greatest_10 : decode cX0_greatest 10 = .ok (.aload_n 0, 1) := by decide +kernel
theorem dX0_greatest_11 : decode cX0_greatest 11 = .ok (.getfield 11, 3) := by decide +kernel
theorem dX0_greatest_14 : decode cX0_greatest 14 = .ok (.iload_n 1, 1) := by decide +kernel
theorem dX0_greatest_15 : decode cX0_greatest 15 = .ok (.iconst 4, 1) := by decide +kernel
theorem dX0_greatest_16 : decode cX0_greatest 16 = .ok (.imul, 1) := by decide +kernel
theorem dX0_greatest_17 : decode cX0_greatest 17 = .ok (.iload_n 3, 1) := by decide +kernel
theorem dX0_greatest_18 : decode cX0_greatest 18 = .ok (.iadd, 1) := by decide +kernel
theorem dX0_greatest_19 : decode cX0_greatest 19 = .ok (.iaload, 1) := by decide +kernel
theorem dX0_greatest_20 : decode cX0_greatest 20 = .ok (.invokestatic 32, 3) := by decide +kernel
theorem dX0_greatest_23 : decode cX0_greatest 23 = .ok (.istore_n 2, 1) := by decide +kernel
theorem dX0_greatest_24 : decode cX0_greatest 24 = .ok (.iinc 3 1, 3) := by decide +kernel
theorem dX0_greatest_27 : decode cX0_greatest 27 = .ok (.goto (-23), 3) := by decide +kernel
theorem dX0_greatest_30 : decode cX0_greatest 30 = .ok (.iload_n 2, 1) := by decide +kernel
theorem dX0_greatest_31 : decode cX0_greatest 31 = .ok (.ireturn, 1) := by decide +kernel
theorem dX1_init_0 : decode cX1_init 0 = .ok (.aload_n 0, 1) := by decide +kernel
theorem dX1_init_1 : decode cX1_init 1 = .ok (.invokespecial 3, 3) := by decide +kernel
theorem dX1_init_4 : decode cX1_init 4 = .ok (.aload_n 0, 1) := by decide +kernel
theorem dX1_init_5 : decode cX1_init 5 = .ok (.bipush 13, 2) := by decide +kernel
theorem dX1_init_7 : decode cX1_init 7 = .ok (.newarray .int, 2) := by decide +kernel
theorem dX1_init_9 : decode cX1_init 9 = .ok (.putfield 9, 3) := by decide +kernel
theorem dX1_init_12 : decode cX1_init 12 = .ok (.aload_n 0, 1) := by decide +kernel
theorem dX1_init_13 : decode cX1_init 13 = .ok (.iconst 0, 1) := by decide +kernel
theorem dX1_init_14 : decode cX1_init 14 = .ok (.putfield 15, 3) := by decide +kernel
theorem dX1_init_17 : decode cX1_init 17 = .ok (.aload_n 0, 1) := by decide +kernel
theorem dX1_init_18 : decode cX1_init 18 = .ok (.iconst 0, 1) := by decide +kernel
theorem dX1_init_19 : decode cX1_init 19 = .ok (.putfield 19, 3) := by decide +kernel
theorem dX1_init_22 : decode cX1_init 22 = .ok (.aload_n 0, 1) := by decide +kernel
theorem dX1_init_23 : decode cX1_init 23 = .ok (.iconst 0, 1) := by decide +kernel
theorem dX1_init_24 : decode cX1_init 24 = .ok (.putfield 22, 3) := by decide +kernel
theorem dX1_init_27 : decode cX1_init 27 = .ok (.aload_n 0, 1) := by decide +kernel
theorem dX1_init_28 : decode cX1_init 28 = .ok (.iconst 0, 1) := by decide +kernel
theorem dX1_init_29 : decode cX1_init 29 = .ok (.putfield 26, 3) := by decide +kernel
theorem dX1_init_32 : decode cX1_init 32 = .ok (.aload_n 0, 1) := by decide +kernel
theorem dX1_init_33 : decode cX1_init 33 = .ok (.iconst 0, 1) := by decide +kernel
theorem dX1_init_34 : decode cX1_init 34 = .ok (.putfield 29, 3) := by decide +kernel
theorem dX1_init_37 : decode cX1_init 37 = .ok (.aload_n 0, 1) := by decide +kernel
theorem dX1_init_38 : decode cX1_init 38 = .ok (.iconst 0, 1) := by decide +kernel
theorem dX1_init_39 : decode cX1_init 39 = .ok (.putfield 32, 3) := by decide +kernel
theorem dX1_init_42 : decode cX1_init 42 = .ok (.aload_n 0, 1) := by decide +kernel
theorem dX1_init_43 : decode cX1_init 43 = .ok (.iconst 0, 1) := by decide +kernel
theorem dX1_init_44 : decode cX1_init 44 = .ok (.putfield 35, 3) := by decide +kernel
theorem dX1_init_47 : decode cX1_init 47 = .ok (.getstatic 38, 3) := by decide +kernel
theorem dX1_init_50 : decode cX1_init 50 = .ok (.iconst 0, 1) := by decide +kernel
theorem dX1_init_51 : decode cX1_init 51 = .ok (.aload_n 0, 1) := by decide +kernel
theorem dX1_init_52 : decode cX1_init 52 = .ok (.getfield 9, 3) := by decide +kernel
theorem dX1_init_55 : decode cX1_init 55 = .ok (.iconst 0, 1) := by decide +kernel
theorem dX1_init_56 : decode cX1_init 56 = .ok (.bipush 13, 2) := by decide +kernel
theorem dX1_init_58 : decode cX1_init 58 = .ok (.invokestatic 41, 3) := by decide +kernel
theorem dX1_init_61 : decode cX1_init 61 = .ok (.aload_n 0, 1) := by decide +kernel
theorem dX1_init_62 : decode cX1_init 62 = .ok (.getfield 9, 3) := by decide +kernel
theorem dX1_init_65 : decode cX1_init 65 = .ok (.iconst 4, 1) := by decide +kernel
theorem dX1_init_66 : decode cX1_init 66 = .ok (.bipush 60, 2) := by decide +kernel
theorem dX1_init_68 : decode cX1_init 68 = .ok (.iastore, 1) := by decide +kernel
theorem dX1_init_69 : decode cX1_init 69 = .ok (.aload_n 0, 1) := by decide +kernel
theorem dX1_init_70 : decode cX1_init 70 = .ok (.getfield 9, 3) := by decide +kernel
theorem dX1_init_73 : decode cX1_init 73 = .ok (.iconst 5, 1) := by decide +kernel
theorem dX1_init_74 : decode cX1_init 74 = .ok (.iconst 4, 1) := by decide +kernel
theorem dX1_init_75 : decode cX1_init 75 = .ok (.iastore, 1) := by decide +kernel
theorem dX1_init_76 : decode cX1_init 76 = .ok (.aload_n 0, 1) := by decide +kernel
theorem dX1_init_77 : decode cX1_init 77 = .ok (.getfield 9, 3) := by decide +kernel
theorem dX1_init_80 : decode cX1_init 80 = .ok (.bipush 6, 2) := by decide +kernel
theorem dX1_init_82 : decode cX1_init 82 = .ok (.bipush 100, 2) := by decide +kernel
theorem dX1_init_84 : decode cX1_init 84 = .ok (.iastore, 1) := by decide +kernel
theorem dX1_init_85 : decode cX1_init 85 = .ok (.aload_n 0, 1) := by decide +kernel
theorem dX1_init_86 : decode cX1_init 86 = .ok (.getfield 9, 3) := by decide +kernel
theorem dX1_init_89 : decode cX1_init 89 = .ok (.bipush 12, 2) := by decide +kernel
theorem dX1_init_91 : decode cX1_init 91 = .ok (.iconst 1, 1) := by decide +kernel
theorem dX1_init_92 : decode cX1_init 92 = .ok (.iastore, 1) := by decide +kernel
theorem dX1_init_93 : decode cX1_init 93 = .ok (.return_, 1) := by decide +kernel
set_option maxRecDepth 20000 in
theorem ggX1_trait_X7_within : GoodIn wsX1_trait wsX7_within := goodIn_r _ [4] (by decide +kernel) (by decide +kernel)
set_option maxRecDepth 20000 in
theorem gX1_trait_X7_within_n47 : GoodIn wsX1_trait (wsX7_within) := ggX1_trait_X7_within
theorem dX1_trait_0 : decode cX1_trait 0 = .ok (.iload_n 1, 1) := by decide +kernel
theorem dX1_trait_1 : decode cX1_trait 1 = .ok (.iconst 0, 1) := by decide +kernel
theorem dX1_trait_2 : decode cX1_trait 2 = .ok (.bipush 12, 2) := by decide +kernel
theorem dX1_trait_4 : decode cX1_trait 4 = .ok (.invokestatic 47, 3) := by decide +kernel
theorem dX1_trait_7 : decode cX1_trait 7 = .ok (.ifCond .eq 12, 3) := by decide +kernel
theorem dX1_trait_10 : decode cX1_trait 10 = .ok (.aload_n 0, 1) := by decide +kernel
theorem dX1_trait_11 : decode cX1_trait 11 = .ok (.getfield 9, 3) := by decide +kernel
theorem dX1_trait_14 : decode cX1_trait 14 = .ok (.iload_n 1, 1) := by decide +kernel
theorem dX1_trait_15 : decode cX1_trait 15 = .ok (.iaload, 1) := by decide +kernel
theorem dX1_trait_16 : decode cX1_trait 16 = .ok (.goto 4, 3) := by decide +kernel
theorem dX1_trait_19 : decode cX1_trait 19 = .ok (.iconst (-1), 1) := by decide +kernel
theorem dX1_trait_20 : decode cX1_trait 20 = .ok (.ireturn, 1) := by decide +kernel
set_option maxRecDepth 20000 in
theorem ggX1_put_X7_within : GoodIn wsX1_put wsX7_within := goodIn_r _ [5] (by decide +kernel) (by decide +kernel)
set_option maxRecDepth 20000 in
theorem gX1_put_X7_within_n47 : GoodIn wsX1_put (wsX7_within) := ggX1_put_X7_within
theorem dX1_put_0 : decode cX1_put 0 = .ok (.iload_n 1, 1) := by decide +kernel
theorem dX1_put_1 : decode cX1_put 1 = .ok (.iconst 0, 1) := by decide +kernel
theorem dX1_put_2 : decode cX1_put 2 = .ok (.bipush 12, 2) := by decide +kernel
theorem dX1_put_4 : decode cX1_put 4 = .ok (.invokestatic 47, 3) := by decide +kernel
theorem dX1_put_7 : decode cX1_put 7 = .ok (.ifCond .eq 13, 3) := by decide +kernel
theorem dX1_put_10 : decode cX1_put 10 = .ok (.aload_n 0, 1) := by decide +kernel
theorem dX1_put_11 : decode cX1_put 11 = .ok (.getfield 9, 3) := by decide +kernel
theorem dX1_put_14 : decode cX1_put 14 = .ok (.iload_n 1, 1) := by decide +kernel
theorem dX1_put_15 : decode cX1_put 15 = .ok (.iaload, 1) := by decide +kernel
theorem dX1_put_16 : decode cX1_put 16 = .ok (.iload_n 2, 1) := by decide +kernel
theorem dX1_put_17 : decode cX1_put 17 = .ok (.if_icmp .ne 4, 3) := by decide +kernel
theorem dX1_put_20 : decode cX1_put 20 = .ok (.return_, 1) := by decide +kernel
theorem dX1_put_21 : decode cX1_put 21 = .ok (.aload_n 0, 1) := by decide +kernel
theorem dX1_put_22 : decode cX1_put 22 = .ok (.getfield 9, 3) := by decide +kernel
theorem dX1_put_25 : decode cX1_put 25 = .ok (.iload_n 1, 1) := by decide +kernel
theorem dX1_put_26 : decode cX1_put 26 = .ok (.iload_n 2, 1) := by decide +kernel
theorem dX1_put_27 : decode cX1_put 27 = .ok (.iastore, 1) := by decide +kernel
theorem dX1_put_28 : decode cX1_put 28 = .ok (.iload_n 1, 1) := by decide +kernel
theorem dX1_put_29 : decode cX1_put 29 = .ok (.bipush 6, 2) := by decide +kernel
theorem dX1_put_31 : decode cX1_put 31 = .ok (.if_icmp .eq 14, 3) := by decide +kernel
theorem dX1_put_34 : decode cX1_put 34 = .ok (.iload_n 1, 1) := by decide +kernel
theorem dX1_put_35 : decode cX1_put 35 = .ok (.bipush 9, 2) := by decide +kernel
theorem dX1_put_37 : decode cX1_put 37 = .ok (.if_icmp .eq 8, 3) := by decide +kernel
theorem dX1_put_40 : decode cX1_put 40 = .ok (.aload_n 0, 1) := by decide +kernel
theorem dX1_put_41 : decode cX1_put 41 = .ok (.iconst 0, 1) := by decide +kernel
theorem dX1_put_42 : decode cX1_put 42 = .ok (.putfield 15, 3) := by decide +kernel
theorem dX1_put_45 : decode cX1_put 45 = .ok (.return_, 1) := by decide +kernel
theorem dX1_becomeLike_0 : decode cX1_becomeLike 0 = .ok (.aload_n 1, 1) := by decide +kernel
theorem dX1_becomeLike_1 : decode cX1_becomeLike 1 = .ok (.getfield 9, 3) := by decide +kernel
theorem dX1_becomeLike_4 : decode cX1_becomeLike 4 = .ok (.iconst 0, 1) := by decide +kernel
theorem dX1_becomeLike_5 : decode cX1_becomeLike 5 = .ok (.aload_n 0, 1) := by decide +kernel
theorem dX1_becomeLike_6 : decode cX1_becomeLike 6 = .ok (.getfield 9, 3) := by decide +kernel
theorem dX1_becomeLike_9 : decode cX1_becomeLike 9 = .ok (.iconst 0, 1) := by decide +kernel
theorem dX1_becomeLike_10 : decode cX1_becomeLike 10 = .ok (.bipush 13, 2) := by decide +kernel
theorem dX1_becomeLike_12 : decode cX1_becomeLike 12 = .ok (.invokestatic 41, 3) := by decide +kernel
theorem dX1_becomeLike_15 : decode cX1_becomeLike 15 = .ok (.aload_n 0, 1) := by decide +kernel
theorem dX1_becomeLike_16 : decode cX1_becomeLike 16 = .ok (.iconst 0, 1) := by decide +kernel
theorem dX1_becomeLike_17 : decode cX1_becomeLike 17 = .ok (.putfield 15, 3) := by decide +kernel
theorem dX1_becomeLike_20 : decode cX1_becomeLike 20 = .ok (.return_, 1) := by decide +kernel
set_option maxRecDepth 20000 in
theorem ggX1_suffer_X1_put : GoodIn wsX1_suffer wsX1_put := goodIn_r _ [5, 6, 7, 8, 9, 10, 11, 12, 13, 14, 15, 16, 17, 18] (by decide +kernel) (by decide +kernel)
set_option maxRecDepth 20000 in
theorem gX1_suffer_X1_put : GoodIn wsX1_suffer (wsV RX1 51 RX1 yX1_put wsX1_put) := goodIn_app (goodIn_of _ (by decide +kernel)) ggX1_suffer_X1_put
theorem dX1_suffer_0 : decode cX1_suffer 0 = .ok (.aload_n 0, 1) := by decide +kernel
theorem dX1_suffer_1 : decode cX1_suffer 1 = .ok (.bipush 7, 2) := by decide +kernel
theorem dX1_suffer_3 : decode cX1_suffer 3 = .ok (.iload_n 1, 1) := by decide +kernel
theorem dX1_suffer_4 : decode cX1_suffer 4 = .ok (.iconst 3, 1) := by decide +kernel
theorem dX1_suffer_5 : decode cX1_suffer 5 = .ok (.iand, 1) := by decide +kernel
theorem dX1_suffer_6 : decode cX1_suffer 6 = .ok (.invokevirtual 51, 3) := by decide +kernel
theorem dX1_suffer_9 : decode cX1_suffer 9 = .ok (.aload_n 0, 1) := by decide +kernel
theorem dX1_suffer_10 : decode cX1_suffer 10 = .ok (.bipush 8, 2) := by decide +kernel
theorem dX1_suffer_12 : decode cX1_suffer 12 = .ok (.iload_n 1, 1) := by decide +kernel
theorem dX1_suffer_13 : decode cX1_suffer 13 = .ok (.iconst 2, 1) := by decide +kernel
theorem dX1_suffer_14 : decode cX1_suffer 14 = .ok (.ishr, 1) := by decide +kernel
theorem dX1_suffer_15 : decode cX1_suffer 15 = .ok (.iconst 3, 1) := by decide +kernel
theorem dX1_suffer_16 : decode cX1_suffer 16 = .ok (.iand, 1) := by decide +kernel
theorem dX1_suffer_17 : decode cX1_suffer 17 = .ok (.invokevirtual 51, 3) := by decide +kernel
theorem dX1_suffer_20 : decode cX1_suffer 20 = .ok (.aload_n 0, 1) := by decide +kernel
theorem dX1_suffer_21 : decode cX1_suffer 21 = .ok (.bipush 9, 2) := by decide +kernel
theorem dX1_suffer_23 : decode cX1_suffer 23 = .ok (.iload_n 1, 1) := by decide +kernel
theorem dX1_suffer_24 : decode cX1_suffer 24 = .ok (.iconst 4, 1) := by decide +kernel
theorem dX1_suffer_25 : decode cX1_suffer 25 = .ok (.ishr, 1) := by decide +kernel
theorem dX1_suffer_26 : decode cX1_suffer 26 = .ok (.iconst 3, 1) := by decide +kernel
theorem dX1_suffer_27 : decode cX1_suffer 27 = .ok (.iand, 1) := by decide +kernel
theorem dX1_suffer_28 : decode cX1_suffer 28 = .ok (.invokevirtual 51, 3) := by decide +kernel
theorem dX1_suffer_31 : decode cX1_suffer 31 = .ok (.aload_n 0, 1) := by decide +kernel
theorem dX1_suffer_32 : decode cX1_suffer 32 = .ok (.bipush 6, 2) := by decide +kernel
theorem dX1_suffer_34 : decode cX1_suffer 34 = .ok (.getstatic 55, 3) := by decide +kernel
theorem dX1_suffer_37 : decode cX1_suffer 37 = .ok (.iload_n 1, 1) := by decide +kernel
theorem dX1_suffer_38 : decode cX1_suffer 38 = .ok (.bipush 6, 2) := by decide +kernel
theorem dX1_suffer_40 : decode cX1_suffer 40 = .ok (.ishr, 1) := by decide +kernel
theorem dX1_suffer_41 : decode cX1_suffer 41 = .ok (.iconst 3, 1) := by decide +kernel
theorem dX1_suffer_42 : decode cX1_suffer 42 = .ok (.iand, 1) := by decide +kernel
theorem dX1_suffer_43 : decode cX1_suffer 43 = .ok (.iaload, 1) := by decide +kernel
theorem dX1_suffer_44 : decode cX1_suffer 44 = .ok (.invokevirtual 51, 3) := by decide +kernel
theorem dX1_suffer_47 : decode cX1_suffer 47 = .ok (.return_, 1) := by decide +kernel
theorem dX1_workBy_0 : decode cX1_workBy 0 = .ok (.bipush 40, 2) := by decide +kernel
theorem dX1_workBy_2 : decode cX1_workBy 2 = .ok (.aload_n 0, 1) := by decide +kernel
theorem dX1_workBy_3 : decode cX1_workBy 3 = .ok (.getfield 9, 3) := by decide +kernel
theorem dX1_workBy_6 : decode cX1_workBy 6 = .ok (.bipush 6, 2) := by decide +kernel
theorem dX1_workBy_8 : decode cX1_workBy 8 = .ok (.iaload, 1) := by decide +kernel
theorem dX1_workBy_9 : decode cX1_workBy 9 = .ok (.iconst 4, 1) := by decide +kernel
theorem dX1_workBy_10 : decode cX1_workBy 10 = .ok (.idiv, 1) := by decide +kernel
theorem dX1_workBy_11 : decode cX1_workBy 11 = .ok (.iadd, 1) := by decide +kernel
theorem dX1_workBy_12 : decode cX1_workBy 12 = .ok (.iconst 3, 1) := by decide +kernel
theorem dX1_workBy_13 : decode cX1_workBy 13 = .ok (.aload_n 0, 1) := by decide +kernel
theorem dX1_workBy_14 : decode cX1_workBy 14 = .ok (.getfield 9, 3) := by decide +kernel
theorem dX1_workBy_17 : decode cX1_workBy 17 = .ok (.bipush 7, 2) := by decide +kernel
theorem dX1_workBy_19 : decode cX1_workBy 19 = .ok (.iaload, 1) := by decide +kernel
theorem dX1_workBy_20 : decode cX1_workBy 20 = .ok (.imul, 1) := by decide +kernel
theorem dX1_workBy_21 : decode cX1_workBy 21 = .ok (.isub, 1) := by decide +kernel
theorem dX1_workBy_22 : decode cX1_workBy 22 = .ok (.istore_n 2, 1) := by decide +kernel
theorem dX1_workBy_23 : decode cX1_workBy 23 = .ok (.iload_n 1, 1) := by decide +kernel
theorem dX1_workBy_24 : decode cX1_workBy 24 = .ok (.iconst 1, 1) := by decide +kernel
theorem dX1_workBy_25 : decode cX1_workBy 25 = .ok (.if_icmp .lt 13, 3) := by decide +kernel
theorem dX1_workBy_28 : decode cX1_workBy 28 = .ok (.iload_n 2, 1) := by decide +kernel
theorem dX1_workBy_29 : decode cX1_workBy 29 = .ok (.bipush 8, 2) := by decide +kernel
theorem dX1_workBy_31 : decode cX1_workBy 31 = .ok (.iadd, 1) := by decide +kernel
theorem dX1_workBy_32 : decode cX1_workBy 32 = .ok (.bipush 80, 2) := by decide +kernel
theorem dX1_workBy_34 : decode cX1_workBy 34 = .ok (.invokestatic 58, 3) := by decide +kernel
theorem dX1_workBy_37 : decode cX1_workBy 37 = .ok (.istore_n 2, 1) := by decide +kernel
theorem dX1_workBy_38 : decode cX1_workBy 38 = .ok (.iload_n 1, 1) := by decide +kernel
theorem dX1_workBy_39 : decode cX1_workBy 39 = .ok (.iconst 2, 1) := by decide +kernel
theorem dX1_workBy_40 : decode cX1_workBy 40 = .ok (.if_icmp .lt 25, 3) := by decide +kernel
theorem dX1_workBy_43 : decode cX1_workBy 43 = .ok (.iload_n 2, 1) := by decide +kernel
theorem dX1_workBy_44 : decode cX1_workBy 44 = .ok (.iload_n 2, 1) := by decide +kernel
theorem dX1_workBy_45 : decode cX1_workBy 45 = .ok (.bipush 10, 2) := by decide +kernel
theorem dX1_workBy_47 : decode cX1_workBy 47 = .ok (.idiv, 1) := by decide +kernel
theorem dX1_workBy_48 : decode cX1_workBy 48 = .ok (.iadd, 1) := by decide +kernel
theorem dX1_workBy_49 : decode cX1_workBy 49 = .ok (.bipush 85, 2) := by decide +kernel
theorem dX1_workBy_51 : decode cX1_workBy 51 = .ok (.invokestatic 58, 3) := by decide +kernel
theorem dX1_workBy_54 : decode cX1_workBy 54 = .ok (.iconst 2, 1) := by decide +kernel
theorem dX1_workBy_55 : decode cX1_workBy 55 = .ok (.aload_n 0, 1) := by decide +kernel
theorem dX1_workBy_56 : decode cX1_workBy 56 = .ok (.getfield 9, 3) := by decide +kernel
theorem dX1_workBy_59 : decode cX1_workBy 59 = .ok (.bipush 8, 2) := by decide +kernel
theorem dX1_workBy_61 : decode cX1_workBy 61 = .ok (.iaload, 1) := by decide +kernel
theorem dX1_workBy_62 : decode cX1_workBy 62 = .ok (.imul, 1) := by decide +kernel
theorem dX1_workBy_63 : decode cX1_workBy 63 = .ok (.isub, 1) := by decide +kernel
theorem dX1_workBy_64 : decode cX1_workBy 64 = .ok (.istore_n 2, 1) := by decide +kernel
theorem dX1_workBy_65 : decode cX1_workBy 65 = .ok (.iload_n 2, 1) := by decide +kernel
theorem dX1_workBy_66 : decode cX1_workBy 66 = .ok (.ireturn, 1) := by decide +kernel
set_option maxRecDepth 20000 in
theorem ggX1_stalls_X1_reckon : GoodIn wsX1_stalls wsX1_reckon := goodIn_r _ [6, 7, 1, 8, 9, 10, 11, 12, 13, 14, 15, 16, 5, 17, 18, 19, 20, 21, 22, 23, 24, 25] (by decide +kernel) (by decide +kernel)
set_option maxRecDepth 20000 in
theorem gX1_stalls_X1_reckon : GoodIn wsX1_stalls (wsV RX1 64 RX1 yX1_reckon wsX1_reckon) := goodIn_app (goodIn_of _ (by decide +kernel)) ggX1_stalls_X1_reckon
theorem dX1_stalls_0 : decode cX1_stalls 0 = .ok (.aload_n 0, 1) := by decide +kernel
theorem dX1_stalls_1 : decode cX1_stalls 1 = .ok (.invokevirtual 64, 3) := by decide +kernel
theorem dX1_stalls_4 : decode cX1_stalls 4 = .ok (.aload_n 0, 1) := by decide +kernel
theorem dX1_stalls_5 : decode cX1_stalls 5 = .ok (.getfield 19, 3) := by decide +kernel
theorem dX1_stalls_8 : decode cX1_stalls 8 = .ok (.ireturn, 1) := by decide +kernel
set_option maxRecDepth 20000 in
theorem ggX1_shutTick_X1_reckon : GoodIn wsX1_shutTick wsX1_reckon := goodIn_r _ [6, 7, 8, 9, 10, 11, 12, 1, 13, 14, 15, 16, 5, 17, 18, 19, 20, 21, 22, 23, 24, 25] (by decide +kernel) (by decide +kernel)
set_option maxRecDepth 20000 in
theorem gX1_shutTick_X1_reckon : GoodIn wsX1_shutTick (wsV RX1 64 RX1 yX1_reckon wsX1_reckon) := goodIn_app (goodIn_of _ (by decide +kernel)) ggX1_shutTick_X1_reckon
theorem dX1_shutTick_0 : decode cX1_shutTick 0 = .ok (.aload_n 0, 1) := by decide +kernel
theorem dX1_shutTick_1 : decode cX1_shutTick 1 = .ok (.invokevirtual 64, 3) := by decide +kernel
theorem dX1_shutTick_4 : decode cX1_shutTick 4 = .ok (.aload_n 0, 1) := by decide +kernel
theorem dX1_shutTick_5 : decode cX1_shutTick 5 = .ok (.getfield 22, 3) := by decide +kernel
theorem dX1_shutTick_8 : decode cX1_shutTick 8 = .ok (.ireturn, 1) := by decide +kernel
set_option maxRecDepth 20000 in
theorem ggX1_shutSpeed_X1_reckon : GoodIn wsX1_shutSpeed wsX1_reckon := goodIn_r _ [6, 7, 8, 1, 9, 10, 11, 12, 13, 14, 15, 16, 5, 17, 18, 19, 20, 21, 22, 23, 24, 25] (by decide +kernel) (by decide +kernel)
set_option maxRecDepth 20000 in
theorem gX1_shutSpeed_X1_reckon : GoodIn wsX1_shutSpeed (wsV RX1 64 RX1 yX1_reckon wsX1_reckon) := goodIn_app (goodIn_of _ (by decide +kernel)) ggX1_shutSpeed_X1_reckon
theorem dX1_shutSpeed_0 : decode cX1_shutSpeed 0 = .ok (.aload_n 0, 1) := by decide +kernel
theorem dX1_shutSpeed_1 : decode cX1_shutSpeed 1 = .ok (.invokevirtual 64, 3) := by decide +kernel
theorem dX1_shutSpeed_4 : decode cX1_shutSpeed 4 = .ok (.aload_n 0, 1) := by decide +kernel
theorem dX1_shutSpeed_5 : decode cX1_shutSpeed 5 = .ok (.getfield 26, 3) := by decide +kernel
theorem dX1_shutSpeed_8 : decode cX1_shutSpeed 8 = .ok (.ireturn, 1) := by decide +kernel
set_option maxRecDepth 20000 in
theorem ggX1_wasteOfBeat_X1_reckon : GoodIn wsX1_wasteOfBeat wsX1_reckon := goodIn_r _ [6, 7, 8, 9, 1, 10, 11, 12, 13, 14, 15, 16, 5, 17, 18, 19, 20, 21, 22, 23, 24, 25] (by decide +kernel) (by decide +kernel)
set_option maxRecDepth 20000 in
theorem gX1_wasteOfBeat_X1_reckon : GoodIn wsX1_wasteOfBeat (wsV RX1 64 RX1 yX1_reckon wsX1_reckon) := goodIn_app (goodIn_of _ (by decide +kernel)) ggX1_wasteOfBeat_X1_reckon
theorem dX1_wasteOfBeat_0 : decode cX1_wasteOfBeat 0 = .ok (.aload_n 0, 1) := by decide +kernel
theorem dX1_wasteOfBeat_1 : decode cX1_wasteOfBeat 1 = .ok (.invokevirtual 64, 3) := by decide +kernel
theorem dX1_wasteOfBeat_4 : decode cX1_wasteOfBeat 4 = .ok (.aload_n 0, 1) := by decide +kernel
theorem dX1_wasteOfBeat_5 : decode cX1_wasteOfBeat 5 = .ok (.getfield 29, 3) := by decide +kernel
theorem dX1_wasteOfBeat_8 : decode cX1_wasteOfBeat 8 = .ok (.ireturn, 1) := by decide +kernel
set_option maxRecDepth 20000 in
theorem ggX1_upOfBeat_X1_reckon : GoodIn wsX1_upOfBeat wsX1_reckon := goodIn_r _ [12, 13, 1, 2, 4, 14, 3, 15, 16, 17, 18, 19, 11, 20, 29, 30, 31, 32, 33, 34, 35, 36] (by decide +kernel) (by decide +kernel)
set_option maxRecDepth 20000 in
theorem gX1_upOfBeat_X1_reckon : GoodIn wsX1_upOfBeat (wsV RX1 64 RX1 yX1_reckon wsX1_reckon) := goodIn_app (goodIn_of _ (by decide +kernel)) ggX1_upOfBeat_X1_reckon
set_option maxRecDepth 20000 in
theorem ggX1_upOfBeat_X1_workBy : GoodIn wsX1_upOfBeat wsX1_workBy := goodIn_r _ [24, 3, 25, 26, 27, 28, 29, 30, 31, 32, 33, 34, 35, 36] (by decide +kernel) (by decide +kernel)
set_option maxRecDepth 20000 in
theorem gX1_upOfBeat_X1_workBy : GoodIn wsX1_upOfBeat (wsV RX1 67 RX1 yX1_workBy wsX1_workBy) := goodIn_app (goodIn_of _ (by decide +kernel)) ggX1_upOfBeat_X1_workBy
set_option maxRecDepth 20000 in
theorem ggX1_upOfBeat_X1_share : GoodIn wsX1_upOfBeat wsX1_share := goodIn_r _ [20] (by decide +kernel) (by decide +kernel)
set_option maxRecDepth 20000 in
theorem gX1_upOfBeat_X1_share : GoodIn wsX1_upOfBeat (va_wsS RX1 73 yX1_share wsX1_share) := goodIn_app (goodIn_of _ (by decide +kernel)) ggX1_upOfBeat_X1_share
theorem dX1_upOfBeat_0 : decode cX1_upOfBeat 0 = .ok (.aload_n 0, 1) := by decide +kernel
theorem dX1_upOfBeat_1 : decode cX1_upOfBeat 1 = .ok (.invokevirtual 64, 3) := by decide +kernel
theorem dX1_upOfBeat_4 : decode cX1_upOfBeat 4 = .ok (.aload_n 0, 1) := by decide +kernel
theorem dX1_upOfBeat_5 : decode cX1_upOfBeat 5 = .ok (.getfield 19, 3) := by decide +kernel
theorem dX1_upOfBeat_8 : decode cX1_upOfBeat 8 = .ok (.ifCond .ne 19, 3) := by decide +kernel
theorem dX1_upOfBeat_11 : decode cX1_upOfBeat 11 = .ok (.aload_n 0, 1) := by decide +kernel
theorem dX1_upOfBeat_12 : decode cX1_upOfBeat 12 = .ok (.getfield 26, 3) := by decide +kernel
theorem dX1_upOfBeat_15 : decode cX1_upOfBeat 15 = .ok (.aload_n 0, 1) := by decide +kernel
theorem dX1_upOfBeat_16 : decode cX1_upOfBeat 16 = .ok (.getfield 9, 3) := by decide +kernel
theorem dX1_upOfBeat_19 : decode cX1_upOfBeat 19 = .ok (.iconst 1, 1) := by decide +kernel
theorem dX1_upOfBeat_20 : decode cX1_upOfBeat 20 = .ok (.iaload, 1) := by decide +kernel
theorem dX1_upOfBeat_21 : decode cX1_upOfBeat 21 = .ok (.bipush 20, 2) := by decide +kernel
theorem dX1_upOfBeat_23 : decode cX1_upOfBeat 23 = .ok (.idiv, 1) := by decide +kernel
theorem dX1_upOfBeat_24 : decode cX1_upOfBeat 24 = .ok (.if_icmp .ge 5, 3) := by decide +kernel
theorem dX1_upOfBeat_27 : decode cX1_upOfBeat 27 = .ok (.iconst 0, 1) := by decide +kernel
theorem dX1_upOfBeat_28 : decode cX1_upOfBeat 28 = .ok (.ireturn, 1) := by decide +kernel
theorem dX1_upOfBeat_29 : decode cX1_upOfBeat 29 = .ok (.aload_n 0, 1) := by decide +kernel
theorem dX1_upOfBeat_30 : decode cX1_upOfBeat 30 = .ok (.getfield 29, 3) := by decide +kernel
theorem dX1_upOfBeat_33 : decode cX1_upOfBeat 33 = .ok (.i2l, 1) := by decide +kernel
theorem dX1_upOfBeat_34 : decode cX1_upOfBeat 34 = .ok (.aload_n 0, 1) := by decide +kernel
theorem dX1_upOfBeat_35 : decode cX1_upOfBeat 35 = .ok (.getfield 9, 3) := by decide +kernel
theorem dX1_upOfBeat_38 : decode cX1_upOfBeat 38 = .ok (.iconst 0, 1) := by decide +kernel
theorem dX1_upOfBeat_39 : decode cX1_upOfBeat 39 = .ok (.iaload, 1) := by decide +kernel
theorem dX1_upOfBeat_40 : decode cX1_upOfBeat 40 = .ok (.i2l, 1) := by decide +kernel
theorem dX1_upOfBeat_41 : decode cX1_upOfBeat 41 = .ok (.lmul, 1) := by decide +kernel
theorem dX1_upOfBeat_42 : decode cX1_upOfBeat 42 = .ok (.aload_n 0, 1) := by decide +kernel
theorem dX1_upOfBeat_43 : decode cX1_upOfBeat 43 = .ok (.aload_n 0, 1) := by decide +kernel
theorem dX1_upOfBeat_44 : decode cX1_upOfBeat 44 = .ok (.getfield 9, 3) := by decide +kernel
theorem dX1_upOfBeat_47 : decode cX1_upOfBeat 47 = .ok (.bipush 10, 2) := by decide +kernel
theorem dX1_upOfBeat_49 : decode cX1_upOfBeat 49 = .ok (.iaload, 1) := by decide +kernel
theorem dX1_upOfBeat_50 : decode cX1_upOfBeat 50 = .ok (.invokevirtual 67, 3) := by decide +kernel
theorem dX1_upOfBeat_53 : decode cX1_upOfBeat 53 = .ok (.i2l, 1) := by decide +kernel
theorem dX1_upOfBeat_54 : decode cX1_upOfBeat 54 = .ok (.lmul, 1) := by decide +kernel
theorem dX1_upOfBeat_55 : decode cX1_upOfBeat 55 = .ok (.ldc2_w 71, 3) := by decide +kernel
theorem dX1_upOfBeat_58 : decode cX1_upOfBeat 58 = .ok (.aload_n 0, 1) := by decide +kernel
theorem dX1_upOfBeat_59 : decode cX1_upOfBeat 59 = .ok (.getfield 9, 3) := by decide +kernel
theorem dX1_upOfBeat_62 : decode cX1_upOfBeat 62 = .ok (.iconst 1, 1) := by decide +kernel
theorem dX1_upOfBeat_63 : decode cX1_upOfBeat 63 = .ok (.iaload, 1) := by decide +kernel
theorem dX1_upOfBeat_64 : decode cX1_upOfBeat 64 = .ok (.i2l, 1) := by decide +kernel
theorem dX1_upOfBeat_65 : decode cX1_upOfBeat 65 = .ok (.lmul, 1) := by decide +kernel
theorem dX1_upOfBeat_66 : decode cX1_upOfBeat 66 = .ok (.invokestatic 73, 3) := by decide +kernel
theorem dX1_upOfBeat_69 : decode cX1_upOfBeat 69 = .ok (.lstore_n 1, 1) := by decide +kernel
theorem dX1_upOfBeat_70 : decode cX1_upOfBeat 70 = .ok (.lload_n 1, 1) := by decide +kernel
theorem dX1_upOfBeat_71 : decode cX1_upOfBeat 71 = .ok (.aload_n 0, 1) := by decide +kernel
theorem dX1_upOfBeat_72 : decode cX1_upOfBeat 72 = .ok (.getfield 9, 3) := by decide +kernel
theorem dX1_upOfBeat_75 : decode cX1_upOfBeat 75 = .ok (.bipush 9, 2) := by decide +kernel
theorem dX1_upOfBeat_77 : decode cX1_upOfBeat 77 = .ok (.iaload, 1) := by decide +kernel
theorem dX1_upOfBeat_78 : decode cX1_upOfBeat 78 = .ok (.i2l, 1) := by decide +kernel
theorem dX1_upOfBeat_79 : decode cX1_upOfBeat 79 = .ok (.lmul, 1) := by decide +kernel
theorem dX1_upOfBeat_80 : decode cX1_upOfBeat 80 = .ok (.ldc2_w 77, 3) := by decide +kernel
theorem dX1_upOfBeat_83 : decode cX1_upOfBeat 83 = .ok (.ladd, 1) := by decide +kernel
theorem dX1_upOfBeat_84 : decode cX1_upOfBeat 84 = .ok (.ldc2_w 79, 3) := by decide +kernel
theorem dX1_upOfBeat_87 : decode cX1_upOfBeat 87 = .ok (.ldiv, 1) := by decide +kernel
theorem dX1_upOfBeat_88 : decode cX1_upOfBeat 88 = .ok (.lstore_n 3, 1) := by decide +kernel
theorem dX1_upOfBeat_89 : decode cX1_upOfBeat 89 = .ok (.lload_n 1, 1) := by decide +kernel
theorem dX1_upOfBeat_90 : decode cX1_upOfBeat 90 = .ok (.lload_n 3, 1) := by decide +kernel
theorem dX1_upOfBeat_91 : decode cX1_upOfBeat 91 = .ok (.lsub, 1) := by decide +kernel
theorem dX1_upOfBeat_92 : decode cX1_upOfBeat 92 = .ok (.l2i, 1) := by decide +kernel
theorem dX1_upOfBeat_93 : decode cX1_upOfBeat 93 = .ok (.ireturn, 1) := by decide +kernel
set_option maxRecDepth 20000 in
theorem ggX1_spanOfBeat_X1_reckon : GoodIn wsX1_spanOfBeat wsX1_reckon := goodIn_r _ [6, 7, 8, 9, 10, 11, 12, 13, 1, 14, 15, 16, 5, 17, 18, 19, 20, 21, 22, 23, 24, 25] (by decide +kernel) (by decide +kernel)
set_option maxRecDepth 20000 in
theorem gX1_spanOfBeat_X1_reckon : GoodIn wsX1_spanOfBeat (wsV RX1 64 RX1 yX1_reckon wsX1_reckon) := goodIn_app (goodIn_of _ (by decide +kernel)) ggX1_spanOfBeat_X1_reckon
theorem dX1_spanOfBeat_0 : decode cX1_spanOfBeat 0 = .ok (.aload_n 0, 1) := by decide +kernel
theorem dX1_spanOfBeat_1 : decode cX1_spanOfBeat 1 = .ok (.invokevirtual 64, 3) := by decide +kernel
theorem dX1_spanOfBeat_4 : decode cX1_spanOfBeat 4 = .ok (.aload_n 0, 1) := by decide +kernel
theorem dX1_spanOfBeat_5 : decode cX1_spanOfBeat 5 = .ok (.getfield 32, 3) := by decide +kernel
theorem dX1_spanOfBeat_8 : decode cX1_spanOfBeat 8 = .ok (.ireturn, 1) := by decide +kernel
set_option maxRecDepth 20000 in
theorem ggX1_beatsAnHour_X1_reckon : GoodIn wsX1_beatsAnHour wsX1_reckon := goodIn_r _ [6, 7, 8, 9, 10, 1, 11, 12, 13, 14, 15, 16, 5, 17, 18, 19, 20, 21, 22, 23, 24, 25] (by decide +kernel) (by decide +kernel)
set_option maxRecDepth 20000 in
theorem gX1_beatsAnHour_X1_reckon : GoodIn wsX1_beatsAnHour (wsV RX1 64 RX1 yX1_reckon wsX1_reckon) := goodIn_app (goodIn_of _ (by decide +kernel)) ggX1_beatsAnHour_X1_reckon
theorem dX1_beatsAnHour_0 : decode cX1_beatsAnHour 0 = .ok (.aload_n 0, 1) := by decide +kernel
theorem dX1_beatsAnHour_1 : decode cX1_beatsAnHour 1 = .ok (.invokevirtual 64, 3) := by decide +kernel
theorem dX1_beatsAnHour_4 : decode cX1_beatsAnHour 4 = .ok (.aload_n 0, 1) := by decide +kernel
theorem dX1_beatsAnHour_5 : decode cX1_beatsAnHour 5 = .ok (.getfield 35, 3) := by decide +kernel
theorem dX1_beatsAnHour_8 : decode cX1_beatsAnHour 8 = .ok (.ireturn, 1) := by decide +kernel
set_option maxRecDepth 20000 in
theorem ggX1_wasteAnHour_X1_stalls : GoodIn wsX1_wasteAnHour wsX1_stalls := goodIn_r _ [7, 8, 9, 10, 11, 6, 12, 13, 14, 2, 15, 1, 16, 17, 18, 19, 20, 21, 26, 27, 28, 29, 30, 31, 32, 33] (by decide +kernel) (by decide +kernel)
set_option maxRecDepth 20000 in
theorem gX1_wasteAnHour_X1_stalls : GoodIn wsX1_wasteAnHour (wsV RX1 81 RX1 yX1_stalls wsX1_stalls) := goodIn_app (goodIn_of _ (by decide +kernel)) ggX1_wasteAnHour_X1_stalls
set_option maxRecDepth 20000 in
theorem ggX1_wasteAnHour_X1_beatsAnHour : GoodIn wsX1_wasteAnHour wsX1_beatsAnHour := goodIn_r _ [25, 15, 9, 10, 11, 6, 12, 13, 8, 14, 2, 1, 16, 17, 18, 19, 20, 21, 26, 27, 28, 29, 30, 31, 32, 33] (by decide +kernel) (by decide +kernel)
set_option maxRecDepth 20000 in
theorem gX1_wasteAnHour_X1_beatsAnHour : GoodIn wsX1_wasteAnHour (wsV RX1 85 RX1 yX1_beatsAnHour wsX1_beatsAnHour) := goodIn_app (goodIn_of _ (by decide +kernel)) ggX1_wasteAnHour_X1_beatsAnHour
theorem dX1_wasteAnHour_0 : decode cX1_wasteAnHour 0 = .ok (.aload_n 0, 1) := by decide +kernel
theorem dX1_wasteAnHour_1 : decode cX1_wasteAnHour 1 = .ok (.invokevirtual 81, 3) := by decide +kernel
theorem dX1_wasteAnHour_4 : decode cX1_wasteAnHour 4 = .ok (.ifCond .eq 38, 3) := by decide +kernel
theorem dX1_wasteAnHour_7 : decode cX1_wasteAnHour 7 = .ok (.bipush 36, 2) := by decide +kernel
theorem dX1_wasteAnHour_9 : decode cX1_wasteAnHour 9 = .ok (.aload_n 0, 1) := by decide +kernel
theorem dX1_wasteAnHour_10 : decode cX1_wasteAnHour 10 = .ok (.getfield 9, 3) := by decide +kernel
theorem dX1_wasteAnHour_13 : decode cX1_wasteAnHour 13 = .ok (.iconst 3, 1) := by decide +kernel
theorem dX1_wasteAnHour_14 : decode cX1_wasteAnHour 14 = .ok (.iaload, 1) := by decide +kernel
theorem dX1_wasteAnHour_15 : decode cX1_wasteAnHour 15 = .ok (.imul, 1) := by decide +kernel
theorem dX1_wasteAnHour_16 : decode cX1_wasteAnHour 16 = .ok (.aload_n 0, 1) := by decide +kernel
theorem dX1_wasteAnHour_17 : decode cX1_wasteAnHour 17 = .ok (.getfield 9, 3) := by decide +kernel
theorem dX1_wasteAnHour_20 : decode cX1_wasteAnHour 20 = .ok (.iconst 5, 1) := by decide +kernel
theorem dX1_wasteAnHour_21 : decode cX1_wasteAnHour 21 = .ok (.iaload, 1) := by decide +kernel
theorem dX1_wasteAnHour_22 : decode cX1_wasteAnHour 22 = .ok (.aload_n 0, 1) := by decide +kernel
theorem dX1_wasteAnHour_23 : decode cX1_wasteAnHour 23 = .ok (.getfield 9, 3) := by decide +kernel
theorem dX1_wasteAnHour_26 : decode cX1_wasteAnHour 26 = .ok (.bipush 7, 2) := by decide +kernel
theorem dX1_wasteAnHour_28 : decode cX1_wasteAnHour 28 = .ok (.iaload, 1) := by decide +kernel
theorem dX1_wasteAnHour_29 : decode cX1_wasteAnHour 29 = .ok (.iadd, 1) := by decide +kernel
theorem dX1_wasteAnHour_30 : decode cX1_wasteAnHour 30 = .ok (.imul, 1) := by decide +kernel
theorem dX1_wasteAnHour_31 : decode cX1_wasteAnHour 31 = .ok (.aload_n 0, 1) := by decide +kernel
theorem dX1_wasteAnHour_32 : decode cX1_wasteAnHour 32 = .ok (.getfield 9, 3) := by decide +kernel
theorem dX1_wasteAnHour_35 : decode cX1_wasteAnHour 35 = .ok (.iconst 0, 1) := by decide +kernel
theorem dX1_wasteAnHour_36 : decode cX1_wasteAnHour 36 = .ok (.iaload, 1) := by decide +kernel
theorem dX1_wasteAnHour_37 : decode cX1_wasteAnHour 37 = .ok (.imul, 1) := by decide +kernel
theorem dX1_wasteAnHour_38 : decode cX1_wasteAnHour 38 = .ok (.bipush 10, 2) := by decide +kernel
theorem dX1_wasteAnHour_40 : decode cX1_wasteAnHour 40 = .ok (.idiv, 1) := by decide +kernel
theorem dX1_wasteAnHour_41 : decode cX1_wasteAnHour 41 = .ok (.ireturn, 1) := by decide +kernel
theorem dX1_wasteAnHour_42 : decode cX1_wasteAnHour 42 = .ok (.aload_n 0, 1) := by decide +kernel
theorem dX1_wasteAnHour_43 : decode cX1_wasteAnHour 43 = .ok (.invokevirtual 85, 3) := by decide +kernel
theorem dX1_wasteAnHour_46 : decode cX1_wasteAnHour 46 = .ok (.aload_n 0, 1) := by decide +kernel
theorem dX1_wasteAnHour_47 : decode cX1_wasteAnHour 47 = .ok (.getfield 29, 3) := by decide +kernel
theorem dX1_wasteAnHour_50 : decode cX1_wasteAnHour 50 = .ok (.imul, 1) := by decide +kernel
theorem dX1_wasteAnHour_51 : decode cX1_wasteAnHour 51 = .ok (.ireturn, 1) := by decide +kernel
set_option maxRecDepth 20000 in
theorem ggX1_upAnHour_X1_beatsAnHour : GoodIn wsX1_upAnHour wsX1_beatsAnHour := goodIn_r _ [5, 6, 7, 8, 9, 4, 10, 11, 12, 13, 14, 15, 16, 17, 18, 19, 20, 21, 37, 38, 39, 40, 41, 42, 43, 44] (by decide +kernel) (by decide +kernel)
set_option maxRecDepth 20000 in
theorem gX1_upAnHour_X1_beatsAnHour : GoodIn wsX1_upAnHour (wsV RX1 85 RX1 yX1_beatsAnHour wsX1_beatsAnHour) := goodIn_app (goodIn_of _ (by decide +kernel)) ggX1_upAnHour_X1_beatsAnHour
set_option maxRecDepth 20000 in
theorem ggX1_upAnHour_X1_upOfBeat : GoodIn wsX1_upAnHour wsX1_upOfBeat := goodIn_r _ [25, 12, 13, 15, 14, 26, 27, 28, 7, 8, 9, 4, 10, 11, 6, 16, 17, 18, 19, 20, 21, 29, 30, 31, 32, 33, 34, 35, 36, 37, 38, 39, 40, 41, 42, 43, 44] (by decide +kernel) (by decide +kernel)
set_option maxRecDepth 20000 in
theorem gX1_upAnHour_X1_upOfBeat : GoodIn wsX1_upAnHour (wsV RX1 89 RX1 yX1_upOfBeat wsX1_upOfBeat) := goodIn_app (goodIn_of _ (by decide +kernel)) ggX1_upAnHour_X1_upOfBeat
theorem dX1_upAnHour_0 : decode cX1_upAnHour 0 = .ok (.aload_n 0, 1) := by decide +kernel
theorem dX1_upAnHour_1 : decode cX1_upAnHour 1 = .ok (.invokevirtual 85, 3) := by decide +kernel
theorem dX1_upAnHour_4 : decode cX1_upAnHour 4 = .ok (.aload_n 0, 1) := by decide +kernel
theorem dX1_upAnHour_5 : decode cX1_upAnHour 5 = .ok (.invokevirtual 89, 3) := by decide +kernel
theorem dX1_upAnHour_8 : decode cX1_upAnHour 8 = .ok (.imul, 1) := by decide +kernel
theorem dX1_upAnHour_9 : decode cX1_upAnHour 9 = .ok (.ireturn, 1) := by decide +kernel
set_option maxRecDepth 20000 in
theorem ggX1_drawsAnHour_X1_wasteAnHour : GoodIn wsX1_drawsAnHour wsX1_wasteAnHour := goodIn_r _ [5, 6, 7, 8, 9, 10, 4, 11, 12, 13, 14, 15, 16, 17, 18, 19, 20, 21, 22, 23, 24, 25, 26, 27, 28, 29, 49, 50, 51, 52, 53, 54, 55, 56] (by decide +kernel) (by decide +kernel)
set_option maxRecDepth 20000 in
theorem gX1_drawsAnHour_X1_wasteAnHour : GoodIn wsX1_drawsAnHour (wsV RX1 92 RX1 yX1_wasteAnHour wsX1_wasteAnHour) := goodIn_app (goodIn_of _ (by decide +kernel)) ggX1_drawsAnHour_X1_wasteAnHour
set_option maxRecDepth 20000 in
theorem ggX1_drawsAnHour_X1_upAnHour : GoodIn wsX1_drawsAnHour wsX1_upAnHour := goodIn_r _ [33, 26, 27, 28, 4, 29, 19, 13, 14, 15, 16, 17, 12, 18, 7, 6, 20, 21, 22, 23, 24, 25, 34, 35, 36, 37, 38, 39, 40, 41, 42, 43, 44, 45, 46, 47, 48, 49, 50, 51, 52, 53, 54, 55, 56] (by decide +kernel) (by decide +kernel)
set_option maxRecDepth 20000 in
theorem gX1_drawsAnHour_X1_upAnHour : GoodIn wsX1_drawsAnHour (wsV RX1 95 RX1 yX1_upAnHour wsX1_upAnHour) := goodIn_app (goodIn_of _ (by decide +kernel)) ggX1_drawsAnHour_X1_upAnHour
theorem dX1_drawsAnHour_0 : decode cX1_drawsAnHour 0 = .ok (.aload_n 0, 1) := by decide +kernel
theorem dX1_drawsAnHour_1 : decode cX1_drawsAnHour 1 = .ok (.invokevirtual 92, 3) := by decide +kernel
theorem dX1_drawsAnHour_4 : decode cX1_drawsAnHour 4 = .ok (.aload_n 0, 1) := by decide +kernel
theorem dX1_drawsAnHour_5 : decode cX1_drawsAnHour 5 = .ok (.invokevirtual 95, 3) := by decide +kernel
theorem dX1_drawsAnHour_8 : decode cX1_drawsAnHour 8 = .ok (.iadd, 1) := by decide +kernel
theorem dX1_drawsAnHour_9 : decode cX1_drawsAnHour 9 = .ok (.ireturn, 1) := by decide +kernel
set_option maxRecDepth 20000 in
theorem ggX1_loseAir_X1_stalls : GoodIn wsX1_loseAir wsX1_stalls := goodIn_r _ [13, 14, 15, 16, 17, 12, 18, 19, 20, 21, 22, 1, 23, 24, 25, 26, 27, 28, 36, 37, 38, 39, 40, 41, 42, 43] (by decide +kernel) (by decide +kernel)
set_option maxRecDepth 20000 in
theorem gX1_loseAir_X1_stalls : GoodIn wsX1_loseAir (wsV RX1 81 RX1 yX1_stalls wsX1_stalls) := goodIn_app (goodIn_of _ (by decide +kernel)) ggX1_loseAir_X1_stalls
set_option maxRecDepth 20000 in
theorem ggX1_loseAir_X1_put : GoodIn wsX1_loseAir wsX1_put := goodIn_r _ [32, 1, 19, 33, 34, 35, 36, 37, 38, 39, 40, 41, 42, 43] (by decide +kernel) (by decide +kernel)
set_option maxRecDepth 20000 in
theorem gX1_loseAir_X1_put : GoodIn wsX1_loseAir (wsV RX1 51 RX1 yX1_put wsX1_put) := goodIn_app (goodIn_of _ (by decide +kernel)) ggX1_loseAir_X1_put
theorem dX1_loseAir_0 : decode cX1_loseAir 0 = .ok (.aload_n 0, 1) := by decide +kernel
theorem dX1_loseAir_1 : decode cX1_loseAir 1 = .ok (.invokevirtual 81, 3) := by decide +kernel
theorem dX1_loseAir_4 : decode cX1_loseAir 4 = .ok (.ifCond .eq 4, 3) := by decide +kernel
theorem dX1_loseAir_7 : decode cX1_loseAir 7 = .ok (.return_, 1) := by decide +kernel
theorem dX1_loseAir_8 : decode cX1_loseAir 8 = .ok (.aload_n 0, 1) := by decide +kernel
theorem dX1_loseAir_9 : decode cX1_loseAir 9 = .ok (.getfield 9, 3) := by decide +kernel
theorem dX1_loseAir_12 : decode cX1_loseAir 12 = .ok (.bipush 6, 2) := by decide +kernel
theorem dX1_loseAir_14 : decode cX1_loseAir 14 = .ok (.iaload, 1) := by decide +kernel
theorem dX1_loseAir_15 : decode cX1_loseAir 15 = .ok (.iconst 1, 1) := by decide +kernel
theorem dX1_loseAir_16 : decode cX1_loseAir 16 = .ok (.isub, 1) := by decide +kernel
theorem dX1_loseAir_17 : decode cX1_loseAir 17 = .ok (.aload_n 0, 1) := by decide +kernel
theorem dX1_loseAir_18 : decode cX1_loseAir 18 = .ok (.getfield 9, 3) := by decide +kernel
theorem dX1_loseAir_21 : decode cX1_loseAir 21 = .ok (.bipush 9, 2) := by decide +kernel
theorem dX1_loseAir_23 : decode cX1_loseAir 23 = .ok (.iaload, 1) := by decide +kernel
theorem dX1_loseAir_24 : decode cX1_loseAir 24 = .ok (.isub, 1) := by decide +kernel
theorem dX1_loseAir_25 : decode cX1_loseAir 25 = .ok (.iconst 0, 1) := by decide +kernel
theorem dX1_loseAir_26 : decode cX1_loseAir 26 = .ok (.invokestatic 98, 3) := by decide +kernel
theorem dX1_loseAir_29 : decode cX1_loseAir 29 = .ok (.istore_n 1, 1) := by decide +kernel
theorem dX1_loseAir_30 : decode cX1_loseAir 30 = .ok (.aload_n 0, 1) := by decide +kernel
theorem dX1_loseAir_31 : decode cX1_loseAir 31 = .ok (.bipush 6, 2) := by decide +kernel
theorem dX1_loseAir_33 : decode cX1_loseAir 33 = .ok (.iload_n 1, 1) := by decide +kernel
theorem dX1_loseAir_34 : decode cX1_loseAir 34 = .ok (.aload_n 0, 1) := by decide +kernel
theorem dX1_loseAir_35 : decode cX1_loseAir 35 = .ok (.getfield 9, 3) := by decide +kernel
theorem dX1_loseAir_38 : decode cX1_loseAir 38 = .ok (.bipush 11, 2) := by decide +kernel
theorem dX1_loseAir_40 : decode cX1_loseAir 40 = .ok (.iaload, 1) := by decide +kernel
theorem dX1_loseAir_41 : decode cX1_loseAir 41 = .ok (.iadd, 1) := by decide +kernel
theorem dX1_loseAir_42 : decode cX1_loseAir 42 = .ok (.getstatic 101, 3) := by decide +kernel
theorem dX1_loseAir_45 : decode cX1_loseAir 45 = .ok (.bipush 6, 2) := by decide +kernel
theorem dX1_loseAir_47 : decode cX1_loseAir 47 = .ok (.iaload, 1) := by decide +kernel
theorem dX1_loseAir_48 : decode cX1_loseAir 48 = .ok (.invokestatic 58, 3) := by decide +kernel
theorem dX1_loseAir_51 : decode cX1_loseAir 51 = .ok (.invokevirtual 51, 3) := by decide +kernel
theorem dX1_loseAir_54 : decode cX1_loseAir 54 = .ok (.return_, 1) := by decide +kernel
theorem dX1_share_0 : decode cX1_share 0 = .ok (.lload_n 2, 1) := by decide +kernel
theorem dX1_share_1 : decode cX1_share 1 = .ok (.lconst 0, 1) := by decide +kernel
theorem dX1_share_2 : decode cX1_share 2 = .ok (.lcmp, 1) := by decide +kernel
theorem dX1_share_3 : decode cX1_share 3 = .ok (.ifCond .le 9, 3) := by decide +kernel
theorem dX1_share_6 : decode cX1_share 6 = .ok (.lload_n 0, 1) := by decide +kernel
theorem dX1_share_7 : decode cX1_share 7 = .ok (.lload_n 2, 1) := by decide +kernel
theorem dX1_share_8 : decode cX1_share 8 = .ok (.ldiv, 1) := by decide +kernel
theorem dX1_share_9 : decode cX1_share 9 = .ok (.goto 4, 3) := by decide +kernel
theorem dX1_share_12 : decode cX1_share 12 = .ok (.lconst 0, 1) := by decide +kernel
theorem dX1_share_13 : decode cX1_share 13 = .ok (.lreturn, 1) := by decide +kernel
set_option maxRecDepth 20000 in
theorem ggX1_reckon_X1_share : GoodIn wsX1_reckon wsX1_share := goodIn_r _ [13] (by decide +kernel) (by decide +kernel)
set_option maxRecDepth 20000 in
theorem gX1_reckon_X1_share : GoodIn wsX1_reckon (va_wsS RX1 73 yX1_share wsX1_share) := goodIn_app (goodIn_of _ (by decide +kernel)) ggX1_reckon_X1_share
theorem dX1_reckon_0 : decode cX1_reckon 0 = .ok (.aload_n 0, 1) := by decide +kernel
theorem dX1_reckon_1 : decode cX1_reckon 1 = .ok (.getfield 15, 3) := by decide +kernel
theorem dX1_reckon_4 : decode cX1_reckon 4 = .ok (.ifCond .eq 4, 3) := by decide +kernel
theorem dX1_reckon_7 : decode cX1_reckon 7 = .ok (.return_, 1) := by decide +kernel
theorem dX1_reckon_8 : decode cX1_reckon 8 = .ok (.aload_n 0, 1) := by decide +kernel
theorem dX1_reckon_9 : decode cX1_reckon 9 = .ok (.iconst 1, 1) := by decide +kernel
theorem dX1_reckon_10 : decode cX1_reckon 10 = .ok (.putfield 15, 3) := by decide +kernel
theorem dX1_reckon_13 : decode cX1_reckon 13 = .ok (.aload_n 0, 1) := by decide +kernel
theorem dX1_reckon_14 : decode cX1_reckon 14 = .ok (.iconst 1, 1) := by decide +kernel
theorem dX1_reckon_15 : decode cX1_reckon 15 = .ok (.putfield 19, 3) := by decide +kernel
theorem dX1_reckon_18 : decode cX1_reckon 18 = .ok (.aload_n 0, 1) := by decide +kernel
theorem dX1_reckon_19 : decode cX1_reckon 19 = .ok (.iconst 0, 1) := by decide +kernel
theorem dX1_reckon_20 : decode cX1_reckon 20 = .ok (.putfield 26, 3) := by decide +kernel
theorem dX1_reckon_23 : decode cX1_reckon 23 = .ok (.aload_n 0, 1) := by decide +kernel
theorem dX1_reckon_24 : decode cX1_reckon 24 = .ok (.iconst 0, 1) := by decide +kernel
theorem dX1_reckon_25 : decode cX1_reckon 25 = .ok (.putfield 29, 3) := by decide +kernel
theorem dX1_reckon_28 : decode cX1_reckon 28 = .ok (.aload_n 0, 1) := by decide +kernel
theorem dX1_reckon_29 : decode cX1_reckon 29 = .ok (.iconst 0, 1) := by decide +kernel
theorem dX1_reckon_30 : decode cX1_reckon 30 = .ok (.putfield 35, 3) := by decide +kernel
theorem dX1_reckon_33 : decode cX1_reckon 33 = .ok (.sipush 200, 3) := by decide +kernel
theorem dX1_reckon_36 : decode cX1_reckon 36 = .ok (.aload_n 0, 1) := by decide +kernel
theorem dX1_reckon_37 : decode cX1_reckon 37 = .ok (.getfield 9, 3) := by decide +kernel
theorem dX1_reckon_40 : decode cX1_reckon 40 = .ok (.iconst 0, 1) := by decide +kernel
theorem dX1_reckon_41 : decode cX1_reckon 41 = .ok (.iaload, 1) := by decide +kernel
theorem dX1_reckon_42 : decode cX1_reckon 42 = .ok (.imul, 1) := by decide +kernel
theorem dX1_reckon_43 : decode cX1_reckon 43 = .ok (.i2l, 1) := by decide +kernel
theorem dX1_reckon_44 : decode cX1_reckon 44 = .ok (.aload_n 0, 1) := by decide +kernel
theorem dX1_reckon_45 : decode cX1_reckon 45 = .ok (.getfield 9, 3) := by decide +kernel
theorem dX1_reckon_48 : decode cX1_reckon 48 = .ok (.iconst 2, 1) := by decide +kernel
theorem dX1_reckon_49 : decode cX1_reckon 49 = .ok (.iaload, 1) := by decide +kernel
theorem dX1_reckon_50 : decode cX1_reckon 50 = .ok (.i2l, 1) := by decide +kernel
theorem dX1_reckon_51 : decode cX1_reckon 51 = .ok (.invokestatic 73, 3) := by decide +kernel
theorem dX1_reckon_54 : decode cX1_reckon 54 = .ok (.l2i, 1) := by decide +kernel
theorem dX1_reckon_55 : decode cX1_reckon 55 = .ok (.istore_n 1, 1) := by decide +kernel
theorem dX1_reckon_56 : decode cX1_reckon 56 = .ok (.iconst 3, 1) := by decide +kernel
theorem dX1_reckon_57 : decode cX1_reckon 57 = .ok (.aload_n 0, 1) := by decide +kernel
theorem dX1_reckon_58 : decode cX1_reckon 58 = .ok (.getfield 9, 3) := by decide +kernel
theorem dX1_reckon_61 : decode cX1_reckon 61 = .ok (.bipush 8, 2) := by decide +kernel
theorem dX1_reckon_63 : decode cX1_reckon 63 = .ok (.iaload, 1) := by decide +kernel
theorem dX1_reckon_64 : decode cX1_reckon 64 = .ok (.iadd, 1) := by decide +kernel
theorem dX1_reckon_65 : decode cX1_reckon 65 = .ok (.istore_n 2, 1) := by decide +kernel
theorem dX1_reckon_66 : decode cX1_reckon 66 = .ok (.aload_n 0, 1) := by decide +kernel
theorem dX1_reckon_67 : decode cX1_reckon 67 = .ok (.getfield 9, 3) := by decide +kernel
theorem dX1_reckon_70 : decode cX1_reckon 70 = .ok (.iconst 5, 1) := by decide +kernel
theorem dX1_reckon_71 : decode cX1_reckon 71 = .ok (.iaload, 1) := by decide +kernel
theorem dX1_reckon_72 : decode cX1_reckon 72 = .ok (.aload_n 0, 1) := by decide +kernel
theorem dX1_reckon_73 : decode cX1_reckon 73 = .ok (.getfield 9, 3) := by decide +kernel
theorem dX1_reckon_76 : decode cX1_reckon 76 = .ok (.bipush 7, 2) := by decide +kernel
theorem dX1_reckon_78 : decode cX1_reckon 78 = .ok (.iaload, 1) := by decide +kernel
theorem dX1_reckon_79 : decode cX1_reckon 79 = .ok (.iadd, 1) := by decide +kernel
theorem dX1_reckon_80 : decode cX1_reckon 80 = .ok (.istore_n 3, 1) := by decide +kernel
theorem dX1_reckon_81 : decode cX1_reckon 81 = .ok (.aload_n 0, 1) := by decide +kernel
theorem dX1_reckon_82 : decode cX1_reckon 82 = .ok (.getfield 9, 3) := by decide +kernel
theorem dX1_reckon_85 : decode cX1_reckon 85 = .ok (.iconst 3, 1) := by decide +kernel
theorem dX1_reckon_86 : decode cX1_reckon 86 = .ok (.iaload, 1) := by decide +kernel
theorem dX1_reckon_87 : decode cX1_reckon 87 = .ok (.iload_n 3, 1) := by decide +kernel
theorem dX1_reckon_88 : decode cX1_reckon 88 = .ok (.imul, 1) := by decide +kernel
theorem dX1_reckon_89 : decode cX1_reckon 89 = .ok (.istore 4, 2) := by decide +kernel
theorem dX1_reckon_91 : decode cX1_reckon 91 = .ok (.aload_n 0, 1) := by decide +kernel
theorem dX1_reckon_92 : decode cX1_reckon 92 = .ok (.getfield 9, 3) := by decide +kernel
theorem dX1_reckon_95 : decode cX1_reckon 95 = .ok (.iconst 4, 1) := by decide +kernel
theorem dX1_reckon_96 : decode cX1_reckon 96 = .ok (.iaload, 1) := by decide +kernel
theorem dX1_reckon_97 : decode cX1_reckon 97 = .ok (.iload_n 3, 1) := by decide +kernel
theorem dX1_reckon_98 : decode cX1_reckon 98 = .ok (.imul, 1) := by decide +kernel
theorem dX1_reckon_99 : decode cX1_reckon 99 = .ok (.istore 5, 2) := by decide +kernel
theorem dX1_reckon_101 : decode cX1_reckon 101 = .ok (.aload_n 0, 1) := by decide +kernel
theorem dX1_reckon_102 : decode cX1_reckon 102 = .ok (.iconst 1, 1) := by decide +kernel
theorem dX1_reckon_103 : decode cX1_reckon 103 = .ok (.putfield 22, 3) := by decide +kernel
theorem dX1_reckon_106 : decode cX1_reckon 106 = .ok (.aload_n 0, 1) := by decide +kernel
theorem dX1_reckon_107 : decode cX1_reckon 107 = .ok (.getfield 22, 3) := by decide +kernel
theorem dX1_reckon_110 : decode cX1_reckon 110 = .ok (.sipush 400, 3) := by decide +kernel
theorem dX1_reckon_113 : decode cX1_reckon 113 = .ok (.if_icmp .gt 127, 3) := by decide +kernel
theorem dX1_reckon_116 : decode cX1_reckon 116 = .ok (.aload_n 0, 1) := by decide +kernel
theorem dX1_reckon_117 : decode cX1_reckon 117 = .ok (.getfield 26, 3) := by decide +kernel
theorem dX1_reckon_120 : decode cX1_reckon 120 = .ok (.istore 6, 2) := by decide +kernel
theorem dX1_reckon_122 : decode cX1_reckon 122 = .ok (.aload_n 0, 1) := by decide +kernel
theorem dX1_reckon_123 : decode cX1_reckon 123 = .ok (.iload 6, 2) := by decide +kernel
theorem dX1_reckon_125 : decode cX1_reckon 125 = .ok (.iload_n 1, 1) := by decide +kernel
theorem dX1_reckon_126 : decode cX1_reckon 126 = .ok (.iadd, 1) := by decide +kernel
theorem dX1_reckon_127 : decode cX1_reckon 127 = .ok (.iload 6, 2) := by decide +kernel
theorem dX1_reckon_129 : decode cX1_reckon 129 = .ok (.iload_n 2, 1) := by decide +kernel
theorem dX1_reckon_130 : decode cX1_reckon 130 = .ok (.imul, 1) := by decide +kernel
theorem dX1_reckon_131 : decode cX1_reckon 131 = .ok (.bipush 100, 2) := by decide +kernel
theorem dX1_reckon_133 : decode cX1_reckon 133 = .ok (.idiv, 1) := by decide +kernel
theorem dX1_reckon_134 : decode cX1_reckon 134 = .ok (.isub, 1) := by decide +kernel
theorem dX1_reckon_135 : decode cX1_reckon 135 = .ok (.putfield 26, 3) := by decide +kernel
theorem dX1_reckon_138 : decode cX1_reckon 138 = .ok (.aload_n 0, 1) := by decide +kernel
theorem dX1_reckon_139 : decode cX1_reckon 139 = .ok (.dup, 1) := by decide +kernel
theorem dX1_reckon_140 : decode cX1_reckon 140 = .ok (.getfield 29, 3) := by decide +kernel
theorem dX1_reckon_143 : decode cX1_reckon 143 = .ok (.aload_n 0, 1) := by decide +kernel
theorem dX1_reckon_144 : decode cX1_reckon 144 = .ok (.getfield 26, 3) := by decide +kernel
theorem dX1_reckon_147 : decode cX1_reckon 147 = .ok (.iload 4, 2) := by decide +kernel
theorem dX1_reckon_149 : decode cX1_reckon 149 = .ok (.imul, 1) := by decide +kernel
theorem dX1_reckon_150 : decode cX1_reckon 150 = .ok (.bipush 100, 2) := by decide +kernel
theorem dX1_reckon_152 : decode cX1_reckon 152 = .ok (.idiv, 1) := by decide +kernel
theorem dX1_reckon_153 : decode cX1_reckon 153 = .ok (.iadd, 1) := by decide +kernel
theorem dX1_reckon_154 : decode cX1_reckon 154 = .ok (.putfield 29, 3) := by decide +kernel
theorem dX1_reckon_157 : decode cX1_reckon 157 = .ok (.aload_n 0, 1) := by decide +kernel
theorem dX1_reckon_158 : decode cX1_reckon 158 = .ok (.getfield 26, 3) := by decide +kernel
theorem dX1_reckon_161 : decode cX1_reckon 161 = .ok (.aload_n 0, 1) := by decide +kernel
theorem dX1_reckon_162 : decode cX1_reckon 162 = .ok (.getfield 26, 3) := by decide +kernel
theorem dX1_reckon_165 : decode cX1_reckon 165 = .ok (.imul, 1) := by decide +kernel
theorem dX1_reckon_166 : decode cX1_reckon 166 = .ok (.bipush 50, 2) := by decide +kernel
theorem dX1_reckon_168 : decode cX1_reckon 168 = .ok (.idiv, 1) := by decide +kernel
theorem dX1_reckon_169 : decode cX1_reckon 169 = .ok (.iload 5, 2) := by decide +kernel
theorem dX1_reckon_171 : decode cX1_reckon 171 = .ok (.if_icmp .lt 46, 3) := by decide +kernel
theorem dX1_reckon_174 : decode cX1_reckon 174 = .ok (.aload_n 0, 1) := by decide +kernel
theorem dX1_reckon_175 : decode cX1_reckon 175 = .ok (.iconst 0, 1) := by decide +kernel
theorem dX1_reckon_176 : decode cX1_reckon 176 = .ok (.putfield 19, 3) := by decide +kernel
theorem dX1_reckon_179 : decode cX1_reckon 179 = .ok (.aload_n 0, 1) := by decide +kernel
theorem dX1_reckon_180 : decode cX1_reckon 180 = .ok (.aload_n 0, 1) := by decide +kernel
theorem dX1_reckon_181 : decode cX1_reckon 181 = .ok (.getfield 22, 3) := by decide +kernel
theorem dX1_reckon_184 : decode cX1_reckon 184 = .ok (.iconst 4, 1) := by decide +kernel
theorem dX1_reckon_185 : decode cX1_reckon 185 = .ok (.iadd, 1) := by decide +kernel
theorem dX1_reckon_186 : decode cX1_reckon 186 = .ok (.aload_n 0, 1) := by decide +kernel
theorem dX1_reckon_187 : decode cX1_reckon 187 = .ok (.getfield 9, 3) := by decide +kernel
theorem dX1_reckon_190 : decode cX1_reckon 190 = .ok (.iconst 1, 1) := by decide +kernel
theorem dX1_reckon_191 : decode cX1_reckon 191 = .ok (.iaload, 1) := by decide +kernel
theorem dX1_reckon_192 : decode cX1_reckon 192 = .ok (.sipush 200, 3) := by decide +kernel
theorem dX1_reckon_195 : decode cX1_reckon 195 = .ok (.idiv, 1) := by decide +kernel
theorem dX1_reckon_196 : decode cX1_reckon 196 = .ok (.iadd, 1) := by decide +kernel
theorem dX1_reckon_197 : decode cX1_reckon 197 = .ok (.putfield 32, 3) := by decide +kernel
theorem dX1_reckon_200 : decode cX1_reckon 200 = .ok (.aload_n 0, 1) := by decide +kernel
theorem dX1_reckon_201 : decode cX1_reckon 201 = .ok (.ldc2_w 104, 3) := by decide +kernel
theorem dX1_reckon_204 : decode cX1_reckon 204 = .ok (.aload_n 0, 1) := by decide +kernel
theorem dX1_reckon_205 : decode cX1_reckon 205 = .ok (.getfield 32, 3) := by decide +kernel
theorem dX1_reckon_208 : decode cX1_reckon 208 = .ok (.i2l, 1) := by decide +kernel
theorem dX1_reckon_209 : decode cX1_reckon 209 = .ok (.invokestatic 73, 3) := by decide +kernel
theorem dX1_reckon_212 : decode cX1_reckon 212 = .ok (.l2i, 1) := by decide +kernel
theorem dX1_reckon_213 : decode cX1_reckon 213 = .ok (.putfield 35, 3) := by decide +kernel
theorem dX1_reckon_216 : decode cX1_reckon 216 = .ok (.return_, 1) := by decide +kernel
theorem dX1_reckon_217 : decode cX1_reckon 217 = .ok (.aload_n 0, 1) := by decide +kernel
theorem dX1_reckon_218 : decode cX1_reckon 218 = .ok (.getfield 26, 3) := by decide +kernel
theorem dX1_reckon_221 : decode cX1_reckon 221 = .ok (.iload 6, 2) := by decide +kernel
theorem dX1_reckon_223 : decode cX1_reckon 223 = .ok (.if_icmp .gt 4, 3) := by decide +kernel
theorem dX1_reckon_226 : decode cX1_reckon 226 = .ok (.return_, 1) := by decide +kernel
theorem dX1_reckon_227 : decode cX1_reckon 227 = .ok (.aload_n 0, 1) := by decide +kernel
theorem dX1_reckon_228 : decode cX1_reckon 228 = .ok (.dup, 1) := by decide +kernel
theorem dX1_reckon_229 : decode cX1_reckon 229 = .ok (.getfield 22, 3) := by decide +kernel
theorem dX1_reckon_232 : decode cX1_reckon 232 = .ok (.iconst 1, 1) := by decide +kernel
theorem dX1_reckon_233 : decode cX1_reckon 233 = .ok (.iadd, 1) := by decide +kernel
theorem dX1_reckon_234 : decode cX1_reckon 234 = .ok (.putfield 22, 3) := by decide +kernel
theorem dX1_reckon_237 : decode cX1_reckon 237 = .ok (.goto (-131), 3) := by decide +kernel
theorem dX1_reckon_240 : decode cX1_reckon 240 = .ok (.return_, 1) := by decide +kernel
theorem dX2_init_0 : decode cX2_init 0 = .ok (.aload_n 0, 1) := by decide +kernel
theorem dX2_init_1 : decode cX2_init 1 = .ok (.invokespecial 3, 3) := by decide +kernel
theorem dX2_init_4 : decode cX2_init 4 = .ok (.aload_n 0, 1) := by decide +kernel
theorem dX2_init_5 : decode cX2_init 5 = .ok (.bipush 12, 2) := by decide +kernel
theorem dX2_init_7 : decode cX2_init 7 = .ok (.newarray .int, 2) := by decide +kernel
theorem dX2_init_9 : decode cX2_init 9 = .ok (.putfield 11, 3) := by decide +kernel
theorem dX2_init_12 : decode cX2_init 12 = .ok (.aload_n 0, 1) := by decide +kernel
theorem dX2_init_13 : decode cX2_init 13 = .ok (.bipush 12, 2) := by decide +kernel
theorem dX2_init_15 : decode cX2_init 15 = .ok (.newarray .int, 2) := by decide +kernel
theorem dX2_init_17 : decode cX2_init 17 = .ok (.putfield 15, 3) := by decide +kernel
theorem dX2_init_20 : decode cX2_init 20 = .ok (.aload_n 0, 1) := by decide +kernel
theorem dX2_init_21 : decode cX2_init 21 = .ok (.bipush 12, 2) := by decide +kernel
theorem dX2_init_23 : decode cX2_init 23 = .ok (.newarray .int, 2) := by decide +kernel
theorem dX2_init_25 : decode cX2_init 25 = .ok (.putfield 18, 3) := by decide +kernel
theorem dX2_init_28 : decode cX2_init 28 = .ok (.aload_n 0, 1) := by decide +kernel
theorem dX2_init_29 : decode cX2_init 29 = .ok (.iconst 0, 1) := by decide +kernel
theorem dX2_init_30 : decode cX2_init 30 = .ok (.putfield 21, 3) := by decide +kernel
theorem dX2_init_33 : decode cX2_init 33 = .ok (.aload_n 0, 1) := by decide +kernel
theorem dX2_init_34 : decode cX2_init 34 = .ok (.bipush 20, 2) := by decide +kernel
theorem dX2_init_36 : decode cX2_init 36 = .ok (.putfield 25, 3) := by decide +kernel
theorem dX2_init_39 : decode cX2_init 39 = .ok (.aload_n 0, 1) := by decide +kernel
theorem dX2_init_40 : decode cX2_init 40 = .ok (.iconst 5, 1) := by decide +kernel
theorem dX2_init_41 : decode cX2_init 41 = .ok (.putfield 28, 3) := by decide +kernel
theorem dX2_init_44 : decode cX2_init 44 = .ok (.return_, 1) := by decide +kernel
theorem dX2_keep_0 : decode cX2_keep 0 = .ok (.aload_n 0, 1) := by decide +kernel
theorem dX2_keep_1 : decode cX2_keep 1 = .ok (.getfield 21, 3) := by decide +kernel
theorem dX2_keep_4 : decode cX2_keep 4 = .ok (.bipush 12, 2) := by decide +kernel
theorem dX2_keep_6 : decode cX2_keep 6 = .ok (.if_icmp .lt 6, 3) := by decide +kernel
theorem dX2_keep_9 : decode cX2_keep 9 = .ok (.bipush (-3), 2) := by decide +kernel
theorem dX2_keep_11 : decode cX2_keep 11 = .ok (.ireturn, 1) := by decide +kernel
theorem dX2_keep_12 : decode cX2_keep 12 = .ok (.aload_n 0, 1) := by decide +kernel
theorem dX2_keep_13 : decode cX2_keep 13 = .ok (.getfield 11, 3) := by decide +kernel
theorem dX2_keep_16 : decode cX2_keep 16 = .ok (.aload_n 0, 1) := by decide +kernel
theorem dX2_keep_17 : decode cX2_keep 17 = .ok (.getfield 21, 3) := by decide +kernel
theorem dX2_keep_20 : decode cX2_keep 20 = .ok (.iload_n 1, 1) := by decide +kernel
theorem dX2_keep_21 : decode cX2_keep 21 = .ok (.iastore, 1) := by decide +kernel
theorem dX2_keep_22 : decode cX2_keep 22 = .ok (.aload_n 0, 1) := by decide +kernel
theorem dX2_keep_23 : decode cX2_keep 23 = .ok (.getfield 15, 3) := by decide +kernel
theorem dX2_keep_26 : decode cX2_keep 26 = .ok (.aload_n 0, 1) := by decide +kernel
theorem dX2_keep_27 : decode cX2_keep 27 = .ok (.getfield 21, 3) := by decide +kernel
theorem dX2_keep_30 : decode cX2_keep 30 = .ok (.iload_n 2, 1) := by decide +kernel
theorem dX2_keep_31 : decode cX2_keep 31 = .ok (.iastore, 1) := by decide +kernel
theorem dX2_keep_32 : decode cX2_keep 32 = .ok (.aload_n 0, 1) := by decide +kernel
theorem dX2_keep_33 : decode cX2_keep 33 = .ok (.getfield 18, 3) := by decide +kernel
theorem dX2_keep_36 : decode cX2_keep 36 = .ok (.aload_n 0, 1) := by decide +kernel
theorem dX2_keep_37 : decode cX2_keep 37 = .ok (.getfield 21, 3) := by decide +kernel
theorem dX2_keep_40 : decode cX2_keep 40 = .ok (.iload_n 3, 1) := by decide +kernel
theorem dX2_keep_41 : decode cX2_keep 41 = .ok (.iastore, 1) := by decide +kernel
theorem dX2_keep_42 : decode cX2_keep 42 = .ok (.aload_n 0, 1) := by decide +kernel
theorem dX2_keep_43 : decode cX2_keep 43 = .ok (.dup, 1) := by decide +kernel
theorem dX2_keep_44 : decode cX2_keep 44 = .ok (.getfield 21, 3) := by decide +kernel
theorem dX2_keep_47 : decode cX2_keep 47 = .ok (.iconst 1, 1) := by decide +kernel
theorem dX2_keep_48 : decode cX2_keep 48 = .ok (.iadd, 1) := by decide +kernel
theorem dX2_keep_49 : decode cX2_keep 49 = .ok (.putfield 21, 3) := by decide +kernel
theorem dX2_keep_52 : decode cX2_keep 52 = .ok (.aload_n 0, 1) := by decide +kernel
theorem dX2_keep_53 : decode cX2_keep 53 = .ok (.getfield 21, 3) := by decide +kernel
theorem dX2_keep_56 : decode cX2_keep 56 = .ok (.ireturn, 1) := by decide +kernel
set_option maxRecDepth 20000 in
theorem ggX2_agreeWith_X1_beatsAnHour : GoodIn wsX2_agreeWith wsX1_beatsAnHour := goodIn_r _ [7, 8, 9, 10, 11, 6, 12, 13, 14, 15, 16, 17, 18, 19, 20, 21, 22, 23, 66, 67, 68, 69, 70, 71, 72, 73] (by decide +kernel) (by decide +kernel)
set_option maxRecDepth 20000 in
theorem gX2_agreeWith_X1_beatsAnHour : GoodIn wsX2_agreeWith (wsV RX2 31 RX1 yX1_beatsAnHour wsX1_beatsAnHour) := goodIn_app (goodIn_of _ (by decide +kernel)) ggX2_agreeWith_X1_beatsAnHour
set_option maxRecDepth 20000 in
theorem ggX2_agreeWith_X1_upAnHour : GoodIn wsX2_agreeWith wsX1_upAnHour := goodIn_r _ [27, 28, 4, 5, 6, 7, 8, 9, 10, 11, 12, 13, 14, 15, 16, 17, 18, 19, 20, 21, 22, 23, 29, 30, 31, 32, 33, 34, 35, 36, 37, 38, 39, 40, 41, 42, 43, 66, 67, 68, 69, 70, 71, 72, 73] (by decide +kernel) (by decide +kernel)
set_option maxRecDepth 20000 in
theorem gX2_agreeWith_X1_upAnHour : GoodIn wsX2_agreeWith (wsV RX2 37 RX1 yX1_upAnHour wsX1_upAnHour) := goodIn_app (goodIn_of _ (by decide +kernel)) ggX2_agreeWith_X1_upAnHour
set_option maxRecDepth 20000 in
theorem ggX2_agreeWith_X2_isNearBeats : GoodIn wsX2_agreeWith wsX2_isNearBeats := goodIn_r _ [48, 49, 50, 51, 42, 52, 53, 60, 61, 62, 63, 64, 65] (by decide +kernel) (by decide +kernel)
set_option maxRecDepth 20000 in
theorem gX2_agreeWith_X2_isNearBeats : GoodIn wsX2_agreeWith (wsV RX2 40 RX2 yX2_isNearBeats wsX2_isNearBeats) := goodIn_app (goodIn_of _ (by decide +kernel)) ggX2_agreeWith_X2_isNearBeats
set_option maxRecDepth 20000 in
theorem ggX2_agreeWith_X2_isNearUp : GoodIn wsX2_agreeWith wsX2_isNearUp := goodIn_r _ [57, 58, 50, 51, 42, 52, 59, 60, 61, 62, 63, 64, 65] (by decide +kernel) (by decide +kernel)
set_option maxRecDepth 20000 in
theorem gX2_agreeWith_X2_isNearUp : GoodIn wsX2_agreeWith (wsV RX2 44 RX2 yX2_isNearUp wsX2_isNearUp) := goodIn_app (goodIn_of _ (by decide +kernel)) ggX2_agreeWith_X2_isNearUp
theorem dX2_agreeWith_0 : decode cX2_agreeWith 0 = .ok (.aload_n 2, 1) := by decide +kernel
theorem dX2_agreeWith_1 : decode cX2_agreeWith 1 = .ok (.invokevirtual 31, 3) := by decide +kernel
theorem dX2_agreeWith_4 : decode cX2_agreeWith 4 = .ok (.istore_n 3, 1) := by decide +kernel
theorem dX2_agreeWith_5 : decode cX2_agreeWith 5 = .ok (.aload_n 2, 1) := by decide +kernel
theorem dX2_agreeWith_6 : decode cX2_agreeWith 6 = .ok (.invokevirtual 37, 3) := by decide +kernel
theorem dX2_agreeWith_9 : decode cX2_agreeWith 9 = .ok (.istore 4, 2) := by decide +kernel
theorem dX2_agreeWith_11 : decode cX2_agreeWith 11 = .ok (.iconst 0, 1) := by decide +kernel
theorem dX2_agreeWith_12 : decode cX2_agreeWith 12 = .ok (.istore 5, 2) := by decide +kernel
theorem dX2_agreeWith_14 : decode cX2_agreeWith 14 = .ok (.iload 5, 2) := by decide +kernel
theorem dX2_agreeWith_16 : decode cX2_agreeWith 16 = .ok (.aload_n 0, 1) := by decide +kernel
theorem dX2_agreeWith_17 : decode cX2_agreeWith 17 = .ok (.getfield 21, 3) := by decide +kernel
theorem dX2_agreeWith_20 : decode cX2_agreeWith 20 = .ok (.if_icmp .ge 43, 3) := by decide +kernel
theorem dX2_agreeWith_23 : decode cX2_agreeWith 23 = .ok (.aload_n 0, 1) := by decide +kernel
theorem dX2_agreeWith_24 : decode cX2_agreeWith 24 = .ok (.getfield 11, 3) := by decide +kernel
theorem dX2_agreeWith_27 : decode cX2_agreeWith 27 = .ok (.iload 5, 2) := by decide +kernel
theorem dX2_agreeWith_29 : decode cX2_agreeWith 29 = .ok (.iaload, 1) := by decide +kernel
theorem dX2_agreeWith_30 : decode cX2_agreeWith 30 = .ok (.iload_n 1, 1) := by decide +kernel
theorem dX2_agreeWith_31 : decode cX2_agreeWith 31 = .ok (.if_icmp .ne 26, 3) := by decide +kernel
theorem dX2_agreeWith_34 : decode cX2_agreeWith 34 = .ok (.aload_n 0, 1) := by decide +kernel
theorem dX2_agreeWith_35 : decode cX2_agreeWith 35 = .ok (.iload 5, 2) := by decide +kernel
theorem dX2_agreeWith_37 : decode cX2_agreeWith 37 = .ok (.iload_n 3, 1) := by decide +kernel
theorem dX2_agreeWith_38 : decode cX2_agreeWith 38 = .ok (.invokevirtual 40, 3) := by decide +kernel
theorem dX2_agreeWith_41 : decode cX2_agreeWith 41 = .ok (.ifCond .eq 14, 3) := by decide +kernel
theorem dX2_agreeWith_44 : decode cX2_agreeWith 44 = .ok (.aload_n 0, 1) := by decide +kernel
theorem dX2_agreeWith_45 : decode cX2_agreeWith 45 = .ok (.iload 5, 2) := by decide +kernel
theorem dX2_agreeWith_47 : decode cX2_agreeWith 47 = .ok (.iload 4, 2) := by decide +kernel
theorem dX2_agreeWith_49 : decode cX2_agreeWith 49 = .ok (.invokevirtual 44, 3) := by decide +kernel
theorem dX2_agreeWith_52 : decode cX2_agreeWith 52 = .ok (.ifCond .ne 5, 3) := by decide +kernel
theorem dX2_agreeWith_55 : decode cX2_agreeWith 55 = .ok (.iconst 0, 1) := by decide +kernel
theorem dX2_agreeWith_56 : decode cX2_agreeWith 56 = .ok (.ireturn, 1) := by decide +kernel
theorem dX2_agreeWith_57 : decode cX2_agreeWith 57 = .ok (.iinc 5 1, 3) := by decide +kernel
theorem dX2_agreeWith_60 : decode cX2_agreeWith 60 = .ok (.goto (-46), 3) := by decide +kernel
theorem dX2_agreeWith_63 : decode cX2_agreeWith 63 = .ok (.iconst 1, 1) := by decide +kernel
theorem dX2_agreeWith_64 : decode cX2_agreeWith 64 = .ok (.ireturn, 1) := by decide +kernel
theorem dX2_isNearBeats_0 : decode cX2_isNearBeats 0 = .ok (.aload_n 0, 1) := by decide +kernel
theorem dX2_isNearBeats_1 : decode cX2_isNearBeats 1 = .ok (.getfield 15, 3) := by decide +kernel
theorem dX2_isNearBeats_4 : decode cX2_isNearBeats 4 = .ok (.iload_n 1, 1) := by decide +kernel
theorem dX2_isNearBeats_5 : decode cX2_isNearBeats 5 = .ok (.iaload, 1) := by decide +kernel
theorem dX2_isNearBeats_6 : decode cX2_isNearBeats 6 = .ok (.bipush (-9), 2) := by decide +kernel
theorem dX2_isNearBeats_8 : decode cX2_isNearBeats 8 = .ok (.if_icmp .eq 21, 3) := by decide +kernel
theorem dX2_isNearBeats_11 : decode cX2_isNearBeats 11 = .ok (.iload_n 2, 1) := by decide +kernel
theorem dX2_isNearBeats_12 : decode cX2_isNearBeats 12 = .ok (.aload_n 0, 1) := by decide +kernel
theorem dX2_isNearBeats_13 : decode cX2_isNearBeats 13 = .ok (.getfield 15, 3) := by decide +kernel
theorem dX2_isNearBeats_16 : decode cX2_isNearBeats 16 = .ok (.iload_n 1, 1) := by decide +kernel
theorem dX2_isNearBeats_17 : decode cX2_isNearBeats 17 = .ok (.iaload, 1) := by decide +kernel
theorem dX2_isNearBeats_18 : decode cX2_isNearBeats 18 = .ok (.isub, 1) := by decide +kernel
theorem dX2_isNearBeats_19 : decode cX2_isNearBeats 19 = .ok (.invokestatic 47, 3) := by decide +kernel
theorem dX2_isNearBeats_22 : decode cX2_isNearBeats 22 = .ok (.aload_n 0, 1) := by decide +kernel
theorem dX2_isNearBeats_23 : decode cX2_isNearBeats 23 = .ok (.getfield 25, 3) := by decide +kernel
theorem dX2_isNearBeats_26 : decode cX2_isNearBeats 26 = .ok (.if_icmp .gt 7, 3) := by decide +kernel
theorem dX2_isNearBeats_29 : decode cX2_isNearBeats 29 = .ok (.iconst 1, 1) := by decide +kernel
theorem dX2_isNearBeats_30 : decode cX2_isNearBeats 30 = .ok (.goto 4, 3) := by decide +kernel
theorem dX2_isNearBeats_33 : decode cX2_isNearBeats 33 = .ok (.iconst 0, 1) := by decide +kernel
theorem dX2_isNearBeats_34 : decode cX2_isNearBeats 34 = .ok (.ireturn, 1) := by decide +kernel
theorem dX2_isNearUp_0 : decode cX2_isNearUp 0 = .ok (.aload_n 0, 1) := by decide +kernel
theorem dX2_isNearUp_1 : decode cX2_isNearUp 1 = .ok (.getfield 18, 3) := by decide +kernel
theorem dX2_isNearUp_4 : decode cX2_isNearUp 4 = .ok (.iload_n 1, 1) := by decide +kernel
theorem dX2_isNearUp_5 : decode cX2_isNearUp 5 = .ok (.iaload, 1) := by decide +kernel
theorem dX2_isNearUp_6 : decode cX2_isNearUp 6 = .ok (.bipush (-9), 2) := by decide +kernel
theorem dX2_isNearUp_8 : decode cX2_isNearUp 8 = .ok (.if_icmp .eq 31, 3) := by decide +kernel
theorem dX2_isNearUp_11 : decode cX2_isNearUp 11 = .ok (.iload_n 2, 1) := by decide +kernel
theorem dX2_isNearUp_12 : decode cX2_isNearUp 12 = .ok (.aload_n 0, 1) := by decide +kernel
theorem dX2_isNearUp_13 : decode cX2_isNearUp 13 = .ok (.getfield 18, 3) := by decide +kernel
theorem dX2_isNearUp_16 : decode cX2_isNearUp 16 = .ok (.iload_n 1, 1) := by decide +kernel
theorem dX2_isNearUp_17 : decode cX2_isNearUp 17 = .ok (.iaload, 1) := by decide +kernel
theorem dX2_isNearUp_18 : decode cX2_isNearUp 18 = .ok (.isub, 1) := by decide +kernel
theorem dX2_isNearUp_19 : decode cX2_isNearUp 19 = .ok (.invokestatic 47, 3) := by decide +kernel
theorem dX2_isNearUp_22 : decode cX2_isNearUp 22 = .ok (.aload_n 0, 1) := by decide +kernel
theorem dX2_isNearUp_23 : decode cX2_isNearUp 23 = .ok (.getfield 18, 3) := by decide +kernel
theorem dX2_isNearUp_26 : decode cX2_isNearUp 26 = .ok (.iload_n 1, 1) := by decide +kernel
theorem dX2_isNearUp_27 : decode cX2_isNearUp 27 = .ok (.iaload, 1) := by decide +kernel
theorem dX2_isNearUp_28 : decode cX2_isNearUp 28 = .ok (.aload_n 0, 1) := by decide +kernel
theorem dX2_isNearUp_29 : decode cX2_isNearUp 29 = .ok (.getfield 28, 3) := by decide +kernel
theorem dX2_isNearUp_32 : decode cX2_isNearUp 32 = .ok (.imul, 1) := by decide +kernel
theorem dX2_isNearUp_33 : decode cX2_isNearUp 33 = .ok (.bipush 100, 2) := by decide +kernel
theorem dX2_isNearUp_35 : decode cX2_isNearUp 35 = .ok (.idiv, 1) := by decide +kernel
theorem dX2_isNearUp_36 : decode cX2_isNearUp 36 = .ok (.if_icmp .gt 7, 3) := by decide +kernel
theorem dX2_isNearUp_39 : decode cX2_isNearUp 39 = .ok (.iconst 1, 1) := by decide +kernel
theorem dX2_isNearUp_40 : decode cX2_isNearUp 40 = .ok (.goto 4, 3) := by decide +kernel
theorem dX2_isNearUp_43 : decode cX2_isNearUp 43 = .ok (.iconst 0, 1) := by decide +kernel
theorem dX2_isNearUp_44 : decode cX2_isNearUp 44 = .ok (.ireturn, 1) := by decide +kernel
theorem dX3_init_0 : decode cX3_init 0 = .ok (.aload_n 0, 1) := by decide +kernel
theorem dX3_init_1 : decode cX3_init 1 = .ok (.invokespecial 3, 3) := by decide +kernel
theorem dX3_init_4 : decode cX3_init 4 = .ok (.aload_n 0, 1) := by decide +kernel
theorem dX3_init_5 : decode cX3_init 5 = .ok (.sipush 150, 3) := by decide +kernel
theorem dX3_init_8 : decode cX3_init 8 = .ok (.newarray .byte, 2) := by decide +kernel
theorem dX3_init_10 : decode cX3_init 10 = .ok (.putfield 11, 3) := by decide +kernel
theorem dX3_init_13 : decode cX3_init 13 = .ok (.aload_n 0, 1) := by decide +kernel
theorem dX3_init_14 : decode cX3_init 14 = .ok (.iconst 0, 1) := by decide +kernel
theorem dX3_init_15 : decode cX3_init 15 = .ok (.putfield 15, 3) := by decide +kernel
theorem dX3_init_18 : decode cX3_init 18 = .ok (.aload_n 0, 1) := by decide +kernel
theorem dX3_init_19 : decode cX3_init 19 = .ok (.iconst 0, 1) := by decide +kernel
theorem dX3_init_20 : decode cX3_init 20 = .ok (.putfield 19, 3) := by decide +kernel
theorem dX3_init_23 : decode cX3_init 23 = .ok (.aload_n 0, 1) := by decide +kernel
theorem dX3_init_24 : decode cX3_init 24 = .ok (.bipush 120, 2) := by decide +kernel
theorem dX3_init_26 : decode cX3_init 26 = .ok (.newarray .int, 2) := by decide +kernel
theorem dX3_init_28 : decode cX3_init 28 = .ok (.putfield 22, 3) := by decide +kernel
theorem dX3_init_31 : decode cX3_init 31 = .ok (.aload_n 0, 1) := by decide +kernel
theorem dX3_init_32 : decode cX3_init 32 = .ok (.bipush 120, 2) := by decide +kernel
theorem dX3_init_34 : decode cX3_init 34 = .ok (.newarray .int, 2) := by decide +kernel
theorem dX3_init_36 : decode cX3_init 36 = .ok (.putfield 26, 3) := by decide +kernel
theorem dX3_init_39 : decode cX3_init 39 = .ok (.aload_n 0, 1) := by decide +kernel
theorem dX3_init_40 : decode cX3_init 40 = .ok (.iconst 0, 1) := by decide +kernel
theorem dX3_init_41 : decode cX3_init 41 = .ok (.putfield 29, 3) := by decide +kernel
theorem dX3_init_44 : decode cX3_init 44 = .ok (.aload_n 0, 1) := by decide +kernel
theorem dX3_init_45 : decode cX3_init 45 = .ok (.iconst 0, 1) := by decide +kernel
theorem dX3_init_46 : decode cX3_init 46 = .ok (.putfield 32, 3) := by decide +kernel
theorem dX3_init_49 : decode cX3_init 49 = .ok (.return_, 1) := by decide +kernel
theorem dX3_write_0 : decode cX3_write 0 = .ok (.aload_n 0, 1) := by decide +kernel
theorem dX3_write_1 : decode cX3_write 1 = .ok (.getfield 15, 3) := by decide +kernel
theorem dX3_write_4 : decode cX3_write 4 = .ok (.iload_n 3, 1) := by decide +kernel
theorem dX3_write_5 : decode cX3_write 5 = .ok (.iadd, 1) := by decide +kernel
theorem dX3_write_6 : decode cX3_write 6 = .ok (.sipush 150, 3) := by decide +kernel
theorem dX3_write_9 : decode cX3_write 9 = .ok (.if_icmp .le 6, 3) := by decide +kernel
theorem dX3_write_12 : decode cX3_write 12 = .ok (.bipush (-3), 2) := by decide +kernel
theorem dX3_write_14 : decode cX3_write 14 = .ok (.ireturn, 1) := by decide +kernel
theorem dX3_write_15 : decode cX3_write 15 = .ok (.iload_n 3, 1) := by decide +kernel
theorem dX3_write_16 : decode cX3_write 16 = .ok (.iconst 1, 1) := by decide +kernel
theorem dX3_write_17 : decode cX3_write 17 = .ok (.isub, 1) := by decide +kernel
theorem dX3_write_18 : decode cX3_write 18 = .ok (.istore 4, 2) := by decide +kernel
theorem dX3_write_20 : decode cX3_write 20 = .ok (.iload 4, 2) := by decide +kernel
theorem dX3_write_22 : decode cX3_write 22 = .ok (.ifCond .lt 37, 3) := by decide +kernel
theorem dX3_write_25 : decode cX3_write 25 = .ok (.aload_n 0, 1) := by decide +kernel
theorem dX3_write_26 : decode cX3_write 26 = .ok (.getfield 11, 3) := by decide +kernel
theorem dX3_write_29 : decode cX3_write 29 = .ok (.aload_n 0, 1) := by decide +kernel
theorem dX3_write_30 : decode cX3_write 30 = .ok (.getfield 15, 3) := by decide +kernel
theorem dX3_write_33 : decode cX3_write 33 = .ok (.lload_n 1, 1) := by decide +kernel
theorem dX3_write_34 : decode cX3_write 34 = .ok (.bipush 8, 2) := by decide +kernel
theorem dX3_write_36 : decode cX3_write 36 = .ok (.iload 4, 2) := by decide +kernel
theorem dX3_write_38 : decode cX3_write 38 = .ok (.imul, 1) := by decide +kernel
theorem dX3_write_39 : decode cX3_write 39 = .ok (.lshr, 1) := by decide +kernel
theorem dX3_write_40 : decode cX3_write 40 = .ok (.l2i, 1) := by decide +kernel
theorem dX3_write_41 : decode cX3_write 41 = .ok (.i2b, 1) := by decide +kernel
theorem dX3_write_42 : decode cX3_write 42 = .ok (.bastore, 1) := by decide +kernel
theorem dX3_write_43 : decode cX3_write 43 = .ok (.aload_n 0, 1) := by decide +kernel
theorem dX3_write_44 : decode cX3_write 44 = .ok (.dup, 1) := by decide +kernel
theorem dX3_write_45 : decode cX3_write 45 = .ok (.getfield 15, 3) := by decide +kernel
theorem dX3_write_48 : decode cX3_write 48 = .ok (.iconst 1, 1) := by decide +kernel
theorem dX3_write_49 : decode cX3_write 49 = .ok (.iadd, 1) := by decide +kernel
theorem dX3_write_50 : decode cX3_write 50 = .ok (.putfield 15, 3) := by decide +kernel
theorem dX3_write_53 : decode cX3_write 53 = .ok (.iinc 4 (-1), 3) := by decide +kernel
theorem dX3_write_56 : decode cX3_write 56 = .ok (.goto (-36), 3) := by decide +kernel
theorem dX3_write_59 : decode cX3_write 59 = .ok (.aload_n 0, 1) := by decide +kernel
theorem dX3_write_60 : decode cX3_write 60 = .ok (.getfield 15, 3) := by decide +kernel
theorem dX3_write_63 : decode cX3_write 63 = .ok (.ireturn, 1) := by decide +kernel
theorem dX3_litresOf_0 : decode cX3_litresOf 0 = .ok (.aload_n 0, 1) := by decide +kernel
theorem dX3_litresOf_1 : decode cX3_litresOf 1 = .ok (.getfield 22, 3) := by decide +kernel
theorem dX3_litresOf_4 : decode cX3_litresOf 4 = .ok (.iload_n 1, 1) := by decide +kernel
theorem dX3_litresOf_5 : decode cX3_litresOf 5 = .ok (.bipush 24, 2) := by decide +kernel
theorem dX3_litresOf_7 : decode cX3_litresOf 7 = .ok (.imul, 1) := by decide +kernel
theorem dX3_litresOf_8 : decode cX3_litresOf 8 = .ok (.iload_n 2, 1) := by decide +kernel
theorem dX3_litresOf_9 : decode cX3_litresOf 9 = .ok (.iadd, 1) := by decide +kernel
theorem dX3_litresOf_10 : decode cX3_litresOf 10 = .ok (.iaload, 1) := by decide +kernel
theorem dX3_litresOf_11 : decode cX3_litresOf 11 = .ok (.ireturn, 1) := by decide +kernel
set_option maxRecDepth 20000 in
theorem ggX3_tellAnew_J7_fill_53178 : GoodIn wsX3_tellAnew wsJ7_fill_53178 := goodIn_r _ [14] (by decide +kernel) (by decide +kernel)
set_option maxRecDepth 20000 in
theorem gX3_tellAnew_J7_fill_53178 : GoodIn wsX3_tellAnew (va_wsS RX3 36 yJ7_fill_53178 wsJ7_fill_53178) := goodIn_app (goodIn_of _ (by decide +kernel)) ggX3_tellAnew_J7_fill_53178
set_option maxRecDepth 20000 in
theorem ggX3_tellAnew_X3_readItem : GoodIn wsX3_tellAnew wsX3_readItem := goodIn_r _ [19, 3, 2, 1, 20, 21, 22, 18, 23, 4, 24, 25, 26, 27, 28, 29, 30, 31, 32, 33, 34, 35, 36, 37, 38, 39] (by decide +kernel) (by decide +kernel)
set_option maxRecDepth 20000 in
theorem gX3_tellAnew_X3_readItem : GoodIn wsX3_tellAnew (wsV RX3 42 RX3 yX3_readItem wsX3_readItem) := goodIn_app (goodIn_of _ (by decide +kernel)) ggX3_tellAnew_X3_readItem
theorem dX3_tellAnew_0 : decode cX3_tellAnew 0 = .ok (.aload_n 0, 1) := by decide +kernel
theorem dX3_tellAnew_1 : decode cX3_tellAnew 1 = .ok (.getfield 26, 3) := by decide +kernel
theorem dX3_tellAnew_4 : decode cX3_tellAnew 4 = .ok (.iconst 0, 1) := by decide +kernel
theorem dX3_tellAnew_5 : decode cX3_tellAnew 5 = .ok (.invokestatic 36, 3) := by decide +kernel
theorem dX3_tellAnew_8 : decode cX3_tellAnew 8 = .ok (.aload_n 0, 1) := by decide +kernel
theorem dX3_tellAnew_9 : decode cX3_tellAnew 9 = .ok (.iconst 0, 1) := by decide +kernel
theorem dX3_tellAnew_10 : decode cX3_tellAnew 10 = .ok (.putfield 29, 3) := by decide +kernel
theorem dX3_tellAnew_13 : decode cX3_tellAnew 13 = .ok (.aload_n 0, 1) := by decide +kernel
theorem dX3_tellAnew_14 : decode cX3_tellAnew 14 = .ok (.iconst 0, 1) := by decide +kernel
theorem dX3_tellAnew_15 : decode cX3_tellAnew 15 = .ok (.putfield 32, 3) := by decide +kernel
theorem dX3_tellAnew_18 : decode cX3_tellAnew 18 = .ok (.iconst 0, 1) := by decide +kernel
theorem dX3_tellAnew_19 : decode cX3_tellAnew 19 = .ok (.istore_n 1, 1) := by decide +kernel
theorem dX3_tellAnew_20 : decode cX3_tellAnew 20 = .ok (.iload_n 1, 1) := by decide +kernel
theorem dX3_tellAnew_21 : decode cX3_tellAnew 21 = .ok (.bipush 12, 2) := by decide +kernel
theorem dX3_tellAnew_23 : decode cX3_tellAnew 23 = .ok (.if_icmp .ge 31, 3) := by decide +kernel
theorem dX3_tellAnew_26 : decode cX3_tellAnew 26 = .ok (.aload_n 0, 1) := by decide +kernel
theorem dX3_tellAnew_27 : decode cX3_tellAnew 27 = .ok (.getfield 29, 3) := by decide +kernel
theorem dX3_tellAnew_30 : decode cX3_tellAnew 30 = .ok (.aload_n 0, 1) := by decide +kernel
theorem dX3_tellAnew_31 : decode cX3_tellAnew 31 = .ok (.getfield 15, 3) := by decide +kernel
theorem dX3_tellAnew_34 : decode cX3_tellAnew 34 = .ok (.if_icmp .ge 20, 3) := by decide +kernel
theorem dX3_tellAnew_37 : decode cX3_tellAnew 37 = .ok (.aload_n 0, 1) := by decide +kernel
theorem dX3_tellAnew_38 : decode cX3_tellAnew 38 = .ok (.getfield 32, 3) := by decide +kernel
theorem dX3_tellAnew_41 : decode cX3_tellAnew 41 = .ok (.ifCond .ne 13, 3) := by decide +kernel
theorem dX3_tellAnew_44 : decode cX3_tellAnew 44 = .ok (.aload_n 0, 1) := by decide +kernel
theorem dX3_tellAnew_45 : decode cX3_tellAnew 45 = .ok (.invokevirtual 42, 3) := by decide +kernel
theorem dX3_tellAnew_48 : decode cX3_tellAnew 48 = .ok (.iinc 1 1, 3) := by decide +kernel
theorem dX3_tellAnew_51 : decode cX3_tellAnew 51 = .ok (.goto (-31), 3) := by decide +kernel
theorem dX3_tellAnew_54 : decode cX3_tellAnew 54 = .ok (.aload_n 0, 1) := by decide +kernel
theorem dX3_tellAnew_55 : decode cX3_tellAnew 55 = .ok (.getfield 32, 3) := by decide +kernel
theorem dX3_tellAnew_58 : decode cX3_tellAnew 58 = .ok (.ifCond .ne 14, 3) := by decide +kernel
theorem dX3_tellAnew_61 : decode cX3_tellAnew 61 = .ok (.aload_n 0, 1) := by decide +kernel
theorem dX3_tellAnew_62 : decode cX3_tellAnew 62 = .ok (.getfield 29, 3) := by decide +kernel
theorem dX3_tellAnew_65 : decode cX3_tellAnew 65 = .ok (.aload_n 0, 1) := by decide +kernel
theorem dX3_tellAnew_66 : decode cX3_tellAnew 66 = .ok (.getfield 15, 3) := by decide +kernel
theorem dX3_tellAnew_69 : decode cX3_tellAnew 69 = .ok (.if_icmp .ge 11, 3) := by decide +kernel
theorem dX3_tellAnew_72 : decode cX3_tellAnew 72 = .ok (.bipush (-10), 2) := by decide +kernel
theorem dX3_tellAnew_74 : decode cX3_tellAnew 74 = .ok (.aload_n 0, 1) := by decide +kernel
theorem dX3_tellAnew_75 : decode cX3_tellAnew 75 = .ok (.getfield 29, 3) := by decide +kernel
theorem dX3_tellAnew_78 : decode cX3_tellAnew 78 = .ok (.isub, 1) := by decide +kernel
theorem dX3_tellAnew_79 : decode cX3_tellAnew 79 = .ok (.ireturn, 1) := by decide +kernel
theorem dX3_tellAnew_80 : decode cX3_tellAnew 80 = .ok (.aload_n 0, 1) := by decide +kernel
theorem dX3_tellAnew_81 : decode cX3_tellAnew 81 = .ok (.getfield 26, 3) := by decide +kernel
theorem dX3_tellAnew_84 : decode cX3_tellAnew 84 = .ok (.iconst 0, 1) := by decide +kernel
theorem dX3_tellAnew_85 : decode cX3_tellAnew 85 = .ok (.aload_n 0, 1) := by decide +kernel
theorem dX3_tellAnew_86 : decode cX3_tellAnew 86 = .ok (.getfield 22, 3) := by decide +kernel
theorem dX3_tellAnew_89 : decode cX3_tellAnew 89 = .ok (.iconst 0, 1) := by decide +kernel
theorem dX3_tellAnew_90 : decode cX3_tellAnew 90 = .ok (.aload_n 0, 1) := by decide +kernel
theorem dX3_tellAnew_91 : decode cX3_tellAnew 91 = .ok (.getfield 22, 3) := by decide +kernel
theorem dX3_tellAnew_94 : decode cX3_tellAnew 94 = .ok (.arraylength, 1) := by decide +kernel
theorem dX3_tellAnew_95 : decode cX3_tellAnew 95 = .ok (.invokestatic 45, 3) := by decide +kernel
theorem dX3_tellAnew_98 : decode cX3_tellAnew 98 = .ok (.aload_n 0, 1) := by decide +kernel
theorem dX3_tellAnew_99 : decode cX3_tellAnew 99 = .ok (.iload_n 1, 1) := by decide +kernel
theorem dX3_tellAnew_100 : decode cX3_tellAnew 100 = .ok (.putfield 19, 3) := by decide +kernel
theorem dX3_tellAnew_103 : decode cX3_tellAnew 103 = .ok (.aload_n 0, 1) := by decide +kernel
theorem dX3_tellAnew_104 : decode cX3_tellAnew 104 = .ok (.iconst 0, 1) := by decide +kernel
theorem dX3_tellAnew_105 : decode cX3_tellAnew 105 = .ok (.putfield 15, 3) := by decide +kernel
theorem dX3_tellAnew_108 : decode cX3_tellAnew 108 = .ok (.iload_n 1, 1) := by decide +kernel
theorem dX3_tellAnew_109 : decode cX3_tellAnew 109 = .ok (.ireturn, 1) := by decide +kernel
set_option maxRecDepth 20000 in
theorem ggX3_readItem_X3_readSign : GoodIn wsX3_readItem wsX3_readSign := goodIn_r _ [8, 1, 2, 9, 10, 19, 20, 21, 22, 23, 24, 25] (by decide +kernel) (by decide +kernel)
set_option maxRecDepth 20000 in
theorem gX3_readItem_X3_readSign : GoodIn wsX3_readItem (wsV RX3 51 RX3 yX3_readSign wsX3_readSign) := goodIn_app (goodIn_of _ (by decide +kernel)) ggX3_readItem_X3_readSign
set_option maxRecDepth 20000 in
theorem ggX3_readItem_X3_readNumber : GoodIn wsX3_readItem wsX3_readNumber := goodIn_r _ [14, 1, 2, 9, 15, 16, 17, 7, 18, 10, 19, 20, 21, 22, 23, 24, 25] (by decide +kernel) (by decide +kernel)
set_option maxRecDepth 20000 in
theorem gX3_readItem_X3_readNumber : GoodIn wsX3_readItem (wsV RX3 55 RX3 yX3_readNumber wsX3_readNumber) := goodIn_app (goodIn_of _ (by decide +kernel)) ggX3_readItem_X3_readNumber
theorem dX3_readItem_0 : decode cX3_readItem 0 = .ok (.aload_n 0, 1) := by decide +kernel
theorem dX3_readItem_1 : decode cX3_readItem 1 = .ok (.bipush 102, 2) := by decide +kernel
theorem dX3_readItem_3 : decode cX3_readItem 3 = .ok (.invokevirtual 51, 3) := by decide +kernel
theorem dX3_readItem_6 : decode cX3_readItem 6 = .ok (.aload_n 0, 1) := by decide +kernel
theorem dX3_readItem_7 : decode cX3_readItem 7 = .ok (.iconst 0, 1) := by decide +kernel
theorem dX3_readItem_8 : decode cX3_readItem 8 = .ok (.iconst 4, 1) := by decide +kernel
theorem dX3_readItem_9 : decode cX3_readItem 9 = .ok (.invokevirtual 55, 3) := by decide +kernel
theorem dX3_readItem_12 : decode cX3_readItem 12 = .ok (.istore_n 1, 1) := by decide +kernel
theorem dX3_readItem_13 : decode cX3_readItem 13 = .ok (.aload_n 0, 1) := by decide +kernel
theorem dX3_readItem_14 : decode cX3_readItem 14 = .ok (.bipush 32, 2) := by decide +kernel
theorem dX3_readItem_16 : decode cX3_readItem 16 = .ok (.invokevirtual 51, 3) := by decide +kernel
theorem dX3_readItem_19 : decode cX3_readItem 19 = .ok (.aload_n 0, 1) := by decide +kernel
theorem dX3_readItem_20 : decode cX3_readItem 20 = .ok (.iconst 0, 1) := by decide +kernel
theorem dX3_readItem_21 : decode cX3_readItem 21 = .ok (.bipush 23, 2) := by decide +kernel
theorem dX3_readItem_23 : decode cX3_readItem 23 = .ok (.invokevirtual 55, 3) := by decide +kernel
theorem dX3_readItem_26 : decode cX3_readItem 26 = .ok (.istore_n 2, 1) := by decide +kernel
theorem dX3_readItem_27 : decode cX3_readItem 27 = .ok (.aload_n 0, 1) := by decide +kernel
theorem dX3_readItem_28 : decode cX3_readItem 28 = .ok (.bipush 45, 2) := by decide +kernel
theorem dX3_readItem_30 : decode cX3_readItem 30 = .ok (.invokevirtual 51, 3) := by decide +kernel
theorem dX3_readItem_33 : decode cX3_readItem 33 = .ok (.aload_n 0, 1) := by decide +kernel
theorem dX3_readItem_34 : decode cX3_readItem 34 = .ok (.iconst 1, 1) := by decide +kernel
theorem dX3_readItem_35 : decode cX3_readItem 35 = .ok (.bipush 24, 2) := by decide +kernel
theorem dX3_readItem_37 : decode cX3_readItem 37 = .ok (.invokevirtual 55, 3) := by decide +kernel
theorem dX3_readItem_40 : decode cX3_readItem 40 = .ok (.istore_n 3, 1) := by decide +kernel
theorem dX3_readItem_41 : decode cX3_readItem 41 = .ok (.aload_n 0, 1) := by decide +kernel
theorem dX3_readItem_42 : decode cX3_readItem 42 = .ok (.getfield 32, 3) := by decide +kernel
theorem dX3_readItem_45 : decode cX3_readItem 45 = .ok (.ifCond .ne 23, 3) := by decide +kernel
theorem dX3_readItem_48 : decode cX3_readItem 48 = .ok (.iload_n 3, 1) := by decide +kernel
theorem dX3_readItem_49 : decode cX3_readItem 49 = .ok (.iload_n 2, 1) := by decide +kernel
theorem dX3_readItem_50 : decode cX3_readItem 50 = .ok (.if_icmp .gt 18, 3) := by decide +kernel
theorem dX3_readItem_53 : decode cX3_readItem 53 = .ok (.aload_n 0, 1) := by decide +kernel
theorem dX3_readItem_54 : decode cX3_readItem 54 = .ok (.iconst 1, 1) := by decide +kernel
theorem dX3_readItem_55 : decode cX3_readItem 55 = .ok (.putfield 32, 3) := by decide +kernel
theorem dX3_readItem_58 : decode cX3_readItem 58 = .ok (.aload_n 0, 1) := by decide +kernel
theorem dX3_readItem_59 : decode cX3_readItem 59 = .ok (.dup, 1) := by decide +kernel
theorem dX3_readItem_60 : decode cX3_readItem 60 = .ok (.getfield 29, 3) := by decide +kernel
theorem dX3_readItem_63 : decode cX3_readItem 63 = .ok (.iconst 1, 1) := by decide +kernel
theorem dX3_readItem_64 : decode cX3_readItem 64 = .ok (.isub, 1) := by decide +kernel
theorem dX3_readItem_65 : decode cX3_readItem 65 = .ok (.putfield 29, 3) := by decide +kernel
theorem dX3_readItem_68 : decode cX3_readItem 68 = .ok (.aload_n 0, 1) := by decide +kernel
theorem dX3_readItem_69 : decode cX3_readItem 69 = .ok (.bipush 58, 2) := by decide +kernel
theorem dX3_readItem_71 : decode cX3_readItem 71 = .ok (.invokevirtual 51, 3) := by decide +kernel
theorem dX3_readItem_74 : decode cX3_readItem 74 = .ok (.aload_n 0, 1) := by decide +kernel
theorem dX3_readItem_75 : decode cX3_readItem 75 = .ok (.iconst 1, 1) := by decide +kernel
theorem dX3_readItem_76 : decode cX3_readItem 76 = .ok (.sipush 9999, 3) := by decide +kernel
theorem dX3_readItem_79 : decode cX3_readItem 79 = .ok (.invokevirtual 55, 3) := by decide +kernel
theorem dX3_readItem_82 : decode cX3_readItem 82 = .ok (.istore 4, 2) := by decide +kernel
theorem dX3_readItem_84 : decode cX3_readItem 84 = .ok (.aload_n 0, 1) := by decide +kernel
theorem dX3_readItem_85 : decode cX3_readItem 85 = .ok (.bipush 59, 2) := by decide +kernel
theorem dX3_readItem_87 : decode cX3_readItem 87 = .ok (.invokevirtual 51, 3) := by decide +kernel
theorem dX3_readItem_90 : decode cX3_readItem 90 = .ok (.iload_n 2, 1) := by decide +kernel
theorem dX3_readItem_91 : decode cX3_readItem 91 = .ok (.istore 5, 2) := by decide +kernel
theorem dX3_readItem_93 : decode cX3_readItem 93 = .ok (.iload 5, 2) := by decide +kernel
theorem dX3_readItem_95 : decode cX3_readItem 95 = .ok (.iload_n 3, 1) := by decide +kernel
theorem dX3_readItem_96 : decode cX3_readItem 96 = .ok (.if_icmp .ge 33, 3) := by decide +kernel
theorem dX3_readItem_99 : decode cX3_readItem 99 = .ok (.aload_n 0, 1) := by decide +kernel
theorem dX3_readItem_100 : decode cX3_readItem 100 = .ok (.getfield 32, 3) := by decide +kernel
theorem dX3_readItem_103 : decode cX3_readItem 103 = .ok (.ifCond .ne 26, 3) := by decide +kernel
theorem dX3_readItem_106 : decode cX3_readItem 106 = .ok (.aload_n 0, 1) := by decide +kernel
theorem dX3_readItem_107 : decode cX3_readItem 107 = .ok (.getfield 26, 3) := by decide +kernel
theorem dX3_readItem_110 : decode cX3_readItem 110 = .ok (.iload_n 1, 1) := by decide +kernel
theorem dX3_readItem_111 : decode cX3_readItem 111 = .ok (.bipush 24, 2) := by decide +kernel
theorem dX3_readItem_113 : decode cX3_readItem 113 = .ok (.imul, 1) := by decide +kernel
theorem dX3_readItem_114 : decode cX3_readItem 114 = .ok (.iload 5, 2) := by decide +kernel
theorem dX3_readItem_116 : decode cX3_readItem 116 = .ok (.iadd, 1) := by decide +kernel
theorem dX3_readItem_117 : decode cX3_readItem 117 = .ok (.dup2, 1) := by decide +kernel
theorem dX3_readItem_118 : decode cX3_readItem 118 = .ok (.iaload, 1) := by decide +kernel
theorem dX3_readItem_119 : decode cX3_readItem 119 = .ok (.iload 4, 2) := by decide +kernel
theorem dX3_readItem_121 : decode cX3_readItem 121 = .ok (.iadd, 1) := by decide +kernel
theorem dX3_readItem_122 : decode cX3_readItem 122 = .ok (.iastore, 1) := by decide +kernel
theorem dX3_readItem_123 : decode cX3_readItem 123 = .ok (.iinc 5 1, 3) := by decide +kernel
theorem dX3_readItem_126 : decode cX3_readItem 126 = .ok (.goto (-33), 3) := by decide +kernel
theorem dX3_readItem_129 : decode cX3_readItem 129 = .ok (.return_, 1) := by decide +kernel
theorem dX3_readSign_0 : decode cX3_readSign 0 = .ok (.aload_n 0, 1) := by decide +kernel
theorem dX3_readSign_1 : decode cX3_readSign 1 = .ok (.getfield 32, 3) := by decide +kernel
theorem dX3_readSign_4 : decode cX3_readSign 4 = .ok (.ifCond .eq 4, 3) := by decide +kernel
theorem dX3_readSign_7 : decode cX3_readSign 7 = .ok (.return_, 1) := by decide +kernel
theorem dX3_readSign_8 : decode cX3_readSign 8 = .ok (.aload_n 0, 1) := by decide +kernel
theorem dX3_readSign_9 : decode cX3_readSign 9 = .ok (.getfield 29, 3) := by decide +kernel
theorem dX3_readSign_12 : decode cX3_readSign 12 = .ok (.aload_n 0, 1) := by decide +kernel
theorem dX3_readSign_13 : decode cX3_readSign 13 = .ok (.getfield 15, 3) := by decide +kernel
theorem dX3_readSign_16 : decode cX3_readSign 16 = .ok (.if_icmp .ge 29, 3) := by decide +kernel
theorem dX3_readSign_19 : decode cX3_readSign 19 = .ok (.aload_n 0, 1) := by decide +kernel
theorem dX3_readSign_20 : decode cX3_readSign 20 = .ok (.getfield 11, 3) := by decide +kernel
theorem dX3_readSign_23 : decode cX3_readSign 23 = .ok (.aload_n 0, 1) := by decide +kernel
theorem dX3_readSign_24 : decode cX3_readSign 24 = .ok (.getfield 29, 3) := by decide +kernel
theorem dX3_readSign_27 : decode cX3_readSign 27 = .ok (.baload, 1) := by decide +kernel
theorem dX3_readSign_28 : decode cX3_readSign 28 = .ok (.iload_n 1, 1) := by decide +kernel
theorem dX3_readSign_29 : decode cX3_readSign 29 = .ok (.if_icmp .ne 16, 3) := by decide +kernel
theorem dX3_readSign_32 : decode cX3_readSign 32 = .ok (.aload_n 0, 1) := by decide +kernel
theorem dX3_readSign_33 : decode cX3_readSign 33 = .ok (.dup, 1) := by decide +kernel
theorem dX3_readSign_34 : decode cX3_readSign 34 = .ok (.getfield 29, 3) := by decide +kernel
theorem dX3_readSign_37 : decode cX3_readSign 37 = .ok (.iconst 1, 1) := by decide +kernel
theorem dX3_readSign_38 : decode cX3_readSign 38 = .ok (.iadd, 1) := by decide +kernel
theorem dX3_readSign_39 : decode cX3_readSign 39 = .ok (.putfield 29, 3) := by decide +kernel
theorem dX3_readSign_42 : decode cX3_readSign 42 = .ok (.goto 8, 3) := by decide +kernel
theorem dX3_readSign_45 : decode cX3_readSign 45 = .ok (.aload_n 0, 1) := by decide +kernel
theorem dX3_readSign_46 : decode cX3_readSign 46 = .ok (.iconst 1, 1) := by decide +kernel
theorem dX3_readSign_47 : decode cX3_readSign 47 = .ok (.putfield 32, 3) := by decide +kernel
theorem dX3_readSign_50 : decode cX3_readSign 50 = .ok (.return_, 1) := by decide +kernel
set_option maxRecDepth 20000 in
theorem ggX3_readNumber_X3_digitHere : GoodIn wsX3_readNumber wsX3_digitHere := goodIn_r _ [8, 2, 3, 9, 10, 11, 12, 13, 14, 15, 16] (by decide +kernel) (by decide +kernel)
set_option maxRecDepth 20000 in
theorem gX3_readNumber_X3_digitHere : GoodIn wsX3_readNumber (wsV RX3 59 RX3 yX3_digitHere wsX3_digitHere) := goodIn_app (goodIn_of _ (by decide +kernel)) ggX3_readNumber_X3_digitHere
theorem dX3_readNumber_0 : decode cX3_readNumber 0 = .ok (.aload_n 0, 1) := by decide +kernel
theorem dX3_readNumber_1 : decode cX3_readNumber 1 = .ok (.getfield 32, 3) := by decide +kernel
theorem dX3_readNumber_4 : decode cX3_readNumber 4 = .ok (.ifCond .eq 5, 3) := by decide +kernel
theorem dX3_readNumber_7 : decode cX3_readNumber 7 = .ok (.iconst 0, 1) := by decide +kernel
theorem dX3_readNumber_8 : decode cX3_readNumber 8 = .ok (.ireturn, 1) := by decide +kernel
theorem dX3_readNumber_9 : decode cX3_readNumber 9 = .ok (.aload_n 0, 1) := by decide +kernel
theorem dX3_readNumber_10 : decode cX3_readNumber 10 = .ok (.invokevirtual 59, 3) := by decide +kernel
theorem dX3_readNumber_13 : decode cX3_readNumber 13 = .ok (.istore_n 3, 1) := by decide +kernel
theorem dX3_readNumber_14 : decode cX3_readNumber 14 = .ok (.iload_n 3, 1) := by decide +kernel
theorem dX3_readNumber_15 : decode cX3_readNumber 15 = .ok (.ifCond .lt 16, 3) := by decide +kernel
theorem dX3_readNumber_18 : decode cX3_readNumber 18 = .ok (.iload_n 3, 1) := by decide +kernel
theorem dX3_readNumber_19 : decode cX3_readNumber 19 = .ok (.iload_n 2, 1) := by decide +kernel
theorem dX3_readNumber_20 : decode cX3_readNumber 20 = .ok (.if_icmp .gt 11, 3) := by decide +kernel
theorem dX3_readNumber_23 : decode cX3_readNumber 23 = .ok (.iload_n 3, 1) := by decide +kernel
theorem dX3_readNumber_24 : decode cX3_readNumber 24 = .ok (.ifCond .ne 14, 3) := by decide +kernel
theorem dX3_readNumber_27 : decode cX3_readNumber 27 = .ok (.iload_n 1, 1) := by decide +kernel
theorem dX3_readNumber_28 : decode cX3_readNumber 28 = .ok (.ifCond .le 10, 3) := by decide +kernel
theorem dX3_readNumber_31 : decode cX3_readNumber 31 = .ok (.aload_n 0, 1) := by decide +kernel
theorem dX3_readNumber_32 : decode cX3_readNumber 32 = .ok (.iconst 1, 1) := by decide +kernel
theorem dX3_readNumber_33 : decode cX3_readNumber 33 = .ok (.putfield 32, 3) := by decide +kernel
theorem dX3_readNumber_36 : decode cX3_readNumber 36 = .ok (.iconst 0, 1) := by decide +kernel
theorem dX3_readNumber_37 : decode cX3_readNumber 37 = .ok (.ireturn, 1) := by decide +kernel
theorem dX3_readNumber_38 : decode cX3_readNumber 38 = .ok (.aload_n 0, 1) := by decide +kernel
theorem dX3_readNumber_39 : decode cX3_readNumber 39 = .ok (.dup, 1) := by decide +kernel
theorem dX3_readNumber_40 : decode cX3_readNumber 40 = .ok (.getfield 29, 3) := by decide +kernel
theorem dX3_readNumber_43 : decode cX3_readNumber 43 = .ok (.iconst 1, 1) := by decide +kernel
theorem dX3_readNumber_44 : decode cX3_readNumber 44 = .ok (.iadd, 1) := by decide +kernel
theorem dX3_readNumber_45 : decode cX3_readNumber 45 = .ok (.putfield 29, 3) := by decide +kernel
theorem dX3_readNumber_48 : decode cX3_readNumber 48 = .ok (.aload_n 0, 1) := by decide +kernel
theorem dX3_readNumber_49 : decode cX3_readNumber 49 = .ok (.getfield 29, 3) := by decide +kernel
theorem dX3_readNumber_52 : decode cX3_readNumber 52 = .ok (.aload_n 0, 1) := by decide +kernel
theorem dX3_readNumber_53 : decode cX3_readNumber 53 = .ok (.getfield 15, 3) := by decide +kernel
theorem dX3_readNumber_56 : decode cX3_readNumber 56 = .ok (.if_icmp .ge 53, 3) := by decide +kernel
theorem dX3_readNumber_59 : decode cX3_readNumber 59 = .ok (.iload_n 3, 1) := by decide +kernel
theorem dX3_readNumber_60 : decode cX3_readNumber 60 = .ok (.ifCond .le 49, 3) := by decide +kernel
theorem dX3_readNumber_63 : decode cX3_readNumber 63 = .ok (.aload_n 0, 1) := by decide +kernel
theorem dX3_readNumber_64 : decode cX3_readNumber 64 = .ok (.invokevirtual 59, 3) := by decide +kernel
theorem dX3_readNumber_67 : decode cX3_readNumber 67 = .ok (.istore 4, 2) := by decide +kernel
theorem dX3_readNumber_69 : decode cX3_readNumber 69 = .ok (.iload 4, 2) := by decide +kernel
theorem dX3_readNumber_71 : decode cX3_readNumber 71 = .ok (.ifCond .ge 5, 3) := by decide +kernel
theorem dX3_readNumber_74 : decode cX3_readNumber 74 = .ok (.iload_n 3, 1) := by decide +kernel
theorem dX3_readNumber_75 : decode cX3_readNumber 75 = .ok (.ireturn, 1) := by decide +kernel
theorem dX3_readNumber_76 : decode cX3_readNumber 76 = .ok (.bipush 10, 2) := by decide +kernel
theorem dX3_readNumber_78 : decode cX3_readNumber 78 = .ok (.iload_n 3, 1) := by decide +kernel
theorem dX3_readNumber_79 : decode cX3_readNumber 79 = .ok (.imul, 1) := by decide +kernel
theorem dX3_readNumber_80 : decode cX3_readNumber 80 = .ok (.iload 4, 2) := by decide +kernel
theorem dX3_readNumber_82 : decode cX3_readNumber 82 = .ok (.iadd, 1) := by decide +kernel
theorem dX3_readNumber_83 : decode cX3_readNumber 83 = .ok (.istore_n 3, 1) := by decide +kernel
theorem dX3_readNumber_84 : decode cX3_readNumber 84 = .ok (.iload_n 3, 1) := by decide +kernel
theorem dX3_readNumber_85 : decode cX3_readNumber 85 = .ok (.iload_n 2, 1) := by decide +kernel
theorem dX3_readNumber_86 : decode cX3_readNumber 86 = .ok (.if_icmp .le 10, 3) := by decide +kernel
theorem dX3_readNumber_89 : decode cX3_readNumber 89 = .ok (.aload_n 0, 1) := by decide +kernel
theorem dX3_readNumber_90 : decode cX3_readNumber 90 = .ok (.iconst 1, 1) := by decide +kernel
theorem dX3_readNumber_91 : decode cX3_readNumber 91 = .ok (.putfield 32, 3) := by decide +kernel
theorem dX3_readNumber_94 : decode cX3_readNumber 94 = .ok (.iconst 0, 1) := by decide +kernel
theorem dX3_readNumber_95 : decode cX3_readNumber 95 = .ok (.ireturn, 1) := by decide +kernel
theorem dX3_readNumber_96 : decode cX3_readNumber 96 = .ok (.aload_n 0, 1) := by decide +kernel
theorem dX3_readNumber_97 : decode cX3_readNumber 97 = .ok (.dup, 1) := by decide +kernel
theorem dX3_readNumber_98 : decode cX3_readNumber 98 = .ok (.getfield 29, 3) := by decide +kernel
theorem dX3_readNumber_101 : decode cX3_readNumber 101 = .ok (.iconst 1, 1) := by decide +kernel
theorem dX3_readNumber_102 : decode cX3_readNumber 102 = .ok (.iadd, 1) := by decide +kernel
theorem dX3_readNumber_103 : decode cX3_readNumber 103 = .ok (.putfield 29, 3) := by decide +kernel
theorem dX3_readNumber_106 : decode cX3_readNumber 106 = .ok (.goto (-58), 3) := by decide +kernel
theorem dX3_readNumber_109 : decode cX3_readNumber 109 = .ok (.iload_n 3, 1) := by decide +kernel
theorem dX3_readNumber_110 : decode cX3_readNumber 110 = .ok (.ireturn, 1) := by decide +kernel
theorem dX3_digitHere_0 : decode cX3_digitHere 0 = .ok (.aload_n 0, 1) := by decide +kernel
theorem dX3_digitHere_1 : decode cX3_digitHere 1 = .ok (.getfield 29, 3) := by decide +kernel
theorem dX3_digitHere_4 : decode cX3_digitHere 4 = .ok (.aload_n 0, 1) := by decide +kernel
theorem dX3_digitHere_5 : decode cX3_digitHere 5 = .ok (.getfield 15, 3) := by decide +kernel
theorem dX3_digitHere_8 : decode cX3_digitHere 8 = .ok (.if_icmp .ge 31, 3) := by decide +kernel
theorem dX3_digitHere_11 : decode cX3_digitHere 11 = .ok (.aload_n 0, 1) := by decide +kernel
theorem dX3_digitHere_12 : decode cX3_digitHere 12 = .ok (.getfield 11, 3) := by decide +kernel
theorem dX3_digitHere_15 : decode cX3_digitHere 15 = .ok (.aload_n 0, 1) := by decide +kernel
theorem dX3_digitHere_16 : decode cX3_digitHere 16 = .ok (.getfield 29, 3) := by decide +kernel
theorem dX3_digitHere_19 : decode cX3_digitHere 19 = .ok (.baload, 1) := by decide +kernel
theorem dX3_digitHere_20 : decode cX3_digitHere 20 = .ok (.bipush 48, 2) := by decide +kernel
theorem dX3_digitHere_22 : decode cX3_digitHere 22 = .ok (.if_icmp .lt 17, 3) := by decide +kernel
theorem dX3_digitHere_25 : decode cX3_digitHere 25 = .ok (.aload_n 0, 1) := by decide +kernel
theorem dX3_digitHere_26 : decode cX3_digitHere 26 = .ok (.getfield 11, 3) := by decide +kernel
theorem dX3_digitHere_29 : decode cX3_digitHere 29 = .ok (.aload_n 0, 1) := by decide +kernel
theorem dX3_digitHere_30 : decode cX3_digitHere 30 = .ok (.getfield 29, 3) := by decide +kernel
theorem dX3_digitHere_33 : decode cX3_digitHere 33 = .ok (.baload, 1) := by decide +kernel
theorem dX3_digitHere_34 : decode cX3_digitHere 34 = .ok (.bipush 57, 2) := by decide +kernel
theorem dX3_digitHere_36 : decode cX3_digitHere 36 = .ok (.if_icmp .le 6, 3) := by decide +kernel
theorem dX3_digitHere_39 : decode cX3_digitHere 39 = .ok (.bipush (-9), 2) := by decide +kernel
theorem dX3_digitHere_41 : decode cX3_digitHere 41 = .ok (.ireturn, 1) := by decide +kernel
theorem dX3_digitHere_42 : decode cX3_digitHere 42 = .ok (.aload_n 0, 1) := by decide +kernel
theorem dX3_digitHere_43 : decode cX3_digitHere 43 = .ok (.getfield 11, 3) := by decide +kernel
theorem dX3_digitHere_46 : decode cX3_digitHere 46 = .ok (.aload_n 0, 1) := by decide +kernel
theorem dX3_digitHere_47 : decode cX3_digitHere 47 = .ok (.getfield 29, 3) := by decide +kernel
theorem dX3_digitHere_50 : decode cX3_digitHere 50 = .ok (.baload, 1) := by decide +kernel
theorem dX3_digitHere_51 : decode cX3_digitHere 51 = .ok (.bipush 48, 2) := by decide +kernel
theorem dX3_digitHere_53 : decode cX3_digitHere 53 = .ok (.isub, 1) := by decide +kernel
theorem dX3_digitHere_54 : decode cX3_digitHere 54 = .ok (.ireturn, 1) := by decide +kernel
set_option maxRecDepth 20000 in
theorem ggX4_init_J7_fill_53178 : GoodIn wsX4_init wsJ7_fill_53178 := goodIn_r _ [12] (by decide +kernel) (by decide +kernel)
set_option maxRecDepth 20000 in
theorem gX4_init_J7_fill_53178 : GoodIn wsX4_init (va_wsS RX4 25 yJ7_fill_53178 wsJ7_fill_53178) := goodIn_app (goodIn_of _ (by decide +kernel)) ggX4_init_J7_fill_53178
theorem dX4_init_0 : decode cX4_init 0 = .ok (.aload_n 0, 1) := by decide +kernel
theorem dX4_init_1 : decode cX4_init 1 = .ok (.invokespecial 3, 3) := by decide +kernel
theorem dX4_init_4 : decode cX4_init 4 = .ok (.aload_n 0, 1) := by decide +kernel
theorem dX4_init_5 : decode cX4_init 5 = .ok (.bipush 12, 2) := by decide +kernel
theorem dX4_init_7 : decode cX4_init 7 = .ok (.newarray .int, 2) := by decide +kernel
theorem dX4_init_9 : decode cX4_init 9 = .ok (.putfield 9, 3) := by decide +kernel
theorem dX4_init_12 : decode cX4_init 12 = .ok (.aload_n 0, 1) := by decide +kernel
theorem dX4_init_13 : decode cX4_init 13 = .ok (.bipush 12, 2) := by decide +kernel
theorem dX4_init_15 : decode cX4_init 15 = .ok (.newarray .int, 2) := by decide +kernel
theorem dX4_init_17 : decode cX4_init 17 = .ok (.putfield 15, 3) := by decide +kernel
theorem dX4_init_20 : decode cX4_init 20 = .ok (.aload_n 0, 1) := by decide +kernel
theorem dX4_init_21 : decode cX4_init 21 = .ok (.iconst 0, 1) := by decide +kernel
theorem dX4_init_22 : decode cX4_init 22 = .ok (.putfield 18, 3) := by decide +kernel
theorem dX4_init_25 : decode cX4_init 25 = .ok (.aload_n 0, 1) := by decide +kernel
theorem dX4_init_26 : decode cX4_init 26 = .ok (.iconst 0, 1) := by decide +kernel
theorem dX4_init_27 : decode cX4_init 27 = .ok (.putfield 22, 3) := by decide +kernel
theorem dX4_init_30 : decode cX4_init 30 = .ok (.aload_n 0, 1) := by decide +kernel
theorem dX4_init_31 : decode cX4_init 31 = .ok (.getfield 9, 3) := by decide +kernel
theorem dX4_init_34 : decode cX4_init 34 = .ok (.sipush 20000, 3) := by decide +kernel
theorem dX4_init_37 : decode cX4_init 37 = .ok (.invokestatic 25, 3) := by decide +kernel
theorem dX4_init_40 : decode cX4_init 40 = .ok (.return_, 1) := by decide +kernel
set_option maxRecDepth 20000 in
theorem ggX4_stop_X1_trait : GoodIn wsX4_stop wsX1_trait := goodIn_r _ [8, 9, 10, 11, 12, 17, 18, 19, 20, 21, 22, 23, 24] (by decide +kernel) (by decide +kernel)
set_option maxRecDepth 20000 in
theorem gX4_stop_X1_trait : GoodIn wsX4_stop (wsV RX4 31 RX1 yX1_trait wsX1_trait) := goodIn_app (goodIn_of _ (by decide +kernel)) ggX4_stop_X1_trait
theorem dX4_stop_0 : decode cX4_stop 0 = .ok (.iload_n 3, 1) := by decide +kernel
theorem dX4_stop_1 : decode cX4_stop 1 = .ok (.aload_n 0, 1) := by decide +kernel
theorem dX4_stop_2 : decode cX4_stop 2 = .ok (.getfield 18, 3) := by decide +kernel
theorem dX4_stop_5 : decode cX4_stop 5 = .ok (.if_icmp .lt 15, 3) := by decide +kernel
theorem dX4_stop_8 : decode cX4_stop 8 = .ok (.iload_n 3, 1) := by decide +kernel
theorem dX4_stop_9 : decode cX4_stop 9 = .ok (.aload_n 0, 1) := by decide +kernel
theorem dX4_stop_10 : decode cX4_stop 10 = .ok (.getfield 22, 3) := by decide +kernel
theorem dX4_stop_13 : decode cX4_stop 13 = .ok (.if_icmp .ge 7, 3) := by decide +kernel
theorem dX4_stop_16 : decode cX4_stop 16 = .ok (.iconst 1, 1) := by decide +kernel
theorem dX4_stop_17 : decode cX4_stop 17 = .ok (.goto 4, 3) := by decide +kernel
theorem dX4_stop_20 : decode cX4_stop 20 = .ok (.iconst 0, 1) := by decide +kernel
theorem dX4_stop_21 : decode cX4_stop 21 = .ok (.istore 4, 2) := by decide +kernel
theorem dX4_stop_23 : decode cX4_stop 23 = .ok (.iload 4, 2) := by decide +kernel
theorem dX4_stop_25 : decode cX4_stop 25 = .ok (.ifCond .ne 22, 3) := by decide +kernel
theorem dX4_stop_28 : decode cX4_stop 28 = .ok (.iload_n 3, 1) := by decide +kernel
theorem dX4_stop_29 : decode cX4_stop 29 = .ok (.aload_n 0, 1) := by decide +kernel
theorem dX4_stop_30 : decode cX4_stop 30 = .ok (.getfield 15, 3) := by decide +kernel
theorem dX4_stop_33 : decode cX4_stop 33 = .ok (.iload_n 2, 1) := by decide +kernel
theorem dX4_stop_34 : decode cX4_stop 34 = .ok (.iaload, 1) := by decide +kernel
theorem dX4_stop_35 : decode cX4_stop 35 = .ok (.if_icmp .ge 16, 3) := by decide +kernel
theorem dX4_stop_38 : decode cX4_stop 38 = .ok (.aload_n 1, 1) := by decide +kernel
theorem dX4_stop_39 : decode cX4_stop 39 = .ok (.iconst 5, 1) := by decide +kernel
theorem dX4_stop_40 : decode cX4_stop 40 = .ok (.invokevirtual 31, 3) := by decide +kernel
theorem dX4_stop_43 : decode cX4_stop 43 = .ok (.iconst 3, 1) := by decide +kernel
theorem dX4_stop_44 : decode cX4_stop 44 = .ok (.if_icmp .ge 7, 3) := by decide +kernel
theorem dX4_stop_47 : decode cX4_stop 47 = .ok (.iconst 1, 1) := by decide +kernel
theorem dX4_stop_48 : decode cX4_stop 48 = .ok (.goto 4, 3) := by decide +kernel
theorem dX4_stop_51 : decode cX4_stop 51 = .ok (.iconst 0, 1) := by decide +kernel
theorem dX4_stop_52 : decode cX4_stop 52 = .ok (.ireturn, 1) := by decide +kernel
theorem dX5_init_0 : decode cX5_init 0 = .ok (.aload_n 0, 1) := by decide +kernel
theorem dX5_init_1 : decode cX5_init 1 = .ok (.invokespecial 3, 3) := by decide +kernel
theorem dX5_init_4 : decode cX5_init 4 = .ok (.aload_n 0, 1) := by decide +kernel
theorem dX5_init_5 : decode cX5_init 5 = .ok (.ldc 9, 2) := by decide +kernel
theorem dX5_init_7 : decode cX5_init 7 = .ok (.putfield 10, 3) := by decide +kernel
theorem dX5_init_10 : decode cX5_init 10 = .ok (.aload_n 0, 1) := by decide +kernel
theorem dX5_init_11 : decode cX5_init 11 = .ok (.iconst 0, 1) := by decide +kernel
theorem dX5_init_12 : decode cX5_init 12 = .ok (.putfield 16, 3) := by decide +kernel
theorem dX5_init_15 : decode cX5_init 15 = .ok (.aload_n 0, 1) := by decide +kernel
theorem dX5_init_16 : decode cX5_init 16 = .ok (.lconst 0, 1) := by decide +kernel
theorem dX5_init_17 : decode cX5_init 17 = .ok (.putfield 19, 3) := by decide +kernel
theorem dX5_init_20 : decode cX5_init 20 = .ok (.aload_n 0, 1) := by decide +kernel
theorem dX5_init_21 : decode cX5_init 21 = .ok (.lconst 0, 1) := by decide +kernel
theorem dX5_init_22 : decode cX5_init 22 = .ok (.putfield 23, 3) := by decide +kernel
theorem dX5_init_25 : decode cX5_init 25 = .ok (.aload_n 0, 1) := by decide +kernel
theorem dX5_init_26 : decode cX5_init 26 = .ok (.lconst 0, 1) := by decide +kernel
theorem dX5_init_27 : decode cX5_init 27 = .ok (.putfield 26, 3) := by decide +kernel
theorem dX5_init_30 : decode cX5_init 30 = .ok (.aload_n 0, 1) := by decide +kernel
theorem dX5_init_31 : decode cX5_init 31 = .ok (.lconst 0, 1) := by decide +kernel
theorem dX5_init_32 : decode cX5_init 32 = .ok (.putfield 29, 3) := by decide +kernel
theorem dX5_init_35 : decode cX5_init 35 = .ok (.aload_n 0, 1) := by decide +kernel
theorem dX5_init_36 : decode cX5_init 36 = .ok (.lconst 0, 1) := by decide +kernel
theorem dX5_init_37 : decode cX5_init 37 = .ok (.putfield 32, 3) := by decide +kernel
theorem dX5_init_40 : decode cX5_init 40 = .ok (.aload_n 0, 1) := by decide +kernel
theorem dX5_init_41 : decode cX5_init 41 = .ok (.iconst 5, 1) := by decide +kernel
theorem dX5_init_42 : decode cX5_init 42 = .ok (.newarray .long, 2) := by decide +kernel
theorem dX5_init_44 : decode cX5_init 44 = .ok (.putfield 35, 3) := by decide +kernel
theorem dX5_init_47 : decode cX5_init 47 = .ok (.return_, 1) := by decide +kernel
set_option maxRecDepth 20000 in
theorem ggX5_changeRoom_X7_within : GoodIn wsX5_changeRoom wsX7_within := goodIn_r _ [6] (by decide +kernel) (by decide +kernel)
set_option maxRecDepth 20000 in
theorem gX5_changeRoom_X7_within_n40 : GoodIn wsX5_changeRoom (wsX7_within) := ggX5_changeRoom_X7_within
theorem dX5_changeRoom_0 : decode cX5_changeRoom 0 = .ok (.iload_n 1, 1) := by decide +kernel
theorem dX5_changeRoom_1 : decode cX5_changeRoom 1 = .ok (.bipush 100, 2) := by decide +kernel
theorem dX5_changeRoom_3 : decode cX5_changeRoom 3 = .ok (.ldc 39, 2) := by decide +kernel
theorem dX5_changeRoom_5 : decode cX5_changeRoom 5 = .ok (.invokestatic 40, 3) := by decide +kernel
theorem dX5_changeRoom_8 : decode cX5_changeRoom 8 = .ok (.ifCond .eq 11, 3) := by decide +kernel
theorem dX5_changeRoom_11 : decode cX5_changeRoom 11 = .ok (.iload_n 1, 1) := by decide +kernel
theorem dX5_changeRoom_12 : decode cX5_changeRoom 12 = .ok (.aload_n 0, 1) := by decide +kernel
theorem dX5_changeRoom_13 : decode cX5_changeRoom 13 = .ok (.getfield 16, 3) := by decide +kernel
theorem dX5_changeRoom_16 : decode cX5_changeRoom 16 = .ok (.if_icmp .ge 5, 3) := by decide +kernel
theorem dX5_changeRoom_19 : decode cX5_changeRoom 19 = .ok (.iconst (-1), 1) := by decide +kernel
theorem dX5_changeRoom_20 : decode cX5_changeRoom 20 = .ok (.ireturn, 1) := by decide +kernel
theorem dX5_changeRoom_21 : decode cX5_changeRoom 21 = .ok (.aload_n 0, 1) := by decide +kernel
theorem dX5_changeRoom_22 : decode cX5_changeRoom 22 = .ok (.getfield 10, 3) := by decide +kernel
theorem dX5_changeRoom_25 : decode cX5_changeRoom 25 = .ok (.istore_n 2, 1) := by decide +kernel
theorem dX5_changeRoom_26 : decode cX5_changeRoom 26 = .ok (.aload_n 0, 1) := by decide +kernel
theorem dX5_changeRoom_27 : decode cX5_changeRoom 27 = .ok (.iload_n 1, 1) := by decide +kernel
theorem dX5_changeRoom_28 : decode cX5_changeRoom 28 = .ok (.putfield 10, 3) := by decide +kernel
theorem dX5_changeRoom_31 : decode cX5_changeRoom 31 = .ok (.iload_n 2, 1) := by decide +kernel
theorem dX5_changeRoom_32 : decode cX5_changeRoom 32 = .ok (.ireturn, 1) := by decide +kernel
set_option maxRecDepth 20000 in
theorem ggX5_changeHeld_X7_within : GoodIn wsX5_changeHeld wsX7_within := goodIn_r _ [5] (by decide +kernel) (by decide +kernel)
set_option maxRecDepth 20000 in
theorem gX5_changeHeld_X7_within_n40 : GoodIn wsX5_changeHeld (wsX7_within) := ggX5_changeHeld_X7_within
theorem dX5_changeHeld_0 : decode cX5_changeHeld 0 = .ok (.iload_n 1, 1) := by decide +kernel
theorem dX5_changeHeld_1 : decode cX5_changeHeld 1 = .ok (.iconst 0, 1) := by decide +kernel
theorem dX5_changeHeld_2 : decode cX5_changeHeld 2 = .ok (.aload_n 0, 1) := by decide +kernel
theorem dX5_changeHeld_3 : decode cX5_changeHeld 3 = .ok (.getfield 10, 3) := by decide +kernel
theorem dX5_changeHeld_6 : decode cX5_changeHeld 6 = .ok (.invokestatic 40, 3) := by decide +kernel
theorem dX5_changeHeld_9 : decode cX5_changeHeld 9 = .ok (.ifCond .ne 5, 3) := by decide +kernel
theorem dX5_changeHeld_12 : decode cX5_changeHeld 12 = .ok (.iconst (-1), 1) := by decide +kernel
theorem dX5_changeHeld_13 : decode cX5_changeHeld 13 = .ok (.ireturn, 1) := by decide +kernel
theorem dX5_changeHeld_14 : decode cX5_changeHeld 14 = .ok (.aload_n 0, 1) := by decide +kernel
theorem dX5_changeHeld_15 : decode cX5_changeHeld 15 = .ok (.getfield 16, 3) := by decide +kernel
theorem dX5_changeHeld_18 : decode cX5_changeHeld 18 = .ok (.istore_n 2, 1) := by decide +kernel
theorem dX5_changeHeld_19 : decode cX5_changeHeld 19 = .ok (.aload_n 0, 1) := by decide +kernel
theorem dX5_changeHeld_20 : decode cX5_changeHeld 20 = .ok (.iload_n 1, 1) := by decide +kernel
theorem dX5_changeHeld_21 : decode cX5_changeHeld 21 = .ok (.putfield 16, 3) := by decide +kernel
theorem dX5_changeHeld_24 : decode cX5_changeHeld 24 = .ok (.iload_n 2, 1) := by decide +kernel
theorem dX5_changeHeld_25 : decode cX5_changeHeld 25 = .ok (.ireturn, 1) := by decide +kernel
theorem dX5_receive_0 : decode cX5_receive 0 = .ok (.aload_n 0, 1) := by decide +kernel
theorem dX5_receive_1 : decode cX5_receive 1 = .ok (.dup, 1) := by decide +kernel
theorem dX5_receive_2 : decode cX5_receive 2 = .ok (.getfield 16, 3) := by decide +kernel
theorem dX5_receive_5 : decode cX5_receive 5 = .ok (.iload_n 1, 1) := by decide +kernel
theorem dX5_receive_6 : decode cX5_receive 6 = .ok (.iadd, 1) := by decide +kernel
theorem dX5_receive_7 : decode cX5_receive 7 = .ok (.putfield 16, 3) := by decide +kernel
theorem dX5_receive_10 : decode cX5_receive 10 = .ok (.aload_n 0, 1) := by decide +kernel
theorem dX5_receive_11 : decode cX5_receive 11 = .ok (.dup, 1) := by decide +kernel
theorem dX5_receive_12 : decode cX5_receive 12 = .ok (.getfield 19, 3) := by decide +kernel
theorem dX5_receive_15 : decode cX5_receive 15 = .ok (.iload_n 1, 1) := by decide +kernel
theorem dX5_receive_16 : decode cX5_receive 16 = .ok (.i2l, 1) := by decide +kernel
theorem dX5_receive_17 : decode cX5_receive 17 = .ok (.ladd, 1) := by decide +kernel
theorem dX5_receive_18 : decode cX5_receive 18 = .ok (.putfield 19, 3) := by decide +kernel
theorem dX5_receive_21 : decode cX5_receive 21 = .ok (.aload_n 0, 1) := by decide +kernel
theorem dX5_receive_22 : decode cX5_receive 22 = .ok (.dup, 1) := by decide +kernel
theorem dX5_receive_23 : decode cX5_receive 23 = .ok (.getfield 23, 3) := by decide +kernel
theorem dX5_receive_26 : decode cX5_receive 26 = .ok (.iload_n 2, 1) := by decide +kernel
theorem dX5_receive_27 : decode cX5_receive 27 = .ok (.i2l, 1) := by decide +kernel
theorem dX5_receive_28 : decode cX5_receive 28 = .ok (.ladd, 1) := by decide +kernel
theorem dX5_receive_29 : decode cX5_receive 29 = .ok (.putfield 23, 3) := by decide +kernel
theorem dX5_receive_32 : decode cX5_receive 32 = .ok (.return_, 1) := by decide +kernel
theorem dX5_spillOver_0 : decode cX5_spillOver 0 = .ok (.aload_n 0, 1) := by decide +kernel
theorem dX5_spillOver_1 : decode cX5_spillOver 1 = .ok (.getfield 16, 3) := by decide +kernel
theorem dX5_spillOver_4 : decode cX5_spillOver 4 = .ok (.aload_n 0, 1) := by decide +kernel
theorem dX5_spillOver_5 : decode cX5_spillOver 5 = .ok (.getfield 10, 3) := by decide +kernel
theorem dX5_spillOver_8 : decode cX5_spillOver 8 = .ok (.isub, 1) := by decide +kernel
theorem dX5_spillOver_9 : decode cX5_spillOver 9 = .ok (.iconst 0, 1) := by decide +kernel
theorem dX5_spillOver_10 : decode cX5_spillOver 10 = .ok (.invokestatic 44, 3) := by decide +kernel
theorem dX5_spillOver_13 : decode cX5_spillOver 13 = .ok (.istore_n 1, 1) := by decide +kernel
theorem dX5_spillOver_14 : decode cX5_spillOver 14 = .ok (.aload_n 0, 1) := by decide +kernel
theorem dX5_spillOver_15 : decode cX5_spillOver 15 = .ok (.dup, 1) := by decide +kernel
theorem dX5_spillOver_16 : decode cX5_spillOver 16 = .ok (.getfield 16, 3) := by decide +kernel
theorem dX5_spillOver_19 : decode cX5_spillOver 19 = .ok (.iload_n 1, 1) := by decide +kernel
theorem dX5_spillOver_20 : decode cX5_spillOver 20 = .ok (.isub, 1) := by decide +kernel
theorem dX5_spillOver_21 : decode cX5_spillOver 21 = .ok (.putfield 16, 3) := by decide +kernel
theorem dX5_spillOver_24 : decode cX5_spillOver 24 = .ok (.aload_n 0, 1) := by decide +kernel
theorem dX5_spillOver_25 : decode cX5_spillOver 25 = .ok (.dup, 1) := by decide +kernel
theorem dX5_spillOver_26 : decode cX5_spillOver 26 = .ok (.getfield 26, 3) := by decide +kernel
theorem dX5_spillOver_29 : decode cX5_spillOver 29 = .ok (.iload_n 1, 1) := by decide +kernel
theorem dX5_spillOver_30 : decode cX5_spillOver 30 = .ok (.i2l, 1) := by decide +kernel
theorem dX5_spillOver_31 : decode cX5_spillOver 31 = .ok (.ladd, 1) := by decide +kernel
theorem dX5_spillOver_32 : decode cX5_spillOver 32 = .ok (.putfield 26, 3) := by decide +kernel
theorem dX5_spillOver_35 : decode cX5_spillOver 35 = .ok (.return_, 1) := by decide +kernel
theorem dX5_serve_0 : decode cX5_serve 0 = .ok (.iload_n 2, 1) := by decide +kernel
theorem dX5_serve_1 : decode cX5_serve 1 = .ok (.aload_n 0, 1) := by decide +kernel
theorem dX5_serve_2 : decode cX5_serve 2 = .ok (.getfield 16, 3) := by decide +kernel
theorem dX5_serve_5 : decode cX5_serve 5 = .ok (.invokestatic 50, 3) := by decide +kernel
theorem dX5_serve_8 : decode cX5_serve 8 = .ok (.istore_n 3, 1) := by decide +kernel
theorem dX5_serve_9 : decode cX5_serve 9 = .ok (.aload_n 0, 1) := by decide +kernel
theorem dX5_serve_10 : decode cX5_serve 10 = .ok (.dup, 1) := by decide +kernel
theorem dX5_serve_11 : decode cX5_serve 11 = .ok (.getfield 16, 3) := by decide +kernel
theorem dX5_serve_14 : decode cX5_serve 14 = .ok (.iload_n 3, 1) := by decide +kernel
theorem dX5_serve_15 : decode cX5_serve 15 = .ok (.isub, 1) := by decide +kernel
theorem dX5_serve_16 : decode cX5_serve 16 = .ok (.putfield 16, 3) := by decide +kernel
theorem dX5_serve_19 : decode cX5_serve 19 = .ok (.aload_n 0, 1) := by decide +kernel
theorem dX5_serve_20 : decode cX5_serve 20 = .ok (.dup, 1) := by decide +kernel
theorem dX5_serve_21 : decode cX5_serve 21 = .ok (.getfield 29, 3) := by decide +kernel
theorem dX5_serve_24 : decode cX5_serve 24 = .ok (.iload_n 3, 1) := by decide +kernel
theorem dX5_serve_25 : decode cX5_serve 25 = .ok (.i2l, 1) := by decide +kernel
theorem dX5_serve_26 : decode cX5_serve 26 = .ok (.ladd, 1) := by decide +kernel
theorem dX5_serve_27 : decode cX5_serve 27 = .ok (.putfield 29, 3) := by decide +kernel
theorem dX5_serve_30 : decode cX5_serve 30 = .ok (.aload_n 0, 1) := by decide +kernel
theorem dX5_serve_31 : decode cX5_serve 31 = .ok (.dup, 1) := by decide +kernel
theorem dX5_serve_32 : decode cX5_serve 32 = .ok (.getfield 32, 3) := by decide +kernel
theorem dX5_serve_35 : decode cX5_serve 35 = .ok (.iload_n 2, 1) := by decide +kernel
theorem dX5_serve_36 : decode cX5_serve 36 = .ok (.iload_n 3, 1) := by decide +kernel
theorem dX5_serve_37 : decode cX5_serve 37 = .ok (.isub, 1) := by decide +kernel
theorem dX5_serve_38 : decode cX5_serve 38 = .ok (.i2l, 1) := by decide +kernel
theorem dX5_serve_39 : decode cX5_serve 39 = .ok (.ladd, 1) := by decide +kernel
theorem dX5_serve_40 : decode cX5_serve 40 = .ok (.putfield 32, 3) := by decide +kernel
theorem dX5_serve_43 : decode cX5_serve 43 = .ok (.aload_n 0, 1) := by decide +kernel
theorem dX5_serve_44 : decode cX5_serve 44 = .ok (.getfield 35, 3) := by decide +kernel
theorem dX5_serve_47 : decode cX5_serve 47 = .ok (.iload_n 1, 1) := by decide +kernel
theorem dX5_serve_48 : decode cX5_serve 48 = .ok (.dup2, 1) := by decide +kernel
theorem dX5_serve_49 : decode cX5_serve 49 = .ok (.laload, 1) := by decide +kernel
theorem dX5_serve_50 : decode cX5_serve 50 = .ok (.iload_n 2, 1) := by decide +kernel
theorem dX5_serve_51 : decode cX5_serve 51 = .ok (.iload_n 3, 1) := by decide +kernel
theorem dX5_serve_52 : decode cX5_serve 52 = .ok (.isub, 1) := by decide +kernel
theorem dX5_serve_53 : decode cX5_serve 53 = .ok (.i2l, 1) := by decide +kernel
theorem dX5_serve_54 : decode cX5_serve 54 = .ok (.ladd, 1) := by decide +kernel
theorem dX5_serve_55 : decode cX5_serve 55 = .ok (.lastore, 1) := by decide +kernel
theorem dX5_serve_56 : decode cX5_serve 56 = .ok (.return_, 1) := by decide +kernel
theorem dX6_init_0 : decode cX6_init 0 = .ok (.aload_n 0, 1) := by decide +kernel
theorem dX6_init_1 : decode cX6_init 1 = .ok (.invokespecial 5, 3) := by decide +kernel
theorem dX6_init_4 : decode cX6_init 4 = .ok (.aload_n 0, 1) := by decide +kernel
theorem dX6_init_5 : decode cX6_init 5 = .ok (.bipush 6, 2) := by decide +kernel
theorem dX6_init_7 : decode cX6_init 7 = .ok (.newarray .int, 2) := by decide +kernel
theorem dX6_init_9 : decode cX6_init 9 = .ok (.putfield 11, 3) := by decide +kernel
theorem dX6_init_12 : decode cX6_init 12 = .ok (.aload_n 0, 1) := by decide +kernel
theorem dX6_init_13 : decode cX6_init 13 = .ok (.bipush 6, 2) := by decide +kernel
theorem dX6_init_15 : decode cX6_init 15 = .ok (.newarray .int, 2) := by decide +kernel
theorem dX6_init_17 : decode cX6_init 17 = .ok (.putfield 15, 3) := by decide +kernel
theorem dX6_init_20 : decode cX6_init 20 = .ok (.aload_n 0, 1) := by decide +kernel
theorem dX6_init_21 : decode cX6_init 21 = .ok (.iconst 0, 1) := by decide +kernel
theorem dX6_init_22 : decode cX6_init 22 = .ok (.putfield 18, 3) := by decide +kernel
theorem dX6_init_25 : decode cX6_init 25 = .ok (.aload_n 0, 1) := by decide +kernel
theorem dX6_init_26 : decode cX6_init 26 = .ok (.bipush 28, 2) := by decide +kernel
theorem dX6_init_28 : decode cX6_init 28 = .ok (.newarray .int, 2) := by decide +kernel
theorem dX6_init_30 : decode cX6_init 30 = .ok (.putfield 22, 3) := by decide +kernel
theorem dX6_init_33 : decode cX6_init 33 = .ok (.aload_n 0, 1) := by decide +kernel
theorem dX6_init_34 : decode cX6_init 34 = .ok (.bipush 28, 2) := by decide +kernel
theorem dX6_init_36 : decode cX6_init 36 = .ok (.newarray .int, 2) := by decide +kernel
theorem dX6_init_38 : decode cX6_init 38 = .ok (.putfield 25, 3) := by decide +kernel
theorem dX6_init_41 : decode cX6_init 41 = .ok (.aload_n 0, 1) := by decide +kernel
theorem dX6_init_42 : decode cX6_init 42 = .ok (.iconst 0, 1) := by decide +kernel
theorem dX6_init_43 : decode cX6_init 43 = .ok (.putfield 28, 3) := by decide +kernel
theorem dX6_init_46 : decode cX6_init 46 = .ok (.aload_n 0, 1) := by decide +kernel
theorem dX6_init_47 : decode cX6_init 47 = .ok (.iconst 0, 1) := by decide +kernel
theorem dX6_init_48 : decode cX6_init 48 = .ok (.putfield 31, 3) := by decide +kernel
theorem dX6_init_51 : decode cX6_init 51 = .ok (.return_, 1) := by decide +kernel
theorem dX6_keep_0 : decode cX6_keep 0 = .ok (.aload_n 0, 1) := by decide +kernel
theorem dX6_keep_1 : decode cX6_keep 1 = .ok (.getfield 18, 3) := by decide +kernel
theorem dX6_keep_4 : decode cX6_keep 4 = .ok (.bipush 6, 2) := by decide +kernel
theorem dX6_keep_6 : decode cX6_keep 6 = .ok (.if_icmp .lt 6, 3) := by decide +kernel
theorem dX6_keep_9 : decode cX6_keep 9 = .ok (.bipush (-3), 2) := by decide +kernel
theorem dX6_keep_11 : decode cX6_keep 11 = .ok (.ireturn, 1) := by decide +kernel
theorem dX6_keep_12 : decode cX6_keep 12 = .ok (.aload_n 0, 1) := by decide +kernel
theorem dX6_keep_13 : decode cX6_keep 13 = .ok (.getfield 11, 3) := by decide +kernel
theorem dX6_keep_16 : decode cX6_keep 16 = .ok (.aload_n 0, 1) := by decide +kernel
theorem dX6_keep_17 : decode cX6_keep 17 = .ok (.getfield 18, 3) := by decide +kernel
theorem dX6_keep_20 : decode cX6_keep 20 = .ok (.iload_n 1, 1) := by decide +kernel
theorem dX6_keep_21 : decode cX6_keep 21 = .ok (.iastore, 1) := by decide +kernel
theorem dX6_keep_22 : decode cX6_keep 22 = .ok (.aload_n 0, 1) := by decide +kernel
theorem dX6_keep_23 : decode cX6_keep 23 = .ok (.getfield 15, 3) := by decide +kernel
theorem dX6_keep_26 : decode cX6_keep 26 = .ok (.aload_n 0, 1) := by decide +kernel
theorem dX6_keep_27 : decode cX6_keep 27 = .ok (.getfield 18, 3) := by decide +kernel
theorem dX6_keep_30 : decode cX6_keep 30 = .ok (.iload_n 2, 1) := by decide +kernel
theorem dX6_keep_31 : decode cX6_keep 31 = .ok (.iastore, 1) := by decide +kernel
theorem dX6_keep_32 : decode cX6_keep 32 = .ok (.aload_n 0, 1) := by decide +kernel
theorem dX6_keep_33 : decode cX6_keep 33 = .ok (.dup, 1) := by decide +kernel
theorem dX6_keep_34 : decode cX6_keep 34 = .ok (.getfield 18, 3) := by decide +kernel
theorem dX6_keep_37 : decode cX6_keep 37 = .ok (.iconst 1, 1) := by decide +kernel
theorem dX6_keep_38 : decode cX6_keep 38 = .ok (.iadd, 1) := by decide +kernel
theorem dX6_keep_39 : decode cX6_keep 39 = .ok (.putfield 18, 3) := by decide +kernel
theorem dX6_keep_42 : decode cX6_keep 42 = .ok (.aload_n 0, 1) := by decide +kernel
theorem dX6_keep_43 : decode cX6_keep 43 = .ok (.getfield 18, 3) := by decide +kernel
theorem dX6_keep_46 : decode cX6_keep 46 = .ok (.iconst 1, 1) := by decide +kernel
theorem dX6_keep_47 : decode cX6_keep 47 = .ok (.isub, 1) := by decide +kernel
theorem dX6_keep_48 : decode cX6_keep 48 = .ok (.ireturn, 1) := by decide +kernel
set_option maxRecDepth 20000 in
theorem ggX6_tryOn_X1_put : GoodIn wsX6_tryOn wsX1_put := goodIn_r _ [10, 11, 12, 13, 14, 15, 74, 75, 76, 77, 78, 79, 80, 81] (by decide +kernel) (by decide +kernel)
set_option maxRecDepth 20000 in
theorem gX6_tryOn_X1_put : GoodIn wsX6_tryOn (wsV RX6 34 RX1 yX1_put wsX1_put) := goodIn_app (goodIn_of _ (by decide +kernel)) ggX6_tryOn_X1_put
set_option maxRecDepth 20000 in
theorem ggX6_tryOn_X1_stalls : GoodIn wsX6_tryOn wsX1_stalls := goodIn_r _ [19, 20, 21, 22, 23, 9, 24, 12, 25, 26, 27, 11, 28, 29, 30, 31, 32, 33, 74, 75, 76, 77, 78, 79, 80, 81] (by decide +kernel) (by decide +kernel)
set_option maxRecDepth 20000 in
theorem gX6_tryOn_X1_stalls : GoodIn wsX6_tryOn (wsV RX6 40 RX1 yX1_stalls wsX1_stalls) := goodIn_app (goodIn_of _ (by decide +kernel)) ggX6_tryOn_X1_stalls
set_option maxRecDepth 20000 in
theorem ggX6_tryOn_X1_drawsAnHour : GoodIn wsX6_tryOn wsX1_drawsAnHour := goodIn_r _ [37, 38, 39, 40, 9, 41, 11, 26, 42, 17, 18, 19, 20, 21, 22, 23, 24, 12, 25, 27, 28, 29, 30, 31, 32, 33, 43, 44, 45, 46, 47, 48, 49, 50, 51, 52, 53, 54, 55, 56, 57, 58, 59, 60, 61, 62, 63, 64, 65, 74, 75, 76, 77, 78, 79, 80, 81] (by decide +kernel) (by decide +kernel)
set_option maxRecDepth 20000 in
theorem gX6_tryOn_X1_drawsAnHour : GoodIn wsX6_tryOn (wsV RX6 44 RX1 yX1_drawsAnHour wsX1_drawsAnHour) := goodIn_app (goodIn_of _ (by decide +kernel)) ggX6_tryOn_X1_drawsAnHour
set_option maxRecDepth 20000 in
theorem ggX6_tryOn_X1_upAnHour : GoodIn wsX6_tryOn wsX1_upAnHour := goodIn_r _ [50, 43, 44, 45, 9, 46, 27, 21, 22, 23, 24, 12, 20, 25, 26, 11, 28, 29, 30, 31, 32, 33, 51, 52, 53, 54, 55, 56, 57, 58, 59, 60, 61, 62, 63, 64, 65, 74, 75, 76, 77, 78, 79, 80, 81] (by decide +kernel) (by decide +kernel)
set_option maxRecDepth 20000 in
theorem gX6_tryOn_X1_upAnHour : GoodIn wsX6_tryOn (wsV RX6 48 RX1 yX1_upAnHour wsX1_upAnHour) := goodIn_app (goodIn_of _ (by decide +kernel)) ggX6_tryOn_X1_upAnHour
theorem dX6_tryOn_0 : decode cX6_tryOn 0 = .ok (.iload_n 1, 1) := by decide +kernel
theorem dX6_tryOn_1 : decode cX6_tryOn 1 = .ok (.bipush 7, 2) := by decide +kernel
theorem dX6_tryOn_3 : decode cX6_tryOn 3 = .ok (.imul, 1) := by decide +kernel
theorem dX6_tryOn_4 : decode cX6_tryOn 4 = .ok (.istore_n 3, 1) := by decide +kernel
theorem dX6_tryOn_5 : decode cX6_tryOn 5 = .ok (.iconst 0, 1) := by decide +kernel
theorem dX6_tryOn_6 : decode cX6_tryOn 6 = .ok (.istore 4, 2) := by decide +kernel
theorem dX6_tryOn_8 : decode cX6_tryOn 8 = .ok (.iload 4, 2) := by decide +kernel
theorem dX6_tryOn_10 : decode cX6_tryOn 10 = .ok (.aload_n 0, 1) := by decide +kernel
theorem dX6_tryOn_11 : decode cX6_tryOn 11 = .ok (.getfield 18, 3) := by decide +kernel
theorem dX6_tryOn_14 : decode cX6_tryOn 14 = .ok (.if_icmp .ge 75, 3) := by decide +kernel
theorem dX6_tryOn_17 : decode cX6_tryOn 17 = .ok (.aload_n 2, 1) := by decide +kernel
theorem dX6_tryOn_18 : decode cX6_tryOn 18 = .ok (.iconst 4, 1) := by decide +kernel
theorem dX6_tryOn_19 : decode cX6_tryOn 19 = .ok (.aload_n 0, 1) := by decide +kernel
theorem dX6_tryOn_20 : decode cX6_tryOn 20 = .ok (.getfield 11, 3) := by decide +kernel
theorem dX6_tryOn_23 : decode cX6_tryOn 23 = .ok (.iload 4, 2) := by decide +kernel
theorem dX6_tryOn_25 : decode cX6_tryOn 25 = .ok (.iaload, 1) := by decide +kernel
theorem dX6_tryOn_26 : decode cX6_tryOn 26 = .ok (.invokevirtual 34, 3) := by decide +kernel
theorem dX6_tryOn_29 : decode cX6_tryOn 29 = .ok (.aload_n 2, 1) := by decide +kernel
theorem dX6_tryOn_30 : decode cX6_tryOn 30 = .ok (.iconst 5, 1) := by decide +kernel
theorem dX6_tryOn_31 : decode cX6_tryOn 31 = .ok (.aload_n 0, 1) := by decide +kernel
theorem dX6_tryOn_32 : decode cX6_tryOn 32 = .ok (.getfield 15, 3) := by decide +kernel
theorem dX6_tryOn_35 : decode cX6_tryOn 35 = .ok (.iload 4, 2) := by decide +kernel
theorem dX6_tryOn_37 : decode cX6_tryOn 37 = .ok (.iaload, 1) := by decide +kernel
theorem dX6_tryOn_38 : decode cX6_tryOn 38 = .ok (.invokevirtual 34, 3) := by decide +kernel
theorem dX6_tryOn_41 : decode cX6_tryOn 41 = .ok (.aload_n 0, 1) := by decide +kernel
theorem dX6_tryOn_42 : decode cX6_tryOn 42 = .ok (.getfield 22, 3) := by decide +kernel
theorem dX6_tryOn_45 : decode cX6_tryOn 45 = .ok (.iload_n 3, 1) := by decide +kernel
theorem dX6_tryOn_46 : decode cX6_tryOn 46 = .ok (.iload 4, 2) := by decide +kernel
theorem dX6_tryOn_48 : decode cX6_tryOn 48 = .ok (.iadd, 1) := by decide +kernel
theorem dX6_tryOn_49 : decode cX6_tryOn 49 = .ok (.iconst 1, 1) := by decide +kernel
theorem dX6_tryOn_50 : decode cX6_tryOn 50 = .ok (.iadd, 1) := by decide +kernel
theorem dX6_tryOn_51 : decode cX6_tryOn 51 = .ok (.aload_n 2, 1) := by decide +kernel
theorem dX6_tryOn_52 : decode cX6_tryOn 52 = .ok (.invokevirtual 40, 3) := by decide +kernel
theorem dX6_tryOn_55 : decode cX6_tryOn 55 = .ok (.ifCond .eq 8, 3) := by decide +kernel
theorem dX6_tryOn_58 : decode cX6_tryOn 58 = .ok (.bipush (-9), 2) := by decide +kernel
theorem dX6_tryOn_60 : decode cX6_tryOn 60 = .ok (.goto 7, 3) := by decide +kernel
theorem dX6_tryOn_63 : decode cX6_tryOn 63 = .ok (.aload_n 2, 1) := by decide +kernel
theorem dX6_tryOn_64 : decode cX6_tryOn 64 = .ok (.invokevirtual 44, 3) := by decide +kernel
theorem dX6_tryOn_67 : decode cX6_tryOn 67 = .ok (.iastore, 1) := by decide +kernel
theorem dX6_tryOn_68 : decode cX6_tryOn 68 = .ok (.aload_n 0, 1) := by decide +kernel
theorem dX6_tryOn_69 : decode cX6_tryOn 69 = .ok (.getfield 25, 3) := by decide +kernel
theorem dX6_tryOn_72 : decode cX6_tryOn 72 = .ok (.iload_n 3, 1) := by decide +kernel
theorem dX6_tryOn_73 : decode cX6_tryOn 73 = .ok (.iload 4, 2) := by decide +kernel
theorem dX6_tryOn_75 : decode cX6_tryOn 75 = .ok (.iadd, 1) := by decide +kernel
theorem dX6_tryOn_76 : decode cX6_tryOn 76 = .ok (.iconst 1, 1) := by decide +kernel
theorem dX6_tryOn_77 : decode cX6_tryOn 77 = .ok (.iadd, 1) := by decide +kernel
theorem dX6_tryOn_78 : decode cX6_tryOn 78 = .ok (.aload_n 2, 1) := by decide +kernel
theorem dX6_tryOn_79 : decode cX6_tryOn 79 = .ok (.invokevirtual 48, 3) := by decide +kernel
theorem dX6_tryOn_82 : decode cX6_tryOn 82 = .ok (.iastore, 1) := by decide +kernel
theorem dX6_tryOn_83 : decode cX6_tryOn 83 = .ok (.iinc 4 1, 3) := by decide +kernel
theorem dX6_tryOn_86 : decode cX6_tryOn 86 = .ok (.goto (-78), 3) := by decide +kernel
theorem dX6_tryOn_89 : decode cX6_tryOn 89 = .ok (.return_, 1) := by decide +kernel
set_option maxRecDepth 20000 in
theorem ggX6_pick_X6_numbers : GoodIn wsX6_pick wsX6_numbers := goodIn_r _ [6] (by decide +kernel) (by decide +kernel)
set_option maxRecDepth 20000 in
theorem gX6_pick_X6_numbers : GoodIn wsX6_pick (va_wsS RX6 51 yX6_numbers wsX6_numbers) := goodIn_app (goodIn_of _ (by decide +kernel)) ggX6_pick_X6_numbers
set_option maxRecDepth 20000 in
theorem ggX6_pick_X6_upOf : GoodIn wsX6_pick wsX6_upOf := goodIn_r _ [10, 11, 12, 13, 14, 15, 16, 17, 18, 19, 20] (by decide +kernel) (by decide +kernel)
set_option maxRecDepth 20000 in
theorem gX6_pick_X6_upOf : GoodIn wsX6_pick (wsV RX6 55 RX6 yX6_upOf wsX6_upOf) := goodIn_app (goodIn_of _ (by decide +kernel)) ggX6_pick_X6_upOf
