theorem dX8_take_74 : decode cX8_take 74 = .ok (.iload 4, 2) := by decide +kernel
theorem dX8_take_76 : decode cX8_take 76 = .ok (.aload_n 0, 1) := by decide +kernel
theorem dX8_take_77 : decode cX8_take 77 = .ok (.getfield 67, 3) := by decide +kernel
theorem dX8_take_80 : decode cX8_take 80 = .ok (.if_icmp .ge 90, 3) := by decide +kernel
theorem dX8_take_83 : decode cX8_take 83 = .ok (.iload_n 3, 1) := by decide +kernel
theorem dX8_take_84 : decode cX8_take 84 = .ok (.bipush 7, 2) := by decide +kernel
theorem dX8_take_86 : decode cX8_take 86 = .ok (.irem, 1) := by decide +kernel
theorem dX8_take_87 : decode cX8_take 87 = .ok (.istore 5, 2) := by decide +kernel
theorem dX8_take_89 : decode cX8_take 89 = .ok (.iload_n 3, 1) := by decide +kernel
theorem dX8_take_90 : decode cX8_take 90 = .ok (.bipush 7, 2) := by decide +kernel
theorem dX8_take_92 : decode cX8_take 92 = .ok (.idiv, 1) := by decide +kernel
theorem dX8_take_93 : decode cX8_take 93 = .ok (.istore_n 3, 1) := by decide +kernel
theorem dX8_take_94 : decode cX8_take 94 = .ok (.aload_n 0, 1) := by decide +kernel
theorem dX8_take_95 : decode cX8_take 95 = .ok (.getfield 7, 3) := by decide +kernel
theorem dX8_take_98 : decode cX8_take 98 = .ok (.bipush 13, 2) := by decide +kernel
theorem dX8_take_100 : decode cX8_take 100 = .ok (.iload 4, 2) := by decide +kernel
theorem dX8_take_102 : decode cX8_take 102 = .ok (.imul, 1) := by decide +kernel
theorem dX8_take_103 : decode cX8_take 103 = .ok (.bipush 12, 2) := by decide +kernel
theorem dX8_take_105 : decode cX8_take 105 = .ok (.iadd, 1) := by decide +kernel
theorem dX8_take_106 : decode cX8_take 106 = .ok (.iload 5, 2) := by decide +kernel
theorem dX8_take_108 : decode cX8_take 108 = .ok (.ifCond .le 7, 3) := by decide +kernel
theorem dX8_take_111 : decode cX8_take 111 = .ok (.iconst 1, 1) := by decide +kernel
theorem dX8_take_112 : decode cX8_take 112 = .ok (.goto 4, 3) := by decide +kernel
theorem dX8_take_115 : decode cX8_take 115 = .ok (.iconst 0, 1) := by decide +kernel
theorem dX8_take_116 : decode cX8_take 116 = .ok (.iastore, 1) := by decide +kernel
theorem dX8_take_117 : decode cX8_take 117 = .ok (.iload 5, 2) := by decide +kernel
theorem dX8_take_119 : decode cX8_take 119 = .ok (.ifCond .le 45, 3) := by decide +kernel
theorem dX8_take_122 : decode cX8_take 122 = .ok (.aload_n 0, 1) := by decide +kernel
theorem dX8_take_123 : decode cX8_take 123 = .ok (.getfield 7, 3) := by decide +kernel
theorem dX8_take_126 : decode cX8_take 126 = .ok (.bipush 13, 2) := by decide +kernel
theorem dX8_take_128 : decode cX8_take 128 = .ok (.iload 4, 2) := by decide +kernel
theorem dX8_take_130 : decode cX8_take 130 = .ok (.imul, 1) := by decide +kernel
theorem dX8_take_131 : decode cX8_take 131 = .ok (.iconst 4, 1) := by decide +kernel
theorem dX8_take_132 : decode cX8_take 132 = .ok (.iadd, 1) := by decide +kernel
theorem dX8_take_133 : decode cX8_take 133 = .ok (.aload_n 0, 1) := by decide +kernel
theorem dX8_take_134 : decode cX8_take 134 = .ok (.getfield 22, 3) := by decide +kernel
theorem dX8_take_137 : decode cX8_take 137 = .ok (.iload 5, 2) := by decide +kernel
theorem dX8_take_139 : decode cX8_take 139 = .ok (.iconst 1, 1) := by decide +kernel
theorem dX8_take_140 : decode cX8_take 140 = .ok (.isub, 1) := by decide +kernel
theorem dX8_take_141 : decode cX8_take 141 = .ok (.iaload, 1) := by decide +kernel
theorem dX8_take_142 : decode cX8_take 142 = .ok (.iastore, 1) := by decide +kernel
theorem dX8_take_143 : decode cX8_take 143 = .ok (.aload_n 0, 1) := by decide +kernel
theorem dX8_take_144 : decode cX8_take 144 = .ok (.getfield 7, 3) := by decide +kernel
theorem dX8_take_147 : decode cX8_take 147 = .ok (.bipush 13, 2) := by decide +kernel
theorem dX8_take_149 : decode cX8_take 149 = .ok (.iload 4, 2) := by decide +kernel
theorem dX8_take_151 : decode cX8_take 151 = .ok (.imul, 1) := by decide +kernel
theorem dX8_take_152 : decode cX8_take 152 = .ok (.iconst 5, 1) := by decide +kernel
theorem dX8_take_153 : decode cX8_take 153 = .ok (.iadd, 1) := by decide +kernel
theorem dX8_take_154 : decode cX8_take 154 = .ok (.aload_n 0, 1) := by decide +kernel
theorem dX8_take_155 : decode cX8_take 155 = .ok (.getfield 25, 3) := by decide +kernel
theorem dX8_take_158 : decode cX8_take 158 = .ok (.iload 5, 2) := by decide +kernel
theorem dX8_take_160 : decode cX8_take 160 = .ok (.iconst 1, 1) := by decide +kernel
theorem dX8_take_161 : decode cX8_take 161 = .ok (.isub, 1) := by decide +kernel
theorem dX8_take_162 : decode cX8_take 162 = .ok (.iaload, 1) := by decide +kernel
theorem dX8_take_163 : decode cX8_take 163 = .ok (.iastore, 1) := by decide +kernel
theorem dX8_take_164 : decode cX8_take 164 = .ok (.iinc 4 1, 3) := by decide +kernel
theorem dX8_take_167 : decode cX8_take 167 = .ok (.goto (-93), 3) := by decide +kernel
theorem dX8_take_170 : decode cX8_take 170 = .ok (.iconst 1, 1) := by decide +kernel
theorem dX8_take_171 : decode cX8_take 171 = .ok (.ireturn, 1) := by decide +kernel
set_option maxRecDepth 20000 in
theorem ggX8_frost_X8_isMonth : GoodIn wsX8_frost wsX8_isMonth := goodIn_r _ [6, 7, 8, 5, 9] (by decide +kernel) (by decide +kernel)
set_option maxRecDepth 20000 in
theorem gX8_frost_X8_isMonth : GoodIn wsX8_frost (va_wsS RX8 127 yX8_isMonth wsX8_isMonth) := goodIn_app (goodIn_of _ (by decide +kernel)) ggX8_frost_X8_isMonth
set_option maxRecDepth 20000 in
theorem ggX8_frost_X8_in : GoodIn wsX8_frost wsX8_in := goodIn_r _ [9] (by decide +kernel) (by decide +kernel)
set_option maxRecDepth 20000 in
theorem gX8_frost_X8_in : GoodIn wsX8_frost (va_wsS RX8 70 yX8_in wsX8_in) := goodIn_app (goodIn_of _ (by decide +kernel)) ggX8_frost_X8_in
theorem dX8_frost_0 : decode cX8_frost 0 = .ok (.aload_n 0, 1) := by decide +kernel
theorem dX8_frost_1 : decode cX8_frost 1 = .ok (.iconst 0, 1) := by decide +kernel
theorem dX8_frost_2 : decode cX8_frost 2 = .ok (.putfield 64, 3) := by decide +kernel
theorem dX8_frost_5 : decode cX8_frost 5 = .ok (.iload_n 1, 1) := by decide +kernel
theorem dX8_frost_6 : decode cX8_frost 6 = .ok (.invokestatic 127, 3) := by decide +kernel
theorem dX8_frost_9 : decode cX8_frost 9 = .ok (.ifCond .eq 13, 3) := by decide +kernel
theorem dX8_frost_12 : decode cX8_frost 12 = .ok (.iload_n 2, 1) := by decide +kernel
theorem dX8_frost_13 : decode cX8_frost 13 = .ok (.iconst 0, 1) := by decide +kernel
theorem dX8_frost_14 : decode cX8_frost 14 = .ok (.bipush 23, 2) := by decide +kernel
theorem dX8_frost_16 : decode cX8_frost 16 = .ok (.invokestatic 70, 3) := by decide +kernel
theorem dX8_frost_19 : decode cX8_frost 19 = .ok (.ifCond .ne 5, 3) := by decide +kernel
theorem dX8_frost_22 : decode cX8_frost 22 = .ok (.iconst (-1), 1) := by decide +kernel
theorem dX8_frost_23 : decode cX8_frost 23 = .ok (.ireturn, 1) := by decide +kernel
theorem dX8_frost_24 : decode cX8_frost 24 = .ok (.aload_n 0, 1) := by decide +kernel
theorem dX8_frost_25 : decode cX8_frost 25 = .ok (.getfield 19, 3) := by decide +kernel
theorem dX8_frost_28 : decode cX8_frost 28 = .ok (.iload_n 1, 1) := by decide +kernel
theorem dX8_frost_29 : decode cX8_frost 29 = .ok (.iaload, 1) := by decide +kernel
theorem dX8_frost_30 : decode cX8_frost 30 = .ok (.istore_n 3, 1) := by decide +kernel
theorem dX8_frost_31 : decode cX8_frost 31 = .ok (.aload_n 0, 1) := by decide +kernel
theorem dX8_frost_32 : decode cX8_frost 32 = .ok (.getfield 19, 3) := by decide +kernel
theorem dX8_frost_35 : decode cX8_frost 35 = .ok (.iload_n 1, 1) := by decide +kernel
theorem dX8_frost_36 : decode cX8_frost 36 = .ok (.iload_n 2, 1) := by decide +kernel
theorem dX8_frost_37 : decode cX8_frost 37 = .ok (.iastore, 1) := by decide +kernel
theorem dX8_frost_38 : decode cX8_frost 38 = .ok (.iload_n 3, 1) := by decide +kernel
theorem dX8_frost_39 : decode cX8_frost 39 = .ok (.ireturn, 1) := by decide +kernel
set_option maxRecDepth 20000 in
theorem ggX8_silence_X8_in : GoodIn wsX8_silence wsX8_in := goodIn_r _ [7] (by decide +kernel) (by decide +kernel)
set_option maxRecDepth 20000 in
theorem gX8_silence_X8_in : GoodIn wsX8_silence (va_wsS RX8 70 yX8_in wsX8_in) := goodIn_app (goodIn_of _ (by decide +kernel)) ggX8_silence_X8_in
theorem dX8_silence_0 : decode cX8_silence 0 = .ok (.aload_n 0, 1) := by decide +kernel
theorem dX8_silence_1 : decode cX8_silence 1 = .ok (.iconst 0, 1) := by decide +kernel
theorem dX8_silence_2 : decode cX8_silence 2 = .ok (.putfield 64, 3) := by decide +kernel
theorem dX8_silence_5 : decode cX8_silence 5 = .ok (.iload_n 1, 1) := by decide +kernel
theorem dX8_silence_6 : decode cX8_silence 6 = .ok (.iconst 0, 1) := by decide +kernel
theorem dX8_silence_7 : decode cX8_silence 7 = .ok (.bipush 24, 2) := by decide +kernel
theorem dX8_silence_9 : decode cX8_silence 9 = .ok (.invokestatic 70, 3) := by decide +kernel
theorem dX8_silence_12 : decode cX8_silence 12 = .ok (.ifCond .eq 13, 3) := by decide +kernel
theorem dX8_silence_15 : decode cX8_silence 15 = .ok (.iload_n 2, 1) := by decide +kernel
theorem dX8_silence_16 : decode cX8_silence 16 = .ok (.iload_n 1, 1) := by decide +kernel
theorem dX8_silence_17 : decode cX8_silence 17 = .ok (.bipush 24, 2) := by decide +kernel
theorem dX8_silence_19 : decode cX8_silence 19 = .ok (.invokestatic 70, 3) := by decide +kernel
theorem dX8_silence_22 : decode cX8_silence 22 = .ok (.ifCond .ne 5, 3) := by decide +kernel
theorem dX8_silence_25 : decode cX8_silence 25 = .ok (.iconst (-1), 1) := by decide +kernel
theorem dX8_silence_26 : decode cX8_silence 26 = .ok (.ireturn, 1) := by decide +kernel
theorem dX8_silence_27 : decode cX8_silence 27 = .ok (.aload_n 0, 1) := by decide +kernel
theorem dX8_silence_28 : decode cX8_silence 28 = .ok (.iload_n 1, 1) := by decide +kernel
theorem dX8_silence_29 : decode cX8_silence 29 = .ok (.putfield 142, 3) := by decide +kernel
theorem dX8_silence_32 : decode cX8_silence 32 = .ok (.aload_n 0, 1) := by decide +kernel
theorem dX8_silence_33 : decode cX8_silence 33 = .ok (.iload_n 2, 1) := by decide +kernel
theorem dX8_silence_34 : decode cX8_silence 34 = .ok (.putfield 145, 3) := by decide +kernel
theorem dX8_silence_37 : decode cX8_silence 37 = .ok (.iconst 1, 1) := by decide +kernel
theorem dX8_silence_38 : decode cX8_silence 38 = .ok (.ireturn, 1) := by decide +kernel
set_option maxRecDepth 20000 in
theorem ggX8_tank_X8_in : GoodIn wsX8_tank wsX8_in := goodIn_r _ [8] (by decide +kernel) (by decide +kernel)
set_option maxRecDepth 20000 in
theorem gX8_tank_X8_in : GoodIn wsX8_tank (va_wsS RX8 70 yX8_in wsX8_in) := goodIn_app (goodIn_of _ (by decide +kernel)) ggX8_tank_X8_in
theorem dX8_tank_0 : decode cX8_tank 0 = .ok (.aload_n 0, 1) := by decide +kernel
theorem dX8_tank_1 : decode cX8_tank 1 = .ok (.iconst 0, 1) := by decide +kernel
theorem dX8_tank_2 : decode cX8_tank 2 = .ok (.putfield 64, 3) := by decide +kernel
theorem dX8_tank_5 : decode cX8_tank 5 = .ok (.iload_n 1, 1) := by decide +kernel
theorem dX8_tank_6 : decode cX8_tank 6 = .ok (.iconst 0, 1) := by decide +kernel
theorem dX8_tank_7 : decode cX8_tank 7 = .ok (.iconst 1, 1) := by decide +kernel
theorem dX8_tank_8 : decode cX8_tank 8 = .ok (.invokestatic 70, 3) := by decide +kernel
theorem dX8_tank_11 : decode cX8_tank 11 = .ok (.ifCond .eq 45, 3) := by decide +kernel
theorem dX8_tank_14 : decode cX8_tank 14 = .ok (.iload_n 2, 1) := by decide +kernel
theorem dX8_tank_15 : decode cX8_tank 15 = .ok (.iload_n 1, 1) := by decide +kernel
theorem dX8_tank_16 : decode cX8_tank 16 = .ok (.ifCond .ne 8, 3) := by decide +kernel
theorem dX8_tank_19 : decode cX8_tank 19 = .ok (.bipush 100, 2) := by decide +kernel
theorem dX8_tank_21 : decode cX8_tank 21 = .ok (.goto 4, 3) := by decide +kernel
theorem dX8_tank_24 : decode cX8_tank 24 = .ok (.iconst 0, 1) := by decide +kernel
theorem dX8_tank_25 : decode cX8_tank 25 = .ok (.iload_n 1, 1) := by decide +kernel
theorem dX8_tank_26 : decode cX8_tank 26 = .ok (.ifCond .ne 8, 3) := by decide +kernel
theorem dX8_tank_29 : decode cX8_tank 29 = .ok (.ldc 130, 2) := by decide +kernel
theorem dX8_tank_31 : decode cX8_tank 31 = .ok (.goto 7, 3) := by decide +kernel
theorem dX8_tank_34 : decode cX8_tank 34 = .ok (.aload_n 0, 1) := by decide +kernel
theorem dX8_tank_35 : decode cX8_tank 35 = .ok (.getfield 29, 3) := by decide +kernel
theorem dX8_tank_38 : decode cX8_tank 38 = .ok (.invokestatic 70, 3) := by decide +kernel
theorem dX8_tank_41 : decode cX8_tank 41 = .ok (.ifCond .eq 15, 3) := by decide +kernel
theorem dX8_tank_44 : decode cX8_tank 44 = .ok (.iload_n 1, 1) := by decide +kernel
theorem dX8_tank_45 : decode cX8_tank 45 = .ok (.ifCond .ne 13, 3) := by decide +kernel
theorem dX8_tank_48 : decode cX8_tank 48 = .ok (.iload_n 2, 1) := by decide +kernel
theorem dX8_tank_49 : decode cX8_tank 49 = .ok (.aload_n 0, 1) := by decide +kernel
theorem dX8_tank_50 : decode cX8_tank 50 = .ok (.getfield 148, 3) := by decide +kernel
theorem dX8_tank_53 : decode cX8_tank 53 = .ok (.if_icmp .ge 5, 3) := by decide +kernel
theorem dX8_tank_56 : decode cX8_tank 56 = .ok (.iconst (-1), 1) := by decide +kernel
theorem dX8_tank_57 : decode cX8_tank 57 = .ok (.ireturn, 1) := by decide +kernel
theorem dX8_tank_58 : decode cX8_tank 58 = .ok (.iload_n 1, 1) := by decide +kernel
theorem dX8_tank_59 : decode cX8_tank 59 = .ok (.ifCond .ne 10, 3) := by decide +kernel
theorem dX8_tank_62 : decode cX8_tank 62 = .ok (.aload_n 0, 1) := by decide +kernel
theorem dX8_tank_63 : decode cX8_tank 63 = .ok (.getfield 29, 3) := by decide +kernel
theorem dX8_tank_66 : decode cX8_tank 66 = .ok (.goto 7, 3) := by decide +kernel
theorem dX8_tank_69 : decode cX8_tank 69 = .ok (.aload_n 0, 1) := by decide +kernel
theorem dX8_tank_70 : decode cX8_tank 70 = .ok (.getfield 148, 3) := by decide +kernel
theorem dX8_tank_73 : decode cX8_tank 73 = .ok (.istore_n 3, 1) := by decide +kernel
theorem dX8_tank_74 : decode cX8_tank 74 = .ok (.aload_n 0, 1) := by decide +kernel
theorem dX8_tank_75 : decode cX8_tank 75 = .ok (.iload_n 1, 1) := by decide +kernel
theorem dX8_tank_76 : decode cX8_tank 76 = .ok (.ifCond .ne 7, 3) := by decide +kernel
theorem dX8_tank_79 : decode cX8_tank 79 = .ok (.iload_n 2, 1) := by decide +kernel
theorem dX8_tank_80 : decode cX8_tank 80 = .ok (.goto 7, 3) := by decide +kernel
theorem dX8_tank_83 : decode cX8_tank 83 = .ok (.aload_n 0, 1) := by decide +kernel
theorem dX8_tank_84 : decode cX8_tank 84 = .ok (.getfield 29, 3) := by decide +kernel
theorem dX8_tank_87 : decode cX8_tank 87 = .ok (.putfield 29, 3) := by decide +kernel
theorem dX8_tank_90 : decode cX8_tank 90 = .ok (.aload_n 0, 1) := by decide +kernel
theorem dX8_tank_91 : decode cX8_tank 91 = .ok (.iload_n 1, 1) := by decide +kernel
theorem dX8_tank_92 : decode cX8_tank 92 = .ok (.iconst 1, 1) := by decide +kernel
theorem dX8_tank_93 : decode cX8_tank 93 = .ok (.if_icmp .ne 7, 3) := by decide +kernel
theorem dX8_tank_96 : decode cX8_tank 96 = .ok (.iload_n 2, 1) := by decide +kernel
theorem dX8_tank_97 : decode cX8_tank 97 = .ok (.goto 7, 3) := by decide +kernel
theorem dX8_tank_100 : decode cX8_tank 100 = .ok (.aload_n 0, 1) := by decide +kernel
theorem dX8_tank_101 : decode cX8_tank 101 = .ok (.getfield 148, 3) := by decide +kernel
theorem dX8_tank_104 : decode cX8_tank 104 = .ok (.putfield 148, 3) := by decide +kernel
theorem dX8_tank_107 : decode cX8_tank 107 = .ok (.iload_n 3, 1) := by decide +kernel
theorem dX8_tank_108 : decode cX8_tank 108 = .ok (.ireturn, 1) := by decide +kernel
set_option maxRecDepth 20000 in
theorem ggX8_type_X8_in : GoodIn wsX8_type wsX8_in := goodIn_r _ [8] (by decide +kernel) (by decide +kernel)
set_option maxRecDepth 20000 in
theorem gX8_type_X8_in : GoodIn wsX8_type (va_wsS RX8 70 yX8_in wsX8_in) := goodIn_app (goodIn_of _ (by decide +kernel)) ggX8_type_X8_in
theorem dX8_type_0 : decode cX8_type 0 = .ok (.aload_n 0, 1) := by decide +kernel
theorem dX8_type_1 : decode cX8_type 1 = .ok (.iconst 0, 1) := by decide +kernel
theorem dX8_type_2 : decode cX8_type 2 = .ok (.putfield 64, 3) := by decide +kernel
theorem dX8_type_5 : decode cX8_type 5 = .ok (.iload_n 3, 1) := by decide +kernel
theorem dX8_type_6 : decode cX8_type 6 = .ok (.iconst 1, 1) := by decide +kernel
theorem dX8_type_7 : decode cX8_type 7 = .ok (.bipush 8, 2) := by decide +kernel
theorem dX8_type_9 : decode cX8_type 9 = .ok (.invokestatic 70, 3) := by decide +kernel
theorem dX8_type_12 : decode cX8_type 12 = .ok (.ifCond .ne 5, 3) := by decide +kernel
theorem dX8_type_15 : decode cX8_type 15 = .ok (.iconst (-1), 1) := by decide +kernel
theorem dX8_type_16 : decode cX8_type 16 = .ok (.ireturn, 1) := by decide +kernel
theorem dX8_type_17 : decode cX8_type 17 = .ok (.aload_n 0, 1) := by decide +kernel
theorem dX8_type_18 : decode cX8_type 18 = .ok (.getfield 151, 3) := by decide +kernel
theorem dX8_type_21 : decode cX8_type 21 = .ok (.iload_n 3, 1) := by decide +kernel
theorem dX8_type_22 : decode cX8_type 22 = .ok (.iadd, 1) := by decide +kernel
theorem dX8_type_23 : decode cX8_type 23 = .ok (.sipush 150, 3) := by decide +kernel
theorem dX8_type_26 : decode cX8_type 26 = .ok (.if_icmp .le 6, 3) := by decide +kernel
theorem dX8_type_29 : decode cX8_type 29 = .ok (.bipush (-3), 2) := by decide +kernel
theorem dX8_type_31 : decode cX8_type 31 = .ok (.ireturn, 1) := by decide +kernel
theorem dX8_type_32 : decode cX8_type 32 = .ok (.iload_n 3, 1) := by decide +kernel
theorem dX8_type_33 : decode cX8_type 33 = .ok (.iconst 1, 1) := by decide +kernel
theorem dX8_type_34 : decode cX8_type 34 = .ok (.isub, 1) := by decide +kernel
theorem dX8_type_35 : decode cX8_type 35 = .ok (.istore 4, 2) := by decide +kernel
theorem dX8_type_37 : decode cX8_type 37 = .ok (.iload 4, 2) := by decide +kernel
theorem dX8_type_39 : decode cX8_type 39 = .ok (.ifCond .lt 40, 3) := by decide +kernel
theorem dX8_type_42 : decode cX8_type 42 = .ok (.aload_n 0, 1) := by decide +kernel
theorem dX8_type_43 : decode cX8_type 43 = .ok (.getfield 33, 3) := by decide +kernel
theorem dX8_type_46 : decode cX8_type 46 = .ok (.aload_n 0, 1) := by decide +kernel
theorem dX8_type_47 : decode cX8_type 47 = .ok (.getfield 151, 3) := by decide +kernel
theorem dX8_type_50 : decode cX8_type 50 = .ok (.lload_n 1, 1) := by decide +kernel
theorem dX8_type_51 : decode cX8_type 51 = .ok (.bipush 8, 2) := by decide +kernel
theorem dX8_type_53 : decode cX8_type 53 = .ok (.iload 4, 2) := by decide +kernel
theorem dX8_type_55 : decode cX8_type 55 = .ok (.imul, 1) := by decide +kernel
theorem dX8_type_56 : decode cX8_type 56 = .ok (.lshr, 1) := by decide +kernel
theorem dX8_type_57 : decode cX8_type 57 = .ok (.ldc2_w 154, 3) := by decide +kernel
theorem dX8_type_60 : decode cX8_type 60 = .ok (.land, 1) := by decide +kernel
theorem dX8_type_61 : decode cX8_type 61 = .ok (.l2i, 1) := by decide +kernel
theorem dX8_type_62 : decode cX8_type 62 = .ok (.iastore, 1) := by decide +kernel
theorem dX8_type_63 : decode cX8_type 63 = .ok (.aload_n 0, 1) := by decide +kernel
theorem dX8_type_64 : decode cX8_type 64 = .ok (.dup, 1) := by decide +kernel
theorem dX8_type_65 : decode cX8_type 65 = .ok (.getfield 151, 3) := by decide +kernel
theorem dX8_type_68 : decode cX8_type 68 = .ok (.iconst 1, 1) := by decide +kernel
theorem dX8_type_69 : decode cX8_type 69 = .ok (.iadd, 1) := by decide +kernel
theorem dX8_type_70 : decode cX8_type 70 = .ok (.putfield 151, 3) := by decide +kernel
theorem dX8_type_73 : decode cX8_type 73 = .ok (.iinc 4 (-1), 3) := by decide +kernel
theorem dX8_type_76 : decode cX8_type 76 = .ok (.goto (-39), 3) := by decide +kernel
theorem dX8_type_79 : decode cX8_type 79 = .ok (.aload_n 0, 1) := by decide +kernel
theorem dX8_type_80 : decode cX8_type 80 = .ok (.getfield 151, 3) := by decide +kernel
theorem dX8_type_83 : decode cX8_type 83 = .ok (.ireturn, 1) := by decide +kernel
theorem dX8_clear_0 : decode cX8_clear 0 = .ok (.aload_n 0, 1) := by decide +kernel
theorem dX8_clear_1 : decode cX8_clear 1 = .ok (.iconst 0, 1) := by decide +kernel
theorem dX8_clear_2 : decode cX8_clear 2 = .ok (.putfield 64, 3) := by decide +kernel
theorem dX8_clear_5 : decode cX8_clear 5 = .ok (.aload_n 0, 1) := by decide +kernel
theorem dX8_clear_6 : decode cX8_clear 6 = .ok (.getfield 151, 3) := by decide +kernel
theorem dX8_clear_9 : decode cX8_clear 9 = .ok (.istore_n 1, 1) := by decide +kernel
theorem dX8_clear_10 : decode cX8_clear 10 = .ok (.aload_n 0, 1) := by decide +kernel
theorem dX8_clear_11 : decode cX8_clear 11 = .ok (.iconst 0, 1) := by decide +kernel
theorem dX8_clear_12 : decode cX8_clear 12 = .ok (.putfield 151, 3) := by decide +kernel
theorem dX8_clear_15 : decode cX8_clear 15 = .ok (.iload_n 1, 1) := by decide +kernel
theorem dX8_clear_16 : decode cX8_clear 16 = .ok (.ireturn, 1) := by decide +kernel
theorem dX8_byteAt_0 : decode cX8_byteAt 0 = .ok (.aload_n 0, 1) := by decide +kernel
theorem dX8_byteAt_1 : decode cX8_byteAt 1 = .ok (.getfield 156, 3) := by decide +kernel
theorem dX8_byteAt_4 : decode cX8_byteAt 4 = .ok (.aload_n 0, 1) := by decide +kernel
theorem dX8_byteAt_5 : decode cX8_byteAt 5 = .ok (.getfield 151, 3) := by decide +kernel
theorem dX8_byteAt_8 : decode cX8_byteAt 8 = .ok (.if_icmp .ge 15, 3) := by decide +kernel
theorem dX8_byteAt_11 : decode cX8_byteAt 11 = .ok (.aload_n 0, 1) := by decide +kernel
theorem dX8_byteAt_12 : decode cX8_byteAt 12 = .ok (.getfield 33, 3) := by decide +kernel
theorem dX8_byteAt_15 : decode cX8_byteAt 15 = .ok (.aload_n 0, 1) := by decide +kernel
theorem dX8_byteAt_16 : decode cX8_byteAt 16 = .ok (.getfield 156, 3) := by decide +kernel
theorem dX8_byteAt_19 : decode cX8_byteAt 19 = .ok (.iaload, 1) := by decide +kernel
theorem dX8_byteAt_20 : decode cX8_byteAt 20 = .ok (.goto 4, 3) := by decide +kernel
theorem dX8_byteAt_23 : decode cX8_byteAt 23 = .ok (.iconst (-1), 1) := by decide +kernel
theorem dX8_byteAt_24 : decode cX8_byteAt 24 = .ok (.ireturn, 1) := by decide +kernel
set_option maxRecDepth 20000 in
theorem ggX8_sign_X8_byteAt : GoodIn wsX8_sign wsX8_byteAt := goodIn_r _ [7, 1, 8, 9, 10, 11, 12, 13, 14, 15, 16, 17, 18, 19, 20, 21, 22, 23, 24, 25, 26, 27, 28, 29, 30, 31, 32, 33, 34, 35, 36, 37, 38, 39, 40, 41, 42, 43, 44, 45, 46, 47] (by decide +kernel) (by decide +kernel)
set_option maxRecDepth 20000 in
theorem gX8_sign_X8_byteAt : GoodIn wsX8_sign (wsV RX8 159 RX8 yX8_byteAt wsX8_byteAt) := goodIn_app (goodIn_of _ (by decide +kernel)) ggX8_sign_X8_byteAt
theorem dX8_sign_0 : decode cX8_sign 0 = .ok (.aload_n 0, 1) := by decide +kernel
theorem dX8_sign_1 : decode cX8_sign 1 = .ok (.invokevirtual 159, 3) := by decide +kernel
theorem dX8_sign_4 : decode cX8_sign 4 = .ok (.iload_n 1, 1) := by decide +kernel
theorem dX8_sign_5 : decode cX8_sign 5 = .ok (.if_icmp .eq 13, 3) := by decide +kernel
theorem dX8_sign_8 : decode cX8_sign 8 = .ok (.aload_n 0, 1) := by decide +kernel
theorem dX8_sign_9 : decode cX8_sign 9 = .ok (.aload_n 0, 1) := by decide +kernel
theorem dX8_sign_10 : decode cX8_sign 10 = .ok (.getfield 156, 3) := by decide +kernel
theorem dX8_sign_13 : decode cX8_sign 13 = .ok (.putfield 162, 3) := by decide +kernel
theorem dX8_sign_16 : decode cX8_sign 16 = .ok (.iconst 0, 1) := by decide +kernel
theorem dX8_sign_17 : decode cX8_sign 17 = .ok (.ireturn, 1) := by decide +kernel
theorem dX8_sign_18 : decode cX8_sign 18 = .ok (.aload_n 0, 1) := by decide +kernel
theorem dX8_sign_19 : decode cX8_sign 19 = .ok (.dup, 1) := by decide +kernel
theorem dX8_sign_20 : decode cX8_sign 20 = .ok (.getfield 156, 3) := by decide +kernel
theorem dX8_sign_23 : decode cX8_sign 23 = .ok (.iconst 1, 1) := by decide +kernel
theorem dX8_sign_24 : decode cX8_sign 24 = .ok (.iadd, 1) := by decide +kernel
theorem dX8_sign_25 : decode cX8_sign 25 = .ok (.putfield 156, 3) := by decide +kernel
theorem dX8_sign_28 : decode cX8_sign 28 = .ok (.iconst 1, 1) := by decide +kernel
theorem dX8_sign_29 : decode cX8_sign 29 = .ok (.ireturn, 1) := by decide +kernel
set_option maxRecDepth 20000 in
theorem ggX8_reads_X8_byteAt : GoodIn wsX8_reads wsX8_byteAt := goodIn_r _ [8, 1, 9, 10, 14, 15, 16, 17, 18, 19, 20, 21, 22, 23, 24, 25, 26, 27, 28, 29, 30, 31, 32, 33, 34, 35, 36, 37, 38, 39, 40, 41, 42, 43, 44, 45, 46, 47, 48, 49, 50, 51] (by decide +kernel) (by decide +kernel)
set_option maxRecDepth 20000 in
theorem gX8_reads_X8_byteAt : GoodIn wsX8_reads (wsV RX8 159 RX8 yX8_byteAt wsX8_byteAt) := goodIn_app (goodIn_of _ (by decide +kernel)) ggX8_reads_X8_byteAt
set_option maxRecDepth 20000 in
theorem ggX8_reads_X8_in : GoodIn wsX8_reads wsX8_in := goodIn_r _ [13] (by decide +kernel) (by decide +kernel)
set_option maxRecDepth 20000 in
theorem gX8_reads_X8_in : GoodIn wsX8_reads (va_wsS RX8 70 yX8_in wsX8_in) := goodIn_app (goodIn_of _ (by decide +kernel)) ggX8_reads_X8_in
theorem dX8_reads_0 : decode cX8_reads 0 = .ok (.aload_n 0, 1) := by decide +kernel
theorem dX8_reads_1 : decode cX8_reads 1 = .ok (.invokevirtual 159, 3) := by decide +kernel
theorem dX8_reads_4 : decode cX8_reads 4 = .ok (.iload_n 1, 1) := by decide +kernel
theorem dX8_reads_5 : decode cX8_reads 5 = .ok (.bipush 57, 2) := by decide +kernel
theorem dX8_reads_7 : decode cX8_reads 7 = .ok (.invokestatic 70, 3) := by decide +kernel
theorem dX8_reads_10 : decode cX8_reads 10 = .ok (.ifCond .ne 13, 3) := by decide +kernel
theorem dX8_reads_13 : decode cX8_reads 13 = .ok (.aload_n 0, 1) := by decide +kernel
theorem dX8_reads_14 : decode cX8_reads 14 = .ok (.aload_n 0, 1) := by decide +kernel
theorem dX8_reads_15 : decode cX8_reads 15 = .ok (.getfield 156, 3) := by decide +kernel
theorem dX8_reads_18 : decode cX8_reads 18 = .ok (.putfield 162, 3) := by decide +kernel
theorem dX8_reads_21 : decode cX8_reads 21 = .ok (.iconst 0, 1) := by decide +kernel
theorem dX8_reads_22 : decode cX8_reads 22 = .ok (.ireturn, 1) := by decide +kernel
theorem dX8_reads_23 : decode cX8_reads 23 = .ok (.aload_n 0, 1) := by decide +kernel
theorem dX8_reads_24 : decode cX8_reads 24 = .ok (.getfield 156, 3) := by decide +kernel
theorem dX8_reads_27 : decode cX8_reads 27 = .ok (.istore 4, 2) := by decide +kernel
theorem dX8_reads_29 : decode cX8_reads 29 = .ok (.aload_n 0, 1) := by decide +kernel
theorem dX8_reads_30 : decode cX8_reads 30 = .ok (.iconst 0, 1) := by decide +kernel
theorem dX8_reads_31 : decode cX8_reads 31 = .ok (.putfield 165, 3) := by decide +kernel
theorem dX8_reads_34 : decode cX8_reads 34 = .ok (.aload_n 0, 1) := by decide +kernel
theorem dX8_reads_35 : decode cX8_reads 35 = .ok (.invokevirtual 159, 3) := by decide +kernel
theorem dX8_reads_38 : decode cX8_reads 38 = .ok (.bipush 48, 2) := by decide +kernel
theorem dX8_reads_40 : decode cX8_reads 40 = .ok (.bipush 57, 2) := by decide +kernel
theorem dX8_reads_42 : decode cX8_reads 42 = .ok (.invokestatic 70, 3) := by decide +kernel
theorem dX8_reads_45 : decode cX8_reads 45 = .ok (.ifCond .eq 71, 3) := by decide +kernel
theorem dX8_reads_48 : decode cX8_reads 48 = .ok (.bipush 10, 2) := by decide +kernel
theorem dX8_reads_50 : decode cX8_reads 50 = .ok (.aload_n 0, 1) := by decide +kernel
theorem dX8_reads_51 : decode cX8_reads 51 = .ok (.getfield 165, 3) := by decide +kernel
theorem dX8_reads_54 : decode cX8_reads 54 = .ok (.imul, 1) := by decide +kernel
theorem dX8_reads_55 : decode cX8_reads 55 = .ok (.aload_n 0, 1) := by decide +kernel
theorem dX8_reads_56 : decode cX8_reads 56 = .ok (.invokevirtual 159, 3) := by decide +kernel
theorem dX8_reads_59 : decode cX8_reads 59 = .ok (.iadd, 1) := by decide +kernel
theorem dX8_reads_60 : decode cX8_reads 60 = .ok (.bipush 48, 2) := by decide +kernel
theorem dX8_reads_62 : decode cX8_reads 62 = .ok (.isub, 1) := by decide +kernel
theorem dX8_reads_63 : decode cX8_reads 63 = .ok (.istore 5, 2) := by decide +kernel
theorem dX8_reads_65 : decode cX8_reads 65 = .ok (.aload_n 0, 1) := by decide +kernel
theorem dX8_reads_66 : decode cX8_reads 66 = .ok (.getfield 165, 3) := by decide +kernel
theorem dX8_reads_69 : decode cX8_reads 69 = .ok (.ifCond .ne 12, 3) := by decide +kernel
theorem dX8_reads_72 : decode cX8_reads 72 = .ok (.aload_n 0, 1) := by decide +kernel
theorem dX8_reads_73 : decode cX8_reads 73 = .ok (.getfield 156, 3) := by decide +kernel
theorem dX8_reads_76 : decode cX8_reads 76 = .ok (.iload 4, 2) := by decide +kernel
theorem dX8_reads_78 : decode cX8_reads 78 = .ok (.if_icmp .gt 9, 3) := by decide +kernel
theorem dX8_reads_81 : decode cX8_reads 81 = .ok (.iload 5, 2) := by decide +kernel
theorem dX8_reads_83 : decode cX8_reads 83 = .ok (.iload_n 2, 1) := by decide +kernel
theorem dX8_reads_84 : decode cX8_reads 84 = .ok (.if_icmp .le 13, 3) := by decide +kernel
theorem dX8_reads_87 : decode cX8_reads 87 = .ok (.aload_n 0, 1) := by decide +kernel
theorem dX8_reads_88 : decode cX8_reads 88 = .ok (.aload_n 0, 1) := by decide +kernel
theorem dX8_reads_89 : decode cX8_reads 89 = .ok (.getfield 156, 3) := by decide +kernel
theorem dX8_reads_92 : decode cX8_reads 92 = .ok (.putfield 162, 3) := by decide +kernel
theorem dX8_reads_95 : decode cX8_reads 95 = .ok (.iconst 0, 1) := by decide +kernel
theorem dX8_reads_96 : decode cX8_reads 96 = .ok (.ireturn, 1) := by decide +kernel
theorem dX8_reads_97 : decode cX8_reads 97 = .ok (.aload_n 0, 1) := by decide +kernel
theorem dX8_reads_98 : decode cX8_reads 98 = .ok (.iload 5, 2) := by decide +kernel
theorem dX8_reads_100 : decode cX8_reads 100 = .ok (.putfield 165, 3) := by decide +kernel
theorem dX8_reads_103 : decode cX8_reads 103 = .ok (.aload_n 0, 1) := by decide +kernel
theorem dX8_reads_104 : decode cX8_reads 104 = .ok (.dup, 1) := by decide +kernel
theorem dX8_reads_105 : decode cX8_reads 105 = .ok (.getfield 156, 3) := by decide +kernel
theorem dX8_reads_108 : decode cX8_reads 108 = .ok (.iconst 1, 1) := by decide +kernel
theorem dX8_reads_109 : decode cX8_reads 109 = .ok (.iadd, 1) := by decide +kernel
theorem dX8_reads_110 : decode cX8_reads 110 = .ok (.putfield 156, 3) := by decide +kernel
theorem dX8_reads_113 : decode cX8_reads 113 = .ok (.goto (-79), 3) := by decide +kernel
theorem dX8_reads_116 : decode cX8_reads 116 = .ok (.aload_n 0, 1) := by decide +kernel
theorem dX8_reads_117 : decode cX8_reads 117 = .ok (.getfield 165, 3) := by decide +kernel
theorem dX8_reads_120 : decode cX8_reads 120 = .ok (.iload_n 3, 1) := by decide +kernel
theorem dX8_reads_121 : decode cX8_reads 121 = .ok (.if_icmp .gt 15, 3) := by decide +kernel
theorem dX8_reads_124 : decode cX8_reads 124 = .ok (.aload_n 0, 1) := by decide +kernel
theorem dX8_reads_125 : decode cX8_reads 125 = .ok (.aload_n 0, 1) := by decide +kernel
theorem dX8_reads_126 : decode cX8_reads 126 = .ok (.getfield 156, 3) := by decide +kernel
theorem dX8_reads_129 : decode cX8_reads 129 = .ok (.iconst 1, 1) := by decide +kernel
theorem dX8_reads_130 : decode cX8_reads 130 = .ok (.isub, 1) := by decide +kernel
theorem dX8_reads_131 : decode cX8_reads 131 = .ok (.putfield 162, 3) := by decide +kernel
theorem dX8_reads_134 : decode cX8_reads 134 = .ok (.iconst 0, 1) := by decide +kernel
theorem dX8_reads_135 : decode cX8_reads 135 = .ok (.ireturn, 1) := by decide +kernel
theorem dX8_reads_136 : decode cX8_reads 136 = .ok (.iconst 1, 1) := by decide +kernel
theorem dX8_reads_137 : decode cX8_reads 137 = .ok (.ireturn, 1) := by decide +kernel
set_option maxRecDepth 20000 in
theorem ggX8_readsItem_X8_sign : GoodIn wsX8_readsItem wsX8_sign := goodIn_r _ [9, 1, 2, 10, 11, 12, 8, 13, 14, 15, 23, 24, 25, 26, 27, 28, 29, 30, 31, 32, 33, 34, 35, 36, 37, 38, 39, 40, 41, 42, 43, 44, 45, 46, 47, 48, 49, 50, 51, 52, 53, 54, 55, 56, 57, 58, 59, 60] (by decide +kernel) (by decide +kernel)
set_option maxRecDepth 20000 in
theorem gX8_readsItem_X8_sign : GoodIn wsX8_readsItem (wsV RX8 168 RX8 yX8_sign wsX8_sign) := goodIn_app (goodIn_of _ (by decide +kernel)) ggX8_readsItem_X8_sign
set_option maxRecDepth 20000 in
theorem ggX8_readsItem_X8_byteAt : GoodIn wsX8_readsItem wsX8_byteAt := goodIn_r _ [13, 1, 14, 15, 23, 24, 25, 26, 27, 28, 29, 30, 31, 32, 33, 34, 35, 36, 37, 38, 39, 40, 41, 42, 43, 44, 45, 46, 47, 48, 49, 50, 51, 52, 53, 54, 55, 56, 57, 58, 59, 60] (by decide +kernel) (by decide +kernel)
set_option maxRecDepth 20000 in
theorem gX8_readsItem_X8_byteAt : GoodIn wsX8_readsItem (wsV RX8 159 RX8 yX8_byteAt wsX8_byteAt) := goodIn_app (goodIn_of _ (by decide +kernel)) ggX8_readsItem_X8_byteAt
set_option maxRecDepth 20000 in
theorem ggX8_readsItem_X8_in : GoodIn wsX8_readsItem wsX8_in := goodIn_r _ [18] (by decide +kernel) (by decide +kernel)
set_option maxRecDepth 20000 in
theorem gX8_readsItem_X8_in : GoodIn wsX8_readsItem (va_wsS RX8 70 yX8_in wsX8_in) := goodIn_app (goodIn_of _ (by decide +kernel)) ggX8_readsItem_X8_in
set_option maxRecDepth 20000 in
theorem ggX8_readsItem_X8_reads : GoodIn wsX8_readsItem wsX8_reads := goodIn_r _ [22, 1, 2, 4, 10, 11, 12, 8, 13, 14, 15, 16, 17, 18, 23, 24, 25, 26, 27, 28, 29, 30, 31, 32, 33, 34, 35, 36, 37, 38, 39, 40, 41, 42, 43, 44, 45, 46, 47, 48, 49, 50, 51, 52, 53, 54, 55, 56, 57, 58, 59, 60] (by decide +kernel) (by decide +kernel)
set_option maxRecDepth 20000 in
theorem gX8_readsItem_X8_reads : GoodIn wsX8_readsItem (wsV RX8 171 RX8 yX8_reads wsX8_reads) := goodIn_app (goodIn_of _ (by decide +kernel)) ggX8_readsItem_X8_reads
theorem dX8_readsItem_0 : decode cX8_readsItem 0 = .ok (.aload_n 0, 1) := by decide +kernel
theorem dX8_readsItem_1 : decode cX8_readsItem 1 = .ok (.bipush 102, 2) := by decide +kernel
theorem dX8_readsItem_3 : decode cX8_readsItem 3 = .ok (.invokevirtual 168, 3) := by decide +kernel
theorem dX8_readsItem_6 : decode cX8_readsItem 6 = .ok (.ifCond .ne 5, 3) := by decide +kernel
theorem dX8_readsItem_9 : decode cX8_readsItem 9 = .ok (.iconst 0, 1) := by decide +kernel
theorem dX8_readsItem_10 : decode cX8_readsItem 10 = .ok (.ireturn, 1) := by decide +kernel
theorem dX8_readsItem_11 : decode cX8_readsItem 11 = .ok (.aload_n 0, 1) := by decide +kernel
theorem dX8_readsItem_12 : decode cX8_readsItem 12 = .ok (.invokevirtual 159, 3) := by decide +kernel
theorem dX8_readsItem_15 : decode cX8_readsItem 15 = .ok (.bipush 48, 2) := by decide +kernel
theorem dX8_readsItem_17 : decode cX8_readsItem 17 = .ok (.bipush 52, 2) := by decide +kernel
theorem dX8_readsItem_19 : decode cX8_readsItem 19 = .ok (.invokestatic 70, 3) := by decide +kernel
theorem dX8_readsItem_22 : decode cX8_readsItem 22 = .ok (.ifCond .ne 13, 3) := by decide +kernel
theorem dX8_readsItem_25 : decode cX8_readsItem 25 = .ok (.aload_n 0, 1) := by decide +kernel
theorem dX8_readsItem_26 : decode cX8_readsItem 26 = .ok (.aload_n 0, 1) := by decide +kernel
theorem dX8_readsItem_27 : decode cX8_readsItem 27 = .ok (.getfield 156, 3) := by decide +kernel
theorem dX8_readsItem_30 : decode cX8_readsItem 30 = .ok (.putfield 162, 3) := by decide +kernel
theorem dX8_readsItem_33 : decode cX8_readsItem 33 = .ok (.iconst 0, 1) := by decide +kernel
theorem dX8_readsItem_34 : decode cX8_readsItem 34 = .ok (.ireturn, 1) := by decide +kernel
theorem dX8_readsItem_35 : decode cX8_readsItem 35 = .ok (.aload_n 0, 1) := by decide +kernel
theorem dX8_readsItem_36 : decode cX8_readsItem 36 = .ok (.getfield 39, 3) := by decide +kernel
theorem dX8_readsItem_39 : decode cX8_readsItem 39 = .ok (.iload_n 1, 1) := by decide +kernel
theorem dX8_readsItem_40 : decode cX8_readsItem 40 = .ok (.aload_n 0, 1) := by decide +kernel
theorem dX8_readsItem_41 : decode cX8_readsItem 41 = .ok (.invokevirtual 159, 3) := by decide +kernel
theorem dX8_readsItem_44 : decode cX8_readsItem 44 = .ok (.bipush 48, 2) := by decide +kernel
theorem dX8_readsItem_46 : decode cX8_readsItem 46 = .ok (.isub, 1) := by decide +kernel
theorem dX8_readsItem_47 : decode cX8_readsItem 47 = .ok (.iastore, 1) := by decide +kernel
theorem dX8_readsItem_48 : decode cX8_readsItem 48 = .ok (.aload_n 0, 1) := by decide +kernel
theorem dX8_readsItem_49 : decode cX8_readsItem 49 = .ok (.dup, 1) := by decide +kernel
theorem dX8_readsItem_50 : decode cX8_readsItem 50 = .ok (.getfield 156, 3) := by decide +kernel
theorem dX8_readsItem_53 : decode cX8_readsItem 53 = .ok (.iconst 1, 1) := by decide +kernel
theorem dX8_readsItem_54 : decode cX8_readsItem 54 = .ok (.iadd, 1) := by decide +kernel
theorem dX8_readsItem_55 : decode cX8_readsItem 55 = .ok (.putfield 156, 3) := by decide +kernel
theorem dX8_readsItem_58 : decode cX8_readsItem 58 = .ok (.aload_n 0, 1) := by decide +kernel
theorem dX8_readsItem_59 : decode cX8_readsItem 59 = .ok (.bipush 32, 2) := by decide +kernel
theorem dX8_readsItem_61 : decode cX8_readsItem 61 = .ok (.invokevirtual 168, 3) := by decide +kernel
theorem dX8_readsItem_64 : decode cX8_readsItem 64 = .ok (.ifCond .eq 15, 3) := by decide +kernel
theorem dX8_readsItem_67 : decode cX8_readsItem 67 = .ok (.aload_n 0, 1) := by decide +kernel
theorem dX8_readsItem_68 : decode cX8_readsItem 68 = .ok (.bipush 48, 2) := by decide +kernel
theorem dX8_readsItem_70 : decode cX8_readsItem 70 = .ok (.bipush 23, 2) := by decide +kernel
theorem dX8_readsItem_72 : decode cX8_readsItem 72 = .ok (.iconst (-1), 1) := by decide +kernel
theorem dX8_readsItem_73 : decode cX8_readsItem 73 = .ok (.invokevirtual 171, 3) := by decide +kernel
theorem dX8_readsItem_76 : decode cX8_readsItem 76 = .ok (.ifCond .ne 5, 3) := by decide +kernel
theorem dX8_readsItem_79 : decode cX8_readsItem 79 = .ok (.iconst 0, 1) := by decide +kernel
theorem dX8_readsItem_80 : decode cX8_readsItem 80 = .ok (.ireturn, 1) := by decide +kernel
theorem dX8_readsItem_81 : decode cX8_readsItem 81 = .ok (.aload_n 0, 1) := by decide +kernel
theorem dX8_readsItem_82 : decode cX8_readsItem 82 = .ok (.getfield 39, 3) := by decide +kernel
theorem dX8_readsItem_85 : decode cX8_readsItem 85 = .ok (.iload_n 1, 1) := by decide +kernel
theorem dX8_readsItem_86 : decode cX8_readsItem 86 = .ok (.iconst 1, 1) := by decide +kernel
theorem dX8_readsItem_87 : decode cX8_readsItem 87 = .ok (.iadd, 1) := by decide +kernel
theorem dX8_readsItem_88 : decode cX8_readsItem 88 = .ok (.aload_n 0, 1) := by decide +kernel
theorem dX8_readsItem_89 : decode cX8_readsItem 89 = .ok (.getfield 165, 3) := by decide +kernel
theorem dX8_readsItem_92 : decode cX8_readsItem 92 = .ok (.iastore, 1) := by decide +kernel
theorem dX8_readsItem_93 : decode cX8_readsItem 93 = .ok (.aload_n 0, 1) := by decide +kernel
theorem dX8_readsItem_94 : decode cX8_readsItem 94 = .ok (.bipush 45, 2) := by decide +kernel
theorem dX8_readsItem_96 : decode cX8_readsItem 96 = .ok (.invokevirtual 168, 3) := by decide +kernel
theorem dX8_readsItem_99 : decode cX8_readsItem 99 = .ok (.ifCond .eq 22, 3) := by decide +kernel
theorem dX8_readsItem_102 : decode cX8_readsItem 102 = .ok (.aload_n 0, 1) := by decide +kernel
theorem dX8_readsItem_103 : decode cX8_readsItem 103 = .ok (.bipush 49, 2) := by decide +kernel
theorem dX8_readsItem_105 : decode cX8_readsItem 105 = .ok (.bipush 24, 2) := by decide +kernel
theorem dX8_readsItem_107 : decode cX8_readsItem 107 = .ok (.aload_n 0, 1) := by decide +kernel
theorem dX8_readsItem_108 : decode cX8_readsItem 108 = .ok (.getfield 39, 3) := by decide +kernel
theorem dX8_readsItem_111 : decode cX8_readsItem 111 = .ok (.iload_n 1, 1) := by decide +kernel
theorem dX8_readsItem_112 : decode cX8_readsItem 112 = .ok (.iconst 1, 1) := by decide +kernel
theorem dX8_readsItem_113 : decode cX8_readsItem 113 = .ok (.iadd, 1) := by decide +kernel
theorem dX8_readsItem_114 : decode cX8_readsItem 114 = .ok (.iaload, 1) := by decide +kernel
theorem dX8_readsItem_115 : decode cX8_readsItem 115 = .ok (.invokevirtual 171, 3) := by decide +kernel
theorem dX8_readsItem_118 : decode cX8_readsItem 118 = .ok (.ifCond .ne 5, 3) := by decide +kernel
theorem dX8_readsItem_121 : decode cX8_readsItem 121 = .ok (.iconst 0, 1) := by decide +kernel
theorem dX8_readsItem_122 : decode cX8_readsItem 122 = .ok (.ireturn, 1) := by decide +kernel
theorem dX8_readsItem_123 : decode cX8_readsItem 123 = .ok (.aload_n 0, 1) := by decide +kernel
theorem dX8_readsItem_124 : decode cX8_readsItem 124 = .ok (.getfield 39, 3) := by decide +kernel
theorem dX8_readsItem_127 : decode cX8_readsItem 127 = .ok (.iload_n 1, 1) := by decide +kernel
theorem dX8_readsItem_128 : decode cX8_readsItem 128 = .ok (.iconst 2, 1) := by decide +kernel
theorem dX8_readsItem_129 : decode cX8_readsItem 129 = .ok (.iadd, 1) := by decide +kernel
theorem dX8_readsItem_130 : decode cX8_readsItem 130 = .ok (.aload_n 0, 1) := by decide +kernel
theorem dX8_readsItem_131 : decode cX8_readsItem 131 = .ok (.getfield 165, 3) := by decide +kernel
theorem dX8_readsItem_134 : decode cX8_readsItem 134 = .ok (.iastore, 1) := by decide +kernel
theorem dX8_readsItem_135 : decode cX8_readsItem 135 = .ok (.aload_n 0, 1) := by decide +kernel
theorem dX8_readsItem_136 : decode cX8_readsItem 136 = .ok (.bipush 58, 2) := by decide +kernel
theorem dX8_readsItem_138 : decode cX8_readsItem 138 = .ok (.invokevirtual 168, 3) := by decide +kernel
theorem dX8_readsItem_141 : decode cX8_readsItem 141 = .ok (.ifCond .eq 16, 3) := by decide +kernel
theorem dX8_readsItem_144 : decode cX8_readsItem 144 = .ok (.aload_n 0, 1) := by decide +kernel
theorem dX8_readsItem_145 : decode cX8_readsItem 145 = .ok (.bipush 49, 2) := by decide +kernel
theorem dX8_readsItem_147 : decode cX8_readsItem 147 = .ok (.sipush 9999, 3) := by decide +kernel
theorem dX8_readsItem_150 : decode cX8_readsItem 150 = .ok (.iconst 0, 1) := by decide +kernel
theorem dX8_readsItem_151 : decode cX8_readsItem 151 = .ok (.invokevirtual 171, 3) := by decide +kernel
theorem dX8_readsItem_154 : decode cX8_readsItem 154 = .ok (.ifCond .ne 5, 3) := by decide +kernel
theorem dX8_readsItem_157 : decode cX8_readsItem 157 = .ok (.iconst 0, 1) := by decide +kernel
theorem dX8_readsItem_158 : decode cX8_readsItem 158 = .ok (.ireturn, 1) := by decide +kernel
theorem dX8_readsItem_159 : decode cX8_readsItem 159 = .ok (.aload_n 0, 1) := by decide +kernel
theorem dX8_readsItem_160 : decode cX8_readsItem 160 = .ok (.getfield 39, 3) := by decide +kernel
theorem dX8_readsItem_163 : decode cX8_readsItem 163 = .ok (.iload_n 1, 1) := by decide +kernel
theorem dX8_readsItem_164 : decode cX8_readsItem 164 = .ok (.iconst 3, 1) := by decide +kernel
theorem dX8_readsItem_165 : decode cX8_readsItem 165 = .ok (.iadd, 1) := by decide +kernel
theorem dX8_readsItem_166 : decode cX8_readsItem 166 = .ok (.aload_n 0, 1) := by decide +kernel
theorem dX8_readsItem_167 : decode cX8_readsItem 167 = .ok (.getfield 165, 3) := by decide +kernel
theorem dX8_readsItem_170 : decode cX8_readsItem 170 = .ok (.iastore, 1) := by decide +kernel
theorem dX8_readsItem_171 : decode cX8_readsItem 171 = .ok (.aload_n 0, 1) := by decide +kernel
theorem dX8_readsItem_172 : decode cX8_readsItem 172 = .ok (.bipush 59, 2) := by decide +kernel
theorem dX8_readsItem_174 : decode cX8_readsItem 174 = .ok (.invokevirtual 168, 3) := by decide +kernel
theorem dX8_readsItem_177 : decode cX8_readsItem 177 = .ok (.ireturn, 1) := by decide +kernel
set_option maxRecDepth 20000 in
theorem ggX8_rights_X8_readsItem : GoodIn wsX8_rights wsX8_readsItem := goodIn_r _ [12, 2, 4, 6, 13, 14, 15, 16, 11, 17, 18, 19, 20, 21, 3, 22, 23, 24, 25, 26, 27, 28, 29, 30, 31, 32, 33, 34, 35, 36, 37, 38, 39, 40, 41, 42, 43, 44, 45, 46, 47, 48, 49, 50, 51, 52, 53, 54, 55, 56, 57, 58, 59, 60, 61, 62, 63, 64, 65, 66, 67] (by decide +kernel) (by decide +kernel)
set_option maxRecDepth 20000 in
theorem gX8_rights_X8_readsItem : GoodIn wsX8_rights (wsV RX8 174 RX8 yX8_readsItem wsX8_readsItem) := goodIn_app (goodIn_of _ (by decide +kernel)) ggX8_rights_X8_readsItem
theorem dX8_rights_0 : decode cX8_rights 0 = .ok (.aload_n 0, 1) := by decide +kernel
theorem dX8_rights_1 : decode cX8_rights 1 = .ok (.iconst 0, 1) := by decide +kernel
theorem dX8_rights_2 : decode cX8_rights 2 = .ok (.putfield 64, 3) := by decide +kernel
theorem dX8_rights_5 : decode cX8_rights 5 = .ok (.aload_n 0, 1) := by decide +kernel
theorem dX8_rights_6 : decode cX8_rights 6 = .ok (.iconst 0, 1) := by decide +kernel
theorem dX8_rights_7 : decode cX8_rights 7 = .ok (.putfield 156, 3) := by decide +kernel
theorem dX8_rights_10 : decode cX8_rights 10 = .ok (.iconst 0, 1) := by decide +kernel
theorem dX8_rights_11 : decode cX8_rights 11 = .ok (.istore_n 1, 1) := by decide +kernel
theorem dX8_rights_12 : decode cX8_rights 12 = .ok (.aload_n 0, 1) := by decide +kernel
theorem dX8_rights_13 : decode cX8_rights 13 = .ok (.getfield 156, 3) := by decide +kernel
theorem dX8_rights_16 : decode cX8_rights 16 = .ok (.aload_n 0, 1) := by decide +kernel
theorem dX8_rights_17 : decode cX8_rights 17 = .ok (.getfield 151, 3) := by decide +kernel
theorem dX8_rights_20 : decode cX8_rights 20 = .ok (.if_icmp .ge 41, 3) := by decide +kernel
theorem dX8_rights_23 : decode cX8_rights 23 = .ok (.iload_n 1, 1) := by decide +kernel
theorem dX8_rights_24 : decode cX8_rights 24 = .ok (.bipush 12, 2) := by decide +kernel
theorem dX8_rights_26 : decode cX8_rights 26 = .ok (.if_icmp .ne 11, 3) := by decide +kernel
theorem dX8_rights_29 : decode cX8_rights 29 = .ok (.bipush (-10), 2) := by decide +kernel
theorem dX8_rights_31 : decode cX8_rights 31 = .ok (.aload_n 0, 1) := by decide +kernel
theorem dX8_rights_32 : decode cX8_rights 32 = .ok (.getfield 156, 3) := by decide +kernel
theorem dX8_rights_35 : decode cX8_rights 35 = .ok (.isub, 1) := by decide +kernel
theorem dX8_rights_36 : decode cX8_rights 36 = .ok (.ireturn, 1) := by decide +kernel
theorem dX8_rights_37 : decode cX8_rights 37 = .ok (.aload_n 0, 1) := by decide +kernel
theorem dX8_rights_38 : decode cX8_rights 38 = .ok (.iconst 4, 1) := by decide +kernel
theorem dX8_rights_39 : decode cX8_rights 39 = .ok (.iload_n 1, 1) := by decide +kernel
theorem dX8_rights_40 : decode cX8_rights 40 = .ok (.imul, 1) := by decide +kernel
theorem dX8_rights_41 : decode cX8_rights 41 = .ok (.invokevirtual 174, 3) := by decide +kernel
theorem dX8_rights_44 : decode cX8_rights 44 = .ok (.ifCond .ne 11, 3) := by decide +kernel
theorem dX8_rights_47 : decode cX8_rights 47 = .ok (.bipush (-10), 2) := by decide +kernel
theorem dX8_rights_49 : decode cX8_rights 49 = .ok (.aload_n 0, 1) := by decide +kernel
theorem dX8_rights_50 : decode cX8_rights 50 = .ok (.getfield 162, 3) := by decide +kernel
theorem dX8_rights_53 : decode cX8_rights 53 = .ok (.isub, 1) := by decide +kernel
theorem dX8_rights_54 : decode cX8_rights 54 = .ok (.ireturn, 1) := by decide +kernel
theorem dX8_rights_55 : decode cX8_rights 55 = .ok (.iinc 1 1, 3) := by decide +kernel
theorem dX8_rights_58 : decode cX8_rights 58 = .ok (.goto (-46), 3) := by decide +kernel
theorem dX8_rights_61 : decode cX8_rights 61 = .ok (.iconst 0, 1) := by decide +kernel
theorem dX8_rights_62 : decode cX8_rights 62 = .ok (.istore_n 2, 1) := by decide +kernel
theorem dX8_rights_63 : decode cX8_rights 63 = .ok (.iload_n 2, 1) := by decide +kernel
theorem dX8_rights_64 : decode cX8_rights 64 = .ok (.iconst 4, 1) := by decide +kernel
theorem dX8_rights_65 : decode cX8_rights 65 = .ok (.iload_n 1, 1) := by decide +kernel
theorem dX8_rights_66 : decode cX8_rights 66 = .ok (.imul, 1) := by decide +kernel
theorem dX8_rights_67 : decode cX8_rights 67 = .ok (.if_icmp .ge 21, 3) := by decide +kernel
theorem dX8_rights_70 : decode cX8_rights 70 = .ok (.aload_n 0, 1) := by decide +kernel
theorem dX8_rights_71 : decode cX8_rights 71 = .ok (.getfield 36, 3) := by decide +kernel
theorem dX8_rights_74 : decode cX8_rights 74 = .ok (.iload_n 2, 1) := by decide +kernel
theorem dX8_rights_75 : decode cX8_rights 75 = .ok (.aload_n 0, 1) := by decide +kernel
theorem dX8_rights_76 : decode cX8_rights 76 = .ok (.getfield 39, 3) := by decide +kernel
theorem dX8_rights_79 : decode cX8_rights 79 = .ok (.iload_n 2, 1) := by decide +kernel
theorem dX8_rights_80 : decode cX8_rights 80 = .ok (.iaload, 1) := by decide +kernel
theorem dX8_rights_81 : decode cX8_rights 81 = .ok (.iastore, 1) := by decide +kernel
theorem dX8_rights_82 : decode cX8_rights 82 = .ok (.iinc 2 1, 3) := by decide +kernel
theorem dX8_rights_85 : decode cX8_rights 85 = .ok (.goto (-22), 3) := by decide +kernel
theorem dX8_rights_88 : decode cX8_rights 88 = .ok (.aload_n 0, 1) := by decide +kernel
theorem dX8_rights_89 : decode cX8_rights 89 = .ok (.iload_n 1, 1) := by decide +kernel
theorem dX8_rights_90 : decode cX8_rights 90 = .ok (.putfield 177, 3) := by decide +kernel
theorem dX8_rights_93 : decode cX8_rights 93 = .ok (.aload_n 0, 1) := by decide +kernel
theorem dX8_rights_94 : decode cX8_rights 94 = .ok (.iconst 0, 1) := by decide +kernel
theorem dX8_rights_95 : decode cX8_rights 95 = .ok (.putfield 151, 3) := by decide +kernel
theorem dX8_rights_98 : decode cX8_rights 98 = .ok (.iload_n 1, 1) := by decide +kernel
theorem dX8_rights_99 : decode cX8_rights 99 = .ok (.ireturn, 1) := by decide +kernel
theorem dX8_rightOf_0 : decode cX8_rightOf 0 = .ok (.iconst 0, 1) := by decide +kernel
theorem dX8_rightOf_1 : decode cX8_rightOf 1 = .ok (.istore_n 3, 1) := by decide +kernel
theorem dX8_rightOf_2 : decode cX8_rightOf 2 = .ok (.iconst 0, 1) := by decide +kernel
theorem dX8_rightOf_3 : decode cX8_rightOf 3 = .ok (.istore 4, 2) := by decide +kernel
theorem dX8_rightOf_5 : decode cX8_rightOf 5 = .ok (.iload 4, 2) := by decide +kernel
theorem dX8_rightOf_7 : decode cX8_rightOf 7 = .ok (.aload_n 0, 1) := by decide +kernel
theorem dX8_rightOf_8 : decode cX8_rightOf 8 = .ok (.getfield 177, 3) := by decide +kernel
theorem dX8_rightOf_11 : decode cX8_rightOf 11 = .ok (.if_icmp .ge 70, 3) := by decide +kernel
theorem dX8_rightOf_14 : decode cX8_rightOf 14 = .ok (.iload_n 3, 1) := by decide +kernel
theorem dX8_rightOf_15 : decode cX8_rightOf 15 = .ok (.aload_n 0, 1) := by decide +kernel
theorem dX8_rightOf_16 : decode cX8_rightOf 16 = .ok (.getfield 36, 3) := by decide +kernel
theorem dX8_rightOf_19 : decode cX8_rightOf 19 = .ok (.iconst 4, 1) := by decide +kernel
theorem dX8_rightOf_20 : decode cX8_rightOf 20 = .ok (.iload 4, 2) := by decide +kernel
theorem dX8_rightOf_22 : decode cX8_rightOf 22 = .ok (.imul, 1) := by decide +kernel
theorem dX8_rightOf_23 : decode cX8_rightOf 23 = .ok (.iaload, 1) := by decide +kernel
theorem dX8_rightOf_24 : decode cX8_rightOf 24 = .ok (.iload_n 1, 1) := by decide +kernel
theorem dX8_rightOf_25 : decode cX8_rightOf 25 = .ok (.if_icmp .ne 47, 3) := by decide +kernel
theorem dX8_rightOf_28 : decode cX8_rightOf 28 = .ok (.iload_n 2, 1) := by decide +kernel
theorem dX8_rightOf_29 : decode cX8_rightOf 29 = .ok (.aload_n 0, 1) := by decide +kernel
theorem dX8_rightOf_30 : decode cX8_rightOf 30 = .ok (.getfield 36, 3) := by decide +kernel
theorem dX8_rightOf_33 : decode cX8_rightOf 33 = .ok (.iconst 4, 1) := by decide +kernel
theorem dX8_rightOf_34 : decode cX8_rightOf 34 = .ok (.iload 4, 2) := by decide +kernel
theorem dX8_rightOf_36 : decode cX8_rightOf 36 = .ok (.imul, 1) := by decide +kernel
theorem dX8_rightOf_37 : decode cX8_rightOf 37 = .ok (.iconst 1, 1) := by decide +kernel
theorem dX8_rightOf_38 : decode cX8_rightOf 38 = .ok (.iadd, 1) := by decide +kernel
theorem dX8_rightOf_39 : decode cX8_rightOf 39 = .ok (.iaload, 1) := by decide +kernel
theorem dX8_rightOf_40 : decode cX8_rightOf 40 = .ok (.if_icmp .lt 32, 3) := by decide +kernel
theorem dX8_rightOf_43 : decode cX8_rightOf 43 = .ok (.iload_n 2, 1) := by decide +kernel
theorem dX8_rightOf_44 : decode cX8_rightOf 44 = .ok (.aload_n 0, 1) := by decide +kernel
theorem dX8_rightOf_45 : decode cX8_rightOf 45 = .ok (.getfield 36, 3) := by decide +kernel
theorem dX8_rightOf_48 : decode cX8_rightOf 48 = .ok (.iconst 4, 1) := by decide +kernel
theorem dX8_rightOf_49 : decode cX8_rightOf 49 = .ok (.iload 4, 2) := by decide +kernel
theorem dX8_rightOf_51 : decode cX8_rightOf 51 = .ok (.imul, 1) := by decide +kernel
theorem dX8_rightOf_52 : decode cX8_rightOf 52 = .ok (.iconst 2, 1) := by decide +kernel
theorem dX8_rightOf_53 : decode cX8_rightOf 53 = .ok (.iadd, 1) := by decide +kernel
theorem dX8_rightOf_54 : decode cX8_rightOf 54 = .ok (.iaload, 1) := by decide +kernel
theorem dX8_rightOf_55 : decode cX8_rightOf 55 = .ok (.if_icmp .ge 17, 3) := by decide +kernel
theorem dX8_rightOf_58 : decode cX8_rightOf 58 = .ok (.aload_n 0, 1) := by decide +kernel
theorem dX8_rightOf_59 : decode cX8_rightOf 59 = .ok (.getfield 36, 3) := by decide +kernel
theorem dX8_rightOf_62 : decode cX8_rightOf 62 = .ok (.iconst 4, 1) := by decide +kernel
theorem dX8_rightOf_63 : decode cX8_rightOf 63 = .ok (.iload 4, 2) := by decide +kernel
theorem dX8_rightOf_65 : decode cX8_rightOf 65 = .ok (.imul, 1) := by decide +kernel
theorem dX8_rightOf_66 : decode cX8_rightOf 66 = .ok (.iconst 3, 1) := by decide +kernel
theorem dX8_rightOf_67 : decode cX8_rightOf 67 = .ok (.iadd, 1) := by decide +kernel
theorem dX8_rightOf_68 : decode cX8_rightOf 68 = .ok (.iaload, 1) := by decide +kernel
theorem dX8_rightOf_69 : decode cX8_rightOf 69 = .ok (.goto 4, 3) := by decide +kernel
theorem dX8_rightOf_72 : decode cX8_rightOf 72 = .ok (.iconst 0, 1) := by decide +kernel
theorem dX8_rightOf_73 : decode cX8_rightOf 73 = .ok (.iadd, 1) := by decide +kernel
theorem dX8_rightOf_74 : decode cX8_rightOf 74 = .ok (.istore_n 3, 1) := by decide +kernel
theorem dX8_rightOf_75 : decode cX8_rightOf 75 = .ok (.iinc 4 1, 3) := by decide +kernel
theorem dX8_rightOf_78 : decode cX8_rightOf 78 = .ok (.goto (-73), 3) := by decide +kernel
theorem dX8_rightOf_81 : decode cX8_rightOf 81 = .ok (.iload_n 3, 1) := by decide +kernel
theorem dX8_rightOf_82 : decode cX8_rightOf 82 = .ok (.ireturn, 1) := by decide +kernel
set_option maxRecDepth 20000 in
theorem ggX8_right_X8_in : GoodIn wsX8_right wsX8_in := goodIn_r _ [5] (by decide +kernel) (by decide +kernel)
set_option maxRecDepth 20000 in
theorem gX8_right_X8_in : GoodIn wsX8_right (va_wsS RX8 70 yX8_in wsX8_in) := goodIn_app (goodIn_of _ (by decide +kernel)) ggX8_right_X8_in
set_option maxRecDepth 20000 in
theorem ggX8_right_X8_rightOf : GoodIn wsX8_right wsX8_rightOf := goodIn_r _ [9, 10, 11, 12, 13, 14, 15, 16, 17, 18, 19, 20, 21, 22, 23, 24, 25, 26, 27, 28, 29, 30, 31, 32, 33, 34, 35, 36, 37, 38, 39, 40, 41, 42, 43, 44, 45, 46, 47, 48, 49] (by decide +kernel) (by decide +kernel)
set_option maxRecDepth 20000 in
theorem gX8_right_X8_rightOf : GoodIn wsX8_right (wsV RX8 180 RX8 yX8_rightOf wsX8_rightOf) := goodIn_app (goodIn_of _ (by decide +kernel)) ggX8_right_X8_rightOf
theorem dX8_right_0 : decode cX8_right 0 = .ok (.aload_n 0, 1) := by decide +kernel
theorem dX8_right_1 : decode cX8_right 1 = .ok (.iconst 0, 1) := by decide +kernel
theorem dX8_right_2 : decode cX8_right 2 = .ok (.putfield 64, 3) := by decide +kernel
theorem dX8_right_5 : decode cX8_right 5 = .ok (.iload_n 1, 1) := by decide +kernel
theorem dX8_right_6 : decode cX8_right 6 = .ok (.iconst 0, 1) := by decide +kernel
theorem dX8_right_7 : decode cX8_right 7 = .ok (.iconst 4, 1) := by decide +kernel
theorem dX8_right_8 : decode cX8_right 8 = .ok (.invokestatic 70, 3) := by decide +kernel
theorem dX8_right_11 : decode cX8_right 11 = .ok (.ifCond .eq 22, 3) := by decide +kernel
theorem dX8_right_14 : decode cX8_right 14 = .ok (.iload_n 2, 1) := by decide +kernel
theorem dX8_right_15 : decode cX8_right 15 = .ok (.iconst 0, 1) := by decide +kernel
theorem dX8_right_16 : decode cX8_right 16 = .ok (.bipush 23, 2) := by decide +kernel
theorem dX8_right_18 : decode cX8_right 18 = .ok (.invokestatic 70, 3) := by decide +kernel
theorem dX8_right_21 : decode cX8_right 21 = .ok (.ifCond .eq 12, 3) := by decide +kernel
theorem dX8_right_24 : decode cX8_right 24 = .ok (.aload_n 0, 1) := by decide +kernel
theorem dX8_right_25 : decode cX8_right 25 = .ok (.iload_n 1, 1) := by decide +kernel
theorem dX8_right_26 : decode cX8_right 26 = .ok (.iload_n 2, 1) := by decide +kernel
theorem dX8_right_27 : decode cX8_right 27 = .ok (.invokevirtual 180, 3) := by decide +kernel
theorem dX8_right_30 : decode cX8_right 30 = .ok (.goto 4, 3) := by decide +kernel
theorem dX8_right_33 : decode cX8_right 33 = .ok (.iconst (-1), 1) := by decide +kernel
theorem dX8_right_34 : decode cX8_right 34 = .ok (.ireturn, 1) := by decide +kernel
set_option maxRecDepth 20000 in
theorem ggX8_goes_X8_takes : GoodIn wsX8_goes wsX8_takes := goodIn_r _ [19, 7, 13, 46, 47, 48, 49, 50, 51, 52, 53, 54, 55, 56, 57, 58, 59, 60, 61, 62, 63, 64, 65, 66, 67, 68, 69, 70, 71, 72, 73, 74, 75, 76, 77, 78, 79, 80, 81, 82, 83] (by decide +kernel) (by decide +kernel)
set_option maxRecDepth 20000 in
theorem gX8_goes_X8_takes : GoodIn wsX8_goes (wsV RX8 89 RX8 yX8_takes wsX8_takes) := goodIn_app (goodIn_of _ (by decide +kernel)) ggX8_goes_X8_takes
set_option maxRecDepth 20000 in
theorem ggX8_goes_X8_hourOf : GoodIn wsX8_goes wsX8_hourOf := goodIn_r _ [23, 7, 24, 25, 26, 27, 28, 29, 18, 30, 31, 9, 32, 33, 34, 35, 36, 37, 38, 39, 46, 47, 48, 49, 50, 51, 52, 53, 54, 55, 56, 57, 58, 59, 60, 61, 62, 63, 64, 65, 66, 67, 68, 69, 70, 71, 72, 73, 74, 75, 76, 77, 78, 79, 80, 81, 82, 83] (by decide +kernel) (by decide +kernel)
set_option maxRecDepth 20000 in
theorem gX8_goes_X8_hourOf : GoodIn wsX8_goes (wsV RX8 124 RX8 yX8_hourOf wsX8_hourOf) := goodIn_app (goodIn_of _ (by decide +kernel)) ggX8_goes_X8_hourOf
set_option maxRecDepth 20000 in
theorem ggX8_goes_X8_rightOf : GoodIn wsX8_goes wsX8_rightOf := goodIn_r _ [43, 44, 45, 46, 47, 48, 49, 50, 51, 52, 53, 54, 55, 56, 57, 58, 59, 60, 61, 62, 63, 64, 65, 66, 67, 68, 69, 70, 71, 72, 73, 74, 75, 76, 77, 78, 79, 80, 81, 82, 83] (by decide +kernel) (by decide +kernel)
set_option maxRecDepth 20000 in
theorem gX8_goes_X8_rightOf : GoodIn wsX8_goes (wsV RX8 180 RX8 yX8_rightOf wsX8_rightOf) := goodIn_app (goodIn_of _ (by decide +kernel)) ggX8_goes_X8_rightOf
theorem dX8_goes_0 : decode cX8_goes 0 = .ok (.aload_n 0, 1) := by decide +kernel
theorem dX8_goes_1 : decode cX8_goes 1 = .ok (.getfield 16, 3) := by decide +kernel
theorem dX8_goes_4 : decode cX8_goes 4 = .ok (.aload_n 0, 1) := by decide +kernel
theorem dX8_goes_5 : decode cX8_goes 5 = .ok (.getfield 184, 3) := by decide +kernel
theorem dX8_goes_8 : decode cX8_goes 8 = .ok (.iaload, 1) := by decide +kernel
theorem dX8_goes_9 : decode cX8_goes 9 = .ok (.istore_n 1, 1) := by decide +kernel
theorem dX8_goes_10 : decode cX8_goes 10 = .ok (.aload_n 0, 1) := by decide +kernel
theorem dX8_goes_11 : decode cX8_goes 11 = .ok (.getfield 187, 3) := by decide +kernel
theorem dX8_goes_14 : decode cX8_goes 14 = .ok (.aload_n 0, 1) := by decide +kernel
theorem dX8_goes_15 : decode cX8_goes 15 = .ok (.getfield 142, 3) := by decide +kernel
theorem dX8_goes_18 : decode cX8_goes 18 = .ok (.if_icmp .lt 18, 3) := by decide +kernel
theorem dX8_goes_21 : decode cX8_goes 21 = .ok (.aload_n 0, 1) := by decide +kernel
theorem dX8_goes_22 : decode cX8_goes 22 = .ok (.getfield 187, 3) := by decide +kernel
theorem dX8_goes_25 : decode cX8_goes 25 = .ok (.aload_n 0, 1) := by decide +kernel
theorem dX8_goes_26 : decode cX8_goes 26 = .ok (.getfield 145, 3) := by decide +kernel
theorem dX8_goes_29 : decode cX8_goes 29 = .ok (.if_icmp .ge 7, 3) := by decide +kernel
theorem dX8_goes_32 : decode cX8_goes 32 = .ok (.iconst 1, 1) := by decide +kernel
theorem dX8_goes_33 : decode cX8_goes 33 = .ok (.goto 4, 3) := by decide +kernel
theorem dX8_goes_36 : decode cX8_goes 36 = .ok (.iconst 0, 1) := by decide +kernel
theorem dX8_goes_37 : decode cX8_goes 37 = .ok (.istore_n 2, 1) := by decide +kernel
theorem dX8_goes_38 : decode cX8_goes 38 = .ok (.iconst 0, 1) := by decide +kernel
theorem dX8_goes_39 : decode cX8_goes 39 = .ok (.istore_n 3, 1) := by decide +kernel
theorem dX8_goes_40 : decode cX8_goes 40 = .ok (.iload_n 3, 1) := by decide +kernel
theorem dX8_goes_41 : decode cX8_goes 41 = .ok (.aload_n 0, 1) := by decide +kernel
theorem dX8_goes_42 : decode cX8_goes 42 = .ok (.getfield 67, 3) := by decide +kernel
theorem dX8_goes_45 : decode cX8_goes 45 = .ok (.if_icmp .ge 272, 3) := by decide +kernel
theorem dX8_goes_48 : decode cX8_goes 48 = .ok (.aload_n 0, 1) := by decide +kernel
theorem dX8_goes_49 : decode cX8_goes 49 = .ok (.iload_n 3, 1) := by decide +kernel
theorem dX8_goes_50 : decode cX8_goes 50 = .ok (.invokevirtual 89, 3) := by decide +kernel
theorem dX8_goes_53 : decode cX8_goes 53 = .ok (.aload_n 0, 1) := by decide +kernel
theorem dX8_goes_54 : decode cX8_goes 54 = .ok (.getfield 13, 3) := by decide +kernel
theorem dX8_goes_57 : decode cX8_goes 57 = .ok (.bipush 12, 2) := by decide +kernel
theorem dX8_goes_59 : decode cX8_goes 59 = .ok (.iaload, 1) := by decide +kernel
theorem dX8_goes_60 : decode cX8_goes 60 = .ok (.iconst 1, 1) := by decide +kernel
theorem dX8_goes_61 : decode cX8_goes 61 = .ok (.if_icmp .ne 37, 3) := by decide +kernel
theorem dX8_goes_64 : decode cX8_goes 64 = .ok (.iload_n 2, 1) := by decide +kernel
theorem dX8_goes_65 : decode cX8_goes 65 = .ok (.ifCond .ne 33, 3) := by decide +kernel
theorem dX8_goes_68 : decode cX8_goes 68 = .ok (.aload_n 0, 1) := by decide +kernel
theorem dX8_goes_69 : decode cX8_goes 69 = .ok (.getfield 13, 3) := by decide +kernel
theorem dX8_goes_72 : decode cX8_goes 72 = .ok (.iconst 5, 1) := by decide +kernel
theorem dX8_goes_73 : decode cX8_goes 73 = .ok (.iaload, 1) := by decide +kernel
theorem dX8_goes_74 : decode cX8_goes 74 = .ok (.iconst 2, 1) := by decide +kernel
theorem dX8_goes_75 : decode cX8_goes 75 = .ok (.if_icmp .gt 19, 3) := by decide +kernel
theorem dX8_goes_78 : decode cX8_goes 78 = .ok (.aload_n 0, 1) := by decide +kernel
theorem dX8_goes_79 : decode cX8_goes 79 = .ok (.getfield 187, 3) := by decide +kernel
theorem dX8_goes_82 : decode cX8_goes 82 = .ok (.aload_n 0, 1) := by decide +kernel
theorem dX8_goes_83 : decode cX8_goes 83 = .ok (.getfield 19, 3) := by decide +kernel
theorem dX8_goes_86 : decode cX8_goes 86 = .ok (.aload_n 0, 1) := by decide +kernel
theorem dX8_goes_87 : decode cX8_goes 87 = .ok (.getfield 184, 3) := by decide +kernel
theorem dX8_goes_90 : decode cX8_goes 90 = .ok (.iaload, 1) := by decide +kernel
theorem dX8_goes_91 : decode cX8_goes 91 = .ok (.if_icmp .lt 7, 3) := by decide +kernel
theorem dX8_goes_94 : decode cX8_goes 94 = .ok (.iconst 1, 1) := by decide +kernel
theorem dX8_goes_95 : decode cX8_goes 95 = .ok (.goto 4, 3) := by decide +kernel
theorem dX8_goes_98 : decode cX8_goes 98 = .ok (.iconst 0, 1) := by decide +kernel
theorem dX8_goes_99 : decode cX8_goes 99 = .ok (.istore 4, 2) := by decide +kernel
theorem dX8_goes_101 : decode cX8_goes 101 = .ok (.iload 4, 2) := by decide +kernel
theorem dX8_goes_103 : decode cX8_goes 103 = .ok (.ifCond .eq 11, 3) := by decide +kernel
theorem dX8_goes_106 : decode cX8_goes 106 = .ok (.aload_n 0, 1) := by decide +kernel
theorem dX8_goes_107 : decode cX8_goes 107 = .ok (.iconst 3, 1) := by decide +kernel
theorem dX8_goes_108 : decode cX8_goes 108 = .ok (.invokevirtual 124, 3) := by decide +kernel
theorem dX8_goes_111 : decode cX8_goes 111 = .ok (.goto 4, 3) := by decide +kernel
theorem dX8_goes_114 : decode cX8_goes 114 = .ok (.iconst 0, 1) := by decide +kernel
theorem dX8_goes_115 : decode cX8_goes 115 = .ok (.istore 5, 2) := by decide +kernel
theorem dX8_goes_117 : decode cX8_goes 117 = .ok (.iload 4, 2) := by decide +kernel
theorem dX8_goes_119 : decode cX8_goes 119 = .ok (.ifCond .eq 192, 3) := by decide +kernel
theorem dX8_goes_122 : decode cX8_goes 122 = .ok (.iload 5, 2) := by decide +kernel
theorem dX8_goes_124 : decode cX8_goes 124 = .ok (.iload_n 1, 1) := by decide +kernel
theorem dX8_goes_125 : decode cX8_goes 125 = .ok (.if_icmp .gt 186, 3) := by decide +kernel
theorem dX8_goes_128 : decode cX8_goes 128 = .ok (.iload_n 1, 1) := by decide +kernel
theorem dX8_goes_129 : decode cX8_goes 129 = .ok (.iload 5, 2) := by decide +kernel
theorem dX8_goes_131 : decode cX8_goes 131 = .ok (.isub, 1) := by decide +kernel
theorem dX8_goes_132 : decode cX8_goes 132 = .ok (.istore_n 1, 1) := by decide +kernel
theorem dX8_goes_133 : decode cX8_goes 133 = .ok (.aload_n 0, 1) := by decide +kernel
theorem dX8_goes_134 : decode cX8_goes 134 = .ok (.iconst 2, 1) := by decide +kernel
theorem dX8_goes_135 : decode cX8_goes 135 = .ok (.invokevirtual 124, 3) := by decide +kernel
theorem dX8_goes_138 : decode cX8_goes 138 = .ok (.istore 6, 2) := by decide +kernel
theorem dX8_goes_140 : decode cX8_goes 140 = .ok (.aload_n 0, 1) := by decide +kernel
theorem dX8_goes_141 : decode cX8_goes 141 = .ok (.getfield 106, 3) := by decide +kernel
theorem dX8_goes_144 : decode cX8_goes 144 = .ok (.bipush (-9), 2) := by decide +kernel
theorem dX8_goes_146 : decode cX8_goes 146 = .ok (.if_icmp .eq 7, 3) := by decide +kernel
theorem dX8_goes_149 : decode cX8_goes 149 = .ok (.iconst 1, 1) := by decide +kernel
theorem dX8_goes_150 : decode cX8_goes 150 = .ok (.goto 4, 3) := by decide +kernel
theorem dX8_goes_153 : decode cX8_goes 153 = .ok (.iconst 0, 1) := by decide +kernel
theorem dX8_goes_154 : decode cX8_goes 154 = .ok (.istore 7, 2) := by decide +kernel
theorem dX8_goes_156 : decode cX8_goes 156 = .ok (.aload_n 0, 1) := by decide +kernel
theorem dX8_goes_157 : decode cX8_goes 157 = .ok (.getfield 42, 3) := by decide +kernel
theorem dX8_goes_160 : decode cX8_goes 160 = .ok (.iconst 0, 1) := by decide +kernel
theorem dX8_goes_161 : decode cX8_goes 161 = .ok (.dup2, 1) := by decide +kernel
theorem dX8_goes_162 : decode cX8_goes 162 = .ok (.laload, 1) := by decide +kernel
theorem dX8_goes_163 : decode cX8_goes 163 = .ok (.iload 6, 2) := by decide +kernel
theorem dX8_goes_165 : decode cX8_goes 165 = .ok (.i2l, 1) := by decide +kernel
theorem dX8_goes_166 : decode cX8_goes 166 = .ok (.ladd, 1) := by decide +kernel
theorem dX8_goes_167 : decode cX8_goes 167 = .ok (.lastore, 1) := by decide +kernel
theorem dX8_goes_168 : decode cX8_goes 168 = .ok (.aload_n 0, 1) := by decide +kernel
theorem dX8_goes_169 : decode cX8_goes 169 = .ok (.getfield 42, 3) := by decide +kernel
theorem dX8_goes_172 : decode cX8_goes 172 = .ok (.iconst 1, 1) := by decide +kernel
theorem dX8_goes_173 : decode cX8_goes 173 = .ok (.dup2, 1) := by decide +kernel
theorem dX8_goes_174 : decode cX8_goes 174 = .ok (.laload, 1) := by decide +kernel
theorem dX8_goes_175 : decode cX8_goes 175 = .ok (.aload_n 0, 1) := by decide +kernel
theorem dX8_goes_176 : decode cX8_goes 176 = .ok (.iconst 1, 1) := by decide +kernel
theorem dX8_goes_177 : decode cX8_goes 177 = .ok (.invokevirtual 124, 3) := by decide +kernel
theorem dX8_goes_180 : decode cX8_goes 180 = .ok (.i2l, 1) := by decide +kernel
theorem dX8_goes_181 : decode cX8_goes 181 = .ok (.ladd, 1) := by decide +kernel
theorem dX8_goes_182 : decode cX8_goes 182 = .ok (.lastore, 1) := by decide +kernel
theorem dX8_goes_183 : decode cX8_goes 183 = .ok (.aload_n 0, 1) := by decide +kernel
theorem dX8_goes_184 : decode cX8_goes 184 = .ok (.dup, 1) := by decide +kernel
theorem dX8_goes_185 : decode cX8_goes 185 = .ok (.getfield 148, 3) := by decide +kernel
theorem dX8_goes_188 : decode cX8_goes 188 = .ok (.iload 6, 2) := by decide +kernel
theorem dX8_goes_190 : decode cX8_goes 190 = .ok (.iadd, 1) := by decide +kernel
theorem dX8_goes_191 : decode cX8_goes 191 = .ok (.putfield 148, 3) := by decide +kernel
theorem dX8_goes_194 : decode cX8_goes 194 = .ok (.aload_n 0, 1) := by decide +kernel
theorem dX8_goes_195 : decode cX8_goes 195 = .ok (.getfield 148, 3) := by decide +kernel
theorem dX8_goes_198 : decode cX8_goes 198 = .ok (.aload_n 0, 1) := by decide +kernel
theorem dX8_goes_199 : decode cX8_goes 199 = .ok (.getfield 29, 3) := by decide +kernel
theorem dX8_goes_202 : decode cX8_goes 202 = .ok (.if_icmp .le 30, 3) := by decide +kernel
theorem dX8_goes_205 : decode cX8_goes 205 = .ok (.aload_n 0, 1) := by decide +kernel
theorem dX8_goes_206 : decode cX8_goes 206 = .ok (.getfield 42, 3) := by decide +kernel
theorem dX8_goes_209 : decode cX8_goes 209 = .ok (.iconst 2, 1) := by decide +kernel
theorem dX8_goes_210 : decode cX8_goes 210 = .ok (.dup2, 1) := by decide +kernel
theorem dX8_goes_211 : decode cX8_goes 211 = .ok (.laload, 1) := by decide +kernel
theorem dX8_goes_212 : decode cX8_goes 212 = .ok (.aload_n 0, 1) := by decide +kernel
theorem dX8_goes_213 : decode cX8_goes 213 = .ok (.getfield 148, 3) := by decide +kernel
theorem dX8_goes_216 : decode cX8_goes 216 = .ok (.aload_n 0, 1) := by decide +kernel
theorem dX8_goes_217 : decode cX8_goes 217 = .ok (.getfield 29, 3) := by decide +kernel
theorem dX8_goes_220 : decode cX8_goes 220 = .ok (.isub, 1) := by decide +kernel
theorem dX8_goes_221 : decode cX8_goes 221 = .ok (.i2l, 1) := by decide +kernel
theorem dX8_goes_222 : decode cX8_goes 222 = .ok (.ladd, 1) := by decide +kernel
theorem dX8_goes_223 : decode cX8_goes 223 = .ok (.lastore, 1) := by decide +kernel
theorem dX8_goes_224 : decode cX8_goes 224 = .ok (.aload_n 0, 1) := by decide +kernel
theorem dX8_goes_225 : decode cX8_goes 225 = .ok (.aload_n 0, 1) := by decide +kernel
theorem dX8_goes_226 : decode cX8_goes 226 = .ok (.getfield 29, 3) := by decide +kernel
theorem dX8_goes_229 : decode cX8_goes 229 = .ok (.putfield 148, 3) := by decide +kernel
theorem dX8_goes_232 : decode cX8_goes 232 = .ok (.iload 7, 2) := by decide +kernel
theorem dX8_goes_234 : decode cX8_goes 234 = .ok (.ifCond .eq 77, 3) := by decide +kernel
theorem dX8_goes_237 : decode cX8_goes 237 = .ok (.aload_n 0, 1) := by decide +kernel
theorem dX8_goes_238 : decode cX8_goes 238 = .ok (.getfield 13, 3) := by decide +kernel
theorem dX8_goes_241 : decode cX8_goes 241 = .ok (.bipush 6, 2) := by decide +kernel
theorem dX8_goes_243 : decode cX8_goes 243 = .ok (.iaload, 1) := by decide +kernel
theorem dX8_goes_244 : decode cX8_goes 244 = .ok (.iconst 1, 1) := by decide +kernel
theorem dX8_goes_245 : decode cX8_goes 245 = .ok (.isub, 1) := by decide +kernel
theorem dX8_goes_246 : decode cX8_goes 246 = .ok (.aload_n 0, 1) := by decide +kernel
theorem dX8_goes_247 : decode cX8_goes 247 = .ok (.getfield 13, 3) := by decide +kernel
theorem dX8_goes_250 : decode cX8_goes 250 = .ok (.bipush 9, 2) := by decide +kernel
theorem dX8_goes_252 : decode cX8_goes 252 = .ok (.iaload, 1) := by decide +kernel
theorem dX8_goes_253 : decode cX8_goes 253 = .ok (.isub, 1) := by decide +kernel
theorem dX8_goes_254 : decode cX8_goes 254 = .ok (.istore 8, 2) := by decide +kernel
theorem dX8_goes_256 : decode cX8_goes 256 = .ok (.iload 8, 2) := by decide +kernel
theorem dX8_goes_258 : decode cX8_goes 258 = .ok (.ifCond .ge 7, 3) := by decide +kernel
theorem dX8_goes_261 : decode cX8_goes 261 = .ok (.iconst 0, 1) := by decide +kernel
theorem dX8_goes_262 : decode cX8_goes 262 = .ok (.goto 5, 3) := by decide +kernel
theorem dX8_goes_265 : decode cX8_goes 265 = .ok (.iload 8, 2) := by decide +kernel
theorem dX8_goes_267 : decode cX8_goes 267 = .ok (.istore 8, 2) := by decide +kernel
theorem dX8_goes_269 : decode cX8_goes 269 = .ok (.iload 8, 2) := by decide +kernel
theorem dX8_goes_271 : decode cX8_goes 271 = .ok (.aload_n 0, 1) := by decide +kernel
theorem dX8_goes_272 : decode cX8_goes 272 = .ok (.getfield 13, 3) := by decide +kernel
theorem dX8_goes_275 : decode cX8_goes 275 = .ok (.bipush 11, 2) := by decide +kernel
theorem dX8_goes_277 : decode cX8_goes 277 = .ok (.iaload, 1) := by decide +kernel
theorem dX8_goes_278 : decode cX8_goes 278 = .ok (.iconst 1, 1) := by decide +kernel
theorem dX8_goes_279 : decode cX8_goes 279 = .ok (.if_icmp .ne 14, 3) := by decide +kernel
theorem dX8_goes_282 : decode cX8_goes 282 = .ok (.iload 8, 2) := by decide +kernel
theorem dX8_goes_284 : decode cX8_goes 284 = .ok (.bipush 100, 2) := by decide +kernel
theorem dX8_goes_286 : decode cX8_goes 286 = .ok (.if_icmp .ge 7, 3) := by decide +kernel
theorem dX8_goes_289 : decode cX8_goes 289 = .ok (.iconst 1, 1) := by decide +kernel
theorem dX8_goes_290 : decode cX8_goes 290 = .ok (.goto 4, 3) := by decide +kernel
theorem dX8_goes_293 : decode cX8_goes 293 = .ok (.iconst 0, 1) := by decide +kernel
theorem dX8_goes_294 : decode cX8_goes 294 = .ok (.iadd, 1) := by decide +kernel
theorem dX8_goes_295 : decode cX8_goes 295 = .ok (.istore 8, 2) := by decide +kernel
theorem dX8_goes_297 : decode cX8_goes 297 = .ok (.aload_n 0, 1) := by decide +kernel
theorem dX8_goes_298 : decode cX8_goes 298 = .ok (.getfield 7, 3) := by decide +kernel
theorem dX8_goes_301 : decode cX8_goes 301 = .ok (.bipush 13, 2) := by decide +kernel
theorem dX8_goes_303 : decode cX8_goes 303 = .ok (.iload_n 3, 1) := by decide +kernel
theorem dX8_goes_304 : decode cX8_goes 304 = .ok (.imul, 1) := by decide +kernel
theorem dX8_goes_305 : decode cX8_goes 305 = .ok (.bipush 6, 2) := by decide +kernel
theorem dX8_goes_307 : decode cX8_goes 307 = .ok (.iadd, 1) := by decide +kernel
theorem dX8_goes_308 : decode cX8_goes 308 = .ok (.iload 8, 2) := by decide +kernel
theorem dX8_goes_310 : decode cX8_goes 310 = .ok (.iastore, 1) := by decide +kernel
theorem dX8_goes_311 : decode cX8_goes 311 = .ok (.iinc 3 1, 3) := by decide +kernel
theorem dX8_goes_314 : decode cX8_goes 314 = .ok (.goto (-274), 3) := by decide +kernel
theorem dX8_goes_317 : decode cX8_goes 317 = .ok (.iconst 0, 1) := by decide +kernel
theorem dX8_goes_318 : decode cX8_goes 318 = .ok (.istore_n 3, 1) := by decide +kernel
theorem dX8_goes_319 : decode cX8_goes 319 = .ok (.iconst 0, 1) := by decide +kernel
theorem dX8_goes_320 : decode cX8_goes 320 = .ok (.istore 4, 2) := by decide +kernel
theorem dX8_goes_322 : decode cX8_goes 322 = .ok (.iload 4, 2) := by decide +kernel
theorem dX8_goes_324 : decode cX8_goes 324 = .ok (.iconst 5, 1) := by decide +kernel
theorem dX8_goes_325 : decode cX8_goes 325 = .ok (.if_icmp .ge 106, 3) := by decide +kernel
theorem dX8_goes_328 : decode cX8_goes 328 = .ok (.aload_n 0, 1) := by decide +kernel
theorem dX8_goes_329 : decode cX8_goes 329 = .ok (.iload 4, 2) := by decide +kernel
theorem dX8_goes_331 : decode cX8_goes 331 = .ok (.aload_n 0, 1) := by decide +kernel
theorem dX8_goes_332 : decode cX8_goes 332 = .ok (.getfield 187, 3) := by decide +kernel
theorem dX8_goes_335 : decode cX8_goes 335 = .ok (.invokevirtual 180, 3) := by decide +kernel
theorem dX8_goes_338 : decode cX8_goes 338 = .ok (.istore 5, 2) := by decide +kernel
theorem dX8_goes_340 : decode cX8_goes 340 = .ok (.iload 5, 2) := by decide +kernel
theorem dX8_goes_342 : decode cX8_goes 342 = .ok (.aload_n 0, 1) := by decide +kernel
theorem dX8_goes_343 : decode cX8_goes 343 = .ok (.getfield 148, 3) := by decide +kernel
theorem dX8_goes_346 : decode cX8_goes 346 = .ok (.if_icmp .ge 8, 3) := by decide +kernel
theorem dX8_goes_349 : decode cX8_goes 349 = .ok (.iload 5, 2) := by decide +kernel
theorem dX8_goes_351 : decode cX8_goes 351 = .ok (.goto 7, 3) := by decide +kernel
theorem dX8_goes_354 : decode cX8_goes 354 = .ok (.aload_n 0, 1) := by decide +kernel
theorem dX8_goes_355 : decode cX8_goes 355 = .ok (.getfield 148, 3) := by decide +kernel
theorem dX8_goes_358 : decode cX8_goes 358 = .ok (.istore 6, 2) := by decide +kernel
theorem dX8_goes_360 : decode cX8_goes 360 = .ok (.aload_n 0, 1) := by decide +kernel
theorem dX8_goes_361 : decode cX8_goes 361 = .ok (.dup, 1) := by decide +kernel
theorem dX8_goes_362 : decode cX8_goes 362 = .ok (.getfield 148, 3) := by decide +kernel
theorem dX8_goes_365 : decode cX8_goes 365 = .ok (.iload 6, 2) := by decide +kernel
theorem dX8_goes_367 : decode cX8_goes 367 = .ok (.isub, 1) := by decide +kernel
theorem dX8_goes_368 : decode cX8_goes 368 = .ok (.putfield 148, 3) := by decide +kernel
theorem dX8_goes_371 : decode cX8_goes 371 = .ok (.aload_n 0, 1) := by decide +kernel
theorem dX8_goes_372 : decode cX8_goes 372 = .ok (.getfield 42, 3) := by decide +kernel
theorem dX8_goes_375 : decode cX8_goes 375 = .ok (.iconst 3, 1) := by decide +kernel
theorem dX8_goes_376 : decode cX8_goes 376 = .ok (.dup2, 1) := by decide +kernel
theorem dX8_goes_377 : decode cX8_goes 377 = .ok (.laload, 1) := by decide +kernel
theorem dX8_goes_378 : decode cX8_goes 378 = .ok (.iload 6, 2) := by decide +kernel
theorem dX8_goes_380 : decode cX8_goes 380 = .ok (.i2l, 1) := by decide +kernel
theorem dX8_goes_381 : decode cX8_goes 381 = .ok (.ladd, 1) := by decide +kernel
theorem dX8_goes_382 : decode cX8_goes 382 = .ok (.lastore, 1) := by decide +kernel
theorem dX8_goes_383 : decode cX8_goes 383 = .ok (.aload_n 0, 1) := by decide +kernel
theorem dX8_goes_384 : decode cX8_goes 384 = .ok (.getfield 42, 3) := by decide +kernel
theorem dX8_goes_387 : decode cX8_goes 387 = .ok (.iconst 4, 1) := by decide +kernel
theorem dX8_goes_388 : decode cX8_goes 388 = .ok (.dup2, 1) := by decide +kernel
theorem dX8_goes_389 : decode cX8_goes 389 = .ok (.laload, 1) := by decide +kernel
theorem dX8_goes_390 : decode cX8_goes 390 = .ok (.iload 5, 2) := by decide +kernel
theorem dX8_goes_392 : decode cX8_goes 392 = .ok (.iload 6, 2) := by decide +kernel
theorem dX8_goes_394 : decode cX8_goes 394 = .ok (.isub, 1) := by decide +kernel
theorem dX8_goes_395 : decode cX8_goes 395 = .ok (.i2l, 1) := by decide +kernel
theorem dX8_goes_396 : decode cX8_goes 396 = .ok (.ladd, 1) := by decide +kernel
theorem dX8_goes_397 : decode cX8_goes 397 = .ok (.lastore, 1) := by decide +kernel
theorem dX8_goes_398 : decode cX8_goes 398 = .ok (.aload_n 0, 1) := by decide +kernel
theorem dX8_goes_399 : decode cX8_goes 399 = .ok (.getfield 42, 3) := by decide +kernel
theorem dX8_goes_402 : decode cX8_goes 402 = .ok (.bipush 6, 2) := by decide +kernel
theorem dX8_goes_404 : decode cX8_goes 404 = .ok (.iload 4, 2) := by decide +kernel
theorem dX8_goes_406 : decode cX8_goes 406 = .ok (.iadd, 1) := by decide +kernel
theorem dX8_goes_407 : decode cX8_goes 407 = .ok (.dup2, 1) := by decide +kernel
theorem dX8_goes_408 : decode cX8_goes 408 = .ok (.laload, 1) := by decide +kernel
theorem dX8_goes_409 : decode cX8_goes 409 = .ok (.iload 5, 2) := by decide +kernel
theorem dX8_goes_411 : decode cX8_goes 411 = .ok (.iload 6, 2) := by decide +kernel
theorem dX8_goes_413 : decode cX8_goes 413 = .ok (.isub, 1) := by decide +kernel
theorem dX8_goes_414 : decode cX8_goes 414 = .ok (.i2l, 1) := by decide +kernel
theorem dX8_goes_415 : decode cX8_goes 415 = .ok (.ladd, 1) := by decide +kernel
theorem dX8_goes_416 : decode cX8_goes 416 = .ok (.lastore, 1) := by decide +kernel
theorem dX8_goes_417 : decode cX8_goes 417 = .ok (.iload_n 3, 1) := by decide +kernel
theorem dX8_goes_418 : decode cX8_goes 418 = .ok (.iload 5, 2) := by decide +kernel
theorem dX8_goes_420 : decode cX8_goes 420 = .ok (.iload 6, 2) := by decide +kernel
theorem dX8_goes_422 : decode cX8_goes 422 = .ok (.isub, 1) := by decide +kernel
theorem dX8_goes_423 : decode cX8_goes 423 = .ok (.iadd, 1) := by decide +kernel
theorem dX8_goes_424 : decode cX8_goes 424 = .ok (.istore_n 3, 1) := by decide +kernel
theorem dX8_goes_425 : decode cX8_goes 425 = .ok (.iinc 4 1, 3) := by decide +kernel
theorem dX8_goes_428 : decode cX8_goes 428 = .ok (.goto (-106), 3) := by decide +kernel
theorem dX8_goes_431 : decode cX8_goes 431 = .ok (.aload_n 0, 1) := by decide +kernel
theorem dX8_goes_432 : decode cX8_goes 432 = .ok (.dup, 1) := by decide +kernel
theorem dX8_goes_433 : decode cX8_goes 433 = .ok (.getfield 187, 3) := by decide +kernel
theorem dX8_goes_436 : decode cX8_goes 436 = .ok (.iconst 1, 1) := by decide +kernel
theorem dX8_goes_437 : decode cX8_goes 437 = .ok (.iadd, 1) := by decide +kernel
theorem dX8_goes_438 : decode cX8_goes 438 = .ok (.putfield 187, 3) := by decide +kernel
theorem dX8_goes_441 : decode cX8_goes 441 = .ok (.aload_n 0, 1) := by decide +kernel
theorem dX8_goes_442 : decode cX8_goes 442 = .ok (.getfield 187, 3) := by decide +kernel
theorem dX8_goes_445 : decode cX8_goes 445 = .ok (.bipush 24, 2) := by decide +kernel
theorem dX8_goes_447 : decode cX8_goes 447 = .ok (.if_icmp .ne 18, 3) := by decide +kernel
theorem dX8_goes_450 : decode cX8_goes 450 = .ok (.aload_n 0, 1) := by decide +kernel
theorem dX8_goes_451 : decode cX8_goes 451 = .ok (.iconst 0, 1) := by decide +kernel
theorem dX8_goes_452 : decode cX8_goes 452 = .ok (.putfield 187, 3) := by decide +kernel
theorem dX8_goes_455 : decode cX8_goes 455 = .ok (.aload_n 0, 1) := by decide +kernel
theorem dX8_goes_456 : decode cX8_goes 456 = .ok (.dup, 1) := by decide +kernel
theorem dX8_goes_457 : decode cX8_goes 457 = .ok (.getfield 190, 3) := by decide +kernel
theorem dX8_goes_460 : decode cX8_goes 460 = .ok (.iconst 1, 1) := by decide +kernel
theorem dX8_goes_461 : decode cX8_goes 461 = .ok (.iadd, 1) := by decide +kernel
theorem dX8_goes_462 : decode cX8_goes 462 = .ok (.putfield 190, 3) := by decide +kernel
theorem dX8_goes_465 : decode cX8_goes 465 = .ok (.aload_n 0, 1) := by decide +kernel
theorem dX8_goes_466 : decode cX8_goes 466 = .ok (.getfield 190, 3) := by decide +kernel
theorem dX8_goes_469 : decode cX8_goes 469 = .ok (.bipush 30, 2) := by decide +kernel
theorem dX8_goes_471 : decode cX8_goes 471 = .ok (.if_icmp .ne 21, 3) := by decide +kernel
theorem dX8_goes_474 : decode cX8_goes 474 = .ok (.aload_n 0, 1) := by decide +kernel
theorem dX8_goes_475 : decode cX8_goes 475 = .ok (.iconst 0, 1) := by decide +kernel
theorem dX8_goes_476 : decode cX8_goes 476 = .ok (.putfield 190, 3) := by decide +kernel
theorem dX8_goes_479 : decode cX8_goes 479 = .ok (.aload_n 0, 1) := by decide +kernel
theorem dX8_goes_480 : decode cX8_goes 480 = .ok (.aload_n 0, 1) := by decide +kernel
theorem dX8_goes_481 : decode cX8_goes 481 = .ok (.getfield 184, 3) := by decide +kernel
theorem dX8_goes_484 : decode cX8_goes 484 = .ok (.iconst 1, 1) := by decide +kernel
theorem dX8_goes_485 : decode cX8_goes 485 = .ok (.iadd, 1) := by decide +kernel
theorem dX8_goes_486 : decode cX8_goes 486 = .ok (.bipush 12, 2) := by decide +kernel
theorem dX8_goes_488 : decode cX8_goes 488 = .ok (.irem, 1) := by decide +kernel
theorem dX8_goes_489 : decode cX8_goes 489 = .ok (.putfield 184, 3) := by decide +kernel
theorem dX8_goes_492 : decode cX8_goes 492 = .ok (.iload_n 3, 1) := by decide +kernel
theorem dX8_goes_493 : decode cX8_goes 493 = .ok (.ireturn, 1) := by decide +kernel
set_option maxRecDepth 20000 in
theorem ggX8_hours_X8_in : GoodIn wsX8_hours wsX8_in := goodIn_r _ [5] (by decide +kernel) (by decide +kernel)
set_option maxRecDepth 20000 in
theorem gX8_hours_X8_in : GoodIn wsX8_hours (va_wsS RX8 70 yX8_in wsX8_in) := goodIn_app (goodIn_of _ (by decide +kernel)) ggX8_hours_X8_in
set_option maxRecDepth 20000 in
theorem ggX8_hours_X8_goes : GoodIn wsX8_hours wsX8_goes := goodIn_r _ [9, 10, 11, 12, 13, 14, 15, 16, 17, 18, 19, 20, 21, 22, 23, 24, 25, 26, 4, 27, 28, 29, 30, 31, 32, 33, 34, 35, 36, 37, 38, 39, 40, 41, 42, 43, 44, 45, 46, 47, 48, 49, 50, 51, 52, 53, 54, 55, 56, 57, 58, 59, 60, 61, 62, 63, 64, 65, 66, 67, 68, 69, 70, 71, 72, 73, 74, 75, 76, 77, 78, 79, 80, 81, 82, 83, 84, 85, 86, 87, 88, 89, 90, 91] (by decide +kernel) (by decide +kernel)
set_option maxRecDepth 20000 in
theorem gX8_hours_X8_goes : GoodIn wsX8_hours (wsV RX8 193 RX8 yX8_goes wsX8_goes) := goodIn_app (goodIn_of _ (by decide +kernel)) ggX8_hours_X8_goes
theorem dX8_hours_0 : decode cX8_hours 0 = .ok (.aload_n 0, 1) := by decide +kernel
theorem dX8_hours_1 : decode cX8_hours 1 = .ok (.iconst 0, 1) := by decide +kernel
theorem dX8_hours_2 : decode cX8_hours 2 = .ok (.putfield 64, 3) := by decide +kernel
theorem dX8_hours_5 : decode cX8_hours 5 = .ok (.iload_n 1, 1) := by decide +kernel
theorem dX8_hours_6 : decode cX8_hours 6 = .ok (.iconst 1, 1) := by decide +kernel
theorem dX8_hours_7 : decode cX8_hours 7 = .ok (.sipush 720, 3) := by decide +kernel
theorem dX8_hours_10 : decode cX8_hours 10 = .ok (.invokestatic 70, 3) := by decide +kernel
theorem dX8_hours_13 : decode cX8_hours 13 = .ok (.ifCond .ne 5, 3) := by decide +kernel
theorem dX8_hours_16 : decode cX8_hours 16 = .ok (.iconst (-1), 1) := by decide +kernel
theorem dX8_hours_17 : decode cX8_hours 17 = .ok (.ireturn, 1) := by decide +kernel
theorem dX8_hours_18 : decode cX8_hours 18 = .ok (.iconst 0, 1) := by decide +kernel
theorem dX8_hours_19 : decode cX8_hours 19 = .ok (.istore_n 2, 1) := by decide +kernel
theorem dX8_hours_20 : decode cX8_hours 20 = .ok (.iconst 0, 1) := by decide +kernel
theorem dX8_hours_21 : decode cX8_hours 21 = .ok (.istore_n 3, 1) := by decide +kernel
theorem dX8_hours_22 : decode cX8_hours 22 = .ok (.iload_n 3, 1) := by decide +kernel
theorem dX8_hours_23 : decode cX8_hours 23 = .ok (.iload_n 1, 1) := by decide +kernel
theorem dX8_hours_24 : decode cX8_hours 24 = .ok (.if_icmp .ge 16, 3) := by decide +kernel
theorem dX8_hours_27 : decode cX8_hours 27 = .ok (.iload_n 2, 1) := by decide +kernel
theorem dX8_hours_28 : decode cX8_hours 28 = .ok (.aload_n 0, 1) := by decide +kernel
theorem dX8_hours_29 : decode cX8_hours 29 = .ok (.invokevirtual 193, 3) := by decide +kernel
theorem dX8_hours_32 : decode cX8_hours 32 = .ok (.iadd, 1) := by decide +kernel
theorem dX8_hours_33 : decode cX8_hours 33 = .ok (.istore_n 2, 1) := by decide +kernel
theorem dX8_hours_34 : decode cX8_hours 34 = .ok (.iinc 3 1, 3) := by decide +kernel
theorem dX8_hours_37 : decode cX8_hours 37 = .ok (.goto (-15), 3) := by decide +kernel
theorem dX8_hours_40 : decode cX8_hours 40 = .ok (.iload_n 2, 1) := by decide +kernel
theorem dX8_hours_41 : decode cX8_hours 41 = .ok (.ireturn, 1) := by decide +kernel
set_option maxRecDepth 20000 in
theorem ggX8_book_X8_in : GoodIn wsX8_book wsX8_in := goodIn_r _ [8] (by decide +kernel) (by decide +kernel)
set_option maxRecDepth 20000 in
theorem gX8_book_X8_in : GoodIn wsX8_book (va_wsS RX8 70 yX8_in wsX8_in) := goodIn_app (goodIn_of _ (by decide +kernel)) ggX8_book_X8_in
theorem dX8_book_0 : decode cX8_book 0 = .ok (.aload_n 0, 1) := by decide +kernel
theorem dX8_book_1 : decode cX8_book 1 = .ok (.iconst 0, 1) := by decide +kernel
theorem dX8_book_2 : decode cX8_book 2 = .ok (.putfield 64, 3) := by decide +kernel
theorem dX8_book_5 : decode cX8_book 5 = .ok (.iload_n 1, 1) := by decide +kernel
theorem dX8_book_6 : decode cX8_book 6 = .ok (.iconst 0, 1) := by decide +kernel
theorem dX8_book_7 : decode cX8_book 7 = .ok (.bipush 10, 2) := by decide +kernel
theorem dX8_book_9 : decode cX8_book 9 = .ok (.invokestatic 70, 3) := by decide +kernel
theorem dX8_book_12 : decode cX8_book 12 = .ok (.ifCond .ne 9, 3) := by decide +kernel
theorem dX8_book_15 : decode cX8_book 15 = .ok (.ldc2_w 136, 3) := by decide +kernel
theorem dX8_book_18 : decode cX8_book 18 = .ok (.goto 22, 3) := by decide +kernel
theorem dX8_book_21 : decode cX8_book 21 = .ok (.iload_n 1, 1) := by decide +kernel
theorem dX8_book_22 : decode cX8_book 22 = .ok (.iconst 5, 1) := by decide +kernel
theorem dX8_book_23 : decode cX8_book 23 = .ok (.if_icmp .ne 11, 3) := by decide +kernel
theorem dX8_book_26 : decode cX8_book 26 = .ok (.aload_n 0, 1) := by decide +kernel
theorem dX8_book_27 : decode cX8_book 27 = .ok (.getfield 148, 3) := by decide +kernel
theorem dX8_book_30 : decode cX8_book 30 = .ok (.i2l, 1) := by decide +kernel
theorem dX8_book_31 : decode cX8_book 31 = .ok (.goto 9, 3) := by decide +kernel
theorem dX8_book_34 : decode cX8_book 34 = .ok (.aload_n 0, 1) := by decide +kernel
theorem dX8_book_35 : decode cX8_book 35 = .ok (.getfield 42, 3) := by decide +kernel
theorem dX8_book_38 : decode cX8_book 38 = .ok (.iload_n 1, 1) := by decide +kernel
theorem dX8_book_39 : decode cX8_book 39 = .ok (.laload, 1) := by decide +kernel
theorem dX8_book_40 : decode cX8_book 40 = .ok (.lreturn, 1) := by decide +kernel
set_option maxRecDepth 20000 in
theorem ggX8_isRead_X8_in : GoodIn wsX8_isRead wsX8_in := goodIn_r _ [5] (by decide +kernel) (by decide +kernel)
set_option maxRecDepth 20000 in
theorem gX8_isRead_X8_in : GoodIn wsX8_isRead (va_wsS RX8 70 yX8_in wsX8_in) := goodIn_app (goodIn_of _ (by decide +kernel)) ggX8_isRead_X8_in
theorem dX8_isRead_0 : decode cX8_isRead 0 = .ok (.iload_n 0, 1) := by decide +kernel
theorem dX8_isRead_1 : decode cX8_isRead 1 = .ok (.bipush (-9), 2) := by decide +kernel
theorem dX8_isRead_3 : decode cX8_isRead 3 = .ok (.if_icmp .eq 13, 3) := by decide +kernel
theorem dX8_isRead_6 : decode cX8_isRead 6 = .ok (.iload_n 0, 1) := by decide +kernel
theorem dX8_isRead_7 : decode cX8_isRead 7 = .ok (.iconst 0, 1) := by decide +kernel
theorem dX8_isRead_8 : decode cX8_isRead 8 = .ok (.ldc 130, 2) := by decide +kernel
theorem dX8_isRead_10 : decode cX8_isRead 10 = .ok (.invokestatic 70, 3) := by decide +kernel
theorem dX8_isRead_13 : decode cX8_isRead 13 = .ok (.ifCond .eq 7, 3) := by decide +kernel
theorem dX8_isRead_16 : decode cX8_isRead 16 = .ok (.iconst 1, 1) := by decide +kernel
theorem dX8_isRead_17 : decode cX8_isRead 17 = .ok (.goto 4, 3) := by decide +kernel
theorem dX8_isRead_20 : decode cX8_isRead 20 = .ok (.iconst 0, 1) := by decide +kernel
theorem dX8_isRead_21 : decode cX8_isRead 21 = .ok (.ireturn, 1) := by decide +kernel
set_option maxRecDepth 20000 in
theorem ggX8_read_X8_isRam : GoodIn wsX8_read wsX8_isRam := goodIn_r _ [10, 11, 12, 13, 9, 14, 19, 20, 21, 22, 23, 24, 25, 26, 27, 28, 29, 30, 31, 32, 33, 34, 35, 36, 37, 38, 39, 40, 41, 42, 43, 44, 45, 46, 47, 48, 49, 50, 51, 52, 53, 54, 55, 56] (by decide +kernel) (by decide +kernel)
set_option maxRecDepth 20000 in
theorem gX8_read_X8_isRam : GoodIn wsX8_read (wsV RX8 74 RX8 yX8_isRam wsX8_isRam) := goodIn_app (goodIn_of _ (by decide +kernel)) ggX8_read_X8_isRam
set_option maxRecDepth 20000 in
theorem ggX8_read_X8_isRead : GoodIn wsX8_read wsX8_isRead := goodIn_r _ [17, 18, 12, 13, 9, 14] (by decide +kernel) (by decide +kernel)
set_option maxRecDepth 20000 in
theorem gX8_read_X8_isRead : GoodIn wsX8_read (va_wsS RX8 196 yX8_isRead wsX8_isRead) := goodIn_app (goodIn_of _ (by decide +kernel)) ggX8_read_X8_isRead
theorem dX8_read_0 : decode cX8_read 0 = .ok (.aload_n 0, 1) := by decide +kernel
theorem dX8_read_1 : decode cX8_read 1 = .ok (.iconst 0, 1) := by decide +kernel
theorem dX8_read_2 : decode cX8_read 2 = .ok (.putfield 64, 3) := by decide +kernel
theorem dX8_read_5 : decode cX8_read 5 = .ok (.aload_n 0, 1) := by decide +kernel
theorem dX8_read_6 : decode cX8_read 6 = .ok (.iload_n 1, 1) := by decide +kernel
theorem dX8_read_7 : decode cX8_read 7 = .ok (.invokevirtual 74, 3) := by decide +kernel
theorem dX8_read_10 : decode cX8_read 10 = .ok (.ifCond .eq 29, 3) := by decide +kernel
theorem dX8_read_13 : decode cX8_read 13 = .ok (.iload_n 2, 1) := by decide +kernel
theorem dX8_read_14 : decode cX8_read 14 = .ok (.invokestatic 196, 3) := by decide +kernel
theorem dX8_read_17 : decode cX8_read 17 = .ok (.ifCond .eq 22, 3) := by decide +kernel
theorem dX8_read_20 : decode cX8_read 20 = .ok (.iload_n 3, 1) := by decide +kernel
theorem dX8_read_21 : decode cX8_read 21 = .ok (.invokestatic 196, 3) := by decide +kernel
theorem dX8_read_24 : decode cX8_read 24 = .ok (.ifCond .eq 15, 3) := by decide +kernel
theorem dX8_read_27 : decode cX8_read 27 = .ok (.iload_n 2, 1) := by decide +kernel
theorem dX8_read_28 : decode cX8_read 28 = .ok (.bipush (-9), 2) := by decide +kernel
theorem dX8_read_30 : decode cX8_read 30 = .ok (.if_icmp .ne 11, 3) := by decide +kernel
theorem dX8_read_33 : decode cX8_read 33 = .ok (.iload_n 3, 1) := by decide +kernel
theorem dX8_read_34 : decode cX8_read 34 = .ok (.bipush (-9), 2) := by decide +kernel
theorem dX8_read_36 : decode cX8_read 36 = .ok (.if_icmp .ne 5, 3) := by decide +kernel
theorem dX8_read_39 : decode cX8_read 39 = .ok (.iconst (-1), 1) := by decide +kernel
theorem dX8_read_40 : decode cX8_read 40 = .ok (.ireturn, 1) := by decide +kernel
theorem dX8_read_41 : decode cX8_read 41 = .ok (.aload_n 0, 1) := by decide +kernel
theorem dX8_read_42 : decode cX8_read 42 = .ok (.getfield 199, 3) := by decide +kernel
theorem dX8_read_45 : decode cX8_read 45 = .ok (.bipush 12, 2) := by decide +kernel
theorem dX8_read_47 : decode cX8_read 47 = .ok (.if_icmp .ne 6, 3) := by decide +kernel
theorem dX8_read_50 : decode cX8_read 50 = .ok (.bipush (-3), 2) := by decide +kernel
theorem dX8_read_52 : decode cX8_read 52 = .ok (.ireturn, 1) := by decide +kernel
theorem dX8_read_53 : decode cX8_read 53 = .ok (.aload_n 0, 1) := by decide +kernel
theorem dX8_read_54 : decode cX8_read 54 = .ok (.getfield 46, 3) := by decide +kernel
theorem dX8_read_57 : decode cX8_read 57 = .ok (.aload_n 0, 1) := by decide +kernel
theorem dX8_read_58 : decode cX8_read 58 = .ok (.getfield 199, 3) := by decide +kernel
theorem dX8_read_61 : decode cX8_read 61 = .ok (.iload_n 1, 1) := by decide +kernel
theorem dX8_read_62 : decode cX8_read 62 = .ok (.iastore, 1) := by decide +kernel
theorem dX8_read_63 : decode cX8_read 63 = .ok (.aload_n 0, 1) := by decide +kernel
theorem dX8_read_64 : decode cX8_read 64 = .ok (.getfield 49, 3) := by decide +kernel
theorem dX8_read_67 : decode cX8_read 67 = .ok (.aload_n 0, 1) := by decide +kernel
theorem dX8_read_68 : decode cX8_read 68 = .ok (.getfield 199, 3) := by decide +kernel
theorem dX8_read_71 : decode cX8_read 71 = .ok (.iload_n 2, 1) := by decide +kernel
theorem dX8_read_72 : decode cX8_read 72 = .ok (.iastore, 1) := by decide +kernel
theorem dX8_read_73 : decode cX8_read 73 = .ok (.aload_n 0, 1) := by decide +kernel
theorem dX8_read_74 : decode cX8_read 74 = .ok (.getfield 52, 3) := by decide +kernel
theorem dX8_read_77 : decode cX8_read 77 = .ok (.aload_n 0, 1) := by decide +kernel
theorem dX8_read_78 : decode cX8_read 78 = .ok (.getfield 199, 3) := by decide +kernel
theorem dX8_read_81 : decode cX8_read 81 = .ok (.iload_n 3, 1) := by decide +kernel
theorem dX8_read_82 : decode cX8_read 82 = .ok (.iastore, 1) := by decide +kernel
theorem dX8_read_83 : decode cX8_read 83 = .ok (.aload_n 0, 1) := by decide +kernel
theorem dX8_read_84 : decode cX8_read 84 = .ok (.dup, 1) := by decide +kernel
theorem dX8_read_85 : decode cX8_read 85 = .ok (.getfield 199, 3) := by decide +kernel
theorem dX8_read_88 : decode cX8_read 88 = .ok (.iconst 1, 1) := by decide +kernel
theorem dX8_read_89 : decode cX8_read 89 = .ok (.iadd, 1) := by decide +kernel
theorem dX8_read_90 : decode cX8_read 90 = .ok (.putfield 199, 3) := by decide +kernel
theorem dX8_read_93 : decode cX8_read 93 = .ok (.aload_n 0, 1) := by decide +kernel
theorem dX8_read_94 : decode cX8_read 94 = .ok (.getfield 199, 3) := by decide +kernel
theorem dX8_read_97 : decode cX8_read 97 = .ok (.ireturn, 1) := by decide +kernel
theorem dX8_wipe_0 : decode cX8_wipe 0 = .ok (.aload_n 0, 1) := by decide +kernel
theorem dX8_wipe_1 : decode cX8_wipe 1 = .ok (.iconst 0, 1) := by decide +kernel
theorem dX8_wipe_2 : decode cX8_wipe 2 = .ok (.putfield 64, 3) := by decide +kernel
theorem dX8_wipe_5 : decode cX8_wipe 5 = .ok (.aload_n 0, 1) := by decide +kernel
theorem dX8_wipe_6 : decode cX8_wipe 6 = .ok (.getfield 199, 3) := by decide +kernel
theorem dX8_wipe_9 : decode cX8_wipe 9 = .ok (.istore_n 1, 1) := by decide +kernel
theorem dX8_wipe_10 : decode cX8_wipe 10 = .ok (.aload_n 0, 1) := by decide +kernel
theorem dX8_wipe_11 : decode cX8_wipe 11 = .ok (.iconst 0, 1) := by decide +kernel
theorem dX8_wipe_12 : decode cX8_wipe 12 = .ok (.putfield 199, 3) := by decide +kernel
theorem dX8_wipe_15 : decode cX8_wipe 15 = .ok (.iload_n 1, 1) := by decide +kernel
theorem dX8_wipe_16 : decode cX8_wipe 16 = .ok (.ireturn, 1) := by decide +kernel
set_option maxRecDepth 20000 in
theorem ggX8_tolerance_X8_in : GoodIn wsX8_tolerance wsX8_in := goodIn_r _ [7] (by decide +kernel) (by decide +kernel)
set_option maxRecDepth 20000 in
theorem gX8_tolerance_X8_in : GoodIn wsX8_tolerance (va_wsS RX8 70 yX8_in wsX8_in) := goodIn_app (goodIn_of _ (by decide +kernel)) ggX8_tolerance_X8_in
theorem dX8_tolerance_0 : decode cX8_tolerance 0 = .ok (.aload_n 0, 1) := by decide +kernel
theorem dX8_tolerance_1 : decode cX8_tolerance 1 = .ok (.iconst 0, 1) := by decide +kernel
theorem dX8_tolerance_2 : decode cX8_tolerance 2 = .ok (.putfield 64, 3) := by decide +kernel
theorem dX8_tolerance_5 : decode cX8_tolerance 5 = .ok (.iload_n 1, 1) := by decide +kernel
theorem dX8_tolerance_6 : decode cX8_tolerance 6 = .ok (.iconst 0, 1) := by decide +kernel
theorem dX8_tolerance_7 : decode cX8_tolerance 7 = .ok (.iconst 1, 1) := by decide +kernel
theorem dX8_tolerance_8 : decode cX8_tolerance 8 = .ok (.invokestatic 70, 3) := by decide +kernel
theorem dX8_tolerance_11 : decode cX8_tolerance 11 = .ok (.ifCond .eq 23, 3) := by decide +kernel
theorem dX8_tolerance_14 : decode cX8_tolerance 14 = .ok (.iload_n 2, 1) := by decide +kernel
theorem dX8_tolerance_15 : decode cX8_tolerance 15 = .ok (.iconst 0, 1) := by decide +kernel
theorem dX8_tolerance_16 : decode cX8_tolerance 16 = .ok (.iload_n 1, 1) := by decide +kernel
theorem dX8_tolerance_17 : decode cX8_tolerance 17 = .ok (.ifCond .ne 9, 3) := by decide +kernel
theorem dX8_tolerance_20 : decode cX8_tolerance 20 = .ok (.sipush 500, 3) := by decide +kernel
theorem dX8_tolerance_23 : decode cX8_tolerance 23 = .ok (.goto 5, 3) := by decide +kernel
theorem dX8_tolerance_26 : decode cX8_tolerance 26 = .ok (.bipush 50, 2) := by decide +kernel
theorem dX8_tolerance_28 : decode cX8_tolerance 28 = .ok (.invokestatic 70, 3) := by decide +kernel
theorem dX8_tolerance_31 : decode cX8_tolerance 31 = .ok (.ifCond .ne 5, 3) := by decide +kernel
theorem dX8_tolerance_34 : decode cX8_tolerance 34 = .ok (.iconst (-1), 1) := by decide +kernel
theorem dX8_tolerance_35 : decode cX8_tolerance 35 = .ok (.ireturn, 1) := by decide +kernel
theorem dX8_tolerance_36 : decode cX8_tolerance 36 = .ok (.iload_n 1, 1) := by decide +kernel
theorem dX8_tolerance_37 : decode cX8_tolerance 37 = .ok (.ifCond .ne 10, 3) := by decide +kernel
theorem dX8_tolerance_40 : decode cX8_tolerance 40 = .ok (.aload_n 0, 1) := by decide +kernel
theorem dX8_tolerance_41 : decode cX8_tolerance 41 = .ok (.getfield 55, 3) := by decide +kernel
theorem dX8_tolerance_44 : decode cX8_tolerance 44 = .ok (.goto 7, 3) := by decide +kernel
theorem dX8_tolerance_47 : decode cX8_tolerance 47 = .ok (.aload_n 0, 1) := by decide +kernel
theorem dX8_tolerance_48 : decode cX8_tolerance 48 = .ok (.getfield 58, 3) := by decide +kernel
theorem dX8_tolerance_51 : decode cX8_tolerance 51 = .ok (.istore_n 3, 1) := by decide +kernel
theorem dX8_tolerance_52 : decode cX8_tolerance 52 = .ok (.aload_n 0, 1) := by decide +kernel
theorem dX8_tolerance_53 : decode cX8_tolerance 53 = .ok (.iload_n 1, 1) := by decide +kernel
theorem dX8_tolerance_54 : decode cX8_tolerance 54 = .ok (.ifCond .ne 7, 3) := by decide +kernel
theorem dX8_tolerance_57 : decode cX8_tolerance 57 = .ok (.iload_n 2, 1) := by decide +kernel
theorem dX8_tolerance_58 : decode cX8_tolerance 58 = .ok (.goto 7, 3) := by decide +kernel
theorem dX8_tolerance_61 : decode cX8_tolerance 61 = .ok (.aload_n 0, 1) := by decide +kernel
theorem dX8_tolerance_62 : decode cX8_tolerance 62 = .ok (.getfield 55, 3) := by decide +kernel
theorem dX8_tolerance_65 : decode cX8_tolerance 65 = .ok (.putfield 55, 3) := by decide +kernel
theorem dX8_tolerance_68 : decode cX8_tolerance 68 = .ok (.aload_n 0, 1) := by decide +kernel
theorem dX8_tolerance_69 : decode cX8_tolerance 69 = .ok (.iload_n 1, 1) := by decide +kernel
theorem dX8_tolerance_70 : decode cX8_tolerance 70 = .ok (.iconst 1, 1) := by decide +kernel
theorem dX8_tolerance_71 : decode cX8_tolerance 71 = .ok (.if_icmp .ne 7, 3) := by decide +kernel
theorem dX8_tolerance_74 : decode cX8_tolerance 74 = .ok (.iload_n 2, 1) := by decide +kernel
theorem dX8_tolerance_75 : decode cX8_tolerance 75 = .ok (.goto 7, 3) := by decide +kernel
theorem dX8_tolerance_78 : decode cX8_tolerance 78 = .ok (.aload_n 0, 1) := by decide +kernel
theorem dX8_tolerance_79 : decode cX8_tolerance 79 = .ok (.getfield 58, 3) := by decide +kernel
theorem dX8_tolerance_82 : decode cX8_tolerance 82 = .ok (.putfield 58, 3) := by decide +kernel
theorem dX8_tolerance_85 : decode cX8_tolerance 85 = .ok (.iload_n 3, 1) := by decide +kernel
theorem dX8_tolerance_86 : decode cX8_tolerance 86 = .ok (.ireturn, 1) := by decide +kernel
theorem dX8_valueOf_0 : decode cX8_valueOf 0 = .ok (.iload_n 0, 1) := by decide +kernel
theorem dX8_valueOf_1 : decode cX8_valueOf 1 = .ok (.iconst 2, 1) := by decide +kernel
theorem dX8_valueOf_2 : decode cX8_valueOf 2 = .ok (.iload_n 1, 1) := by decide +kernel
theorem dX8_valueOf_3 : decode cX8_valueOf 3 = .ok (.imul, 1) := by decide +kernel
theorem dX8_valueOf_4 : decode cX8_valueOf 4 = .ok (.ishr, 1) := by decide +kernel
theorem dX8_valueOf_5 : decode cX8_valueOf 5 = .ok (.iconst 3, 1) := by decide +kernel
theorem dX8_valueOf_6 : decode cX8_valueOf 6 = .ok (.iand, 1) := by decide +kernel
theorem dX8_valueOf_7 : decode cX8_valueOf 7 = .ok (.ireturn, 1) := by decide +kernel
set_option maxRecDepth 20000 in
theorem ggX8_isFit_X8_takes : GoodIn wsX8_isFit wsX8_takes := goodIn_r _ [13, 1, 14, 41, 42, 43, 44, 45, 46, 47, 48, 49, 50, 51, 52, 53, 54, 55, 56, 57, 58, 59, 60, 61, 62, 63, 64, 65, 66, 67, 68, 69, 70, 71, 72, 73, 74, 75, 76, 77, 78] (by decide +kernel) (by decide +kernel)
set_option maxRecDepth 20000 in
theorem gX8_isFit_X8_takes : GoodIn wsX8_isFit (wsV RX8 89 RX8 yX8_takes wsX8_takes) := goodIn_app (goodIn_of _ (by decide +kernel)) ggX8_isFit_X8_takes
set_option maxRecDepth 20000 in
theorem ggX8_isFit_X8_valueOf : GoodIn wsX8_isFit wsX8_valueOf := goodIn_r _ [17] (by decide +kernel) (by decide +kernel)
set_option maxRecDepth 20000 in
theorem gX8_isFit_X8_valueOf : GoodIn wsX8_isFit (va_wsS RX8 202 yX8_valueOf wsX8_valueOf) := goodIn_app (goodIn_of _ (by decide +kernel)) ggX8_isFit_X8_valueOf
set_option maxRecDepth 20000 in
theorem ggX8_isFit_X8_hourOf : GoodIn wsX8_isFit wsX8_hourOf := goodIn_r _ [21, 1, 22, 23, 24, 25, 26, 27, 12, 28, 29, 30, 8, 31, 32, 33, 34, 35, 36, 37, 41, 42, 43, 44, 45, 46, 47, 48, 49, 50, 51, 52, 53, 54, 55, 56, 57, 58, 59, 60, 61, 62, 63, 64, 65, 66, 67, 68, 69, 70, 71, 72, 73, 74, 75, 76, 77, 78] (by decide +kernel) (by decide +kernel)
set_option maxRecDepth 20000 in
theorem gX8_isFit_X8_hourOf : GoodIn wsX8_isFit (wsV RX8 124 RX8 yX8_hourOf wsX8_hourOf) := goodIn_app (goodIn_of _ (by decide +kernel)) ggX8_isFit_X8_hourOf
set_option maxRecDepth 20000 in
theorem ggX8_isFit_X8_in : GoodIn wsX8_isFit wsX8_in := goodIn_r _ [40] (by decide +kernel) (by decide +kernel)
set_option maxRecDepth 20000 in
theorem gX8_isFit_X8_in : GoodIn wsX8_isFit (va_wsS RX8 70 yX8_in wsX8_in) := goodIn_app (goodIn_of _ (by decide +kernel)) ggX8_isFit_X8_in
theorem dX8_isFit_0 : decode cX8_isFit 0 = .ok (.aload_n 0, 1) := by decide +kernel
theorem dX8_isFit_1 : decode cX8_isFit 1 = .ok (.iload_n 1, 1) := by decide +kernel
theorem dX8_isFit_2 : decode cX8_isFit 2 = .ok (.invokevirtual 89, 3) := by decide +kernel
theorem dX8_isFit_5 : decode cX8_isFit 5 = .ok (.aload_n 0, 1) := by decide +kernel
theorem dX8_isFit_6 : decode cX8_isFit 6 = .ok (.getfield 13, 3) := by decide +kernel
theorem dX8_isFit_9 : decode cX8_isFit 9 = .ok (.bipush 7, 2) := by decide +kernel
theorem dX8_isFit_11 : decode cX8_isFit 11 = .ok (.iload_n 2, 1) := by decide +kernel
theorem dX8_isFit_12 : decode cX8_isFit 12 = .ok (.iconst 0, 1) := by decide +kernel
theorem dX8_isFit_13 : decode cX8_isFit 13 = .ok (.invokestatic 202, 3) := by decide +kernel
theorem dX8_isFit_16 : decode cX8_isFit 16 = .ok (.iastore, 1) := by decide +kernel
theorem dX8_isFit_17 : decode cX8_isFit 17 = .ok (.aload_n 0, 1) := by decide +kernel
theorem dX8_isFit_18 : decode cX8_isFit 18 = .ok (.getfield 13, 3) := by decide +kernel
theorem dX8_isFit_21 : decode cX8_isFit 21 = .ok (.bipush 8, 2) := by decide +kernel
theorem dX8_isFit_23 : decode cX8_isFit 23 = .ok (.iload_n 2, 1) := by decide +kernel
theorem dX8_isFit_24 : decode cX8_isFit 24 = .ok (.iconst 1, 1) := by decide +kernel
theorem dX8_isFit_25 : decode cX8_isFit 25 = .ok (.invokestatic 202, 3) := by decide +kernel
theorem dX8_isFit_28 : decode cX8_isFit 28 = .ok (.iastore, 1) := by decide +kernel
theorem dX8_isFit_29 : decode cX8_isFit 29 = .ok (.aload_n 0, 1) := by decide +kernel
theorem dX8_isFit_30 : decode cX8_isFit 30 = .ok (.getfield 13, 3) := by decide +kernel
theorem dX8_isFit_33 : decode cX8_isFit 33 = .ok (.bipush 9, 2) := by decide +kernel
theorem dX8_isFit_35 : decode cX8_isFit 35 = .ok (.iload_n 2, 1) := by decide +kernel
theorem dX8_isFit_36 : decode cX8_isFit 36 = .ok (.iconst 2, 1) := by decide +kernel
theorem dX8_isFit_37 : decode cX8_isFit 37 = .ok (.invokestatic 202, 3) := by decide +kernel
theorem dX8_isFit_40 : decode cX8_isFit 40 = .ok (.iastore, 1) := by decide +kernel
theorem dX8_isFit_41 : decode cX8_isFit 41 = .ok (.iload_n 2, 1) := by decide +kernel
theorem dX8_isFit_42 : decode cX8_isFit 42 = .ok (.iconst 3, 1) := by decide +kernel
theorem dX8_isFit_43 : decode cX8_isFit 43 = .ok (.invokestatic 202, 3) := by decide +kernel
theorem dX8_isFit_46 : decode cX8_isFit 46 = .ok (.istore_n 3, 1) := by decide +kernel
theorem dX8_isFit_47 : decode cX8_isFit 47 = .ok (.aload_n 0, 1) := by decide +kernel
theorem dX8_isFit_48 : decode cX8_isFit 48 = .ok (.getfield 13, 3) := by decide +kernel
theorem dX8_isFit_51 : decode cX8_isFit 51 = .ok (.bipush 6, 2) := by decide +kernel
theorem dX8_isFit_53 : decode cX8_isFit 53 = .ok (.iload_n 3, 1) := by decide +kernel
theorem dX8_isFit_54 : decode cX8_isFit 54 = .ok (.ifCond .ne 8, 3) := by decide +kernel
theorem dX8_isFit_57 : decode cX8_isFit 57 = .ok (.bipush 100, 2) := by decide +kernel
theorem dX8_isFit_59 : decode cX8_isFit 59 = .ok (.goto 24, 3) := by decide +kernel
theorem dX8_isFit_62 : decode cX8_isFit 62 = .ok (.iload_n 3, 1) := by decide +kernel
theorem dX8_isFit_63 : decode cX8_isFit 63 = .ok (.iconst 1, 1) := by decide +kernel
theorem dX8_isFit_64 : decode cX8_isFit 64 = .ok (.if_icmp .ne 8, 3) := by decide +kernel
theorem dX8_isFit_67 : decode cX8_isFit 67 = .ok (.bipush 60, 2) := by decide +kernel
theorem dX8_isFit_69 : decode cX8_isFit 69 = .ok (.goto 14, 3) := by decide +kernel
theorem dX8_isFit_72 : decode cX8_isFit 72 = .ok (.iload_n 3, 1) := by decide +kernel
theorem dX8_isFit_73 : decode cX8_isFit 73 = .ok (.iconst 2, 1) := by decide +kernel
theorem dX8_isFit_74 : decode cX8_isFit 74 = .ok (.if_icmp .ne 8, 3) := by decide +kernel
theorem dX8_isFit_77 : decode cX8_isFit 77 = .ok (.bipush 20, 2) := by decide +kernel
theorem dX8_isFit_79 : decode cX8_isFit 79 = .ok (.goto 4, 3) := by decide +kernel
theorem dX8_isFit_82 : decode cX8_isFit 82 = .ok (.iconst 0, 1) := by decide +kernel
theorem dX8_isFit_83 : decode cX8_isFit 83 = .ok (.iastore, 1) := by decide +kernel
theorem dX8_isFit_84 : decode cX8_isFit 84 = .ok (.aload_n 0, 1) := by decide +kernel
theorem dX8_isFit_85 : decode cX8_isFit 85 = .ok (.iconst 0, 1) := by decide +kernel
theorem dX8_isFit_86 : decode cX8_isFit 86 = .ok (.invokevirtual 124, 3) := by decide +kernel
theorem dX8_isFit_89 : decode cX8_isFit 89 = .ok (.istore 4, 2) := by decide +kernel
theorem dX8_isFit_91 : decode cX8_isFit 91 = .ok (.aload_n 0, 1) := by decide +kernel
theorem dX8_isFit_92 : decode cX8_isFit 92 = .ok (.iconst 2, 1) := by decide +kernel
theorem dX8_isFit_93 : decode cX8_isFit 93 = .ok (.invokevirtual 124, 3) := by decide +kernel
theorem dX8_isFit_96 : decode cX8_isFit 96 = .ok (.istore 5, 2) := by decide +kernel
theorem dX8_isFit_98 : decode cX8_isFit 98 = .ok (.iconst 1, 1) := by decide +kernel
theorem dX8_isFit_99 : decode cX8_isFit 99 = .ok (.istore 6, 2) := by decide +kernel
theorem dX8_isFit_101 : decode cX8_isFit 101 = .ok (.iconst 0, 1) := by decide +kernel
theorem dX8_isFit_102 : decode cX8_isFit 102 = .ok (.istore 7, 2) := by decide +kernel
theorem dX8_isFit_104 : decode cX8_isFit 104 = .ok (.iload 7, 2) := by decide +kernel
theorem dX8_isFit_106 : decode cX8_isFit 106 = .ok (.aload_n 0, 1) := by decide +kernel
theorem dX8_isFit_107 : decode cX8_isFit 107 = .ok (.getfield 199, 3) := by decide +kernel
theorem dX8_isFit_110 : decode cX8_isFit 110 = .ok (.if_icmp .ge 135, 3) := by decide +kernel
theorem dX8_isFit_113 : decode cX8_isFit 113 = .ok (.iload 6, 2) := by decide +kernel
theorem dX8_isFit_115 : decode cX8_isFit 115 = .ok (.ifCond .eq 130, 3) := by decide +kernel
theorem dX8_isFit_118 : decode cX8_isFit 118 = .ok (.aload_n 0, 1) := by decide +kernel
theorem dX8_isFit_119 : decode cX8_isFit 119 = .ok (.getfield 46, 3) := by decide +kernel
theorem dX8_isFit_122 : decode cX8_isFit 122 = .ok (.iload 7, 2) := by decide +kernel
theorem dX8_isFit_124 : decode cX8_isFit 124 = .ok (.iaload, 1) := by decide +kernel
theorem dX8_isFit_125 : decode cX8_isFit 125 = .ok (.iload_n 1, 1) := by decide +kernel
theorem dX8_isFit_126 : decode cX8_isFit 126 = .ok (.if_icmp .ne 113, 3) := by decide +kernel
theorem dX8_isFit_129 : decode cX8_isFit 129 = .ok (.aload_n 0, 1) := by decide +kernel
theorem dX8_isFit_130 : decode cX8_isFit 130 = .ok (.getfield 49, 3) := by decide +kernel
theorem dX8_isFit_133 : decode cX8_isFit 133 = .ok (.iload 7, 2) := by decide +kernel
theorem dX8_isFit_135 : decode cX8_isFit 135 = .ok (.iaload, 1) := by decide +kernel
theorem dX8_isFit_136 : decode cX8_isFit 136 = .ok (.bipush (-9), 2) := by decide +kernel
theorem dX8_isFit_138 : decode cX8_isFit 138 = .ok (.if_icmp .eq 28, 3) := by decide +kernel
theorem dX8_isFit_141 : decode cX8_isFit 141 = .ok (.iload 4, 2) := by decide +kernel
theorem dX8_isFit_143 : decode cX8_isFit 143 = .ok (.aload_n 0, 1) := by decide +kernel
theorem dX8_isFit_144 : decode cX8_isFit 144 = .ok (.getfield 49, 3) := by decide +kernel
theorem dX8_isFit_147 : decode cX8_isFit 147 = .ok (.iload 7, 2) := by decide +kernel
theorem dX8_isFit_149 : decode cX8_isFit 149 = .ok (.iaload, 1) := by decide +kernel
theorem dX8_isFit_150 : decode cX8_isFit 150 = .ok (.isub, 1) := by decide +kernel
theorem dX8_isFit_151 : decode cX8_isFit 151 = .ok (.aload_n 0, 1) := by decide +kernel
theorem dX8_isFit_152 : decode cX8_isFit 152 = .ok (.getfield 55, 3) := by decide +kernel
theorem dX8_isFit_155 : decode cX8_isFit 155 = .ok (.ineg, 1) := by decide +kernel
theorem dX8_isFit_156 : decode cX8_isFit 156 = .ok (.aload_n 0, 1) := by decide +kernel
theorem dX8_isFit_157 : decode cX8_isFit 157 = .ok (.getfield 55, 3) := by decide +kernel
theorem dX8_isFit_160 : decode cX8_isFit 160 = .ok (.invokestatic 70, 3) := by decide +kernel
theorem dX8_isFit_163 : decode cX8_isFit 163 = .ok (.ifCond .eq 7, 3) := by decide +kernel
theorem dX8_isFit_166 : decode cX8_isFit 166 = .ok (.iconst 1, 1) := by decide +kernel
theorem dX8_isFit_167 : decode cX8_isFit 167 = .ok (.goto 4, 3) := by decide +kernel
theorem dX8_isFit_170 : decode cX8_isFit 170 = .ok (.iconst 0, 1) := by decide +kernel
theorem dX8_isFit_171 : decode cX8_isFit 171 = .ok (.istore 6, 2) := by decide +kernel
theorem dX8_isFit_173 : decode cX8_isFit 173 = .ok (.aload_n 0, 1) := by decide +kernel
theorem dX8_isFit_174 : decode cX8_isFit 174 = .ok (.getfield 52, 3) := by decide +kernel
theorem dX8_isFit_177 : decode cX8_isFit 177 = .ok (.iload 7, 2) := by decide +kernel
theorem dX8_isFit_179 : decode cX8_isFit 179 = .ok (.iaload, 1) := by decide +kernel
theorem dX8_isFit_180 : decode cX8_isFit 180 = .ok (.i2l, 1) := by decide +kernel
theorem dX8_isFit_181 : decode cX8_isFit 181 = .ok (.aload_n 0, 1) := by decide +kernel
theorem dX8_isFit_182 : decode cX8_isFit 182 = .ok (.getfield 58, 3) := by decide +kernel
theorem dX8_isFit_185 : decode cX8_isFit 185 = .ok (.i2l, 1) := by decide +kernel
theorem dX8_isFit_186 : decode cX8_isFit 186 = .ok (.lmul, 1) := by decide +kernel
theorem dX8_isFit_187 : decode cX8_isFit 187 = .ok (.ldc2_w 112, 3) := by decide +kernel
theorem dX8_isFit_190 : decode cX8_isFit 190 = .ok (.ldiv, 1) := by decide +kernel
theorem dX8_isFit_191 : decode cX8_isFit 191 = .ok (.l2i, 1) := by decide +kernel
theorem dX8_isFit_192 : decode cX8_isFit 192 = .ok (.istore 8, 2) := by decide +kernel
theorem dX8_isFit_194 : decode cX8_isFit 194 = .ok (.iload 6, 2) := by decide +kernel
theorem dX8_isFit_196 : decode cX8_isFit 196 = .ok (.ifCond .eq 40, 3) := by decide +kernel
theorem dX8_isFit_199 : decode cX8_isFit 199 = .ok (.aload_n 0, 1) := by decide +kernel
theorem dX8_isFit_200 : decode cX8_isFit 200 = .ok (.getfield 52, 3) := by decide +kernel
theorem dX8_isFit_203 : decode cX8_isFit 203 = .ok (.iload 7, 2) := by decide +kernel
theorem dX8_isFit_205 : decode cX8_isFit 205 = .ok (.iaload, 1) := by decide +kernel
theorem dX8_isFit_206 : decode cX8_isFit 206 = .ok (.bipush (-9), 2) := by decide +kernel
theorem dX8_isFit_208 : decode cX8_isFit 208 = .ok (.if_icmp .eq 24, 3) := by decide +kernel
theorem dX8_isFit_211 : decode cX8_isFit 211 = .ok (.iload 5, 2) := by decide +kernel
theorem dX8_isFit_213 : decode cX8_isFit 213 = .ok (.aload_n 0, 1) := by decide +kernel
theorem dX8_isFit_214 : decode cX8_isFit 214 = .ok (.getfield 52, 3) := by decide +kernel
theorem dX8_isFit_217 : decode cX8_isFit 217 = .ok (.iload 7, 2) := by decide +kernel
theorem dX8_isFit_219 : decode cX8_isFit 219 = .ok (.iaload, 1) := by decide +kernel
theorem dX8_isFit_220 : decode cX8_isFit 220 = .ok (.isub, 1) := by decide +kernel
theorem dX8_isFit_221 : decode cX8_isFit 221 = .ok (.iload 8, 2) := by decide +kernel
theorem dX8_isFit_223 : decode cX8_isFit 223 = .ok (.ineg, 1) := by decide +kernel
theorem dX8_isFit_224 : decode cX8_isFit 224 = .ok (.iload 8, 2) := by decide +kernel
theorem dX8_isFit_226 : decode cX8_isFit 226 = .ok (.invokestatic 70, 3) := by decide +kernel
theorem dX8_isFit_229 : decode cX8_isFit 229 = .ok (.ifCond .eq 7, 3) := by decide +kernel
theorem dX8_isFit_232 : decode cX8_isFit 232 = .ok (.iconst 1, 1) := by decide +kernel
theorem dX8_isFit_233 : decode cX8_isFit 233 = .ok (.goto 4, 3) := by decide +kernel
theorem dX8_isFit_236 : decode cX8_isFit 236 = .ok (.iconst 0, 1) := by decide +kernel
theorem dX8_isFit_237 : decode cX8_isFit 237 = .ok (.istore 6, 2) := by decide +kernel
theorem dX8_isFit_239 : decode cX8_isFit 239 = .ok (.iinc 7 1, 3) := by decide +kernel
theorem dX8_isFit_242 : decode cX8_isFit 242 = .ok (.goto (-138), 3) := by decide +kernel
theorem dX8_isFit_245 : decode cX8_isFit 245 = .ok (.iload 6, 2) := by decide +kernel
theorem dX8_isFit_247 : decode cX8_isFit 247 = .ok (.ireturn, 1) := by decide +kernel
set_option maxRecDepth 20000 in
theorem ggX8_fits_X8_isRam : GoodIn wsX8_fits wsX8_isRam := goodIn_r _ [6, 7, 8, 9, 5, 10, 51, 52, 53, 54, 55, 56, 57, 58, 59, 60, 61, 62, 63, 64, 65, 66, 67, 68, 69, 70, 71, 72, 73, 74, 75, 76, 77, 78, 79, 80, 81, 82, 83, 84, 85, 86, 87, 88] (by decide +kernel) (by decide +kernel)
set_option maxRecDepth 20000 in
theorem gX8_fits_X8_isRam : GoodIn wsX8_fits (wsV RX8 74 RX8 yX8_isRam wsX8_isRam) := goodIn_app (goodIn_of _ (by decide +kernel)) ggX8_fits_X8_isRam
set_option maxRecDepth 20000 in
theorem ggX8_fits_X8_in : GoodIn wsX8_fits wsX8_in := goodIn_r _ [10] (by decide +kernel) (by decide +kernel)
set_option maxRecDepth 20000 in
theorem gX8_fits_X8_in : GoodIn wsX8_fits (va_wsS RX8 70 yX8_in wsX8_in) := goodIn_app (goodIn_of _ (by decide +kernel)) ggX8_fits_X8_in
set_option maxRecDepth 20000 in
theorem ggX8_fits_X8_isFit : GoodIn wsX8_fits wsX8_isFit := goodIn_r _ [14, 15, 16, 17, 18, 19, 20, 21, 22, 23, 24, 25, 5, 26, 27, 28, 29, 30, 31, 32, 33, 34, 35, 36, 37, 38, 39, 40, 41, 42, 43, 44, 45, 46, 47, 48, 49, 50, 8, 9, 10, 51, 52, 53, 54, 55, 56, 57, 58, 59, 60, 61, 62, 63, 64, 65, 66, 67, 68, 69, 70, 71, 72, 73, 74, 75, 76, 77, 78, 79, 80, 81, 82, 83, 84, 85, 86, 87, 88] (by decide +kernel) (by decide +kernel)
set_option maxRecDepth 20000 in
theorem gX8_fits_X8_isFit : GoodIn wsX8_fits (wsV RX8 205 RX8 yX8_isFit wsX8_isFit) := goodIn_app (goodIn_of _ (by decide +kernel)) ggX8_fits_X8_isFit
theorem dX8_fits_0 : decode cX8_fits 0 = .ok (.aload_n 0, 1) := by decide +kernel
theorem dX8_fits_1 : decode cX8_fits 1 = .ok (.iconst 0, 1) := by decide +kernel
theorem dX8_fits_2 : decode cX8_fits 2 = .ok (.putfield 64, 3) := by decide +kernel
theorem dX8_fits_5 : decode cX8_fits 5 = .ok (.aload_n 0, 1) := by decide +kernel
theorem dX8_fits_6 : decode cX8_fits 6 = .ok (.iload_n 1, 1) := by decide +kernel
theorem dX8_fits_7 : decode cX8_fits 7 = .ok (.invokevirtual 74, 3) := by decide +kernel
theorem dX8_fits_10 : decode cX8_fits 10 = .ok (.ifCond .eq 14, 3) := by decide +kernel
theorem dX8_fits_13 : decode cX8_fits 13 = .ok (.iload_n 2, 1) := by decide +kernel
theorem dX8_fits_14 : decode cX8_fits 14 = .ok (.iconst 0, 1) := by decide +kernel
theorem dX8_fits_15 : decode cX8_fits 15 = .ok (.sipush 255, 3) := by decide +kernel
theorem dX8_fits_18 : decode cX8_fits 18 = .ok (.invokestatic 70, 3) := by decide +kernel
theorem dX8_fits_21 : decode cX8_fits 21 = .ok (.ifCond .ne 7, 3) := by decide +kernel
theorem dX8_fits_24 : decode cX8_fits 24 = .ok (.iconst (-1), 1) := by decide +kernel
theorem dX8_fits_25 : decode cX8_fits 25 = .ok (.goto 17, 3) := by decide +kernel
theorem dX8_fits_28 : decode cX8_fits 28 = .ok (.aload_n 0, 1) := by decide +kernel
theorem dX8_fits_29 : decode cX8_fits 29 = .ok (.iload_n 1, 1) := by decide +kernel
theorem dX8_fits_30 : decode cX8_fits 30 = .ok (.iload_n 2, 1) := by decide +kernel
theorem dX8_fits_31 : decode cX8_fits 31 = .ok (.invokevirtual 205, 3) := by decide +kernel
theorem dX8_fits_34 : decode cX8_fits 34 = .ok (.ifCond .eq 7, 3) := by decide +kernel
theorem dX8_fits_37 : decode cX8_fits 37 = .ok (.iconst 1, 1) := by decide +kernel
theorem dX8_fits_38 : decode cX8_fits 38 = .ok (.goto 4, 3) := by decide +kernel
theorem dX8_fits_41 : decode cX8_fits 41 = .ok (.iconst 0, 1) := by decide +kernel
theorem dX8_fits_42 : decode cX8_fits 42 = .ok (.ireturn, 1) := by decide +kernel
set_option maxRecDepth 20000 in
theorem ggX8_ails_X8_isRam : GoodIn wsX8_ails wsX8_isRam := goodIn_r _ [7, 8, 9, 10, 6, 11, 52, 53, 54, 55, 56, 57, 58, 59, 60, 61, 62, 63, 64, 65, 66, 67, 68, 69, 70, 71, 72, 73, 74, 75, 76, 77, 78, 79, 80, 81, 82, 83, 84, 85, 86, 87, 88, 89] (by decide +kernel) (by decide +kernel)
set_option maxRecDepth 20000 in
theorem gX8_ails_X8_isRam : GoodIn wsX8_ails (wsV RX8 74 RX8 yX8_isRam wsX8_isRam) := goodIn_app (goodIn_of _ (by decide +kernel)) ggX8_ails_X8_isRam
set_option maxRecDepth 20000 in
theorem ggX8_ails_X8_in : GoodIn wsX8_ails wsX8_in := goodIn_r _ [11] (by decide +kernel) (by decide +kernel)
set_option maxRecDepth 20000 in
theorem gX8_ails_X8_in : GoodIn wsX8_ails (va_wsS RX8 70 yX8_in wsX8_in) := goodIn_app (goodIn_of _ (by decide +kernel)) ggX8_ails_X8_in
set_option maxRecDepth 20000 in
theorem ggX8_ails_X8_isFit : GoodIn wsX8_ails wsX8_isFit := goodIn_r _ [15, 16, 17, 18, 19, 20, 21, 22, 23, 24, 25, 26, 6, 27, 28, 29, 30, 31, 32, 33, 34, 35, 36, 37, 38, 39, 40, 41, 42, 43, 44, 45, 46, 47, 48, 49, 50, 51, 9, 10, 11, 52, 53, 54, 55, 56, 57, 58, 59, 60, 61, 62, 63, 64, 65, 66, 67, 68, 69, 70, 71, 72, 73, 74, 75, 76, 77, 78, 79, 80, 81, 82, 83, 84, 85, 86, 87, 88, 89] (by decide +kernel) (by decide +kernel)
set_option maxRecDepth 20000 in
theorem gX8_ails_X8_isFit : GoodIn wsX8_ails (wsV RX8 205 RX8 yX8_isFit wsX8_isFit) := goodIn_app (goodIn_of _ (by decide +kernel)) ggX8_ails_X8_isFit
set_option maxRecDepth 20000 in
theorem ggX8_ails_X8_valueOf : GoodIn wsX8_ails wsX8_valueOf := goodIn_r _ [31] (by decide +kernel) (by decide +kernel)
set_option maxRecDepth 20000 in
theorem gX8_ails_X8_valueOf : GoodIn wsX8_ails (va_wsS RX8 202 yX8_valueOf wsX8_valueOf) := goodIn_app (goodIn_of _ (by decide +kernel)) ggX8_ails_X8_valueOf
theorem dX8_ails_0 : decode cX8_ails 0 = .ok (.aload_n 0, 1) := by decide +kernel
theorem dX8_ails_1 : decode cX8_ails 1 = .ok (.iconst 0, 1) := by decide +kernel
theorem dX8_ails_2 : decode cX8_ails 2 = .ok (.putfield 64, 3) := by decide +kernel
theorem dX8_ails_5 : decode cX8_ails 5 = .ok (.aload_n 0, 1) := by decide +kernel
theorem dX8_ails_6 : decode cX8_ails 6 = .ok (.iload_n 1, 1) := by decide +kernel
theorem dX8_ails_7 : decode cX8_ails 7 = .ok (.invokevirtual 74, 3) := by decide +kernel
theorem dX8_ails_10 : decode cX8_ails 10 = .ok (.ifCond .eq 12, 3) := by decide +kernel
theorem dX8_ails_13 : decode cX8_ails 13 = .ok (.iload_n 2, 1) := by decide +kernel
theorem dX8_ails_14 : decode cX8_ails 14 = .ok (.iconst 0, 1) := by decide +kernel
theorem dX8_ails_15 : decode cX8_ails 15 = .ok (.iconst 2, 1) := by decide +kernel
theorem dX8_ails_16 : decode cX8_ails 16 = .ok (.invokestatic 70, 3) := by decide +kernel
theorem dX8_ails_19 : decode cX8_ails 19 = .ok (.ifCond .ne 5, 3) := by decide +kernel
theorem dX8_ails_22 : decode cX8_ails 22 = .ok (.iconst (-1), 1) := by decide +kernel
theorem dX8_ails_23 : decode cX8_ails 23 = .ok (.ireturn, 1) := by decide +kernel
theorem dX8_ails_24 : decode cX8_ails 24 = .ok (.iconst 0, 1) := by decide +kernel
theorem dX8_ails_25 : decode cX8_ails 25 = .ok (.istore_n 3, 1) := by decide +kernel
theorem dX8_ails_26 : decode cX8_ails 26 = .ok (.bipush (-9), 2) := by decide +kernel
theorem dX8_ails_28 : decode cX8_ails 28 = .ok (.istore 4, 2) := by decide +kernel
theorem dX8_ails_30 : decode cX8_ails 30 = .ok (.iconst 0, 1) := by decide +kernel
theorem dX8_ails_31 : decode cX8_ails 31 = .ok (.istore 5, 2) := by decide +kernel
theorem dX8_ails_33 : decode cX8_ails 33 = .ok (.iload 5, 2) := by decide +kernel
theorem dX8_ails_35 : decode cX8_ails 35 = .ok (.sipush 256, 3) := by decide +kernel
theorem dX8_ails_38 : decode cX8_ails 38 = .ok (.if_icmp .ge 38, 3) := by decide +kernel
theorem dX8_ails_41 : decode cX8_ails 41 = .ok (.aload_n 0, 1) := by decide +kernel
theorem dX8_ails_42 : decode cX8_ails 42 = .ok (.iload_n 1, 1) := by decide +kernel
theorem dX8_ails_43 : decode cX8_ails 43 = .ok (.iload 5, 2) := by decide +kernel
theorem dX8_ails_45 : decode cX8_ails 45 = .ok (.invokevirtual 205, 3) := by decide +kernel
theorem dX8_ails_48 : decode cX8_ails 48 = .ok (.ifCond .eq 22, 3) := by decide +kernel
theorem dX8_ails_51 : decode cX8_ails 51 = .ok (.iinc 3 1, 3) := by decide +kernel
theorem dX8_ails_54 : decode cX8_ails 54 = .ok (.iload 4, 2) := by decide +kernel
theorem dX8_ails_56 : decode cX8_ails 56 = .ok (.bipush (-9), 2) := by decide +kernel
theorem dX8_ails_58 : decode cX8_ails 58 = .ok (.if_icmp .ne 8, 3) := by decide +kernel
theorem dX8_ails_61 : decode cX8_ails 61 = .ok (.iload 5, 2) := by decide +kernel
theorem dX8_ails_63 : decode cX8_ails 63 = .ok (.goto 5, 3) := by decide +kernel
theorem dX8_ails_66 : decode cX8_ails 66 = .ok (.iload 4, 2) := by decide +kernel
theorem dX8_ails_68 : decode cX8_ails 68 = .ok (.istore 4, 2) := by decide +kernel
theorem dX8_ails_70 : decode cX8_ails 70 = .ok (.iinc 5 1, 3) := by decide +kernel
theorem dX8_ails_73 : decode cX8_ails 73 = .ok (.goto (-40), 3) := by decide +kernel
theorem dX8_ails_76 : decode cX8_ails 76 = .ok (.iload_n 2, 1) := by decide +kernel
theorem dX8_ails_77 : decode cX8_ails 77 = .ok (.iconst 2, 1) := by decide +kernel
theorem dX8_ails_78 : decode cX8_ails 78 = .ok (.if_icmp .ge 14, 3) := by decide +kernel
theorem dX8_ails_81 : decode cX8_ails 81 = .ok (.iload_n 2, 1) := by decide +kernel
theorem dX8_ails_82 : decode cX8_ails 82 = .ok (.ifCond .ne 7, 3) := by decide +kernel
theorem dX8_ails_85 : decode cX8_ails 85 = .ok (.iload_n 3, 1) := by decide +kernel
theorem dX8_ails_86 : decode cX8_ails 86 = .ok (.goto 5, 3) := by decide +kernel
theorem dX8_ails_89 : decode cX8_ails 89 = .ok (.iload 4, 2) := by decide +kernel
theorem dX8_ails_91 : decode cX8_ails 91 = .ok (.ireturn, 1) := by decide +kernel
theorem dX8_ails_92 : decode cX8_ails 92 = .ok (.bipush (-9), 2) := by decide +kernel
theorem dX8_ails_94 : decode cX8_ails 94 = .ok (.istore 5, 2) := by decide +kernel
theorem dX8_ails_96 : decode cX8_ails 96 = .ok (.sipush 1000, 3) := by decide +kernel
theorem dX8_ails_99 : decode cX8_ails 99 = .ok (.istore 6, 2) := by decide +kernel
theorem dX8_ails_101 : decode cX8_ails 101 = .ok (.iconst 0, 1) := by decide +kernel
theorem dX8_ails_102 : decode cX8_ails 102 = .ok (.istore 7, 2) := by decide +kernel
theorem dX8_ails_104 : decode cX8_ails 104 = .ok (.iload 7, 2) := by decide +kernel
theorem dX8_ails_106 : decode cX8_ails 106 = .ok (.iconst 4, 1) := by decide +kernel
theorem dX8_ails_107 : decode cX8_ails 107 = .ok (.if_icmp .ge 128, 3) := by decide +kernel
theorem dX8_ails_110 : decode cX8_ails 110 = .ok (.iload_n 3, 1) := by decide +kernel
theorem dX8_ails_111 : decode cX8_ails 111 = .ok (.iconst 1, 1) := by decide +kernel
theorem dX8_ails_112 : decode cX8_ails 112 = .ok (.if_icmp .le 123, 3) := by decide +kernel
theorem dX8_ails_115 : decode cX8_ails 115 = .ok (.iconst 0, 1) := by decide +kernel
theorem dX8_ails_116 : decode cX8_ails 116 = .ok (.istore 8, 2) := by decide +kernel
theorem dX8_ails_118 : decode cX8_ails 118 = .ok (.iload 8, 2) := by decide +kernel
theorem dX8_ails_120 : decode cX8_ails 120 = .ok (.iconst 4, 1) := by decide +kernel
theorem dX8_ails_121 : decode cX8_ails 121 = .ok (.if_icmp .ge 17, 3) := by decide +kernel
theorem dX8_ails_124 : decode cX8_ails 124 = .ok (.aload_n 0, 1) := by decide +kernel
theorem dX8_ails_125 : decode cX8_ails 125 = .ok (.getfield 61, 3) := by decide +kernel
theorem dX8_ails_128 : decode cX8_ails 128 = .ok (.iload 8, 2) := by decide +kernel
theorem dX8_ails_130 : decode cX8_ails 130 = .ok (.iconst 0, 1) := by decide +kernel
theorem dX8_ails_131 : decode cX8_ails 131 = .ok (.iastore, 1) := by decide +kernel
theorem dX8_ails_132 : decode cX8_ails 132 = .ok (.iinc 8 1, 3) := by decide +kernel
theorem dX8_ails_135 : decode cX8_ails 135 = .ok (.goto (-17), 3) := by decide +kernel
theorem dX8_ails_138 : decode cX8_ails 138 = .ok (.iconst 0, 1) := by decide +kernel
theorem dX8_ails_139 : decode cX8_ails 139 = .ok (.istore 8, 2) := by decide +kernel
theorem dX8_ails_141 : decode cX8_ails 141 = .ok (.iconst 0, 1) := by decide +kernel
theorem dX8_ails_142 : decode cX8_ails 142 = .ok (.istore 9, 2) := by decide +kernel
theorem dX8_ails_144 : decode cX8_ails 144 = .ok (.iload 9, 2) := by decide +kernel
theorem dX8_ails_146 : decode cX8_ails 146 = .ok (.sipush 256, 3) := by decide +kernel
theorem dX8_ails_149 : decode cX8_ails 149 = .ok (.if_icmp .ge 65, 3) := by decide +kernel
theorem dX8_ails_152 : decode cX8_ails 152 = .ok (.aload_n 0, 1) := by decide +kernel
theorem dX8_ails_153 : decode cX8_ails 153 = .ok (.iload_n 1, 1) := by decide +kernel
theorem dX8_ails_154 : decode cX8_ails 154 = .ok (.iload 9, 2) := by decide +kernel
theorem dX8_ails_156 : decode cX8_ails 156 = .ok (.invokevirtual 205, 3) := by decide +kernel
theorem dX8_ails_159 : decode cX8_ails 159 = .ok (.ifCond .eq 49, 3) := by decide +kernel
theorem dX8_ails_162 : decode cX8_ails 162 = .ok (.iload 9, 2) := by decide +kernel
theorem dX8_ails_164 : decode cX8_ails 164 = .ok (.iload 7, 2) := by decide +kernel
theorem dX8_ails_166 : decode cX8_ails 166 = .ok (.invokestatic 202, 3) := by decide +kernel
theorem dX8_ails_169 : decode cX8_ails 169 = .ok (.istore 10, 2) := by decide +kernel
theorem dX8_ails_171 : decode cX8_ails 171 = .ok (.aload_n 0, 1) := by decide +kernel
theorem dX8_ails_172 : decode cX8_ails 172 = .ok (.getfield 61, 3) := by decide +kernel
theorem dX8_ails_175 : decode cX8_ails 175 = .ok (.iload 10, 2) := by decide +kernel
theorem dX8_ails_177 : decode cX8_ails 177 = .ok (.dup2, 1) := by decide +kernel
theorem dX8_ails_178 : decode cX8_ails 178 = .ok (.iaload, 1) := by decide +kernel
theorem dX8_ails_179 : decode cX8_ails 179 = .ok (.iconst 1, 1) := by decide +kernel
theorem dX8_ails_180 : decode cX8_ails 180 = .ok (.iadd, 1) := by decide +kernel
theorem dX8_ails_181 : decode cX8_ails 181 = .ok (.iastore, 1) := by decide +kernel
theorem dX8_ails_182 : decode cX8_ails 182 = .ok (.aload_n 0, 1) := by decide +kernel
theorem dX8_ails_183 : decode cX8_ails 183 = .ok (.getfield 61, 3) := by decide +kernel
theorem dX8_ails_186 : decode cX8_ails 186 = .ok (.iload 10, 2) := by decide +kernel
theorem dX8_ails_188 : decode cX8_ails 188 = .ok (.iaload, 1) := by decide +kernel
theorem dX8_ails_189 : decode cX8_ails 189 = .ok (.iload 8, 2) := by decide +kernel
theorem dX8_ails_191 : decode cX8_ails 191 = .ok (.if_icmp .le 13, 3) := by decide +kernel
theorem dX8_ails_194 : decode cX8_ails 194 = .ok (.aload_n 0, 1) := by decide +kernel
theorem dX8_ails_195 : decode cX8_ails 195 = .ok (.getfield 61, 3) := by decide +kernel
theorem dX8_ails_198 : decode cX8_ails 198 = .ok (.iload 10, 2) := by decide +kernel
theorem dX8_ails_200 : decode cX8_ails 200 = .ok (.iaload, 1) := by decide +kernel
theorem dX8_ails_201 : decode cX8_ails 201 = .ok (.goto 5, 3) := by decide +kernel
theorem dX8_ails_204 : decode cX8_ails 204 = .ok (.iload 8, 2) := by decide +kernel
theorem dX8_ails_206 : decode cX8_ails 206 = .ok (.istore 8, 2) := by decide +kernel
theorem dX8_ails_208 : decode cX8_ails 208 = .ok (.iinc 9 1, 3) := by decide +kernel
theorem dX8_ails_211 : decode cX8_ails 211 = .ok (.goto (-67), 3) := by decide +kernel
theorem dX8_ails_214 : decode cX8_ails 214 = .ok (.iload 8, 2) := by decide +kernel
theorem dX8_ails_216 : decode cX8_ails 216 = .ok (.iload 6, 2) := by decide +kernel
theorem dX8_ails_218 : decode cX8_ails 218 = .ok (.if_icmp .ge 11, 3) := by decide +kernel
theorem dX8_ails_221 : decode cX8_ails 221 = .ok (.iload 8, 2) := by decide +kernel
theorem dX8_ails_223 : decode cX8_ails 223 = .ok (.istore 6, 2) := by decide +kernel
theorem dX8_ails_225 : decode cX8_ails 225 = .ok (.iload 7, 2) := by decide +kernel
theorem dX8_ails_227 : decode cX8_ails 227 = .ok (.istore 5, 2) := by decide +kernel
theorem dX8_ails_229 : decode cX8_ails 229 = .ok (.iinc 7 1, 3) := by decide +kernel
theorem dX8_ails_232 : decode cX8_ails 232 = .ok (.goto (-128), 3) := by decide +kernel
theorem dX8_ails_235 : decode cX8_ails 235 = .ok (.iload 5, 2) := by decide +kernel
theorem dX8_ails_237 : decode cX8_ails 237 = .ok (.ireturn, 1) := by decide +kernel
set_option maxRecDepth 20000 in
theorem ggX8_sure_X8_isRam : GoodIn wsX8_sure wsX8_isRam := goodIn_r _ [6, 7, 8, 9, 5, 10, 51, 52, 53, 54, 55, 56, 57, 58, 59, 60, 61, 62, 63, 64, 65, 66, 67, 68, 69, 70, 71, 72, 73, 74, 75, 76, 77, 78, 79, 80, 81, 82, 83, 84, 85, 86, 87, 88] (by decide +kernel) (by decide +kernel)
set_option maxRecDepth 20000 in
theorem gX8_sure_X8_isRam : GoodIn wsX8_sure (wsV RX8 74 RX8 yX8_isRam wsX8_isRam) := goodIn_app (goodIn_of _ (by decide +kernel)) ggX8_sure_X8_isRam
set_option maxRecDepth 20000 in
theorem ggX8_sure_X8_in : GoodIn wsX8_sure wsX8_in := goodIn_r _ [10] (by decide +kernel) (by decide +kernel)
set_option maxRecDepth 20000 in
theorem gX8_sure_X8_in : GoodIn wsX8_sure (va_wsS RX8 70 yX8_in wsX8_in) := goodIn_app (goodIn_of _ (by decide +kernel)) ggX8_sure_X8_in
set_option maxRecDepth 20000 in
theorem ggX8_sure_X8_isFit : GoodIn wsX8_sure wsX8_isFit := goodIn_r _ [14, 15, 16, 17, 18, 19, 20, 21, 22, 23, 24, 25, 5, 26, 27, 28, 29, 30, 31, 32, 33, 34, 35, 36, 37, 38, 39, 40, 41, 42, 43, 44, 45, 46, 47, 48, 49, 50, 8, 9, 10, 51, 52, 53, 54, 55, 56, 57, 58, 59, 60, 61, 62, 63, 64, 65, 66, 67, 68, 69, 70, 71, 72, 73, 74, 75, 76, 77, 78, 79, 80, 81, 82, 83, 84, 85, 86, 87, 88] (by decide +kernel) (by decide +kernel)
set_option maxRecDepth 20000 in
theorem gX8_sure_X8_isFit : GoodIn wsX8_sure (wsV RX8 205 RX8 yX8_isFit wsX8_isFit) := goodIn_app (goodIn_of _ (by decide +kernel)) ggX8_sure_X8_isFit
set_option maxRecDepth 20000 in
theorem ggX8_sure_X8_valueOf : GoodIn wsX8_sure wsX8_valueOf := goodIn_r _ [30] (by decide +kernel) (by decide +kernel)
set_option maxRecDepth 20000 in
theorem gX8_sure_X8_valueOf : GoodIn wsX8_sure (va_wsS RX8 202 yX8_valueOf wsX8_valueOf) := goodIn_app (goodIn_of _ (by decide +kernel)) ggX8_sure_X8_valueOf
theorem dX8_sure_0 : decode cX8_sure 0 = .ok (.aload_n 0, 1) := by decide +kernel
theorem dX8_sure_1 : decode cX8_sure 1 = .ok (.iconst 0, 1) := by decide +kernel
theorem dX8_sure_2 : decode cX8_sure 2 = .ok (.putfield 64, 3) := by decide +kernel
theorem dX8_sure_5 : decode cX8_sure 5 = .ok (.aload_n 0, 1) := by decide +kernel
theorem dX8_sure_6 : decode cX8_sure 6 = .ok (.iload_n 1, 1) := by decide +kernel
theorem dX8_sure_7 : decode cX8_sure 7 = .ok (.invokevirtual 74, 3) := by decide +kernel
theorem dX8_sure_10 : decode cX8_sure 10 = .ok (.ifCond .eq 12, 3) := by decide +kernel
theorem dX8_sure_13 : decode cX8_sure 13 = .ok (.iload_n 2, 1) := by decide +kernel
theorem dX8_sure_14 : decode cX8_sure 14 = .ok (.iconst 0, 1) := by decide +kernel
theorem dX8_sure_15 : decode cX8_sure 15 = .ok (.iconst 3, 1) := by decide +kernel
theorem dX8_sure_16 : decode cX8_sure 16 = .ok (.invokestatic 70, 3) := by decide +kernel
theorem dX8_sure_19 : decode cX8_sure 19 = .ok (.ifCond .ne 5, 3) := by decide +kernel
theorem dX8_sure_22 : decode cX8_sure 22 = .ok (.iconst (-1), 1) := by decide +kernel
theorem dX8_sure_23 : decode cX8_sure 23 = .ok (.ireturn, 1) := by decide +kernel
theorem dX8_sure_24 : decode cX8_sure 24 = .ok (.bipush (-9), 2) := by decide +kernel
theorem dX8_sure_26 : decode cX8_sure 26 = .ok (.istore_n 3, 1) := by decide +kernel
theorem dX8_sure_27 : decode cX8_sure 27 = .ok (.iconst 0, 1) := by decide +kernel
theorem dX8_sure_28 : decode cX8_sure 28 = .ok (.istore 4, 2) := by decide +kernel
theorem dX8_sure_30 : decode cX8_sure 30 = .ok (.iload 4, 2) := by decide +kernel
theorem dX8_sure_32 : decode cX8_sure 32 = .ok (.sipush 256, 3) := by decide +kernel
theorem dX8_sure_35 : decode cX8_sure 35 = .ok (.if_icmp .ge 45, 3) := by decide +kernel
theorem dX8_sure_38 : decode cX8_sure 38 = .ok (.aload_n 0, 1) := by decide +kernel
theorem dX8_sure_39 : decode cX8_sure 39 = .ok (.iload_n 1, 1) := by decide +kernel
theorem dX8_sure_40 : decode cX8_sure 40 = .ok (.iload 4, 2) := by decide +kernel
theorem dX8_sure_42 : decode cX8_sure 42 = .ok (.invokevirtual 205, 3) := by decide +kernel
theorem dX8_sure_45 : decode cX8_sure 45 = .ok (.ifCond .eq 29, 3) := by decide +kernel
theorem dX8_sure_48 : decode cX8_sure 48 = .ok (.iload_n 3, 1) := by decide +kernel
theorem dX8_sure_49 : decode cX8_sure 49 = .ok (.bipush (-9), 2) := by decide +kernel
theorem dX8_sure_51 : decode cX8_sure 51 = .ok (.if_icmp .eq 16, 3) := by decide +kernel
theorem dX8_sure_54 : decode cX8_sure 54 = .ok (.iload_n 3, 1) := by decide +kernel
theorem dX8_sure_55 : decode cX8_sure 55 = .ok (.iload 4, 2) := by decide +kernel
theorem dX8_sure_57 : decode cX8_sure 57 = .ok (.iload_n 2, 1) := by decide +kernel
theorem dX8_sure_58 : decode cX8_sure 58 = .ok (.invokestatic 202, 3) := by decide +kernel
theorem dX8_sure_61 : decode cX8_sure 61 = .ok (.if_icmp .eq 6, 3) := by decide +kernel
theorem dX8_sure_64 : decode cX8_sure 64 = .ok (.bipush (-9), 2) := by decide +kernel
theorem dX8_sure_66 : decode cX8_sure 66 = .ok (.ireturn, 1) := by decide +kernel
theorem dX8_sure_67 : decode cX8_sure 67 = .ok (.iload 4, 2) := by decide +kernel
theorem dX8_sure_69 : decode cX8_sure 69 = .ok (.iload_n 2, 1) := by decide +kernel
theorem dX8_sure_70 : decode cX8_sure 70 = .ok (.invokestatic 202, 3) := by decide +kernel
theorem dX8_sure_73 : decode cX8_sure 73 = .ok (.istore_n 3, 1) := by decide +kernel
theorem dX8_sure_74 : decode cX8_sure 74 = .ok (.iinc 4 1, 3) := by decide +kernel
theorem dX8_sure_77 : decode cX8_sure 77 = .ok (.goto (-47), 3) := by decide +kernel
theorem dX8_sure_80 : decode cX8_sure 80 = .ok (.iload_n 3, 1) := by decide +kernel
theorem dX8_sure_81 : decode cX8_sure 81 = .ok (.ireturn, 1) := by decide +kernel
theorem dX8_count_0 : decode cX8_count 0 = .ok (.aload_n 0, 1) := by decide +kernel
theorem dX8_count_1 : decode cX8_count 1 = .ok (.iconst 0, 1) := by decide +kernel
theorem dX8_count_2 : decode cX8_count 2 = .ok (.putfield 64, 3) := by decide +kernel
theorem dX8_count_5 : decode cX8_count 5 = .ok (.iload_n 1, 1) := by decide +kernel
theorem dX8_count_6 : decode cX8_count 6 = .ok (.tableswitch 86 0 7 #[46, 51, 56, 61, 66, 71, 76, 81], 46) := by decide +kernel
theorem dX8_count_52 : decode cX8_count 52 = .ok (.aload_n 0, 1) := by decide +kernel
theorem dX8_count_53 : decode cX8_count 53 = .ok (.getfield 67, 3) := by decide +kernel
theorem dX8_count_56 : decode cX8_count 56 = .ok (.ireturn, 1) := by decide +kernel
theorem dX8_count_57 : decode cX8_count 57 = .ok (.aload_n 0, 1) := by decide +kernel
theorem dX8_count_58 : decode cX8_count 58 = .ok (.getfield 133, 3) := by decide +kernel
theorem dX8_count_61 : decode cX8_count 61 = .ok (.ireturn, 1) := by decide +kernel
theorem dX8_count_62 : decode cX8_count 62 = .ok (.aload_n 0, 1) := by decide +kernel
theorem dX8_count_63 : decode cX8_count 63 = .ok (.getfield 177, 3) := by decide +kernel
theorem dX8_count_66 : decode cX8_count 66 = .ok (.ireturn, 1) := by decide +kernel
theorem dX8_count_67 : decode cX8_count 67 = .ok (.aload_n 0, 1) := by decide +kernel
theorem dX8_count_68 : decode cX8_count 68 = .ok (.getfield 199, 3) := by decide +kernel
theorem dX8_count_71 : decode cX8_count 71 = .ok (.ireturn, 1) := by decide +kernel
theorem dX8_count_72 : decode cX8_count 72 = .ok (.aload_n 0, 1) := by decide +kernel
theorem dX8_count_73 : decode cX8_count 73 = .ok (.getfield 184, 3) := by decide +kernel
theorem dX8_count_76 : decode cX8_count 76 = .ok (.ireturn, 1) := by decide +kernel
theorem dX8_count_77 : decode cX8_count 77 = .ok (.aload_n 0, 1) := by decide +kernel
theorem dX8_count_78 : decode cX8_count 78 = .ok (.getfield 190, 3) := by decide +kernel
theorem dX8_count_81 : decode cX8_count 81 = .ok (.ireturn, 1) := by decide +kernel
theorem dX8_count_82 : decode cX8_count 82 = .ok (.aload_n 0, 1) := by decide +kernel
theorem dX8_count_83 : decode cX8_count 83 = .ok (.getfield 187, 3) := by decide +kernel
theorem dX8_count_86 : decode cX8_count 86 = .ok (.ireturn, 1) := by decide +kernel
theorem dX8_count_87 : decode cX8_count 87 = .ok (.aload_n 0, 1) := by decide +kernel
theorem dX8_count_88 : decode cX8_count 88 = .ok (.getfield 151, 3) := by decide +kernel
theorem dX8_count_91 : decode cX8_count 91 = .ok (.ireturn, 1) := by decide +kernel
theorem dX8_count_92 : decode cX8_count 92 = .ok (.iconst (-1), 1) := by decide +kernel
theorem dX8_count_93 : decode cX8_count 93 = .ok (.ireturn, 1) := by decide +kernel
theorem dX8_trace_0 : decode cX8_trace 0 = .ok (.aload_n 0, 1) := by decide +kernel
theorem dX8_trace_1 : decode cX8_trace 1 = .ok (.iconst 0, 1) := by decide +kernel
theorem dX8_trace_2 : decode cX8_trace 2 = .ok (.putfield 64, 3) := by decide +kernel
theorem dX8_trace_5 : decode cX8_trace 5 = .ok (.aload_n 0, 1) := by decide +kernel
theorem dX8_trace_6 : decode cX8_trace 6 = .ok (.getfield 81, 3) := by decide +kernel
theorem dX8_trace_9 : decode cX8_trace 9 = .ok (.lreturn, 1) := by decide +kernel
theorem dJ9_abs_0f7a4_0 : decode cJ9_abs_0f7a4 0 = .ok (.iload_n 0, 1) := by decide +kernel
theorem dJ9_abs_0f7a4_1 : decode cJ9_abs_0f7a4 1 = .ok (.ifCond .ge 8, 3) := by decide +kernel
theorem dJ9_abs_0f7a4_4 : decode cJ9_abs_0f7a4 4 = .ok (.iload_n 0, 1) := by decide +kernel
theorem dJ9_abs_0f7a4_5 : decode cJ9_abs_0f7a4 5 = .ok (.ineg, 1) := by decide +kernel
theorem dJ9_abs_0f7a4_6 : decode cJ9_abs_0f7a4 6 = .ok (.goto 4, 3) := by decide +kernel
theorem dJ9_abs_0f7a4_9 : decode cJ9_abs_0f7a4 9 = .ok (.iload_n 0, 1) := by decide +kernel
theorem dJ9_abs_0f7a4_10 : decode cJ9_abs_0f7a4 10 = .ok (.ireturn, 1) := by decide +kernel
theorem dJ9_max_7cf53_0 : decode cJ9_max_7cf53 0 = .ok (.iload_n 0, 1) := by decide +kernel
theorem dJ9_max_7cf53_1 : decode cJ9_max_7cf53 1 = .ok (.iload_n 1, 1) := by decide +kernel
theorem dJ9_max_7cf53_2 : decode cJ9_max_7cf53 2 = .ok (.if_icmp .lt 7, 3) := by decide +kernel
theorem dJ9_max_7cf53_5 : decode cJ9_max_7cf53 5 = .ok (.iload_n 0, 1) := by decide +kernel
theorem dJ9_max_7cf53_6 : decode cJ9_max_7cf53 6 = .ok (.goto 4, 3) := by decide +kernel
theorem dJ9_max_7cf53_9 : decode cJ9_max_7cf53 9 = .ok (.iload_n 1, 1) := by decide +kernel
theorem dJ9_max_7cf53_10 : decode cJ9_max_7cf53 10 = .ok (.ireturn, 1) := by decide +kernel
theorem dJ9_min_7cf53_0 : decode cJ9_min_7cf53 0 = .ok (.iload_n 0, 1) := by decide +kernel
theorem dJ9_min_7cf53_1 : decode cJ9_min_7cf53 1 = .ok (.iload_n 1, 1) := by decide +kernel
theorem dJ9_min_7cf53_2 : decode cJ9_min_7cf53 2 = .ok (.if_icmp .gt 7, 3) := by decide +kernel
theorem dJ9_min_7cf53_5 : decode cJ9_min_7cf53 5 = .ok (.iload_n 0, 1) := by decide +kernel
theorem dJ9_min_7cf53_6 : decode cJ9_min_7cf53 6 = .ok (.goto 4, 3) := by decide +kernel
theorem dJ9_min_7cf53_9 : decode cJ9_min_7cf53 9 = .ok (.iload_n 1, 1) := by decide +kernel
theorem dJ9_min_7cf53_10 : decode cJ9_min_7cf53 10 = .ok (.ireturn, 1) := by decide +kernel
theorem dJ7_fill_53178_0 : decode cJ7_fill_53178 0 = .ok (.iconst 0, 1) := by decide +kernel
theorem dJ7_fill_53178_1 : decode cJ7_fill_53178 1 = .ok (.istore_n 2, 1) := by decide +kernel
theorem dJ7_fill_53178_2 : decode cJ7_fill_53178 2 = .ok (.aload_n 0, 1) := by decide +kernel
theorem dJ7_fill_53178_3 : decode cJ7_fill_53178 3 = .ok (.arraylength, 1) := by decide +kernel
theorem dJ7_fill_53178_4 : decode cJ7_fill_53178 4 = .ok (.istore_n 3, 1) := by decide +kernel
theorem dJ7_fill_53178_5 : decode cJ7_fill_53178 5 = .ok (.iload_n 2, 1) := by decide +kernel
theorem dJ7_fill_53178_6 : decode cJ7_fill_53178 6 = .ok (.iload_n 3, 1) := by decide +kernel
theorem dJ7_fill_53178_7 : decode cJ7_fill_53178 7 = .ok (.if_icmp .ge 13, 3) := by decide +kernel
theorem dJ7_fill_53178_10 : decode cJ7_fill_53178 10 = .ok (.aload_n 0, 1) := by decide +kernel
theorem dJ7_fill_53178_11 : decode cJ7_fill_53178 11 = .ok (.iload_n 2, 1) := by decide +kernel
theorem dJ7_fill_53178_12 : decode cJ7_fill_53178 12 = .ok (.iload_n 1, 1) := by decide +kernel
theorem dJ7_fill_53178_13 : decode cJ7_fill_53178 13 = .ok (.iastore, 1) := by decide +kernel
theorem dJ7_fill_53178_14 : decode cJ7_fill_53178 14 = .ok (.iinc 2 1, 3) := by decide +kernel
theorem dJ7_fill_53178_17 : decode cJ7_fill_53178 17 = .ok (.goto (-12), 3) := by decide +kernel
theorem dJ7_fill_53178_20 : decode cJ7_fill_53178 20 = .ok (.return_, 1) := by decide +kernel
