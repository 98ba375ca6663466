theorem dX5_wet_31 : decode cX5_wet 31 = .ok (.iconst 0, 1) := by decide +kernel
theorem dX5_wet_32 : decode cX5_wet 32 = .ok (.iaload, 1) := by decide +kernel
theorem dX5_wet_33 : decode cX5_wet 33 = .ok (.imul, 1) := by decide +kernel
theorem dX5_wet_34 : decode cX5_wet 34 = .ok (.invokestatic 96, 3) := by decide +kernel
theorem dX5_wet_37 : decode cX5_wet 37 = .ok (.invokevirtual 92, 3) := by decide +kernel
theorem dX5_wet_40 : decode cX5_wet 40 = .ok (.ireturn, 1) := by decide +kernel
theorem dX5_airOf_0 : decode cX5_airOf 0 = .ok (.aload_n 0, 1) := by decide +kernel
theorem dX5_airOf_1 : decode cX5_airOf 1 = .ok (.iload_n 1, 1) := by decide +kernel
theorem dX5_airOf_2 : decode cX5_airOf 2 = .ok (.iaload, 1) := by decide +kernel
theorem dX5_airOf_3 : decode cX5_airOf 3 = .ok (.istore_n 2, 1) := by decide +kernel
theorem dX5_airOf_4 : decode cX5_airOf 4 = .ok (.iconst (-1), 1) := by decide +kernel
theorem dX5_airOf_5 : decode cX5_airOf 5 = .ok (.istore_n 3, 1) := by decide +kernel
theorem dX5_airOf_6 : decode cX5_airOf 6 = .ok (.iconst 0, 1) := by decide +kernel
theorem dX5_airOf_7 : decode cX5_airOf 7 = .ok (.istore 4, 2) := by decide +kernel
theorem dX5_airOf_9 : decode cX5_airOf 9 = .ok (.iload 4, 2) := by decide +kernel
theorem dX5_airOf_11 : decode cX5_airOf 11 = .ok (.aload_n 0, 1) := by decide +kernel
theorem dX5_airOf_12 : decode cX5_airOf 12 = .ok (.sipush 150, 3) := by decide +kernel
theorem dX5_airOf_15 : decode cX5_airOf 15 = .ok (.iaload, 1) := by decide +kernel
theorem dX5_airOf_16 : decode cX5_airOf 16 = .ok (.if_icmp .ge 66, 3) := by decide +kernel
theorem dX5_airOf_19 : decode cX5_airOf 19 = .ok (.bipush 90, 2) := by decide +kernel
theorem dX5_airOf_21 : decode cX5_airOf 21 = .ok (.iconst 3, 1) := by decide +kernel
theorem dX5_airOf_22 : decode cX5_airOf 22 = .ok (.iload 4, 2) := by decide +kernel
theorem dX5_airOf_24 : decode cX5_airOf 24 = .ok (.imul, 1) := by decide +kernel
theorem dX5_airOf_25 : decode cX5_airOf 25 = .ok (.iadd, 1) := by decide +kernel
theorem dX5_airOf_26 : decode cX5_airOf 26 = .ok (.istore 5, 2) := by decide +kernel
theorem dX5_airOf_28 : decode cX5_airOf 28 = .ok (.aload_n 0, 1) := by decide +kernel
theorem dX5_airOf_29 : decode cX5_airOf 29 = .ok (.iload 5, 2) := by decide +kernel
theorem dX5_airOf_31 : decode cX5_airOf 31 = .ok (.iaload, 1) := by decide +kernel
theorem dX5_airOf_32 : decode cX5_airOf 32 = .ok (.iload_n 1, 1) := by decide +kernel
theorem dX5_airOf_33 : decode cX5_airOf 33 = .ok (.if_icmp .ne 43, 3) := by decide +kernel
theorem dX5_airOf_36 : decode cX5_airOf 36 = .ok (.aload_n 0, 1) := by decide +kernel
theorem dX5_airOf_37 : decode cX5_airOf 37 = .ok (.iload 5, 2) := by decide +kernel
theorem dX5_airOf_39 : decode cX5_airOf 39 = .ok (.iconst 1, 1) := by decide +kernel
theorem dX5_airOf_40 : decode cX5_airOf 40 = .ok (.iadd, 1) := by decide +kernel
theorem dX5_airOf_41 : decode cX5_airOf 41 = .ok (.iaload, 1) := by decide +kernel
theorem dX5_airOf_42 : decode cX5_airOf 42 = .ok (.aload_n 0, 1) := by decide +kernel
theorem dX5_airOf_43 : decode cX5_airOf 43 = .ok (.bipush 22, 2) := by decide +kernel
theorem dX5_airOf_45 : decode cX5_airOf 45 = .ok (.iaload, 1) := by decide +kernel
theorem dX5_airOf_46 : decode cX5_airOf 46 = .ok (.if_icmp .gt 30, 3) := by decide +kernel
theorem dX5_airOf_49 : decode cX5_airOf 49 = .ok (.aload_n 0, 1) := by decide +kernel
theorem dX5_airOf_50 : decode cX5_airOf 50 = .ok (.iload 5, 2) := by decide +kernel
theorem dX5_airOf_52 : decode cX5_airOf 52 = .ok (.iconst 1, 1) := by decide +kernel
theorem dX5_airOf_53 : decode cX5_airOf 53 = .ok (.iadd, 1) := by decide +kernel
theorem dX5_airOf_54 : decode cX5_airOf 54 = .ok (.iaload, 1) := by decide +kernel
theorem dX5_airOf_55 : decode cX5_airOf 55 = .ok (.iload_n 3, 1) := by decide +kernel
theorem dX5_airOf_56 : decode cX5_airOf 56 = .ok (.if_icmp .ge 6, 3) := by decide +kernel
theorem dX5_airOf_59 : decode cX5_airOf 59 = .ok (.goto 17, 3) := by decide +kernel
theorem dX5_airOf_62 : decode cX5_airOf 62 = .ok (.aload_n 0, 1) := by decide +kernel
theorem dX5_airOf_63 : decode cX5_airOf 63 = .ok (.iload 5, 2) := by decide +kernel
theorem dX5_airOf_65 : decode cX5_airOf 65 = .ok (.iconst 1, 1) := by decide +kernel
theorem dX5_airOf_66 : decode cX5_airOf 66 = .ok (.iadd, 1) := by decide +kernel
theorem dX5_airOf_67 : decode cX5_airOf 67 = .ok (.iaload, 1) := by decide +kernel
theorem dX5_airOf_68 : decode cX5_airOf 68 = .ok (.istore_n 3, 1) := by decide +kernel
theorem dX5_airOf_69 : decode cX5_airOf 69 = .ok (.aload_n 0, 1) := by decide +kernel
theorem dX5_airOf_70 : decode cX5_airOf 70 = .ok (.iload 5, 2) := by decide +kernel
theorem dX5_airOf_72 : decode cX5_airOf 72 = .ok (.iconst 2, 1) := by decide +kernel
theorem dX5_airOf_73 : decode cX5_airOf 73 = .ok (.iadd, 1) := by decide +kernel
theorem dX5_airOf_74 : decode cX5_airOf 74 = .ok (.iaload, 1) := by decide +kernel
theorem dX5_airOf_75 : decode cX5_airOf 75 = .ok (.istore_n 2, 1) := by decide +kernel
theorem dX5_airOf_76 : decode cX5_airOf 76 = .ok (.iinc 4 1, 3) := by decide +kernel
theorem dX5_airOf_79 : decode cX5_airOf 79 = .ok (.goto (-70), 3) := by decide +kernel
theorem dX5_airOf_82 : decode cX5_airOf 82 = .ok (.iload_n 2, 1) := by decide +kernel
theorem dX5_airOf_83 : decode cX5_airOf 83 = .ok (.ireturn, 1) := by decide +kernel
theorem dX5_fullOf_0 : decode cX5_fullOf 0 = .ok (.aload_n 0, 1) := by decide +kernel
theorem dX5_fullOf_1 : decode cX5_fullOf 1 = .ok (.iconst 2, 1) := by decide +kernel
theorem dX5_fullOf_2 : decode cX5_fullOf 2 = .ok (.iaload, 1) := by decide +kernel
theorem dX5_fullOf_3 : decode cX5_fullOf 3 = .ok (.aload_n 0, 1) := by decide +kernel
theorem dX5_fullOf_4 : decode cX5_fullOf 4 = .ok (.iconst 1, 1) := by decide +kernel
theorem dX5_fullOf_5 : decode cX5_fullOf 5 = .ok (.iaload, 1) := by decide +kernel
theorem dX5_fullOf_6 : decode cX5_fullOf 6 = .ok (.imul, 1) := by decide +kernel
theorem dX5_fullOf_7 : decode cX5_fullOf 7 = .ok (.bipush 10, 2) := by decide +kernel
theorem dX5_fullOf_9 : decode cX5_fullOf 9 = .ok (.aload_n 0, 1) := by decide +kernel
theorem dX5_fullOf_10 : decode cX5_fullOf 10 = .ok (.iconst 5, 1) := by decide +kernel
theorem dX5_fullOf_11 : decode cX5_fullOf 11 = .ok (.iaload, 1) := by decide +kernel
theorem dX5_fullOf_12 : decode cX5_fullOf 12 = .ok (.imul, 1) := by decide +kernel
theorem dX5_fullOf_13 : decode cX5_fullOf 13 = .ok (.iadd, 1) := by decide +kernel
theorem dX5_fullOf_14 : decode cX5_fullOf 14 = .ok (.ireturn, 1) := by decide +kernel
theorem dX5_goesTo_0 : decode cX5_goesTo 0 = .ok (.aload_n 0, 1) := by decide +kernel
theorem dX5_goesTo_1 : decode cX5_goesTo 1 = .ok (.bipush 24, 2) := by decide +kernel
theorem dX5_goesTo_3 : decode cX5_goesTo 3 = .ok (.iload_n 1, 1) := by decide +kernel
theorem dX5_goesTo_4 : decode cX5_goesTo 4 = .ok (.iastore, 1) := by decide +kernel
theorem dX5_goesTo_5 : decode cX5_goesTo 5 = .ok (.aload_n 0, 1) := by decide +kernel
theorem dX5_goesTo_6 : decode cX5_goesTo 6 = .ok (.bipush 25, 2) := by decide +kernel
theorem dX5_goesTo_8 : decode cX5_goesTo 8 = .ok (.iconst (-1), 1) := by decide +kernel
theorem dX5_goesTo_9 : decode cX5_goesTo 9 = .ok (.iastore, 1) := by decide +kernel
theorem dX5_goesTo_10 : decode cX5_goesTo 10 = .ok (.aload_n 0, 1) := by decide +kernel
theorem dX5_goesTo_11 : decode cX5_goesTo 11 = .ok (.bipush 26, 2) := by decide +kernel
theorem dX5_goesTo_13 : decode cX5_goesTo 13 = .ok (.iload_n 1, 1) := by decide +kernel
theorem dX5_goesTo_14 : decode cX5_goesTo 14 = .ok (.iconst 1, 1) := by decide +kernel
theorem dX5_goesTo_15 : decode cX5_goesTo 15 = .ok (.if_icmp .ne 8, 3) := by decide +kernel
theorem dX5_goesTo_18 : decode cX5_goesTo 18 = .ok (.bipush 88, 2) := by decide +kernel
theorem dX5_goesTo_20 : decode cX5_goesTo 20 = .ok (.goto 4, 3) := by decide +kernel
theorem dX5_goesTo_23 : decode cX5_goesTo 23 = .ok (.iconst 0, 1) := by decide +kernel
theorem dX5_goesTo_24 : decode cX5_goesTo 24 = .ok (.iastore, 1) := by decide +kernel
theorem dX5_goesTo_25 : decode cX5_goesTo 25 = .ok (.return_, 1) := by decide +kernel
set_option maxRecDepth 20000 in
theorem ggX5_airs_X5_airOf : GoodIn wsX5_airs wsX5_airOf := goodIn_r _ [5] (by decide +kernel) (by decide +kernel)
set_option maxRecDepth 20000 in
theorem gX5_airs_X5_airOf : GoodIn wsX5_airs (va_wsS RX5 99 yX5_airOf wsX5_airOf) := goodIn_app (goodIn_of _ (by decide +kernel)) ggX5_airs_X5_airOf
set_option maxRecDepth 20000 in
theorem ggX5_airs_X5_lesser : GoodIn wsX5_airs wsX5_lesser := goodIn_r _ [8] (by decide +kernel) (by decide +kernel)
set_option maxRecDepth 20000 in
theorem gX5_airs_X5_lesser : GoodIn wsX5_airs (va_wsS RX5 96 yX5_lesser wsX5_lesser) := goodIn_app (goodIn_of _ (by decide +kernel)) ggX5_airs_X5_lesser
theorem dX5_airs_0 : decode cX5_airs 0 = .ok (.aload_n 1, 1) := by decide +kernel
theorem dX5_airs_1 : decode cX5_airs 1 = .ok (.bipush 8, 2) := by decide +kernel
theorem dX5_airs_3 : decode cX5_airs 3 = .ok (.invokestatic 99, 3) := by decide +kernel
theorem dX5_airs_6 : decode cX5_airs 6 = .ok (.istore_n 2, 1) := by decide +kernel
theorem dX5_airs_7 : decode cX5_airs 7 = .ok (.aload_n 1, 1) := by decide +kernel
theorem dX5_airs_8 : decode cX5_airs 8 = .ok (.bipush 12, 2) := by decide +kernel
theorem dX5_airs_10 : decode cX5_airs 10 = .ok (.iaload, 1) := by decide +kernel
theorem dX5_airs_11 : decode cX5_airs 11 = .ok (.iconst 1, 1) := by decide +kernel
theorem dX5_airs_12 : decode cX5_airs 12 = .ok (.if_icmp .ne 31, 3) := by decide +kernel
theorem dX5_airs_15 : decode cX5_airs 15 = .ok (.iload_n 2, 1) := by decide +kernel
theorem dX5_airs_16 : decode cX5_airs 16 = .ok (.aload_n 1, 1) := by decide +kernel
theorem dX5_airs_17 : decode cX5_airs 17 = .ok (.bipush 20, 2) := by decide +kernel
theorem dX5_airs_19 : decode cX5_airs 19 = .ok (.iaload, 1) := by decide +kernel
theorem dX5_airs_20 : decode cX5_airs 20 = .ok (.sipush 1000, 3) := by decide +kernel
theorem dX5_airs_23 : decode cX5_airs 23 = .ok (.idiv, 1) := by decide +kernel
theorem dX5_airs_24 : decode cX5_airs 24 = .ok (.isub, 1) := by decide +kernel
theorem dX5_airs_25 : decode cX5_airs 25 = .ok (.ifCond .ge 7, 3) := by decide +kernel
theorem dX5_airs_28 : decode cX5_airs 28 = .ok (.iconst 0, 1) := by decide +kernel
theorem dX5_airs_29 : decode cX5_airs 29 = .ok (.goto 13, 3) := by decide +kernel
theorem dX5_airs_32 : decode cX5_airs 32 = .ok (.iload_n 2, 1) := by decide +kernel
theorem dX5_airs_33 : decode cX5_airs 33 = .ok (.aload_n 1, 1) := by decide +kernel
theorem dX5_airs_34 : decode cX5_airs 34 = .ok (.bipush 20, 2) := by decide +kernel
theorem dX5_airs_36 : decode cX5_airs 36 = .ok (.iaload, 1) := by decide +kernel
theorem dX5_airs_37 : decode cX5_airs 37 = .ok (.sipush 1000, 3) := by decide +kernel
theorem dX5_airs_40 : decode cX5_airs 40 = .ok (.idiv, 1) := by decide +kernel
theorem dX5_airs_41 : decode cX5_airs 41 = .ok (.isub, 1) := by decide +kernel
theorem dX5_airs_42 : decode cX5_airs 42 = .ok (.istore_n 2, 1) := by decide +kernel
theorem dX5_airs_43 : decode cX5_airs 43 = .ok (.aload_n 0, 1) := by decide +kernel
theorem dX5_airs_44 : decode cX5_airs 44 = .ok (.getfield 28, 3) := by decide +kernel
theorem dX5_airs_47 : decode cX5_airs 47 = .ok (.ifCond .lt 10, 3) := by decide +kernel
theorem dX5_airs_50 : decode cX5_airs 50 = .ok (.aload_n 0, 1) := by decide +kernel
theorem dX5_airs_51 : decode cX5_airs 51 = .ok (.getfield 28, 3) := by decide +kernel
theorem dX5_airs_54 : decode cX5_airs 54 = .ok (.goto 9, 3) := by decide +kernel
theorem dX5_airs_57 : decode cX5_airs 57 = .ok (.aload_n 1, 1) := by decide +kernel
theorem dX5_airs_58 : decode cX5_airs 58 = .ok (.bipush 9, 2) := by decide +kernel
theorem dX5_airs_60 : decode cX5_airs 60 = .ok (.invokestatic 99, 3) := by decide +kernel
theorem dX5_airs_63 : decode cX5_airs 63 = .ok (.istore_n 3, 1) := by decide +kernel
theorem dX5_airs_64 : decode cX5_airs 64 = .ok (.iload_n 2, 1) := by decide +kernel
theorem dX5_airs_65 : decode cX5_airs 65 = .ok (.iload_n 3, 1) := by decide +kernel
theorem dX5_airs_66 : decode cX5_airs 66 = .ok (.iconst 1, 1) := by decide +kernel
theorem dX5_airs_67 : decode cX5_airs 67 = .ok (.iadd, 1) := by decide +kernel
theorem dX5_airs_68 : decode cX5_airs 68 = .ok (.imul, 1) := by decide +kernel
theorem dX5_airs_69 : decode cX5_airs 69 = .ok (.iconst 4, 1) := by decide +kernel
theorem dX5_airs_70 : decode cX5_airs 70 = .ok (.idiv, 1) := by decide +kernel
theorem dX5_airs_71 : decode cX5_airs 71 = .ok (.istore 4, 2) := by decide +kernel
theorem dX5_airs_73 : decode cX5_airs 73 = .ok (.aload_n 1, 1) := by decide +kernel
theorem dX5_airs_74 : decode cX5_airs 74 = .ok (.bipush 13, 2) := by decide +kernel
theorem dX5_airs_76 : decode cX5_airs 76 = .ok (.iaload, 1) := by decide +kernel
theorem dX5_airs_77 : decode cX5_airs 77 = .ok (.iconst 1, 1) := by decide +kernel
theorem dX5_airs_78 : decode cX5_airs 78 = .ok (.if_icmp .ne 10, 3) := by decide +kernel
theorem dX5_airs_81 : decode cX5_airs 81 = .ok (.iconst 2, 1) := by decide +kernel
theorem dX5_airs_82 : decode cX5_airs 82 = .ok (.iload 4, 2) := by decide +kernel
theorem dX5_airs_84 : decode cX5_airs 84 = .ok (.imul, 1) := by decide +kernel
theorem dX5_airs_85 : decode cX5_airs 85 = .ok (.goto 5, 3) := by decide +kernel
theorem dX5_airs_88 : decode cX5_airs 88 = .ok (.iload 4, 2) := by decide +kernel
theorem dX5_airs_90 : decode cX5_airs 90 = .ok (.aload_n 1, 1) := by decide +kernel
theorem dX5_airs_91 : decode cX5_airs 91 = .ok (.bipush 18, 2) := by decide +kernel
theorem dX5_airs_93 : decode cX5_airs 93 = .ok (.iaload, 1) := by decide +kernel
theorem dX5_airs_94 : decode cX5_airs 94 = .ok (.invokestatic 96, 3) := by decide +kernel
theorem dX5_airs_97 : decode cX5_airs 97 = .ok (.istore 4, 2) := by decide +kernel
theorem dX5_airs_99 : decode cX5_airs 99 = .ok (.aload_n 1, 1) := by decide +kernel
theorem dX5_airs_100 : decode cX5_airs 100 = .ok (.bipush 18, 2) := by decide +kernel
theorem dX5_airs_102 : decode cX5_airs 102 = .ok (.dup2, 1) := by decide +kernel
theorem dX5_airs_103 : decode cX5_airs 103 = .ok (.iaload, 1) := by decide +kernel
theorem dX5_airs_104 : decode cX5_airs 104 = .ok (.iload 4, 2) := by decide +kernel
theorem dX5_airs_106 : decode cX5_airs 106 = .ok (.isub, 1) := by decide +kernel
theorem dX5_airs_107 : decode cX5_airs 107 = .ok (.iastore, 1) := by decide +kernel
theorem dX5_airs_108 : decode cX5_airs 108 = .ok (.aload_n 1, 1) := by decide +kernel
theorem dX5_airs_109 : decode cX5_airs 109 = .ok (.bipush 20, 2) := by decide +kernel
theorem dX5_airs_111 : decode cX5_airs 111 = .ok (.dup2, 1) := by decide +kernel
theorem dX5_airs_112 : decode cX5_airs 112 = .ok (.iaload, 1) := by decide +kernel
theorem dX5_airs_113 : decode cX5_airs 113 = .ok (.iload 4, 2) := by decide +kernel
theorem dX5_airs_115 : decode cX5_airs 115 = .ok (.iadd, 1) := by decide +kernel
theorem dX5_airs_116 : decode cX5_airs 116 = .ok (.iastore, 1) := by decide +kernel
theorem dX5_airs_117 : decode cX5_airs 117 = .ok (.aload_n 1, 1) := by decide +kernel
theorem dX5_airs_118 : decode cX5_airs 118 = .ok (.bipush 21, 2) := by decide +kernel
theorem dX5_airs_120 : decode cX5_airs 120 = .ok (.dup2, 1) := by decide +kernel
theorem dX5_airs_121 : decode cX5_airs 121 = .ok (.iaload, 1) := by decide +kernel
theorem dX5_airs_122 : decode cX5_airs 122 = .ok (.iload 4, 2) := by decide +kernel
theorem dX5_airs_124 : decode cX5_airs 124 = .ok (.iadd, 1) := by decide +kernel
theorem dX5_airs_125 : decode cX5_airs 125 = .ok (.iastore, 1) := by decide +kernel
theorem dX5_airs_126 : decode cX5_airs 126 = .ok (.aload_n 1, 1) := by decide +kernel
theorem dX5_airs_127 : decode cX5_airs 127 = .ok (.bipush 11, 2) := by decide +kernel
theorem dX5_airs_129 : decode cX5_airs 129 = .ok (.invokestatic 99, 3) := by decide +kernel
theorem dX5_airs_132 : decode cX5_airs 132 = .ok (.istore 5, 2) := by decide +kernel
theorem dX5_airs_134 : decode cX5_airs 134 = .ok (.aload_n 1, 1) := by decide +kernel
theorem dX5_airs_135 : decode cX5_airs 135 = .ok (.bipush 16, 2) := by decide +kernel
theorem dX5_airs_137 : decode cX5_airs 137 = .ok (.dup2, 1) := by decide +kernel
theorem dX5_airs_138 : decode cX5_airs 138 = .ok (.iaload, 1) := by decide +kernel
theorem dX5_airs_139 : decode cX5_airs 139 = .ok (.iload 5, 2) := by decide +kernel
theorem dX5_airs_141 : decode cX5_airs 141 = .ok (.aload_n 1, 1) := by decide +kernel
theorem dX5_airs_142 : decode cX5_airs 142 = .ok (.bipush 16, 2) := by decide +kernel
theorem dX5_airs_144 : decode cX5_airs 144 = .ok (.iaload, 1) := by decide +kernel
theorem dX5_airs_145 : decode cX5_airs 145 = .ok (.isub, 1) := by decide +kernel
theorem dX5_airs_146 : decode cX5_airs 146 = .ok (.bipush 20, 2) := by decide +kernel
theorem dX5_airs_148 : decode cX5_airs 148 = .ok (.idiv, 1) := by decide +kernel
theorem dX5_airs_149 : decode cX5_airs 149 = .ok (.iload 4, 2) := by decide +kernel
theorem dX5_airs_151 : decode cX5_airs 151 = .ok (.bipush 10, 2) := by decide +kernel
theorem dX5_airs_153 : decode cX5_airs 153 = .ok (.idiv, 1) := by decide +kernel
theorem dX5_airs_154 : decode cX5_airs 154 = .ok (.isub, 1) := by decide +kernel
theorem dX5_airs_155 : decode cX5_airs 155 = .ok (.iadd, 1) := by decide +kernel
theorem dX5_airs_156 : decode cX5_airs 156 = .ok (.iastore, 1) := by decide +kernel
theorem dX5_airs_157 : decode cX5_airs 157 = .ok (.aload_n 1, 1) := by decide +kernel
theorem dX5_airs_158 : decode cX5_airs 158 = .ok (.bipush 17, 2) := by decide +kernel
theorem dX5_airs_160 : decode cX5_airs 160 = .ok (.dup2, 1) := by decide +kernel
theorem dX5_airs_161 : decode cX5_airs 161 = .ok (.iaload, 1) := by decide +kernel
theorem dX5_airs_162 : decode cX5_airs 162 = .ok (.iload 5, 2) := by decide +kernel
theorem dX5_airs_164 : decode cX5_airs 164 = .ok (.aload_n 1, 1) := by decide +kernel
theorem dX5_airs_165 : decode cX5_airs 165 = .ok (.bipush 17, 2) := by decide +kernel
theorem dX5_airs_167 : decode cX5_airs 167 = .ok (.iaload, 1) := by decide +kernel
theorem dX5_airs_168 : decode cX5_airs 168 = .ok (.isub, 1) := by decide +kernel
theorem dX5_airs_169 : decode cX5_airs 169 = .ok (.bipush 20, 2) := by decide +kernel
theorem dX5_airs_171 : decode cX5_airs 171 = .ok (.idiv, 1) := by decide +kernel
theorem dX5_airs_172 : decode cX5_airs 172 = .ok (.aload_n 1, 1) := by decide +kernel
theorem dX5_airs_173 : decode cX5_airs 173 = .ok (.bipush 10, 2) := by decide +kernel
theorem dX5_airs_175 : decode cX5_airs 175 = .ok (.invokestatic 99, 3) := by decide +kernel
theorem dX5_airs_178 : decode cX5_airs 178 = .ok (.aload_n 1, 1) := by decide +kernel
theorem dX5_airs_179 : decode cX5_airs 179 = .ok (.bipush 7, 2) := by decide +kernel
theorem dX5_airs_181 : decode cX5_airs 181 = .ok (.iaload, 1) := by decide +kernel
theorem dX5_airs_182 : decode cX5_airs 182 = .ok (.iconst 1, 1) := by decide +kernel
theorem dX5_airs_183 : decode cX5_airs 183 = .ok (.iadd, 1) := by decide +kernel
theorem dX5_airs_184 : decode cX5_airs 184 = .ok (.imul, 1) := by decide +kernel
theorem dX5_airs_185 : decode cX5_airs 185 = .ok (.iadd, 1) := by decide +kernel
theorem dX5_airs_186 : decode cX5_airs 186 = .ok (.iadd, 1) := by decide +kernel
theorem dX5_airs_187 : decode cX5_airs 187 = .ok (.iastore, 1) := by decide +kernel
theorem dX5_airs_188 : decode cX5_airs 188 = .ok (.aload_n 1, 1) := by decide +kernel
theorem dX5_airs_189 : decode cX5_airs 189 = .ok (.bipush 28, 2) := by decide +kernel
theorem dX5_airs_191 : decode cX5_airs 191 = .ok (.aload_n 1, 1) := by decide +kernel
theorem dX5_airs_192 : decode cX5_airs 192 = .ok (.bipush 17, 2) := by decide +kernel
theorem dX5_airs_194 : decode cX5_airs 194 = .ok (.iaload, 1) := by decide +kernel
theorem dX5_airs_195 : decode cX5_airs 195 = .ok (.aload_n 1, 1) := by decide +kernel
theorem dX5_airs_196 : decode cX5_airs 196 = .ok (.bipush 16, 2) := by decide +kernel
theorem dX5_airs_198 : decode cX5_airs 198 = .ok (.iaload, 1) := by decide +kernel
theorem dX5_airs_199 : decode cX5_airs 199 = .ok (.isub, 1) := by decide +kernel
theorem dX5_airs_200 : decode cX5_airs 200 = .ok (.aload_n 1, 1) := by decide +kernel
theorem dX5_airs_201 : decode cX5_airs 201 = .ok (.iconst 3, 1) := by decide +kernel
theorem dX5_airs_202 : decode cX5_airs 202 = .ok (.iaload, 1) := by decide +kernel
theorem dX5_airs_203 : decode cX5_airs 203 = .ok (.imul, 1) := by decide +kernel
theorem dX5_airs_204 : decode cX5_airs 204 = .ok (.iconst 3, 1) := by decide +kernel
theorem dX5_airs_205 : decode cX5_airs 205 = .ok (.aload_n 1, 1) := by decide +kernel
theorem dX5_airs_206 : decode cX5_airs 206 = .ok (.bipush 6, 2) := by decide +kernel
theorem dX5_airs_208 : decode cX5_airs 208 = .ok (.iaload, 1) := by decide +kernel
theorem dX5_airs_209 : decode cX5_airs 209 = .ok (.imul, 1) := by decide +kernel
theorem dX5_airs_210 : decode cX5_airs 210 = .ok (.idiv, 1) := by decide +kernel
theorem dX5_airs_211 : decode cX5_airs 211 = .ok (.aload_n 1, 1) := by decide +kernel
theorem dX5_airs_212 : decode cX5_airs 212 = .ok (.iconst 4, 1) := by decide +kernel
theorem dX5_airs_213 : decode cX5_airs 213 = .ok (.iaload, 1) := by decide +kernel
theorem dX5_airs_214 : decode cX5_airs 214 = .ok (.isub, 1) := by decide +kernel
theorem dX5_airs_215 : decode cX5_airs 215 = .ok (.iastore, 1) := by decide +kernel
theorem dX5_airs_216 : decode cX5_airs 216 = .ok (.return_, 1) := by decide +kernel
set_option maxRecDepth 20000 in
theorem ggX5_rises_X5_fullOf : GoodIn wsX5_rises wsX5_fullOf := goodIn_r _ [4] (by decide +kernel) (by decide +kernel)
set_option maxRecDepth 20000 in
theorem gX5_rises_X5_fullOf : GoodIn wsX5_rises (va_wsS RX5 103 yX5_fullOf wsX5_fullOf) := goodIn_app (goodIn_of _ (by decide +kernel)) ggX5_rises_X5_fullOf
set_option maxRecDepth 20000 in
theorem ggX5_rises_X5_goesTo : GoodIn wsX5_rises wsX5_goesTo := goodIn_r _ [7] (by decide +kernel) (by decide +kernel)
set_option maxRecDepth 20000 in
theorem gX5_rises_X5_goesTo : GoodIn wsX5_rises (va_wsS RX5 107 yX5_goesTo wsX5_goesTo) := goodIn_app (goodIn_of _ (by decide +kernel)) ggX5_rises_X5_goesTo
theorem dX5_rises_0 : decode cX5_rises 0 = .ok (.aload_n 0, 1) := by decide +kernel
theorem dX5_rises_1 : decode cX5_rises 1 = .ok (.bipush 19, 2) := by decide +kernel
theorem dX5_rises_3 : decode cX5_rises 3 = .ok (.iaload, 1) := by decide +kernel
theorem dX5_rises_4 : decode cX5_rises 4 = .ok (.aload_n 0, 1) := by decide +kernel
theorem dX5_rises_5 : decode cX5_rises 5 = .ok (.bipush 28, 2) := by decide +kernel
theorem dX5_rises_7 : decode cX5_rises 7 = .ok (.iaload, 1) := by decide +kernel
theorem dX5_rises_8 : decode cX5_rises 8 = .ok (.iconst 2, 1) := by decide +kernel
theorem dX5_rises_9 : decode cX5_rises 9 = .ok (.idiv, 1) := by decide +kernel
theorem dX5_rises_10 : decode cX5_rises 10 = .ok (.iadd, 1) := by decide +kernel
theorem dX5_rises_11 : decode cX5_rises 11 = .ok (.istore_n 1, 1) := by decide +kernel
theorem dX5_rises_12 : decode cX5_rises 12 = .ok (.bipush 100, 2) := by decide +kernel
theorem dX5_rises_14 : decode cX5_rises 14 = .ok (.aload_n 0, 1) := by decide +kernel
theorem dX5_rises_15 : decode cX5_rises 15 = .ok (.iconst 2, 1) := by decide +kernel
theorem dX5_rises_16 : decode cX5_rises 16 = .ok (.iaload, 1) := by decide +kernel
theorem dX5_rises_17 : decode cX5_rises 17 = .ok (.imul, 1) := by decide +kernel
theorem dX5_rises_18 : decode cX5_rises 18 = .ok (.istore_n 2, 1) := by decide +kernel
theorem dX5_rises_19 : decode cX5_rises 19 = .ok (.aload_n 0, 1) := by decide +kernel
theorem dX5_rises_20 : decode cX5_rises 20 = .ok (.bipush 19, 2) := by decide +kernel
theorem dX5_rises_22 : decode cX5_rises 22 = .ok (.iload_n 1, 1) := by decide +kernel
theorem dX5_rises_23 : decode cX5_rises 23 = .ok (.ifCond .ge 7, 3) := by decide +kernel
theorem dX5_rises_26 : decode cX5_rises 26 = .ok (.iconst 0, 1) := by decide +kernel
theorem dX5_rises_27 : decode cX5_rises 27 = .ok (.goto 13, 3) := by decide +kernel
theorem dX5_rises_30 : decode cX5_rises 30 = .ok (.iload_n 1, 1) := by decide +kernel
theorem dX5_rises_31 : decode cX5_rises 31 = .ok (.iload_n 2, 1) := by decide +kernel
theorem dX5_rises_32 : decode cX5_rises 32 = .ok (.if_icmp .le 7, 3) := by decide +kernel
theorem dX5_rises_35 : decode cX5_rises 35 = .ok (.iload_n 2, 1) := by decide +kernel
theorem dX5_rises_36 : decode cX5_rises 36 = .ok (.goto 4, 3) := by decide +kernel
theorem dX5_rises_39 : decode cX5_rises 39 = .ok (.iload_n 1, 1) := by decide +kernel
theorem dX5_rises_40 : decode cX5_rises 40 = .ok (.iastore, 1) := by decide +kernel
theorem dX5_rises_41 : decode cX5_rises 41 = .ok (.aload_n 0, 1) := by decide +kernel
theorem dX5_rises_42 : decode cX5_rises 42 = .ok (.bipush 27, 2) := by decide +kernel
theorem dX5_rises_44 : decode cX5_rises 44 = .ok (.aload_n 0, 1) := by decide +kernel
theorem dX5_rises_45 : decode cX5_rises 45 = .ok (.bipush 28, 2) := by decide +kernel
theorem dX5_rises_47 : decode cX5_rises 47 = .ok (.iaload, 1) := by decide +kernel
theorem dX5_rises_48 : decode cX5_rises 48 = .ok (.ifCond .gt 12, 3) := by decide +kernel
theorem dX5_rises_51 : decode cX5_rises 51 = .ok (.aload_n 0, 1) := by decide +kernel
theorem dX5_rises_52 : decode cX5_rises 52 = .ok (.bipush 27, 2) := by decide +kernel
theorem dX5_rises_54 : decode cX5_rises 54 = .ok (.iaload, 1) := by decide +kernel
theorem dX5_rises_55 : decode cX5_rises 55 = .ok (.iconst 1, 1) := by decide +kernel
theorem dX5_rises_56 : decode cX5_rises 56 = .ok (.iadd, 1) := by decide +kernel
theorem dX5_rises_57 : decode cX5_rises 57 = .ok (.goto 4, 3) := by decide +kernel
theorem dX5_rises_60 : decode cX5_rises 60 = .ok (.iconst 0, 1) := by decide +kernel
theorem dX5_rises_61 : decode cX5_rises 61 = .ok (.iastore, 1) := by decide +kernel
theorem dX5_rises_62 : decode cX5_rises 62 = .ok (.aload_n 0, 1) := by decide +kernel
theorem dX5_rises_63 : decode cX5_rises 63 = .ok (.bipush 19, 2) := by decide +kernel
theorem dX5_rises_65 : decode cX5_rises 65 = .ok (.iaload, 1) := by decide +kernel
theorem dX5_rises_66 : decode cX5_rises 66 = .ok (.aload_n 0, 1) := by decide +kernel
theorem dX5_rises_67 : decode cX5_rises 67 = .ok (.invokestatic 103, 3) := by decide +kernel
theorem dX5_rises_70 : decode cX5_rises 70 = .ok (.if_icmp .lt 11, 3) := by decide +kernel
theorem dX5_rises_73 : decode cX5_rises 73 = .ok (.aload_n 0, 1) := by decide +kernel
theorem dX5_rises_74 : decode cX5_rises 74 = .ok (.iconst 2, 1) := by decide +kernel
theorem dX5_rises_75 : decode cX5_rises 75 = .ok (.invokestatic 107, 3) := by decide +kernel
theorem dX5_rises_78 : decode cX5_rises 78 = .ok (.goto 136, 3) := by decide +kernel
theorem dX5_rises_81 : decode cX5_rises 81 = .ok (.aload_n 0, 1) := by decide +kernel
theorem dX5_rises_82 : decode cX5_rises 82 = .ok (.bipush 24, 2) := by decide +kernel
theorem dX5_rises_84 : decode cX5_rises 84 = .ok (.iaload, 1) := by decide +kernel
theorem dX5_rises_85 : decode cX5_rises 85 = .ok (.ifCond .ne 59, 3) := by decide +kernel
theorem dX5_rises_88 : decode cX5_rises 88 = .ok (.aload_n 0, 1) := by decide +kernel
theorem dX5_rises_89 : decode cX5_rises 89 = .ok (.bipush 19, 2) := by decide +kernel
theorem dX5_rises_91 : decode cX5_rises 91 = .ok (.iaload, 1) := by decide +kernel
theorem dX5_rises_92 : decode cX5_rises 92 = .ok (.iload_n 2, 1) := by decide +kernel
theorem dX5_rises_93 : decode cX5_rises 93 = .ok (.if_icmp .ne 11, 3) := by decide +kernel
theorem dX5_rises_96 : decode cX5_rises 96 = .ok (.aload_n 0, 1) := by decide +kernel
theorem dX5_rises_97 : decode cX5_rises 97 = .ok (.iconst 4, 1) := by decide +kernel
theorem dX5_rises_98 : decode cX5_rises 98 = .ok (.invokestatic 107, 3) := by decide +kernel
theorem dX5_rises_101 : decode cX5_rises 101 = .ok (.goto 113, 3) := by decide +kernel
theorem dX5_rises_104 : decode cX5_rises 104 = .ok (.aload_n 0, 1) := by decide +kernel
theorem dX5_rises_105 : decode cX5_rises 105 = .ok (.bipush 27, 2) := by decide +kernel
theorem dX5_rises_107 : decode cX5_rises 107 = .ok (.iaload, 1) := by decide +kernel
theorem dX5_rises_108 : decode cX5_rises 108 = .ok (.bipush 50, 2) := by decide +kernel
theorem dX5_rises_110 : decode cX5_rises 110 = .ok (.if_icmp .lt 104, 3) := by decide +kernel
theorem dX5_rises_113 : decode cX5_rises 113 = .ok (.aload_n 0, 1) := by decide +kernel
theorem dX5_rises_114 : decode cX5_rises 114 = .ok (.aload_n 0, 1) := by decide +kernel
theorem dX5_rises_115 : decode cX5_rises 115 = .ok (.bipush 18, 2) := by decide +kernel
theorem dX5_rises_117 : decode cX5_rises 117 = .ok (.iaload, 1) := by decide +kernel
theorem dX5_rises_118 : decode cX5_rises 118 = .ok (.ifCond .ne 19, 3) := by decide +kernel
theorem dX5_rises_121 : decode cX5_rises 121 = .ok (.aload_n 0, 1) := by decide +kernel
theorem dX5_rises_122 : decode cX5_rises 122 = .ok (.bipush 15, 2) := by decide +kernel
theorem dX5_rises_124 : decode cX5_rises 124 = .ok (.iaload, 1) := by decide +kernel
theorem dX5_rises_125 : decode cX5_rises 125 = .ok (.aload_n 0, 1) := by decide +kernel
theorem dX5_rises_126 : decode cX5_rises 126 = .ok (.bipush 14, 2) := by decide +kernel
theorem dX5_rises_128 : decode cX5_rises 128 = .ok (.iaload, 1) := by decide +kernel
theorem dX5_rises_129 : decode cX5_rises 129 = .ok (.if_icmp .ge 8, 3) := by decide +kernel
theorem dX5_rises_132 : decode cX5_rises 132 = .ok (.bipush 6, 2) := by decide +kernel
theorem dX5_rises_134 : decode cX5_rises 134 = .ok (.goto 4, 3) := by decide +kernel
theorem dX5_rises_137 : decode cX5_rises 137 = .ok (.iconst 5, 1) := by decide +kernel
theorem dX5_rises_138 : decode cX5_rises 138 = .ok (.invokestatic 107, 3) := by decide +kernel
theorem dX5_rises_141 : decode cX5_rises 141 = .ok (.goto 73, 3) := by decide +kernel
theorem dX5_rises_144 : decode cX5_rises 144 = .ok (.aload_n 0, 1) := by decide +kernel
theorem dX5_rises_145 : decode cX5_rises 145 = .ok (.bipush 24, 2) := by decide +kernel
theorem dX5_rises_147 : decode cX5_rises 147 = .ok (.iaload, 1) := by decide +kernel
theorem dX5_rises_148 : decode cX5_rises 148 = .ok (.iconst 1, 1) := by decide +kernel
theorem dX5_rises_149 : decode cX5_rises 149 = .ok (.if_icmp .ne 45, 3) := by decide +kernel
theorem dX5_rises_152 : decode cX5_rises 152 = .ok (.aload_n 0, 1) := by decide +kernel
theorem dX5_rises_153 : decode cX5_rises 153 = .ok (.bipush 25, 2) := by decide +kernel
theorem dX5_rises_155 : decode cX5_rises 155 = .ok (.iaload, 1) := by decide +kernel
theorem dX5_rises_156 : decode cX5_rises 156 = .ok (.iconst 3, 1) := by decide +kernel
theorem dX5_rises_157 : decode cX5_rises 157 = .ok (.irem, 1) := by decide +kernel
theorem dX5_rises_158 : decode cX5_rises 158 = .ok (.iconst 2, 1) := by decide +kernel
theorem dX5_rises_159 : decode cX5_rises 159 = .ok (.if_icmp .eq 4, 3) := by decide +kernel
theorem dX5_rises_162 : decode cX5_rises 162 = .ok (.return_, 1) := by decide +kernel
theorem dX5_rises_163 : decode cX5_rises 163 = .ok (.aload_n 0, 1) := by decide +kernel
theorem dX5_rises_164 : decode cX5_rises 164 = .ok (.bipush 26, 2) := by decide +kernel
theorem dX5_rises_166 : decode cX5_rises 166 = .ok (.aload_n 0, 1) := by decide +kernel
theorem dX5_rises_167 : decode cX5_rises 167 = .ok (.bipush 26, 2) := by decide +kernel
theorem dX5_rises_169 : decode cX5_rises 169 = .ok (.iaload, 1) := by decide +kernel
theorem dX5_rises_170 : decode cX5_rises 170 = .ok (.bipush 8, 2) := by decide +kernel
theorem dX5_rises_172 : decode cX5_rises 172 = .ok (.idiv, 1) := by decide +kernel
theorem dX5_rises_173 : decode cX5_rises 173 = .ok (.bipush 7, 2) := by decide +kernel
theorem dX5_rises_175 : decode cX5_rises 175 = .ok (.imul, 1) := by decide +kernel
theorem dX5_rises_176 : decode cX5_rises 176 = .ok (.iastore, 1) := by decide +kernel
theorem dX5_rises_177 : decode cX5_rises 177 = .ok (.aload_n 0, 1) := by decide +kernel
theorem dX5_rises_178 : decode cX5_rises 178 = .ok (.bipush 26, 2) := by decide +kernel
theorem dX5_rises_180 : decode cX5_rises 180 = .ok (.iaload, 1) := by decide +kernel
theorem dX5_rises_181 : decode cX5_rises 181 = .ok (.bipush 10, 2) := by decide +kernel
theorem dX5_rises_183 : decode cX5_rises 183 = .ok (.if_icmp .ge 31, 3) := by decide +kernel
theorem dX5_rises_186 : decode cX5_rises 186 = .ok (.aload_n 0, 1) := by decide +kernel
theorem dX5_rises_187 : decode cX5_rises 187 = .ok (.iconst 0, 1) := by decide +kernel
theorem dX5_rises_188 : decode cX5_rises 188 = .ok (.invokestatic 107, 3) := by decide +kernel
theorem dX5_rises_191 : decode cX5_rises 191 = .ok (.goto 23, 3) := by decide +kernel
theorem dX5_rises_194 : decode cX5_rises 194 = .ok (.aload_n 0, 1) := by decide +kernel
theorem dX5_rises_195 : decode cX5_rises 195 = .ok (.bipush 28, 2) := by decide +kernel
theorem dX5_rises_197 : decode cX5_rises 197 = .ok (.iaload, 1) := by decide +kernel
theorem dX5_rises_198 : decode cX5_rises 198 = .ok (.ifCond .le 16, 3) := by decide +kernel
theorem dX5_rises_201 : decode cX5_rises 201 = .ok (.aload_n 0, 1) := by decide +kernel
theorem dX5_rises_202 : decode cX5_rises 202 = .ok (.bipush 19, 2) := by decide +kernel
theorem dX5_rises_204 : decode cX5_rises 204 = .ok (.iaload, 1) := by decide +kernel
theorem dX5_rises_205 : decode cX5_rises 205 = .ok (.iload_n 2, 1) := by decide +kernel
theorem dX5_rises_206 : decode cX5_rises 206 = .ok (.if_icmp .ge 8, 3) := by decide +kernel
theorem dX5_rises_209 : decode cX5_rises 209 = .ok (.aload_n 0, 1) := by decide +kernel
theorem dX5_rises_210 : decode cX5_rises 210 = .ok (.iconst 0, 1) := by decide +kernel
theorem dX5_rises_211 : decode cX5_rises 211 = .ok (.invokestatic 107, 3) := by decide +kernel
theorem dX5_rises_214 : decode cX5_rises 214 = .ok (.return_, 1) := by decide +kernel
set_option maxRecDepth 20000 in
theorem ggX5_nods_X5_lesser : GoodIn wsX5_nods wsX5_lesser := goodIn_r _ [4] (by decide +kernel) (by decide +kernel)
set_option maxRecDepth 20000 in
theorem gX5_nods_X5_lesser : GoodIn wsX5_nods (va_wsS RX5 96 yX5_lesser wsX5_lesser) := goodIn_app (goodIn_of _ (by decide +kernel)) ggX5_nods_X5_lesser
set_option maxRecDepth 20000 in
theorem ggX5_nods_X5_goesTo : GoodIn wsX5_nods wsX5_goesTo := goodIn_r _ [7] (by decide +kernel) (by decide +kernel)
set_option maxRecDepth 20000 in
theorem gX5_nods_X5_goesTo : GoodIn wsX5_nods (va_wsS RX5 107 yX5_goesTo wsX5_goesTo) := goodIn_app (goodIn_of _ (by decide +kernel)) ggX5_nods_X5_goesTo
theorem dX5_nods_0 : decode cX5_nods 0 = .ok (.aload_n 0, 1) := by decide +kernel
theorem dX5_nods_1 : decode cX5_nods 1 = .ok (.bipush 23, 2) := by decide +kernel
theorem dX5_nods_3 : decode cX5_nods 3 = .ok (.dup2, 1) := by decide +kernel
theorem dX5_nods_4 : decode cX5_nods 4 = .ok (.iaload, 1) := by decide +kernel
theorem dX5_nods_5 : decode cX5_nods 5 = .ok (.iconst 1, 1) := by decide +kernel
theorem dX5_nods_6 : decode cX5_nods 6 = .ok (.iadd, 1) := by decide +kernel
theorem dX5_nods_7 : decode cX5_nods 7 = .ok (.iastore, 1) := by decide +kernel
theorem dX5_nods_8 : decode cX5_nods 8 = .ok (.aload_n 0, 1) := by decide +kernel
theorem dX5_nods_9 : decode cX5_nods 9 = .ok (.bipush 89, 2) := by decide +kernel
theorem dX5_nods_11 : decode cX5_nods 11 = .ok (.iaload, 1) := by decide +kernel
theorem dX5_nods_12 : decode cX5_nods 12 = .ok (.bipush 60, 2) := by decide +kernel
theorem dX5_nods_14 : decode cX5_nods 14 = .ok (.if_icmp .ge 24, 3) := by decide +kernel
theorem dX5_nods_17 : decode cX5_nods 17 = .ok (.aload_n 0, 1) := by decide +kernel
theorem dX5_nods_18 : decode cX5_nods 18 = .ok (.bipush 29, 2) := by decide +kernel
theorem dX5_nods_20 : decode cX5_nods 20 = .ok (.aload_n 0, 1) := by decide +kernel
theorem dX5_nods_21 : decode cX5_nods 21 = .ok (.bipush 89, 2) := by decide +kernel
theorem dX5_nods_23 : decode cX5_nods 23 = .ok (.iaload, 1) := by decide +kernel
theorem dX5_nods_24 : decode cX5_nods 24 = .ok (.iadd, 1) := by decide +kernel
theorem dX5_nods_25 : decode cX5_nods 25 = .ok (.aload_n 0, 1) := by decide +kernel
theorem dX5_nods_26 : decode cX5_nods 26 = .ok (.bipush 22, 2) := by decide +kernel
theorem dX5_nods_28 : decode cX5_nods 28 = .ok (.iaload, 1) := by decide +kernel
theorem dX5_nods_29 : decode cX5_nods 29 = .ok (.iastore, 1) := by decide +kernel
theorem dX5_nods_30 : decode cX5_nods 30 = .ok (.aload_n 0, 1) := by decide +kernel
theorem dX5_nods_31 : decode cX5_nods 31 = .ok (.bipush 89, 2) := by decide +kernel
theorem dX5_nods_33 : decode cX5_nods 33 = .ok (.dup2, 1) := by decide +kernel
theorem dX5_nods_34 : decode cX5_nods 34 = .ok (.iaload, 1) := by decide +kernel
theorem dX5_nods_35 : decode cX5_nods 35 = .ok (.iconst 1, 1) := by decide +kernel
theorem dX5_nods_36 : decode cX5_nods 36 = .ok (.iadd, 1) := by decide +kernel
theorem dX5_nods_37 : decode cX5_nods 37 = .ok (.iastore, 1) := by decide +kernel
theorem dX5_nods_38 : decode cX5_nods 38 = .ok (.aload_n 0, 1) := by decide +kernel
theorem dX5_nods_39 : decode cX5_nods 39 = .ok (.bipush 15, 2) := by decide +kernel
theorem dX5_nods_41 : decode cX5_nods 41 = .ok (.iaload, 1) := by decide +kernel
theorem dX5_nods_42 : decode cX5_nods 42 = .ok (.aload_n 0, 1) := by decide +kernel
theorem dX5_nods_43 : decode cX5_nods 43 = .ok (.bipush 14, 2) := by decide +kernel
theorem dX5_nods_45 : decode cX5_nods 45 = .ok (.iaload, 1) := by decide +kernel
theorem dX5_nods_46 : decode cX5_nods 46 = .ok (.if_icmp .lt 40, 3) := by decide +kernel
theorem dX5_nods_49 : decode cX5_nods 49 = .ok (.aload_n 0, 1) := by decide +kernel
theorem dX5_nods_50 : decode cX5_nods 50 = .ok (.bipush 15, 2) := by decide +kernel
theorem dX5_nods_52 : decode cX5_nods 52 = .ok (.iaload, 1) := by decide +kernel
theorem dX5_nods_53 : decode cX5_nods 53 = .ok (.iconst 5, 1) := by decide +kernel
theorem dX5_nods_54 : decode cX5_nods 54 = .ok (.if_icmp .lt 32, 3) := by decide +kernel
theorem dX5_nods_57 : decode cX5_nods 57 = .ok (.aload_n 0, 1) := by decide +kernel
theorem dX5_nods_58 : decode cX5_nods 58 = .ok (.bipush 15, 2) := by decide +kernel
theorem dX5_nods_60 : decode cX5_nods 60 = .ok (.dup2, 1) := by decide +kernel
theorem dX5_nods_61 : decode cX5_nods 61 = .ok (.iaload, 1) := by decide +kernel
theorem dX5_nods_62 : decode cX5_nods 62 = .ok (.iconst 5, 1) := by decide +kernel
theorem dX5_nods_63 : decode cX5_nods 63 = .ok (.isub, 1) := by decide +kernel
theorem dX5_nods_64 : decode cX5_nods 64 = .ok (.iastore, 1) := by decide +kernel
theorem dX5_nods_65 : decode cX5_nods 65 = .ok (.aload_n 0, 1) := by decide +kernel
theorem dX5_nods_66 : decode cX5_nods 66 = .ok (.bipush 18, 2) := by decide +kernel
theorem dX5_nods_68 : decode cX5_nods 68 = .ok (.aload_n 0, 1) := by decide +kernel
theorem dX5_nods_69 : decode cX5_nods 69 = .ok (.bipush 18, 2) := by decide +kernel
theorem dX5_nods_71 : decode cX5_nods 71 = .ok (.iaload, 1) := by decide +kernel
theorem dX5_nods_72 : decode cX5_nods 72 = .ok (.sipush 500, 3) := by decide +kernel
theorem dX5_nods_75 : decode cX5_nods 75 = .ok (.iadd, 1) := by decide +kernel
theorem dX5_nods_76 : decode cX5_nods 76 = .ok (.bipush 100, 2) := by decide +kernel
theorem dX5_nods_78 : decode cX5_nods 78 = .ok (.aload_n 0, 1) := by decide +kernel
theorem dX5_nods_79 : decode cX5_nods 79 = .ok (.iconst 0, 1) := by decide +kernel
theorem dX5_nods_80 : decode cX5_nods 80 = .ok (.iaload, 1) := by decide +kernel
theorem dX5_nods_81 : decode cX5_nods 81 = .ok (.imul, 1) := by decide +kernel
theorem dX5_nods_82 : decode cX5_nods 82 = .ok (.invokestatic 96, 3) := by decide +kernel
theorem dX5_nods_85 : decode cX5_nods 85 = .ok (.iastore, 1) := by decide +kernel
theorem dX5_nods_86 : decode cX5_nods 86 = .ok (.aload_n 0, 1) := by decide +kernel
theorem dX5_nods_87 : decode cX5_nods 87 = .ok (.iconst 3, 1) := by decide +kernel
theorem dX5_nods_88 : decode cX5_nods 88 = .ok (.invokestatic 107, 3) := by decide +kernel
theorem dX5_nods_91 : decode cX5_nods 91 = .ok (.return_, 1) := by decide +kernel
set_option maxRecDepth 20000 in
theorem ggX5_empties_X5_goesTo : GoodIn wsX5_empties wsX5_goesTo := goodIn_r _ [4] (by decide +kernel) (by decide +kernel)
set_option maxRecDepth 20000 in
theorem gX5_empties_X5_goesTo : GoodIn wsX5_empties (va_wsS RX5 107 yX5_goesTo wsX5_goesTo) := goodIn_app (goodIn_of _ (by decide +kernel)) ggX5_empties_X5_goesTo
theorem dX5_empties_0 : decode cX5_empties 0 = .ok (.aload_n 0, 1) := by decide +kernel
theorem dX5_empties_1 : decode cX5_empties 1 = .ok (.bipush 19, 2) := by decide +kernel
theorem dX5_empties_3 : decode cX5_empties 3 = .ok (.iaload, 1) := by decide +kernel
theorem dX5_empties_4 : decode cX5_empties 4 = .ok (.aload_n 0, 1) := by decide +kernel
theorem dX5_empties_5 : decode cX5_empties 5 = .ok (.bipush 19, 2) := by decide +kernel
theorem dX5_empties_7 : decode cX5_empties 7 = .ok (.iaload, 1) := by decide +kernel
theorem dX5_empties_8 : decode cX5_empties 8 = .ok (.iconst 4, 1) := by decide +kernel
theorem dX5_empties_9 : decode cX5_empties 9 = .ok (.idiv, 1) := by decide +kernel
theorem dX5_empties_10 : decode cX5_empties 10 = .ok (.isub, 1) := by decide +kernel
theorem dX5_empties_11 : decode cX5_empties 11 = .ok (.iconst 1, 1) := by decide +kernel
theorem dX5_empties_12 : decode cX5_empties 12 = .ok (.isub, 1) := by decide +kernel
theorem dX5_empties_13 : decode cX5_empties 13 = .ok (.istore_n 1, 1) := by decide +kernel
theorem dX5_empties_14 : decode cX5_empties 14 = .ok (.aload_n 0, 1) := by decide +kernel
theorem dX5_empties_15 : decode cX5_empties 15 = .ok (.bipush 19, 2) := by decide +kernel
theorem dX5_empties_17 : decode cX5_empties 17 = .ok (.iload_n 1, 1) := by decide +kernel
theorem dX5_empties_18 : decode cX5_empties 18 = .ok (.ifCond .ge 7, 3) := by decide +kernel
theorem dX5_empties_21 : decode cX5_empties 21 = .ok (.iconst 0, 1) := by decide +kernel
theorem dX5_empties_22 : decode cX5_empties 22 = .ok (.goto 4, 3) := by decide +kernel
theorem dX5_empties_25 : decode cX5_empties 25 = .ok (.iload_n 1, 1) := by decide +kernel
theorem dX5_empties_26 : decode cX5_empties 26 = .ok (.iastore, 1) := by decide +kernel
theorem dX5_empties_27 : decode cX5_empties 27 = .ok (.aload_n 0, 1) := by decide +kernel
theorem dX5_empties_28 : decode cX5_empties 28 = .ok (.bipush 19, 2) := by decide +kernel
theorem dX5_empties_30 : decode cX5_empties 30 = .ok (.iaload, 1) := by decide +kernel
theorem dX5_empties_31 : decode cX5_empties 31 = .ok (.iconst 5, 1) := by decide +kernel
theorem dX5_empties_32 : decode cX5_empties 32 = .ok (.aload_n 0, 1) := by decide +kernel
theorem dX5_empties_33 : decode cX5_empties 33 = .ok (.iconst 2, 1) := by decide +kernel
theorem dX5_empties_34 : decode cX5_empties 34 = .ok (.iaload, 1) := by decide +kernel
theorem dX5_empties_35 : decode cX5_empties 35 = .ok (.imul, 1) := by decide +kernel
theorem dX5_empties_36 : decode cX5_empties 36 = .ok (.if_icmp .gt 8, 3) := by decide +kernel
theorem dX5_empties_39 : decode cX5_empties 39 = .ok (.aload_n 0, 1) := by decide +kernel
theorem dX5_empties_40 : decode cX5_empties 40 = .ok (.iconst 1, 1) := by decide +kernel
theorem dX5_empties_41 : decode cX5_empties 41 = .ok (.invokestatic 107, 3) := by decide +kernel
theorem dX5_empties_44 : decode cX5_empties 44 = .ok (.return_, 1) := by decide +kernel
set_option maxRecDepth 20000 in
theorem ggX5_tenth_X5_airs : GoodIn wsX5_tenth wsX5_airs := goodIn_r _ [5, 6, 7, 8, 4, 9, 10, 11, 12, 28, 29, 30, 31, 32, 33, 34, 35, 36, 37, 38, 39, 40, 41] (by decide +kernel) (by decide +kernel)
set_option maxRecDepth 20000 in
theorem gX5_tenth_X5_airs : GoodIn wsX5_tenth (wsV RX5 111 RX5 yX5_airs wsX5_airs) := goodIn_app (goodIn_of _ (by decide +kernel)) ggX5_tenth_X5_airs
set_option maxRecDepth 20000 in
theorem ggX5_tenth_X5_empties : GoodIn wsX5_tenth wsX5_empties := goodIn_r _ [15, 16, 17, 4, 18] (by decide +kernel) (by decide +kernel)
set_option maxRecDepth 20000 in
theorem gX5_tenth_X5_empties : GoodIn wsX5_tenth (va_wsS RX5 115 yX5_empties wsX5_empties) := goodIn_app (goodIn_of _ (by decide +kernel)) ggX5_tenth_X5_empties
set_option maxRecDepth 20000 in
theorem ggX5_tenth_X5_rises : GoodIn wsX5_tenth wsX5_rises := goodIn_r _ [21, 22, 23, 4, 24, 16, 17, 18] (by decide +kernel) (by decide +kernel)
set_option maxRecDepth 20000 in
theorem gX5_tenth_X5_rises : GoodIn wsX5_tenth (va_wsS RX5 118 yX5_rises wsX5_rises) := goodIn_app (goodIn_of _ (by decide +kernel)) ggX5_tenth_X5_rises
set_option maxRecDepth 20000 in
theorem ggX5_tenth_X5_nods : GoodIn wsX5_tenth wsX5_nods := goodIn_r _ [27, 10, 11, 4, 12, 16, 17, 18] (by decide +kernel) (by decide +kernel)
set_option maxRecDepth 20000 in
theorem gX5_tenth_X5_nods : GoodIn wsX5_tenth (va_wsS RX5 121 yX5_nods wsX5_nods) := goodIn_app (goodIn_of _ (by decide +kernel)) ggX5_tenth_X5_nods
theorem dX5_tenth_0 : decode cX5_tenth 0 = .ok (.aload_n 0, 1) := by decide +kernel
theorem dX5_tenth_1 : decode cX5_tenth 1 = .ok (.aload_n 1, 1) := by decide +kernel
theorem dX5_tenth_2 : decode cX5_tenth 2 = .ok (.invokevirtual 111, 3) := by decide +kernel
theorem dX5_tenth_5 : decode cX5_tenth 5 = .ok (.aload_n 1, 1) := by decide +kernel
theorem dX5_tenth_6 : decode cX5_tenth 6 = .ok (.bipush 24, 2) := by decide +kernel
theorem dX5_tenth_8 : decode cX5_tenth 8 = .ok (.iaload, 1) := by decide +kernel
theorem dX5_tenth_9 : decode cX5_tenth 9 = .ok (.iconst 3, 1) := by decide +kernel
theorem dX5_tenth_10 : decode cX5_tenth 10 = .ok (.if_icmp .ne 10, 3) := by decide +kernel
theorem dX5_tenth_13 : decode cX5_tenth 13 = .ok (.aload_n 1, 1) := by decide +kernel
theorem dX5_tenth_14 : decode cX5_tenth 14 = .ok (.invokestatic 115, 3) := by decide +kernel
theorem dX5_tenth_17 : decode cX5_tenth 17 = .ok (.goto 30, 3) := by decide +kernel
theorem dX5_tenth_20 : decode cX5_tenth 20 = .ok (.aload_n 1, 1) := by decide +kernel
theorem dX5_tenth_21 : decode cX5_tenth 21 = .ok (.bipush 24, 2) := by decide +kernel
theorem dX5_tenth_23 : decode cX5_tenth 23 = .ok (.iaload, 1) := by decide +kernel
theorem dX5_tenth_24 : decode cX5_tenth 24 = .ok (.iconst 2, 1) := by decide +kernel
theorem dX5_tenth_25 : decode cX5_tenth 25 = .ok (.if_icmp .eq 10, 3) := by decide +kernel
theorem dX5_tenth_28 : decode cX5_tenth 28 = .ok (.aload_n 1, 1) := by decide +kernel
theorem dX5_tenth_29 : decode cX5_tenth 29 = .ok (.invokestatic 118, 3) := by decide +kernel
theorem dX5_tenth_32 : decode cX5_tenth 32 = .ok (.goto 15, 3) := by decide +kernel
theorem dX5_tenth_35 : decode cX5_tenth 35 = .ok (.aload_n 1, 1) := by decide +kernel
theorem dX5_tenth_36 : decode cX5_tenth 36 = .ok (.bipush 25, 2) := by decide +kernel
theorem dX5_tenth_38 : decode cX5_tenth 38 = .ok (.iaload, 1) := by decide +kernel
theorem dX5_tenth_39 : decode cX5_tenth 39 = .ok (.iconst 4, 1) := by decide +kernel
theorem dX5_tenth_40 : decode cX5_tenth 40 = .ok (.if_icmp .ne 7, 3) := by decide +kernel
theorem dX5_tenth_43 : decode cX5_tenth 43 = .ok (.aload_n 1, 1) := by decide +kernel
theorem dX5_tenth_44 : decode cX5_tenth 44 = .ok (.invokestatic 121, 3) := by decide +kernel
theorem dX5_tenth_47 : decode cX5_tenth 47 = .ok (.aload_n 1, 1) := by decide +kernel
theorem dX5_tenth_48 : decode cX5_tenth 48 = .ok (.bipush 25, 2) := by decide +kernel
theorem dX5_tenth_50 : decode cX5_tenth 50 = .ok (.dup2, 1) := by decide +kernel
theorem dX5_tenth_51 : decode cX5_tenth 51 = .ok (.iaload, 1) := by decide +kernel
theorem dX5_tenth_52 : decode cX5_tenth 52 = .ok (.iconst 1, 1) := by decide +kernel
theorem dX5_tenth_53 : decode cX5_tenth 53 = .ok (.iadd, 1) := by decide +kernel
theorem dX5_tenth_54 : decode cX5_tenth 54 = .ok (.iastore, 1) := by decide +kernel
theorem dX5_tenth_55 : decode cX5_tenth 55 = .ok (.aload_n 1, 1) := by decide +kernel
theorem dX5_tenth_56 : decode cX5_tenth 56 = .ok (.bipush 22, 2) := by decide +kernel
theorem dX5_tenth_58 : decode cX5_tenth 58 = .ok (.dup2, 1) := by decide +kernel
theorem dX5_tenth_59 : decode cX5_tenth 59 = .ok (.iaload, 1) := by decide +kernel
theorem dX5_tenth_60 : decode cX5_tenth 60 = .ok (.iconst 1, 1) := by decide +kernel
theorem dX5_tenth_61 : decode cX5_tenth 61 = .ok (.iadd, 1) := by decide +kernel
theorem dX5_tenth_62 : decode cX5_tenth 62 = .ok (.iastore, 1) := by decide +kernel
theorem dX5_tenth_63 : decode cX5_tenth 63 = .ok (.return_, 1) := by decide +kernel
set_option maxRecDepth 20000 in
theorem ggX5_goesOn_X5_tenth : GoodIn wsX5_goesOn wsX5_tenth := goodIn_r _ [5, 6, 7, 8, 4, 9, 10, 11, 12, 13, 14, 15, 16, 17, 18, 19, 20, 21, 22, 23, 24, 25, 26, 27, 28, 29, 30, 31, 32, 33, 34, 35, 36, 37, 38, 39, 40, 41, 42, 43, 44, 45] (by decide +kernel) (by decide +kernel)
set_option maxRecDepth 20000 in
theorem gX5_goesOn_X5_tenth : GoodIn wsX5_goesOn (wsV RX5 124 RX5 yX5_tenth wsX5_tenth) := goodIn_app (goodIn_of _ (by decide +kernel)) ggX5_goesOn_X5_tenth
theorem dX5_goesOn_0 : decode cX5_goesOn 0 = .ok (.iconst 0, 1) := by decide +kernel
theorem dX5_goesOn_1 : decode cX5_goesOn 1 = .ok (.istore_n 3, 1) := by decide +kernel
theorem dX5_goesOn_2 : decode cX5_goesOn 2 = .ok (.iload_n 3, 1) := by decide +kernel
theorem dX5_goesOn_3 : decode cX5_goesOn 3 = .ok (.iload_n 2, 1) := by decide +kernel
theorem dX5_goesOn_4 : decode cX5_goesOn 4 = .ok (.if_icmp .ge 14, 3) := by decide +kernel
theorem dX5_goesOn_7 : decode cX5_goesOn 7 = .ok (.aload_n 0, 1) := by decide +kernel
theorem dX5_goesOn_8 : decode cX5_goesOn 8 = .ok (.aload_n 1, 1) := by decide +kernel
theorem dX5_goesOn_9 : decode cX5_goesOn 9 = .ok (.invokevirtual 124, 3) := by decide +kernel
theorem dX5_goesOn_12 : decode cX5_goesOn 12 = .ok (.iinc 3 1, 3) := by decide +kernel
theorem dX5_goesOn_15 : decode cX5_goesOn 15 = .ok (.goto (-13), 3) := by decide +kernel
theorem dX5_goesOn_18 : decode cX5_goesOn 18 = .ok (.aload_n 1, 1) := by decide +kernel
theorem dX5_goesOn_19 : decode cX5_goesOn 19 = .ok (.bipush 23, 2) := by decide +kernel
theorem dX5_goesOn_21 : decode cX5_goesOn 21 = .ok (.iaload, 1) := by decide +kernel
theorem dX5_goesOn_22 : decode cX5_goesOn 22 = .ok (.ireturn, 1) := by decide +kernel
set_option maxRecDepth 20000 in
theorem ggX5_run_X5_within : GoodIn wsX5_run wsX5_within := goodIn_r _ [5] (by decide +kernel) (by decide +kernel)
set_option maxRecDepth 20000 in
theorem gX5_run_X5_within : GoodIn wsX5_run (va_wsS RX5 82 yX5_within wsX5_within) := goodIn_app (goodIn_of _ (by decide +kernel)) ggX5_run_X5_within
set_option maxRecDepth 20000 in
theorem ggX5_run_X5_refuse : GoodIn wsX5_run wsX5_refuse := goodIn_r _ [9, 10, 45, 46, 47, 48, 49, 50, 51, 52, 53, 54, 55, 56, 57, 58] (by decide +kernel) (by decide +kernel)
set_option maxRecDepth 20000 in
theorem gX5_run_X5_refuse : GoodIn wsX5_run (wsV RX5 41 RX5 yX5_refuse wsX5_refuse) := goodIn_app (goodIn_of _ (by decide +kernel)) ggX5_run_X5_refuse
set_option maxRecDepth 20000 in
theorem ggX5_run_X5_goesOn : GoodIn wsX5_run wsX5_goesOn := goodIn_r _ [14, 15, 16, 17, 4, 18, 19, 20, 21, 22, 23, 24, 25, 26, 27, 28, 29, 30, 31, 32, 33, 34, 35, 36, 37, 38, 39, 40, 41, 42, 43, 44, 45, 46, 47, 48, 49, 50, 51, 52, 53, 54, 55, 56, 57, 58] (by decide +kernel) (by decide +kernel)
set_option maxRecDepth 20000 in
theorem gX5_run_X5_goesOn : GoodIn wsX5_run (wsV RX5 127 RX5 yX5_goesOn wsX5_goesOn) := goodIn_app (goodIn_of _ (by decide +kernel)) ggX5_run_X5_goesOn
theorem dX5_run_0 : decode cX5_run 0 = .ok (.iload_n 1, 1) := by decide +kernel
theorem dX5_run_1 : decode cX5_run 1 = .ok (.iconst 1, 1) := by decide +kernel
theorem dX5_run_2 : decode cX5_run 2 = .ok (.sipush 3000, 3) := by decide +kernel
theorem dX5_run_5 : decode cX5_run 5 = .ok (.invokestatic 82, 3) := by decide +kernel
theorem dX5_run_8 : decode cX5_run 8 = .ok (.istore_n 2, 1) := by decide +kernel
theorem dX5_run_9 : decode cX5_run 9 = .ok (.iload_n 2, 1) := by decide +kernel
theorem dX5_run_10 : decode cX5_run 10 = .ok (.ifCond .eq 11, 3) := by decide +kernel
theorem dX5_run_13 : decode cX5_run 13 = .ok (.aload_n 0, 1) := by decide +kernel
theorem dX5_run_14 : decode cX5_run 14 = .ok (.iload_n 2, 1) := by decide +kernel
theorem dX5_run_15 : decode cX5_run 15 = .ok (.invokevirtual 41, 3) := by decide +kernel
theorem dX5_run_18 : decode cX5_run 18 = .ok (.goto 12, 3) := by decide +kernel
theorem dX5_run_21 : decode cX5_run 21 = .ok (.aload_n 0, 1) := by decide +kernel
theorem dX5_run_22 : decode cX5_run 22 = .ok (.aload_n 0, 1) := by decide +kernel
theorem dX5_run_23 : decode cX5_run 23 = .ok (.getfield 13, 3) := by decide +kernel
theorem dX5_run_26 : decode cX5_run 26 = .ok (.iload_n 1, 1) := by decide +kernel
theorem dX5_run_27 : decode cX5_run 27 = .ok (.invokevirtual 127, 3) := by decide +kernel
theorem dX5_run_30 : decode cX5_run 30 = .ok (.ireturn, 1) := by decide +kernel
set_option maxRecDepth 20000 in
theorem ggX5_now_X5_isIn : GoodIn wsX5_now wsX5_isIn := goodIn_r _ [6] (by decide +kernel) (by decide +kernel)
set_option maxRecDepth 20000 in
theorem gX5_now_X5_isIn : GoodIn wsX5_now (va_wsS RX5 89 yX5_isIn wsX5_isIn) := goodIn_app (goodIn_of _ (by decide +kernel)) ggX5_now_X5_isIn
set_option maxRecDepth 20000 in
theorem ggX5_now_X5_refuse : GoodIn wsX5_now wsX5_refuse := goodIn_r _ [10, 11, 12, 13, 14, 15, 16, 17, 18, 19, 20, 21, 22, 23, 24, 25] (by decide +kernel) (by decide +kernel)
set_option maxRecDepth 20000 in
theorem gX5_now_X5_refuse : GoodIn wsX5_now (wsV RX5 41 RX5 yX5_refuse wsX5_refuse) := goodIn_app (goodIn_of _ (by decide +kernel)) ggX5_now_X5_refuse
theorem dX5_now_0 : decode cX5_now 0 = .ok (.iload_n 1, 1) := by decide +kernel
theorem dX5_now_1 : decode cX5_now 1 = .ok (.bipush 13, 2) := by decide +kernel
theorem dX5_now_3 : decode cX5_now 3 = .ok (.invokestatic 89, 3) := by decide +kernel
theorem dX5_now_6 : decode cX5_now 6 = .ok (.ifCond .ne 13, 3) := by decide +kernel
theorem dX5_now_9 : decode cX5_now 9 = .ok (.ldc 130, 2) := by decide +kernel
theorem dX5_now_11 : decode cX5_now 11 = .ok (.aload_n 0, 1) := by decide +kernel
theorem dX5_now_12 : decode cX5_now 12 = .ok (.bipush (-2), 2) := by decide +kernel
theorem dX5_now_14 : decode cX5_now 14 = .ok (.invokevirtual 41, 3) := by decide +kernel
theorem dX5_now_17 : decode cX5_now 17 = .ok (.isub, 1) := by decide +kernel
theorem dX5_now_18 : decode cX5_now 18 = .ok (.ireturn, 1) := by decide +kernel
theorem dX5_now_19 : decode cX5_now 19 = .ok (.iload_n 1, 1) := by decide +kernel
theorem dX5_now_20 : decode cX5_now 20 = .ok (.bipush 11, 2) := by decide +kernel
theorem dX5_now_22 : decode cX5_now 22 = .ok (.if_icmp .ge 15, 3) := by decide +kernel
theorem dX5_now_25 : decode cX5_now 25 = .ok (.aload_n 0, 1) := by decide +kernel
theorem dX5_now_26 : decode cX5_now 26 = .ok (.getfield 13, 3) := by decide +kernel
theorem dX5_now_29 : decode cX5_now 29 = .ok (.bipush 16, 2) := by decide +kernel
theorem dX5_now_31 : decode cX5_now 31 = .ok (.iload_n 1, 1) := by decide +kernel
theorem dX5_now_32 : decode cX5_now 32 = .ok (.iadd, 1) := by decide +kernel
theorem dX5_now_33 : decode cX5_now 33 = .ok (.iaload, 1) := by decide +kernel
theorem dX5_now_34 : decode cX5_now 34 = .ok (.goto 26, 3) := by decide +kernel
theorem dX5_now_37 : decode cX5_now 37 = .ok (.iload_n 1, 1) := by decide +kernel
theorem dX5_now_38 : decode cX5_now 38 = .ok (.bipush 11, 2) := by decide +kernel
theorem dX5_now_40 : decode cX5_now 40 = .ok (.if_icmp .ne 13, 3) := by decide +kernel
theorem dX5_now_43 : decode cX5_now 43 = .ok (.aload_n 0, 1) := by decide +kernel
theorem dX5_now_44 : decode cX5_now 44 = .ok (.getfield 13, 3) := by decide +kernel
theorem dX5_now_47 : decode cX5_now 47 = .ok (.bipush 15, 2) := by decide +kernel
theorem dX5_now_49 : decode cX5_now 49 = .ok (.iaload, 1) := by decide +kernel
theorem dX5_now_50 : decode cX5_now 50 = .ok (.goto 10, 3) := by decide +kernel
theorem dX5_now_53 : decode cX5_now 53 = .ok (.aload_n 0, 1) := by decide +kernel
theorem dX5_now_54 : decode cX5_now 54 = .ok (.getfield 13, 3) := by decide +kernel
theorem dX5_now_57 : decode cX5_now 57 = .ok (.bipush 28, 2) := by decide +kernel
theorem dX5_now_59 : decode cX5_now 59 = .ok (.iaload, 1) := by decide +kernel
theorem dX5_now_60 : decode cX5_now 60 = .ok (.ireturn, 1) := by decide +kernel
set_option maxRecDepth 20000 in
theorem ggX5_air_X5_isIn : GoodIn wsX5_air wsX5_isIn := goodIn_r _ [5] (by decide +kernel) (by decide +kernel)
set_option maxRecDepth 20000 in
theorem gX5_air_X5_isIn : GoodIn wsX5_air (va_wsS RX5 89 yX5_isIn wsX5_isIn) := goodIn_app (goodIn_of _ (by decide +kernel)) ggX5_air_X5_isIn
set_option maxRecDepth 20000 in
theorem ggX5_air_X5_airOf : GoodIn wsX5_air wsX5_airOf := goodIn_r _ [8] (by decide +kernel) (by decide +kernel)
set_option maxRecDepth 20000 in
theorem gX5_air_X5_airOf : GoodIn wsX5_air (va_wsS RX5 99 yX5_airOf wsX5_airOf) := goodIn_app (goodIn_of _ (by decide +kernel)) ggX5_air_X5_airOf
set_option maxRecDepth 20000 in
theorem ggX5_air_X5_refuse : GoodIn wsX5_air wsX5_refuse := goodIn_r _ [12, 13, 14, 15, 16, 17, 18, 19, 20, 21, 22, 23, 24, 25, 26, 27] (by decide +kernel) (by decide +kernel)
set_option maxRecDepth 20000 in
theorem gX5_air_X5_refuse : GoodIn wsX5_air (wsV RX5 41 RX5 yX5_refuse wsX5_refuse) := goodIn_app (goodIn_of _ (by decide +kernel)) ggX5_air_X5_refuse
theorem dX5_air_0 : decode cX5_air 0 = .ok (.iload_n 1, 1) := by decide +kernel
theorem dX5_air_1 : decode cX5_air 1 = .ok (.iconst 4, 1) := by decide +kernel
theorem dX5_air_2 : decode cX5_air 2 = .ok (.invokestatic 89, 3) := by decide +kernel
theorem dX5_air_5 : decode cX5_air 5 = .ok (.ifCond .eq 17, 3) := by decide +kernel
theorem dX5_air_8 : decode cX5_air 8 = .ok (.aload_n 0, 1) := by decide +kernel
theorem dX5_air_9 : decode cX5_air 9 = .ok (.getfield 13, 3) := by decide +kernel
theorem dX5_air_12 : decode cX5_air 12 = .ok (.bipush 8, 2) := by decide +kernel
theorem dX5_air_14 : decode cX5_air 14 = .ok (.iload_n 1, 1) := by decide +kernel
theorem dX5_air_15 : decode cX5_air 15 = .ok (.iadd, 1) := by decide +kernel
theorem dX5_air_16 : decode cX5_air 16 = .ok (.invokestatic 99, 3) := by decide +kernel
theorem dX5_air_19 : decode cX5_air 19 = .ok (.goto 9, 3) := by decide +kernel
theorem dX5_air_22 : decode cX5_air 22 = .ok (.aload_n 0, 1) := by decide +kernel
theorem dX5_air_23 : decode cX5_air 23 = .ok (.bipush (-2), 2) := by decide +kernel
theorem dX5_air_25 : decode cX5_air 25 = .ok (.invokevirtual 41, 3) := by decide +kernel
theorem dX5_air_28 : decode cX5_air 28 = .ok (.ireturn, 1) := by decide +kernel
set_option maxRecDepth 20000 in
theorem ggX5_full_X5_fullOf : GoodIn wsX5_full wsX5_fullOf := goodIn_r _ [5] (by decide +kernel) (by decide +kernel)
set_option maxRecDepth 20000 in
theorem gX5_full_X5_fullOf : GoodIn wsX5_full (va_wsS RX5 103 yX5_fullOf wsX5_fullOf) := goodIn_app (goodIn_of _ (by decide +kernel)) ggX5_full_X5_fullOf
theorem dX5_full_0 : decode cX5_full 0 = .ok (.aload_n 0, 1) := by decide +kernel
theorem dX5_full_1 : decode cX5_full 1 = .ok (.getfield 13, 3) := by decide +kernel
theorem dX5_full_4 : decode cX5_full 4 = .ok (.invokestatic 103, 3) := by decide +kernel
theorem dX5_full_7 : decode cX5_full 7 = .ok (.ireturn, 1) := by decide +kernel
set_option maxRecDepth 20000 in
theorem ggX5_begins_X5_copies : GoodIn wsX5_begins wsX5_copies := goodIn_r _ [6] (by decide +kernel) (by decide +kernel)
set_option maxRecDepth 20000 in
theorem gX5_begins_X5_copies : GoodIn wsX5_begins (va_wsS RX5 72 yX5_copies wsX5_copies) := goodIn_app (goodIn_of _ (by decide +kernel)) ggX5_begins_X5_copies
theorem dX5_begins_0 : decode cX5_begins 0 = .ok (.aload_n 0, 1) := by decide +kernel
theorem dX5_begins_1 : decode cX5_begins 1 = .ok (.getfield 13, 3) := by decide +kernel
theorem dX5_begins_4 : decode cX5_begins 4 = .ok (.aload_n 0, 1) := by decide +kernel
theorem dX5_begins_5 : decode cX5_begins 5 = .ok (.getfield 19, 3) := by decide +kernel
theorem dX5_begins_8 : decode cX5_begins 8 = .ok (.invokestatic 72, 3) := by decide +kernel
theorem dX5_begins_11 : decode cX5_begins 11 = .ok (.return_, 1) := by decide +kernel
set_option maxRecDepth 20000 in
theorem ggX5_freshens_X5_copies : GoodIn wsX5_freshens wsX5_copies := goodIn_r _ [4] (by decide +kernel) (by decide +kernel)
set_option maxRecDepth 20000 in
theorem gX5_freshens_X5_copies : GoodIn wsX5_freshens (va_wsS RX5 72 yX5_copies wsX5_copies) := goodIn_app (goodIn_of _ (by decide +kernel)) ggX5_freshens_X5_copies
set_option maxRecDepth 20000 in
theorem ggX5_freshens_X5_lesser : GoodIn wsX5_freshens wsX5_lesser := goodIn_r _ [7] (by decide +kernel) (by decide +kernel)
set_option maxRecDepth 20000 in
theorem gX5_freshens_X5_lesser : GoodIn wsX5_freshens (va_wsS RX5 96 yX5_lesser wsX5_lesser) := goodIn_app (goodIn_of _ (by decide +kernel)) ggX5_freshens_X5_lesser
theorem dX5_freshens_0 : decode cX5_freshens 0 = .ok (.aload_n 0, 1) := by decide +kernel
theorem dX5_freshens_1 : decode cX5_freshens 1 = .ok (.aload_n 1, 1) := by decide +kernel
theorem dX5_freshens_2 : decode cX5_freshens 2 = .ok (.invokestatic 72, 3) := by decide +kernel
theorem dX5_freshens_5 : decode cX5_freshens 5 = .ok (.bipush 16, 2) := by decide +kernel
theorem dX5_freshens_7 : decode cX5_freshens 7 = .ok (.istore_n 2, 1) := by decide +kernel
theorem dX5_freshens_8 : decode cX5_freshens 8 = .ok (.iload_n 2, 1) := by decide +kernel
theorem dX5_freshens_9 : decode cX5_freshens 9 = .ok (.bipush 28, 2) := by decide +kernel
theorem dX5_freshens_11 : decode cX5_freshens 11 = .ok (.if_icmp .gt 13, 3) := by decide +kernel
theorem dX5_freshens_14 : decode cX5_freshens 14 = .ok (.aload_n 1, 1) := by decide +kernel
theorem dX5_freshens_15 : decode cX5_freshens 15 = .ok (.iload_n 2, 1) := by decide +kernel
theorem dX5_freshens_16 : decode cX5_freshens 16 = .ok (.iconst 0, 1) := by decide +kernel
theorem dX5_freshens_17 : decode cX5_freshens 17 = .ok (.iastore, 1) := by decide +kernel
theorem dX5_freshens_18 : decode cX5_freshens 18 = .ok (.iinc 2 1, 3) := by decide +kernel
theorem dX5_freshens_21 : decode cX5_freshens 21 = .ok (.goto (-13), 3) := by decide +kernel
theorem dX5_freshens_24 : decode cX5_freshens 24 = .ok (.aload_n 1, 1) := by decide +kernel
theorem dX5_freshens_25 : decode cX5_freshens 25 = .ok (.bipush 16, 2) := by decide +kernel
theorem dX5_freshens_27 : decode cX5_freshens 27 = .ok (.aload_n 0, 1) := by decide +kernel
theorem dX5_freshens_28 : decode cX5_freshens 28 = .ok (.bipush 11, 2) := by decide +kernel
theorem dX5_freshens_30 : decode cX5_freshens 30 = .ok (.iaload, 1) := by decide +kernel
theorem dX5_freshens_31 : decode cX5_freshens 31 = .ok (.iastore, 1) := by decide +kernel
theorem dX5_freshens_32 : decode cX5_freshens 32 = .ok (.aload_n 1, 1) := by decide +kernel
theorem dX5_freshens_33 : decode cX5_freshens 33 = .ok (.bipush 17, 2) := by decide +kernel
theorem dX5_freshens_35 : decode cX5_freshens 35 = .ok (.aload_n 0, 1) := by decide +kernel
theorem dX5_freshens_36 : decode cX5_freshens 36 = .ok (.bipush 11, 2) := by decide +kernel
theorem dX5_freshens_38 : decode cX5_freshens 38 = .ok (.iaload, 1) := by decide +kernel
theorem dX5_freshens_39 : decode cX5_freshens 39 = .ok (.iastore, 1) := by decide +kernel
theorem dX5_freshens_40 : decode cX5_freshens 40 = .ok (.aload_n 1, 1) := by decide +kernel
theorem dX5_freshens_41 : decode cX5_freshens 41 = .ok (.bipush 18, 2) := by decide +kernel
theorem dX5_freshens_43 : decode cX5_freshens 43 = .ok (.sipush 500, 3) := by decide +kernel
theorem dX5_freshens_46 : decode cX5_freshens 46 = .ok (.bipush 100, 2) := by decide +kernel
theorem dX5_freshens_48 : decode cX5_freshens 48 = .ok (.aload_n 0, 1) := by decide +kernel
theorem dX5_freshens_49 : decode cX5_freshens 49 = .ok (.iconst 0, 1) := by decide +kernel
theorem dX5_freshens_50 : decode cX5_freshens 50 = .ok (.iaload, 1) := by decide +kernel
theorem dX5_freshens_51 : decode cX5_freshens 51 = .ok (.imul, 1) := by decide +kernel
theorem dX5_freshens_52 : decode cX5_freshens 52 = .ok (.invokestatic 96, 3) := by decide +kernel
theorem dX5_freshens_55 : decode cX5_freshens 55 = .ok (.iastore, 1) := by decide +kernel
theorem dX5_freshens_56 : decode cX5_freshens 56 = .ok (.aload_n 1, 1) := by decide +kernel
theorem dX5_freshens_57 : decode cX5_freshens 57 = .ok (.bipush 89, 2) := by decide +kernel
theorem dX5_freshens_59 : decode cX5_freshens 59 = .ok (.iconst 0, 1) := by decide +kernel
theorem dX5_freshens_60 : decode cX5_freshens 60 = .ok (.iastore, 1) := by decide +kernel
theorem dX5_freshens_61 : decode cX5_freshens 61 = .ok (.aload_n 1, 1) := by decide +kernel
theorem dX5_freshens_62 : decode cX5_freshens 62 = .ok (.sipush 150, 3) := by decide +kernel
theorem dX5_freshens_65 : decode cX5_freshens 65 = .ok (.iconst 0, 1) := by decide +kernel
theorem dX5_freshens_66 : decode cX5_freshens 66 = .ok (.iastore, 1) := by decide +kernel
theorem dX5_freshens_67 : decode cX5_freshens 67 = .ok (.return_, 1) := by decide +kernel
set_option maxRecDepth 20000 in
theorem ggX5_fresh_X5_freshens : GoodIn wsX5_fresh wsX5_freshens := goodIn_r _ [6, 7, 8, 5, 9, 10, 11, 12] (by decide +kernel) (by decide +kernel)
set_option maxRecDepth 20000 in
theorem gX5_fresh_X5_freshens : GoodIn wsX5_fresh (va_wsS RX5 131 yX5_freshens wsX5_freshens) := goodIn_app (goodIn_of _ (by decide +kernel)) ggX5_fresh_X5_freshens
theorem dX5_fresh_0 : decode cX5_fresh 0 = .ok (.aload_n 0, 1) := by decide +kernel
theorem dX5_fresh_1 : decode cX5_fresh 1 = .ok (.getfield 13, 3) := by decide +kernel
theorem dX5_fresh_4 : decode cX5_fresh 4 = .ok (.aload_n 0, 1) := by decide +kernel
theorem dX5_fresh_5 : decode cX5_fresh 5 = .ok (.getfield 19, 3) := by decide +kernel
theorem dX5_fresh_8 : decode cX5_fresh 8 = .ok (.invokestatic 131, 3) := by decide +kernel
theorem dX5_fresh_11 : decode cX5_fresh 11 = .ok (.return_, 1) := by decide +kernel
set_option maxRecDepth 20000 in
theorem ggX5_wrongRun_X5_within : GoodIn wsX5_wrongRun wsX5_within := goodIn_r _ [4] (by decide +kernel) (by decide +kernel)
set_option maxRecDepth 20000 in
theorem gX5_wrongRun_X5_within : GoodIn wsX5_wrongRun (va_wsS RX5 82 yX5_within wsX5_within) := goodIn_app (goodIn_of _ (by decide +kernel)) ggX5_wrongRun_X5_within
theorem dX5_wrongRun_0 : decode cX5_wrongRun 0 = .ok (.iload_n 1, 1) := by decide +kernel
theorem dX5_wrongRun_1 : decode cX5_wrongRun 1 = .ok (.iconst 1, 1) := by decide +kernel
theorem dX5_wrongRun_2 : decode cX5_wrongRun 2 = .ok (.sipush 3000, 3) := by decide +kernel
theorem dX5_wrongRun_5 : decode cX5_wrongRun 5 = .ok (.invokestatic 82, 3) := by decide +kernel
theorem dX5_wrongRun_8 : decode cX5_wrongRun 8 = .ok (.ireturn, 1) := by decide +kernel
set_option maxRecDepth 20000 in
theorem ggX5_often_X5_wrongRun : GoodIn wsX5_often wsX5_wrongRun := goodIn_r _ [7, 8, 9, 6, 10] (by decide +kernel) (by decide +kernel)
set_option maxRecDepth 20000 in
theorem gX5_often_X5_wrongRun : GoodIn wsX5_often (wsV RX5 134 RX5 yX5_wrongRun wsX5_wrongRun) := goodIn_app (goodIn_of _ (by decide +kernel)) ggX5_often_X5_wrongRun
set_option maxRecDepth 20000 in
theorem ggX5_often_X5_refuse : GoodIn wsX5_often wsX5_refuse := goodIn_r _ [14, 15, 57, 58, 59, 60, 61, 62, 63, 64, 65, 66, 67, 68, 69, 70] (by decide +kernel) (by decide +kernel)
set_option maxRecDepth 20000 in
theorem gX5_often_X5_refuse : GoodIn wsX5_often (wsV RX5 41 RX5 yX5_refuse wsX5_refuse) := goodIn_app (goodIn_of _ (by decide +kernel)) ggX5_often_X5_refuse
set_option maxRecDepth 20000 in
theorem ggX5_often_X5_begins : GoodIn wsX5_often wsX5_begins := goodIn_r _ [19, 2, 1, 20, 21, 6, 22, 57, 58, 59, 60, 61, 62, 63, 64, 65, 66, 67, 68, 69, 70] (by decide +kernel) (by decide +kernel)
set_option maxRecDepth 20000 in
theorem gX5_often_X5_begins : GoodIn wsX5_often (wsV RX5 137 RX5 yX5_begins wsX5_begins) := goodIn_app (goodIn_of _ (by decide +kernel)) ggX5_often_X5_begins
set_option maxRecDepth 20000 in
theorem ggX5_often_X5_goesOn : GoodIn wsX5_often wsX5_goesOn := goodIn_r _ [26, 27, 28, 29, 6, 30, 31, 32, 33, 34, 35, 36, 37, 38, 39, 40, 41, 42, 43, 44, 45, 46, 47, 48, 49, 50, 51, 52, 53, 54, 55, 56, 57, 58, 59, 60, 61, 62, 63, 64, 65, 66, 67, 68, 69, 70] (by decide +kernel) (by decide +kernel)
set_option maxRecDepth 20000 in
theorem gX5_often_X5_goesOn : GoodIn wsX5_often (wsV RX5 127 RX5 yX5_goesOn wsX5_goesOn) := goodIn_app (goodIn_of _ (by decide +kernel)) ggX5_often_X5_goesOn
theorem dX5_often_0 : decode cX5_often 0 = .ok (.aload_n 0, 1) := by decide +kernel
theorem dX5_often_1 : decode cX5_often 1 = .ok (.iload_n 1, 1) := by decide +kernel
theorem dX5_often_2 : decode cX5_often 2 = .ok (.invokevirtual 134, 3) := by decide +kernel
theorem dX5_often_5 : decode cX5_often 5 = .ok (.istore_n 2, 1) := by decide +kernel
theorem dX5_often_6 : decode cX5_often 6 = .ok (.iload_n 2, 1) := by decide +kernel
theorem dX5_often_7 : decode cX5_often 7 = .ok (.ifCond .eq 9, 3) := by decide +kernel
theorem dX5_often_10 : decode cX5_often 10 = .ok (.aload_n 0, 1) := by decide +kernel
theorem dX5_often_11 : decode cX5_often 11 = .ok (.iload_n 2, 1) := by decide +kernel
theorem dX5_often_12 : decode cX5_often 12 = .ok (.invokevirtual 41, 3) := by decide +kernel
theorem dX5_often_15 : decode cX5_often 15 = .ok (.ireturn, 1) := by decide +kernel
theorem dX5_often_16 : decode cX5_often 16 = .ok (.aload_n 0, 1) := by decide +kernel
theorem dX5_often_17 : decode cX5_often 17 = .ok (.invokevirtual 137, 3) := by decide +kernel
theorem dX5_often_20 : decode cX5_often 20 = .ok (.aload_n 0, 1) := by decide +kernel
theorem dX5_often_21 : decode cX5_often 21 = .ok (.aload_n 0, 1) := by decide +kernel
theorem dX5_often_22 : decode cX5_often 22 = .ok (.getfield 19, 3) := by decide +kernel
theorem dX5_often_25 : decode cX5_often 25 = .ok (.iload_n 1, 1) := by decide +kernel
theorem dX5_often_26 : decode cX5_often 26 = .ok (.invokevirtual 127, 3) := by decide +kernel
theorem dX5_often_29 : decode cX5_often 29 = .ok (.aload_n 0, 1) := by decide +kernel
theorem dX5_often_30 : decode cX5_often 30 = .ok (.getfield 13, 3) := by decide +kernel
theorem dX5_often_33 : decode cX5_often 33 = .ok (.bipush 23, 2) := by decide +kernel
theorem dX5_often_35 : decode cX5_often 35 = .ok (.iaload, 1) := by decide +kernel
theorem dX5_often_36 : decode cX5_often 36 = .ok (.isub, 1) := by decide +kernel
theorem dX5_often_37 : decode cX5_often 37 = .ok (.ireturn, 1) := by decide +kernel
set_option maxRecDepth 20000 in
theorem ggX5_freshBy_X5_fresh : GoodIn wsX5_freshBy wsX5_fresh := goodIn_r _ [7, 1, 2, 8, 9, 6, 10, 11, 12, 13, 14, 15, 16, 48, 49, 50, 51, 52, 53, 54, 55, 56, 57, 58, 59, 60, 61] (by decide +kernel) (by decide +kernel)
set_option maxRecDepth 20000 in
theorem gX5_freshBy_X5_fresh : GoodIn wsX5_freshBy (wsV RX5 140 RX5 yX5_fresh wsX5_fresh) := goodIn_app (goodIn_of _ (by decide +kernel)) ggX5_freshBy_X5_fresh
set_option maxRecDepth 20000 in
theorem ggX5_freshBy_X5_goesOn : GoodIn wsX5_freshBy wsX5_goesOn := goodIn_r _ [20, 21, 22, 23, 6, 24, 25, 26, 27, 28, 29, 30, 31, 32, 14, 15, 16, 33, 34, 35, 36, 37, 38, 39, 40, 41, 42, 43, 44, 45, 46, 47, 48, 49, 50, 51, 52, 53, 54, 55, 56, 57, 58, 59, 60, 61] (by decide +kernel) (by decide +kernel)
set_option maxRecDepth 20000 in
theorem gX5_freshBy_X5_goesOn : GoodIn wsX5_freshBy (wsV RX5 127 RX5 yX5_goesOn wsX5_goesOn) := goodIn_app (goodIn_of _ (by decide +kernel)) ggX5_freshBy_X5_goesOn
theorem dX5_freshBy_0 : decode cX5_freshBy 0 = .ok (.aload_n 0, 1) := by decide +kernel
theorem dX5_freshBy_1 : decode cX5_freshBy 1 = .ok (.getfield 13, 3) := by decide +kernel
theorem dX5_freshBy_4 : decode cX5_freshBy 4 = .ok (.iload_n 1, 1) := by decide +kernel
theorem dX5_freshBy_5 : decode cX5_freshBy 5 = .ok (.iaload, 1) := by decide +kernel
theorem dX5_freshBy_6 : decode cX5_freshBy 6 = .ok (.istore 4, 2) := by decide +kernel
theorem dX5_freshBy_8 : decode cX5_freshBy 8 = .ok (.aload_n 0, 1) := by decide +kernel
theorem dX5_freshBy_9 : decode cX5_freshBy 9 = .ok (.getfield 13, 3) := by decide +kernel
theorem dX5_freshBy_12 : decode cX5_freshBy 12 = .ok (.iload_n 1, 1) := by decide +kernel
theorem dX5_freshBy_13 : decode cX5_freshBy 13 = .ok (.iload_n 2, 1) := by decide +kernel
theorem dX5_freshBy_14 : decode cX5_freshBy 14 = .ok (.iastore, 1) := by decide +kernel
theorem dX5_freshBy_15 : decode cX5_freshBy 15 = .ok (.aload_n 0, 1) := by decide +kernel
theorem dX5_freshBy_16 : decode cX5_freshBy 16 = .ok (.invokevirtual 140, 3) := by decide +kernel
theorem dX5_freshBy_19 : decode cX5_freshBy 19 = .ok (.aload_n 0, 1) := by decide +kernel
theorem dX5_freshBy_20 : decode cX5_freshBy 20 = .ok (.getfield 13, 3) := by decide +kernel
theorem dX5_freshBy_23 : decode cX5_freshBy 23 = .ok (.iload_n 1, 1) := by decide +kernel
theorem dX5_freshBy_24 : decode cX5_freshBy 24 = .ok (.iload 4, 2) := by decide +kernel
theorem dX5_freshBy_26 : decode cX5_freshBy 26 = .ok (.iastore, 1) := by decide +kernel
theorem dX5_freshBy_27 : decode cX5_freshBy 27 = .ok (.aload_n 0, 1) := by decide +kernel
theorem dX5_freshBy_28 : decode cX5_freshBy 28 = .ok (.aload_n 0, 1) := by decide +kernel
theorem dX5_freshBy_29 : decode cX5_freshBy 29 = .ok (.getfield 19, 3) := by decide +kernel
theorem dX5_freshBy_32 : decode cX5_freshBy 32 = .ok (.iload_n 3, 1) := by decide +kernel
theorem dX5_freshBy_33 : decode cX5_freshBy 33 = .ok (.invokevirtual 127, 3) := by decide +kernel
theorem dX5_freshBy_36 : decode cX5_freshBy 36 = .ok (.ireturn, 1) := by decide +kernel
set_option maxRecDepth 20000 in
theorem ggX5_law_X5_refuse : GoodIn wsX5_law wsX5_refuse := goodIn_r _ [5, 6, 57, 58, 59, 60, 61, 62, 63, 64, 65, 66, 67, 68, 69, 70] (by decide +kernel) (by decide +kernel)
set_option maxRecDepth 20000 in
theorem gX5_law_X5_refuse : GoodIn wsX5_law (wsV RX5 41 RX5 yX5_refuse wsX5_refuse) := goodIn_app (goodIn_of _ (by decide +kernel)) ggX5_law_X5_refuse
set_option maxRecDepth 20000 in
theorem ggX5_law_X5_freshBy : GoodIn wsX5_law wsX5_freshBy := goodIn_r _ [10, 11, 12, 13, 14, 15, 4, 16, 17, 18, 19, 20, 21, 22, 23, 24, 25, 26, 27, 28, 29, 30, 31, 32, 33, 34, 35, 36, 37, 38, 39, 40, 41, 42, 43, 44, 45, 46, 47, 48, 49, 50, 51, 52, 53, 54, 55, 56, 57, 58, 59, 60, 61, 62, 63, 64, 65, 66, 67, 68, 69, 70] (by decide +kernel) (by decide +kernel)
set_option maxRecDepth 20000 in
theorem gX5_law_X5_freshBy : GoodIn wsX5_law (wsV RX5 143 RX5 yX5_freshBy wsX5_freshBy) := goodIn_app (goodIn_of _ (by decide +kernel)) ggX5_law_X5_freshBy
theorem dX5_law_0 : decode cX5_law 0 = .ok (.iload_n 1, 1) := by decide +kernel
theorem dX5_law_1 : decode cX5_law 1 = .ok (.ifCond .lt 8, 3) := by decide +kernel
theorem dX5_law_4 : decode cX5_law 4 = .ok (.iload_n 2, 1) := by decide +kernel
theorem dX5_law_5 : decode cX5_law 5 = .ok (.iconst 1, 1) := by decide +kernel
theorem dX5_law_6 : decode cX5_law 6 = .ok (.if_icmp .ge 8, 3) := by decide +kernel
theorem dX5_law_9 : decode cX5_law 9 = .ok (.bipush (-4), 2) := by decide +kernel
theorem dX5_law_11 : decode cX5_law 11 = .ok (.goto 22, 3) := by decide +kernel
theorem dX5_law_14 : decode cX5_law 14 = .ok (.iload_n 1, 1) := by decide +kernel
theorem dX5_law_15 : decode cX5_law 15 = .ok (.bipush 99, 2) := by decide +kernel
theorem dX5_law_17 : decode cX5_law 17 = .ok (.if_icmp .gt 10, 3) := by decide +kernel
theorem dX5_law_20 : decode cX5_law 20 = .ok (.iload_n 2, 1) := by decide +kernel
theorem dX5_law_21 : decode cX5_law 21 = .ok (.sipush 3000, 3) := by decide +kernel
theorem dX5_law_24 : decode cX5_law 24 = .ok (.if_icmp .le 8, 3) := by decide +kernel
theorem dX5_law_27 : decode cX5_law 27 = .ok (.bipush (-6), 2) := by decide +kernel
theorem dX5_law_29 : decode cX5_law 29 = .ok (.goto 4, 3) := by decide +kernel
theorem dX5_law_32 : decode cX5_law 32 = .ok (.iconst 0, 1) := by decide +kernel
theorem dX5_law_33 : decode cX5_law 33 = .ok (.istore_n 3, 1) := by decide +kernel
theorem dX5_law_34 : decode cX5_law 34 = .ok (.iload_n 3, 1) := by decide +kernel
theorem dX5_law_35 : decode cX5_law 35 = .ok (.ifCond .eq 11, 3) := by decide +kernel
theorem dX5_law_38 : decode cX5_law 38 = .ok (.aload_n 0, 1) := by decide +kernel
theorem dX5_law_39 : decode cX5_law 39 = .ok (.iload_n 3, 1) := by decide +kernel
theorem dX5_law_40 : decode cX5_law 40 = .ok (.invokevirtual 41, 3) := by decide +kernel
theorem dX5_law_43 : decode cX5_law 43 = .ok (.goto 11, 3) := by decide +kernel
theorem dX5_law_46 : decode cX5_law 46 = .ok (.aload_n 0, 1) := by decide +kernel
theorem dX5_law_47 : decode cX5_law 47 = .ok (.bipush 8, 2) := by decide +kernel
theorem dX5_law_49 : decode cX5_law 49 = .ok (.iload_n 1, 1) := by decide +kernel
theorem dX5_law_50 : decode cX5_law 50 = .ok (.iload_n 2, 1) := by decide +kernel
theorem dX5_law_51 : decode cX5_law 51 = .ok (.invokevirtual 143, 3) := by decide +kernel
theorem dX5_law_54 : decode cX5_law 54 = .ok (.ireturn, 1) := by decide +kernel
set_option maxRecDepth 20000 in
theorem ggX5_stops_X5_wrongRun : GoodIn wsX5_stops wsX5_wrongRun := goodIn_r _ [5, 6, 7, 4, 8] (by decide +kernel) (by decide +kernel)
set_option maxRecDepth 20000 in
theorem gX5_stops_X5_wrongRun : GoodIn wsX5_stops (wsV RX5 134 RX5 yX5_wrongRun wsX5_wrongRun) := goodIn_app (goodIn_of _ (by decide +kernel)) ggX5_stops_X5_wrongRun
set_option maxRecDepth 20000 in
theorem ggX5_stops_X5_refuse : GoodIn wsX5_stops wsX5_refuse := goodIn_r _ [12, 13, 64, 65, 66, 67, 68, 69, 70, 71, 72, 73, 74, 75, 76, 77] (by decide +kernel) (by decide +kernel)
set_option maxRecDepth 20000 in
theorem gX5_stops_X5_refuse : GoodIn wsX5_stops (wsV RX5 41 RX5 yX5_refuse wsX5_refuse) := goodIn_app (goodIn_of _ (by decide +kernel)) ggX5_stops_X5_refuse
set_option maxRecDepth 20000 in
theorem ggX5_stops_X5_freshBy : GoodIn wsX5_stops wsX5_freshBy := goodIn_r _ [17, 18, 19, 20, 21, 22, 4, 23, 24, 25, 26, 27, 28, 29, 30, 31, 32, 33, 34, 35, 36, 37, 38, 39, 40, 41, 42, 43, 44, 45, 46, 47, 48, 49, 50, 51, 52, 53, 54, 55, 56, 57, 58, 59, 60, 61, 62, 63, 64, 65, 66, 67, 68, 69, 70, 71, 72, 73, 74, 75, 76, 77] (by decide +kernel) (by decide +kernel)
set_option maxRecDepth 20000 in
theorem gX5_stops_X5_freshBy : GoodIn wsX5_stops (wsV RX5 143 RX5 yX5_freshBy wsX5_freshBy) := goodIn_app (goodIn_of _ (by decide +kernel)) ggX5_stops_X5_freshBy
theorem dX5_stops_0 : decode cX5_stops 0 = .ok (.aload_n 0, 1) := by decide +kernel
theorem dX5_stops_1 : decode cX5_stops 1 = .ok (.iload_n 1, 1) := by decide +kernel
theorem dX5_stops_2 : decode cX5_stops 2 = .ok (.invokevirtual 134, 3) := by decide +kernel
theorem dX5_stops_5 : decode cX5_stops 5 = .ok (.istore_n 2, 1) := by decide +kernel
theorem dX5_stops_6 : decode cX5_stops 6 = .ok (.iload_n 2, 1) := by decide +kernel
theorem dX5_stops_7 : decode cX5_stops 7 = .ok (.ifCond .eq 9, 3) := by decide +kernel
theorem dX5_stops_10 : decode cX5_stops 10 = .ok (.aload_n 0, 1) := by decide +kernel
theorem dX5_stops_11 : decode cX5_stops 11 = .ok (.iload_n 2, 1) := by decide +kernel
theorem dX5_stops_12 : decode cX5_stops 12 = .ok (.invokevirtual 41, 3) := by decide +kernel
theorem dX5_stops_15 : decode cX5_stops 15 = .ok (.ireturn, 1) := by decide +kernel
theorem dX5_stops_16 : decode cX5_stops 16 = .ok (.iconst 0, 1) := by decide +kernel
theorem dX5_stops_17 : decode cX5_stops 17 = .ok (.istore_n 3, 1) := by decide +kernel
theorem dX5_stops_18 : decode cX5_stops 18 = .ok (.iload_n 3, 1) := by decide +kernel
theorem dX5_stops_19 : decode cX5_stops 19 = .ok (.bipush 100, 2) := by decide +kernel
theorem dX5_stops_21 : decode cX5_stops 21 = .ok (.if_icmp .ge 22, 3) := by decide +kernel
theorem dX5_stops_24 : decode cX5_stops 24 = .ok (.aload_n 0, 1) := by decide +kernel
theorem dX5_stops_25 : decode cX5_stops 25 = .ok (.bipush 8, 2) := by decide +kernel
theorem dX5_stops_27 : decode cX5_stops 27 = .ok (.iload_n 3, 1) := by decide +kernel
theorem dX5_stops_28 : decode cX5_stops 28 = .ok (.iload_n 1, 1) := by decide +kernel
theorem dX5_stops_29 : decode cX5_stops 29 = .ok (.invokevirtual 143, 3) := by decide +kernel
theorem dX5_stops_32 : decode cX5_stops 32 = .ok (.ifCond .le 5, 3) := by decide +kernel
theorem dX5_stops_35 : decode cX5_stops 35 = .ok (.iload_n 3, 1) := by decide +kernel
theorem dX5_stops_36 : decode cX5_stops 36 = .ok (.ireturn, 1) := by decide +kernel
theorem dX5_stops_37 : decode cX5_stops 37 = .ok (.iinc 3 1, 3) := by decide +kernel
theorem dX5_stops_40 : decode cX5_stops 40 = .ok (.goto (-22), 3) := by decide +kernel
theorem dX5_stops_43 : decode cX5_stops 43 = .ok (.bipush (-9), 2) := by decide +kernel
theorem dX5_stops_45 : decode cX5_stops 45 = .ok (.ireturn, 1) := by decide +kernel
set_option maxRecDepth 20000 in
theorem ggX5_pegs_X5_isIn : GoodIn wsX5_pegs wsX5_isIn := goodIn_r _ [4] (by decide +kernel) (by decide +kernel)
set_option maxRecDepth 20000 in
theorem gX5_pegs_X5_isIn : GoodIn wsX5_pegs (va_wsS RX5 89 yX5_isIn wsX5_isIn) := goodIn_app (goodIn_of _ (by decide +kernel)) ggX5_pegs_X5_isIn
set_option maxRecDepth 20000 in
theorem ggX5_pegs_X5_within : GoodIn wsX5_pegs wsX5_within := goodIn_r _ [7] (by decide +kernel) (by decide +kernel)
set_option maxRecDepth 20000 in
theorem gX5_pegs_X5_within : GoodIn wsX5_pegs (va_wsS RX5 82 yX5_within wsX5_within) := goodIn_app (goodIn_of _ (by decide +kernel)) ggX5_pegs_X5_within
set_option maxRecDepth 20000 in
theorem ggX5_pegs_X5_refuse : GoodIn wsX5_pegs wsX5_refuse := goodIn_r _ [11, 12, 63, 64, 65, 66, 67, 68, 69, 70, 71, 72, 73, 74, 75, 76] (by decide +kernel) (by decide +kernel)
set_option maxRecDepth 20000 in
theorem gX5_pegs_X5_refuse : GoodIn wsX5_pegs (wsV RX5 41 RX5 yX5_refuse wsX5_refuse) := goodIn_app (goodIn_of _ (by decide +kernel)) ggX5_pegs_X5_refuse
set_option maxRecDepth 20000 in
theorem ggX5_pegs_X5_freshBy : GoodIn wsX5_pegs wsX5_freshBy := goodIn_r _ [16, 17, 18, 19, 20, 21, 3, 22, 23, 24, 25, 26, 27, 28, 29, 30, 31, 32, 33, 34, 35, 36, 37, 38, 39, 40, 41, 42, 43, 44, 45, 46, 47, 48, 49, 50, 51, 52, 53, 54, 55, 56, 57, 58, 59, 60, 61, 62, 63, 64, 65, 66, 67, 68, 69, 70, 71, 72, 73, 74, 75, 76] (by decide +kernel) (by decide +kernel)
set_option maxRecDepth 20000 in
theorem gX5_pegs_X5_freshBy : GoodIn wsX5_pegs (wsV RX5 143 RX5 yX5_freshBy wsX5_freshBy) := goodIn_app (goodIn_of _ (by decide +kernel)) ggX5_pegs_X5_freshBy
theorem dX5_pegs_0 : decode cX5_pegs 0 = .ok (.iload_n 2, 1) := by decide +kernel
theorem dX5_pegs_1 : decode cX5_pegs 1 = .ok (.iconst 2, 1) := by decide +kernel
theorem dX5_pegs_2 : decode cX5_pegs 2 = .ok (.invokestatic 89, 3) := by decide +kernel
theorem dX5_pegs_5 : decode cX5_pegs 5 = .ok (.ifCond .ne 8, 3) := by decide +kernel
theorem dX5_pegs_8 : decode cX5_pegs 8 = .ok (.bipush (-2), 2) := by decide +kernel
theorem dX5_pegs_10 : decode cX5_pegs 10 = .ok (.goto 11, 3) := by decide +kernel
theorem dX5_pegs_13 : decode cX5_pegs 13 = .ok (.iload_n 1, 1) := by decide +kernel
theorem dX5_pegs_14 : decode cX5_pegs 14 = .ok (.iconst 1, 1) := by decide +kernel
theorem dX5_pegs_15 : decode cX5_pegs 15 = .ok (.sipush 1000, 3) := by decide +kernel
theorem dX5_pegs_18 : decode cX5_pegs 18 = .ok (.invokestatic 82, 3) := by decide +kernel
theorem dX5_pegs_21 : decode cX5_pegs 21 = .ok (.istore_n 3, 1) := by decide +kernel
theorem dX5_pegs_22 : decode cX5_pegs 22 = .ok (.iload_n 3, 1) := by decide +kernel
theorem dX5_pegs_23 : decode cX5_pegs 23 = .ok (.ifCond .eq 9, 3) := by decide +kernel
theorem dX5_pegs_26 : decode cX5_pegs 26 = .ok (.aload_n 0, 1) := by decide +kernel
theorem dX5_pegs_27 : decode cX5_pegs 27 = .ok (.iload_n 3, 1) := by decide +kernel
theorem dX5_pegs_28 : decode cX5_pegs 28 = .ok (.invokevirtual 41, 3) := by decide +kernel
theorem dX5_pegs_31 : decode cX5_pegs 31 = .ok (.ireturn, 1) := by decide +kernel
theorem dX5_pegs_32 : decode cX5_pegs 32 = .ok (.bipush (-9), 2) := by decide +kernel
theorem dX5_pegs_34 : decode cX5_pegs 34 = .ok (.istore 4, 2) := by decide +kernel
theorem dX5_pegs_36 : decode cX5_pegs 36 = .ok (.iconst 1, 1) := by decide +kernel
theorem dX5_pegs_37 : decode cX5_pegs 37 = .ok (.istore 5, 2) := by decide +kernel
theorem dX5_pegs_39 : decode cX5_pegs 39 = .ok (.iload 5, 2) := by decide +kernel
theorem dX5_pegs_41 : decode cX5_pegs 41 = .ok (.bipush 100, 2) := by decide +kernel
theorem dX5_pegs_43 : decode cX5_pegs 43 = .ok (.if_icmp .ge 39, 3) := by decide +kernel
theorem dX5_pegs_46 : decode cX5_pegs 46 = .ok (.iload 4, 2) := by decide +kernel
theorem dX5_pegs_48 : decode cX5_pegs 48 = .ok (.ifCond .lt 8, 3) := by decide +kernel
theorem dX5_pegs_51 : decode cX5_pegs 51 = .ok (.iload_n 2, 1) := by decide +kernel
theorem dX5_pegs_52 : decode cX5_pegs 52 = .ok (.iconst 1, 1) := by decide +kernel
theorem dX5_pegs_53 : decode cX5_pegs 53 = .ok (.if_icmp .ne 29, 3) := by decide +kernel
theorem dX5_pegs_56 : decode cX5_pegs 56 = .ok (.aload_n 0, 1) := by decide +kernel
theorem dX5_pegs_57 : decode cX5_pegs 57 = .ok (.iconst 1, 1) := by decide +kernel
theorem dX5_pegs_58 : decode cX5_pegs 58 = .ok (.iload 5, 2) := by decide +kernel
theorem dX5_pegs_60 : decode cX5_pegs 60 = .ok (.iload_n 1, 1) := by decide +kernel
theorem dX5_pegs_61 : decode cX5_pegs 61 = .ok (.invokevirtual 143, 3) := by decide +kernel
theorem dX5_pegs_64 : decode cX5_pegs 64 = .ok (.ifCond .le 8, 3) := by decide +kernel
theorem dX5_pegs_67 : decode cX5_pegs 67 = .ok (.iload 5, 2) := by decide +kernel
theorem dX5_pegs_69 : decode cX5_pegs 69 = .ok (.goto 5, 3) := by decide +kernel
theorem dX5_pegs_72 : decode cX5_pegs 72 = .ok (.iload 4, 2) := by decide +kernel
theorem dX5_pegs_74 : decode cX5_pegs 74 = .ok (.istore 4, 2) := by decide +kernel
theorem dX5_pegs_76 : decode cX5_pegs 76 = .ok (.iinc 5 1, 3) := by decide +kernel
theorem dX5_pegs_79 : decode cX5_pegs 79 = .ok (.goto (-40), 3) := by decide +kernel
theorem dX5_pegs_82 : decode cX5_pegs 82 = .ok (.iload 4, 2) := by decide +kernel
theorem dX5_pegs_84 : decode cX5_pegs 84 = .ok (.ireturn, 1) := by decide +kernel
set_option maxRecDepth 20000 in
theorem ggX5_widest_X5_within : GoodIn wsX5_widest wsX5_within := goodIn_r _ [5] (by decide +kernel) (by decide +kernel)
set_option maxRecDepth 20000 in
theorem gX5_widest_X5_within : GoodIn wsX5_widest (va_wsS RX5 82 yX5_within wsX5_within) := goodIn_app (goodIn_of _ (by decide +kernel)) ggX5_widest_X5_within
set_option maxRecDepth 20000 in
theorem ggX5_widest_X5_refuse : GoodIn wsX5_widest wsX5_refuse := goodIn_r _ [9, 10, 60, 61, 62, 63, 64, 65, 66, 67, 68, 69, 70, 71, 72, 73] (by decide +kernel) (by decide +kernel)
set_option maxRecDepth 20000 in
theorem gX5_widest_X5_refuse : GoodIn wsX5_widest (wsV RX5 41 RX5 yX5_refuse wsX5_refuse) := goodIn_app (goodIn_of _ (by decide +kernel)) ggX5_widest_X5_refuse
set_option maxRecDepth 20000 in
theorem ggX5_widest_X5_freshBy : GoodIn wsX5_widest wsX5_freshBy := goodIn_r _ [14, 1, 15, 16, 17, 18, 4, 19, 20, 21, 22, 23, 24, 25, 26, 27, 28, 29, 30, 31, 32, 33, 34, 35, 36, 37, 38, 39, 40, 41, 42, 43, 44, 45, 46, 47, 48, 49, 50, 51, 52, 53, 54, 55, 56, 57, 58, 59, 60, 61, 62, 63, 64, 65, 66, 67, 68, 69, 70, 71, 72, 73] (by decide +kernel) (by decide +kernel)
set_option maxRecDepth 20000 in
theorem gX5_widest_X5_freshBy : GoodIn wsX5_widest (wsV RX5 143 RX5 yX5_freshBy wsX5_freshBy) := goodIn_app (goodIn_of _ (by decide +kernel)) ggX5_widest_X5_freshBy
theorem dX5_widest_0 : decode cX5_widest 0 = .ok (.iload_n 1, 1) := by decide +kernel
theorem dX5_widest_1 : decode cX5_widest 1 = .ok (.iconst 1, 1) := by decide +kernel
theorem dX5_widest_2 : decode cX5_widest 2 = .ok (.sipush 1000, 3) := by decide +kernel
theorem dX5_widest_5 : decode cX5_widest 5 = .ok (.invokestatic 82, 3) := by decide +kernel
theorem dX5_widest_8 : decode cX5_widest 8 = .ok (.istore_n 2, 1) := by decide +kernel
theorem dX5_widest_9 : decode cX5_widest 9 = .ok (.iload_n 2, 1) := by decide +kernel
theorem dX5_widest_10 : decode cX5_widest 10 = .ok (.ifCond .eq 9, 3) := by decide +kernel
theorem dX5_widest_13 : decode cX5_widest 13 = .ok (.aload_n 0, 1) := by decide +kernel
theorem dX5_widest_14 : decode cX5_widest 14 = .ok (.iload_n 2, 1) := by decide +kernel
theorem dX5_widest_15 : decode cX5_widest 15 = .ok (.invokevirtual 41, 3) := by decide +kernel
theorem dX5_widest_18 : decode cX5_widest 18 = .ok (.ireturn, 1) := by decide +kernel
theorem dX5_widest_19 : decode cX5_widest 19 = .ok (.aload_n 0, 1) := by decide +kernel
theorem dX5_widest_20 : decode cX5_widest 20 = .ok (.getfield 13, 3) := by decide +kernel
theorem dX5_widest_23 : decode cX5_widest 23 = .ok (.iconst 1, 1) := by decide +kernel
theorem dX5_widest_24 : decode cX5_widest 24 = .ok (.iaload, 1) := by decide +kernel
theorem dX5_widest_25 : decode cX5_widest 25 = .ok (.istore_n 3, 1) := by decide +kernel
theorem dX5_widest_26 : decode cX5_widest 26 = .ok (.bipush (-9), 2) := by decide +kernel
theorem dX5_widest_28 : decode cX5_widest 28 = .ok (.istore 4, 2) := by decide +kernel
theorem dX5_widest_30 : decode cX5_widest 30 = .ok (.iconst 0, 1) := by decide +kernel
theorem dX5_widest_31 : decode cX5_widest 31 = .ok (.istore 5, 2) := by decide +kernel
theorem dX5_widest_33 : decode cX5_widest 33 = .ok (.bipush 10, 2) := by decide +kernel
theorem dX5_widest_35 : decode cX5_widest 35 = .ok (.istore 6, 2) := by decide +kernel
theorem dX5_widest_37 : decode cX5_widest 37 = .ok (.iload 6, 2) := by decide +kernel
theorem dX5_widest_39 : decode cX5_widest 39 = .ok (.bipush 100, 2) := by decide +kernel
theorem dX5_widest_41 : decode cX5_widest 41 = .ok (.if_icmp .ge 81, 3) := by decide +kernel
theorem dX5_widest_44 : decode cX5_widest 44 = .ok (.aload_n 0, 1) := by decide +kernel
theorem dX5_widest_45 : decode cX5_widest 45 = .ok (.getfield 13, 3) := by decide +kernel
theorem dX5_widest_48 : decode cX5_widest 48 = .ok (.iconst 1, 1) := by decide +kernel
theorem dX5_widest_49 : decode cX5_widest 49 = .ok (.iload 6, 2) := by decide +kernel
theorem dX5_widest_51 : decode cX5_widest 51 = .ok (.iastore, 1) := by decide +kernel
theorem dX5_widest_52 : decode cX5_widest 52 = .ok (.iconst 0, 1) := by decide +kernel
theorem dX5_widest_53 : decode cX5_widest 53 = .ok (.istore 7, 2) := by decide +kernel
theorem dX5_widest_55 : decode cX5_widest 55 = .ok (.iconst 0, 1) := by decide +kernel
theorem dX5_widest_56 : decode cX5_widest 56 = .ok (.istore 8, 2) := by decide +kernel
theorem dX5_widest_58 : decode cX5_widest 58 = .ok (.iload 8, 2) := by decide +kernel
theorem dX5_widest_60 : decode cX5_widest 60 = .ok (.bipush 100, 2) := by decide +kernel
theorem dX5_widest_62 : decode cX5_widest 62 = .ok (.if_icmp .ge 31, 3) := by decide +kernel
theorem dX5_widest_65 : decode cX5_widest 65 = .ok (.iload 7, 2) := by decide +kernel
theorem dX5_widest_67 : decode cX5_widest 67 = .ok (.aload_n 0, 1) := by decide +kernel
theorem dX5_widest_68 : decode cX5_widest 68 = .ok (.bipush 8, 2) := by decide +kernel
theorem dX5_widest_70 : decode cX5_widest 70 = .ok (.iload 8, 2) := by decide +kernel
theorem dX5_widest_72 : decode cX5_widest 72 = .ok (.iload_n 1, 1) := by decide +kernel
theorem dX5_widest_73 : decode cX5_widest 73 = .ok (.invokevirtual 143, 3) := by decide +kernel
theorem dX5_widest_76 : decode cX5_widest 76 = .ok (.ifCond .le 7, 3) := by decide +kernel
theorem dX5_widest_79 : decode cX5_widest 79 = .ok (.iconst 1, 1) := by decide +kernel
theorem dX5_widest_80 : decode cX5_widest 80 = .ok (.goto 4, 3) := by decide +kernel
theorem dX5_widest_83 : decode cX5_widest 83 = .ok (.iconst 0, 1) := by decide +kernel
theorem dX5_widest_84 : decode cX5_widest 84 = .ok (.iadd, 1) := by decide +kernel
theorem dX5_widest_85 : decode cX5_widest 85 = .ok (.istore 7, 2) := by decide +kernel
theorem dX5_widest_87 : decode cX5_widest 87 = .ok (.iinc 8 10, 3) := by decide +kernel
theorem dX5_widest_90 : decode cX5_widest 90 = .ok (.goto (-32), 3) := by decide +kernel
theorem dX5_widest_93 : decode cX5_widest 93 = .ok (.iload 4, 2) := by decide +kernel
theorem dX5_widest_95 : decode cX5_widest 95 = .ok (.ifCond .lt 13, 3) := by decide +kernel
theorem dX5_widest_98 : decode cX5_widest 98 = .ok (.iload 7, 2) := by decide +kernel
theorem dX5_widest_100 : decode cX5_widest 100 = .ok (.iload 5, 2) := by decide +kernel
theorem dX5_widest_102 : decode cX5_widest 102 = .ok (.if_icmp .gt 6, 3) := by decide +kernel
theorem dX5_widest_105 : decode cX5_widest 105 = .ok (.goto 11, 3) := by decide +kernel
theorem dX5_widest_108 : decode cX5_widest 108 = .ok (.iload 6, 2) := by decide +kernel
theorem dX5_widest_110 : decode cX5_widest 110 = .ok (.istore 4, 2) := by decide +kernel
theorem dX5_widest_112 : decode cX5_widest 112 = .ok (.iload 7, 2) := by decide +kernel
theorem dX5_widest_114 : decode cX5_widest 114 = .ok (.istore 5, 2) := by decide +kernel
theorem dX5_widest_116 : decode cX5_widest 116 = .ok (.iinc 6 10, 3) := by decide +kernel
theorem dX5_widest_119 : decode cX5_widest 119 = .ok (.goto (-82), 3) := by decide +kernel
theorem dX5_widest_122 : decode cX5_widest 122 = .ok (.aload_n 0, 1) := by decide +kernel
theorem dX5_widest_123 : decode cX5_widest 123 = .ok (.getfield 13, 3) := by decide +kernel
theorem dX5_widest_126 : decode cX5_widest 126 = .ok (.iconst 1, 1) := by decide +kernel
theorem dX5_widest_127 : decode cX5_widest 127 = .ok (.iload_n 3, 1) := by decide +kernel
theorem dX5_widest_128 : decode cX5_widest 128 = .ok (.iastore, 1) := by decide +kernel
theorem dX5_widest_129 : decode cX5_widest 129 = .ok (.iload 4, 2) := by decide +kernel
theorem dX5_widest_131 : decode cX5_widest 131 = .ok (.ireturn, 1) := by decide +kernel
set_option maxRecDepth 20000 in
theorem ggX5_lifts_X5_wrongRun : GoodIn wsX5_lifts wsX5_wrongRun := goodIn_r _ [5, 6, 7, 4, 8] (by decide +kernel) (by decide +kernel)
set_option maxRecDepth 20000 in
theorem gX5_lifts_X5_wrongRun : GoodIn wsX5_lifts (wsV RX5 134 RX5 yX5_wrongRun wsX5_wrongRun) := goodIn_app (goodIn_of _ (by decide +kernel)) ggX5_lifts_X5_wrongRun
set_option maxRecDepth 20000 in
theorem ggX5_lifts_X5_refuse : GoodIn wsX5_lifts wsX5_refuse := goodIn_r _ [12, 13, 64, 65, 66, 67, 68, 69, 70, 71, 72, 73, 74, 75, 76, 77] (by decide +kernel) (by decide +kernel)
set_option maxRecDepth 20000 in
theorem gX5_lifts_X5_refuse : GoodIn wsX5_lifts (wsV RX5 41 RX5 yX5_refuse wsX5_refuse) := goodIn_app (goodIn_of _ (by decide +kernel)) ggX5_lifts_X5_refuse
set_option maxRecDepth 20000 in
theorem ggX5_lifts_X5_freshBy : GoodIn wsX5_lifts wsX5_freshBy := goodIn_r _ [17, 18, 19, 20, 21, 22, 4, 23, 24, 25, 26, 27, 28, 29, 30, 31, 32, 33, 34, 35, 36, 37, 38, 39, 40, 41, 42, 43, 44, 45, 46, 47, 48, 49, 50, 51, 52, 53, 54, 55, 56, 57, 58, 59, 60, 61, 62, 63, 64, 65, 66, 67, 68, 69, 70, 71, 72, 73, 74, 75, 76, 77] (by decide +kernel) (by decide +kernel)
set_option maxRecDepth 20000 in
theorem gX5_lifts_X5_freshBy : GoodIn wsX5_lifts (wsV RX5 143 RX5 yX5_freshBy wsX5_freshBy) := goodIn_app (goodIn_of _ (by decide +kernel)) ggX5_lifts_X5_freshBy
theorem dX5_lifts_0 : decode cX5_lifts 0 = .ok (.aload_n 0, 1) := by decide +kernel
theorem dX5_lifts_1 : decode cX5_lifts 1 = .ok (.iload_n 1, 1) := by decide +kernel
theorem dX5_lifts_2 : decode cX5_lifts 2 = .ok (.invokevirtual 134, 3) := by decide +kernel
theorem dX5_lifts_5 : decode cX5_lifts 5 = .ok (.istore_n 2, 1) := by decide +kernel
theorem dX5_lifts_6 : decode cX5_lifts 6 = .ok (.iload_n 2, 1) := by decide +kernel
theorem dX5_lifts_7 : decode cX5_lifts 7 = .ok (.ifCond .eq 9, 3) := by decide +kernel
theorem dX5_lifts_10 : decode cX5_lifts 10 = .ok (.aload_n 0, 1) := by decide +kernel
theorem dX5_lifts_11 : decode cX5_lifts 11 = .ok (.iload_n 2, 1) := by decide +kernel
theorem dX5_lifts_12 : decode cX5_lifts 12 = .ok (.invokevirtual 41, 3) := by decide +kernel
theorem dX5_lifts_15 : decode cX5_lifts 15 = .ok (.ireturn, 1) := by decide +kernel
theorem dX5_lifts_16 : decode cX5_lifts 16 = .ok (.iconst 0, 1) := by decide +kernel
theorem dX5_lifts_17 : decode cX5_lifts 17 = .ok (.istore_n 3, 1) := by decide +kernel
theorem dX5_lifts_18 : decode cX5_lifts 18 = .ok (.iconst 0, 1) := by decide +kernel
theorem dX5_lifts_19 : decode cX5_lifts 19 = .ok (.istore 4, 2) := by decide +kernel
theorem dX5_lifts_21 : decode cX5_lifts 21 = .ok (.iconst 1, 1) := by decide +kernel
theorem dX5_lifts_22 : decode cX5_lifts 22 = .ok (.istore 5, 2) := by decide +kernel
theorem dX5_lifts_24 : decode cX5_lifts 24 = .ok (.iload 5, 2) := by decide +kernel
theorem dX5_lifts_26 : decode cX5_lifts 26 = .ok (.bipush 10, 2) := by decide +kernel
theorem dX5_lifts_28 : decode cX5_lifts 28 = .ok (.if_icmp .ge 39, 3) := by decide +kernel
theorem dX5_lifts_31 : decode cX5_lifts 31 = .ok (.iload 5, 2) := by decide +kernel
theorem dX5_lifts_33 : decode cX5_lifts 33 = .ok (.aload_n 0, 1) := by decide +kernel
theorem dX5_lifts_34 : decode cX5_lifts 34 = .ok (.iconst 5, 1) := by decide +kernel
theorem dX5_lifts_35 : decode cX5_lifts 35 = .ok (.iload 5, 2) := by decide +kernel
theorem dX5_lifts_37 : decode cX5_lifts 37 = .ok (.iload_n 1, 1) := by decide +kernel
theorem dX5_lifts_38 : decode cX5_lifts 38 = .ok (.invokevirtual 143, 3) := by decide +kernel
theorem dX5_lifts_41 : decode cX5_lifts 41 = .ok (.imul, 1) := by decide +kernel
theorem dX5_lifts_42 : decode cX5_lifts 42 = .ok (.istore 6, 2) := by decide +kernel
theorem dX5_lifts_44 : decode cX5_lifts 44 = .ok (.iload 6, 2) := by decide +kernel
theorem dX5_lifts_46 : decode cX5_lifts 46 = .ok (.iload 4, 2) := by decide +kernel
theorem dX5_lifts_48 : decode cX5_lifts 48 = .ok (.if_icmp .gt 6, 3) := by decide +kernel
theorem dX5_lifts_51 : decode cX5_lifts 51 = .ok (.goto 10, 3) := by decide +kernel
theorem dX5_lifts_54 : decode cX5_lifts 54 = .ok (.iload 5, 2) := by decide +kernel
theorem dX5_lifts_56 : decode cX5_lifts 56 = .ok (.istore_n 3, 1) := by decide +kernel
theorem dX5_lifts_57 : decode cX5_lifts 57 = .ok (.iload 6, 2) := by decide +kernel
theorem dX5_lifts_59 : decode cX5_lifts 59 = .ok (.istore 4, 2) := by decide +kernel
theorem dX5_lifts_61 : decode cX5_lifts 61 = .ok (.iinc 5 1, 3) := by decide +kernel
theorem dX5_lifts_64 : decode cX5_lifts 64 = .ok (.goto (-40), 3) := by decide +kernel
theorem dX5_lifts_67 : decode cX5_lifts 67 = .ok (.iload_n 3, 1) := by decide +kernel
theorem dX5_lifts_68 : decode cX5_lifts 68 = .ok (.ireturn, 1) := by decide +kernel
set_option maxRecDepth 20000 in
theorem ggX5_under_X5_freshBy : GoodIn wsX5_under wsX5_freshBy := goodIn_r _ [5, 6, 7, 8, 9, 10, 4, 11, 12, 13, 14, 15, 16, 17, 18, 19, 20, 21, 22, 23, 24, 25, 26, 27, 28, 29, 30, 31, 32, 33, 34, 35, 36, 37, 38, 39, 40, 41, 42, 43, 44, 45, 46, 47, 48, 49, 50, 51, 52, 53, 54, 55, 56, 57, 58, 59, 60, 61, 62, 63, 64, 65] (by decide +kernel) (by decide +kernel)
set_option maxRecDepth 20000 in
theorem gX5_under_X5_freshBy : GoodIn wsX5_under (wsV RX5 143 RX5 yX5_freshBy wsX5_freshBy) := goodIn_app (goodIn_of _ (by decide +kernel)) ggX5_under_X5_freshBy
theorem dX5_under_0 : decode cX5_under 0 = .ok (.aload_n 0, 1) := by decide +kernel
theorem dX5_under_1 : decode cX5_under 1 = .ok (.bipush 12, 2) := by decide +kernel
theorem dX5_under_3 : decode cX5_under 3 = .ok (.iconst 1, 1) := by decide +kernel
theorem dX5_under_4 : decode cX5_under 4 = .ok (.sipush 3000, 3) := by decide +kernel
theorem dX5_under_7 : decode cX5_under 7 = .ok (.invokevirtual 143, 3) := by decide +kernel
theorem dX5_under_10 : decode cX5_under 10 = .ok (.ireturn, 1) := by decide +kernel
set_option maxRecDepth 20000 in
theorem ggX5_without_X5_wrongRun : GoodIn wsX5_without wsX5_wrongRun := goodIn_r _ [6, 7, 8, 5, 9] (by decide +kernel) (by decide +kernel)
set_option maxRecDepth 20000 in
theorem gX5_without_X5_wrongRun : GoodIn wsX5_without (wsV RX5 134 RX5 yX5_wrongRun wsX5_wrongRun) := goodIn_app (goodIn_of _ (by decide +kernel)) ggX5_without_X5_wrongRun
set_option maxRecDepth 20000 in
theorem ggX5_without_X5_refuse : GoodIn wsX5_without wsX5_refuse := goodIn_r _ [13, 14, 60, 61, 62, 63, 64, 65, 66, 67, 68, 69, 70, 71, 72, 73] (by decide +kernel) (by decide +kernel)
set_option maxRecDepth 20000 in
theorem gX5_without_X5_refuse : GoodIn wsX5_without (wsV RX5 41 RX5 yX5_refuse wsX5_refuse) := goodIn_app (goodIn_of _ (by decide +kernel)) ggX5_without_X5_refuse
set_option maxRecDepth 20000 in
theorem ggX5_without_X5_fresh : GoodIn wsX5_without wsX5_fresh := goodIn_r _ [18, 19, 1, 20, 21, 5, 22, 23, 24, 25, 26, 27, 28, 60, 61, 62, 63, 64, 65, 66, 67, 68, 69, 70, 71, 72, 73] (by decide +kernel) (by decide +kernel)
set_option maxRecDepth 20000 in
theorem gX5_without_X5_fresh : GoodIn wsX5_without (wsV RX5 140 RX5 yX5_fresh wsX5_fresh) := goodIn_app (goodIn_of _ (by decide +kernel)) ggX5_without_X5_fresh
set_option maxRecDepth 20000 in
theorem ggX5_without_X5_goesOn : GoodIn wsX5_without wsX5_goesOn := goodIn_r _ [32, 33, 34, 35, 5, 36, 37, 38, 39, 40, 41, 42, 43, 44, 26, 27, 28, 45, 46, 47, 48, 49, 50, 51, 52, 53, 54, 55, 56, 57, 58, 59, 60, 61, 62, 63, 64, 65, 66, 67, 68, 69, 70, 71, 72, 73] (by decide +kernel) (by decide +kernel)
set_option maxRecDepth 20000 in
theorem gX5_without_X5_goesOn : GoodIn wsX5_without (wsV RX5 127 RX5 yX5_goesOn wsX5_goesOn) := goodIn_app (goodIn_of _ (by decide +kernel)) ggX5_without_X5_goesOn
theorem dX5_without_0 : decode cX5_without 0 = .ok (.aload_n 0, 1) := by decide +kernel
theorem dX5_without_1 : decode cX5_without 1 = .ok (.iload_n 1, 1) := by decide +kernel
theorem dX5_without_2 : decode cX5_without 2 = .ok (.invokevirtual 134, 3) := by decide +kernel
theorem dX5_without_5 : decode cX5_without 5 = .ok (.istore_n 2, 1) := by decide +kernel
theorem dX5_without_6 : decode cX5_without 6 = .ok (.iload_n 2, 1) := by decide +kernel
theorem dX5_without_7 : decode cX5_without 7 = .ok (.ifCond .eq 9, 3) := by decide +kernel
theorem dX5_without_10 : decode cX5_without 10 = .ok (.aload_n 0, 1) := by decide +kernel
theorem dX5_without_11 : decode cX5_without 11 = .ok (.iload_n 2, 1) := by decide +kernel
theorem dX5_without_12 : decode cX5_without 12 = .ok (.invokevirtual 41, 3) := by decide +kernel
theorem dX5_without_15 : decode cX5_without 15 = .ok (.ireturn, 1) := by decide +kernel
theorem dX5_without_16 : decode cX5_without 16 = .ok (.iconst 0, 1) := by decide +kernel
theorem dX5_without_17 : decode cX5_without 17 = .ok (.istore_n 3, 1) := by decide +kernel
theorem dX5_without_18 : decode cX5_without 18 = .ok (.iload_n 3, 1) := by decide +kernel
theorem dX5_without_19 : decode cX5_without 19 = .ok (.bipush 10, 2) := by decide +kernel
theorem dX5_without_21 : decode cX5_without 21 = .ok (.if_icmp .ge 51, 3) := by decide +kernel
theorem dX5_without_24 : decode cX5_without 24 = .ok (.aload_n 0, 1) := by decide +kernel
theorem dX5_without_25 : decode cX5_without 25 = .ok (.invokevirtual 140, 3) := by decide +kernel
theorem dX5_without_28 : decode cX5_without 28 = .ok (.aload_n 0, 1) := by decide +kernel
theorem dX5_without_29 : decode cX5_without 29 = .ok (.getfield 19, 3) := by decide +kernel
theorem dX5_without_32 : decode cX5_without 32 = .ok (.bipush 10, 2) := by decide +kernel
theorem dX5_without_34 : decode cX5_without 34 = .ok (.iload_n 3, 1) := by decide +kernel
theorem dX5_without_35 : decode cX5_without 35 = .ok (.iastore, 1) := by decide +kernel
theorem dX5_without_36 : decode cX5_without 36 = .ok (.aload_n 0, 1) := by decide +kernel
theorem dX5_without_37 : decode cX5_without 37 = .ok (.getfield 19, 3) := by decide +kernel
theorem dX5_without_40 : decode cX5_without 40 = .ok (.bipush 18, 2) := by decide +kernel
theorem dX5_without_42 : decode cX5_without 42 = .ok (.iconst 0, 1) := by decide +kernel
theorem dX5_without_43 : decode cX5_without 43 = .ok (.iastore, 1) := by decide +kernel
theorem dX5_without_44 : decode cX5_without 44 = .ok (.aload_n 0, 1) := by decide +kernel
theorem dX5_without_45 : decode cX5_without 45 = .ok (.getfield 19, 3) := by decide +kernel
theorem dX5_without_48 : decode cX5_without 48 = .ok (.bipush 15, 2) := by decide +kernel
theorem dX5_without_50 : decode cX5_without 50 = .ok (.iconst 0, 1) := by decide +kernel
theorem dX5_without_51 : decode cX5_without 51 = .ok (.iastore, 1) := by decide +kernel
theorem dX5_without_52 : decode cX5_without 52 = .ok (.aload_n 0, 1) := by decide +kernel
theorem dX5_without_53 : decode cX5_without 53 = .ok (.aload_n 0, 1) := by decide +kernel
theorem dX5_without_54 : decode cX5_without 54 = .ok (.getfield 19, 3) := by decide +kernel
theorem dX5_without_57 : decode cX5_without 57 = .ok (.iload_n 1, 1) := by decide +kernel
theorem dX5_without_58 : decode cX5_without 58 = .ok (.invokevirtual 127, 3) := by decide +kernel
theorem dX5_without_61 : decode cX5_without 61 = .ok (.ifCond .le 5, 3) := by decide +kernel
theorem dX5_without_64 : decode cX5_without 64 = .ok (.iload_n 3, 1) := by decide +kernel
theorem dX5_without_65 : decode cX5_without 65 = .ok (.ireturn, 1) := by decide +kernel
theorem dX5_without_66 : decode cX5_without 66 = .ok (.iinc 3 1, 3) := by decide +kernel
theorem dX5_without_69 : decode cX5_without 69 = .ok (.goto (-51), 3) := by decide +kernel
theorem dX5_without_72 : decode cX5_without 72 = .ok (.bipush (-9), 2) := by decide +kernel
theorem dX5_without_74 : decode cX5_without 74 = .ok (.ireturn, 1) := by decide +kernel
set_option maxRecDepth 20000 in
theorem ggX5_larger_X5_refuse : GoodIn wsX5_larger wsX5_refuse := goodIn_r _ [5, 6, 57, 58, 59, 60, 61, 62, 63, 64, 65, 66, 67, 68, 69, 70] (by decide +kernel) (by decide +kernel)
set_option maxRecDepth 20000 in
theorem gX5_larger_X5_refuse : GoodIn wsX5_larger (wsV RX5 41 RX5 yX5_refuse wsX5_refuse) := goodIn_app (goodIn_of _ (by decide +kernel)) ggX5_larger_X5_refuse
set_option maxRecDepth 20000 in
theorem ggX5_larger_X5_freshBy : GoodIn wsX5_larger wsX5_freshBy := goodIn_r _ [10, 11, 12, 13, 14, 15, 4, 16, 17, 18, 19, 20, 21, 22, 23, 24, 25, 26, 27, 28, 29, 30, 31, 32, 33, 34, 35, 36, 37, 38, 39, 40, 41, 42, 43, 44, 45, 46, 47, 48, 49, 50, 51, 52, 53, 54, 55, 56, 57, 58, 59, 60, 61, 62, 63, 64, 65, 66, 67, 68, 69, 70] (by decide +kernel) (by decide +kernel)
set_option maxRecDepth 20000 in
theorem gX5_larger_X5_freshBy : GoodIn wsX5_larger (wsV RX5 143 RX5 yX5_freshBy wsX5_freshBy) := goodIn_app (goodIn_of _ (by decide +kernel)) ggX5_larger_X5_freshBy
theorem dX5_larger_0 : decode cX5_larger 0 = .ok (.iload_n 1, 1) := by decide +kernel
theorem dX5_larger_1 : decode cX5_larger 1 = .ok (.iconst 1, 1) := by decide +kernel
theorem dX5_larger_2 : decode cX5_larger 2 = .ok (.if_icmp .lt 8, 3) := by decide +kernel
theorem dX5_larger_5 : decode cX5_larger 5 = .ok (.iload_n 2, 1) := by decide +kernel
theorem dX5_larger_6 : decode cX5_larger 6 = .ok (.iconst 1, 1) := by decide +kernel
theorem dX5_larger_7 : decode cX5_larger 7 = .ok (.if_icmp .ge 8, 3) := by decide +kernel
theorem dX5_larger_10 : decode cX5_larger 10 = .ok (.bipush (-4), 2) := by decide +kernel
theorem dX5_larger_12 : decode cX5_larger 12 = .ok (.goto 21, 3) := by decide +kernel
theorem dX5_larger_15 : decode cX5_larger 15 = .ok (.iload_n 1, 1) := by decide +kernel
theorem dX5_larger_16 : decode cX5_larger 16 = .ok (.iconst 4, 1) := by decide +kernel
theorem dX5_larger_17 : decode cX5_larger 17 = .ok (.if_icmp .gt 10, 3) := by decide +kernel
theorem dX5_larger_20 : decode cX5_larger 20 = .ok (.iload_n 2, 1) := by decide +kernel
theorem dX5_larger_21 : decode cX5_larger 21 = .ok (.sipush 3000, 3) := by decide +kernel
theorem dX5_larger_24 : decode cX5_larger 24 = .ok (.if_icmp .le 8, 3) := by decide +kernel
theorem dX5_larger_27 : decode cX5_larger 27 = .ok (.bipush (-6), 2) := by decide +kernel
theorem dX5_larger_29 : decode cX5_larger 29 = .ok (.goto 4, 3) := by decide +kernel
theorem dX5_larger_32 : decode cX5_larger 32 = .ok (.iconst 0, 1) := by decide +kernel
theorem dX5_larger_33 : decode cX5_larger 33 = .ok (.istore_n 3, 1) := by decide +kernel
theorem dX5_larger_34 : decode cX5_larger 34 = .ok (.iload_n 3, 1) := by decide +kernel
theorem dX5_larger_35 : decode cX5_larger 35 = .ok (.ifCond .eq 11, 3) := by decide +kernel
theorem dX5_larger_38 : decode cX5_larger 38 = .ok (.aload_n 0, 1) := by decide +kernel
theorem dX5_larger_39 : decode cX5_larger 39 = .ok (.iload_n 3, 1) := by decide +kernel
theorem dX5_larger_40 : decode cX5_larger 40 = .ok (.invokevirtual 41, 3) := by decide +kernel
theorem dX5_larger_43 : decode cX5_larger 43 = .ok (.goto 11, 3) := by decide +kernel
theorem dX5_larger_46 : decode cX5_larger 46 = .ok (.aload_n 0, 1) := by decide +kernel
theorem dX5_larger_47 : decode cX5_larger 47 = .ok (.bipush 6, 2) := by decide +kernel
theorem dX5_larger_49 : decode cX5_larger 49 = .ok (.iload_n 1, 1) := by decide +kernel
theorem dX5_larger_50 : decode cX5_larger 50 = .ok (.iload_n 2, 1) := by decide +kernel
theorem dX5_larger_51 : decode cX5_larger 51 = .ok (.invokevirtual 143, 3) := by decide +kernel
theorem dX5_larger_54 : decode cX5_larger 54 = .ok (.ireturn, 1) := by decide +kernel
set_option maxRecDepth 20000 in
theorem ggX5_together_X5_within : GoodIn wsX5_together wsX5_within := goodIn_r _ [6] (by decide +kernel) (by decide +kernel)
set_option maxRecDepth 20000 in
theorem gX5_together_X5_within : GoodIn wsX5_together (va_wsS RX5 82 yX5_within wsX5_within) := goodIn_app (goodIn_of _ (by decide +kernel)) ggX5_together_X5_within
set_option maxRecDepth 20000 in
theorem ggX5_together_X5_refuse : GoodIn wsX5_together wsX5_refuse := goodIn_r _ [10, 11, 53, 54, 55, 56, 57, 58, 59, 60, 61, 62, 63, 64, 65, 66] (by decide +kernel) (by decide +kernel)
set_option maxRecDepth 20000 in
theorem gX5_together_X5_refuse : GoodIn wsX5_together (wsV RX5 41 RX5 yX5_refuse wsX5_refuse) := goodIn_app (goodIn_of _ (by decide +kernel)) ggX5_together_X5_refuse
set_option maxRecDepth 20000 in
theorem ggX5_together_X5_fresh : GoodIn wsX5_together wsX5_fresh := goodIn_r _ [15, 16, 1, 17, 18, 5, 19, 20, 21, 22, 23, 24, 25, 53, 54, 55, 56, 57, 58, 59, 60, 61, 62, 63, 64, 65, 66] (by decide +kernel) (by decide +kernel)
set_option maxRecDepth 20000 in
theorem gX5_together_X5_fresh : GoodIn wsX5_together (wsV RX5 140 RX5 yX5_fresh wsX5_fresh) := goodIn_app (goodIn_of _ (by decide +kernel)) ggX5_together_X5_fresh
set_option maxRecDepth 20000 in
theorem ggX5_together_X5_copies : GoodIn wsX5_together wsX5_copies := goodIn_r _ [22] (by decide +kernel) (by decide +kernel)
set_option maxRecDepth 20000 in
theorem gX5_together_X5_copies : GoodIn wsX5_together (va_wsS RX5 72 yX5_copies wsX5_copies) := goodIn_app (goodIn_of _ (by decide +kernel)) ggX5_together_X5_copies
set_option maxRecDepth 20000 in
theorem ggX5_together_X5_tenth : GoodIn wsX5_together wsX5_tenth := goodIn_r _ [29, 30, 31, 32, 5, 33, 34, 35, 36, 37, 23, 24, 25, 38, 39, 40, 41, 42, 43, 44, 45, 46, 47, 48, 49, 50, 51, 52, 53, 54, 55, 56, 57, 58, 59, 60, 61, 62, 63, 64, 65, 66] (by decide +kernel) (by decide +kernel)
set_option maxRecDepth 20000 in
theorem gX5_together_X5_tenth : GoodIn wsX5_together (wsV RX5 124 RX5 yX5_tenth wsX5_tenth) := goodIn_app (goodIn_of _ (by decide +kernel)) ggX5_together_X5_tenth
theorem dX5_together_0 : decode cX5_together 0 = .ok (.iload_n 1, 1) := by decide +kernel
theorem dX5_together_1 : decode cX5_together 1 = .ok (.iconst 1, 1) := by decide +kernel
theorem dX5_together_2 : decode cX5_together 2 = .ok (.iconst 4, 1) := by decide +kernel
theorem dX5_together_3 : decode cX5_together 3 = .ok (.invokestatic 82, 3) := by decide +kernel
theorem dX5_together_6 : decode cX5_together 6 = .ok (.istore_n 2, 1) := by decide +kernel
theorem dX5_together_7 : decode cX5_together 7 = .ok (.iload_n 2, 1) := by decide +kernel
theorem dX5_together_8 : decode cX5_together 8 = .ok (.ifCond .eq 9, 3) := by decide +kernel
theorem dX5_together_11 : decode cX5_together 11 = .ok (.aload_n 0, 1) := by decide +kernel
theorem dX5_together_12 : decode cX5_together 12 = .ok (.iload_n 2, 1) := by decide +kernel
theorem dX5_together_13 : decode cX5_together 13 = .ok (.invokevirtual 41, 3) := by decide +kernel
theorem dX5_together_16 : decode cX5_together 16 = .ok (.ireturn, 1) := by decide +kernel
theorem dX5_together_17 : decode cX5_together 17 = .ok (.aload_n 0, 1) := by decide +kernel
theorem dX5_together_18 : decode cX5_together 18 = .ok (.invokevirtual 140, 3) := by decide +kernel
theorem dX5_together_21 : decode cX5_together 21 = .ok (.aload_n 0, 1) := by decide +kernel
theorem dX5_together_22 : decode cX5_together 22 = .ok (.getfield 19, 3) := by decide +kernel
theorem dX5_together_25 : decode cX5_together 25 = .ok (.aload_n 0, 1) := by decide +kernel
theorem dX5_together_26 : decode cX5_together 26 = .ok (.getfield 22, 3) := by decide +kernel
theorem dX5_together_29 : decode cX5_together 29 = .ok (.invokestatic 72, 3) := by decide +kernel
theorem dX5_together_32 : decode cX5_together 32 = .ok (.aload_n 0, 1) := by decide +kernel
theorem dX5_together_33 : decode cX5_together 33 = .ok (.getfield 19, 3) := by decide +kernel
theorem dX5_together_36 : decode cX5_together 36 = .ok (.bipush 6, 2) := by decide +kernel
theorem dX5_together_38 : decode cX5_together 38 = .ok (.iconst 1, 1) := by decide +kernel
theorem dX5_together_39 : decode cX5_together 39 = .ok (.iastore, 1) := by decide +kernel
theorem dX5_together_40 : decode cX5_together 40 = .ok (.aload_n 0, 1) := by decide +kernel
theorem dX5_together_41 : decode cX5_together 41 = .ok (.getfield 22, 3) := by decide +kernel
theorem dX5_together_44 : decode cX5_together 44 = .ok (.bipush 6, 2) := by decide +kernel
theorem dX5_together_46 : decode cX5_together 46 = .ok (.iload_n 1, 1) := by decide +kernel
theorem dX5_together_47 : decode cX5_together 47 = .ok (.iastore, 1) := by decide +kernel
theorem dX5_together_48 : decode cX5_together 48 = .ok (.iconst 0, 1) := by decide +kernel
theorem dX5_together_49 : decode cX5_together 49 = .ok (.istore_n 3, 1) := by decide +kernel
theorem dX5_together_50 : decode cX5_together 50 = .ok (.iload_n 3, 1) := by decide +kernel
theorem dX5_together_51 : decode cX5_together 51 = .ok (.sipush 3000, 3) := by decide +kernel
theorem dX5_together_54 : decode cX5_together 54 = .ok (.if_icmp .ge 69, 3) := by decide +kernel
theorem dX5_together_57 : decode cX5_together 57 = .ok (.aload_n 0, 1) := by decide +kernel
theorem dX5_together_58 : decode cX5_together 58 = .ok (.getfield 19, 3) := by decide +kernel
theorem dX5_together_61 : decode cX5_together 61 = .ok (.bipush 23, 2) := by decide +kernel
theorem dX5_together_63 : decode cX5_together 63 = .ok (.iaload, 1) := by decide +kernel
theorem dX5_together_64 : decode cX5_together 64 = .ok (.istore 4, 2) := by decide +kernel
theorem dX5_together_66 : decode cX5_together 66 = .ok (.aload_n 0, 1) := by decide +kernel
theorem dX5_together_67 : decode cX5_together 67 = .ok (.getfield 22, 3) := by decide +kernel
theorem dX5_together_70 : decode cX5_together 70 = .ok (.bipush 23, 2) := by decide +kernel
theorem dX5_together_72 : decode cX5_together 72 = .ok (.iaload, 1) := by decide +kernel
theorem dX5_together_73 : decode cX5_together 73 = .ok (.istore 5, 2) := by decide +kernel
theorem dX5_together_75 : decode cX5_together 75 = .ok (.aload_n 0, 1) := by decide +kernel
theorem dX5_together_76 : decode cX5_together 76 = .ok (.aload_n 0, 1) := by decide +kernel
theorem dX5_together_77 : decode cX5_together 77 = .ok (.getfield 19, 3) := by decide +kernel
theorem dX5_together_80 : decode cX5_together 80 = .ok (.invokevirtual 124, 3) := by decide +kernel
theorem dX5_together_83 : decode cX5_together 83 = .ok (.aload_n 0, 1) := by decide +kernel
theorem dX5_together_84 : decode cX5_together 84 = .ok (.aload_n 0, 1) := by decide +kernel
theorem dX5_together_85 : decode cX5_together 85 = .ok (.getfield 22, 3) := by decide +kernel
theorem dX5_together_88 : decode cX5_together 88 = .ok (.invokevirtual 124, 3) := by decide +kernel
theorem dX5_together_91 : decode cX5_together 91 = .ok (.aload_n 0, 1) := by decide +kernel
theorem dX5_together_92 : decode cX5_together 92 = .ok (.getfield 19, 3) := by decide +kernel
theorem dX5_together_95 : decode cX5_together 95 = .ok (.bipush 23, 2) := by decide +kernel
theorem dX5_together_97 : decode cX5_together 97 = .ok (.iaload, 1) := by decide +kernel
theorem dX5_together_98 : decode cX5_together 98 = .ok (.iload 4, 2) := by decide +kernel
theorem dX5_together_100 : decode cX5_together 100 = .ok (.if_icmp .le 17, 3) := by decide +kernel
theorem dX5_together_103 : decode cX5_together 103 = .ok (.aload_n 0, 1) := by decide +kernel
theorem dX5_together_104 : decode cX5_together 104 = .ok (.getfield 22, 3) := by decide +kernel
theorem dX5_together_107 : decode cX5_together 107 = .ok (.bipush 23, 2) := by decide +kernel
theorem dX5_together_109 : decode cX5_together 109 = .ok (.iaload, 1) := by decide +kernel
theorem dX5_together_110 : decode cX5_together 110 = .ok (.iload 5, 2) := by decide +kernel
theorem dX5_together_112 : decode cX5_together 112 = .ok (.if_icmp .le 5, 3) := by decide +kernel
theorem dX5_together_115 : decode cX5_together 115 = .ok (.iload_n 3, 1) := by decide +kernel
theorem dX5_together_116 : decode cX5_together 116 = .ok (.ireturn, 1) := by decide +kernel
theorem dX5_together_117 : decode cX5_together 117 = .ok (.iinc 3 1, 3) := by decide +kernel
theorem dX5_together_120 : decode cX5_together 120 = .ok (.goto (-70), 3) := by decide +kernel
theorem dX5_together_123 : decode cX5_together 123 = .ok (.bipush (-9), 2) := by decide +kernel
theorem dX5_together_125 : decode cX5_together 125 = .ok (.ireturn, 1) := by decide +kernel
set_option maxRecDepth 20000 in
theorem ggX5_drinks_X5_wrongRun : GoodIn wsX5_drinks wsX5_wrongRun := goodIn_r _ [7, 8, 9, 6, 10] (by decide +kernel) (by decide +kernel)
set_option maxRecDepth 20000 in
theorem gX5_drinks_X5_wrongRun : GoodIn wsX5_drinks (wsV RX5 134 RX5 yX5_wrongRun wsX5_wrongRun) := goodIn_app (goodIn_of _ (by decide +kernel)) ggX5_drinks_X5_wrongRun
set_option maxRecDepth 20000 in
theorem ggX5_drinks_X5_refuse : GoodIn wsX5_drinks wsX5_refuse := goodIn_r _ [14, 15, 57, 58, 59, 60, 61, 62, 63, 64, 65, 66, 67, 68, 69, 70] (by decide +kernel) (by decide +kernel)
set_option maxRecDepth 20000 in
theorem gX5_drinks_X5_refuse : GoodIn wsX5_drinks (wsV RX5 41 RX5 yX5_refuse wsX5_refuse) := goodIn_app (goodIn_of _ (by decide +kernel)) ggX5_drinks_X5_refuse
set_option maxRecDepth 20000 in
theorem ggX5_drinks_X5_begins : GoodIn wsX5_drinks wsX5_begins := goodIn_r _ [19, 2, 1, 20, 21, 6, 22, 57, 58, 59, 60, 61, 62, 63, 64, 65, 66, 67, 68, 69, 70] (by decide +kernel) (by decide +kernel)
set_option maxRecDepth 20000 in
theorem gX5_drinks_X5_begins : GoodIn wsX5_drinks (wsV RX5 137 RX5 yX5_begins wsX5_begins) := goodIn_app (goodIn_of _ (by decide +kernel)) ggX5_drinks_X5_begins
set_option maxRecDepth 20000 in
theorem ggX5_drinks_X5_goesOn : GoodIn wsX5_drinks wsX5_goesOn := goodIn_r _ [26, 27, 28, 29, 6, 30, 31, 32, 33, 34, 35, 36, 37, 38, 39, 40, 41, 42, 43, 44, 45, 46, 47, 48, 49, 50, 51, 52, 53, 54, 55, 56, 57, 58, 59, 60, 61, 62, 63, 64, 65, 66, 67, 68, 69, 70] (by decide +kernel) (by decide +kernel)
set_option maxRecDepth 20000 in
theorem gX5_drinks_X5_goesOn : GoodIn wsX5_drinks (wsV RX5 127 RX5 yX5_goesOn wsX5_goesOn) := goodIn_app (goodIn_of _ (by decide +kernel)) ggX5_drinks_X5_goesOn
theorem dX5_drinks_0 : decode cX5_drinks 0 = .ok (.aload_n 0, 1) := by decide +kernel
theorem dX5_drinks_1 : decode cX5_drinks 1 = .ok (.iload_n 1, 1) := by decide +kernel
theorem dX5_drinks_2 : decode cX5_drinks 2 = .ok (.invokevirtual 134, 3) := by decide +kernel
theorem dX5_drinks_5 : decode cX5_drinks 5 = .ok (.istore_n 2, 1) := by decide +kernel
theorem dX5_drinks_6 : decode cX5_drinks 6 = .ok (.iload_n 2, 1) := by decide +kernel
theorem dX5_drinks_7 : decode cX5_drinks 7 = .ok (.ifCond .eq 9, 3) := by decide +kernel
theorem dX5_drinks_10 : decode cX5_drinks 10 = .ok (.aload_n 0, 1) := by decide +kernel
theorem dX5_drinks_11 : decode cX5_drinks 11 = .ok (.iload_n 2, 1) := by decide +kernel
theorem dX5_drinks_12 : decode cX5_drinks 12 = .ok (.invokevirtual 41, 3) := by decide +kernel
theorem dX5_drinks_15 : decode cX5_drinks 15 = .ok (.ireturn, 1) := by decide +kernel
theorem dX5_drinks_16 : decode cX5_drinks 16 = .ok (.aload_n 0, 1) := by decide +kernel
theorem dX5_drinks_17 : decode cX5_drinks 17 = .ok (.invokevirtual 137, 3) := by decide +kernel
theorem dX5_drinks_20 : decode cX5_drinks 20 = .ok (.aload_n 0, 1) := by decide +kernel
theorem dX5_drinks_21 : decode cX5_drinks 21 = .ok (.aload_n 0, 1) := by decide +kernel
theorem dX5_drinks_22 : decode cX5_drinks 22 = .ok (.getfield 19, 3) := by decide +kernel
theorem dX5_drinks_25 : decode cX5_drinks 25 = .ok (.iload_n 1, 1) := by decide +kernel
theorem dX5_drinks_26 : decode cX5_drinks 26 = .ok (.invokevirtual 127, 3) := by decide +kernel
theorem dX5_drinks_29 : decode cX5_drinks 29 = .ok (.istore_n 3, 1) := by decide +kernel
theorem dX5_drinks_30 : decode cX5_drinks 30 = .ok (.aload_n 0, 1) := by decide +kernel
theorem dX5_drinks_31 : decode cX5_drinks 31 = .ok (.getfield 13, 3) := by decide +kernel
theorem dX5_drinks_34 : decode cX5_drinks 34 = .ok (.bipush 15, 2) := by decide +kernel
theorem dX5_drinks_36 : decode cX5_drinks 36 = .ok (.iaload, 1) := by decide +kernel
theorem dX5_drinks_37 : decode cX5_drinks 37 = .ok (.aload_n 0, 1) := by decide +kernel
theorem dX5_drinks_38 : decode cX5_drinks 38 = .ok (.getfield 19, 3) := by decide +kernel
theorem dX5_drinks_41 : decode cX5_drinks 41 = .ok (.bipush 15, 2) := by decide +kernel
theorem dX5_drinks_43 : decode cX5_drinks 43 = .ok (.iaload, 1) := by decide +kernel
theorem dX5_drinks_44 : decode cX5_drinks 44 = .ok (.isub, 1) := by decide +kernel
theorem dX5_drinks_45 : decode cX5_drinks 45 = .ok (.ireturn, 1) := by decide +kernel
set_option maxRecDepth 20000 in
theorem ggX5_common_X5_common : GoodIn wsX5_common wsX5_common := goodIn_r _ [0, 1, 2, 3] (by decide +kernel) (by decide +kernel)
set_option maxRecDepth 20000 in
theorem gX5_common_X5_common : GoodIn wsX5_common (va_wsS RX5 146 yX5_common wsX5_common) := goodIn_app (goodIn_of _ (by decide +kernel)) ggX5_common_X5_common
theorem dX5_common_0 : decode cX5_common 0 = .ok (.iload_n 1, 1) := by decide +kernel
theorem dX5_common_1 : decode cX5_common 1 = .ok (.ifCond .ne 7, 3) := by decide +kernel
theorem dX5_common_4 : decode cX5_common 4 = .ok (.iload_n 0, 1) := by decide +kernel
theorem dX5_common_5 : decode cX5_common 5 = .ok (.goto 10, 3) := by decide +kernel
theorem dX5_common_8 : decode cX5_common 8 = .ok (.iload_n 1, 1) := by decide +kernel
theorem dX5_common_9 : decode cX5_common 9 = .ok (.iload_n 0, 1) := by decide +kernel
theorem dX5_common_10 : decode cX5_common 10 = .ok (.iload_n 1, 1) := by decide +kernel
theorem dX5_common_11 : decode cX5_common 11 = .ok (.irem, 1) := by decide +kernel
theorem dX5_common_12 : decode cX5_common 12 = .ok (.invokestatic 146, 3) := by decide +kernel
theorem dX5_common_15 : decode cX5_common 15 = .ok (.ireturn, 1) := by decide +kernel
set_option maxRecDepth 20000 in
theorem ggX5_goes_X5_isIn : GoodIn wsX5_goes wsX5_isIn := goodIn_r _ [6] (by decide +kernel) (by decide +kernel)
set_option maxRecDepth 20000 in
theorem gX5_goes_X5_isIn : GoodIn wsX5_goes (va_wsS RX5 89 yX5_isIn wsX5_isIn) := goodIn_app (goodIn_of _ (by decide +kernel)) ggX5_goes_X5_isIn
set_option maxRecDepth 20000 in
theorem ggX5_goes_X5_refuse : GoodIn wsX5_goes wsX5_refuse := goodIn_r _ [10, 11, 62, 63, 64, 65, 66, 67, 68, 69, 70, 71, 72, 73, 74, 75] (by decide +kernel) (by decide +kernel)
set_option maxRecDepth 20000 in
theorem gX5_goes_X5_refuse : GoodIn wsX5_goes (wsV RX5 41 RX5 yX5_refuse wsX5_refuse) := goodIn_app (goodIn_of _ (by decide +kernel)) ggX5_goes_X5_refuse
set_option maxRecDepth 20000 in
theorem ggX5_goes_X5_within : GoodIn wsX5_goes wsX5_within := goodIn_r _ [14] (by decide +kernel) (by decide +kernel)
set_option maxRecDepth 20000 in
theorem gX5_goes_X5_within : GoodIn wsX5_goes (va_wsS RX5 82 yX5_within wsX5_within) := goodIn_app (goodIn_of _ (by decide +kernel)) ggX5_goes_X5_within
set_option maxRecDepth 20000 in
theorem ggX5_goes_X5_fresh : GoodIn wsX5_goes wsX5_fresh := goodIn_r _ [18, 1, 2, 19, 20, 5, 21, 22, 23, 24, 25, 26, 27, 62, 63, 64, 65, 66, 67, 68, 69, 70, 71, 72, 73, 74, 75] (by decide +kernel) (by decide +kernel)
set_option maxRecDepth 20000 in
theorem gX5_goes_X5_fresh : GoodIn wsX5_goes (wsV RX5 140 RX5 yX5_fresh wsX5_fresh) := goodIn_app (goodIn_of _ (by decide +kernel)) ggX5_goes_X5_fresh
set_option maxRecDepth 20000 in
theorem ggX5_goes_X5_goesOn : GoodIn wsX5_goes wsX5_goesOn := goodIn_r _ [31, 32, 33, 34, 5, 35, 36, 37, 38, 39, 40, 41, 42, 43, 25, 26, 27, 44, 45, 46, 47, 48, 49, 50, 51, 52, 53, 54, 55, 56, 57, 58, 62, 63, 64, 65, 66, 67, 68, 69, 70, 71, 72, 73, 74, 75] (by decide +kernel) (by decide +kernel)
set_option maxRecDepth 20000 in
theorem gX5_goes_X5_goesOn : GoodIn wsX5_goes (wsV RX5 127 RX5 yX5_goesOn wsX5_goesOn) := goodIn_app (goodIn_of _ (by decide +kernel)) ggX5_goes_X5_goesOn
set_option maxRecDepth 20000 in
theorem ggX5_goes_X5_common : GoodIn wsX5_goes wsX5_common := goodIn_r _ [61, 59, 60, 5] (by decide +kernel) (by decide +kernel)
set_option maxRecDepth 20000 in
theorem gX5_goes_X5_common : GoodIn wsX5_goes (va_wsS RX5 146 yX5_common wsX5_common) := goodIn_app (goodIn_of _ (by decide +kernel)) ggX5_goes_X5_common
theorem dX5_goes_0 : decode cX5_goes 0 = .ok (.iload_n 3, 1) := by decide +kernel
theorem dX5_goes_1 : decode cX5_goes 1 = .ok (.iconst 2, 1) := by decide +kernel
theorem dX5_goes_2 : decode cX5_goes 2 = .ok (.invokestatic 89, 3) := by decide +kernel
theorem dX5_goes_5 : decode cX5_goes 5 = .ok (.ifCond .ne 10, 3) := by decide +kernel
theorem dX5_goes_8 : decode cX5_goes 8 = .ok (.aload_n 0, 1) := by decide +kernel
theorem dX5_goes_9 : decode cX5_goes 9 = .ok (.bipush (-2), 2) := by decide +kernel
theorem dX5_goes_11 : decode cX5_goes 11 = .ok (.invokevirtual 41, 3) := by decide +kernel
theorem dX5_goes_14 : decode cX5_goes 14 = .ok (.ireturn, 1) := by decide +kernel
theorem dX5_goes_15 : decode cX5_goes 15 = .ok (.iload_n 1, 1) := by decide +kernel
theorem dX5_goes_16 : decode cX5_goes 16 = .ok (.iconst 1, 1) := by decide +kernel
theorem dX5_goes_17 : decode cX5_goes 17 = .ok (.if_icmp .lt 7, 3) := by decide +kernel
theorem dX5_goes_20 : decode cX5_goes 20 = .ok (.iload_n 2, 1) := by decide +kernel
theorem dX5_goes_21 : decode cX5_goes 21 = .ok (.ifCond .ge 8, 3) := by decide +kernel
theorem dX5_goes_24 : decode cX5_goes 24 = .ok (.bipush (-4), 2) := by decide +kernel
theorem dX5_goes_26 : decode cX5_goes 26 = .ok (.goto 21, 3) := by decide +kernel
theorem dX5_goes_29 : decode cX5_goes 29 = .ok (.iload_n 1, 1) := by decide +kernel
theorem dX5_goes_30 : decode cX5_goes 30 = .ok (.sipush 300, 3) := by decide +kernel
theorem dX5_goes_33 : decode cX5_goes 33 = .ok (.if_icmp .gt 8, 3) := by decide +kernel
theorem dX5_goes_36 : decode cX5_goes 36 = .ok (.iload_n 2, 1) := by decide +kernel
theorem dX5_goes_37 : decode cX5_goes 37 = .ok (.iconst 5, 1) := by decide +kernel
theorem dX5_goes_38 : decode cX5_goes 38 = .ok (.if_icmp .le 8, 3) := by decide +kernel
theorem dX5_goes_41 : decode cX5_goes 41 = .ok (.bipush (-6), 2) := by decide +kernel
theorem dX5_goes_43 : decode cX5_goes 43 = .ok (.goto 4, 3) := by decide +kernel
theorem dX5_goes_46 : decode cX5_goes 46 = .ok (.iconst 0, 1) := by decide +kernel
theorem dX5_goes_47 : decode cX5_goes 47 = .ok (.istore 4, 2) := by decide +kernel
theorem dX5_goes_49 : decode cX5_goes 49 = .ok (.iload 4, 2) := by decide +kernel
theorem dX5_goes_51 : decode cX5_goes 51 = .ok (.ifCond .eq 10, 3) := by decide +kernel
theorem dX5_goes_54 : decode cX5_goes 54 = .ok (.aload_n 0, 1) := by decide +kernel
theorem dX5_goes_55 : decode cX5_goes 55 = .ok (.iload 4, 2) := by decide +kernel
theorem dX5_goes_57 : decode cX5_goes 57 = .ok (.invokevirtual 41, 3) := by decide +kernel
theorem dX5_goes_60 : decode cX5_goes 60 = .ok (.ireturn, 1) := by decide +kernel
theorem dX5_goes_61 : decode cX5_goes 61 = .ok (.iconst 0, 1) := by decide +kernel
theorem dX5_goes_62 : decode cX5_goes 62 = .ok (.istore 5, 2) := by decide +kernel
theorem dX5_goes_64 : decode cX5_goes 64 = .ok (.iconst 0, 1) := by decide +kernel
theorem dX5_goes_65 : decode cX5_goes 65 = .ok (.istore 6, 2) := by decide +kernel
theorem dX5_goes_67 : decode cX5_goes 67 = .ok (.iload_n 2, 1) := by decide +kernel
theorem dX5_goes_68 : decode cX5_goes 68 = .ok (.ineg, 1) := by decide +kernel
theorem dX5_goes_69 : decode cX5_goes 69 = .ok (.istore 7, 2) := by decide +kernel
theorem dX5_goes_71 : decode cX5_goes 71 = .ok (.iload 7, 2) := by decide +kernel
theorem dX5_goes_73 : decode cX5_goes 73 = .ok (.iload_n 2, 1) := by decide +kernel
theorem dX5_goes_74 : decode cX5_goes 74 = .ok (.if_icmp .gt 118, 3) := by decide +kernel
theorem dX5_goes_77 : decode cX5_goes 77 = .ok (.iload_n 2, 1) := by decide +kernel
theorem dX5_goes_78 : decode cX5_goes 78 = .ok (.ineg, 1) := by decide +kernel
theorem dX5_goes_79 : decode cX5_goes 79 = .ok (.istore 8, 2) := by decide +kernel
theorem dX5_goes_81 : decode cX5_goes 81 = .ok (.iload 8, 2) := by decide +kernel
theorem dX5_goes_83 : decode cX5_goes 83 = .ok (.iload_n 2, 1) := by decide +kernel
theorem dX5_goes_84 : decode cX5_goes 84 = .ok (.if_icmp .gt 102, 3) := by decide +kernel
theorem dX5_goes_87 : decode cX5_goes 87 = .ok (.iinc 6 1, 3) := by decide +kernel
theorem dX5_goes_90 : decode cX5_goes 90 = .ok (.aload_n 0, 1) := by decide +kernel
theorem dX5_goes_91 : decode cX5_goes 91 = .ok (.getfield 13, 3) := by decide +kernel
theorem dX5_goes_94 : decode cX5_goes 94 = .ok (.iconst 1, 1) := by decide +kernel
theorem dX5_goes_95 : decode cX5_goes 95 = .ok (.iaload, 1) := by decide +kernel
theorem dX5_goes_96 : decode cX5_goes 96 = .ok (.iload 7, 2) := by decide +kernel
theorem dX5_goes_98 : decode cX5_goes 98 = .ok (.iadd, 1) := by decide +kernel
theorem dX5_goes_99 : decode cX5_goes 99 = .ok (.istore 9, 2) := by decide +kernel
theorem dX5_goes_101 : decode cX5_goes 101 = .ok (.aload_n 0, 1) := by decide +kernel
theorem dX5_goes_102 : decode cX5_goes 102 = .ok (.getfield 13, 3) := by decide +kernel
theorem dX5_goes_105 : decode cX5_goes 105 = .ok (.iconst 2, 1) := by decide +kernel
theorem dX5_goes_106 : decode cX5_goes 106 = .ok (.iaload, 1) := by decide +kernel
theorem dX5_goes_107 : decode cX5_goes 107 = .ok (.iload 8, 2) := by decide +kernel
theorem dX5_goes_109 : decode cX5_goes 109 = .ok (.iadd, 1) := by decide +kernel
theorem dX5_goes_110 : decode cX5_goes 110 = .ok (.istore 10, 2) := by decide +kernel
theorem dX5_goes_112 : decode cX5_goes 112 = .ok (.iload 9, 2) := by decide +kernel
theorem dX5_goes_114 : decode cX5_goes 114 = .ok (.iconst 1, 1) := by decide +kernel
theorem dX5_goes_115 : decode cX5_goes 115 = .ok (.bipush 99, 2) := by decide +kernel
theorem dX5_goes_117 : decode cX5_goes 117 = .ok (.invokestatic 82, 3) := by decide +kernel
theorem dX5_goes_120 : decode cX5_goes 120 = .ok (.ifCond .ne 60, 3) := by decide +kernel
theorem dX5_goes_123 : decode cX5_goes 123 = .ok (.iload 10, 2) := by decide +kernel
theorem dX5_goes_125 : decode cX5_goes 125 = .ok (.bipush 10, 2) := by decide +kernel
theorem dX5_goes_127 : decode cX5_goes 127 = .ok (.bipush 99, 2) := by decide +kernel
theorem dX5_goes_129 : decode cX5_goes 129 = .ok (.invokestatic 82, 3) := by decide +kernel
theorem dX5_goes_132 : decode cX5_goes 132 = .ok (.ifCond .eq 6, 3) := by decide +kernel
theorem dX5_goes_135 : decode cX5_goes 135 = .ok (.goto 45, 3) := by decide +kernel
theorem dX5_goes_138 : decode cX5_goes 138 = .ok (.aload_n 0, 1) := by decide +kernel
theorem dX5_goes_139 : decode cX5_goes 139 = .ok (.invokevirtual 140, 3) := by decide +kernel
theorem dX5_goes_142 : decode cX5_goes 142 = .ok (.aload_n 0, 1) := by decide +kernel
theorem dX5_goes_143 : decode cX5_goes 143 = .ok (.getfield 19, 3) := by decide +kernel
theorem dX5_goes_146 : decode cX5_goes 146 = .ok (.iconst 1, 1) := by decide +kernel
theorem dX5_goes_147 : decode cX5_goes 147 = .ok (.iload 9, 2) := by decide +kernel
theorem dX5_goes_149 : decode cX5_goes 149 = .ok (.iastore, 1) := by decide +kernel
theorem dX5_goes_150 : decode cX5_goes 150 = .ok (.aload_n 0, 1) := by decide +kernel
theorem dX5_goes_151 : decode cX5_goes 151 = .ok (.getfield 19, 3) := by decide +kernel
theorem dX5_goes_154 : decode cX5_goes 154 = .ok (.iconst 2, 1) := by decide +kernel
theorem dX5_goes_155 : decode cX5_goes 155 = .ok (.iload 10, 2) := by decide +kernel
theorem dX5_goes_157 : decode cX5_goes 157 = .ok (.iastore, 1) := by decide +kernel
theorem dX5_goes_158 : decode cX5_goes 158 = .ok (.iload 5, 2) := by decide +kernel
theorem dX5_goes_160 : decode cX5_goes 160 = .ok (.aload_n 0, 1) := by decide +kernel
theorem dX5_goes_161 : decode cX5_goes 161 = .ok (.aload_n 0, 1) := by decide +kernel
theorem dX5_goes_162 : decode cX5_goes 162 = .ok (.getfield 19, 3) := by decide +kernel
theorem dX5_goes_165 : decode cX5_goes 165 = .ok (.iload_n 1, 1) := by decide +kernel
theorem dX5_goes_166 : decode cX5_goes 166 = .ok (.invokevirtual 127, 3) := by decide +kernel
theorem dX5_goes_169 : decode cX5_goes 169 = .ok (.ifCond .le 7, 3) := by decide +kernel
theorem dX5_goes_172 : decode cX5_goes 172 = .ok (.iconst 1, 1) := by decide +kernel
theorem dX5_goes_173 : decode cX5_goes 173 = .ok (.goto 4, 3) := by decide +kernel
theorem dX5_goes_176 : decode cX5_goes 176 = .ok (.iconst 0, 1) := by decide +kernel
theorem dX5_goes_177 : decode cX5_goes 177 = .ok (.iadd, 1) := by decide +kernel
theorem dX5_goes_178 : decode cX5_goes 178 = .ok (.istore 5, 2) := by decide +kernel
theorem dX5_goes_180 : decode cX5_goes 180 = .ok (.iinc 8 1, 3) := by decide +kernel
theorem dX5_goes_183 : decode cX5_goes 183 = .ok (.goto (-102), 3) := by decide +kernel
theorem dX5_goes_186 : decode cX5_goes 186 = .ok (.iinc 7 1, 3) := by decide +kernel
theorem dX5_goes_189 : decode cX5_goes 189 = .ok (.goto (-118), 3) := by decide +kernel
theorem dX5_goes_192 : decode cX5_goes 192 = .ok (.iload 6, 2) := by decide +kernel
theorem dX5_goes_194 : decode cX5_goes 194 = .ok (.iload 5, 2) := by decide +kernel
theorem dX5_goes_196 : decode cX5_goes 196 = .ok (.invokestatic 146, 3) := by decide +kernel
theorem dX5_goes_199 : decode cX5_goes 199 = .ok (.istore 7, 2) := by decide +kernel
theorem dX5_goes_201 : decode cX5_goes 201 = .ok (.iload_n 3, 1) := by decide +kernel
theorem dX5_goes_202 : decode cX5_goes 202 = .ok (.ifCond .ne 11, 3) := by decide +kernel
theorem dX5_goes_205 : decode cX5_goes 205 = .ok (.iload 5, 2) := by decide +kernel
theorem dX5_goes_207 : decode cX5_goes 207 = .ok (.iload 7, 2) := by decide +kernel
theorem dX5_goes_209 : decode cX5_goes 209 = .ok (.idiv, 1) := by decide +kernel
theorem dX5_goes_210 : decode cX5_goes 210 = .ok (.goto 8, 3) := by decide +kernel
theorem dX5_goes_213 : decode cX5_goes 213 = .ok (.iload 6, 2) := by decide +kernel
theorem dX5_goes_215 : decode cX5_goes 215 = .ok (.iload 7, 2) := by decide +kernel
theorem dX5_goes_217 : decode cX5_goes 217 = .ok (.idiv, 1) := by decide +kernel
theorem dX5_goes_218 : decode cX5_goes 218 = .ok (.ireturn, 1) := by decide +kernel
set_option maxRecDepth 20000 in
theorem ggX5_bestRoom_X5_wrongRun : GoodIn wsX5_bestRoom wsX5_wrongRun := goodIn_r _ [5, 6, 7, 4, 8] (by decide +kernel) (by decide +kernel)
set_option maxRecDepth 20000 in
theorem gX5_bestRoom_X5_wrongRun : GoodIn wsX5_bestRoom (wsV RX5 134 RX5 yX5_wrongRun wsX5_wrongRun) := goodIn_app (goodIn_of _ (by decide +kernel)) ggX5_bestRoom_X5_wrongRun
set_option maxRecDepth 20000 in
theorem ggX5_bestRoom_X5_refuse : GoodIn wsX5_bestRoom wsX5_refuse := goodIn_r _ [12, 13, 64, 65, 66, 67, 68, 69, 70, 71, 72, 73, 74, 75, 76, 77] (by decide +kernel) (by decide +kernel)
set_option maxRecDepth 20000 in
theorem gX5_bestRoom_X5_refuse : GoodIn wsX5_bestRoom (wsV RX5 41 RX5 yX5_refuse wsX5_refuse) := goodIn_app (goodIn_of _ (by decide +kernel)) ggX5_bestRoom_X5_refuse
set_option maxRecDepth 20000 in
theorem ggX5_bestRoom_X5_freshBy : GoodIn wsX5_bestRoom wsX5_freshBy := goodIn_r _ [17, 18, 19, 20, 21, 22, 4, 23, 24, 25, 26, 27, 28, 29, 30, 31, 32, 33, 34, 35, 36, 37, 38, 39, 40, 41, 42, 43, 44, 45, 46, 47, 48, 49, 50, 51, 52, 53, 54, 55, 56, 57, 58, 59, 60, 61, 62, 63, 64, 65, 66, 67, 68, 69, 70, 71, 72, 73, 74, 75, 76, 77] (by decide +kernel) (by decide +kernel)
set_option maxRecDepth 20000 in
theorem gX5_bestRoom_X5_freshBy : GoodIn wsX5_bestRoom (wsV RX5 143 RX5 yX5_freshBy wsX5_freshBy) := goodIn_app (goodIn_of _ (by decide +kernel)) ggX5_bestRoom_X5_freshBy
theorem dX5_bestRoom_0 : decode cX5_bestRoom 0 = .ok (.aload_n 0, 1) := by decide +kernel
theorem dX5_bestRoom_1 : decode cX5_bestRoom 1 = .ok (.iload_n 1, 1) := by decide +kernel
theorem dX5_bestRoom_2 : decode cX5_bestRoom 2 = .ok (.invokevirtual 134, 3) := by decide +kernel
theorem dX5_bestRoom_5 : decode cX5_bestRoom 5 = .ok (.istore_n 2, 1) := by decide +kernel
theorem dX5_bestRoom_6 : decode cX5_bestRoom 6 = .ok (.iload_n 2, 1) := by decide +kernel
theorem dX5_bestRoom_7 : decode cX5_bestRoom 7 = .ok (.ifCond .eq 9, 3) := by decide +kernel
theorem dX5_bestRoom_10 : decode cX5_bestRoom 10 = .ok (.aload_n 0, 1) := by decide +kernel
theorem dX5_bestRoom_11 : decode cX5_bestRoom 11 = .ok (.iload_n 2, 1) := by decide +kernel
theorem dX5_bestRoom_12 : decode cX5_bestRoom 12 = .ok (.invokevirtual 41, 3) := by decide +kernel
theorem dX5_bestRoom_15 : decode cX5_bestRoom 15 = .ok (.ireturn, 1) := by decide +kernel
theorem dX5_bestRoom_16 : decode cX5_bestRoom 16 = .ok (.bipush (-9), 2) := by decide +kernel
theorem dX5_bestRoom_18 : decode cX5_bestRoom 18 = .ok (.istore_n 3, 1) := by decide +kernel
theorem dX5_bestRoom_19 : decode cX5_bestRoom 19 = .ok (.iconst 0, 1) := by decide +kernel
theorem dX5_bestRoom_20 : decode cX5_bestRoom 20 = .ok (.istore 4, 2) := by decide +kernel
theorem dX5_bestRoom_22 : decode cX5_bestRoom 22 = .ok (.bipush 100, 2) := by decide +kernel
theorem dX5_bestRoom_24 : decode cX5_bestRoom 24 = .ok (.istore 5, 2) := by decide +kernel
theorem dX5_bestRoom_26 : decode cX5_bestRoom 26 = .ok (.iload 5, 2) := by decide +kernel
theorem dX5_bestRoom_28 : decode cX5_bestRoom 28 = .ok (.sipush 400, 3) := by decide +kernel
theorem dX5_bestRoom_31 : decode cX5_bestRoom 31 = .ok (.if_icmp .gt 41, 3) := by decide +kernel
theorem dX5_bestRoom_34 : decode cX5_bestRoom 34 = .ok (.aload_n 0, 1) := by decide +kernel
theorem dX5_bestRoom_35 : decode cX5_bestRoom 35 = .ok (.bipush 11, 2) := by decide +kernel
theorem dX5_bestRoom_37 : decode cX5_bestRoom 37 = .ok (.iload 5, 2) := by decide +kernel
theorem dX5_bestRoom_39 : decode cX5_bestRoom 39 = .ok (.iload_n 1, 1) := by decide +kernel
theorem dX5_bestRoom_40 : decode cX5_bestRoom 40 = .ok (.invokevirtual 143, 3) := by decide +kernel
theorem dX5_bestRoom_43 : decode cX5_bestRoom 43 = .ok (.istore 6, 2) := by decide +kernel
theorem dX5_bestRoom_45 : decode cX5_bestRoom 45 = .ok (.iload_n 3, 1) := by decide +kernel
theorem dX5_bestRoom_46 : decode cX5_bestRoom 46 = .ok (.ifCond .lt 13, 3) := by decide +kernel
theorem dX5_bestRoom_49 : decode cX5_bestRoom 49 = .ok (.iload 6, 2) := by decide +kernel
theorem dX5_bestRoom_51 : decode cX5_bestRoom 51 = .ok (.iload 4, 2) := by decide +kernel
theorem dX5_bestRoom_53 : decode cX5_bestRoom 53 = .ok (.if_icmp .gt 6, 3) := by decide +kernel
theorem dX5_bestRoom_56 : decode cX5_bestRoom 56 = .ok (.goto 10, 3) := by decide +kernel
theorem dX5_bestRoom_59 : decode cX5_bestRoom 59 = .ok (.iload 5, 2) := by decide +kernel
theorem dX5_bestRoom_61 : decode cX5_bestRoom 61 = .ok (.istore_n 3, 1) := by decide +kernel
theorem dX5_bestRoom_62 : decode cX5_bestRoom 62 = .ok (.iload 6, 2) := by decide +kernel
theorem dX5_bestRoom_64 : decode cX5_bestRoom 64 = .ok (.istore 4, 2) := by decide +kernel
theorem dX5_bestRoom_66 : decode cX5_bestRoom 66 = .ok (.iinc 5 50, 3) := by decide +kernel
theorem dX5_bestRoom_69 : decode cX5_bestRoom 69 = .ok (.goto (-43), 3) := by decide +kernel
theorem dX5_bestRoom_72 : decode cX5_bestRoom 72 = .ok (.iload_n 3, 1) := by decide +kernel
theorem dX5_bestRoom_73 : decode cX5_bestRoom 73 = .ok (.ireturn, 1) := by decide +kernel
set_option maxRecDepth 20000 in
theorem ggX5_latest_X5_wrongRun : GoodIn wsX5_latest wsX5_wrongRun := goodIn_r _ [6, 7, 8, 5, 9] (by decide +kernel) (by decide +kernel)
set_option maxRecDepth 20000 in
theorem gX5_latest_X5_wrongRun : GoodIn wsX5_latest (wsV RX5 134 RX5 yX5_wrongRun wsX5_wrongRun) := goodIn_app (goodIn_of _ (by decide +kernel)) ggX5_latest_X5_wrongRun
set_option maxRecDepth 20000 in
theorem ggX5_latest_X5_refuse : GoodIn wsX5_latest wsX5_refuse := goodIn_r _ [13, 14, 56, 57, 58, 59, 60, 61, 62, 63, 64, 65, 66, 67, 68, 69] (by decide +kernel) (by decide +kernel)
set_option maxRecDepth 20000 in
theorem gX5_latest_X5_refuse : GoodIn wsX5_latest (wsV RX5 41 RX5 yX5_refuse wsX5_refuse) := goodIn_app (goodIn_of _ (by decide +kernel)) ggX5_latest_X5_refuse
set_option maxRecDepth 20000 in
theorem ggX5_latest_X5_fresh : GoodIn wsX5_latest wsX5_fresh := goodIn_r _ [18, 19, 1, 20, 21, 5, 22, 23, 24, 25, 26, 27, 28, 56, 57, 58, 59, 60, 61, 62, 63, 64, 65, 66, 67, 68, 69] (by decide +kernel) (by decide +kernel)
set_option maxRecDepth 20000 in
theorem gX5_latest_X5_fresh : GoodIn wsX5_latest (wsV RX5 140 RX5 yX5_fresh wsX5_fresh) := goodIn_app (goodIn_of _ (by decide +kernel)) ggX5_latest_X5_fresh
set_option maxRecDepth 20000 in
theorem ggX5_latest_X5_tenth : GoodIn wsX5_latest wsX5_tenth := goodIn_r _ [32, 33, 34, 35, 5, 36, 37, 38, 39, 40, 26, 27, 28, 41, 42, 43, 44, 45, 46, 47, 48, 49, 50, 51, 52, 53, 54, 55, 56, 57, 58, 59, 60, 61, 62, 63, 64, 65, 66, 67, 68, 69] (by decide +kernel) (by decide +kernel)
set_option maxRecDepth 20000 in
theorem gX5_latest_X5_tenth : GoodIn wsX5_latest (wsV RX5 124 RX5 yX5_tenth wsX5_tenth) := goodIn_app (goodIn_of _ (by decide +kernel)) ggX5_latest_X5_tenth
theorem dX5_latest_0 : decode cX5_latest 0 = .ok (.aload_n 0, 1) := by decide +kernel
theorem dX5_latest_1 : decode cX5_latest 1 = .ok (.iload_n 1, 1) := by decide +kernel
theorem dX5_latest_2 : decode cX5_latest 2 = .ok (.invokevirtual 134, 3) := by decide +kernel
theorem dX5_latest_5 : decode cX5_latest 5 = .ok (.istore_n 2, 1) := by decide +kernel
theorem dX5_latest_6 : decode cX5_latest 6 = .ok (.iload_n 2, 1) := by decide +kernel
theorem dX5_latest_7 : decode cX5_latest 7 = .ok (.ifCond .eq 9, 3) := by decide +kernel
theorem dX5_latest_10 : decode cX5_latest 10 = .ok (.aload_n 0, 1) := by decide +kernel
theorem dX5_latest_11 : decode cX5_latest 11 = .ok (.iload_n 2, 1) := by decide +kernel
theorem dX5_latest_12 : decode cX5_latest 12 = .ok (.invokevirtual 41, 3) := by decide +kernel
theorem dX5_latest_15 : decode cX5_latest 15 = .ok (.ireturn, 1) := by decide +kernel
theorem dX5_latest_16 : decode cX5_latest 16 = .ok (.bipush (-9), 2) := by decide +kernel
theorem dX5_latest_18 : decode cX5_latest 18 = .ok (.istore_n 3, 1) := by decide +kernel
theorem dX5_latest_19 : decode cX5_latest 19 = .ok (.bipush (-9), 2) := by decide +kernel
theorem dX5_latest_21 : decode cX5_latest 21 = .ok (.istore 4, 2) := by decide +kernel
theorem dX5_latest_23 : decode cX5_latest 23 = .ok (.iconst 1, 1) := by decide +kernel
theorem dX5_latest_24 : decode cX5_latest 24 = .ok (.istore 5, 2) := by decide +kernel
theorem dX5_latest_26 : decode cX5_latest 26 = .ok (.iload 5, 2) := by decide +kernel
theorem dX5_latest_28 : decode cX5_latest 28 = .ok (.iconst 5, 1) := by decide +kernel
theorem dX5_latest_29 : decode cX5_latest 29 = .ok (.if_icmp .ge 96, 3) := by decide +kernel
theorem dX5_latest_32 : decode cX5_latest 32 = .ok (.aload_n 0, 1) := by decide +kernel
theorem dX5_latest_33 : decode cX5_latest 33 = .ok (.invokevirtual 140, 3) := by decide +kernel
theorem dX5_latest_36 : decode cX5_latest 36 = .ok (.aload_n 0, 1) := by decide +kernel
theorem dX5_latest_37 : decode cX5_latest 37 = .ok (.getfield 19, 3) := by decide +kernel
theorem dX5_latest_40 : decode cX5_latest 40 = .ok (.bipush 6, 2) := by decide +kernel
theorem dX5_latest_42 : decode cX5_latest 42 = .ok (.iload 5, 2) := by decide +kernel
theorem dX5_latest_44 : decode cX5_latest 44 = .ok (.iastore, 1) := by decide +kernel
theorem dX5_latest_45 : decode cX5_latest 45 = .ok (.bipush (-9), 2) := by decide +kernel
theorem dX5_latest_47 : decode cX5_latest 47 = .ok (.istore 6, 2) := by decide +kernel
theorem dX5_latest_49 : decode cX5_latest 49 = .ok (.iconst 0, 1) := by decide +kernel
theorem dX5_latest_50 : decode cX5_latest 50 = .ok (.istore 7, 2) := by decide +kernel
theorem dX5_latest_52 : decode cX5_latest 52 = .ok (.iload 7, 2) := by decide +kernel
theorem dX5_latest_54 : decode cX5_latest 54 = .ok (.iload_n 1, 1) := by decide +kernel
theorem dX5_latest_55 : decode cX5_latest 55 = .ok (.if_icmp .ge 47, 3) := by decide +kernel
theorem dX5_latest_58 : decode cX5_latest 58 = .ok (.aload_n 0, 1) := by decide +kernel
theorem dX5_latest_59 : decode cX5_latest 59 = .ok (.getfield 19, 3) := by decide +kernel
theorem dX5_latest_62 : decode cX5_latest 62 = .ok (.bipush 23, 2) := by decide +kernel
theorem dX5_latest_64 : decode cX5_latest 64 = .ok (.iaload, 1) := by decide +kernel
theorem dX5_latest_65 : decode cX5_latest 65 = .ok (.istore 8, 2) := by decide +kernel
theorem dX5_latest_67 : decode cX5_latest 67 = .ok (.aload_n 0, 1) := by decide +kernel
theorem dX5_latest_68 : decode cX5_latest 68 = .ok (.aload_n 0, 1) := by decide +kernel
theorem dX5_latest_69 : decode cX5_latest 69 = .ok (.getfield 19, 3) := by decide +kernel
theorem dX5_latest_72 : decode cX5_latest 72 = .ok (.invokevirtual 124, 3) := by decide +kernel
theorem dX5_latest_75 : decode cX5_latest 75 = .ok (.aload_n 0, 1) := by decide +kernel
theorem dX5_latest_76 : decode cX5_latest 76 = .ok (.getfield 19, 3) := by decide +kernel
theorem dX5_latest_79 : decode cX5_latest 79 = .ok (.bipush 23, 2) := by decide +kernel
theorem dX5_latest_81 : decode cX5_latest 81 = .ok (.iaload, 1) := by decide +kernel
theorem dX5_latest_82 : decode cX5_latest 82 = .ok (.iload 8, 2) := by decide +kernel
theorem dX5_latest_84 : decode cX5_latest 84 = .ok (.if_icmp .le 8, 3) := by decide +kernel
theorem dX5_latest_87 : decode cX5_latest 87 = .ok (.iload 7, 2) := by decide +kernel
theorem dX5_latest_89 : decode cX5_latest 89 = .ok (.goto 5, 3) := by decide +kernel
theorem dX5_latest_92 : decode cX5_latest 92 = .ok (.iload 6, 2) := by decide +kernel
theorem dX5_latest_94 : decode cX5_latest 94 = .ok (.istore 6, 2) := by decide +kernel
theorem dX5_latest_96 : decode cX5_latest 96 = .ok (.iinc 7 1, 3) := by decide +kernel
theorem dX5_latest_99 : decode cX5_latest 99 = .ok (.goto (-47), 3) := by decide +kernel
theorem dX5_latest_102 : decode cX5_latest 102 = .ok (.iload 6, 2) := by decide +kernel
theorem dX5_latest_104 : decode cX5_latest 104 = .ok (.iload 4, 2) := by decide +kernel
theorem dX5_latest_106 : decode cX5_latest 106 = .ok (.if_icmp .gt 6, 3) := by decide +kernel
theorem dX5_latest_109 : decode cX5_latest 109 = .ok (.goto 10, 3) := by decide +kernel
theorem dX5_latest_112 : decode cX5_latest 112 = .ok (.iload 5, 2) := by decide +kernel
theorem dX5_latest_114 : decode cX5_latest 114 = .ok (.istore_n 3, 1) := by decide +kernel
theorem dX5_latest_115 : decode cX5_latest 115 = .ok (.iload 6, 2) := by decide +kernel
theorem dX5_latest_117 : decode cX5_latest 117 = .ok (.istore 4, 2) := by decide +kernel
theorem dX5_latest_119 : decode cX5_latest 119 = .ok (.iinc 5 1, 3) := by decide +kernel
theorem dX5_latest_122 : decode cX5_latest 122 = .ok (.goto (-96), 3) := by decide +kernel
theorem dX5_latest_125 : decode cX5_latest 125 = .ok (.iload_n 3, 1) := by decide +kernel
theorem dX5_latest_126 : decode cX5_latest 126 = .ok (.ireturn, 1) := by decide +kernel
theorem dX5_gaps_0 : decode cX5_gaps 0 = .ok (.aload_n 0, 1) := by decide +kernel
theorem dX5_gaps_1 : decode cX5_gaps 1 = .ok (.getfield 13, 3) := by decide +kernel
theorem dX5_gaps_4 : decode cX5_gaps 4 = .ok (.bipush 89, 2) := by decide +kernel
theorem dX5_gaps_6 : decode cX5_gaps 6 = .ok (.iaload, 1) := by decide +kernel
theorem dX5_gaps_7 : decode cX5_gaps 7 = .ok (.iconst 2, 1) := by decide +kernel
theorem dX5_gaps_8 : decode cX5_gaps 8 = .ok (.if_icmp .ge 7, 3) := by decide +kernel
theorem dX5_gaps_11 : decode cX5_gaps 11 = .ok (.iconst 0, 1) := by decide +kernel
theorem dX5_gaps_12 : decode cX5_gaps 12 = .ok (.goto 12, 3) := by decide +kernel
theorem dX5_gaps_15 : decode cX5_gaps 15 = .ok (.aload_n 0, 1) := by decide +kernel
theorem dX5_gaps_16 : decode cX5_gaps 16 = .ok (.getfield 13, 3) := by decide +kernel
theorem dX5_gaps_19 : decode cX5_gaps 19 = .ok (.bipush 89, 2) := by decide +kernel
theorem dX5_gaps_21 : decode cX5_gaps 21 = .ok (.iaload, 1) := by decide +kernel
theorem dX5_gaps_22 : decode cX5_gaps 22 = .ok (.iconst 1, 1) := by decide +kernel
theorem dX5_gaps_23 : decode cX5_gaps 23 = .ok (.isub, 1) := by decide +kernel
theorem dX5_gaps_24 : decode cX5_gaps 24 = .ok (.ireturn, 1) := by decide +kernel
theorem dX5_gapOf_0 : decode cX5_gapOf 0 = .ok (.aload_n 0, 1) := by decide +kernel
theorem dX5_gapOf_1 : decode cX5_gapOf 1 = .ok (.bipush 29, 2) := by decide +kernel
theorem dX5_gapOf_3 : decode cX5_gapOf 3 = .ok (.iload_n 1, 1) := by decide +kernel
theorem dX5_gapOf_4 : decode cX5_gapOf 4 = .ok (.iadd, 1) := by decide +kernel
theorem dX5_gapOf_5 : decode cX5_gapOf 5 = .ok (.iconst 1, 1) := by decide +kernel
theorem dX5_gapOf_6 : decode cX5_gapOf 6 = .ok (.iadd, 1) := by decide +kernel
theorem dX5_gapOf_7 : decode cX5_gapOf 7 = .ok (.iaload, 1) := by decide +kernel
theorem dX5_gapOf_8 : decode cX5_gapOf 8 = .ok (.aload_n 0, 1) := by decide +kernel
theorem dX5_gapOf_9 : decode cX5_gapOf 9 = .ok (.bipush 29, 2) := by decide +kernel
theorem dX5_gapOf_11 : decode cX5_gapOf 11 = .ok (.iload_n 1, 1) := by decide +kernel
theorem dX5_gapOf_12 : decode cX5_gapOf 12 = .ok (.iadd, 1) := by decide +kernel
theorem dX5_gapOf_13 : decode cX5_gapOf 13 = .ok (.iaload, 1) := by decide +kernel
theorem dX5_gapOf_14 : decode cX5_gapOf 14 = .ok (.isub, 1) := by decide +kernel
theorem dX5_gapOf_15 : decode cX5_gapOf 15 = .ok (.ireturn, 1) := by decide +kernel
set_option maxRecDepth 20000 in
theorem ggX5_dot_X5_refuse : GoodIn wsX5_dot wsX5_refuse := goodIn_r _ [6, 7, 8, 9, 10, 11, 12, 13, 14, 15, 16, 17, 18, 19, 20, 21] (by decide +kernel) (by decide +kernel)
set_option maxRecDepth 20000 in
theorem gX5_dot_X5_refuse : GoodIn wsX5_dot (wsV RX5 41 RX5 yX5_refuse wsX5_refuse) := goodIn_app (goodIn_of _ (by decide +kernel)) ggX5_dot_X5_refuse
theorem dX5_dot_0 : decode cX5_dot 0 = .ok (.iload_n 1, 1) := by decide +kernel
theorem dX5_dot_1 : decode cX5_dot 1 = .ok (.ifCond .ge 12, 3) := by decide +kernel
theorem dX5_dot_4 : decode cX5_dot 4 = .ok (.aload_n 0, 1) := by decide +kernel
theorem dX5_dot_5 : decode cX5_dot 5 = .ok (.bipush (-4), 2) := by decide +kernel
theorem dX5_dot_7 : decode cX5_dot 7 = .ok (.invokevirtual 41, 3) := by decide +kernel
theorem dX5_dot_10 : decode cX5_dot 10 = .ok (.goto 28, 3) := by decide +kernel
theorem dX5_dot_13 : decode cX5_dot 13 = .ok (.iload_n 1, 1) := by decide +kernel
theorem dX5_dot_14 : decode cX5_dot 14 = .ok (.aload_n 0, 1) := by decide +kernel
theorem dX5_dot_15 : decode cX5_dot 15 = .ok (.getfield 13, 3) := by decide +kernel
theorem dX5_dot_18 : decode cX5_dot 18 = .ok (.bipush 89, 2) := by decide +kernel
theorem dX5_dot_20 : decode cX5_dot 20 = .ok (.iaload, 1) := by decide +kernel
theorem dX5_dot_21 : decode cX5_dot 21 = .ok (.if_icmp .ge 15, 3) := by decide +kernel
theorem dX5_dot_24 : decode cX5_dot 24 = .ok (.aload_n 0, 1) := by decide +kernel
theorem dX5_dot_25 : decode cX5_dot 25 = .ok (.getfield 13, 3) := by decide +kernel
theorem dX5_dot_28 : decode cX5_dot 28 = .ok (.bipush 29, 2) := by decide +kernel
theorem dX5_dot_30 : decode cX5_dot 30 = .ok (.iload_n 1, 1) := by decide +kernel
theorem dX5_dot_31 : decode cX5_dot 31 = .ok (.iadd, 1) := by decide +kernel
theorem dX5_dot_32 : decode cX5_dot 32 = .ok (.iaload, 1) := by decide +kernel
theorem dX5_dot_33 : decode cX5_dot 33 = .ok (.goto 5, 3) := by decide +kernel
theorem dX5_dot_36 : decode cX5_dot 36 = .ok (.bipush (-9), 2) := by decide +kernel
theorem dX5_dot_38 : decode cX5_dot 38 = .ok (.ireturn, 1) := by decide +kernel
theorem dX5_amount_0 : decode cX5_amount 0 = .ok (.iload_n 0, 1) := by decide +kernel
theorem dX5_amount_1 : decode cX5_amount 1 = .ok (.ifCond .ge 8, 3) := by decide +kernel
theorem dX5_amount_4 : decode cX5_amount 4 = .ok (.iload_n 0, 1) := by decide +kernel
theorem dX5_amount_5 : decode cX5_amount 5 = .ok (.ineg, 1) := by decide +kernel
theorem dX5_amount_6 : decode cX5_amount 6 = .ok (.goto 4, 3) := by decide +kernel
theorem dX5_amount_9 : decode cX5_amount 9 = .ok (.iload_n 0, 1) := by decide +kernel
theorem dX5_amount_10 : decode cX5_amount 10 = .ok (.ireturn, 1) := by decide +kernel
set_option maxRecDepth 20000 in
theorem ggX5_even_X5_refuse : GoodIn wsX5_even wsX5_refuse := goodIn_r _ [6, 7, 18, 19, 20, 21, 22, 23, 24, 25, 26, 27, 28, 29, 30, 31] (by decide +kernel) (by decide +kernel)
set_option maxRecDepth 20000 in
theorem gX5_even_X5_refuse : GoodIn wsX5_even (wsV RX5 41 RX5 yX5_refuse wsX5_refuse) := goodIn_app (goodIn_of _ (by decide +kernel)) ggX5_even_X5_refuse
set_option maxRecDepth 20000 in
theorem ggX5_even_X5_gaps : GoodIn wsX5_even wsX5_gaps := goodIn_r _ [11, 1, 18, 19, 20, 21, 22, 23, 24, 25, 26, 27, 28, 29, 30, 31] (by decide +kernel) (by decide +kernel)
set_option maxRecDepth 20000 in
theorem gX5_even_X5_gaps : GoodIn wsX5_even (wsV RX5 149 RX5 yX5_gaps wsX5_gaps) := goodIn_app (goodIn_of _ (by decide +kernel)) ggX5_even_X5_gaps
set_option maxRecDepth 20000 in
theorem ggX5_even_X5_gapOf : GoodIn wsX5_even wsX5_gapOf := goodIn_r _ [14] (by decide +kernel) (by decide +kernel)
set_option maxRecDepth 20000 in
theorem gX5_even_X5_gapOf : GoodIn wsX5_even (va_wsS RX5 152 yX5_gapOf wsX5_gapOf) := goodIn_app (goodIn_of _ (by decide +kernel)) ggX5_even_X5_gapOf
set_option maxRecDepth 20000 in
theorem ggX5_even_X5_amount : GoodIn wsX5_even wsX5_amount := goodIn_r _ [17] (by decide +kernel) (by decide +kernel)
set_option maxRecDepth 20000 in
theorem gX5_even_X5_amount : GoodIn wsX5_even (va_wsS RX5 155 yX5_amount wsX5_amount) := goodIn_app (goodIn_of _ (by decide +kernel)) ggX5_even_X5_amount
theorem dX5_even_0 : decode cX5_even 0 = .ok (.iload_n 1, 1) := by decide +kernel
theorem dX5_even_1 : decode cX5_even 1 = .ok (.ifCond .ge 10, 3) := by decide +kernel
theorem dX5_even_4 : decode cX5_even 4 = .ok (.aload_n 0, 1) := by decide +kernel
theorem dX5_even_5 : decode cX5_even 5 = .ok (.bipush (-4), 2) := by decide +kernel
theorem dX5_even_7 : decode cX5_even 7 = .ok (.invokevirtual 41, 3) := by decide +kernel
theorem dX5_even_10 : decode cX5_even 10 = .ok (.ireturn, 1) := by decide +kernel
theorem dX5_even_11 : decode cX5_even 11 = .ok (.iconst 1, 1) := by decide +kernel
theorem dX5_even_12 : decode cX5_even 12 = .ok (.istore_n 2, 1) := by decide +kernel
theorem dX5_even_13 : decode cX5_even 13 = .ok (.iload_n 2, 1) := by decide +kernel
theorem dX5_even_14 : decode cX5_even 14 = .ok (.aload_n 0, 1) := by decide +kernel
theorem dX5_even_15 : decode cX5_even 15 = .ok (.invokevirtual 149, 3) := by decide +kernel
theorem dX5_even_18 : decode cX5_even 18 = .ok (.if_icmp .ge 37, 3) := by decide +kernel
theorem dX5_even_21 : decode cX5_even 21 = .ok (.aload_n 0, 1) := by decide +kernel
theorem dX5_even_22 : decode cX5_even 22 = .ok (.getfield 13, 3) := by decide +kernel
theorem dX5_even_25 : decode cX5_even 25 = .ok (.iload_n 2, 1) := by decide +kernel
theorem dX5_even_26 : decode cX5_even 26 = .ok (.invokestatic 152, 3) := by decide +kernel
theorem dX5_even_29 : decode cX5_even 29 = .ok (.aload_n 0, 1) := by decide +kernel
theorem dX5_even_30 : decode cX5_even 30 = .ok (.getfield 13, 3) := by decide +kernel
theorem dX5_even_33 : decode cX5_even 33 = .ok (.iload_n 2, 1) := by decide +kernel
theorem dX5_even_34 : decode cX5_even 34 = .ok (.iconst 1, 1) := by decide +kernel
theorem dX5_even_35 : decode cX5_even 35 = .ok (.isub, 1) := by decide +kernel
theorem dX5_even_36 : decode cX5_even 36 = .ok (.invokestatic 152, 3) := by decide +kernel
theorem dX5_even_39 : decode cX5_even 39 = .ok (.isub, 1) := by decide +kernel
theorem dX5_even_40 : decode cX5_even 40 = .ok (.invokestatic 155, 3) := by decide +kernel
theorem dX5_even_43 : decode cX5_even 43 = .ok (.iload_n 1, 1) := by decide +kernel
theorem dX5_even_44 : decode cX5_even 44 = .ok (.if_icmp .le 5, 3) := by decide +kernel
theorem dX5_even_47 : decode cX5_even 47 = .ok (.iload_n 2, 1) := by decide +kernel
theorem dX5_even_48 : decode cX5_even 48 = .ok (.ireturn, 1) := by decide +kernel
theorem dX5_even_49 : decode cX5_even 49 = .ok (.iinc 2 1, 3) := by decide +kernel
theorem dX5_even_52 : decode cX5_even 52 = .ok (.goto (-39), 3) := by decide +kernel
theorem dX5_even_55 : decode cX5_even 55 = .ok (.bipush (-9), 2) := by decide +kernel
theorem dX5_even_57 : decode cX5_even 57 = .ok (.ireturn, 1) := by decide +kernel
set_option maxRecDepth 20000 in
theorem ggX5_longer_X5_isIn : GoodIn wsX5_longer wsX5_isIn := goodIn_r _ [5] (by decide +kernel) (by decide +kernel)
set_option maxRecDepth 20000 in
theorem gX5_longer_X5_isIn : GoodIn wsX5_longer (va_wsS RX5 89 yX5_isIn wsX5_isIn) := goodIn_app (goodIn_of _ (by decide +kernel)) ggX5_longer_X5_isIn
set_option maxRecDepth 20000 in
theorem ggX5_longer_X5_refuse : GoodIn wsX5_longer wsX5_refuse := goodIn_r _ [9, 10, 18, 19, 20, 21, 22, 23, 24, 25, 26, 27, 28, 29, 30, 31] (by decide +kernel) (by decide +kernel)
set_option maxRecDepth 20000 in
theorem gX5_longer_X5_refuse : GoodIn wsX5_longer (wsV RX5 41 RX5 yX5_refuse wsX5_refuse) := goodIn_app (goodIn_of _ (by decide +kernel)) ggX5_longer_X5_refuse
set_option maxRecDepth 20000 in
theorem ggX5_longer_X5_gaps : GoodIn wsX5_longer wsX5_gaps := goodIn_r _ [14, 1, 18, 19, 20, 21, 22, 23, 24, 25, 26, 27, 28, 29, 30, 31] (by decide +kernel) (by decide +kernel)
set_option maxRecDepth 20000 in
theorem gX5_longer_X5_gaps : GoodIn wsX5_longer (wsV RX5 149 RX5 yX5_gaps wsX5_gaps) := goodIn_app (goodIn_of _ (by decide +kernel)) ggX5_longer_X5_gaps
set_option maxRecDepth 20000 in
theorem ggX5_longer_X5_gapOf : GoodIn wsX5_longer wsX5_gapOf := goodIn_r _ [17] (by decide +kernel) (by decide +kernel)
set_option maxRecDepth 20000 in
theorem gX5_longer_X5_gapOf : GoodIn wsX5_longer (va_wsS RX5 152 yX5_gapOf wsX5_gapOf) := goodIn_app (goodIn_of _ (by decide +kernel)) ggX5_longer_X5_gapOf
theorem dX5_longer_0 : decode cX5_longer 0 = .ok (.iload_n 1, 1) := by decide +kernel
theorem dX5_longer_1 : decode cX5_longer 1 = .ok (.iconst 2, 1) := by decide +kernel
theorem dX5_longer_2 : decode cX5_longer 2 = .ok (.invokestatic 89, 3) := by decide +kernel
theorem dX5_longer_5 : decode cX5_longer 5 = .ok (.ifCond .ne 10, 3) := by decide +kernel
theorem dX5_longer_8 : decode cX5_longer 8 = .ok (.aload_n 0, 1) := by decide +kernel
theorem dX5_longer_9 : decode cX5_longer 9 = .ok (.bipush (-2), 2) := by decide +kernel
theorem dX5_longer_11 : decode cX5_longer 11 = .ok (.invokevirtual 41, 3) := by decide +kernel
theorem dX5_longer_14 : decode cX5_longer 14 = .ok (.ireturn, 1) := by decide +kernel
theorem dX5_longer_15 : decode cX5_longer 15 = .ok (.iconst 0, 1) := by decide +kernel
theorem dX5_longer_16 : decode cX5_longer 16 = .ok (.istore_n 2, 1) := by decide +kernel
theorem dX5_longer_17 : decode cX5_longer 17 = .ok (.iconst 1, 1) := by decide +kernel
theorem dX5_longer_18 : decode cX5_longer 18 = .ok (.istore_n 3, 1) := by decide +kernel
theorem dX5_longer_19 : decode cX5_longer 19 = .ok (.iload_n 3, 1) := by decide +kernel
theorem dX5_longer_20 : decode cX5_longer 20 = .ok (.aload_n 0, 1) := by decide +kernel
theorem dX5_longer_21 : decode cX5_longer 21 = .ok (.invokevirtual 149, 3) := by decide +kernel
theorem dX5_longer_24 : decode cX5_longer 24 = .ok (.if_icmp .ge 57, 3) := by decide +kernel
theorem dX5_longer_27 : decode cX5_longer 27 = .ok (.aload_n 0, 1) := by decide +kernel
theorem dX5_longer_28 : decode cX5_longer 28 = .ok (.getfield 13, 3) := by decide +kernel
theorem dX5_longer_31 : decode cX5_longer 31 = .ok (.iload_n 3, 1) := by decide +kernel
theorem dX5_longer_32 : decode cX5_longer 32 = .ok (.invokestatic 152, 3) := by decide +kernel
theorem dX5_longer_35 : decode cX5_longer 35 = .ok (.aload_n 0, 1) := by decide +kernel
theorem dX5_longer_36 : decode cX5_longer 36 = .ok (.getfield 13, 3) := by decide +kernel
theorem dX5_longer_39 : decode cX5_longer 39 = .ok (.iload_n 3, 1) := by decide +kernel
theorem dX5_longer_40 : decode cX5_longer 40 = .ok (.iconst 1, 1) := by decide +kernel
theorem dX5_longer_41 : decode cX5_longer 41 = .ok (.isub, 1) := by decide +kernel
theorem dX5_longer_42 : decode cX5_longer 42 = .ok (.invokestatic 152, 3) := by decide +kernel
theorem dX5_longer_45 : decode cX5_longer 45 = .ok (.isub, 1) := by decide +kernel
theorem dX5_longer_46 : decode cX5_longer 46 = .ok (.istore 4, 2) := by decide +kernel
theorem dX5_longer_48 : decode cX5_longer 48 = .ok (.iload_n 2, 1) := by decide +kernel
theorem dX5_longer_49 : decode cX5_longer 49 = .ok (.iload_n 1, 1) := by decide +kernel
theorem dX5_longer_50 : decode cX5_longer 50 = .ok (.ifCond .ne 8, 3) := by decide +kernel
theorem dX5_longer_53 : decode cX5_longer 53 = .ok (.iload 4, 2) := by decide +kernel
theorem dX5_longer_55 : decode cX5_longer 55 = .ok (.ifCond .gt 13, 3) := by decide +kernel
theorem dX5_longer_58 : decode cX5_longer 58 = .ok (.iload_n 1, 1) := by decide +kernel
theorem dX5_longer_59 : decode cX5_longer 59 = .ok (.iconst 1, 1) := by decide +kernel
theorem dX5_longer_60 : decode cX5_longer 60 = .ok (.if_icmp .ne 12, 3) := by decide +kernel
theorem dX5_longer_63 : decode cX5_longer 63 = .ok (.iload 4, 2) := by decide +kernel
theorem dX5_longer_65 : decode cX5_longer 65 = .ok (.ifCond .ge 7, 3) := by decide +kernel
theorem dX5_longer_68 : decode cX5_longer 68 = .ok (.iconst 1, 1) := by decide +kernel
theorem dX5_longer_69 : decode cX5_longer 69 = .ok (.goto 4, 3) := by decide +kernel
theorem dX5_longer_72 : decode cX5_longer 72 = .ok (.iconst 0, 1) := by decide +kernel
theorem dX5_longer_73 : decode cX5_longer 73 = .ok (.iadd, 1) := by decide +kernel
theorem dX5_longer_74 : decode cX5_longer 74 = .ok (.istore_n 2, 1) := by decide +kernel
theorem dX5_longer_75 : decode cX5_longer 75 = .ok (.iinc 3 1, 3) := by decide +kernel
theorem dX5_longer_78 : decode cX5_longer 78 = .ok (.goto (-59), 3) := by decide +kernel
theorem dX5_longer_81 : decode cX5_longer 81 = .ok (.iload_n 2, 1) := by decide +kernel
theorem dX5_longer_82 : decode cX5_longer 82 = .ok (.ireturn, 1) := by decide +kernel
set_option maxRecDepth 20000 in
theorem ggX5_slow_X5_within : GoodIn wsX5_slow wsX5_within := goodIn_r _ [5] (by decide +kernel) (by decide +kernel)
set_option maxRecDepth 20000 in
theorem gX5_slow_X5_within : GoodIn wsX5_slow (va_wsS RX5 82 yX5_within wsX5_within) := goodIn_app (goodIn_of _ (by decide +kernel)) ggX5_slow_X5_within
set_option maxRecDepth 20000 in
theorem ggX5_slow_X5_refuse : GoodIn wsX5_slow wsX5_refuse := goodIn_r _ [9, 10, 18, 19, 20, 21, 22, 23, 24, 25, 26, 27, 28, 29, 30, 31] (by decide +kernel) (by decide +kernel)
set_option maxRecDepth 20000 in
theorem gX5_slow_X5_refuse : GoodIn wsX5_slow (wsV RX5 41 RX5 yX5_refuse wsX5_refuse) := goodIn_app (goodIn_of _ (by decide +kernel)) ggX5_slow_X5_refuse
set_option maxRecDepth 20000 in
theorem ggX5_slow_X5_gaps : GoodIn wsX5_slow wsX5_gaps := goodIn_r _ [14, 1, 18, 19, 20, 21, 22, 23, 24, 25, 26, 27, 28, 29, 30, 31] (by decide +kernel) (by decide +kernel)
set_option maxRecDepth 20000 in
theorem gX5_slow_X5_gaps : GoodIn wsX5_slow (wsV RX5 149 RX5 yX5_gaps wsX5_gaps) := goodIn_app (goodIn_of _ (by decide +kernel)) ggX5_slow_X5_gaps
set_option maxRecDepth 20000 in
theorem ggX5_slow_X5_gapOf : GoodIn wsX5_slow wsX5_gapOf := goodIn_r _ [17] (by decide +kernel) (by decide +kernel)
set_option maxRecDepth 20000 in
theorem gX5_slow_X5_gapOf : GoodIn wsX5_slow (va_wsS RX5 152 yX5_gapOf wsX5_gapOf) := goodIn_app (goodIn_of _ (by decide +kernel)) ggX5_slow_X5_gapOf
theorem dX5_slow_0 : decode cX5_slow 0 = .ok (.iload_n 1, 1) := by decide +kernel
