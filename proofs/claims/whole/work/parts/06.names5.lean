theorem dX5_slow_1 : decode cX5_slow 1 = .ok (.iconst 0, 1) := by decide +kernel
theorem dX5_slow_2 : decode cX5_slow 2 = .ok (.sipush 999, 3) := by decide +kernel
theorem dX5_slow_5 : decode cX5_slow 5 = .ok (.invokestatic 82, 3) := by decide +kernel
theorem dX5_slow_8 : decode cX5_slow 8 = .ok (.istore_n 2, 1) := by decide +kernel
theorem dX5_slow_9 : decode cX5_slow 9 = .ok (.iload_n 2, 1) := by decide +kernel
theorem dX5_slow_10 : decode cX5_slow 10 = .ok (.ifCond .eq 9, 3) := by decide +kernel
theorem dX5_slow_13 : decode cX5_slow 13 = .ok (.aload_n 0, 1) := by decide +kernel
theorem dX5_slow_14 : decode cX5_slow 14 = .ok (.iload_n 2, 1) := by decide +kernel
theorem dX5_slow_15 : decode cX5_slow 15 = .ok (.invokevirtual 41, 3) := by decide +kernel
theorem dX5_slow_18 : decode cX5_slow 18 = .ok (.ireturn, 1) := by decide +kernel
theorem dX5_slow_19 : decode cX5_slow 19 = .ok (.iconst 1, 1) := by decide +kernel
theorem dX5_slow_20 : decode cX5_slow 20 = .ok (.istore_n 3, 1) := by decide +kernel
theorem dX5_slow_21 : decode cX5_slow 21 = .ok (.iload_n 3, 1) := by decide +kernel
theorem dX5_slow_22 : decode cX5_slow 22 = .ok (.aload_n 0, 1) := by decide +kernel
theorem dX5_slow_23 : decode cX5_slow 23 = .ok (.invokevirtual 149, 3) := by decide +kernel
theorem dX5_slow_26 : decode cX5_slow 26 = .ok (.if_icmp .ge 35, 3) := by decide +kernel
theorem dX5_slow_29 : decode cX5_slow 29 = .ok (.aload_n 0, 1) := by decide +kernel
theorem dX5_slow_30 : decode cX5_slow 30 = .ok (.getfield 13, 3) := by decide +kernel
theorem dX5_slow_33 : decode cX5_slow 33 = .ok (.iload_n 3, 1) := by decide +kernel
theorem dX5_slow_34 : decode cX5_slow 34 = .ok (.invokestatic 152, 3) := by decide +kernel
theorem dX5_slow_37 : decode cX5_slow 37 = .ok (.iload_n 1, 1) := by decide +kernel
theorem dX5_slow_38 : decode cX5_slow 38 = .ok (.aload_n 0, 1) := by decide +kernel
theorem dX5_slow_39 : decode cX5_slow 39 = .ok (.getfield 13, 3) := by decide +kernel
theorem dX5_slow_42 : decode cX5_slow 42 = .ok (.iconst 0, 1) := by decide +kernel
theorem dX5_slow_43 : decode cX5_slow 43 = .ok (.invokestatic 152, 3) := by decide +kernel
theorem dX5_slow_46 : decode cX5_slow 46 = .ok (.imul, 1) := by decide +kernel
theorem dX5_slow_47 : decode cX5_slow 47 = .ok (.bipush 10, 2) := by decide +kernel
theorem dX5_slow_49 : decode cX5_slow 49 = .ok (.idiv, 1) := by decide +kernel
theorem dX5_slow_50 : decode cX5_slow 50 = .ok (.if_icmp .le 5, 3) := by decide +kernel
theorem dX5_slow_53 : decode cX5_slow 53 = .ok (.iload_n 3, 1) := by decide +kernel
theorem dX5_slow_54 : decode cX5_slow 54 = .ok (.ireturn, 1) := by decide +kernel
theorem dX5_slow_55 : decode cX5_slow 55 = .ok (.iinc 3 1, 3) := by decide +kernel
theorem dX5_slow_58 : decode cX5_slow 58 = .ok (.goto (-37), 3) := by decide +kernel
theorem dX5_slow_61 : decode cX5_slow 61 = .ok (.bipush (-9), 2) := by decide +kernel
theorem dX5_slow_63 : decode cX5_slow 63 = .ok (.ireturn, 1) := by decide +kernel
set_option maxRecDepth 20000 in
theorem ggX5_hour_X5_refuse : GoodIn wsX5_hour wsX5_refuse := goodIn_r _ [6, 7, 8, 9, 10, 11, 12, 13, 14, 15, 16, 17, 18, 19, 20, 21] (by decide +kernel) (by decide +kernel)
set_option maxRecDepth 20000 in
theorem gX5_hour_X5_refuse : GoodIn wsX5_hour (wsV RX5 41 RX5 yX5_refuse wsX5_refuse) := goodIn_app (goodIn_of _ (by decide +kernel)) ggX5_hour_X5_refuse
theorem dX5_hour_0 : decode cX5_hour 0 = .ok (.iload_n 1, 1) := by decide +kernel
theorem dX5_hour_1 : decode cX5_hour 1 = .ok (.ifCond .ge 10, 3) := by decide +kernel
theorem dX5_hour_4 : decode cX5_hour 4 = .ok (.aload_n 0, 1) := by decide +kernel
theorem dX5_hour_5 : decode cX5_hour 5 = .ok (.bipush (-4), 2) := by decide +kernel
theorem dX5_hour_7 : decode cX5_hour 7 = .ok (.invokevirtual 41, 3) := by decide +kernel
theorem dX5_hour_10 : decode cX5_hour 10 = .ok (.ireturn, 1) := by decide +kernel
theorem dX5_hour_11 : decode cX5_hour 11 = .ok (.iconst 0, 1) := by decide +kernel
theorem dX5_hour_12 : decode cX5_hour 12 = .ok (.istore_n 2, 1) := by decide +kernel
theorem dX5_hour_13 : decode cX5_hour 13 = .ok (.iconst 0, 1) := by decide +kernel
theorem dX5_hour_14 : decode cX5_hour 14 = .ok (.istore_n 3, 1) := by decide +kernel
theorem dX5_hour_15 : decode cX5_hour 15 = .ok (.iload_n 3, 1) := by decide +kernel
theorem dX5_hour_16 : decode cX5_hour 16 = .ok (.aload_n 0, 1) := by decide +kernel
theorem dX5_hour_17 : decode cX5_hour 17 = .ok (.getfield 13, 3) := by decide +kernel
theorem dX5_hour_20 : decode cX5_hour 20 = .ok (.bipush 89, 2) := by decide +kernel
theorem dX5_hour_22 : decode cX5_hour 22 = .ok (.iaload, 1) := by decide +kernel
theorem dX5_hour_23 : decode cX5_hour 23 = .ok (.if_icmp .ge 33, 3) := by decide +kernel
theorem dX5_hour_26 : decode cX5_hour 26 = .ok (.iload_n 2, 1) := by decide +kernel
theorem dX5_hour_27 : decode cX5_hour 27 = .ok (.aload_n 0, 1) := by decide +kernel
theorem dX5_hour_28 : decode cX5_hour 28 = .ok (.getfield 13, 3) := by decide +kernel
theorem dX5_hour_31 : decode cX5_hour 31 = .ok (.bipush 29, 2) := by decide +kernel
theorem dX5_hour_33 : decode cX5_hour 33 = .ok (.iload_n 3, 1) := by decide +kernel
theorem dX5_hour_34 : decode cX5_hour 34 = .ok (.iadd, 1) := by decide +kernel
theorem dX5_hour_35 : decode cX5_hour 35 = .ok (.iaload, 1) := by decide +kernel
theorem dX5_hour_36 : decode cX5_hour 36 = .ok (.bipush 100, 2) := by decide +kernel
theorem dX5_hour_38 : decode cX5_hour 38 = .ok (.idiv, 1) := by decide +kernel
theorem dX5_hour_39 : decode cX5_hour 39 = .ok (.iload_n 1, 1) := by decide +kernel
theorem dX5_hour_40 : decode cX5_hour 40 = .ok (.if_icmp .ne 7, 3) := by decide +kernel
theorem dX5_hour_43 : decode cX5_hour 43 = .ok (.iconst 1, 1) := by decide +kernel
theorem dX5_hour_44 : decode cX5_hour 44 = .ok (.goto 4, 3) := by decide +kernel
theorem dX5_hour_47 : decode cX5_hour 47 = .ok (.iconst 0, 1) := by decide +kernel
theorem dX5_hour_48 : decode cX5_hour 48 = .ok (.iadd, 1) := by decide +kernel
theorem dX5_hour_49 : decode cX5_hour 49 = .ok (.istore_n 2, 1) := by decide +kernel
theorem dX5_hour_50 : decode cX5_hour 50 = .ok (.iinc 3 1, 3) := by decide +kernel
theorem dX5_hour_53 : decode cX5_hour 53 = .ok (.goto (-38), 3) := by decide +kernel
theorem dX5_hour_56 : decode cX5_hour 56 = .ok (.iload_n 2, 1) := by decide +kernel
theorem dX5_hour_57 : decode cX5_hour 57 = .ok (.ireturn, 1) := by decide +kernel
set_option maxRecDepth 20000 in
theorem ggX5_gap_X5_within : GoodIn wsX5_gap wsX5_within := goodIn_r _ [6] (by decide +kernel) (by decide +kernel)
set_option maxRecDepth 20000 in
theorem gX5_gap_X5_within : GoodIn wsX5_gap (va_wsS RX5 82 yX5_within wsX5_within) := goodIn_app (goodIn_of _ (by decide +kernel)) ggX5_gap_X5_within
set_option maxRecDepth 20000 in
theorem ggX5_gap_X5_refuse : GoodIn wsX5_gap wsX5_refuse := goodIn_r _ [10, 11, 12, 13, 14, 15, 16, 17, 18, 19, 20, 21, 22, 23, 24, 25] (by decide +kernel) (by decide +kernel)
set_option maxRecDepth 20000 in
theorem gX5_gap_X5_refuse : GoodIn wsX5_gap (wsV RX5 41 RX5 yX5_refuse wsX5_refuse) := goodIn_app (goodIn_of _ (by decide +kernel)) ggX5_gap_X5_refuse
theorem dX5_gap_0 : decode cX5_gap 0 = .ok (.iload_n 1, 1) := by decide +kernel
theorem dX5_gap_1 : decode cX5_gap 1 = .ok (.iconst 0, 1) := by decide +kernel
theorem dX5_gap_2 : decode cX5_gap 2 = .ok (.sipush 9999, 3) := by decide +kernel
theorem dX5_gap_5 : decode cX5_gap 5 = .ok (.invokestatic 82, 3) := by decide +kernel
theorem dX5_gap_8 : decode cX5_gap 8 = .ok (.istore_n 2, 1) := by decide +kernel
theorem dX5_gap_9 : decode cX5_gap 9 = .ok (.iload_n 2, 1) := by decide +kernel
theorem dX5_gap_10 : decode cX5_gap 10 = .ok (.ifCond .ne 15, 3) := by decide +kernel
theorem dX5_gap_13 : decode cX5_gap 13 = .ok (.aload_n 0, 1) := by decide +kernel
theorem dX5_gap_14 : decode cX5_gap 14 = .ok (.getfield 158, 3) := by decide +kernel
theorem dX5_gap_17 : decode cX5_gap 17 = .ok (.bipush 10, 2) := by decide +kernel
theorem dX5_gap_19 : decode cX5_gap 19 = .ok (.if_icmp .ne 6, 3) := by decide +kernel
theorem dX5_gap_22 : decode cX5_gap 22 = .ok (.bipush (-6), 2) := by decide +kernel
theorem dX5_gap_24 : decode cX5_gap 24 = .ok (.istore_n 2, 1) := by decide +kernel
theorem dX5_gap_25 : decode cX5_gap 25 = .ok (.iload_n 2, 1) := by decide +kernel
theorem dX5_gap_26 : decode cX5_gap 26 = .ok (.ifCond .eq 9, 3) := by decide +kernel
theorem dX5_gap_29 : decode cX5_gap 29 = .ok (.aload_n 0, 1) := by decide +kernel
theorem dX5_gap_30 : decode cX5_gap 30 = .ok (.iload_n 2, 1) := by decide +kernel
theorem dX5_gap_31 : decode cX5_gap 31 = .ok (.invokevirtual 41, 3) := by decide +kernel
theorem dX5_gap_34 : decode cX5_gap 34 = .ok (.ireturn, 1) := by decide +kernel
theorem dX5_gap_35 : decode cX5_gap 35 = .ok (.aload_n 0, 1) := by decide +kernel
theorem dX5_gap_36 : decode cX5_gap 36 = .ok (.getfield 38, 3) := by decide +kernel
theorem dX5_gap_39 : decode cX5_gap 39 = .ok (.aload_n 0, 1) := by decide +kernel
theorem dX5_gap_40 : decode cX5_gap 40 = .ok (.getfield 158, 3) := by decide +kernel
theorem dX5_gap_43 : decode cX5_gap 43 = .ok (.iload_n 1, 1) := by decide +kernel
theorem dX5_gap_44 : decode cX5_gap 44 = .ok (.iastore, 1) := by decide +kernel
theorem dX5_gap_45 : decode cX5_gap 45 = .ok (.aload_n 0, 1) := by decide +kernel
theorem dX5_gap_46 : decode cX5_gap 46 = .ok (.dup, 1) := by decide +kernel
theorem dX5_gap_47 : decode cX5_gap 47 = .ok (.getfield 158, 3) := by decide +kernel
theorem dX5_gap_50 : decode cX5_gap 50 = .ok (.iconst 1, 1) := by decide +kernel
theorem dX5_gap_51 : decode cX5_gap 51 = .ok (.iadd, 1) := by decide +kernel
theorem dX5_gap_52 : decode cX5_gap 52 = .ok (.putfield 158, 3) := by decide +kernel
theorem dX5_gap_55 : decode cX5_gap 55 = .ok (.aload_n 0, 1) := by decide +kernel
theorem dX5_gap_56 : decode cX5_gap 56 = .ok (.getfield 158, 3) := by decide +kernel
theorem dX5_gap_59 : decode cX5_gap 59 = .ok (.ireturn, 1) := by decide +kernel
set_option maxRecDepth 20000 in
theorem ggX5_judge_X5_within : GoodIn wsX5_judge wsX5_within := goodIn_r _ [7] (by decide +kernel) (by decide +kernel)
set_option maxRecDepth 20000 in
theorem gX5_judge_X5_within : GoodIn wsX5_judge (va_wsS RX5 82 yX5_within wsX5_within) := goodIn_app (goodIn_of _ (by decide +kernel)) ggX5_judge_X5_within
set_option maxRecDepth 20000 in
theorem ggX5_judge_X5_refuse : GoodIn wsX5_judge wsX5_refuse := goodIn_r _ [11, 12, 23, 24, 25, 26, 27, 28, 29, 30, 31, 32, 33, 34, 35, 36] (by decide +kernel) (by decide +kernel)
set_option maxRecDepth 20000 in
theorem gX5_judge_X5_refuse : GoodIn wsX5_judge (wsV RX5 41 RX5 yX5_refuse wsX5_refuse) := goodIn_app (goodIn_of _ (by decide +kernel)) ggX5_judge_X5_refuse
set_option maxRecDepth 20000 in
theorem ggX5_judge_X5_gaps : GoodIn wsX5_judge wsX5_gaps := goodIn_r _ [16, 2, 23, 24, 25, 26, 27, 28, 29, 30, 31, 32, 33, 34, 35, 36] (by decide +kernel) (by decide +kernel)
set_option maxRecDepth 20000 in
theorem gX5_judge_X5_gaps : GoodIn wsX5_judge (wsV RX5 149 RX5 yX5_gaps wsX5_gaps) := goodIn_app (goodIn_of _ (by decide +kernel)) ggX5_judge_X5_gaps
set_option maxRecDepth 20000 in
theorem ggX5_judge_X5_gapOf : GoodIn wsX5_judge wsX5_gapOf := goodIn_r _ [19] (by decide +kernel) (by decide +kernel)
set_option maxRecDepth 20000 in
theorem gX5_judge_X5_gapOf : GoodIn wsX5_judge (va_wsS RX5 152 yX5_gapOf wsX5_gapOf) := goodIn_app (goodIn_of _ (by decide +kernel)) ggX5_judge_X5_gapOf
set_option maxRecDepth 20000 in
theorem ggX5_judge_X5_amount : GoodIn wsX5_judge wsX5_amount := goodIn_r _ [22] (by decide +kernel) (by decide +kernel)
set_option maxRecDepth 20000 in
theorem gX5_judge_X5_amount : GoodIn wsX5_judge (va_wsS RX5 155 yX5_amount wsX5_amount) := goodIn_app (goodIn_of _ (by decide +kernel)) ggX5_judge_X5_amount
theorem dX5_judge_0 : decode cX5_judge 0 = .ok (.iload_n 1, 1) := by decide +kernel
theorem dX5_judge_1 : decode cX5_judge 1 = .ok (.iconst 0, 1) := by decide +kernel
theorem dX5_judge_2 : decode cX5_judge 2 = .ok (.sipush 9999, 3) := by decide +kernel
theorem dX5_judge_5 : decode cX5_judge 5 = .ok (.invokestatic 82, 3) := by decide +kernel
theorem dX5_judge_8 : decode cX5_judge 8 = .ok (.istore_n 2, 1) := by decide +kernel
theorem dX5_judge_9 : decode cX5_judge 9 = .ok (.iload_n 2, 1) := by decide +kernel
theorem dX5_judge_10 : decode cX5_judge 10 = .ok (.ifCond .eq 9, 3) := by decide +kernel
theorem dX5_judge_13 : decode cX5_judge 13 = .ok (.aload_n 0, 1) := by decide +kernel
theorem dX5_judge_14 : decode cX5_judge 14 = .ok (.iload_n 2, 1) := by decide +kernel
theorem dX5_judge_15 : decode cX5_judge 15 = .ok (.invokevirtual 41, 3) := by decide +kernel
theorem dX5_judge_18 : decode cX5_judge 18 = .ok (.ireturn, 1) := by decide +kernel
theorem dX5_judge_19 : decode cX5_judge 19 = .ok (.aload_n 0, 1) := by decide +kernel
theorem dX5_judge_20 : decode cX5_judge 20 = .ok (.getfield 158, 3) := by decide +kernel
theorem dX5_judge_23 : decode cX5_judge 23 = .ok (.istore_n 3, 1) := by decide +kernel
theorem dX5_judge_24 : decode cX5_judge 24 = .ok (.aload_n 0, 1) := by decide +kernel
theorem dX5_judge_25 : decode cX5_judge 25 = .ok (.iconst 0, 1) := by decide +kernel
theorem dX5_judge_26 : decode cX5_judge 26 = .ok (.putfield 158, 3) := by decide +kernel
theorem dX5_judge_29 : decode cX5_judge 29 = .ok (.iconst 0, 1) := by decide +kernel
theorem dX5_judge_30 : decode cX5_judge 30 = .ok (.istore 4, 2) := by decide +kernel
theorem dX5_judge_32 : decode cX5_judge 32 = .ok (.iload 4, 2) := by decide +kernel
theorem dX5_judge_34 : decode cX5_judge 34 = .ok (.aload_n 0, 1) := by decide +kernel
theorem dX5_judge_35 : decode cX5_judge 35 = .ok (.invokevirtual 149, 3) := by decide +kernel
theorem dX5_judge_38 : decode cX5_judge 38 = .ok (.if_icmp .ge 44, 3) := by decide +kernel
theorem dX5_judge_41 : decode cX5_judge 41 = .ok (.iload 4, 2) := by decide +kernel
theorem dX5_judge_43 : decode cX5_judge 43 = .ok (.iload_n 3, 1) := by decide +kernel
theorem dX5_judge_44 : decode cX5_judge 44 = .ok (.if_icmp .ne 5, 3) := by decide +kernel
theorem dX5_judge_47 : decode cX5_judge 47 = .ok (.iload_n 3, 1) := by decide +kernel
theorem dX5_judge_48 : decode cX5_judge 48 = .ok (.ireturn, 1) := by decide +kernel
theorem dX5_judge_49 : decode cX5_judge 49 = .ok (.aload_n 0, 1) := by decide +kernel
theorem dX5_judge_50 : decode cX5_judge 50 = .ok (.getfield 13, 3) := by decide +kernel
theorem dX5_judge_53 : decode cX5_judge 53 = .ok (.iload 4, 2) := by decide +kernel
theorem dX5_judge_55 : decode cX5_judge 55 = .ok (.invokestatic 152, 3) := by decide +kernel
theorem dX5_judge_58 : decode cX5_judge 58 = .ok (.aload_n 0, 1) := by decide +kernel
theorem dX5_judge_59 : decode cX5_judge 59 = .ok (.getfield 38, 3) := by decide +kernel
theorem dX5_judge_62 : decode cX5_judge 62 = .ok (.iload 4, 2) := by decide +kernel
theorem dX5_judge_64 : decode cX5_judge 64 = .ok (.iaload, 1) := by decide +kernel
theorem dX5_judge_65 : decode cX5_judge 65 = .ok (.isub, 1) := by decide +kernel
theorem dX5_judge_66 : decode cX5_judge 66 = .ok (.invokestatic 155, 3) := by decide +kernel
theorem dX5_judge_69 : decode cX5_judge 69 = .ok (.iload_n 1, 1) := by decide +kernel
theorem dX5_judge_70 : decode cX5_judge 70 = .ok (.if_icmp .le 6, 3) := by decide +kernel
theorem dX5_judge_73 : decode cX5_judge 73 = .ok (.iload 4, 2) := by decide +kernel
theorem dX5_judge_75 : decode cX5_judge 75 = .ok (.ireturn, 1) := by decide +kernel
theorem dX5_judge_76 : decode cX5_judge 76 = .ok (.iinc 4 1, 3) := by decide +kernel
theorem dX5_judge_79 : decode cX5_judge 79 = .ok (.goto (-47), 3) := by decide +kernel
theorem dX5_judge_82 : decode cX5_judge 82 = .ok (.iload_n 3, 1) := by decide +kernel
theorem dX5_judge_83 : decode cX5_judge 83 = .ok (.aload_n 0, 1) := by decide +kernel
theorem dX5_judge_84 : decode cX5_judge 84 = .ok (.invokevirtual 149, 3) := by decide +kernel
theorem dX5_judge_87 : decode cX5_judge 87 = .ok (.if_icmp .le 10, 3) := by decide +kernel
theorem dX5_judge_90 : decode cX5_judge 90 = .ok (.aload_n 0, 1) := by decide +kernel
theorem dX5_judge_91 : decode cX5_judge 91 = .ok (.invokevirtual 149, 3) := by decide +kernel
theorem dX5_judge_94 : decode cX5_judge 94 = .ok (.goto 5, 3) := by decide +kernel
theorem dX5_judge_97 : decode cX5_judge 97 = .ok (.bipush (-9), 2) := by decide +kernel
theorem dX5_judge_99 : decode cX5_judge 99 = .ok (.ireturn, 1) := by decide +kernel
set_option maxRecDepth 20000 in
theorem ggX5_isAsTold_X5_freshBy : GoodIn wsX5_isAsTold wsX5_freshBy := goodIn_r _ [8, 9, 1, 10, 11, 12, 7, 13, 14, 15, 16, 17, 18, 19, 20, 21, 22, 23, 24, 25, 26, 27, 28, 29, 30, 31, 32, 33, 34, 35, 36, 37, 38, 39, 40, 41, 42, 43, 44, 45, 46, 47, 48, 49, 50, 51, 52, 53, 60, 61, 62, 63, 64, 65, 66, 67, 68, 69, 70, 71, 72, 73] (by decide +kernel) (by decide +kernel)
set_option maxRecDepth 20000 in
theorem gX5_isAsTold_X5_freshBy : GoodIn wsX5_isAsTold (wsV RX5 143 RX5 yX5_freshBy wsX5_freshBy) := goodIn_app (goodIn_of _ (by decide +kernel)) ggX5_isAsTold_X5_freshBy
set_option maxRecDepth 20000 in
theorem ggX5_isAsTold_X5_gapOf : GoodIn wsX5_isAsTold wsX5_gapOf := goodIn_r _ [56] (by decide +kernel) (by decide +kernel)
set_option maxRecDepth 20000 in
theorem gX5_isAsTold_X5_gapOf : GoodIn wsX5_isAsTold (va_wsS RX5 152 yX5_gapOf wsX5_gapOf) := goodIn_app (goodIn_of _ (by decide +kernel)) ggX5_isAsTold_X5_gapOf
set_option maxRecDepth 20000 in
theorem ggX5_isAsTold_X5_amount : GoodIn wsX5_isAsTold wsX5_amount := goodIn_r _ [59] (by decide +kernel) (by decide +kernel)
set_option maxRecDepth 20000 in
theorem gX5_isAsTold_X5_amount : GoodIn wsX5_isAsTold (va_wsS RX5 155 yX5_amount wsX5_amount) := goodIn_app (goodIn_of _ (by decide +kernel)) ggX5_isAsTold_X5_amount
theorem dX5_isAsTold_0 : decode cX5_isAsTold 0 = .ok (.aload_n 0, 1) := by decide +kernel
theorem dX5_isAsTold_1 : decode cX5_isAsTold 1 = .ok (.bipush 8, 2) := by decide +kernel
theorem dX5_isAsTold_3 : decode cX5_isAsTold 3 = .ok (.iload_n 1, 1) := by decide +kernel
theorem dX5_isAsTold_4 : decode cX5_isAsTold 4 = .ok (.sipush 3000, 3) := by decide +kernel
theorem dX5_isAsTold_7 : decode cX5_isAsTold 7 = .ok (.invokevirtual 143, 3) := by decide +kernel
theorem dX5_isAsTold_10 : decode cX5_isAsTold 10 = .ok (.istore_n 3, 1) := by decide +kernel
theorem dX5_isAsTold_11 : decode cX5_isAsTold 11 = .ok (.aload_n 0, 1) := by decide +kernel
theorem dX5_isAsTold_12 : decode cX5_isAsTold 12 = .ok (.getfield 19, 3) := by decide +kernel
theorem dX5_isAsTold_15 : decode cX5_isAsTold 15 = .ok (.bipush 89, 2) := by decide +kernel
theorem dX5_isAsTold_17 : decode cX5_isAsTold 17 = .ok (.iaload, 1) := by decide +kernel
theorem dX5_isAsTold_18 : decode cX5_isAsTold 18 = .ok (.aload_n 0, 1) := by decide +kernel
theorem dX5_isAsTold_19 : decode cX5_isAsTold 19 = .ok (.getfield 158, 3) := by decide +kernel
theorem dX5_isAsTold_22 : decode cX5_isAsTold 22 = .ok (.iconst 1, 1) := by decide +kernel
theorem dX5_isAsTold_23 : decode cX5_isAsTold 23 = .ok (.iadd, 1) := by decide +kernel
theorem dX5_isAsTold_24 : decode cX5_isAsTold 24 = .ok (.if_icmp .ge 5, 3) := by decide +kernel
theorem dX5_isAsTold_27 : decode cX5_isAsTold 27 = .ok (.iconst 0, 1) := by decide +kernel
theorem dX5_isAsTold_28 : decode cX5_isAsTold 28 = .ok (.ireturn, 1) := by decide +kernel
theorem dX5_isAsTold_29 : decode cX5_isAsTold 29 = .ok (.iconst 0, 1) := by decide +kernel
theorem dX5_isAsTold_30 : decode cX5_isAsTold 30 = .ok (.istore 4, 2) := by decide +kernel
theorem dX5_isAsTold_32 : decode cX5_isAsTold 32 = .ok (.iload 4, 2) := by decide +kernel
theorem dX5_isAsTold_34 : decode cX5_isAsTold 34 = .ok (.aload_n 0, 1) := by decide +kernel
theorem dX5_isAsTold_35 : decode cX5_isAsTold 35 = .ok (.getfield 158, 3) := by decide +kernel
theorem dX5_isAsTold_38 : decode cX5_isAsTold 38 = .ok (.if_icmp .ge 35, 3) := by decide +kernel
theorem dX5_isAsTold_41 : decode cX5_isAsTold 41 = .ok (.aload_n 0, 1) := by decide +kernel
theorem dX5_isAsTold_42 : decode cX5_isAsTold 42 = .ok (.getfield 19, 3) := by decide +kernel
theorem dX5_isAsTold_45 : decode cX5_isAsTold 45 = .ok (.iload 4, 2) := by decide +kernel
theorem dX5_isAsTold_47 : decode cX5_isAsTold 47 = .ok (.invokestatic 152, 3) := by decide +kernel
theorem dX5_isAsTold_50 : decode cX5_isAsTold 50 = .ok (.aload_n 0, 1) := by decide +kernel
theorem dX5_isAsTold_51 : decode cX5_isAsTold 51 = .ok (.getfield 38, 3) := by decide +kernel
theorem dX5_isAsTold_54 : decode cX5_isAsTold 54 = .ok (.iload 4, 2) := by decide +kernel
theorem dX5_isAsTold_56 : decode cX5_isAsTold 56 = .ok (.iaload, 1) := by decide +kernel
theorem dX5_isAsTold_57 : decode cX5_isAsTold 57 = .ok (.isub, 1) := by decide +kernel
theorem dX5_isAsTold_58 : decode cX5_isAsTold 58 = .ok (.invokestatic 155, 3) := by decide +kernel
theorem dX5_isAsTold_61 : decode cX5_isAsTold 61 = .ok (.iload_n 2, 1) := by decide +kernel
theorem dX5_isAsTold_62 : decode cX5_isAsTold 62 = .ok (.if_icmp .le 5, 3) := by decide +kernel
theorem dX5_isAsTold_65 : decode cX5_isAsTold 65 = .ok (.iconst 0, 1) := by decide +kernel
theorem dX5_isAsTold_66 : decode cX5_isAsTold 66 = .ok (.ireturn, 1) := by decide +kernel
theorem dX5_isAsTold_67 : decode cX5_isAsTold 67 = .ok (.iinc 4 1, 3) := by decide +kernel
theorem dX5_isAsTold_70 : decode cX5_isAsTold 70 = .ok (.goto (-38), 3) := by decide +kernel
theorem dX5_isAsTold_73 : decode cX5_isAsTold 73 = .ok (.iconst 1, 1) := by decide +kernel
theorem dX5_isAsTold_74 : decode cX5_isAsTold 74 = .ok (.ireturn, 1) := by decide +kernel
set_option maxRecDepth 20000 in
theorem ggX5_driest_X5_isIn : GoodIn wsX5_driest wsX5_isIn := goodIn_r _ [5] (by decide +kernel) (by decide +kernel)
set_option maxRecDepth 20000 in
theorem gX5_driest_X5_isIn : GoodIn wsX5_driest (va_wsS RX5 89 yX5_isIn wsX5_isIn) := goodIn_app (goodIn_of _ (by decide +kernel)) ggX5_driest_X5_isIn
set_option maxRecDepth 20000 in
theorem ggX5_driest_X5_refuse : GoodIn wsX5_driest wsX5_refuse := goodIn_r _ [9, 10, 75, 76, 77, 78, 79, 80, 81, 82, 83, 84, 85, 86, 87, 88] (by decide +kernel) (by decide +kernel)
set_option maxRecDepth 20000 in
theorem gX5_driest_X5_refuse : GoodIn wsX5_driest (wsV RX5 41 RX5 yX5_refuse wsX5_refuse) := goodIn_app (goodIn_of _ (by decide +kernel)) ggX5_driest_X5_refuse
set_option maxRecDepth 20000 in
theorem ggX5_driest_X5_within : GoodIn wsX5_driest wsX5_within := goodIn_r _ [13] (by decide +kernel) (by decide +kernel)
set_option maxRecDepth 20000 in
theorem gX5_driest_X5_within : GoodIn wsX5_driest (va_wsS RX5 82 yX5_within wsX5_within) := goodIn_app (goodIn_of _ (by decide +kernel)) ggX5_driest_X5_within
set_option maxRecDepth 20000 in
theorem ggX5_driest_X5_isAsTold : GoodIn wsX5_driest wsX5_isAsTold := goodIn_r _ [17, 18, 1, 19, 20, 21, 22, 4, 23, 24, 25, 26, 27, 28, 29, 30, 31, 32, 33, 34, 35, 36, 37, 38, 39, 40, 41, 42, 43, 44, 45, 46, 47, 48, 49, 50, 51, 52, 53, 54, 55, 56, 57, 58, 59, 60, 61, 62, 63, 64, 65, 66, 67, 68, 69, 70, 71, 72, 73, 74, 75, 76, 77, 78, 79, 80, 81, 82, 83, 84, 85, 86, 87, 88] (by decide +kernel) (by decide +kernel)
set_option maxRecDepth 20000 in
theorem gX5_driest_X5_isAsTold : GoodIn wsX5_driest (wsV RX5 161 RX5 yX5_isAsTold wsX5_isAsTold) := goodIn_app (goodIn_of _ (by decide +kernel)) ggX5_driest_X5_isAsTold
theorem dX5_driest_0 : decode cX5_driest 0 = .ok (.iload_n 2, 1) := by decide +kernel
theorem dX5_driest_1 : decode cX5_driest 1 = .ok (.iconst 3, 1) := by decide +kernel
theorem dX5_driest_2 : decode cX5_driest 2 = .ok (.invokestatic 89, 3) := by decide +kernel
theorem dX5_driest_5 : decode cX5_driest 5 = .ok (.ifCond .ne 10, 3) := by decide +kernel
theorem dX5_driest_8 : decode cX5_driest 8 = .ok (.aload_n 0, 1) := by decide +kernel
theorem dX5_driest_9 : decode cX5_driest 9 = .ok (.bipush (-2), 2) := by decide +kernel
theorem dX5_driest_11 : decode cX5_driest 11 = .ok (.invokevirtual 41, 3) := by decide +kernel
theorem dX5_driest_14 : decode cX5_driest 14 = .ok (.ireturn, 1) := by decide +kernel
theorem dX5_driest_15 : decode cX5_driest 15 = .ok (.iload_n 1, 1) := by decide +kernel
theorem dX5_driest_16 : decode cX5_driest 16 = .ok (.iconst 0, 1) := by decide +kernel
theorem dX5_driest_17 : decode cX5_driest 17 = .ok (.sipush 9999, 3) := by decide +kernel
theorem dX5_driest_20 : decode cX5_driest 20 = .ok (.invokestatic 82, 3) := by decide +kernel
theorem dX5_driest_23 : decode cX5_driest 23 = .ok (.istore_n 3, 1) := by decide +kernel
theorem dX5_driest_24 : decode cX5_driest 24 = .ok (.iload_n 3, 1) := by decide +kernel
theorem dX5_driest_25 : decode cX5_driest 25 = .ok (.ifCond .ne 13, 3) := by decide +kernel
theorem dX5_driest_28 : decode cX5_driest 28 = .ok (.aload_n 0, 1) := by decide +kernel
theorem dX5_driest_29 : decode cX5_driest 29 = .ok (.getfield 158, 3) := by decide +kernel
theorem dX5_driest_32 : decode cX5_driest 32 = .ok (.ifCond .ne 6, 3) := by decide +kernel
theorem dX5_driest_35 : decode cX5_driest 35 = .ok (.bipush (-3), 2) := by decide +kernel
theorem dX5_driest_37 : decode cX5_driest 37 = .ok (.istore_n 3, 1) := by decide +kernel
theorem dX5_driest_38 : decode cX5_driest 38 = .ok (.iload_n 3, 1) := by decide +kernel
theorem dX5_driest_39 : decode cX5_driest 39 = .ok (.ifCond .eq 9, 3) := by decide +kernel
theorem dX5_driest_42 : decode cX5_driest 42 = .ok (.aload_n 0, 1) := by decide +kernel
theorem dX5_driest_43 : decode cX5_driest 43 = .ok (.iload_n 3, 1) := by decide +kernel
theorem dX5_driest_44 : decode cX5_driest 44 = .ok (.invokevirtual 41, 3) := by decide +kernel
theorem dX5_driest_47 : decode cX5_driest 47 = .ok (.ireturn, 1) := by decide +kernel
theorem dX5_driest_48 : decode cX5_driest 48 = .ok (.bipush (-9), 2) := by decide +kernel
theorem dX5_driest_50 : decode cX5_driest 50 = .ok (.istore 4, 2) := by decide +kernel
theorem dX5_driest_52 : decode cX5_driest 52 = .ok (.bipush (-9), 2) := by decide +kernel
theorem dX5_driest_54 : decode cX5_driest 54 = .ok (.istore 5, 2) := by decide +kernel
theorem dX5_driest_56 : decode cX5_driest 56 = .ok (.iconst 0, 1) := by decide +kernel
theorem dX5_driest_57 : decode cX5_driest 57 = .ok (.istore 6, 2) := by decide +kernel
theorem dX5_driest_59 : decode cX5_driest 59 = .ok (.iconst 0, 1) := by decide +kernel
theorem dX5_driest_60 : decode cX5_driest 60 = .ok (.istore 7, 2) := by decide +kernel
theorem dX5_driest_62 : decode cX5_driest 62 = .ok (.iload 7, 2) := by decide +kernel
theorem dX5_driest_64 : decode cX5_driest 64 = .ok (.bipush 95, 2) := by decide +kernel
theorem dX5_driest_66 : decode cX5_driest 66 = .ok (.if_icmp .gt 43, 3) := by decide +kernel
theorem dX5_driest_69 : decode cX5_driest 69 = .ok (.aload_n 0, 1) := by decide +kernel
theorem dX5_driest_70 : decode cX5_driest 70 = .ok (.iload 7, 2) := by decide +kernel
theorem dX5_driest_72 : decode cX5_driest 72 = .ok (.iload_n 1, 1) := by decide +kernel
theorem dX5_driest_73 : decode cX5_driest 73 = .ok (.invokevirtual 161, 3) := by decide +kernel
theorem dX5_driest_76 : decode cX5_driest 76 = .ok (.ifCond .ne 6, 3) := by decide +kernel
theorem dX5_driest_79 : decode cX5_driest 79 = .ok (.goto 24, 3) := by decide +kernel
theorem dX5_driest_82 : decode cX5_driest 82 = .ok (.iload 4, 2) := by decide +kernel
theorem dX5_driest_84 : decode cX5_driest 84 = .ok (.ifCond .ge 8, 3) := by decide +kernel
theorem dX5_driest_87 : decode cX5_driest 87 = .ok (.iload 7, 2) := by decide +kernel
theorem dX5_driest_89 : decode cX5_driest 89 = .ok (.goto 5, 3) := by decide +kernel
theorem dX5_driest_92 : decode cX5_driest 92 = .ok (.iload 4, 2) := by decide +kernel
theorem dX5_driest_94 : decode cX5_driest 94 = .ok (.istore 4, 2) := by decide +kernel
theorem dX5_driest_96 : decode cX5_driest 96 = .ok (.iload 7, 2) := by decide +kernel
theorem dX5_driest_98 : decode cX5_driest 98 = .ok (.istore 5, 2) := by decide +kernel
theorem dX5_driest_100 : decode cX5_driest 100 = .ok (.iinc 6 1, 3) := by decide +kernel
theorem dX5_driest_103 : decode cX5_driest 103 = .ok (.iinc 7 5, 3) := by decide +kernel
theorem dX5_driest_106 : decode cX5_driest 106 = .ok (.goto (-44), 3) := by decide +kernel
theorem dX5_driest_109 : decode cX5_driest 109 = .ok (.iload_n 2, 1) := by decide +kernel
theorem dX5_driest_110 : decode cX5_driest 110 = .ok (.ifCond .ne 8, 3) := by decide +kernel
theorem dX5_driest_113 : decode cX5_driest 113 = .ok (.iload 4, 2) := by decide +kernel
theorem dX5_driest_115 : decode cX5_driest 115 = .ok (.goto 15, 3) := by decide +kernel
theorem dX5_driest_118 : decode cX5_driest 118 = .ok (.iload_n 2, 1) := by decide +kernel
theorem dX5_driest_119 : decode cX5_driest 119 = .ok (.iconst 1, 1) := by decide +kernel
theorem dX5_driest_120 : decode cX5_driest 120 = .ok (.if_icmp .ne 8, 3) := by decide +kernel
theorem dX5_driest_123 : decode cX5_driest 123 = .ok (.iload 5, 2) := by decide +kernel
theorem dX5_driest_125 : decode cX5_driest 125 = .ok (.goto 5, 3) := by decide +kernel
theorem dX5_driest_128 : decode cX5_driest 128 = .ok (.iload 6, 2) := by decide +kernel
theorem dX5_driest_130 : decode cX5_driest 130 = .ok (.ireturn, 1) := by decide +kernel
set_option maxRecDepth 20000 in
theorem ggX5_isSort_X5_freshBy : GoodIn wsX5_isSort wsX5_freshBy := goodIn_r _ [6, 1, 7, 8, 9, 10, 5, 11, 12, 13, 14, 15, 16, 17, 18, 19, 20, 21, 22, 23, 24, 25, 26, 27, 28, 29, 30, 31, 32, 33, 34, 35, 36, 37, 38, 39, 40, 41, 42, 43, 44, 45, 46, 47, 48, 49, 50, 51, 52, 53, 54, 55, 56, 57, 58, 59, 60, 61, 62, 63, 64, 65] (by decide +kernel) (by decide +kernel)
set_option maxRecDepth 20000 in
theorem gX5_isSort_X5_freshBy : GoodIn wsX5_isSort (wsV RX5 143 RX5 yX5_freshBy wsX5_freshBy) := goodIn_app (goodIn_of _ (by decide +kernel)) ggX5_isSort_X5_freshBy
theorem dX5_isSort_0 : decode cX5_isSort 0 = .ok (.aload_n 0, 1) := by decide +kernel
theorem dX5_isSort_1 : decode cX5_isSort 1 = .ok (.getfield 13, 3) := by decide +kernel
theorem dX5_isSort_4 : decode cX5_isSort 4 = .ok (.iconst 3, 1) := by decide +kernel
theorem dX5_isSort_5 : decode cX5_isSort 5 = .ok (.iaload, 1) := by decide +kernel
theorem dX5_isSort_6 : decode cX5_isSort 6 = .ok (.istore 4, 2) := by decide +kernel
theorem dX5_isSort_8 : decode cX5_isSort 8 = .ok (.aload_n 0, 1) := by decide +kernel
theorem dX5_isSort_9 : decode cX5_isSort 9 = .ok (.getfield 13, 3) := by decide +kernel
theorem dX5_isSort_12 : decode cX5_isSort 12 = .ok (.iconst 3, 1) := by decide +kernel
theorem dX5_isSort_13 : decode cX5_isSort 13 = .ok (.iload_n 1, 1) := by decide +kernel
theorem dX5_isSort_14 : decode cX5_isSort 14 = .ok (.iastore, 1) := by decide +kernel
theorem dX5_isSort_15 : decode cX5_isSort 15 = .ok (.iconst 1, 1) := by decide +kernel
theorem dX5_isSort_16 : decode cX5_isSort 16 = .ok (.istore 5, 2) := by decide +kernel
theorem dX5_isSort_18 : decode cX5_isSort 18 = .ok (.sipush 10000, 3) := by decide +kernel
theorem dX5_isSort_21 : decode cX5_isSort 21 = .ok (.istore 6, 2) := by decide +kernel
theorem dX5_isSort_23 : decode cX5_isSort 23 = .ok (.iconst 0, 1) := by decide +kernel
theorem dX5_isSort_24 : decode cX5_isSort 24 = .ok (.istore 7, 2) := by decide +kernel
theorem dX5_isSort_26 : decode cX5_isSort 26 = .ok (.iload 7, 2) := by decide +kernel
theorem dX5_isSort_28 : decode cX5_isSort 28 = .ok (.iconst 3, 1) := by decide +kernel
theorem dX5_isSort_29 : decode cX5_isSort 29 = .ok (.if_icmp .ge 54, 3) := by decide +kernel
theorem dX5_isSort_32 : decode cX5_isSort 32 = .ok (.iload 5, 2) := by decide +kernel
theorem dX5_isSort_34 : decode cX5_isSort 34 = .ok (.ifCond .eq 49, 3) := by decide +kernel
theorem dX5_isSort_37 : decode cX5_isSort 37 = .ok (.aload_n 0, 1) := by decide +kernel
theorem dX5_isSort_38 : decode cX5_isSort 38 = .ok (.bipush 8, 2) := by decide +kernel
theorem dX5_isSort_40 : decode cX5_isSort 40 = .ok (.iload_n 2, 1) := by decide +kernel
theorem dX5_isSort_41 : decode cX5_isSort 41 = .ok (.iload 6, 2) := by decide +kernel
theorem dX5_isSort_43 : decode cX5_isSort 43 = .ok (.idiv, 1) := by decide +kernel
theorem dX5_isSort_44 : decode cX5_isSort 44 = .ok (.bipush 100, 2) := by decide +kernel
theorem dX5_isSort_46 : decode cX5_isSort 46 = .ok (.irem, 1) := by decide +kernel
theorem dX5_isSort_47 : decode cX5_isSort 47 = .ok (.sipush 1000, 3) := by decide +kernel
theorem dX5_isSort_50 : decode cX5_isSort 50 = .ok (.invokevirtual 143, 3) := by decide +kernel
theorem dX5_isSort_53 : decode cX5_isSort 53 = .ok (.iload_n 3, 1) := by decide +kernel
theorem dX5_isSort_54 : decode cX5_isSort 54 = .ok (.iload 6, 2) := by decide +kernel
theorem dX5_isSort_56 : decode cX5_isSort 56 = .ok (.idiv, 1) := by decide +kernel
theorem dX5_isSort_57 : decode cX5_isSort 57 = .ok (.bipush 100, 2) := by decide +kernel
theorem dX5_isSort_59 : decode cX5_isSort 59 = .ok (.irem, 1) := by decide +kernel
theorem dX5_isSort_60 : decode cX5_isSort 60 = .ok (.if_icmp .ne 7, 3) := by decide +kernel
theorem dX5_isSort_63 : decode cX5_isSort 63 = .ok (.iconst 1, 1) := by decide +kernel
theorem dX5_isSort_64 : decode cX5_isSort 64 = .ok (.goto 4, 3) := by decide +kernel
theorem dX5_isSort_67 : decode cX5_isSort 67 = .ok (.iconst 0, 1) := by decide +kernel
theorem dX5_isSort_68 : decode cX5_isSort 68 = .ok (.istore 5, 2) := by decide +kernel
theorem dX5_isSort_70 : decode cX5_isSort 70 = .ok (.iload 6, 2) := by decide +kernel
theorem dX5_isSort_72 : decode cX5_isSort 72 = .ok (.bipush 100, 2) := by decide +kernel
theorem dX5_isSort_74 : decode cX5_isSort 74 = .ok (.idiv, 1) := by decide +kernel
theorem dX5_isSort_75 : decode cX5_isSort 75 = .ok (.istore 6, 2) := by decide +kernel
theorem dX5_isSort_77 : decode cX5_isSort 77 = .ok (.iinc 7 1, 3) := by decide +kernel
theorem dX5_isSort_80 : decode cX5_isSort 80 = .ok (.goto (-54), 3) := by decide +kernel
theorem dX5_isSort_83 : decode cX5_isSort 83 = .ok (.aload_n 0, 1) := by decide +kernel
theorem dX5_isSort_84 : decode cX5_isSort 84 = .ok (.getfield 13, 3) := by decide +kernel
theorem dX5_isSort_87 : decode cX5_isSort 87 = .ok (.iconst 3, 1) := by decide +kernel
theorem dX5_isSort_88 : decode cX5_isSort 88 = .ok (.iload 4, 2) := by decide +kernel
theorem dX5_isSort_90 : decode cX5_isSort 90 = .ok (.iastore, 1) := by decide +kernel
theorem dX5_isSort_91 : decode cX5_isSort 91 = .ok (.iload 5, 2) := by decide +kernel
theorem dX5_isSort_93 : decode cX5_isSort 93 = .ok (.ireturn, 1) := by decide +kernel
set_option maxRecDepth 20000 in
theorem ggX5_sortsOf_X5_isSort : GoodIn wsX5_sortsOf wsX5_isSort := goodIn_r _ [5, 6, 7, 8, 9, 4, 10, 11, 12, 13, 14, 15, 16, 17, 18, 19, 20, 21, 22, 23, 24, 25, 26, 27, 28, 29, 30, 31, 32, 33, 34, 35, 36, 37, 38, 39, 40, 41, 42, 43, 44, 45, 46, 47, 48, 49, 50, 51, 52, 53, 54, 55, 56, 57, 58, 59, 60, 61, 62, 63, 64, 65, 66, 67, 68, 69] (by decide +kernel) (by decide +kernel)
set_option maxRecDepth 20000 in
theorem gX5_sortsOf_X5_isSort : GoodIn wsX5_sortsOf (wsV RX5 164 RX5 yX5_isSort wsX5_isSort) := goodIn_app (goodIn_of _ (by decide +kernel)) ggX5_sortsOf_X5_isSort
theorem dX5_sortsOf_0 : decode cX5_sortsOf 0 = .ok (.iconst 0, 1) := by decide +kernel
theorem dX5_sortsOf_1 : decode cX5_sortsOf 1 = .ok (.istore_n 3, 1) := by decide +kernel
theorem dX5_sortsOf_2 : decode cX5_sortsOf 2 = .ok (.iconst 1, 1) := by decide +kernel
theorem dX5_sortsOf_3 : decode cX5_sortsOf 3 = .ok (.istore 4, 2) := by decide +kernel
theorem dX5_sortsOf_5 : decode cX5_sortsOf 5 = .ok (.iload 4, 2) := by decide +kernel
theorem dX5_sortsOf_7 : decode cX5_sortsOf 7 = .ok (.bipush 10, 2) := by decide +kernel
theorem dX5_sortsOf_9 : decode cX5_sortsOf 9 = .ok (.if_icmp .ge 31, 3) := by decide +kernel
theorem dX5_sortsOf_12 : decode cX5_sortsOf 12 = .ok (.iload_n 3, 1) := by decide +kernel
theorem dX5_sortsOf_13 : decode cX5_sortsOf 13 = .ok (.aload_n 0, 1) := by decide +kernel
theorem dX5_sortsOf_14 : decode cX5_sortsOf 14 = .ok (.iload 4, 2) := by decide +kernel
theorem dX5_sortsOf_16 : decode cX5_sortsOf 16 = .ok (.iload_n 1, 1) := by decide +kernel
theorem dX5_sortsOf_17 : decode cX5_sortsOf 17 = .ok (.iload_n 2, 1) := by decide +kernel
theorem dX5_sortsOf_18 : decode cX5_sortsOf 18 = .ok (.invokevirtual 164, 3) := by decide +kernel
theorem dX5_sortsOf_21 : decode cX5_sortsOf 21 = .ok (.ifCond .eq 10, 3) := by decide +kernel
theorem dX5_sortsOf_24 : decode cX5_sortsOf 24 = .ok (.iconst 1, 1) := by decide +kernel
theorem dX5_sortsOf_25 : decode cX5_sortsOf 25 = .ok (.iload 4, 2) := by decide +kernel
theorem dX5_sortsOf_27 : decode cX5_sortsOf 27 = .ok (.ishl, 1) := by decide +kernel
theorem dX5_sortsOf_28 : decode cX5_sortsOf 28 = .ok (.goto 4, 3) := by decide +kernel
theorem dX5_sortsOf_31 : decode cX5_sortsOf 31 = .ok (.iconst 0, 1) := by decide +kernel
theorem dX5_sortsOf_32 : decode cX5_sortsOf 32 = .ok (.ior, 1) := by decide +kernel
theorem dX5_sortsOf_33 : decode cX5_sortsOf 33 = .ok (.istore_n 3, 1) := by decide +kernel
theorem dX5_sortsOf_34 : decode cX5_sortsOf 34 = .ok (.iinc 4 1, 3) := by decide +kernel
theorem dX5_sortsOf_37 : decode cX5_sortsOf 37 = .ok (.goto (-32), 3) := by decide +kernel
theorem dX5_sortsOf_40 : decode cX5_sortsOf 40 = .ok (.iload_n 3, 1) := by decide +kernel
theorem dX5_sortsOf_41 : decode cX5_sortsOf 41 = .ok (.ireturn, 1) := by decide +kernel
theorem dX5_wrongSorts_0 : decode cX5_wrongSorts 0 = .ok (.iload_n 0, 1) := by decide +kernel
theorem dX5_wrongSorts_1 : decode cX5_wrongSorts 1 = .ok (.ifCond .lt 7, 3) := by decide +kernel
theorem dX5_wrongSorts_4 : decode cX5_wrongSorts 4 = .ok (.iload_n 1, 1) := by decide +kernel
theorem dX5_wrongSorts_5 : decode cX5_wrongSorts 5 = .ok (.ifCond .ge 8, 3) := by decide +kernel
theorem dX5_wrongSorts_8 : decode cX5_wrongSorts 8 = .ok (.bipush (-4), 2) := by decide +kernel
theorem dX5_wrongSorts_10 : decode cX5_wrongSorts 10 = .ok (.goto 21, 3) := by decide +kernel
theorem dX5_wrongSorts_13 : decode cX5_wrongSorts 13 = .ok (.iload_n 0, 1) := by decide +kernel
theorem dX5_wrongSorts_14 : decode cX5_wrongSorts 14 = .ok (.ldc 168, 2) := by decide +kernel
theorem dX5_wrongSorts_16 : decode cX5_wrongSorts 16 = .ok (.if_icmp .gt 9, 3) := by decide +kernel
theorem dX5_wrongSorts_19 : decode cX5_wrongSorts 19 = .ok (.iload_n 1, 1) := by decide +kernel
theorem dX5_wrongSorts_20 : decode cX5_wrongSorts 20 = .ok (.ldc 168, 2) := by decide +kernel
theorem dX5_wrongSorts_22 : decode cX5_wrongSorts 22 = .ok (.if_icmp .le 8, 3) := by decide +kernel
theorem dX5_wrongSorts_25 : decode cX5_wrongSorts 25 = .ok (.bipush (-6), 2) := by decide +kernel
theorem dX5_wrongSorts_27 : decode cX5_wrongSorts 27 = .ok (.goto 4, 3) := by decide +kernel
theorem dX5_wrongSorts_30 : decode cX5_wrongSorts 30 = .ok (.iconst 0, 1) := by decide +kernel
theorem dX5_wrongSorts_31 : decode cX5_wrongSorts 31 = .ok (.ireturn, 1) := by decide +kernel
set_option maxRecDepth 20000 in
theorem ggX5_sorts_X5_wrongSorts : GoodIn wsX5_sorts wsX5_wrongSorts := goodIn_r _ [4, 5] (by decide +kernel) (by decide +kernel)
set_option maxRecDepth 20000 in
theorem gX5_sorts_X5_wrongSorts : GoodIn wsX5_sorts (va_wsS RX5 169 yX5_wrongSorts wsX5_wrongSorts) := goodIn_app (goodIn_of _ (by decide +kernel)) ggX5_sorts_X5_wrongSorts
set_option maxRecDepth 20000 in
theorem ggX5_sorts_X5_refuse : GoodIn wsX5_sorts wsX5_refuse := goodIn_r _ [9, 10, 69, 70, 71, 72, 73, 74, 75, 76, 77, 78, 79, 80, 81, 82] (by decide +kernel) (by decide +kernel)
set_option maxRecDepth 20000 in
theorem gX5_sorts_X5_refuse : GoodIn wsX5_sorts (wsV RX5 41 RX5 yX5_refuse wsX5_refuse) := goodIn_app (goodIn_of _ (by decide +kernel)) ggX5_sorts_X5_refuse
set_option maxRecDepth 20000 in
theorem ggX5_sorts_X5_sortsOf : GoodIn wsX5_sorts wsX5_sortsOf := goodIn_r _ [14, 15, 16, 17, 3, 18, 19, 20, 21, 22, 23, 24, 25, 26, 27, 28, 29, 30, 31, 32, 33, 34, 35, 36, 37, 38, 39, 40, 41, 42, 43, 44, 45, 46, 47, 48, 49, 50, 51, 52, 53, 54, 55, 56, 57, 58, 59, 60, 61, 62, 63, 64, 65, 66, 67, 68, 69, 70, 71, 72, 73, 74, 75, 76, 77, 78, 79, 80, 81, 82] (by decide +kernel) (by decide +kernel)
set_option maxRecDepth 20000 in
theorem gX5_sorts_X5_sortsOf : GoodIn wsX5_sorts (wsV RX5 172 RX5 yX5_sortsOf wsX5_sortsOf) := goodIn_app (goodIn_of _ (by decide +kernel)) ggX5_sorts_X5_sortsOf
theorem dX5_sorts_0 : decode cX5_sorts 0 = .ok (.iload_n 1, 1) := by decide +kernel
theorem dX5_sorts_1 : decode cX5_sorts 1 = .ok (.iload_n 2, 1) := by decide +kernel
theorem dX5_sorts_2 : decode cX5_sorts 2 = .ok (.invokestatic 169, 3) := by decide +kernel
theorem dX5_sorts_5 : decode cX5_sorts 5 = .ok (.istore_n 3, 1) := by decide +kernel
theorem dX5_sorts_6 : decode cX5_sorts 6 = .ok (.iload_n 3, 1) := by decide +kernel
theorem dX5_sorts_7 : decode cX5_sorts 7 = .ok (.ifCond .eq 11, 3) := by decide +kernel
theorem dX5_sorts_10 : decode cX5_sorts 10 = .ok (.aload_n 0, 1) := by decide +kernel
theorem dX5_sorts_11 : decode cX5_sorts 11 = .ok (.iload_n 3, 1) := by decide +kernel
theorem dX5_sorts_12 : decode cX5_sorts 12 = .ok (.invokevirtual 41, 3) := by decide +kernel
theorem dX5_sorts_15 : decode cX5_sorts 15 = .ok (.goto 9, 3) := by decide +kernel
theorem dX5_sorts_18 : decode cX5_sorts 18 = .ok (.aload_n 0, 1) := by decide +kernel
theorem dX5_sorts_19 : decode cX5_sorts 19 = .ok (.iload_n 1, 1) := by decide +kernel
theorem dX5_sorts_20 : decode cX5_sorts 20 = .ok (.iload_n 2, 1) := by decide +kernel
theorem dX5_sorts_21 : decode cX5_sorts 21 = .ok (.invokevirtual 172, 3) := by decide +kernel
theorem dX5_sorts_24 : decode cX5_sorts 24 = .ok (.ireturn, 1) := by decide +kernel
set_option maxRecDepth 20000 in
theorem ggX5_odds_X5_isIn : GoodIn wsX5_odds wsX5_isIn := goodIn_r _ [4] (by decide +kernel) (by decide +kernel)
set_option maxRecDepth 20000 in
theorem gX5_odds_X5_isIn : GoodIn wsX5_odds (va_wsS RX5 89 yX5_isIn wsX5_isIn) := goodIn_app (goodIn_of _ (by decide +kernel)) ggX5_odds_X5_isIn
set_option maxRecDepth 20000 in
theorem ggX5_odds_X5_wrongSorts : GoodIn wsX5_odds wsX5_wrongSorts := goodIn_r _ [7, 8] (by decide +kernel) (by decide +kernel)
set_option maxRecDepth 20000 in
theorem gX5_odds_X5_wrongSorts : GoodIn wsX5_odds (va_wsS RX5 169 yX5_wrongSorts wsX5_wrongSorts) := goodIn_app (goodIn_of _ (by decide +kernel)) ggX5_odds_X5_wrongSorts
set_option maxRecDepth 20000 in
theorem ggX5_odds_X5_refuse : GoodIn wsX5_odds wsX5_refuse := goodIn_r _ [12, 13, 72, 73, 74, 75, 76, 77, 78, 79, 80, 81, 82, 83, 84, 85] (by decide +kernel) (by decide +kernel)
set_option maxRecDepth 20000 in
theorem gX5_odds_X5_refuse : GoodIn wsX5_odds (wsV RX5 41 RX5 yX5_refuse wsX5_refuse) := goodIn_app (goodIn_of _ (by decide +kernel)) ggX5_odds_X5_refuse
set_option maxRecDepth 20000 in
theorem ggX5_odds_X5_sortsOf : GoodIn wsX5_odds wsX5_sortsOf := goodIn_r _ [17, 18, 19, 20, 3, 21, 22, 23, 24, 25, 26, 27, 28, 29, 30, 31, 32, 33, 34, 35, 36, 37, 38, 39, 40, 41, 42, 43, 44, 45, 46, 47, 48, 49, 50, 51, 52, 53, 54, 55, 56, 57, 58, 59, 60, 61, 62, 63, 64, 65, 66, 67, 68, 69, 70, 71, 72, 73, 74, 75, 76, 77, 78, 79, 80, 81, 82, 83, 84, 85] (by decide +kernel) (by decide +kernel)
set_option maxRecDepth 20000 in
theorem gX5_odds_X5_sortsOf : GoodIn wsX5_odds (wsV RX5 172 RX5 yX5_sortsOf wsX5_sortsOf) := goodIn_app (goodIn_of _ (by decide +kernel)) ggX5_odds_X5_sortsOf
theorem dX5_odds_0 : decode cX5_odds 0 = .ok (.iload_n 1, 1) := by decide +kernel
theorem dX5_odds_1 : decode cX5_odds 1 = .ok (.iconst 1, 1) := by decide +kernel
theorem dX5_odds_2 : decode cX5_odds 2 = .ok (.isub, 1) := by decide +kernel
theorem dX5_odds_3 : decode cX5_odds 3 = .ok (.bipush 9, 2) := by decide +kernel
theorem dX5_odds_5 : decode cX5_odds 5 = .ok (.invokestatic 89, 3) := by decide +kernel
theorem dX5_odds_8 : decode cX5_odds 8 = .ok (.ifCond .ne 7, 3) := by decide +kernel
theorem dX5_odds_11 : decode cX5_odds 11 = .ok (.iconst (-1), 1) := by decide +kernel
theorem dX5_odds_12 : decode cX5_odds 12 = .ok (.goto 22, 3) := by decide +kernel
theorem dX5_odds_15 : decode cX5_odds 15 = .ok (.iload 4, 2) := by decide +kernel
theorem dX5_odds_17 : decode cX5_odds 17 = .ok (.iconst 2, 1) := by decide +kernel
theorem dX5_odds_18 : decode cX5_odds 18 = .ok (.invokestatic 89, 3) := by decide +kernel
theorem dX5_odds_21 : decode cX5_odds 21 = .ok (.ifCond .ne 8, 3) := by decide +kernel
theorem dX5_odds_24 : decode cX5_odds 24 = .ok (.bipush (-2), 2) := by decide +kernel
theorem dX5_odds_26 : decode cX5_odds 26 = .ok (.goto 8, 3) := by decide +kernel
theorem dX5_odds_29 : decode cX5_odds 29 = .ok (.iload_n 2, 1) := by decide +kernel
theorem dX5_odds_30 : decode cX5_odds 30 = .ok (.iload_n 3, 1) := by decide +kernel
theorem dX5_odds_31 : decode cX5_odds 31 = .ok (.invokestatic 169, 3) := by decide +kernel
theorem dX5_odds_34 : decode cX5_odds 34 = .ok (.istore 5, 2) := by decide +kernel
theorem dX5_odds_36 : decode cX5_odds 36 = .ok (.iload 5, 2) := by decide +kernel
theorem dX5_odds_38 : decode cX5_odds 38 = .ok (.ifCond .eq 10, 3) := by decide +kernel
theorem dX5_odds_41 : decode cX5_odds 41 = .ok (.aload_n 0, 1) := by decide +kernel
theorem dX5_odds_42 : decode cX5_odds 42 = .ok (.iload 5, 2) := by decide +kernel
theorem dX5_odds_44 : decode cX5_odds 44 = .ok (.invokevirtual 41, 3) := by decide +kernel
theorem dX5_odds_47 : decode cX5_odds 47 = .ok (.ireturn, 1) := by decide +kernel
theorem dX5_odds_48 : decode cX5_odds 48 = .ok (.aload_n 0, 1) := by decide +kernel
theorem dX5_odds_49 : decode cX5_odds 49 = .ok (.iload_n 2, 1) := by decide +kernel
theorem dX5_odds_50 : decode cX5_odds 50 = .ok (.iload_n 3, 1) := by decide +kernel
theorem dX5_odds_51 : decode cX5_odds 51 = .ok (.invokevirtual 172, 3) := by decide +kernel
theorem dX5_odds_54 : decode cX5_odds 54 = .ok (.istore 6, 2) := by decide +kernel
theorem dX5_odds_56 : decode cX5_odds 56 = .ok (.iload 6, 2) := by decide +kernel
theorem dX5_odds_58 : decode cX5_odds 58 = .ok (.iload_n 1, 1) := by decide +kernel
theorem dX5_odds_59 : decode cX5_odds 59 = .ok (.ishr, 1) := by decide +kernel
theorem dX5_odds_60 : decode cX5_odds 60 = .ok (.iconst 1, 1) := by decide +kernel
theorem dX5_odds_61 : decode cX5_odds 61 = .ok (.iand, 1) := by decide +kernel
theorem dX5_odds_62 : decode cX5_odds 62 = .ok (.ifCond .ne 6, 3) := by decide +kernel
theorem dX5_odds_65 : decode cX5_odds 65 = .ok (.iload 4, 2) := by decide +kernel
theorem dX5_odds_67 : decode cX5_odds 67 = .ok (.ireturn, 1) := by decide +kernel
theorem dX5_odds_68 : decode cX5_odds 68 = .ok (.iconst 0, 1) := by decide +kernel
theorem dX5_odds_69 : decode cX5_odds 69 = .ok (.istore 7, 2) := by decide +kernel
theorem dX5_odds_71 : decode cX5_odds 71 = .ok (.iload 6, 2) := by decide +kernel
theorem dX5_odds_73 : decode cX5_odds 73 = .ok (.istore 8, 2) := by decide +kernel
theorem dX5_odds_75 : decode cX5_odds 75 = .ok (.iload 8, 2) := by decide +kernel
theorem dX5_odds_77 : decode cX5_odds 77 = .ok (.ifCond .le 21, 3) := by decide +kernel
theorem dX5_odds_80 : decode cX5_odds 80 = .ok (.iload 7, 2) := by decide +kernel
theorem dX5_odds_82 : decode cX5_odds 82 = .ok (.iload 8, 2) := by decide +kernel
theorem dX5_odds_84 : decode cX5_odds 84 = .ok (.iconst 1, 1) := by decide +kernel
theorem dX5_odds_85 : decode cX5_odds 85 = .ok (.iand, 1) := by decide +kernel
theorem dX5_odds_86 : decode cX5_odds 86 = .ok (.iadd, 1) := by decide +kernel
theorem dX5_odds_87 : decode cX5_odds 87 = .ok (.istore 7, 2) := by decide +kernel
theorem dX5_odds_89 : decode cX5_odds 89 = .ok (.iload 8, 2) := by decide +kernel
theorem dX5_odds_91 : decode cX5_odds 91 = .ok (.iconst 1, 1) := by decide +kernel
theorem dX5_odds_92 : decode cX5_odds 92 = .ok (.ishr, 1) := by decide +kernel
theorem dX5_odds_93 : decode cX5_odds 93 = .ok (.istore 8, 2) := by decide +kernel
theorem dX5_odds_95 : decode cX5_odds 95 = .ok (.goto (-20), 3) := by decide +kernel
theorem dX5_odds_98 : decode cX5_odds 98 = .ok (.iload 4, 2) := by decide +kernel
theorem dX5_odds_100 : decode cX5_odds 100 = .ok (.ifCond .ne 7, 3) := by decide +kernel
theorem dX5_odds_103 : decode cX5_odds 103 = .ok (.iconst 1, 1) := by decide +kernel
theorem dX5_odds_104 : decode cX5_odds 104 = .ok (.goto 5, 3) := by decide +kernel
theorem dX5_odds_107 : decode cX5_odds 107 = .ok (.iload 7, 2) := by decide +kernel
theorem dX5_odds_109 : decode cX5_odds 109 = .ok (.ireturn, 1) := by decide +kernel
set_option maxRecDepth 20000 in
theorem ggX5_drafts_X5_wrongRun : GoodIn wsX5_drafts wsX5_wrongRun := goodIn_r _ [11, 12, 13, 10, 14] (by decide +kernel) (by decide +kernel)
set_option maxRecDepth 20000 in
theorem gX5_drafts_X5_wrongRun : GoodIn wsX5_drafts (wsV RX5 134 RX5 yX5_wrongRun wsX5_wrongRun) := goodIn_app (goodIn_of _ (by decide +kernel)) ggX5_drafts_X5_wrongRun
set_option maxRecDepth 20000 in
theorem ggX5_drafts_X5_refuse : GoodIn wsX5_drafts wsX5_refuse := goodIn_r _ [18, 19, 56, 57, 58, 59, 60, 61, 62, 63, 64, 65, 66, 67, 68, 69] (by decide +kernel) (by decide +kernel)
set_option maxRecDepth 20000 in
theorem gX5_drafts_X5_refuse : GoodIn wsX5_drafts (wsV RX5 41 RX5 yX5_refuse wsX5_refuse) := goodIn_app (goodIn_of _ (by decide +kernel)) ggX5_drafts_X5_refuse
set_option maxRecDepth 20000 in
theorem ggX5_drafts_X5_begins : GoodIn wsX5_drafts wsX5_begins := goodIn_r _ [23, 6, 1, 24, 25, 10, 26, 56, 57, 58, 59, 60, 61, 62, 63, 64, 65, 66, 67, 68, 69] (by decide +kernel) (by decide +kernel)
set_option maxRecDepth 20000 in
theorem gX5_drafts_X5_begins : GoodIn wsX5_drafts (wsV RX5 137 RX5 yX5_begins wsX5_begins) := goodIn_app (goodIn_of _ (by decide +kernel)) ggX5_drafts_X5_begins
set_option maxRecDepth 20000 in
theorem ggX5_drafts_X5_tenth : GoodIn wsX5_drafts wsX5_tenth := goodIn_r _ [30, 31, 32, 33, 10, 34, 5, 35, 36, 37, 38, 39, 40, 41, 42, 43, 44, 45, 46, 47, 48, 49, 50, 51, 52, 53, 54, 55, 56, 57, 58, 59, 60, 61, 62, 63, 64, 65, 66, 67, 68, 69] (by decide +kernel) (by decide +kernel)
set_option maxRecDepth 20000 in
theorem gX5_drafts_X5_tenth : GoodIn wsX5_drafts (wsV RX5 124 RX5 yX5_tenth wsX5_tenth) := goodIn_app (goodIn_of _ (by decide +kernel)) ggX5_drafts_X5_tenth
theorem dX5_drafts_0 : decode cX5_drafts 0 = .ok (.aload_n 0, 1) := by decide +kernel
theorem dX5_drafts_1 : decode cX5_drafts 1 = .ok (.iload_n 1, 1) := by decide +kernel
theorem dX5_drafts_2 : decode cX5_drafts 2 = .ok (.invokevirtual 134, 3) := by decide +kernel
theorem dX5_drafts_5 : decode cX5_drafts 5 = .ok (.istore_n 3, 1) := by decide +kernel
theorem dX5_drafts_6 : decode cX5_drafts 6 = .ok (.iload_n 3, 1) := by decide +kernel
theorem dX5_drafts_7 : decode cX5_drafts 7 = .ok (.ifCond .eq 9, 3) := by decide +kernel
theorem dX5_drafts_10 : decode cX5_drafts 10 = .ok (.aload_n 0, 1) := by decide +kernel
theorem dX5_drafts_11 : decode cX5_drafts 11 = .ok (.iload_n 3, 1) := by decide +kernel
theorem dX5_drafts_12 : decode cX5_drafts 12 = .ok (.invokevirtual 41, 3) := by decide +kernel
theorem dX5_drafts_15 : decode cX5_drafts 15 = .ok (.ireturn, 1) := by decide +kernel
theorem dX5_drafts_16 : decode cX5_drafts 16 = .ok (.aload_n 0, 1) := by decide +kernel
theorem dX5_drafts_17 : decode cX5_drafts 17 = .ok (.invokevirtual 137, 3) := by decide +kernel
theorem dX5_drafts_20 : decode cX5_drafts 20 = .ok (.iload_n 2, 1) := by decide +kernel
theorem dX5_drafts_21 : decode cX5_drafts 21 = .ok (.istore 4, 2) := by decide +kernel
theorem dX5_drafts_23 : decode cX5_drafts 23 = .ok (.iconst 0, 1) := by decide +kernel
theorem dX5_drafts_24 : decode cX5_drafts 24 = .ok (.istore 5, 2) := by decide +kernel
theorem dX5_drafts_26 : decode cX5_drafts 26 = .ok (.iload 5, 2) := by decide +kernel
theorem dX5_drafts_28 : decode cX5_drafts 28 = .ok (.iload_n 1, 1) := by decide +kernel
theorem dX5_drafts_29 : decode cX5_drafts 29 = .ok (.if_icmp .ge 56, 3) := by decide +kernel
theorem dX5_drafts_32 : decode cX5_drafts 32 = .ok (.aload_n 0, 1) := by decide +kernel
theorem dX5_drafts_33 : decode cX5_drafts 33 = .ok (.getfield 19, 3) := by decide +kernel
theorem dX5_drafts_36 : decode cX5_drafts 36 = .ok (.bipush 22, 2) := by decide +kernel
theorem dX5_drafts_38 : decode cX5_drafts 38 = .ok (.iaload, 1) := by decide +kernel
theorem dX5_drafts_39 : decode cX5_drafts 39 = .ok (.bipush 10, 2) := by decide +kernel
theorem dX5_drafts_41 : decode cX5_drafts 41 = .ok (.irem, 1) := by decide +kernel
theorem dX5_drafts_42 : decode cX5_drafts 42 = .ok (.ifCond .ne 29, 3) := by decide +kernel
theorem dX5_drafts_45 : decode cX5_drafts 45 = .ok (.iload 4, 2) := by decide +kernel
theorem dX5_drafts_47 : decode cX5_drafts 47 = .ok (.ldc 175, 2) := by decide +kernel
theorem dX5_drafts_49 : decode cX5_drafts 49 = .ok (.imul, 1) := by decide +kernel
theorem dX5_drafts_50 : decode cX5_drafts 50 = .ok (.ldc 176, 2) := by decide +kernel
theorem dX5_drafts_52 : decode cX5_drafts 52 = .ok (.iadd, 1) := by decide +kernel
theorem dX5_drafts_53 : decode cX5_drafts 53 = .ok (.istore 4, 2) := by decide +kernel
theorem dX5_drafts_55 : decode cX5_drafts 55 = .ok (.aload_n 0, 1) := by decide +kernel
theorem dX5_drafts_56 : decode cX5_drafts 56 = .ok (.iload 4, 2) := by decide +kernel
theorem dX5_drafts_58 : decode cX5_drafts 58 = .ok (.ldc 177, 2) := by decide +kernel
theorem dX5_drafts_60 : decode cX5_drafts 60 = .ok (.iand, 1) := by decide +kernel
theorem dX5_drafts_61 : decode cX5_drafts 61 = .ok (.sipush 256, 3) := by decide +kernel
theorem dX5_drafts_64 : decode cX5_drafts 64 = .ok (.idiv, 1) := by decide +kernel
theorem dX5_drafts_65 : decode cX5_drafts 65 = .ok (.bipush 10, 2) := by decide +kernel
theorem dX5_drafts_67 : decode cX5_drafts 67 = .ok (.irem, 1) := by decide +kernel
theorem dX5_drafts_68 : decode cX5_drafts 68 = .ok (.putfield 28, 3) := by decide +kernel
theorem dX5_drafts_71 : decode cX5_drafts 71 = .ok (.aload_n 0, 1) := by decide +kernel
theorem dX5_drafts_72 : decode cX5_drafts 72 = .ok (.aload_n 0, 1) := by decide +kernel
theorem dX5_drafts_73 : decode cX5_drafts 73 = .ok (.getfield 19, 3) := by decide +kernel
theorem dX5_drafts_76 : decode cX5_drafts 76 = .ok (.invokevirtual 124, 3) := by decide +kernel
theorem dX5_drafts_79 : decode cX5_drafts 79 = .ok (.iinc 5 1, 3) := by decide +kernel
theorem dX5_drafts_82 : decode cX5_drafts 82 = .ok (.goto (-56), 3) := by decide +kernel
theorem dX5_drafts_85 : decode cX5_drafts 85 = .ok (.aload_n 0, 1) := by decide +kernel
theorem dX5_drafts_86 : decode cX5_drafts 86 = .ok (.bipush (-9), 2) := by decide +kernel
theorem dX5_drafts_88 : decode cX5_drafts 88 = .ok (.putfield 28, 3) := by decide +kernel
theorem dX5_drafts_91 : decode cX5_drafts 91 = .ok (.aload_n 0, 1) := by decide +kernel
theorem dX5_drafts_92 : decode cX5_drafts 92 = .ok (.getfield 19, 3) := by decide +kernel
theorem dX5_drafts_95 : decode cX5_drafts 95 = .ok (.bipush 23, 2) := by decide +kernel
theorem dX5_drafts_97 : decode cX5_drafts 97 = .ok (.iaload, 1) := by decide +kernel
theorem dX5_drafts_98 : decode cX5_drafts 98 = .ok (.aload_n 0, 1) := by decide +kernel
theorem dX5_drafts_99 : decode cX5_drafts 99 = .ok (.getfield 13, 3) := by decide +kernel
theorem dX5_drafts_102 : decode cX5_drafts 102 = .ok (.bipush 23, 2) := by decide +kernel
theorem dX5_drafts_104 : decode cX5_drafts 104 = .ok (.iaload, 1) := by decide +kernel
theorem dX5_drafts_105 : decode cX5_drafts 105 = .ok (.isub, 1) := by decide +kernel
theorem dX5_drafts_106 : decode cX5_drafts 106 = .ok (.ireturn, 1) := by decide +kernel
set_option maxRecDepth 20000 in
theorem ggX5_image_X5_copies : GoodIn wsX5_image wsX5_copies := goodIn_r _ [7] (by decide +kernel) (by decide +kernel)
set_option maxRecDepth 20000 in
theorem gX5_image_X5_copies : GoodIn wsX5_image (va_wsS RX5 72 yX5_copies wsX5_copies) := goodIn_app (goodIn_of _ (by decide +kernel)) ggX5_image_X5_copies
theorem dX5_image_0 : decode cX5_image 0 = .ok (.aload_n 0, 1) := by decide +kernel
theorem dX5_image_1 : decode cX5_image 1 = .ok (.getfield 13, 3) := by decide +kernel
theorem dX5_image_4 : decode cX5_image 4 = .ok (.aload_n 0, 1) := by decide +kernel
theorem dX5_image_5 : decode cX5_image 5 = .ok (.getfield 16, 3) := by decide +kernel
theorem dX5_image_8 : decode cX5_image 8 = .ok (.invokestatic 72, 3) := by decide +kernel
theorem dX5_image_11 : decode cX5_image 11 = .ok (.aload_n 0, 1) := by decide +kernel
theorem dX5_image_12 : decode cX5_image 12 = .ok (.iconst 1, 1) := by decide +kernel
theorem dX5_image_13 : decode cX5_image 13 = .ok (.putfield 178, 3) := by decide +kernel
theorem dX5_image_16 : decode cX5_image 16 = .ok (.aload_n 0, 1) := by decide +kernel
theorem dX5_image_17 : decode cX5_image 17 = .ok (.getfield 13, 3) := by decide +kernel
theorem dX5_image_20 : decode cX5_image 20 = .ok (.bipush 22, 2) := by decide +kernel
theorem dX5_image_22 : decode cX5_image 22 = .ok (.iaload, 1) := by decide +kernel
theorem dX5_image_23 : decode cX5_image 23 = .ok (.ireturn, 1) := by decide +kernel
set_option maxRecDepth 20000 in
theorem ggX5_on_X5_refuse : GoodIn wsX5_on wsX5_refuse := goodIn_r _ [8, 9, 13, 14, 15, 16, 17, 18, 19, 20, 21, 22, 23, 24, 25, 26] (by decide +kernel) (by decide +kernel)
set_option maxRecDepth 20000 in
theorem gX5_on_X5_refuse : GoodIn wsX5_on (wsV RX5 41 RX5 yX5_refuse wsX5_refuse) := goodIn_app (goodIn_of _ (by decide +kernel)) ggX5_on_X5_refuse
set_option maxRecDepth 20000 in
theorem ggX5_on_X5_copies : GoodIn wsX5_on wsX5_copies := goodIn_r _ [12] (by decide +kernel) (by decide +kernel)
set_option maxRecDepth 20000 in
theorem gX5_on_X5_copies : GoodIn wsX5_on (va_wsS RX5 72 yX5_copies wsX5_copies) := goodIn_app (goodIn_of _ (by decide +kernel)) ggX5_on_X5_copies
theorem dX5_on_0 : decode cX5_on 0 = .ok (.aload_n 0, 1) := by decide +kernel
theorem dX5_on_1 : decode cX5_on 1 = .ok (.getfield 178, 3) := by decide +kernel
theorem dX5_on_4 : decode cX5_on 4 = .ok (.ifCond .ne 10, 3) := by decide +kernel
theorem dX5_on_7 : decode cX5_on 7 = .ok (.aload_n 0, 1) := by decide +kernel
theorem dX5_on_8 : decode cX5_on 8 = .ok (.bipush (-3), 2) := by decide +kernel
theorem dX5_on_10 : decode cX5_on 10 = .ok (.invokevirtual 41, 3) := by decide +kernel
theorem dX5_on_13 : decode cX5_on 13 = .ok (.ireturn, 1) := by decide +kernel
theorem dX5_on_14 : decode cX5_on 14 = .ok (.aload_n 0, 1) := by decide +kernel
theorem dX5_on_15 : decode cX5_on 15 = .ok (.getfield 16, 3) := by decide +kernel
theorem dX5_on_18 : decode cX5_on 18 = .ok (.aload_n 0, 1) := by decide +kernel
theorem dX5_on_19 : decode cX5_on 19 = .ok (.getfield 13, 3) := by decide +kernel
theorem dX5_on_22 : decode cX5_on 22 = .ok (.invokestatic 72, 3) := by decide +kernel
theorem dX5_on_25 : decode cX5_on 25 = .ok (.aload_n 0, 1) := by decide +kernel
theorem dX5_on_26 : decode cX5_on 26 = .ok (.getfield 13, 3) := by decide +kernel
theorem dX5_on_29 : decode cX5_on 29 = .ok (.bipush 22, 2) := by decide +kernel
theorem dX5_on_31 : decode cX5_on 31 = .ok (.iaload, 1) := by decide +kernel
theorem dX5_on_32 : decode cX5_on 32 = .ok (.ireturn, 1) := by decide +kernel
theorem dX5_count_0 : decode cX5_count 0 = .ok (.iload_n 1, 1) := by decide +kernel
theorem dX5_count_1 : decode cX5_count 1 = .ok (.bipush 10, 2) := by decide +kernel
theorem dX5_count_3 : decode cX5_count 3 = .ok (.if_icmp .le 19, 3) := by decide +kernel
theorem dX5_count_6 : decode cX5_count 6 = .ok (.iload_n 1, 1) := by decide +kernel
theorem dX5_count_7 : decode cX5_count 7 = .ok (.bipush 17, 2) := by decide +kernel
theorem dX5_count_9 : decode cX5_count 9 = .ok (.if_icmp .ge 13, 3) := by decide +kernel
theorem dX5_count_12 : decode cX5_count 12 = .ok (.aload_n 0, 1) := by decide +kernel
theorem dX5_count_13 : decode cX5_count 13 = .ok (.getfield 7, 3) := by decide +kernel
theorem dX5_count_16 : decode cX5_count 16 = .ok (.iload_n 1, 1) := by decide +kernel
theorem dX5_count_17 : decode cX5_count 17 = .ok (.bipush 10, 2) := by decide +kernel
theorem dX5_count_19 : decode cX5_count 19 = .ok (.isub, 1) := by decide +kernel
theorem dX5_count_20 : decode cX5_count 20 = .ok (.iaload, 1) := by decide +kernel
theorem dX5_count_21 : decode cX5_count 21 = .ok (.ireturn, 1) := by decide +kernel
theorem dX5_count_22 : decode cX5_count 22 = .ok (.iload_n 1, 1) := by decide +kernel
theorem dX5_count_23 : decode cX5_count 23 = .ok (.tableswitch 56 0 3 #[29, 37, 46, 51], 29) := by decide +kernel
theorem dX5_count_52 : decode cX5_count 52 = .ok (.aload_n 0, 1) := by decide +kernel
theorem dX5_count_53 : decode cX5_count 53 = .ok (.getfield 13, 3) := by decide +kernel
theorem dX5_count_56 : decode cX5_count 56 = .ok (.bipush 89, 2) := by decide +kernel
theorem dX5_count_58 : decode cX5_count 58 = .ok (.iaload, 1) := by decide +kernel
theorem dX5_count_59 : decode cX5_count 59 = .ok (.ireturn, 1) := by decide +kernel
theorem dX5_count_60 : decode cX5_count 60 = .ok (.aload_n 0, 1) := by decide +kernel
theorem dX5_count_61 : decode cX5_count 61 = .ok (.getfield 13, 3) := by decide +kernel
theorem dX5_count_64 : decode cX5_count 64 = .ok (.sipush 150, 3) := by decide +kernel
theorem dX5_count_67 : decode cX5_count 67 = .ok (.iaload, 1) := by decide +kernel
theorem dX5_count_68 : decode cX5_count 68 = .ok (.ireturn, 1) := by decide +kernel
theorem dX5_count_69 : decode cX5_count 69 = .ok (.aload_n 0, 1) := by decide +kernel
theorem dX5_count_70 : decode cX5_count 70 = .ok (.getfield 158, 3) := by decide +kernel
theorem dX5_count_73 : decode cX5_count 73 = .ok (.ireturn, 1) := by decide +kernel
theorem dX5_count_74 : decode cX5_count 74 = .ok (.aload_n 0, 1) := by decide +kernel
theorem dX5_count_75 : decode cX5_count 75 = .ok (.getfield 45, 3) := by decide +kernel
theorem dX5_count_78 : decode cX5_count 78 = .ok (.ireturn, 1) := by decide +kernel
theorem dX5_count_79 : decode cX5_count 79 = .ok (.bipush (-9), 2) := by decide +kernel
theorem dX5_count_81 : decode cX5_count 81 = .ok (.ireturn, 1) := by decide +kernel
theorem dJ6_bitCount_0f7a4_0 : decode cJ6_bitCount_0f7a4 0 = .ok (.iload_n 0, 1) := by decide +kernel
theorem dJ6_bitCount_0f7a4_1 : decode cJ6_bitCount_0f7a4 1 = .ok (.iload_n 0, 1) := by decide +kernel
theorem dJ6_bitCount_0f7a4_2 : decode cJ6_bitCount_0f7a4 2 = .ok (.iconst 1, 1) := by decide +kernel
theorem dJ6_bitCount_0f7a4_3 : decode cJ6_bitCount_0f7a4 3 = .ok (.iushr, 1) := by decide +kernel
theorem dJ6_bitCount_0f7a4_4 : decode cJ6_bitCount_0f7a4 4 = .ok (.ldc_w 265, 3) := by decide +kernel
theorem dJ6_bitCount_0f7a4_7 : decode cJ6_bitCount_0f7a4 7 = .ok (.iand, 1) := by decide +kernel
theorem dJ6_bitCount_0f7a4_8 : decode cJ6_bitCount_0f7a4 8 = .ok (.isub, 1) := by decide +kernel
theorem dJ6_bitCount_0f7a4_9 : decode cJ6_bitCount_0f7a4 9 = .ok (.istore_n 0, 1) := by decide +kernel
theorem dJ6_bitCount_0f7a4_10 : decode cJ6_bitCount_0f7a4 10 = .ok (.iload_n 0, 1) := by decide +kernel
theorem dJ6_bitCount_0f7a4_11 : decode cJ6_bitCount_0f7a4 11 = .ok (.ldc_w 266, 3) := by decide +kernel
theorem dJ6_bitCount_0f7a4_14 : decode cJ6_bitCount_0f7a4 14 = .ok (.iand, 1) := by decide +kernel
theorem dJ6_bitCount_0f7a4_15 : decode cJ6_bitCount_0f7a4 15 = .ok (.iload_n 0, 1) := by decide +kernel
theorem dJ6_bitCount_0f7a4_16 : decode cJ6_bitCount_0f7a4 16 = .ok (.iconst 2, 1) := by decide +kernel
theorem dJ6_bitCount_0f7a4_17 : decode cJ6_bitCount_0f7a4 17 = .ok (.iushr, 1) := by decide +kernel
theorem dJ6_bitCount_0f7a4_18 : decode cJ6_bitCount_0f7a4 18 = .ok (.ldc_w 266, 3) := by decide +kernel
theorem dJ6_bitCount_0f7a4_21 : decode cJ6_bitCount_0f7a4 21 = .ok (.iand, 1) := by decide +kernel
theorem dJ6_bitCount_0f7a4_22 : decode cJ6_bitCount_0f7a4 22 = .ok (.iadd, 1) := by decide +kernel
theorem dJ6_bitCount_0f7a4_23 : decode cJ6_bitCount_0f7a4 23 = .ok (.istore_n 0, 1) := by decide +kernel
theorem dJ6_bitCount_0f7a4_24 : decode cJ6_bitCount_0f7a4 24 = .ok (.iload_n 0, 1) := by decide +kernel
theorem dJ6_bitCount_0f7a4_25 : decode cJ6_bitCount_0f7a4 25 = .ok (.iload_n 0, 1) := by decide +kernel
theorem dJ6_bitCount_0f7a4_26 : decode cJ6_bitCount_0f7a4 26 = .ok (.iconst 4, 1) := by decide +kernel
theorem dJ6_bitCount_0f7a4_27 : decode cJ6_bitCount_0f7a4 27 = .ok (.iushr, 1) := by decide +kernel
theorem dJ6_bitCount_0f7a4_28 : decode cJ6_bitCount_0f7a4 28 = .ok (.iadd, 1) := by decide +kernel
theorem dJ6_bitCount_0f7a4_29 : decode cJ6_bitCount_0f7a4 29 = .ok (.ldc_w 267, 3) := by decide +kernel
theorem dJ6_bitCount_0f7a4_32 : decode cJ6_bitCount_0f7a4 32 = .ok (.iand, 1) := by decide +kernel
theorem dJ6_bitCount_0f7a4_33 : decode cJ6_bitCount_0f7a4 33 = .ok (.istore_n 0, 1) := by decide +kernel
theorem dJ6_bitCount_0f7a4_34 : decode cJ6_bitCount_0f7a4 34 = .ok (.iload_n 0, 1) := by decide +kernel
theorem dJ6_bitCount_0f7a4_35 : decode cJ6_bitCount_0f7a4 35 = .ok (.iload_n 0, 1) := by decide +kernel
theorem dJ6_bitCount_0f7a4_36 : decode cJ6_bitCount_0f7a4 36 = .ok (.bipush 8, 2) := by decide +kernel
theorem dJ6_bitCount_0f7a4_38 : decode cJ6_bitCount_0f7a4 38 = .ok (.iushr, 1) := by decide +kernel
theorem dJ6_bitCount_0f7a4_39 : decode cJ6_bitCount_0f7a4 39 = .ok (.iadd, 1) := by decide +kernel
theorem dJ6_bitCount_0f7a4_40 : decode cJ6_bitCount_0f7a4 40 = .ok (.istore_n 0, 1) := by decide +kernel
theorem dJ6_bitCount_0f7a4_41 : decode cJ6_bitCount_0f7a4 41 = .ok (.iload_n 0, 1) := by decide +kernel
theorem dJ6_bitCount_0f7a4_42 : decode cJ6_bitCount_0f7a4 42 = .ok (.iload_n 0, 1) := by decide +kernel
theorem dJ6_bitCount_0f7a4_43 : decode cJ6_bitCount_0f7a4 43 = .ok (.bipush 16, 2) := by decide +kernel
theorem dJ6_bitCount_0f7a4_45 : decode cJ6_bitCount_0f7a4 45 = .ok (.iushr, 1) := by decide +kernel
theorem dJ6_bitCount_0f7a4_46 : decode cJ6_bitCount_0f7a4 46 = .ok (.iadd, 1) := by decide +kernel
theorem dJ6_bitCount_0f7a4_47 : decode cJ6_bitCount_0f7a4 47 = .ok (.istore_n 0, 1) := by decide +kernel
theorem dJ6_bitCount_0f7a4_48 : decode cJ6_bitCount_0f7a4 48 = .ok (.iload_n 0, 1) := by decide +kernel
theorem dJ6_bitCount_0f7a4_49 : decode cJ6_bitCount_0f7a4 49 = .ok (.bipush 63, 2) := by decide +kernel
theorem dJ6_bitCount_0f7a4_51 : decode cJ6_bitCount_0f7a4 51 = .ok (.iand, 1) := by decide +kernel
theorem dJ6_bitCount_0f7a4_52 : decode cJ6_bitCount_0f7a4 52 = .ok (.ireturn, 1) := by decide +kernel
theorem dJ9_abs_0f7a4_0 : decode cJ9_abs_0f7a4 0 = .ok (.iload_n 0, 1) := by decide +kernel
theorem dJ9_abs_0f7a4_1 : decode cJ9_abs_0f7a4 1 = .ok (.ifCond .ge 8, 3) := by decide +kernel
theorem dJ9_abs_0f7a4_4 : decode cJ9_abs_0f7a4 4 = .ok (.iload_n 0, 1) := by decide +kernel
theorem dJ9_abs_0f7a4_5 : decode cJ9_abs_0f7a4 5 = .ok (.ineg, 1) := by decide +kernel
theorem dJ9_abs_0f7a4_6 : decode cJ9_abs_0f7a4 6 = .ok (.goto 4, 3) := by decide +kernel
theorem dJ9_abs_0f7a4_9 : decode cJ9_abs_0f7a4 9 = .ok (.iload_n 0, 1) := by decide +kernel
theorem dJ9_abs_0f7a4_10 : decode cJ9_abs_0f7a4 10 = .ok (.ireturn, 1) := by decide +kernel
theorem dJ9_max_7cf53_0 : decode cJ9_max_7cf53 0 = .ok (.iload_n 0, 1) := by decide +kernel
theorem dJ9_max_7cf53_1 : decode cJ9_max_7cf53 1 = .ok (.iload_n 1, 1) := by decide +kernel
theorem dJ9_max_7cf53_2 : decode cJ9_max_7cf53 2 = .ok (.if_icmp .lt 7, 3) := by decide +kernel
theorem dJ9_max_7cf53_5 : decode cJ9_max_7cf53 5 = .ok (.iload_n 0, 1) := by decide +kernel
theorem dJ9_max_7cf53_6 : decode cJ9_max_7cf53 6 = .ok (.goto 4, 3) := by decide +kernel
theorem dJ9_max_7cf53_9 : decode cJ9_max_7cf53 9 = .ok (.iload_n 1, 1) := by decide +kernel
theorem dJ9_max_7cf53_10 : decode cJ9_max_7cf53 10 = .ok (.ireturn, 1) := by decide +kernel
theorem dJ9_min_7cf53_0 : decode cJ9_min_7cf53 0 = .ok (.iload_n 0, 1) := by decide +kernel
theorem dJ9_min_7cf53_1 : decode cJ9_min_7cf53 1 = .ok (.iload_n 1, 1) := by decide +kernel
theorem dJ9_min_7cf53_2 : decode cJ9_min_7cf53 2 = .ok (.if_icmp .gt 7, 3) := by decide +kernel
theorem dJ9_min_7cf53_5 : decode cJ9_min_7cf53 5 = .ok (.iload_n 0, 1) := by decide +kernel
theorem dJ9_min_7cf53_6 : decode cJ9_min_7cf53 6 = .ok (.goto 4, 3) := by decide +kernel
theorem dJ9_min_7cf53_9 : decode cJ9_min_7cf53 9 = .ok (.iload_n 1, 1) := by decide +kernel
theorem dJ9_min_7cf53_10 : decode cJ9_min_7cf53 10 = .ok (.ireturn, 1) := by decide +kernel
abbrev vwCl : List vw_C := [(RX0, TX0, 18), (RX1, TX1, 2), (RX2, TX2, 3), (RX3, TX3, 6), (RX4, TX4, 8), (RX5, TX5, 14)]
