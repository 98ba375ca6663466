theorem dX4_latest_1 : decode cX4_latest 1 = .ok (.iload_n 1, 1) := by decide +kernel
theorem dX4_latest_2 : decode cX4_latest 2 = .ok (.iconst 1, 1) := by decide +kernel
theorem dX4_latest_3 : decode cX4_latest 3 = .ok (.if_icmp .ge 7, 3) := by decide +kernel
theorem dX4_latest_6 : decode cX4_latest 6 = .ok (.iconst 1, 1) := by decide +kernel
theorem dX4_latest_7 : decode cX4_latest 7 = .ok (.goto 4, 3) := by decide +kernel
theorem dX4_latest_10 : decode cX4_latest 10 = .ok (.iconst 0, 1) := by decide +kernel
theorem dX4_latest_11 : decode cX4_latest 11 = .ok (.iload_n 1, 1) := by decide +kernel
theorem dX4_latest_12 : decode cX4_latest 12 = .ok (.sipush 3000, 3) := by decide +kernel
theorem dX4_latest_15 : decode cX4_latest 15 = .ok (.if_icmp .le 7, 3) := by decide +kernel
theorem dX4_latest_18 : decode cX4_latest 18 = .ok (.iconst 1, 1) := by decide +kernel
theorem dX4_latest_19 : decode cX4_latest 19 = .ok (.goto 4, 3) := by decide +kernel
theorem dX4_latest_22 : decode cX4_latest 22 = .ok (.iconst 0, 1) := by decide +kernel
theorem dX4_latest_23 : decode cX4_latest 23 = .ok (.invokevirtual 58, 3) := by decide +kernel
theorem dX4_latest_26 : decode cX4_latest 26 = .ok (.istore_n 2, 1) := by decide +kernel
theorem dX4_latest_27 : decode cX4_latest 27 = .ok (.iload_n 2, 1) := by decide +kernel
theorem dX4_latest_28 : decode cX4_latest 28 = .ok (.ifCond .eq 5, 3) := by decide +kernel
theorem dX4_latest_31 : decode cX4_latest 31 = .ok (.iload_n 2, 1) := by decide +kernel
theorem dX4_latest_32 : decode cX4_latest 32 = .ok (.ireturn, 1) := by decide +kernel
theorem dX4_latest_33 : decode cX4_latest 33 = .ok (.bipush (-9), 2) := by decide +kernel
theorem dX4_latest_35 : decode cX4_latest 35 = .ok (.istore_n 3, 1) := by decide +kernel
theorem dX4_latest_36 : decode cX4_latest 36 = .ok (.iconst (-1), 1) := by decide +kernel
theorem dX4_latest_37 : decode cX4_latest 37 = .ok (.istore 4, 2) := by decide +kernel
theorem dX4_latest_39 : decode cX4_latest 39 = .ok (.iconst 1, 1) := by decide +kernel
theorem dX4_latest_40 : decode cX4_latest 40 = .ok (.istore 5, 2) := by decide +kernel
theorem dX4_latest_42 : decode cX4_latest 42 = .ok (.iload 5, 2) := by decide +kernel
theorem dX4_latest_44 : decode cX4_latest 44 = .ok (.iconst 4, 1) := by decide +kernel
theorem dX4_latest_45 : decode cX4_latest 45 = .ok (.if_icmp .gt 37, 3) := by decide +kernel
theorem dX4_latest_48 : decode cX4_latest 48 = .ok (.aload_n 0, 1) := by decide +kernel
theorem dX4_latest_49 : decode cX4_latest 49 = .ok (.bipush 6, 2) := by decide +kernel
theorem dX4_latest_51 : decode cX4_latest 51 = .ok (.iload 5, 2) := by decide +kernel
theorem dX4_latest_53 : decode cX4_latest 53 = .ok (.invokevirtual 166, 3) := by decide +kernel
theorem dX4_latest_56 : decode cX4_latest 56 = .ok (.iload_n 1, 1) := by decide +kernel
theorem dX4_latest_57 : decode cX4_latest 57 = .ok (.invokevirtual 187, 3) := by decide +kernel
theorem dX4_latest_60 : decode cX4_latest 60 = .ok (.istore 6, 2) := by decide +kernel
theorem dX4_latest_62 : decode cX4_latest 62 = .ok (.iload 6, 2) := by decide +kernel
theorem dX4_latest_64 : decode cX4_latest 64 = .ok (.iload 4, 2) := by decide +kernel
theorem dX4_latest_66 : decode cX4_latest 66 = .ok (.if_icmp .le 10, 3) := by decide +kernel
theorem dX4_latest_69 : decode cX4_latest 69 = .ok (.iload 6, 2) := by decide +kernel
theorem dX4_latest_71 : decode cX4_latest 71 = .ok (.istore 4, 2) := by decide +kernel
theorem dX4_latest_73 : decode cX4_latest 73 = .ok (.iload 5, 2) := by decide +kernel
theorem dX4_latest_75 : decode cX4_latest 75 = .ok (.istore_n 3, 1) := by decide +kernel
theorem dX4_latest_76 : decode cX4_latest 76 = .ok (.iinc 5 1, 3) := by decide +kernel
theorem dX4_latest_79 : decode cX4_latest 79 = .ok (.goto (-37), 3) := by decide +kernel
theorem dX4_latest_82 : decode cX4_latest 82 = .ok (.iload_n 3, 1) := by decide +kernel
theorem dX4_latest_83 : decode cX4_latest 83 = .ok (.ireturn, 1) := by decide +kernel
set_option maxRecDepth 20000 in
theorem ggX4_dot_X4_refuse : GoodIn wsX4_dot wsX4_refuse := goodIn_r _ [7, 8, 9, 10, 11, 12, 13, 14, 15, 16, 17, 18, 19, 24, 25, 26, 27, 28, 29, 30, 31, 50, 51] (by decide +kernel) (by decide +kernel)
set_option maxRecDepth 20000 in
theorem gX4_dot_X4_refuse : GoodIn wsX4_dot (wsV RX4 78 RX4 yX4_refuse wsX4_refuse) := goodIn_app (goodIn_of _ (by decide +kernel)) ggX4_dot_X4_refuse
set_option maxRecDepth 20000 in
theorem ggX4_dot_X1_size : GoodIn wsX4_dot wsX1_size := goodIn_r _ [23, 14, 50, 51] (by decide +kernel) (by decide +kernel)
set_option maxRecDepth 20000 in
theorem gX4_dot_X1_size : GoodIn wsX4_dot (wsV RX4 54 RX1 yX1_size wsX1_size) := goodIn_app (goodIn_of _ (by decide +kernel)) ggX4_dot_X1_size
set_option maxRecDepth 20000 in
theorem ggX4_dot_X1_at : GoodIn wsX4_dot wsX1_at := goodIn_r _ [13, 14, 15, 50, 51] (by decide +kernel) (by decide +kernel)
set_option maxRecDepth 20000 in
theorem gX4_dot_X1_at : GoodIn wsX4_dot (wsV RX4 96 RX1 yX1_at wsX1_at) := goodIn_app (goodIn_of _ (by decide +kernel)) ggX4_dot_X1_at
theorem dX4_dot_0 : decode cX4_dot 0 = .ok (.iload_n 1, 1) := by decide +kernel
theorem dX4_dot_1 : decode cX4_dot 1 = .ok (.ifCond .ge 10, 3) := by decide +kernel
theorem dX4_dot_4 : decode cX4_dot 4 = .ok (.aload_n 0, 1) := by decide +kernel
theorem dX4_dot_5 : decode cX4_dot 5 = .ok (.bipush (-4), 2) := by decide +kernel
theorem dX4_dot_7 : decode cX4_dot 7 = .ok (.invokevirtual 78, 3) := by decide +kernel
theorem dX4_dot_10 : decode cX4_dot 10 = .ok (.ireturn, 1) := by decide +kernel
theorem dX4_dot_11 : decode cX4_dot 11 = .ok (.iload_n 1, 1) := by decide +kernel
theorem dX4_dot_12 : decode cX4_dot 12 = .ok (.aload_n 0, 1) := by decide +kernel
theorem dX4_dot_13 : decode cX4_dot 13 = .ok (.getfield 10, 3) := by decide +kernel
theorem dX4_dot_16 : decode cX4_dot 16 = .ok (.getfield 190, 3) := by decide +kernel
theorem dX4_dot_19 : decode cX4_dot 19 = .ok (.invokevirtual 54, 3) := by decide +kernel
theorem dX4_dot_22 : decode cX4_dot 22 = .ok (.if_icmp .ge 17, 3) := by decide +kernel
theorem dX4_dot_25 : decode cX4_dot 25 = .ok (.aload_n 0, 1) := by decide +kernel
theorem dX4_dot_26 : decode cX4_dot 26 = .ok (.getfield 10, 3) := by decide +kernel
theorem dX4_dot_29 : decode cX4_dot 29 = .ok (.getfield 190, 3) := by decide +kernel
theorem dX4_dot_32 : decode cX4_dot 32 = .ok (.iload_n 1, 1) := by decide +kernel
theorem dX4_dot_33 : decode cX4_dot 33 = .ok (.invokevirtual 96, 3) := by decide +kernel
theorem dX4_dot_36 : decode cX4_dot 36 = .ok (.goto 5, 3) := by decide +kernel
theorem dX4_dot_39 : decode cX4_dot 39 = .ok (.bipush (-9), 2) := by decide +kernel
theorem dX4_dot_41 : decode cX4_dot 41 = .ok (.ireturn, 1) := by decide +kernel
set_option maxRecDepth 20000 in
theorem ggX4_even_X4_refuse : GoodIn wsX4_even wsX4_refuse := goodIn_r _ [10, 11, 12, 13, 14, 15, 16, 17, 18, 19, 20, 21, 22, 42, 43, 44, 45, 46, 47, 48, 49, 50, 51] (by decide +kernel) (by decide +kernel)
set_option maxRecDepth 20000 in
theorem gX4_even_X4_refuse : GoodIn wsX4_even (wsV RX4 78 RX4 yX4_refuse wsX4_refuse) := goodIn_app (goodIn_of _ (by decide +kernel)) ggX4_even_X4_refuse
set_option maxRecDepth 20000 in
theorem ggX4_even_X0_gaps : GoodIn wsX4_even wsX0_gaps := goodIn_r _ [27, 28, 29, 30, 4, 31, 32, 33, 34, 15, 35, 17, 52, 53, 54, 55, 56, 57, 58, 59, 60, 61, 62, 63, 64, 65, 66, 67, 68, 69, 50, 51] (by decide +kernel) (by decide +kernel)
set_option maxRecDepth 20000 in
theorem gX4_even_X0_gaps : GoodIn wsX4_even (wsV RX4 193 RX0 yX0_gaps wsX0_gaps) := goodIn_app (goodIn_of _ (by decide +kernel)) ggX4_even_X0_gaps
set_option maxRecDepth 20000 in
theorem ggX4_even_X0_gapAt : GoodIn wsX4_even wsX0_gapAt := goodIn_r _ [39, 28, 40, 24, 25, 26, 27, 29, 30, 4, 31, 32, 33, 34, 15, 35, 17, 41, 13, 14, 16, 18, 52, 53, 54, 55, 56, 57, 58, 59, 60, 61, 62, 63, 64, 65, 66, 67, 68, 69, 50, 51] (by decide +kernel) (by decide +kernel)
set_option maxRecDepth 20000 in
theorem gX4_even_X0_gapAt : GoodIn wsX4_even (wsV RX4 196 RX0 yX0_gapAt wsX0_gapAt) := goodIn_app (goodIn_of _ (by decide +kernel)) ggX4_even_X0_gapAt
theorem dX4_even_0 : decode cX4_even 0 = .ok (.iload_n 1, 1) := by decide +kernel
theorem dX4_even_1 : decode cX4_even 1 = .ok (.ifCond .ge 10, 3) := by decide +kernel
theorem dX4_even_4 : decode cX4_even 4 = .ok (.aload_n 0, 1) := by decide +kernel
theorem dX4_even_5 : decode cX4_even 5 = .ok (.bipush (-4), 2) := by decide +kernel
theorem dX4_even_7 : decode cX4_even 7 = .ok (.invokevirtual 78, 3) := by decide +kernel
theorem dX4_even_10 : decode cX4_even 10 = .ok (.ireturn, 1) := by decide +kernel
theorem dX4_even_11 : decode cX4_even 11 = .ok (.iconst 1, 1) := by decide +kernel
theorem dX4_even_12 : decode cX4_even 12 = .ok (.istore_n 2, 1) := by decide +kernel
theorem dX4_even_13 : decode cX4_even 13 = .ok (.iload_n 2, 1) := by decide +kernel
theorem dX4_even_14 : decode cX4_even 14 = .ok (.aload_n 0, 1) := by decide +kernel
theorem dX4_even_15 : decode cX4_even 15 = .ok (.getfield 10, 3) := by decide +kernel
theorem dX4_even_18 : decode cX4_even 18 = .ok (.invokevirtual 193, 3) := by decide +kernel
theorem dX4_even_21 : decode cX4_even 21 = .ok (.if_icmp .ge 37, 3) := by decide +kernel
theorem dX4_even_24 : decode cX4_even 24 = .ok (.aload_n 0, 1) := by decide +kernel
theorem dX4_even_25 : decode cX4_even 25 = .ok (.getfield 10, 3) := by decide +kernel
theorem dX4_even_28 : decode cX4_even 28 = .ok (.iload_n 2, 1) := by decide +kernel
theorem dX4_even_29 : decode cX4_even 29 = .ok (.invokevirtual 196, 3) := by decide +kernel
theorem dX4_even_32 : decode cX4_even 32 = .ok (.aload_n 0, 1) := by decide +kernel
theorem dX4_even_33 : decode cX4_even 33 = .ok (.getfield 10, 3) := by decide +kernel
theorem dX4_even_36 : decode cX4_even 36 = .ok (.iload_n 2, 1) := by decide +kernel
theorem dX4_even_37 : decode cX4_even 37 = .ok (.iconst 1, 1) := by decide +kernel
theorem dX4_even_38 : decode cX4_even 38 = .ok (.isub, 1) := by decide +kernel
theorem dX4_even_39 : decode cX4_even 39 = .ok (.invokevirtual 196, 3) := by decide +kernel
theorem dX4_even_42 : decode cX4_even 42 = .ok (.isub, 1) := by decide +kernel
theorem dX4_even_43 : decode cX4_even 43 = .ok (.invokestatic 199, 3) := by decide +kernel
theorem dX4_even_46 : decode cX4_even 46 = .ok (.iload_n 1, 1) := by decide +kernel
theorem dX4_even_47 : decode cX4_even 47 = .ok (.if_icmp .le 5, 3) := by decide +kernel
theorem dX4_even_50 : decode cX4_even 50 = .ok (.iload_n 2, 1) := by decide +kernel
theorem dX4_even_51 : decode cX4_even 51 = .ok (.ireturn, 1) := by decide +kernel
theorem dX4_even_52 : decode cX4_even 52 = .ok (.iinc 2 1, 3) := by decide +kernel
theorem dX4_even_55 : decode cX4_even 55 = .ok (.goto (-42), 3) := by decide +kernel
theorem dX4_even_58 : decode cX4_even 58 = .ok (.bipush (-9), 2) := by decide +kernel
theorem dX4_even_60 : decode cX4_even 60 = .ok (.ireturn, 1) := by decide +kernel
set_option maxRecDepth 20000 in
theorem ggX4_longer_X4_refuse : GoodIn wsX4_longer wsX4_refuse := goodIn_r _ [6, 7, 8, 9, 10, 11, 12, 13, 14, 15, 16, 17, 18, 39, 40, 41, 42, 43, 44, 45, 46, 47, 48] (by decide +kernel) (by decide +kernel)
set_option maxRecDepth 20000 in
theorem gX4_longer_X4_refuse : GoodIn wsX4_longer (wsV RX4 78 RX4 yX4_refuse wsX4_refuse) := goodIn_app (goodIn_of _ (by decide +kernel)) ggX4_longer_X4_refuse
set_option maxRecDepth 20000 in
theorem ggX4_longer_X0_gaps : GoodIn wsX4_longer wsX0_gaps := goodIn_r _ [23, 24, 25, 26, 27, 28, 29, 30, 31, 11, 32, 13, 49, 50, 51, 52, 53, 54, 55, 56, 57, 58, 59, 60, 61, 62, 63, 64, 65, 66, 47, 48] (by decide +kernel) (by decide +kernel)
set_option maxRecDepth 20000 in
theorem gX4_longer_X0_gaps : GoodIn wsX4_longer (wsV RX4 193 RX0 yX0_gaps wsX0_gaps) := goodIn_app (goodIn_of _ (by decide +kernel)) ggX4_longer_X0_gaps
set_option maxRecDepth 20000 in
theorem ggX4_longer_X0_gapAt : GoodIn wsX4_longer wsX0_gapAt := goodIn_r _ [36, 24, 37, 20, 21, 22, 23, 25, 26, 27, 28, 29, 30, 31, 11, 32, 13, 38, 9, 10, 12, 14, 49, 50, 51, 52, 53, 54, 55, 56, 57, 58, 59, 60, 61, 62, 63, 64, 65, 66, 47, 48] (by decide +kernel) (by decide +kernel)
set_option maxRecDepth 20000 in
theorem gX4_longer_X0_gapAt : GoodIn wsX4_longer (wsV RX4 196 RX0 yX0_gapAt wsX0_gapAt) := goodIn_app (goodIn_of _ (by decide +kernel)) ggX4_longer_X0_gapAt
theorem dX4_longer_0 : decode cX4_longer 0 = .ok (.iload_n 1, 1) := by decide +kernel
theorem dX4_longer_1 : decode cX4_longer 1 = .ok (.ifCond .lt 8, 3) := by decide +kernel
theorem dX4_longer_4 : decode cX4_longer 4 = .ok (.iload_n 1, 1) := by decide +kernel
theorem dX4_longer_5 : decode cX4_longer 5 = .ok (.iconst 1, 1) := by decide +kernel
theorem dX4_longer_6 : decode cX4_longer 6 = .ok (.if_icmp .le 10, 3) := by decide +kernel
theorem dX4_longer_9 : decode cX4_longer 9 = .ok (.aload_n 0, 1) := by decide +kernel
theorem dX4_longer_10 : decode cX4_longer 10 = .ok (.bipush (-2), 2) := by decide +kernel
theorem dX4_longer_12 : decode cX4_longer 12 = .ok (.invokevirtual 78, 3) := by decide +kernel
theorem dX4_longer_15 : decode cX4_longer 15 = .ok (.ireturn, 1) := by decide +kernel
theorem dX4_longer_16 : decode cX4_longer 16 = .ok (.iconst 0, 1) := by decide +kernel
theorem dX4_longer_17 : decode cX4_longer 17 = .ok (.istore_n 2, 1) := by decide +kernel
theorem dX4_longer_18 : decode cX4_longer 18 = .ok (.iconst 1, 1) := by decide +kernel
theorem dX4_longer_19 : decode cX4_longer 19 = .ok (.istore_n 3, 1) := by decide +kernel
theorem dX4_longer_20 : decode cX4_longer 20 = .ok (.iload_n 3, 1) := by decide +kernel
theorem dX4_longer_21 : decode cX4_longer 21 = .ok (.aload_n 0, 1) := by decide +kernel
theorem dX4_longer_22 : decode cX4_longer 22 = .ok (.getfield 10, 3) := by decide +kernel
theorem dX4_longer_25 : decode cX4_longer 25 = .ok (.invokevirtual 193, 3) := by decide +kernel
theorem dX4_longer_28 : decode cX4_longer 28 = .ok (.if_icmp .ge 50, 3) := by decide +kernel
theorem dX4_longer_31 : decode cX4_longer 31 = .ok (.aload_n 0, 1) := by decide +kernel
theorem dX4_longer_32 : decode cX4_longer 32 = .ok (.getfield 10, 3) := by decide +kernel
theorem dX4_longer_35 : decode cX4_longer 35 = .ok (.iload_n 3, 1) := by decide +kernel
theorem dX4_longer_36 : decode cX4_longer 36 = .ok (.invokevirtual 196, 3) := by decide +kernel
theorem dX4_longer_39 : decode cX4_longer 39 = .ok (.aload_n 0, 1) := by decide +kernel
theorem dX4_longer_40 : decode cX4_longer 40 = .ok (.getfield 10, 3) := by decide +kernel
theorem dX4_longer_43 : decode cX4_longer 43 = .ok (.iload_n 3, 1) := by decide +kernel
theorem dX4_longer_44 : decode cX4_longer 44 = .ok (.iconst 1, 1) := by decide +kernel
theorem dX4_longer_45 : decode cX4_longer 45 = .ok (.isub, 1) := by decide +kernel
theorem dX4_longer_46 : decode cX4_longer 46 = .ok (.invokevirtual 196, 3) := by decide +kernel
theorem dX4_longer_49 : decode cX4_longer 49 = .ok (.isub, 1) := by decide +kernel
theorem dX4_longer_50 : decode cX4_longer 50 = .ok (.istore 4, 2) := by decide +kernel
theorem dX4_longer_52 : decode cX4_longer 52 = .ok (.iload_n 1, 1) := by decide +kernel
theorem dX4_longer_53 : decode cX4_longer 53 = .ok (.ifCond .ne 11, 3) := by decide +kernel
theorem dX4_longer_56 : decode cX4_longer 56 = .ok (.iload 4, 2) := by decide +kernel
theorem dX4_longer_58 : decode cX4_longer 58 = .ok (.ifCond .le 14, 3) := by decide +kernel
theorem dX4_longer_61 : decode cX4_longer 61 = .ok (.goto 8, 3) := by decide +kernel
theorem dX4_longer_64 : decode cX4_longer 64 = .ok (.iload 4, 2) := by decide +kernel
theorem dX4_longer_66 : decode cX4_longer 66 = .ok (.ifCond .ge 6, 3) := by decide +kernel
theorem dX4_longer_69 : decode cX4_longer 69 = .ok (.iinc 2 1, 3) := by decide +kernel
theorem dX4_longer_72 : decode cX4_longer 72 = .ok (.iinc 3 1, 3) := by decide +kernel
theorem dX4_longer_75 : decode cX4_longer 75 = .ok (.goto (-55), 3) := by decide +kernel
theorem dX4_longer_78 : decode cX4_longer 78 = .ok (.iload_n 2, 1) := by decide +kernel
theorem dX4_longer_79 : decode cX4_longer 79 = .ok (.ireturn, 1) := by decide +kernel
set_option maxRecDepth 20000 in
theorem ggX4_slow_X4_outside : GoodIn wsX4_slow wsX4_outside := goodIn_r _ [7, 8, 9, 10, 6, 11, 12, 13, 14, 15, 16, 17, 18, 19, 20, 21, 22, 23, 44, 45, 46, 47, 48, 49, 50, 51, 52, 53] (by decide +kernel) (by decide +kernel)
set_option maxRecDepth 20000 in
theorem gX4_slow_X4_outside : GoodIn wsX4_slow (wsV RX4 58 RX4 yX4_outside wsX4_outside) := goodIn_app (goodIn_of _ (by decide +kernel)) ggX4_slow_X4_outside
set_option maxRecDepth 20000 in
theorem ggX4_slow_X0_gapAt : GoodIn wsX4_slow wsX0_gapAt := goodIn_r _ [28, 29, 30, 31, 32, 27, 33, 34, 35, 36, 37, 38, 39, 40, 16, 41, 18, 42, 14, 15, 17, 19, 54, 55, 56, 57, 58, 59, 60, 61, 62, 63, 64, 65, 66, 67, 68, 69, 70, 71, 52, 53] (by decide +kernel) (by decide +kernel)
set_option maxRecDepth 20000 in
theorem gX4_slow_X0_gapAt : GoodIn wsX4_slow (wsV RX4 196 RX0 yX0_gapAt wsX0_gapAt) := goodIn_app (goodIn_of _ (by decide +kernel)) ggX4_slow_X0_gapAt
set_option maxRecDepth 20000 in
theorem ggX4_slow_X0_gaps : GoodIn wsX4_slow wsX0_gaps := goodIn_r _ [33, 29, 34, 35, 36, 37, 38, 39, 40, 16, 41, 18, 54, 55, 56, 57, 58, 59, 60, 61, 62, 63, 64, 65, 66, 67, 68, 69, 70, 71, 52, 53] (by decide +kernel) (by decide +kernel)
set_option maxRecDepth 20000 in
theorem gX4_slow_X0_gaps : GoodIn wsX4_slow (wsV RX4 193 RX0 yX0_gaps wsX0_gaps) := goodIn_app (goodIn_of _ (by decide +kernel)) ggX4_slow_X0_gaps
theorem dX4_slow_0 : decode cX4_slow 0 = .ok (.aload_n 0, 1) := by decide +kernel
theorem dX4_slow_1 : decode cX4_slow 1 = .ok (.iload_n 1, 1) := by decide +kernel
theorem dX4_slow_2 : decode cX4_slow 2 = .ok (.ifCond .ge 7, 3) := by decide +kernel
theorem dX4_slow_5 : decode cX4_slow 5 = .ok (.iconst 1, 1) := by decide +kernel
theorem dX4_slow_6 : decode cX4_slow 6 = .ok (.goto 4, 3) := by decide +kernel
theorem dX4_slow_9 : decode cX4_slow 9 = .ok (.iconst 0, 1) := by decide +kernel
theorem dX4_slow_10 : decode cX4_slow 10 = .ok (.iload_n 1, 1) := by decide +kernel
theorem dX4_slow_11 : decode cX4_slow 11 = .ok (.sipush 999, 3) := by decide +kernel
theorem dX4_slow_14 : decode cX4_slow 14 = .ok (.if_icmp .le 7, 3) := by decide +kernel
theorem dX4_slow_17 : decode cX4_slow 17 = .ok (.iconst 1, 1) := by decide +kernel
theorem dX4_slow_18 : decode cX4_slow 18 = .ok (.goto 4, 3) := by decide +kernel
theorem dX4_slow_21 : decode cX4_slow 21 = .ok (.iconst 0, 1) := by decide +kernel
theorem dX4_slow_22 : decode cX4_slow 22 = .ok (.invokevirtual 58, 3) := by decide +kernel
theorem dX4_slow_25 : decode cX4_slow 25 = .ok (.istore_n 2, 1) := by decide +kernel
theorem dX4_slow_26 : decode cX4_slow 26 = .ok (.iload_n 2, 1) := by decide +kernel
theorem dX4_slow_27 : decode cX4_slow 27 = .ok (.ifCond .eq 5, 3) := by decide +kernel
theorem dX4_slow_30 : decode cX4_slow 30 = .ok (.iload_n 2, 1) := by decide +kernel
theorem dX4_slow_31 : decode cX4_slow 31 = .ok (.ireturn, 1) := by decide +kernel
theorem dX4_slow_32 : decode cX4_slow 32 = .ok (.iload_n 1, 1) := by decide +kernel
theorem dX4_slow_33 : decode cX4_slow 33 = .ok (.i2l, 1) := by decide +kernel
theorem dX4_slow_34 : decode cX4_slow 34 = .ok (.aload_n 0, 1) := by decide +kernel
theorem dX4_slow_35 : decode cX4_slow 35 = .ok (.getfield 10, 3) := by decide +kernel
theorem dX4_slow_38 : decode cX4_slow 38 = .ok (.iconst 0, 1) := by decide +kernel
theorem dX4_slow_39 : decode cX4_slow 39 = .ok (.invokevirtual 196, 3) := by decide +kernel
theorem dX4_slow_42 : decode cX4_slow 42 = .ok (.i2l, 1) := by decide +kernel
theorem dX4_slow_43 : decode cX4_slow 43 = .ok (.lmul, 1) := by decide +kernel
theorem dX4_slow_44 : decode cX4_slow 44 = .ok (.ldc2_w 202, 3) := by decide +kernel
theorem dX4_slow_47 : decode cX4_slow 47 = .ok (.ldiv, 1) := by decide +kernel
theorem dX4_slow_48 : decode cX4_slow 48 = .ok (.lstore_n 3, 1) := by decide +kernel
theorem dX4_slow_49 : decode cX4_slow 49 = .ok (.iconst 1, 1) := by decide +kernel
theorem dX4_slow_50 : decode cX4_slow 50 = .ok (.istore 5, 2) := by decide +kernel
theorem dX4_slow_52 : decode cX4_slow 52 = .ok (.iload 5, 2) := by decide +kernel
theorem dX4_slow_54 : decode cX4_slow 54 = .ok (.aload_n 0, 1) := by decide +kernel
theorem dX4_slow_55 : decode cX4_slow 55 = .ok (.getfield 10, 3) := by decide +kernel
theorem dX4_slow_58 : decode cX4_slow 58 = .ok (.invokevirtual 193, 3) := by decide +kernel
theorem dX4_slow_61 : decode cX4_slow 61 = .ok (.if_icmp .ge 27, 3) := by decide +kernel
theorem dX4_slow_64 : decode cX4_slow 64 = .ok (.aload_n 0, 1) := by decide +kernel
theorem dX4_slow_65 : decode cX4_slow 65 = .ok (.getfield 10, 3) := by decide +kernel
theorem dX4_slow_68 : decode cX4_slow 68 = .ok (.iload 5, 2) := by decide +kernel
theorem dX4_slow_70 : decode cX4_slow 70 = .ok (.invokevirtual 196, 3) := by decide +kernel
theorem dX4_slow_73 : decode cX4_slow 73 = .ok (.i2l, 1) := by decide +kernel
theorem dX4_slow_74 : decode cX4_slow 74 = .ok (.lload_n 3, 1) := by decide +kernel
theorem dX4_slow_75 : decode cX4_slow 75 = .ok (.lcmp, 1) := by decide +kernel
theorem dX4_slow_76 : decode cX4_slow 76 = .ok (.ifCond .le 6, 3) := by decide +kernel
theorem dX4_slow_79 : decode cX4_slow 79 = .ok (.iload 5, 2) := by decide +kernel
theorem dX4_slow_81 : decode cX4_slow 81 = .ok (.ireturn, 1) := by decide +kernel
theorem dX4_slow_82 : decode cX4_slow 82 = .ok (.iinc 5 1, 3) := by decide +kernel
theorem dX4_slow_85 : decode cX4_slow 85 = .ok (.goto (-33), 3) := by decide +kernel
theorem dX4_slow_88 : decode cX4_slow 88 = .ok (.bipush (-9), 2) := by decide +kernel
theorem dX4_slow_90 : decode cX4_slow 90 = .ok (.ireturn, 1) := by decide +kernel
set_option maxRecDepth 20000 in
theorem ggX4_hour_X4_refuse : GoodIn wsX4_hour wsX4_refuse := goodIn_r _ [8, 9, 10, 11, 12, 13, 14, 15, 16, 17, 18, 19, 20, 25, 26, 27, 28, 29, 30, 31, 32, 51, 52] (by decide +kernel) (by decide +kernel)
set_option maxRecDepth 20000 in
theorem gX4_hour_X4_refuse : GoodIn wsX4_hour (wsV RX4 78 RX4 yX4_refuse wsX4_refuse) := goodIn_app (goodIn_of _ (by decide +kernel)) ggX4_hour_X4_refuse
set_option maxRecDepth 20000 in
theorem ggX4_hour_X1_size : GoodIn wsX4_hour wsX1_size := goodIn_r _ [24, 15, 51, 52] (by decide +kernel) (by decide +kernel)
set_option maxRecDepth 20000 in
theorem gX4_hour_X1_size : GoodIn wsX4_hour (wsV RX4 54 RX1 yX1_size wsX1_size) := goodIn_app (goodIn_of _ (by decide +kernel)) ggX4_hour_X1_size
set_option maxRecDepth 20000 in
theorem ggX4_hour_X1_at : GoodIn wsX4_hour wsX1_at := goodIn_r _ [14, 15, 16, 51, 52] (by decide +kernel) (by decide +kernel)
set_option maxRecDepth 20000 in
theorem gX4_hour_X1_at : GoodIn wsX4_hour (wsV RX4 96 RX1 yX1_at wsX1_at) := goodIn_app (goodIn_of _ (by decide +kernel)) ggX4_hour_X1_at
theorem dX4_hour_0 : decode cX4_hour 0 = .ok (.iload_n 1, 1) := by decide +kernel
theorem dX4_hour_1 : decode cX4_hour 1 = .ok (.ifCond .ge 10, 3) := by decide +kernel
theorem dX4_hour_4 : decode cX4_hour 4 = .ok (.aload_n 0, 1) := by decide +kernel
theorem dX4_hour_5 : decode cX4_hour 5 = .ok (.bipush (-4), 2) := by decide +kernel
theorem dX4_hour_7 : decode cX4_hour 7 = .ok (.invokevirtual 78, 3) := by decide +kernel
theorem dX4_hour_10 : decode cX4_hour 10 = .ok (.ireturn, 1) := by decide +kernel
theorem dX4_hour_11 : decode cX4_hour 11 = .ok (.ldc2_w 204, 3) := by decide +kernel
theorem dX4_hour_14 : decode cX4_hour 14 = .ok (.iload_n 1, 1) := by decide +kernel
theorem dX4_hour_15 : decode cX4_hour 15 = .ok (.i2l, 1) := by decide +kernel
theorem dX4_hour_16 : decode cX4_hour 16 = .ok (.lmul, 1) := by decide +kernel
theorem dX4_hour_17 : decode cX4_hour 17 = .ok (.lstore_n 2, 1) := by decide +kernel
theorem dX4_hour_18 : decode cX4_hour 18 = .ok (.iconst 0, 1) := by decide +kernel
theorem dX4_hour_19 : decode cX4_hour 19 = .ok (.istore 4, 2) := by decide +kernel
theorem dX4_hour_21 : decode cX4_hour 21 = .ok (.iconst 0, 1) := by decide +kernel
theorem dX4_hour_22 : decode cX4_hour 22 = .ok (.istore 5, 2) := by decide +kernel
theorem dX4_hour_24 : decode cX4_hour 24 = .ok (.iload 5, 2) := by decide +kernel
theorem dX4_hour_26 : decode cX4_hour 26 = .ok (.aload_n 0, 1) := by decide +kernel
theorem dX4_hour_27 : decode cX4_hour 27 = .ok (.getfield 10, 3) := by decide +kernel
theorem dX4_hour_30 : decode cX4_hour 30 = .ok (.getfield 190, 3) := by decide +kernel
theorem dX4_hour_33 : decode cX4_hour 33 = .ok (.invokevirtual 54, 3) := by decide +kernel
theorem dX4_hour_36 : decode cX4_hour 36 = .ok (.if_icmp .ge 46, 3) := by decide +kernel
theorem dX4_hour_39 : decode cX4_hour 39 = .ok (.aload_n 0, 1) := by decide +kernel
theorem dX4_hour_40 : decode cX4_hour 40 = .ok (.getfield 10, 3) := by decide +kernel
theorem dX4_hour_43 : decode cX4_hour 43 = .ok (.getfield 190, 3) := by decide +kernel
theorem dX4_hour_46 : decode cX4_hour 46 = .ok (.iload 5, 2) := by decide +kernel
theorem dX4_hour_48 : decode cX4_hour 48 = .ok (.invokevirtual 96, 3) := by decide +kernel
theorem dX4_hour_51 : decode cX4_hour 51 = .ok (.istore 6, 2) := by decide +kernel
theorem dX4_hour_53 : decode cX4_hour 53 = .ok (.iload 6, 2) := by decide +kernel
theorem dX4_hour_55 : decode cX4_hour 55 = .ok (.i2l, 1) := by decide +kernel
theorem dX4_hour_56 : decode cX4_hour 56 = .ok (.lload_n 2, 1) := by decide +kernel
theorem dX4_hour_57 : decode cX4_hour 57 = .ok (.lcmp, 1) := by decide +kernel
theorem dX4_hour_58 : decode cX4_hour 58 = .ok (.ifCond .lt 18, 3) := by decide +kernel
theorem dX4_hour_61 : decode cX4_hour 61 = .ok (.iload 6, 2) := by decide +kernel
theorem dX4_hour_63 : decode cX4_hour 63 = .ok (.i2l, 1) := by decide +kernel
theorem dX4_hour_64 : decode cX4_hour 64 = .ok (.lload_n 2, 1) := by decide +kernel
theorem dX4_hour_65 : decode cX4_hour 65 = .ok (.ldc2_w 204, 3) := by decide +kernel
theorem dX4_hour_68 : decode cX4_hour 68 = .ok (.ladd, 1) := by decide +kernel
theorem dX4_hour_69 : decode cX4_hour 69 = .ok (.lcmp, 1) := by decide +kernel
theorem dX4_hour_70 : decode cX4_hour 70 = .ok (.ifCond .ge 6, 3) := by decide +kernel
theorem dX4_hour_73 : decode cX4_hour 73 = .ok (.iinc 4 1, 3) := by decide +kernel
theorem dX4_hour_76 : decode cX4_hour 76 = .ok (.iinc 5 1, 3) := by decide +kernel
theorem dX4_hour_79 : decode cX4_hour 79 = .ok (.goto (-55), 3) := by decide +kernel
theorem dX4_hour_82 : decode cX4_hour 82 = .ok (.iload 4, 2) := by decide +kernel
theorem dX4_hour_84 : decode cX4_hour 84 = .ok (.ireturn, 1) := by decide +kernel
set_option maxRecDepth 20000 in
theorem ggX4_gap_X1_size : GoodIn wsX4_gap wsX1_size := goodIn_r _ [6, 7, 39, 40] (by decide +kernel) (by decide +kernel)
set_option maxRecDepth 20000 in
theorem gX4_gap_X1_size : GoodIn wsX4_gap (wsV RX4 54 RX1 yX1_size wsX1_size) := goodIn_app (goodIn_of _ (by decide +kernel)) ggX4_gap_X1_size
set_option maxRecDepth 20000 in
theorem ggX4_gap_X4_outside : GoodIn wsX4_gap wsX4_outside := goodIn_r _ [12, 13, 14, 15, 11, 16, 17, 18, 19, 20, 5, 21, 7, 22, 23, 24, 25, 26, 31, 32, 33, 34, 35, 36, 37, 38, 39, 40] (by decide +kernel) (by decide +kernel)
set_option maxRecDepth 20000 in
theorem gX4_gap_X4_outside : GoodIn wsX4_gap (wsV RX4 58 RX4 yX4_outside wsX4_outside) := goodIn_app (goodIn_of _ (by decide +kernel)) ggX4_gap_X4_outside
set_option maxRecDepth 20000 in
theorem ggX4_gap_X1_add : GoodIn wsX4_gap wsX1_add := goodIn_r _ [30, 7, 22, 39, 40] (by decide +kernel) (by decide +kernel)
set_option maxRecDepth 20000 in
theorem gX4_gap_X1_add : GoodIn wsX4_gap (wsV RX4 64 RX1 yX1_add wsX1_add) := goodIn_app (goodIn_of _ (by decide +kernel)) ggX4_gap_X1_add
theorem dX4_gap_0 : decode cX4_gap 0 = .ok (.aload_n 0, 1) := by decide +kernel
theorem dX4_gap_1 : decode cX4_gap 1 = .ok (.iload_n 1, 1) := by decide +kernel
theorem dX4_gap_2 : decode cX4_gap 2 = .ok (.ifCond .ge 7, 3) := by decide +kernel
theorem dX4_gap_5 : decode cX4_gap 5 = .ok (.iconst 1, 1) := by decide +kernel
theorem dX4_gap_6 : decode cX4_gap 6 = .ok (.goto 4, 3) := by decide +kernel
theorem dX4_gap_9 : decode cX4_gap 9 = .ok (.iconst 0, 1) := by decide +kernel
theorem dX4_gap_10 : decode cX4_gap 10 = .ok (.iload_n 1, 1) := by decide +kernel
theorem dX4_gap_11 : decode cX4_gap 11 = .ok (.sipush 9999, 3) := by decide +kernel
theorem dX4_gap_14 : decode cX4_gap 14 = .ok (.if_icmp .gt 15, 3) := by decide +kernel
theorem dX4_gap_17 : decode cX4_gap 17 = .ok (.aload_n 0, 1) := by decide +kernel
theorem dX4_gap_18 : decode cX4_gap 18 = .ok (.getfield 37, 3) := by decide +kernel
theorem dX4_gap_21 : decode cX4_gap 21 = .ok (.invokevirtual 54, 3) := by decide +kernel
theorem dX4_gap_24 : decode cX4_gap 24 = .ok (.bipush 10, 2) := by decide +kernel
theorem dX4_gap_26 : decode cX4_gap 26 = .ok (.if_icmp .lt 7, 3) := by decide +kernel
theorem dX4_gap_29 : decode cX4_gap 29 = .ok (.iconst 1, 1) := by decide +kernel
theorem dX4_gap_30 : decode cX4_gap 30 = .ok (.goto 4, 3) := by decide +kernel
theorem dX4_gap_33 : decode cX4_gap 33 = .ok (.iconst 0, 1) := by decide +kernel
theorem dX4_gap_34 : decode cX4_gap 34 = .ok (.invokevirtual 58, 3) := by decide +kernel
theorem dX4_gap_37 : decode cX4_gap 37 = .ok (.istore_n 2, 1) := by decide +kernel
theorem dX4_gap_38 : decode cX4_gap 38 = .ok (.iload_n 2, 1) := by decide +kernel
theorem dX4_gap_39 : decode cX4_gap 39 = .ok (.ifCond .eq 5, 3) := by decide +kernel
theorem dX4_gap_42 : decode cX4_gap 42 = .ok (.iload_n 2, 1) := by decide +kernel
theorem dX4_gap_43 : decode cX4_gap 43 = .ok (.ireturn, 1) := by decide +kernel
theorem dX4_gap_44 : decode cX4_gap 44 = .ok (.aload_n 0, 1) := by decide +kernel
theorem dX4_gap_45 : decode cX4_gap 45 = .ok (.getfield 37, 3) := by decide +kernel
theorem dX4_gap_48 : decode cX4_gap 48 = .ok (.iload_n 1, 1) := by decide +kernel
theorem dX4_gap_49 : decode cX4_gap 49 = .ok (.invokevirtual 64, 3) := by decide +kernel
theorem dX4_gap_52 : decode cX4_gap 52 = .ok (.aload_n 0, 1) := by decide +kernel
theorem dX4_gap_53 : decode cX4_gap 53 = .ok (.getfield 37, 3) := by decide +kernel
theorem dX4_gap_56 : decode cX4_gap 56 = .ok (.invokevirtual 54, 3) := by decide +kernel
theorem dX4_gap_59 : decode cX4_gap 59 = .ok (.ireturn, 1) := by decide +kernel
set_option maxRecDepth 20000 in
theorem ggX4_judge_X4_outside : GoodIn wsX4_judge wsX4_outside := goodIn_r _ [6, 7, 8, 9, 5, 10, 11, 12, 13, 14, 15, 16, 17, 18, 19, 20, 21, 22, 59, 60, 61, 62, 63, 64, 65, 66, 67, 68] (by decide +kernel) (by decide +kernel)
set_option maxRecDepth 20000 in
theorem gX4_judge_X4_outside : GoodIn wsX4_judge (wsV RX4 58 RX4 yX4_outside wsX4_outside) := goodIn_app (goodIn_of _ (by decide +kernel)) ggX4_judge_X4_outside
set_option maxRecDepth 20000 in
theorem ggX4_judge_X4_judged : GoodIn wsX4_judge wsX4_judged := goodIn_r _ [26, 27, 1, 28, 29, 30, 31, 32, 33, 34, 35, 36, 37, 38, 39, 40, 41, 42, 43, 44, 45, 46, 15, 47, 17, 48, 12, 13, 14, 16, 18, 49, 50, 51, 52, 53, 54, 59, 60, 61, 62, 63, 64, 65, 66, 69, 70, 71, 72, 73, 74, 75, 76, 77, 78, 79, 80, 81, 82, 83, 84, 85, 86, 67, 68] (by decide +kernel) (by decide +kernel)
set_option maxRecDepth 20000 in
theorem gX4_judge_X4_judged : GoodIn wsX4_judge (wsV RX4 206 RX4 yX4_judged wsX4_judged) := goodIn_app (goodIn_of _ (by decide +kernel)) ggX4_judge_X4_judged
set_option maxRecDepth 20000 in
theorem ggX4_judge_X1_clear : GoodIn wsX4_judge wsX1_clear := goodIn_r _ [58, 17, 67, 68] (by decide +kernel) (by decide +kernel)
set_option maxRecDepth 20000 in
theorem gX4_judge_X1_clear : GoodIn wsX4_judge (wsV RX4 75 RX1 yX1_clear wsX1_clear) := goodIn_app (goodIn_of _ (by decide +kernel)) ggX4_judge_X1_clear
theorem dX4_judge_0 : decode cX4_judge 0 = .ok (.aload_n 0, 1) := by decide +kernel
theorem dX4_judge_1 : decode cX4_judge 1 = .ok (.iload_n 1, 1) := by decide +kernel
theorem dX4_judge_2 : decode cX4_judge 2 = .ok (.ifCond .ge 7, 3) := by decide +kernel
theorem dX4_judge_5 : decode cX4_judge 5 = .ok (.iconst 1, 1) := by decide +kernel
theorem dX4_judge_6 : decode cX4_judge 6 = .ok (.goto 4, 3) := by decide +kernel
theorem dX4_judge_9 : decode cX4_judge 9 = .ok (.iconst 0, 1) := by decide +kernel
theorem dX4_judge_10 : decode cX4_judge 10 = .ok (.iload_n 1, 1) := by decide +kernel
theorem dX4_judge_11 : decode cX4_judge 11 = .ok (.sipush 9999, 3) := by decide +kernel
theorem dX4_judge_14 : decode cX4_judge 14 = .ok (.if_icmp .le 7, 3) := by decide +kernel
theorem dX4_judge_17 : decode cX4_judge 17 = .ok (.iconst 1, 1) := by decide +kernel
theorem dX4_judge_18 : decode cX4_judge 18 = .ok (.goto 4, 3) := by decide +kernel
theorem dX4_judge_21 : decode cX4_judge 21 = .ok (.iconst 0, 1) := by decide +kernel
theorem dX4_judge_22 : decode cX4_judge 22 = .ok (.invokevirtual 58, 3) := by decide +kernel
theorem dX4_judge_25 : decode cX4_judge 25 = .ok (.istore_n 2, 1) := by decide +kernel
theorem dX4_judge_26 : decode cX4_judge 26 = .ok (.iload_n 2, 1) := by decide +kernel
theorem dX4_judge_27 : decode cX4_judge 27 = .ok (.ifCond .eq 5, 3) := by decide +kernel
theorem dX4_judge_30 : decode cX4_judge 30 = .ok (.iload_n 2, 1) := by decide +kernel
theorem dX4_judge_31 : decode cX4_judge 31 = .ok (.ireturn, 1) := by decide +kernel
theorem dX4_judge_32 : decode cX4_judge 32 = .ok (.aload_n 0, 1) := by decide +kernel
theorem dX4_judge_33 : decode cX4_judge 33 = .ok (.iload_n 1, 1) := by decide +kernel
theorem dX4_judge_34 : decode cX4_judge 34 = .ok (.invokevirtual 206, 3) := by decide +kernel
theorem dX4_judge_37 : decode cX4_judge 37 = .ok (.istore_n 3, 1) := by decide +kernel
theorem dX4_judge_38 : decode cX4_judge 38 = .ok (.aload_n 0, 1) := by decide +kernel
theorem dX4_judge_39 : decode cX4_judge 39 = .ok (.getfield 37, 3) := by decide +kernel
theorem dX4_judge_42 : decode cX4_judge 42 = .ok (.invokevirtual 75, 3) := by decide +kernel
theorem dX4_judge_45 : decode cX4_judge 45 = .ok (.iload_n 3, 1) := by decide +kernel
theorem dX4_judge_46 : decode cX4_judge 46 = .ok (.ireturn, 1) := by decide +kernel
set_option maxRecDepth 20000 in
theorem ggX4_driest_X4_refuse : GoodIn wsX4_driest wsX4_refuse := goodIn_r _ [6, 7, 8, 9, 10, 11, 12, 13, 14, 15, 16, 17, 18, 165, 166, 167, 168, 169, 170, 171, 172, 173, 174] (by decide +kernel) (by decide +kernel)
set_option maxRecDepth 20000 in
theorem gX4_driest_X4_refuse : GoodIn wsX4_driest (wsV RX4 78 RX4 yX4_refuse wsX4_refuse) := goodIn_app (goodIn_of _ (by decide +kernel)) ggX4_driest_X4_refuse
set_option maxRecDepth 20000 in
theorem ggX4_driest_X4_outside : GoodIn wsX4_driest wsX4_outside := goodIn_r _ [22, 2, 3, 4, 5, 6, 7, 8, 9, 10, 11, 12, 13, 14, 15, 16, 17, 18, 165, 166, 167, 168, 169, 170, 171, 172, 173, 174] (by decide +kernel) (by decide +kernel)
set_option maxRecDepth 20000 in
theorem gX4_driest_X4_outside : GoodIn wsX4_driest (wsV RX4 58 RX4 yX4_outside wsX4_outside) := goodIn_app (goodIn_of _ (by decide +kernel)) ggX4_driest_X4_outside
set_option maxRecDepth 20000 in
theorem ggX4_driest_X1_size : GoodIn wsX4_driest wsX1_size := goodIn_r _ [26, 13, 173, 174] (by decide +kernel) (by decide +kernel)
set_option maxRecDepth 20000 in
theorem gX4_driest_X1_size : GoodIn wsX4_driest (wsV RX4 54 RX1 yX1_size wsX1_size) := goodIn_app (goodIn_of _ (by decide +kernel)) ggX4_driest_X1_size
set_option maxRecDepth 20000 in
theorem ggX4_driest_X4_fitsTheRow : GoodIn wsX4_driest wsX4_fitsTheRow := goodIn_r _ [30, 1, 31, 32, 33, 34, 35, 36, 37, 5, 38, 39, 40, 41, 42, 43, 44, 45, 46, 47, 48, 49, 50, 51, 52, 53, 54, 55, 56, 57, 58, 59, 60, 61, 62, 63, 11, 64, 13, 14, 65, 66, 67, 68, 69, 70, 71, 72, 16, 17, 18, 73, 74, 75, 76, 77, 78, 79, 80, 81, 82, 83, 84, 85, 86, 87, 88, 89, 9, 10, 12, 90, 91, 92, 93, 94, 95, 96, 97, 98, 99, 100, 101, 102, 103, 104, 24, 25, 26, 23, 105, 106, 107, 108, 109, 110, 111, 112, 113, 114, 115, 116, 117, 118, 119, 120, 121, 122, 123, 124, 125, 126, 127, 128, 129, 130, 131, 132, 133, 134, 135, 136, 137, 138, 139, 140, 141, 142, 143, 144, 145, 146, 147, 148, 149, 150, 151, 152, 153, 154, 155, 156, 157, 158, 159, 8, 160, 161, 162, 163, 164, 165, 166, 167, 168, 169, 170, 171, 172, 175, 176, 177, 178, 179, 180, 181, 182, 183, 184, 185, 186, 187, 188, 189, 190, 191, 192, 173, 174, 193, 194, 195] (by decide +kernel) (by decide +kernel)
set_option maxRecDepth 20000 in
theorem gX4_driest_X4_fitsTheRow : GoodIn wsX4_driest (wsV RX4 209 RX4 yX4_fitsTheRow wsX4_fitsTheRow) := goodIn_app (goodIn_of _ (by decide +kernel)) ggX4_driest_X4_fitsTheRow
theorem dX4_driest_0 : decode cX4_driest 0 = .ok (.iload_n 2, 1) := by decide +kernel
theorem dX4_driest_1 : decode cX4_driest 1 = .ok (.ifCond .lt 8, 3) := by decide +kernel
theorem dX4_driest_4 : decode cX4_driest 4 = .ok (.iload_n 2, 1) := by decide +kernel
theorem dX4_driest_5 : decode cX4_driest 5 = .ok (.iconst 2, 1) := by decide +kernel
theorem dX4_driest_6 : decode cX4_driest 6 = .ok (.if_icmp .le 10, 3) := by decide +kernel
theorem dX4_driest_9 : decode cX4_driest 9 = .ok (.aload_n 0, 1) := by decide +kernel
theorem dX4_driest_10 : decode cX4_driest 10 = .ok (.bipush (-2), 2) := by decide +kernel
theorem dX4_driest_12 : decode cX4_driest 12 = .ok (.invokevirtual 78, 3) := by decide +kernel
theorem dX4_driest_15 : decode cX4_driest 15 = .ok (.ireturn, 1) := by decide +kernel
theorem dX4_driest_16 : decode cX4_driest 16 = .ok (.aload_n 0, 1) := by decide +kernel
theorem dX4_driest_17 : decode cX4_driest 17 = .ok (.iload_n 1, 1) := by decide +kernel
theorem dX4_driest_18 : decode cX4_driest 18 = .ok (.ifCond .ge 7, 3) := by decide +kernel
theorem dX4_driest_21 : decode cX4_driest 21 = .ok (.iconst 1, 1) := by decide +kernel
theorem dX4_driest_22 : decode cX4_driest 22 = .ok (.goto 4, 3) := by decide +kernel
theorem dX4_driest_25 : decode cX4_driest 25 = .ok (.iconst 0, 1) := by decide +kernel
theorem dX4_driest_26 : decode cX4_driest 26 = .ok (.iload_n 1, 1) := by decide +kernel
theorem dX4_driest_27 : decode cX4_driest 27 = .ok (.sipush 9999, 3) := by decide +kernel
theorem dX4_driest_30 : decode cX4_driest 30 = .ok (.if_icmp .le 7, 3) := by decide +kernel
theorem dX4_driest_33 : decode cX4_driest 33 = .ok (.iconst 1, 1) := by decide +kernel
theorem dX4_driest_34 : decode cX4_driest 34 = .ok (.goto 4, 3) := by decide +kernel
theorem dX4_driest_37 : decode cX4_driest 37 = .ok (.iconst 0, 1) := by decide +kernel
theorem dX4_driest_38 : decode cX4_driest 38 = .ok (.invokevirtual 58, 3) := by decide +kernel
theorem dX4_driest_41 : decode cX4_driest 41 = .ok (.istore_n 3, 1) := by decide +kernel
theorem dX4_driest_42 : decode cX4_driest 42 = .ok (.iload_n 3, 1) := by decide +kernel
theorem dX4_driest_43 : decode cX4_driest 43 = .ok (.ifCond .eq 5, 3) := by decide +kernel
theorem dX4_driest_46 : decode cX4_driest 46 = .ok (.iload_n 3, 1) := by decide +kernel
theorem dX4_driest_47 : decode cX4_driest 47 = .ok (.ireturn, 1) := by decide +kernel
theorem dX4_driest_48 : decode cX4_driest 48 = .ok (.aload_n 0, 1) := by decide +kernel
theorem dX4_driest_49 : decode cX4_driest 49 = .ok (.getfield 37, 3) := by decide +kernel
theorem dX4_driest_52 : decode cX4_driest 52 = .ok (.invokevirtual 54, 3) := by decide +kernel
theorem dX4_driest_55 : decode cX4_driest 55 = .ok (.ifCond .ne 10, 3) := by decide +kernel
theorem dX4_driest_58 : decode cX4_driest 58 = .ok (.aload_n 0, 1) := by decide +kernel
theorem dX4_driest_59 : decode cX4_driest 59 = .ok (.bipush (-3), 2) := by decide +kernel
theorem dX4_driest_61 : decode cX4_driest 61 = .ok (.invokevirtual 78, 3) := by decide +kernel
theorem dX4_driest_64 : decode cX4_driest 64 = .ok (.ireturn, 1) := by decide +kernel
theorem dX4_driest_65 : decode cX4_driest 65 = .ok (.bipush (-9), 2) := by decide +kernel
theorem dX4_driest_67 : decode cX4_driest 67 = .ok (.istore 4, 2) := by decide +kernel
theorem dX4_driest_69 : decode cX4_driest 69 = .ok (.bipush (-9), 2) := by decide +kernel
theorem dX4_driest_71 : decode cX4_driest 71 = .ok (.istore 5, 2) := by decide +kernel
theorem dX4_driest_73 : decode cX4_driest 73 = .ok (.iconst 0, 1) := by decide +kernel
theorem dX4_driest_74 : decode cX4_driest 74 = .ok (.istore 6, 2) := by decide +kernel
theorem dX4_driest_76 : decode cX4_driest 76 = .ok (.iconst 0, 1) := by decide +kernel
theorem dX4_driest_77 : decode cX4_driest 77 = .ok (.istore 7, 2) := by decide +kernel
theorem dX4_driest_79 : decode cX4_driest 79 = .ok (.iload 7, 2) := by decide +kernel
theorem dX4_driest_81 : decode cX4_driest 81 = .ok (.bipush 95, 2) := by decide +kernel
theorem dX4_driest_83 : decode cX4_driest 83 = .ok (.if_icmp .gt 40, 3) := by decide +kernel
theorem dX4_driest_86 : decode cX4_driest 86 = .ok (.aload_n 0, 1) := by decide +kernel
theorem dX4_driest_87 : decode cX4_driest 87 = .ok (.iload 7, 2) := by decide +kernel
theorem dX4_driest_89 : decode cX4_driest 89 = .ok (.iload_n 1, 1) := by decide +kernel
theorem dX4_driest_90 : decode cX4_driest 90 = .ok (.invokevirtual 209, 3) := by decide +kernel
theorem dX4_driest_93 : decode cX4_driest 93 = .ok (.ifCond .eq 24, 3) := by decide +kernel
theorem dX4_driest_96 : decode cX4_driest 96 = .ok (.iload 6, 2) := by decide +kernel
theorem dX4_driest_98 : decode cX4_driest 98 = .ok (.ifCond .ne 8, 3) := by decide +kernel
theorem dX4_driest_101 : decode cX4_driest 101 = .ok (.iload 7, 2) := by decide +kernel
theorem dX4_driest_103 : decode cX4_driest 103 = .ok (.goto 5, 3) := by decide +kernel
theorem dX4_driest_106 : decode cX4_driest 106 = .ok (.iload 4, 2) := by decide +kernel
theorem dX4_driest_108 : decode cX4_driest 108 = .ok (.istore 4, 2) := by decide +kernel
theorem dX4_driest_110 : decode cX4_driest 110 = .ok (.iload 7, 2) := by decide +kernel
theorem dX4_driest_112 : decode cX4_driest 112 = .ok (.istore 5, 2) := by decide +kernel
theorem dX4_driest_114 : decode cX4_driest 114 = .ok (.iinc 6 1, 3) := by decide +kernel
theorem dX4_driest_117 : decode cX4_driest 117 = .ok (.iinc 7 5, 3) := by decide +kernel
theorem dX4_driest_120 : decode cX4_driest 120 = .ok (.goto (-41), 3) := by decide +kernel
theorem dX4_driest_123 : decode cX4_driest 123 = .ok (.iload_n 2, 1) := by decide +kernel
theorem dX4_driest_124 : decode cX4_driest 124 = .ok (.ifCond .ne 8, 3) := by decide +kernel
theorem dX4_driest_127 : decode cX4_driest 127 = .ok (.iload 4, 2) := by decide +kernel
theorem dX4_driest_129 : decode cX4_driest 129 = .ok (.goto 15, 3) := by decide +kernel
theorem dX4_driest_132 : decode cX4_driest 132 = .ok (.iload_n 2, 1) := by decide +kernel
theorem dX4_driest_133 : decode cX4_driest 133 = .ok (.iconst 1, 1) := by decide +kernel
theorem dX4_driest_134 : decode cX4_driest 134 = .ok (.if_icmp .ne 8, 3) := by decide +kernel
theorem dX4_driest_137 : decode cX4_driest 137 = .ok (.iload 5, 2) := by decide +kernel
theorem dX4_driest_139 : decode cX4_driest 139 = .ok (.goto 5, 3) := by decide +kernel
theorem dX4_driest_142 : decode cX4_driest 142 = .ok (.iload 6, 2) := by decide +kernel
theorem dX4_driest_144 : decode cX4_driest 144 = .ok (.ireturn, 1) := by decide +kernel
set_option maxRecDepth 20000 in
theorem ggX4_sorts_X4_outside : GoodIn wsX4_sorts wsX4_outside := goodIn_r _ [6, 7, 8, 9, 5, 10, 11, 12, 13, 14, 15, 16, 17, 18, 19, 20, 21, 22, 159, 160, 161, 162, 163, 164, 165, 166, 167, 168] (by decide +kernel) (by decide +kernel)
set_option maxRecDepth 20000 in
theorem gX4_sorts_X4_outside : GoodIn wsX4_sorts (wsV RX4 58 RX4 yX4_outside wsX4_outside) := goodIn_app (goodIn_of _ (by decide +kernel)) ggX4_sorts_X4_outside
set_option maxRecDepth 20000 in
theorem ggX4_sorts_X4_sortBits : GoodIn wsX4_sorts wsX4_sortBits := goodIn_r _ [26, 27, 28, 29, 5, 30, 31, 32, 33, 34, 35, 36, 37, 38, 39, 40, 41, 42, 43, 44, 45, 46, 47, 48, 49, 50, 51, 52, 53, 54, 55, 15, 56, 17, 18, 57, 58, 59, 60, 61, 62, 63, 64, 65, 20, 21, 22, 66, 67, 68, 69, 70, 71, 72, 73, 74, 75, 76, 77, 78, 79, 80, 81, 82, 13, 14, 16, 83, 84, 85, 86, 87, 88, 89, 90, 91, 92, 93, 94, 95, 96, 97, 98, 99, 100, 101, 102, 103, 104, 105, 106, 107, 108, 109, 110, 111, 112, 113, 114, 115, 116, 117, 118, 119, 120, 121, 122, 123, 124, 125, 126, 127, 128, 129, 130, 131, 132, 133, 134, 135, 136, 137, 138, 139, 140, 141, 142, 143, 144, 145, 146, 147, 148, 149, 150, 151, 152, 153, 154, 155, 156, 157, 158, 159, 160, 161, 162, 163, 164, 165, 166, 169, 170, 171, 172, 173, 174, 175, 176, 177, 178, 179, 180, 181, 182, 183, 184, 185, 186, 167, 168, 187, 188, 189] (by decide +kernel) (by decide +kernel)
set_option maxRecDepth 20000 in
theorem gX4_sorts_X4_sortBits : GoodIn wsX4_sorts (wsV RX4 214 RX4 yX4_sortBits wsX4_sortBits) := goodIn_app (goodIn_of _ (by decide +kernel)) ggX4_sorts_X4_sortBits
theorem dX4_sorts_0 : decode cX4_sorts 0 = .ok (.aload_n 0, 1) := by decide +kernel
theorem dX4_sorts_1 : decode cX4_sorts 1 = .ok (.iload_n 1, 1) := by decide +kernel
theorem dX4_sorts_2 : decode cX4_sorts 2 = .ok (.ifCond .lt 7, 3) := by decide +kernel
theorem dX4_sorts_5 : decode cX4_sorts 5 = .ok (.iload_n 2, 1) := by decide +kernel
theorem dX4_sorts_6 : decode cX4_sorts 6 = .ok (.ifCond .ge 7, 3) := by decide +kernel
theorem dX4_sorts_9 : decode cX4_sorts 9 = .ok (.iconst 1, 1) := by decide +kernel
theorem dX4_sorts_10 : decode cX4_sorts 10 = .ok (.goto 4, 3) := by decide +kernel
theorem dX4_sorts_13 : decode cX4_sorts 13 = .ok (.iconst 0, 1) := by decide +kernel
theorem dX4_sorts_14 : decode cX4_sorts 14 = .ok (.iload_n 1, 1) := by decide +kernel
theorem dX4_sorts_15 : decode cX4_sorts 15 = .ok (.ldc 213, 2) := by decide +kernel
theorem dX4_sorts_17 : decode cX4_sorts 17 = .ok (.if_icmp .gt 9, 3) := by decide +kernel
theorem dX4_sorts_20 : decode cX4_sorts 20 = .ok (.iload_n 2, 1) := by decide +kernel
theorem dX4_sorts_21 : decode cX4_sorts 21 = .ok (.ldc 213, 2) := by decide +kernel
theorem dX4_sorts_23 : decode cX4_sorts 23 = .ok (.if_icmp .le 7, 3) := by decide +kernel
theorem dX4_sorts_26 : decode cX4_sorts 26 = .ok (.iconst 1, 1) := by decide +kernel
theorem dX4_sorts_27 : decode cX4_sorts 27 = .ok (.goto 4, 3) := by decide +kernel
theorem dX4_sorts_30 : decode cX4_sorts 30 = .ok (.iconst 0, 1) := by decide +kernel
theorem dX4_sorts_31 : decode cX4_sorts 31 = .ok (.invokevirtual 58, 3) := by decide +kernel
theorem dX4_sorts_34 : decode cX4_sorts 34 = .ok (.istore_n 3, 1) := by decide +kernel
theorem dX4_sorts_35 : decode cX4_sorts 35 = .ok (.iload_n 3, 1) := by decide +kernel
theorem dX4_sorts_36 : decode cX4_sorts 36 = .ok (.ifCond .eq 5, 3) := by decide +kernel
theorem dX4_sorts_39 : decode cX4_sorts 39 = .ok (.iload_n 3, 1) := by decide +kernel
theorem dX4_sorts_40 : decode cX4_sorts 40 = .ok (.ireturn, 1) := by decide +kernel
theorem dX4_sorts_41 : decode cX4_sorts 41 = .ok (.aload_n 0, 1) := by decide +kernel
theorem dX4_sorts_42 : decode cX4_sorts 42 = .ok (.iload_n 1, 1) := by decide +kernel
theorem dX4_sorts_43 : decode cX4_sorts 43 = .ok (.iload_n 2, 1) := by decide +kernel
theorem dX4_sorts_44 : decode cX4_sorts 44 = .ok (.invokevirtual 214, 3) := by decide +kernel
theorem dX4_sorts_47 : decode cX4_sorts 47 = .ok (.ireturn, 1) := by decide +kernel
set_option maxRecDepth 20000 in
theorem ggX4_odds_X4_refuse : GoodIn wsX4_odds wsX4_refuse := goodIn_r _ [6, 7, 8, 9, 10, 11, 12, 13, 14, 15, 16, 17, 18, 166, 167, 168, 169, 170, 171, 172, 173, 174, 175] (by decide +kernel) (by decide +kernel)
set_option maxRecDepth 20000 in
theorem gX4_odds_X4_refuse : GoodIn wsX4_odds (wsV RX4 78 RX4 yX4_refuse wsX4_refuse) := goodIn_app (goodIn_of _ (by decide +kernel)) ggX4_odds_X4_refuse
set_option maxRecDepth 20000 in
theorem ggX4_odds_X4_outside : GoodIn wsX4_odds wsX4_outside := goodIn_r _ [22, 2, 3, 4, 5, 6, 7, 8, 9, 10, 11, 12, 13, 14, 15, 16, 17, 18, 166, 167, 168, 169, 170, 171, 172, 173, 174, 175] (by decide +kernel) (by decide +kernel)
set_option maxRecDepth 20000 in
theorem gX4_odds_X4_outside : GoodIn wsX4_odds (wsV RX4 58 RX4 yX4_outside wsX4_outside) := goodIn_app (goodIn_of _ (by decide +kernel)) ggX4_odds_X4_outside
set_option maxRecDepth 20000 in
theorem ggX4_odds_X4_sortBits : GoodIn wsX4_odds wsX4_sortBits := goodIn_r _ [26, 27, 28, 29, 5, 30, 31, 32, 33, 34, 35, 36, 37, 38, 39, 40, 41, 42, 43, 44, 45, 46, 47, 48, 49, 50, 51, 52, 53, 54, 55, 11, 56, 13, 14, 57, 58, 59, 60, 61, 62, 63, 64, 65, 16, 17, 18, 66, 67, 68, 69, 70, 71, 72, 73, 74, 75, 76, 77, 78, 79, 80, 81, 82, 9, 10, 12, 83, 84, 85, 86, 87, 88, 89, 90, 91, 92, 93, 94, 95, 96, 97, 98, 99, 100, 101, 102, 103, 104, 105, 106, 107, 108, 109, 110, 111, 112, 113, 114, 115, 116, 117, 118, 119, 120, 121, 122, 123, 124, 125, 126, 127, 128, 129, 130, 131, 132, 133, 134, 135, 136, 137, 138, 139, 140, 141, 142, 143, 144, 145, 146, 147, 148, 149, 150, 151, 152, 153, 154, 155, 156, 157, 158, 166, 167, 168, 169, 170, 171, 172, 173, 176, 177, 178, 179, 180, 181, 182, 183, 184, 185, 186, 187, 188, 189, 190, 191, 192, 193, 174, 175, 194, 195, 196] (by decide +kernel) (by decide +kernel)
set_option maxRecDepth 20000 in
theorem gX4_odds_X4_sortBits : GoodIn wsX4_odds (wsV RX4 214 RX4 yX4_sortBits wsX4_sortBits) := goodIn_app (goodIn_of _ (by decide +kernel)) ggX4_odds_X4_sortBits
set_option maxRecDepth 20000 in
theorem ggX4_odds_J6_bitCount_0f7a4 : GoodIn wsX4_odds wsJ6_bitCount_0f7a4 := goodIn_r _ [162, 163, 164, 165] (by decide +kernel) (by decide +kernel)
set_option maxRecDepth 20000 in
theorem gX4_odds_J6_bitCount_0f7a4 : GoodIn wsX4_odds (va_wsS RX4 217 yJ6_bitCount_0f7a4 wsJ6_bitCount_0f7a4) := goodIn_app (goodIn_of _ (by decide +kernel)) ggX4_odds_J6_bitCount_0f7a4
theorem dX4_odds_0 : decode cX4_odds 0 = .ok (.iload_n 1, 1) := by decide +kernel
theorem dX4_odds_1 : decode cX4_odds 1 = .ok (.iconst 1, 1) := by decide +kernel
theorem dX4_odds_2 : decode cX4_odds 2 = .ok (.if_icmp .lt 9, 3) := by decide +kernel
theorem dX4_odds_5 : decode cX4_odds 5 = .ok (.iload_n 1, 1) := by decide +kernel
theorem dX4_odds_6 : decode cX4_odds 6 = .ok (.bipush 9, 2) := by decide +kernel
theorem dX4_odds_8 : decode cX4_odds 8 = .ok (.if_icmp .le 9, 3) := by decide +kernel
theorem dX4_odds_11 : decode cX4_odds 11 = .ok (.aload_n 0, 1) := by decide +kernel
theorem dX4_odds_12 : decode cX4_odds 12 = .ok (.iconst (-1), 1) := by decide +kernel
theorem dX4_odds_13 : decode cX4_odds 13 = .ok (.invokevirtual 78, 3) := by decide +kernel
theorem dX4_odds_16 : decode cX4_odds 16 = .ok (.ireturn, 1) := by decide +kernel
theorem dX4_odds_17 : decode cX4_odds 17 = .ok (.iload 4, 2) := by decide +kernel
theorem dX4_odds_19 : decode cX4_odds 19 = .ok (.ifCond .lt 9, 3) := by decide +kernel
theorem dX4_odds_22 : decode cX4_odds 22 = .ok (.iload 4, 2) := by decide +kernel
theorem dX4_odds_24 : decode cX4_odds 24 = .ok (.iconst 1, 1) := by decide +kernel
theorem dX4_odds_25 : decode cX4_odds 25 = .ok (.if_icmp .le 10, 3) := by decide +kernel
theorem dX4_odds_28 : decode cX4_odds 28 = .ok (.aload_n 0, 1) := by decide +kernel
theorem dX4_odds_29 : decode cX4_odds 29 = .ok (.bipush (-2), 2) := by decide +kernel
theorem dX4_odds_31 : decode cX4_odds 31 = .ok (.invokevirtual 78, 3) := by decide +kernel
theorem dX4_odds_34 : decode cX4_odds 34 = .ok (.ireturn, 1) := by decide +kernel
theorem dX4_odds_35 : decode cX4_odds 35 = .ok (.aload_n 0, 1) := by decide +kernel
theorem dX4_odds_36 : decode cX4_odds 36 = .ok (.iload_n 2, 1) := by decide +kernel
theorem dX4_odds_37 : decode cX4_odds 37 = .ok (.ifCond .lt 7, 3) := by decide +kernel
theorem dX4_odds_40 : decode cX4_odds 40 = .ok (.iload_n 3, 1) := by decide +kernel
theorem dX4_odds_41 : decode cX4_odds 41 = .ok (.ifCond .ge 7, 3) := by decide +kernel
theorem dX4_odds_44 : decode cX4_odds 44 = .ok (.iconst 1, 1) := by decide +kernel
theorem dX4_odds_45 : decode cX4_odds 45 = .ok (.goto 4, 3) := by decide +kernel
theorem dX4_odds_48 : decode cX4_odds 48 = .ok (.iconst 0, 1) := by decide +kernel
theorem dX4_odds_49 : decode cX4_odds 49 = .ok (.iload_n 2, 1) := by decide +kernel
theorem dX4_odds_50 : decode cX4_odds 50 = .ok (.ldc 213, 2) := by decide +kernel
theorem dX4_odds_52 : decode cX4_odds 52 = .ok (.if_icmp .gt 9, 3) := by decide +kernel
theorem dX4_odds_55 : decode cX4_odds 55 = .ok (.iload_n 3, 1) := by decide +kernel
theorem dX4_odds_56 : decode cX4_odds 56 = .ok (.ldc 213, 2) := by decide +kernel
theorem dX4_odds_58 : decode cX4_odds 58 = .ok (.if_icmp .le 7, 3) := by decide +kernel
theorem dX4_odds_61 : decode cX4_odds 61 = .ok (.iconst 1, 1) := by decide +kernel
theorem dX4_odds_62 : decode cX4_odds 62 = .ok (.goto 4, 3) := by decide +kernel
theorem dX4_odds_65 : decode cX4_odds 65 = .ok (.iconst 0, 1) := by decide +kernel
theorem dX4_odds_66 : decode cX4_odds 66 = .ok (.invokevirtual 58, 3) := by decide +kernel
theorem dX4_odds_69 : decode cX4_odds 69 = .ok (.istore 5, 2) := by decide +kernel
theorem dX4_odds_71 : decode cX4_odds 71 = .ok (.iload 5, 2) := by decide +kernel
theorem dX4_odds_73 : decode cX4_odds 73 = .ok (.ifCond .eq 6, 3) := by decide +kernel
theorem dX4_odds_76 : decode cX4_odds 76 = .ok (.iload 5, 2) := by decide +kernel
theorem dX4_odds_78 : decode cX4_odds 78 = .ok (.ireturn, 1) := by decide +kernel
theorem dX4_odds_79 : decode cX4_odds 79 = .ok (.aload_n 0, 1) := by decide +kernel
theorem dX4_odds_80 : decode cX4_odds 80 = .ok (.iload_n 2, 1) := by decide +kernel
theorem dX4_odds_81 : decode cX4_odds 81 = .ok (.iload_n 3, 1) := by decide +kernel
theorem dX4_odds_82 : decode cX4_odds 82 = .ok (.invokevirtual 214, 3) := by decide +kernel
theorem dX4_odds_85 : decode cX4_odds 85 = .ok (.istore 6, 2) := by decide +kernel
theorem dX4_odds_87 : decode cX4_odds 87 = .ok (.iload 6, 2) := by decide +kernel
theorem dX4_odds_89 : decode cX4_odds 89 = .ok (.iload_n 1, 1) := by decide +kernel
theorem dX4_odds_90 : decode cX4_odds 90 = .ok (.ishr, 1) := by decide +kernel
theorem dX4_odds_91 : decode cX4_odds 91 = .ok (.iconst 1, 1) := by decide +kernel
theorem dX4_odds_92 : decode cX4_odds 92 = .ok (.iand, 1) := by decide +kernel
theorem dX4_odds_93 : decode cX4_odds 93 = .ok (.iconst 1, 1) := by decide +kernel
theorem dX4_odds_94 : decode cX4_odds 94 = .ok (.if_icmp .ne 7, 3) := by decide +kernel
theorem dX4_odds_97 : decode cX4_odds 97 = .ok (.iconst 1, 1) := by decide +kernel
theorem dX4_odds_98 : decode cX4_odds 98 = .ok (.goto 4, 3) := by decide +kernel
theorem dX4_odds_101 : decode cX4_odds 101 = .ok (.iconst 0, 1) := by decide +kernel
theorem dX4_odds_102 : decode cX4_odds 102 = .ok (.istore 7, 2) := by decide +kernel
theorem dX4_odds_104 : decode cX4_odds 104 = .ok (.iload 4, 2) := by decide +kernel
theorem dX4_odds_106 : decode cX4_odds 106 = .ok (.ifCond .ne 14, 3) := by decide +kernel
theorem dX4_odds_109 : decode cX4_odds 109 = .ok (.iload 7, 2) := by decide +kernel
theorem dX4_odds_111 : decode cX4_odds 111 = .ok (.ifCond .eq 7, 3) := by decide +kernel
theorem dX4_odds_114 : decode cX4_odds 114 = .ok (.iconst 1, 1) := by decide +kernel
theorem dX4_odds_115 : decode cX4_odds 115 = .ok (.goto 4, 3) := by decide +kernel
theorem dX4_odds_118 : decode cX4_odds 118 = .ok (.iconst 0, 1) := by decide +kernel
theorem dX4_odds_119 : decode cX4_odds 119 = .ok (.ireturn, 1) := by decide +kernel
theorem dX4_odds_120 : decode cX4_odds 120 = .ok (.iload 7, 2) := by decide +kernel
theorem dX4_odds_122 : decode cX4_odds 122 = .ok (.ifCond .eq 11, 3) := by decide +kernel
theorem dX4_odds_125 : decode cX4_odds 125 = .ok (.iload 6, 2) := by decide +kernel
theorem dX4_odds_127 : decode cX4_odds 127 = .ok (.invokestatic 217, 3) := by decide +kernel
theorem dX4_odds_130 : decode cX4_odds 130 = .ok (.goto 4, 3) := by decide +kernel
theorem dX4_odds_133 : decode cX4_odds 133 = .ok (.iconst 1, 1) := by decide +kernel
theorem dX4_odds_134 : decode cX4_odds 134 = .ok (.ireturn, 1) := by decide +kernel
set_option maxRecDepth 20000 in
theorem ggX4_drafts_X4_outside : GoodIn wsX4_drafts wsX4_outside := goodIn_r _ [12, 13, 14, 15, 11, 16, 17, 18, 19, 20, 21, 22, 23, 24, 25, 26, 27, 28, 143, 144, 145, 146, 147, 148, 149, 150, 169, 170] (by decide +kernel) (by decide +kernel)
set_option maxRecDepth 20000 in
theorem gX4_drafts_X4_outside : GoodIn wsX4_drafts (wsV RX4 58 RX4 yX4_outside wsX4_outside) := goodIn_app (goodIn_of _ (by decide +kernel)) ggX4_drafts_X4_outside
set_option maxRecDepth 20000 in
theorem ggX4_drafts_X0_become : GoodIn wsX4_drafts wsX0_become := goodIn_r _ [33, 34, 35, 36, 37, 38, 39, 40, 41, 42, 43, 44, 45, 46, 47, 48, 49, 50, 51, 52, 53, 54, 21, 55, 23, 24, 56, 57, 58, 59, 60, 61, 62, 63, 64, 65, 66, 67, 68, 69, 70, 71, 72, 151, 152, 153, 154, 155, 156, 157, 158, 159, 160, 161, 162, 163, 164, 165, 166, 167, 168, 169, 170, 171, 172, 173] (by decide +kernel) (by decide +kernel)
set_option maxRecDepth 20000 in
theorem gX4_drafts_X0_become : GoodIn wsX4_drafts (wsV RX4 162 RX0 yX0_become wsX0_become) := goodIn_app (goodIn_of _ (by decide +kernel)) ggX4_drafts_X0_become
set_option maxRecDepth 20000 in
theorem ggX4_drafts_X0_nodsIn : GoodIn wsX4_drafts wsX0_nodsIn := goodIn_r _ [76, 45, 77, 78, 79, 32, 80, 40, 42, 43, 34, 38, 39, 49, 47, 46, 44, 81, 82, 83, 84, 50, 35, 85, 19, 20, 21, 22, 23, 24, 86, 87, 88, 67, 89, 69, 70, 71, 90, 91, 92, 93, 94, 95, 96, 97, 98, 99, 100, 58, 101, 102, 57, 59, 103, 104, 105, 106, 107, 108, 109, 110, 36, 37, 111, 112, 113, 114, 115, 116, 117, 118, 119, 120, 121, 122, 48, 123, 124, 125, 126, 41, 127, 128, 129, 130, 51, 131, 132, 133, 134, 135, 136, 137, 138, 139, 140, 141, 142, 151, 152, 153, 154, 155, 156, 157, 158, 159, 160, 161, 162, 163, 164, 165, 166, 167, 168, 169, 170, 171, 172, 173] (by decide +kernel) (by decide +kernel)
set_option maxRecDepth 20000 in
theorem gX4_drafts_X0_nodsIn : GoodIn wsX4_drafts (wsV RX4 119 RX0 yX0_nodsIn wsX0_nodsIn) := goodIn_app (goodIn_of _ (by decide +kernel)) ggX4_drafts_X0_nodsIn
theorem dX4_drafts_0 : decode cX4_drafts 0 = .ok (.aload_n 0, 1) := by decide +kernel
theorem dX4_drafts_1 : decode cX4_drafts 1 = .ok (.iload_n 1, 1) := by decide +kernel
theorem dX4_drafts_2 : decode cX4_drafts 2 = .ok (.iconst 1, 1) := by decide +kernel
theorem dX4_drafts_3 : decode cX4_drafts 3 = .ok (.if_icmp .ge 7, 3) := by decide +kernel
theorem dX4_drafts_6 : decode cX4_drafts 6 = .ok (.iconst 1, 1) := by decide +kernel
theorem dX4_drafts_7 : decode cX4_drafts 7 = .ok (.goto 4, 3) := by decide +kernel
theorem dX4_drafts_10 : decode cX4_drafts 10 = .ok (.iconst 0, 1) := by decide +kernel
theorem dX4_drafts_11 : decode cX4_drafts 11 = .ok (.iload_n 1, 1) := by decide +kernel
theorem dX4_drafts_12 : decode cX4_drafts 12 = .ok (.sipush 3000, 3) := by decide +kernel
theorem dX4_drafts_15 : decode cX4_drafts 15 = .ok (.if_icmp .le 7, 3) := by decide +kernel
theorem dX4_drafts_18 : decode cX4_drafts 18 = .ok (.iconst 1, 1) := by decide +kernel
theorem dX4_drafts_19 : decode cX4_drafts 19 = .ok (.goto 4, 3) := by decide +kernel
theorem dX4_drafts_22 : decode cX4_drafts 22 = .ok (.iconst 0, 1) := by decide +kernel
theorem dX4_drafts_23 : decode cX4_drafts 23 = .ok (.invokevirtual 58, 3) := by decide +kernel
theorem dX4_drafts_26 : decode cX4_drafts 26 = .ok (.istore_n 3, 1) := by decide +kernel
theorem dX4_drafts_27 : decode cX4_drafts 27 = .ok (.iload_n 3, 1) := by decide +kernel
theorem dX4_drafts_28 : decode cX4_drafts 28 = .ok (.ifCond .eq 5, 3) := by decide +kernel
theorem dX4_drafts_31 : decode cX4_drafts 31 = .ok (.iload_n 3, 1) := by decide +kernel
theorem dX4_drafts_32 : decode cX4_drafts 32 = .ok (.ireturn, 1) := by decide +kernel
theorem dX4_drafts_33 : decode cX4_drafts 33 = .ok (.aload_n 0, 1) := by decide +kernel
theorem dX4_drafts_34 : decode cX4_drafts 34 = .ok (.getfield 19, 3) := by decide +kernel
theorem dX4_drafts_37 : decode cX4_drafts 37 = .ok (.aload_n 0, 1) := by decide +kernel
theorem dX4_drafts_38 : decode cX4_drafts 38 = .ok (.getfield 10, 3) := by decide +kernel
theorem dX4_drafts_41 : decode cX4_drafts 41 = .ok (.invokevirtual 162, 3) := by decide +kernel
theorem dX4_drafts_44 : decode cX4_drafts 44 = .ok (.iload_n 2, 1) := by decide +kernel
theorem dX4_drafts_45 : decode cX4_drafts 45 = .ok (.istore 4, 2) := by decide +kernel
theorem dX4_drafts_47 : decode cX4_drafts 47 = .ok (.iconst 0, 1) := by decide +kernel
theorem dX4_drafts_48 : decode cX4_drafts 48 = .ok (.istore 5, 2) := by decide +kernel
theorem dX4_drafts_50 : decode cX4_drafts 50 = .ok (.iconst 0, 1) := by decide +kernel
theorem dX4_drafts_51 : decode cX4_drafts 51 = .ok (.istore 6, 2) := by decide +kernel
theorem dX4_drafts_53 : decode cX4_drafts 53 = .ok (.iload 6, 2) := by decide +kernel
theorem dX4_drafts_55 : decode cX4_drafts 55 = .ok (.iload_n 1, 1) := by decide +kernel
theorem dX4_drafts_56 : decode cX4_drafts 56 = .ok (.if_icmp .ge 64, 3) := by decide +kernel
theorem dX4_drafts_59 : decode cX4_drafts 59 = .ok (.aload_n 0, 1) := by decide +kernel
theorem dX4_drafts_60 : decode cX4_drafts 60 = .ok (.getfield 19, 3) := by decide +kernel
theorem dX4_drafts_63 : decode cX4_drafts 63 = .ok (.getfield 140, 3) := by decide +kernel
theorem dX4_drafts_66 : decode cX4_drafts 66 = .ok (.bipush 10, 2) := by decide +kernel
theorem dX4_drafts_68 : decode cX4_drafts 68 = .ok (.irem, 1) := by decide +kernel
theorem dX4_drafts_69 : decode cX4_drafts 69 = .ok (.ifCond .ne 32, 3) := by decide +kernel
theorem dX4_drafts_72 : decode cX4_drafts 72 = .ok (.iload 4, 2) := by decide +kernel
theorem dX4_drafts_74 : decode cX4_drafts 74 = .ok (.ldc 222, 2) := by decide +kernel
theorem dX4_drafts_76 : decode cX4_drafts 76 = .ok (.imul, 1) := by decide +kernel
theorem dX4_drafts_77 : decode cX4_drafts 77 = .ok (.ldc 223, 2) := by decide +kernel
theorem dX4_drafts_79 : decode cX4_drafts 79 = .ok (.iadd, 1) := by decide +kernel
theorem dX4_drafts_80 : decode cX4_drafts 80 = .ok (.istore 4, 2) := by decide +kernel
theorem dX4_drafts_82 : decode cX4_drafts 82 = .ok (.aload_n 0, 1) := by decide +kernel
theorem dX4_drafts_83 : decode cX4_drafts 83 = .ok (.getfield 19, 3) := by decide +kernel
theorem dX4_drafts_86 : decode cX4_drafts 86 = .ok (.iload 4, 2) := by decide +kernel
theorem dX4_drafts_88 : decode cX4_drafts 88 = .ok (.ldc 224, 2) := by decide +kernel
theorem dX4_drafts_90 : decode cX4_drafts 90 = .ok (.iand, 1) := by decide +kernel
theorem dX4_drafts_91 : decode cX4_drafts 91 = .ok (.sipush 256, 3) := by decide +kernel
theorem dX4_drafts_94 : decode cX4_drafts 94 = .ok (.idiv, 1) := by decide +kernel
theorem dX4_drafts_95 : decode cX4_drafts 95 = .ok (.bipush 10, 2) := by decide +kernel
theorem dX4_drafts_97 : decode cX4_drafts 97 = .ok (.irem, 1) := by decide +kernel
theorem dX4_drafts_98 : decode cX4_drafts 98 = .ok (.putfield 225, 3) := by decide +kernel
theorem dX4_drafts_101 : decode cX4_drafts 101 = .ok (.iload 5, 2) := by decide +kernel
theorem dX4_drafts_103 : decode cX4_drafts 103 = .ok (.aload_n 0, 1) := by decide +kernel
theorem dX4_drafts_104 : decode cX4_drafts 104 = .ok (.getfield 19, 3) := by decide +kernel
theorem dX4_drafts_107 : decode cX4_drafts 107 = .ok (.iconst 1, 1) := by decide +kernel
theorem dX4_drafts_108 : decode cX4_drafts 108 = .ok (.invokevirtual 119, 3) := by decide +kernel
theorem dX4_drafts_111 : decode cX4_drafts 111 = .ok (.iadd, 1) := by decide +kernel
theorem dX4_drafts_112 : decode cX4_drafts 112 = .ok (.istore 5, 2) := by decide +kernel
theorem dX4_drafts_114 : decode cX4_drafts 114 = .ok (.iinc 6 1, 3) := by decide +kernel
theorem dX4_drafts_117 : decode cX4_drafts 117 = .ok (.goto (-64), 3) := by decide +kernel
theorem dX4_drafts_120 : decode cX4_drafts 120 = .ok (.iload 5, 2) := by decide +kernel
theorem dX4_drafts_122 : decode cX4_drafts 122 = .ok (.ireturn, 1) := by decide +kernel
set_option maxRecDepth 20000 in
theorem ggX4_image_X0_become : GoodIn wsX4_image wsX0_become := goodIn_r _ [9, 10, 11, 12, 13, 14, 15, 16, 17, 18, 19, 20, 21, 22, 23, 24, 25, 26, 27, 28, 29, 30, 31, 32, 33, 34, 35, 36, 37, 38, 39, 40, 41, 42, 43, 44, 45, 46, 47, 48, 49, 50, 51, 60, 61, 62, 63, 64, 65, 66, 67, 68, 69, 70, 71, 72, 73, 74, 75, 76, 77, 78, 79, 80, 81, 82] (by decide +kernel) (by decide +kernel)
set_option maxRecDepth 20000 in
theorem gX4_image_X0_become : GoodIn wsX4_image (wsV RX4 162 RX0 yX0_become wsX0_become) := goodIn_app (goodIn_of _ (by decide +kernel)) ggX4_image_X0_become
theorem dX4_image_0 : decode cX4_image 0 = .ok (.aload_n 0, 1) := by decide +kernel
theorem dX4_image_1 : decode cX4_image 1 = .ok (.getfield 16, 3) := by decide +kernel
theorem dX4_image_4 : decode cX4_image 4 = .ok (.aload_n 0, 1) := by decide +kernel
theorem dX4_image_5 : decode cX4_image 5 = .ok (.getfield 10, 3) := by decide +kernel
theorem dX4_image_8 : decode cX4_image 8 = .ok (.invokevirtual 162, 3) := by decide +kernel
theorem dX4_image_11 : decode cX4_image 11 = .ok (.aload_n 0, 1) := by decide +kernel
theorem dX4_image_12 : decode cX4_image 12 = .ok (.iconst 1, 1) := by decide +kernel
theorem dX4_image_13 : decode cX4_image 13 = .ok (.putfield 44, 3) := by decide +kernel
theorem dX4_image_16 : decode cX4_image 16 = .ok (.aload_n 0, 1) := by decide +kernel
theorem dX4_image_17 : decode cX4_image 17 = .ok (.getfield 10, 3) := by decide +kernel
theorem dX4_image_20 : decode cX4_image 20 = .ok (.getfield 140, 3) := by decide +kernel
theorem dX4_image_23 : decode cX4_image 23 = .ok (.ireturn, 1) := by decide +kernel
set_option maxRecDepth 20000 in
theorem ggX4_on_X4_refuse : GoodIn wsX4_on wsX4_refuse := goodIn_r _ [9, 10, 11, 12, 13, 14, 15, 16, 17, 18, 19, 20, 21, 66, 67, 68, 69, 70, 71, 72, 73, 92, 93] (by decide +kernel) (by decide +kernel)
set_option maxRecDepth 20000 in
theorem gX4_on_X4_refuse : GoodIn wsX4_on (wsV RX4 78 RX4 yX4_refuse wsX4_refuse) := goodIn_app (goodIn_of _ (by decide +kernel)) ggX4_on_X4_refuse
set_option maxRecDepth 20000 in
theorem ggX4_on_X0_become : GoodIn wsX4_on wsX0_become := goodIn_r _ [26, 27, 28, 29, 30, 31, 32, 33, 34, 35, 36, 37, 38, 39, 40, 41, 42, 43, 44, 45, 46, 47, 14, 48, 16, 17, 49, 50, 51, 52, 53, 54, 55, 56, 57, 58, 59, 60, 61, 62, 63, 64, 65, 74, 75, 76, 77, 78, 79, 80, 81, 82, 83, 84, 85, 86, 87, 88, 89, 90, 91, 92, 93, 94, 95, 96] (by decide +kernel) (by decide +kernel)
set_option maxRecDepth 20000 in
theorem gX4_on_X0_become : GoodIn wsX4_on (wsV RX4 162 RX0 yX0_become wsX0_become) := goodIn_app (goodIn_of _ (by decide +kernel)) ggX4_on_X0_become
theorem dX4_on_0 : decode cX4_on 0 = .ok (.aload_n 0, 1) := by decide +kernel
theorem dX4_on_1 : decode cX4_on 1 = .ok (.getfield 44, 3) := by decide +kernel
theorem dX4_on_4 : decode cX4_on 4 = .ok (.ifCond .ne 10, 3) := by decide +kernel
theorem dX4_on_7 : decode cX4_on 7 = .ok (.aload_n 0, 1) := by decide +kernel
theorem dX4_on_8 : decode cX4_on 8 = .ok (.bipush (-3), 2) := by decide +kernel
theorem dX4_on_10 : decode cX4_on 10 = .ok (.invokevirtual 78, 3) := by decide +kernel
theorem dX4_on_13 : decode cX4_on 13 = .ok (.ireturn, 1) := by decide +kernel
theorem dX4_on_14 : decode cX4_on 14 = .ok (.aload_n 0, 1) := by decide +kernel
theorem dX4_on_15 : decode cX4_on 15 = .ok (.getfield 10, 3) := by decide +kernel
theorem dX4_on_18 : decode cX4_on 18 = .ok (.aload_n 0, 1) := by decide +kernel
theorem dX4_on_19 : decode cX4_on 19 = .ok (.getfield 16, 3) := by decide +kernel
theorem dX4_on_22 : decode cX4_on 22 = .ok (.invokevirtual 162, 3) := by decide +kernel
theorem dX4_on_25 : decode cX4_on 25 = .ok (.aload_n 0, 1) := by decide +kernel
theorem dX4_on_26 : decode cX4_on 26 = .ok (.getfield 10, 3) := by decide +kernel
theorem dX4_on_29 : decode cX4_on 29 = .ok (.getfield 140, 3) := by decide +kernel
theorem dX4_on_32 : decode cX4_on 32 = .ok (.ireturn, 1) := by decide +kernel
set_option maxRecDepth 20000 in
theorem ggX4_count_X1_at : GoodIn wsX4_count wsX1_at := goodIn_r _ [12, 13, 14, 58, 59] (by decide +kernel) (by decide +kernel)
set_option maxRecDepth 20000 in
theorem gX4_count_X1_at : GoodIn wsX4_count (wsV RX4 96 RX1 yX1_at wsX1_at) := goodIn_app (goodIn_of _ (by decide +kernel)) ggX4_count_X1_at
set_option maxRecDepth 20000 in
theorem ggX4_count_X1_size : GoodIn wsX4_count wsX1_size := goodIn_r _ [18, 13, 58, 59] (by decide +kernel) (by decide +kernel)
set_option maxRecDepth 20000 in
theorem gX4_count_X1_size : GoodIn wsX4_count (wsV RX4 54 RX1 yX1_size wsX1_size) := goodIn_app (goodIn_of _ (by decide +kernel)) ggX4_count_X1_size
set_option maxRecDepth 20000 in
theorem ggX4_count_X2_size : GoodIn wsX4_count wsX2_size := goodIn_r _ [23, 24, 25, 16, 17, 11, 18, 13, 60, 61, 62, 58, 59] (by decide +kernel) (by decide +kernel)
set_option maxRecDepth 20000 in
theorem gX4_count_X2_size : GoodIn wsX4_count (wsV RX4 228 RX2 yX2_size wsX2_size) := goodIn_app (goodIn_of _ (by decide +kernel)) ggX4_count_X2_size
theorem dX4_count_0 : decode cX4_count 0 = .ok (.iload_n 1, 1) := by decide +kernel
theorem dX4_count_1 : decode cX4_count 1 = .ok (.bipush 11, 2) := by decide +kernel
theorem dX4_count_3 : decode cX4_count 3 = .ok (.if_icmp .lt 21, 3) := by decide +kernel
theorem dX4_count_6 : decode cX4_count 6 = .ok (.iload_n 1, 1) := by decide +kernel
theorem dX4_count_7 : decode cX4_count 7 = .ok (.bipush 16, 2) := by decide +kernel
theorem dX4_count_9 : decode cX4_count 9 = .ok (.if_icmp .gt 15, 3) := by decide +kernel
theorem dX4_count_12 : decode cX4_count 12 = .ok (.aload_n 0, 1) := by decide +kernel
theorem dX4_count_13 : decode cX4_count 13 = .ok (.getfield 41, 3) := by decide +kernel
theorem dX4_count_16 : decode cX4_count 16 = .ok (.iload_n 1, 1) := by decide +kernel
theorem dX4_count_17 : decode cX4_count 17 = .ok (.bipush 10, 2) := by decide +kernel
theorem dX4_count_19 : decode cX4_count 19 = .ok (.isub, 1) := by decide +kernel
theorem dX4_count_20 : decode cX4_count 20 = .ok (.invokevirtual 96, 3) := by decide +kernel
theorem dX4_count_23 : decode cX4_count 23 = .ok (.ireturn, 1) := by decide +kernel
theorem dX4_count_24 : decode cX4_count 24 = .ok (.iload_n 1, 1) := by decide +kernel
theorem dX4_count_25 : decode cX4_count 25 = .ok (.tableswitch 72 0 3 #[31, 42, 53, 61], 31) := by decide +kernel
theorem dX4_count_56 : decode cX4_count 56 = .ok (.aload_n 0, 1) := by decide +kernel
theorem dX4_count_57 : decode cX4_count 57 = .ok (.getfield 10, 3) := by decide +kernel
theorem dX4_count_60 : decode cX4_count 60 = .ok (.getfield 190, 3) := by decide +kernel
theorem dX4_count_63 : decode cX4_count 63 = .ok (.invokevirtual 54, 3) := by decide +kernel
theorem dX4_count_66 : decode cX4_count 66 = .ok (.ireturn, 1) := by decide +kernel
theorem dX4_count_67 : decode cX4_count 67 = .ok (.aload_n 0, 1) := by decide +kernel
theorem dX4_count_68 : decode cX4_count 68 = .ok (.getfield 10, 3) := by decide +kernel
theorem dX4_count_71 : decode cX4_count 71 = .ok (.getfield 67, 3) := by decide +kernel
theorem dX4_count_74 : decode cX4_count 74 = .ok (.invokevirtual 228, 3) := by decide +kernel
theorem dX4_count_77 : decode cX4_count 77 = .ok (.ireturn, 1) := by decide +kernel
theorem dX4_count_78 : decode cX4_count 78 = .ok (.aload_n 0, 1) := by decide +kernel
theorem dX4_count_79 : decode cX4_count 79 = .ok (.getfield 37, 3) := by decide +kernel
theorem dX4_count_82 : decode cX4_count 82 = .ok (.invokevirtual 54, 3) := by decide +kernel
theorem dX4_count_85 : decode cX4_count 85 = .ok (.ireturn, 1) := by decide +kernel
theorem dX4_count_86 : decode cX4_count 86 = .ok (.aload_n 0, 1) := by decide +kernel
theorem dX4_count_87 : decode cX4_count 87 = .ok (.getfield 28, 3) := by decide +kernel
theorem dX4_count_90 : decode cX4_count 90 = .ok (.getfield 51, 3) := by decide +kernel
theorem dX4_count_93 : decode cX4_count 93 = .ok (.invokevirtual 54, 3) := by decide +kernel
theorem dX4_count_96 : decode cX4_count 96 = .ok (.ireturn, 1) := by decide +kernel
theorem dX4_count_97 : decode cX4_count 97 = .ok (.bipush (-9), 2) := by decide +kernel
theorem dX4_count_99 : decode cX4_count 99 = .ok (.ireturn, 1) := by decide +kernel
set_option maxRecDepth 20000 in
theorem ggX4_refuse_X1_at : GoodIn wsX4_refuse wsX1_at := goodIn_r _ [6, 7, 8, 21, 22] (by decide +kernel) (by decide +kernel)
set_option maxRecDepth 20000 in
theorem gX4_refuse_X1_at : GoodIn wsX4_refuse (wsV RX4 96 RX1 yX1_at wsX1_at) := goodIn_app (goodIn_of _ (by decide +kernel)) ggX4_refuse_X1_at
set_option maxRecDepth 20000 in
theorem ggX4_refuse_X1_put : GoodIn wsX4_refuse wsX1_put := goodIn_r _ [12, 7, 8, 21, 22] (by decide +kernel) (by decide +kernel)
set_option maxRecDepth 20000 in
theorem gX4_refuse_X1_put : GoodIn wsX4_refuse (wsV RX4 99 RX1 yX1_put wsX1_put) := goodIn_app (goodIn_of _ (by decide +kernel)) ggX4_refuse_X1_put
theorem dX4_refuse_0 : decode cX4_refuse 0 = .ok (.aload_n 0, 1) := by decide +kernel
theorem dX4_refuse_1 : decode cX4_refuse 1 = .ok (.getfield 41, 3) := by decide +kernel
theorem dX4_refuse_4 : decode cX4_refuse 4 = .ok (.iload_n 1, 1) := by decide +kernel
theorem dX4_refuse_5 : decode cX4_refuse 5 = .ok (.ineg, 1) := by decide +kernel
theorem dX4_refuse_6 : decode cX4_refuse 6 = .ok (.aload_n 0, 1) := by decide +kernel
theorem dX4_refuse_7 : decode cX4_refuse 7 = .ok (.getfield 41, 3) := by decide +kernel
theorem dX4_refuse_10 : decode cX4_refuse 10 = .ok (.iload_n 1, 1) := by decide +kernel
theorem dX4_refuse_11 : decode cX4_refuse 11 = .ok (.ineg, 1) := by decide +kernel
theorem dX4_refuse_12 : decode cX4_refuse 12 = .ok (.invokevirtual 96, 3) := by decide +kernel
theorem dX4_refuse_15 : decode cX4_refuse 15 = .ok (.iconst 1, 1) := by decide +kernel
theorem dX4_refuse_16 : decode cX4_refuse 16 = .ok (.iadd, 1) := by decide +kernel
theorem dX4_refuse_17 : decode cX4_refuse 17 = .ok (.invokevirtual 99, 3) := by decide +kernel
theorem dX4_refuse_20 : decode cX4_refuse 20 = .ok (.iload_n 1, 1) := by decide +kernel
theorem dX4_refuse_21 : decode cX4_refuse 21 = .ok (.ireturn, 1) := by decide +kernel
set_option maxRecDepth 20000 in
theorem ggX4_outside_X4_refuse : GoodIn wsX4_outside wsX4_refuse := goodIn_r _ [5, 6, 7, 8, 9, 10, 11, 12, 13, 14, 15, 16, 17, 18, 19, 20, 21, 22, 23, 24, 25, 26, 27] (by decide +kernel) (by decide +kernel)
set_option maxRecDepth 20000 in
theorem gX4_outside_X4_refuse : GoodIn wsX4_outside (wsV RX4 78 RX4 yX4_refuse wsX4_refuse) := goodIn_app (goodIn_of _ (by decide +kernel)) ggX4_outside_X4_refuse
theorem dX4_outside_0 : decode cX4_outside 0 = .ok (.iload_n 1, 1) := by decide +kernel
theorem dX4_outside_1 : decode cX4_outside 1 = .ok (.ifCond .eq 10, 3) := by decide +kernel
theorem dX4_outside_4 : decode cX4_outside 4 = .ok (.aload_n 0, 1) := by decide +kernel
theorem dX4_outside_5 : decode cX4_outside 5 = .ok (.bipush (-4), 2) := by decide +kernel
theorem dX4_outside_7 : decode cX4_outside 7 = .ok (.invokevirtual 78, 3) := by decide +kernel
theorem dX4_outside_10 : decode cX4_outside 10 = .ok (.ireturn, 1) := by decide +kernel
theorem dX4_outside_11 : decode cX4_outside 11 = .ok (.iload_n 2, 1) := by decide +kernel
theorem dX4_outside_12 : decode cX4_outside 12 = .ok (.ifCond .eq 12, 3) := by decide +kernel
theorem dX4_outside_15 : decode cX4_outside 15 = .ok (.aload_n 0, 1) := by decide +kernel
theorem dX4_outside_16 : decode cX4_outside 16 = .ok (.bipush (-6), 2) := by decide +kernel
theorem dX4_outside_18 : decode cX4_outside 18 = .ok (.invokevirtual 78, 3) := by decide +kernel
theorem dX4_outside_21 : decode cX4_outside 21 = .ok (.goto 4, 3) := by decide +kernel
theorem dX4_outside_24 : decode cX4_outside 24 = .ok (.iconst 0, 1) := by decide +kernel
theorem dX4_outside_25 : decode cX4_outside 25 = .ok (.ireturn, 1) := by decide +kernel
set_option maxRecDepth 20000 in
theorem ggX4_freshWith_X0_hatch : GoodIn wsX4_freshWith wsX0_hatch := goodIn_r _ [7, 8, 9, 10, 11, 12, 13, 14, 15, 16, 17, 18, 19, 20, 21, 22, 23, 24, 25, 26, 27, 28, 29, 30, 31, 32, 33, 34, 35, 36, 37, 38, 39, 40, 41, 42, 43, 44, 45, 46, 47, 48, 49, 50, 51, 52, 53, 54, 55, 56, 57, 58, 59, 60, 61, 62, 63, 64, 6, 65, 66, 67, 68, 77, 78, 79, 80, 81, 82, 83, 84, 85, 86, 87, 88, 89, 90, 91, 92, 93, 94, 95, 96, 97, 98, 99] (by decide +kernel) (by decide +kernel)
set_option maxRecDepth 20000 in
theorem gX4_freshWith_X0_hatch : GoodIn wsX4_freshWith (wsV RX4 177 RX0 yX0_hatch wsX0_hatch) := goodIn_app (goodIn_of _ (by decide +kernel)) ggX4_freshWith_X0_hatch
theorem dX4_freshWith_0 : decode cX4_freshWith 0 = .ok (.aload_n 0, 1) := by decide +kernel
theorem dX4_freshWith_1 : decode cX4_freshWith 1 = .ok (.getfield 19, 3) := by decide +kernel
theorem dX4_freshWith_4 : decode cX4_freshWith 4 = .ok (.aload_n 0, 1) := by decide +kernel
theorem dX4_freshWith_5 : decode cX4_freshWith 5 = .ok (.getfield 10, 3) := by decide +kernel
theorem dX4_freshWith_8 : decode cX4_freshWith 8 = .ok (.iload_n 1, 1) := by decide +kernel
theorem dX4_freshWith_9 : decode cX4_freshWith 9 = .ok (.iload_n 2, 1) := by decide +kernel
theorem dX4_freshWith_10 : decode cX4_freshWith 10 = .ok (.invokevirtual 177, 3) := by decide +kernel
theorem dX4_freshWith_13 : decode cX4_freshWith 13 = .ok (.aload_n 0, 1) := by decide +kernel
theorem dX4_freshWith_14 : decode cX4_freshWith 14 = .ok (.getfield 19, 3) := by decide +kernel
theorem dX4_freshWith_17 : decode cX4_freshWith 17 = .ok (.areturn, 1) := by decide +kernel
set_option maxRecDepth 20000 in
theorem ggX4_airsFor_X4_freshWith : GoodIn wsX4_airsFor wsX4_freshWith := goodIn_r _ [5, 6, 7, 8, 9, 10, 11, 12, 13, 14, 15, 16, 17, 18, 19, 20, 21, 22, 23, 24, 25, 26, 27, 28, 29, 30, 31, 32, 33, 34, 35, 36, 37, 38, 39, 40, 41, 42, 43, 44, 45, 46, 47, 48, 49, 50, 51, 52, 53, 54, 55, 56, 57, 58, 59, 60, 61, 62, 63, 64, 65, 66, 67, 68, 69, 70, 71, 72, 73, 143, 144, 145, 146, 147, 148, 149, 150, 151, 152, 153, 154, 155, 156, 157, 158, 159, 160, 161, 162, 163, 164, 165, 166, 167, 168, 169, 170, 171, 172, 173] (by decide +kernel) (by decide +kernel)
set_option maxRecDepth 20000 in
theorem gX4_airsFor_X4_freshWith : GoodIn wsX4_airsFor (wsV RX4 166 RX4 yX4_freshWith wsX4_freshWith) := goodIn_app (goodIn_of _ (by decide +kernel)) ggX4_airsFor_X4_freshWith
set_option maxRecDepth 20000 in
theorem ggX4_airsFor_X0_with : GoodIn wsX4_airsFor wsX0_with := goodIn_r _ [77, 13, 43, 44, 45, 31, 46, 33, 34, 151, 152, 153, 154, 155, 156, 157, 158, 159, 160, 161, 162, 163, 164, 165, 166, 167, 168, 169, 170] (by decide +kernel) (by decide +kernel)
set_option maxRecDepth 20000 in
theorem gX4_airsFor_X0_with : GoodIn wsX4_airsFor (wsV RX4 231 RX0 yX0_with wsX0_with) := goodIn_app (goodIn_of _ (by decide +kernel)) ggX4_airsFor_X0_with
set_option maxRecDepth 20000 in
theorem ggX4_airsFor_X0_nodsWithin : GoodIn wsX4_airsFor wsX0_nodsWithin := goodIn_r _ [81, 24, 82, 83, 84, 11, 85, 19, 21, 22, 13, 17, 18, 25, 72, 71, 23, 86, 87, 88, 89, 26, 14, 63, 64, 65, 31, 66, 33, 34, 90, 91, 92, 50, 93, 52, 53, 54, 94, 95, 96, 97, 98, 99, 100, 101, 102, 103, 104, 37, 105, 106, 36, 38, 107, 108, 109, 110, 111, 112, 113, 114, 15, 16, 115, 116, 117, 118, 119, 120, 121, 122, 67, 68, 69, 70, 73, 123, 124, 125, 126, 20, 127, 128, 129, 130, 27, 131, 132, 133, 134, 135, 136, 137, 138, 139, 140, 141, 142, 151, 152, 153, 154, 155, 156, 157, 158, 159, 160, 161, 162, 163, 164, 165, 166, 167, 168, 169, 170, 171, 172, 173] (by decide +kernel) (by decide +kernel)
set_option maxRecDepth 20000 in
theorem gX4_airsFor_X0_nodsWithin : GoodIn wsX4_airsFor (wsV RX4 170 RX0 yX0_nodsWithin wsX0_nodsWithin) := goodIn_app (goodIn_of _ (by decide +kernel)) ggX4_airsFor_X0_nodsWithin
theorem dX4_airsFor_0 : decode cX4_airsFor 0 = .ok (.iconst 0, 1) := by decide +kernel
theorem dX4_airsFor_1 : decode cX4_airsFor 1 = .ok (.istore_n 3, 1) := by decide +kernel
theorem dX4_airsFor_2 : decode cX4_airsFor 2 = .ok (.iconst 0, 1) := by decide +kernel
theorem dX4_airsFor_3 : decode cX4_airsFor 3 = .ok (.istore 4, 2) := by decide +kernel
theorem dX4_airsFor_5 : decode cX4_airsFor 5 = .ok (.iload 4, 2) := by decide +kernel
theorem dX4_airsFor_7 : decode cX4_airsFor 7 = .ok (.bipush 90, 2) := by decide +kernel
theorem dX4_airsFor_9 : decode cX4_airsFor 9 = .ok (.if_icmp .gt 32, 3) := by decide +kernel
theorem dX4_airsFor_12 : decode cX4_airsFor 12 = .ok (.aload_n 0, 1) := by decide +kernel
theorem dX4_airsFor_13 : decode cX4_airsFor 13 = .ok (.bipush 8, 2) := by decide +kernel
theorem dX4_airsFor_15 : decode cX4_airsFor 15 = .ok (.iload 4, 2) := by decide +kernel
theorem dX4_airsFor_17 : decode cX4_airsFor 17 = .ok (.invokevirtual 166, 3) := by decide +kernel
theorem dX4_airsFor_20 : decode cX4_airsFor 20 = .ok (.iconst 1, 1) := by decide +kernel
theorem dX4_airsFor_21 : decode cX4_airsFor 21 = .ok (.iload_n 1, 1) := by decide +kernel
theorem dX4_airsFor_22 : decode cX4_airsFor 22 = .ok (.invokevirtual 231, 3) := by decide +kernel
theorem dX4_airsFor_25 : decode cX4_airsFor 25 = .ok (.iload_n 2, 1) := by decide +kernel
theorem dX4_airsFor_26 : decode cX4_airsFor 26 = .ok (.invokevirtual 170, 3) := by decide +kernel
theorem dX4_airsFor_29 : decode cX4_airsFor 29 = .ok (.ifCond .eq 6, 3) := by decide +kernel
theorem dX4_airsFor_32 : decode cX4_airsFor 32 = .ok (.iinc 3 1, 3) := by decide +kernel
theorem dX4_airsFor_35 : decode cX4_airsFor 35 = .ok (.iinc 4 10, 3) := by decide +kernel
theorem dX4_airsFor_38 : decode cX4_airsFor 38 = .ok (.goto (-33), 3) := by decide +kernel
theorem dX4_airsFor_41 : decode cX4_airsFor 41 = .ok (.iload_n 3, 1) := by decide +kernel
theorem dX4_airsFor_42 : decode cX4_airsFor 42 = .ok (.ireturn, 1) := by decide +kernel
set_option maxRecDepth 20000 in
theorem ggX4_pairsThatNod_X1_at : GoodIn wsX4_pairsThatNod wsX1_at := goodIn_r _ [7, 8, 9, 179, 180] (by decide +kernel) (by decide +kernel)
set_option maxRecDepth 20000 in
theorem gX4_pairsThatNod_X1_at : GoodIn wsX4_pairsThatNod (wsV RX4 96 RX1 yX1_at wsX1_at) := goodIn_app (goodIn_of _ (by decide +kernel)) ggX4_pairsThatNod_X1_at
set_option maxRecDepth 20000 in
theorem ggX4_pairsThatNod_X4_isInRange : GoodIn wsX4_pairsThatNod wsX4_isInRange := goodIn_r _ [13, 14, 15, 16, 17, 12, 18] (by decide +kernel) (by decide +kernel)
set_option maxRecDepth 20000 in
theorem gX4_pairsThatNod_X4_isInRange : GoodIn wsX4_pairsThatNod (va_wsS RX4 234 yX4_isInRange wsX4_isInRange) := goodIn_app (goodIn_of _ (by decide +kernel)) ggX4_pairsThatNod_X4_isInRange
set_option maxRecDepth 20000 in
theorem ggX4_pairsThatNod_X4_freshWith : GoodIn wsX4_pairsThatNod wsX4_freshWith := goodIn_r _ [22, 23, 1, 24, 25, 26, 27, 28, 29, 30, 31, 32, 33, 34, 35, 36, 37, 38, 39, 40, 41, 42, 43, 44, 45, 46, 6, 47, 8, 9, 48, 49, 50, 51, 52, 53, 54, 55, 56, 57, 58, 59, 60, 61, 62, 63, 64, 65, 66, 67, 68, 69, 70, 71, 72, 73, 74, 75, 76, 4, 5, 7, 77, 78, 79, 80, 81, 82, 83, 153, 154, 155, 156, 157, 158, 159, 160, 161, 162, 163, 164, 165, 166, 167, 168, 169, 170, 171, 172, 173, 174, 175, 176, 177, 178, 179, 180, 181, 182, 183] (by decide +kernel) (by decide +kernel)
set_option maxRecDepth 20000 in
theorem gX4_pairsThatNod_X4_freshWith : GoodIn wsX4_pairsThatNod (wsV RX4 166 RX4 yX4_freshWith wsX4_freshWith) := goodIn_app (goodIn_of _ (by decide +kernel)) ggX4_pairsThatNod_X4_freshWith
set_option maxRecDepth 20000 in
theorem ggX4_pairsThatNod_X0_with : GoodIn wsX4_pairsThatNod wsX0_with := goodIn_r _ [87, 29, 56, 57, 58, 6, 59, 8, 9, 161, 162, 163, 164, 165, 166, 167, 168, 169, 170, 171, 172, 173, 174, 175, 176, 177, 178, 179, 180] (by decide +kernel) (by decide +kernel)
set_option maxRecDepth 20000 in
theorem gX4_pairsThatNod_X0_with : GoodIn wsX4_pairsThatNod (wsV RX4 231 RX0 yX0_with wsX0_with) := goodIn_app (goodIn_of _ (by decide +kernel)) ggX4_pairsThatNod_X0_with
set_option maxRecDepth 20000 in
theorem ggX4_pairsThatNod_X0_nodsWithin : GoodIn wsX4_pairsThatNod wsX0_nodsWithin := goodIn_r _ [91, 40, 92, 93, 94, 27, 95, 35, 37, 38, 29, 33, 34, 41, 82, 81, 39, 96, 97, 98, 99, 42, 30, 76, 4, 5, 6, 7, 8, 9, 100, 101, 102, 63, 103, 65, 66, 67, 104, 105, 106, 107, 108, 109, 110, 111, 112, 113, 114, 50, 115, 116, 49, 51, 117, 118, 119, 120, 121, 122, 123, 124, 31, 32, 125, 126, 127, 128, 129, 130, 131, 132, 77, 78, 79, 80, 83, 133, 134, 135, 136, 36, 137, 138, 139, 140, 43, 141, 142, 143, 144, 145, 146, 147, 148, 149, 150, 151, 152, 161, 162, 163, 164, 165, 166, 167, 168, 169, 170, 171, 172, 173, 174, 175, 176, 177, 178, 179, 180, 181, 182, 183] (by decide +kernel) (by decide +kernel)
set_option maxRecDepth 20000 in
theorem gX4_pairsThatNod_X0_nodsWithin : GoodIn wsX4_pairsThatNod (wsV RX4 170 RX0 yX0_nodsWithin wsX0_nodsWithin) := goodIn_app (goodIn_of _ (by decide +kernel)) ggX4_pairsThatNod_X0_nodsWithin
theorem dX4_pairsThatNod_0 : decode cX4_pairsThatNod 0 = .ok (.iconst 0, 1) := by decide +kernel
theorem dX4_pairsThatNod_1 : decode cX4_pairsThatNod 1 = .ok (.istore_n 3, 1) := by decide +kernel
theorem dX4_pairsThatNod_2 : decode cX4_pairsThatNod 2 = .ok (.iload_n 2, 1) := by decide +kernel
theorem dX4_pairsThatNod_3 : decode cX4_pairsThatNod 3 = .ok (.ineg, 1) := by decide +kernel
theorem dX4_pairsThatNod_4 : decode cX4_pairsThatNod 4 = .ok (.istore 4, 2) := by decide +kernel
theorem dX4_pairsThatNod_6 : decode cX4_pairsThatNod 6 = .ok (.iload 4, 2) := by decide +kernel
theorem dX4_pairsThatNod_8 : decode cX4_pairsThatNod 8 = .ok (.iload_n 2, 1) := by decide +kernel
theorem dX4_pairsThatNod_9 : decode cX4_pairsThatNod 9 = .ok (.if_icmp .gt 98, 3) := by decide +kernel
theorem dX4_pairsThatNod_12 : decode cX4_pairsThatNod 12 = .ok (.iload_n 2, 1) := by decide +kernel
theorem dX4_pairsThatNod_13 : decode cX4_pairsThatNod 13 = .ok (.ineg, 1) := by decide +kernel
theorem dX4_pairsThatNod_14 : decode cX4_pairsThatNod 14 = .ok (.istore 5, 2) := by decide +kernel
theorem dX4_pairsThatNod_16 : decode cX4_pairsThatNod 16 = .ok (.iload 5, 2) := by decide +kernel
theorem dX4_pairsThatNod_18 : decode cX4_pairsThatNod 18 = .ok (.iload_n 2, 1) := by decide +kernel
theorem dX4_pairsThatNod_19 : decode cX4_pairsThatNod 19 = .ok (.if_icmp .gt 82, 3) := by decide +kernel
theorem dX4_pairsThatNod_22 : decode cX4_pairsThatNod 22 = .ok (.aload_n 0, 1) := by decide +kernel
theorem dX4_pairsThatNod_23 : decode cX4_pairsThatNod 23 = .ok (.getfield 10, 3) := by decide +kernel
theorem dX4_pairsThatNod_26 : decode cX4_pairsThatNod 26 = .ok (.getfield 93, 3) := by decide +kernel
theorem dX4_pairsThatNod_29 : decode cX4_pairsThatNod 29 = .ok (.iconst 1, 1) := by decide +kernel
theorem dX4_pairsThatNod_30 : decode cX4_pairsThatNod 30 = .ok (.invokevirtual 96, 3) := by decide +kernel
theorem dX4_pairsThatNod_33 : decode cX4_pairsThatNod 33 = .ok (.iload 4, 2) := by decide +kernel
theorem dX4_pairsThatNod_35 : decode cX4_pairsThatNod 35 = .ok (.iadd, 1) := by decide +kernel
theorem dX4_pairsThatNod_36 : decode cX4_pairsThatNod 36 = .ok (.istore 6, 2) := by decide +kernel
theorem dX4_pairsThatNod_38 : decode cX4_pairsThatNod 38 = .ok (.aload_n 0, 1) := by decide +kernel
theorem dX4_pairsThatNod_39 : decode cX4_pairsThatNod 39 = .ok (.getfield 10, 3) := by decide +kernel
theorem dX4_pairsThatNod_42 : decode cX4_pairsThatNod 42 = .ok (.getfield 93, 3) := by decide +kernel
theorem dX4_pairsThatNod_45 : decode cX4_pairsThatNod 45 = .ok (.iconst 2, 1) := by decide +kernel
theorem dX4_pairsThatNod_46 : decode cX4_pairsThatNod 46 = .ok (.invokevirtual 96, 3) := by decide +kernel
theorem dX4_pairsThatNod_49 : decode cX4_pairsThatNod 49 = .ok (.iload 5, 2) := by decide +kernel
theorem dX4_pairsThatNod_51 : decode cX4_pairsThatNod 51 = .ok (.iadd, 1) := by decide +kernel
theorem dX4_pairsThatNod_52 : decode cX4_pairsThatNod 52 = .ok (.istore 7, 2) := by decide +kernel
theorem dX4_pairsThatNod_54 : decode cX4_pairsThatNod 54 = .ok (.iconst 1, 1) := by decide +kernel
theorem dX4_pairsThatNod_55 : decode cX4_pairsThatNod 55 = .ok (.iload 6, 2) := by decide +kernel
theorem dX4_pairsThatNod_57 : decode cX4_pairsThatNod 57 = .ok (.invokestatic 234, 3) := by decide +kernel
theorem dX4_pairsThatNod_60 : decode cX4_pairsThatNod 60 = .ok (.ifCond .eq 35, 3) := by decide +kernel
theorem dX4_pairsThatNod_63 : decode cX4_pairsThatNod 63 = .ok (.iconst 2, 1) := by decide +kernel
theorem dX4_pairsThatNod_64 : decode cX4_pairsThatNod 64 = .ok (.iload 7, 2) := by decide +kernel
theorem dX4_pairsThatNod_66 : decode cX4_pairsThatNod 66 = .ok (.invokestatic 234, 3) := by decide +kernel
theorem dX4_pairsThatNod_69 : decode cX4_pairsThatNod 69 = .ok (.ifCond .eq 26, 3) := by decide +kernel
theorem dX4_pairsThatNod_72 : decode cX4_pairsThatNod 72 = .ok (.aload_n 0, 1) := by decide +kernel
theorem dX4_pairsThatNod_73 : decode cX4_pairsThatNod 73 = .ok (.iconst 1, 1) := by decide +kernel
theorem dX4_pairsThatNod_74 : decode cX4_pairsThatNod 74 = .ok (.iload 6, 2) := by decide +kernel
theorem dX4_pairsThatNod_76 : decode cX4_pairsThatNod 76 = .ok (.invokevirtual 166, 3) := by decide +kernel
theorem dX4_pairsThatNod_79 : decode cX4_pairsThatNod 79 = .ok (.iconst 2, 1) := by decide +kernel
theorem dX4_pairsThatNod_80 : decode cX4_pairsThatNod 80 = .ok (.iload 7, 2) := by decide +kernel
theorem dX4_pairsThatNod_82 : decode cX4_pairsThatNod 82 = .ok (.invokevirtual 231, 3) := by decide +kernel
theorem dX4_pairsThatNod_85 : decode cX4_pairsThatNod 85 = .ok (.iload_n 1, 1) := by decide +kernel
theorem dX4_pairsThatNod_86 : decode cX4_pairsThatNod 86 = .ok (.invokevirtual 170, 3) := by decide +kernel
theorem dX4_pairsThatNod_89 : decode cX4_pairsThatNod 89 = .ok (.ifCond .eq 6, 3) := by decide +kernel
theorem dX4_pairsThatNod_92 : decode cX4_pairsThatNod 92 = .ok (.iinc 3 1, 3) := by decide +kernel
theorem dX4_pairsThatNod_95 : decode cX4_pairsThatNod 95 = .ok (.iinc 5 1, 3) := by decide +kernel
theorem dX4_pairsThatNod_98 : decode cX4_pairsThatNod 98 = .ok (.goto (-82), 3) := by decide +kernel
theorem dX4_pairsThatNod_101 : decode cX4_pairsThatNod 101 = .ok (.iinc 4 1, 3) := by decide +kernel
theorem dX4_pairsThatNod_104 : decode cX4_pairsThatNod 104 = .ok (.goto (-98), 3) := by decide +kernel
theorem dX4_pairsThatNod_107 : decode cX4_pairsThatNod 107 = .ok (.iload_n 3, 1) := by decide +kernel
theorem dX4_pairsThatNod_108 : decode cX4_pairsThatNod 108 = .ok (.ireturn, 1) := by decide +kernel
set_option maxRecDepth 20000 in
theorem ggX4_judged_X0_gaps : GoodIn wsX4_judged wsX0_gaps := goodIn_r _ [14, 15, 16, 17, 5, 18, 19, 20, 21, 22, 23, 24, 45, 46, 47, 48, 49, 50, 51, 52, 53, 54, 55, 56, 57, 58, 59, 60, 61, 62, 63, 64] (by decide +kernel) (by decide +kernel)
set_option maxRecDepth 20000 in
theorem gX4_judged_X0_gaps : GoodIn wsX4_judged (wsV RX4 193 RX0 yX0_gaps wsX0_gaps) := goodIn_app (goodIn_of _ (by decide +kernel)) ggX4_judged_X0_gaps
set_option maxRecDepth 20000 in
theorem ggX4_judged_X1_size : GoodIn wsX4_judged wsX1_size := goodIn_r _ [23, 24, 63, 64] (by decide +kernel) (by decide +kernel)
set_option maxRecDepth 20000 in
theorem gX4_judged_X1_size : GoodIn wsX4_judged (wsV RX4 54 RX1 yX1_size wsX1_size) := goodIn_app (goodIn_of _ (by decide +kernel)) ggX4_judged_X1_size
set_option maxRecDepth 20000 in
theorem ggX4_judged_X1_at : GoodIn wsX4_judged wsX1_at := goodIn_r _ [29, 24, 30, 63, 64] (by decide +kernel) (by decide +kernel)
set_option maxRecDepth 20000 in
theorem gX4_judged_X1_at : GoodIn wsX4_judged (wsV RX4 96 RX1 yX1_at wsX1_at) := goodIn_app (goodIn_of _ (by decide +kernel)) ggX4_judged_X1_at
set_option maxRecDepth 20000 in
theorem ggX4_judged_X0_gapAt : GoodIn wsX4_judged wsX0_gapAt := goodIn_r _ [34, 15, 35, 11, 12, 13, 14, 16, 17, 5, 18, 19, 20, 21, 22, 23, 24, 36, 27, 28, 29, 30, 45, 46, 47, 48, 49, 50, 51, 52, 53, 54, 55, 56, 57, 58, 59, 60, 61, 62, 63, 64] (by decide +kernel) (by decide +kernel)
set_option maxRecDepth 20000 in
theorem gX4_judged_X0_gapAt : GoodIn wsX4_judged (wsV RX4 196 RX0 yX0_gapAt wsX0_gapAt) := goodIn_app (goodIn_of _ (by decide +kernel)) ggX4_judged_X0_gapAt
theorem dX4_judged_0 : decode cX4_judged 0 = .ok (.aload_n 0, 1) := by decide +kernel
theorem dX4_judged_1 : decode cX4_judged 1 = .ok (.getfield 10, 3) := by decide +kernel
theorem dX4_judged_4 : decode cX4_judged 4 = .ok (.invokevirtual 193, 3) := by decide +kernel
theorem dX4_judged_7 : decode cX4_judged 7 = .ok (.istore_n 2, 1) := by decide +kernel
theorem dX4_judged_8 : decode cX4_judged 8 = .ok (.aload_n 0, 1) := by decide +kernel
theorem dX4_judged_9 : decode cX4_judged 9 = .ok (.getfield 37, 3) := by decide +kernel
theorem dX4_judged_12 : decode cX4_judged 12 = .ok (.invokevirtual 54, 3) := by decide +kernel
theorem dX4_judged_15 : decode cX4_judged 15 = .ok (.iload_n 2, 1) := by decide +kernel
theorem dX4_judged_16 : decode cX4_judged 16 = .ok (.invokestatic 113, 3) := by decide +kernel
theorem dX4_judged_19 : decode cX4_judged 19 = .ok (.istore_n 3, 1) := by decide +kernel
theorem dX4_judged_20 : decode cX4_judged 20 = .ok (.iconst 0, 1) := by decide +kernel
theorem dX4_judged_21 : decode cX4_judged 21 = .ok (.istore 4, 2) := by decide +kernel
theorem dX4_judged_23 : decode cX4_judged 23 = .ok (.iload 4, 2) := by decide +kernel
theorem dX4_judged_25 : decode cX4_judged 25 = .ok (.iload_n 3, 1) := by decide +kernel
theorem dX4_judged_26 : decode cX4_judged 26 = .ok (.if_icmp .ge 38, 3) := by decide +kernel
theorem dX4_judged_29 : decode cX4_judged 29 = .ok (.aload_n 0, 1) := by decide +kernel
theorem dX4_judged_30 : decode cX4_judged 30 = .ok (.getfield 37, 3) := by decide +kernel
theorem dX4_judged_33 : decode cX4_judged 33 = .ok (.iload 4, 2) := by decide +kernel
theorem dX4_judged_35 : decode cX4_judged 35 = .ok (.invokevirtual 96, 3) := by decide +kernel
theorem dX4_judged_38 : decode cX4_judged 38 = .ok (.aload_n 0, 1) := by decide +kernel
theorem dX4_judged_39 : decode cX4_judged 39 = .ok (.getfield 10, 3) := by decide +kernel
theorem dX4_judged_42 : decode cX4_judged 42 = .ok (.iload 4, 2) := by decide +kernel
theorem dX4_judged_44 : decode cX4_judged 44 = .ok (.invokevirtual 196, 3) := by decide +kernel
theorem dX4_judged_47 : decode cX4_judged 47 = .ok (.isub, 1) := by decide +kernel
theorem dX4_judged_48 : decode cX4_judged 48 = .ok (.invokestatic 199, 3) := by decide +kernel
theorem dX4_judged_51 : decode cX4_judged 51 = .ok (.iload_n 1, 1) := by decide +kernel
theorem dX4_judged_52 : decode cX4_judged 52 = .ok (.if_icmp .le 6, 3) := by decide +kernel
theorem dX4_judged_55 : decode cX4_judged 55 = .ok (.iload 4, 2) := by decide +kernel
theorem dX4_judged_57 : decode cX4_judged 57 = .ok (.ireturn, 1) := by decide +kernel
theorem dX4_judged_58 : decode cX4_judged 58 = .ok (.iinc 4 1, 3) := by decide +kernel
theorem dX4_judged_61 : decode cX4_judged 61 = .ok (.goto (-38), 3) := by decide +kernel
theorem dX4_judged_64 : decode cX4_judged 64 = .ok (.aload_n 0, 1) := by decide +kernel
theorem dX4_judged_65 : decode cX4_judged 65 = .ok (.getfield 37, 3) := by decide +kernel
theorem dX4_judged_68 : decode cX4_judged 68 = .ok (.invokevirtual 54, 3) := by decide +kernel
theorem dX4_judged_71 : decode cX4_judged 71 = .ok (.iload_n 2, 1) := by decide +kernel
theorem dX4_judged_72 : decode cX4_judged 72 = .ok (.if_icmp .ne 8, 3) := by decide +kernel
theorem dX4_judged_75 : decode cX4_judged 75 = .ok (.bipush (-9), 2) := by decide +kernel
theorem dX4_judged_77 : decode cX4_judged 77 = .ok (.goto 4, 3) := by decide +kernel
theorem dX4_judged_80 : decode cX4_judged 80 = .ok (.iload_n 3, 1) := by decide +kernel
theorem dX4_judged_81 : decode cX4_judged 81 = .ok (.ireturn, 1) := by decide +kernel
set_option maxRecDepth 20000 in
theorem ggX4_fitsTheRow_X4_freshWith : GoodIn wsX4_fitsTheRow wsX4_freshWith := goodIn_r _ [10, 11, 12, 13, 14, 15, 16, 17, 18, 19, 20, 21, 22, 23, 24, 25, 26, 27, 28, 29, 30, 31, 32, 33, 34, 35, 36, 37, 38, 39, 40, 41, 4, 42, 43, 44, 45, 46, 47, 48, 49, 50, 51, 52, 53, 54, 55, 56, 57, 58, 59, 60, 61, 62, 63, 64, 65, 66, 67, 68, 69, 70, 71, 72, 73, 74, 75, 76, 77, 151, 152, 153, 154, 155, 156, 157, 158, 159, 160, 161, 162, 163, 164, 165, 166, 167, 168, 169, 170, 171, 172, 173, 174, 175, 176, 177, 178, 179, 180, 181] (by decide +kernel) (by decide +kernel)
set_option maxRecDepth 20000 in
theorem gX4_fitsTheRow_X4_freshWith : GoodIn wsX4_fitsTheRow (wsV RX4 166 RX4 yX4_freshWith wsX4_freshWith) := goodIn_app (goodIn_of _ (by decide +kernel)) ggX4_fitsTheRow_X4_freshWith
set_option maxRecDepth 20000 in
theorem ggX4_fitsTheRow_X0_gaps : GoodIn wsX4_fitsTheRow wsX0_gaps := goodIn_r _ [81, 20, 82, 83, 4, 84, 85, 86, 87, 36, 88, 38, 159, 160, 161, 162, 163, 164, 165, 166, 167, 168, 169, 170, 171, 172, 173, 174, 175, 176, 177, 178] (by decide +kernel) (by decide +kernel)
set_option maxRecDepth 20000 in
theorem gX4_fitsTheRow_X0_gaps : GoodIn wsX4_fitsTheRow (wsV RX4 193 RX0 yX0_gaps wsX0_gaps) := goodIn_app (goodIn_of _ (by decide +kernel)) ggX4_fitsTheRow_X0_gaps
set_option maxRecDepth 20000 in
theorem ggX4_fitsTheRow_X1_size : GoodIn wsX4_fitsTheRow wsX1_size := goodIn_r _ [88, 38, 177, 178] (by decide +kernel) (by decide +kernel)
set_option maxRecDepth 20000 in
theorem gX4_fitsTheRow_X1_size : GoodIn wsX4_fitsTheRow (wsV RX4 54 RX1 yX1_size wsX1_size) := goodIn_app (goodIn_of _ (by decide +kernel)) ggX4_fitsTheRow_X1_size
set_option maxRecDepth 20000 in
theorem ggX4_fitsTheRow_X0_tenth : GoodIn wsX4_fitsTheRow wsX0_tenth := goodIn_r _ [93, 24, 26, 27, 18, 22, 23, 30, 76, 75, 28, 94, 95, 96, 16, 97, 31, 19, 67, 68, 69, 36, 70, 38, 39, 98, 99, 100, 54, 101, 56, 57, 58, 102, 86, 87, 88, 103, 104, 105, 106, 107, 82, 83, 4, 84, 108, 41, 42, 109, 110, 111, 112, 113, 114, 115, 116, 29, 20, 21, 117, 118, 119, 120, 121, 122, 123, 124, 71, 72, 73, 74, 77, 125, 126, 127, 128, 25, 129, 130, 131, 132, 32, 133, 134, 135, 136, 137, 138, 139, 140, 141, 142, 143, 144, 159, 160, 161, 162, 163, 164, 165, 166, 167, 168, 169, 170, 171, 172, 173, 174, 175, 176, 177, 178, 179, 180, 181] (by decide +kernel) (by decide +kernel)
set_option maxRecDepth 20000 in
theorem gX4_fitsTheRow_X0_tenth : GoodIn wsX4_fitsTheRow (wsV RX4 237 RX0 yX0_tenth wsX0_tenth) := goodIn_app (goodIn_of _ (by decide +kernel)) ggX4_fitsTheRow_X0_tenth
set_option maxRecDepth 20000 in
theorem ggX4_fitsTheRow_X1_at : GoodIn wsX4_fitsTheRow wsX1_at := goodIn_r _ [70, 38, 39, 177, 178] (by decide +kernel) (by decide +kernel)
set_option maxRecDepth 20000 in
theorem gX4_fitsTheRow_X1_at : GoodIn wsX4_fitsTheRow (wsV RX4 96 RX1 yX1_at wsX1_at) := goodIn_app (goodIn_of _ (by decide +kernel)) ggX4_fitsTheRow_X1_at
set_option maxRecDepth 20000 in
theorem ggX4_fitsTheRow_X0_gapAt : GoodIn wsX4_fitsTheRow wsX0_gapAt := goodIn_r _ [149, 20, 150, 79, 80, 16, 81, 82, 83, 4, 84, 85, 86, 87, 36, 88, 38, 67, 68, 69, 70, 39, 159, 160, 161, 162, 163, 164, 165, 166, 167, 168, 169, 170, 171, 172, 173, 174, 175, 176, 177, 178] (by decide +kernel) (by decide +kernel)
set_option maxRecDepth 20000 in
theorem gX4_fitsTheRow_X0_gapAt : GoodIn wsX4_fitsTheRow (wsV RX4 196 RX0 yX0_gapAt wsX0_gapAt) := goodIn_app (goodIn_of _ (by decide +kernel)) ggX4_fitsTheRow_X0_gapAt
theorem dX4_fitsTheRow_0 : decode cX4_fitsTheRow 0 = .ok (.aload_n 0, 1) := by decide +kernel
theorem dX4_fitsTheRow_1 : decode cX4_fitsTheRow 1 = .ok (.bipush 8, 2) := by decide +kernel
theorem dX4_fitsTheRow_3 : decode cX4_fitsTheRow 3 = .ok (.iload_n 1, 1) := by decide +kernel
theorem dX4_fitsTheRow_4 : decode cX4_fitsTheRow 4 = .ok (.invokevirtual 166, 3) := by decide +kernel
theorem dX4_fitsTheRow_7 : decode cX4_fitsTheRow 7 = .ok (.astore_n 3, 1) := by decide +kernel
theorem dX4_fitsTheRow_8 : decode cX4_fitsTheRow 8 = .ok (.iconst 0, 1) := by decide +kernel
theorem dX4_fitsTheRow_9 : decode cX4_fitsTheRow 9 = .ok (.istore 4, 2) := by decide +kernel
theorem dX4_fitsTheRow_11 : decode cX4_fitsTheRow 11 = .ok (.iload 4, 2) := by decide +kernel
theorem dX4_fitsTheRow_13 : decode cX4_fitsTheRow 13 = .ok (.sipush 3000, 3) := by decide +kernel
theorem dX4_fitsTheRow_16 : decode cX4_fitsTheRow 16 = .ok (.if_icmp .ge 27, 3) := by decide +kernel
theorem dX4_fitsTheRow_19 : decode cX4_fitsTheRow 19 = .ok (.aload_n 3, 1) := by decide +kernel
theorem dX4_fitsTheRow_20 : decode cX4_fitsTheRow 20 = .ok (.invokevirtual 193, 3) := by decide +kernel
theorem dX4_fitsTheRow_23 : decode cX4_fitsTheRow 23 = .ok (.aload_n 0, 1) := by decide +kernel
theorem dX4_fitsTheRow_24 : decode cX4_fitsTheRow 24 = .ok (.getfield 37, 3) := by decide +kernel
theorem dX4_fitsTheRow_27 : decode cX4_fitsTheRow 27 = .ok (.invokevirtual 54, 3) := by decide +kernel
theorem dX4_fitsTheRow_30 : decode cX4_fitsTheRow 30 = .ok (.if_icmp .ge 13, 3) := by decide +kernel
theorem dX4_fitsTheRow_33 : decode cX4_fitsTheRow 33 = .ok (.aload_n 3, 1) := by decide +kernel
theorem dX4_fitsTheRow_34 : decode cX4_fitsTheRow 34 = .ok (.invokevirtual 237, 3) := by decide +kernel
theorem dX4_fitsTheRow_37 : decode cX4_fitsTheRow 37 = .ok (.iinc 4 1, 3) := by decide +kernel
theorem dX4_fitsTheRow_40 : decode cX4_fitsTheRow 40 = .ok (.goto (-29), 3) := by decide +kernel
theorem dX4_fitsTheRow_43 : decode cX4_fitsTheRow 43 = .ok (.aload_n 3, 1) := by decide +kernel
theorem dX4_fitsTheRow_44 : decode cX4_fitsTheRow 44 = .ok (.invokevirtual 193, 3) := by decide +kernel
theorem dX4_fitsTheRow_47 : decode cX4_fitsTheRow 47 = .ok (.aload_n 0, 1) := by decide +kernel
theorem dX4_fitsTheRow_48 : decode cX4_fitsTheRow 48 = .ok (.getfield 37, 3) := by decide +kernel
theorem dX4_fitsTheRow_51 : decode cX4_fitsTheRow 51 = .ok (.invokevirtual 54, 3) := by decide +kernel
theorem dX4_fitsTheRow_54 : decode cX4_fitsTheRow 54 = .ok (.if_icmp .ge 5, 3) := by decide +kernel
theorem dX4_fitsTheRow_57 : decode cX4_fitsTheRow 57 = .ok (.iconst 0, 1) := by decide +kernel
theorem dX4_fitsTheRow_58 : decode cX4_fitsTheRow 58 = .ok (.ireturn, 1) := by decide +kernel
theorem dX4_fitsTheRow_59 : decode cX4_fitsTheRow 59 = .ok (.iconst 0, 1) := by decide +kernel
theorem dX4_fitsTheRow_60 : decode cX4_fitsTheRow 60 = .ok (.istore 4, 2) := by decide +kernel
theorem dX4_fitsTheRow_62 : decode cX4_fitsTheRow 62 = .ok (.iload 4, 2) := by decide +kernel
theorem dX4_fitsTheRow_64 : decode cX4_fitsTheRow 64 = .ok (.aload_n 0, 1) := by decide +kernel
theorem dX4_fitsTheRow_65 : decode cX4_fitsTheRow 65 = .ok (.getfield 37, 3) := by decide +kernel
theorem dX4_fitsTheRow_68 : decode cX4_fitsTheRow 68 = .ok (.invokevirtual 54, 3) := by decide +kernel
theorem dX4_fitsTheRow_71 : decode cX4_fitsTheRow 71 = .ok (.if_icmp .ge 34, 3) := by decide +kernel
theorem dX4_fitsTheRow_74 : decode cX4_fitsTheRow 74 = .ok (.aload_n 0, 1) := by decide +kernel
theorem dX4_fitsTheRow_75 : decode cX4_fitsTheRow 75 = .ok (.getfield 37, 3) := by decide +kernel
theorem dX4_fitsTheRow_78 : decode cX4_fitsTheRow 78 = .ok (.iload 4, 2) := by decide +kernel
theorem dX4_fitsTheRow_80 : decode cX4_fitsTheRow 80 = .ok (.invokevirtual 96, 3) := by decide +kernel
theorem dX4_fitsTheRow_83 : decode cX4_fitsTheRow 83 = .ok (.aload_n 3, 1) := by decide +kernel
theorem dX4_fitsTheRow_84 : decode cX4_fitsTheRow 84 = .ok (.iload 4, 2) := by decide +kernel
theorem dX4_fitsTheRow_86 : decode cX4_fitsTheRow 86 = .ok (.invokevirtual 196, 3) := by decide +kernel
theorem dX4_fitsTheRow_89 : decode cX4_fitsTheRow 89 = .ok (.isub, 1) := by decide +kernel
theorem dX4_fitsTheRow_90 : decode cX4_fitsTheRow 90 = .ok (.invokestatic 199, 3) := by decide +kernel
theorem dX4_fitsTheRow_93 : decode cX4_fitsTheRow 93 = .ok (.iload_n 2, 1) := by decide +kernel
theorem dX4_fitsTheRow_94 : decode cX4_fitsTheRow 94 = .ok (.if_icmp .le 5, 3) := by decide +kernel
theorem dX4_fitsTheRow_97 : decode cX4_fitsTheRow 97 = .ok (.iconst 0, 1) := by decide +kernel
theorem dX4_fitsTheRow_98 : decode cX4_fitsTheRow 98 = .ok (.ireturn, 1) := by decide +kernel
theorem dX4_fitsTheRow_99 : decode cX4_fitsTheRow 99 = .ok (.iinc 4 1, 3) := by decide +kernel
theorem dX4_fitsTheRow_102 : decode cX4_fitsTheRow 102 = .ok (.goto (-40), 3) := by decide +kernel
theorem dX4_fitsTheRow_105 : decode cX4_fitsTheRow 105 = .ok (.iconst 1, 1) := by decide +kernel
theorem dX4_fitsTheRow_106 : decode cX4_fitsTheRow 106 = .ok (.ireturn, 1) := by decide +kernel
set_option maxRecDepth 20000 in
theorem ggX4_sortBits_X4_freshWith : GoodIn wsX4_sortBits wsX4_freshWith := goodIn_r _ [5, 6, 7, 8, 9, 10, 11, 12, 13, 14, 15, 16, 17, 18, 19, 20, 21, 22, 23, 24, 25, 26, 27, 28, 29, 30, 31, 32, 33, 34, 35, 36, 37, 38, 39, 40, 41, 42, 43, 44, 45, 46, 47, 48, 49, 50, 51, 52, 53, 54, 55, 56, 57, 58, 59, 60, 61, 62, 63, 64, 65, 66, 67, 68, 69, 70, 71, 72, 73, 143, 144, 145, 146, 147, 148, 149, 150, 151, 152, 153, 154, 155, 156, 157, 158, 159, 160, 161, 162, 163, 164, 165, 166, 167, 168, 169, 170, 171, 172, 173] (by decide +kernel) (by decide +kernel)
set_option maxRecDepth 20000 in
theorem gX4_sortBits_X4_freshWith : GoodIn wsX4_sortBits (wsV RX4 166 RX4 yX4_freshWith wsX4_freshWith) := goodIn_app (goodIn_of _ (by decide +kernel)) ggX4_sortBits_X4_freshWith
set_option maxRecDepth 20000 in
theorem ggX4_sortBits_X0_with : GoodIn wsX4_sortBits wsX0_with := goodIn_r _ [77, 13, 43, 44, 45, 31, 46, 33, 34, 151, 152, 153, 154, 155, 156, 157, 158, 159, 160, 161, 162, 163, 164, 165, 166, 167, 168, 169, 170] (by decide +kernel) (by decide +kernel)
set_option maxRecDepth 20000 in
theorem gX4_sortBits_X0_with : GoodIn wsX4_sortBits (wsV RX4 231 RX0 yX0_with wsX0_with) := goodIn_app (goodIn_of _ (by decide +kernel)) ggX4_sortBits_X0_with
set_option maxRecDepth 20000 in
theorem ggX4_sortBits_X0_nodsIn : GoodIn wsX4_sortBits wsX0_nodsIn := goodIn_r _ [81, 24, 82, 83, 84, 11, 85, 19, 21, 22, 13, 17, 18, 25, 72, 71, 23, 86, 87, 88, 89, 26, 14, 63, 64, 65, 31, 66, 33, 34, 90, 91, 92, 50, 93, 52, 53, 54, 94, 95, 96, 97, 98, 99, 100, 101, 102, 103, 104, 37, 105, 106, 36, 38, 107, 108, 109, 110, 111, 112, 113, 114, 15, 16, 115, 116, 117, 118, 119, 120, 121, 122, 67, 68, 69, 70, 73, 123, 124, 125, 126, 20, 127, 128, 129, 130, 27, 131, 132, 133, 134, 135, 136, 137, 138, 139, 140, 141, 142, 151, 152, 153, 154, 155, 156, 157, 158, 159, 160, 161, 162, 163, 164, 165, 166, 167, 168, 169, 170, 171, 172, 173] (by decide +kernel) (by decide +kernel)
set_option maxRecDepth 20000 in
theorem gX4_sortBits_X0_nodsIn : GoodIn wsX4_sortBits (wsV RX4 119 RX0 yX0_nodsIn wsX0_nodsIn) := goodIn_app (goodIn_of _ (by decide +kernel)) ggX4_sortBits_X0_nodsIn
theorem dX4_sortBits_0 : decode cX4_sortBits 0 = .ok (.iconst 0, 1) := by decide +kernel
theorem dX4_sortBits_1 : decode cX4_sortBits 1 = .ok (.istore_n 3, 1) := by decide +kernel
theorem dX4_sortBits_2 : decode cX4_sortBits 2 = .ok (.iconst 1, 1) := by decide +kernel
theorem dX4_sortBits_3 : decode cX4_sortBits 3 = .ok (.istore 4, 2) := by decide +kernel
theorem dX4_sortBits_5 : decode cX4_sortBits 5 = .ok (.iload 4, 2) := by decide +kernel
theorem dX4_sortBits_7 : decode cX4_sortBits 7 = .ok (.bipush 9, 2) := by decide +kernel
theorem dX4_sortBits_9 : decode cX4_sortBits 9 = .ok (.if_icmp .gt 96, 3) := by decide +kernel
theorem dX4_sortBits_12 : decode cX4_sortBits 12 = .ok (.iconst 1, 1) := by decide +kernel
theorem dX4_sortBits_13 : decode cX4_sortBits 13 = .ok (.istore 5, 2) := by decide +kernel
theorem dX4_sortBits_15 : decode cX4_sortBits 15 = .ok (.sipush 10000, 3) := by decide +kernel
theorem dX4_sortBits_18 : decode cX4_sortBits 18 = .ok (.istore 6, 2) := by decide +kernel
theorem dX4_sortBits_20 : decode cX4_sortBits 20 = .ok (.iload 6, 2) := by decide +kernel
theorem dX4_sortBits_22 : decode cX4_sortBits 22 = .ok (.iconst 1, 1) := by decide +kernel
theorem dX4_sortBits_23 : decode cX4_sortBits 23 = .ok (.if_icmp .lt 64, 3) := by decide +kernel
theorem dX4_sortBits_26 : decode cX4_sortBits 26 = .ok (.iload 5, 2) := by decide +kernel
theorem dX4_sortBits_28 : decode cX4_sortBits 28 = .ok (.ifCond .eq 59, 3) := by decide +kernel
theorem dX4_sortBits_31 : decode cX4_sortBits 31 = .ok (.aload_n 0, 1) := by decide +kernel
theorem dX4_sortBits_32 : decode cX4_sortBits 32 = .ok (.iconst 3, 1) := by decide +kernel
theorem dX4_sortBits_33 : decode cX4_sortBits 33 = .ok (.iload 4, 2) := by decide +kernel
theorem dX4_sortBits_35 : decode cX4_sortBits 35 = .ok (.invokevirtual 166, 3) := by decide +kernel
theorem dX4_sortBits_38 : decode cX4_sortBits 38 = .ok (.bipush 8, 2) := by decide +kernel
theorem dX4_sortBits_40 : decode cX4_sortBits 40 = .ok (.iload_n 1, 1) := by decide +kernel
theorem dX4_sortBits_41 : decode cX4_sortBits 41 = .ok (.iload 6, 2) := by decide +kernel
theorem dX4_sortBits_43 : decode cX4_sortBits 43 = .ok (.idiv, 1) := by decide +kernel
theorem dX4_sortBits_44 : decode cX4_sortBits 44 = .ok (.bipush 100, 2) := by decide +kernel
theorem dX4_sortBits_46 : decode cX4_sortBits 46 = .ok (.irem, 1) := by decide +kernel
theorem dX4_sortBits_47 : decode cX4_sortBits 47 = .ok (.invokevirtual 231, 3) := by decide +kernel
theorem dX4_sortBits_50 : decode cX4_sortBits 50 = .ok (.astore 7, 2) := by decide +kernel
theorem dX4_sortBits_52 : decode cX4_sortBits 52 = .ok (.aload 7, 2) := by decide +kernel
theorem dX4_sortBits_54 : decode cX4_sortBits 54 = .ok (.sipush 1000, 3) := by decide +kernel
theorem dX4_sortBits_57 : decode cX4_sortBits 57 = .ok (.invokevirtual 119, 3) := by decide +kernel
theorem dX4_sortBits_60 : decode cX4_sortBits 60 = .ok (.iload_n 2, 1) := by decide +kernel
theorem dX4_sortBits_61 : decode cX4_sortBits 61 = .ok (.iload 6, 2) := by decide +kernel
theorem dX4_sortBits_63 : decode cX4_sortBits 63 = .ok (.idiv, 1) := by decide +kernel
theorem dX4_sortBits_64 : decode cX4_sortBits 64 = .ok (.bipush 100, 2) := by decide +kernel
theorem dX4_sortBits_66 : decode cX4_sortBits 66 = .ok (.irem, 1) := by decide +kernel
theorem dX4_sortBits_67 : decode cX4_sortBits 67 = .ok (.if_icmp .ne 7, 3) := by decide +kernel
theorem dX4_sortBits_70 : decode cX4_sortBits 70 = .ok (.iconst 1, 1) := by decide +kernel
theorem dX4_sortBits_71 : decode cX4_sortBits 71 = .ok (.goto 4, 3) := by decide +kernel
theorem dX4_sortBits_74 : decode cX4_sortBits 74 = .ok (.iconst 0, 1) := by decide +kernel
theorem dX4_sortBits_75 : decode cX4_sortBits 75 = .ok (.istore 5, 2) := by decide +kernel
theorem dX4_sortBits_77 : decode cX4_sortBits 77 = .ok (.iload 6, 2) := by decide +kernel
theorem dX4_sortBits_79 : decode cX4_sortBits 79 = .ok (.bipush 100, 2) := by decide +kernel
theorem dX4_sortBits_81 : decode cX4_sortBits 81 = .ok (.idiv, 1) := by decide +kernel
theorem dX4_sortBits_82 : decode cX4_sortBits 82 = .ok (.istore 6, 2) := by decide +kernel
theorem dX4_sortBits_84 : decode cX4_sortBits 84 = .ok (.goto (-64), 3) := by decide +kernel
theorem dX4_sortBits_87 : decode cX4_sortBits 87 = .ok (.iload 5, 2) := by decide +kernel
theorem dX4_sortBits_89 : decode cX4_sortBits 89 = .ok (.ifCond .eq 10, 3) := by decide +kernel
theorem dX4_sortBits_92 : decode cX4_sortBits 92 = .ok (.iload_n 3, 1) := by decide +kernel
theorem dX4_sortBits_93 : decode cX4_sortBits 93 = .ok (.iconst 1, 1) := by decide +kernel
theorem dX4_sortBits_94 : decode cX4_sortBits 94 = .ok (.iload 4, 2) := by decide +kernel
theorem dX4_sortBits_96 : decode cX4_sortBits 96 = .ok (.ishl, 1) := by decide +kernel
theorem dX4_sortBits_97 : decode cX4_sortBits 97 = .ok (.ior, 1) := by decide +kernel
theorem dX4_sortBits_98 : decode cX4_sortBits 98 = .ok (.istore_n 3, 1) := by decide +kernel
theorem dX4_sortBits_99 : decode cX4_sortBits 99 = .ok (.iinc 4 1, 3) := by decide +kernel
theorem dX4_sortBits_102 : decode cX4_sortBits 102 = .ok (.goto (-97), 3) := by decide +kernel
theorem dX4_sortBits_105 : decode cX4_sortBits 105 = .ok (.iload_n 3, 1) := by decide +kernel
theorem dX4_sortBits_106 : decode cX4_sortBits 106 = .ok (.ireturn, 1) := by decide +kernel
theorem dX4_commonDivisor_0 : decode cX4_commonDivisor 0 = .ok (.iload_n 0, 1) := by decide +kernel
theorem dX4_commonDivisor_1 : decode cX4_commonDivisor 1 = .ok (.istore_n 2, 1) := by decide +kernel
theorem dX4_commonDivisor_2 : decode cX4_commonDivisor 2 = .ok (.iload_n 1, 1) := by decide +kernel
theorem dX4_commonDivisor_3 : decode cX4_commonDivisor 3 = .ok (.istore_n 3, 1) := by decide +kernel
theorem dX4_commonDivisor_4 : decode cX4_commonDivisor 4 = .ok (.iconst 0, 1) := by decide +kernel
theorem dX4_commonDivisor_5 : decode cX4_commonDivisor 5 = .ok (.istore 4, 2) := by decide +kernel
theorem dX4_commonDivisor_7 : decode cX4_commonDivisor 7 = .ok (.iload 4, 2) := by decide +kernel
theorem dX4_commonDivisor_9 : decode cX4_commonDivisor 9 = .ok (.bipush 100, 2) := by decide +kernel
theorem dX4_commonDivisor_11 : decode cX4_commonDivisor 11 = .ok (.if_icmp .ge 23, 3) := by decide +kernel
theorem dX4_commonDivisor_14 : decode cX4_commonDivisor 14 = .ok (.iload_n 3, 1) := by decide +kernel
theorem dX4_commonDivisor_15 : decode cX4_commonDivisor 15 = .ok (.ifCond .eq 19, 3) := by decide +kernel
theorem dX4_commonDivisor_18 : decode cX4_commonDivisor 18 = .ok (.iload_n 2, 1) := by decide +kernel
theorem dX4_commonDivisor_19 : decode cX4_commonDivisor 19 = .ok (.iload_n 3, 1) := by decide +kernel
theorem dX4_commonDivisor_20 : decode cX4_commonDivisor 20 = .ok (.irem, 1) := by decide +kernel
theorem dX4_commonDivisor_21 : decode cX4_commonDivisor 21 = .ok (.istore 5, 2) := by decide +kernel
theorem dX4_commonDivisor_23 : decode cX4_commonDivisor 23 = .ok (.iload_n 3, 1) := by decide +kernel
theorem dX4_commonDivisor_24 : decode cX4_commonDivisor 24 = .ok (.istore_n 2, 1) := by decide +kernel
theorem dX4_commonDivisor_25 : decode cX4_commonDivisor 25 = .ok (.iload 5, 2) := by decide +kernel
theorem dX4_commonDivisor_27 : decode cX4_commonDivisor 27 = .ok (.istore_n 3, 1) := by decide +kernel
theorem dX4_commonDivisor_28 : decode cX4_commonDivisor 28 = .ok (.iinc 4 1, 3) := by decide +kernel
theorem dX4_commonDivisor_31 : decode cX4_commonDivisor 31 = .ok (.goto (-24), 3) := by decide +kernel
theorem dX4_commonDivisor_34 : decode cX4_commonDivisor 34 = .ok (.iload_n 2, 1) := by decide +kernel
theorem dX4_commonDivisor_35 : decode cX4_commonDivisor 35 = .ok (.ireturn, 1) := by decide +kernel
theorem dX4_numberIn_0 : decode cX4_numberIn 0 = .ok (.iload_n 1, 1) := by decide +kernel
theorem dX4_numberIn_1 : decode cX4_numberIn 1 = .ok (.ifCond .lt 15, 3) := by decide +kernel
theorem dX4_numberIn_4 : decode cX4_numberIn 4 = .ok (.iload_n 1, 1) := by decide +kernel
theorem dX4_numberIn_5 : decode cX4_numberIn 5 = .ok (.aload_n 0, 1) := by decide +kernel
theorem dX4_numberIn_6 : decode cX4_numberIn 6 = .ok (.arraylength, 1) := by decide +kernel
theorem dX4_numberIn_7 : decode cX4_numberIn 7 = .ok (.if_icmp .ge 9, 3) := by decide +kernel
theorem dX4_numberIn_10 : decode cX4_numberIn 10 = .ok (.aload_n 0, 1) := by decide +kernel
theorem dX4_numberIn_11 : decode cX4_numberIn 11 = .ok (.iload_n 1, 1) := by decide +kernel
theorem dX4_numberIn_12 : decode cX4_numberIn 12 = .ok (.iaload, 1) := by decide +kernel
theorem dX4_numberIn_13 : decode cX4_numberIn 13 = .ok (.goto 4, 3) := by decide +kernel
theorem dX4_numberIn_16 : decode cX4_numberIn 16 = .ok (.iconst 0, 1) := by decide +kernel
theorem dX4_numberIn_17 : decode cX4_numberIn 17 = .ok (.ireturn, 1) := by decide +kernel
set_option maxRecDepth 20000 in
theorem ggX4_isInRange_X4_numberIn : GoodIn wsX4_isInRange wsX4_numberIn := goodIn_r _ [6] (by decide +kernel) (by decide +kernel)
set_option maxRecDepth 20000 in
theorem gX4_isInRange_X4_numberIn : GoodIn wsX4_isInRange (va_wsS RX4 86 yX4_numberIn wsX4_numberIn) := goodIn_app (goodIn_of _ (by decide +kernel)) ggX4_isInRange_X4_numberIn
theorem dX4_isInRange_0 : decode cX4_isInRange 0 = .ok (.iload_n 1, 1) := by decide +kernel
theorem dX4_isInRange_1 : decode cX4_isInRange 1 = .ok (.getstatic 82, 3) := by decide +kernel
theorem dX4_isInRange_4 : decode cX4_isInRange 4 = .ok (.iload_n 0, 1) := by decide +kernel
theorem dX4_isInRange_5 : decode cX4_isInRange 5 = .ok (.invokestatic 86, 3) := by decide +kernel
theorem dX4_isInRange_8 : decode cX4_isInRange 8 = .ok (.if_icmp .lt 18, 3) := by decide +kernel
theorem dX4_isInRange_11 : decode cX4_isInRange 11 = .ok (.iload_n 1, 1) := by decide +kernel
theorem dX4_isInRange_12 : decode cX4_isInRange 12 = .ok (.getstatic 90, 3) := by decide +kernel
theorem dX4_isInRange_15 : decode cX4_isInRange 15 = .ok (.iload_n 0, 1) := by decide +kernel
theorem dX4_isInRange_16 : decode cX4_isInRange 16 = .ok (.invokestatic 86, 3) := by decide +kernel
theorem dX4_isInRange_19 : decode cX4_isInRange 19 = .ok (.if_icmp .gt 7, 3) := by decide +kernel
theorem dX4_isInRange_22 : decode cX4_isInRange 22 = .ok (.iconst 1, 1) := by decide +kernel
theorem dX4_isInRange_23 : decode cX4_isInRange 23 = .ok (.goto 4, 3) := by decide +kernel
theorem dX4_isInRange_26 : decode cX4_isInRange 26 = .ok (.iconst 0, 1) := by decide +kernel
theorem dX4_isInRange_27 : decode cX4_isInRange 27 = .ok (.ireturn, 1) := by decide +kernel
theorem dX5_init_0 : decode cX5_init 0 = .ok (.aload_n 0, 1) := by decide +kernel
theorem dX5_init_1 : decode cX5_init 1 = .ok (.invokespecial 1, 3) := by decide +kernel
theorem dX5_init_4 : decode cX5_init 4 = .ok (.aload_n 0, 1) := by decide +kernel
theorem dX5_init_5 : decode cX5_init 5 = .ok (.bipush 7, 2) := by decide +kernel
theorem dX5_init_7 : decode cX5_init 7 = .ok (.newarray .int, 2) := by decide +kernel
theorem dX5_init_9 : decode cX5_init 9 = .ok (.putfield 7, 3) := by decide +kernel
theorem dX5_init_12 : decode cX5_init 12 = .ok (.aload_n 0, 1) := by decide +kernel
theorem dX5_init_13 : decode cX5_init 13 = .ok (.sipush 151, 3) := by decide +kernel
theorem dX5_init_16 : decode cX5_init 16 = .ok (.newarray .int, 2) := by decide +kernel
theorem dX5_init_18 : decode cX5_init 18 = .ok (.putfield 13, 3) := by decide +kernel
theorem dX5_init_21 : decode cX5_init 21 = .ok (.aload_n 0, 1) := by decide +kernel
theorem dX5_init_22 : decode cX5_init 22 = .ok (.sipush 151, 3) := by decide +kernel
theorem dX5_init_25 : decode cX5_init 25 = .ok (.newarray .int, 2) := by decide +kernel
theorem dX5_init_27 : decode cX5_init 27 = .ok (.putfield 16, 3) := by decide +kernel
theorem dX5_init_30 : decode cX5_init 30 = .ok (.aload_n 0, 1) := by decide +kernel
theorem dX5_init_31 : decode cX5_init 31 = .ok (.sipush 151, 3) := by decide +kernel
theorem dX5_init_34 : decode cX5_init 34 = .ok (.newarray .int, 2) := by decide +kernel
theorem dX5_init_36 : decode cX5_init 36 = .ok (.putfield 19, 3) := by decide +kernel
theorem dX5_init_39 : decode cX5_init 39 = .ok (.aload_n 0, 1) := by decide +kernel
theorem dX5_init_40 : decode cX5_init 40 = .ok (.sipush 151, 3) := by decide +kernel
theorem dX5_init_43 : decode cX5_init 43 = .ok (.newarray .int, 2) := by decide +kernel
theorem dX5_init_45 : decode cX5_init 45 = .ok (.putfield 22, 3) := by decide +kernel
theorem dX5_init_48 : decode cX5_init 48 = .ok (.aload_n 0, 1) := by decide +kernel
theorem dX5_init_49 : decode cX5_init 49 = .ok (.sipush 151, 3) := by decide +kernel
theorem dX5_init_52 : decode cX5_init 52 = .ok (.newarray .int, 2) := by decide +kernel
theorem dX5_init_54 : decode cX5_init 54 = .ok (.putfield 25, 3) := by decide +kernel
theorem dX5_init_57 : decode cX5_init 57 = .ok (.aload_n 0, 1) := by decide +kernel
theorem dX5_init_58 : decode cX5_init 58 = .ok (.bipush (-9), 2) := by decide +kernel
theorem dX5_init_60 : decode cX5_init 60 = .ok (.putfield 28, 3) := by decide +kernel
theorem dX5_init_63 : decode cX5_init 63 = .ok (.aload_n 0, 1) := by decide +kernel
theorem dX5_init_64 : decode cX5_init 64 = .ok (.bipush 64, 2) := by decide +kernel
theorem dX5_init_66 : decode cX5_init 66 = .ok (.newarray .int, 2) := by decide +kernel
theorem dX5_init_68 : decode cX5_init 68 = .ok (.putfield 32, 3) := by decide +kernel
theorem dX5_init_71 : decode cX5_init 71 = .ok (.aload_n 0, 1) := by decide +kernel
theorem dX5_init_72 : decode cX5_init 72 = .ok (.iconst 3, 1) := by decide +kernel
theorem dX5_init_73 : decode cX5_init 73 = .ok (.newarray .int, 2) := by decide +kernel
theorem dX5_init_75 : decode cX5_init 75 = .ok (.putfield 35, 3) := by decide +kernel
theorem dX5_init_78 : decode cX5_init 78 = .ok (.aload_n 0, 1) := by decide +kernel
theorem dX5_init_79 : decode cX5_init 79 = .ok (.bipush 10, 2) := by decide +kernel
theorem dX5_init_81 : decode cX5_init 81 = .ok (.newarray .int, 2) := by decide +kernel
theorem dX5_init_83 : decode cX5_init 83 = .ok (.putfield 38, 3) := by decide +kernel
theorem dX5_init_86 : decode cX5_init 86 = .ok (.aload_n 0, 1) := by decide +kernel
theorem dX5_init_87 : decode cX5_init 87 = .ok (.getfield 13, 3) := by decide +kernel
theorem dX5_init_90 : decode cX5_init 90 = .ok (.iconst 0, 1) := by decide +kernel
theorem dX5_init_91 : decode cX5_init 91 = .ok (.bipush 40, 2) := by decide +kernel
theorem dX5_init_93 : decode cX5_init 93 = .ok (.iastore, 1) := by decide +kernel
theorem dX5_init_94 : decode cX5_init 94 = .ok (.aload_n 0, 1) := by decide +kernel
theorem dX5_init_95 : decode cX5_init 95 = .ok (.getfield 13, 3) := by decide +kernel
theorem dX5_init_98 : decode cX5_init 98 = .ok (.iconst 1, 1) := by decide +kernel
theorem dX5_init_99 : decode cX5_init 99 = .ok (.bipush 50, 2) := by decide +kernel
theorem dX5_init_101 : decode cX5_init 101 = .ok (.iastore, 1) := by decide +kernel
theorem dX5_init_102 : decode cX5_init 102 = .ok (.aload_n 0, 1) := by decide +kernel
theorem dX5_init_103 : decode cX5_init 103 = .ok (.getfield 13, 3) := by decide +kernel
theorem dX5_init_106 : decode cX5_init 106 = .ok (.iconst 2, 1) := by decide +kernel
theorem dX5_init_107 : decode cX5_init 107 = .ok (.bipush 60, 2) := by decide +kernel
theorem dX5_init_109 : decode cX5_init 109 = .ok (.iastore, 1) := by decide +kernel
theorem dX5_init_110 : decode cX5_init 110 = .ok (.aload_n 0, 1) := by decide +kernel
theorem dX5_init_111 : decode cX5_init 111 = .ok (.getfield 13, 3) := by decide +kernel
theorem dX5_init_114 : decode cX5_init 114 = .ok (.iconst 3, 1) := by decide +kernel
theorem dX5_init_115 : decode cX5_init 115 = .ok (.iconst 3, 1) := by decide +kernel
theorem dX5_init_116 : decode cX5_init 116 = .ok (.iastore, 1) := by decide +kernel
theorem dX5_init_117 : decode cX5_init 117 = .ok (.aload_n 0, 1) := by decide +kernel
theorem dX5_init_118 : decode cX5_init 118 = .ok (.getfield 13, 3) := by decide +kernel
theorem dX5_init_121 : decode cX5_init 121 = .ok (.bipush 6, 2) := by decide +kernel
theorem dX5_init_123 : decode cX5_init 123 = .ok (.iconst 1, 1) := by decide +kernel
theorem dX5_init_124 : decode cX5_init 124 = .ok (.iastore, 1) := by decide +kernel
theorem dX5_init_125 : decode cX5_init 125 = .ok (.aload_n 0, 1) := by decide +kernel
theorem dX5_init_126 : decode cX5_init 126 = .ok (.getfield 13, 3) := by decide +kernel
theorem dX5_init_129 : decode cX5_init 129 = .ok (.bipush 8, 2) := by decide +kernel
theorem dX5_init_131 : decode cX5_init 131 = .ok (.bipush 50, 2) := by decide +kernel
theorem dX5_init_133 : decode cX5_init 133 = .ok (.iastore, 1) := by decide +kernel
theorem dX5_init_134 : decode cX5_init 134 = .ok (.aload_n 0, 1) := by decide +kernel
theorem dX5_init_135 : decode cX5_init 135 = .ok (.getfield 13, 3) := by decide +kernel
theorem dX5_init_138 : decode cX5_init 138 = .ok (.bipush 9, 2) := by decide +kernel
theorem dX5_init_140 : decode cX5_init 140 = .ok (.iconst 1, 1) := by decide +kernel
theorem dX5_init_141 : decode cX5_init 141 = .ok (.iastore, 1) := by decide +kernel
theorem dX5_init_142 : decode cX5_init 142 = .ok (.aload_n 0, 1) := by decide +kernel
theorem dX5_init_143 : decode cX5_init 143 = .ok (.getfield 13, 3) := by decide +kernel
theorem dX5_init_146 : decode cX5_init 146 = .ok (.bipush 11, 2) := by decide +kernel
theorem dX5_init_148 : decode cX5_init 148 = .ok (.sipush 200, 3) := by decide +kernel
theorem dX5_init_151 : decode cX5_init 151 = .ok (.iastore, 1) := by decide +kernel
theorem dX5_init_152 : decode cX5_init 152 = .ok (.aload_n 0, 1) := by decide +kernel
theorem dX5_init_153 : decode cX5_init 153 = .ok (.getfield 13, 3) := by decide +kernel
theorem dX5_init_156 : decode cX5_init 156 = .ok (.bipush 14, 2) := by decide +kernel
theorem dX5_init_158 : decode cX5_init 158 = .ok (.bipush 10, 2) := by decide +kernel
theorem dX5_init_160 : decode cX5_init 160 = .ok (.iastore, 1) := by decide +kernel
theorem dX5_init_161 : decode cX5_init 161 = .ok (.aload_n 0, 1) := by decide +kernel
theorem dX5_init_162 : decode cX5_init 162 = .ok (.getfield 13, 3) := by decide +kernel
theorem dX5_init_165 : decode cX5_init 165 = .ok (.bipush 15, 2) := by decide +kernel
theorem dX5_init_167 : decode cX5_init 167 = .ok (.sipush 500, 3) := by decide +kernel
theorem dX5_init_170 : decode cX5_init 170 = .ok (.iastore, 1) := by decide +kernel
theorem dX5_init_171 : decode cX5_init 171 = .ok (.aload_n 0, 1) := by decide +kernel
theorem dX5_init_172 : decode cX5_init 172 = .ok (.getfield 13, 3) := by decide +kernel
theorem dX5_init_175 : decode cX5_init 175 = .ok (.bipush 16, 2) := by decide +kernel
theorem dX5_init_177 : decode cX5_init 177 = .ok (.sipush 200, 3) := by decide +kernel
theorem dX5_init_180 : decode cX5_init 180 = .ok (.iastore, 1) := by decide +kernel
theorem dX5_init_181 : decode cX5_init 181 = .ok (.aload_n 0, 1) := by decide +kernel
theorem dX5_init_182 : decode cX5_init 182 = .ok (.getfield 13, 3) := by decide +kernel
theorem dX5_init_185 : decode cX5_init 185 = .ok (.bipush 17, 2) := by decide +kernel
theorem dX5_init_187 : decode cX5_init 187 = .ok (.sipush 200, 3) := by decide +kernel
theorem dX5_init_190 : decode cX5_init 190 = .ok (.iastore, 1) := by decide +kernel
theorem dX5_init_191 : decode cX5_init 191 = .ok (.return_, 1) := by decide +kernel
theorem dX5_refuse_0 : decode cX5_refuse 0 = .ok (.aload_n 0, 1) := by decide +kernel
theorem dX5_refuse_1 : decode cX5_refuse 1 = .ok (.getfield 7, 3) := by decide +kernel
theorem dX5_refuse_4 : decode cX5_refuse 4 = .ok (.iload_n 1, 1) := by decide +kernel
theorem dX5_refuse_5 : decode cX5_refuse 5 = .ok (.ineg, 1) := by decide +kernel
theorem dX5_refuse_6 : decode cX5_refuse 6 = .ok (.dup2, 1) := by decide +kernel
theorem dX5_refuse_7 : decode cX5_refuse 7 = .ok (.iaload, 1) := by decide +kernel
theorem dX5_refuse_8 : decode cX5_refuse 8 = .ok (.iconst 1, 1) := by decide +kernel
theorem dX5_refuse_9 : decode cX5_refuse 9 = .ok (.iadd, 1) := by decide +kernel
theorem dX5_refuse_10 : decode cX5_refuse 10 = .ok (.iastore, 1) := by decide +kernel
theorem dX5_refuse_11 : decode cX5_refuse 11 = .ok (.iload_n 1, 1) := by decide +kernel
theorem dX5_refuse_12 : decode cX5_refuse 12 = .ok (.ireturn, 1) := by decide +kernel
theorem dX5_isIn_0 : decode cX5_isIn 0 = .ok (.iload_n 0, 1) := by decide +kernel
theorem dX5_isIn_1 : decode cX5_isIn 1 = .ok (.ifCond .lt 12, 3) := by decide +kernel
theorem dX5_isIn_4 : decode cX5_isIn 4 = .ok (.iload_n 0, 1) := by decide +kernel
theorem dX5_isIn_5 : decode cX5_isIn 5 = .ok (.iload_n 1, 1) := by decide +kernel
theorem dX5_isIn_6 : decode cX5_isIn 6 = .ok (.if_icmp .ge 7, 3) := by decide +kernel
theorem dX5_isIn_9 : decode cX5_isIn 9 = .ok (.iconst 1, 1) := by decide +kernel
theorem dX5_isIn_10 : decode cX5_isIn 10 = .ok (.goto 4, 3) := by decide +kernel
theorem dX5_isIn_13 : decode cX5_isIn 13 = .ok (.iconst 0, 1) := by decide +kernel
theorem dX5_isIn_14 : decode cX5_isIn 14 = .ok (.ireturn, 1) := by decide +kernel
theorem dX5_within_0 : decode cX5_within 0 = .ok (.iload_n 0, 1) := by decide +kernel
theorem dX5_within_1 : decode cX5_within 1 = .ok (.iload_n 1, 1) := by decide +kernel
theorem dX5_within_2 : decode cX5_within 2 = .ok (.if_icmp .ge 8, 3) := by decide +kernel
theorem dX5_within_5 : decode cX5_within 5 = .ok (.bipush (-4), 2) := by decide +kernel
theorem dX5_within_7 : decode cX5_within 7 = .ok (.goto 14, 3) := by decide +kernel
theorem dX5_within_10 : decode cX5_within 10 = .ok (.iload_n 0, 1) := by decide +kernel
theorem dX5_within_11 : decode cX5_within 11 = .ok (.iload_n 2, 1) := by decide +kernel
theorem dX5_within_12 : decode cX5_within 12 = .ok (.if_icmp .le 8, 3) := by decide +kernel
theorem dX5_within_15 : decode cX5_within 15 = .ok (.bipush (-6), 2) := by decide +kernel
theorem dX5_within_17 : decode cX5_within 17 = .ok (.goto 4, 3) := by decide +kernel
theorem dX5_within_20 : decode cX5_within 20 = .ok (.iconst 0, 1) := by decide +kernel
theorem dX5_within_21 : decode cX5_within 21 = .ok (.ireturn, 1) := by decide +kernel
theorem dX5_copies_0 : decode cX5_copies 0 = .ok (.iconst 0, 1) := by decide +kernel
theorem dX5_copies_1 : decode cX5_copies 1 = .ok (.istore_n 2, 1) := by decide +kernel
theorem dX5_copies_2 : decode cX5_copies 2 = .ok (.iload_n 2, 1) := by decide +kernel
theorem dX5_copies_3 : decode cX5_copies 3 = .ok (.sipush 151, 3) := by decide +kernel
theorem dX5_copies_6 : decode cX5_copies 6 = .ok (.if_icmp .ge 15, 3) := by decide +kernel
theorem dX5_copies_9 : decode cX5_copies 9 = .ok (.aload_n 1, 1) := by decide +kernel
theorem dX5_copies_10 : decode cX5_copies 10 = .ok (.iload_n 2, 1) := by decide +kernel
theorem dX5_copies_11 : decode cX5_copies 11 = .ok (.aload_n 0, 1) := by decide +kernel
theorem dX5_copies_12 : decode cX5_copies 12 = .ok (.iload_n 2, 1) := by decide +kernel
theorem dX5_copies_13 : decode cX5_copies 13 = .ok (.iaload, 1) := by decide +kernel
theorem dX5_copies_14 : decode cX5_copies 14 = .ok (.iastore, 1) := by decide +kernel
theorem dX5_copies_15 : decode cX5_copies 15 = .ok (.iinc 2 1, 3) := by decide +kernel
theorem dX5_copies_18 : decode cX5_copies 18 = .ok (.goto (-16), 3) := by decide +kernel
theorem dX5_copies_21 : decode cX5_copies 21 = .ok (.return_, 1) := by decide +kernel
set_option maxRecDepth 20000 in
theorem ggX5_feed_X5_refuse : GoodIn wsX5_feed wsX5_refuse := goodIn_r _ [8, 9, 10, 11, 12, 13, 14, 15, 16, 17, 18, 19, 20, 21, 22, 23] (by decide +kernel) (by decide +kernel)
set_option maxRecDepth 20000 in
theorem gX5_feed_X5_refuse : GoodIn wsX5_feed (wsV RX5 41 RX5 yX5_refuse wsX5_refuse) := goodIn_app (goodIn_of _ (by decide +kernel)) ggX5_feed_X5_refuse
theorem dX5_feed_0 : decode cX5_feed 0 = .ok (.iload_n 1, 1) := by decide +kernel
theorem dX5_feed_1 : decode cX5_feed 1 = .ok (.iconst 1, 1) := by decide +kernel
theorem dX5_feed_2 : decode cX5_feed 2 = .ok (.if_icmp .ge 10, 3) := by decide +kernel
theorem dX5_feed_5 : decode cX5_feed 5 = .ok (.aload_n 0, 1) := by decide +kernel
theorem dX5_feed_6 : decode cX5_feed 6 = .ok (.bipush (-4), 2) := by decide +kernel
theorem dX5_feed_8 : decode cX5_feed 8 = .ok (.invokevirtual 41, 3) := by decide +kernel
theorem dX5_feed_11 : decode cX5_feed 11 = .ok (.ireturn, 1) := by decide +kernel
theorem dX5_feed_12 : decode cX5_feed 12 = .ok (.iload_n 1, 1) := by decide +kernel
theorem dX5_feed_13 : decode cX5_feed 13 = .ok (.bipush 8, 2) := by decide +kernel
theorem dX5_feed_15 : decode cX5_feed 15 = .ok (.if_icmp .gt 14, 3) := by decide +kernel
theorem dX5_feed_18 : decode cX5_feed 18 = .ok (.aload_n 0, 1) := by decide +kernel
theorem dX5_feed_19 : decode cX5_feed 19 = .ok (.getfield 45, 3) := by decide +kernel
theorem dX5_feed_22 : decode cX5_feed 22 = .ok (.iload_n 1, 1) := by decide +kernel
theorem dX5_feed_23 : decode cX5_feed 23 = .ok (.iadd, 1) := by decide +kernel
theorem dX5_feed_24 : decode cX5_feed 24 = .ok (.bipush 64, 2) := by decide +kernel
theorem dX5_feed_26 : decode cX5_feed 26 = .ok (.if_icmp .le 10, 3) := by decide +kernel
theorem dX5_feed_29 : decode cX5_feed 29 = .ok (.aload_n 0, 1) := by decide +kernel
theorem dX5_feed_30 : decode cX5_feed 30 = .ok (.bipush (-6), 2) := by decide +kernel
theorem dX5_feed_32 : decode cX5_feed 32 = .ok (.invokevirtual 41, 3) := by decide +kernel
theorem dX5_feed_35 : decode cX5_feed 35 = .ok (.ireturn, 1) := by decide +kernel
theorem dX5_feed_36 : decode cX5_feed 36 = .ok (.iconst 0, 1) := by decide +kernel
theorem dX5_feed_37 : decode cX5_feed 37 = .ok (.istore 4, 2) := by decide +kernel
theorem dX5_feed_39 : decode cX5_feed 39 = .ok (.iload 4, 2) := by decide +kernel
theorem dX5_feed_41 : decode cX5_feed 41 = .ok (.iload_n 1, 1) := by decide +kernel
theorem dX5_feed_42 : decode cX5_feed 42 = .ok (.if_icmp .ge 40, 3) := by decide +kernel
theorem dX5_feed_45 : decode cX5_feed 45 = .ok (.aload_n 0, 1) := by decide +kernel
theorem dX5_feed_46 : decode cX5_feed 46 = .ok (.getfield 32, 3) := by decide +kernel
theorem dX5_feed_49 : decode cX5_feed 49 = .ok (.aload_n 0, 1) := by decide +kernel
theorem dX5_feed_50 : decode cX5_feed 50 = .ok (.getfield 45, 3) := by decide +kernel
theorem dX5_feed_53 : decode cX5_feed 53 = .ok (.lload_n 2, 1) := by decide +kernel
theorem dX5_feed_54 : decode cX5_feed 54 = .ok (.bipush 8, 2) := by decide +kernel
theorem dX5_feed_56 : decode cX5_feed 56 = .ok (.iload 4, 2) := by decide +kernel
theorem dX5_feed_58 : decode cX5_feed 58 = .ok (.imul, 1) := by decide +kernel
theorem dX5_feed_59 : decode cX5_feed 59 = .ok (.lshr, 1) := by decide +kernel
theorem dX5_feed_60 : decode cX5_feed 60 = .ok (.ldc2_w 48, 3) := by decide +kernel
theorem dX5_feed_63 : decode cX5_feed 63 = .ok (.land, 1) := by decide +kernel
theorem dX5_feed_64 : decode cX5_feed 64 = .ok (.l2i, 1) := by decide +kernel
theorem dX5_feed_65 : decode cX5_feed 65 = .ok (.iastore, 1) := by decide +kernel
theorem dX5_feed_66 : decode cX5_feed 66 = .ok (.aload_n 0, 1) := by decide +kernel
theorem dX5_feed_67 : decode cX5_feed 67 = .ok (.dup, 1) := by decide +kernel
theorem dX5_feed_68 : decode cX5_feed 68 = .ok (.getfield 45, 3) := by decide +kernel
theorem dX5_feed_71 : decode cX5_feed 71 = .ok (.iconst 1, 1) := by decide +kernel
theorem dX5_feed_72 : decode cX5_feed 72 = .ok (.iadd, 1) := by decide +kernel
theorem dX5_feed_73 : decode cX5_feed 73 = .ok (.putfield 45, 3) := by decide +kernel
theorem dX5_feed_76 : decode cX5_feed 76 = .ok (.iinc 4 1, 3) := by decide +kernel
theorem dX5_feed_79 : decode cX5_feed 79 = .ok (.goto (-40), 3) := by decide +kernel
theorem dX5_feed_82 : decode cX5_feed 82 = .ok (.aload_n 0, 1) := by decide +kernel
theorem dX5_feed_83 : decode cX5_feed 83 = .ok (.getfield 45, 3) := by decide +kernel
theorem dX5_feed_86 : decode cX5_feed 86 = .ok (.ireturn, 1) := by decide +kernel
theorem dX5_sign_0 : decode cX5_sign 0 = .ok (.aload_n 0, 1) := by decide +kernel
theorem dX5_sign_1 : decode cX5_sign 1 = .ok (.getfield 50, 3) := by decide +kernel
theorem dX5_sign_4 : decode cX5_sign 4 = .ok (.aload_n 0, 1) := by decide +kernel
theorem dX5_sign_5 : decode cX5_sign 5 = .ok (.getfield 45, 3) := by decide +kernel
theorem dX5_sign_8 : decode cX5_sign 8 = .ok (.if_icmp .lt 7, 3) := by decide +kernel
theorem dX5_sign_11 : decode cX5_sign 11 = .ok (.iconst (-1), 1) := by decide +kernel
theorem dX5_sign_12 : decode cX5_sign 12 = .ok (.goto 12, 3) := by decide +kernel
theorem dX5_sign_15 : decode cX5_sign 15 = .ok (.aload_n 0, 1) := by decide +kernel
theorem dX5_sign_16 : decode cX5_sign 16 = .ok (.getfield 32, 3) := by decide +kernel
theorem dX5_sign_19 : decode cX5_sign 19 = .ok (.aload_n 0, 1) := by decide +kernel
theorem dX5_sign_20 : decode cX5_sign 20 = .ok (.getfield 50, 3) := by decide +kernel
theorem dX5_sign_23 : decode cX5_sign 23 = .ok (.iaload, 1) := by decide +kernel
theorem dX5_sign_24 : decode cX5_sign 24 = .ok (.ireturn, 1) := by decide +kernel
set_option maxRecDepth 20000 in
theorem ggX5_takes_X5_sign : GoodIn wsX5_takes wsX5_sign := goodIn_r _ [6, 1, 7, 8, 9, 10, 11, 12, 13, 14, 15, 16, 17, 18, 19, 20, 21, 22] (by decide +kernel) (by decide +kernel)
set_option maxRecDepth 20000 in
theorem gX5_takes_X5_sign : GoodIn wsX5_takes (wsV RX5 53 RX5 yX5_sign wsX5_sign) := goodIn_app (goodIn_of _ (by decide +kernel)) ggX5_takes_X5_sign
theorem dX5_takes_0 : decode cX5_takes 0 = .ok (.aload_n 0, 1) := by decide +kernel
theorem dX5_takes_1 : decode cX5_takes 1 = .ok (.invokevirtual 53, 3) := by decide +kernel
theorem dX5_takes_4 : decode cX5_takes 4 = .ok (.iload_n 1, 1) := by decide +kernel
theorem dX5_takes_5 : decode cX5_takes 5 = .ok (.if_icmp .eq 5, 3) := by decide +kernel
theorem dX5_takes_8 : decode cX5_takes 8 = .ok (.iconst 0, 1) := by decide +kernel
theorem dX5_takes_9 : decode cX5_takes 9 = .ok (.ireturn, 1) := by decide +kernel
theorem dX5_takes_10 : decode cX5_takes 10 = .ok (.aload_n 0, 1) := by decide +kernel
theorem dX5_takes_11 : decode cX5_takes 11 = .ok (.dup, 1) := by decide +kernel
theorem dX5_takes_12 : decode cX5_takes 12 = .ok (.getfield 50, 3) := by decide +kernel
theorem dX5_takes_15 : decode cX5_takes 15 = .ok (.iconst 1, 1) := by decide +kernel
theorem dX5_takes_16 : decode cX5_takes 16 = .ok (.iadd, 1) := by decide +kernel
theorem dX5_takes_17 : decode cX5_takes 17 = .ok (.putfield 50, 3) := by decide +kernel
theorem dX5_takes_20 : decode cX5_takes 20 = .ok (.iconst 1, 1) := by decide +kernel
theorem dX5_takes_21 : decode cX5_takes 21 = .ok (.ireturn, 1) := by decide +kernel
set_option maxRecDepth 20000 in
theorem ggX5_readsNumber_X5_sign : GoodIn wsX5_readsNumber wsX5_sign := goodIn_r _ [7, 2, 8, 9, 10, 11, 12, 13, 14, 15, 16, 17, 18, 19, 20, 21, 22, 23] (by decide +kernel) (by decide +kernel)
set_option maxRecDepth 20000 in
theorem gX5_readsNumber_X5_sign : GoodIn wsX5_readsNumber (wsV RX5 53 RX5 yX5_sign wsX5_sign) := goodIn_app (goodIn_of _ (by decide +kernel)) ggX5_readsNumber_X5_sign
theorem dX5_readsNumber_0 : decode cX5_readsNumber 0 = .ok (.aload_n 0, 1) := by decide +kernel
theorem dX5_readsNumber_1 : decode cX5_readsNumber 1 = .ok (.getfield 35, 3) := by decide +kernel
theorem dX5_readsNumber_4 : decode cX5_readsNumber 4 = .ok (.iload_n 1, 1) := by decide +kernel
theorem dX5_readsNumber_5 : decode cX5_readsNumber 5 = .ok (.iconst 0, 1) := by decide +kernel
theorem dX5_readsNumber_6 : decode cX5_readsNumber 6 = .ok (.iastore, 1) := by decide +kernel
theorem dX5_readsNumber_7 : decode cX5_readsNumber 7 = .ok (.iconst 0, 1) := by decide +kernel
theorem dX5_readsNumber_8 : decode cX5_readsNumber 8 = .ok (.istore_n 3, 1) := by decide +kernel
theorem dX5_readsNumber_9 : decode cX5_readsNumber 9 = .ok (.iload_n 3, 1) := by decide +kernel
theorem dX5_readsNumber_10 : decode cX5_readsNumber 10 = .ok (.iload_n 2, 1) := by decide +kernel
theorem dX5_readsNumber_11 : decode cX5_readsNumber 11 = .ok (.if_icmp .ge 60, 3) := by decide +kernel
theorem dX5_readsNumber_14 : decode cX5_readsNumber 14 = .ok (.aload_n 0, 1) := by decide +kernel
theorem dX5_readsNumber_15 : decode cX5_readsNumber 15 = .ok (.invokevirtual 53, 3) := by decide +kernel
theorem dX5_readsNumber_18 : decode cX5_readsNumber 18 = .ok (.bipush 48, 2) := by decide +kernel
theorem dX5_readsNumber_20 : decode cX5_readsNumber 20 = .ok (.if_icmp .lt 51, 3) := by decide +kernel
theorem dX5_readsNumber_23 : decode cX5_readsNumber 23 = .ok (.aload_n 0, 1) := by decide +kernel
theorem dX5_readsNumber_24 : decode cX5_readsNumber 24 = .ok (.invokevirtual 53, 3) := by decide +kernel
theorem dX5_readsNumber_27 : decode cX5_readsNumber 27 = .ok (.bipush 57, 2) := by decide +kernel
theorem dX5_readsNumber_29 : decode cX5_readsNumber 29 = .ok (.if_icmp .gt 42, 3) := by decide +kernel
theorem dX5_readsNumber_32 : decode cX5_readsNumber 32 = .ok (.aload_n 0, 1) := by decide +kernel
theorem dX5_readsNumber_33 : decode cX5_readsNumber 33 = .ok (.getfield 35, 3) := by decide +kernel
theorem dX5_readsNumber_36 : decode cX5_readsNumber 36 = .ok (.iload_n 1, 1) := by decide +kernel
theorem dX5_readsNumber_37 : decode cX5_readsNumber 37 = .ok (.bipush 10, 2) := by decide +kernel
theorem dX5_readsNumber_39 : decode cX5_readsNumber 39 = .ok (.aload_n 0, 1) := by decide +kernel
theorem dX5_readsNumber_40 : decode cX5_readsNumber 40 = .ok (.getfield 35, 3) := by decide +kernel
theorem dX5_readsNumber_43 : decode cX5_readsNumber 43 = .ok (.iload_n 1, 1) := by decide +kernel
theorem dX5_readsNumber_44 : decode cX5_readsNumber 44 = .ok (.iaload, 1) := by decide +kernel
theorem dX5_readsNumber_45 : decode cX5_readsNumber 45 = .ok (.imul, 1) := by decide +kernel
theorem dX5_readsNumber_46 : decode cX5_readsNumber 46 = .ok (.aload_n 0, 1) := by decide +kernel
theorem dX5_readsNumber_47 : decode cX5_readsNumber 47 = .ok (.invokevirtual 53, 3) := by decide +kernel
theorem dX5_readsNumber_50 : decode cX5_readsNumber 50 = .ok (.iadd, 1) := by decide +kernel
theorem dX5_readsNumber_51 : decode cX5_readsNumber 51 = .ok (.bipush 48, 2) := by decide +kernel
theorem dX5_readsNumber_53 : decode cX5_readsNumber 53 = .ok (.isub, 1) := by decide +kernel
theorem dX5_readsNumber_54 : decode cX5_readsNumber 54 = .ok (.iastore, 1) := by decide +kernel
theorem dX5_readsNumber_55 : decode cX5_readsNumber 55 = .ok (.aload_n 0, 1) := by decide +kernel
theorem dX5_readsNumber_56 : decode cX5_readsNumber 56 = .ok (.dup, 1) := by decide +kernel
theorem dX5_readsNumber_57 : decode cX5_readsNumber 57 = .ok (.getfield 50, 3) := by decide +kernel
theorem dX5_readsNumber_60 : decode cX5_readsNumber 60 = .ok (.iconst 1, 1) := by decide +kernel
theorem dX5_readsNumber_61 : decode cX5_readsNumber 61 = .ok (.iadd, 1) := by decide +kernel
theorem dX5_readsNumber_62 : decode cX5_readsNumber 62 = .ok (.putfield 50, 3) := by decide +kernel
theorem dX5_readsNumber_65 : decode cX5_readsNumber 65 = .ok (.iinc 3 1, 3) := by decide +kernel
theorem dX5_readsNumber_68 : decode cX5_readsNumber 68 = .ok (.goto (-59), 3) := by decide +kernel
theorem dX5_readsNumber_71 : decode cX5_readsNumber 71 = .ok (.iload_n 3, 1) := by decide +kernel
theorem dX5_readsNumber_72 : decode cX5_readsNumber 72 = .ok (.ifCond .le 7, 3) := by decide +kernel
theorem dX5_readsNumber_75 : decode cX5_readsNumber 75 = .ok (.iconst 1, 1) := by decide +kernel
theorem dX5_readsNumber_76 : decode cX5_readsNumber 76 = .ok (.goto 4, 3) := by decide +kernel
theorem dX5_readsNumber_79 : decode cX5_readsNumber 79 = .ok (.iconst 0, 1) := by decide +kernel
theorem dX5_readsNumber_80 : decode cX5_readsNumber 80 = .ok (.ireturn, 1) := by decide +kernel
theorem dX5_thingOf_0 : decode cX5_thingOf 0 = .ok (.iload_n 0, 1) := by decide +kernel
theorem dX5_thingOf_1 : decode cX5_thingOf 1 = .ok (.lookupswitch 55 #[(100, 43), (108, 49), (114, 52), (119, 46)], 43) := by decide +kernel
theorem dX5_thingOf_44 : decode cX5_thingOf 44 = .ok (.bipush 8, 2) := by decide +kernel
theorem dX5_thingOf_46 : decode cX5_thingOf 46 = .ok (.ireturn, 1) := by decide +kernel
theorem dX5_thingOf_47 : decode cX5_thingOf 47 = .ok (.bipush 9, 2) := by decide +kernel
theorem dX5_thingOf_49 : decode cX5_thingOf 49 = .ok (.ireturn, 1) := by decide +kernel
theorem dX5_thingOf_50 : decode cX5_thingOf 50 = .ok (.bipush 10, 2) := by decide +kernel
theorem dX5_thingOf_52 : decode cX5_thingOf 52 = .ok (.ireturn, 1) := by decide +kernel
theorem dX5_thingOf_53 : decode cX5_thingOf 53 = .ok (.bipush 11, 2) := by decide +kernel
theorem dX5_thingOf_55 : decode cX5_thingOf 55 = .ok (.ireturn, 1) := by decide +kernel
theorem dX5_thingOf_56 : decode cX5_thingOf 56 = .ok (.bipush (-9), 2) := by decide +kernel
theorem dX5_thingOf_58 : decode cX5_thingOf 58 = .ok (.ireturn, 1) := by decide +kernel
set_option maxRecDepth 20000 in
theorem ggX5_readsStatement_X5_sign : GoodIn wsX5_readsStatement wsX5_sign := goodIn_r _ [7, 2, 8, 9, 21, 22, 23, 24, 25, 26, 27, 28, 29, 30, 31, 32, 33, 34] (by decide +kernel) (by decide +kernel)
set_option maxRecDepth 20000 in
theorem gX5_readsStatement_X5_sign : GoodIn wsX5_readsStatement (wsV RX5 53 RX5 yX5_sign wsX5_sign) := goodIn_app (goodIn_of _ (by decide +kernel)) ggX5_readsStatement_X5_sign
set_option maxRecDepth 20000 in
theorem ggX5_readsStatement_X5_thingOf : GoodIn wsX5_readsStatement wsX5_thingOf := goodIn_r _ [12] (by decide +kernel) (by decide +kernel)
set_option maxRecDepth 20000 in
theorem gX5_readsStatement_X5_thingOf : GoodIn wsX5_readsStatement (va_wsS RX5 57 yX5_thingOf wsX5_thingOf) := goodIn_app (goodIn_of _ (by decide +kernel)) ggX5_readsStatement_X5_thingOf
set_option maxRecDepth 20000 in
theorem ggX5_readsStatement_X5_readsNumber : GoodIn wsX5_readsStatement wsX5_readsNumber := goodIn_r _ [16, 1, 2, 3, 4, 5, 6, 7, 8, 9, 21, 22, 23, 24, 25, 26, 27, 28, 29, 30, 31, 32, 33, 34] (by decide +kernel) (by decide +kernel)
set_option maxRecDepth 20000 in
theorem gX5_readsStatement_X5_readsNumber : GoodIn wsX5_readsStatement (wsV RX5 60 RX5 yX5_readsNumber wsX5_readsNumber) := goodIn_app (goodIn_of _ (by decide +kernel)) ggX5_readsStatement_X5_readsNumber
set_option maxRecDepth 20000 in
theorem ggX5_readsStatement_X5_takes : GoodIn wsX5_readsStatement wsX5_takes := goodIn_r _ [20, 2, 3, 4, 5, 6, 7, 8, 9, 21, 22, 23, 24, 25, 26, 27, 28, 29, 30, 31, 32, 33, 34] (by decide +kernel) (by decide +kernel)
set_option maxRecDepth 20000 in
theorem gX5_readsStatement_X5_takes : GoodIn wsX5_readsStatement (wsV RX5 64 RX5 yX5_takes wsX5_takes) := goodIn_app (goodIn_of _ (by decide +kernel)) ggX5_readsStatement_X5_takes
theorem dX5_readsStatement_0 : decode cX5_readsStatement 0 = .ok (.aload_n 0, 1) := by decide +kernel
theorem dX5_readsStatement_1 : decode cX5_readsStatement 1 = .ok (.getfield 35, 3) := by decide +kernel
theorem dX5_readsStatement_4 : decode cX5_readsStatement 4 = .ok (.iconst 0, 1) := by decide +kernel
theorem dX5_readsStatement_5 : decode cX5_readsStatement 5 = .ok (.aload_n 0, 1) := by decide +kernel
theorem dX5_readsStatement_6 : decode cX5_readsStatement 6 = .ok (.invokevirtual 53, 3) := by decide +kernel
theorem dX5_readsStatement_9 : decode cX5_readsStatement 9 = .ok (.invokestatic 57, 3) := by decide +kernel
theorem dX5_readsStatement_12 : decode cX5_readsStatement 12 = .ok (.iastore, 1) := by decide +kernel
theorem dX5_readsStatement_13 : decode cX5_readsStatement 13 = .ok (.aload_n 0, 1) := by decide +kernel
theorem dX5_readsStatement_14 : decode cX5_readsStatement 14 = .ok (.getfield 35, 3) := by decide +kernel
theorem dX5_readsStatement_17 : decode cX5_readsStatement 17 = .ok (.iconst 0, 1) := by decide +kernel
theorem dX5_readsStatement_18 : decode cX5_readsStatement 18 = .ok (.iaload, 1) := by decide +kernel
theorem dX5_readsStatement_19 : decode cX5_readsStatement 19 = .ok (.ifCond .ge 5, 3) := by decide +kernel
theorem dX5_readsStatement_22 : decode cX5_readsStatement 22 = .ok (.iconst 0, 1) := by decide +kernel
theorem dX5_readsStatement_23 : decode cX5_readsStatement 23 = .ok (.ireturn, 1) := by decide +kernel
theorem dX5_readsStatement_24 : decode cX5_readsStatement 24 = .ok (.aload_n 0, 1) := by decide +kernel
theorem dX5_readsStatement_25 : decode cX5_readsStatement 25 = .ok (.dup, 1) := by decide +kernel
theorem dX5_readsStatement_26 : decode cX5_readsStatement 26 = .ok (.getfield 50, 3) := by decide +kernel
theorem dX5_readsStatement_29 : decode cX5_readsStatement 29 = .ok (.iconst 1, 1) := by decide +kernel
theorem dX5_readsStatement_30 : decode cX5_readsStatement 30 = .ok (.iadd, 1) := by decide +kernel
theorem dX5_readsStatement_31 : decode cX5_readsStatement 31 = .ok (.putfield 50, 3) := by decide +kernel
theorem dX5_readsStatement_34 : decode cX5_readsStatement 34 = .ok (.aload_n 0, 1) := by decide +kernel
theorem dX5_readsStatement_35 : decode cX5_readsStatement 35 = .ok (.iconst 1, 1) := by decide +kernel
theorem dX5_readsStatement_36 : decode cX5_readsStatement 36 = .ok (.iconst 4, 1) := by decide +kernel
theorem dX5_readsStatement_37 : decode cX5_readsStatement 37 = .ok (.invokevirtual 60, 3) := by decide +kernel
theorem dX5_readsStatement_40 : decode cX5_readsStatement 40 = .ok (.ifCond .eq 34, 3) := by decide +kernel
theorem dX5_readsStatement_43 : decode cX5_readsStatement 43 = .ok (.aload_n 0, 1) := by decide +kernel
theorem dX5_readsStatement_44 : decode cX5_readsStatement 44 = .ok (.bipush 58, 2) := by decide +kernel
theorem dX5_readsStatement_46 : decode cX5_readsStatement 46 = .ok (.invokevirtual 64, 3) := by decide +kernel
theorem dX5_readsStatement_49 : decode cX5_readsStatement 49 = .ok (.ifCond .eq 25, 3) := by decide +kernel
theorem dX5_readsStatement_52 : decode cX5_readsStatement 52 = .ok (.aload_n 0, 1) := by decide +kernel
theorem dX5_readsStatement_53 : decode cX5_readsStatement 53 = .ok (.iconst 2, 1) := by decide +kernel
theorem dX5_readsStatement_54 : decode cX5_readsStatement 54 = .ok (.iconst 3, 1) := by decide +kernel
theorem dX5_readsStatement_55 : decode cX5_readsStatement 55 = .ok (.invokevirtual 60, 3) := by decide +kernel
theorem dX5_readsStatement_58 : decode cX5_readsStatement 58 = .ok (.ifCond .eq 16, 3) := by decide +kernel
theorem dX5_readsStatement_61 : decode cX5_readsStatement 61 = .ok (.aload_n 0, 1) := by decide +kernel
theorem dX5_readsStatement_62 : decode cX5_readsStatement 62 = .ok (.bipush 59, 2) := by decide +kernel
theorem dX5_readsStatement_64 : decode cX5_readsStatement 64 = .ok (.invokevirtual 64, 3) := by decide +kernel
theorem dX5_readsStatement_67 : decode cX5_readsStatement 67 = .ok (.ifCond .eq 7, 3) := by decide +kernel
theorem dX5_readsStatement_70 : decode cX5_readsStatement 70 = .ok (.iconst 1, 1) := by decide +kernel
theorem dX5_readsStatement_71 : decode cX5_readsStatement 71 = .ok (.goto 4, 3) := by decide +kernel
theorem dX5_readsStatement_74 : decode cX5_readsStatement 74 = .ok (.iconst 0, 1) := by decide +kernel
theorem dX5_readsStatement_75 : decode cX5_readsStatement 75 = .ok (.ireturn, 1) := by decide +kernel
theorem dX5_leastOf_0 : decode cX5_leastOf 0 = .ok (.iload_n 0, 1) := by decide +kernel
theorem dX5_leastOf_1 : decode cX5_leastOf 1 = .ok (.tableswitch 71 0 11 #[63, 66, 63, 66, 71, 71, 66, 71, 71, 71, 71, 68], 63) := by decide +kernel
theorem dX5_leastOf_64 : decode cX5_leastOf 64 = .ok (.bipush 10, 2) := by decide +kernel
theorem dX5_leastOf_66 : decode cX5_leastOf 66 = .ok (.ireturn, 1) := by decide +kernel
theorem dX5_leastOf_67 : decode cX5_leastOf 67 = .ok (.iconst 1, 1) := by decide +kernel
theorem dX5_leastOf_68 : decode cX5_leastOf 68 = .ok (.ireturn, 1) := by decide +kernel
theorem dX5_leastOf_69 : decode cX5_leastOf 69 = .ok (.bipush 100, 2) := by decide +kernel
theorem dX5_leastOf_71 : decode cX5_leastOf 71 = .ok (.ireturn, 1) := by decide +kernel
theorem dX5_leastOf_72 : decode cX5_leastOf 72 = .ok (.iconst 0, 1) := by decide +kernel
theorem dX5_leastOf_73 : decode cX5_leastOf 73 = .ok (.ireturn, 1) := by decide +kernel
theorem dX5_mostOf_0 : decode cX5_mostOf 0 = .ok (.iload_n 0, 1) := by decide +kernel
theorem dX5_mostOf_1 : decode cX5_mostOf 1 = .ok (.tableswitch 78 3 14 #[63, 78, 63, 66, 68, 78, 63, 63, 70, 68, 68, 74], 63) := by decide +kernel
theorem dX5_mostOf_64 : decode cX5_mostOf 64 = .ok (.bipush 9, 2) := by decide +kernel
theorem dX5_mostOf_66 : decode cX5_mostOf 66 = .ok (.ireturn, 1) := by decide +kernel
theorem dX5_mostOf_67 : decode cX5_mostOf 67 = .ok (.iconst 4, 1) := by decide +kernel
theorem dX5_mostOf_68 : decode cX5_mostOf 68 = .ok (.ireturn, 1) := by decide +kernel
theorem dX5_mostOf_69 : decode cX5_mostOf 69 = .ok (.iconst 1, 1) := by decide +kernel
theorem dX5_mostOf_70 : decode cX5_mostOf 70 = .ok (.ireturn, 1) := by decide +kernel
theorem dX5_mostOf_71 : decode cX5_mostOf 71 = .ok (.sipush 400, 3) := by decide +kernel
theorem dX5_mostOf_74 : decode cX5_mostOf 74 = .ok (.ireturn, 1) := by decide +kernel
theorem dX5_mostOf_75 : decode cX5_mostOf 75 = .ok (.sipush 999, 3) := by decide +kernel
theorem dX5_mostOf_78 : decode cX5_mostOf 78 = .ok (.ireturn, 1) := by decide +kernel
theorem dX5_mostOf_79 : decode cX5_mostOf 79 = .ok (.bipush 99, 2) := by decide +kernel
theorem dX5_mostOf_81 : decode cX5_mostOf 81 = .ok (.ireturn, 1) := by decide +kernel
set_option maxRecDepth 20000 in
theorem ggX5_reads_X5_readsStatement : GoodIn wsX5_reads wsX5_readsStatement := goodIn_r _ [10, 5, 1, 11, 12, 13, 9, 14, 2, 15, 16, 17, 18, 19, 20, 21, 22, 23, 24, 25, 26, 39, 40, 41, 42, 43, 44, 45, 46, 47, 48, 49, 50, 51, 52] (by decide +kernel) (by decide +kernel)
set_option maxRecDepth 20000 in
theorem gX5_reads_X5_readsStatement : GoodIn wsX5_reads (wsV RX5 68 RX5 yX5_readsStatement wsX5_readsStatement) := goodIn_app (goodIn_of _ (by decide +kernel)) ggX5_reads_X5_readsStatement
set_option maxRecDepth 20000 in
theorem ggX5_reads_X5_copies : GoodIn wsX5_reads wsX5_copies := goodIn_r _ [29] (by decide +kernel) (by decide +kernel)
set_option maxRecDepth 20000 in
theorem gX5_reads_X5_copies : GoodIn wsX5_reads (va_wsS RX5 72 yX5_copies wsX5_copies) := goodIn_app (goodIn_of _ (by decide +kernel)) ggX5_reads_X5_copies
set_option maxRecDepth 20000 in
theorem ggX5_reads_X5_leastOf : GoodIn wsX5_reads wsX5_leastOf := goodIn_r _ [32] (by decide +kernel) (by decide +kernel)
set_option maxRecDepth 20000 in
theorem gX5_reads_X5_leastOf : GoodIn wsX5_reads (va_wsS RX5 76 yX5_leastOf wsX5_leastOf) := goodIn_app (goodIn_of _ (by decide +kernel)) ggX5_reads_X5_leastOf
set_option maxRecDepth 20000 in
theorem ggX5_reads_X5_mostOf : GoodIn wsX5_reads wsX5_mostOf := goodIn_r _ [35] (by decide +kernel) (by decide +kernel)
set_option maxRecDepth 20000 in
theorem gX5_reads_X5_mostOf : GoodIn wsX5_reads (va_wsS RX5 79 yX5_mostOf wsX5_mostOf) := goodIn_app (goodIn_of _ (by decide +kernel)) ggX5_reads_X5_mostOf
set_option maxRecDepth 20000 in
theorem ggX5_reads_X5_within : GoodIn wsX5_reads wsX5_within := goodIn_r _ [38] (by decide +kernel) (by decide +kernel)
set_option maxRecDepth 20000 in
theorem gX5_reads_X5_within : GoodIn wsX5_reads (va_wsS RX5 82 yX5_within wsX5_within) := goodIn_app (goodIn_of _ (by decide +kernel)) ggX5_reads_X5_within
theorem dX5_reads_0 : decode cX5_reads 0 = .ok (.aload_n 0, 1) := by decide +kernel
theorem dX5_reads_1 : decode cX5_reads 1 = .ok (.iconst 0, 1) := by decide +kernel
theorem dX5_reads_2 : decode cX5_reads 2 = .ok (.putfield 50, 3) := by decide +kernel
theorem dX5_reads_5 : decode cX5_reads 5 = .ok (.iconst 0, 1) := by decide +kernel
theorem dX5_reads_6 : decode cX5_reads 6 = .ok (.istore_n 1, 1) := by decide +kernel
theorem dX5_reads_7 : decode cX5_reads 7 = .ok (.aload_n 0, 1) := by decide +kernel
theorem dX5_reads_8 : decode cX5_reads 8 = .ok (.invokevirtual 68, 3) := by decide +kernel
theorem dX5_reads_11 : decode cX5_reads 11 = .ok (.ifCond .ne 12, 3) := by decide +kernel
theorem dX5_reads_14 : decode cX5_reads 14 = .ok (.sipush (-1000), 3) := by decide +kernel
theorem dX5_reads_17 : decode cX5_reads 17 = .ok (.aload_n 0, 1) := by decide +kernel
theorem dX5_reads_18 : decode cX5_reads 18 = .ok (.getfield 50, 3) := by decide +kernel
theorem dX5_reads_21 : decode cX5_reads 21 = .ok (.isub, 1) := by decide +kernel
theorem dX5_reads_22 : decode cX5_reads 22 = .ok (.ireturn, 1) := by decide +kernel
theorem dX5_reads_23 : decode cX5_reads 23 = .ok (.iinc 1 1, 3) := by decide +kernel
theorem dX5_reads_26 : decode cX5_reads 26 = .ok (.aload_n 0, 1) := by decide +kernel
theorem dX5_reads_27 : decode cX5_reads 27 = .ok (.getfield 50, 3) := by decide +kernel
theorem dX5_reads_30 : decode cX5_reads 30 = .ok (.aload_n 0, 1) := by decide +kernel
theorem dX5_reads_31 : decode cX5_reads 31 = .ok (.getfield 45, 3) := by decide +kernel
theorem dX5_reads_34 : decode cX5_reads 34 = .ok (.if_icmp .lt (-27), 3) := by decide +kernel
theorem dX5_reads_37 : decode cX5_reads 37 = .ok (.aload_n 0, 1) := by decide +kernel
theorem dX5_reads_38 : decode cX5_reads 38 = .ok (.getfield 13, 3) := by decide +kernel
theorem dX5_reads_41 : decode cX5_reads 41 = .ok (.aload_n 0, 1) := by decide +kernel
theorem dX5_reads_42 : decode cX5_reads 42 = .ok (.getfield 25, 3) := by decide +kernel
theorem dX5_reads_45 : decode cX5_reads 45 = .ok (.invokestatic 72, 3) := by decide +kernel
theorem dX5_reads_48 : decode cX5_reads 48 = .ok (.aload_n 0, 1) := by decide +kernel
theorem dX5_reads_49 : decode cX5_reads 49 = .ok (.iconst 0, 1) := by decide +kernel
theorem dX5_reads_50 : decode cX5_reads 50 = .ok (.putfield 50, 3) := by decide +kernel
theorem dX5_reads_53 : decode cX5_reads 53 = .ok (.aload_n 0, 1) := by decide +kernel
theorem dX5_reads_54 : decode cX5_reads 54 = .ok (.getfield 50, 3) := by decide +kernel
theorem dX5_reads_57 : decode cX5_reads 57 = .ok (.aload_n 0, 1) := by decide +kernel
theorem dX5_reads_58 : decode cX5_reads 58 = .ok (.getfield 45, 3) := by decide +kernel
theorem dX5_reads_61 : decode cX5_reads 61 = .ok (.if_icmp .ge 120, 3) := by decide +kernel
theorem dX5_reads_64 : decode cX5_reads 64 = .ok (.aload_n 0, 1) := by decide +kernel
theorem dX5_reads_65 : decode cX5_reads 65 = .ok (.getfield 50, 3) := by decide +kernel
theorem dX5_reads_68 : decode cX5_reads 68 = .ok (.istore_n 2, 1) := by decide +kernel
theorem dX5_reads_69 : decode cX5_reads 69 = .ok (.aload_n 0, 1) := by decide +kernel
theorem dX5_reads_70 : decode cX5_reads 70 = .ok (.invokevirtual 68, 3) := by decide +kernel
theorem dX5_reads_73 : decode cX5_reads 73 = .ok (.istore_n 3, 1) := by decide +kernel
theorem dX5_reads_74 : decode cX5_reads 74 = .ok (.aload_n 0, 1) := by decide +kernel
theorem dX5_reads_75 : decode cX5_reads 75 = .ok (.getfield 35, 3) := by decide +kernel
theorem dX5_reads_78 : decode cX5_reads 78 = .ok (.iconst 2, 1) := by decide +kernel
theorem dX5_reads_79 : decode cX5_reads 79 = .ok (.iaload, 1) := by decide +kernel
theorem dX5_reads_80 : decode cX5_reads 80 = .ok (.aload_n 0, 1) := by decide +kernel
theorem dX5_reads_81 : decode cX5_reads 81 = .ok (.getfield 35, 3) := by decide +kernel
theorem dX5_reads_84 : decode cX5_reads 84 = .ok (.iconst 0, 1) := by decide +kernel
theorem dX5_reads_85 : decode cX5_reads 85 = .ok (.iaload, 1) := by decide +kernel
theorem dX5_reads_86 : decode cX5_reads 86 = .ok (.invokestatic 76, 3) := by decide +kernel
theorem dX5_reads_89 : decode cX5_reads 89 = .ok (.aload_n 0, 1) := by decide +kernel
theorem dX5_reads_90 : decode cX5_reads 90 = .ok (.getfield 35, 3) := by decide +kernel
theorem dX5_reads_93 : decode cX5_reads 93 = .ok (.iconst 0, 1) := by decide +kernel
theorem dX5_reads_94 : decode cX5_reads 94 = .ok (.iaload, 1) := by decide +kernel
theorem dX5_reads_95 : decode cX5_reads 95 = .ok (.invokestatic 79, 3) := by decide +kernel
theorem dX5_reads_98 : decode cX5_reads 98 = .ok (.invokestatic 82, 3) := by decide +kernel
theorem dX5_reads_101 : decode cX5_reads 101 = .ok (.ifCond .ne 16, 3) := by decide +kernel
theorem dX5_reads_104 : decode cX5_reads 104 = .ok (.aload_n 0, 1) := by decide +kernel
theorem dX5_reads_105 : decode cX5_reads 105 = .ok (.getfield 25, 3) := by decide +kernel
theorem dX5_reads_108 : decode cX5_reads 108 = .ok (.sipush 150, 3) := by decide +kernel
theorem dX5_reads_111 : decode cX5_reads 111 = .ok (.iaload, 1) := by decide +kernel
theorem dX5_reads_112 : decode cX5_reads 112 = .ok (.bipush 20, 2) := by decide +kernel
theorem dX5_reads_114 : decode cX5_reads 114 = .ok (.if_icmp .ne 9, 3) := by decide +kernel
theorem dX5_reads_117 : decode cX5_reads 117 = .ok (.sipush (-2000), 3) := by decide +kernel
theorem dX5_reads_120 : decode cX5_reads 120 = .ok (.iload_n 2, 1) := by decide +kernel
theorem dX5_reads_121 : decode cX5_reads 121 = .ok (.isub, 1) := by decide +kernel
theorem dX5_reads_122 : decode cX5_reads 122 = .ok (.ireturn, 1) := by decide +kernel
theorem dX5_reads_123 : decode cX5_reads 123 = .ok (.iconst 0, 1) := by decide +kernel
theorem dX5_reads_124 : decode cX5_reads 124 = .ok (.istore 4, 2) := by decide +kernel
theorem dX5_reads_126 : decode cX5_reads 126 = .ok (.iload 4, 2) := by decide +kernel
theorem dX5_reads_128 : decode cX5_reads 128 = .ok (.iconst 3, 1) := by decide +kernel
theorem dX5_reads_129 : decode cX5_reads 129 = .ok (.if_icmp .ge 37, 3) := by decide +kernel
theorem dX5_reads_132 : decode cX5_reads 132 = .ok (.aload_n 0, 1) := by decide +kernel
theorem dX5_reads_133 : decode cX5_reads 133 = .ok (.getfield 25, 3) := by decide +kernel
theorem dX5_reads_136 : decode cX5_reads 136 = .ok (.bipush 90, 2) := by decide +kernel
theorem dX5_reads_138 : decode cX5_reads 138 = .ok (.iconst 3, 1) := by decide +kernel
theorem dX5_reads_139 : decode cX5_reads 139 = .ok (.aload_n 0, 1) := by decide +kernel
theorem dX5_reads_140 : decode cX5_reads 140 = .ok (.getfield 25, 3) := by decide +kernel
theorem dX5_reads_143 : decode cX5_reads 143 = .ok (.sipush 150, 3) := by decide +kernel
theorem dX5_reads_146 : decode cX5_reads 146 = .ok (.iaload, 1) := by decide +kernel
theorem dX5_reads_147 : decode cX5_reads 147 = .ok (.imul, 1) := by decide +kernel
theorem dX5_reads_148 : decode cX5_reads 148 = .ok (.iadd, 1) := by decide +kernel
theorem dX5_reads_149 : decode cX5_reads 149 = .ok (.iload 4, 2) := by decide +kernel
theorem dX5_reads_151 : decode cX5_reads 151 = .ok (.iadd, 1) := by decide +kernel
theorem dX5_reads_152 : decode cX5_reads 152 = .ok (.aload_n 0, 1) := by decide +kernel
theorem dX5_reads_153 : decode cX5_reads 153 = .ok (.getfield 35, 3) := by decide +kernel
theorem dX5_reads_156 : decode cX5_reads 156 = .ok (.iload 4, 2) := by decide +kernel
theorem dX5_reads_158 : decode cX5_reads 158 = .ok (.iaload, 1) := by decide +kernel
theorem dX5_reads_159 : decode cX5_reads 159 = .ok (.iastore, 1) := by decide +kernel
theorem dX5_reads_160 : decode cX5_reads 160 = .ok (.iinc 4 1, 3) := by decide +kernel
theorem dX5_reads_163 : decode cX5_reads 163 = .ok (.goto (-37), 3) := by decide +kernel
theorem dX5_reads_166 : decode cX5_reads 166 = .ok (.aload_n 0, 1) := by decide +kernel
theorem dX5_reads_167 : decode cX5_reads 167 = .ok (.getfield 25, 3) := by decide +kernel
theorem dX5_reads_170 : decode cX5_reads 170 = .ok (.sipush 150, 3) := by decide +kernel
theorem dX5_reads_173 : decode cX5_reads 173 = .ok (.dup2, 1) := by decide +kernel
theorem dX5_reads_174 : decode cX5_reads 174 = .ok (.iaload, 1) := by decide +kernel
theorem dX5_reads_175 : decode cX5_reads 175 = .ok (.iconst 1, 1) := by decide +kernel
theorem dX5_reads_176 : decode cX5_reads 176 = .ok (.iadd, 1) := by decide +kernel
theorem dX5_reads_177 : decode cX5_reads 177 = .ok (.iastore, 1) := by decide +kernel
theorem dX5_reads_178 : decode cX5_reads 178 = .ok (.goto (-125), 3) := by decide +kernel
theorem dX5_reads_181 : decode cX5_reads 181 = .ok (.aload_n 0, 1) := by decide +kernel
theorem dX5_reads_182 : decode cX5_reads 182 = .ok (.getfield 25, 3) := by decide +kernel
theorem dX5_reads_185 : decode cX5_reads 185 = .ok (.aload_n 0, 1) := by decide +kernel
theorem dX5_reads_186 : decode cX5_reads 186 = .ok (.getfield 13, 3) := by decide +kernel
theorem dX5_reads_189 : decode cX5_reads 189 = .ok (.invokestatic 72, 3) := by decide +kernel
theorem dX5_reads_192 : decode cX5_reads 192 = .ok (.iload_n 1, 1) := by decide +kernel
theorem dX5_reads_193 : decode cX5_reads 193 = .ok (.ireturn, 1) := by decide +kernel
set_option maxRecDepth 20000 in
theorem ggX5_book_X5_reads : GoodIn wsX5_book wsX5_reads := goodIn_r _ [6, 7, 1, 8, 9, 10, 11, 12, 13, 5, 14, 15, 16, 17, 18, 19, 20, 21, 22, 23, 24, 25, 26, 27, 28, 29, 30, 31, 32, 33, 34, 35, 36, 37, 38, 39, 40, 41, 42, 43, 44, 45, 46, 47, 48, 49, 50, 51, 52, 53, 54, 55, 56] (by decide +kernel) (by decide +kernel)
set_option maxRecDepth 20000 in
theorem gX5_book_X5_reads : GoodIn wsX5_book (wsV RX5 86 RX5 yX5_reads wsX5_reads) := goodIn_app (goodIn_of _ (by decide +kernel)) ggX5_book_X5_reads
theorem dX5_book_0 : decode cX5_book 0 = .ok (.aload_n 0, 1) := by decide +kernel
theorem dX5_book_1 : decode cX5_book 1 = .ok (.invokevirtual 86, 3) := by decide +kernel
theorem dX5_book_4 : decode cX5_book 4 = .ok (.istore_n 1, 1) := by decide +kernel
theorem dX5_book_5 : decode cX5_book 5 = .ok (.aload_n 0, 1) := by decide +kernel
theorem dX5_book_6 : decode cX5_book 6 = .ok (.iconst 0, 1) := by decide +kernel
theorem dX5_book_7 : decode cX5_book 7 = .ok (.putfield 45, 3) := by decide +kernel
theorem dX5_book_10 : decode cX5_book 10 = .ok (.iload_n 1, 1) := by decide +kernel
theorem dX5_book_11 : decode cX5_book 11 = .ok (.ireturn, 1) := by decide +kernel
theorem dX5_becomes_0 : decode cX5_becomes 0 = .ok (.aload_n 0, 1) := by decide +kernel
theorem dX5_becomes_1 : decode cX5_becomes 1 = .ok (.getfield 13, 3) := by decide +kernel
theorem dX5_becomes_4 : decode cX5_becomes 4 = .ok (.iload_n 1, 1) := by decide +kernel
theorem dX5_becomes_5 : decode cX5_becomes 5 = .ok (.iaload, 1) := by decide +kernel
theorem dX5_becomes_6 : decode cX5_becomes 6 = .ok (.istore_n 3, 1) := by decide +kernel
theorem dX5_becomes_7 : decode cX5_becomes 7 = .ok (.aload_n 0, 1) := by decide +kernel
theorem dX5_becomes_8 : decode cX5_becomes 8 = .ok (.getfield 13, 3) := by decide +kernel
theorem dX5_becomes_11 : decode cX5_becomes 11 = .ok (.iload_n 1, 1) := by decide +kernel
theorem dX5_becomes_12 : decode cX5_becomes 12 = .ok (.iload_n 2, 1) := by decide +kernel
theorem dX5_becomes_13 : decode cX5_becomes 13 = .ok (.iastore, 1) := by decide +kernel
theorem dX5_becomes_14 : decode cX5_becomes 14 = .ok (.iload_n 3, 1) := by decide +kernel
theorem dX5_becomes_15 : decode cX5_becomes 15 = .ok (.ireturn, 1) := by decide +kernel
set_option maxRecDepth 20000 in
theorem ggX5_set_X5_isIn : GoodIn wsX5_set wsX5_isIn := goodIn_r _ [4] (by decide +kernel) (by decide +kernel)
set_option maxRecDepth 20000 in
theorem gX5_set_X5_isIn : GoodIn wsX5_set (va_wsS RX5 89 yX5_isIn wsX5_isIn) := goodIn_app (goodIn_of _ (by decide +kernel)) ggX5_set_X5_isIn
set_option maxRecDepth 20000 in
theorem ggX5_set_X5_refuse : GoodIn wsX5_set wsX5_refuse := goodIn_r _ [8, 9, 24, 25, 26, 27, 28, 29, 30, 31, 32, 33, 34, 35, 36, 37] (by decide +kernel) (by decide +kernel)
set_option maxRecDepth 20000 in
theorem gX5_set_X5_refuse : GoodIn wsX5_set (wsV RX5 41 RX5 yX5_refuse wsX5_refuse) := goodIn_app (goodIn_of _ (by decide +kernel)) ggX5_set_X5_refuse
set_option maxRecDepth 20000 in
theorem ggX5_set_X5_leastOf : GoodIn wsX5_set wsX5_leastOf := goodIn_r _ [12] (by decide +kernel) (by decide +kernel)
set_option maxRecDepth 20000 in
theorem gX5_set_X5_leastOf : GoodIn wsX5_set (va_wsS RX5 76 yX5_leastOf wsX5_leastOf) := goodIn_app (goodIn_of _ (by decide +kernel)) ggX5_set_X5_leastOf
set_option maxRecDepth 20000 in
theorem ggX5_set_X5_mostOf : GoodIn wsX5_set wsX5_mostOf := goodIn_r _ [15] (by decide +kernel) (by decide +kernel)
set_option maxRecDepth 20000 in
theorem gX5_set_X5_mostOf : GoodIn wsX5_set (va_wsS RX5 79 yX5_mostOf wsX5_mostOf) := goodIn_app (goodIn_of _ (by decide +kernel)) ggX5_set_X5_mostOf
set_option maxRecDepth 20000 in
theorem ggX5_set_X5_within : GoodIn wsX5_set wsX5_within := goodIn_r _ [18] (by decide +kernel) (by decide +kernel)
set_option maxRecDepth 20000 in
theorem gX5_set_X5_within : GoodIn wsX5_set (va_wsS RX5 82 yX5_within wsX5_within) := goodIn_app (goodIn_of _ (by decide +kernel)) ggX5_set_X5_within
set_option maxRecDepth 20000 in
theorem ggX5_set_X5_becomes : GoodIn wsX5_set wsX5_becomes := goodIn_r _ [22, 23, 24, 25, 26, 27, 28, 29, 30, 31, 32, 33, 34, 35, 36, 37] (by decide +kernel) (by decide +kernel)
set_option maxRecDepth 20000 in
theorem gX5_set_X5_becomes : GoodIn wsX5_set (wsV RX5 92 RX5 yX5_becomes wsX5_becomes) := goodIn_app (goodIn_of _ (by decide +kernel)) ggX5_set_X5_becomes
theorem dX5_set_0 : decode cX5_set 0 = .ok (.iload_n 1, 1) := by decide +kernel
theorem dX5_set_1 : decode cX5_set 1 = .ok (.bipush 15, 2) := by decide +kernel
theorem dX5_set_3 : decode cX5_set 3 = .ok (.invokestatic 89, 3) := by decide +kernel
theorem dX5_set_6 : decode cX5_set 6 = .ok (.ifCond .ne 10, 3) := by decide +kernel
theorem dX5_set_9 : decode cX5_set 9 = .ok (.aload_n 0, 1) := by decide +kernel
theorem dX5_set_10 : decode cX5_set 10 = .ok (.bipush (-2), 2) := by decide +kernel
theorem dX5_set_12 : decode cX5_set 12 = .ok (.invokevirtual 41, 3) := by decide +kernel
theorem dX5_set_15 : decode cX5_set 15 = .ok (.ireturn, 1) := by decide +kernel
theorem dX5_set_16 : decode cX5_set 16 = .ok (.iload_n 2, 1) := by decide +kernel
theorem dX5_set_17 : decode cX5_set 17 = .ok (.iload_n 1, 1) := by decide +kernel
theorem dX5_set_18 : decode cX5_set 18 = .ok (.invokestatic 76, 3) := by decide +kernel
theorem dX5_set_21 : decode cX5_set 21 = .ok (.iload_n 1, 1) := by decide +kernel
theorem dX5_set_22 : decode cX5_set 22 = .ok (.invokestatic 79, 3) := by decide +kernel
theorem dX5_set_25 : decode cX5_set 25 = .ok (.invokestatic 82, 3) := by decide +kernel
theorem dX5_set_28 : decode cX5_set 28 = .ok (.istore_n 3, 1) := by decide +kernel
theorem dX5_set_29 : decode cX5_set 29 = .ok (.iload_n 3, 1) := by decide +kernel
theorem dX5_set_30 : decode cX5_set 30 = .ok (.ifCond .eq 11, 3) := by decide +kernel
theorem dX5_set_33 : decode cX5_set 33 = .ok (.aload_n 0, 1) := by decide +kernel
theorem dX5_set_34 : decode cX5_set 34 = .ok (.iload_n 3, 1) := by decide +kernel
theorem dX5_set_35 : decode cX5_set 35 = .ok (.invokevirtual 41, 3) := by decide +kernel
theorem dX5_set_38 : decode cX5_set 38 = .ok (.goto 9, 3) := by decide +kernel
theorem dX5_set_41 : decode cX5_set 41 = .ok (.aload_n 0, 1) := by decide +kernel
theorem dX5_set_42 : decode cX5_set 42 = .ok (.iload_n 1, 1) := by decide +kernel
theorem dX5_set_43 : decode cX5_set 43 = .ok (.iload_n 2, 1) := by decide +kernel
theorem dX5_set_44 : decode cX5_set 44 = .ok (.invokevirtual 92, 3) := by decide +kernel
theorem dX5_set_47 : decode cX5_set 47 = .ok (.ireturn, 1) := by decide +kernel
set_option maxRecDepth 20000 in
theorem ggX5_glass_X5_within : GoodIn wsX5_glass wsX5_within := goodIn_r _ [4] (by decide +kernel) (by decide +kernel)
set_option maxRecDepth 20000 in
theorem gX5_glass_X5_within : GoodIn wsX5_glass (va_wsS RX5 82 yX5_within wsX5_within) := goodIn_app (goodIn_of _ (by decide +kernel)) ggX5_glass_X5_within
set_option maxRecDepth 20000 in
theorem ggX5_glass_X5_refuse : GoodIn wsX5_glass wsX5_refuse := goodIn_r _ [8, 9, 15, 16, 17, 18, 19, 20, 21, 22, 23, 24, 25, 26, 27, 28] (by decide +kernel) (by decide +kernel)
set_option maxRecDepth 20000 in
theorem gX5_glass_X5_refuse : GoodIn wsX5_glass (wsV RX5 41 RX5 yX5_refuse wsX5_refuse) := goodIn_app (goodIn_of _ (by decide +kernel)) ggX5_glass_X5_refuse
set_option maxRecDepth 20000 in
theorem ggX5_glass_X5_becomes : GoodIn wsX5_glass wsX5_becomes := goodIn_r _ [13, 14, 15, 16, 17, 18, 19, 20, 21, 22, 23, 24, 25, 26, 27, 28] (by decide +kernel) (by decide +kernel)
set_option maxRecDepth 20000 in
theorem gX5_glass_X5_becomes : GoodIn wsX5_glass (wsV RX5 92 RX5 yX5_becomes wsX5_becomes) := goodIn_app (goodIn_of _ (by decide +kernel)) ggX5_glass_X5_becomes
theorem dX5_glass_0 : decode cX5_glass 0 = .ok (.iload_n 1, 1) := by decide +kernel
theorem dX5_glass_1 : decode cX5_glass 1 = .ok (.iconst 0, 1) := by decide +kernel
theorem dX5_glass_2 : decode cX5_glass 2 = .ok (.sipush 9999, 3) := by decide +kernel
theorem dX5_glass_5 : decode cX5_glass 5 = .ok (.invokestatic 82, 3) := by decide +kernel
theorem dX5_glass_8 : decode cX5_glass 8 = .ok (.istore_n 2, 1) := by decide +kernel
theorem dX5_glass_9 : decode cX5_glass 9 = .ok (.iload_n 2, 1) := by decide +kernel
theorem dX5_glass_10 : decode cX5_glass 10 = .ok (.ifCond .eq 11, 3) := by decide +kernel
theorem dX5_glass_13 : decode cX5_glass 13 = .ok (.aload_n 0, 1) := by decide +kernel
theorem dX5_glass_14 : decode cX5_glass 14 = .ok (.iload_n 2, 1) := by decide +kernel
theorem dX5_glass_15 : decode cX5_glass 15 = .ok (.invokevirtual 41, 3) := by decide +kernel
theorem dX5_glass_18 : decode cX5_glass 18 = .ok (.goto 10, 3) := by decide +kernel
theorem dX5_glass_21 : decode cX5_glass 21 = .ok (.aload_n 0, 1) := by decide +kernel
theorem dX5_glass_22 : decode cX5_glass 22 = .ok (.bipush 15, 2) := by decide +kernel
theorem dX5_glass_24 : decode cX5_glass 24 = .ok (.iload_n 1, 1) := by decide +kernel
theorem dX5_glass_25 : decode cX5_glass 25 = .ok (.invokevirtual 92, 3) := by decide +kernel
theorem dX5_glass_28 : decode cX5_glass 28 = .ok (.ireturn, 1) := by decide +kernel
theorem dX5_lesser_0 : decode cX5_lesser 0 = .ok (.iload_n 0, 1) := by decide +kernel
theorem dX5_lesser_1 : decode cX5_lesser 1 = .ok (.iload_n 1, 1) := by decide +kernel
theorem dX5_lesser_2 : decode cX5_lesser 2 = .ok (.if_icmp .ge 7, 3) := by decide +kernel
theorem dX5_lesser_5 : decode cX5_lesser 5 = .ok (.iload_n 0, 1) := by decide +kernel
theorem dX5_lesser_6 : decode cX5_lesser 6 = .ok (.goto 4, 3) := by decide +kernel
theorem dX5_lesser_9 : decode cX5_lesser 9 = .ok (.iload_n 1, 1) := by decide +kernel
theorem dX5_lesser_10 : decode cX5_lesser 10 = .ok (.ireturn, 1) := by decide +kernel
set_option maxRecDepth 20000 in
theorem ggX5_wet_X5_within : GoodIn wsX5_wet wsX5_within := goodIn_r _ [5] (by decide +kernel) (by decide +kernel)
set_option maxRecDepth 20000 in
theorem gX5_wet_X5_within : GoodIn wsX5_wet (va_wsS RX5 82 yX5_within wsX5_within) := goodIn_app (goodIn_of _ (by decide +kernel)) ggX5_wet_X5_within
set_option maxRecDepth 20000 in
theorem ggX5_wet_X5_refuse : GoodIn wsX5_wet wsX5_refuse := goodIn_r _ [9, 10, 18, 19, 20, 21, 22, 23, 24, 25, 26, 27, 28, 29, 30, 31] (by decide +kernel) (by decide +kernel)
set_option maxRecDepth 20000 in
theorem gX5_wet_X5_refuse : GoodIn wsX5_wet (wsV RX5 41 RX5 yX5_refuse wsX5_refuse) := goodIn_app (goodIn_of _ (by decide +kernel)) ggX5_wet_X5_refuse
set_option maxRecDepth 20000 in
theorem ggX5_wet_X5_lesser : GoodIn wsX5_wet wsX5_lesser := goodIn_r _ [13] (by decide +kernel) (by decide +kernel)
set_option maxRecDepth 20000 in
theorem gX5_wet_X5_lesser : GoodIn wsX5_wet (va_wsS RX5 96 yX5_lesser wsX5_lesser) := goodIn_app (goodIn_of _ (by decide +kernel)) ggX5_wet_X5_lesser
set_option maxRecDepth 20000 in
theorem ggX5_wet_X5_becomes : GoodIn wsX5_wet wsX5_becomes := goodIn_r _ [17, 1, 18, 19, 20, 21, 22, 23, 24, 25, 26, 27, 28, 29, 30, 31] (by decide +kernel) (by decide +kernel)
set_option maxRecDepth 20000 in
theorem gX5_wet_X5_becomes : GoodIn wsX5_wet (wsV RX5 92 RX5 yX5_becomes wsX5_becomes) := goodIn_app (goodIn_of _ (by decide +kernel)) ggX5_wet_X5_becomes
theorem dX5_wet_0 : decode cX5_wet 0 = .ok (.iload_n 1, 1) := by decide +kernel
theorem dX5_wet_1 : decode cX5_wet 1 = .ok (.iconst 0, 1) := by decide +kernel
theorem dX5_wet_2 : decode cX5_wet 2 = .ok (.sipush 9900, 3) := by decide +kernel
theorem dX5_wet_5 : decode cX5_wet 5 = .ok (.invokestatic 82, 3) := by decide +kernel
theorem dX5_wet_8 : decode cX5_wet 8 = .ok (.istore_n 2, 1) := by decide +kernel
theorem dX5_wet_9 : decode cX5_wet 9 = .ok (.iload_n 2, 1) := by decide +kernel
theorem dX5_wet_10 : decode cX5_wet 10 = .ok (.ifCond .eq 11, 3) := by decide +kernel
theorem dX5_wet_13 : decode cX5_wet 13 = .ok (.aload_n 0, 1) := by decide +kernel
theorem dX5_wet_14 : decode cX5_wet 14 = .ok (.iload_n 2, 1) := by decide +kernel
theorem dX5_wet_15 : decode cX5_wet 15 = .ok (.invokevirtual 41, 3) := by decide +kernel
theorem dX5_wet_18 : decode cX5_wet 18 = .ok (.goto 22, 3) := by decide +kernel
theorem dX5_wet_21 : decode cX5_wet 21 = .ok (.aload_n 0, 1) := by decide +kernel
theorem dX5_wet_22 : decode cX5_wet 22 = .ok (.bipush 18, 2) := by decide +kernel
theorem dX5_wet_24 : decode cX5_wet 24 = .ok (.iload_n 1, 1) := by decide +kernel
theorem dX5_wet_25 : decode cX5_wet 25 = .ok (.bipush 100, 2) := by decide +kernel
theorem dX5_wet_27 : decode cX5_wet 27 = .ok (.aload_n 0, 1) := by decide +kernel
theorem dX5_wet_28 : decode cX5_wet 28 = .ok (.getfield 13, 3) := by decide +kernel
