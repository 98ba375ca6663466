theorem dX0_riseNoMore_17 : decode cX0_riseNoMore 17 = .ok (.getfield 73, 3) := by decide +kernel
theorem dX0_riseNoMore_20 : decode cX0_riseNoMore 20 = .ok (.bipush 50, 2) := by decide +kernel
theorem dX0_riseNoMore_22 : decode cX0_riseNoMore 22 = .ok (.if_icmp .lt 36, 3) := by decide +kernel
theorem dX0_riseNoMore_25 : decode cX0_riseNoMore 25 = .ok (.aload_n 0, 1) := by decide +kernel
theorem dX0_riseNoMore_26 : decode cX0_riseNoMore 26 = .ok (.aload_n 0, 1) := by decide +kernel
theorem dX0_riseNoMore_27 : decode cX0_riseNoMore 27 = .ok (.getfield 40, 3) := by decide +kernel
theorem dX0_riseNoMore_30 : decode cX0_riseNoMore 30 = .ok (.ifCond .ne 24, 3) := by decide +kernel
theorem dX0_riseNoMore_33 : decode cX0_riseNoMore 33 = .ok (.aload_n 0, 1) := by decide +kernel
theorem dX0_riseNoMore_34 : decode cX0_riseNoMore 34 = .ok (.getfield 30, 3) := by decide +kernel
theorem dX0_riseNoMore_37 : decode cX0_riseNoMore 37 = .ok (.aload_n 0, 1) := by decide +kernel
theorem dX0_riseNoMore_38 : decode cX0_riseNoMore 38 = .ok (.getfield 14, 3) := by decide +kernel
theorem dX0_riseNoMore_41 : decode cX0_riseNoMore 41 = .ok (.bipush 14, 2) := by decide +kernel
theorem dX0_riseNoMore_43 : decode cX0_riseNoMore 43 = .ok (.invokevirtual 87, 3) := by decide +kernel
theorem dX0_riseNoMore_46 : decode cX0_riseNoMore 46 = .ok (.if_icmp .ge 8, 3) := by decide +kernel
theorem dX0_riseNoMore_49 : decode cX0_riseNoMore 49 = .ok (.bipush 6, 2) := by decide +kernel
theorem dX0_riseNoMore_51 : decode cX0_riseNoMore 51 = .ok (.goto 4, 3) := by decide +kernel
theorem dX0_riseNoMore_54 : decode cX0_riseNoMore 54 = .ok (.iconst 5, 1) := by decide +kernel
theorem dX0_riseNoMore_55 : decode cX0_riseNoMore 55 = .ok (.invokevirtual 108, 3) := by decide +kernel
theorem dX0_riseNoMore_58 : decode cX0_riseNoMore 58 = .ok (.return_, 1) := by decide +kernel
set_option maxRecDepth 20000 in
theorem ggX0_swingOn_X0_turn : GoodIn wsX0_swingOn wsX0_turn := goodIn_r _ [7, 8, 1, 2, 9, 10, 11, 12, 13, 14, 15, 16, 17, 18, 19, 20, 21, 22, 23, 24, 25, 26] (by decide +kernel) (by decide +kernel)
set_option maxRecDepth 20000 in
theorem gX0_swingOn_X0_turn : GoodIn wsX0_swingOn (wsV RX0 108 RX0 yX0_turn wsX0_turn) := goodIn_app (goodIn_of _ (by decide +kernel)) ggX0_swingOn_X0_turn
theorem dX0_swingOn_0 : decode cX0_swingOn 0 = .ok (.aload_n 0, 1) := by decide +kernel
theorem dX0_swingOn_1 : decode cX0_swingOn 1 = .ok (.getfield 61, 3) := by decide +kernel
theorem dX0_swingOn_4 : decode cX0_swingOn 4 = .ok (.iconst 3, 1) := by decide +kernel
theorem dX0_swingOn_5 : decode cX0_swingOn 5 = .ok (.irem, 1) := by decide +kernel
theorem dX0_swingOn_6 : decode cX0_swingOn 6 = .ok (.ifCond .ne 17, 3) := by decide +kernel
theorem dX0_swingOn_9 : decode cX0_swingOn 9 = .ok (.aload_n 0, 1) := by decide +kernel
theorem dX0_swingOn_10 : decode cX0_swingOn 10 = .ok (.aload_n 0, 1) := by decide +kernel
theorem dX0_swingOn_11 : decode cX0_swingOn 11 = .ok (.getfield 64, 3) := by decide +kernel
theorem dX0_swingOn_14 : decode cX0_swingOn 14 = .ok (.bipush 8, 2) := by decide +kernel
theorem dX0_swingOn_16 : decode cX0_swingOn 16 = .ok (.idiv, 1) := by decide +kernel
theorem dX0_swingOn_17 : decode cX0_swingOn 17 = .ok (.bipush 7, 2) := by decide +kernel
theorem dX0_swingOn_19 : decode cX0_swingOn 19 = .ok (.imul, 1) := by decide +kernel
theorem dX0_swingOn_20 : decode cX0_swingOn 20 = .ok (.putfield 64, 3) := by decide +kernel
theorem dX0_swingOn_23 : decode cX0_swingOn 23 = .ok (.aload_n 0, 1) := by decide +kernel
theorem dX0_swingOn_24 : decode cX0_swingOn 24 = .ok (.getfield 64, 3) := by decide +kernel
theorem dX0_swingOn_27 : decode cX0_swingOn 27 = .ok (.bipush 10, 2) := by decide +kernel
theorem dX0_swingOn_29 : decode cX0_swingOn 29 = .ok (.if_icmp .ge 8, 3) := by decide +kernel
theorem dX0_swingOn_32 : decode cX0_swingOn 32 = .ok (.aload_n 0, 1) := by decide +kernel
theorem dX0_swingOn_33 : decode cX0_swingOn 33 = .ok (.iconst 0, 1) := by decide +kernel
theorem dX0_swingOn_34 : decode cX0_swingOn 34 = .ok (.invokevirtual 108, 3) := by decide +kernel
theorem dX0_swingOn_37 : decode cX0_swingOn 37 = .ok (.return_, 1) := by decide +kernel
set_option maxRecDepth 20000 in
theorem ggX0_tip_X1_add : GoodIn wsX0_tip wsX1_add := goodIn_r _ [16, 17, 18, 52, 53] (by decide +kernel) (by decide +kernel)
set_option maxRecDepth 20000 in
theorem gX0_tip_X1_add : GoodIn wsX0_tip (wsV RX0 84 RX1 yX1_add wsX1_add) := goodIn_app (goodIn_of _ (by decide +kernel)) ggX0_tip_X1_add
set_option maxRecDepth 20000 in
theorem ggX0_tip_X1_at : GoodIn wsX0_tip wsX1_at := goodIn_r _ [22, 17, 18, 52, 53] (by decide +kernel) (by decide +kernel)
set_option maxRecDepth 20000 in
theorem gX0_tip_X1_at : GoodIn wsX0_tip (wsV RX0 87 RX1 yX1_at wsX1_at) := goodIn_app (goodIn_of _ (by decide +kernel)) ggX0_tip_X1_at
set_option maxRecDepth 20000 in
theorem ggX0_tip_X0_mostWet : GoodIn wsX0_tip wsX0_mostWet := goodIn_r _ [27, 6, 19, 20, 21, 15, 22, 17, 18, 34, 35, 36, 37, 38, 39, 40, 41, 42, 43, 44, 45, 46, 47, 48, 49, 50, 51, 52, 53] (by decide +kernel) (by decide +kernel)
set_option maxRecDepth 20000 in
theorem gX0_tip_X0_mostWet : GoodIn wsX0_tip (wsV RX0 164 RX0 yX0_mostWet wsX0_mostWet) := goodIn_app (goodIn_of _ (by decide +kernel)) ggX0_tip_X0_mostWet
set_option maxRecDepth 20000 in
theorem ggX0_tip_X0_turn : GoodIn wsX0_tip wsX0_turn := goodIn_r _ [31, 32, 1, 33, 34, 35, 36, 37, 38, 39, 40, 41, 42, 43, 44, 45, 46, 47, 48, 49, 50, 51] (by decide +kernel) (by decide +kernel)
set_option maxRecDepth 20000 in
theorem gX0_tip_X0_turn : GoodIn wsX0_tip (wsV RX0 108 RX0 yX0_turn wsX0_turn) := goodIn_app (goodIn_of _ (by decide +kernel)) ggX0_tip_X0_turn
theorem dX0_tip_0 : decode cX0_tip 0 = .ok (.aload_n 0, 1) := by decide +kernel
theorem dX0_tip_1 : decode cX0_tip 1 = .ok (.getfield 61, 3) := by decide +kernel
theorem dX0_tip_4 : decode cX0_tip 4 = .ok (.iconst 5, 1) := by decide +kernel
theorem dX0_tip_5 : decode cX0_tip 5 = .ok (.if_icmp .ge 4, 3) := by decide +kernel
theorem dX0_tip_8 : decode cX0_tip 8 = .ok (.return_, 1) := by decide +kernel
theorem dX0_tip_9 : decode cX0_tip 9 = .ok (.aload_n 0, 1) := by decide +kernel
theorem dX0_tip_10 : decode cX0_tip 10 = .ok (.dup, 1) := by decide +kernel
theorem dX0_tip_11 : decode cX0_tip 11 = .ok (.getfield 55, 3) := by decide +kernel
theorem dX0_tip_14 : decode cX0_tip 14 = .ok (.iconst 1, 1) := by decide +kernel
theorem dX0_tip_15 : decode cX0_tip 15 = .ok (.iadd, 1) := by decide +kernel
theorem dX0_tip_16 : decode cX0_tip 16 = .ok (.putfield 55, 3) := by decide +kernel
theorem dX0_tip_19 : decode cX0_tip 19 = .ok (.aload_n 0, 1) := by decide +kernel
theorem dX0_tip_20 : decode cX0_tip 20 = .ok (.getfield 27, 3) := by decide +kernel
theorem dX0_tip_23 : decode cX0_tip 23 = .ok (.aload_n 0, 1) := by decide +kernel
theorem dX0_tip_24 : decode cX0_tip 24 = .ok (.getfield 52, 3) := by decide +kernel
theorem dX0_tip_27 : decode cX0_tip 27 = .ok (.invokevirtual 84, 3) := by decide +kernel
theorem dX0_tip_30 : decode cX0_tip 30 = .ok (.aload_n 0, 1) := by decide +kernel
theorem dX0_tip_31 : decode cX0_tip 31 = .ok (.getfield 30, 3) := by decide +kernel
theorem dX0_tip_34 : decode cX0_tip 34 = .ok (.aload_n 0, 1) := by decide +kernel
theorem dX0_tip_35 : decode cX0_tip 35 = .ok (.getfield 14, 3) := by decide +kernel
theorem dX0_tip_38 : decode cX0_tip 38 = .ok (.bipush 14, 2) := by decide +kernel
theorem dX0_tip_40 : decode cX0_tip 40 = .ok (.invokevirtual 87, 3) := by decide +kernel
theorem dX0_tip_43 : decode cX0_tip 43 = .ok (.if_icmp .lt 40, 3) := by decide +kernel
theorem dX0_tip_46 : decode cX0_tip 46 = .ok (.aload_n 0, 1) := by decide +kernel
theorem dX0_tip_47 : decode cX0_tip 47 = .ok (.getfield 30, 3) := by decide +kernel
theorem dX0_tip_50 : decode cX0_tip 50 = .ok (.iconst 5, 1) := by decide +kernel
theorem dX0_tip_51 : decode cX0_tip 51 = .ok (.if_icmp .lt 32, 3) := by decide +kernel
theorem dX0_tip_54 : decode cX0_tip 54 = .ok (.aload_n 0, 1) := by decide +kernel
theorem dX0_tip_55 : decode cX0_tip 55 = .ok (.dup, 1) := by decide +kernel
theorem dX0_tip_56 : decode cX0_tip 56 = .ok (.getfield 30, 3) := by decide +kernel
theorem dX0_tip_59 : decode cX0_tip 59 = .ok (.iconst 5, 1) := by decide +kernel
theorem dX0_tip_60 : decode cX0_tip 60 = .ok (.isub, 1) := by decide +kernel
theorem dX0_tip_61 : decode cX0_tip 61 = .ok (.putfield 30, 3) := by decide +kernel
theorem dX0_tip_64 : decode cX0_tip 64 = .ok (.aload_n 0, 1) := by decide +kernel
theorem dX0_tip_65 : decode cX0_tip 65 = .ok (.aload_n 0, 1) := by decide +kernel
theorem dX0_tip_66 : decode cX0_tip 66 = .ok (.invokevirtual 164, 3) := by decide +kernel
theorem dX0_tip_69 : decode cX0_tip 69 = .ok (.aload_n 0, 1) := by decide +kernel
theorem dX0_tip_70 : decode cX0_tip 70 = .ok (.getfield 40, 3) := by decide +kernel
theorem dX0_tip_73 : decode cX0_tip 73 = .ok (.sipush 500, 3) := by decide +kernel
theorem dX0_tip_76 : decode cX0_tip 76 = .ok (.iadd, 1) := by decide +kernel
theorem dX0_tip_77 : decode cX0_tip 77 = .ok (.invokestatic 152, 3) := by decide +kernel
theorem dX0_tip_80 : decode cX0_tip 80 = .ok (.putfield 40, 3) := by decide +kernel
theorem dX0_tip_83 : decode cX0_tip 83 = .ok (.aload_n 0, 1) := by decide +kernel
theorem dX0_tip_84 : decode cX0_tip 84 = .ok (.iconst 3, 1) := by decide +kernel
theorem dX0_tip_85 : decode cX0_tip 85 = .ok (.invokevirtual 108, 3) := by decide +kernel
theorem dX0_tip_88 : decode cX0_tip 88 = .ok (.return_, 1) := by decide +kernel
set_option maxRecDepth 20000 in
theorem ggX0_empty_X1_at : GoodIn wsX0_empty wsX1_at := goodIn_r _ [11, 12, 13, 40, 41] (by decide +kernel) (by decide +kernel)
set_option maxRecDepth 20000 in
theorem gX0_empty_X1_at : GoodIn wsX0_empty (wsV RX0 87 RX1 yX1_at wsX1_at) := goodIn_app (goodIn_of _ (by decide +kernel)) ggX0_empty_X1_at
set_option maxRecDepth 20000 in
theorem ggX0_empty_X0_turn : GoodIn wsX0_empty wsX0_turn := goodIn_r _ [18, 19, 20, 21, 22, 23, 24, 25, 26, 27, 28, 29, 30, 31, 32, 33, 34, 35, 36, 37, 38, 39] (by decide +kernel) (by decide +kernel)
set_option maxRecDepth 20000 in
theorem gX0_empty_X0_turn : GoodIn wsX0_empty (wsV RX0 108 RX0 yX0_turn wsX0_turn) := goodIn_app (goodIn_of _ (by decide +kernel)) ggX0_empty_X0_turn
theorem dX0_empty_0 : decode cX0_empty 0 = .ok (.aload_n 0, 1) := by decide +kernel
theorem dX0_empty_1 : decode cX0_empty 1 = .ok (.iconst 0, 1) := by decide +kernel
theorem dX0_empty_2 : decode cX0_empty 2 = .ok (.aload_n 0, 1) := by decide +kernel
theorem dX0_empty_3 : decode cX0_empty 3 = .ok (.getfield 43, 3) := by decide +kernel
theorem dX0_empty_6 : decode cX0_empty 6 = .ok (.aload_n 0, 1) := by decide +kernel
theorem dX0_empty_7 : decode cX0_empty 7 = .ok (.getfield 43, 3) := by decide +kernel
theorem dX0_empty_10 : decode cX0_empty 10 = .ok (.iconst 4, 1) := by decide +kernel
theorem dX0_empty_11 : decode cX0_empty 11 = .ok (.idiv, 1) := by decide +kernel
theorem dX0_empty_12 : decode cX0_empty 12 = .ok (.isub, 1) := by decide +kernel
theorem dX0_empty_13 : decode cX0_empty 13 = .ok (.iconst 1, 1) := by decide +kernel
theorem dX0_empty_14 : decode cX0_empty 14 = .ok (.isub, 1) := by decide +kernel
theorem dX0_empty_15 : decode cX0_empty 15 = .ok (.invokestatic 119, 3) := by decide +kernel
theorem dX0_empty_18 : decode cX0_empty 18 = .ok (.putfield 43, 3) := by decide +kernel
theorem dX0_empty_21 : decode cX0_empty 21 = .ok (.aload_n 0, 1) := by decide +kernel
theorem dX0_empty_22 : decode cX0_empty 22 = .ok (.getfield 43, 3) := by decide +kernel
theorem dX0_empty_25 : decode cX0_empty 25 = .ok (.iconst 5, 1) := by decide +kernel
theorem dX0_empty_26 : decode cX0_empty 26 = .ok (.aload_n 0, 1) := by decide +kernel
theorem dX0_empty_27 : decode cX0_empty 27 = .ok (.getfield 14, 3) := by decide +kernel
theorem dX0_empty_30 : decode cX0_empty 30 = .ok (.iconst 2, 1) := by decide +kernel
theorem dX0_empty_31 : decode cX0_empty 31 = .ok (.invokevirtual 87, 3) := by decide +kernel
theorem dX0_empty_34 : decode cX0_empty 34 = .ok (.imul, 1) := by decide +kernel
theorem dX0_empty_35 : decode cX0_empty 35 = .ok (.if_icmp .gt 8, 3) := by decide +kernel
theorem dX0_empty_38 : decode cX0_empty 38 = .ok (.aload_n 0, 1) := by decide +kernel
theorem dX0_empty_39 : decode cX0_empty 39 = .ok (.iconst 1, 1) := by decide +kernel
theorem dX0_empty_40 : decode cX0_empty 40 = .ok (.invokevirtual 108, 3) := by decide +kernel
theorem dX0_empty_43 : decode cX0_empty 43 = .ok (.return_, 1) := by decide +kernel
theorem dX0_turn_0 : decode cX0_turn 0 = .ok (.aload_n 0, 1) := by decide +kernel
theorem dX0_turn_1 : decode cX0_turn 1 = .ok (.iload_n 1, 1) := by decide +kernel
theorem dX0_turn_2 : decode cX0_turn 2 = .ok (.putfield 58, 3) := by decide +kernel
theorem dX0_turn_5 : decode cX0_turn 5 = .ok (.aload_n 0, 1) := by decide +kernel
theorem dX0_turn_6 : decode cX0_turn 6 = .ok (.iconst 0, 1) := by decide +kernel
theorem dX0_turn_7 : decode cX0_turn 7 = .ok (.putfield 61, 3) := by decide +kernel
theorem dX0_turn_10 : decode cX0_turn 10 = .ok (.aload_n 0, 1) := by decide +kernel
theorem dX0_turn_11 : decode cX0_turn 11 = .ok (.iload_n 1, 1) := by decide +kernel
theorem dX0_turn_12 : decode cX0_turn 12 = .ok (.iconst 1, 1) := by decide +kernel
theorem dX0_turn_13 : decode cX0_turn 13 = .ok (.if_icmp .ne 8, 3) := by decide +kernel
theorem dX0_turn_16 : decode cX0_turn 16 = .ok (.bipush 88, 2) := by decide +kernel
theorem dX0_turn_18 : decode cX0_turn 18 = .ok (.goto 4, 3) := by decide +kernel
theorem dX0_turn_21 : decode cX0_turn 21 = .ok (.iconst 0, 1) := by decide +kernel
theorem dX0_turn_22 : decode cX0_turn 22 = .ok (.putfield 64, 3) := by decide +kernel
theorem dX0_turn_25 : decode cX0_turn 25 = .ok (.return_, 1) := by decide +kernel
theorem dX1_init_0 : decode cX1_init 0 = .ok (.aload_n 0, 1) := by decide +kernel
theorem dX1_init_1 : decode cX1_init 1 = .ok (.invokespecial 1, 3) := by decide +kernel
theorem dX1_init_4 : decode cX1_init 4 = .ok (.aload_n 0, 1) := by decide +kernel
theorem dX1_init_5 : decode cX1_init 5 = .ok (.iconst 0, 1) := by decide +kernel
theorem dX1_init_6 : decode cX1_init 6 = .ok (.putfield 7, 3) := by decide +kernel
theorem dX1_init_9 : decode cX1_init 9 = .ok (.aload_n 0, 1) := by decide +kernel
theorem dX1_init_10 : decode cX1_init 10 = .ok (.iconst 0, 1) := by decide +kernel
theorem dX1_init_11 : decode cX1_init 11 = .ok (.iload_n 1, 1) := by decide +kernel
theorem dX1_init_12 : decode cX1_init 12 = .ok (.invokestatic 13, 3) := by decide +kernel
theorem dX1_init_15 : decode cX1_init 15 = .ok (.newarray .int, 2) := by decide +kernel
theorem dX1_init_17 : decode cX1_init 17 = .ok (.putfield 19, 3) := by decide +kernel
theorem dX1_init_20 : decode cX1_init 20 = .ok (.return_, 1) := by decide +kernel
theorem dX1_size_0 : decode cX1_size 0 = .ok (.aload_n 0, 1) := by decide +kernel
theorem dX1_size_1 : decode cX1_size 1 = .ok (.getfield 7, 3) := by decide +kernel
theorem dX1_size_4 : decode cX1_size 4 = .ok (.ireturn, 1) := by decide +kernel
theorem dX1_at_0 : decode cX1_at 0 = .ok (.iload_n 1, 1) := by decide +kernel
theorem dX1_at_1 : decode cX1_at 1 = .ok (.ifCond .lt 20, 3) := by decide +kernel
theorem dX1_at_4 : decode cX1_at 4 = .ok (.iload_n 1, 1) := by decide +kernel
theorem dX1_at_5 : decode cX1_at 5 = .ok (.aload_n 0, 1) := by decide +kernel
theorem dX1_at_6 : decode cX1_at 6 = .ok (.getfield 7, 3) := by decide +kernel
theorem dX1_at_9 : decode cX1_at 9 = .ok (.if_icmp .ge 12, 3) := by decide +kernel
theorem dX1_at_12 : decode cX1_at 12 = .ok (.aload_n 0, 1) := by decide +kernel
theorem dX1_at_13 : decode cX1_at 13 = .ok (.getfield 19, 3) := by decide +kernel
theorem dX1_at_16 : decode cX1_at 16 = .ok (.iload_n 1, 1) := by decide +kernel
theorem dX1_at_17 : decode cX1_at 17 = .ok (.iaload, 1) := by decide +kernel
theorem dX1_at_18 : decode cX1_at 18 = .ok (.goto 4, 3) := by decide +kernel
theorem dX1_at_21 : decode cX1_at 21 = .ok (.iconst 0, 1) := by decide +kernel
theorem dX1_at_22 : decode cX1_at 22 = .ok (.ireturn, 1) := by decide +kernel
theorem dX1_put_0 : decode cX1_put 0 = .ok (.iload_n 1, 1) := by decide +kernel
theorem dX1_put_1 : decode cX1_put 1 = .ok (.ifCond .lt 18, 3) := by decide +kernel
theorem dX1_put_4 : decode cX1_put 4 = .ok (.iload_n 1, 1) := by decide +kernel
theorem dX1_put_5 : decode cX1_put 5 = .ok (.aload_n 0, 1) := by decide +kernel
theorem dX1_put_6 : decode cX1_put 6 = .ok (.getfield 7, 3) := by decide +kernel
theorem dX1_put_9 : decode cX1_put 9 = .ok (.if_icmp .ge 10, 3) := by decide +kernel
theorem dX1_put_12 : decode cX1_put 12 = .ok (.aload_n 0, 1) := by decide +kernel
theorem dX1_put_13 : decode cX1_put 13 = .ok (.getfield 19, 3) := by decide +kernel
theorem dX1_put_16 : decode cX1_put 16 = .ok (.iload_n 1, 1) := by decide +kernel
theorem dX1_put_17 : decode cX1_put 17 = .ok (.iload_n 2, 1) := by decide +kernel
theorem dX1_put_18 : decode cX1_put 18 = .ok (.iastore, 1) := by decide +kernel
theorem dX1_put_19 : decode cX1_put 19 = .ok (.return_, 1) := by decide +kernel
theorem dX1_add_0 : decode cX1_add 0 = .ok (.aload_n 0, 1) := by decide +kernel
theorem dX1_add_1 : decode cX1_add 1 = .ok (.getfield 7, 3) := by decide +kernel
theorem dX1_add_4 : decode cX1_add 4 = .ok (.aload_n 0, 1) := by decide +kernel
theorem dX1_add_5 : decode cX1_add 5 = .ok (.getfield 19, 3) := by decide +kernel
theorem dX1_add_8 : decode cX1_add 8 = .ok (.arraylength, 1) := by decide +kernel
theorem dX1_add_9 : decode cX1_add 9 = .ok (.if_icmp .ge 23, 3) := by decide +kernel
theorem dX1_add_12 : decode cX1_add 12 = .ok (.aload_n 0, 1) := by decide +kernel
theorem dX1_add_13 : decode cX1_add 13 = .ok (.getfield 19, 3) := by decide +kernel
theorem dX1_add_16 : decode cX1_add 16 = .ok (.aload_n 0, 1) := by decide +kernel
theorem dX1_add_17 : decode cX1_add 17 = .ok (.getfield 7, 3) := by decide +kernel
theorem dX1_add_20 : decode cX1_add 20 = .ok (.iload_n 1, 1) := by decide +kernel
theorem dX1_add_21 : decode cX1_add 21 = .ok (.iastore, 1) := by decide +kernel
theorem dX1_add_22 : decode cX1_add 22 = .ok (.aload_n 0, 1) := by decide +kernel
theorem dX1_add_23 : decode cX1_add 23 = .ok (.dup, 1) := by decide +kernel
theorem dX1_add_24 : decode cX1_add 24 = .ok (.getfield 7, 3) := by decide +kernel
theorem dX1_add_27 : decode cX1_add 27 = .ok (.iconst 1, 1) := by decide +kernel
theorem dX1_add_28 : decode cX1_add 28 = .ok (.iadd, 1) := by decide +kernel
theorem dX1_add_29 : decode cX1_add 29 = .ok (.putfield 7, 3) := by decide +kernel
theorem dX1_add_32 : decode cX1_add 32 = .ok (.return_, 1) := by decide +kernel
theorem dX1_cutTo_0 : decode cX1_cutTo 0 = .ok (.iload_n 1, 1) := by decide +kernel
theorem dX1_cutTo_1 : decode cX1_cutTo 1 = .ok (.ifCond .lt 16, 3) := by decide +kernel
theorem dX1_cutTo_4 : decode cX1_cutTo 4 = .ok (.iload_n 1, 1) := by decide +kernel
theorem dX1_cutTo_5 : decode cX1_cutTo 5 = .ok (.aload_n 0, 1) := by decide +kernel
theorem dX1_cutTo_6 : decode cX1_cutTo 6 = .ok (.getfield 7, 3) := by decide +kernel
theorem dX1_cutTo_9 : decode cX1_cutTo 9 = .ok (.if_icmp .ge 8, 3) := by decide +kernel
theorem dX1_cutTo_12 : decode cX1_cutTo 12 = .ok (.aload_n 0, 1) := by decide +kernel
theorem dX1_cutTo_13 : decode cX1_cutTo 13 = .ok (.iload_n 1, 1) := by decide +kernel
theorem dX1_cutTo_14 : decode cX1_cutTo 14 = .ok (.putfield 7, 3) := by decide +kernel
theorem dX1_cutTo_17 : decode cX1_cutTo 17 = .ok (.return_, 1) := by decide +kernel
theorem dX1_clear_0 : decode cX1_clear 0 = .ok (.aload_n 0, 1) := by decide +kernel
theorem dX1_clear_1 : decode cX1_clear 1 = .ok (.iconst 0, 1) := by decide +kernel
theorem dX1_clear_2 : decode cX1_clear 2 = .ok (.putfield 7, 3) := by decide +kernel
theorem dX1_clear_5 : decode cX1_clear 5 = .ok (.return_, 1) := by decide +kernel
set_option maxRecDepth 20000 in
theorem ggX1_fillUp_X1_add : GoodIn wsX1_fillUp wsX1_add := goodIn_r _ [7, 1, 2, 8, 9] (by decide +kernel) (by decide +kernel)
set_option maxRecDepth 20000 in
theorem gX1_fillUp_X1_add : GoodIn wsX1_fillUp (wsV RX1 23 RX1 yX1_add wsX1_add) := goodIn_app (goodIn_of _ (by decide +kernel)) ggX1_fillUp_X1_add
theorem dX1_fillUp_0 : decode cX1_fillUp 0 = .ok (.aload_n 0, 1) := by decide +kernel
theorem dX1_fillUp_1 : decode cX1_fillUp 1 = .ok (.getfield 7, 3) := by decide +kernel
theorem dX1_fillUp_4 : decode cX1_fillUp 4 = .ok (.istore_n 1, 1) := by decide +kernel
theorem dX1_fillUp_5 : decode cX1_fillUp 5 = .ok (.iload_n 1, 1) := by decide +kernel
theorem dX1_fillUp_6 : decode cX1_fillUp 6 = .ok (.aload_n 0, 1) := by decide +kernel
theorem dX1_fillUp_7 : decode cX1_fillUp 7 = .ok (.getfield 19, 3) := by decide +kernel
theorem dX1_fillUp_10 : decode cX1_fillUp 10 = .ok (.arraylength, 1) := by decide +kernel
theorem dX1_fillUp_11 : decode cX1_fillUp 11 = .ok (.if_icmp .ge 14, 3) := by decide +kernel
theorem dX1_fillUp_14 : decode cX1_fillUp 14 = .ok (.aload_n 0, 1) := by decide +kernel
theorem dX1_fillUp_15 : decode cX1_fillUp 15 = .ok (.iconst 0, 1) := by decide +kernel
theorem dX1_fillUp_16 : decode cX1_fillUp 16 = .ok (.invokevirtual 23, 3) := by decide +kernel
theorem dX1_fillUp_19 : decode cX1_fillUp 19 = .ok (.iinc 1 1, 3) := by decide +kernel
theorem dX1_fillUp_22 : decode cX1_fillUp 22 = .ok (.goto (-17), 3) := by decide +kernel
theorem dX1_fillUp_25 : decode cX1_fillUp 25 = .ok (.return_, 1) := by decide +kernel
theorem dX1_become_0 : decode cX1_become 0 = .ok (.aload_n 1, 1) := by decide +kernel
theorem dX1_become_1 : decode cX1_become 1 = .ok (.getfield 7, 3) := by decide +kernel
theorem dX1_become_4 : decode cX1_become 4 = .ok (.aload_n 0, 1) := by decide +kernel
theorem dX1_become_5 : decode cX1_become 5 = .ok (.getfield 19, 3) := by decide +kernel
theorem dX1_become_8 : decode cX1_become 8 = .ok (.arraylength, 1) := by decide +kernel
theorem dX1_become_9 : decode cX1_become 9 = .ok (.invokestatic 27, 3) := by decide +kernel
theorem dX1_become_12 : decode cX1_become 12 = .ok (.istore_n 2, 1) := by decide +kernel
theorem dX1_become_13 : decode cX1_become 13 = .ok (.aload_n 1, 1) := by decide +kernel
theorem dX1_become_14 : decode cX1_become 14 = .ok (.getfield 19, 3) := by decide +kernel
theorem dX1_become_17 : decode cX1_become 17 = .ok (.iconst 0, 1) := by decide +kernel
theorem dX1_become_18 : decode cX1_become 18 = .ok (.aload_n 0, 1) := by decide +kernel
theorem dX1_become_19 : decode cX1_become 19 = .ok (.getfield 19, 3) := by decide +kernel
theorem dX1_become_22 : decode cX1_become 22 = .ok (.iconst 0, 1) := by decide +kernel
theorem dX1_become_23 : decode cX1_become 23 = .ok (.iload_n 2, 1) := by decide +kernel
theorem dX1_become_24 : decode cX1_become 24 = .ok (.invokestatic 30, 3) := by decide +kernel
theorem dX1_become_27 : decode cX1_become 27 = .ok (.aload_n 0, 1) := by decide +kernel
theorem dX1_become_28 : decode cX1_become 28 = .ok (.iload_n 2, 1) := by decide +kernel
theorem dX1_become_29 : decode cX1_become 29 = .ok (.putfield 7, 3) := by decide +kernel
theorem dX1_become_32 : decode cX1_become 32 = .ok (.return_, 1) := by decide +kernel
set_option maxRecDepth 20000 in
theorem ggX2_init_X1_init : GoodIn wsX2_init wsX1_init := goodIn_r _ [12, 13, 2, 3, 14, 15, 16, 17, 18, 19, 20, 21, 22] (by decide +kernel) (by decide +kernel)
set_option maxRecDepth 20000 in
theorem gX2_init_X1_init : GoodIn wsX2_init (wsX1_init) := ggX2_init_X1_init
theorem dX2_init_0 : decode cX2_init 0 = .ok (.aload_n 0, 1) := by decide +kernel
theorem dX2_init_1 : decode cX2_init 1 = .ok (.invokespecial 3, 3) := by decide +kernel
theorem dX2_init_4 : decode cX2_init 4 = .ok (.aload_n 0, 1) := by decide +kernel
theorem dX2_init_5 : decode cX2_init 5 = .ok (.new 9, 3) := by decide +kernel
theorem dX2_init_8 : decode cX2_init 8 = .ok (.dup, 1) := by decide +kernel
theorem dX2_init_9 : decode cX2_init 9 = .ok (.bipush 20, 2) := by decide +kernel
theorem dX2_init_11 : decode cX2_init 11 = .ok (.invokespecial 11, 3) := by decide +kernel
theorem dX2_init_14 : decode cX2_init 14 = .ok (.putfield 14, 3) := by decide +kernel
theorem dX2_init_17 : decode cX2_init 17 = .ok (.aload_n 0, 1) := by decide +kernel
theorem dX2_init_18 : decode cX2_init 18 = .ok (.new 9, 3) := by decide +kernel
theorem dX2_init_21 : decode cX2_init 21 = .ok (.dup, 1) := by decide +kernel
theorem dX2_init_22 : decode cX2_init 22 = .ok (.bipush 20, 2) := by decide +kernel
theorem dX2_init_24 : decode cX2_init 24 = .ok (.invokespecial 11, 3) := by decide +kernel
theorem dX2_init_27 : decode cX2_init 27 = .ok (.putfield 20, 3) := by decide +kernel
theorem dX2_init_30 : decode cX2_init 30 = .ok (.aload_n 0, 1) := by decide +kernel
theorem dX2_init_31 : decode cX2_init 31 = .ok (.new 9, 3) := by decide +kernel
theorem dX2_init_34 : decode cX2_init 34 = .ok (.dup, 1) := by decide +kernel
theorem dX2_init_35 : decode cX2_init 35 = .ok (.bipush 20, 2) := by decide +kernel
theorem dX2_init_37 : decode cX2_init 37 = .ok (.invokespecial 11, 3) := by decide +kernel
theorem dX2_init_40 : decode cX2_init 40 = .ok (.putfield 23, 3) := by decide +kernel
theorem dX2_init_43 : decode cX2_init 43 = .ok (.return_, 1) := by decide +kernel
set_option maxRecDepth 20000 in
theorem ggX2_size_X1_size : GoodIn wsX2_size wsX1_size := goodIn_r _ [6, 7, 11, 12] (by decide +kernel) (by decide +kernel)
set_option maxRecDepth 20000 in
theorem gX2_size_X1_size : GoodIn wsX2_size (wsV RX2 26 RX1 yX1_size wsX1_size) := goodIn_app (goodIn_of _ (by decide +kernel)) ggX2_size_X1_size
theorem dX2_size_0 : decode cX2_size 0 = .ok (.aload_n 0, 1) := by decide +kernel
theorem dX2_size_1 : decode cX2_size 1 = .ok (.getfield 14, 3) := by decide +kernel
theorem dX2_size_4 : decode cX2_size 4 = .ok (.invokevirtual 26, 3) := by decide +kernel
theorem dX2_size_7 : decode cX2_size 7 = .ok (.ireturn, 1) := by decide +kernel
set_option maxRecDepth 20000 in
theorem ggX2_add_X1_add : GoodIn wsX2_add wsX1_add := goodIn_r _ [8, 9, 10, 14, 15] (by decide +kernel) (by decide +kernel)
set_option maxRecDepth 20000 in
theorem gX2_add_X1_add : GoodIn wsX2_add (wsV RX2 30 RX1 yX1_add wsX1_add) := goodIn_app (goodIn_of _ (by decide +kernel)) ggX2_add_X1_add
theorem dX2_add_0 : decode cX2_add 0 = .ok (.aload_n 0, 1) := by decide +kernel
theorem dX2_add_1 : decode cX2_add 1 = .ok (.getfield 14, 3) := by decide +kernel
theorem dX2_add_4 : decode cX2_add 4 = .ok (.iload_n 1, 1) := by decide +kernel
theorem dX2_add_5 : decode cX2_add 5 = .ok (.invokevirtual 30, 3) := by decide +kernel
theorem dX2_add_8 : decode cX2_add 8 = .ok (.aload_n 0, 1) := by decide +kernel
theorem dX2_add_9 : decode cX2_add 9 = .ok (.getfield 20, 3) := by decide +kernel
theorem dX2_add_12 : decode cX2_add 12 = .ok (.iload_n 2, 1) := by decide +kernel
theorem dX2_add_13 : decode cX2_add 13 = .ok (.invokevirtual 30, 3) := by decide +kernel
theorem dX2_add_16 : decode cX2_add 16 = .ok (.aload_n 0, 1) := by decide +kernel
theorem dX2_add_17 : decode cX2_add 17 = .ok (.getfield 23, 3) := by decide +kernel
theorem dX2_add_20 : decode cX2_add 20 = .ok (.iload_n 3, 1) := by decide +kernel
theorem dX2_add_21 : decode cX2_add 21 = .ok (.invokevirtual 30, 3) := by decide +kernel
theorem dX2_add_24 : decode cX2_add 24 = .ok (.return_, 1) := by decide +kernel
set_option maxRecDepth 20000 in
theorem ggX2_cutTo_X1_cutTo : GoodIn wsX2_cutTo wsX1_cutTo := goodIn_r _ [8, 9, 13, 14] (by decide +kernel) (by decide +kernel)
set_option maxRecDepth 20000 in
theorem gX2_cutTo_X1_cutTo : GoodIn wsX2_cutTo (wsV RX2 33 RX1 yX1_cutTo wsX1_cutTo) := goodIn_app (goodIn_of _ (by decide +kernel)) ggX2_cutTo_X1_cutTo
theorem dX2_cutTo_0 : decode cX2_cutTo 0 = .ok (.aload_n 0, 1) := by decide +kernel
theorem dX2_cutTo_1 : decode cX2_cutTo 1 = .ok (.getfield 14, 3) := by decide +kernel
theorem dX2_cutTo_4 : decode cX2_cutTo 4 = .ok (.iload_n 1, 1) := by decide +kernel
theorem dX2_cutTo_5 : decode cX2_cutTo 5 = .ok (.invokevirtual 33, 3) := by decide +kernel
theorem dX2_cutTo_8 : decode cX2_cutTo 8 = .ok (.aload_n 0, 1) := by decide +kernel
theorem dX2_cutTo_9 : decode cX2_cutTo 9 = .ok (.getfield 20, 3) := by decide +kernel
theorem dX2_cutTo_12 : decode cX2_cutTo 12 = .ok (.iload_n 1, 1) := by decide +kernel
theorem dX2_cutTo_13 : decode cX2_cutTo 13 = .ok (.invokevirtual 33, 3) := by decide +kernel
theorem dX2_cutTo_16 : decode cX2_cutTo 16 = .ok (.aload_n 0, 1) := by decide +kernel
theorem dX2_cutTo_17 : decode cX2_cutTo 17 = .ok (.getfield 23, 3) := by decide +kernel
theorem dX2_cutTo_20 : decode cX2_cutTo 20 = .ok (.iload_n 1, 1) := by decide +kernel
theorem dX2_cutTo_21 : decode cX2_cutTo 21 = .ok (.invokevirtual 33, 3) := by decide +kernel
theorem dX2_cutTo_24 : decode cX2_cutTo 24 = .ok (.return_, 1) := by decide +kernel
set_option maxRecDepth 20000 in
theorem ggX2_become_X1_become : GoodIn wsX2_become wsX1_become := goodIn_r _ [8, 9, 10, 11, 12, 13, 14, 15, 16, 17, 18, 22, 23] (by decide +kernel) (by decide +kernel)
set_option maxRecDepth 20000 in
theorem gX2_become_X1_become : GoodIn wsX2_become (wsV RX2 36 RX1 yX1_become wsX1_become) := goodIn_app (goodIn_of _ (by decide +kernel)) ggX2_become_X1_become
theorem dX2_become_0 : decode cX2_become 0 = .ok (.aload_n 0, 1) := by decide +kernel
theorem dX2_become_1 : decode cX2_become 1 = .ok (.getfield 14, 3) := by decide +kernel
theorem dX2_become_4 : decode cX2_become 4 = .ok (.aload_n 1, 1) := by decide +kernel
theorem dX2_become_5 : decode cX2_become 5 = .ok (.getfield 14, 3) := by decide +kernel
theorem dX2_become_8 : decode cX2_become 8 = .ok (.invokevirtual 36, 3) := by decide +kernel
theorem dX2_become_11 : decode cX2_become 11 = .ok (.aload_n 0, 1) := by decide +kernel
theorem dX2_become_12 : decode cX2_become 12 = .ok (.getfield 20, 3) := by decide +kernel
theorem dX2_become_15 : decode cX2_become 15 = .ok (.aload_n 1, 1) := by decide +kernel
theorem dX2_become_16 : decode cX2_become 16 = .ok (.getfield 20, 3) := by decide +kernel
theorem dX2_become_19 : decode cX2_become 19 = .ok (.invokevirtual 36, 3) := by decide +kernel
theorem dX2_become_22 : decode cX2_become 22 = .ok (.aload_n 0, 1) := by decide +kernel
theorem dX2_become_23 : decode cX2_become 23 = .ok (.getfield 23, 3) := by decide +kernel
theorem dX2_become_26 : decode cX2_become 26 = .ok (.aload_n 1, 1) := by decide +kernel
theorem dX2_become_27 : decode cX2_become 27 = .ok (.getfield 23, 3) := by decide +kernel
theorem dX2_become_30 : decode cX2_become 30 = .ok (.invokevirtual 36, 3) := by decide +kernel
theorem dX2_become_33 : decode cX2_become 33 = .ok (.return_, 1) := by decide +kernel
set_option maxRecDepth 20000 in
theorem ggX2_valueOf_X1_size : GoodIn wsX2_valueOf wsX1_size := goodIn_r _ [8, 9, 18, 19] (by decide +kernel) (by decide +kernel)
set_option maxRecDepth 20000 in
theorem gX2_valueOf_X1_size : GoodIn wsX2_valueOf (wsV RX2 26 RX1 yX1_size wsX1_size) := goodIn_app (goodIn_of _ (by decide +kernel)) ggX2_valueOf_X1_size
set_option maxRecDepth 20000 in
theorem ggX2_valueOf_X1_at : GoodIn wsX2_valueOf wsX1_at := goodIn_r _ [13, 9, 14, 18, 19] (by decide +kernel) (by decide +kernel)
set_option maxRecDepth 20000 in
theorem gX2_valueOf_X1_at : GoodIn wsX2_valueOf (wsV RX2 40 RX1 yX1_at wsX1_at) := goodIn_app (goodIn_of _ (by decide +kernel)) ggX2_valueOf_X1_at
theorem dX2_valueOf_0 : decode cX2_valueOf 0 = .ok (.iload_n 3, 1) := by decide +kernel
theorem dX2_valueOf_1 : decode cX2_valueOf 1 = .ok (.istore 4, 2) := by decide +kernel
theorem dX2_valueOf_3 : decode cX2_valueOf 3 = .ok (.iconst (-1), 1) := by decide +kernel
theorem dX2_valueOf_4 : decode cX2_valueOf 4 = .ok (.istore 5, 2) := by decide +kernel
theorem dX2_valueOf_6 : decode cX2_valueOf 6 = .ok (.iconst 0, 1) := by decide +kernel
theorem dX2_valueOf_7 : decode cX2_valueOf 7 = .ok (.istore 6, 2) := by decide +kernel
theorem dX2_valueOf_9 : decode cX2_valueOf 9 = .ok (.iload 6, 2) := by decide +kernel
theorem dX2_valueOf_11 : decode cX2_valueOf 11 = .ok (.aload_n 0, 1) := by decide +kernel
theorem dX2_valueOf_12 : decode cX2_valueOf 12 = .ok (.getfield 14, 3) := by decide +kernel
theorem dX2_valueOf_15 : decode cX2_valueOf 15 = .ok (.invokevirtual 26, 3) := by decide +kernel
theorem dX2_valueOf_18 : decode cX2_valueOf 18 = .ok (.if_icmp .ge 61, 3) := by decide +kernel
theorem dX2_valueOf_21 : decode cX2_valueOf 21 = .ok (.aload_n 0, 1) := by decide +kernel
theorem dX2_valueOf_22 : decode cX2_valueOf 22 = .ok (.getfield 20, 3) := by decide +kernel
theorem dX2_valueOf_25 : decode cX2_valueOf 25 = .ok (.iload 6, 2) := by decide +kernel
theorem dX2_valueOf_27 : decode cX2_valueOf 27 = .ok (.invokevirtual 40, 3) := by decide +kernel
theorem dX2_valueOf_30 : decode cX2_valueOf 30 = .ok (.istore 7, 2) := by decide +kernel
theorem dX2_valueOf_32 : decode cX2_valueOf 32 = .ok (.aload_n 0, 1) := by decide +kernel
theorem dX2_valueOf_33 : decode cX2_valueOf 33 = .ok (.getfield 14, 3) := by decide +kernel
theorem dX2_valueOf_36 : decode cX2_valueOf 36 = .ok (.iload 6, 2) := by decide +kernel
theorem dX2_valueOf_38 : decode cX2_valueOf 38 = .ok (.invokevirtual 40, 3) := by decide +kernel
theorem dX2_valueOf_41 : decode cX2_valueOf 41 = .ok (.iload_n 1, 1) := by decide +kernel
theorem dX2_valueOf_42 : decode cX2_valueOf 42 = .ok (.if_icmp .ne 31, 3) := by decide +kernel
theorem dX2_valueOf_45 : decode cX2_valueOf 45 = .ok (.iload 7, 2) := by decide +kernel
theorem dX2_valueOf_47 : decode cX2_valueOf 47 = .ok (.iload_n 2, 1) := by decide +kernel
theorem dX2_valueOf_48 : decode cX2_valueOf 48 = .ok (.if_icmp .gt 25, 3) := by decide +kernel
theorem dX2_valueOf_51 : decode cX2_valueOf 51 = .ok (.iload 7, 2) := by decide +kernel
theorem dX2_valueOf_53 : decode cX2_valueOf 53 = .ok (.iload 5, 2) := by decide +kernel
theorem dX2_valueOf_55 : decode cX2_valueOf 55 = .ok (.if_icmp .lt 18, 3) := by decide +kernel
theorem dX2_valueOf_58 : decode cX2_valueOf 58 = .ok (.iload 7, 2) := by decide +kernel
theorem dX2_valueOf_60 : decode cX2_valueOf 60 = .ok (.istore 5, 2) := by decide +kernel
theorem dX2_valueOf_62 : decode cX2_valueOf 62 = .ok (.aload_n 0, 1) := by decide +kernel
theorem dX2_valueOf_63 : decode cX2_valueOf 63 = .ok (.getfield 23, 3) := by decide +kernel
theorem dX2_valueOf_66 : decode cX2_valueOf 66 = .ok (.iload 6, 2) := by decide +kernel
theorem dX2_valueOf_68 : decode cX2_valueOf 68 = .ok (.invokevirtual 40, 3) := by decide +kernel
theorem dX2_valueOf_71 : decode cX2_valueOf 71 = .ok (.istore 4, 2) := by decide +kernel
theorem dX2_valueOf_73 : decode cX2_valueOf 73 = .ok (.iinc 6 1, 3) := by decide +kernel
theorem dX2_valueOf_76 : decode cX2_valueOf 76 = .ok (.goto (-67), 3) := by decide +kernel
theorem dX2_valueOf_79 : decode cX2_valueOf 79 = .ok (.iload 4, 2) := by decide +kernel
theorem dX2_valueOf_81 : decode cX2_valueOf 81 = .ok (.ireturn, 1) := by decide +kernel
set_option maxRecDepth 20000 in
theorem ggX3_init_X1_init : GoodIn wsX3_init wsX1_init := goodIn_r _ [15, 16, 2, 3, 17, 18, 19, 20, 21, 22, 23, 24, 25] (by decide +kernel) (by decide +kernel)
set_option maxRecDepth 20000 in
theorem gX3_init_X1_init : GoodIn wsX3_init (wsX1_init) := ggX3_init_X1_init
theorem dX3_init_0 : decode cX3_init 0 = .ok (.aload_n 0, 1) := by decide +kernel
theorem dX3_init_1 : decode cX3_init 1 = .ok (.invokespecial 3, 3) := by decide +kernel
theorem dX3_init_4 : decode cX3_init 4 = .ok (.aload_n 0, 1) := by decide +kernel
theorem dX3_init_5 : decode cX3_init 5 = .ok (.new 9, 3) := by decide +kernel
theorem dX3_init_8 : decode cX3_init 8 = .ok (.dup, 1) := by decide +kernel
theorem dX3_init_9 : decode cX3_init 9 = .ok (.bipush 64, 2) := by decide +kernel
theorem dX3_init_11 : decode cX3_init 11 = .ok (.invokespecial 11, 3) := by decide +kernel
theorem dX3_init_14 : decode cX3_init 14 = .ok (.putfield 14, 3) := by decide +kernel
theorem dX3_init_17 : decode cX3_init 17 = .ok (.aload_n 0, 1) := by decide +kernel
theorem dX3_init_18 : decode cX3_init 18 = .ok (.iconst 0, 1) := by decide +kernel
theorem dX3_init_19 : decode cX3_init 19 = .ok (.putfield 20, 3) := by decide +kernel
theorem dX3_init_22 : decode cX3_init 22 = .ok (.aload_n 0, 1) := by decide +kernel
theorem dX3_init_23 : decode cX3_init 23 = .ok (.iconst 0, 1) := by decide +kernel
theorem dX3_init_24 : decode cX3_init 24 = .ok (.putfield 24, 3) := by decide +kernel
theorem dX3_init_27 : decode cX3_init 27 = .ok (.aload_n 0, 1) := by decide +kernel
theorem dX3_init_28 : decode cX3_init 28 = .ok (.iconst 0, 1) := by decide +kernel
theorem dX3_init_29 : decode cX3_init 29 = .ok (.putfield 27, 3) := by decide +kernel
theorem dX3_init_32 : decode cX3_init 32 = .ok (.aload_n 0, 1) := by decide +kernel
theorem dX3_init_33 : decode cX3_init 33 = .ok (.iconst 0, 1) := by decide +kernel
theorem dX3_init_34 : decode cX3_init 34 = .ok (.putfield 30, 3) := by decide +kernel
theorem dX3_init_37 : decode cX3_init 37 = .ok (.aload_n 0, 1) := by decide +kernel
theorem dX3_init_38 : decode cX3_init 38 = .ok (.iconst 0, 1) := by decide +kernel
theorem dX3_init_39 : decode cX3_init 39 = .ok (.putfield 33, 3) := by decide +kernel
theorem dX3_init_42 : decode cX3_init 42 = .ok (.return_, 1) := by decide +kernel
set_option maxRecDepth 20000 in
theorem ggX3_readInto_X3_hasForm : GoodIn wsX3_readInto wsX3_hasForm := goodIn_r _ [11, 1, 2, 12, 13, 14, 10, 15, 5, 3, 6, 4, 16, 17, 18, 19, 20, 21, 22, 23, 24, 25, 26, 27, 28, 29, 30, 31, 32, 33, 34, 35, 36, 37, 38, 39, 40, 41, 75, 76, 77, 78, 79, 80, 81, 82] (by decide +kernel) (by decide +kernel)
set_option maxRecDepth 20000 in
theorem gX3_readInto_X3_hasForm : GoodIn wsX3_readInto (wsV RX3 36 RX3 yX3_hasForm wsX3_hasForm) := goodIn_app (goodIn_of _ (by decide +kernel)) ggX3_readInto_X3_hasForm
set_option maxRecDepth 20000 in
theorem ggX3_readInto_X2_size : GoodIn wsX3_readInto wsX2_size := goodIn_r _ [46, 47, 48, 39, 40, 19, 41, 21, 83, 84, 85, 81, 82] (by decide +kernel) (by decide +kernel)
set_option maxRecDepth 20000 in
theorem gX3_readInto_X2_size : GoodIn wsX3_readInto (wsV RX3 40 RX2 yX2_size wsX2_size) := goodIn_app (goodIn_of _ (by decide +kernel)) ggX3_readInto_X2_size
set_option maxRecDepth 20000 in
theorem ggX3_readInto_X1_size : GoodIn wsX3_readInto wsX1_size := goodIn_r _ [41, 21, 81, 82] (by decide +kernel) (by decide +kernel)
set_option maxRecDepth 20000 in
theorem gX3_readInto_X1_size : GoodIn wsX3_readInto (wsV RX3 46 RX1 yX1_size wsX1_size) := goodIn_app (goodIn_of _ (by decide +kernel)) ggX3_readInto_X1_size
set_option maxRecDepth 20000 in
theorem ggX3_readInto_X3_readStatement : GoodIn wsX3_readInto wsX3_readStatement := goodIn_r _ [15, 1, 5, 2, 3, 6, 4, 16, 17, 18, 19, 20, 21, 22, 23, 24, 10, 25, 26, 27, 28, 29, 30, 31, 32, 33, 34, 35, 36, 37, 75, 76, 77, 78, 79, 80, 81, 82] (by decide +kernel) (by decide +kernel)
set_option maxRecDepth 20000 in
theorem gX3_readInto_X3_readStatement : GoodIn wsX3_readInto (wsV RX3 47 RX3 yX3_readStatement wsX3_readStatement) := goodIn_app (goodIn_of _ (by decide +kernel)) ggX3_readInto_X3_readStatement
set_option maxRecDepth 20000 in
theorem ggX3_readInto_X4_isInRange : GoodIn wsX3_readInto wsX4_isInRange := goodIn_r _ [51, 52, 53, 54, 55, 50, 56] (by decide +kernel) (by decide +kernel)
set_option maxRecDepth 20000 in
theorem gX3_readInto_X4_isInRange_n50 : GoodIn wsX3_readInto (wsX4_isInRange) := ggX3_readInto_X4_isInRange
set_option maxRecDepth 20000 in
theorem ggX3_readInto_X2_cutTo : GoodIn wsX3_readInto wsX2_cutTo := goodIn_r _ [60, 47, 61, 62, 63, 64, 65, 19, 66, 21, 83, 84, 85, 81, 82] (by decide +kernel) (by decide +kernel)
set_option maxRecDepth 20000 in
theorem gX3_readInto_X2_cutTo : GoodIn wsX3_readInto (wsV RX3 54 RX2 yX2_cutTo wsX2_cutTo) := goodIn_app (goodIn_of _ (by decide +kernel)) ggX3_readInto_X2_cutTo
set_option maxRecDepth 20000 in
theorem ggX3_readInto_X2_add : GoodIn wsX3_readInto wsX2_add := goodIn_r _ [70, 47, 61, 62, 71, 72, 73, 19, 74, 21, 22, 83, 84, 85, 81, 82] (by decide +kernel) (by decide +kernel)
set_option maxRecDepth 20000 in
theorem gX3_readInto_X2_add : GoodIn wsX3_readInto (wsV RX3 57 RX2 yX2_add wsX2_add) := goodIn_app (goodIn_of _ (by decide +kernel)) ggX3_readInto_X2_add
theorem dX3_readInto_0 : decode cX3_readInto 0 = .ok (.aload_n 0, 1) := by decide +kernel
theorem dX3_readInto_1 : decode cX3_readInto 1 = .ok (.invokevirtual 36, 3) := by decide +kernel
theorem dX3_readInto_4 : decode cX3_readInto 4 = .ok (.ifCond .ne 12, 3) := by decide +kernel
theorem dX3_readInto_7 : decode cX3_readInto 7 = .ok (.sipush (-1000), 3) := by decide +kernel
theorem dX3_readInto_10 : decode cX3_readInto 10 = .ok (.aload_n 0, 1) := by decide +kernel
theorem dX3_readInto_11 : decode cX3_readInto 11 = .ok (.getfield 20, 3) := by decide +kernel
theorem dX3_readInto_14 : decode cX3_readInto 14 = .ok (.isub, 1) := by decide +kernel
theorem dX3_readInto_15 : decode cX3_readInto 15 = .ok (.ireturn, 1) := by decide +kernel
theorem dX3_readInto_16 : decode cX3_readInto 16 = .ok (.aload_n 1, 1) := by decide +kernel
theorem dX3_readInto_17 : decode cX3_readInto 17 = .ok (.invokevirtual 40, 3) := by decide +kernel
theorem dX3_readInto_20 : decode cX3_readInto 20 = .ok (.istore_n 2, 1) := by decide +kernel
theorem dX3_readInto_21 : decode cX3_readInto 21 = .ok (.aload_n 0, 1) := by decide +kernel
theorem dX3_readInto_22 : decode cX3_readInto 22 = .ok (.iconst 0, 1) := by decide +kernel
theorem dX3_readInto_23 : decode cX3_readInto 23 = .ok (.putfield 20, 3) := by decide +kernel
theorem dX3_readInto_26 : decode cX3_readInto 26 = .ok (.iconst 0, 1) := by decide +kernel
theorem dX3_readInto_27 : decode cX3_readInto 27 = .ok (.istore_n 3, 1) := by decide +kernel
theorem dX3_readInto_28 : decode cX3_readInto 28 = .ok (.iload_n 3, 1) := by decide +kernel
theorem dX3_readInto_29 : decode cX3_readInto 29 = .ok (.bipush 64, 2) := by decide +kernel
theorem dX3_readInto_31 : decode cX3_readInto 31 = .ok (.if_icmp .ge 83, 3) := by decide +kernel
theorem dX3_readInto_34 : decode cX3_readInto 34 = .ok (.aload_n 0, 1) := by decide +kernel
theorem dX3_readInto_35 : decode cX3_readInto 35 = .ok (.getfield 20, 3) := by decide +kernel
theorem dX3_readInto_38 : decode cX3_readInto 38 = .ok (.aload_n 0, 1) := by decide +kernel
theorem dX3_readInto_39 : decode cX3_readInto 39 = .ok (.getfield 14, 3) := by decide +kernel
theorem dX3_readInto_42 : decode cX3_readInto 42 = .ok (.invokevirtual 46, 3) := by decide +kernel
theorem dX3_readInto_45 : decode cX3_readInto 45 = .ok (.if_icmp .ge 69, 3) := by decide +kernel
theorem dX3_readInto_48 : decode cX3_readInto 48 = .ok (.aload_n 0, 1) := by decide +kernel
theorem dX3_readInto_49 : decode cX3_readInto 49 = .ok (.invokevirtual 47, 3) := by decide +kernel
theorem dX3_readInto_52 : decode cX3_readInto 52 = .ok (.ifCond .eq 26, 3) := by decide +kernel
theorem dX3_readInto_55 : decode cX3_readInto 55 = .ok (.aload_n 0, 1) := by decide +kernel
theorem dX3_readInto_56 : decode cX3_readInto 56 = .ok (.getfield 27, 3) := by decide +kernel
theorem dX3_readInto_59 : decode cX3_readInto 59 = .ok (.aload_n 0, 1) := by decide +kernel
theorem dX3_readInto_60 : decode cX3_readInto 60 = .ok (.getfield 33, 3) := by decide +kernel
theorem dX3_readInto_63 : decode cX3_readInto 63 = .ok (.invokestatic 50, 3) := by decide +kernel
theorem dX3_readInto_66 : decode cX3_readInto 66 = .ok (.ifCond .eq 12, 3) := by decide +kernel
theorem dX3_readInto_69 : decode cX3_readInto 69 = .ok (.aload_n 1, 1) := by decide +kernel
theorem dX3_readInto_70 : decode cX3_readInto 70 = .ok (.invokevirtual 40, 3) := by decide +kernel
theorem dX3_readInto_73 : decode cX3_readInto 73 = .ok (.bipush 20, 2) := by decide +kernel
theorem dX3_readInto_75 : decode cX3_readInto 75 = .ok (.if_icmp .lt 17, 3) := by decide +kernel
theorem dX3_readInto_78 : decode cX3_readInto 78 = .ok (.aload_n 1, 1) := by decide +kernel
theorem dX3_readInto_79 : decode cX3_readInto 79 = .ok (.iload_n 2, 1) := by decide +kernel
theorem dX3_readInto_80 : decode cX3_readInto 80 = .ok (.invokevirtual 54, 3) := by decide +kernel
theorem dX3_readInto_83 : decode cX3_readInto 83 = .ok (.sipush (-2000), 3) := by decide +kernel
theorem dX3_readInto_86 : decode cX3_readInto 86 = .ok (.aload_n 0, 1) := by decide +kernel
theorem dX3_readInto_87 : decode cX3_readInto 87 = .ok (.getfield 24, 3) := by decide +kernel
theorem dX3_readInto_90 : decode cX3_readInto 90 = .ok (.isub, 1) := by decide +kernel
theorem dX3_readInto_91 : decode cX3_readInto 91 = .ok (.ireturn, 1) := by decide +kernel
theorem dX3_readInto_92 : decode cX3_readInto 92 = .ok (.aload_n 1, 1) := by decide +kernel
theorem dX3_readInto_93 : decode cX3_readInto 93 = .ok (.aload_n 0, 1) := by decide +kernel
theorem dX3_readInto_94 : decode cX3_readInto 94 = .ok (.getfield 27, 3) := by decide +kernel
theorem dX3_readInto_97 : decode cX3_readInto 97 = .ok (.aload_n 0, 1) := by decide +kernel
theorem dX3_readInto_98 : decode cX3_readInto 98 = .ok (.getfield 30, 3) := by decide +kernel
theorem dX3_readInto_101 : decode cX3_readInto 101 = .ok (.aload_n 0, 1) := by decide +kernel
theorem dX3_readInto_102 : decode cX3_readInto 102 = .ok (.getfield 33, 3) := by decide +kernel
theorem dX3_readInto_105 : decode cX3_readInto 105 = .ok (.invokevirtual 57, 3) := by decide +kernel
theorem dX3_readInto_108 : decode cX3_readInto 108 = .ok (.iinc 3 1, 3) := by decide +kernel
theorem dX3_readInto_111 : decode cX3_readInto 111 = .ok (.goto (-83), 3) := by decide +kernel
theorem dX3_readInto_114 : decode cX3_readInto 114 = .ok (.aload_n 1, 1) := by decide +kernel
theorem dX3_readInto_115 : decode cX3_readInto 115 = .ok (.invokevirtual 40, 3) := by decide +kernel
theorem dX3_readInto_118 : decode cX3_readInto 118 = .ok (.iload_n 2, 1) := by decide +kernel
theorem dX3_readInto_119 : decode cX3_readInto 119 = .ok (.isub, 1) := by decide +kernel
theorem dX3_readInto_120 : decode cX3_readInto 120 = .ok (.ireturn, 1) := by decide +kernel
set_option maxRecDepth 20000 in
theorem ggX3_hasForm_X3_readStatement : GoodIn wsX3_hasForm wsX3_readStatement := goodIn_r _ [7, 1, 8, 2, 9, 10, 11, 12, 13, 14, 15, 16, 17, 18, 19, 20, 6, 21, 22, 23, 24, 25, 26, 27, 28, 29, 30, 31, 32, 33, 38, 39, 40, 41, 42, 43, 44, 45] (by decide +kernel) (by decide +kernel)
set_option maxRecDepth 20000 in
theorem gX3_hasForm_X3_readStatement : GoodIn wsX3_hasForm (wsV RX3 47 RX3 yX3_readStatement wsX3_readStatement) := goodIn_app (goodIn_of _ (by decide +kernel)) ggX3_hasForm_X3_readStatement
set_option maxRecDepth 20000 in
theorem ggX3_hasForm_X1_size : GoodIn wsX3_hasForm wsX1_size := goodIn_r _ [37, 17, 44, 45] (by decide +kernel) (by decide +kernel)
set_option maxRecDepth 20000 in
theorem gX3_hasForm_X1_size : GoodIn wsX3_hasForm (wsV RX3 46 RX1 yX1_size wsX1_size) := goodIn_app (goodIn_of _ (by decide +kernel)) ggX3_hasForm_X1_size
theorem dX3_hasForm_0 : decode cX3_hasForm 0 = .ok (.aload_n 0, 1) := by decide +kernel
theorem dX3_hasForm_1 : decode cX3_hasForm 1 = .ok (.iconst 0, 1) := by decide +kernel
theorem dX3_hasForm_2 : decode cX3_hasForm 2 = .ok (.putfield 20, 3) := by decide +kernel
theorem dX3_hasForm_5 : decode cX3_hasForm 5 = .ok (.aload_n 0, 1) := by decide +kernel
theorem dX3_hasForm_6 : decode cX3_hasForm 6 = .ok (.invokevirtual 47, 3) := by decide +kernel
theorem dX3_hasForm_9 : decode cX3_hasForm 9 = .ok (.istore_n 1, 1) := by decide +kernel
theorem dX3_hasForm_10 : decode cX3_hasForm 10 = .ok (.iconst 0, 1) := by decide +kernel
theorem dX3_hasForm_11 : decode cX3_hasForm 11 = .ok (.istore_n 2, 1) := by decide +kernel
theorem dX3_hasForm_12 : decode cX3_hasForm 12 = .ok (.iload_n 2, 1) := by decide +kernel
theorem dX3_hasForm_13 : decode cX3_hasForm 13 = .ok (.bipush 64, 2) := by decide +kernel
theorem dX3_hasForm_15 : decode cX3_hasForm 15 = .ok (.if_icmp .ge 32, 3) := by decide +kernel
theorem dX3_hasForm_18 : decode cX3_hasForm 18 = .ok (.iload_n 1, 1) := by decide +kernel
theorem dX3_hasForm_19 : decode cX3_hasForm 19 = .ok (.ifCond .eq 28, 3) := by decide +kernel
theorem dX3_hasForm_22 : decode cX3_hasForm 22 = .ok (.aload_n 0, 1) := by decide +kernel
theorem dX3_hasForm_23 : decode cX3_hasForm 23 = .ok (.getfield 20, 3) := by decide +kernel
theorem dX3_hasForm_26 : decode cX3_hasForm 26 = .ok (.aload_n 0, 1) := by decide +kernel
theorem dX3_hasForm_27 : decode cX3_hasForm 27 = .ok (.getfield 14, 3) := by decide +kernel
theorem dX3_hasForm_30 : decode cX3_hasForm 30 = .ok (.invokevirtual 46, 3) := by decide +kernel
theorem dX3_hasForm_33 : decode cX3_hasForm 33 = .ok (.if_icmp .ge 14, 3) := by decide +kernel
theorem dX3_hasForm_36 : decode cX3_hasForm 36 = .ok (.aload_n 0, 1) := by decide +kernel
theorem dX3_hasForm_37 : decode cX3_hasForm 37 = .ok (.invokevirtual 47, 3) := by decide +kernel
theorem dX3_hasForm_40 : decode cX3_hasForm 40 = .ok (.istore_n 1, 1) := by decide +kernel
theorem dX3_hasForm_41 : decode cX3_hasForm 41 = .ok (.iinc 2 1, 3) := by decide +kernel
theorem dX3_hasForm_44 : decode cX3_hasForm 44 = .ok (.goto (-32), 3) := by decide +kernel
theorem dX3_hasForm_47 : decode cX3_hasForm 47 = .ok (.iload_n 1, 1) := by decide +kernel
theorem dX3_hasForm_48 : decode cX3_hasForm 48 = .ok (.ireturn, 1) := by decide +kernel
set_option maxRecDepth 20000 in
theorem ggX3_readStatement_X1_at : GoodIn wsX3_readStatement wsX1_at := goodIn_r _ [11, 12, 13, 36, 37] (by decide +kernel) (by decide +kernel)
set_option maxRecDepth 20000 in
theorem gX3_readStatement_X1_at : GoodIn wsX3_readStatement (wsV RX3 61 RX1 yX1_at wsX1_at) := goodIn_app (goodIn_of _ (by decide +kernel)) ggX3_readStatement_X1_at
set_option maxRecDepth 20000 in
theorem ggX3_readStatement_X3_thingOf : GoodIn wsX3_readStatement wsX3_thingOf := goodIn_r _ [17] (by decide +kernel) (by decide +kernel)
set_option maxRecDepth 20000 in
theorem gX3_readStatement_X3_thingOf : GoodIn wsX3_readStatement (va_wsS RX3 65 yX3_thingOf wsX3_thingOf) := goodIn_app (goodIn_of _ (by decide +kernel)) ggX3_readStatement_X3_thingOf
set_option maxRecDepth 20000 in
theorem ggX3_readStatement_X3_readNumber : GoodIn wsX3_readStatement wsX3_readNumber := goodIn_r _ [21, 3, 1, 22, 23, 24, 25, 7, 8, 9, 10, 11, 12, 13, 30, 31, 32, 33, 34, 35, 36, 37] (by decide +kernel) (by decide +kernel)
set_option maxRecDepth 20000 in
theorem gX3_readStatement_X3_readNumber : GoodIn wsX3_readStatement (wsV RX3 68 RX3 yX3_readNumber wsX3_readNumber) := goodIn_app (goodIn_of _ (by decide +kernel)) ggX3_readStatement_X3_readNumber
set_option maxRecDepth 20000 in
theorem ggX3_readStatement_X3_readSign : GoodIn wsX3_readStatement wsX3_readSign := goodIn_r _ [29, 3, 1, 7, 8, 9, 10, 11, 12, 13, 30, 31, 32, 33, 34, 35, 36, 37] (by decide +kernel) (by decide +kernel)
set_option maxRecDepth 20000 in
theorem gX3_readStatement_X3_readSign : GoodIn wsX3_readStatement (wsV RX3 71 RX3 yX3_readSign wsX3_readSign) := goodIn_app (goodIn_of _ (by decide +kernel)) ggX3_readStatement_X3_readSign
theorem dX3_readStatement_0 : decode cX3_readStatement 0 = .ok (.aload_n 0, 1) := by decide +kernel
theorem dX3_readStatement_1 : decode cX3_readStatement 1 = .ok (.aload_n 0, 1) := by decide +kernel
theorem dX3_readStatement_2 : decode cX3_readStatement 2 = .ok (.getfield 20, 3) := by decide +kernel
theorem dX3_readStatement_5 : decode cX3_readStatement 5 = .ok (.putfield 24, 3) := by decide +kernel
theorem dX3_readStatement_8 : decode cX3_readStatement 8 = .ok (.aload_n 0, 1) := by decide +kernel
theorem dX3_readStatement_9 : decode cX3_readStatement 9 = .ok (.aload_n 0, 1) := by decide +kernel
theorem dX3_readStatement_10 : decode cX3_readStatement 10 = .ok (.getfield 14, 3) := by decide +kernel
theorem dX3_readStatement_13 : decode cX3_readStatement 13 = .ok (.aload_n 0, 1) := by decide +kernel
theorem dX3_readStatement_14 : decode cX3_readStatement 14 = .ok (.getfield 20, 3) := by decide +kernel
theorem dX3_readStatement_17 : decode cX3_readStatement 17 = .ok (.invokevirtual 61, 3) := by decide +kernel
theorem dX3_readStatement_20 : decode cX3_readStatement 20 = .ok (.invokestatic 65, 3) := by decide +kernel
theorem dX3_readStatement_23 : decode cX3_readStatement 23 = .ok (.putfield 27, 3) := by decide +kernel
theorem dX3_readStatement_26 : decode cX3_readStatement 26 = .ok (.aload_n 0, 1) := by decide +kernel
theorem dX3_readStatement_27 : decode cX3_readStatement 27 = .ok (.getfield 27, 3) := by decide +kernel
theorem dX3_readStatement_30 : decode cX3_readStatement 30 = .ok (.ifCond .ge 5, 3) := by decide +kernel
theorem dX3_readStatement_33 : decode cX3_readStatement 33 = .ok (.iconst 0, 1) := by decide +kernel
theorem dX3_readStatement_34 : decode cX3_readStatement 34 = .ok (.ireturn, 1) := by decide +kernel
theorem dX3_readStatement_35 : decode cX3_readStatement 35 = .ok (.aload_n 0, 1) := by decide +kernel
theorem dX3_readStatement_36 : decode cX3_readStatement 36 = .ok (.dup, 1) := by decide +kernel
theorem dX3_readStatement_37 : decode cX3_readStatement 37 = .ok (.getfield 20, 3) := by decide +kernel
theorem dX3_readStatement_40 : decode cX3_readStatement 40 = .ok (.iconst 1, 1) := by decide +kernel
theorem dX3_readStatement_41 : decode cX3_readStatement 41 = .ok (.iadd, 1) := by decide +kernel
theorem dX3_readStatement_42 : decode cX3_readStatement 42 = .ok (.putfield 20, 3) := by decide +kernel
theorem dX3_readStatement_45 : decode cX3_readStatement 45 = .ok (.aload_n 0, 1) := by decide +kernel
theorem dX3_readStatement_46 : decode cX3_readStatement 46 = .ok (.aload_n 0, 1) := by decide +kernel
theorem dX3_readStatement_47 : decode cX3_readStatement 47 = .ok (.iconst 4, 1) := by decide +kernel
theorem dX3_readStatement_48 : decode cX3_readStatement 48 = .ok (.invokevirtual 68, 3) := by decide +kernel
theorem dX3_readStatement_51 : decode cX3_readStatement 51 = .ok (.putfield 30, 3) := by decide +kernel
theorem dX3_readStatement_54 : decode cX3_readStatement 54 = .ok (.aload_n 0, 1) := by decide +kernel
theorem dX3_readStatement_55 : decode cX3_readStatement 55 = .ok (.getfield 30, 3) := by decide +kernel
theorem dX3_readStatement_58 : decode cX3_readStatement 58 = .ok (.ifCond .lt 12, 3) := by decide +kernel
theorem dX3_readStatement_61 : decode cX3_readStatement 61 = .ok (.aload_n 0, 1) := by decide +kernel
theorem dX3_readStatement_62 : decode cX3_readStatement 62 = .ok (.bipush 58, 2) := by decide +kernel
theorem dX3_readStatement_64 : decode cX3_readStatement 64 = .ok (.invokevirtual 71, 3) := by decide +kernel
theorem dX3_readStatement_67 : decode cX3_readStatement 67 = .ok (.ifCond .ne 5, 3) := by decide +kernel
theorem dX3_readStatement_70 : decode cX3_readStatement 70 = .ok (.iconst 0, 1) := by decide +kernel
theorem dX3_readStatement_71 : decode cX3_readStatement 71 = .ok (.ireturn, 1) := by decide +kernel
theorem dX3_readStatement_72 : decode cX3_readStatement 72 = .ok (.aload_n 0, 1) := by decide +kernel
theorem dX3_readStatement_73 : decode cX3_readStatement 73 = .ok (.aload_n 0, 1) := by decide +kernel
theorem dX3_readStatement_74 : decode cX3_readStatement 74 = .ok (.iconst 3, 1) := by decide +kernel
theorem dX3_readStatement_75 : decode cX3_readStatement 75 = .ok (.invokevirtual 68, 3) := by decide +kernel
theorem dX3_readStatement_78 : decode cX3_readStatement 78 = .ok (.putfield 33, 3) := by decide +kernel
theorem dX3_readStatement_81 : decode cX3_readStatement 81 = .ok (.aload_n 0, 1) := by decide +kernel
theorem dX3_readStatement_82 : decode cX3_readStatement 82 = .ok (.getfield 33, 3) := by decide +kernel
theorem dX3_readStatement_85 : decode cX3_readStatement 85 = .ok (.ifCond .lt 16, 3) := by decide +kernel
theorem dX3_readStatement_88 : decode cX3_readStatement 88 = .ok (.aload_n 0, 1) := by decide +kernel
theorem dX3_readStatement_89 : decode cX3_readStatement 89 = .ok (.bipush 59, 2) := by decide +kernel
theorem dX3_readStatement_91 : decode cX3_readStatement 91 = .ok (.invokevirtual 71, 3) := by decide +kernel
theorem dX3_readStatement_94 : decode cX3_readStatement 94 = .ok (.ifCond .eq 7, 3) := by decide +kernel
theorem dX3_readStatement_97 : decode cX3_readStatement 97 = .ok (.iconst 1, 1) := by decide +kernel
theorem dX3_readStatement_98 : decode cX3_readStatement 98 = .ok (.goto 4, 3) := by decide +kernel
theorem dX3_readStatement_101 : decode cX3_readStatement 101 = .ok (.iconst 0, 1) := by decide +kernel
theorem dX3_readStatement_102 : decode cX3_readStatement 102 = .ok (.ireturn, 1) := by decide +kernel
theorem dX3_thingOf_0 : decode cX3_thingOf 0 = .ok (.iload_n 0, 1) := by decide +kernel
theorem dX3_thingOf_1 : decode cX3_thingOf 1 = .ok (.lookupswitch 55 #[(100, 43), (108, 49), (114, 52), (119, 46)], 43) := by decide +kernel
theorem dX3_thingOf_44 : decode cX3_thingOf 44 = .ok (.bipush 8, 2) := by decide +kernel
theorem dX3_thingOf_46 : decode cX3_thingOf 46 = .ok (.ireturn, 1) := by decide +kernel
theorem dX3_thingOf_47 : decode cX3_thingOf 47 = .ok (.bipush 9, 2) := by decide +kernel
theorem dX3_thingOf_49 : decode cX3_thingOf 49 = .ok (.ireturn, 1) := by decide +kernel
theorem dX3_thingOf_50 : decode cX3_thingOf 50 = .ok (.bipush 10, 2) := by decide +kernel
theorem dX3_thingOf_52 : decode cX3_thingOf 52 = .ok (.ireturn, 1) := by decide +kernel
theorem dX3_thingOf_53 : decode cX3_thingOf 53 = .ok (.bipush 11, 2) := by decide +kernel
theorem dX3_thingOf_55 : decode cX3_thingOf 55 = .ok (.ireturn, 1) := by decide +kernel
theorem dX3_thingOf_56 : decode cX3_thingOf 56 = .ok (.iconst (-1), 1) := by decide +kernel
theorem dX3_thingOf_57 : decode cX3_thingOf 57 = .ok (.ireturn, 1) := by decide +kernel
set_option maxRecDepth 20000 in
theorem ggX3_readNumber_X1_at : GoodIn wsX3_readNumber wsX1_at := goodIn_r _ [11, 12, 13, 20, 21] (by decide +kernel) (by decide +kernel)
set_option maxRecDepth 20000 in
theorem gX3_readNumber_X1_at : GoodIn wsX3_readNumber (wsV RX3 61 RX1 yX1_at wsX1_at) := goodIn_app (goodIn_of _ (by decide +kernel)) ggX3_readNumber_X1_at
theorem dX3_readNumber_0 : decode cX3_readNumber 0 = .ok (.iconst (-1), 1) := by decide +kernel
theorem dX3_readNumber_1 : decode cX3_readNumber 1 = .ok (.istore_n 2, 1) := by decide +kernel
theorem dX3_readNumber_2 : decode cX3_readNumber 2 = .ok (.iconst 0, 1) := by decide +kernel
theorem dX3_readNumber_3 : decode cX3_readNumber 3 = .ok (.istore_n 3, 1) := by decide +kernel
theorem dX3_readNumber_4 : decode cX3_readNumber 4 = .ok (.iload_n 3, 1) := by decide +kernel
theorem dX3_readNumber_5 : decode cX3_readNumber 5 = .ok (.iload_n 1, 1) := by decide +kernel
theorem dX3_readNumber_6 : decode cX3_readNumber 6 = .ok (.if_icmp .ge 63, 3) := by decide +kernel
theorem dX3_readNumber_9 : decode cX3_readNumber 9 = .ok (.aload_n 0, 1) := by decide +kernel
theorem dX3_readNumber_10 : decode cX3_readNumber 10 = .ok (.getfield 14, 3) := by decide +kernel
theorem dX3_readNumber_13 : decode cX3_readNumber 13 = .ok (.aload_n 0, 1) := by decide +kernel
theorem dX3_readNumber_14 : decode cX3_readNumber 14 = .ok (.getfield 20, 3) := by decide +kernel
theorem dX3_readNumber_17 : decode cX3_readNumber 17 = .ok (.invokevirtual 61, 3) := by decide +kernel
theorem dX3_readNumber_20 : decode cX3_readNumber 20 = .ok (.istore 4, 2) := by decide +kernel
theorem dX3_readNumber_22 : decode cX3_readNumber 22 = .ok (.iload 4, 2) := by decide +kernel
theorem dX3_readNumber_24 : decode cX3_readNumber 24 = .ok (.bipush 48, 2) := by decide +kernel
theorem dX3_readNumber_26 : decode cX3_readNumber 26 = .ok (.if_icmp .lt 10, 3) := by decide +kernel
theorem dX3_readNumber_29 : decode cX3_readNumber 29 = .ok (.iload 4, 2) := by decide +kernel
theorem dX3_readNumber_31 : decode cX3_readNumber 31 = .ok (.bipush 57, 2) := by decide +kernel
theorem dX3_readNumber_33 : decode cX3_readNumber 33 = .ok (.if_icmp .le 5, 3) := by decide +kernel
theorem dX3_readNumber_36 : decode cX3_readNumber 36 = .ok (.iload_n 2, 1) := by decide +kernel
theorem dX3_readNumber_37 : decode cX3_readNumber 37 = .ok (.ireturn, 1) := by decide +kernel
theorem dX3_readNumber_38 : decode cX3_readNumber 38 = .ok (.bipush 10, 2) := by decide +kernel
theorem dX3_readNumber_40 : decode cX3_readNumber 40 = .ok (.iconst 0, 1) := by decide +kernel
theorem dX3_readNumber_41 : decode cX3_readNumber 41 = .ok (.iload_n 2, 1) := by decide +kernel
theorem dX3_readNumber_42 : decode cX3_readNumber 42 = .ok (.invokestatic 75, 3) := by decide +kernel
theorem dX3_readNumber_45 : decode cX3_readNumber 45 = .ok (.imul, 1) := by decide +kernel
theorem dX3_readNumber_46 : decode cX3_readNumber 46 = .ok (.iload 4, 2) := by decide +kernel
theorem dX3_readNumber_48 : decode cX3_readNumber 48 = .ok (.iadd, 1) := by decide +kernel
theorem dX3_readNumber_49 : decode cX3_readNumber 49 = .ok (.bipush 48, 2) := by decide +kernel
theorem dX3_readNumber_51 : decode cX3_readNumber 51 = .ok (.isub, 1) := by decide +kernel
theorem dX3_readNumber_52 : decode cX3_readNumber 52 = .ok (.istore_n 2, 1) := by decide +kernel
theorem dX3_readNumber_53 : decode cX3_readNumber 53 = .ok (.aload_n 0, 1) := by decide +kernel
theorem dX3_readNumber_54 : decode cX3_readNumber 54 = .ok (.dup, 1) := by decide +kernel
theorem dX3_readNumber_55 : decode cX3_readNumber 55 = .ok (.getfield 20, 3) := by decide +kernel
theorem dX3_readNumber_58 : decode cX3_readNumber 58 = .ok (.iconst 1, 1) := by decide +kernel
theorem dX3_readNumber_59 : decode cX3_readNumber 59 = .ok (.iadd, 1) := by decide +kernel
theorem dX3_readNumber_60 : decode cX3_readNumber 60 = .ok (.putfield 20, 3) := by decide +kernel
theorem dX3_readNumber_63 : decode cX3_readNumber 63 = .ok (.iinc 3 1, 3) := by decide +kernel
theorem dX3_readNumber_66 : decode cX3_readNumber 66 = .ok (.goto (-62), 3) := by decide +kernel
theorem dX3_readNumber_69 : decode cX3_readNumber 69 = .ok (.iload_n 2, 1) := by decide +kernel
theorem dX3_readNumber_70 : decode cX3_readNumber 70 = .ok (.ireturn, 1) := by decide +kernel
set_option maxRecDepth 20000 in
theorem ggX3_readSign_X1_at : GoodIn wsX3_readSign wsX1_at := goodIn_r _ [7, 8, 9, 16, 17] (by decide +kernel) (by decide +kernel)
set_option maxRecDepth 20000 in
theorem gX3_readSign_X1_at : GoodIn wsX3_readSign (wsV RX3 61 RX1 yX1_at wsX1_at) := goodIn_app (goodIn_of _ (by decide +kernel)) ggX3_readSign_X1_at
theorem dX3_readSign_0 : decode cX3_readSign 0 = .ok (.aload_n 0, 1) := by decide +kernel
theorem dX3_readSign_1 : decode cX3_readSign 1 = .ok (.getfield 14, 3) := by decide +kernel
theorem dX3_readSign_4 : decode cX3_readSign 4 = .ok (.aload_n 0, 1) := by decide +kernel
theorem dX3_readSign_5 : decode cX3_readSign 5 = .ok (.getfield 20, 3) := by decide +kernel
theorem dX3_readSign_8 : decode cX3_readSign 8 = .ok (.invokevirtual 61, 3) := by decide +kernel
theorem dX3_readSign_11 : decode cX3_readSign 11 = .ok (.iload_n 1, 1) := by decide +kernel
theorem dX3_readSign_12 : decode cX3_readSign 12 = .ok (.if_icmp .eq 5, 3) := by decide +kernel
theorem dX3_readSign_15 : decode cX3_readSign 15 = .ok (.iconst 0, 1) := by decide +kernel
theorem dX3_readSign_16 : decode cX3_readSign 16 = .ok (.ireturn, 1) := by decide +kernel
theorem dX3_readSign_17 : decode cX3_readSign 17 = .ok (.aload_n 0, 1) := by decide +kernel
theorem dX3_readSign_18 : decode cX3_readSign 18 = .ok (.dup, 1) := by decide +kernel
theorem dX3_readSign_19 : decode cX3_readSign 19 = .ok (.getfield 20, 3) := by decide +kernel
theorem dX3_readSign_22 : decode cX3_readSign 22 = .ok (.iconst 1, 1) := by decide +kernel
theorem dX3_readSign_23 : decode cX3_readSign 23 = .ok (.iadd, 1) := by decide +kernel
theorem dX3_readSign_24 : decode cX3_readSign 24 = .ok (.putfield 20, 3) := by decide +kernel
theorem dX3_readSign_27 : decode cX3_readSign 27 = .ok (.iconst 1, 1) := by decide +kernel
theorem dX3_readSign_28 : decode cX3_readSign 28 = .ok (.ireturn, 1) := by decide +kernel
set_option maxRecDepth 20000 in
theorem ggX4_init_X0_init : GoodIn wsX4_init wsX0_init := goodIn_r _ [23, 24, 2, 3, 25, 16, 17, 26, 27, 28, 29, 30, 31, 32, 33, 34, 35, 36, 37, 38, 39, 40, 41, 42, 43, 44, 45, 46, 47, 48, 49, 50, 51, 52, 53, 54, 55, 56, 57, 58, 59, 60, 61, 62, 63, 64, 65, 66, 67, 68, 69, 70, 71, 72, 73, 74, 75, 76, 126, 127, 94, 95, 96, 97, 98, 99, 100, 101, 102, 103, 104, 105, 106, 107, 108, 109, 110, 111, 128, 129, 130] (by decide +kernel) (by decide +kernel)
set_option maxRecDepth 20000 in
theorem gX4_init_X0_init : GoodIn wsX4_init (wsX0_init) := ggX4_init_X0_init
set_option maxRecDepth 20000 in
theorem ggX4_init_X3_init : GoodIn wsX4_init wsX3_init := goodIn_r _ [78, 79, 2, 3, 80, 16, 17, 81, 82, 83, 84, 85, 86, 87, 48, 49, 50, 51, 52, 53, 54, 55, 56, 57, 126, 127, 120, 121, 122, 123, 124, 125] (by decide +kernel) (by decide +kernel)
set_option maxRecDepth 20000 in
theorem gX4_init_X3_init_n27 : GoodIn wsX4_init (wsX3_init) := ggX4_init_X3_init
set_option maxRecDepth 20000 in
theorem ggX4_init_X1_init : GoodIn wsX4_init wsX1_init := goodIn_r _ [49, 50, 2, 3, 51, 52, 53, 54, 55, 56, 57, 126, 127] (by decide +kernel) (by decide +kernel)
set_option maxRecDepth 20000 in
theorem gX4_init_X1_init : GoodIn wsX4_init (wsX1_init) := ggX4_init_X1_init
set_option maxRecDepth 20000 in
theorem ggX4_init_X1_fillUp : GoodIn wsX4_init wsX1_fillUp := goodIn_r _ [92, 51, 57, 93, 70, 71, 17, 72, 126, 127] (by decide +kernel) (by decide +kernel)
set_option maxRecDepth 20000 in
theorem gX4_init_X1_fillUp : GoodIn wsX4_init (wsV RX4 48 RX1 yX1_fillUp wsX1_fillUp) := goodIn_app (goodIn_of _ (by decide +kernel)) ggX4_init_X1_fillUp
theorem dX4_init_0 : decode cX4_init 0 = .ok (.aload_n 0, 1) := by decide +kernel
theorem dX4_init_1 : decode cX4_init 1 = .ok (.invokespecial 1, 3) := by decide +kernel
theorem dX4_init_4 : decode cX4_init 4 = .ok (.aload_n 0, 1) := by decide +kernel
theorem dX4_init_5 : decode cX4_init 5 = .ok (.new 7, 3) := by decide +kernel
theorem dX4_init_8 : decode cX4_init 8 = .ok (.dup, 1) := by decide +kernel
theorem dX4_init_9 : decode cX4_init 9 = .ok (.invokespecial 9, 3) := by decide +kernel
theorem dX4_init_12 : decode cX4_init 12 = .ok (.putfield 10, 3) := by decide +kernel
theorem dX4_init_15 : decode cX4_init 15 = .ok (.aload_n 0, 1) := by decide +kernel
theorem dX4_init_16 : decode cX4_init 16 = .ok (.new 7, 3) := by decide +kernel
theorem dX4_init_19 : decode cX4_init 19 = .ok (.dup, 1) := by decide +kernel
theorem dX4_init_20 : decode cX4_init 20 = .ok (.invokespecial 9, 3) := by decide +kernel
theorem dX4_init_23 : decode cX4_init 23 = .ok (.putfield 16, 3) := by decide +kernel
theorem dX4_init_26 : decode cX4_init 26 = .ok (.aload_n 0, 1) := by decide +kernel
theorem dX4_init_27 : decode cX4_init 27 = .ok (.new 7, 3) := by decide +kernel
theorem dX4_init_30 : decode cX4_init 30 = .ok (.dup, 1) := by decide +kernel
theorem dX4_init_31 : decode cX4_init 31 = .ok (.invokespecial 9, 3) := by decide +kernel
theorem dX4_init_34 : decode cX4_init 34 = .ok (.putfield 19, 3) := by decide +kernel
theorem dX4_init_37 : decode cX4_init 37 = .ok (.aload_n 0, 1) := by decide +kernel
theorem dX4_init_38 : decode cX4_init 38 = .ok (.new 7, 3) := by decide +kernel
theorem dX4_init_41 : decode cX4_init 41 = .ok (.dup, 1) := by decide +kernel
theorem dX4_init_42 : decode cX4_init 42 = .ok (.invokespecial 9, 3) := by decide +kernel
theorem dX4_init_45 : decode cX4_init 45 = .ok (.putfield 22, 3) := by decide +kernel
theorem dX4_init_48 : decode cX4_init 48 = .ok (.aload_n 0, 1) := by decide +kernel
theorem dX4_init_49 : decode cX4_init 49 = .ok (.new 25, 3) := by decide +kernel
theorem dX4_init_52 : decode cX4_init 52 = .ok (.dup, 1) := by decide +kernel
theorem dX4_init_53 : decode cX4_init 53 = .ok (.invokespecial 27, 3) := by decide +kernel
theorem dX4_init_56 : decode cX4_init 56 = .ok (.putfield 28, 3) := by decide +kernel
theorem dX4_init_59 : decode cX4_init 59 = .ok (.aload_n 0, 1) := by decide +kernel
theorem dX4_init_60 : decode cX4_init 60 = .ok (.new 32, 3) := by decide +kernel
theorem dX4_init_63 : decode cX4_init 63 = .ok (.dup, 1) := by decide +kernel
theorem dX4_init_64 : decode cX4_init 64 = .ok (.bipush 10, 2) := by decide +kernel
theorem dX4_init_66 : decode cX4_init 66 = .ok (.invokespecial 34, 3) := by decide +kernel
theorem dX4_init_69 : decode cX4_init 69 = .ok (.putfield 37, 3) := by decide +kernel
theorem dX4_init_72 : decode cX4_init 72 = .ok (.aload_n 0, 1) := by decide +kernel
theorem dX4_init_73 : decode cX4_init 73 = .ok (.new 32, 3) := by decide +kernel
theorem dX4_init_76 : decode cX4_init 76 = .ok (.dup, 1) := by decide +kernel
theorem dX4_init_77 : decode cX4_init 77 = .ok (.bipush 7, 2) := by decide +kernel
theorem dX4_init_79 : decode cX4_init 79 = .ok (.invokespecial 34, 3) := by decide +kernel
theorem dX4_init_82 : decode cX4_init 82 = .ok (.putfield 41, 3) := by decide +kernel
theorem dX4_init_85 : decode cX4_init 85 = .ok (.aload_n 0, 1) := by decide +kernel
theorem dX4_init_86 : decode cX4_init 86 = .ok (.iconst 0, 1) := by decide +kernel
theorem dX4_init_87 : decode cX4_init 87 = .ok (.putfield 44, 3) := by decide +kernel
theorem dX4_init_90 : decode cX4_init 90 = .ok (.aload_n 0, 1) := by decide +kernel
theorem dX4_init_91 : decode cX4_init 91 = .ok (.getfield 41, 3) := by decide +kernel
theorem dX4_init_94 : decode cX4_init 94 = .ok (.invokevirtual 48, 3) := by decide +kernel
theorem dX4_init_97 : decode cX4_init 97 = .ok (.return_, 1) := by decide +kernel
set_option maxRecDepth 20000 in
theorem ggX4_feed_X1_size : GoodIn wsX4_feed wsX1_size := goodIn_r _ [8, 9, 47, 48] (by decide +kernel) (by decide +kernel)
set_option maxRecDepth 20000 in
theorem gX4_feed_X1_size : GoodIn wsX4_feed (wsV RX4 54 RX1 yX1_size wsX1_size) := goodIn_app (goodIn_of _ (by decide +kernel)) ggX4_feed_X1_size
set_option maxRecDepth 20000 in
theorem ggX4_feed_X4_outside : GoodIn wsX4_feed wsX4_outside := goodIn_r _ [14, 15, 16, 17, 13, 18, 19, 20, 21, 22, 7, 23, 9, 24, 25, 26, 27, 28, 33, 34, 35, 36, 37, 38, 39, 40, 47, 48] (by decide +kernel) (by decide +kernel)
set_option maxRecDepth 20000 in
theorem gX4_feed_X4_outside : GoodIn wsX4_feed (wsV RX4 58 RX4 yX4_outside wsX4_outside) := goodIn_app (goodIn_of _ (by decide +kernel)) ggX4_feed_X4_outside
set_option maxRecDepth 20000 in
theorem ggX4_feed_X1_add : GoodIn wsX4_feed wsX1_add := goodIn_r _ [32, 9, 24, 47, 48] (by decide +kernel) (by decide +kernel)
set_option maxRecDepth 20000 in
theorem gX4_feed_X1_add : GoodIn wsX4_feed (wsV RX4 64 RX1 yX1_add wsX1_add) := goodIn_app (goodIn_of _ (by decide +kernel)) ggX4_feed_X1_add
theorem dX4_feed_0 : decode cX4_feed 0 = .ok (.aload_n 0, 1) := by decide +kernel
theorem dX4_feed_1 : decode cX4_feed 1 = .ok (.iload_n 1, 1) := by decide +kernel
theorem dX4_feed_2 : decode cX4_feed 2 = .ok (.iconst 1, 1) := by decide +kernel
theorem dX4_feed_3 : decode cX4_feed 3 = .ok (.if_icmp .ge 7, 3) := by decide +kernel
theorem dX4_feed_6 : decode cX4_feed 6 = .ok (.iconst 1, 1) := by decide +kernel
theorem dX4_feed_7 : decode cX4_feed 7 = .ok (.goto 4, 3) := by decide +kernel
theorem dX4_feed_10 : decode cX4_feed 10 = .ok (.iconst 0, 1) := by decide +kernel
theorem dX4_feed_11 : decode cX4_feed 11 = .ok (.iload_n 1, 1) := by decide +kernel
theorem dX4_feed_12 : decode cX4_feed 12 = .ok (.bipush 8, 2) := by decide +kernel
theorem dX4_feed_14 : decode cX4_feed 14 = .ok (.if_icmp .gt 20, 3) := by decide +kernel
theorem dX4_feed_17 : decode cX4_feed 17 = .ok (.aload_n 0, 1) := by decide +kernel
theorem dX4_feed_18 : decode cX4_feed 18 = .ok (.getfield 28, 3) := by decide +kernel
theorem dX4_feed_21 : decode cX4_feed 21 = .ok (.getfield 51, 3) := by decide +kernel
theorem dX4_feed_24 : decode cX4_feed 24 = .ok (.invokevirtual 54, 3) := by decide +kernel
theorem dX4_feed_27 : decode cX4_feed 27 = .ok (.iload_n 1, 1) := by decide +kernel
theorem dX4_feed_28 : decode cX4_feed 28 = .ok (.iadd, 1) := by decide +kernel
theorem dX4_feed_29 : decode cX4_feed 29 = .ok (.bipush 64, 2) := by decide +kernel
theorem dX4_feed_31 : decode cX4_feed 31 = .ok (.if_icmp .le 7, 3) := by decide +kernel
theorem dX4_feed_34 : decode cX4_feed 34 = .ok (.iconst 1, 1) := by decide +kernel
theorem dX4_feed_35 : decode cX4_feed 35 = .ok (.goto 4, 3) := by decide +kernel
theorem dX4_feed_38 : decode cX4_feed 38 = .ok (.iconst 0, 1) := by decide +kernel
theorem dX4_feed_39 : decode cX4_feed 39 = .ok (.invokevirtual 58, 3) := by decide +kernel
theorem dX4_feed_42 : decode cX4_feed 42 = .ok (.istore 4, 2) := by decide +kernel
theorem dX4_feed_44 : decode cX4_feed 44 = .ok (.iload 4, 2) := by decide +kernel
theorem dX4_feed_46 : decode cX4_feed 46 = .ok (.ifCond .eq 6, 3) := by decide +kernel
theorem dX4_feed_49 : decode cX4_feed 49 = .ok (.iload 4, 2) := by decide +kernel
theorem dX4_feed_51 : decode cX4_feed 51 = .ok (.ireturn, 1) := by decide +kernel
theorem dX4_feed_52 : decode cX4_feed 52 = .ok (.iconst 0, 1) := by decide +kernel
theorem dX4_feed_53 : decode cX4_feed 53 = .ok (.istore 5, 2) := by decide +kernel
theorem dX4_feed_55 : decode cX4_feed 55 = .ok (.iload 5, 2) := by decide +kernel
theorem dX4_feed_57 : decode cX4_feed 57 = .ok (.iload_n 1, 1) := by decide +kernel
theorem dX4_feed_58 : decode cX4_feed 58 = .ok (.if_icmp .ge 31, 3) := by decide +kernel
theorem dX4_feed_61 : decode cX4_feed 61 = .ok (.aload_n 0, 1) := by decide +kernel
theorem dX4_feed_62 : decode cX4_feed 62 = .ok (.getfield 28, 3) := by decide +kernel
theorem dX4_feed_65 : decode cX4_feed 65 = .ok (.getfield 51, 3) := by decide +kernel
theorem dX4_feed_68 : decode cX4_feed 68 = .ok (.lload_n 2, 1) := by decide +kernel
theorem dX4_feed_69 : decode cX4_feed 69 = .ok (.bipush 8, 2) := by decide +kernel
theorem dX4_feed_71 : decode cX4_feed 71 = .ok (.iload 5, 2) := by decide +kernel
theorem dX4_feed_73 : decode cX4_feed 73 = .ok (.imul, 1) := by decide +kernel
theorem dX4_feed_74 : decode cX4_feed 74 = .ok (.lushr, 1) := by decide +kernel
theorem dX4_feed_75 : decode cX4_feed 75 = .ok (.ldc2_w 62, 3) := by decide +kernel
theorem dX4_feed_78 : decode cX4_feed 78 = .ok (.land, 1) := by decide +kernel
theorem dX4_feed_79 : decode cX4_feed 79 = .ok (.l2i, 1) := by decide +kernel
theorem dX4_feed_80 : decode cX4_feed 80 = .ok (.invokevirtual 64, 3) := by decide +kernel
theorem dX4_feed_83 : decode cX4_feed 83 = .ok (.iinc 5 1, 3) := by decide +kernel
theorem dX4_feed_86 : decode cX4_feed 86 = .ok (.goto (-31), 3) := by decide +kernel
theorem dX4_feed_89 : decode cX4_feed 89 = .ok (.aload_n 0, 1) := by decide +kernel
theorem dX4_feed_90 : decode cX4_feed 90 = .ok (.getfield 28, 3) := by decide +kernel
theorem dX4_feed_93 : decode cX4_feed 93 = .ok (.getfield 51, 3) := by decide +kernel
theorem dX4_feed_96 : decode cX4_feed 96 = .ok (.invokevirtual 54, 3) := by decide +kernel
theorem dX4_feed_99 : decode cX4_feed 99 = .ok (.ireturn, 1) := by decide +kernel
set_option maxRecDepth 20000 in
theorem ggX4_book_X3_readInto : GoodIn wsX4_book wsX3_readInto := goodIn_r _ [9, 10, 11, 12, 13, 14, 15, 16, 17, 18, 8, 19, 20, 21, 22, 23, 24, 25, 26, 27, 28, 29, 30, 31, 32, 33, 34, 35, 36, 37, 38, 39, 40, 41, 42, 43, 44, 45, 46, 47, 48, 49, 50, 51, 52, 53, 54, 55, 56, 57, 58, 59, 60, 61, 62, 63, 64, 65, 66, 67, 68, 69, 70, 71, 72, 73, 74, 75, 76, 77, 78, 79, 80, 81, 82, 113, 114, 115, 116, 117, 118, 119, 120, 121, 122, 123] (by decide +kernel) (by decide +kernel)
set_option maxRecDepth 20000 in
theorem gX4_book_X3_readInto : GoodIn wsX4_book (wsV RX4 71 RX3 yX3_readInto wsX3_readInto) := goodIn_app (goodIn_of _ (by decide +kernel)) ggX4_book_X3_readInto
set_option maxRecDepth 20000 in
theorem ggX4_book_X1_clear : GoodIn wsX4_book wsX1_clear := goodIn_r _ [86, 29, 119, 120] (by decide +kernel) (by decide +kernel)
set_option maxRecDepth 20000 in
theorem gX4_book_X1_clear : GoodIn wsX4_book (wsV RX4 75 RX1 yX1_clear wsX1_clear) := goodIn_app (goodIn_of _ (by decide +kernel)) ggX4_book_X1_clear
theorem dX4_book_0 : decode cX4_book 0 = .ok (.aload_n 0, 1) := by decide +kernel
theorem dX4_book_1 : decode cX4_book 1 = .ok (.getfield 28, 3) := by decide +kernel
theorem dX4_book_4 : decode cX4_book 4 = .ok (.aload_n 0, 1) := by decide +kernel
theorem dX4_book_5 : decode cX4_book 5 = .ok (.getfield 10, 3) := by decide +kernel
theorem dX4_book_8 : decode cX4_book 8 = .ok (.getfield 67, 3) := by decide +kernel
theorem dX4_book_11 : decode cX4_book 11 = .ok (.invokevirtual 71, 3) := by decide +kernel
theorem dX4_book_14 : decode cX4_book 14 = .ok (.istore_n 1, 1) := by decide +kernel
theorem dX4_book_15 : decode cX4_book 15 = .ok (.aload_n 0, 1) := by decide +kernel
theorem dX4_book_16 : decode cX4_book 16 = .ok (.getfield 28, 3) := by decide +kernel
theorem dX4_book_19 : decode cX4_book 19 = .ok (.getfield 51, 3) := by decide +kernel
theorem dX4_book_22 : decode cX4_book 22 = .ok (.invokevirtual 75, 3) := by decide +kernel
theorem dX4_book_25 : decode cX4_book 25 = .ok (.iload_n 1, 1) := by decide +kernel
theorem dX4_book_26 : decode cX4_book 26 = .ok (.ireturn, 1) := by decide +kernel
set_option maxRecDepth 20000 in
theorem ggX4_set_X4_refuse : GoodIn wsX4_set wsX4_refuse := goodIn_r _ [9, 10, 11, 12, 13, 14, 15, 16, 17, 18, 19, 20, 21, 29, 30, 31, 32, 33, 34, 35, 36, 55, 56] (by decide +kernel) (by decide +kernel)
set_option maxRecDepth 20000 in
theorem gX4_set_X4_refuse : GoodIn wsX4_set (wsV RX4 78 RX4 yX4_refuse wsX4_refuse) := goodIn_app (goodIn_of _ (by decide +kernel)) ggX4_set_X4_refuse
set_option maxRecDepth 20000 in
theorem ggX4_set_X4_numberIn : GoodIn wsX4_set wsX4_numberIn := goodIn_r _ [24] (by decide +kernel) (by decide +kernel)
set_option maxRecDepth 20000 in
theorem gX4_set_X4_numberIn : GoodIn wsX4_set (va_wsS RX4 86 yX4_numberIn wsX4_numberIn) := goodIn_app (goodIn_of _ (by decide +kernel)) ggX4_set_X4_numberIn
set_option maxRecDepth 20000 in
theorem ggX4_set_X4_outside : GoodIn wsX4_set wsX4_outside := goodIn_r _ [28, 5, 6, 7, 8, 9, 10, 11, 12, 13, 14, 15, 16, 17, 18, 19, 20, 21, 29, 30, 31, 32, 33, 34, 35, 36, 55, 56] (by decide +kernel) (by decide +kernel)
set_option maxRecDepth 20000 in
theorem gX4_set_X4_outside : GoodIn wsX4_set (wsV RX4 58 RX4 yX4_outside wsX4_outside) := goodIn_app (goodIn_of _ (by decide +kernel)) ggX4_set_X4_outside
set_option maxRecDepth 20000 in
theorem ggX4_set_X1_at : GoodIn wsX4_set wsX1_at := goodIn_r _ [15, 16, 17, 55, 56] (by decide +kernel) (by decide +kernel)
set_option maxRecDepth 20000 in
theorem gX4_set_X1_at : GoodIn wsX4_set (wsV RX4 96 RX1 yX1_at wsX1_at) := goodIn_app (goodIn_of _ (by decide +kernel)) ggX4_set_X1_at
set_option maxRecDepth 20000 in
theorem ggX4_set_X1_put : GoodIn wsX4_set wsX1_put := goodIn_r _ [21, 16, 17, 55, 56] (by decide +kernel) (by decide +kernel)
set_option maxRecDepth 20000 in
theorem gX4_set_X1_put : GoodIn wsX4_set (wsV RX4 99 RX1 yX1_put wsX1_put) := goodIn_app (goodIn_of _ (by decide +kernel)) ggX4_set_X1_put
theorem dX4_set_0 : decode cX4_set 0 = .ok (.iload_n 1, 1) := by decide +kernel
theorem dX4_set_1 : decode cX4_set 1 = .ok (.ifCond .lt 9, 3) := by decide +kernel
theorem dX4_set_4 : decode cX4_set 4 = .ok (.iload_n 1, 1) := by decide +kernel
theorem dX4_set_5 : decode cX4_set 5 = .ok (.bipush 15, 2) := by decide +kernel
theorem dX4_set_7 : decode cX4_set 7 = .ok (.if_icmp .lt 10, 3) := by decide +kernel
theorem dX4_set_10 : decode cX4_set 10 = .ok (.aload_n 0, 1) := by decide +kernel
theorem dX4_set_11 : decode cX4_set 11 = .ok (.bipush (-2), 2) := by decide +kernel
theorem dX4_set_13 : decode cX4_set 13 = .ok (.invokevirtual 78, 3) := by decide +kernel
theorem dX4_set_16 : decode cX4_set 16 = .ok (.ireturn, 1) := by decide +kernel
theorem dX4_set_17 : decode cX4_set 17 = .ok (.aload_n 0, 1) := by decide +kernel
theorem dX4_set_18 : decode cX4_set 18 = .ok (.iload_n 2, 1) := by decide +kernel
theorem dX4_set_19 : decode cX4_set 19 = .ok (.getstatic 82, 3) := by decide +kernel
theorem dX4_set_22 : decode cX4_set 22 = .ok (.iload_n 1, 1) := by decide +kernel
theorem dX4_set_23 : decode cX4_set 23 = .ok (.invokestatic 86, 3) := by decide +kernel
theorem dX4_set_26 : decode cX4_set 26 = .ok (.if_icmp .ge 7, 3) := by decide +kernel
theorem dX4_set_29 : decode cX4_set 29 = .ok (.iconst 1, 1) := by decide +kernel
theorem dX4_set_30 : decode cX4_set 30 = .ok (.goto 4, 3) := by decide +kernel
theorem dX4_set_33 : decode cX4_set 33 = .ok (.iconst 0, 1) := by decide +kernel
theorem dX4_set_34 : decode cX4_set 34 = .ok (.iload_n 2, 1) := by decide +kernel
theorem dX4_set_35 : decode cX4_set 35 = .ok (.getstatic 90, 3) := by decide +kernel
theorem dX4_set_38 : decode cX4_set 38 = .ok (.iload_n 1, 1) := by decide +kernel
theorem dX4_set_39 : decode cX4_set 39 = .ok (.invokestatic 86, 3) := by decide +kernel
theorem dX4_set_42 : decode cX4_set 42 = .ok (.if_icmp .le 7, 3) := by decide +kernel
theorem dX4_set_45 : decode cX4_set 45 = .ok (.iconst 1, 1) := by decide +kernel
theorem dX4_set_46 : decode cX4_set 46 = .ok (.goto 4, 3) := by decide +kernel
theorem dX4_set_49 : decode cX4_set 49 = .ok (.iconst 0, 1) := by decide +kernel
theorem dX4_set_50 : decode cX4_set 50 = .ok (.invokevirtual 58, 3) := by decide +kernel
theorem dX4_set_53 : decode cX4_set 53 = .ok (.istore_n 3, 1) := by decide +kernel
theorem dX4_set_54 : decode cX4_set 54 = .ok (.iload_n 3, 1) := by decide +kernel
theorem dX4_set_55 : decode cX4_set 55 = .ok (.ifCond .eq 5, 3) := by decide +kernel
theorem dX4_set_58 : decode cX4_set 58 = .ok (.iload_n 3, 1) := by decide +kernel
theorem dX4_set_59 : decode cX4_set 59 = .ok (.ireturn, 1) := by decide +kernel
theorem dX4_set_60 : decode cX4_set 60 = .ok (.aload_n 0, 1) := by decide +kernel
theorem dX4_set_61 : decode cX4_set 61 = .ok (.getfield 10, 3) := by decide +kernel
theorem dX4_set_64 : decode cX4_set 64 = .ok (.getfield 93, 3) := by decide +kernel
theorem dX4_set_67 : decode cX4_set 67 = .ok (.iload_n 1, 1) := by decide +kernel
theorem dX4_set_68 : decode cX4_set 68 = .ok (.invokevirtual 96, 3) := by decide +kernel
theorem dX4_set_71 : decode cX4_set 71 = .ok (.istore 4, 2) := by decide +kernel
theorem dX4_set_73 : decode cX4_set 73 = .ok (.aload_n 0, 1) := by decide +kernel
theorem dX4_set_74 : decode cX4_set 74 = .ok (.getfield 10, 3) := by decide +kernel
theorem dX4_set_77 : decode cX4_set 77 = .ok (.getfield 93, 3) := by decide +kernel
theorem dX4_set_80 : decode cX4_set 80 = .ok (.iload_n 1, 1) := by decide +kernel
theorem dX4_set_81 : decode cX4_set 81 = .ok (.iload_n 2, 1) := by decide +kernel
theorem dX4_set_82 : decode cX4_set 82 = .ok (.invokevirtual 99, 3) := by decide +kernel
theorem dX4_set_85 : decode cX4_set 85 = .ok (.iload 4, 2) := by decide +kernel
theorem dX4_set_87 : decode cX4_set 87 = .ok (.ireturn, 1) := by decide +kernel
set_option maxRecDepth 20000 in
theorem ggX4_glass_X4_outside : GoodIn wsX4_glass wsX4_outside := goodIn_r _ [7, 8, 9, 10, 6, 11, 12, 13, 14, 15, 16, 17, 18, 19, 20, 21, 22, 23, 24, 25, 26, 27, 28, 29, 30, 31, 50, 51] (by decide +kernel) (by decide +kernel)
set_option maxRecDepth 20000 in
theorem gX4_glass_X4_outside : GoodIn wsX4_glass (wsV RX4 58 RX4 yX4_outside wsX4_outside) := goodIn_app (goodIn_of _ (by decide +kernel)) ggX4_glass_X4_outside
theorem dX4_glass_0 : decode cX4_glass 0 = .ok (.aload_n 0, 1) := by decide +kernel
theorem dX4_glass_1 : decode cX4_glass 1 = .ok (.iload_n 1, 1) := by decide +kernel
theorem dX4_glass_2 : decode cX4_glass 2 = .ok (.ifCond .ge 7, 3) := by decide +kernel
theorem dX4_glass_5 : decode cX4_glass 5 = .ok (.iconst 1, 1) := by decide +kernel
theorem dX4_glass_6 : decode cX4_glass 6 = .ok (.goto 4, 3) := by decide +kernel
theorem dX4_glass_9 : decode cX4_glass 9 = .ok (.iconst 0, 1) := by decide +kernel
theorem dX4_glass_10 : decode cX4_glass 10 = .ok (.iload_n 1, 1) := by decide +kernel
theorem dX4_glass_11 : decode cX4_glass 11 = .ok (.sipush 9999, 3) := by decide +kernel
theorem dX4_glass_14 : decode cX4_glass 14 = .ok (.if_icmp .le 7, 3) := by decide +kernel
theorem dX4_glass_17 : decode cX4_glass 17 = .ok (.iconst 1, 1) := by decide +kernel
theorem dX4_glass_18 : decode cX4_glass 18 = .ok (.goto 4, 3) := by decide +kernel
theorem dX4_glass_21 : decode cX4_glass 21 = .ok (.iconst 0, 1) := by decide +kernel
theorem dX4_glass_22 : decode cX4_glass 22 = .ok (.invokevirtual 58, 3) := by decide +kernel
theorem dX4_glass_25 : decode cX4_glass 25 = .ok (.istore_n 2, 1) := by decide +kernel
theorem dX4_glass_26 : decode cX4_glass 26 = .ok (.iload_n 2, 1) := by decide +kernel
theorem dX4_glass_27 : decode cX4_glass 27 = .ok (.ifCond .eq 5, 3) := by decide +kernel
theorem dX4_glass_30 : decode cX4_glass 30 = .ok (.iload_n 2, 1) := by decide +kernel
theorem dX4_glass_31 : decode cX4_glass 31 = .ok (.ireturn, 1) := by decide +kernel
theorem dX4_glass_32 : decode cX4_glass 32 = .ok (.aload_n 0, 1) := by decide +kernel
theorem dX4_glass_33 : decode cX4_glass 33 = .ok (.getfield 10, 3) := by decide +kernel
theorem dX4_glass_36 : decode cX4_glass 36 = .ok (.getfield 103, 3) := by decide +kernel
theorem dX4_glass_39 : decode cX4_glass 39 = .ok (.istore_n 3, 1) := by decide +kernel
theorem dX4_glass_40 : decode cX4_glass 40 = .ok (.aload_n 0, 1) := by decide +kernel
theorem dX4_glass_41 : decode cX4_glass 41 = .ok (.getfield 10, 3) := by decide +kernel
theorem dX4_glass_44 : decode cX4_glass 44 = .ok (.iload_n 1, 1) := by decide +kernel
theorem dX4_glass_45 : decode cX4_glass 45 = .ok (.putfield 103, 3) := by decide +kernel
theorem dX4_glass_48 : decode cX4_glass 48 = .ok (.iload_n 3, 1) := by decide +kernel
theorem dX4_glass_49 : decode cX4_glass 49 = .ok (.ireturn, 1) := by decide +kernel
set_option maxRecDepth 20000 in
theorem ggX4_wet_X4_outside : GoodIn wsX4_wet wsX4_outside := goodIn_r _ [11, 12, 13, 14, 10, 15, 16, 17, 18, 19, 20, 21, 22, 23, 24, 25, 26, 27, 35, 36, 37, 38, 39, 40, 41, 42, 61, 62] (by decide +kernel) (by decide +kernel)
set_option maxRecDepth 20000 in
theorem gX4_wet_X4_outside : GoodIn wsX4_wet (wsV RX4 58 RX4 yX4_outside wsX4_outside) := goodIn_app (goodIn_of _ (by decide +kernel)) ggX4_wet_X4_outside
set_option maxRecDepth 20000 in
theorem ggX4_wet_X0_mostWet : GoodIn wsX4_wet wsX0_mostWet := goodIn_r _ [32, 33, 34, 18, 19, 20, 21, 22, 23, 43, 44, 45, 46, 47, 48, 49, 50, 51, 52, 53, 54, 55, 56, 57, 58, 59, 60, 61, 62] (by decide +kernel) (by decide +kernel)
set_option maxRecDepth 20000 in
theorem gX4_wet_X0_mostWet : GoodIn wsX4_wet (wsV RX4 110 RX0 yX0_mostWet wsX0_mostWet) := goodIn_app (goodIn_of _ (by decide +kernel)) ggX4_wet_X0_mostWet
theorem dX4_wet_0 : decode cX4_wet 0 = .ok (.aload_n 0, 1) := by decide +kernel
theorem dX4_wet_1 : decode cX4_wet 1 = .ok (.iload_n 1, 1) := by decide +kernel
theorem dX4_wet_2 : decode cX4_wet 2 = .ok (.ifCond .ge 7, 3) := by decide +kernel
theorem dX4_wet_5 : decode cX4_wet 5 = .ok (.iconst 1, 1) := by decide +kernel
theorem dX4_wet_6 : decode cX4_wet 6 = .ok (.goto 4, 3) := by decide +kernel
theorem dX4_wet_9 : decode cX4_wet 9 = .ok (.iconst 0, 1) := by decide +kernel
theorem dX4_wet_10 : decode cX4_wet 10 = .ok (.iload_n 1, 1) := by decide +kernel
theorem dX4_wet_11 : decode cX4_wet 11 = .ok (.sipush 9900, 3) := by decide +kernel
theorem dX4_wet_14 : decode cX4_wet 14 = .ok (.if_icmp .le 7, 3) := by decide +kernel
theorem dX4_wet_17 : decode cX4_wet 17 = .ok (.iconst 1, 1) := by decide +kernel
theorem dX4_wet_18 : decode cX4_wet 18 = .ok (.goto 4, 3) := by decide +kernel
theorem dX4_wet_21 : decode cX4_wet 21 = .ok (.iconst 0, 1) := by decide +kernel
theorem dX4_wet_22 : decode cX4_wet 22 = .ok (.invokevirtual 58, 3) := by decide +kernel
theorem dX4_wet_25 : decode cX4_wet 25 = .ok (.istore_n 2, 1) := by decide +kernel
theorem dX4_wet_26 : decode cX4_wet 26 = .ok (.iload_n 2, 1) := by decide +kernel
theorem dX4_wet_27 : decode cX4_wet 27 = .ok (.ifCond .eq 5, 3) := by decide +kernel
theorem dX4_wet_30 : decode cX4_wet 30 = .ok (.iload_n 2, 1) := by decide +kernel
theorem dX4_wet_31 : decode cX4_wet 31 = .ok (.ireturn, 1) := by decide +kernel
theorem dX4_wet_32 : decode cX4_wet 32 = .ok (.aload_n 0, 1) := by decide +kernel
theorem dX4_wet_33 : decode cX4_wet 33 = .ok (.getfield 10, 3) := by decide +kernel
theorem dX4_wet_36 : decode cX4_wet 36 = .ok (.getfield 107, 3) := by decide +kernel
theorem dX4_wet_39 : decode cX4_wet 39 = .ok (.istore_n 3, 1) := by decide +kernel
theorem dX4_wet_40 : decode cX4_wet 40 = .ok (.aload_n 0, 1) := by decide +kernel
theorem dX4_wet_41 : decode cX4_wet 41 = .ok (.getfield 10, 3) := by decide +kernel
theorem dX4_wet_44 : decode cX4_wet 44 = .ok (.iload_n 1, 1) := by decide +kernel
theorem dX4_wet_45 : decode cX4_wet 45 = .ok (.aload_n 0, 1) := by decide +kernel
theorem dX4_wet_46 : decode cX4_wet 46 = .ok (.getfield 10, 3) := by decide +kernel
theorem dX4_wet_49 : decode cX4_wet 49 = .ok (.invokevirtual 110, 3) := by decide +kernel
theorem dX4_wet_52 : decode cX4_wet 52 = .ok (.invokestatic 113, 3) := by decide +kernel
theorem dX4_wet_55 : decode cX4_wet 55 = .ok (.putfield 107, 3) := by decide +kernel
theorem dX4_wet_58 : decode cX4_wet 58 = .ok (.iload_n 3, 1) := by decide +kernel
theorem dX4_wet_59 : decode cX4_wet 59 = .ok (.ireturn, 1) := by decide +kernel
set_option maxRecDepth 20000 in
theorem ggX4_run_X4_outside : GoodIn wsX4_run wsX4_outside := goodIn_r _ [7, 8, 9, 10, 6, 11, 12, 13, 14, 15, 16, 17, 18, 19, 20, 21, 22, 23, 120, 121, 122, 123, 124, 125, 126, 127, 146, 147] (by decide +kernel) (by decide +kernel)
set_option maxRecDepth 20000 in
theorem gX4_run_X4_outside : GoodIn wsX4_run (wsV RX4 58 RX4 yX4_outside wsX4_outside) := goodIn_app (goodIn_of _ (by decide +kernel)) ggX4_run_X4_outside
set_option maxRecDepth 20000 in
theorem ggX4_run_X0_nodsIn : GoodIn wsX4_run wsX0_nodsIn := goodIn_r _ [28, 29, 30, 31, 32, 27, 33, 34, 35, 36, 37, 38, 39, 40, 41, 42, 43, 44, 45, 46, 47, 48, 49, 50, 14, 15, 16, 17, 18, 19, 51, 52, 53, 54, 55, 56, 57, 58, 59, 60, 61, 62, 63, 64, 65, 66, 67, 68, 69, 70, 71, 72, 73, 74, 75, 76, 77, 78, 79, 80, 81, 82, 83, 84, 85, 86, 87, 88, 89, 90, 91, 92, 93, 94, 95, 96, 97, 98, 99, 100, 101, 102, 103, 104, 105, 106, 107, 108, 109, 110, 111, 112, 113, 114, 115, 116, 117, 118, 119, 128, 129, 130, 131, 132, 133, 134, 135, 136, 137, 138, 139, 140, 141, 142, 143, 144, 145, 146, 147, 148, 149, 150] (by decide +kernel) (by decide +kernel)
set_option maxRecDepth 20000 in
theorem gX4_run_X0_nodsIn : GoodIn wsX4_run (wsV RX4 119 RX0 yX0_nodsIn wsX0_nodsIn) := goodIn_app (goodIn_of _ (by decide +kernel)) ggX4_run_X0_nodsIn
theorem dX4_run_0 : decode cX4_run 0 = .ok (.aload_n 0, 1) := by decide +kernel
theorem dX4_run_1 : decode cX4_run 1 = .ok (.iload_n 1, 1) := by decide +kernel
theorem dX4_run_2 : decode cX4_run 2 = .ok (.iconst 1, 1) := by decide +kernel
theorem dX4_run_3 : decode cX4_run 3 = .ok (.if_icmp .ge 7, 3) := by decide +kernel
theorem dX4_run_6 : decode cX4_run 6 = .ok (.iconst 1, 1) := by decide +kernel
theorem dX4_run_7 : decode cX4_run 7 = .ok (.goto 4, 3) := by decide +kernel
theorem dX4_run_10 : decode cX4_run 10 = .ok (.iconst 0, 1) := by decide +kernel
theorem dX4_run_11 : decode cX4_run 11 = .ok (.iload_n 1, 1) := by decide +kernel
theorem dX4_run_12 : decode cX4_run 12 = .ok (.sipush 3000, 3) := by decide +kernel
theorem dX4_run_15 : decode cX4_run 15 = .ok (.if_icmp .le 7, 3) := by decide +kernel
theorem dX4_run_18 : decode cX4_run 18 = .ok (.iconst 1, 1) := by decide +kernel
theorem dX4_run_19 : decode cX4_run 19 = .ok (.goto 4, 3) := by decide +kernel
theorem dX4_run_22 : decode cX4_run 22 = .ok (.iconst 0, 1) := by decide +kernel
theorem dX4_run_23 : decode cX4_run 23 = .ok (.invokevirtual 58, 3) := by decide +kernel
theorem dX4_run_26 : decode cX4_run 26 = .ok (.istore_n 2, 1) := by decide +kernel
theorem dX4_run_27 : decode cX4_run 27 = .ok (.iload_n 2, 1) := by decide +kernel
theorem dX4_run_28 : decode cX4_run 28 = .ok (.ifCond .eq 5, 3) := by decide +kernel
theorem dX4_run_31 : decode cX4_run 31 = .ok (.iload_n 2, 1) := by decide +kernel
theorem dX4_run_32 : decode cX4_run 32 = .ok (.ireturn, 1) := by decide +kernel
theorem dX4_run_33 : decode cX4_run 33 = .ok (.aload_n 0, 1) := by decide +kernel
theorem dX4_run_34 : decode cX4_run 34 = .ok (.getfield 10, 3) := by decide +kernel
theorem dX4_run_37 : decode cX4_run 37 = .ok (.iload_n 1, 1) := by decide +kernel
theorem dX4_run_38 : decode cX4_run 38 = .ok (.invokevirtual 119, 3) := by decide +kernel
theorem dX4_run_41 : decode cX4_run 41 = .ok (.pop, 1) := by decide +kernel
theorem dX4_run_42 : decode cX4_run 42 = .ok (.aload_n 0, 1) := by decide +kernel
theorem dX4_run_43 : decode cX4_run 43 = .ok (.getfield 10, 3) := by decide +kernel
theorem dX4_run_46 : decode cX4_run 46 = .ok (.getfield 122, 3) := by decide +kernel
theorem dX4_run_49 : decode cX4_run 49 = .ok (.ireturn, 1) := by decide +kernel
set_option maxRecDepth 20000 in
theorem ggX4_now_X4_refuse : GoodIn wsX4_now wsX4_refuse := goodIn_r _ [20, 21, 22, 23, 24, 25, 26, 27, 28, 29, 30, 31, 32, 33, 34, 35, 36, 37, 38, 39, 40, 59, 60] (by decide +kernel) (by decide +kernel)
set_option maxRecDepth 20000 in
theorem gX4_now_X4_refuse : GoodIn wsX4_now (wsV RX4 78 RX4 yX4_refuse wsX4_refuse) := goodIn_app (goodIn_of _ (by decide +kernel)) ggX4_now_X4_refuse
theorem dX4_now_0 : decode cX4_now 0 = .ok (.iload_n 1, 1) := by decide +kernel
theorem dX4_now_1 : decode cX4_now 1 = .ok (.tableswitch 171 0 12 #[67, 75, 83, 91, 99, 107, 115, 123, 131, 139, 147, 155, 163], 67) := by decide +kernel
theorem dX4_now_68 : decode cX4_now 68 = .ok (.aload_n 0, 1) := by decide +kernel
theorem dX4_now_69 : decode cX4_now 69 = .ok (.getfield 10, 3) := by decide +kernel
theorem dX4_now_72 : decode cX4_now 72 = .ok (.getfield 125, 3) := by decide +kernel
theorem dX4_now_75 : decode cX4_now 75 = .ok (.ireturn, 1) := by decide +kernel
theorem dX4_now_76 : decode cX4_now 76 = .ok (.aload_n 0, 1) := by decide +kernel
theorem dX4_now_77 : decode cX4_now 77 = .ok (.getfield 10, 3) := by decide +kernel
theorem dX4_now_80 : decode cX4_now 80 = .ok (.getfield 128, 3) := by decide +kernel
theorem dX4_now_83 : decode cX4_now 83 = .ok (.ireturn, 1) := by decide +kernel
theorem dX4_now_84 : decode cX4_now 84 = .ok (.aload_n 0, 1) := by decide +kernel
theorem dX4_now_85 : decode cX4_now 85 = .ok (.getfield 10, 3) := by decide +kernel
theorem dX4_now_88 : decode cX4_now 88 = .ok (.getfield 107, 3) := by decide +kernel
theorem dX4_now_91 : decode cX4_now 91 = .ok (.ireturn, 1) := by decide +kernel
theorem dX4_now_92 : decode cX4_now 92 = .ok (.aload_n 0, 1) := by decide +kernel
theorem dX4_now_93 : decode cX4_now 93 = .ok (.getfield 10, 3) := by decide +kernel
theorem dX4_now_96 : decode cX4_now 96 = .ok (.getfield 131, 3) := by decide +kernel
theorem dX4_now_99 : decode cX4_now 99 = .ok (.ireturn, 1) := by decide +kernel
theorem dX4_now_100 : decode cX4_now 100 = .ok (.aload_n 0, 1) := by decide +kernel
theorem dX4_now_101 : decode cX4_now 101 = .ok (.getfield 10, 3) := by decide +kernel
theorem dX4_now_104 : decode cX4_now 104 = .ok (.getfield 134, 3) := by decide +kernel
theorem dX4_now_107 : decode cX4_now 107 = .ok (.ireturn, 1) := by decide +kernel
theorem dX4_now_108 : decode cX4_now 108 = .ok (.aload_n 0, 1) := by decide +kernel
theorem dX4_now_109 : decode cX4_now 109 = .ok (.getfield 10, 3) := by decide +kernel
theorem dX4_now_112 : decode cX4_now 112 = .ok (.getfield 137, 3) := by decide +kernel
theorem dX4_now_115 : decode cX4_now 115 = .ok (.ireturn, 1) := by decide +kernel
theorem dX4_now_116 : decode cX4_now 116 = .ok (.aload_n 0, 1) := by decide +kernel
theorem dX4_now_117 : decode cX4_now 117 = .ok (.getfield 10, 3) := by decide +kernel
theorem dX4_now_120 : decode cX4_now 120 = .ok (.getfield 140, 3) := by decide +kernel
theorem dX4_now_123 : decode cX4_now 123 = .ok (.ireturn, 1) := by decide +kernel
theorem dX4_now_124 : decode cX4_now 124 = .ok (.aload_n 0, 1) := by decide +kernel
theorem dX4_now_125 : decode cX4_now 125 = .ok (.getfield 10, 3) := by decide +kernel
theorem dX4_now_128 : decode cX4_now 128 = .ok (.getfield 122, 3) := by decide +kernel
theorem dX4_now_131 : decode cX4_now 131 = .ok (.ireturn, 1) := by decide +kernel
theorem dX4_now_132 : decode cX4_now 132 = .ok (.aload_n 0, 1) := by decide +kernel
theorem dX4_now_133 : decode cX4_now 133 = .ok (.getfield 10, 3) := by decide +kernel
theorem dX4_now_136 : decode cX4_now 136 = .ok (.getfield 143, 3) := by decide +kernel
theorem dX4_now_139 : decode cX4_now 139 = .ok (.ireturn, 1) := by decide +kernel
theorem dX4_now_140 : decode cX4_now 140 = .ok (.aload_n 0, 1) := by decide +kernel
theorem dX4_now_141 : decode cX4_now 141 = .ok (.getfield 10, 3) := by decide +kernel
theorem dX4_now_144 : decode cX4_now 144 = .ok (.getfield 146, 3) := by decide +kernel
theorem dX4_now_147 : decode cX4_now 147 = .ok (.ireturn, 1) := by decide +kernel
theorem dX4_now_148 : decode cX4_now 148 = .ok (.aload_n 0, 1) := by decide +kernel
theorem dX4_now_149 : decode cX4_now 149 = .ok (.getfield 10, 3) := by decide +kernel
theorem dX4_now_152 : decode cX4_now 152 = .ok (.getfield 149, 3) := by decide +kernel
theorem dX4_now_155 : decode cX4_now 155 = .ok (.ireturn, 1) := by decide +kernel
theorem dX4_now_156 : decode cX4_now 156 = .ok (.aload_n 0, 1) := by decide +kernel
theorem dX4_now_157 : decode cX4_now 157 = .ok (.getfield 10, 3) := by decide +kernel
theorem dX4_now_160 : decode cX4_now 160 = .ok (.getfield 103, 3) := by decide +kernel
theorem dX4_now_163 : decode cX4_now 163 = .ok (.ireturn, 1) := by decide +kernel
theorem dX4_now_164 : decode cX4_now 164 = .ok (.aload_n 0, 1) := by decide +kernel
theorem dX4_now_165 : decode cX4_now 165 = .ok (.getfield 10, 3) := by decide +kernel
theorem dX4_now_168 : decode cX4_now 168 = .ok (.getfield 152, 3) := by decide +kernel
theorem dX4_now_171 : decode cX4_now 171 = .ok (.ireturn, 1) := by decide +kernel
theorem dX4_now_172 : decode cX4_now 172 = .ok (.ldc 155, 2) := by decide +kernel
theorem dX4_now_174 : decode cX4_now 174 = .ok (.aload_n 0, 1) := by decide +kernel
theorem dX4_now_175 : decode cX4_now 175 = .ok (.bipush (-2), 2) := by decide +kernel
theorem dX4_now_177 : decode cX4_now 177 = .ok (.invokevirtual 78, 3) := by decide +kernel
theorem dX4_now_180 : decode cX4_now 180 = .ok (.isub, 1) := by decide +kernel
theorem dX4_now_181 : decode cX4_now 181 = .ok (.ireturn, 1) := by decide +kernel
set_option maxRecDepth 20000 in
theorem ggX4_air_X4_refuse : GoodIn wsX4_air wsX4_refuse := goodIn_r _ [6, 7, 8, 9, 10, 11, 12, 13, 14, 15, 16, 17, 18, 42, 43, 44, 45, 46, 47, 48, 49, 50, 51] (by decide +kernel) (by decide +kernel)
set_option maxRecDepth 20000 in
theorem gX4_air_X4_refuse : GoodIn wsX4_air (wsV RX4 78 RX4 yX4_refuse wsX4_refuse) := goodIn_app (goodIn_of _ (by decide +kernel)) ggX4_air_X4_refuse
set_option maxRecDepth 20000 in
theorem ggX4_air_X0_airOf : GoodIn wsX4_air wsX0_airOf := goodIn_r _ [23, 24, 25, 26, 27, 28, 9, 10, 11, 12, 13, 14, 29, 30, 31, 32, 33, 34, 35, 36, 37, 38, 39, 40, 41, 52, 53, 54, 55, 56, 57, 58, 59, 60, 61, 62, 63, 64, 65, 66, 67, 68, 69, 50, 51, 70, 71, 72] (by decide +kernel) (by decide +kernel)
set_option maxRecDepth 20000 in
theorem gX4_air_X0_airOf : GoodIn wsX4_air (wsV RX4 156 RX0 yX0_airOf wsX0_airOf) := goodIn_app (goodIn_of _ (by decide +kernel)) ggX4_air_X0_airOf
theorem dX4_air_0 : decode cX4_air 0 = .ok (.iload_n 1, 1) := by decide +kernel
theorem dX4_air_1 : decode cX4_air 1 = .ok (.ifCond .lt 8, 3) := by decide +kernel
theorem dX4_air_4 : decode cX4_air 4 = .ok (.iload_n 1, 1) := by decide +kernel
theorem dX4_air_5 : decode cX4_air 5 = .ok (.iconst 3, 1) := by decide +kernel
theorem dX4_air_6 : decode cX4_air 6 = .ok (.if_icmp .le 10, 3) := by decide +kernel
theorem dX4_air_9 : decode cX4_air 9 = .ok (.aload_n 0, 1) := by decide +kernel
theorem dX4_air_10 : decode cX4_air 10 = .ok (.bipush (-2), 2) := by decide +kernel
theorem dX4_air_12 : decode cX4_air 12 = .ok (.invokevirtual 78, 3) := by decide +kernel
theorem dX4_air_15 : decode cX4_air 15 = .ok (.ireturn, 1) := by decide +kernel
theorem dX4_air_16 : decode cX4_air 16 = .ok (.aload_n 0, 1) := by decide +kernel
theorem dX4_air_17 : decode cX4_air 17 = .ok (.getfield 10, 3) := by decide +kernel
theorem dX4_air_20 : decode cX4_air 20 = .ok (.bipush 8, 2) := by decide +kernel
theorem dX4_air_22 : decode cX4_air 22 = .ok (.iload_n 1, 1) := by decide +kernel
theorem dX4_air_23 : decode cX4_air 23 = .ok (.iadd, 1) := by decide +kernel
theorem dX4_air_24 : decode cX4_air 24 = .ok (.invokevirtual 156, 3) := by decide +kernel
theorem dX4_air_27 : decode cX4_air 27 = .ok (.ireturn, 1) := by decide +kernel
set_option maxRecDepth 20000 in
theorem ggX4_full_X0_height : GoodIn wsX4_full wsX0_height := goodIn_r _ [6, 7, 8, 9, 10, 11, 12, 13, 14, 23, 24, 25, 26, 27, 28, 29, 30, 31, 32, 33, 34, 35, 36, 37, 38, 39, 40, 41, 42] (by decide +kernel) (by decide +kernel)
set_option maxRecDepth 20000 in
theorem gX4_full_X0_height : GoodIn wsX4_full (wsV RX4 159 RX0 yX0_height wsX0_height) := goodIn_app (goodIn_of _ (by decide +kernel)) ggX4_full_X0_height
theorem dX4_full_0 : decode cX4_full 0 = .ok (.aload_n 0, 1) := by decide +kernel
theorem dX4_full_1 : decode cX4_full 1 = .ok (.getfield 10, 3) := by decide +kernel
theorem dX4_full_4 : decode cX4_full 4 = .ok (.invokevirtual 159, 3) := by decide +kernel
theorem dX4_full_7 : decode cX4_full 7 = .ok (.ireturn, 1) := by decide +kernel
set_option maxRecDepth 20000 in
theorem ggX4_often_X4_outside : GoodIn wsX4_often wsX4_outside := goodIn_r _ [7, 8, 9, 10, 6, 11, 12, 13, 14, 15, 16, 17, 18, 19, 20, 21, 22, 23, 138, 139, 140, 141, 142, 143, 144, 145, 146, 147] (by decide +kernel) (by decide +kernel)
set_option maxRecDepth 20000 in
theorem gX4_often_X4_outside : GoodIn wsX4_often (wsV RX4 58 RX4 yX4_outside wsX4_outside) := goodIn_app (goodIn_of _ (by decide +kernel)) ggX4_often_X4_outside
set_option maxRecDepth 20000 in
theorem ggX4_often_X0_become : GoodIn wsX4_often wsX0_become := goodIn_r _ [28, 29, 30, 31, 32, 33, 34, 35, 36, 37, 38, 39, 40, 41, 42, 43, 44, 45, 46, 47, 48, 49, 16, 50, 18, 19, 51, 52, 53, 54, 55, 56, 57, 58, 59, 60, 61, 62, 63, 64, 65, 66, 67, 148, 149, 150, 151, 152, 153, 154, 155, 156, 157, 158, 159, 160, 161, 162, 163, 164, 165, 146, 147, 166, 167, 168] (by decide +kernel) (by decide +kernel)
set_option maxRecDepth 20000 in
theorem gX4_often_X0_become : GoodIn wsX4_often (wsV RX4 162 RX0 yX0_become wsX0_become) := goodIn_app (goodIn_of _ (by decide +kernel)) ggX4_often_X0_become
set_option maxRecDepth 20000 in
theorem ggX4_often_X0_nodsIn : GoodIn wsX4_often wsX0_nodsIn := goodIn_r _ [71, 40, 72, 73, 74, 27, 75, 35, 37, 38, 29, 33, 34, 44, 42, 41, 39, 76, 77, 78, 79, 45, 30, 80, 14, 15, 16, 17, 18, 19, 81, 82, 83, 62, 84, 64, 65, 66, 85, 86, 87, 88, 89, 90, 91, 92, 93, 94, 95, 53, 96, 97, 52, 54, 98, 99, 100, 101, 102, 103, 104, 105, 31, 32, 106, 107, 108, 109, 110, 111, 112, 113, 114, 115, 116, 117, 43, 118, 119, 120, 121, 36, 122, 123, 124, 125, 46, 126, 127, 128, 129, 130, 131, 132, 133, 134, 135, 136, 137, 148, 149, 150, 151, 152, 153, 154, 155, 156, 157, 158, 159, 160, 161, 162, 163, 164, 165, 146, 147, 166, 167, 168] (by decide +kernel) (by decide +kernel)
set_option maxRecDepth 20000 in
theorem gX4_often_X0_nodsIn : GoodIn wsX4_often (wsV RX4 119 RX0 yX0_nodsIn wsX0_nodsIn) := goodIn_app (goodIn_of _ (by decide +kernel)) ggX4_often_X0_nodsIn
theorem dX4_often_0 : decode cX4_often 0 = .ok (.aload_n 0, 1) := by decide +kernel
theorem dX4_often_1 : decode cX4_often 1 = .ok (.iload_n 1, 1) := by decide +kernel
theorem dX4_often_2 : decode cX4_often 2 = .ok (.iconst 1, 1) := by decide +kernel
theorem dX4_often_3 : decode cX4_often 3 = .ok (.if_icmp .ge 7, 3) := by decide +kernel
theorem dX4_often_6 : decode cX4_often 6 = .ok (.iconst 1, 1) := by decide +kernel
theorem dX4_often_7 : decode cX4_often 7 = .ok (.goto 4, 3) := by decide +kernel
theorem dX4_often_10 : decode cX4_often 10 = .ok (.iconst 0, 1) := by decide +kernel
theorem dX4_often_11 : decode cX4_often 11 = .ok (.iload_n 1, 1) := by decide +kernel
theorem dX4_often_12 : decode cX4_often 12 = .ok (.sipush 3000, 3) := by decide +kernel
theorem dX4_often_15 : decode cX4_often 15 = .ok (.if_icmp .le 7, 3) := by decide +kernel
theorem dX4_often_18 : decode cX4_often 18 = .ok (.iconst 1, 1) := by decide +kernel
theorem dX4_often_19 : decode cX4_often 19 = .ok (.goto 4, 3) := by decide +kernel
theorem dX4_often_22 : decode cX4_often 22 = .ok (.iconst 0, 1) := by decide +kernel
theorem dX4_often_23 : decode cX4_often 23 = .ok (.invokevirtual 58, 3) := by decide +kernel
theorem dX4_often_26 : decode cX4_often 26 = .ok (.istore_n 2, 1) := by decide +kernel
theorem dX4_often_27 : decode cX4_often 27 = .ok (.iload_n 2, 1) := by decide +kernel
theorem dX4_often_28 : decode cX4_often 28 = .ok (.ifCond .eq 5, 3) := by decide +kernel
theorem dX4_often_31 : decode cX4_often 31 = .ok (.iload_n 2, 1) := by decide +kernel
theorem dX4_often_32 : decode cX4_often 32 = .ok (.ireturn, 1) := by decide +kernel
theorem dX4_often_33 : decode cX4_often 33 = .ok (.aload_n 0, 1) := by decide +kernel
theorem dX4_often_34 : decode cX4_often 34 = .ok (.getfield 19, 3) := by decide +kernel
theorem dX4_often_37 : decode cX4_often 37 = .ok (.aload_n 0, 1) := by decide +kernel
theorem dX4_often_38 : decode cX4_often 38 = .ok (.getfield 10, 3) := by decide +kernel
theorem dX4_often_41 : decode cX4_often 41 = .ok (.invokevirtual 162, 3) := by decide +kernel
theorem dX4_often_44 : decode cX4_often 44 = .ok (.aload_n 0, 1) := by decide +kernel
theorem dX4_often_45 : decode cX4_often 45 = .ok (.getfield 19, 3) := by decide +kernel
theorem dX4_often_48 : decode cX4_often 48 = .ok (.iload_n 1, 1) := by decide +kernel
theorem dX4_often_49 : decode cX4_often 49 = .ok (.invokevirtual 119, 3) := by decide +kernel
theorem dX4_often_52 : decode cX4_often 52 = .ok (.ireturn, 1) := by decide +kernel
set_option maxRecDepth 20000 in
theorem ggX4_law_X4_outside : GoodIn wsX4_law wsX4_outside := goodIn_r _ [5, 6, 7, 8, 4, 9, 10, 11, 12, 13, 14, 15, 16, 17, 18, 19, 20, 21, 150, 151, 152, 153, 154, 155, 156, 157, 158, 159] (by decide +kernel) (by decide +kernel)
set_option maxRecDepth 20000 in
theorem gX4_law_X4_outside : GoodIn wsX4_law (wsV RX4 58 RX4 yX4_outside wsX4_outside) := goodIn_app (goodIn_of _ (by decide +kernel)) ggX4_law_X4_outside
set_option maxRecDepth 20000 in
theorem ggX4_law_X4_freshWith : GoodIn wsX4_law wsX4_freshWith := goodIn_r _ [25, 26, 27, 28, 29, 30, 31, 32, 33, 34, 35, 36, 37, 38, 39, 40, 41, 42, 43, 44, 45, 46, 47, 48, 49, 50, 14, 51, 16, 17, 52, 53, 54, 55, 56, 57, 58, 59, 60, 19, 20, 21, 61, 62, 63, 64, 65, 66, 67, 68, 69, 70, 71, 72, 73, 74, 75, 76, 77, 12, 13, 15, 78, 79, 80, 81, 82, 83, 84, 150, 151, 152, 153, 154, 155, 156, 157, 160, 161, 162, 163, 164, 165, 166, 167, 168, 169, 170, 171, 172, 173, 174, 175, 176, 177, 158, 159, 178, 179, 180] (by decide +kernel) (by decide +kernel)
set_option maxRecDepth 20000 in
theorem gX4_law_X4_freshWith : GoodIn wsX4_law (wsV RX4 166 RX4 yX4_freshWith wsX4_freshWith) := goodIn_app (goodIn_of _ (by decide +kernel)) ggX4_law_X4_freshWith
set_option maxRecDepth 20000 in
theorem ggX4_law_X0_nodsIn : GoodIn wsX4_law wsX0_nodsIn := goodIn_r _ [88, 44, 89, 90, 91, 31, 92, 39, 41, 42, 33, 37, 38, 45, 83, 82, 43, 93, 94, 95, 96, 46, 34, 77, 12, 13, 14, 15, 16, 17, 97, 98, 99, 64, 100, 66, 67, 68, 101, 102, 103, 104, 105, 106, 107, 108, 109, 110, 111, 54, 112, 113, 53, 55, 114, 115, 116, 117, 118, 119, 120, 121, 35, 36, 122, 123, 124, 125, 126, 127, 128, 129, 78, 79, 80, 81, 84, 130, 131, 132, 133, 40, 134, 135, 136, 137, 47, 138, 139, 140, 141, 142, 143, 144, 145, 146, 147, 148, 149, 160, 161, 162, 163, 164, 165, 166, 167, 168, 169, 170, 171, 172, 173, 174, 175, 176, 177, 158, 159, 178, 179, 180] (by decide +kernel) (by decide +kernel)
set_option maxRecDepth 20000 in
theorem gX4_law_X0_nodsIn : GoodIn wsX4_law (wsV RX4 119 RX0 yX0_nodsIn wsX0_nodsIn) := goodIn_app (goodIn_of _ (by decide +kernel)) ggX4_law_X0_nodsIn
theorem dX4_law_0 : decode cX4_law 0 = .ok (.aload_n 0, 1) := by decide +kernel
theorem dX4_law_1 : decode cX4_law 1 = .ok (.iload_n 1, 1) := by decide +kernel
theorem dX4_law_2 : decode cX4_law 2 = .ok (.ifCond .lt 8, 3) := by decide +kernel
theorem dX4_law_5 : decode cX4_law 5 = .ok (.iload_n 2, 1) := by decide +kernel
theorem dX4_law_6 : decode cX4_law 6 = .ok (.iconst 1, 1) := by decide +kernel
theorem dX4_law_7 : decode cX4_law 7 = .ok (.if_icmp .ge 7, 3) := by decide +kernel
theorem dX4_law_10 : decode cX4_law 10 = .ok (.iconst 1, 1) := by decide +kernel
theorem dX4_law_11 : decode cX4_law 11 = .ok (.goto 4, 3) := by decide +kernel
theorem dX4_law_14 : decode cX4_law 14 = .ok (.iconst 0, 1) := by decide +kernel
theorem dX4_law_15 : decode cX4_law 15 = .ok (.iload_n 1, 1) := by decide +kernel
theorem dX4_law_16 : decode cX4_law 16 = .ok (.bipush 99, 2) := by decide +kernel
theorem dX4_law_18 : decode cX4_law 18 = .ok (.if_icmp .gt 10, 3) := by decide +kernel
theorem dX4_law_21 : decode cX4_law 21 = .ok (.iload_n 2, 1) := by decide +kernel
theorem dX4_law_22 : decode cX4_law 22 = .ok (.sipush 3000, 3) := by decide +kernel
theorem dX4_law_25 : decode cX4_law 25 = .ok (.if_icmp .le 7, 3) := by decide +kernel
theorem dX4_law_28 : decode cX4_law 28 = .ok (.iconst 1, 1) := by decide +kernel
theorem dX4_law_29 : decode cX4_law 29 = .ok (.goto 4, 3) := by decide +kernel
theorem dX4_law_32 : decode cX4_law 32 = .ok (.iconst 0, 1) := by decide +kernel
theorem dX4_law_33 : decode cX4_law 33 = .ok (.invokevirtual 58, 3) := by decide +kernel
theorem dX4_law_36 : decode cX4_law 36 = .ok (.istore_n 3, 1) := by decide +kernel
theorem dX4_law_37 : decode cX4_law 37 = .ok (.iload_n 3, 1) := by decide +kernel
theorem dX4_law_38 : decode cX4_law 38 = .ok (.ifCond .eq 5, 3) := by decide +kernel
theorem dX4_law_41 : decode cX4_law 41 = .ok (.iload_n 3, 1) := by decide +kernel
theorem dX4_law_42 : decode cX4_law 42 = .ok (.ireturn, 1) := by decide +kernel
theorem dX4_law_43 : decode cX4_law 43 = .ok (.aload_n 0, 1) := by decide +kernel
theorem dX4_law_44 : decode cX4_law 44 = .ok (.bipush 8, 2) := by decide +kernel
theorem dX4_law_46 : decode cX4_law 46 = .ok (.iload_n 1, 1) := by decide +kernel
theorem dX4_law_47 : decode cX4_law 47 = .ok (.invokevirtual 166, 3) := by decide +kernel
theorem dX4_law_50 : decode cX4_law 50 = .ok (.iload_n 2, 1) := by decide +kernel
theorem dX4_law_51 : decode cX4_law 51 = .ok (.invokevirtual 119, 3) := by decide +kernel
theorem dX4_law_54 : decode cX4_law 54 = .ok (.ireturn, 1) := by decide +kernel
set_option maxRecDepth 20000 in
theorem ggX4_stops_X4_outside : GoodIn wsX4_stops wsX4_outside := goodIn_r _ [5, 6, 7, 8, 4, 9, 10, 11, 12, 13, 14, 15, 16, 17, 18, 19, 20, 21, 150, 151, 152, 153, 154, 155, 156, 157, 158, 159] (by decide +kernel) (by decide +kernel)
set_option maxRecDepth 20000 in
theorem gX4_stops_X4_outside : GoodIn wsX4_stops (wsV RX4 58 RX4 yX4_outside wsX4_outside) := goodIn_app (goodIn_of _ (by decide +kernel)) ggX4_stops_X4_outside
set_option maxRecDepth 20000 in
theorem ggX4_stops_X4_freshWith : GoodIn wsX4_stops wsX4_freshWith := goodIn_r _ [25, 26, 27, 28, 29, 30, 31, 32, 33, 34, 35, 36, 37, 38, 39, 40, 41, 42, 43, 44, 45, 46, 47, 48, 49, 50, 14, 51, 16, 17, 52, 53, 54, 55, 56, 57, 58, 59, 60, 19, 20, 21, 61, 62, 63, 64, 65, 66, 67, 68, 69, 70, 71, 72, 73, 74, 75, 76, 77, 12, 13, 15, 78, 79, 80, 81, 82, 83, 84, 150, 151, 152, 153, 154, 155, 156, 157, 160, 161, 162, 163, 164, 165, 166, 167, 168, 169, 170, 171, 172, 173, 174, 175, 176, 177, 158, 159, 178, 179, 180] (by decide +kernel) (by decide +kernel)
set_option maxRecDepth 20000 in
theorem gX4_stops_X4_freshWith : GoodIn wsX4_stops (wsV RX4 166 RX4 yX4_freshWith wsX4_freshWith) := goodIn_app (goodIn_of _ (by decide +kernel)) ggX4_stops_X4_freshWith
set_option maxRecDepth 20000 in
theorem ggX4_stops_X0_nodsWithin : GoodIn wsX4_stops wsX0_nodsWithin := goodIn_r _ [88, 44, 89, 90, 91, 31, 92, 39, 41, 42, 33, 37, 38, 45, 83, 82, 43, 93, 94, 95, 96, 46, 34, 77, 12, 13, 14, 15, 16, 17, 97, 98, 99, 64, 100, 66, 67, 68, 101, 102, 103, 104, 105, 106, 107, 108, 109, 110, 111, 54, 112, 113, 53, 55, 114, 115, 116, 117, 118, 119, 120, 121, 35, 36, 122, 123, 124, 125, 126, 127, 128, 129, 78, 79, 80, 81, 84, 130, 131, 132, 133, 40, 134, 135, 136, 137, 47, 138, 139, 140, 141, 142, 143, 144, 145, 146, 147, 148, 149, 160, 161, 162, 163, 164, 165, 166, 167, 168, 169, 170, 171, 172, 173, 174, 175, 176, 177, 158, 159, 178, 179, 180] (by decide +kernel) (by decide +kernel)
set_option maxRecDepth 20000 in
theorem gX4_stops_X0_nodsWithin : GoodIn wsX4_stops (wsV RX4 170 RX0 yX0_nodsWithin wsX0_nodsWithin) := goodIn_app (goodIn_of _ (by decide +kernel)) ggX4_stops_X0_nodsWithin
theorem dX4_stops_0 : decode cX4_stops 0 = .ok (.aload_n 0, 1) := by decide +kernel
theorem dX4_stops_1 : decode cX4_stops 1 = .ok (.iload_n 1, 1) := by decide +kernel
theorem dX4_stops_2 : decode cX4_stops 2 = .ok (.iconst 1, 1) := by decide +kernel
theorem dX4_stops_3 : decode cX4_stops 3 = .ok (.if_icmp .ge 7, 3) := by decide +kernel
theorem dX4_stops_6 : decode cX4_stops 6 = .ok (.iconst 1, 1) := by decide +kernel
theorem dX4_stops_7 : decode cX4_stops 7 = .ok (.goto 4, 3) := by decide +kernel
theorem dX4_stops_10 : decode cX4_stops 10 = .ok (.iconst 0, 1) := by decide +kernel
theorem dX4_stops_11 : decode cX4_stops 11 = .ok (.iload_n 1, 1) := by decide +kernel
theorem dX4_stops_12 : decode cX4_stops 12 = .ok (.sipush 3000, 3) := by decide +kernel
theorem dX4_stops_15 : decode cX4_stops 15 = .ok (.if_icmp .le 7, 3) := by decide +kernel
theorem dX4_stops_18 : decode cX4_stops 18 = .ok (.iconst 1, 1) := by decide +kernel
theorem dX4_stops_19 : decode cX4_stops 19 = .ok (.goto 4, 3) := by decide +kernel
theorem dX4_stops_22 : decode cX4_stops 22 = .ok (.iconst 0, 1) := by decide +kernel
theorem dX4_stops_23 : decode cX4_stops 23 = .ok (.invokevirtual 58, 3) := by decide +kernel
theorem dX4_stops_26 : decode cX4_stops 26 = .ok (.istore_n 2, 1) := by decide +kernel
theorem dX4_stops_27 : decode cX4_stops 27 = .ok (.iload_n 2, 1) := by decide +kernel
theorem dX4_stops_28 : decode cX4_stops 28 = .ok (.ifCond .eq 5, 3) := by decide +kernel
theorem dX4_stops_31 : decode cX4_stops 31 = .ok (.iload_n 2, 1) := by decide +kernel
theorem dX4_stops_32 : decode cX4_stops 32 = .ok (.ireturn, 1) := by decide +kernel
theorem dX4_stops_33 : decode cX4_stops 33 = .ok (.iconst 0, 1) := by decide +kernel
theorem dX4_stops_34 : decode cX4_stops 34 = .ok (.istore_n 3, 1) := by decide +kernel
theorem dX4_stops_35 : decode cX4_stops 35 = .ok (.iload_n 3, 1) := by decide +kernel
theorem dX4_stops_36 : decode cX4_stops 36 = .ok (.bipush 99, 2) := by decide +kernel
theorem dX4_stops_38 : decode cX4_stops 38 = .ok (.if_icmp .gt 25, 3) := by decide +kernel
theorem dX4_stops_41 : decode cX4_stops 41 = .ok (.aload_n 0, 1) := by decide +kernel
theorem dX4_stops_42 : decode cX4_stops 42 = .ok (.bipush 8, 2) := by decide +kernel
theorem dX4_stops_44 : decode cX4_stops 44 = .ok (.iload_n 3, 1) := by decide +kernel
theorem dX4_stops_45 : decode cX4_stops 45 = .ok (.invokevirtual 166, 3) := by decide +kernel
theorem dX4_stops_48 : decode cX4_stops 48 = .ok (.iload_n 1, 1) := by decide +kernel
theorem dX4_stops_49 : decode cX4_stops 49 = .ok (.invokevirtual 170, 3) := by decide +kernel
theorem dX4_stops_52 : decode cX4_stops 52 = .ok (.ifCond .eq 5, 3) := by decide +kernel
theorem dX4_stops_55 : decode cX4_stops 55 = .ok (.iload_n 3, 1) := by decide +kernel
theorem dX4_stops_56 : decode cX4_stops 56 = .ok (.ireturn, 1) := by decide +kernel
theorem dX4_stops_57 : decode cX4_stops 57 = .ok (.iinc 3 1, 3) := by decide +kernel
theorem dX4_stops_60 : decode cX4_stops 60 = .ok (.goto (-25), 3) := by decide +kernel
theorem dX4_stops_63 : decode cX4_stops 63 = .ok (.bipush (-9), 2) := by decide +kernel
theorem dX4_stops_65 : decode cX4_stops 65 = .ok (.ireturn, 1) := by decide +kernel
set_option maxRecDepth 20000 in
theorem ggX4_pegs_X4_refuse : GoodIn wsX4_pegs wsX4_refuse := goodIn_r _ [5, 6, 7, 8, 9, 10, 11, 12, 13, 14, 15, 16, 17, 150, 151, 152, 153, 154, 155, 156, 157, 158, 159] (by decide +kernel) (by decide +kernel)
set_option maxRecDepth 20000 in
theorem gX4_pegs_X4_refuse : GoodIn wsX4_pegs (wsV RX4 78 RX4 yX4_refuse wsX4_refuse) := goodIn_app (goodIn_of _ (by decide +kernel)) ggX4_pegs_X4_refuse
set_option maxRecDepth 20000 in
theorem ggX4_pegs_X4_outside : GoodIn wsX4_pegs wsX4_outside := goodIn_r _ [21, 1, 2, 3, 4, 5, 6, 7, 8, 9, 10, 11, 12, 13, 14, 15, 16, 17, 150, 151, 152, 153, 154, 155, 156, 157, 158, 159] (by decide +kernel) (by decide +kernel)
set_option maxRecDepth 20000 in
theorem gX4_pegs_X4_outside : GoodIn wsX4_pegs (wsV RX4 58 RX4 yX4_outside wsX4_outside) := goodIn_app (goodIn_of _ (by decide +kernel)) ggX4_pegs_X4_outside
set_option maxRecDepth 20000 in
theorem ggX4_pegs_X4_freshWith : GoodIn wsX4_pegs wsX4_freshWith := goodIn_r _ [25, 26, 27, 28, 29, 30, 31, 32, 33, 34, 35, 36, 37, 38, 39, 40, 41, 42, 43, 44, 45, 46, 47, 48, 49, 50, 10, 51, 12, 13, 52, 53, 54, 55, 56, 57, 58, 59, 60, 15, 16, 17, 61, 62, 63, 64, 65, 66, 67, 68, 69, 70, 71, 72, 73, 74, 75, 76, 77, 8, 9, 11, 78, 79, 80, 81, 82, 83, 84, 150, 151, 152, 153, 154, 155, 156, 157, 160, 161, 162, 163, 164, 165, 166, 167, 168, 169, 170, 171, 172, 173, 174, 175, 176, 177, 158, 159, 178, 179, 180] (by decide +kernel) (by decide +kernel)
set_option maxRecDepth 20000 in
theorem gX4_pegs_X4_freshWith : GoodIn wsX4_pegs (wsV RX4 166 RX4 yX4_freshWith wsX4_freshWith) := goodIn_app (goodIn_of _ (by decide +kernel)) ggX4_pegs_X4_freshWith
set_option maxRecDepth 20000 in
theorem ggX4_pegs_X0_nodsWithin : GoodIn wsX4_pegs wsX0_nodsWithin := goodIn_r _ [88, 44, 89, 90, 91, 31, 92, 39, 41, 42, 33, 37, 38, 45, 83, 82, 43, 93, 94, 95, 96, 46, 34, 77, 8, 9, 10, 11, 12, 13, 97, 98, 99, 64, 100, 66, 67, 68, 101, 102, 103, 104, 105, 106, 107, 108, 109, 110, 111, 54, 112, 113, 53, 55, 114, 115, 116, 117, 118, 119, 120, 121, 35, 36, 122, 123, 124, 125, 126, 127, 128, 129, 78, 79, 80, 81, 84, 130, 131, 132, 133, 40, 134, 135, 136, 137, 47, 138, 139, 140, 141, 142, 143, 144, 145, 146, 147, 148, 149, 160, 161, 162, 163, 164, 165, 166, 167, 168, 169, 170, 171, 172, 173, 174, 175, 176, 177, 158, 159, 178, 179, 180] (by decide +kernel) (by decide +kernel)
set_option maxRecDepth 20000 in
theorem gX4_pegs_X0_nodsWithin : GoodIn wsX4_pegs (wsV RX4 170 RX0 yX0_nodsWithin wsX0_nodsWithin) := goodIn_app (goodIn_of _ (by decide +kernel)) ggX4_pegs_X0_nodsWithin
theorem dX4_pegs_0 : decode cX4_pegs 0 = .ok (.iload_n 2, 1) := by decide +kernel
theorem dX4_pegs_1 : decode cX4_pegs 1 = .ok (.ifCond .lt 8, 3) := by decide +kernel
theorem dX4_pegs_4 : decode cX4_pegs 4 = .ok (.iload_n 2, 1) := by decide +kernel
theorem dX4_pegs_5 : decode cX4_pegs 5 = .ok (.iconst 1, 1) := by decide +kernel
theorem dX4_pegs_6 : decode cX4_pegs 6 = .ok (.if_icmp .le 10, 3) := by decide +kernel
theorem dX4_pegs_9 : decode cX4_pegs 9 = .ok (.aload_n 0, 1) := by decide +kernel
theorem dX4_pegs_10 : decode cX4_pegs 10 = .ok (.bipush (-2), 2) := by decide +kernel
theorem dX4_pegs_12 : decode cX4_pegs 12 = .ok (.invokevirtual 78, 3) := by decide +kernel
theorem dX4_pegs_15 : decode cX4_pegs 15 = .ok (.ireturn, 1) := by decide +kernel
theorem dX4_pegs_16 : decode cX4_pegs 16 = .ok (.aload_n 0, 1) := by decide +kernel
theorem dX4_pegs_17 : decode cX4_pegs 17 = .ok (.iload_n 1, 1) := by decide +kernel
theorem dX4_pegs_18 : decode cX4_pegs 18 = .ok (.iconst 1, 1) := by decide +kernel
theorem dX4_pegs_19 : decode cX4_pegs 19 = .ok (.if_icmp .ge 7, 3) := by decide +kernel
theorem dX4_pegs_22 : decode cX4_pegs 22 = .ok (.iconst 1, 1) := by decide +kernel
theorem dX4_pegs_23 : decode cX4_pegs 23 = .ok (.goto 4, 3) := by decide +kernel
theorem dX4_pegs_26 : decode cX4_pegs 26 = .ok (.iconst 0, 1) := by decide +kernel
theorem dX4_pegs_27 : decode cX4_pegs 27 = .ok (.iload_n 1, 1) := by decide +kernel
theorem dX4_pegs_28 : decode cX4_pegs 28 = .ok (.sipush 1000, 3) := by decide +kernel
theorem dX4_pegs_31 : decode cX4_pegs 31 = .ok (.if_icmp .le 7, 3) := by decide +kernel
theorem dX4_pegs_34 : decode cX4_pegs 34 = .ok (.iconst 1, 1) := by decide +kernel
theorem dX4_pegs_35 : decode cX4_pegs 35 = .ok (.goto 4, 3) := by decide +kernel
theorem dX4_pegs_38 : decode cX4_pegs 38 = .ok (.iconst 0, 1) := by decide +kernel
theorem dX4_pegs_39 : decode cX4_pegs 39 = .ok (.invokevirtual 58, 3) := by decide +kernel
theorem dX4_pegs_42 : decode cX4_pegs 42 = .ok (.istore_n 3, 1) := by decide +kernel
theorem dX4_pegs_43 : decode cX4_pegs 43 = .ok (.iload_n 3, 1) := by decide +kernel
theorem dX4_pegs_44 : decode cX4_pegs 44 = .ok (.ifCond .eq 5, 3) := by decide +kernel
theorem dX4_pegs_47 : decode cX4_pegs 47 = .ok (.iload_n 3, 1) := by decide +kernel
theorem dX4_pegs_48 : decode cX4_pegs 48 = .ok (.ireturn, 1) := by decide +kernel
theorem dX4_pegs_49 : decode cX4_pegs 49 = .ok (.iconst 1, 1) := by decide +kernel
theorem dX4_pegs_50 : decode cX4_pegs 50 = .ok (.istore 4, 2) := by decide +kernel
theorem dX4_pegs_52 : decode cX4_pegs 52 = .ok (.iload 4, 2) := by decide +kernel
theorem dX4_pegs_54 : decode cX4_pegs 54 = .ok (.bipush 99, 2) := by decide +kernel
theorem dX4_pegs_56 : decode cX4_pegs 56 = .ok (.if_icmp .gt 42, 3) := by decide +kernel
theorem dX4_pegs_59 : decode cX4_pegs 59 = .ok (.iload_n 2, 1) := by decide +kernel
theorem dX4_pegs_60 : decode cX4_pegs 60 = .ok (.ifCond .ne 8, 3) := by decide +kernel
theorem dX4_pegs_63 : decode cX4_pegs 63 = .ok (.iload 4, 2) := by decide +kernel
theorem dX4_pegs_65 : decode cX4_pegs 65 = .ok (.goto 8, 3) := by decide +kernel
theorem dX4_pegs_68 : decode cX4_pegs 68 = .ok (.bipush 100, 2) := by decide +kernel
theorem dX4_pegs_70 : decode cX4_pegs 70 = .ok (.iload 4, 2) := by decide +kernel
theorem dX4_pegs_72 : decode cX4_pegs 72 = .ok (.isub, 1) := by decide +kernel
theorem dX4_pegs_73 : decode cX4_pegs 73 = .ok (.istore 5, 2) := by decide +kernel
theorem dX4_pegs_75 : decode cX4_pegs 75 = .ok (.aload_n 0, 1) := by decide +kernel
theorem dX4_pegs_76 : decode cX4_pegs 76 = .ok (.iconst 1, 1) := by decide +kernel
theorem dX4_pegs_77 : decode cX4_pegs 77 = .ok (.iload 5, 2) := by decide +kernel
theorem dX4_pegs_79 : decode cX4_pegs 79 = .ok (.invokevirtual 166, 3) := by decide +kernel
theorem dX4_pegs_82 : decode cX4_pegs 82 = .ok (.iload_n 1, 1) := by decide +kernel
theorem dX4_pegs_83 : decode cX4_pegs 83 = .ok (.invokevirtual 170, 3) := by decide +kernel
theorem dX4_pegs_86 : decode cX4_pegs 86 = .ok (.ifCond .eq 6, 3) := by decide +kernel
theorem dX4_pegs_89 : decode cX4_pegs 89 = .ok (.iload 5, 2) := by decide +kernel
theorem dX4_pegs_91 : decode cX4_pegs 91 = .ok (.ireturn, 1) := by decide +kernel
theorem dX4_pegs_92 : decode cX4_pegs 92 = .ok (.iinc 4 1, 3) := by decide +kernel
theorem dX4_pegs_95 : decode cX4_pegs 95 = .ok (.goto (-43), 3) := by decide +kernel
theorem dX4_pegs_98 : decode cX4_pegs 98 = .ok (.bipush (-9), 2) := by decide +kernel
theorem dX4_pegs_100 : decode cX4_pegs 100 = .ok (.ireturn, 1) := by decide +kernel
set_option maxRecDepth 20000 in
theorem ggX4_widest_X4_outside : GoodIn wsX4_widest wsX4_outside := goodIn_r _ [5, 6, 7, 8, 4, 9, 10, 11, 12, 13, 14, 15, 16, 17, 18, 19, 20, 21, 158, 159, 160, 161, 162, 163, 164, 165, 166, 167] (by decide +kernel) (by decide +kernel)
set_option maxRecDepth 20000 in
theorem gX4_widest_X4_outside : GoodIn wsX4_widest (wsV RX4 58 RX4 yX4_outside wsX4_outside) := goodIn_app (goodIn_of _ (by decide +kernel)) ggX4_widest_X4_outside
set_option maxRecDepth 20000 in
theorem ggX4_widest_X4_airsFor : GoodIn wsX4_widest wsX4_airsFor := goodIn_r _ [25, 26, 27, 28, 4, 29, 30, 31, 32, 33, 34, 35, 36, 37, 38, 39, 40, 41, 42, 43, 44, 45, 46, 47, 48, 49, 50, 51, 52, 53, 54, 14, 55, 16, 17, 56, 57, 58, 59, 60, 61, 62, 63, 64, 19, 20, 21, 65, 66, 67, 68, 69, 70, 71, 72, 73, 74, 75, 76, 77, 78, 79, 80, 81, 12, 13, 15, 82, 83, 84, 85, 86, 87, 88, 89, 90, 91, 92, 93, 94, 95, 96, 97, 98, 99, 100, 101, 102, 103, 104, 105, 106, 107, 108, 109, 110, 111, 112, 113, 114, 115, 116, 117, 118, 119, 120, 121, 122, 123, 124, 125, 126, 127, 128, 129, 130, 131, 132, 133, 134, 135, 136, 137, 138, 139, 140, 141, 142, 143, 144, 145, 146, 147, 148, 149, 150, 151, 152, 153, 154, 155, 156, 157, 158, 159, 160, 161, 162, 163, 164, 165, 168, 169, 170, 171, 172, 173, 174, 175, 176, 177, 178, 179, 180, 181, 182, 183, 184, 185, 166, 167, 186, 187, 188] (by decide +kernel) (by decide +kernel)
set_option maxRecDepth 20000 in
theorem gX4_widest_X4_airsFor : GoodIn wsX4_widest (wsV RX4 174 RX4 yX4_airsFor wsX4_airsFor) := goodIn_app (goodIn_of _ (by decide +kernel)) ggX4_widest_X4_airsFor
theorem dX4_widest_0 : decode cX4_widest 0 = .ok (.aload_n 0, 1) := by decide +kernel
theorem dX4_widest_1 : decode cX4_widest 1 = .ok (.iload_n 1, 1) := by decide +kernel
theorem dX4_widest_2 : decode cX4_widest 2 = .ok (.iconst 1, 1) := by decide +kernel
theorem dX4_widest_3 : decode cX4_widest 3 = .ok (.if_icmp .ge 7, 3) := by decide +kernel
theorem dX4_widest_6 : decode cX4_widest 6 = .ok (.iconst 1, 1) := by decide +kernel
theorem dX4_widest_7 : decode cX4_widest 7 = .ok (.goto 4, 3) := by decide +kernel
theorem dX4_widest_10 : decode cX4_widest 10 = .ok (.iconst 0, 1) := by decide +kernel
theorem dX4_widest_11 : decode cX4_widest 11 = .ok (.iload_n 1, 1) := by decide +kernel
theorem dX4_widest_12 : decode cX4_widest 12 = .ok (.sipush 1000, 3) := by decide +kernel
theorem dX4_widest_15 : decode cX4_widest 15 = .ok (.if_icmp .le 7, 3) := by decide +kernel
theorem dX4_widest_18 : decode cX4_widest 18 = .ok (.iconst 1, 1) := by decide +kernel
theorem dX4_widest_19 : decode cX4_widest 19 = .ok (.goto 4, 3) := by decide +kernel
theorem dX4_widest_22 : decode cX4_widest 22 = .ok (.iconst 0, 1) := by decide +kernel
theorem dX4_widest_23 : decode cX4_widest 23 = .ok (.invokevirtual 58, 3) := by decide +kernel
theorem dX4_widest_26 : decode cX4_widest 26 = .ok (.istore_n 2, 1) := by decide +kernel
theorem dX4_widest_27 : decode cX4_widest 27 = .ok (.iload_n 2, 1) := by decide +kernel
theorem dX4_widest_28 : decode cX4_widest 28 = .ok (.ifCond .eq 5, 3) := by decide +kernel
theorem dX4_widest_31 : decode cX4_widest 31 = .ok (.iload_n 2, 1) := by decide +kernel
theorem dX4_widest_32 : decode cX4_widest 32 = .ok (.ireturn, 1) := by decide +kernel
theorem dX4_widest_33 : decode cX4_widest 33 = .ok (.iconst 0, 1) := by decide +kernel
theorem dX4_widest_34 : decode cX4_widest 34 = .ok (.istore_n 3, 1) := by decide +kernel
theorem dX4_widest_35 : decode cX4_widest 35 = .ok (.iconst (-1), 1) := by decide +kernel
theorem dX4_widest_36 : decode cX4_widest 36 = .ok (.istore 4, 2) := by decide +kernel
theorem dX4_widest_38 : decode cX4_widest 38 = .ok (.bipush 10, 2) := by decide +kernel
theorem dX4_widest_40 : decode cX4_widest 40 = .ok (.istore 5, 2) := by decide +kernel
theorem dX4_widest_42 : decode cX4_widest 42 = .ok (.iload 5, 2) := by decide +kernel
theorem dX4_widest_44 : decode cX4_widest 44 = .ok (.bipush 90, 2) := by decide +kernel
theorem dX4_widest_46 : decode cX4_widest 46 = .ok (.if_icmp .gt 32, 3) := by decide +kernel
theorem dX4_widest_49 : decode cX4_widest 49 = .ok (.aload_n 0, 1) := by decide +kernel
theorem dX4_widest_50 : decode cX4_widest 50 = .ok (.iload 5, 2) := by decide +kernel
theorem dX4_widest_52 : decode cX4_widest 52 = .ok (.iload_n 1, 1) := by decide +kernel
theorem dX4_widest_53 : decode cX4_widest 53 = .ok (.invokevirtual 174, 3) := by decide +kernel
theorem dX4_widest_56 : decode cX4_widest 56 = .ok (.istore 6, 2) := by decide +kernel
theorem dX4_widest_58 : decode cX4_widest 58 = .ok (.iload 6, 2) := by decide +kernel
theorem dX4_widest_60 : decode cX4_widest 60 = .ok (.iload 4, 2) := by decide +kernel
theorem dX4_widest_62 : decode cX4_widest 62 = .ok (.if_icmp .le 10, 3) := by decide +kernel
theorem dX4_widest_65 : decode cX4_widest 65 = .ok (.iload 6, 2) := by decide +kernel
theorem dX4_widest_67 : decode cX4_widest 67 = .ok (.istore 4, 2) := by decide +kernel
theorem dX4_widest_69 : decode cX4_widest 69 = .ok (.iload 5, 2) := by decide +kernel
theorem dX4_widest_71 : decode cX4_widest 71 = .ok (.istore_n 3, 1) := by decide +kernel
theorem dX4_widest_72 : decode cX4_widest 72 = .ok (.iinc 5 10, 3) := by decide +kernel
theorem dX4_widest_75 : decode cX4_widest 75 = .ok (.goto (-33), 3) := by decide +kernel
theorem dX4_widest_78 : decode cX4_widest 78 = .ok (.iload_n 3, 1) := by decide +kernel
theorem dX4_widest_79 : decode cX4_widest 79 = .ok (.ireturn, 1) := by decide +kernel
set_option maxRecDepth 20000 in
theorem ggX4_lifts_X4_outside : GoodIn wsX4_lifts wsX4_outside := goodIn_r _ [5, 6, 7, 8, 4, 9, 10, 11, 12, 13, 14, 15, 16, 17, 18, 19, 20, 21, 150, 151, 152, 153, 154, 155, 156, 157, 158, 159] (by decide +kernel) (by decide +kernel)
set_option maxRecDepth 20000 in
theorem gX4_lifts_X4_outside : GoodIn wsX4_lifts (wsV RX4 58 RX4 yX4_outside wsX4_outside) := goodIn_app (goodIn_of _ (by decide +kernel)) ggX4_lifts_X4_outside
set_option maxRecDepth 20000 in
theorem ggX4_lifts_X4_freshWith : GoodIn wsX4_lifts wsX4_freshWith := goodIn_r _ [25, 26, 27, 28, 29, 30, 31, 32, 33, 34, 35, 36, 37, 38, 39, 40, 41, 42, 43, 44, 45, 46, 47, 48, 49, 50, 14, 51, 16, 17, 52, 53, 54, 55, 56, 57, 58, 59, 60, 19, 20, 21, 61, 62, 63, 64, 65, 66, 67, 68, 69, 70, 71, 72, 73, 74, 75, 76, 77, 12, 13, 15, 78, 79, 80, 81, 82, 83, 84, 150, 151, 152, 153, 154, 155, 156, 157, 160, 161, 162, 163, 164, 165, 166, 167, 168, 169, 170, 171, 172, 173, 174, 175, 176, 177, 158, 159, 178, 179, 180] (by decide +kernel) (by decide +kernel)
set_option maxRecDepth 20000 in
theorem gX4_lifts_X4_freshWith : GoodIn wsX4_lifts (wsV RX4 166 RX4 yX4_freshWith wsX4_freshWith) := goodIn_app (goodIn_of _ (by decide +kernel)) ggX4_lifts_X4_freshWith
set_option maxRecDepth 20000 in
theorem ggX4_lifts_X0_nodsIn : GoodIn wsX4_lifts wsX0_nodsIn := goodIn_r _ [88, 44, 89, 90, 91, 31, 92, 39, 41, 42, 33, 37, 38, 45, 83, 82, 43, 93, 94, 95, 96, 46, 34, 77, 12, 13, 14, 15, 16, 17, 97, 98, 99, 64, 100, 66, 67, 68, 101, 102, 103, 104, 105, 106, 107, 108, 109, 110, 111, 54, 112, 113, 53, 55, 114, 115, 116, 117, 118, 119, 120, 121, 35, 36, 122, 123, 124, 125, 126, 127, 128, 129, 78, 79, 80, 81, 84, 130, 131, 132, 133, 40, 134, 135, 136, 137, 47, 138, 139, 140, 141, 142, 143, 144, 145, 146, 147, 148, 149, 160, 161, 162, 163, 164, 165, 166, 167, 168, 169, 170, 171, 172, 173, 174, 175, 176, 177, 158, 159, 178, 179, 180] (by decide +kernel) (by decide +kernel)
set_option maxRecDepth 20000 in
theorem gX4_lifts_X0_nodsIn : GoodIn wsX4_lifts (wsV RX4 119 RX0 yX0_nodsIn wsX0_nodsIn) := goodIn_app (goodIn_of _ (by decide +kernel)) ggX4_lifts_X0_nodsIn
theorem dX4_lifts_0 : decode cX4_lifts 0 = .ok (.aload_n 0, 1) := by decide +kernel
theorem dX4_lifts_1 : decode cX4_lifts 1 = .ok (.iload_n 1, 1) := by decide +kernel
theorem dX4_lifts_2 : decode cX4_lifts 2 = .ok (.iconst 1, 1) := by decide +kernel
theorem dX4_lifts_3 : decode cX4_lifts 3 = .ok (.if_icmp .ge 7, 3) := by decide +kernel
theorem dX4_lifts_6 : decode cX4_lifts 6 = .ok (.iconst 1, 1) := by decide +kernel
theorem dX4_lifts_7 : decode cX4_lifts 7 = .ok (.goto 4, 3) := by decide +kernel
theorem dX4_lifts_10 : decode cX4_lifts 10 = .ok (.iconst 0, 1) := by decide +kernel
theorem dX4_lifts_11 : decode cX4_lifts 11 = .ok (.iload_n 1, 1) := by decide +kernel
theorem dX4_lifts_12 : decode cX4_lifts 12 = .ok (.sipush 3000, 3) := by decide +kernel
theorem dX4_lifts_15 : decode cX4_lifts 15 = .ok (.if_icmp .le 7, 3) := by decide +kernel
theorem dX4_lifts_18 : decode cX4_lifts 18 = .ok (.iconst 1, 1) := by decide +kernel
theorem dX4_lifts_19 : decode cX4_lifts 19 = .ok (.goto 4, 3) := by decide +kernel
theorem dX4_lifts_22 : decode cX4_lifts 22 = .ok (.iconst 0, 1) := by decide +kernel
theorem dX4_lifts_23 : decode cX4_lifts 23 = .ok (.invokevirtual 58, 3) := by decide +kernel
theorem dX4_lifts_26 : decode cX4_lifts 26 = .ok (.istore_n 2, 1) := by decide +kernel
theorem dX4_lifts_27 : decode cX4_lifts 27 = .ok (.iload_n 2, 1) := by decide +kernel
theorem dX4_lifts_28 : decode cX4_lifts 28 = .ok (.ifCond .eq 5, 3) := by decide +kernel
theorem dX4_lifts_31 : decode cX4_lifts 31 = .ok (.iload_n 2, 1) := by decide +kernel
theorem dX4_lifts_32 : decode cX4_lifts 32 = .ok (.ireturn, 1) := by decide +kernel
theorem dX4_lifts_33 : decode cX4_lifts 33 = .ok (.iconst 0, 1) := by decide +kernel
theorem dX4_lifts_34 : decode cX4_lifts 34 = .ok (.istore_n 3, 1) := by decide +kernel
theorem dX4_lifts_35 : decode cX4_lifts 35 = .ok (.iconst (-1), 1) := by decide +kernel
theorem dX4_lifts_36 : decode cX4_lifts 36 = .ok (.istore 4, 2) := by decide +kernel
theorem dX4_lifts_38 : decode cX4_lifts 38 = .ok (.iconst 0, 1) := by decide +kernel
theorem dX4_lifts_39 : decode cX4_lifts 39 = .ok (.istore 5, 2) := by decide +kernel
theorem dX4_lifts_41 : decode cX4_lifts 41 = .ok (.iload 5, 2) := by decide +kernel
theorem dX4_lifts_43 : decode cX4_lifts 43 = .ok (.bipush 9, 2) := by decide +kernel
theorem dX4_lifts_45 : decode cX4_lifts 45 = .ok (.if_icmp .gt 39, 3) := by decide +kernel
theorem dX4_lifts_48 : decode cX4_lifts 48 = .ok (.aload_n 0, 1) := by decide +kernel
theorem dX4_lifts_49 : decode cX4_lifts 49 = .ok (.iconst 5, 1) := by decide +kernel
theorem dX4_lifts_50 : decode cX4_lifts 50 = .ok (.iload 5, 2) := by decide +kernel
theorem dX4_lifts_52 : decode cX4_lifts 52 = .ok (.invokevirtual 166, 3) := by decide +kernel
theorem dX4_lifts_55 : decode cX4_lifts 55 = .ok (.iload_n 1, 1) := by decide +kernel
theorem dX4_lifts_56 : decode cX4_lifts 56 = .ok (.invokevirtual 119, 3) := by decide +kernel
theorem dX4_lifts_59 : decode cX4_lifts 59 = .ok (.iload 5, 2) := by decide +kernel
theorem dX4_lifts_61 : decode cX4_lifts 61 = .ok (.imul, 1) := by decide +kernel
theorem dX4_lifts_62 : decode cX4_lifts 62 = .ok (.istore 6, 2) := by decide +kernel
theorem dX4_lifts_64 : decode cX4_lifts 64 = .ok (.iload 6, 2) := by decide +kernel
theorem dX4_lifts_66 : decode cX4_lifts 66 = .ok (.iload 4, 2) := by decide +kernel
theorem dX4_lifts_68 : decode cX4_lifts 68 = .ok (.if_icmp .le 10, 3) := by decide +kernel
theorem dX4_lifts_71 : decode cX4_lifts 71 = .ok (.iload 6, 2) := by decide +kernel
theorem dX4_lifts_73 : decode cX4_lifts 73 = .ok (.istore 4, 2) := by decide +kernel
theorem dX4_lifts_75 : decode cX4_lifts 75 = .ok (.iload 5, 2) := by decide +kernel
theorem dX4_lifts_77 : decode cX4_lifts 77 = .ok (.istore_n 3, 1) := by decide +kernel
theorem dX4_lifts_78 : decode cX4_lifts 78 = .ok (.iinc 5 1, 3) := by decide +kernel
theorem dX4_lifts_81 : decode cX4_lifts 81 = .ok (.goto (-40), 3) := by decide +kernel
theorem dX4_lifts_84 : decode cX4_lifts 84 = .ok (.iload_n 3, 1) := by decide +kernel
theorem dX4_lifts_85 : decode cX4_lifts 85 = .ok (.ireturn, 1) := by decide +kernel
set_option maxRecDepth 20000 in
theorem ggX4_under_X4_freshWith : GoodIn wsX4_under wsX4_freshWith := goodIn_r _ [5, 6, 7, 8, 9, 10, 11, 12, 13, 14, 15, 16, 17, 18, 19, 20, 21, 22, 23, 24, 25, 26, 27, 28, 29, 30, 31, 32, 33, 34, 35, 36, 37, 38, 39, 40, 41, 42, 43, 44, 45, 46, 47, 48, 49, 50, 51, 52, 53, 54, 55, 56, 57, 58, 59, 60, 61, 62, 63, 64, 65, 66, 67, 68, 69, 70, 71, 72, 73, 139, 140, 141, 142, 143, 144, 145, 146, 147, 148, 149, 150, 151, 152, 153, 154, 155, 156, 157, 158, 159, 160, 161, 162, 163, 164, 165, 166, 167, 168, 169] (by decide +kernel) (by decide +kernel)
set_option maxRecDepth 20000 in
theorem gX4_under_X4_freshWith : GoodIn wsX4_under (wsV RX4 166 RX4 yX4_freshWith wsX4_freshWith) := goodIn_app (goodIn_of _ (by decide +kernel)) ggX4_under_X4_freshWith
set_option maxRecDepth 20000 in
theorem ggX4_under_X0_nodsIn : GoodIn wsX4_under wsX0_nodsIn := goodIn_r _ [77, 24, 78, 79, 80, 11, 81, 19, 21, 22, 13, 17, 18, 25, 72, 71, 23, 82, 83, 84, 85, 26, 14, 63, 64, 65, 31, 66, 33, 34, 86, 87, 88, 50, 89, 52, 53, 54, 90, 91, 92, 93, 94, 95, 96, 97, 98, 99, 100, 37, 101, 102, 36, 38, 103, 104, 105, 106, 107, 108, 109, 110, 15, 16, 111, 112, 113, 114, 115, 116, 117, 118, 67, 68, 69, 70, 73, 119, 120, 121, 122, 20, 123, 124, 125, 126, 27, 127, 128, 129, 130, 131, 132, 133, 134, 135, 136, 137, 138, 147, 148, 149, 150, 151, 152, 153, 154, 155, 156, 157, 158, 159, 160, 161, 162, 163, 164, 165, 166, 167, 168, 169] (by decide +kernel) (by decide +kernel)
set_option maxRecDepth 20000 in
theorem gX4_under_X0_nodsIn : GoodIn wsX4_under (wsV RX4 119 RX0 yX0_nodsIn wsX0_nodsIn) := goodIn_app (goodIn_of _ (by decide +kernel)) ggX4_under_X0_nodsIn
theorem dX4_under_0 : decode cX4_under 0 = .ok (.aload_n 0, 1) := by decide +kernel
theorem dX4_under_1 : decode cX4_under 1 = .ok (.bipush 12, 2) := by decide +kernel
theorem dX4_under_3 : decode cX4_under 3 = .ok (.iconst 1, 1) := by decide +kernel
theorem dX4_under_4 : decode cX4_under 4 = .ok (.invokevirtual 166, 3) := by decide +kernel
theorem dX4_under_7 : decode cX4_under 7 = .ok (.sipush 3000, 3) := by decide +kernel
theorem dX4_under_10 : decode cX4_under 10 = .ok (.invokevirtual 119, 3) := by decide +kernel
theorem dX4_under_13 : decode cX4_under 13 = .ok (.ireturn, 1) := by decide +kernel
set_option maxRecDepth 20000 in
theorem ggX4_without_X4_outside : GoodIn wsX4_without wsX4_outside := goodIn_r _ [7, 8, 9, 10, 6, 11, 12, 13, 14, 15, 16, 17, 18, 19, 20, 21, 22, 23, 170, 171, 172, 173, 174, 175, 176, 177, 178, 179] (by decide +kernel) (by decide +kernel)
set_option maxRecDepth 20000 in
theorem gX4_without_X4_outside : GoodIn wsX4_without (wsV RX4 58 RX4 yX4_outside wsX4_outside) := goodIn_app (goodIn_of _ (by decide +kernel)) ggX4_without_X4_outside
set_option maxRecDepth 20000 in
theorem ggX4_without_X4_freshWith : GoodIn wsX4_without wsX4_freshWith := goodIn_r _ [27, 28, 29, 30, 31, 32, 33, 34, 35, 36, 37, 38, 39, 40, 41, 42, 43, 44, 45, 46, 47, 48, 49, 50, 51, 52, 16, 53, 18, 19, 54, 55, 56, 57, 58, 59, 60, 61, 62, 21, 22, 23, 63, 64, 65, 66, 67, 68, 69, 70, 71, 72, 73, 74, 75, 76, 77, 78, 79, 14, 15, 17, 80, 81, 82, 83, 84, 85, 86, 170, 171, 172, 173, 174, 175, 176, 177, 152, 153, 154, 155, 156, 157, 158, 159, 160, 161, 162, 163, 164, 165, 166, 167, 168, 169, 178, 179, 180, 181, 182] (by decide +kernel) (by decide +kernel)
set_option maxRecDepth 20000 in
theorem gX4_without_X4_freshWith : GoodIn wsX4_without (wsV RX4 166 RX4 yX4_freshWith wsX4_freshWith) := goodIn_app (goodIn_of _ (by decide +kernel)) ggX4_without_X4_freshWith
set_option maxRecDepth 20000 in
theorem ggX4_without_X0_nodsWithin : GoodIn wsX4_without wsX0_nodsWithin := goodIn_r _ [90, 46, 91, 92, 93, 33, 94, 41, 43, 44, 35, 39, 40, 47, 85, 84, 45, 95, 96, 97, 98, 48, 36, 79, 14, 15, 16, 17, 18, 19, 99, 100, 101, 66, 102, 68, 69, 70, 103, 104, 105, 106, 107, 108, 109, 110, 111, 112, 113, 56, 114, 115, 55, 57, 116, 117, 118, 119, 120, 121, 122, 123, 37, 38, 124, 125, 126, 127, 128, 129, 130, 131, 80, 81, 82, 83, 86, 132, 133, 134, 135, 42, 136, 137, 138, 139, 49, 140, 141, 142, 143, 144, 145, 146, 147, 148, 149, 150, 151, 152, 153, 154, 155, 156, 157, 158, 159, 160, 161, 162, 163, 164, 165, 166, 167, 168, 169, 178, 179, 180, 181, 182] (by decide +kernel) (by decide +kernel)
set_option maxRecDepth 20000 in
theorem gX4_without_X0_nodsWithin : GoodIn wsX4_without (wsV RX4 170 RX0 yX0_nodsWithin wsX0_nodsWithin) := goodIn_app (goodIn_of _ (by decide +kernel)) ggX4_without_X0_nodsWithin
theorem dX4_without_0 : decode cX4_without 0 = .ok (.aload_n 0, 1) := by decide +kernel
theorem dX4_without_1 : decode cX4_without 1 = .ok (.iload_n 1, 1) := by decide +kernel
theorem dX4_without_2 : decode cX4_without 2 = .ok (.iconst 1, 1) := by decide +kernel
theorem dX4_without_3 : decode cX4_without 3 = .ok (.if_icmp .ge 7, 3) := by decide +kernel
theorem dX4_without_6 : decode cX4_without 6 = .ok (.iconst 1, 1) := by decide +kernel
theorem dX4_without_7 : decode cX4_without 7 = .ok (.goto 4, 3) := by decide +kernel
theorem dX4_without_10 : decode cX4_without 10 = .ok (.iconst 0, 1) := by decide +kernel
theorem dX4_without_11 : decode cX4_without 11 = .ok (.iload_n 1, 1) := by decide +kernel
theorem dX4_without_12 : decode cX4_without 12 = .ok (.sipush 3000, 3) := by decide +kernel
theorem dX4_without_15 : decode cX4_without 15 = .ok (.if_icmp .le 7, 3) := by decide +kernel
theorem dX4_without_18 : decode cX4_without 18 = .ok (.iconst 1, 1) := by decide +kernel
theorem dX4_without_19 : decode cX4_without 19 = .ok (.goto 4, 3) := by decide +kernel
theorem dX4_without_22 : decode cX4_without 22 = .ok (.iconst 0, 1) := by decide +kernel
theorem dX4_without_23 : decode cX4_without 23 = .ok (.invokevirtual 58, 3) := by decide +kernel
theorem dX4_without_26 : decode cX4_without 26 = .ok (.istore_n 2, 1) := by decide +kernel
theorem dX4_without_27 : decode cX4_without 27 = .ok (.iload_n 2, 1) := by decide +kernel
theorem dX4_without_28 : decode cX4_without 28 = .ok (.ifCond .eq 5, 3) := by decide +kernel
theorem dX4_without_31 : decode cX4_without 31 = .ok (.iload_n 2, 1) := by decide +kernel
theorem dX4_without_32 : decode cX4_without 32 = .ok (.ireturn, 1) := by decide +kernel
theorem dX4_without_33 : decode cX4_without 33 = .ok (.iconst 0, 1) := by decide +kernel
theorem dX4_without_34 : decode cX4_without 34 = .ok (.istore_n 3, 1) := by decide +kernel
theorem dX4_without_35 : decode cX4_without 35 = .ok (.iload_n 3, 1) := by decide +kernel
theorem dX4_without_36 : decode cX4_without 36 = .ok (.bipush 9, 2) := by decide +kernel
theorem dX4_without_38 : decode cX4_without 38 = .ok (.if_icmp .gt 41, 3) := by decide +kernel
theorem dX4_without_41 : decode cX4_without 41 = .ok (.aload_n 0, 1) := by decide +kernel
theorem dX4_without_42 : decode cX4_without 42 = .ok (.bipush 10, 2) := by decide +kernel
theorem dX4_without_44 : decode cX4_without 44 = .ok (.iload_n 3, 1) := by decide +kernel
theorem dX4_without_45 : decode cX4_without 45 = .ok (.invokevirtual 166, 3) := by decide +kernel
theorem dX4_without_48 : decode cX4_without 48 = .ok (.astore 4, 2) := by decide +kernel
theorem dX4_without_50 : decode cX4_without 50 = .ok (.aload 4, 2) := by decide +kernel
theorem dX4_without_52 : decode cX4_without 52 = .ok (.iconst 0, 1) := by decide +kernel
theorem dX4_without_53 : decode cX4_without 53 = .ok (.putfield 107, 3) := by decide +kernel
theorem dX4_without_56 : decode cX4_without 56 = .ok (.aload 4, 2) := by decide +kernel
theorem dX4_without_58 : decode cX4_without 58 = .ok (.iconst 0, 1) := by decide +kernel
theorem dX4_without_59 : decode cX4_without 59 = .ok (.putfield 103, 3) := by decide +kernel
theorem dX4_without_62 : decode cX4_without 62 = .ok (.aload 4, 2) := by decide +kernel
theorem dX4_without_64 : decode cX4_without 64 = .ok (.iload_n 1, 1) := by decide +kernel
theorem dX4_without_65 : decode cX4_without 65 = .ok (.invokevirtual 170, 3) := by decide +kernel
theorem dX4_without_68 : decode cX4_without 68 = .ok (.ifCond .eq 5, 3) := by decide +kernel
theorem dX4_without_71 : decode cX4_without 71 = .ok (.iload_n 3, 1) := by decide +kernel
theorem dX4_without_72 : decode cX4_without 72 = .ok (.ireturn, 1) := by decide +kernel
theorem dX4_without_73 : decode cX4_without 73 = .ok (.iinc 3 1, 3) := by decide +kernel
theorem dX4_without_76 : decode cX4_without 76 = .ok (.goto (-41), 3) := by decide +kernel
theorem dX4_without_79 : decode cX4_without 79 = .ok (.bipush (-9), 2) := by decide +kernel
theorem dX4_without_81 : decode cX4_without 81 = .ok (.ireturn, 1) := by decide +kernel
set_option maxRecDepth 20000 in
theorem ggX4_larger_X4_outside : GoodIn wsX4_larger wsX4_outside := goodIn_r _ [5, 6, 7, 8, 4, 9, 10, 11, 12, 13, 14, 15, 16, 17, 18, 19, 20, 21, 150, 151, 152, 153, 154, 155, 156, 157, 158, 159] (by decide +kernel) (by decide +kernel)
set_option maxRecDepth 20000 in
theorem gX4_larger_X4_outside : GoodIn wsX4_larger (wsV RX4 58 RX4 yX4_outside wsX4_outside) := goodIn_app (goodIn_of _ (by decide +kernel)) ggX4_larger_X4_outside
set_option maxRecDepth 20000 in
theorem ggX4_larger_X4_freshWith : GoodIn wsX4_larger wsX4_freshWith := goodIn_r _ [25, 26, 27, 28, 29, 30, 31, 32, 33, 34, 35, 36, 37, 38, 39, 40, 41, 42, 43, 44, 45, 46, 47, 48, 49, 50, 14, 51, 16, 17, 52, 53, 54, 55, 56, 57, 58, 59, 60, 19, 20, 21, 61, 62, 63, 64, 65, 66, 67, 68, 69, 70, 71, 72, 73, 74, 75, 76, 77, 12, 13, 15, 78, 79, 80, 81, 82, 83, 84, 150, 151, 152, 153, 154, 155, 156, 157, 160, 161, 162, 163, 164, 165, 166, 167, 168, 169, 170, 171, 172, 173, 174, 175, 176, 177, 158, 159, 178, 179, 180] (by decide +kernel) (by decide +kernel)
set_option maxRecDepth 20000 in
theorem gX4_larger_X4_freshWith : GoodIn wsX4_larger (wsV RX4 166 RX4 yX4_freshWith wsX4_freshWith) := goodIn_app (goodIn_of _ (by decide +kernel)) ggX4_larger_X4_freshWith
set_option maxRecDepth 20000 in
theorem ggX4_larger_X0_nodsIn : GoodIn wsX4_larger wsX0_nodsIn := goodIn_r _ [88, 44, 89, 90, 91, 31, 92, 39, 41, 42, 33, 37, 38, 45, 83, 82, 43, 93, 94, 95, 96, 46, 34, 77, 12, 13, 14, 15, 16, 17, 97, 98, 99, 64, 100, 66, 67, 68, 101, 102, 103, 104, 105, 106, 107, 108, 109, 110, 111, 54, 112, 113, 53, 55, 114, 115, 116, 117, 118, 119, 120, 121, 35, 36, 122, 123, 124, 125, 126, 127, 128, 129, 78, 79, 80, 81, 84, 130, 131, 132, 133, 40, 134, 135, 136, 137, 47, 138, 139, 140, 141, 142, 143, 144, 145, 146, 147, 148, 149, 160, 161, 162, 163, 164, 165, 166, 167, 168, 169, 170, 171, 172, 173, 174, 175, 176, 177, 158, 159, 178, 179, 180] (by decide +kernel) (by decide +kernel)
set_option maxRecDepth 20000 in
theorem gX4_larger_X0_nodsIn : GoodIn wsX4_larger (wsV RX4 119 RX0 yX0_nodsIn wsX0_nodsIn) := goodIn_app (goodIn_of _ (by decide +kernel)) ggX4_larger_X0_nodsIn
theorem dX4_larger_0 : decode cX4_larger 0 = .ok (.aload_n 0, 1) := by decide +kernel
theorem dX4_larger_1 : decode cX4_larger 1 = .ok (.iload_n 1, 1) := by decide +kernel
theorem dX4_larger_2 : decode cX4_larger 2 = .ok (.iconst 1, 1) := by decide +kernel
theorem dX4_larger_3 : decode cX4_larger 3 = .ok (.if_icmp .lt 8, 3) := by decide +kernel
theorem dX4_larger_6 : decode cX4_larger 6 = .ok (.iload_n 2, 1) := by decide +kernel
theorem dX4_larger_7 : decode cX4_larger 7 = .ok (.iconst 1, 1) := by decide +kernel
theorem dX4_larger_8 : decode cX4_larger 8 = .ok (.if_icmp .ge 7, 3) := by decide +kernel
theorem dX4_larger_11 : decode cX4_larger 11 = .ok (.iconst 1, 1) := by decide +kernel
theorem dX4_larger_12 : decode cX4_larger 12 = .ok (.goto 4, 3) := by decide +kernel
theorem dX4_larger_15 : decode cX4_larger 15 = .ok (.iconst 0, 1) := by decide +kernel
theorem dX4_larger_16 : decode cX4_larger 16 = .ok (.iload_n 1, 1) := by decide +kernel
theorem dX4_larger_17 : decode cX4_larger 17 = .ok (.iconst 4, 1) := by decide +kernel
theorem dX4_larger_18 : decode cX4_larger 18 = .ok (.if_icmp .gt 10, 3) := by decide +kernel
theorem dX4_larger_21 : decode cX4_larger 21 = .ok (.iload_n 2, 1) := by decide +kernel
theorem dX4_larger_22 : decode cX4_larger 22 = .ok (.sipush 3000, 3) := by decide +kernel
theorem dX4_larger_25 : decode cX4_larger 25 = .ok (.if_icmp .le 7, 3) := by decide +kernel
theorem dX4_larger_28 : decode cX4_larger 28 = .ok (.iconst 1, 1) := by decide +kernel
theorem dX4_larger_29 : decode cX4_larger 29 = .ok (.goto 4, 3) := by decide +kernel
theorem dX4_larger_32 : decode cX4_larger 32 = .ok (.iconst 0, 1) := by decide +kernel
theorem dX4_larger_33 : decode cX4_larger 33 = .ok (.invokevirtual 58, 3) := by decide +kernel
theorem dX4_larger_36 : decode cX4_larger 36 = .ok (.istore_n 3, 1) := by decide +kernel
theorem dX4_larger_37 : decode cX4_larger 37 = .ok (.iload_n 3, 1) := by decide +kernel
theorem dX4_larger_38 : decode cX4_larger 38 = .ok (.ifCond .eq 5, 3) := by decide +kernel
theorem dX4_larger_41 : decode cX4_larger 41 = .ok (.iload_n 3, 1) := by decide +kernel
theorem dX4_larger_42 : decode cX4_larger 42 = .ok (.ireturn, 1) := by decide +kernel
theorem dX4_larger_43 : decode cX4_larger 43 = .ok (.aload_n 0, 1) := by decide +kernel
theorem dX4_larger_44 : decode cX4_larger 44 = .ok (.bipush 6, 2) := by decide +kernel
theorem dX4_larger_46 : decode cX4_larger 46 = .ok (.iload_n 1, 1) := by decide +kernel
theorem dX4_larger_47 : decode cX4_larger 47 = .ok (.invokevirtual 166, 3) := by decide +kernel
theorem dX4_larger_50 : decode cX4_larger 50 = .ok (.iload_n 2, 1) := by decide +kernel
theorem dX4_larger_51 : decode cX4_larger 51 = .ok (.invokevirtual 119, 3) := by decide +kernel
theorem dX4_larger_54 : decode cX4_larger 54 = .ok (.ireturn, 1) := by decide +kernel
set_option maxRecDepth 20000 in
theorem ggX4_together_X4_outside : GoodIn wsX4_together wsX4_outside := goodIn_r _ [8, 9, 10, 11, 7, 12, 13, 14, 15, 16, 17, 18, 19, 20, 21, 22, 23, 24, 147, 148, 149, 150, 151, 152, 153, 154, 155, 156] (by decide +kernel) (by decide +kernel)
set_option maxRecDepth 20000 in
theorem gX4_together_X4_outside : GoodIn wsX4_together (wsV RX4 58 RX4 yX4_outside wsX4_outside) := goodIn_app (goodIn_of _ (by decide +kernel)) ggX4_together_X4_outside
set_option maxRecDepth 20000 in
theorem ggX4_together_X0_hatch : GoodIn wsX4_together wsX0_hatch := goodIn_r _ [29, 30, 31, 32, 33, 34, 35, 36, 37, 38, 39, 40, 41, 42, 43, 44, 45, 46, 47, 17, 48, 19, 20, 49, 50, 51, 52, 53, 54, 55, 56, 57, 22, 23, 24, 58, 59, 60, 61, 62, 63, 64, 65, 66, 67, 68, 69, 70, 71, 72, 73, 74, 15, 16, 18, 75, 76, 77, 28, 78, 79, 80, 81, 157, 158, 159, 160, 161, 162, 163, 164, 165, 166, 167, 168, 169, 170, 171, 172, 173, 174, 155, 156, 175, 176, 177] (by decide +kernel) (by decide +kernel)
set_option maxRecDepth 20000 in
theorem gX4_together_X0_hatch : GoodIn wsX4_together (wsV RX4 177 RX0 yX0_hatch wsX0_hatch) := goodIn_app (goodIn_of _ (by decide +kernel)) ggX4_together_X0_hatch
set_option maxRecDepth 20000 in
theorem ggX4_together_X0_nodsIn : GoodIn wsX4_together wsX0_nodsIn := goodIn_r _ [85, 41, 86, 87, 88, 28, 89, 36, 38, 39, 30, 34, 35, 42, 80, 79, 40, 90, 91, 92, 93, 43, 31, 74, 15, 16, 17, 18, 19, 20, 94, 95, 96, 61, 97, 63, 64, 65, 98, 99, 100, 101, 102, 103, 104, 105, 106, 107, 108, 51, 109, 110, 50, 52, 111, 112, 113, 114, 115, 116, 117, 118, 32, 33, 119, 120, 121, 122, 123, 124, 125, 126, 75, 76, 77, 78, 81, 127, 128, 129, 130, 37, 131, 132, 133, 134, 44, 135, 136, 137, 138, 139, 140, 141, 142, 143, 144, 145, 146, 157, 158, 159, 160, 161, 162, 163, 164, 165, 166, 167, 168, 169, 170, 171, 172, 173, 174, 155, 156, 175, 176, 177] (by decide +kernel) (by decide +kernel)
set_option maxRecDepth 20000 in
theorem gX4_together_X0_nodsIn : GoodIn wsX4_together (wsV RX4 119 RX0 yX0_nodsIn wsX0_nodsIn) := goodIn_app (goodIn_of _ (by decide +kernel)) ggX4_together_X0_nodsIn
theorem dX4_together_0 : decode cX4_together 0 = .ok (.aload_n 0, 1) := by decide +kernel
theorem dX4_together_1 : decode cX4_together 1 = .ok (.iload_n 1, 1) := by decide +kernel
theorem dX4_together_2 : decode cX4_together 2 = .ok (.iconst 1, 1) := by decide +kernel
theorem dX4_together_3 : decode cX4_together 3 = .ok (.if_icmp .ge 7, 3) := by decide +kernel
theorem dX4_together_6 : decode cX4_together 6 = .ok (.iconst 1, 1) := by decide +kernel
theorem dX4_together_7 : decode cX4_together 7 = .ok (.goto 4, 3) := by decide +kernel
theorem dX4_together_10 : decode cX4_together 10 = .ok (.iconst 0, 1) := by decide +kernel
theorem dX4_together_11 : decode cX4_together 11 = .ok (.iload_n 1, 1) := by decide +kernel
theorem dX4_together_12 : decode cX4_together 12 = .ok (.iconst 4, 1) := by decide +kernel
theorem dX4_together_13 : decode cX4_together 13 = .ok (.if_icmp .le 7, 3) := by decide +kernel
theorem dX4_together_16 : decode cX4_together 16 = .ok (.iconst 1, 1) := by decide +kernel
theorem dX4_together_17 : decode cX4_together 17 = .ok (.goto 4, 3) := by decide +kernel
theorem dX4_together_20 : decode cX4_together 20 = .ok (.iconst 0, 1) := by decide +kernel
theorem dX4_together_21 : decode cX4_together 21 = .ok (.invokevirtual 58, 3) := by decide +kernel
theorem dX4_together_24 : decode cX4_together 24 = .ok (.istore_n 2, 1) := by decide +kernel
theorem dX4_together_25 : decode cX4_together 25 = .ok (.iload_n 2, 1) := by decide +kernel
theorem dX4_together_26 : decode cX4_together 26 = .ok (.ifCond .eq 5, 3) := by decide +kernel
theorem dX4_together_29 : decode cX4_together 29 = .ok (.iload_n 2, 1) := by decide +kernel
theorem dX4_together_30 : decode cX4_together 30 = .ok (.ireturn, 1) := by decide +kernel
theorem dX4_together_31 : decode cX4_together 31 = .ok (.aload_n 0, 1) := by decide +kernel
theorem dX4_together_32 : decode cX4_together 32 = .ok (.getfield 19, 3) := by decide +kernel
theorem dX4_together_35 : decode cX4_together 35 = .ok (.aload_n 0, 1) := by decide +kernel
theorem dX4_together_36 : decode cX4_together 36 = .ok (.getfield 10, 3) := by decide +kernel
theorem dX4_together_39 : decode cX4_together 39 = .ok (.bipush 6, 2) := by decide +kernel
theorem dX4_together_41 : decode cX4_together 41 = .ok (.iconst 1, 1) := by decide +kernel
theorem dX4_together_42 : decode cX4_together 42 = .ok (.invokevirtual 177, 3) := by decide +kernel
theorem dX4_together_45 : decode cX4_together 45 = .ok (.aload_n 0, 1) := by decide +kernel
theorem dX4_together_46 : decode cX4_together 46 = .ok (.getfield 22, 3) := by decide +kernel
theorem dX4_together_49 : decode cX4_together 49 = .ok (.aload_n 0, 1) := by decide +kernel
theorem dX4_together_50 : decode cX4_together 50 = .ok (.getfield 10, 3) := by decide +kernel
theorem dX4_together_53 : decode cX4_together 53 = .ok (.bipush 6, 2) := by decide +kernel
theorem dX4_together_55 : decode cX4_together 55 = .ok (.iload_n 1, 1) := by decide +kernel
theorem dX4_together_56 : decode cX4_together 56 = .ok (.invokevirtual 177, 3) := by decide +kernel
theorem dX4_together_59 : decode cX4_together 59 = .ok (.iconst 0, 1) := by decide +kernel
theorem dX4_together_60 : decode cX4_together 60 = .ok (.istore_n 3, 1) := by decide +kernel
theorem dX4_together_61 : decode cX4_together 61 = .ok (.iload_n 3, 1) := by decide +kernel
theorem dX4_together_62 : decode cX4_together 62 = .ok (.sipush 3000, 3) := by decide +kernel
theorem dX4_together_65 : decode cX4_together 65 = .ok (.if_icmp .ge 41, 3) := by decide +kernel
theorem dX4_together_68 : decode cX4_together 68 = .ok (.aload_n 0, 1) := by decide +kernel
theorem dX4_together_69 : decode cX4_together 69 = .ok (.getfield 19, 3) := by decide +kernel
theorem dX4_together_72 : decode cX4_together 72 = .ok (.iconst 1, 1) := by decide +kernel
theorem dX4_together_73 : decode cX4_together 73 = .ok (.invokevirtual 119, 3) := by decide +kernel
theorem dX4_together_76 : decode cX4_together 76 = .ok (.istore 4, 2) := by decide +kernel
theorem dX4_together_78 : decode cX4_together 78 = .ok (.aload_n 0, 1) := by decide +kernel
theorem dX4_together_79 : decode cX4_together 79 = .ok (.getfield 22, 3) := by decide +kernel
theorem dX4_together_82 : decode cX4_together 82 = .ok (.iconst 1, 1) := by decide +kernel
theorem dX4_together_83 : decode cX4_together 83 = .ok (.invokevirtual 119, 3) := by decide +kernel
theorem dX4_together_86 : decode cX4_together 86 = .ok (.istore 5, 2) := by decide +kernel
theorem dX4_together_88 : decode cX4_together 88 = .ok (.iload 4, 2) := by decide +kernel
theorem dX4_together_90 : decode cX4_together 90 = .ok (.ifCond .le 10, 3) := by decide +kernel
theorem dX4_together_93 : decode cX4_together 93 = .ok (.iload 5, 2) := by decide +kernel
theorem dX4_together_95 : decode cX4_together 95 = .ok (.ifCond .le 5, 3) := by decide +kernel
theorem dX4_together_98 : decode cX4_together 98 = .ok (.iload_n 3, 1) := by decide +kernel
theorem dX4_together_99 : decode cX4_together 99 = .ok (.ireturn, 1) := by decide +kernel
theorem dX4_together_100 : decode cX4_together 100 = .ok (.iinc 3 1, 3) := by decide +kernel
theorem dX4_together_103 : decode cX4_together 103 = .ok (.goto (-42), 3) := by decide +kernel
theorem dX4_together_106 : decode cX4_together 106 = .ok (.bipush (-9), 2) := by decide +kernel
theorem dX4_together_108 : decode cX4_together 108 = .ok (.ireturn, 1) := by decide +kernel
set_option maxRecDepth 20000 in
theorem ggX4_drinks_X4_outside : GoodIn wsX4_drinks wsX4_outside := goodIn_r _ [8, 9, 10, 11, 7, 12, 13, 14, 15, 16, 17, 18, 19, 20, 21, 22, 23, 24, 139, 140, 141, 142, 143, 144, 145, 146, 165, 166] (by decide +kernel) (by decide +kernel)
set_option maxRecDepth 20000 in
theorem gX4_drinks_X4_outside : GoodIn wsX4_drinks (wsV RX4 58 RX4 yX4_outside wsX4_outside) := goodIn_app (goodIn_of _ (by decide +kernel)) ggX4_drinks_X4_outside
set_option maxRecDepth 20000 in
theorem ggX4_drinks_X0_become : GoodIn wsX4_drinks wsX0_become := goodIn_r _ [29, 30, 31, 32, 33, 34, 35, 36, 37, 38, 39, 40, 41, 42, 43, 44, 45, 46, 47, 48, 49, 50, 17, 51, 19, 20, 52, 53, 54, 55, 56, 57, 58, 59, 60, 61, 62, 63, 64, 65, 66, 67, 68, 147, 148, 149, 150, 151, 152, 153, 154, 155, 156, 157, 158, 159, 160, 161, 162, 163, 164, 165, 166, 167, 168, 169] (by decide +kernel) (by decide +kernel)
set_option maxRecDepth 20000 in
theorem gX4_drinks_X0_become : GoodIn wsX4_drinks (wsV RX4 162 RX0 yX0_become wsX0_become) := goodIn_app (goodIn_of _ (by decide +kernel)) ggX4_drinks_X0_become
set_option maxRecDepth 20000 in
theorem ggX4_drinks_X0_nodsIn : GoodIn wsX4_drinks wsX0_nodsIn := goodIn_r _ [72, 41, 73, 74, 75, 28, 76, 36, 38, 39, 30, 34, 35, 45, 43, 42, 40, 77, 78, 79, 80, 46, 31, 81, 15, 16, 17, 18, 19, 20, 82, 83, 84, 63, 85, 65, 66, 67, 86, 87, 88, 89, 90, 91, 92, 93, 94, 95, 96, 54, 97, 98, 53, 55, 99, 100, 101, 102, 103, 104, 105, 106, 32, 33, 107, 108, 109, 110, 111, 112, 113, 114, 115, 116, 117, 118, 44, 119, 120, 121, 122, 37, 123, 124, 125, 126, 47, 127, 128, 129, 130, 131, 132, 133, 134, 135, 136, 137, 138, 147, 148, 149, 150, 151, 152, 153, 154, 155, 156, 157, 158, 159, 160, 161, 162, 163, 164, 165, 166, 167, 168, 169] (by decide +kernel) (by decide +kernel)
set_option maxRecDepth 20000 in
theorem gX4_drinks_X0_nodsIn : GoodIn wsX4_drinks (wsV RX4 119 RX0 yX0_nodsIn wsX0_nodsIn) := goodIn_app (goodIn_of _ (by decide +kernel)) ggX4_drinks_X0_nodsIn
theorem dX4_drinks_0 : decode cX4_drinks 0 = .ok (.aload_n 0, 1) := by decide +kernel
theorem dX4_drinks_1 : decode cX4_drinks 1 = .ok (.iload_n 1, 1) := by decide +kernel
theorem dX4_drinks_2 : decode cX4_drinks 2 = .ok (.iconst 1, 1) := by decide +kernel
theorem dX4_drinks_3 : decode cX4_drinks 3 = .ok (.if_icmp .ge 7, 3) := by decide +kernel
theorem dX4_drinks_6 : decode cX4_drinks 6 = .ok (.iconst 1, 1) := by decide +kernel
theorem dX4_drinks_7 : decode cX4_drinks 7 = .ok (.goto 4, 3) := by decide +kernel
theorem dX4_drinks_10 : decode cX4_drinks 10 = .ok (.iconst 0, 1) := by decide +kernel
theorem dX4_drinks_11 : decode cX4_drinks 11 = .ok (.iload_n 1, 1) := by decide +kernel
theorem dX4_drinks_12 : decode cX4_drinks 12 = .ok (.sipush 3000, 3) := by decide +kernel
theorem dX4_drinks_15 : decode cX4_drinks 15 = .ok (.if_icmp .le 7, 3) := by decide +kernel
theorem dX4_drinks_18 : decode cX4_drinks 18 = .ok (.iconst 1, 1) := by decide +kernel
theorem dX4_drinks_19 : decode cX4_drinks 19 = .ok (.goto 4, 3) := by decide +kernel
theorem dX4_drinks_22 : decode cX4_drinks 22 = .ok (.iconst 0, 1) := by decide +kernel
theorem dX4_drinks_23 : decode cX4_drinks 23 = .ok (.invokevirtual 58, 3) := by decide +kernel
theorem dX4_drinks_26 : decode cX4_drinks 26 = .ok (.istore_n 2, 1) := by decide +kernel
theorem dX4_drinks_27 : decode cX4_drinks 27 = .ok (.iload_n 2, 1) := by decide +kernel
theorem dX4_drinks_28 : decode cX4_drinks 28 = .ok (.ifCond .eq 5, 3) := by decide +kernel
theorem dX4_drinks_31 : decode cX4_drinks 31 = .ok (.iload_n 2, 1) := by decide +kernel
theorem dX4_drinks_32 : decode cX4_drinks 32 = .ok (.ireturn, 1) := by decide +kernel
theorem dX4_drinks_33 : decode cX4_drinks 33 = .ok (.aload_n 0, 1) := by decide +kernel
theorem dX4_drinks_34 : decode cX4_drinks 34 = .ok (.getfield 19, 3) := by decide +kernel
theorem dX4_drinks_37 : decode cX4_drinks 37 = .ok (.aload_n 0, 1) := by decide +kernel
theorem dX4_drinks_38 : decode cX4_drinks 38 = .ok (.getfield 10, 3) := by decide +kernel
theorem dX4_drinks_41 : decode cX4_drinks 41 = .ok (.invokevirtual 162, 3) := by decide +kernel
theorem dX4_drinks_44 : decode cX4_drinks 44 = .ok (.aload_n 0, 1) := by decide +kernel
theorem dX4_drinks_45 : decode cX4_drinks 45 = .ok (.getfield 19, 3) := by decide +kernel
theorem dX4_drinks_48 : decode cX4_drinks 48 = .ok (.iload_n 1, 1) := by decide +kernel
theorem dX4_drinks_49 : decode cX4_drinks 49 = .ok (.invokevirtual 119, 3) := by decide +kernel
theorem dX4_drinks_52 : decode cX4_drinks 52 = .ok (.pop, 1) := by decide +kernel
theorem dX4_drinks_53 : decode cX4_drinks 53 = .ok (.aload_n 0, 1) := by decide +kernel
theorem dX4_drinks_54 : decode cX4_drinks 54 = .ok (.getfield 10, 3) := by decide +kernel
theorem dX4_drinks_57 : decode cX4_drinks 57 = .ok (.getfield 103, 3) := by decide +kernel
theorem dX4_drinks_60 : decode cX4_drinks 60 = .ok (.aload_n 0, 1) := by decide +kernel
theorem dX4_drinks_61 : decode cX4_drinks 61 = .ok (.getfield 19, 3) := by decide +kernel
theorem dX4_drinks_64 : decode cX4_drinks 64 = .ok (.getfield 103, 3) := by decide +kernel
theorem dX4_drinks_67 : decode cX4_drinks 67 = .ok (.isub, 1) := by decide +kernel
theorem dX4_drinks_68 : decode cX4_drinks 68 = .ok (.ireturn, 1) := by decide +kernel
set_option maxRecDepth 20000 in
theorem ggX4_goes_X4_refuse : GoodIn wsX4_goes wsX4_refuse := goodIn_r _ [5, 6, 7, 8, 9, 10, 11, 12, 13, 14, 15, 16, 17, 170, 171, 172, 173, 174, 175, 176, 177, 178, 179] (by decide +kernel) (by decide +kernel)
set_option maxRecDepth 20000 in
theorem gX4_goes_X4_refuse : GoodIn wsX4_goes (wsV RX4 78 RX4 yX4_refuse wsX4_refuse) := goodIn_app (goodIn_of _ (by decide +kernel)) ggX4_goes_X4_refuse
set_option maxRecDepth 20000 in
theorem ggX4_goes_X4_outside : GoodIn wsX4_goes wsX4_outside := goodIn_r _ [21, 1, 2, 3, 4, 5, 6, 7, 8, 9, 10, 11, 12, 13, 14, 15, 16, 17, 170, 171, 172, 173, 174, 175, 176, 177, 178, 179] (by decide +kernel) (by decide +kernel)
set_option maxRecDepth 20000 in
theorem gX4_goes_X4_outside : GoodIn wsX4_goes (wsV RX4 58 RX4 yX4_outside wsX4_outside) := goodIn_app (goodIn_of _ (by decide +kernel)) ggX4_goes_X4_outside
set_option maxRecDepth 20000 in
theorem ggX4_goes_X4_pairsThatNod : GoodIn wsX4_goes wsX4_pairsThatNod := goodIn_r _ [25, 26, 27, 7, 8, 9, 10, 11, 12, 13, 28, 29, 4, 30, 31, 32, 33, 34, 35, 36, 37, 38, 39, 40, 41, 42, 43, 44, 45, 46, 47, 48, 49, 50, 51, 52, 53, 54, 55, 56, 57, 58, 59, 60, 61, 62, 63, 64, 65, 66, 67, 68, 69, 70, 71, 72, 73, 15, 16, 17, 74, 75, 76, 77, 78, 79, 80, 81, 82, 83, 84, 85, 86, 87, 88, 89, 90, 91, 92, 93, 94, 95, 96, 97, 98, 99, 100, 101, 102, 103, 104, 105, 106, 107, 108, 109, 110, 111, 112, 113, 114, 115, 116, 117, 118, 119, 120, 121, 122, 123, 124, 125, 126, 127, 128, 129, 130, 131, 132, 133, 134, 135, 136, 137, 138, 139, 140, 141, 142, 143, 144, 145, 146, 147, 148, 149, 150, 151, 152, 153, 154, 155, 156, 157, 158, 159, 160, 161, 162, 163, 164, 165, 166, 170, 171, 172, 173, 174, 175, 176, 177, 180, 181, 182, 183, 184, 185, 186, 187, 188, 189, 190, 191, 192, 193, 194, 195, 196, 197, 178, 179, 198, 199, 200] (by decide +kernel) (by decide +kernel)
set_option maxRecDepth 20000 in
theorem gX4_goes_X4_pairsThatNod : GoodIn wsX4_goes (wsV RX4 181 RX4 yX4_pairsThatNod wsX4_pairsThatNod) := goodIn_app (goodIn_of _ (by decide +kernel)) ggX4_goes_X4_pairsThatNod
set_option maxRecDepth 20000 in
theorem ggX4_goes_X4_commonDivisor : GoodIn wsX4_goes wsX4_commonDivisor := goodIn_r _ [169] (by decide +kernel) (by decide +kernel)
set_option maxRecDepth 20000 in
theorem gX4_goes_X4_commonDivisor : GoodIn wsX4_goes (va_wsS RX4 184 yX4_commonDivisor wsX4_commonDivisor) := goodIn_app (goodIn_of _ (by decide +kernel)) ggX4_goes_X4_commonDivisor
theorem dX4_goes_0 : decode cX4_goes 0 = .ok (.iload_n 3, 1) := by decide +kernel
theorem dX4_goes_1 : decode cX4_goes 1 = .ok (.ifCond .lt 8, 3) := by decide +kernel
theorem dX4_goes_4 : decode cX4_goes 4 = .ok (.iload_n 3, 1) := by decide +kernel
theorem dX4_goes_5 : decode cX4_goes 5 = .ok (.iconst 1, 1) := by decide +kernel
theorem dX4_goes_6 : decode cX4_goes 6 = .ok (.if_icmp .le 10, 3) := by decide +kernel
theorem dX4_goes_9 : decode cX4_goes 9 = .ok (.aload_n 0, 1) := by decide +kernel
theorem dX4_goes_10 : decode cX4_goes 10 = .ok (.bipush (-2), 2) := by decide +kernel
theorem dX4_goes_12 : decode cX4_goes 12 = .ok (.invokevirtual 78, 3) := by decide +kernel
theorem dX4_goes_15 : decode cX4_goes 15 = .ok (.ireturn, 1) := by decide +kernel
theorem dX4_goes_16 : decode cX4_goes 16 = .ok (.aload_n 0, 1) := by decide +kernel
theorem dX4_goes_17 : decode cX4_goes 17 = .ok (.iload_n 1, 1) := by decide +kernel
theorem dX4_goes_18 : decode cX4_goes 18 = .ok (.iconst 1, 1) := by decide +kernel
theorem dX4_goes_19 : decode cX4_goes 19 = .ok (.if_icmp .lt 7, 3) := by decide +kernel
theorem dX4_goes_22 : decode cX4_goes 22 = .ok (.iload_n 2, 1) := by decide +kernel
theorem dX4_goes_23 : decode cX4_goes 23 = .ok (.ifCond .ge 7, 3) := by decide +kernel
theorem dX4_goes_26 : decode cX4_goes 26 = .ok (.iconst 1, 1) := by decide +kernel
theorem dX4_goes_27 : decode cX4_goes 27 = .ok (.goto 4, 3) := by decide +kernel
theorem dX4_goes_30 : decode cX4_goes 30 = .ok (.iconst 0, 1) := by decide +kernel
theorem dX4_goes_31 : decode cX4_goes 31 = .ok (.iload_n 1, 1) := by decide +kernel
theorem dX4_goes_32 : decode cX4_goes 32 = .ok (.sipush 300, 3) := by decide +kernel
theorem dX4_goes_35 : decode cX4_goes 35 = .ok (.if_icmp .gt 8, 3) := by decide +kernel
theorem dX4_goes_38 : decode cX4_goes 38 = .ok (.iload_n 2, 1) := by decide +kernel
theorem dX4_goes_39 : decode cX4_goes 39 = .ok (.iconst 5, 1) := by decide +kernel
theorem dX4_goes_40 : decode cX4_goes 40 = .ok (.if_icmp .le 7, 3) := by decide +kernel
theorem dX4_goes_43 : decode cX4_goes 43 = .ok (.iconst 1, 1) := by decide +kernel
theorem dX4_goes_44 : decode cX4_goes 44 = .ok (.goto 4, 3) := by decide +kernel
theorem dX4_goes_47 : decode cX4_goes 47 = .ok (.iconst 0, 1) := by decide +kernel
theorem dX4_goes_48 : decode cX4_goes 48 = .ok (.invokevirtual 58, 3) := by decide +kernel
theorem dX4_goes_51 : decode cX4_goes 51 = .ok (.istore 4, 2) := by decide +kernel
theorem dX4_goes_53 : decode cX4_goes 53 = .ok (.iload 4, 2) := by decide +kernel
theorem dX4_goes_55 : decode cX4_goes 55 = .ok (.ifCond .eq 6, 3) := by decide +kernel
theorem dX4_goes_58 : decode cX4_goes 58 = .ok (.iload 4, 2) := by decide +kernel
theorem dX4_goes_60 : decode cX4_goes 60 = .ok (.ireturn, 1) := by decide +kernel
theorem dX4_goes_61 : decode cX4_goes 61 = .ok (.aload_n 0, 1) := by decide +kernel
theorem dX4_goes_62 : decode cX4_goes 62 = .ok (.iload_n 1, 1) := by decide +kernel
theorem dX4_goes_63 : decode cX4_goes 63 = .ok (.iload_n 2, 1) := by decide +kernel
theorem dX4_goes_64 : decode cX4_goes 64 = .ok (.invokevirtual 181, 3) := by decide +kernel
theorem dX4_goes_67 : decode cX4_goes 67 = .ok (.istore 5, 2) := by decide +kernel
theorem dX4_goes_69 : decode cX4_goes 69 = .ok (.iconst 2, 1) := by decide +kernel
theorem dX4_goes_70 : decode cX4_goes 70 = .ok (.iload_n 2, 1) := by decide +kernel
theorem dX4_goes_71 : decode cX4_goes 71 = .ok (.imul, 1) := by decide +kernel
theorem dX4_goes_72 : decode cX4_goes 72 = .ok (.iconst 1, 1) := by decide +kernel
theorem dX4_goes_73 : decode cX4_goes 73 = .ok (.iadd, 1) := by decide +kernel
theorem dX4_goes_74 : decode cX4_goes 74 = .ok (.iconst 2, 1) := by decide +kernel
theorem dX4_goes_75 : decode cX4_goes 75 = .ok (.iload_n 2, 1) := by decide +kernel
theorem dX4_goes_76 : decode cX4_goes 76 = .ok (.imul, 1) := by decide +kernel
theorem dX4_goes_77 : decode cX4_goes 77 = .ok (.iconst 1, 1) := by decide +kernel
theorem dX4_goes_78 : decode cX4_goes 78 = .ok (.iadd, 1) := by decide +kernel
theorem dX4_goes_79 : decode cX4_goes 79 = .ok (.imul, 1) := by decide +kernel
theorem dX4_goes_80 : decode cX4_goes 80 = .ok (.istore 6, 2) := by decide +kernel
theorem dX4_goes_82 : decode cX4_goes 82 = .ok (.iload 5, 2) := by decide +kernel
theorem dX4_goes_84 : decode cX4_goes 84 = .ok (.iload 6, 2) := by decide +kernel
theorem dX4_goes_86 : decode cX4_goes 86 = .ok (.invokestatic 184, 3) := by decide +kernel
theorem dX4_goes_89 : decode cX4_goes 89 = .ok (.istore 7, 2) := by decide +kernel
theorem dX4_goes_91 : decode cX4_goes 91 = .ok (.iload_n 3, 1) := by decide +kernel
theorem dX4_goes_92 : decode cX4_goes 92 = .ok (.ifCond .ne 8, 3) := by decide +kernel
theorem dX4_goes_95 : decode cX4_goes 95 = .ok (.iload 5, 2) := by decide +kernel
theorem dX4_goes_97 : decode cX4_goes 97 = .ok (.goto 5, 3) := by decide +kernel
theorem dX4_goes_100 : decode cX4_goes 100 = .ok (.iload 6, 2) := by decide +kernel
theorem dX4_goes_102 : decode cX4_goes 102 = .ok (.istore 8, 2) := by decide +kernel
theorem dX4_goes_104 : decode cX4_goes 104 = .ok (.iload 7, 2) := by decide +kernel
theorem dX4_goes_106 : decode cX4_goes 106 = .ok (.ifCond .le 11, 3) := by decide +kernel
theorem dX4_goes_109 : decode cX4_goes 109 = .ok (.iload 8, 2) := by decide +kernel
theorem dX4_goes_111 : decode cX4_goes 111 = .ok (.iload 7, 2) := by decide +kernel
theorem dX4_goes_113 : decode cX4_goes 113 = .ok (.idiv, 1) := by decide +kernel
theorem dX4_goes_114 : decode cX4_goes 114 = .ok (.goto 5, 3) := by decide +kernel
theorem dX4_goes_117 : decode cX4_goes 117 = .ok (.iload 8, 2) := by decide +kernel
theorem dX4_goes_119 : decode cX4_goes 119 = .ok (.ireturn, 1) := by decide +kernel
set_option maxRecDepth 20000 in
theorem ggX4_bestRoom_X4_outside : GoodIn wsX4_bestRoom wsX4_outside := goodIn_r _ [5, 6, 7, 8, 4, 9, 10, 11, 12, 13, 14, 15, 16, 17, 18, 19, 20, 21, 150, 151, 152, 153, 154, 155, 156, 157, 158, 159] (by decide +kernel) (by decide +kernel)
set_option maxRecDepth 20000 in
theorem gX4_bestRoom_X4_outside : GoodIn wsX4_bestRoom (wsV RX4 58 RX4 yX4_outside wsX4_outside) := goodIn_app (goodIn_of _ (by decide +kernel)) ggX4_bestRoom_X4_outside
set_option maxRecDepth 20000 in
theorem ggX4_bestRoom_X4_freshWith : GoodIn wsX4_bestRoom wsX4_freshWith := goodIn_r _ [25, 26, 27, 28, 29, 30, 31, 32, 33, 34, 35, 36, 37, 38, 39, 40, 41, 42, 43, 44, 45, 46, 47, 48, 49, 50, 14, 51, 16, 17, 52, 53, 54, 55, 56, 57, 58, 59, 60, 19, 20, 21, 61, 62, 63, 64, 65, 66, 67, 68, 69, 70, 71, 72, 73, 74, 75, 76, 77, 12, 13, 15, 78, 79, 80, 81, 82, 83, 84, 150, 151, 152, 153, 154, 155, 156, 157, 160, 161, 162, 163, 164, 165, 166, 167, 168, 169, 170, 171, 172, 173, 174, 175, 176, 177, 158, 159, 178, 179, 180] (by decide +kernel) (by decide +kernel)
set_option maxRecDepth 20000 in
theorem gX4_bestRoom_X4_freshWith : GoodIn wsX4_bestRoom (wsV RX4 166 RX4 yX4_freshWith wsX4_freshWith) := goodIn_app (goodIn_of _ (by decide +kernel)) ggX4_bestRoom_X4_freshWith
set_option maxRecDepth 20000 in
theorem ggX4_bestRoom_X0_nodsIn : GoodIn wsX4_bestRoom wsX0_nodsIn := goodIn_r _ [88, 44, 89, 90, 91, 31, 92, 39, 41, 42, 33, 37, 38, 45, 83, 82, 43, 93, 94, 95, 96, 46, 34, 77, 12, 13, 14, 15, 16, 17, 97, 98, 99, 64, 100, 66, 67, 68, 101, 102, 103, 104, 105, 106, 107, 108, 109, 110, 111, 54, 112, 113, 53, 55, 114, 115, 116, 117, 118, 119, 120, 121, 35, 36, 122, 123, 124, 125, 126, 127, 128, 129, 78, 79, 80, 81, 84, 130, 131, 132, 133, 40, 134, 135, 136, 137, 47, 138, 139, 140, 141, 142, 143, 144, 145, 146, 147, 148, 149, 160, 161, 162, 163, 164, 165, 166, 167, 168, 169, 170, 171, 172, 173, 174, 175, 176, 177, 158, 159, 178, 179, 180] (by decide +kernel) (by decide +kernel)
set_option maxRecDepth 20000 in
theorem gX4_bestRoom_X0_nodsIn : GoodIn wsX4_bestRoom (wsV RX4 119 RX0 yX0_nodsIn wsX0_nodsIn) := goodIn_app (goodIn_of _ (by decide +kernel)) ggX4_bestRoom_X0_nodsIn
theorem dX4_bestRoom_0 : decode cX4_bestRoom 0 = .ok (.aload_n 0, 1) := by decide +kernel
theorem dX4_bestRoom_1 : decode cX4_bestRoom 1 = .ok (.iload_n 1, 1) := by decide +kernel
theorem dX4_bestRoom_2 : decode cX4_bestRoom 2 = .ok (.iconst 1, 1) := by decide +kernel
theorem dX4_bestRoom_3 : decode cX4_bestRoom 3 = .ok (.if_icmp .ge 7, 3) := by decide +kernel
theorem dX4_bestRoom_6 : decode cX4_bestRoom 6 = .ok (.iconst 1, 1) := by decide +kernel
theorem dX4_bestRoom_7 : decode cX4_bestRoom 7 = .ok (.goto 4, 3) := by decide +kernel
theorem dX4_bestRoom_10 : decode cX4_bestRoom 10 = .ok (.iconst 0, 1) := by decide +kernel
theorem dX4_bestRoom_11 : decode cX4_bestRoom 11 = .ok (.iload_n 1, 1) := by decide +kernel
theorem dX4_bestRoom_12 : decode cX4_bestRoom 12 = .ok (.sipush 3000, 3) := by decide +kernel
theorem dX4_bestRoom_15 : decode cX4_bestRoom 15 = .ok (.if_icmp .le 7, 3) := by decide +kernel
theorem dX4_bestRoom_18 : decode cX4_bestRoom 18 = .ok (.iconst 1, 1) := by decide +kernel
theorem dX4_bestRoom_19 : decode cX4_bestRoom 19 = .ok (.goto 4, 3) := by decide +kernel
theorem dX4_bestRoom_22 : decode cX4_bestRoom 22 = .ok (.iconst 0, 1) := by decide +kernel
theorem dX4_bestRoom_23 : decode cX4_bestRoom 23 = .ok (.invokevirtual 58, 3) := by decide +kernel
theorem dX4_bestRoom_26 : decode cX4_bestRoom 26 = .ok (.istore_n 2, 1) := by decide +kernel
theorem dX4_bestRoom_27 : decode cX4_bestRoom 27 = .ok (.iload_n 2, 1) := by decide +kernel
theorem dX4_bestRoom_28 : decode cX4_bestRoom 28 = .ok (.ifCond .eq 5, 3) := by decide +kernel
theorem dX4_bestRoom_31 : decode cX4_bestRoom 31 = .ok (.iload_n 2, 1) := by decide +kernel
theorem dX4_bestRoom_32 : decode cX4_bestRoom 32 = .ok (.ireturn, 1) := by decide +kernel
theorem dX4_bestRoom_33 : decode cX4_bestRoom 33 = .ok (.iconst 0, 1) := by decide +kernel
theorem dX4_bestRoom_34 : decode cX4_bestRoom 34 = .ok (.istore_n 3, 1) := by decide +kernel
theorem dX4_bestRoom_35 : decode cX4_bestRoom 35 = .ok (.iconst (-1), 1) := by decide +kernel
theorem dX4_bestRoom_36 : decode cX4_bestRoom 36 = .ok (.istore 4, 2) := by decide +kernel
theorem dX4_bestRoom_38 : decode cX4_bestRoom 38 = .ok (.bipush 100, 2) := by decide +kernel
theorem dX4_bestRoom_40 : decode cX4_bestRoom 40 = .ok (.istore 5, 2) := by decide +kernel
theorem dX4_bestRoom_42 : decode cX4_bestRoom 42 = .ok (.iload 5, 2) := by decide +kernel
theorem dX4_bestRoom_44 : decode cX4_bestRoom 44 = .ok (.sipush 400, 3) := by decide +kernel
theorem dX4_bestRoom_47 : decode cX4_bestRoom 47 = .ok (.if_icmp .gt 37, 3) := by decide +kernel
theorem dX4_bestRoom_50 : decode cX4_bestRoom 50 = .ok (.aload_n 0, 1) := by decide +kernel
theorem dX4_bestRoom_51 : decode cX4_bestRoom 51 = .ok (.bipush 11, 2) := by decide +kernel
theorem dX4_bestRoom_53 : decode cX4_bestRoom 53 = .ok (.iload 5, 2) := by decide +kernel
theorem dX4_bestRoom_55 : decode cX4_bestRoom 55 = .ok (.invokevirtual 166, 3) := by decide +kernel
theorem dX4_bestRoom_58 : decode cX4_bestRoom 58 = .ok (.iload_n 1, 1) := by decide +kernel
theorem dX4_bestRoom_59 : decode cX4_bestRoom 59 = .ok (.invokevirtual 119, 3) := by decide +kernel
theorem dX4_bestRoom_62 : decode cX4_bestRoom 62 = .ok (.istore 6, 2) := by decide +kernel
theorem dX4_bestRoom_64 : decode cX4_bestRoom 64 = .ok (.iload 6, 2) := by decide +kernel
theorem dX4_bestRoom_66 : decode cX4_bestRoom 66 = .ok (.iload 4, 2) := by decide +kernel
theorem dX4_bestRoom_68 : decode cX4_bestRoom 68 = .ok (.if_icmp .le 10, 3) := by decide +kernel
theorem dX4_bestRoom_71 : decode cX4_bestRoom 71 = .ok (.iload 6, 2) := by decide +kernel
theorem dX4_bestRoom_73 : decode cX4_bestRoom 73 = .ok (.istore 4, 2) := by decide +kernel
theorem dX4_bestRoom_75 : decode cX4_bestRoom 75 = .ok (.iload 5, 2) := by decide +kernel
theorem dX4_bestRoom_77 : decode cX4_bestRoom 77 = .ok (.istore_n 3, 1) := by decide +kernel
theorem dX4_bestRoom_78 : decode cX4_bestRoom 78 = .ok (.iinc 5 50, 3) := by decide +kernel
theorem dX4_bestRoom_81 : decode cX4_bestRoom 81 = .ok (.goto (-39), 3) := by decide +kernel
theorem dX4_bestRoom_84 : decode cX4_bestRoom 84 = .ok (.iload_n 3, 1) := by decide +kernel
theorem dX4_bestRoom_85 : decode cX4_bestRoom 85 = .ok (.ireturn, 1) := by decide +kernel
set_option maxRecDepth 20000 in
theorem ggX4_latest_X4_outside : GoodIn wsX4_latest wsX4_outside := goodIn_r _ [5, 6, 7, 8, 4, 9, 10, 11, 12, 13, 14, 15, 16, 17, 18, 19, 20, 21, 154, 155, 156, 157, 158, 159, 160, 161, 162, 163] (by decide +kernel) (by decide +kernel)
set_option maxRecDepth 20000 in
theorem gX4_latest_X4_outside : GoodIn wsX4_latest (wsV RX4 58 RX4 yX4_outside wsX4_outside) := goodIn_app (goodIn_of _ (by decide +kernel)) ggX4_latest_X4_outside
set_option maxRecDepth 20000 in
theorem ggX4_latest_X4_freshWith : GoodIn wsX4_latest wsX4_freshWith := goodIn_r _ [25, 26, 27, 28, 29, 30, 31, 32, 33, 34, 35, 36, 37, 38, 39, 40, 41, 42, 43, 44, 45, 46, 47, 48, 49, 50, 14, 51, 16, 17, 52, 53, 54, 55, 56, 57, 58, 59, 60, 19, 20, 21, 61, 62, 63, 64, 65, 66, 67, 68, 69, 70, 71, 72, 73, 74, 75, 76, 77, 12, 13, 15, 78, 79, 80, 81, 82, 83, 84, 154, 155, 156, 157, 158, 159, 160, 161, 164, 165, 166, 167, 168, 169, 170, 171, 172, 173, 174, 175, 176, 177, 178, 179, 180, 181, 162, 163, 182, 183, 184] (by decide +kernel) (by decide +kernel)
set_option maxRecDepth 20000 in
theorem gX4_latest_X4_freshWith : GoodIn wsX4_latest (wsV RX4 166 RX4 yX4_freshWith wsX4_freshWith) := goodIn_app (goodIn_of _ (by decide +kernel)) ggX4_latest_X4_freshWith
set_option maxRecDepth 20000 in
theorem ggX4_latest_X0_lastNodIn : GoodIn wsX4_latest wsX0_lastNodIn := goodIn_r _ [88, 43, 89, 90, 91, 31, 92, 44, 93, 94, 95, 96, 39, 41, 42, 33, 37, 38, 45, 83, 82, 97, 98, 99, 100, 46, 34, 77, 12, 13, 14, 15, 16, 17, 101, 102, 103, 64, 104, 66, 67, 68, 105, 106, 107, 108, 109, 110, 111, 112, 113, 114, 115, 54, 116, 117, 53, 55, 118, 119, 120, 121, 122, 123, 124, 125, 35, 36, 126, 127, 128, 129, 130, 131, 132, 133, 78, 79, 80, 81, 84, 134, 135, 136, 137, 40, 138, 139, 140, 141, 47, 142, 143, 144, 145, 146, 147, 148, 149, 150, 151, 152, 153, 164, 165, 166, 167, 168, 169, 170, 171, 172, 173, 174, 175, 176, 177, 178, 179, 180, 181, 162, 163, 182, 183, 184] (by decide +kernel) (by decide +kernel)
set_option maxRecDepth 20000 in
theorem gX4_latest_X0_lastNodIn : GoodIn wsX4_latest (wsV RX4 187 RX0 yX0_lastNodIn wsX0_lastNodIn) := goodIn_app (goodIn_of _ (by decide +kernel)) ggX4_latest_X0_lastNodIn
theorem dX4_latest_0 : decode cX4_latest 0 = .ok (.aload_n 0, 1) := by decide +kernel
