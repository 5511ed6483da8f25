theorem dX2_init_0 : decode cX2_init 0 = .ok (.aload_n 0, 1) := by decide +kernel
theorem dX2_init_1 : decode cX2_init 1 = .ok (.invokespecial 1, 3) := by decide +kernel
theorem dX2_init_4 : decode cX2_init 4 = .ok (.aload_n 0, 1) := by decide +kernel
theorem dX2_init_5 : decode cX2_init 5 = .ok (.iconst 4, 1) := by decide +kernel
theorem dX2_init_6 : decode cX2_init 6 = .ok (.newarray .int, 2) := by decide +kernel
theorem dX2_init_8 : decode cX2_init 8 = .ok (.putfield 9, 3) := by decide +kernel
theorem dX2_init_11 : decode cX2_init 11 = .ok (.aload_n 0, 1) := by decide +kernel
theorem dX2_init_12 : decode cX2_init 12 = .ok (.bipush 12, 2) := by decide +kernel
theorem dX2_init_14 : decode cX2_init 14 = .ok (.newarray .int, 2) := by decide +kernel
theorem dX2_init_16 : decode cX2_init 16 = .ok (.putfield 13, 3) := by decide +kernel
theorem dX2_init_19 : decode cX2_init 19 = .ok (.aload_n 0, 1) := by decide +kernel
theorem dX2_init_20 : decode cX2_init 20 = .ok (.bipush 16, 2) := by decide +kernel
theorem dX2_init_22 : decode cX2_init 22 = .ok (.newarray .int, 2) := by decide +kernel
theorem dX2_init_24 : decode cX2_init 24 = .ok (.putfield 16, 3) := by decide +kernel
theorem dX2_init_27 : decode cX2_init 27 = .ok (.aload_n 0, 1) := by decide +kernel
theorem dX2_init_28 : decode cX2_init 28 = .ok (.bipush 16, 2) := by decide +kernel
theorem dX2_init_30 : decode cX2_init 30 = .ok (.newarray .int, 2) := by decide +kernel
theorem dX2_init_32 : decode cX2_init 32 = .ok (.putfield 19, 3) := by decide +kernel
theorem dX2_init_35 : decode cX2_init 35 = .ok (.aload_n 0, 1) := by decide +kernel
theorem dX2_init_36 : decode cX2_init 36 = .ok (.bipush 51, 2) := by decide +kernel
theorem dX2_init_38 : decode cX2_init 38 = .ok (.newarray .int, 2) := by decide +kernel
theorem dX2_init_40 : decode cX2_init 40 = .ok (.putfield 22, 3) := by decide +kernel
theorem dX2_init_43 : decode cX2_init 43 = .ok (.aload_n 0, 1) := by decide +kernel
theorem dX2_init_44 : decode cX2_init 44 = .ok (.bipush 51, 2) := by decide +kernel
theorem dX2_init_46 : decode cX2_init 46 = .ok (.newarray .int, 2) := by decide +kernel
theorem dX2_init_48 : decode cX2_init 48 = .ok (.putfield 25, 3) := by decide +kernel
theorem dX2_init_51 : decode cX2_init 51 = .ok (.aload_n 0, 1) := by decide +kernel
theorem dX2_init_52 : decode cX2_init 52 = .ok (.iconst 4, 1) := by decide +kernel
theorem dX2_init_53 : decode cX2_init 53 = .ok (.newarray .int, 2) := by decide +kernel
theorem dX2_init_55 : decode cX2_init 55 = .ok (.putfield 28, 3) := by decide +kernel
theorem dX2_init_58 : decode cX2_init 58 = .ok (.iconst 0, 1) := by decide +kernel
theorem dX2_init_59 : decode cX2_init 59 = .ok (.istore_n 1, 1) := by decide +kernel
theorem dX2_init_60 : decode cX2_init 60 = .ok (.iload_n 1, 1) := by decide +kernel
theorem dX2_init_61 : decode cX2_init 61 = .ok (.bipush 12, 2) := by decide +kernel
theorem dX2_init_63 : decode cX2_init 63 = .ok (.if_icmp .ge 16, 3) := by decide +kernel
theorem dX2_init_66 : decode cX2_init 66 = .ok (.aload_n 0, 1) := by decide +kernel
theorem dX2_init_67 : decode cX2_init 67 = .ok (.getfield 13, 3) := by decide +kernel
theorem dX2_init_70 : decode cX2_init 70 = .ok (.iload_n 1, 1) := by decide +kernel
theorem dX2_init_71 : decode cX2_init 71 = .ok (.iconst 5, 1) := by decide +kernel
theorem dX2_init_72 : decode cX2_init 72 = .ok (.iastore, 1) := by decide +kernel
theorem dX2_init_73 : decode cX2_init 73 = .ok (.iinc 1 1, 3) := by decide +kernel
theorem dX2_init_76 : decode cX2_init 76 = .ok (.goto (-16), 3) := by decide +kernel
theorem dX2_init_79 : decode cX2_init 79 = .ok (.return_, 1) := by decide +kernel
theorem dX2_thrown_0 : decode cX2_thrown 0 = .ok (.aload_n 0, 1) := by decide +kernel
theorem dX2_thrown_1 : decode cX2_thrown 1 = .ok (.getfield 31, 3) := by decide +kernel
theorem dX2_thrown_4 : decode cX2_thrown 4 = .ok (.ireturn, 1) := by decide +kernel
theorem dX2_fail_0 : decode cX2_fail 0 = .ok (.aload_n 0, 1) := by decide +kernel
theorem dX2_fail_1 : decode cX2_fail 1 = .ok (.iload_n 1, 1) := by decide +kernel
theorem dX2_fail_2 : decode cX2_fail 2 = .ok (.putfield 31, 3) := by decide +kernel
theorem dX2_fail_5 : decode cX2_fail 5 = .ok (.iconst 0, 1) := by decide +kernel
theorem dX2_fail_6 : decode cX2_fail 6 = .ok (.ireturn, 1) := by decide +kernel
theorem dX2_told_0 : decode cX2_told 0 = .ok (.aload_n 0, 1) := by decide +kernel
theorem dX2_told_1 : decode cX2_told 1 = .ok (.iconst 0, 1) := by decide +kernel
theorem dX2_told_2 : decode cX2_told 2 = .ok (.putfield 31, 3) := by decide +kernel
theorem dX2_told_5 : decode cX2_told 5 = .ok (.iload_n 1, 1) := by decide +kernel
theorem dX2_told_6 : decode cX2_told 6 = .ok (.ireturn, 1) := by decide +kernel
theorem dX2_isIn_0 : decode cX2_isIn 0 = .ok (.iload_n 0, 1) := by decide +kernel
theorem dX2_isIn_1 : decode cX2_isIn 1 = .ok (.iload_n 1, 1) := by decide +kernel
theorem dX2_isIn_2 : decode cX2_isIn 2 = .ok (.if_icmp .lt 12, 3) := by decide +kernel
theorem dX2_isIn_5 : decode cX2_isIn 5 = .ok (.iload_n 0, 1) := by decide +kernel
theorem dX2_isIn_6 : decode cX2_isIn 6 = .ok (.iload_n 2, 1) := by decide +kernel
theorem dX2_isIn_7 : decode cX2_isIn 7 = .ok (.if_icmp .gt 7, 3) := by decide +kernel
theorem dX2_isIn_10 : decode cX2_isIn 10 = .ok (.iconst 1, 1) := by decide +kernel
theorem dX2_isIn_11 : decode cX2_isIn 11 = .ok (.goto 4, 3) := by decide +kernel
theorem dX2_isIn_14 : decode cX2_isIn 14 = .ok (.iconst 0, 1) := by decide +kernel
theorem dX2_isIn_15 : decode cX2_isIn 15 = .ok (.ireturn, 1) := by decide +kernel
set_option maxRecDepth 20000 in
theorem ggX2_isStone_X2_isIn : GoodIn wsX2_isStone wsX2_isIn := goodIn_r _ [5] (by decide +kernel) (by decide +kernel)
set_option maxRecDepth 20000 in
theorem gX2_isStone_X2_isIn : GoodIn wsX2_isStone (va_wsS RX2 38 yX2_isIn wsX2_isIn) := goodIn_app (goodIn_of _ (by decide +kernel)) ggX2_isStone_X2_isIn
theorem dX2_isStone_0 : decode cX2_isStone 0 = .ok (.iload_n 1, 1) := by decide +kernel
theorem dX2_isStone_1 : decode cX2_isStone 1 = .ok (.iconst 0, 1) := by decide +kernel
theorem dX2_isStone_2 : decode cX2_isStone 2 = .ok (.aload_n 0, 1) := by decide +kernel
theorem dX2_isStone_3 : decode cX2_isStone 3 = .ok (.getfield 35, 3) := by decide +kernel
theorem dX2_isStone_6 : decode cX2_isStone 6 = .ok (.iconst 1, 1) := by decide +kernel
theorem dX2_isStone_7 : decode cX2_isStone 7 = .ok (.isub, 1) := by decide +kernel
theorem dX2_isStone_8 : decode cX2_isStone 8 = .ok (.invokestatic 38, 3) := by decide +kernel
theorem dX2_isStone_11 : decode cX2_isStone 11 = .ok (.ireturn, 1) := by decide +kernel
set_option maxRecDepth 20000 in
theorem ggX2_isSack_X2_isIn : GoodIn wsX2_isSack wsX2_isIn := goodIn_r _ [5] (by decide +kernel) (by decide +kernel)
set_option maxRecDepth 20000 in
theorem gX2_isSack_X2_isIn : GoodIn wsX2_isSack (va_wsS RX2 38 yX2_isIn wsX2_isIn) := goodIn_app (goodIn_of _ (by decide +kernel)) ggX2_isSack_X2_isIn
theorem dX2_isSack_0 : decode cX2_isSack 0 = .ok (.iload_n 1, 1) := by decide +kernel
theorem dX2_isSack_1 : decode cX2_isSack 1 = .ok (.iconst 0, 1) := by decide +kernel
theorem dX2_isSack_2 : decode cX2_isSack 2 = .ok (.aload_n 0, 1) := by decide +kernel
theorem dX2_isSack_3 : decode cX2_isSack 3 = .ok (.getfield 42, 3) := by decide +kernel
theorem dX2_isSack_6 : decode cX2_isSack 6 = .ok (.iconst 1, 1) := by decide +kernel
theorem dX2_isSack_7 : decode cX2_isSack 7 = .ok (.isub, 1) := by decide +kernel
theorem dX2_isSack_8 : decode cX2_isSack 8 = .ok (.invokestatic 38, 3) := by decide +kernel
theorem dX2_isSack_11 : decode cX2_isSack 11 = .ok (.ireturn, 1) := by decide +kernel
theorem dX2_keep_0 : decode cX2_keep 0 = .ok (.aload_n 0, 1) := by decide +kernel
theorem dX2_keep_1 : decode cX2_keep 1 = .ok (.getfield 22, 3) := by decide +kernel
theorem dX2_keep_4 : decode cX2_keep 4 = .ok (.iconst 0, 1) := by decide +kernel
theorem dX2_keep_5 : decode cX2_keep 5 = .ok (.aload_n 0, 1) := by decide +kernel
theorem dX2_keep_6 : decode cX2_keep 6 = .ok (.getfield 25, 3) := by decide +kernel
theorem dX2_keep_9 : decode cX2_keep 9 = .ok (.iconst 0, 1) := by decide +kernel
theorem dX2_keep_10 : decode cX2_keep 10 = .ok (.bipush 51, 2) := by decide +kernel
theorem dX2_keep_12 : decode cX2_keep 12 = .ok (.invokestatic 45, 3) := by decide +kernel
theorem dX2_keep_15 : decode cX2_keep 15 = .ok (.return_, 1) := by decide +kernel
theorem dX2_bringBack_0 : decode cX2_bringBack 0 = .ok (.aload_n 0, 1) := by decide +kernel
theorem dX2_bringBack_1 : decode cX2_bringBack 1 = .ok (.getfield 25, 3) := by decide +kernel
theorem dX2_bringBack_4 : decode cX2_bringBack 4 = .ok (.iconst 0, 1) := by decide +kernel
theorem dX2_bringBack_5 : decode cX2_bringBack 5 = .ok (.aload_n 0, 1) := by decide +kernel
theorem dX2_bringBack_6 : decode cX2_bringBack 6 = .ok (.getfield 22, 3) := by decide +kernel
theorem dX2_bringBack_9 : decode cX2_bringBack 9 = .ok (.iconst 0, 1) := by decide +kernel
theorem dX2_bringBack_10 : decode cX2_bringBack 10 = .ok (.bipush 51, 2) := by decide +kernel
theorem dX2_bringBack_12 : decode cX2_bringBack 12 = .ok (.invokestatic 45, 3) := by decide +kernel
theorem dX2_bringBack_15 : decode cX2_bringBack 15 = .ok (.return_, 1) := by decide +kernel
theorem dX2_isDone_0 : decode cX2_isDone 0 = .ok (.aload_n 0, 1) := by decide +kernel
theorem dX2_isDone_1 : decode cX2_isDone 1 = .ok (.getfield 22, 3) := by decide +kernel
theorem dX2_isDone_4 : decode cX2_isDone 4 = .ok (.bipush 19, 2) := by decide +kernel
theorem dX2_isDone_6 : decode cX2_isDone 6 = .ok (.iload_n 1, 1) := by decide +kernel
theorem dX2_isDone_7 : decode cX2_isDone 7 = .ok (.iadd, 1) := by decide +kernel
theorem dX2_isDone_8 : decode cX2_isDone 8 = .ok (.iaload, 1) := by decide +kernel
theorem dX2_isDone_9 : decode cX2_isDone 9 = .ok (.iconst (-1), 1) := by decide +kernel
theorem dX2_isDone_10 : decode cX2_isDone 10 = .ok (.if_icmp .eq 7, 3) := by decide +kernel
theorem dX2_isDone_13 : decode cX2_isDone 13 = .ok (.iconst 1, 1) := by decide +kernel
theorem dX2_isDone_14 : decode cX2_isDone 14 = .ok (.goto 4, 3) := by decide +kernel
theorem dX2_isDone_17 : decode cX2_isDone 17 = .ok (.iconst 0, 1) := by decide +kernel
theorem dX2_isDone_18 : decode cX2_isDone 18 = .ok (.ireturn, 1) := by decide +kernel
theorem dX2_turn_0 : decode cX2_turn 0 = .ok (.bipush 16, 2) := by decide +kernel
theorem dX2_turn_2 : decode cX2_turn 2 = .ok (.aload_n 0, 1) := by decide +kernel
theorem dX2_turn_3 : decode cX2_turn 3 = .ok (.getfield 51, 3) := by decide +kernel
theorem dX2_turn_6 : decode cX2_turn 6 = .ok (.ifCond .ne 7, 3) := by decide +kernel
theorem dX2_turn_9 : decode cX2_turn 9 = .ok (.iconst 0, 1) := by decide +kernel
theorem dX2_turn_10 : decode cX2_turn 10 = .ok (.goto 28, 3) := by decide +kernel
theorem dX2_turn_13 : decode cX2_turn 13 = .ok (.aload_n 0, 1) := by decide +kernel
theorem dX2_turn_14 : decode cX2_turn 14 = .ok (.getfield 51, 3) := by decide +kernel
theorem dX2_turn_17 : decode cX2_turn 17 = .ok (.iconst 1, 1) := by decide +kernel
theorem dX2_turn_18 : decode cX2_turn 18 = .ok (.if_icmp .ne 12, 3) := by decide +kernel
theorem dX2_turn_21 : decode cX2_turn 21 = .ok (.aload_n 0, 1) := by decide +kernel
theorem dX2_turn_22 : decode cX2_turn 22 = .ok (.getfield 19, 3) := by decide +kernel
theorem dX2_turn_25 : decode cX2_turn 25 = .ok (.iload_n 1, 1) := by decide +kernel
theorem dX2_turn_26 : decode cX2_turn 26 = .ok (.iaload, 1) := by decide +kernel
theorem dX2_turn_27 : decode cX2_turn 27 = .ok (.goto 11, 3) := by decide +kernel
theorem dX2_turn_30 : decode cX2_turn 30 = .ok (.aload_n 0, 1) := by decide +kernel
theorem dX2_turn_31 : decode cX2_turn 31 = .ok (.getfield 22, 3) := by decide +kernel
theorem dX2_turn_34 : decode cX2_turn 34 = .ok (.iconst 3, 1) := by decide +kernel
theorem dX2_turn_35 : decode cX2_turn 35 = .ok (.iload_n 1, 1) := by decide +kernel
theorem dX2_turn_36 : decode cX2_turn 36 = .ok (.iadd, 1) := by decide +kernel
theorem dX2_turn_37 : decode cX2_turn 37 = .ok (.iaload, 1) := by decide +kernel
theorem dX2_turn_38 : decode cX2_turn 38 = .ok (.imul, 1) := by decide +kernel
theorem dX2_turn_39 : decode cX2_turn 39 = .ok (.iload_n 1, 1) := by decide +kernel
theorem dX2_turn_40 : decode cX2_turn 40 = .ok (.iadd, 1) := by decide +kernel
theorem dX2_turn_41 : decode cX2_turn 41 = .ok (.ireturn, 1) := by decide +kernel
set_option maxRecDepth 20000 in
theorem ggX2_ahead_X2_isDone : GoodIn wsX2_ahead wsX2_isDone := goodIn_r _ [6, 7, 14, 15, 16, 17, 18, 19, 20, 21, 22, 23, 24, 25] (by decide +kernel) (by decide +kernel)
set_option maxRecDepth 20000 in
theorem gX2_ahead_X2_isDone : GoodIn wsX2_ahead (wsV RX2 54 RX2 yX2_isDone wsX2_isDone) := goodIn_app (goodIn_of _ (by decide +kernel)) ggX2_ahead_X2_isDone
set_option maxRecDepth 20000 in
theorem ggX2_ahead_X2_turn : GoodIn wsX2_ahead wsX2_turn := goodIn_r _ [11, 12, 13, 7, 14, 15, 16, 17, 18, 19, 20, 21, 22, 23, 24, 25] (by decide +kernel) (by decide +kernel)
set_option maxRecDepth 20000 in
theorem gX2_ahead_X2_turn : GoodIn wsX2_ahead (wsV RX2 58 RX2 yX2_turn wsX2_turn) := goodIn_app (goodIn_of _ (by decide +kernel)) ggX2_ahead_X2_turn
theorem dX2_ahead_0 : decode cX2_ahead 0 = .ok (.iconst 0, 1) := by decide +kernel
theorem dX2_ahead_1 : decode cX2_ahead 1 = .ok (.istore_n 2, 1) := by decide +kernel
theorem dX2_ahead_2 : decode cX2_ahead 2 = .ok (.iconst 0, 1) := by decide +kernel
theorem dX2_ahead_3 : decode cX2_ahead 3 = .ok (.istore_n 3, 1) := by decide +kernel
theorem dX2_ahead_4 : decode cX2_ahead 4 = .ok (.iload_n 3, 1) := by decide +kernel
theorem dX2_ahead_5 : decode cX2_ahead 5 = .ok (.aload_n 0, 1) := by decide +kernel
theorem dX2_ahead_6 : decode cX2_ahead 6 = .ok (.getfield 42, 3) := by decide +kernel
theorem dX2_ahead_9 : decode cX2_ahead 9 = .ok (.if_icmp .ge 38, 3) := by decide +kernel
theorem dX2_ahead_12 : decode cX2_ahead 12 = .ok (.iload_n 2, 1) := by decide +kernel
theorem dX2_ahead_13 : decode cX2_ahead 13 = .ok (.aload_n 0, 1) := by decide +kernel
theorem dX2_ahead_14 : decode cX2_ahead 14 = .ok (.iload_n 3, 1) := by decide +kernel
theorem dX2_ahead_15 : decode cX2_ahead 15 = .ok (.invokevirtual 54, 3) := by decide +kernel
theorem dX2_ahead_18 : decode cX2_ahead 18 = .ok (.ifCond .ne 20, 3) := by decide +kernel
theorem dX2_ahead_21 : decode cX2_ahead 21 = .ok (.aload_n 0, 1) := by decide +kernel
theorem dX2_ahead_22 : decode cX2_ahead 22 = .ok (.iload_n 3, 1) := by decide +kernel
theorem dX2_ahead_23 : decode cX2_ahead 23 = .ok (.invokevirtual 58, 3) := by decide +kernel
theorem dX2_ahead_26 : decode cX2_ahead 26 = .ok (.aload_n 0, 1) := by decide +kernel
theorem dX2_ahead_27 : decode cX2_ahead 27 = .ok (.iload_n 1, 1) := by decide +kernel
theorem dX2_ahead_28 : decode cX2_ahead 28 = .ok (.invokevirtual 58, 3) := by decide +kernel
theorem dX2_ahead_31 : decode cX2_ahead 31 = .ok (.if_icmp .ge 7, 3) := by decide +kernel
theorem dX2_ahead_34 : decode cX2_ahead 34 = .ok (.iconst 1, 1) := by decide +kernel
theorem dX2_ahead_35 : decode cX2_ahead 35 = .ok (.goto 4, 3) := by decide +kernel
theorem dX2_ahead_38 : decode cX2_ahead 38 = .ok (.iconst 0, 1) := by decide +kernel
theorem dX2_ahead_39 : decode cX2_ahead 39 = .ok (.iadd, 1) := by decide +kernel
theorem dX2_ahead_40 : decode cX2_ahead 40 = .ok (.istore_n 2, 1) := by decide +kernel
theorem dX2_ahead_41 : decode cX2_ahead 41 = .ok (.iinc 3 1, 3) := by decide +kernel
theorem dX2_ahead_44 : decode cX2_ahead 44 = .ok (.goto (-40), 3) := by decide +kernel
theorem dX2_ahead_47 : decode cX2_ahead 47 = .ok (.iload_n 2, 1) := by decide +kernel
theorem dX2_ahead_48 : decode cX2_ahead 48 = .ok (.ireturn, 1) := by decide +kernel
set_option maxRecDepth 20000 in
theorem ggX2_next_X2_isDone : GoodIn wsX2_next wsX2_isDone := goodIn_r _ [7, 2, 14, 15, 16, 17, 18, 19, 20, 21, 22, 23, 24, 25] (by decide +kernel) (by decide +kernel)
set_option maxRecDepth 20000 in
theorem gX2_next_X2_isDone : GoodIn wsX2_next (wsV RX2 54 RX2 yX2_isDone wsX2_isDone) := goodIn_app (goodIn_of _ (by decide +kernel)) ggX2_next_X2_isDone
set_option maxRecDepth 20000 in
theorem ggX2_next_X2_turn : GoodIn wsX2_next wsX2_turn := goodIn_r _ [11, 12, 13, 2, 14, 15, 16, 17, 18, 19, 20, 21, 22, 23, 24, 25] (by decide +kernel) (by decide +kernel)
set_option maxRecDepth 20000 in
theorem gX2_next_X2_turn : GoodIn wsX2_next (wsV RX2 58 RX2 yX2_turn wsX2_turn) := goodIn_app (goodIn_of _ (by decide +kernel)) ggX2_next_X2_turn
theorem dX2_next_0 : decode cX2_next 0 = .ok (.iconst (-1), 1) := by decide +kernel
theorem dX2_next_1 : decode cX2_next 1 = .ok (.istore_n 2, 1) := by decide +kernel
theorem dX2_next_2 : decode cX2_next 2 = .ok (.iconst 0, 1) := by decide +kernel
theorem dX2_next_3 : decode cX2_next 3 = .ok (.istore_n 3, 1) := by decide +kernel
theorem dX2_next_4 : decode cX2_next 4 = .ok (.iload_n 3, 1) := by decide +kernel
theorem dX2_next_5 : decode cX2_next 5 = .ok (.aload_n 0, 1) := by decide +kernel
theorem dX2_next_6 : decode cX2_next 6 = .ok (.getfield 42, 3) := by decide +kernel
theorem dX2_next_9 : decode cX2_next 9 = .ok (.if_icmp .ge 54, 3) := by decide +kernel
theorem dX2_next_12 : decode cX2_next 12 = .ok (.aload_n 0, 1) := by decide +kernel
theorem dX2_next_13 : decode cX2_next 13 = .ok (.iload_n 3, 1) := by decide +kernel
theorem dX2_next_14 : decode cX2_next 14 = .ok (.invokevirtual 54, 3) := by decide +kernel
theorem dX2_next_17 : decode cX2_next 17 = .ok (.ifCond .ne 40, 3) := by decide +kernel
theorem dX2_next_20 : decode cX2_next 20 = .ok (.iload_n 1, 1) := by decide +kernel
theorem dX2_next_21 : decode cX2_next 21 = .ok (.ifCond .eq 16, 3) := by decide +kernel
theorem dX2_next_24 : decode cX2_next 24 = .ok (.aload_n 0, 1) := by decide +kernel
theorem dX2_next_25 : decode cX2_next 25 = .ok (.getfield 22, 3) := by decide +kernel
theorem dX2_next_28 : decode cX2_next 28 = .ok (.bipush 35, 2) := by decide +kernel
theorem dX2_next_30 : decode cX2_next 30 = .ok (.iload_n 3, 1) := by decide +kernel
theorem dX2_next_31 : decode cX2_next 31 = .ok (.iadd, 1) := by decide +kernel
theorem dX2_next_32 : decode cX2_next 32 = .ok (.iaload, 1) := by decide +kernel
theorem dX2_next_33 : decode cX2_next 33 = .ok (.iconst (-1), 1) := by decide +kernel
theorem dX2_next_34 : decode cX2_next 34 = .ok (.if_icmp .ne 23, 3) := by decide +kernel
theorem dX2_next_37 : decode cX2_next 37 = .ok (.iload_n 2, 1) := by decide +kernel
theorem dX2_next_38 : decode cX2_next 38 = .ok (.iconst (-1), 1) := by decide +kernel
theorem dX2_next_39 : decode cX2_next 39 = .ok (.if_icmp .eq 16, 3) := by decide +kernel
theorem dX2_next_42 : decode cX2_next 42 = .ok (.aload_n 0, 1) := by decide +kernel
theorem dX2_next_43 : decode cX2_next 43 = .ok (.iload_n 3, 1) := by decide +kernel
theorem dX2_next_44 : decode cX2_next 44 = .ok (.invokevirtual 58, 3) := by decide +kernel
theorem dX2_next_47 : decode cX2_next 47 = .ok (.aload_n 0, 1) := by decide +kernel
theorem dX2_next_48 : decode cX2_next 48 = .ok (.iload_n 2, 1) := by decide +kernel
theorem dX2_next_49 : decode cX2_next 49 = .ok (.invokevirtual 58, 3) := by decide +kernel
theorem dX2_next_52 : decode cX2_next 52 = .ok (.if_icmp .ge 5, 3) := by decide +kernel
theorem dX2_next_55 : decode cX2_next 55 = .ok (.iload_n 3, 1) := by decide +kernel
theorem dX2_next_56 : decode cX2_next 56 = .ok (.istore_n 2, 1) := by decide +kernel
theorem dX2_next_57 : decode cX2_next 57 = .ok (.iinc 3 1, 3) := by decide +kernel
theorem dX2_next_60 : decode cX2_next 60 = .ok (.goto (-56), 3) := by decide +kernel
theorem dX2_next_63 : decode cX2_next 63 = .ok (.iload_n 2, 1) := by decide +kernel
theorem dX2_next_64 : decode cX2_next 64 = .ok (.ireturn, 1) := by decide +kernel
theorem dX2_on_0 : decode cX2_on 0 = .ok (.iconst 0, 1) := by decide +kernel
theorem dX2_on_1 : decode cX2_on 1 = .ok (.istore_n 2, 1) := by decide +kernel
theorem dX2_on_2 : decode cX2_on 2 = .ok (.iload_n 2, 1) := by decide +kernel
theorem dX2_on_3 : decode cX2_on 3 = .ok (.aload_n 0, 1) := by decide +kernel
theorem dX2_on_4 : decode cX2_on 4 = .ok (.getfield 42, 3) := by decide +kernel
theorem dX2_on_7 : decode cX2_on 7 = .ok (.if_icmp .ge 24, 3) := by decide +kernel
theorem dX2_on_10 : decode cX2_on 10 = .ok (.aload_n 0, 1) := by decide +kernel
theorem dX2_on_11 : decode cX2_on 11 = .ok (.getfield 22, 3) := by decide +kernel
theorem dX2_on_14 : decode cX2_on 14 = .ok (.bipush 35, 2) := by decide +kernel
theorem dX2_on_16 : decode cX2_on 16 = .ok (.iload_n 2, 1) := by decide +kernel
theorem dX2_on_17 : decode cX2_on 17 = .ok (.iadd, 1) := by decide +kernel
theorem dX2_on_18 : decode cX2_on 18 = .ok (.iaload, 1) := by decide +kernel
theorem dX2_on_19 : decode cX2_on 19 = .ok (.iload_n 1, 1) := by decide +kernel
theorem dX2_on_20 : decode cX2_on 20 = .ok (.if_icmp .ne 5, 3) := by decide +kernel
theorem dX2_on_23 : decode cX2_on 23 = .ok (.iload_n 2, 1) := by decide +kernel
theorem dX2_on_24 : decode cX2_on 24 = .ok (.ireturn, 1) := by decide +kernel
theorem dX2_on_25 : decode cX2_on 25 = .ok (.iinc 2 1, 3) := by decide +kernel
theorem dX2_on_28 : decode cX2_on 28 = .ok (.goto (-26), 3) := by decide +kernel
theorem dX2_on_31 : decode cX2_on 31 = .ok (.iconst (-1), 1) := by decide +kernel
theorem dX2_on_32 : decode cX2_on 32 = .ok (.ireturn, 1) := by decide +kernel
set_option maxRecDepth 20000 in
theorem ggX2_hourOn_X2_ahead : GoodIn wsX2_hourOn wsX2_ahead := goodIn_r _ [16, 1, 17, 18, 19, 15, 20, 3, 21, 22, 23, 24, 25, 26, 35, 36, 37, 38, 39, 40, 41, 42, 43, 44, 45, 46] (by decide +kernel) (by decide +kernel)
set_option maxRecDepth 20000 in
theorem gX2_hourOn_X2_ahead : GoodIn wsX2_hourOn (wsV RX2 66 RX2 yX2_ahead wsX2_ahead) := goodIn_app (goodIn_of _ (by decide +kernel)) ggX2_hourOn_X2_ahead
set_option maxRecDepth 20000 in
theorem ggX2_hourOn_X2_on : GoodIn wsX2_hourOn wsX2_on := goodIn_r _ [30, 1, 3, 35, 36, 37, 38, 39, 40, 41, 42, 43, 44, 45, 46] (by decide +kernel) (by decide +kernel)
set_option maxRecDepth 20000 in
theorem gX2_hourOn_X2_on : GoodIn wsX2_hourOn (wsV RX2 69 RX2 yX2_on wsX2_on) := goodIn_app (goodIn_of _ (by decide +kernel)) ggX2_hourOn_X2_on
set_option maxRecDepth 20000 in
theorem ggX2_hourOn_X2_next : GoodIn wsX2_hourOn wsX2_next := goodIn_r _ [34, 1, 3, 17, 18, 19, 15, 20, 21, 22, 23, 24, 25, 26, 35, 36, 37, 38, 39, 40, 41, 42, 43, 44, 45, 46] (by decide +kernel) (by decide +kernel)
set_option maxRecDepth 20000 in
theorem gX2_hourOn_X2_next : GoodIn wsX2_hourOn (wsV RX2 72 RX2 yX2_next wsX2_next) := goodIn_app (goodIn_of _ (by decide +kernel)) ggX2_hourOn_X2_next
theorem dX2_hourOn_0 : decode cX2_hourOn 0 = .ok (.iconst 0, 1) := by decide +kernel
theorem dX2_hourOn_1 : decode cX2_hourOn 1 = .ok (.istore_n 1, 1) := by decide +kernel
theorem dX2_hourOn_2 : decode cX2_hourOn 2 = .ok (.iload_n 1, 1) := by decide +kernel
theorem dX2_hourOn_3 : decode cX2_hourOn 3 = .ok (.aload_n 0, 1) := by decide +kernel
theorem dX2_hourOn_4 : decode cX2_hourOn 4 = .ok (.getfield 42, 3) := by decide +kernel
theorem dX2_hourOn_7 : decode cX2_hourOn 7 = .ok (.if_icmp .ge 51, 3) := by decide +kernel
theorem dX2_hourOn_10 : decode cX2_hourOn 10 = .ok (.aload_n 0, 1) := by decide +kernel
theorem dX2_hourOn_11 : decode cX2_hourOn 11 = .ok (.getfield 62, 3) := by decide +kernel
theorem dX2_hourOn_14 : decode cX2_hourOn 14 = .ok (.ifCond .eq 44, 3) := by decide +kernel
theorem dX2_hourOn_17 : decode cX2_hourOn 17 = .ok (.aload_n 0, 1) := by decide +kernel
theorem dX2_hourOn_18 : decode cX2_hourOn 18 = .ok (.getfield 22, 3) := by decide +kernel
theorem dX2_hourOn_21 : decode cX2_hourOn 21 = .ok (.bipush 35, 2) := by decide +kernel
theorem dX2_hourOn_23 : decode cX2_hourOn 23 = .ok (.iload_n 1, 1) := by decide +kernel
theorem dX2_hourOn_24 : decode cX2_hourOn 24 = .ok (.iadd, 1) := by decide +kernel
theorem dX2_hourOn_25 : decode cX2_hourOn 25 = .ok (.iaload, 1) := by decide +kernel
theorem dX2_hourOn_26 : decode cX2_hourOn 26 = .ok (.iconst (-1), 1) := by decide +kernel
theorem dX2_hourOn_27 : decode cX2_hourOn 27 = .ok (.if_icmp .eq 25, 3) := by decide +kernel
theorem dX2_hourOn_30 : decode cX2_hourOn 30 = .ok (.aload_n 0, 1) := by decide +kernel
theorem dX2_hourOn_31 : decode cX2_hourOn 31 = .ok (.iload_n 1, 1) := by decide +kernel
theorem dX2_hourOn_32 : decode cX2_hourOn 32 = .ok (.invokevirtual 66, 3) := by decide +kernel
theorem dX2_hourOn_35 : decode cX2_hourOn 35 = .ok (.aload_n 0, 1) := by decide +kernel
theorem dX2_hourOn_36 : decode cX2_hourOn 36 = .ok (.getfield 35, 3) := by decide +kernel
theorem dX2_hourOn_39 : decode cX2_hourOn 39 = .ok (.if_icmp .lt 13, 3) := by decide +kernel
theorem dX2_hourOn_42 : decode cX2_hourOn 42 = .ok (.aload_n 0, 1) := by decide +kernel
theorem dX2_hourOn_43 : decode cX2_hourOn 43 = .ok (.getfield 22, 3) := by decide +kernel
theorem dX2_hourOn_46 : decode cX2_hourOn 46 = .ok (.bipush 35, 2) := by decide +kernel
theorem dX2_hourOn_48 : decode cX2_hourOn 48 = .ok (.iload_n 1, 1) := by decide +kernel
theorem dX2_hourOn_49 : decode cX2_hourOn 49 = .ok (.iadd, 1) := by decide +kernel
theorem dX2_hourOn_50 : decode cX2_hourOn 50 = .ok (.iconst (-1), 1) := by decide +kernel
theorem dX2_hourOn_51 : decode cX2_hourOn 51 = .ok (.iastore, 1) := by decide +kernel
theorem dX2_hourOn_52 : decode cX2_hourOn 52 = .ok (.iinc 1 1, 3) := by decide +kernel
theorem dX2_hourOn_55 : decode cX2_hourOn 55 = .ok (.goto (-53), 3) := by decide +kernel
theorem dX2_hourOn_58 : decode cX2_hourOn 58 = .ok (.iconst 0, 1) := by decide +kernel
theorem dX2_hourOn_59 : decode cX2_hourOn 59 = .ok (.istore_n 1, 1) := by decide +kernel
theorem dX2_hourOn_60 : decode cX2_hourOn 60 = .ok (.iload_n 1, 1) := by decide +kernel
theorem dX2_hourOn_61 : decode cX2_hourOn 61 = .ok (.aload_n 0, 1) := by decide +kernel
theorem dX2_hourOn_62 : decode cX2_hourOn 62 = .ok (.getfield 35, 3) := by decide +kernel
theorem dX2_hourOn_65 : decode cX2_hourOn 65 = .ok (.if_icmp .ge 70, 3) := by decide +kernel
theorem dX2_hourOn_68 : decode cX2_hourOn 68 = .ok (.aload_n 0, 1) := by decide +kernel
theorem dX2_hourOn_69 : decode cX2_hourOn 69 = .ok (.getfield 28, 3) := by decide +kernel
theorem dX2_hourOn_72 : decode cX2_hourOn 72 = .ok (.iload_n 1, 1) := by decide +kernel
theorem dX2_hourOn_73 : decode cX2_hourOn 73 = .ok (.iconst 0, 1) := by decide +kernel
theorem dX2_hourOn_74 : decode cX2_hourOn 74 = .ok (.iastore, 1) := by decide +kernel
theorem dX2_hourOn_75 : decode cX2_hourOn 75 = .ok (.aload_n 0, 1) := by decide +kernel
theorem dX2_hourOn_76 : decode cX2_hourOn 76 = .ok (.iload_n 1, 1) := by decide +kernel
theorem dX2_hourOn_77 : decode cX2_hourOn 77 = .ok (.invokevirtual 69, 3) := by decide +kernel
theorem dX2_hourOn_80 : decode cX2_hourOn 80 = .ok (.iconst (-1), 1) := by decide +kernel
theorem dX2_hourOn_81 : decode cX2_hourOn 81 = .ok (.if_icmp .ne 11, 3) := by decide +kernel
theorem dX2_hourOn_84 : decode cX2_hourOn 84 = .ok (.aload_n 0, 1) := by decide +kernel
theorem dX2_hourOn_85 : decode cX2_hourOn 85 = .ok (.iconst 1, 1) := by decide +kernel
theorem dX2_hourOn_86 : decode cX2_hourOn 86 = .ok (.invokevirtual 72, 3) := by decide +kernel
theorem dX2_hourOn_89 : decode cX2_hourOn 89 = .ok (.goto 4, 3) := by decide +kernel
theorem dX2_hourOn_92 : decode cX2_hourOn 92 = .ok (.iconst (-1), 1) := by decide +kernel
theorem dX2_hourOn_93 : decode cX2_hourOn 93 = .ok (.istore_n 2, 1) := by decide +kernel
theorem dX2_hourOn_94 : decode cX2_hourOn 94 = .ok (.iload_n 2, 1) := by decide +kernel
theorem dX2_hourOn_95 : decode cX2_hourOn 95 = .ok (.iconst (-1), 1) := by decide +kernel
theorem dX2_hourOn_96 : decode cX2_hourOn 96 = .ok (.if_icmp .ne 6, 3) := by decide +kernel
theorem dX2_hourOn_99 : decode cX2_hourOn 99 = .ok (.goto 30, 3) := by decide +kernel
theorem dX2_hourOn_102 : decode cX2_hourOn 102 = .ok (.aload_n 0, 1) := by decide +kernel
theorem dX2_hourOn_103 : decode cX2_hourOn 103 = .ok (.getfield 22, 3) := by decide +kernel
theorem dX2_hourOn_106 : decode cX2_hourOn 106 = .ok (.bipush 35, 2) := by decide +kernel
theorem dX2_hourOn_108 : decode cX2_hourOn 108 = .ok (.iload_n 2, 1) := by decide +kernel
theorem dX2_hourOn_109 : decode cX2_hourOn 109 = .ok (.iadd, 1) := by decide +kernel
theorem dX2_hourOn_110 : decode cX2_hourOn 110 = .ok (.iload_n 1, 1) := by decide +kernel
theorem dX2_hourOn_111 : decode cX2_hourOn 111 = .ok (.iastore, 1) := by decide +kernel
theorem dX2_hourOn_112 : decode cX2_hourOn 112 = .ok (.aload_n 0, 1) := by decide +kernel
theorem dX2_hourOn_113 : decode cX2_hourOn 113 = .ok (.getfield 22, 3) := by decide +kernel
theorem dX2_hourOn_116 : decode cX2_hourOn 116 = .ok (.iconst 1, 1) := by decide +kernel
theorem dX2_hourOn_117 : decode cX2_hourOn 117 = .ok (.dup2, 1) := by decide +kernel
theorem dX2_hourOn_118 : decode cX2_hourOn 118 = .ok (.iaload, 1) := by decide +kernel
theorem dX2_hourOn_119 : decode cX2_hourOn 119 = .ok (.iconst 1, 1) := by decide +kernel
theorem dX2_hourOn_120 : decode cX2_hourOn 120 = .ok (.iadd, 1) := by decide +kernel
theorem dX2_hourOn_121 : decode cX2_hourOn 121 = .ok (.iastore, 1) := by decide +kernel
theorem dX2_hourOn_122 : decode cX2_hourOn 122 = .ok (.aload_n 0, 1) := by decide +kernel
theorem dX2_hourOn_123 : decode cX2_hourOn 123 = .ok (.getfield 28, 3) := by decide +kernel
theorem dX2_hourOn_126 : decode cX2_hourOn 126 = .ok (.iload_n 1, 1) := by decide +kernel
theorem dX2_hourOn_127 : decode cX2_hourOn 127 = .ok (.iconst 1, 1) := by decide +kernel
theorem dX2_hourOn_128 : decode cX2_hourOn 128 = .ok (.iastore, 1) := by decide +kernel
theorem dX2_hourOn_129 : decode cX2_hourOn 129 = .ok (.iinc 1 1, 3) := by decide +kernel
theorem dX2_hourOn_132 : decode cX2_hourOn 132 = .ok (.goto (-72), 3) := by decide +kernel
theorem dX2_hourOn_135 : decode cX2_hourOn 135 = .ok (.aload_n 0, 1) := by decide +kernel
theorem dX2_hourOn_136 : decode cX2_hourOn 136 = .ok (.getfield 13, 3) := by decide +kernel
theorem dX2_hourOn_139 : decode cX2_hourOn 139 = .ok (.aload_n 0, 1) := by decide +kernel
theorem dX2_hourOn_140 : decode cX2_hourOn 140 = .ok (.getfield 22, 3) := by decide +kernel
theorem dX2_hourOn_143 : decode cX2_hourOn 143 = .ok (.iconst 0, 1) := by decide +kernel
theorem dX2_hourOn_144 : decode cX2_hourOn 144 = .ok (.iaload, 1) := by decide +kernel
theorem dX2_hourOn_145 : decode cX2_hourOn 145 = .ok (.bipush 12, 2) := by decide +kernel
theorem dX2_hourOn_147 : decode cX2_hourOn 147 = .ok (.irem, 1) := by decide +kernel
theorem dX2_hourOn_148 : decode cX2_hourOn 148 = .ok (.iaload, 1) := by decide +kernel
theorem dX2_hourOn_149 : decode cX2_hourOn 149 = .ok (.istore_n 1, 1) := by decide +kernel
theorem dX2_hourOn_150 : decode cX2_hourOn 150 = .ok (.iconst 0, 1) := by decide +kernel
theorem dX2_hourOn_151 : decode cX2_hourOn 151 = .ok (.istore_n 2, 1) := by decide +kernel
theorem dX2_hourOn_152 : decode cX2_hourOn 152 = .ok (.iload_n 2, 1) := by decide +kernel
theorem dX2_hourOn_153 : decode cX2_hourOn 153 = .ok (.aload_n 0, 1) := by decide +kernel
theorem dX2_hourOn_154 : decode cX2_hourOn 154 = .ok (.getfield 35, 3) := by decide +kernel
theorem dX2_hourOn_157 : decode cX2_hourOn 157 = .ok (.if_icmp .ge 82, 3) := by decide +kernel
theorem dX2_hourOn_160 : decode cX2_hourOn 160 = .ok (.aload_n 0, 1) := by decide +kernel
theorem dX2_hourOn_161 : decode cX2_hourOn 161 = .ok (.iload_n 2, 1) := by decide +kernel
theorem dX2_hourOn_162 : decode cX2_hourOn 162 = .ok (.invokevirtual 69, 3) := by decide +kernel
theorem dX2_hourOn_165 : decode cX2_hourOn 165 = .ok (.istore_n 3, 1) := by decide +kernel
theorem dX2_hourOn_166 : decode cX2_hourOn 166 = .ok (.iload_n 3, 1) := by decide +kernel
theorem dX2_hourOn_167 : decode cX2_hourOn 167 = .ok (.iconst (-1), 1) := by decide +kernel
theorem dX2_hourOn_168 : decode cX2_hourOn 168 = .ok (.if_icmp .ne 6, 3) := by decide +kernel
theorem dX2_hourOn_171 : decode cX2_hourOn 171 = .ok (.goto 62, 3) := by decide +kernel
theorem dX2_hourOn_174 : decode cX2_hourOn 174 = .ok (.aload_n 0, 1) := by decide +kernel
theorem dX2_hourOn_175 : decode cX2_hourOn 175 = .ok (.getfield 9, 3) := by decide +kernel
theorem dX2_hourOn_178 : decode cX2_hourOn 178 = .ok (.iload_n 2, 1) := by decide +kernel
theorem dX2_hourOn_179 : decode cX2_hourOn 179 = .ok (.iaload, 1) := by decide +kernel
theorem dX2_hourOn_180 : decode cX2_hourOn 180 = .ok (.aload_n 0, 1) := by decide +kernel
theorem dX2_hourOn_181 : decode cX2_hourOn 181 = .ok (.getfield 28, 3) := by decide +kernel
theorem dX2_hourOn_184 : decode cX2_hourOn 184 = .ok (.iload_n 2, 1) := by decide +kernel
theorem dX2_hourOn_185 : decode cX2_hourOn 185 = .ok (.iaload, 1) := by decide +kernel
theorem dX2_hourOn_186 : decode cX2_hourOn 186 = .ok (.isub, 1) := by decide +kernel
theorem dX2_hourOn_187 : decode cX2_hourOn 187 = .ok (.aload_n 0, 1) := by decide +kernel
theorem dX2_hourOn_188 : decode cX2_hourOn 188 = .ok (.getfield 22, 3) := by decide +kernel
theorem dX2_hourOn_191 : decode cX2_hourOn 191 = .ok (.iconst 3, 1) := by decide +kernel
theorem dX2_hourOn_192 : decode cX2_hourOn 192 = .ok (.iload_n 3, 1) := by decide +kernel
theorem dX2_hourOn_193 : decode cX2_hourOn 193 = .ok (.iadd, 1) := by decide +kernel
theorem dX2_hourOn_194 : decode cX2_hourOn 194 = .ok (.iaload, 1) := by decide +kernel
theorem dX2_hourOn_195 : decode cX2_hourOn 195 = .ok (.invokestatic 76, 3) := by decide +kernel
theorem dX2_hourOn_198 : decode cX2_hourOn 198 = .ok (.iload_n 1, 1) := by decide +kernel
theorem dX2_hourOn_199 : decode cX2_hourOn 199 = .ok (.invokestatic 76, 3) := by decide +kernel
theorem dX2_hourOn_202 : decode cX2_hourOn 202 = .ok (.istore 4, 2) := by decide +kernel
theorem dX2_hourOn_204 : decode cX2_hourOn 204 = .ok (.aload_n 0, 1) := by decide +kernel
theorem dX2_hourOn_205 : decode cX2_hourOn 205 = .ok (.getfield 22, 3) := by decide +kernel
theorem dX2_hourOn_208 : decode cX2_hourOn 208 = .ok (.iconst 3, 1) := by decide +kernel
theorem dX2_hourOn_209 : decode cX2_hourOn 209 = .ok (.iload_n 3, 1) := by decide +kernel
theorem dX2_hourOn_210 : decode cX2_hourOn 210 = .ok (.iadd, 1) := by decide +kernel
theorem dX2_hourOn_211 : decode cX2_hourOn 211 = .ok (.dup2, 1) := by decide +kernel
theorem dX2_hourOn_212 : decode cX2_hourOn 212 = .ok (.iaload, 1) := by decide +kernel
theorem dX2_hourOn_213 : decode cX2_hourOn 213 = .ok (.iload 4, 2) := by decide +kernel
theorem dX2_hourOn_215 : decode cX2_hourOn 215 = .ok (.isub, 1) := by decide +kernel
theorem dX2_hourOn_216 : decode cX2_hourOn 216 = .ok (.iastore, 1) := by decide +kernel
theorem dX2_hourOn_217 : decode cX2_hourOn 217 = .ok (.aload_n 0, 1) := by decide +kernel
theorem dX2_hourOn_218 : decode cX2_hourOn 218 = .ok (.getfield 22, 3) := by decide +kernel
theorem dX2_hourOn_221 : decode cX2_hourOn 221 = .ok (.iconst 2, 1) := by decide +kernel
theorem dX2_hourOn_222 : decode cX2_hourOn 222 = .ok (.dup2, 1) := by decide +kernel
theorem dX2_hourOn_223 : decode cX2_hourOn 223 = .ok (.iaload, 1) := by decide +kernel
theorem dX2_hourOn_224 : decode cX2_hourOn 224 = .ok (.iload 4, 2) := by decide +kernel
theorem dX2_hourOn_226 : decode cX2_hourOn 226 = .ok (.iadd, 1) := by decide +kernel
theorem dX2_hourOn_227 : decode cX2_hourOn 227 = .ok (.iastore, 1) := by decide +kernel
theorem dX2_hourOn_228 : decode cX2_hourOn 228 = .ok (.iload_n 1, 1) := by decide +kernel
theorem dX2_hourOn_229 : decode cX2_hourOn 229 = .ok (.iload 4, 2) := by decide +kernel
theorem dX2_hourOn_231 : decode cX2_hourOn 231 = .ok (.isub, 1) := by decide +kernel
theorem dX2_hourOn_232 : decode cX2_hourOn 232 = .ok (.istore_n 1, 1) := by decide +kernel
theorem dX2_hourOn_233 : decode cX2_hourOn 233 = .ok (.iinc 2 1, 3) := by decide +kernel
theorem dX2_hourOn_236 : decode cX2_hourOn 236 = .ok (.goto (-84), 3) := by decide +kernel
theorem dX2_hourOn_239 : decode cX2_hourOn 239 = .ok (.aload_n 0, 1) := by decide +kernel
theorem dX2_hourOn_240 : decode cX2_hourOn 240 = .ok (.getfield 22, 3) := by decide +kernel
theorem dX2_hourOn_243 : decode cX2_hourOn 243 = .ok (.iconst 0, 1) := by decide +kernel
theorem dX2_hourOn_244 : decode cX2_hourOn 244 = .ok (.dup2, 1) := by decide +kernel
theorem dX2_hourOn_245 : decode cX2_hourOn 245 = .ok (.iaload, 1) := by decide +kernel
theorem dX2_hourOn_246 : decode cX2_hourOn 246 = .ok (.iconst 1, 1) := by decide +kernel
theorem dX2_hourOn_247 : decode cX2_hourOn 247 = .ok (.iadd, 1) := by decide +kernel
theorem dX2_hourOn_248 : decode cX2_hourOn 248 = .ok (.iastore, 1) := by decide +kernel
theorem dX2_hourOn_249 : decode cX2_hourOn 249 = .ok (.iconst 0, 1) := by decide +kernel
theorem dX2_hourOn_250 : decode cX2_hourOn 250 = .ok (.istore_n 2, 1) := by decide +kernel
theorem dX2_hourOn_251 : decode cX2_hourOn 251 = .ok (.iload_n 2, 1) := by decide +kernel
theorem dX2_hourOn_252 : decode cX2_hourOn 252 = .ok (.aload_n 0, 1) := by decide +kernel
theorem dX2_hourOn_253 : decode cX2_hourOn 253 = .ok (.getfield 42, 3) := by decide +kernel
theorem dX2_hourOn_256 : decode cX2_hourOn 256 = .ok (.if_icmp .ge 61, 3) := by decide +kernel
theorem dX2_hourOn_259 : decode cX2_hourOn 259 = .ok (.aload_n 0, 1) := by decide +kernel
theorem dX2_hourOn_260 : decode cX2_hourOn 260 = .ok (.getfield 22, 3) := by decide +kernel
theorem dX2_hourOn_263 : decode cX2_hourOn 263 = .ok (.bipush 35, 2) := by decide +kernel
theorem dX2_hourOn_265 : decode cX2_hourOn 265 = .ok (.iload_n 2, 1) := by decide +kernel
theorem dX2_hourOn_266 : decode cX2_hourOn 266 = .ok (.iadd, 1) := by decide +kernel
theorem dX2_hourOn_267 : decode cX2_hourOn 267 = .ok (.iaload, 1) := by decide +kernel
theorem dX2_hourOn_268 : decode cX2_hourOn 268 = .ok (.iconst (-1), 1) := by decide +kernel
theorem dX2_hourOn_269 : decode cX2_hourOn 269 = .ok (.if_icmp .eq 42, 3) := by decide +kernel
theorem dX2_hourOn_272 : decode cX2_hourOn 272 = .ok (.aload_n 0, 1) := by decide +kernel
theorem dX2_hourOn_273 : decode cX2_hourOn 273 = .ok (.getfield 22, 3) := by decide +kernel
theorem dX2_hourOn_276 : decode cX2_hourOn 276 = .ok (.iconst 3, 1) := by decide +kernel
theorem dX2_hourOn_277 : decode cX2_hourOn 277 = .ok (.iload_n 2, 1) := by decide +kernel
theorem dX2_hourOn_278 : decode cX2_hourOn 278 = .ok (.iadd, 1) := by decide +kernel
theorem dX2_hourOn_279 : decode cX2_hourOn 279 = .ok (.iaload, 1) := by decide +kernel
theorem dX2_hourOn_280 : decode cX2_hourOn 280 = .ok (.ifCond .le 6, 3) := by decide +kernel
theorem dX2_hourOn_283 : decode cX2_hourOn 283 = .ok (.goto 28, 3) := by decide +kernel
theorem dX2_hourOn_286 : decode cX2_hourOn 286 = .ok (.aload_n 0, 1) := by decide +kernel
theorem dX2_hourOn_287 : decode cX2_hourOn 287 = .ok (.getfield 22, 3) := by decide +kernel
theorem dX2_hourOn_290 : decode cX2_hourOn 290 = .ok (.bipush 19, 2) := by decide +kernel
theorem dX2_hourOn_292 : decode cX2_hourOn 292 = .ok (.iload_n 2, 1) := by decide +kernel
theorem dX2_hourOn_293 : decode cX2_hourOn 293 = .ok (.iadd, 1) := by decide +kernel
theorem dX2_hourOn_294 : decode cX2_hourOn 294 = .ok (.aload_n 0, 1) := by decide +kernel
theorem dX2_hourOn_295 : decode cX2_hourOn 295 = .ok (.getfield 22, 3) := by decide +kernel
theorem dX2_hourOn_298 : decode cX2_hourOn 298 = .ok (.iconst 0, 1) := by decide +kernel
theorem dX2_hourOn_299 : decode cX2_hourOn 299 = .ok (.iaload, 1) := by decide +kernel
theorem dX2_hourOn_300 : decode cX2_hourOn 300 = .ok (.iastore, 1) := by decide +kernel
theorem dX2_hourOn_301 : decode cX2_hourOn 301 = .ok (.aload_n 0, 1) := by decide +kernel
theorem dX2_hourOn_302 : decode cX2_hourOn 302 = .ok (.getfield 22, 3) := by decide +kernel
theorem dX2_hourOn_305 : decode cX2_hourOn 305 = .ok (.bipush 35, 2) := by decide +kernel
theorem dX2_hourOn_307 : decode cX2_hourOn 307 = .ok (.iload_n 2, 1) := by decide +kernel
theorem dX2_hourOn_308 : decode cX2_hourOn 308 = .ok (.iadd, 1) := by decide +kernel
theorem dX2_hourOn_309 : decode cX2_hourOn 309 = .ok (.iconst (-1), 1) := by decide +kernel
theorem dX2_hourOn_310 : decode cX2_hourOn 310 = .ok (.iastore, 1) := by decide +kernel
theorem dX2_hourOn_311 : decode cX2_hourOn 311 = .ok (.iinc 2 1, 3) := by decide +kernel
theorem dX2_hourOn_314 : decode cX2_hourOn 314 = .ok (.goto (-63), 3) := by decide +kernel
theorem dX2_hourOn_317 : decode cX2_hourOn 317 = .ok (.return_, 1) := by decide +kernel
set_option maxRecDepth 20000 in
theorem ggX2_hoursOn_X2_hourOn : GoodIn wsX2_hoursOn wsX2_hourOn := goodIn_r _ [5, 6, 7, 8, 9, 10, 11, 12, 13, 14, 15, 16, 17, 18, 19, 4, 20, 21, 22, 23, 24, 25, 26, 27, 28, 29, 30, 31, 32, 33, 34, 35, 36, 37, 38, 39, 40, 41, 42, 43, 44, 45, 46, 47, 48, 49, 50] (by decide +kernel) (by decide +kernel)
set_option maxRecDepth 20000 in
theorem gX2_hoursOn_X2_hourOn : GoodIn wsX2_hoursOn (wsV RX2 82 RX2 yX2_hourOn wsX2_hourOn) := goodIn_app (goodIn_of _ (by decide +kernel)) ggX2_hoursOn_X2_hourOn
theorem dX2_hoursOn_0 : decode cX2_hoursOn 0 = .ok (.iconst 0, 1) := by decide +kernel
theorem dX2_hoursOn_1 : decode cX2_hoursOn 1 = .ok (.istore_n 2, 1) := by decide +kernel
theorem dX2_hoursOn_2 : decode cX2_hoursOn 2 = .ok (.iload_n 2, 1) := by decide +kernel
theorem dX2_hoursOn_3 : decode cX2_hoursOn 3 = .ok (.iload_n 1, 1) := by decide +kernel
theorem dX2_hoursOn_4 : decode cX2_hoursOn 4 = .ok (.if_icmp .ge 13, 3) := by decide +kernel
theorem dX2_hoursOn_7 : decode cX2_hoursOn 7 = .ok (.aload_n 0, 1) := by decide +kernel
theorem dX2_hoursOn_8 : decode cX2_hoursOn 8 = .ok (.invokevirtual 82, 3) := by decide +kernel
theorem dX2_hoursOn_11 : decode cX2_hoursOn 11 = .ok (.iinc 2 1, 3) := by decide +kernel
theorem dX2_hoursOn_14 : decode cX2_hoursOn 14 = .ok (.goto (-12), 3) := by decide +kernel
theorem dX2_hoursOn_17 : decode cX2_hoursOn 17 = .ok (.return_, 1) := by decide +kernel
set_option maxRecDepth 20000 in
theorem ggX2_addStone_X2_isIn : GoodIn wsX2_addStone wsX2_isIn := goodIn_r _ [7] (by decide +kernel) (by decide +kernel)
set_option maxRecDepth 20000 in
theorem gX2_addStone_X2_isIn : GoodIn wsX2_addStone (va_wsS RX2 38 yX2_isIn wsX2_isIn) := goodIn_app (goodIn_of _ (by decide +kernel)) ggX2_addStone_X2_isIn
set_option maxRecDepth 20000 in
theorem ggX2_addStone_X2_fail : GoodIn wsX2_addStone wsX2_fail := goodIn_r _ [11, 1, 12, 13, 14, 15, 16, 17, 18, 19, 20, 21, 22, 23] (by decide +kernel) (by decide +kernel)
set_option maxRecDepth 20000 in
theorem gX2_addStone_X2_fail : GoodIn wsX2_addStone (wsV RX2 85 RX2 yX2_fail wsX2_fail) := goodIn_app (goodIn_of _ (by decide +kernel)) ggX2_addStone_X2_fail
theorem dX2_addStone_0 : decode cX2_addStone 0 = .ok (.aload_n 0, 1) := by decide +kernel
theorem dX2_addStone_1 : decode cX2_addStone 1 = .ok (.iconst 0, 1) := by decide +kernel
theorem dX2_addStone_2 : decode cX2_addStone 2 = .ok (.putfield 31, 3) := by decide +kernel
theorem dX2_addStone_5 : decode cX2_addStone 5 = .ok (.iload_n 1, 1) := by decide +kernel
theorem dX2_addStone_6 : decode cX2_addStone 6 = .ok (.iconst 1, 1) := by decide +kernel
theorem dX2_addStone_7 : decode cX2_addStone 7 = .ok (.bipush 9, 2) := by decide +kernel
theorem dX2_addStone_9 : decode cX2_addStone 9 = .ok (.invokestatic 38, 3) := by decide +kernel
theorem dX2_addStone_12 : decode cX2_addStone 12 = .ok (.ifCond .ne 9, 3) := by decide +kernel
theorem dX2_addStone_15 : decode cX2_addStone 15 = .ok (.aload_n 0, 1) := by decide +kernel
theorem dX2_addStone_16 : decode cX2_addStone 16 = .ok (.iconst 1, 1) := by decide +kernel
theorem dX2_addStone_17 : decode cX2_addStone 17 = .ok (.invokevirtual 85, 3) := by decide +kernel
theorem dX2_addStone_20 : decode cX2_addStone 20 = .ok (.ireturn, 1) := by decide +kernel
theorem dX2_addStone_21 : decode cX2_addStone 21 = .ok (.aload_n 0, 1) := by decide +kernel
theorem dX2_addStone_22 : decode cX2_addStone 22 = .ok (.getfield 35, 3) := by decide +kernel
theorem dX2_addStone_25 : decode cX2_addStone 25 = .ok (.iconst 4, 1) := by decide +kernel
theorem dX2_addStone_26 : decode cX2_addStone 26 = .ok (.if_icmp .ne 9, 3) := by decide +kernel
theorem dX2_addStone_29 : decode cX2_addStone 29 = .ok (.aload_n 0, 1) := by decide +kernel
theorem dX2_addStone_30 : decode cX2_addStone 30 = .ok (.iconst 2, 1) := by decide +kernel
theorem dX2_addStone_31 : decode cX2_addStone 31 = .ok (.invokevirtual 85, 3) := by decide +kernel
theorem dX2_addStone_34 : decode cX2_addStone 34 = .ok (.ireturn, 1) := by decide +kernel
theorem dX2_addStone_35 : decode cX2_addStone 35 = .ok (.aload_n 0, 1) := by decide +kernel
theorem dX2_addStone_36 : decode cX2_addStone 36 = .ok (.getfield 9, 3) := by decide +kernel
theorem dX2_addStone_39 : decode cX2_addStone 39 = .ok (.aload_n 0, 1) := by decide +kernel
theorem dX2_addStone_40 : decode cX2_addStone 40 = .ok (.getfield 35, 3) := by decide +kernel
theorem dX2_addStone_43 : decode cX2_addStone 43 = .ok (.iload_n 1, 1) := by decide +kernel
theorem dX2_addStone_44 : decode cX2_addStone 44 = .ok (.iastore, 1) := by decide +kernel
theorem dX2_addStone_45 : decode cX2_addStone 45 = .ok (.aload_n 0, 1) := by decide +kernel
theorem dX2_addStone_46 : decode cX2_addStone 46 = .ok (.dup, 1) := by decide +kernel
theorem dX2_addStone_47 : decode cX2_addStone 47 = .ok (.getfield 35, 3) := by decide +kernel
theorem dX2_addStone_50 : decode cX2_addStone 50 = .ok (.iconst 1, 1) := by decide +kernel
theorem dX2_addStone_51 : decode cX2_addStone 51 = .ok (.iadd, 1) := by decide +kernel
theorem dX2_addStone_52 : decode cX2_addStone 52 = .ok (.putfield 35, 3) := by decide +kernel
theorem dX2_addStone_55 : decode cX2_addStone 55 = .ok (.aload_n 0, 1) := by decide +kernel
theorem dX2_addStone_56 : decode cX2_addStone 56 = .ok (.getfield 35, 3) := by decide +kernel
theorem dX2_addStone_59 : decode cX2_addStone 59 = .ok (.iconst 1, 1) := by decide +kernel
theorem dX2_addStone_60 : decode cX2_addStone 60 = .ok (.isub, 1) := by decide +kernel
theorem dX2_addStone_61 : decode cX2_addStone 61 = .ok (.ireturn, 1) := by decide +kernel
set_option maxRecDepth 20000 in
theorem ggX2_setWind_X2_isIn : GoodIn wsX2_setWind wsX2_isIn := goodIn_r _ [6] (by decide +kernel) (by decide +kernel)
set_option maxRecDepth 20000 in
theorem gX2_setWind_X2_isIn : GoodIn wsX2_setWind (va_wsS RX2 38 yX2_isIn wsX2_isIn) := goodIn_app (goodIn_of _ (by decide +kernel)) ggX2_setWind_X2_isIn
set_option maxRecDepth 20000 in
theorem ggX2_setWind_X2_fail : GoodIn wsX2_setWind wsX2_fail := goodIn_r _ [10, 1, 11, 12, 13, 14, 15, 16, 17, 18, 19, 20, 21, 22] (by decide +kernel) (by decide +kernel)
set_option maxRecDepth 20000 in
theorem gX2_setWind_X2_fail : GoodIn wsX2_setWind (wsV RX2 85 RX2 yX2_fail wsX2_fail) := goodIn_app (goodIn_of _ (by decide +kernel)) ggX2_setWind_X2_fail
theorem dX2_setWind_0 : decode cX2_setWind 0 = .ok (.aload_n 0, 1) := by decide +kernel
theorem dX2_setWind_1 : decode cX2_setWind 1 = .ok (.iconst 0, 1) := by decide +kernel
theorem dX2_setWind_2 : decode cX2_setWind 2 = .ok (.putfield 31, 3) := by decide +kernel
theorem dX2_setWind_5 : decode cX2_setWind 5 = .ok (.iload_n 1, 1) := by decide +kernel
theorem dX2_setWind_6 : decode cX2_setWind 6 = .ok (.iconst 0, 1) := by decide +kernel
theorem dX2_setWind_7 : decode cX2_setWind 7 = .ok (.bipush 11, 2) := by decide +kernel
theorem dX2_setWind_9 : decode cX2_setWind 9 = .ok (.invokestatic 38, 3) := by decide +kernel
theorem dX2_setWind_12 : decode cX2_setWind 12 = .ok (.ifCond .ne 9, 3) := by decide +kernel
theorem dX2_setWind_15 : decode cX2_setWind 15 = .ok (.aload_n 0, 1) := by decide +kernel
theorem dX2_setWind_16 : decode cX2_setWind 16 = .ok (.iconst 1, 1) := by decide +kernel
theorem dX2_setWind_17 : decode cX2_setWind 17 = .ok (.invokevirtual 85, 3) := by decide +kernel
theorem dX2_setWind_20 : decode cX2_setWind 20 = .ok (.ireturn, 1) := by decide +kernel
theorem dX2_setWind_21 : decode cX2_setWind 21 = .ok (.iload_n 2, 1) := by decide +kernel
theorem dX2_setWind_22 : decode cX2_setWind 22 = .ok (.iconst 0, 1) := by decide +kernel
theorem dX2_setWind_23 : decode cX2_setWind 23 = .ok (.bipush 20, 2) := by decide +kernel
theorem dX2_setWind_25 : decode cX2_setWind 25 = .ok (.invokestatic 38, 3) := by decide +kernel
theorem dX2_setWind_28 : decode cX2_setWind 28 = .ok (.ifCond .ne 9, 3) := by decide +kernel
theorem dX2_setWind_31 : decode cX2_setWind 31 = .ok (.aload_n 0, 1) := by decide +kernel
theorem dX2_setWind_32 : decode cX2_setWind 32 = .ok (.iconst 2, 1) := by decide +kernel
theorem dX2_setWind_33 : decode cX2_setWind 33 = .ok (.invokevirtual 85, 3) := by decide +kernel
theorem dX2_setWind_36 : decode cX2_setWind 36 = .ok (.ireturn, 1) := by decide +kernel
theorem dX2_setWind_37 : decode cX2_setWind 37 = .ok (.aload_n 0, 1) := by decide +kernel
theorem dX2_setWind_38 : decode cX2_setWind 38 = .ok (.getfield 13, 3) := by decide +kernel
theorem dX2_setWind_41 : decode cX2_setWind 41 = .ok (.iload_n 1, 1) := by decide +kernel
theorem dX2_setWind_42 : decode cX2_setWind 42 = .ok (.iaload, 1) := by decide +kernel
theorem dX2_setWind_43 : decode cX2_setWind 43 = .ok (.istore_n 3, 1) := by decide +kernel
theorem dX2_setWind_44 : decode cX2_setWind 44 = .ok (.aload_n 0, 1) := by decide +kernel
theorem dX2_setWind_45 : decode cX2_setWind 45 = .ok (.getfield 13, 3) := by decide +kernel
theorem dX2_setWind_48 : decode cX2_setWind 48 = .ok (.iload_n 1, 1) := by decide +kernel
theorem dX2_setWind_49 : decode cX2_setWind 49 = .ok (.iload_n 2, 1) := by decide +kernel
theorem dX2_setWind_50 : decode cX2_setWind 50 = .ok (.iastore, 1) := by decide +kernel
theorem dX2_setWind_51 : decode cX2_setWind 51 = .ok (.iload_n 3, 1) := by decide +kernel
theorem dX2_setWind_52 : decode cX2_setWind 52 = .ok (.ireturn, 1) := by decide +kernel
set_option maxRecDepth 20000 in
theorem ggX2_setRule_X2_isIn : GoodIn wsX2_setRule wsX2_isIn := goodIn_r _ [6] (by decide +kernel) (by decide +kernel)
set_option maxRecDepth 20000 in
theorem gX2_setRule_X2_isIn : GoodIn wsX2_setRule (va_wsS RX2 38 yX2_isIn wsX2_isIn) := goodIn_app (goodIn_of _ (by decide +kernel)) ggX2_setRule_X2_isIn
set_option maxRecDepth 20000 in
theorem ggX2_setRule_X2_fail : GoodIn wsX2_setRule wsX2_fail := goodIn_r _ [10, 1, 11, 12, 13, 14, 15, 16, 17, 18, 19, 20, 21, 22] (by decide +kernel) (by decide +kernel)
set_option maxRecDepth 20000 in
theorem gX2_setRule_X2_fail : GoodIn wsX2_setRule (wsV RX2 85 RX2 yX2_fail wsX2_fail) := goodIn_app (goodIn_of _ (by decide +kernel)) ggX2_setRule_X2_fail
theorem dX2_setRule_0 : decode cX2_setRule 0 = .ok (.aload_n 0, 1) := by decide +kernel
theorem dX2_setRule_1 : decode cX2_setRule 1 = .ok (.iconst 0, 1) := by decide +kernel
theorem dX2_setRule_2 : decode cX2_setRule 2 = .ok (.putfield 31, 3) := by decide +kernel
theorem dX2_setRule_5 : decode cX2_setRule 5 = .ok (.iload_n 1, 1) := by decide +kernel
theorem dX2_setRule_6 : decode cX2_setRule 6 = .ok (.iconst 0, 1) := by decide +kernel
theorem dX2_setRule_7 : decode cX2_setRule 7 = .ok (.iconst 2, 1) := by decide +kernel
theorem dX2_setRule_8 : decode cX2_setRule 8 = .ok (.invokestatic 38, 3) := by decide +kernel
theorem dX2_setRule_11 : decode cX2_setRule 11 = .ok (.ifCond .ne 9, 3) := by decide +kernel
theorem dX2_setRule_14 : decode cX2_setRule 14 = .ok (.aload_n 0, 1) := by decide +kernel
theorem dX2_setRule_15 : decode cX2_setRule 15 = .ok (.iconst 1, 1) := by decide +kernel
theorem dX2_setRule_16 : decode cX2_setRule 16 = .ok (.invokevirtual 85, 3) := by decide +kernel
theorem dX2_setRule_19 : decode cX2_setRule 19 = .ok (.ireturn, 1) := by decide +kernel
theorem dX2_setRule_20 : decode cX2_setRule 20 = .ok (.aload_n 0, 1) := by decide +kernel
theorem dX2_setRule_21 : decode cX2_setRule 21 = .ok (.getfield 51, 3) := by decide +kernel
theorem dX2_setRule_24 : decode cX2_setRule 24 = .ok (.istore_n 2, 1) := by decide +kernel
theorem dX2_setRule_25 : decode cX2_setRule 25 = .ok (.aload_n 0, 1) := by decide +kernel
theorem dX2_setRule_26 : decode cX2_setRule 26 = .ok (.iload_n 1, 1) := by decide +kernel
theorem dX2_setRule_27 : decode cX2_setRule 27 = .ok (.putfield 51, 3) := by decide +kernel
theorem dX2_setRule_30 : decode cX2_setRule 30 = .ok (.iload_n 2, 1) := by decide +kernel
theorem dX2_setRule_31 : decode cX2_setRule 31 = .ok (.ireturn, 1) := by decide +kernel
theorem dX2_setTakingOff_0 : decode cX2_setTakingOff 0 = .ok (.aload_n 0, 1) := by decide +kernel
theorem dX2_setTakingOff_1 : decode cX2_setTakingOff 1 = .ok (.iconst 0, 1) := by decide +kernel
theorem dX2_setTakingOff_2 : decode cX2_setTakingOff 2 = .ok (.putfield 31, 3) := by decide +kernel
theorem dX2_setTakingOff_5 : decode cX2_setTakingOff 5 = .ok (.aload_n 0, 1) := by decide +kernel
theorem dX2_setTakingOff_6 : decode cX2_setTakingOff 6 = .ok (.getfield 62, 3) := by decide +kernel
theorem dX2_setTakingOff_9 : decode cX2_setTakingOff 9 = .ok (.istore_n 2, 1) := by decide +kernel
theorem dX2_setTakingOff_10 : decode cX2_setTakingOff 10 = .ok (.aload_n 0, 1) := by decide +kernel
theorem dX2_setTakingOff_11 : decode cX2_setTakingOff 11 = .ok (.iload_n 1, 1) := by decide +kernel
theorem dX2_setTakingOff_12 : decode cX2_setTakingOff 12 = .ok (.putfield 62, 3) := by decide +kernel
theorem dX2_setTakingOff_15 : decode cX2_setTakingOff 15 = .ok (.iload_n 2, 1) := by decide +kernel
theorem dX2_setTakingOff_16 : decode cX2_setTakingOff 16 = .ok (.ireturn, 1) := by decide +kernel
theorem dX2_put_0 : decode cX2_put 0 = .ok (.aload_n 0, 1) := by decide +kernel
theorem dX2_put_1 : decode cX2_put 1 = .ok (.getfield 16, 3) := by decide +kernel
theorem dX2_put_4 : decode cX2_put 4 = .ok (.aload_n 0, 1) := by decide +kernel
theorem dX2_put_5 : decode cX2_put 5 = .ok (.getfield 42, 3) := by decide +kernel
theorem dX2_put_8 : decode cX2_put 8 = .ok (.iload_n 1, 1) := by decide +kernel
theorem dX2_put_9 : decode cX2_put 9 = .ok (.iastore, 1) := by decide +kernel
theorem dX2_put_10 : decode cX2_put 10 = .ok (.aload_n 0, 1) := by decide +kernel
theorem dX2_put_11 : decode cX2_put 11 = .ok (.getfield 19, 3) := by decide +kernel
theorem dX2_put_14 : decode cX2_put 14 = .ok (.aload_n 0, 1) := by decide +kernel
theorem dX2_put_15 : decode cX2_put 15 = .ok (.getfield 42, 3) := by decide +kernel
theorem dX2_put_18 : decode cX2_put 18 = .ok (.iload_n 3, 1) := by decide +kernel
theorem dX2_put_19 : decode cX2_put 19 = .ok (.iastore, 1) := by decide +kernel
theorem dX2_put_20 : decode cX2_put 20 = .ok (.aload_n 0, 1) := by decide +kernel
theorem dX2_put_21 : decode cX2_put 21 = .ok (.getfield 22, 3) := by decide +kernel
theorem dX2_put_24 : decode cX2_put 24 = .ok (.iconst 3, 1) := by decide +kernel
theorem dX2_put_25 : decode cX2_put 25 = .ok (.aload_n 0, 1) := by decide +kernel
theorem dX2_put_26 : decode cX2_put 26 = .ok (.getfield 42, 3) := by decide +kernel
theorem dX2_put_29 : decode cX2_put 29 = .ok (.iadd, 1) := by decide +kernel
theorem dX2_put_30 : decode cX2_put 30 = .ok (.iload_n 2, 1) := by decide +kernel
theorem dX2_put_31 : decode cX2_put 31 = .ok (.iastore, 1) := by decide +kernel
theorem dX2_put_32 : decode cX2_put 32 = .ok (.aload_n 0, 1) := by decide +kernel
theorem dX2_put_33 : decode cX2_put 33 = .ok (.getfield 22, 3) := by decide +kernel
theorem dX2_put_36 : decode cX2_put 36 = .ok (.bipush 19, 2) := by decide +kernel
theorem dX2_put_38 : decode cX2_put 38 = .ok (.aload_n 0, 1) := by decide +kernel
theorem dX2_put_39 : decode cX2_put 39 = .ok (.getfield 42, 3) := by decide +kernel
theorem dX2_put_42 : decode cX2_put 42 = .ok (.iadd, 1) := by decide +kernel
theorem dX2_put_43 : decode cX2_put 43 = .ok (.iconst (-1), 1) := by decide +kernel
theorem dX2_put_44 : decode cX2_put 44 = .ok (.iastore, 1) := by decide +kernel
theorem dX2_put_45 : decode cX2_put 45 = .ok (.aload_n 0, 1) := by decide +kernel
theorem dX2_put_46 : decode cX2_put 46 = .ok (.getfield 22, 3) := by decide +kernel
theorem dX2_put_49 : decode cX2_put 49 = .ok (.bipush 35, 2) := by decide +kernel
theorem dX2_put_51 : decode cX2_put 51 = .ok (.aload_n 0, 1) := by decide +kernel
theorem dX2_put_52 : decode cX2_put 52 = .ok (.getfield 42, 3) := by decide +kernel
theorem dX2_put_55 : decode cX2_put 55 = .ok (.iadd, 1) := by decide +kernel
theorem dX2_put_56 : decode cX2_put 56 = .ok (.iconst (-1), 1) := by decide +kernel
theorem dX2_put_57 : decode cX2_put 57 = .ok (.iastore, 1) := by decide +kernel
theorem dX2_put_58 : decode cX2_put 58 = .ok (.aload_n 0, 1) := by decide +kernel
theorem dX2_put_59 : decode cX2_put 59 = .ok (.dup, 1) := by decide +kernel
theorem dX2_put_60 : decode cX2_put 60 = .ok (.getfield 42, 3) := by decide +kernel
theorem dX2_put_63 : decode cX2_put 63 = .ok (.iconst 1, 1) := by decide +kernel
theorem dX2_put_64 : decode cX2_put 64 = .ok (.iadd, 1) := by decide +kernel
theorem dX2_put_65 : decode cX2_put 65 = .ok (.putfield 42, 3) := by decide +kernel
theorem dX2_put_68 : decode cX2_put 68 = .ok (.return_, 1) := by decide +kernel
set_option maxRecDepth 20000 in
theorem ggX2_bring_X2_isIn : GoodIn wsX2_bring wsX2_isIn := goodIn_r _ [6] (by decide +kernel) (by decide +kernel)
set_option maxRecDepth 20000 in
theorem gX2_bring_X2_isIn : GoodIn wsX2_bring (va_wsS RX2 38 yX2_isIn wsX2_isIn) := goodIn_app (goodIn_of _ (by decide +kernel)) ggX2_bring_X2_isIn
set_option maxRecDepth 20000 in
theorem ggX2_bring_X2_fail : GoodIn wsX2_bring wsX2_fail := goodIn_r _ [10, 1, 18, 19, 20, 21, 22, 23, 24, 25, 26, 27, 28, 29] (by decide +kernel) (by decide +kernel)
set_option maxRecDepth 20000 in
theorem gX2_bring_X2_fail : GoodIn wsX2_bring (wsV RX2 85 RX2 yX2_fail wsX2_fail) := goodIn_app (goodIn_of _ (by decide +kernel)) ggX2_bring_X2_fail
set_option maxRecDepth 20000 in
theorem ggX2_bring_X2_put : GoodIn wsX2_bring wsX2_put := goodIn_r _ [14, 15, 2, 16, 17, 18, 19, 20, 21, 22, 23, 24, 25, 26, 27, 28, 29] (by decide +kernel) (by decide +kernel)
set_option maxRecDepth 20000 in
theorem gX2_bring_X2_put : GoodIn wsX2_bring (wsV RX2 88 RX2 yX2_put wsX2_put) := goodIn_app (goodIn_of _ (by decide +kernel)) ggX2_bring_X2_put
theorem dX2_bring_0 : decode cX2_bring 0 = .ok (.aload_n 0, 1) := by decide +kernel
theorem dX2_bring_1 : decode cX2_bring 1 = .ok (.iconst 0, 1) := by decide +kernel
theorem dX2_bring_2 : decode cX2_bring 2 = .ok (.putfield 31, 3) := by decide +kernel
theorem dX2_bring_5 : decode cX2_bring 5 = .ok (.iload_n 1, 1) := by decide +kernel
theorem dX2_bring_6 : decode cX2_bring 6 = .ok (.iconst 0, 1) := by decide +kernel
theorem dX2_bring_7 : decode cX2_bring 7 = .ok (.bipush 7, 2) := by decide +kernel
theorem dX2_bring_9 : decode cX2_bring 9 = .ok (.invokestatic 38, 3) := by decide +kernel
theorem dX2_bring_12 : decode cX2_bring 12 = .ok (.ifCond .eq 24, 3) := by decide +kernel
theorem dX2_bring_15 : decode cX2_bring 15 = .ok (.iload_n 2, 1) := by decide +kernel
theorem dX2_bring_16 : decode cX2_bring 16 = .ok (.iconst 1, 1) := by decide +kernel
theorem dX2_bring_17 : decode cX2_bring 17 = .ok (.bipush 60, 2) := by decide +kernel
theorem dX2_bring_19 : decode cX2_bring 19 = .ok (.invokestatic 38, 3) := by decide +kernel
theorem dX2_bring_22 : decode cX2_bring 22 = .ok (.ifCond .eq 14, 3) := by decide +kernel
theorem dX2_bring_25 : decode cX2_bring 25 = .ok (.iload_n 3, 1) := by decide +kernel
theorem dX2_bring_26 : decode cX2_bring 26 = .ok (.iconst 1, 1) := by decide +kernel
theorem dX2_bring_27 : decode cX2_bring 27 = .ok (.sipush 200, 3) := by decide +kernel
theorem dX2_bring_30 : decode cX2_bring 30 = .ok (.invokestatic 38, 3) := by decide +kernel
theorem dX2_bring_33 : decode cX2_bring 33 = .ok (.ifCond .ne 9, 3) := by decide +kernel
theorem dX2_bring_36 : decode cX2_bring 36 = .ok (.aload_n 0, 1) := by decide +kernel
theorem dX2_bring_37 : decode cX2_bring 37 = .ok (.iconst 1, 1) := by decide +kernel
theorem dX2_bring_38 : decode cX2_bring 38 = .ok (.invokevirtual 85, 3) := by decide +kernel
theorem dX2_bring_41 : decode cX2_bring 41 = .ok (.ireturn, 1) := by decide +kernel
theorem dX2_bring_42 : decode cX2_bring 42 = .ok (.aload_n 0, 1) := by decide +kernel
theorem dX2_bring_43 : decode cX2_bring 43 = .ok (.getfield 42, 3) := by decide +kernel
theorem dX2_bring_46 : decode cX2_bring 46 = .ok (.bipush 16, 2) := by decide +kernel
theorem dX2_bring_48 : decode cX2_bring 48 = .ok (.if_icmp .ne 9, 3) := by decide +kernel
theorem dX2_bring_51 : decode cX2_bring 51 = .ok (.aload_n 0, 1) := by decide +kernel
theorem dX2_bring_52 : decode cX2_bring 52 = .ok (.iconst 2, 1) := by decide +kernel
theorem dX2_bring_53 : decode cX2_bring 53 = .ok (.invokevirtual 85, 3) := by decide +kernel
theorem dX2_bring_56 : decode cX2_bring 56 = .ok (.ireturn, 1) := by decide +kernel
theorem dX2_bring_57 : decode cX2_bring 57 = .ok (.aload_n 0, 1) := by decide +kernel
theorem dX2_bring_58 : decode cX2_bring 58 = .ok (.iload_n 1, 1) := by decide +kernel
theorem dX2_bring_59 : decode cX2_bring 59 = .ok (.iload_n 2, 1) := by decide +kernel
theorem dX2_bring_60 : decode cX2_bring 60 = .ok (.iload_n 3, 1) := by decide +kernel
theorem dX2_bring_61 : decode cX2_bring 61 = .ok (.invokevirtual 88, 3) := by decide +kernel
theorem dX2_bring_64 : decode cX2_bring 64 = .ok (.aload_n 0, 1) := by decide +kernel
theorem dX2_bring_65 : decode cX2_bring 65 = .ok (.getfield 42, 3) := by decide +kernel
theorem dX2_bring_68 : decode cX2_bring 68 = .ok (.iconst 1, 1) := by decide +kernel
theorem dX2_bring_69 : decode cX2_bring 69 = .ok (.isub, 1) := by decide +kernel
theorem dX2_bring_70 : decode cX2_bring 70 = .ok (.ireturn, 1) := by decide +kernel
set_option maxRecDepth 20000 in
theorem ggX2_lift_X2_isSack : GoodIn wsX2_lift wsX2_isSack := goodIn_r _ [7, 8, 9, 10, 6, 11, 16, 17, 18, 19, 20, 21, 22, 23, 24, 25, 26, 27] (by decide +kernel) (by decide +kernel)
set_option maxRecDepth 20000 in
theorem gX2_lift_X2_isSack : GoodIn wsX2_lift (wsV RX2 92 RX2 yX2_isSack wsX2_isSack) := goodIn_app (goodIn_of _ (by decide +kernel)) ggX2_lift_X2_isSack
set_option maxRecDepth 20000 in
theorem ggX2_lift_X2_fail : GoodIn wsX2_lift wsX2_fail := goodIn_r _ [15, 1, 16, 17, 18, 19, 20, 21, 22, 23, 24, 25, 26, 27] (by decide +kernel) (by decide +kernel)
set_option maxRecDepth 20000 in
theorem gX2_lift_X2_fail : GoodIn wsX2_lift (wsV RX2 85 RX2 yX2_fail wsX2_fail) := goodIn_app (goodIn_of _ (by decide +kernel)) ggX2_lift_X2_fail
theorem dX2_lift_0 : decode cX2_lift 0 = .ok (.aload_n 0, 1) := by decide +kernel
theorem dX2_lift_1 : decode cX2_lift 1 = .ok (.iconst 0, 1) := by decide +kernel
theorem dX2_lift_2 : decode cX2_lift 2 = .ok (.putfield 31, 3) := by decide +kernel
theorem dX2_lift_5 : decode cX2_lift 5 = .ok (.aload_n 0, 1) := by decide +kernel
theorem dX2_lift_6 : decode cX2_lift 6 = .ok (.iload_n 1, 1) := by decide +kernel
theorem dX2_lift_7 : decode cX2_lift 7 = .ok (.invokevirtual 92, 3) := by decide +kernel
theorem dX2_lift_10 : decode cX2_lift 10 = .ok (.ifCond .ne 9, 3) := by decide +kernel
theorem dX2_lift_13 : decode cX2_lift 13 = .ok (.aload_n 0, 1) := by decide +kernel
theorem dX2_lift_14 : decode cX2_lift 14 = .ok (.iconst 1, 1) := by decide +kernel
theorem dX2_lift_15 : decode cX2_lift 15 = .ok (.invokevirtual 85, 3) := by decide +kernel
theorem dX2_lift_18 : decode cX2_lift 18 = .ok (.ireturn, 1) := by decide +kernel
theorem dX2_lift_19 : decode cX2_lift 19 = .ok (.aload_n 0, 1) := by decide +kernel
theorem dX2_lift_20 : decode cX2_lift 20 = .ok (.getfield 22, 3) := by decide +kernel
theorem dX2_lift_23 : decode cX2_lift 23 = .ok (.bipush 35, 2) := by decide +kernel
theorem dX2_lift_25 : decode cX2_lift 25 = .ok (.iload_n 1, 1) := by decide +kernel
theorem dX2_lift_26 : decode cX2_lift 26 = .ok (.iadd, 1) := by decide +kernel
theorem dX2_lift_27 : decode cX2_lift 27 = .ok (.iaload, 1) := by decide +kernel
theorem dX2_lift_28 : decode cX2_lift 28 = .ok (.istore_n 2, 1) := by decide +kernel
theorem dX2_lift_29 : decode cX2_lift 29 = .ok (.iload_n 2, 1) := by decide +kernel
theorem dX2_lift_30 : decode cX2_lift 30 = .ok (.iconst (-1), 1) := by decide +kernel
theorem dX2_lift_31 : decode cX2_lift 31 = .ok (.if_icmp .ne 9, 3) := by decide +kernel
theorem dX2_lift_34 : decode cX2_lift 34 = .ok (.aload_n 0, 1) := by decide +kernel
theorem dX2_lift_35 : decode cX2_lift 35 = .ok (.iconst 2, 1) := by decide +kernel
theorem dX2_lift_36 : decode cX2_lift 36 = .ok (.invokevirtual 85, 3) := by decide +kernel
theorem dX2_lift_39 : decode cX2_lift 39 = .ok (.ireturn, 1) := by decide +kernel
theorem dX2_lift_40 : decode cX2_lift 40 = .ok (.aload_n 0, 1) := by decide +kernel
theorem dX2_lift_41 : decode cX2_lift 41 = .ok (.getfield 22, 3) := by decide +kernel
theorem dX2_lift_44 : decode cX2_lift 44 = .ok (.bipush 35, 2) := by decide +kernel
theorem dX2_lift_46 : decode cX2_lift 46 = .ok (.iload_n 1, 1) := by decide +kernel
theorem dX2_lift_47 : decode cX2_lift 47 = .ok (.iadd, 1) := by decide +kernel
theorem dX2_lift_48 : decode cX2_lift 48 = .ok (.iconst (-1), 1) := by decide +kernel
theorem dX2_lift_49 : decode cX2_lift 49 = .ok (.iastore, 1) := by decide +kernel
theorem dX2_lift_50 : decode cX2_lift 50 = .ok (.iload_n 2, 1) := by decide +kernel
theorem dX2_lift_51 : decode cX2_lift 51 = .ok (.ireturn, 1) := by decide +kernel
set_option maxRecDepth 20000 in
theorem ggX2_setUntil_X2_isSack : GoodIn wsX2_setUntil wsX2_isSack := goodIn_r _ [7, 8, 9, 10, 6, 11, 16, 17, 18, 19, 20, 21, 22, 23, 24, 25, 26, 27] (by decide +kernel) (by decide +kernel)
set_option maxRecDepth 20000 in
theorem gX2_setUntil_X2_isSack : GoodIn wsX2_setUntil (wsV RX2 92 RX2 yX2_isSack wsX2_isSack) := goodIn_app (goodIn_of _ (by decide +kernel)) ggX2_setUntil_X2_isSack
set_option maxRecDepth 20000 in
theorem ggX2_setUntil_X2_fail : GoodIn wsX2_setUntil wsX2_fail := goodIn_r _ [15, 1, 16, 17, 18, 19, 20, 21, 22, 23, 24, 25, 26, 27] (by decide +kernel) (by decide +kernel)
set_option maxRecDepth 20000 in
theorem gX2_setUntil_X2_fail : GoodIn wsX2_setUntil (wsV RX2 85 RX2 yX2_fail wsX2_fail) := goodIn_app (goodIn_of _ (by decide +kernel)) ggX2_setUntil_X2_fail
set_option maxRecDepth 20000 in
theorem ggX2_setUntil_X2_isIn : GoodIn wsX2_setUntil wsX2_isIn := goodIn_r _ [11] (by decide +kernel) (by decide +kernel)
set_option maxRecDepth 20000 in
theorem gX2_setUntil_X2_isIn : GoodIn wsX2_setUntil (va_wsS RX2 38 yX2_isIn wsX2_isIn) := goodIn_app (goodIn_of _ (by decide +kernel)) ggX2_setUntil_X2_isIn
theorem dX2_setUntil_0 : decode cX2_setUntil 0 = .ok (.aload_n 0, 1) := by decide +kernel
theorem dX2_setUntil_1 : decode cX2_setUntil 1 = .ok (.iconst 0, 1) := by decide +kernel
theorem dX2_setUntil_2 : decode cX2_setUntil 2 = .ok (.putfield 31, 3) := by decide +kernel
theorem dX2_setUntil_5 : decode cX2_setUntil 5 = .ok (.aload_n 0, 1) := by decide +kernel
theorem dX2_setUntil_6 : decode cX2_setUntil 6 = .ok (.iload_n 1, 1) := by decide +kernel
theorem dX2_setUntil_7 : decode cX2_setUntil 7 = .ok (.invokevirtual 92, 3) := by decide +kernel
theorem dX2_setUntil_10 : decode cX2_setUntil 10 = .ok (.ifCond .ne 9, 3) := by decide +kernel
theorem dX2_setUntil_13 : decode cX2_setUntil 13 = .ok (.aload_n 0, 1) := by decide +kernel
theorem dX2_setUntil_14 : decode cX2_setUntil 14 = .ok (.iconst 1, 1) := by decide +kernel
theorem dX2_setUntil_15 : decode cX2_setUntil 15 = .ok (.invokevirtual 85, 3) := by decide +kernel
theorem dX2_setUntil_18 : decode cX2_setUntil 18 = .ok (.ireturn, 1) := by decide +kernel
theorem dX2_setUntil_19 : decode cX2_setUntil 19 = .ok (.iload_n 2, 1) := by decide +kernel
theorem dX2_setUntil_20 : decode cX2_setUntil 20 = .ok (.iconst 1, 1) := by decide +kernel
theorem dX2_setUntil_21 : decode cX2_setUntil 21 = .ok (.sipush 200, 3) := by decide +kernel
theorem dX2_setUntil_24 : decode cX2_setUntil 24 = .ok (.invokestatic 38, 3) := by decide +kernel
theorem dX2_setUntil_27 : decode cX2_setUntil 27 = .ok (.ifCond .ne 9, 3) := by decide +kernel
theorem dX2_setUntil_30 : decode cX2_setUntil 30 = .ok (.aload_n 0, 1) := by decide +kernel
theorem dX2_setUntil_31 : decode cX2_setUntil 31 = .ok (.iconst 2, 1) := by decide +kernel
theorem dX2_setUntil_32 : decode cX2_setUntil 32 = .ok (.invokevirtual 85, 3) := by decide +kernel
theorem dX2_setUntil_35 : decode cX2_setUntil 35 = .ok (.ireturn, 1) := by decide +kernel
theorem dX2_setUntil_36 : decode cX2_setUntil 36 = .ok (.aload_n 0, 1) := by decide +kernel
theorem dX2_setUntil_37 : decode cX2_setUntil 37 = .ok (.getfield 19, 3) := by decide +kernel
theorem dX2_setUntil_40 : decode cX2_setUntil 40 = .ok (.iload_n 1, 1) := by decide +kernel
theorem dX2_setUntil_41 : decode cX2_setUntil 41 = .ok (.iaload, 1) := by decide +kernel
theorem dX2_setUntil_42 : decode cX2_setUntil 42 = .ok (.istore_n 3, 1) := by decide +kernel
theorem dX2_setUntil_43 : decode cX2_setUntil 43 = .ok (.aload_n 0, 1) := by decide +kernel
theorem dX2_setUntil_44 : decode cX2_setUntil 44 = .ok (.getfield 19, 3) := by decide +kernel
theorem dX2_setUntil_47 : decode cX2_setUntil 47 = .ok (.iload_n 1, 1) := by decide +kernel
theorem dX2_setUntil_48 : decode cX2_setUntil 48 = .ok (.iload_n 2, 1) := by decide +kernel
theorem dX2_setUntil_49 : decode cX2_setUntil 49 = .ok (.iastore, 1) := by decide +kernel
theorem dX2_setUntil_50 : decode cX2_setUntil 50 = .ok (.iload_n 3, 1) := by decide +kernel
theorem dX2_setUntil_51 : decode cX2_setUntil 51 = .ok (.ireturn, 1) := by decide +kernel
set_option maxRecDepth 20000 in
theorem ggX2_pass_X2_isIn : GoodIn wsX2_pass wsX2_isIn := goodIn_r _ [6] (by decide +kernel) (by decide +kernel)
set_option maxRecDepth 20000 in
theorem gX2_pass_X2_isIn : GoodIn wsX2_pass (va_wsS RX2 38 yX2_isIn wsX2_isIn) := goodIn_app (goodIn_of _ (by decide +kernel)) ggX2_pass_X2_isIn
set_option maxRecDepth 20000 in
theorem ggX2_pass_X2_fail : GoodIn wsX2_pass wsX2_fail := goodIn_r _ [10, 1, 51, 52, 53, 54, 55, 56, 57, 58, 59, 60, 61, 62] (by decide +kernel) (by decide +kernel)
set_option maxRecDepth 20000 in
theorem gX2_pass_X2_fail : GoodIn wsX2_pass (wsV RX2 85 RX2 yX2_fail wsX2_fail) := goodIn_app (goodIn_of _ (by decide +kernel)) ggX2_pass_X2_fail
set_option maxRecDepth 20000 in
theorem ggX2_pass_X2_hoursOn : GoodIn wsX2_pass wsX2_hoursOn := goodIn_r _ [14, 15, 16, 17, 5, 18, 19, 20, 2, 21, 22, 23, 24, 25, 26, 27, 28, 29, 30, 31, 32, 33, 34, 35, 36, 37, 38, 39, 40, 41, 42, 43, 44, 45, 46, 47, 48, 49, 50, 51, 52, 53, 54, 55, 56, 57, 58, 59, 60, 61, 62] (by decide +kernel) (by decide +kernel)
set_option maxRecDepth 20000 in
theorem gX2_pass_X2_hoursOn : GoodIn wsX2_pass (wsV RX2 95 RX2 yX2_hoursOn wsX2_hoursOn) := goodIn_app (goodIn_of _ (by decide +kernel)) ggX2_pass_X2_hoursOn
theorem dX2_pass_0 : decode cX2_pass 0 = .ok (.aload_n 0, 1) := by decide +kernel
theorem dX2_pass_1 : decode cX2_pass 1 = .ok (.iconst 0, 1) := by decide +kernel
theorem dX2_pass_2 : decode cX2_pass 2 = .ok (.putfield 31, 3) := by decide +kernel
theorem dX2_pass_5 : decode cX2_pass 5 = .ok (.iload_n 1, 1) := by decide +kernel
theorem dX2_pass_6 : decode cX2_pass 6 = .ok (.iconst 1, 1) := by decide +kernel
theorem dX2_pass_7 : decode cX2_pass 7 = .ok (.bipush 60, 2) := by decide +kernel
theorem dX2_pass_9 : decode cX2_pass 9 = .ok (.invokestatic 38, 3) := by decide +kernel
theorem dX2_pass_12 : decode cX2_pass 12 = .ok (.ifCond .ne 9, 3) := by decide +kernel
theorem dX2_pass_15 : decode cX2_pass 15 = .ok (.aload_n 0, 1) := by decide +kernel
theorem dX2_pass_16 : decode cX2_pass 16 = .ok (.iconst 1, 1) := by decide +kernel
theorem dX2_pass_17 : decode cX2_pass 17 = .ok (.invokevirtual 85, 3) := by decide +kernel
theorem dX2_pass_20 : decode cX2_pass 20 = .ok (.ireturn, 1) := by decide +kernel
theorem dX2_pass_21 : decode cX2_pass 21 = .ok (.aload_n 0, 1) := by decide +kernel
theorem dX2_pass_22 : decode cX2_pass 22 = .ok (.getfield 22, 3) := by decide +kernel
theorem dX2_pass_25 : decode cX2_pass 25 = .ok (.iconst 2, 1) := by decide +kernel
theorem dX2_pass_26 : decode cX2_pass 26 = .ok (.iaload, 1) := by decide +kernel
theorem dX2_pass_27 : decode cX2_pass 27 = .ok (.istore_n 2, 1) := by decide +kernel
theorem dX2_pass_28 : decode cX2_pass 28 = .ok (.aload_n 0, 1) := by decide +kernel
theorem dX2_pass_29 : decode cX2_pass 29 = .ok (.iload_n 1, 1) := by decide +kernel
theorem dX2_pass_30 : decode cX2_pass 30 = .ok (.invokevirtual 95, 3) := by decide +kernel
theorem dX2_pass_33 : decode cX2_pass 33 = .ok (.aload_n 0, 1) := by decide +kernel
theorem dX2_pass_34 : decode cX2_pass 34 = .ok (.getfield 22, 3) := by decide +kernel
theorem dX2_pass_37 : decode cX2_pass 37 = .ok (.iconst 2, 1) := by decide +kernel
theorem dX2_pass_38 : decode cX2_pass 38 = .ok (.iaload, 1) := by decide +kernel
theorem dX2_pass_39 : decode cX2_pass 39 = .ok (.iload_n 2, 1) := by decide +kernel
theorem dX2_pass_40 : decode cX2_pass 40 = .ok (.isub, 1) := by decide +kernel
theorem dX2_pass_41 : decode cX2_pass 41 = .ok (.ireturn, 1) := by decide +kernel
set_option maxRecDepth 20000 in
theorem ggX2_hour_X2_told : GoodIn wsX2_hour wsX2_told := goodIn_r _ [6, 7, 8, 9, 10, 11, 12, 13, 14, 15, 16, 17, 18, 19] (by decide +kernel) (by decide +kernel)
set_option maxRecDepth 20000 in
theorem gX2_hour_X2_told : GoodIn wsX2_hour (wsV RX2 99 RX2 yX2_told wsX2_told) := goodIn_app (goodIn_of _ (by decide +kernel)) ggX2_hour_X2_told
theorem dX2_hour_0 : decode cX2_hour 0 = .ok (.aload_n 0, 1) := by decide +kernel
theorem dX2_hour_1 : decode cX2_hour 1 = .ok (.aload_n 0, 1) := by decide +kernel
theorem dX2_hour_2 : decode cX2_hour 2 = .ok (.getfield 22, 3) := by decide +kernel
theorem dX2_hour_5 : decode cX2_hour 5 = .ok (.iconst 0, 1) := by decide +kernel
theorem dX2_hour_6 : decode cX2_hour 6 = .ok (.iaload, 1) := by decide +kernel
theorem dX2_hour_7 : decode cX2_hour 7 = .ok (.invokevirtual 99, 3) := by decide +kernel
theorem dX2_hour_10 : decode cX2_hour 10 = .ok (.ireturn, 1) := by decide +kernel
set_option maxRecDepth 20000 in
theorem ggX2_stones_X2_told : GoodIn wsX2_stones wsX2_told := goodIn_r _ [6, 7, 8, 9, 10, 11, 12, 13, 14, 15, 16, 17, 18, 19] (by decide +kernel) (by decide +kernel)
set_option maxRecDepth 20000 in
theorem gX2_stones_X2_told : GoodIn wsX2_stones (wsV RX2 99 RX2 yX2_told wsX2_told) := goodIn_app (goodIn_of _ (by decide +kernel)) ggX2_stones_X2_told
theorem dX2_stones_0 : decode cX2_stones 0 = .ok (.aload_n 0, 1) := by decide +kernel
theorem dX2_stones_1 : decode cX2_stones 1 = .ok (.aload_n 0, 1) := by decide +kernel
theorem dX2_stones_2 : decode cX2_stones 2 = .ok (.getfield 35, 3) := by decide +kernel
theorem dX2_stones_5 : decode cX2_stones 5 = .ok (.invokevirtual 99, 3) := by decide +kernel
theorem dX2_stones_8 : decode cX2_stones 8 = .ok (.ireturn, 1) := by decide +kernel
set_option maxRecDepth 20000 in
theorem ggX2_sacks_X2_told : GoodIn wsX2_sacks wsX2_told := goodIn_r _ [6, 7, 8, 9, 10, 11, 12, 13, 14, 15, 16, 17, 18, 19] (by decide +kernel) (by decide +kernel)
set_option maxRecDepth 20000 in
theorem gX2_sacks_X2_told : GoodIn wsX2_sacks (wsV RX2 99 RX2 yX2_told wsX2_told) := goodIn_app (goodIn_of _ (by decide +kernel)) ggX2_sacks_X2_told
theorem dX2_sacks_0 : decode cX2_sacks 0 = .ok (.aload_n 0, 1) := by decide +kernel
theorem dX2_sacks_1 : decode cX2_sacks 1 = .ok (.aload_n 0, 1) := by decide +kernel
theorem dX2_sacks_2 : decode cX2_sacks 2 = .ok (.getfield 42, 3) := by decide +kernel
theorem dX2_sacks_5 : decode cX2_sacks 5 = .ok (.invokevirtual 99, 3) := by decide +kernel
theorem dX2_sacks_8 : decode cX2_sacks 8 = .ok (.ireturn, 1) := by decide +kernel
set_option maxRecDepth 20000 in
theorem ggX2_rule_X2_told : GoodIn wsX2_rule wsX2_told := goodIn_r _ [6, 7, 8, 9, 10, 11, 12, 13, 14, 15, 16, 17, 18, 19] (by decide +kernel) (by decide +kernel)
set_option maxRecDepth 20000 in
theorem gX2_rule_X2_told : GoodIn wsX2_rule (wsV RX2 99 RX2 yX2_told wsX2_told) := goodIn_app (goodIn_of _ (by decide +kernel)) ggX2_rule_X2_told
theorem dX2_rule_0 : decode cX2_rule 0 = .ok (.aload_n 0, 1) := by decide +kernel
theorem dX2_rule_1 : decode cX2_rule 1 = .ok (.aload_n 0, 1) := by decide +kernel
theorem dX2_rule_2 : decode cX2_rule 2 = .ok (.getfield 51, 3) := by decide +kernel
theorem dX2_rule_5 : decode cX2_rule 5 = .ok (.invokevirtual 99, 3) := by decide +kernel
theorem dX2_rule_8 : decode cX2_rule 8 = .ok (.ireturn, 1) := by decide +kernel
set_option maxRecDepth 20000 in
theorem ggX2_wind_X2_told : GoodIn wsX2_wind wsX2_told := goodIn_r _ [7, 8, 9, 10, 11, 12, 13, 14, 15, 16, 17, 18, 19, 20] (by decide +kernel) (by decide +kernel)
set_option maxRecDepth 20000 in
theorem gX2_wind_X2_told : GoodIn wsX2_wind (wsV RX2 99 RX2 yX2_told wsX2_told) := goodIn_app (goodIn_of _ (by decide +kernel)) ggX2_wind_X2_told
theorem dX2_wind_0 : decode cX2_wind 0 = .ok (.aload_n 0, 1) := by decide +kernel
theorem dX2_wind_1 : decode cX2_wind 1 = .ok (.aload_n 0, 1) := by decide +kernel
theorem dX2_wind_2 : decode cX2_wind 2 = .ok (.getfield 13, 3) := by decide +kernel
theorem dX2_wind_5 : decode cX2_wind 5 = .ok (.aload_n 0, 1) := by decide +kernel
theorem dX2_wind_6 : decode cX2_wind 6 = .ok (.getfield 22, 3) := by decide +kernel
theorem dX2_wind_9 : decode cX2_wind 9 = .ok (.iconst 0, 1) := by decide +kernel
theorem dX2_wind_10 : decode cX2_wind 10 = .ok (.iaload, 1) := by decide +kernel
theorem dX2_wind_11 : decode cX2_wind 11 = .ok (.bipush 12, 2) := by decide +kernel
theorem dX2_wind_13 : decode cX2_wind 13 = .ok (.irem, 1) := by decide +kernel
theorem dX2_wind_14 : decode cX2_wind 14 = .ok (.iaload, 1) := by decide +kernel
theorem dX2_wind_15 : decode cX2_wind 15 = .ok (.invokevirtual 99, 3) := by decide +kernel
theorem dX2_wind_18 : decode cX2_wind 18 = .ok (.ireturn, 1) := by decide +kernel
set_option maxRecDepth 20000 in
theorem ggX2_sackOn_X2_isStone : GoodIn wsX2_sackOn wsX2_isStone := goodIn_r _ [6, 7, 8, 9, 5, 10, 21, 22, 23, 24, 25, 26, 27, 28, 29, 30, 31, 32] (by decide +kernel) (by decide +kernel)
set_option maxRecDepth 20000 in
theorem gX2_sackOn_X2_isStone : GoodIn wsX2_sackOn (wsV RX2 102 RX2 yX2_isStone wsX2_isStone) := goodIn_app (goodIn_of _ (by decide +kernel)) ggX2_sackOn_X2_isStone
set_option maxRecDepth 20000 in
theorem ggX2_sackOn_X2_on : GoodIn wsX2_sackOn wsX2_on := goodIn_r _ [14, 15, 16, 21, 22, 23, 24, 25, 26, 27, 28, 29, 30, 31, 32] (by decide +kernel) (by decide +kernel)
set_option maxRecDepth 20000 in
theorem gX2_sackOn_X2_on : GoodIn wsX2_sackOn (wsV RX2 69 RX2 yX2_on wsX2_on) := goodIn_app (goodIn_of _ (by decide +kernel)) ggX2_sackOn_X2_on
set_option maxRecDepth 20000 in
theorem ggX2_sackOn_X2_fail : GoodIn wsX2_sackOn wsX2_fail := goodIn_r _ [20, 1, 21, 22, 23, 24, 25, 26, 27, 28, 29, 30, 31, 32] (by decide +kernel) (by decide +kernel)
set_option maxRecDepth 20000 in
theorem gX2_sackOn_X2_fail : GoodIn wsX2_sackOn (wsV RX2 85 RX2 yX2_fail wsX2_fail) := goodIn_app (goodIn_of _ (by decide +kernel)) ggX2_sackOn_X2_fail
theorem dX2_sackOn_0 : decode cX2_sackOn 0 = .ok (.aload_n 0, 1) := by decide +kernel
theorem dX2_sackOn_1 : decode cX2_sackOn 1 = .ok (.iconst 0, 1) := by decide +kernel
theorem dX2_sackOn_2 : decode cX2_sackOn 2 = .ok (.putfield 31, 3) := by decide +kernel
theorem dX2_sackOn_5 : decode cX2_sackOn 5 = .ok (.aload_n 0, 1) := by decide +kernel
theorem dX2_sackOn_6 : decode cX2_sackOn 6 = .ok (.iload_n 1, 1) := by decide +kernel
theorem dX2_sackOn_7 : decode cX2_sackOn 7 = .ok (.invokevirtual 102, 3) := by decide +kernel
theorem dX2_sackOn_10 : decode cX2_sackOn 10 = .ok (.ifCond .eq 11, 3) := by decide +kernel
theorem dX2_sackOn_13 : decode cX2_sackOn 13 = .ok (.aload_n 0, 1) := by decide +kernel
theorem dX2_sackOn_14 : decode cX2_sackOn 14 = .ok (.iload_n 1, 1) := by decide +kernel
theorem dX2_sackOn_15 : decode cX2_sackOn 15 = .ok (.invokevirtual 69, 3) := by decide +kernel
theorem dX2_sackOn_18 : decode cX2_sackOn 18 = .ok (.goto 8, 3) := by decide +kernel
theorem dX2_sackOn_21 : decode cX2_sackOn 21 = .ok (.aload_n 0, 1) := by decide +kernel
theorem dX2_sackOn_22 : decode cX2_sackOn 22 = .ok (.iconst 1, 1) := by decide +kernel
theorem dX2_sackOn_23 : decode cX2_sackOn 23 = .ok (.invokevirtual 85, 3) := by decide +kernel
theorem dX2_sackOn_26 : decode cX2_sackOn 26 = .ok (.ireturn, 1) := by decide +kernel
set_option maxRecDepth 20000 in
theorem ggX2_of_X2_isSack : GoodIn wsX2_of wsX2_isSack := goodIn_r _ [7, 8, 9, 10, 6, 11, 16, 17, 18, 19, 20, 21, 22, 23, 24, 25, 26, 27] (by decide +kernel) (by decide +kernel)
set_option maxRecDepth 20000 in
theorem gX2_of_X2_isSack : GoodIn wsX2_of (wsV RX2 92 RX2 yX2_isSack wsX2_isSack) := goodIn_app (goodIn_of _ (by decide +kernel)) ggX2_of_X2_isSack
set_option maxRecDepth 20000 in
theorem ggX2_of_X2_fail : GoodIn wsX2_of wsX2_fail := goodIn_r _ [15, 1, 16, 17, 18, 19, 20, 21, 22, 23, 24, 25, 26, 27] (by decide +kernel) (by decide +kernel)
set_option maxRecDepth 20000 in
theorem gX2_of_X2_fail : GoodIn wsX2_of (wsV RX2 85 RX2 yX2_fail wsX2_fail) := goodIn_app (goodIn_of _ (by decide +kernel)) ggX2_of_X2_fail
theorem dX2_of_0 : decode cX2_of 0 = .ok (.aload_n 0, 1) := by decide +kernel
theorem dX2_of_1 : decode cX2_of 1 = .ok (.iconst 0, 1) := by decide +kernel
theorem dX2_of_2 : decode cX2_of 2 = .ok (.putfield 31, 3) := by decide +kernel
theorem dX2_of_5 : decode cX2_of 5 = .ok (.aload_n 0, 1) := by decide +kernel
theorem dX2_of_6 : decode cX2_of 6 = .ok (.iload_n 1, 1) := by decide +kernel
theorem dX2_of_7 : decode cX2_of 7 = .ok (.invokevirtual 92, 3) := by decide +kernel
theorem dX2_of_10 : decode cX2_of 10 = .ok (.ifCond .eq 14, 3) := by decide +kernel
theorem dX2_of_13 : decode cX2_of 13 = .ok (.aload_n 0, 1) := by decide +kernel
theorem dX2_of_14 : decode cX2_of 14 = .ok (.getfield 22, 3) := by decide +kernel
theorem dX2_of_17 : decode cX2_of 17 = .ok (.iload_n 2, 1) := by decide +kernel
theorem dX2_of_18 : decode cX2_of 18 = .ok (.iload_n 1, 1) := by decide +kernel
theorem dX2_of_19 : decode cX2_of 19 = .ok (.iadd, 1) := by decide +kernel
theorem dX2_of_20 : decode cX2_of 20 = .ok (.iaload, 1) := by decide +kernel
theorem dX2_of_21 : decode cX2_of 21 = .ok (.goto 8, 3) := by decide +kernel
theorem dX2_of_24 : decode cX2_of 24 = .ok (.aload_n 0, 1) := by decide +kernel
theorem dX2_of_25 : decode cX2_of 25 = .ok (.iconst 1, 1) := by decide +kernel
theorem dX2_of_26 : decode cX2_of 26 = .ok (.invokevirtual 85, 3) := by decide +kernel
theorem dX2_of_29 : decode cX2_of 29 = .ok (.ireturn, 1) := by decide +kernel
set_option maxRecDepth 20000 in
theorem ggX2_stoneOf_X2_of : GoodIn wsX2_stoneOf wsX2_of := goodIn_r _ [5, 6, 7, 8, 9, 10, 4, 11, 12, 13, 14, 15, 16, 17, 18, 19, 20, 21, 22, 23, 24, 25, 26, 27, 28, 29, 30, 31] (by decide +kernel) (by decide +kernel)
set_option maxRecDepth 20000 in
theorem gX2_stoneOf_X2_of : GoodIn wsX2_stoneOf (wsV RX2 105 RX2 yX2_of wsX2_of) := goodIn_app (goodIn_of _ (by decide +kernel)) ggX2_stoneOf_X2_of
theorem dX2_stoneOf_0 : decode cX2_stoneOf 0 = .ok (.aload_n 0, 1) := by decide +kernel
theorem dX2_stoneOf_1 : decode cX2_stoneOf 1 = .ok (.iload_n 1, 1) := by decide +kernel
theorem dX2_stoneOf_2 : decode cX2_stoneOf 2 = .ok (.bipush 35, 2) := by decide +kernel
theorem dX2_stoneOf_4 : decode cX2_stoneOf 4 = .ok (.invokevirtual 105, 3) := by decide +kernel
theorem dX2_stoneOf_7 : decode cX2_stoneOf 7 = .ok (.ireturn, 1) := by decide +kernel
set_option maxRecDepth 20000 in
theorem ggX2_leftOf_X2_of : GoodIn wsX2_leftOf wsX2_of := goodIn_r _ [5, 6, 7, 8, 9, 10, 4, 11, 12, 13, 14, 15, 16, 17, 18, 19, 20, 21, 22, 23, 24, 25, 26, 27, 28, 29, 30, 31] (by decide +kernel) (by decide +kernel)
set_option maxRecDepth 20000 in
theorem gX2_leftOf_X2_of : GoodIn wsX2_leftOf (wsV RX2 105 RX2 yX2_of wsX2_of) := goodIn_app (goodIn_of _ (by decide +kernel)) ggX2_leftOf_X2_of
theorem dX2_leftOf_0 : decode cX2_leftOf 0 = .ok (.aload_n 0, 1) := by decide +kernel
theorem dX2_leftOf_1 : decode cX2_leftOf 1 = .ok (.iload_n 1, 1) := by decide +kernel
theorem dX2_leftOf_2 : decode cX2_leftOf 2 = .ok (.iconst 3, 1) := by decide +kernel
theorem dX2_leftOf_3 : decode cX2_leftOf 3 = .ok (.invokevirtual 105, 3) := by decide +kernel
theorem dX2_leftOf_6 : decode cX2_leftOf 6 = .ok (.ireturn, 1) := by decide +kernel
set_option maxRecDepth 20000 in
theorem ggX2_untilOf_X2_isSack : GoodIn wsX2_untilOf wsX2_isSack := goodIn_r _ [7, 8, 9, 10, 6, 11, 16, 17, 18, 19, 20, 21, 22, 23, 24, 25, 26, 27] (by decide +kernel) (by decide +kernel)
set_option maxRecDepth 20000 in
theorem gX2_untilOf_X2_isSack : GoodIn wsX2_untilOf (wsV RX2 92 RX2 yX2_isSack wsX2_isSack) := goodIn_app (goodIn_of _ (by decide +kernel)) ggX2_untilOf_X2_isSack
set_option maxRecDepth 20000 in
theorem ggX2_untilOf_X2_fail : GoodIn wsX2_untilOf wsX2_fail := goodIn_r _ [15, 1, 16, 17, 18, 19, 20, 21, 22, 23, 24, 25, 26, 27] (by decide +kernel) (by decide +kernel)
set_option maxRecDepth 20000 in
theorem gX2_untilOf_X2_fail : GoodIn wsX2_untilOf (wsV RX2 85 RX2 yX2_fail wsX2_fail) := goodIn_app (goodIn_of _ (by decide +kernel)) ggX2_untilOf_X2_fail
theorem dX2_untilOf_0 : decode cX2_untilOf 0 = .ok (.aload_n 0, 1) := by decide +kernel
theorem dX2_untilOf_1 : decode cX2_untilOf 1 = .ok (.iconst 0, 1) := by decide +kernel
theorem dX2_untilOf_2 : decode cX2_untilOf 2 = .ok (.putfield 31, 3) := by decide +kernel
theorem dX2_untilOf_5 : decode cX2_untilOf 5 = .ok (.aload_n 0, 1) := by decide +kernel
theorem dX2_untilOf_6 : decode cX2_untilOf 6 = .ok (.iload_n 1, 1) := by decide +kernel
theorem dX2_untilOf_7 : decode cX2_untilOf 7 = .ok (.invokevirtual 92, 3) := by decide +kernel
theorem dX2_untilOf_10 : decode cX2_untilOf 10 = .ok (.ifCond .eq 12, 3) := by decide +kernel
theorem dX2_untilOf_13 : decode cX2_untilOf 13 = .ok (.aload_n 0, 1) := by decide +kernel
theorem dX2_untilOf_14 : decode cX2_untilOf 14 = .ok (.getfield 19, 3) := by decide +kernel
theorem dX2_untilOf_17 : decode cX2_untilOf 17 = .ok (.iload_n 1, 1) := by decide +kernel
theorem dX2_untilOf_18 : decode cX2_untilOf 18 = .ok (.iaload, 1) := by decide +kernel
theorem dX2_untilOf_19 : decode cX2_untilOf 19 = .ok (.goto 8, 3) := by decide +kernel
theorem dX2_untilOf_22 : decode cX2_untilOf 22 = .ok (.aload_n 0, 1) := by decide +kernel
theorem dX2_untilOf_23 : decode cX2_untilOf 23 = .ok (.iconst 1, 1) := by decide +kernel
theorem dX2_untilOf_24 : decode cX2_untilOf 24 = .ok (.invokevirtual 85, 3) := by decide +kernel
theorem dX2_untilOf_27 : decode cX2_untilOf 27 = .ok (.ireturn, 1) := by decide +kernel
set_option maxRecDepth 20000 in
theorem ggX2_groundAt_X2_of : GoodIn wsX2_groundAt wsX2_of := goodIn_r _ [5, 6, 7, 8, 9, 10, 4, 11, 12, 13, 14, 15, 16, 17, 18, 19, 20, 21, 22, 23, 24, 25, 26, 27, 28, 29, 30, 31] (by decide +kernel) (by decide +kernel)
set_option maxRecDepth 20000 in
theorem gX2_groundAt_X2_of : GoodIn wsX2_groundAt (wsV RX2 105 RX2 yX2_of wsX2_of) := goodIn_app (goodIn_of _ (by decide +kernel)) ggX2_groundAt_X2_of
theorem dX2_groundAt_0 : decode cX2_groundAt 0 = .ok (.aload_n 0, 1) := by decide +kernel
theorem dX2_groundAt_1 : decode cX2_groundAt 1 = .ok (.iload_n 1, 1) := by decide +kernel
theorem dX2_groundAt_2 : decode cX2_groundAt 2 = .ok (.bipush 19, 2) := by decide +kernel
theorem dX2_groundAt_4 : decode cX2_groundAt 4 = .ok (.invokevirtual 105, 3) := by decide +kernel
theorem dX2_groundAt_7 : decode cX2_groundAt 7 = .ok (.ireturn, 1) := by decide +kernel
set_option maxRecDepth 20000 in
theorem ggX2_done_X2_isDone : GoodIn wsX2_done wsX2_isDone := goodIn_r _ [6, 7, 8, 9, 10, 11, 12, 13, 14, 15, 16, 17, 18, 19] (by decide +kernel) (by decide +kernel)
set_option maxRecDepth 20000 in
theorem gX2_done_X2_isDone : GoodIn wsX2_done (wsV RX2 54 RX2 yX2_isDone wsX2_isDone) := goodIn_app (goodIn_of _ (by decide +kernel)) ggX2_done_X2_isDone
theorem dX2_done_0 : decode cX2_done 0 = .ok (.iconst 0, 1) := by decide +kernel
theorem dX2_done_1 : decode cX2_done 1 = .ok (.istore_n 1, 1) := by decide +kernel
theorem dX2_done_2 : decode cX2_done 2 = .ok (.iconst 0, 1) := by decide +kernel
theorem dX2_done_3 : decode cX2_done 3 = .ok (.istore_n 2, 1) := by decide +kernel
theorem dX2_done_4 : decode cX2_done 4 = .ok (.iload_n 2, 1) := by decide +kernel
theorem dX2_done_5 : decode cX2_done 5 = .ok (.aload_n 0, 1) := by decide +kernel
theorem dX2_done_6 : decode cX2_done 6 = .ok (.getfield 42, 3) := by decide +kernel
theorem dX2_done_9 : decode cX2_done 9 = .ok (.if_icmp .ge 25, 3) := by decide +kernel
theorem dX2_done_12 : decode cX2_done 12 = .ok (.iload_n 1, 1) := by decide +kernel
theorem dX2_done_13 : decode cX2_done 13 = .ok (.aload_n 0, 1) := by decide +kernel
theorem dX2_done_14 : decode cX2_done 14 = .ok (.iload_n 2, 1) := by decide +kernel
theorem dX2_done_15 : decode cX2_done 15 = .ok (.invokevirtual 54, 3) := by decide +kernel
theorem dX2_done_18 : decode cX2_done 18 = .ok (.ifCond .eq 7, 3) := by decide +kernel
theorem dX2_done_21 : decode cX2_done 21 = .ok (.iconst 1, 1) := by decide +kernel
theorem dX2_done_22 : decode cX2_done 22 = .ok (.goto 4, 3) := by decide +kernel
theorem dX2_done_25 : decode cX2_done 25 = .ok (.iconst 0, 1) := by decide +kernel
theorem dX2_done_26 : decode cX2_done 26 = .ok (.iadd, 1) := by decide +kernel
theorem dX2_done_27 : decode cX2_done 27 = .ok (.istore_n 1, 1) := by decide +kernel
theorem dX2_done_28 : decode cX2_done 28 = .ok (.iinc 2 1, 3) := by decide +kernel
theorem dX2_done_31 : decode cX2_done 31 = .ok (.goto (-27), 3) := by decide +kernel
theorem dX2_done_34 : decode cX2_done 34 = .ok (.iload_n 1, 1) := by decide +kernel
theorem dX2_done_35 : decode cX2_done 35 = .ok (.ireturn, 1) := by decide +kernel
set_option maxRecDepth 20000 in
theorem ggX2_ground_X2_done : GoodIn wsX2_ground wsX2_done := goodIn_r _ [5, 6, 7, 8, 9, 4, 10, 11, 17, 18, 19, 20, 21, 22, 23, 24, 25, 26, 27, 28] (by decide +kernel) (by decide +kernel)
set_option maxRecDepth 20000 in
theorem gX2_ground_X2_done : GoodIn wsX2_ground (wsV RX2 108 RX2 yX2_done wsX2_done) := goodIn_app (goodIn_of _ (by decide +kernel)) ggX2_ground_X2_done
set_option maxRecDepth 20000 in
theorem ggX2_ground_X2_told : GoodIn wsX2_ground wsX2_told := goodIn_r _ [15, 16, 17, 18, 19, 20, 21, 22, 23, 24, 25, 26, 27, 28] (by decide +kernel) (by decide +kernel)
set_option maxRecDepth 20000 in
theorem gX2_ground_X2_told : GoodIn wsX2_ground (wsV RX2 99 RX2 yX2_told wsX2_told) := goodIn_app (goodIn_of _ (by decide +kernel)) ggX2_ground_X2_told
theorem dX2_ground_0 : decode cX2_ground 0 = .ok (.aload_n 0, 1) := by decide +kernel
theorem dX2_ground_1 : decode cX2_ground 1 = .ok (.aload_n 0, 1) := by decide +kernel
theorem dX2_ground_2 : decode cX2_ground 2 = .ok (.invokevirtual 108, 3) := by decide +kernel
theorem dX2_ground_5 : decode cX2_ground 5 = .ok (.invokevirtual 99, 3) := by decide +kernel
theorem dX2_ground_8 : decode cX2_ground 8 = .ok (.ireturn, 1) := by decide +kernel
set_option maxRecDepth 20000 in
theorem ggX2_changes_X2_told : GoodIn wsX2_changes wsX2_told := goodIn_r _ [6, 7, 8, 9, 10, 11, 12, 13, 14, 15, 16, 17, 18, 19] (by decide +kernel) (by decide +kernel)
set_option maxRecDepth 20000 in
theorem gX2_changes_X2_told : GoodIn wsX2_changes (wsV RX2 99 RX2 yX2_told wsX2_told) := goodIn_app (goodIn_of _ (by decide +kernel)) ggX2_changes_X2_told
theorem dX2_changes_0 : decode cX2_changes 0 = .ok (.aload_n 0, 1) := by decide +kernel
theorem dX2_changes_1 : decode cX2_changes 1 = .ok (.aload_n 0, 1) := by decide +kernel
theorem dX2_changes_2 : decode cX2_changes 2 = .ok (.getfield 22, 3) := by decide +kernel
theorem dX2_changes_5 : decode cX2_changes 5 = .ok (.iconst 1, 1) := by decide +kernel
theorem dX2_changes_6 : decode cX2_changes 6 = .ok (.iaload, 1) := by decide +kernel
theorem dX2_changes_7 : decode cX2_changes 7 = .ok (.invokevirtual 99, 3) := by decide +kernel
theorem dX2_changes_10 : decode cX2_changes 10 = .ok (.ireturn, 1) := by decide +kernel
set_option maxRecDepth 20000 in
theorem ggX2_first_X2_next : GoodIn wsX2_first wsX2_next := goodIn_r _ [5, 6, 7, 8, 9, 10, 4, 11, 12, 13, 14, 15, 16, 17, 23, 24, 25, 26, 27, 28, 29, 30, 31, 32, 33, 34] (by decide +kernel) (by decide +kernel)
set_option maxRecDepth 20000 in
theorem gX2_first_X2_next : GoodIn wsX2_first (wsV RX2 72 RX2 yX2_next wsX2_next) := goodIn_app (goodIn_of _ (by decide +kernel)) ggX2_first_X2_next
set_option maxRecDepth 20000 in
theorem ggX2_first_X2_told : GoodIn wsX2_first wsX2_told := goodIn_r _ [21, 22, 23, 24, 25, 26, 27, 28, 29, 30, 31, 32, 33, 34] (by decide +kernel) (by decide +kernel)
set_option maxRecDepth 20000 in
theorem gX2_first_X2_told : GoodIn wsX2_first (wsV RX2 99 RX2 yX2_told wsX2_told) := goodIn_app (goodIn_of _ (by decide +kernel)) ggX2_first_X2_told
theorem dX2_first_0 : decode cX2_first 0 = .ok (.aload_n 0, 1) := by decide +kernel
theorem dX2_first_1 : decode cX2_first 1 = .ok (.aload_n 0, 1) := by decide +kernel
theorem dX2_first_2 : decode cX2_first 2 = .ok (.iconst 0, 1) := by decide +kernel
theorem dX2_first_3 : decode cX2_first 3 = .ok (.invokevirtual 72, 3) := by decide +kernel
theorem dX2_first_6 : decode cX2_first 6 = .ok (.invokevirtual 99, 3) := by decide +kernel
theorem dX2_first_9 : decode cX2_first 9 = .ok (.ireturn, 1) := by decide +kernel
set_option maxRecDepth 20000 in
theorem ggX2_place_X2_isDone : GoodIn wsX2_place wsX2_isDone := goodIn_r _ [5, 6, 18, 19, 20, 21, 22, 23, 24, 25, 26, 27, 28, 29] (by decide +kernel) (by decide +kernel)
set_option maxRecDepth 20000 in
theorem gX2_place_X2_isDone : GoodIn wsX2_place (wsV RX2 54 RX2 yX2_isDone wsX2_isDone) := goodIn_app (goodIn_of _ (by decide +kernel)) ggX2_place_X2_isDone
set_option maxRecDepth 20000 in
theorem ggX2_place_X2_ahead : GoodIn wsX2_place wsX2_ahead := goodIn_r _ [10, 11, 1, 2, 3, 4, 5, 6, 12, 13, 14, 15, 16, 17, 18, 19, 20, 21, 22, 23, 24, 25, 26, 27, 28, 29] (by decide +kernel) (by decide +kernel)
set_option maxRecDepth 20000 in
theorem gX2_place_X2_ahead : GoodIn wsX2_place (wsV RX2 66 RX2 yX2_ahead wsX2_ahead) := goodIn_app (goodIn_of _ (by decide +kernel)) ggX2_place_X2_ahead
theorem dX2_place_0 : decode cX2_place 0 = .ok (.aload_n 0, 1) := by decide +kernel
theorem dX2_place_1 : decode cX2_place 1 = .ok (.iload_n 1, 1) := by decide +kernel
theorem dX2_place_2 : decode cX2_place 2 = .ok (.invokevirtual 54, 3) := by decide +kernel
theorem dX2_place_5 : decode cX2_place 5 = .ok (.ifCond .eq 7, 3) := by decide +kernel
theorem dX2_place_8 : decode cX2_place 8 = .ok (.iconst (-1), 1) := by decide +kernel
theorem dX2_place_9 : decode cX2_place 9 = .ok (.goto 8, 3) := by decide +kernel
theorem dX2_place_12 : decode cX2_place 12 = .ok (.aload_n 0, 1) := by decide +kernel
theorem dX2_place_13 : decode cX2_place 13 = .ok (.iload_n 1, 1) := by decide +kernel
theorem dX2_place_14 : decode cX2_place 14 = .ok (.invokevirtual 66, 3) := by decide +kernel
theorem dX2_place_17 : decode cX2_place 17 = .ok (.ireturn, 1) := by decide +kernel
set_option maxRecDepth 20000 in
theorem ggX2_placeOf_X2_isSack : GoodIn wsX2_placeOf wsX2_isSack := goodIn_r _ [6, 7, 8, 9, 5, 10, 34, 35, 36, 37, 38, 39, 40, 41, 42, 43, 44, 45] (by decide +kernel) (by decide +kernel)
set_option maxRecDepth 20000 in
theorem gX2_placeOf_X2_isSack : GoodIn wsX2_placeOf (wsV RX2 92 RX2 yX2_isSack wsX2_isSack) := goodIn_app (goodIn_of _ (by decide +kernel)) ggX2_placeOf_X2_isSack
set_option maxRecDepth 20000 in
theorem ggX2_placeOf_X2_place : GoodIn wsX2_placeOf wsX2_place := goodIn_r _ [14, 15, 16, 17, 5, 18, 19, 20, 21, 22, 23, 7, 24, 25, 26, 27, 28, 29, 34, 35, 36, 37, 38, 39, 40, 41, 42, 43, 44, 45] (by decide +kernel) (by decide +kernel)
set_option maxRecDepth 20000 in
theorem gX2_placeOf_X2_place : GoodIn wsX2_placeOf (wsV RX2 112 RX2 yX2_place wsX2_place) := goodIn_app (goodIn_of _ (by decide +kernel)) ggX2_placeOf_X2_place
set_option maxRecDepth 20000 in
theorem ggX2_placeOf_X2_fail : GoodIn wsX2_placeOf wsX2_fail := goodIn_r _ [33, 1, 34, 35, 36, 37, 38, 39, 40, 41, 42, 43, 44, 45] (by decide +kernel) (by decide +kernel)
set_option maxRecDepth 20000 in
theorem gX2_placeOf_X2_fail : GoodIn wsX2_placeOf (wsV RX2 85 RX2 yX2_fail wsX2_fail) := goodIn_app (goodIn_of _ (by decide +kernel)) ggX2_placeOf_X2_fail
theorem dX2_placeOf_0 : decode cX2_placeOf 0 = .ok (.aload_n 0, 1) := by decide +kernel
theorem dX2_placeOf_1 : decode cX2_placeOf 1 = .ok (.iconst 0, 1) := by decide +kernel
theorem dX2_placeOf_2 : decode cX2_placeOf 2 = .ok (.putfield 31, 3) := by decide +kernel
theorem dX2_placeOf_5 : decode cX2_placeOf 5 = .ok (.aload_n 0, 1) := by decide +kernel
theorem dX2_placeOf_6 : decode cX2_placeOf 6 = .ok (.iload_n 1, 1) := by decide +kernel
theorem dX2_placeOf_7 : decode cX2_placeOf 7 = .ok (.invokevirtual 92, 3) := by decide +kernel
theorem dX2_placeOf_10 : decode cX2_placeOf 10 = .ok (.ifCond .eq 11, 3) := by decide +kernel
theorem dX2_placeOf_13 : decode cX2_placeOf 13 = .ok (.aload_n 0, 1) := by decide +kernel
theorem dX2_placeOf_14 : decode cX2_placeOf 14 = .ok (.iload_n 1, 1) := by decide +kernel
theorem dX2_placeOf_15 : decode cX2_placeOf 15 = .ok (.invokevirtual 112, 3) := by decide +kernel
theorem dX2_placeOf_18 : decode cX2_placeOf 18 = .ok (.goto 8, 3) := by decide +kernel
theorem dX2_placeOf_21 : decode cX2_placeOf 21 = .ok (.aload_n 0, 1) := by decide +kernel
theorem dX2_placeOf_22 : decode cX2_placeOf 22 = .ok (.iconst 1, 1) := by decide +kernel
theorem dX2_placeOf_23 : decode cX2_placeOf 23 = .ok (.invokevirtual 85, 3) := by decide +kernel
theorem dX2_placeOf_26 : decode cX2_placeOf 26 = .ok (.ireturn, 1) := by decide +kernel
theorem dX2_rest_0 : decode cX2_rest 0 = .ok (.iconst 0, 1) := by decide +kernel
theorem dX2_rest_1 : decode cX2_rest 1 = .ok (.istore_n 2, 1) := by decide +kernel
theorem dX2_rest_2 : decode cX2_rest 2 = .ok (.iconst 0, 1) := by decide +kernel
theorem dX2_rest_3 : decode cX2_rest 3 = .ok (.istore_n 3, 1) := by decide +kernel
theorem dX2_rest_4 : decode cX2_rest 4 = .ok (.iload_n 3, 1) := by decide +kernel
theorem dX2_rest_5 : decode cX2_rest 5 = .ok (.aload_n 0, 1) := by decide +kernel
theorem dX2_rest_6 : decode cX2_rest 6 = .ok (.getfield 42, 3) := by decide +kernel
theorem dX2_rest_9 : decode cX2_rest 9 = .ok (.if_icmp .ge 34, 3) := by decide +kernel
theorem dX2_rest_12 : decode cX2_rest 12 = .ok (.iload_n 2, 1) := by decide +kernel
theorem dX2_rest_13 : decode cX2_rest 13 = .ok (.aload_n 0, 1) := by decide +kernel
theorem dX2_rest_14 : decode cX2_rest 14 = .ok (.getfield 16, 3) := by decide +kernel
theorem dX2_rest_17 : decode cX2_rest 17 = .ok (.iload_n 3, 1) := by decide +kernel
theorem dX2_rest_18 : decode cX2_rest 18 = .ok (.iaload, 1) := by decide +kernel
theorem dX2_rest_19 : decode cX2_rest 19 = .ok (.iload_n 1, 1) := by decide +kernel
theorem dX2_rest_20 : decode cX2_rest 20 = .ok (.if_icmp .ne 14, 3) := by decide +kernel
theorem dX2_rest_23 : decode cX2_rest 23 = .ok (.aload_n 0, 1) := by decide +kernel
theorem dX2_rest_24 : decode cX2_rest 24 = .ok (.getfield 22, 3) := by decide +kernel
theorem dX2_rest_27 : decode cX2_rest 27 = .ok (.iconst 3, 1) := by decide +kernel
theorem dX2_rest_28 : decode cX2_rest 28 = .ok (.iload_n 3, 1) := by decide +kernel
theorem dX2_rest_29 : decode cX2_rest 29 = .ok (.iadd, 1) := by decide +kernel
theorem dX2_rest_30 : decode cX2_rest 30 = .ok (.iaload, 1) := by decide +kernel
theorem dX2_rest_31 : decode cX2_rest 31 = .ok (.goto 4, 3) := by decide +kernel
theorem dX2_rest_34 : decode cX2_rest 34 = .ok (.iconst 0, 1) := by decide +kernel
theorem dX2_rest_35 : decode cX2_rest 35 = .ok (.iadd, 1) := by decide +kernel
theorem dX2_rest_36 : decode cX2_rest 36 = .ok (.istore_n 2, 1) := by decide +kernel
theorem dX2_rest_37 : decode cX2_rest 37 = .ok (.iinc 3 1, 3) := by decide +kernel
theorem dX2_rest_40 : decode cX2_rest 40 = .ok (.goto (-36), 3) := by decide +kernel
theorem dX2_rest_43 : decode cX2_rest 43 = .ok (.iload_n 2, 1) := by decide +kernel
theorem dX2_rest_44 : decode cX2_rest 44 = .ok (.ireturn, 1) := by decide +kernel
set_option maxRecDepth 20000 in
theorem ggX2_leftFor_X2_isIn : GoodIn wsX2_leftFor wsX2_isIn := goodIn_r _ [5] (by decide +kernel) (by decide +kernel)
set_option maxRecDepth 20000 in
theorem gX2_leftFor_X2_isIn : GoodIn wsX2_leftFor (va_wsS RX2 38 yX2_isIn wsX2_isIn) := goodIn_app (goodIn_of _ (by decide +kernel)) ggX2_leftFor_X2_isIn
set_option maxRecDepth 20000 in
theorem ggX2_leftFor_X2_rest : GoodIn wsX2_leftFor wsX2_rest := goodIn_r _ [9, 10, 11, 12, 17, 18, 19, 20, 21, 22, 23, 24, 25, 26, 27, 28] (by decide +kernel) (by decide +kernel)
set_option maxRecDepth 20000 in
theorem gX2_leftFor_X2_rest : GoodIn wsX2_leftFor (wsV RX2 115 RX2 yX2_rest wsX2_rest) := goodIn_app (goodIn_of _ (by decide +kernel)) ggX2_leftFor_X2_rest
set_option maxRecDepth 20000 in
theorem ggX2_leftFor_X2_fail : GoodIn wsX2_leftFor wsX2_fail := goodIn_r _ [16, 1, 17, 18, 19, 20, 21, 22, 23, 24, 25, 26, 27, 28] (by decide +kernel) (by decide +kernel)
set_option maxRecDepth 20000 in
theorem gX2_leftFor_X2_fail : GoodIn wsX2_leftFor (wsV RX2 85 RX2 yX2_fail wsX2_fail) := goodIn_app (goodIn_of _ (by decide +kernel)) ggX2_leftFor_X2_fail
theorem dX2_leftFor_0 : decode cX2_leftFor 0 = .ok (.aload_n 0, 1) := by decide +kernel
theorem dX2_leftFor_1 : decode cX2_leftFor 1 = .ok (.iconst 0, 1) := by decide +kernel
theorem dX2_leftFor_2 : decode cX2_leftFor 2 = .ok (.putfield 31, 3) := by decide +kernel
theorem dX2_leftFor_5 : decode cX2_leftFor 5 = .ok (.iload_n 1, 1) := by decide +kernel
theorem dX2_leftFor_6 : decode cX2_leftFor 6 = .ok (.iconst 0, 1) := by decide +kernel
theorem dX2_leftFor_7 : decode cX2_leftFor 7 = .ok (.bipush 7, 2) := by decide +kernel
theorem dX2_leftFor_9 : decode cX2_leftFor 9 = .ok (.invokestatic 38, 3) := by decide +kernel
theorem dX2_leftFor_12 : decode cX2_leftFor 12 = .ok (.ifCond .eq 11, 3) := by decide +kernel
theorem dX2_leftFor_15 : decode cX2_leftFor 15 = .ok (.aload_n 0, 1) := by decide +kernel
theorem dX2_leftFor_16 : decode cX2_leftFor 16 = .ok (.iload_n 1, 1) := by decide +kernel
theorem dX2_leftFor_17 : decode cX2_leftFor 17 = .ok (.invokevirtual 115, 3) := by decide +kernel
theorem dX2_leftFor_20 : decode cX2_leftFor 20 = .ok (.goto 8, 3) := by decide +kernel
theorem dX2_leftFor_23 : decode cX2_leftFor 23 = .ok (.aload_n 0, 1) := by decide +kernel
theorem dX2_leftFor_24 : decode cX2_leftFor 24 = .ok (.iconst 1, 1) := by decide +kernel
theorem dX2_leftFor_25 : decode cX2_leftFor 25 = .ok (.invokevirtual 85, 3) := by decide +kernel
theorem dX2_leftFor_28 : decode cX2_leftFor 28 = .ok (.ireturn, 1) := by decide +kernel
set_option maxRecDepth 20000 in
theorem ggX2_lost_X2_isDone : GoodIn wsX2_lost wsX2_isDone := goodIn_r _ [12, 2, 13, 14, 15, 16, 17, 18, 19, 20, 21, 22, 23, 24] (by decide +kernel) (by decide +kernel)
set_option maxRecDepth 20000 in
theorem gX2_lost_X2_isDone : GoodIn wsX2_lost (wsV RX2 54 RX2 yX2_isDone wsX2_isDone) := goodIn_app (goodIn_of _ (by decide +kernel)) ggX2_lost_X2_isDone
theorem dX2_lost_0 : decode cX2_lost 0 = .ok (.iconst 0, 1) := by decide +kernel
theorem dX2_lost_1 : decode cX2_lost 1 = .ok (.istore_n 2, 1) := by decide +kernel
theorem dX2_lost_2 : decode cX2_lost 2 = .ok (.iconst 0, 1) := by decide +kernel
theorem dX2_lost_3 : decode cX2_lost 3 = .ok (.istore_n 3, 1) := by decide +kernel
theorem dX2_lost_4 : decode cX2_lost 4 = .ok (.iload_n 3, 1) := by decide +kernel
theorem dX2_lost_5 : decode cX2_lost 5 = .ok (.aload_n 0, 1) := by decide +kernel
theorem dX2_lost_6 : decode cX2_lost 6 = .ok (.getfield 42, 3) := by decide +kernel
theorem dX2_lost_9 : decode cX2_lost 9 = .ok (.if_icmp .ge 44, 3) := by decide +kernel
theorem dX2_lost_12 : decode cX2_lost 12 = .ok (.iload_n 2, 1) := by decide +kernel
theorem dX2_lost_13 : decode cX2_lost 13 = .ok (.aload_n 0, 1) := by decide +kernel
theorem dX2_lost_14 : decode cX2_lost 14 = .ok (.iload_n 3, 1) := by decide +kernel
theorem dX2_lost_15 : decode cX2_lost 15 = .ok (.invokevirtual 54, 3) := by decide +kernel
theorem dX2_lost_18 : decode cX2_lost 18 = .ok (.ifCond .eq 26, 3) := by decide +kernel
theorem dX2_lost_21 : decode cX2_lost 21 = .ok (.iconst 0, 1) := by decide +kernel
theorem dX2_lost_22 : decode cX2_lost 22 = .ok (.aload_n 0, 1) := by decide +kernel
theorem dX2_lost_23 : decode cX2_lost 23 = .ok (.getfield 22, 3) := by decide +kernel
theorem dX2_lost_26 : decode cX2_lost 26 = .ok (.bipush 19, 2) := by decide +kernel
theorem dX2_lost_28 : decode cX2_lost 28 = .ok (.iload_n 3, 1) := by decide +kernel
theorem dX2_lost_29 : decode cX2_lost 29 = .ok (.iadd, 1) := by decide +kernel
theorem dX2_lost_30 : decode cX2_lost 30 = .ok (.iaload, 1) := by decide +kernel
theorem dX2_lost_31 : decode cX2_lost 31 = .ok (.aload_n 0, 1) := by decide +kernel
theorem dX2_lost_32 : decode cX2_lost 32 = .ok (.getfield 19, 3) := by decide +kernel
theorem dX2_lost_35 : decode cX2_lost 35 = .ok (.iload_n 3, 1) := by decide +kernel
theorem dX2_lost_36 : decode cX2_lost 36 = .ok (.iaload, 1) := by decide +kernel
theorem dX2_lost_37 : decode cX2_lost 37 = .ok (.isub, 1) := by decide +kernel
theorem dX2_lost_38 : decode cX2_lost 38 = .ok (.invokestatic 118, 3) := by decide +kernel
theorem dX2_lost_41 : decode cX2_lost 41 = .ok (.goto 4, 3) := by decide +kernel
theorem dX2_lost_44 : decode cX2_lost 44 = .ok (.iload_n 1, 1) := by decide +kernel
theorem dX2_lost_45 : decode cX2_lost 45 = .ok (.iadd, 1) := by decide +kernel
theorem dX2_lost_46 : decode cX2_lost 46 = .ok (.istore_n 2, 1) := by decide +kernel
theorem dX2_lost_47 : decode cX2_lost 47 = .ok (.iinc 3 1, 3) := by decide +kernel
theorem dX2_lost_50 : decode cX2_lost 50 = .ok (.goto (-46), 3) := by decide +kernel
theorem dX2_lost_53 : decode cX2_lost 53 = .ok (.iload_n 2, 1) := by decide +kernel
theorem dX2_lost_54 : decode cX2_lost 54 = .ok (.ireturn, 1) := by decide +kernel
set_option maxRecDepth 20000 in
theorem ggX2_late_X2_lost : GoodIn wsX2_late wsX2_lost := goodIn_r _ [5, 6, 7, 8, 9, 10, 11, 12, 13, 14, 15, 4, 16, 22, 23, 24, 25, 26, 27, 28, 29, 30, 31, 32, 33] (by decide +kernel) (by decide +kernel)
set_option maxRecDepth 20000 in
theorem gX2_late_X2_lost : GoodIn wsX2_late (wsV RX2 121 RX2 yX2_lost wsX2_lost) := goodIn_app (goodIn_of _ (by decide +kernel)) ggX2_late_X2_lost
set_option maxRecDepth 20000 in
theorem ggX2_late_X2_told : GoodIn wsX2_late wsX2_told := goodIn_r _ [20, 21, 22, 23, 24, 25, 26, 27, 28, 29, 30, 31, 32, 33] (by decide +kernel) (by decide +kernel)
set_option maxRecDepth 20000 in
theorem gX2_late_X2_told : GoodIn wsX2_late (wsV RX2 99 RX2 yX2_told wsX2_told) := goodIn_app (goodIn_of _ (by decide +kernel)) ggX2_late_X2_told
theorem dX2_late_0 : decode cX2_late 0 = .ok (.aload_n 0, 1) := by decide +kernel
theorem dX2_late_1 : decode cX2_late 1 = .ok (.aload_n 0, 1) := by decide +kernel
theorem dX2_late_2 : decode cX2_late 2 = .ok (.iconst 0, 1) := by decide +kernel
theorem dX2_late_3 : decode cX2_late 3 = .ok (.invokevirtual 121, 3) := by decide +kernel
theorem dX2_late_6 : decode cX2_late 6 = .ok (.invokevirtual 99, 3) := by decide +kernel
theorem dX2_late_9 : decode cX2_late 9 = .ok (.ireturn, 1) := by decide +kernel
set_option maxRecDepth 20000 in
theorem ggX2_groundThen_X2_keep : GoodIn wsX2_groundThen wsX2_keep := goodIn_r _ [6, 1, 7, 8, 9, 10, 11, 56, 57, 58, 59, 60, 61, 62, 63, 64, 65, 66, 67] (by decide +kernel) (by decide +kernel)
set_option maxRecDepth 20000 in
theorem gX2_groundThen_X2_keep : GoodIn wsX2_groundThen (wsV RX2 124 RX2 yX2_keep wsX2_keep) := goodIn_app (goodIn_of _ (by decide +kernel)) ggX2_groundThen_X2_keep
set_option maxRecDepth 20000 in
theorem ggX2_groundThen_X2_hoursOn : GoodIn wsX2_groundThen wsX2_hoursOn := goodIn_r _ [15, 16, 17, 18, 5, 19, 20, 21, 1, 22, 23, 24, 25, 26, 27, 28, 29, 30, 31, 32, 33, 34, 35, 36, 37, 38, 39, 40, 41, 42, 43, 44, 45, 46, 47, 48, 49, 50, 51, 56, 57, 58, 59, 60, 61, 62, 63, 64, 65, 66, 67] (by decide +kernel) (by decide +kernel)
set_option maxRecDepth 20000 in
theorem gX2_groundThen_X2_hoursOn : GoodIn wsX2_groundThen (wsV RX2 95 RX2 yX2_hoursOn wsX2_hoursOn) := goodIn_app (goodIn_of _ (by decide +kernel)) ggX2_groundThen_X2_hoursOn
set_option maxRecDepth 20000 in
theorem ggX2_groundThen_X2_bringBack : GoodIn wsX2_groundThen wsX2_bringBack := goodIn_r _ [55, 7, 1, 8, 9, 10, 11, 56, 57, 58, 59, 60, 61, 62, 63, 64, 65, 66, 67] (by decide +kernel) (by decide +kernel)
set_option maxRecDepth 20000 in
theorem gX2_groundThen_X2_bringBack : GoodIn wsX2_groundThen (wsV RX2 127 RX2 yX2_bringBack wsX2_bringBack) := goodIn_app (goodIn_of _ (by decide +kernel)) ggX2_groundThen_X2_bringBack
theorem dX2_groundThen_0 : decode cX2_groundThen 0 = .ok (.aload_n 0, 1) := by decide +kernel
theorem dX2_groundThen_1 : decode cX2_groundThen 1 = .ok (.invokevirtual 124, 3) := by decide +kernel
theorem dX2_groundThen_4 : decode cX2_groundThen 4 = .ok (.aload_n 0, 1) := by decide +kernel
theorem dX2_groundThen_5 : decode cX2_groundThen 5 = .ok (.sipush 200, 3) := by decide +kernel
theorem dX2_groundThen_8 : decode cX2_groundThen 8 = .ok (.invokevirtual 95, 3) := by decide +kernel
theorem dX2_groundThen_11 : decode cX2_groundThen 11 = .ok (.aload_n 0, 1) := by decide +kernel
theorem dX2_groundThen_12 : decode cX2_groundThen 12 = .ok (.getfield 22, 3) := by decide +kernel
theorem dX2_groundThen_15 : decode cX2_groundThen 15 = .ok (.bipush 19, 2) := by decide +kernel
theorem dX2_groundThen_17 : decode cX2_groundThen 17 = .ok (.iload_n 1, 1) := by decide +kernel
theorem dX2_groundThen_18 : decode cX2_groundThen 18 = .ok (.iadd, 1) := by decide +kernel
theorem dX2_groundThen_19 : decode cX2_groundThen 19 = .ok (.iaload, 1) := by decide +kernel
theorem dX2_groundThen_20 : decode cX2_groundThen 20 = .ok (.istore_n 2, 1) := by decide +kernel
theorem dX2_groundThen_21 : decode cX2_groundThen 21 = .ok (.aload_n 0, 1) := by decide +kernel
theorem dX2_groundThen_22 : decode cX2_groundThen 22 = .ok (.invokevirtual 127, 3) := by decide +kernel
theorem dX2_groundThen_25 : decode cX2_groundThen 25 = .ok (.iload_n 2, 1) := by decide +kernel
theorem dX2_groundThen_26 : decode cX2_groundThen 26 = .ok (.ireturn, 1) := by decide +kernel
set_option maxRecDepth 20000 in
theorem ggX2_willBeGroundAt_X2_isSack : GoodIn wsX2_willBeGroundAt wsX2_isSack := goodIn_r _ [6, 7, 8, 9, 5, 10, 72, 73, 74, 75, 76, 77, 78, 79, 80, 81, 82, 83] (by decide +kernel) (by decide +kernel)
set_option maxRecDepth 20000 in
theorem gX2_willBeGroundAt_X2_isSack : GoodIn wsX2_willBeGroundAt (wsV RX2 92 RX2 yX2_isSack wsX2_isSack) := goodIn_app (goodIn_of _ (by decide +kernel)) ggX2_willBeGroundAt_X2_isSack
set_option maxRecDepth 20000 in
theorem ggX2_willBeGroundAt_X2_groundThen : GoodIn wsX2_willBeGroundAt wsX2_groundThen := goodIn_r _ [14, 15, 16, 17, 18, 5, 19, 20, 21, 22, 23, 24, 25, 26, 27, 28, 29, 30, 31, 32, 7, 33, 34, 35, 36, 37, 38, 39, 40, 41, 42, 43, 44, 45, 46, 47, 48, 49, 50, 51, 52, 53, 54, 55, 56, 57, 58, 59, 60, 61, 62, 63, 64, 65, 66, 67, 72, 73, 74, 75, 76, 77, 78, 79, 80, 81, 82, 83] (by decide +kernel) (by decide +kernel)
set_option maxRecDepth 20000 in
theorem gX2_willBeGroundAt_X2_groundThen : GoodIn wsX2_willBeGroundAt (wsV RX2 130 RX2 yX2_groundThen wsX2_groundThen) := goodIn_app (goodIn_of _ (by decide +kernel)) ggX2_willBeGroundAt_X2_groundThen
set_option maxRecDepth 20000 in
theorem ggX2_willBeGroundAt_X2_fail : GoodIn wsX2_willBeGroundAt wsX2_fail := goodIn_r _ [71, 1, 72, 73, 74, 75, 76, 77, 78, 79, 80, 81, 82, 83] (by decide +kernel) (by decide +kernel)
set_option maxRecDepth 20000 in
theorem gX2_willBeGroundAt_X2_fail : GoodIn wsX2_willBeGroundAt (wsV RX2 85 RX2 yX2_fail wsX2_fail) := goodIn_app (goodIn_of _ (by decide +kernel)) ggX2_willBeGroundAt_X2_fail
theorem dX2_willBeGroundAt_0 : decode cX2_willBeGroundAt 0 = .ok (.aload_n 0, 1) := by decide +kernel
theorem dX2_willBeGroundAt_1 : decode cX2_willBeGroundAt 1 = .ok (.iconst 0, 1) := by decide +kernel
theorem dX2_willBeGroundAt_2 : decode cX2_willBeGroundAt 2 = .ok (.putfield 31, 3) := by decide +kernel
theorem dX2_willBeGroundAt_5 : decode cX2_willBeGroundAt 5 = .ok (.aload_n 0, 1) := by decide +kernel
theorem dX2_willBeGroundAt_6 : decode cX2_willBeGroundAt 6 = .ok (.iload_n 1, 1) := by decide +kernel
theorem dX2_willBeGroundAt_7 : decode cX2_willBeGroundAt 7 = .ok (.invokevirtual 92, 3) := by decide +kernel
theorem dX2_willBeGroundAt_10 : decode cX2_willBeGroundAt 10 = .ok (.ifCond .eq 11, 3) := by decide +kernel
theorem dX2_willBeGroundAt_13 : decode cX2_willBeGroundAt 13 = .ok (.aload_n 0, 1) := by decide +kernel
theorem dX2_willBeGroundAt_14 : decode cX2_willBeGroundAt 14 = .ok (.iload_n 1, 1) := by decide +kernel
theorem dX2_willBeGroundAt_15 : decode cX2_willBeGroundAt 15 = .ok (.invokevirtual 130, 3) := by decide +kernel
theorem dX2_willBeGroundAt_18 : decode cX2_willBeGroundAt 18 = .ok (.goto 8, 3) := by decide +kernel
theorem dX2_willBeGroundAt_21 : decode cX2_willBeGroundAt 21 = .ok (.aload_n 0, 1) := by decide +kernel
theorem dX2_willBeGroundAt_22 : decode cX2_willBeGroundAt 22 = .ok (.iconst 1, 1) := by decide +kernel
theorem dX2_willBeGroundAt_23 : decode cX2_willBeGroundAt 23 = .ok (.invokevirtual 85, 3) := by decide +kernel
theorem dX2_willBeGroundAt_26 : decode cX2_willBeGroundAt 26 = .ok (.ireturn, 1) := by decide +kernel
set_option maxRecDepth 20000 in
theorem ggX2_spareOf_X2_isSack : GoodIn wsX2_spareOf wsX2_isSack := goodIn_r _ [7, 8, 9, 10, 6, 11, 72, 73, 74, 75, 76, 77, 78, 79, 80, 81, 82, 83] (by decide +kernel) (by decide +kernel)
set_option maxRecDepth 20000 in
theorem gX2_spareOf_X2_isSack : GoodIn wsX2_spareOf (wsV RX2 92 RX2 yX2_isSack wsX2_isSack) := goodIn_app (goodIn_of _ (by decide +kernel)) ggX2_spareOf_X2_isSack
set_option maxRecDepth 20000 in
theorem ggX2_spareOf_X2_fail : GoodIn wsX2_spareOf wsX2_fail := goodIn_r _ [15, 1, 72, 73, 74, 75, 76, 77, 78, 79, 80, 81, 82, 83] (by decide +kernel) (by decide +kernel)
set_option maxRecDepth 20000 in
theorem gX2_spareOf_X2_fail : GoodIn wsX2_spareOf (wsV RX2 85 RX2 yX2_fail wsX2_fail) := goodIn_app (goodIn_of _ (by decide +kernel)) ggX2_spareOf_X2_fail
set_option maxRecDepth 20000 in
theorem ggX2_spareOf_X2_groundThen : GoodIn wsX2_spareOf wsX2_groundThen := goodIn_r _ [19, 20, 21, 22, 23, 6, 24, 25, 26, 27, 28, 29, 30, 31, 32, 33, 34, 35, 36, 37, 8, 38, 39, 40, 41, 42, 43, 44, 45, 46, 47, 48, 49, 50, 51, 52, 53, 54, 55, 56, 57, 58, 59, 2, 60, 61, 62, 63, 64, 65, 66, 67, 68, 69, 70, 71, 72, 73, 74, 75, 76, 77, 78, 79, 80, 81, 82, 83] (by decide +kernel) (by decide +kernel)
set_option maxRecDepth 20000 in
theorem gX2_spareOf_X2_groundThen : GoodIn wsX2_spareOf (wsV RX2 130 RX2 yX2_groundThen wsX2_groundThen) := goodIn_app (goodIn_of _ (by decide +kernel)) ggX2_spareOf_X2_groundThen
theorem dX2_spareOf_0 : decode cX2_spareOf 0 = .ok (.aload_n 0, 1) := by decide +kernel
theorem dX2_spareOf_1 : decode cX2_spareOf 1 = .ok (.iconst 0, 1) := by decide +kernel
theorem dX2_spareOf_2 : decode cX2_spareOf 2 = .ok (.putfield 31, 3) := by decide +kernel
theorem dX2_spareOf_5 : decode cX2_spareOf 5 = .ok (.aload_n 0, 1) := by decide +kernel
theorem dX2_spareOf_6 : decode cX2_spareOf 6 = .ok (.iload_n 1, 1) := by decide +kernel
theorem dX2_spareOf_7 : decode cX2_spareOf 7 = .ok (.invokevirtual 92, 3) := by decide +kernel
theorem dX2_spareOf_10 : decode cX2_spareOf 10 = .ok (.ifCond .ne 9, 3) := by decide +kernel
theorem dX2_spareOf_13 : decode cX2_spareOf 13 = .ok (.aload_n 0, 1) := by decide +kernel
theorem dX2_spareOf_14 : decode cX2_spareOf 14 = .ok (.iconst 1, 1) := by decide +kernel
theorem dX2_spareOf_15 : decode cX2_spareOf 15 = .ok (.invokevirtual 85, 3) := by decide +kernel
theorem dX2_spareOf_18 : decode cX2_spareOf 18 = .ok (.ireturn, 1) := by decide +kernel
theorem dX2_spareOf_19 : decode cX2_spareOf 19 = .ok (.aload_n 0, 1) := by decide +kernel
theorem dX2_spareOf_20 : decode cX2_spareOf 20 = .ok (.iload_n 1, 1) := by decide +kernel
theorem dX2_spareOf_21 : decode cX2_spareOf 21 = .ok (.invokevirtual 130, 3) := by decide +kernel
theorem dX2_spareOf_24 : decode cX2_spareOf 24 = .ok (.istore_n 2, 1) := by decide +kernel
theorem dX2_spareOf_25 : decode cX2_spareOf 25 = .ok (.iload_n 2, 1) := by decide +kernel
theorem dX2_spareOf_26 : decode cX2_spareOf 26 = .ok (.iconst (-1), 1) := by decide +kernel
theorem dX2_spareOf_27 : decode cX2_spareOf 27 = .ok (.if_icmp .ne 9, 3) := by decide +kernel
theorem dX2_spareOf_30 : decode cX2_spareOf 30 = .ok (.sipush (-999), 3) := by decide +kernel
theorem dX2_spareOf_33 : decode cX2_spareOf 33 = .ok (.goto 11, 3) := by decide +kernel
theorem dX2_spareOf_36 : decode cX2_spareOf 36 = .ok (.aload_n 0, 1) := by decide +kernel
theorem dX2_spareOf_37 : decode cX2_spareOf 37 = .ok (.getfield 19, 3) := by decide +kernel
theorem dX2_spareOf_40 : decode cX2_spareOf 40 = .ok (.iload_n 1, 1) := by decide +kernel
theorem dX2_spareOf_41 : decode cX2_spareOf 41 = .ok (.iaload, 1) := by decide +kernel
theorem dX2_spareOf_42 : decode cX2_spareOf 42 = .ok (.iload_n 2, 1) := by decide +kernel
theorem dX2_spareOf_43 : decode cX2_spareOf 43 = .ok (.isub, 1) := by decide +kernel
theorem dX2_spareOf_44 : decode cX2_spareOf 44 = .ok (.ireturn, 1) := by decide +kernel
set_option maxRecDepth 20000 in
theorem ggX2_lostBy_X2_keep : GoodIn wsX2_lostBy wsX2_keep := goodIn_r _ [7, 8, 9, 10, 11, 12, 13, 63, 64, 65, 66, 67, 68, 69, 70, 71, 72, 73, 74] (by decide +kernel) (by decide +kernel)
set_option maxRecDepth 20000 in
theorem gX2_lostBy_X2_keep : GoodIn wsX2_lostBy (wsV RX2 124 RX2 yX2_keep wsX2_keep) := goodIn_app (goodIn_of _ (by decide +kernel)) ggX2_lostBy_X2_keep
set_option maxRecDepth 20000 in
theorem ggX2_lostBy_X2_hoursOn : GoodIn wsX2_lostBy wsX2_hoursOn := goodIn_r _ [17, 18, 19, 20, 6, 21, 22, 2, 8, 23, 24, 25, 26, 27, 28, 29, 30, 31, 32, 33, 34, 35, 36, 37, 38, 39, 40, 41, 42, 1, 43, 44, 45, 46, 47, 48, 49, 50, 51, 63, 64, 65, 66, 67, 68, 69, 70, 71, 72, 73, 74] (by decide +kernel) (by decide +kernel)
set_option maxRecDepth 20000 in
theorem gX2_lostBy_X2_hoursOn : GoodIn wsX2_lostBy (wsV RX2 95 RX2 yX2_hoursOn wsX2_hoursOn) := goodIn_app (goodIn_of _ (by decide +kernel)) ggX2_lostBy_X2_hoursOn
set_option maxRecDepth 20000 in
theorem ggX2_lostBy_X2_lost : GoodIn wsX2_lostBy wsX2_lost := goodIn_r _ [55, 22, 8, 43, 56, 57, 29, 58, 35, 36, 37, 6, 38, 63, 64, 65, 66, 67, 68, 69, 70, 71, 72, 73, 74] (by decide +kernel) (by decide +kernel)
set_option maxRecDepth 20000 in
theorem gX2_lostBy_X2_lost : GoodIn wsX2_lostBy (wsV RX2 121 RX2 yX2_lost wsX2_lost) := goodIn_app (goodIn_of _ (by decide +kernel)) ggX2_lostBy_X2_lost
set_option maxRecDepth 20000 in
theorem ggX2_lostBy_X2_bringBack : GoodIn wsX2_lostBy wsX2_bringBack := goodIn_r _ [62, 9, 8, 10, 11, 12, 13, 63, 64, 65, 66, 67, 68, 69, 70, 71, 72, 73, 74] (by decide +kernel) (by decide +kernel)
set_option maxRecDepth 20000 in
theorem gX2_lostBy_X2_bringBack : GoodIn wsX2_lostBy (wsV RX2 127 RX2 yX2_bringBack wsX2_bringBack) := goodIn_app (goodIn_of _ (by decide +kernel)) ggX2_lostBy_X2_bringBack
theorem dX2_lostBy_0 : decode cX2_lostBy 0 = .ok (.aload_n 0, 1) := by decide +kernel
theorem dX2_lostBy_1 : decode cX2_lostBy 1 = .ok (.getfield 51, 3) := by decide +kernel
theorem dX2_lostBy_4 : decode cX2_lostBy 4 = .ok (.istore_n 3, 1) := by decide +kernel
theorem dX2_lostBy_5 : decode cX2_lostBy 5 = .ok (.aload_n 0, 1) := by decide +kernel
theorem dX2_lostBy_6 : decode cX2_lostBy 6 = .ok (.getfield 62, 3) := by decide +kernel
theorem dX2_lostBy_9 : decode cX2_lostBy 9 = .ok (.istore 4, 2) := by decide +kernel
theorem dX2_lostBy_11 : decode cX2_lostBy 11 = .ok (.aload_n 0, 1) := by decide +kernel
theorem dX2_lostBy_12 : decode cX2_lostBy 12 = .ok (.iload_n 1, 1) := by decide +kernel
theorem dX2_lostBy_13 : decode cX2_lostBy 13 = .ok (.putfield 51, 3) := by decide +kernel
theorem dX2_lostBy_16 : decode cX2_lostBy 16 = .ok (.aload_n 0, 1) := by decide +kernel
theorem dX2_lostBy_17 : decode cX2_lostBy 17 = .ok (.iload_n 2, 1) := by decide +kernel
theorem dX2_lostBy_18 : decode cX2_lostBy 18 = .ok (.putfield 62, 3) := by decide +kernel
theorem dX2_lostBy_21 : decode cX2_lostBy 21 = .ok (.aload_n 0, 1) := by decide +kernel
theorem dX2_lostBy_22 : decode cX2_lostBy 22 = .ok (.invokevirtual 124, 3) := by decide +kernel
theorem dX2_lostBy_25 : decode cX2_lostBy 25 = .ok (.aload_n 0, 1) := by decide +kernel
theorem dX2_lostBy_26 : decode cX2_lostBy 26 = .ok (.sipush 200, 3) := by decide +kernel
theorem dX2_lostBy_29 : decode cX2_lostBy 29 = .ok (.invokevirtual 95, 3) := by decide +kernel
theorem dX2_lostBy_32 : decode cX2_lostBy 32 = .ok (.aload_n 0, 1) := by decide +kernel
theorem dX2_lostBy_33 : decode cX2_lostBy 33 = .ok (.sipush 200, 3) := by decide +kernel
theorem dX2_lostBy_36 : decode cX2_lostBy 36 = .ok (.invokevirtual 121, 3) := by decide +kernel
theorem dX2_lostBy_39 : decode cX2_lostBy 39 = .ok (.istore 5, 2) := by decide +kernel
theorem dX2_lostBy_41 : decode cX2_lostBy 41 = .ok (.aload_n 0, 1) := by decide +kernel
theorem dX2_lostBy_42 : decode cX2_lostBy 42 = .ok (.invokevirtual 127, 3) := by decide +kernel
theorem dX2_lostBy_45 : decode cX2_lostBy 45 = .ok (.aload_n 0, 1) := by decide +kernel
theorem dX2_lostBy_46 : decode cX2_lostBy 46 = .ok (.iload_n 3, 1) := by decide +kernel
theorem dX2_lostBy_47 : decode cX2_lostBy 47 = .ok (.putfield 51, 3) := by decide +kernel
theorem dX2_lostBy_50 : decode cX2_lostBy 50 = .ok (.aload_n 0, 1) := by decide +kernel
theorem dX2_lostBy_51 : decode cX2_lostBy 51 = .ok (.iload 4, 2) := by decide +kernel
theorem dX2_lostBy_53 : decode cX2_lostBy 53 = .ok (.putfield 62, 3) := by decide +kernel
theorem dX2_lostBy_56 : decode cX2_lostBy 56 = .ok (.iload 5, 2) := by decide +kernel
theorem dX2_lostBy_58 : decode cX2_lostBy 58 = .ok (.ireturn, 1) := by decide +kernel
set_option maxRecDepth 20000 in
theorem ggX2_lateWith_X2_isIn : GoodIn wsX2_lateWith wsX2_isIn := goodIn_r _ [5] (by decide +kernel) (by decide +kernel)
set_option maxRecDepth 20000 in
theorem gX2_lateWith_X2_isIn : GoodIn wsX2_lateWith (va_wsS RX2 38 yX2_isIn wsX2_isIn) := goodIn_app (goodIn_of _ (by decide +kernel)) ggX2_lateWith_X2_isIn
set_option maxRecDepth 20000 in
theorem ggX2_lateWith_X2_lostBy : GoodIn wsX2_lateWith wsX2_lostBy := goodIn_r _ [9, 10, 11, 12, 13, 14, 4, 15, 16, 17, 18, 19, 20, 21, 22, 23, 24, 25, 26, 27, 28, 29, 30, 31, 32, 33, 34, 35, 36, 37, 38, 39, 40, 41, 42, 43, 44, 45, 46, 47, 48, 49, 50, 51, 52, 53, 54, 55, 56, 57, 58, 59, 60, 61, 62, 63, 64, 65, 66, 67, 68, 69, 70, 75, 76, 77, 78, 79, 80, 81, 82, 83, 84, 85, 86] (by decide +kernel) (by decide +kernel)
set_option maxRecDepth 20000 in
theorem gX2_lateWith_X2_lostBy : GoodIn wsX2_lateWith (wsV RX2 133 RX2 yX2_lostBy wsX2_lostBy) := goodIn_app (goodIn_of _ (by decide +kernel)) ggX2_lateWith_X2_lostBy
set_option maxRecDepth 20000 in
theorem ggX2_lateWith_X2_fail : GoodIn wsX2_lateWith wsX2_fail := goodIn_r _ [74, 1, 75, 76, 77, 78, 79, 80, 81, 82, 83, 84, 85, 86] (by decide +kernel) (by decide +kernel)
set_option maxRecDepth 20000 in
theorem gX2_lateWith_X2_fail : GoodIn wsX2_lateWith (wsV RX2 85 RX2 yX2_fail wsX2_fail) := goodIn_app (goodIn_of _ (by decide +kernel)) ggX2_lateWith_X2_fail
theorem dX2_lateWith_0 : decode cX2_lateWith 0 = .ok (.aload_n 0, 1) := by decide +kernel
theorem dX2_lateWith_1 : decode cX2_lateWith 1 = .ok (.iconst 0, 1) := by decide +kernel
theorem dX2_lateWith_2 : decode cX2_lateWith 2 = .ok (.putfield 31, 3) := by decide +kernel
theorem dX2_lateWith_5 : decode cX2_lateWith 5 = .ok (.iload_n 1, 1) := by decide +kernel
theorem dX2_lateWith_6 : decode cX2_lateWith 6 = .ok (.iconst 0, 1) := by decide +kernel
theorem dX2_lateWith_7 : decode cX2_lateWith 7 = .ok (.iconst 2, 1) := by decide +kernel
theorem dX2_lateWith_8 : decode cX2_lateWith 8 = .ok (.invokestatic 38, 3) := by decide +kernel
theorem dX2_lateWith_11 : decode cX2_lateWith 11 = .ok (.ifCond .eq 12, 3) := by decide +kernel
theorem dX2_lateWith_14 : decode cX2_lateWith 14 = .ok (.aload_n 0, 1) := by decide +kernel
theorem dX2_lateWith_15 : decode cX2_lateWith 15 = .ok (.iload_n 1, 1) := by decide +kernel
theorem dX2_lateWith_16 : decode cX2_lateWith 16 = .ok (.iload_n 2, 1) := by decide +kernel
theorem dX2_lateWith_17 : decode cX2_lateWith 17 = .ok (.invokevirtual 133, 3) := by decide +kernel
theorem dX2_lateWith_20 : decode cX2_lateWith 20 = .ok (.goto 8, 3) := by decide +kernel
theorem dX2_lateWith_23 : decode cX2_lateWith 23 = .ok (.aload_n 0, 1) := by decide +kernel
theorem dX2_lateWith_24 : decode cX2_lateWith 24 = .ok (.iconst 1, 1) := by decide +kernel
theorem dX2_lateWith_25 : decode cX2_lateWith 25 = .ok (.invokevirtual 85, 3) := by decide +kernel
theorem dX2_lateWith_28 : decode cX2_lateWith 28 = .ok (.ireturn, 1) := by decide +kernel
set_option maxRecDepth 20000 in
theorem ggX2_best_X2_lostBy : GoodIn wsX2_best wsX2_lostBy := goodIn_r _ [6, 7, 1, 8, 9, 10, 5, 11, 12, 13, 14, 15, 16, 17, 18, 19, 20, 21, 22, 23, 24, 25, 26, 27, 28, 29, 30, 31, 32, 33, 34, 35, 36, 37, 38, 39, 40, 41, 42, 43, 44, 45, 46, 47, 48, 49, 50, 51, 52, 53, 54, 55, 56, 57, 58, 59, 60, 61, 62, 63, 64, 65, 66, 67, 68, 69, 70, 71, 72, 73, 74, 75, 76, 77, 78] (by decide +kernel) (by decide +kernel)
set_option maxRecDepth 20000 in
theorem gX2_best_X2_lostBy : GoodIn wsX2_best (wsV RX2 133 RX2 yX2_lostBy wsX2_lostBy) := goodIn_app (goodIn_of _ (by decide +kernel)) ggX2_best_X2_lostBy
theorem dX2_best_0 : decode cX2_best 0 = .ok (.iconst 0, 1) := by decide +kernel
theorem dX2_best_1 : decode cX2_best 1 = .ok (.istore_n 1, 1) := by decide +kernel
theorem dX2_best_2 : decode cX2_best 2 = .ok (.aload_n 0, 1) := by decide +kernel
theorem dX2_best_3 : decode cX2_best 3 = .ok (.iconst 0, 1) := by decide +kernel
theorem dX2_best_4 : decode cX2_best 4 = .ok (.aload_n 0, 1) := by decide +kernel
theorem dX2_best_5 : decode cX2_best 5 = .ok (.getfield 62, 3) := by decide +kernel
theorem dX2_best_8 : decode cX2_best 8 = .ok (.invokevirtual 133, 3) := by decide +kernel
theorem dX2_best_11 : decode cX2_best 11 = .ok (.istore_n 2, 1) := by decide +kernel
theorem dX2_best_12 : decode cX2_best 12 = .ok (.iconst 1, 1) := by decide +kernel
theorem dX2_best_13 : decode cX2_best 13 = .ok (.istore_n 3, 1) := by decide +kernel
theorem dX2_best_14 : decode cX2_best 14 = .ok (.iload_n 3, 1) := by decide +kernel
theorem dX2_best_15 : decode cX2_best 15 = .ok (.iconst 3, 1) := by decide +kernel
theorem dX2_best_16 : decode cX2_best 16 = .ok (.if_icmp .ge 34, 3) := by decide +kernel
theorem dX2_best_19 : decode cX2_best 19 = .ok (.aload_n 0, 1) := by decide +kernel
theorem dX2_best_20 : decode cX2_best 20 = .ok (.iload_n 3, 1) := by decide +kernel
theorem dX2_best_21 : decode cX2_best 21 = .ok (.aload_n 0, 1) := by decide +kernel
theorem dX2_best_22 : decode cX2_best 22 = .ok (.getfield 62, 3) := by decide +kernel
theorem dX2_best_25 : decode cX2_best 25 = .ok (.invokevirtual 133, 3) := by decide +kernel
theorem dX2_best_28 : decode cX2_best 28 = .ok (.istore 4, 2) := by decide +kernel
theorem dX2_best_30 : decode cX2_best 30 = .ok (.iload 4, 2) := by decide +kernel
theorem dX2_best_32 : decode cX2_best 32 = .ok (.iload_n 2, 1) := by decide +kernel
theorem dX2_best_33 : decode cX2_best 33 = .ok (.if_icmp .lt 6, 3) := by decide +kernel
theorem dX2_best_36 : decode cX2_best 36 = .ok (.goto 8, 3) := by decide +kernel
theorem dX2_best_39 : decode cX2_best 39 = .ok (.iload_n 3, 1) := by decide +kernel
theorem dX2_best_40 : decode cX2_best 40 = .ok (.istore_n 1, 1) := by decide +kernel
theorem dX2_best_41 : decode cX2_best 41 = .ok (.iload 4, 2) := by decide +kernel
theorem dX2_best_43 : decode cX2_best 43 = .ok (.istore_n 2, 1) := by decide +kernel
theorem dX2_best_44 : decode cX2_best 44 = .ok (.iinc 3 1, 3) := by decide +kernel
theorem dX2_best_47 : decode cX2_best 47 = .ok (.goto (-33), 3) := by decide +kernel
theorem dX2_best_50 : decode cX2_best 50 = .ok (.iload_n 1, 1) := by decide +kernel
theorem dX2_best_51 : decode cX2_best 51 = .ok (.ireturn, 1) := by decide +kernel
set_option maxRecDepth 20000 in
theorem ggX2_bestRule_X2_best : GoodIn wsX2_bestRule wsX2_best := goodIn_r _ [5, 6, 7, 8, 9, 4, 10, 11, 12, 13, 14, 15, 16, 17, 18, 19, 20, 21, 22, 23, 24, 25, 26, 27, 28, 29, 30, 31, 32, 33, 34, 35, 36, 37, 38, 39, 40, 41, 42, 43, 44, 45, 46, 47, 48, 49, 50, 51, 52, 53, 54, 55, 56, 57, 58, 59, 60, 61, 62, 63, 64, 65, 66, 67, 68, 69, 70, 76, 77, 78, 79, 80, 81, 82, 83, 84, 85, 86, 87] (by decide +kernel) (by decide +kernel)
set_option maxRecDepth 20000 in
theorem gX2_bestRule_X2_best : GoodIn wsX2_bestRule (wsV RX2 137 RX2 yX2_best wsX2_best) := goodIn_app (goodIn_of _ (by decide +kernel)) ggX2_bestRule_X2_best
set_option maxRecDepth 20000 in
theorem ggX2_bestRule_X2_told : GoodIn wsX2_bestRule wsX2_told := goodIn_r _ [74, 75, 76, 77, 78, 79, 80, 81, 82, 83, 84, 85, 86, 87] (by decide +kernel) (by decide +kernel)
set_option maxRecDepth 20000 in
theorem gX2_bestRule_X2_told : GoodIn wsX2_bestRule (wsV RX2 99 RX2 yX2_told wsX2_told) := goodIn_app (goodIn_of _ (by decide +kernel)) ggX2_bestRule_X2_told
theorem dX2_bestRule_0 : decode cX2_bestRule 0 = .ok (.aload_n 0, 1) := by decide +kernel
theorem dX2_bestRule_1 : decode cX2_bestRule 1 = .ok (.aload_n 0, 1) := by decide +kernel
theorem dX2_bestRule_2 : decode cX2_bestRule 2 = .ok (.invokevirtual 137, 3) := by decide +kernel
theorem dX2_bestRule_5 : decode cX2_bestRule 5 = .ok (.invokevirtual 99, 3) := by decide +kernel
theorem dX2_bestRule_8 : decode cX2_bestRule 8 = .ok (.ireturn, 1) := by decide +kernel
set_option maxRecDepth 20000 in
theorem ggX2_wouldBeInTime_X2_isIn : GoodIn wsX2_wouldBeInTime wsX2_isIn := goodIn_r _ [7] (by decide +kernel) (by decide +kernel)
set_option maxRecDepth 20000 in
theorem gX2_wouldBeInTime_X2_isIn : GoodIn wsX2_wouldBeInTime (va_wsS RX2 38 yX2_isIn wsX2_isIn) := goodIn_app (goodIn_of _ (by decide +kernel)) ggX2_wouldBeInTime_X2_isIn
set_option maxRecDepth 20000 in
theorem ggX2_wouldBeInTime_X2_keep : GoodIn wsX2_wouldBeInTime wsX2_keep := goodIn_r _ [11, 3, 12, 13, 14, 15, 16, 65, 66, 67, 68, 69, 70, 71, 72, 73, 74, 75, 76] (by decide +kernel) (by decide +kernel)
set_option maxRecDepth 20000 in
theorem gX2_wouldBeInTime_X2_keep : GoodIn wsX2_wouldBeInTime (wsV RX2 124 RX2 yX2_keep wsX2_keep) := goodIn_app (goodIn_of _ (by decide +kernel)) ggX2_wouldBeInTime_X2_keep
set_option maxRecDepth 20000 in
theorem ggX2_wouldBeInTime_X2_put : GoodIn wsX2_wouldBeInTime wsX2_put := goodIn_r _ [20, 21, 2, 22, 3, 65, 66, 67, 68, 69, 70, 71, 72, 73, 74, 75, 76] (by decide +kernel) (by decide +kernel)
set_option maxRecDepth 20000 in
theorem gX2_wouldBeInTime_X2_put : GoodIn wsX2_wouldBeInTime (wsV RX2 88 RX2 yX2_put wsX2_put) := goodIn_app (goodIn_of _ (by decide +kernel)) ggX2_wouldBeInTime_X2_put
set_option maxRecDepth 20000 in
theorem ggX2_wouldBeInTime_X2_hoursOn : GoodIn wsX2_wouldBeInTime wsX2_hoursOn := goodIn_r _ [26, 27, 28, 29, 6, 30, 2, 31, 3, 32, 33, 34, 35, 36, 37, 38, 39, 40, 41, 42, 43, 44, 45, 46, 47, 48, 49, 50, 51, 52, 22, 53, 54, 55, 56, 57, 58, 59, 60, 65, 66, 67, 68, 69, 70, 71, 72, 73, 74, 75, 76] (by decide +kernel) (by decide +kernel)
set_option maxRecDepth 20000 in
theorem gX2_wouldBeInTime_X2_hoursOn : GoodIn wsX2_wouldBeInTime (wsV RX2 95 RX2 yX2_hoursOn wsX2_hoursOn) := goodIn_app (goodIn_of _ (by decide +kernel)) ggX2_wouldBeInTime_X2_hoursOn
set_option maxRecDepth 20000 in
theorem ggX2_wouldBeInTime_X2_bringBack : GoodIn wsX2_wouldBeInTime wsX2_bringBack := goodIn_r _ [64, 12, 3, 13, 14, 15, 16, 65, 66, 67, 68, 69, 70, 71, 72, 73, 74, 75, 76] (by decide +kernel) (by decide +kernel)
set_option maxRecDepth 20000 in
theorem gX2_wouldBeInTime_X2_bringBack : GoodIn wsX2_wouldBeInTime (wsV RX2 127 RX2 yX2_bringBack wsX2_bringBack) := goodIn_app (goodIn_of _ (by decide +kernel)) ggX2_wouldBeInTime_X2_bringBack
theorem dX2_wouldBeInTime_0 : decode cX2_wouldBeInTime 0 = .ok (.aload_n 0, 1) := by decide +kernel
theorem dX2_wouldBeInTime_1 : decode cX2_wouldBeInTime 1 = .ok (.iload_n 1, 1) := by decide +kernel
theorem dX2_wouldBeInTime_2 : decode cX2_wouldBeInTime 2 = .ok (.iconst 1, 1) := by decide +kernel
theorem dX2_wouldBeInTime_3 : decode cX2_wouldBeInTime 3 = .ok (.bipush 60, 2) := by decide +kernel
theorem dX2_wouldBeInTime_5 : decode cX2_wouldBeInTime 5 = .ok (.invokestatic 38, 3) := by decide +kernel
theorem dX2_wouldBeInTime_8 : decode cX2_wouldBeInTime 8 = .ok (.ifCond .eq 18, 3) := by decide +kernel
theorem dX2_wouldBeInTime_11 : decode cX2_wouldBeInTime 11 = .ok (.iload_n 2, 1) := by decide +kernel
theorem dX2_wouldBeInTime_12 : decode cX2_wouldBeInTime 12 = .ok (.iconst 1, 1) := by decide +kernel
theorem dX2_wouldBeInTime_13 : decode cX2_wouldBeInTime 13 = .ok (.sipush 200, 3) := by decide +kernel
theorem dX2_wouldBeInTime_16 : decode cX2_wouldBeInTime 16 = .ok (.invokestatic 38, 3) := by decide +kernel
theorem dX2_wouldBeInTime_19 : decode cX2_wouldBeInTime 19 = .ok (.ifCond .eq 7, 3) := by decide +kernel
theorem dX2_wouldBeInTime_22 : decode cX2_wouldBeInTime 22 = .ok (.iconst 0, 1) := by decide +kernel
theorem dX2_wouldBeInTime_23 : decode cX2_wouldBeInTime 23 = .ok (.goto 4, 3) := by decide +kernel
theorem dX2_wouldBeInTime_26 : decode cX2_wouldBeInTime 26 = .ok (.iconst 1, 1) := by decide +kernel
theorem dX2_wouldBeInTime_27 : decode cX2_wouldBeInTime 27 = .ok (.putfield 31, 3) := by decide +kernel
theorem dX2_wouldBeInTime_30 : decode cX2_wouldBeInTime 30 = .ok (.aload_n 0, 1) := by decide +kernel
theorem dX2_wouldBeInTime_31 : decode cX2_wouldBeInTime 31 = .ok (.getfield 31, 3) := by decide +kernel
theorem dX2_wouldBeInTime_34 : decode cX2_wouldBeInTime 34 = .ok (.ifCond .gt 12, 3) := by decide +kernel
theorem dX2_wouldBeInTime_37 : decode cX2_wouldBeInTime 37 = .ok (.aload_n 0, 1) := by decide +kernel
theorem dX2_wouldBeInTime_38 : decode cX2_wouldBeInTime 38 = .ok (.getfield 42, 3) := by decide +kernel
theorem dX2_wouldBeInTime_41 : decode cX2_wouldBeInTime 41 = .ok (.bipush 16, 2) := by decide +kernel
theorem dX2_wouldBeInTime_43 : decode cX2_wouldBeInTime 43 = .ok (.if_icmp .ne 5, 3) := by decide +kernel
theorem dX2_wouldBeInTime_46 : decode cX2_wouldBeInTime 46 = .ok (.iconst 0, 1) := by decide +kernel
theorem dX2_wouldBeInTime_47 : decode cX2_wouldBeInTime 47 = .ok (.ireturn, 1) := by decide +kernel
theorem dX2_wouldBeInTime_48 : decode cX2_wouldBeInTime 48 = .ok (.aload_n 0, 1) := by decide +kernel
theorem dX2_wouldBeInTime_49 : decode cX2_wouldBeInTime 49 = .ok (.invokevirtual 124, 3) := by decide +kernel
theorem dX2_wouldBeInTime_52 : decode cX2_wouldBeInTime 52 = .ok (.aload_n 0, 1) := by decide +kernel
theorem dX2_wouldBeInTime_53 : decode cX2_wouldBeInTime 53 = .ok (.iconst 0, 1) := by decide +kernel
theorem dX2_wouldBeInTime_54 : decode cX2_wouldBeInTime 54 = .ok (.iload_n 1, 1) := by decide +kernel
theorem dX2_wouldBeInTime_55 : decode cX2_wouldBeInTime 55 = .ok (.iload_n 2, 1) := by decide +kernel
theorem dX2_wouldBeInTime_56 : decode cX2_wouldBeInTime 56 = .ok (.invokevirtual 88, 3) := by decide +kernel
theorem dX2_wouldBeInTime_59 : decode cX2_wouldBeInTime 59 = .ok (.aload_n 0, 1) := by decide +kernel
theorem dX2_wouldBeInTime_60 : decode cX2_wouldBeInTime 60 = .ok (.sipush 200, 3) := by decide +kernel
theorem dX2_wouldBeInTime_63 : decode cX2_wouldBeInTime 63 = .ok (.invokevirtual 95, 3) := by decide +kernel
theorem dX2_wouldBeInTime_66 : decode cX2_wouldBeInTime 66 = .ok (.aload_n 0, 1) := by decide +kernel
theorem dX2_wouldBeInTime_67 : decode cX2_wouldBeInTime 67 = .ok (.dup, 1) := by decide +kernel
theorem dX2_wouldBeInTime_68 : decode cX2_wouldBeInTime 68 = .ok (.getfield 42, 3) := by decide +kernel
theorem dX2_wouldBeInTime_71 : decode cX2_wouldBeInTime 71 = .ok (.iconst 1, 1) := by decide +kernel
theorem dX2_wouldBeInTime_72 : decode cX2_wouldBeInTime 72 = .ok (.isub, 1) := by decide +kernel
theorem dX2_wouldBeInTime_73 : decode cX2_wouldBeInTime 73 = .ok (.putfield 42, 3) := by decide +kernel
theorem dX2_wouldBeInTime_76 : decode cX2_wouldBeInTime 76 = .ok (.aload_n 0, 1) := by decide +kernel
theorem dX2_wouldBeInTime_77 : decode cX2_wouldBeInTime 77 = .ok (.getfield 22, 3) := by decide +kernel
theorem dX2_wouldBeInTime_80 : decode cX2_wouldBeInTime 80 = .ok (.bipush 19, 2) := by decide +kernel
theorem dX2_wouldBeInTime_82 : decode cX2_wouldBeInTime 82 = .ok (.aload_n 0, 1) := by decide +kernel
theorem dX2_wouldBeInTime_83 : decode cX2_wouldBeInTime 83 = .ok (.getfield 42, 3) := by decide +kernel
theorem dX2_wouldBeInTime_86 : decode cX2_wouldBeInTime 86 = .ok (.iadd, 1) := by decide +kernel
theorem dX2_wouldBeInTime_87 : decode cX2_wouldBeInTime 87 = .ok (.iaload, 1) := by decide +kernel
theorem dX2_wouldBeInTime_88 : decode cX2_wouldBeInTime 88 = .ok (.istore_n 3, 1) := by decide +kernel
theorem dX2_wouldBeInTime_89 : decode cX2_wouldBeInTime 89 = .ok (.aload_n 0, 1) := by decide +kernel
theorem dX2_wouldBeInTime_90 : decode cX2_wouldBeInTime 90 = .ok (.invokevirtual 127, 3) := by decide +kernel
theorem dX2_wouldBeInTime_93 : decode cX2_wouldBeInTime 93 = .ok (.iload_n 3, 1) := by decide +kernel
theorem dX2_wouldBeInTime_94 : decode cX2_wouldBeInTime 94 = .ok (.iconst (-1), 1) := by decide +kernel
theorem dX2_wouldBeInTime_95 : decode cX2_wouldBeInTime 95 = .ok (.if_icmp .eq 12, 3) := by decide +kernel
theorem dX2_wouldBeInTime_98 : decode cX2_wouldBeInTime 98 = .ok (.iload_n 3, 1) := by decide +kernel
theorem dX2_wouldBeInTime_99 : decode cX2_wouldBeInTime 99 = .ok (.iload_n 2, 1) := by decide +kernel
theorem dX2_wouldBeInTime_100 : decode cX2_wouldBeInTime 100 = .ok (.if_icmp .gt 7, 3) := by decide +kernel
theorem dX2_wouldBeInTime_103 : decode cX2_wouldBeInTime 103 = .ok (.iconst 1, 1) := by decide +kernel
theorem dX2_wouldBeInTime_104 : decode cX2_wouldBeInTime 104 = .ok (.goto 4, 3) := by decide +kernel
theorem dX2_wouldBeInTime_107 : decode cX2_wouldBeInTime 107 = .ok (.iconst 0, 1) := by decide +kernel
theorem dX2_wouldBeInTime_108 : decode cX2_wouldBeInTime 108 = .ok (.ireturn, 1) := by decide +kernel
set_option maxRecDepth 20000 in
theorem ggX2_milledIn_X2_keep : GoodIn wsX2_milledIn wsX2_keep := goodIn_r _ [6, 1, 7, 8, 9, 10, 11, 56, 57, 58, 59, 60, 61, 62, 63, 64, 65, 66, 67] (by decide +kernel) (by decide +kernel)
set_option maxRecDepth 20000 in
theorem gX2_milledIn_X2_keep : GoodIn wsX2_milledIn (wsV RX2 124 RX2 yX2_keep wsX2_keep) := goodIn_app (goodIn_of _ (by decide +kernel)) ggX2_milledIn_X2_keep
set_option maxRecDepth 20000 in
theorem ggX2_milledIn_X2_hoursOn : GoodIn wsX2_milledIn wsX2_hoursOn := goodIn_r _ [15, 16, 17, 18, 5, 19, 20, 21, 1, 22, 23, 24, 25, 26, 27, 28, 29, 30, 31, 32, 33, 34, 35, 36, 37, 38, 39, 40, 41, 42, 43, 44, 45, 46, 47, 48, 49, 50, 51, 56, 57, 58, 59, 60, 61, 62, 63, 64, 65, 66, 67] (by decide +kernel) (by decide +kernel)
set_option maxRecDepth 20000 in
theorem gX2_milledIn_X2_hoursOn : GoodIn wsX2_milledIn (wsV RX2 95 RX2 yX2_hoursOn wsX2_hoursOn) := goodIn_app (goodIn_of _ (by decide +kernel)) ggX2_milledIn_X2_hoursOn
set_option maxRecDepth 20000 in
theorem ggX2_milledIn_X2_bringBack : GoodIn wsX2_milledIn wsX2_bringBack := goodIn_r _ [55, 7, 1, 8, 9, 10, 11, 56, 57, 58, 59, 60, 61, 62, 63, 64, 65, 66, 67] (by decide +kernel) (by decide +kernel)
set_option maxRecDepth 20000 in
theorem gX2_milledIn_X2_bringBack : GoodIn wsX2_milledIn (wsV RX2 127 RX2 yX2_bringBack wsX2_bringBack) := goodIn_app (goodIn_of _ (by decide +kernel)) ggX2_milledIn_X2_bringBack
theorem dX2_milledIn_0 : decode cX2_milledIn 0 = .ok (.aload_n 0, 1) := by decide +kernel
theorem dX2_milledIn_1 : decode cX2_milledIn 1 = .ok (.invokevirtual 124, 3) := by decide +kernel
theorem dX2_milledIn_4 : decode cX2_milledIn 4 = .ok (.aload_n 0, 1) := by decide +kernel
theorem dX2_milledIn_5 : decode cX2_milledIn 5 = .ok (.getfield 22, 3) := by decide +kernel
theorem dX2_milledIn_8 : decode cX2_milledIn 8 = .ok (.iconst 2, 1) := by decide +kernel
theorem dX2_milledIn_9 : decode cX2_milledIn 9 = .ok (.iaload, 1) := by decide +kernel
theorem dX2_milledIn_10 : decode cX2_milledIn 10 = .ok (.istore_n 2, 1) := by decide +kernel
theorem dX2_milledIn_11 : decode cX2_milledIn 11 = .ok (.aload_n 0, 1) := by decide +kernel
theorem dX2_milledIn_12 : decode cX2_milledIn 12 = .ok (.iload_n 1, 1) := by decide +kernel
theorem dX2_milledIn_13 : decode cX2_milledIn 13 = .ok (.invokevirtual 95, 3) := by decide +kernel
theorem dX2_milledIn_16 : decode cX2_milledIn 16 = .ok (.aload_n 0, 1) := by decide +kernel
theorem dX2_milledIn_17 : decode cX2_milledIn 17 = .ok (.getfield 22, 3) := by decide +kernel
theorem dX2_milledIn_20 : decode cX2_milledIn 20 = .ok (.iconst 2, 1) := by decide +kernel
theorem dX2_milledIn_21 : decode cX2_milledIn 21 = .ok (.iaload, 1) := by decide +kernel
theorem dX2_milledIn_22 : decode cX2_milledIn 22 = .ok (.iload_n 2, 1) := by decide +kernel
theorem dX2_milledIn_23 : decode cX2_milledIn 23 = .ok (.isub, 1) := by decide +kernel
theorem dX2_milledIn_24 : decode cX2_milledIn 24 = .ok (.istore_n 3, 1) := by decide +kernel
theorem dX2_milledIn_25 : decode cX2_milledIn 25 = .ok (.aload_n 0, 1) := by decide +kernel
theorem dX2_milledIn_26 : decode cX2_milledIn 26 = .ok (.invokevirtual 127, 3) := by decide +kernel
theorem dX2_milledIn_29 : decode cX2_milledIn 29 = .ok (.iload_n 3, 1) := by decide +kernel
theorem dX2_milledIn_30 : decode cX2_milledIn 30 = .ok (.ireturn, 1) := by decide +kernel
set_option maxRecDepth 20000 in
theorem ggX2_groundIn_X2_isIn : GoodIn wsX2_groundIn wsX2_isIn := goodIn_r _ [5] (by decide +kernel) (by decide +kernel)
set_option maxRecDepth 20000 in
theorem gX2_groundIn_X2_isIn : GoodIn wsX2_groundIn (va_wsS RX2 38 yX2_isIn wsX2_isIn) := goodIn_app (goodIn_of _ (by decide +kernel)) ggX2_groundIn_X2_isIn
set_option maxRecDepth 20000 in
theorem ggX2_groundIn_X2_milledIn : GoodIn wsX2_groundIn wsX2_milledIn := goodIn_r _ [9, 10, 11, 12, 13, 4, 14, 15, 16, 17, 18, 19, 20, 21, 22, 23, 24, 25, 26, 27, 28, 29, 30, 31, 32, 33, 34, 35, 36, 37, 38, 39, 40, 41, 42, 43, 44, 45, 46, 47, 48, 49, 50, 51, 52, 53, 54, 55, 56, 57, 58, 59, 60, 61, 62, 63, 68, 69, 70, 71, 72, 73, 74, 75, 76, 77, 78, 79] (by decide +kernel) (by decide +kernel)
set_option maxRecDepth 20000 in
theorem gX2_groundIn_X2_milledIn : GoodIn wsX2_groundIn (wsV RX2 140 RX2 yX2_milledIn wsX2_milledIn) := goodIn_app (goodIn_of _ (by decide +kernel)) ggX2_groundIn_X2_milledIn
set_option maxRecDepth 20000 in
theorem ggX2_groundIn_X2_fail : GoodIn wsX2_groundIn wsX2_fail := goodIn_r _ [67, 1, 68, 69, 70, 71, 72, 73, 74, 75, 76, 77, 78, 79] (by decide +kernel) (by decide +kernel)
set_option maxRecDepth 20000 in
theorem gX2_groundIn_X2_fail : GoodIn wsX2_groundIn (wsV RX2 85 RX2 yX2_fail wsX2_fail) := goodIn_app (goodIn_of _ (by decide +kernel)) ggX2_groundIn_X2_fail
theorem dX2_groundIn_0 : decode cX2_groundIn 0 = .ok (.aload_n 0, 1) := by decide +kernel
theorem dX2_groundIn_1 : decode cX2_groundIn 1 = .ok (.iconst 0, 1) := by decide +kernel
theorem dX2_groundIn_2 : decode cX2_groundIn 2 = .ok (.putfield 31, 3) := by decide +kernel
theorem dX2_groundIn_5 : decode cX2_groundIn 5 = .ok (.iload_n 1, 1) := by decide +kernel
theorem dX2_groundIn_6 : decode cX2_groundIn 6 = .ok (.iconst 1, 1) := by decide +kernel
theorem dX2_groundIn_7 : decode cX2_groundIn 7 = .ok (.bipush 60, 2) := by decide +kernel
theorem dX2_groundIn_9 : decode cX2_groundIn 9 = .ok (.invokestatic 38, 3) := by decide +kernel
theorem dX2_groundIn_12 : decode cX2_groundIn 12 = .ok (.ifCond .eq 11, 3) := by decide +kernel
theorem dX2_groundIn_15 : decode cX2_groundIn 15 = .ok (.aload_n 0, 1) := by decide +kernel
theorem dX2_groundIn_16 : decode cX2_groundIn 16 = .ok (.iload_n 1, 1) := by decide +kernel
theorem dX2_groundIn_17 : decode cX2_groundIn 17 = .ok (.invokevirtual 140, 3) := by decide +kernel
theorem dX2_groundIn_20 : decode cX2_groundIn 20 = .ok (.goto 8, 3) := by decide +kernel
theorem dX2_groundIn_23 : decode cX2_groundIn 23 = .ok (.aload_n 0, 1) := by decide +kernel
theorem dX2_groundIn_24 : decode cX2_groundIn 24 = .ok (.iconst 1, 1) := by decide +kernel
theorem dX2_groundIn_25 : decode cX2_groundIn 25 = .ok (.invokevirtual 85, 3) := by decide +kernel
theorem dX2_groundIn_28 : decode cX2_groundIn 28 = .ok (.ireturn, 1) := by decide +kernel
set_option maxRecDepth 20000 in
theorem ggX2_meanLeft_X2_done : GoodIn wsX2_meanLeft wsX2_done := goodIn_r _ [8, 2, 9, 10, 11, 7, 12, 3, 13, 14, 15, 16, 17, 18, 19, 20, 21, 22, 23, 24] (by decide +kernel) (by decide +kernel)
set_option maxRecDepth 20000 in
theorem gX2_meanLeft_X2_done : GoodIn wsX2_meanLeft (wsV RX2 108 RX2 yX2_done wsX2_done) := goodIn_app (goodIn_of _ (by decide +kernel)) ggX2_meanLeft_X2_done
theorem dX2_meanLeft_0 : decode cX2_meanLeft 0 = .ok (.aload_n 0, 1) := by decide +kernel
theorem dX2_meanLeft_1 : decode cX2_meanLeft 1 = .ok (.iconst 0, 1) := by decide +kernel
theorem dX2_meanLeft_2 : decode cX2_meanLeft 2 = .ok (.putfield 31, 3) := by decide +kernel
theorem dX2_meanLeft_5 : decode cX2_meanLeft 5 = .ok (.iconst 0, 1) := by decide +kernel
theorem dX2_meanLeft_6 : decode cX2_meanLeft 6 = .ok (.istore_n 1, 1) := by decide +kernel
theorem dX2_meanLeft_7 : decode cX2_meanLeft 7 = .ok (.iconst 0, 1) := by decide +kernel
theorem dX2_meanLeft_8 : decode cX2_meanLeft 8 = .ok (.istore_n 2, 1) := by decide +kernel
theorem dX2_meanLeft_9 : decode cX2_meanLeft 9 = .ok (.iload_n 2, 1) := by decide +kernel
theorem dX2_meanLeft_10 : decode cX2_meanLeft 10 = .ok (.aload_n 0, 1) := by decide +kernel
theorem dX2_meanLeft_11 : decode cX2_meanLeft 11 = .ok (.getfield 42, 3) := by decide +kernel
theorem dX2_meanLeft_14 : decode cX2_meanLeft 14 = .ok (.if_icmp .ge 20, 3) := by decide +kernel
theorem dX2_meanLeft_17 : decode cX2_meanLeft 17 = .ok (.iload_n 1, 1) := by decide +kernel
theorem dX2_meanLeft_18 : decode cX2_meanLeft 18 = .ok (.aload_n 0, 1) := by decide +kernel
theorem dX2_meanLeft_19 : decode cX2_meanLeft 19 = .ok (.getfield 22, 3) := by decide +kernel
theorem dX2_meanLeft_22 : decode cX2_meanLeft 22 = .ok (.iconst 3, 1) := by decide +kernel
theorem dX2_meanLeft_23 : decode cX2_meanLeft 23 = .ok (.iload_n 2, 1) := by decide +kernel
theorem dX2_meanLeft_24 : decode cX2_meanLeft 24 = .ok (.iadd, 1) := by decide +kernel
theorem dX2_meanLeft_25 : decode cX2_meanLeft 25 = .ok (.iaload, 1) := by decide +kernel
theorem dX2_meanLeft_26 : decode cX2_meanLeft 26 = .ok (.iadd, 1) := by decide +kernel
theorem dX2_meanLeft_27 : decode cX2_meanLeft 27 = .ok (.istore_n 1, 1) := by decide +kernel
theorem dX2_meanLeft_28 : decode cX2_meanLeft 28 = .ok (.iinc 2 1, 3) := by decide +kernel
theorem dX2_meanLeft_31 : decode cX2_meanLeft 31 = .ok (.goto (-22), 3) := by decide +kernel
theorem dX2_meanLeft_34 : decode cX2_meanLeft 34 = .ok (.aload_n 0, 1) := by decide +kernel
theorem dX2_meanLeft_35 : decode cX2_meanLeft 35 = .ok (.getfield 42, 3) := by decide +kernel
theorem dX2_meanLeft_38 : decode cX2_meanLeft 38 = .ok (.aload_n 0, 1) := by decide +kernel
theorem dX2_meanLeft_39 : decode cX2_meanLeft 39 = .ok (.invokevirtual 108, 3) := by decide +kernel
theorem dX2_meanLeft_42 : decode cX2_meanLeft 42 = .ok (.isub, 1) := by decide +kernel
theorem dX2_meanLeft_43 : decode cX2_meanLeft 43 = .ok (.istore_n 2, 1) := by decide +kernel
theorem dX2_meanLeft_44 : decode cX2_meanLeft 44 = .ok (.iload_n 2, 1) := by decide +kernel
theorem dX2_meanLeft_45 : decode cX2_meanLeft 45 = .ok (.ifCond .ne 7, 3) := by decide +kernel
theorem dX2_meanLeft_48 : decode cX2_meanLeft 48 = .ok (.dconst 0, 1) := by decide +kernel
theorem dX2_meanLeft_49 : decode cX2_meanLeft 49 = .ok (.goto 8, 3) := by decide +kernel
theorem dX2_meanLeft_52 : decode cX2_meanLeft 52 = .ok (.iload_n 1, 1) := by decide +kernel
theorem dX2_meanLeft_53 : decode cX2_meanLeft 53 = .ok (.i2d, 1) := by decide +kernel
theorem dX2_meanLeft_54 : decode cX2_meanLeft 54 = .ok (.iload_n 2, 1) := by decide +kernel
theorem dX2_meanLeft_55 : decode cX2_meanLeft 55 = .ok (.i2d, 1) := by decide +kernel
theorem dX2_meanLeft_56 : decode cX2_meanLeft 56 = .ok (.ddiv, 1) := by decide +kernel
theorem dX2_meanLeft_57 : decode cX2_meanLeft 57 = .ok (.dreturn, 1) := by decide +kernel
set_option maxRecDepth 20000 in
theorem ggX2_digest_X2_done : GoodIn wsX2_digest wsX2_done := goodIn_r _ [15, 5, 16, 17, 18, 14, 19, 3, 92, 93, 94, 95, 96, 97, 98, 99, 100, 101, 102, 103] (by decide +kernel) (by decide +kernel)
set_option maxRecDepth 20000 in
theorem gX2_digest_X2_done : GoodIn wsX2_digest (wsV RX2 108 RX2 yX2_done wsX2_done) := goodIn_app (goodIn_of _ (by decide +kernel)) ggX2_digest_X2_done
set_option maxRecDepth 20000 in
theorem ggX2_digest_X2_next : GoodIn wsX2_digest wsX2_next := goodIn_r _ [23, 5, 3, 16, 17, 18, 14, 19, 24, 25, 26, 27, 6, 10, 92, 93, 94, 95, 96, 97, 98, 99, 100, 101, 102, 103] (by decide +kernel) (by decide +kernel)
set_option maxRecDepth 20000 in
theorem gX2_digest_X2_next : GoodIn wsX2_digest (wsV RX2 72 RX2 yX2_next wsX2_next) := goodIn_app (goodIn_of _ (by decide +kernel)) ggX2_digest_X2_next
set_option maxRecDepth 20000 in
theorem ggX2_digest_X2_lost : GoodIn wsX2_digest wsX2_lost := goodIn_r _ [31, 5, 3, 10, 32, 33, 34, 35, 16, 17, 18, 14, 19, 92, 93, 94, 95, 96, 97, 98, 99, 100, 101, 102, 103] (by decide +kernel) (by decide +kernel)
set_option maxRecDepth 20000 in
theorem gX2_digest_X2_lost : GoodIn wsX2_digest (wsV RX2 121 RX2 yX2_lost wsX2_lost) := goodIn_app (goodIn_of _ (by decide +kernel)) ggX2_digest_X2_lost
set_option maxRecDepth 20000 in
theorem ggX2_digest_X2_best : GoodIn wsX2_digest wsX2_best := goodIn_r _ [39, 40, 41, 42, 43, 14, 44, 6, 45, 46, 47, 48, 3, 49, 50, 51, 52, 53, 54, 55, 56, 57, 58, 59, 60, 61, 5, 4, 62, 7, 63, 64, 65, 34, 66, 67, 68, 69, 70, 16, 17, 18, 19, 24, 25, 26, 27, 10, 71, 72, 73, 74, 20, 21, 22, 23, 28, 29, 30, 31, 32, 33, 35, 75, 76, 77, 78, 92, 93, 94, 95, 96, 97, 98, 99, 100, 101, 102, 103] (by decide +kernel) (by decide +kernel)
set_option maxRecDepth 20000 in
theorem gX2_digest_X2_best : GoodIn wsX2_digest (wsV RX2 137 RX2 yX2_best wsX2_best) := goodIn_app (goodIn_of _ (by decide +kernel)) ggX2_digest_X2_best
set_option maxRecDepth 20000 in
theorem ggX2_digest_X2_milledIn : GoodIn wsX2_digest wsX2_milledIn := goodIn_r _ [82, 3, 45, 46, 47, 14, 48, 49, 50, 51, 52, 53, 54, 55, 56, 57, 58, 59, 60, 61, 5, 40, 4, 62, 7, 63, 64, 65, 34, 66, 67, 68, 69, 70, 16, 17, 18, 19, 24, 25, 26, 27, 6, 10, 71, 72, 73, 74, 20, 21, 22, 23, 75, 76, 77, 78, 92, 93, 94, 95, 96, 97, 98, 99, 100, 101, 102, 103] (by decide +kernel) (by decide +kernel)
set_option maxRecDepth 20000 in
theorem gX2_digest_X2_milledIn : GoodIn wsX2_digest (wsV RX2 140 RX2 yX2_milledIn wsX2_milledIn) := goodIn_app (goodIn_of _ (by decide +kernel)) ggX2_digest_X2_milledIn
set_option maxRecDepth 20000 in
theorem ggX2_digest_X2_on : GoodIn wsX2_digest wsX2_on := goodIn_r _ [74, 5, 3, 92, 93, 94, 95, 96, 97, 98, 99, 100, 101, 102, 103] (by decide +kernel) (by decide +kernel)
set_option maxRecDepth 20000 in
theorem gX2_digest_X2_on : GoodIn wsX2_digest (wsV RX2 69 RX2 yX2_on wsX2_on) := goodIn_app (goodIn_of _ (by decide +kernel)) ggX2_digest_X2_on
set_option maxRecDepth 20000 in
theorem ggX2_digest_X2_keep : GoodIn wsX2_digest wsX2_keep := goodIn_r _ [48, 3, 49, 50, 51, 52, 53, 92, 93, 94, 95, 96, 97, 98, 99, 100, 101, 102, 103] (by decide +kernel) (by decide +kernel)
set_option maxRecDepth 20000 in
theorem gX2_digest_X2_keep : GoodIn wsX2_digest (wsV RX2 124 RX2 yX2_keep wsX2_keep) := goodIn_app (goodIn_of _ (by decide +kernel)) ggX2_digest_X2_keep
set_option maxRecDepth 20000 in
theorem ggX2_digest_X2_hoursOn : GoodIn wsX2_digest wsX2_hoursOn := goodIn_r _ [57, 58, 59, 60, 14, 61, 5, 40, 3, 4, 62, 7, 63, 64, 65, 34, 66, 67, 68, 69, 70, 16, 17, 18, 19, 24, 25, 26, 27, 6, 10, 71, 72, 73, 74, 20, 21, 22, 23, 92, 93, 94, 95, 96, 97, 98, 99, 100, 101, 102, 103] (by decide +kernel) (by decide +kernel)
set_option maxRecDepth 20000 in
theorem gX2_digest_X2_hoursOn : GoodIn wsX2_digest (wsV RX2 95 RX2 yX2_hoursOn wsX2_hoursOn) := goodIn_app (goodIn_of _ (by decide +kernel)) ggX2_digest_X2_hoursOn
set_option maxRecDepth 20000 in
theorem ggX2_digest_X2_bringBack : GoodIn wsX2_digest wsX2_bringBack := goodIn_r _ [78, 49, 3, 50, 51, 52, 53, 92, 93, 94, 95, 96, 97, 98, 99, 100, 101, 102, 103] (by decide +kernel) (by decide +kernel)
set_option maxRecDepth 20000 in
theorem gX2_digest_X2_bringBack : GoodIn wsX2_digest (wsV RX2 127 RX2 yX2_bringBack wsX2_bringBack) := goodIn_app (goodIn_of _ (by decide +kernel)) ggX2_digest_X2_bringBack
set_option maxRecDepth 20000 in
theorem ggX2_digest_X2_place : GoodIn wsX2_digest wsX2_place := goodIn_r _ [86, 16, 17, 18, 14, 19, 3, 67, 68, 69, 70, 5, 24, 25, 26, 27, 6, 10, 92, 93, 94, 95, 96, 97, 98, 99, 100, 101, 102, 103] (by decide +kernel) (by decide +kernel)
set_option maxRecDepth 20000 in
theorem gX2_digest_X2_place : GoodIn wsX2_digest (wsV RX2 112 RX2 yX2_place wsX2_place) := goodIn_app (goodIn_of _ (by decide +kernel)) ggX2_digest_X2_place
set_option maxRecDepth 20000 in
theorem ggX2_digest_X2_rest : GoodIn wsX2_digest wsX2_rest := goodIn_r _ [90, 5, 91, 3, 92, 93, 94, 95, 96, 97, 98, 99, 100, 101, 102, 103] (by decide +kernel) (by decide +kernel)
set_option maxRecDepth 20000 in
theorem gX2_digest_X2_rest : GoodIn wsX2_digest (wsV RX2 115 RX2 yX2_rest wsX2_rest) := goodIn_app (goodIn_of _ (by decide +kernel)) ggX2_digest_X2_rest
theorem dX2_digest_0 : decode cX2_digest 0 = .ok (.aload_n 0, 1) := by decide +kernel
theorem dX2_digest_1 : decode cX2_digest 1 = .ok (.iconst 0, 1) := by decide +kernel
theorem dX2_digest_2 : decode cX2_digest 2 = .ok (.putfield 31, 3) := by decide +kernel
theorem dX2_digest_5 : decode cX2_digest 5 = .ok (.bipush 11, 2) := by decide +kernel
theorem dX2_digest_7 : decode cX2_digest 7 = .ok (.newarray .int, 2) := by decide +kernel
theorem dX2_digest_9 : decode cX2_digest 9 = .ok (.dup, 1) := by decide +kernel
theorem dX2_digest_10 : decode cX2_digest 10 = .ok (.iconst 0, 1) := by decide +kernel
theorem dX2_digest_11 : decode cX2_digest 11 = .ok (.aload_n 0, 1) := by decide +kernel
theorem dX2_digest_12 : decode cX2_digest 12 = .ok (.getfield 22, 3) := by decide +kernel
theorem dX2_digest_15 : decode cX2_digest 15 = .ok (.iconst 0, 1) := by decide +kernel
theorem dX2_digest_16 : decode cX2_digest 16 = .ok (.iaload, 1) := by decide +kernel
theorem dX2_digest_17 : decode cX2_digest 17 = .ok (.iastore, 1) := by decide +kernel
theorem dX2_digest_18 : decode cX2_digest 18 = .ok (.dup, 1) := by decide +kernel
theorem dX2_digest_19 : decode cX2_digest 19 = .ok (.iconst 1, 1) := by decide +kernel
theorem dX2_digest_20 : decode cX2_digest 20 = .ok (.aload_n 0, 1) := by decide +kernel
theorem dX2_digest_21 : decode cX2_digest 21 = .ok (.getfield 35, 3) := by decide +kernel
theorem dX2_digest_24 : decode cX2_digest 24 = .ok (.iastore, 1) := by decide +kernel
theorem dX2_digest_25 : decode cX2_digest 25 = .ok (.dup, 1) := by decide +kernel
theorem dX2_digest_26 : decode cX2_digest 26 = .ok (.iconst 2, 1) := by decide +kernel
theorem dX2_digest_27 : decode cX2_digest 27 = .ok (.aload_n 0, 1) := by decide +kernel
theorem dX2_digest_28 : decode cX2_digest 28 = .ok (.getfield 42, 3) := by decide +kernel
theorem dX2_digest_31 : decode cX2_digest 31 = .ok (.iastore, 1) := by decide +kernel
theorem dX2_digest_32 : decode cX2_digest 32 = .ok (.dup, 1) := by decide +kernel
theorem dX2_digest_33 : decode cX2_digest 33 = .ok (.iconst 3, 1) := by decide +kernel
theorem dX2_digest_34 : decode cX2_digest 34 = .ok (.aload_n 0, 1) := by decide +kernel
theorem dX2_digest_35 : decode cX2_digest 35 = .ok (.getfield 51, 3) := by decide +kernel
theorem dX2_digest_38 : decode cX2_digest 38 = .ok (.iastore, 1) := by decide +kernel
theorem dX2_digest_39 : decode cX2_digest 39 = .ok (.dup, 1) := by decide +kernel
theorem dX2_digest_40 : decode cX2_digest 40 = .ok (.iconst 4, 1) := by decide +kernel
theorem dX2_digest_41 : decode cX2_digest 41 = .ok (.aload_n 0, 1) := by decide +kernel
theorem dX2_digest_42 : decode cX2_digest 42 = .ok (.getfield 13, 3) := by decide +kernel
theorem dX2_digest_45 : decode cX2_digest 45 = .ok (.aload_n 0, 1) := by decide +kernel
theorem dX2_digest_46 : decode cX2_digest 46 = .ok (.getfield 22, 3) := by decide +kernel
theorem dX2_digest_49 : decode cX2_digest 49 = .ok (.iconst 0, 1) := by decide +kernel
theorem dX2_digest_50 : decode cX2_digest 50 = .ok (.iaload, 1) := by decide +kernel
theorem dX2_digest_51 : decode cX2_digest 51 = .ok (.bipush 12, 2) := by decide +kernel
theorem dX2_digest_53 : decode cX2_digest 53 = .ok (.irem, 1) := by decide +kernel
theorem dX2_digest_54 : decode cX2_digest 54 = .ok (.iaload, 1) := by decide +kernel
theorem dX2_digest_55 : decode cX2_digest 55 = .ok (.iastore, 1) := by decide +kernel
theorem dX2_digest_56 : decode cX2_digest 56 = .ok (.dup, 1) := by decide +kernel
theorem dX2_digest_57 : decode cX2_digest 57 = .ok (.iconst 5, 1) := by decide +kernel
theorem dX2_digest_58 : decode cX2_digest 58 = .ok (.aload_n 0, 1) := by decide +kernel
theorem dX2_digest_59 : decode cX2_digest 59 = .ok (.invokevirtual 108, 3) := by decide +kernel
theorem dX2_digest_62 : decode cX2_digest 62 = .ok (.iastore, 1) := by decide +kernel
theorem dX2_digest_63 : decode cX2_digest 63 = .ok (.dup, 1) := by decide +kernel
theorem dX2_digest_64 : decode cX2_digest 64 = .ok (.bipush 6, 2) := by decide +kernel
theorem dX2_digest_66 : decode cX2_digest 66 = .ok (.aload_n 0, 1) := by decide +kernel
theorem dX2_digest_67 : decode cX2_digest 67 = .ok (.getfield 22, 3) := by decide +kernel
theorem dX2_digest_70 : decode cX2_digest 70 = .ok (.iconst 1, 1) := by decide +kernel
theorem dX2_digest_71 : decode cX2_digest 71 = .ok (.iaload, 1) := by decide +kernel
theorem dX2_digest_72 : decode cX2_digest 72 = .ok (.iastore, 1) := by decide +kernel
theorem dX2_digest_73 : decode cX2_digest 73 = .ok (.dup, 1) := by decide +kernel
theorem dX2_digest_74 : decode cX2_digest 74 = .ok (.bipush 7, 2) := by decide +kernel
theorem dX2_digest_76 : decode cX2_digest 76 = .ok (.aload_n 0, 1) := by decide +kernel
theorem dX2_digest_77 : decode cX2_digest 77 = .ok (.iconst 0, 1) := by decide +kernel
theorem dX2_digest_78 : decode cX2_digest 78 = .ok (.invokevirtual 72, 3) := by decide +kernel
theorem dX2_digest_81 : decode cX2_digest 81 = .ok (.iastore, 1) := by decide +kernel
theorem dX2_digest_82 : decode cX2_digest 82 = .ok (.dup, 1) := by decide +kernel
theorem dX2_digest_83 : decode cX2_digest 83 = .ok (.bipush 8, 2) := by decide +kernel
theorem dX2_digest_85 : decode cX2_digest 85 = .ok (.aload_n 0, 1) := by decide +kernel
theorem dX2_digest_86 : decode cX2_digest 86 = .ok (.iconst 0, 1) := by decide +kernel
theorem dX2_digest_87 : decode cX2_digest 87 = .ok (.invokevirtual 121, 3) := by decide +kernel
theorem dX2_digest_90 : decode cX2_digest 90 = .ok (.iastore, 1) := by decide +kernel
theorem dX2_digest_91 : decode cX2_digest 91 = .ok (.dup, 1) := by decide +kernel
theorem dX2_digest_92 : decode cX2_digest 92 = .ok (.bipush 9, 2) := by decide +kernel
theorem dX2_digest_94 : decode cX2_digest 94 = .ok (.aload_n 0, 1) := by decide +kernel
theorem dX2_digest_95 : decode cX2_digest 95 = .ok (.invokevirtual 137, 3) := by decide +kernel
theorem dX2_digest_98 : decode cX2_digest 98 = .ok (.iastore, 1) := by decide +kernel
theorem dX2_digest_99 : decode cX2_digest 99 = .ok (.dup, 1) := by decide +kernel
theorem dX2_digest_100 : decode cX2_digest 100 = .ok (.bipush 10, 2) := by decide +kernel
theorem dX2_digest_102 : decode cX2_digest 102 = .ok (.aload_n 0, 1) := by decide +kernel
theorem dX2_digest_103 : decode cX2_digest 103 = .ok (.bipush 12, 2) := by decide +kernel
theorem dX2_digest_105 : decode cX2_digest 105 = .ok (.invokevirtual 140, 3) := by decide +kernel
theorem dX2_digest_108 : decode cX2_digest 108 = .ok (.iastore, 1) := by decide +kernel
theorem dX2_digest_109 : decode cX2_digest 109 = .ok (.astore_n 1, 1) := by decide +kernel
theorem dX2_digest_110 : decode cX2_digest 110 = .ok (.ldc2_w 143, 3) := by decide +kernel
theorem dX2_digest_113 : decode cX2_digest 113 = .ok (.lstore_n 2, 1) := by decide +kernel
theorem dX2_digest_114 : decode cX2_digest 114 = .ok (.aload_n 1, 1) := by decide +kernel
theorem dX2_digest_115 : decode cX2_digest 115 = .ok (.astore 4, 2) := by decide +kernel
theorem dX2_digest_117 : decode cX2_digest 117 = .ok (.aload 4, 2) := by decide +kernel
theorem dX2_digest_119 : decode cX2_digest 119 = .ok (.arraylength, 1) := by decide +kernel
theorem dX2_digest_120 : decode cX2_digest 120 = .ok (.istore 5, 2) := by decide +kernel
theorem dX2_digest_122 : decode cX2_digest 122 = .ok (.iconst 0, 1) := by decide +kernel
theorem dX2_digest_123 : decode cX2_digest 123 = .ok (.istore 6, 2) := by decide +kernel
theorem dX2_digest_125 : decode cX2_digest 125 = .ok (.iload 6, 2) := by decide +kernel
theorem dX2_digest_127 : decode cX2_digest 127 = .ok (.iload 5, 2) := by decide +kernel
theorem dX2_digest_129 : decode cX2_digest 129 = .ok (.if_icmp .ge 26, 3) := by decide +kernel
theorem dX2_digest_132 : decode cX2_digest 132 = .ok (.aload 4, 2) := by decide +kernel
theorem dX2_digest_134 : decode cX2_digest 134 = .ok (.iload 6, 2) := by decide +kernel
theorem dX2_digest_136 : decode cX2_digest 136 = .ok (.iaload, 1) := by decide +kernel
theorem dX2_digest_137 : decode cX2_digest 137 = .ok (.istore 7, 2) := by decide +kernel
theorem dX2_digest_139 : decode cX2_digest 139 = .ok (.lload_n 2, 1) := by decide +kernel
theorem dX2_digest_140 : decode cX2_digest 140 = .ok (.ldc2_w 145, 3) := by decide +kernel
theorem dX2_digest_143 : decode cX2_digest 143 = .ok (.lmul, 1) := by decide +kernel
theorem dX2_digest_144 : decode cX2_digest 144 = .ok (.iload 7, 2) := by decide +kernel
theorem dX2_digest_146 : decode cX2_digest 146 = .ok (.i2l, 1) := by decide +kernel
theorem dX2_digest_147 : decode cX2_digest 147 = .ok (.ladd, 1) := by decide +kernel
theorem dX2_digest_148 : decode cX2_digest 148 = .ok (.lstore_n 2, 1) := by decide +kernel
theorem dX2_digest_149 : decode cX2_digest 149 = .ok (.iinc 6 1, 3) := by decide +kernel
theorem dX2_digest_152 : decode cX2_digest 152 = .ok (.goto (-27), 3) := by decide +kernel
theorem dX2_digest_155 : decode cX2_digest 155 = .ok (.iconst 0, 1) := by decide +kernel
theorem dX2_digest_156 : decode cX2_digest 156 = .ok (.istore 4, 2) := by decide +kernel
theorem dX2_digest_158 : decode cX2_digest 158 = .ok (.iload 4, 2) := by decide +kernel
theorem dX2_digest_160 : decode cX2_digest 160 = .ok (.aload_n 0, 1) := by decide +kernel
theorem dX2_digest_161 : decode cX2_digest 161 = .ok (.getfield 35, 3) := by decide +kernel
theorem dX2_digest_164 : decode cX2_digest 164 = .ok (.if_icmp .ge 23, 3) := by decide +kernel
theorem dX2_digest_167 : decode cX2_digest 167 = .ok (.lload_n 2, 1) := by decide +kernel
theorem dX2_digest_168 : decode cX2_digest 168 = .ok (.ldc2_w 145, 3) := by decide +kernel
theorem dX2_digest_171 : decode cX2_digest 171 = .ok (.lmul, 1) := by decide +kernel
theorem dX2_digest_172 : decode cX2_digest 172 = .ok (.aload_n 0, 1) := by decide +kernel
theorem dX2_digest_173 : decode cX2_digest 173 = .ok (.iload 4, 2) := by decide +kernel
theorem dX2_digest_175 : decode cX2_digest 175 = .ok (.invokevirtual 69, 3) := by decide +kernel
theorem dX2_digest_178 : decode cX2_digest 178 = .ok (.i2l, 1) := by decide +kernel
theorem dX2_digest_179 : decode cX2_digest 179 = .ok (.ladd, 1) := by decide +kernel
theorem dX2_digest_180 : decode cX2_digest 180 = .ok (.lstore_n 2, 1) := by decide +kernel
theorem dX2_digest_181 : decode cX2_digest 181 = .ok (.iinc 4 1, 3) := by decide +kernel
theorem dX2_digest_184 : decode cX2_digest 184 = .ok (.goto (-26), 3) := by decide +kernel
theorem dX2_digest_187 : decode cX2_digest 187 = .ok (.bipush 16, 2) := by decide +kernel
theorem dX2_digest_189 : decode cX2_digest 189 = .ok (.newarray .int, 2) := by decide +kernel
theorem dX2_digest_191 : decode cX2_digest 191 = .ok (.astore 4, 2) := by decide +kernel
theorem dX2_digest_193 : decode cX2_digest 193 = .ok (.aload_n 0, 1) := by decide +kernel
theorem dX2_digest_194 : decode cX2_digest 194 = .ok (.invokevirtual 124, 3) := by decide +kernel
theorem dX2_digest_197 : decode cX2_digest 197 = .ok (.aload_n 0, 1) := by decide +kernel
theorem dX2_digest_198 : decode cX2_digest 198 = .ok (.sipush 200, 3) := by decide +kernel
theorem dX2_digest_201 : decode cX2_digest 201 = .ok (.invokevirtual 95, 3) := by decide +kernel
theorem dX2_digest_204 : decode cX2_digest 204 = .ok (.iconst 0, 1) := by decide +kernel
theorem dX2_digest_205 : decode cX2_digest 205 = .ok (.istore 5, 2) := by decide +kernel
theorem dX2_digest_207 : decode cX2_digest 207 = .ok (.iload 5, 2) := by decide +kernel
theorem dX2_digest_209 : decode cX2_digest 209 = .ok (.aload_n 0, 1) := by decide +kernel
theorem dX2_digest_210 : decode cX2_digest 210 = .ok (.getfield 42, 3) := by decide +kernel
theorem dX2_digest_213 : decode cX2_digest 213 = .ok (.if_icmp .ge 24, 3) := by decide +kernel
theorem dX2_digest_216 : decode cX2_digest 216 = .ok (.aload 4, 2) := by decide +kernel
theorem dX2_digest_218 : decode cX2_digest 218 = .ok (.iload 5, 2) := by decide +kernel
theorem dX2_digest_220 : decode cX2_digest 220 = .ok (.aload_n 0, 1) := by decide +kernel
theorem dX2_digest_221 : decode cX2_digest 221 = .ok (.getfield 22, 3) := by decide +kernel
theorem dX2_digest_224 : decode cX2_digest 224 = .ok (.bipush 19, 2) := by decide +kernel
theorem dX2_digest_226 : decode cX2_digest 226 = .ok (.iload 5, 2) := by decide +kernel
theorem dX2_digest_228 : decode cX2_digest 228 = .ok (.iadd, 1) := by decide +kernel
theorem dX2_digest_229 : decode cX2_digest 229 = .ok (.iaload, 1) := by decide +kernel
theorem dX2_digest_230 : decode cX2_digest 230 = .ok (.iastore, 1) := by decide +kernel
theorem dX2_digest_231 : decode cX2_digest 231 = .ok (.iinc 5 1, 3) := by decide +kernel
theorem dX2_digest_234 : decode cX2_digest 234 = .ok (.goto (-27), 3) := by decide +kernel
theorem dX2_digest_237 : decode cX2_digest 237 = .ok (.aload_n 0, 1) := by decide +kernel
theorem dX2_digest_238 : decode cX2_digest 238 = .ok (.invokevirtual 127, 3) := by decide +kernel
theorem dX2_digest_241 : decode cX2_digest 241 = .ok (.iconst 0, 1) := by decide +kernel
theorem dX2_digest_242 : decode cX2_digest 242 = .ok (.istore 5, 2) := by decide +kernel
theorem dX2_digest_244 : decode cX2_digest 244 = .ok (.iload 5, 2) := by decide +kernel
theorem dX2_digest_246 : decode cX2_digest 246 = .ok (.aload_n 0, 1) := by decide +kernel
theorem dX2_digest_247 : decode cX2_digest 247 = .ok (.getfield 42, 3) := by decide +kernel
theorem dX2_digest_250 : decode cX2_digest 250 = .ok (.if_icmp .ge 122, 3) := by decide +kernel
theorem dX2_digest_253 : decode cX2_digest 253 = .ok (.bipush 6, 2) := by decide +kernel
theorem dX2_digest_255 : decode cX2_digest 255 = .ok (.newarray .int, 2) := by decide +kernel
theorem dX2_digest_257 : decode cX2_digest 257 = .ok (.dup, 1) := by decide +kernel
theorem dX2_digest_258 : decode cX2_digest 258 = .ok (.iconst 0, 1) := by decide +kernel
theorem dX2_digest_259 : decode cX2_digest 259 = .ok (.aload_n 0, 1) := by decide +kernel
theorem dX2_digest_260 : decode cX2_digest 260 = .ok (.getfield 22, 3) := by decide +kernel
theorem dX2_digest_263 : decode cX2_digest 263 = .ok (.bipush 35, 2) := by decide +kernel
theorem dX2_digest_265 : decode cX2_digest 265 = .ok (.iload 5, 2) := by decide +kernel
theorem dX2_digest_267 : decode cX2_digest 267 = .ok (.iadd, 1) := by decide +kernel
theorem dX2_digest_268 : decode cX2_digest 268 = .ok (.iaload, 1) := by decide +kernel
theorem dX2_digest_269 : decode cX2_digest 269 = .ok (.iastore, 1) := by decide +kernel
theorem dX2_digest_270 : decode cX2_digest 270 = .ok (.dup, 1) := by decide +kernel
theorem dX2_digest_271 : decode cX2_digest 271 = .ok (.iconst 1, 1) := by decide +kernel
theorem dX2_digest_272 : decode cX2_digest 272 = .ok (.aload_n 0, 1) := by decide +kernel
theorem dX2_digest_273 : decode cX2_digest 273 = .ok (.getfield 22, 3) := by decide +kernel
theorem dX2_digest_276 : decode cX2_digest 276 = .ok (.iconst 3, 1) := by decide +kernel
theorem dX2_digest_277 : decode cX2_digest 277 = .ok (.iload 5, 2) := by decide +kernel
theorem dX2_digest_279 : decode cX2_digest 279 = .ok (.iadd, 1) := by decide +kernel
theorem dX2_digest_280 : decode cX2_digest 280 = .ok (.iaload, 1) := by decide +kernel
theorem dX2_digest_281 : decode cX2_digest 281 = .ok (.iastore, 1) := by decide +kernel
theorem dX2_digest_282 : decode cX2_digest 282 = .ok (.dup, 1) := by decide +kernel
theorem dX2_digest_283 : decode cX2_digest 283 = .ok (.iconst 2, 1) := by decide +kernel
theorem dX2_digest_284 : decode cX2_digest 284 = .ok (.aload_n 0, 1) := by decide +kernel
theorem dX2_digest_285 : decode cX2_digest 285 = .ok (.getfield 19, 3) := by decide +kernel
theorem dX2_digest_288 : decode cX2_digest 288 = .ok (.iload 5, 2) := by decide +kernel
theorem dX2_digest_290 : decode cX2_digest 290 = .ok (.iaload, 1) := by decide +kernel
theorem dX2_digest_291 : decode cX2_digest 291 = .ok (.iastore, 1) := by decide +kernel
theorem dX2_digest_292 : decode cX2_digest 292 = .ok (.dup, 1) := by decide +kernel
theorem dX2_digest_293 : decode cX2_digest 293 = .ok (.iconst 3, 1) := by decide +kernel
theorem dX2_digest_294 : decode cX2_digest 294 = .ok (.aload_n 0, 1) := by decide +kernel
theorem dX2_digest_295 : decode cX2_digest 295 = .ok (.getfield 22, 3) := by decide +kernel
theorem dX2_digest_298 : decode cX2_digest 298 = .ok (.bipush 19, 2) := by decide +kernel
theorem dX2_digest_300 : decode cX2_digest 300 = .ok (.iload 5, 2) := by decide +kernel
theorem dX2_digest_302 : decode cX2_digest 302 = .ok (.iadd, 1) := by decide +kernel
theorem dX2_digest_303 : decode cX2_digest 303 = .ok (.iaload, 1) := by decide +kernel
theorem dX2_digest_304 : decode cX2_digest 304 = .ok (.iastore, 1) := by decide +kernel
theorem dX2_digest_305 : decode cX2_digest 305 = .ok (.dup, 1) := by decide +kernel
theorem dX2_digest_306 : decode cX2_digest 306 = .ok (.iconst 4, 1) := by decide +kernel
theorem dX2_digest_307 : decode cX2_digest 307 = .ok (.aload_n 0, 1) := by decide +kernel
theorem dX2_digest_308 : decode cX2_digest 308 = .ok (.iload 5, 2) := by decide +kernel
theorem dX2_digest_310 : decode cX2_digest 310 = .ok (.invokevirtual 112, 3) := by decide +kernel
theorem dX2_digest_313 : decode cX2_digest 313 = .ok (.iastore, 1) := by decide +kernel
theorem dX2_digest_314 : decode cX2_digest 314 = .ok (.dup, 1) := by decide +kernel
theorem dX2_digest_315 : decode cX2_digest 315 = .ok (.iconst 5, 1) := by decide +kernel
theorem dX2_digest_316 : decode cX2_digest 316 = .ok (.aload 4, 2) := by decide +kernel
theorem dX2_digest_318 : decode cX2_digest 318 = .ok (.iload 5, 2) := by decide +kernel
theorem dX2_digest_320 : decode cX2_digest 320 = .ok (.iaload, 1) := by decide +kernel
theorem dX2_digest_321 : decode cX2_digest 321 = .ok (.iastore, 1) := by decide +kernel
theorem dX2_digest_322 : decode cX2_digest 322 = .ok (.astore 6, 2) := by decide +kernel
theorem dX2_digest_324 : decode cX2_digest 324 = .ok (.aload 6, 2) := by decide +kernel
theorem dX2_digest_326 : decode cX2_digest 326 = .ok (.astore 7, 2) := by decide +kernel
theorem dX2_digest_328 : decode cX2_digest 328 = .ok (.aload 7, 2) := by decide +kernel
theorem dX2_digest_330 : decode cX2_digest 330 = .ok (.arraylength, 1) := by decide +kernel
theorem dX2_digest_331 : decode cX2_digest 331 = .ok (.istore 8, 2) := by decide +kernel
theorem dX2_digest_333 : decode cX2_digest 333 = .ok (.iconst 0, 1) := by decide +kernel
theorem dX2_digest_334 : decode cX2_digest 334 = .ok (.istore 9, 2) := by decide +kernel
theorem dX2_digest_336 : decode cX2_digest 336 = .ok (.iload 9, 2) := by decide +kernel
theorem dX2_digest_338 : decode cX2_digest 338 = .ok (.iload 8, 2) := by decide +kernel
theorem dX2_digest_340 : decode cX2_digest 340 = .ok (.if_icmp .ge 26, 3) := by decide +kernel
theorem dX2_digest_343 : decode cX2_digest 343 = .ok (.aload 7, 2) := by decide +kernel
theorem dX2_digest_345 : decode cX2_digest 345 = .ok (.iload 9, 2) := by decide +kernel
theorem dX2_digest_347 : decode cX2_digest 347 = .ok (.iaload, 1) := by decide +kernel
theorem dX2_digest_348 : decode cX2_digest 348 = .ok (.istore 10, 2) := by decide +kernel
theorem dX2_digest_350 : decode cX2_digest 350 = .ok (.lload_n 2, 1) := by decide +kernel
theorem dX2_digest_351 : decode cX2_digest 351 = .ok (.ldc2_w 145, 3) := by decide +kernel
theorem dX2_digest_354 : decode cX2_digest 354 = .ok (.lmul, 1) := by decide +kernel
theorem dX2_digest_355 : decode cX2_digest 355 = .ok (.iload 10, 2) := by decide +kernel
theorem dX2_digest_357 : decode cX2_digest 357 = .ok (.i2l, 1) := by decide +kernel
theorem dX2_digest_358 : decode cX2_digest 358 = .ok (.ladd, 1) := by decide +kernel
theorem dX2_digest_359 : decode cX2_digest 359 = .ok (.lstore_n 2, 1) := by decide +kernel
theorem dX2_digest_360 : decode cX2_digest 360 = .ok (.iinc 9 1, 3) := by decide +kernel
theorem dX2_digest_363 : decode cX2_digest 363 = .ok (.goto (-27), 3) := by decide +kernel
theorem dX2_digest_366 : decode cX2_digest 366 = .ok (.iinc 5 1, 3) := by decide +kernel
theorem dX2_digest_369 : decode cX2_digest 369 = .ok (.goto (-125), 3) := by decide +kernel
theorem dX2_digest_372 : decode cX2_digest 372 = .ok (.iconst 0, 1) := by decide +kernel
theorem dX2_digest_373 : decode cX2_digest 373 = .ok (.istore 5, 2) := by decide +kernel
theorem dX2_digest_375 : decode cX2_digest 375 = .ok (.iload 5, 2) := by decide +kernel
theorem dX2_digest_377 : decode cX2_digest 377 = .ok (.bipush 8, 2) := by decide +kernel
theorem dX2_digest_379 : decode cX2_digest 379 = .ok (.if_icmp .ge 23, 3) := by decide +kernel
theorem dX2_digest_382 : decode cX2_digest 382 = .ok (.lload_n 2, 1) := by decide +kernel
theorem dX2_digest_383 : decode cX2_digest 383 = .ok (.ldc2_w 145, 3) := by decide +kernel
theorem dX2_digest_386 : decode cX2_digest 386 = .ok (.lmul, 1) := by decide +kernel
theorem dX2_digest_387 : decode cX2_digest 387 = .ok (.aload_n 0, 1) := by decide +kernel
theorem dX2_digest_388 : decode cX2_digest 388 = .ok (.iload 5, 2) := by decide +kernel
theorem dX2_digest_390 : decode cX2_digest 390 = .ok (.invokevirtual 115, 3) := by decide +kernel
theorem dX2_digest_393 : decode cX2_digest 393 = .ok (.i2l, 1) := by decide +kernel
theorem dX2_digest_394 : decode cX2_digest 394 = .ok (.ladd, 1) := by decide +kernel
theorem dX2_digest_395 : decode cX2_digest 395 = .ok (.lstore_n 2, 1) := by decide +kernel
theorem dX2_digest_396 : decode cX2_digest 396 = .ok (.iinc 5 1, 3) := by decide +kernel
theorem dX2_digest_399 : decode cX2_digest 399 = .ok (.goto (-24), 3) := by decide +kernel
theorem dX2_digest_402 : decode cX2_digest 402 = .ok (.lload_n 2, 1) := by decide +kernel
theorem dX2_digest_403 : decode cX2_digest 403 = .ok (.lreturn, 1) := by decide +kernel
