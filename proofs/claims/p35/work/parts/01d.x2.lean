theorem dX2_init_0 : decode cX2_init 0 = .ok (.aload_n 0, 1) := by decide +kernel
theorem dX2_init_1 : decode cX2_init 1 = .ok (.invokespecial 1, 3) := by decide +kernel
theorem dX2_init_4 : decode cX2_init 4 = .ok (.aload_n 0, 1) := by decide +kernel
theorem dX2_init_5 : decode cX2_init 5 = .ok (.bipush 12, 2) := by decide +kernel
theorem dX2_init_7 : decode cX2_init 7 = .ok (.newarray .int, 2) := by decide +kernel
theorem dX2_init_9 : decode cX2_init 9 = .ok (.dup, 1) := by decide +kernel
theorem dX2_init_10 : decode cX2_init 10 = .ok (.iconst 0, 1) := by decide +kernel
theorem dX2_init_11 : decode cX2_init 11 = .ok (.iconst 5, 1) := by decide +kernel
theorem dX2_init_12 : decode cX2_init 12 = .ok (.iastore, 1) := by decide +kernel
theorem dX2_init_13 : decode cX2_init 13 = .ok (.dup, 1) := by decide +kernel
theorem dX2_init_14 : decode cX2_init 14 = .ok (.iconst 1, 1) := by decide +kernel
theorem dX2_init_15 : decode cX2_init 15 = .ok (.iconst 5, 1) := by decide +kernel
theorem dX2_init_16 : decode cX2_init 16 = .ok (.iastore, 1) := by decide +kernel
theorem dX2_init_17 : decode cX2_init 17 = .ok (.dup, 1) := by decide +kernel
theorem dX2_init_18 : decode cX2_init 18 = .ok (.iconst 2, 1) := by decide +kernel
theorem dX2_init_19 : decode cX2_init 19 = .ok (.iconst 5, 1) := by decide +kernel
theorem dX2_init_20 : decode cX2_init 20 = .ok (.iastore, 1) := by decide +kernel
theorem dX2_init_21 : decode cX2_init 21 = .ok (.dup, 1) := by decide +kernel
theorem dX2_init_22 : decode cX2_init 22 = .ok (.iconst 3, 1) := by decide +kernel
theorem dX2_init_23 : decode cX2_init 23 = .ok (.iconst 5, 1) := by decide +kernel
theorem dX2_init_24 : decode cX2_init 24 = .ok (.iastore, 1) := by decide +kernel
theorem dX2_init_25 : decode cX2_init 25 = .ok (.dup, 1) := by decide +kernel
theorem dX2_init_26 : decode cX2_init 26 = .ok (.iconst 4, 1) := by decide +kernel
theorem dX2_init_27 : decode cX2_init 27 = .ok (.iconst 5, 1) := by decide +kernel
theorem dX2_init_28 : decode cX2_init 28 = .ok (.iastore, 1) := by decide +kernel
theorem dX2_init_29 : decode cX2_init 29 = .ok (.dup, 1) := by decide +kernel
theorem dX2_init_30 : decode cX2_init 30 = .ok (.iconst 5, 1) := by decide +kernel
theorem dX2_init_31 : decode cX2_init 31 = .ok (.iconst 5, 1) := by decide +kernel
theorem dX2_init_32 : decode cX2_init 32 = .ok (.iastore, 1) := by decide +kernel
theorem dX2_init_33 : decode cX2_init 33 = .ok (.dup, 1) := by decide +kernel
theorem dX2_init_34 : decode cX2_init 34 = .ok (.bipush 6, 2) := by decide +kernel
theorem dX2_init_36 : decode cX2_init 36 = .ok (.iconst 5, 1) := by decide +kernel
theorem dX2_init_37 : decode cX2_init 37 = .ok (.iastore, 1) := by decide +kernel
theorem dX2_init_38 : decode cX2_init 38 = .ok (.dup, 1) := by decide +kernel
theorem dX2_init_39 : decode cX2_init 39 = .ok (.bipush 7, 2) := by decide +kernel
theorem dX2_init_41 : decode cX2_init 41 = .ok (.iconst 5, 1) := by decide +kernel
theorem dX2_init_42 : decode cX2_init 42 = .ok (.iastore, 1) := by decide +kernel
theorem dX2_init_43 : decode cX2_init 43 = .ok (.dup, 1) := by decide +kernel
theorem dX2_init_44 : decode cX2_init 44 = .ok (.bipush 8, 2) := by decide +kernel
theorem dX2_init_46 : decode cX2_init 46 = .ok (.iconst 5, 1) := by decide +kernel
theorem dX2_init_47 : decode cX2_init 47 = .ok (.iastore, 1) := by decide +kernel
theorem dX2_init_48 : decode cX2_init 48 = .ok (.dup, 1) := by decide +kernel
theorem dX2_init_49 : decode cX2_init 49 = .ok (.bipush 9, 2) := by decide +kernel
theorem dX2_init_51 : decode cX2_init 51 = .ok (.iconst 5, 1) := by decide +kernel
theorem dX2_init_52 : decode cX2_init 52 = .ok (.iastore, 1) := by decide +kernel
theorem dX2_init_53 : decode cX2_init 53 = .ok (.dup, 1) := by decide +kernel
theorem dX2_init_54 : decode cX2_init 54 = .ok (.bipush 10, 2) := by decide +kernel
theorem dX2_init_56 : decode cX2_init 56 = .ok (.iconst 5, 1) := by decide +kernel
theorem dX2_init_57 : decode cX2_init 57 = .ok (.iastore, 1) := by decide +kernel
theorem dX2_init_58 : decode cX2_init 58 = .ok (.dup, 1) := by decide +kernel
theorem dX2_init_59 : decode cX2_init 59 = .ok (.bipush 11, 2) := by decide +kernel
theorem dX2_init_61 : decode cX2_init 61 = .ok (.iconst 5, 1) := by decide +kernel
theorem dX2_init_62 : decode cX2_init 62 = .ok (.iastore, 1) := by decide +kernel
theorem dX2_init_63 : decode cX2_init 63 = .ok (.putfield 7, 3) := by decide +kernel
theorem dX2_init_66 : decode cX2_init 66 = .ok (.aload_n 0, 1) := by decide +kernel
theorem dX2_init_67 : decode cX2_init 67 = .ok (.iconst 0, 1) := by decide +kernel
theorem dX2_init_68 : decode cX2_init 68 = .ok (.anewarray 13, 3) := by decide +kernel
theorem dX2_init_71 : decode cX2_init 71 = .ok (.putfield 14, 3) := by decide +kernel
theorem dX2_init_74 : decode cX2_init 74 = .ok (.aload_n 0, 1) := by decide +kernel
theorem dX2_init_75 : decode cX2_init 75 = .ok (.iconst 0, 1) := by decide +kernel
theorem dX2_init_76 : decode cX2_init 76 = .ok (.anewarray 13, 3) := by decide +kernel
theorem dX2_init_79 : decode cX2_init 79 = .ok (.putfield 18, 3) := by decide +kernel
theorem dX2_init_82 : decode cX2_init 82 = .ok (.return_, 1) := by decide +kernel
theorem dX2_with_0 : decode cX2_with 0 = .ok (.aload_n 0, 1) := by decide +kernel
theorem dX2_with_1 : decode cX2_with 1 = .ok (.arraylength, 1) := by decide +kernel
theorem dX2_with_2 : decode cX2_with 2 = .ok (.iconst 1, 1) := by decide +kernel
theorem dX2_with_3 : decode cX2_with 3 = .ok (.iadd, 1) := by decide +kernel
theorem dX2_with_4 : decode cX2_with 4 = .ok (.anewarray 13, 3) := by decide +kernel
theorem dX2_with_7 : decode cX2_with 7 = .ok (.astore_n 2, 1) := by decide +kernel
theorem dX2_with_8 : decode cX2_with 8 = .ok (.iconst 0, 1) := by decide +kernel
theorem dX2_with_9 : decode cX2_with 9 = .ok (.istore_n 3, 1) := by decide +kernel
theorem dX2_with_10 : decode cX2_with 10 = .ok (.iload_n 3, 1) := by decide +kernel
theorem dX2_with_11 : decode cX2_with 11 = .ok (.aload_n 0, 1) := by decide +kernel
theorem dX2_with_12 : decode cX2_with 12 = .ok (.arraylength, 1) := by decide +kernel
theorem dX2_with_13 : decode cX2_with 13 = .ok (.if_icmp .ge 15, 3) := by decide +kernel
theorem dX2_with_16 : decode cX2_with 16 = .ok (.aload_n 2, 1) := by decide +kernel
theorem dX2_with_17 : decode cX2_with 17 = .ok (.iload_n 3, 1) := by decide +kernel
theorem dX2_with_18 : decode cX2_with 18 = .ok (.aload_n 0, 1) := by decide +kernel
theorem dX2_with_19 : decode cX2_with 19 = .ok (.iload_n 3, 1) := by decide +kernel
theorem dX2_with_20 : decode cX2_with 20 = .ok (.aaload, 1) := by decide +kernel
theorem dX2_with_21 : decode cX2_with 21 = .ok (.aastore, 1) := by decide +kernel
theorem dX2_with_22 : decode cX2_with 22 = .ok (.iinc 3 1, 3) := by decide +kernel
theorem dX2_with_25 : decode cX2_with 25 = .ok (.goto (-15), 3) := by decide +kernel
theorem dX2_with_28 : decode cX2_with 28 = .ok (.aload_n 2, 1) := by decide +kernel
theorem dX2_with_29 : decode cX2_with 29 = .ok (.aload_n 0, 1) := by decide +kernel
theorem dX2_with_30 : decode cX2_with 30 = .ok (.arraylength, 1) := by decide +kernel
theorem dX2_with_31 : decode cX2_with 31 = .ok (.aload_n 1, 1) := by decide +kernel
theorem dX2_with_32 : decode cX2_with 32 = .ok (.aastore, 1) := by decide +kernel
theorem dX2_with_33 : decode cX2_with 33 = .ok (.aload_n 2, 1) := by decide +kernel
theorem dX2_with_34 : decode cX2_with 34 = .ok (.areturn, 1) := by decide +kernel
theorem dX2_order_0 : decode cX2_order 0 = .ok (.iconst 0, 1) := by decide +kernel
theorem dX2_order_1 : decode cX2_order 1 = .ok (.istore_n 1, 1) := by decide +kernel
theorem dX2_order_2 : decode cX2_order 2 = .ok (.aload_n 0, 1) := by decide +kernel
theorem dX2_order_3 : decode cX2_order 3 = .ok (.getfield 18, 3) := by decide +kernel
theorem dX2_order_6 : decode cX2_order 6 = .ok (.astore_n 2, 1) := by decide +kernel
theorem dX2_order_7 : decode cX2_order 7 = .ok (.aload_n 2, 1) := by decide +kernel
theorem dX2_order_8 : decode cX2_order 8 = .ok (.arraylength, 1) := by decide +kernel
theorem dX2_order_9 : decode cX2_order 9 = .ok (.istore_n 3, 1) := by decide +kernel
theorem dX2_order_10 : decode cX2_order 10 = .ok (.iconst 0, 1) := by decide +kernel
theorem dX2_order_11 : decode cX2_order 11 = .ok (.istore 4, 2) := by decide +kernel
theorem dX2_order_13 : decode cX2_order 13 = .ok (.iload 4, 2) := by decide +kernel
theorem dX2_order_15 : decode cX2_order 15 = .ok (.iload_n 3, 1) := by decide +kernel
theorem dX2_order_16 : decode cX2_order 16 = .ok (.if_icmp .ge 25, 3) := by decide +kernel
theorem dX2_order_19 : decode cX2_order 19 = .ok (.aload_n 2, 1) := by decide +kernel
theorem dX2_order_20 : decode cX2_order 20 = .ok (.iload 4, 2) := by decide +kernel
theorem dX2_order_22 : decode cX2_order 22 = .ok (.aaload, 1) := by decide +kernel
theorem dX2_order_23 : decode cX2_order 23 = .ok (.astore 5, 2) := by decide +kernel
theorem dX2_order_25 : decode cX2_order 25 = .ok (.aload 5, 2) := by decide +kernel
theorem dX2_order_27 : decode cX2_order 27 = .ok (.iconst 3, 1) := by decide +kernel
theorem dX2_order_28 : decode cX2_order 28 = .ok (.iaload, 1) := by decide +kernel
theorem dX2_order_29 : decode cX2_order 29 = .ok (.ifCond .ge 6, 3) := by decide +kernel
theorem dX2_order_32 : decode cX2_order 32 = .ok (.iinc 1 1, 3) := by decide +kernel
theorem dX2_order_35 : decode cX2_order 35 = .ok (.iinc 4 1, 3) := by decide +kernel
theorem dX2_order_38 : decode cX2_order 38 = .ok (.goto (-25), 3) := by decide +kernel
theorem dX2_order_41 : decode cX2_order 41 = .ok (.iload_n 1, 1) := by decide +kernel
theorem dX2_order_42 : decode cX2_order 42 = .ok (.newarray .int, 2) := by decide +kernel
theorem dX2_order_44 : decode cX2_order 44 = .ok (.astore_n 2, 1) := by decide +kernel
theorem dX2_order_45 : decode cX2_order 45 = .ok (.iconst 0, 1) := by decide +kernel
theorem dX2_order_46 : decode cX2_order 46 = .ok (.istore_n 3, 1) := by decide +kernel
theorem dX2_order_47 : decode cX2_order 47 = .ok (.iconst 0, 1) := by decide +kernel
theorem dX2_order_48 : decode cX2_order 48 = .ok (.istore 4, 2) := by decide +kernel
theorem dX2_order_50 : decode cX2_order 50 = .ok (.iload 4, 2) := by decide +kernel
theorem dX2_order_52 : decode cX2_order 52 = .ok (.aload_n 0, 1) := by decide +kernel
theorem dX2_order_53 : decode cX2_order 53 = .ok (.getfield 18, 3) := by decide +kernel
theorem dX2_order_56 : decode cX2_order 56 = .ok (.arraylength, 1) := by decide +kernel
theorem dX2_order_57 : decode cX2_order 57 = .ok (.if_icmp .ge 99, 3) := by decide +kernel
theorem dX2_order_60 : decode cX2_order 60 = .ok (.aload_n 0, 1) := by decide +kernel
theorem dX2_order_61 : decode cX2_order 61 = .ok (.getfield 18, 3) := by decide +kernel
theorem dX2_order_64 : decode cX2_order 64 = .ok (.iload 4, 2) := by decide +kernel
theorem dX2_order_66 : decode cX2_order 66 = .ok (.aaload, 1) := by decide +kernel
theorem dX2_order_67 : decode cX2_order 67 = .ok (.iconst 3, 1) := by decide +kernel
theorem dX2_order_68 : decode cX2_order 68 = .ok (.iaload, 1) := by decide +kernel
theorem dX2_order_69 : decode cX2_order 69 = .ok (.ifCond .lt 6, 3) := by decide +kernel
theorem dX2_order_72 : decode cX2_order 72 = .ok (.goto 78, 3) := by decide +kernel
theorem dX2_order_75 : decode cX2_order 75 = .ok (.iload_n 3, 1) := by decide +kernel
theorem dX2_order_76 : decode cX2_order 76 = .ok (.istore 5, 2) := by decide +kernel
theorem dX2_order_78 : decode cX2_order 78 = .ok (.iload 5, 2) := by decide +kernel
theorem dX2_order_80 : decode cX2_order 80 = .ok (.ifCond .le 61, 3) := by decide +kernel
theorem dX2_order_83 : decode cX2_order 83 = .ok (.aload_n 0, 1) := by decide +kernel
theorem dX2_order_84 : decode cX2_order 84 = .ok (.getfield 21, 3) := by decide +kernel
theorem dX2_order_87 : decode cX2_order 87 = .ok (.ifCond .le 54, 3) := by decide +kernel
theorem dX2_order_90 : decode cX2_order 90 = .ok (.aload_n 0, 1) := by decide +kernel
theorem dX2_order_91 : decode cX2_order 91 = .ok (.getfield 18, 3) := by decide +kernel
theorem dX2_order_94 : decode cX2_order 94 = .ok (.aload_n 2, 1) := by decide +kernel
theorem dX2_order_95 : decode cX2_order 95 = .ok (.iload 5, 2) := by decide +kernel
theorem dX2_order_97 : decode cX2_order 97 = .ok (.iconst 1, 1) := by decide +kernel
theorem dX2_order_98 : decode cX2_order 98 = .ok (.isub, 1) := by decide +kernel
theorem dX2_order_99 : decode cX2_order 99 = .ok (.iaload, 1) := by decide +kernel
theorem dX2_order_100 : decode cX2_order 100 = .ok (.aaload, 1) := by decide +kernel
theorem dX2_order_101 : decode cX2_order 101 = .ok (.iconst 3, 1) := by decide +kernel
theorem dX2_order_102 : decode cX2_order 102 = .ok (.aload_n 0, 1) := by decide +kernel
theorem dX2_order_103 : decode cX2_order 103 = .ok (.getfield 21, 3) := by decide +kernel
theorem dX2_order_106 : decode cX2_order 106 = .ok (.isub, 1) := by decide +kernel
theorem dX2_order_107 : decode cX2_order 107 = .ok (.iaload, 1) := by decide +kernel
theorem dX2_order_108 : decode cX2_order 108 = .ok (.aload_n 0, 1) := by decide +kernel
theorem dX2_order_109 : decode cX2_order 109 = .ok (.getfield 18, 3) := by decide +kernel
theorem dX2_order_112 : decode cX2_order 112 = .ok (.iload 4, 2) := by decide +kernel
theorem dX2_order_114 : decode cX2_order 114 = .ok (.aaload, 1) := by decide +kernel
theorem dX2_order_115 : decode cX2_order 115 = .ok (.iconst 3, 1) := by decide +kernel
theorem dX2_order_116 : decode cX2_order 116 = .ok (.aload_n 0, 1) := by decide +kernel
theorem dX2_order_117 : decode cX2_order 117 = .ok (.getfield 21, 3) := by decide +kernel
theorem dX2_order_120 : decode cX2_order 120 = .ok (.isub, 1) := by decide +kernel
theorem dX2_order_121 : decode cX2_order 121 = .ok (.iaload, 1) := by decide +kernel
theorem dX2_order_122 : decode cX2_order 122 = .ok (.if_icmp .le 19, 3) := by decide +kernel
theorem dX2_order_125 : decode cX2_order 125 = .ok (.aload_n 2, 1) := by decide +kernel
theorem dX2_order_126 : decode cX2_order 126 = .ok (.iload 5, 2) := by decide +kernel
theorem dX2_order_128 : decode cX2_order 128 = .ok (.aload_n 2, 1) := by decide +kernel
theorem dX2_order_129 : decode cX2_order 129 = .ok (.iload 5, 2) := by decide +kernel
theorem dX2_order_131 : decode cX2_order 131 = .ok (.iconst 1, 1) := by decide +kernel
theorem dX2_order_132 : decode cX2_order 132 = .ok (.isub, 1) := by decide +kernel
theorem dX2_order_133 : decode cX2_order 133 = .ok (.iaload, 1) := by decide +kernel
theorem dX2_order_134 : decode cX2_order 134 = .ok (.iastore, 1) := by decide +kernel
theorem dX2_order_135 : decode cX2_order 135 = .ok (.iinc 5 (-1), 3) := by decide +kernel
theorem dX2_order_138 : decode cX2_order 138 = .ok (.goto (-60), 3) := by decide +kernel
theorem dX2_order_141 : decode cX2_order 141 = .ok (.aload_n 2, 1) := by decide +kernel
theorem dX2_order_142 : decode cX2_order 142 = .ok (.iload 5, 2) := by decide +kernel
theorem dX2_order_144 : decode cX2_order 144 = .ok (.iload 4, 2) := by decide +kernel
theorem dX2_order_146 : decode cX2_order 146 = .ok (.iastore, 1) := by decide +kernel
theorem dX2_order_147 : decode cX2_order 147 = .ok (.iinc 3 1, 3) := by decide +kernel
theorem dX2_order_150 : decode cX2_order 150 = .ok (.iinc 4 1, 3) := by decide +kernel
theorem dX2_order_153 : decode cX2_order 153 = .ok (.goto (-103), 3) := by decide +kernel
theorem dX2_order_156 : decode cX2_order 156 = .ok (.aload_n 2, 1) := by decide +kernel
theorem dX2_order_157 : decode cX2_order 157 = .ok (.areturn, 1) := by decide +kernel
theorem dX2_stoneOf_0 : decode cX2_stoneOf 0 = .ok (.iconst 0, 1) := by decide +kernel
theorem dX2_stoneOf_1 : decode cX2_stoneOf 1 = .ok (.istore_n 2, 1) := by decide +kernel
theorem dX2_stoneOf_2 : decode cX2_stoneOf 2 = .ok (.iload_n 2, 1) := by decide +kernel
theorem dX2_stoneOf_3 : decode cX2_stoneOf 3 = .ok (.aload_n 0, 1) := by decide +kernel
theorem dX2_stoneOf_4 : decode cX2_stoneOf 4 = .ok (.getfield 14, 3) := by decide +kernel
theorem dX2_stoneOf_7 : decode cX2_stoneOf 7 = .ok (.arraylength, 1) := by decide +kernel
theorem dX2_stoneOf_8 : decode cX2_stoneOf 8 = .ok (.if_icmp .ge 23, 3) := by decide +kernel
theorem dX2_stoneOf_11 : decode cX2_stoneOf 11 = .ok (.aload_n 0, 1) := by decide +kernel
theorem dX2_stoneOf_12 : decode cX2_stoneOf 12 = .ok (.getfield 14, 3) := by decide +kernel
theorem dX2_stoneOf_15 : decode cX2_stoneOf 15 = .ok (.iload_n 2, 1) := by decide +kernel
theorem dX2_stoneOf_16 : decode cX2_stoneOf 16 = .ok (.aaload, 1) := by decide +kernel
theorem dX2_stoneOf_17 : decode cX2_stoneOf 17 = .ok (.iconst 1, 1) := by decide +kernel
theorem dX2_stoneOf_18 : decode cX2_stoneOf 18 = .ok (.iaload, 1) := by decide +kernel
theorem dX2_stoneOf_19 : decode cX2_stoneOf 19 = .ok (.iload_n 1, 1) := by decide +kernel
theorem dX2_stoneOf_20 : decode cX2_stoneOf 20 = .ok (.if_icmp .ne 5, 3) := by decide +kernel
theorem dX2_stoneOf_23 : decode cX2_stoneOf 23 = .ok (.iload_n 2, 1) := by decide +kernel
theorem dX2_stoneOf_24 : decode cX2_stoneOf 24 = .ok (.ireturn, 1) := by decide +kernel
theorem dX2_stoneOf_25 : decode cX2_stoneOf 25 = .ok (.iinc 2 1, 3) := by decide +kernel
theorem dX2_stoneOf_28 : decode cX2_stoneOf 28 = .ok (.goto (-26), 3) := by decide +kernel
theorem dX2_stoneOf_31 : decode cX2_stoneOf 31 = .ok (.iconst (-1), 1) := by decide +kernel
theorem dX2_stoneOf_32 : decode cX2_stoneOf 32 = .ok (.ireturn, 1) := by decide +kernel
set_option maxRecDepth 20000 in
theorem ggX2_pass_X2_order : GoodIn wsX2_pass wsX2_order := goodIn_r _ [13, 7, 5, 14, 19, 20, 21, 22, 23, 24, 25, 26] (by decide +kernel) (by decide +kernel)
set_option maxRecDepth 20000 in
theorem gX2_pass_X2_order : GoodIn wsX2_pass (wsV RX2 25 RX2 yX2_order wsX2_order) := goodIn_app (goodIn_of _ (by decide +kernel)) ggX2_pass_X2_order
set_option maxRecDepth 20000 in
theorem ggX2_pass_X2_stoneOf : GoodIn wsX2_pass wsX2_stoneOf := goodIn_r _ [18, 1, 19, 20, 21, 22, 23, 24, 25, 26] (by decide +kernel) (by decide +kernel)
set_option maxRecDepth 20000 in
theorem gX2_pass_X2_stoneOf : GoodIn wsX2_pass (wsV RX2 36 RX2 yX2_stoneOf wsX2_stoneOf) := goodIn_app (goodIn_of _ (by decide +kernel)) ggX2_pass_X2_stoneOf
theorem dX2_pass_0 : decode cX2_pass 0 = .ok (.aload_n 0, 1) := by decide +kernel
theorem dX2_pass_1 : decode cX2_pass 1 = .ok (.invokevirtual 25, 3) := by decide +kernel
theorem dX2_pass_4 : decode cX2_pass 4 = .ok (.astore_n 1, 1) := by decide +kernel
theorem dX2_pass_5 : decode cX2_pass 5 = .ok (.aload_n 0, 1) := by decide +kernel
theorem dX2_pass_6 : decode cX2_pass 6 = .ok (.getfield 14, 3) := by decide +kernel
theorem dX2_pass_9 : decode cX2_pass 9 = .ok (.astore_n 2, 1) := by decide +kernel
theorem dX2_pass_10 : decode cX2_pass 10 = .ok (.aload_n 2, 1) := by decide +kernel
theorem dX2_pass_11 : decode cX2_pass 11 = .ok (.arraylength, 1) := by decide +kernel
theorem dX2_pass_12 : decode cX2_pass 12 = .ok (.istore_n 3, 1) := by decide +kernel
theorem dX2_pass_13 : decode cX2_pass 13 = .ok (.iconst 0, 1) := by decide +kernel
theorem dX2_pass_14 : decode cX2_pass 14 = .ok (.istore 4, 2) := by decide +kernel
theorem dX2_pass_16 : decode cX2_pass 16 = .ok (.iload 4, 2) := by decide +kernel
theorem dX2_pass_18 : decode cX2_pass 18 = .ok (.iload_n 3, 1) := by decide +kernel
theorem dX2_pass_19 : decode cX2_pass 19 = .ok (.if_icmp .ge 84, 3) := by decide +kernel
theorem dX2_pass_22 : decode cX2_pass 22 = .ok (.aload_n 2, 1) := by decide +kernel
theorem dX2_pass_23 : decode cX2_pass 23 = .ok (.iload 4, 2) := by decide +kernel
theorem dX2_pass_25 : decode cX2_pass 25 = .ok (.aaload, 1) := by decide +kernel
theorem dX2_pass_26 : decode cX2_pass 26 = .ok (.astore 5, 2) := by decide +kernel
theorem dX2_pass_28 : decode cX2_pass 28 = .ok (.iconst 0, 1) := by decide +kernel
theorem dX2_pass_29 : decode cX2_pass 29 = .ok (.istore 6, 2) := by decide +kernel
theorem dX2_pass_31 : decode cX2_pass 31 = .ok (.iconst 0, 1) := by decide +kernel
theorem dX2_pass_32 : decode cX2_pass 32 = .ok (.istore 7, 2) := by decide +kernel
theorem dX2_pass_34 : decode cX2_pass 34 = .ok (.iload 7, 2) := by decide +kernel
theorem dX2_pass_36 : decode cX2_pass 36 = .ok (.aload_n 1, 1) := by decide +kernel
theorem dX2_pass_37 : decode cX2_pass 37 = .ok (.arraylength, 1) := by decide +kernel
theorem dX2_pass_38 : decode cX2_pass 38 = .ok (.if_icmp .ge 42, 3) := by decide +kernel
theorem dX2_pass_41 : decode cX2_pass 41 = .ok (.iload 7, 2) := by decide +kernel
theorem dX2_pass_43 : decode cX2_pass 43 = .ok (.aload_n 0, 1) := by decide +kernel
theorem dX2_pass_44 : decode cX2_pass 44 = .ok (.getfield 14, 3) := by decide +kernel
theorem dX2_pass_47 : decode cX2_pass 47 = .ok (.arraylength, 1) := by decide +kernel
theorem dX2_pass_48 : decode cX2_pass 48 = .ok (.if_icmp .ge 32, 3) := by decide +kernel
theorem dX2_pass_51 : decode cX2_pass 51 = .ok (.iload 6, 2) := by decide +kernel
theorem dX2_pass_53 : decode cX2_pass 53 = .ok (.ifCond .ne 14, 3) := by decide +kernel
theorem dX2_pass_56 : decode cX2_pass 56 = .ok (.aload_n 1, 1) := by decide +kernel
theorem dX2_pass_57 : decode cX2_pass 57 = .ok (.iload 7, 2) := by decide +kernel
theorem dX2_pass_59 : decode cX2_pass 59 = .ok (.iaload, 1) := by decide +kernel
theorem dX2_pass_60 : decode cX2_pass 60 = .ok (.aload 5, 2) := by decide +kernel
theorem dX2_pass_62 : decode cX2_pass 62 = .ok (.iconst 1, 1) := by decide +kernel
theorem dX2_pass_63 : decode cX2_pass 63 = .ok (.iaload, 1) := by decide +kernel
theorem dX2_pass_64 : decode cX2_pass 64 = .ok (.if_icmp .ne 7, 3) := by decide +kernel
theorem dX2_pass_67 : decode cX2_pass 67 = .ok (.iconst 1, 1) := by decide +kernel
theorem dX2_pass_68 : decode cX2_pass 68 = .ok (.goto 4, 3) := by decide +kernel
theorem dX2_pass_71 : decode cX2_pass 71 = .ok (.iconst 0, 1) := by decide +kernel
theorem dX2_pass_72 : decode cX2_pass 72 = .ok (.istore 6, 2) := by decide +kernel
theorem dX2_pass_74 : decode cX2_pass 74 = .ok (.iinc 7 1, 3) := by decide +kernel
theorem dX2_pass_77 : decode cX2_pass 77 = .ok (.goto (-43), 3) := by decide +kernel
theorem dX2_pass_80 : decode cX2_pass 80 = .ok (.aload_n 0, 1) := by decide +kernel
theorem dX2_pass_81 : decode cX2_pass 81 = .ok (.getfield 29, 3) := by decide +kernel
theorem dX2_pass_84 : decode cX2_pass 84 = .ok (.ifCond .eq 13, 3) := by decide +kernel
theorem dX2_pass_87 : decode cX2_pass 87 = .ok (.iload 6, 2) := by decide +kernel
theorem dX2_pass_89 : decode cX2_pass 89 = .ok (.ifCond .ne 8, 3) := by decide +kernel
theorem dX2_pass_92 : decode cX2_pass 92 = .ok (.aload 5, 2) := by decide +kernel
theorem dX2_pass_94 : decode cX2_pass 94 = .ok (.iconst 1, 1) := by decide +kernel
theorem dX2_pass_95 : decode cX2_pass 95 = .ok (.iconst (-1), 1) := by decide +kernel
theorem dX2_pass_96 : decode cX2_pass 96 = .ok (.iastore, 1) := by decide +kernel
theorem dX2_pass_97 : decode cX2_pass 97 = .ok (.iinc 4 1, 3) := by decide +kernel
theorem dX2_pass_100 : decode cX2_pass 100 = .ok (.goto (-84), 3) := by decide +kernel
theorem dX2_pass_103 : decode cX2_pass 103 = .ok (.aload_n 0, 1) := by decide +kernel
theorem dX2_pass_104 : decode cX2_pass 104 = .ok (.getfield 7, 3) := by decide +kernel
theorem dX2_pass_107 : decode cX2_pass 107 = .ok (.aload_n 0, 1) := by decide +kernel
theorem dX2_pass_108 : decode cX2_pass 108 = .ok (.getfield 33, 3) := by decide +kernel
theorem dX2_pass_111 : decode cX2_pass 111 = .ok (.bipush 12, 2) := by decide +kernel
theorem dX2_pass_113 : decode cX2_pass 113 = .ok (.irem, 1) := by decide +kernel
theorem dX2_pass_114 : decode cX2_pass 114 = .ok (.iaload, 1) := by decide +kernel
theorem dX2_pass_115 : decode cX2_pass 115 = .ok (.istore_n 2, 1) := by decide +kernel
theorem dX2_pass_116 : decode cX2_pass 116 = .ok (.aload_n 0, 1) := by decide +kernel
theorem dX2_pass_117 : decode cX2_pass 117 = .ok (.getfield 14, 3) := by decide +kernel
theorem dX2_pass_120 : decode cX2_pass 120 = .ok (.arraylength, 1) := by decide +kernel
theorem dX2_pass_121 : decode cX2_pass 121 = .ok (.newarray .int, 2) := by decide +kernel
theorem dX2_pass_123 : decode cX2_pass 123 = .ok (.astore_n 3, 1) := by decide +kernel
theorem dX2_pass_124 : decode cX2_pass 124 = .ok (.iconst 0, 1) := by decide +kernel
theorem dX2_pass_125 : decode cX2_pass 125 = .ok (.istore 4, 2) := by decide +kernel
theorem dX2_pass_127 : decode cX2_pass 127 = .ok (.iconst 0, 1) := by decide +kernel
theorem dX2_pass_128 : decode cX2_pass 128 = .ok (.istore 5, 2) := by decide +kernel
theorem dX2_pass_130 : decode cX2_pass 130 = .ok (.iload 5, 2) := by decide +kernel
theorem dX2_pass_132 : decode cX2_pass 132 = .ok (.aload_n 0, 1) := by decide +kernel
theorem dX2_pass_133 : decode cX2_pass 133 = .ok (.getfield 14, 3) := by decide +kernel
theorem dX2_pass_136 : decode cX2_pass 136 = .ok (.arraylength, 1) := by decide +kernel
theorem dX2_pass_137 : decode cX2_pass 137 = .ok (.if_icmp .ge 86, 3) := by decide +kernel
theorem dX2_pass_140 : decode cX2_pass 140 = .ok (.aload_n 0, 1) := by decide +kernel
theorem dX2_pass_141 : decode cX2_pass 141 = .ok (.getfield 14, 3) := by decide +kernel
theorem dX2_pass_144 : decode cX2_pass 144 = .ok (.iload 5, 2) := by decide +kernel
theorem dX2_pass_146 : decode cX2_pass 146 = .ok (.aaload, 1) := by decide +kernel
theorem dX2_pass_147 : decode cX2_pass 147 = .ok (.iconst 1, 1) := by decide +kernel
theorem dX2_pass_148 : decode cX2_pass 148 = .ok (.iaload, 1) := by decide +kernel
theorem dX2_pass_149 : decode cX2_pass 149 = .ok (.ifCond .lt 6, 3) := by decide +kernel
theorem dX2_pass_152 : decode cX2_pass 152 = .ok (.goto 65, 3) := by decide +kernel
theorem dX2_pass_155 : decode cX2_pass 155 = .ok (.iload 4, 2) := by decide +kernel
theorem dX2_pass_157 : decode cX2_pass 157 = .ok (.aload_n 1, 1) := by decide +kernel
theorem dX2_pass_158 : decode cX2_pass 158 = .ok (.arraylength, 1) := by decide +kernel
theorem dX2_pass_159 : decode cX2_pass 159 = .ok (.if_icmp .ge 20, 3) := by decide +kernel
theorem dX2_pass_162 : decode cX2_pass 162 = .ok (.aload_n 0, 1) := by decide +kernel
theorem dX2_pass_163 : decode cX2_pass 163 = .ok (.aload_n 1, 1) := by decide +kernel
theorem dX2_pass_164 : decode cX2_pass 164 = .ok (.iload 4, 2) := by decide +kernel
theorem dX2_pass_166 : decode cX2_pass 166 = .ok (.iaload, 1) := by decide +kernel
theorem dX2_pass_167 : decode cX2_pass 167 = .ok (.invokevirtual 36, 3) := by decide +kernel
theorem dX2_pass_170 : decode cX2_pass 170 = .ok (.ifCond .lt 9, 3) := by decide +kernel
theorem dX2_pass_173 : decode cX2_pass 173 = .ok (.iinc 4 1, 3) := by decide +kernel
theorem dX2_pass_176 : decode cX2_pass 176 = .ok (.goto (-21), 3) := by decide +kernel
theorem dX2_pass_179 : decode cX2_pass 179 = .ok (.iload 4, 2) := by decide +kernel
theorem dX2_pass_181 : decode cX2_pass 181 = .ok (.aload_n 1, 1) := by decide +kernel
theorem dX2_pass_182 : decode cX2_pass 182 = .ok (.arraylength, 1) := by decide +kernel
theorem dX2_pass_183 : decode cX2_pass 183 = .ok (.if_icmp .ne 6, 3) := by decide +kernel
theorem dX2_pass_186 : decode cX2_pass 186 = .ok (.goto 31, 3) := by decide +kernel
theorem dX2_pass_189 : decode cX2_pass 189 = .ok (.aload_n 0, 1) := by decide +kernel
theorem dX2_pass_190 : decode cX2_pass 190 = .ok (.getfield 14, 3) := by decide +kernel
theorem dX2_pass_193 : decode cX2_pass 193 = .ok (.iload 5, 2) := by decide +kernel
theorem dX2_pass_195 : decode cX2_pass 195 = .ok (.aaload, 1) := by decide +kernel
theorem dX2_pass_196 : decode cX2_pass 196 = .ok (.iconst 1, 1) := by decide +kernel
theorem dX2_pass_197 : decode cX2_pass 197 = .ok (.aload_n 1, 1) := by decide +kernel
theorem dX2_pass_198 : decode cX2_pass 198 = .ok (.iload 4, 2) := by decide +kernel
theorem dX2_pass_200 : decode cX2_pass 200 = .ok (.iaload, 1) := by decide +kernel
theorem dX2_pass_201 : decode cX2_pass 201 = .ok (.iastore, 1) := by decide +kernel
theorem dX2_pass_202 : decode cX2_pass 202 = .ok (.aload_n 3, 1) := by decide +kernel
theorem dX2_pass_203 : decode cX2_pass 203 = .ok (.iload 5, 2) := by decide +kernel
theorem dX2_pass_205 : decode cX2_pass 205 = .ok (.iconst 1, 1) := by decide +kernel
theorem dX2_pass_206 : decode cX2_pass 206 = .ok (.iastore, 1) := by decide +kernel
theorem dX2_pass_207 : decode cX2_pass 207 = .ok (.aload_n 0, 1) := by decide +kernel
theorem dX2_pass_208 : decode cX2_pass 208 = .ok (.dup, 1) := by decide +kernel
theorem dX2_pass_209 : decode cX2_pass 209 = .ok (.getfield 40, 3) := by decide +kernel
theorem dX2_pass_212 : decode cX2_pass 212 = .ok (.iconst 1, 1) := by decide +kernel
theorem dX2_pass_213 : decode cX2_pass 213 = .ok (.iadd, 1) := by decide +kernel
theorem dX2_pass_214 : decode cX2_pass 214 = .ok (.putfield 40, 3) := by decide +kernel
theorem dX2_pass_217 : decode cX2_pass 217 = .ok (.iinc 5 1, 3) := by decide +kernel
theorem dX2_pass_220 : decode cX2_pass 220 = .ok (.goto (-90), 3) := by decide +kernel
theorem dX2_pass_223 : decode cX2_pass 223 = .ok (.aload_n 0, 1) := by decide +kernel
theorem dX2_pass_224 : decode cX2_pass 224 = .ok (.dup, 1) := by decide +kernel
theorem dX2_pass_225 : decode cX2_pass 225 = .ok (.getfield 33, 3) := by decide +kernel
theorem dX2_pass_228 : decode cX2_pass 228 = .ok (.iconst 1, 1) := by decide +kernel
theorem dX2_pass_229 : decode cX2_pass 229 = .ok (.iadd, 1) := by decide +kernel
theorem dX2_pass_230 : decode cX2_pass 230 = .ok (.putfield 33, 3) := by decide +kernel
theorem dX2_pass_233 : decode cX2_pass 233 = .ok (.iconst 0, 1) := by decide +kernel
theorem dX2_pass_234 : decode cX2_pass 234 = .ok (.istore 5, 2) := by decide +kernel
theorem dX2_pass_236 : decode cX2_pass 236 = .ok (.iload 5, 2) := by decide +kernel
theorem dX2_pass_238 : decode cX2_pass 238 = .ok (.aload_n 0, 1) := by decide +kernel
theorem dX2_pass_239 : decode cX2_pass 239 = .ok (.getfield 14, 3) := by decide +kernel
theorem dX2_pass_242 : decode cX2_pass 242 = .ok (.arraylength, 1) := by decide +kernel
theorem dX2_pass_243 : decode cX2_pass 243 = .ok (.if_icmp .ge 105, 3) := by decide +kernel
theorem dX2_pass_246 : decode cX2_pass 246 = .ok (.aload_n 0, 1) := by decide +kernel
theorem dX2_pass_247 : decode cX2_pass 247 = .ok (.getfield 14, 3) := by decide +kernel
theorem dX2_pass_250 : decode cX2_pass 250 = .ok (.iload 5, 2) := by decide +kernel
theorem dX2_pass_252 : decode cX2_pass 252 = .ok (.aaload, 1) := by decide +kernel
theorem dX2_pass_253 : decode cX2_pass 253 = .ok (.iconst 1, 1) := by decide +kernel
theorem dX2_pass_254 : decode cX2_pass 254 = .ok (.iaload, 1) := by decide +kernel
theorem dX2_pass_255 : decode cX2_pass 255 = .ok (.ifCond .ge 6, 3) := by decide +kernel
theorem dX2_pass_258 : decode cX2_pass 258 = .ok (.goto 84, 3) := by decide +kernel
theorem dX2_pass_261 : decode cX2_pass 261 = .ok (.aload_n 0, 1) := by decide +kernel
theorem dX2_pass_262 : decode cX2_pass 262 = .ok (.getfield 18, 3) := by decide +kernel
theorem dX2_pass_265 : decode cX2_pass 265 = .ok (.aload_n 0, 1) := by decide +kernel
theorem dX2_pass_266 : decode cX2_pass 266 = .ok (.getfield 14, 3) := by decide +kernel
theorem dX2_pass_269 : decode cX2_pass 269 = .ok (.iload 5, 2) := by decide +kernel
theorem dX2_pass_271 : decode cX2_pass 271 = .ok (.aaload, 1) := by decide +kernel
theorem dX2_pass_272 : decode cX2_pass 272 = .ok (.iconst 1, 1) := by decide +kernel
theorem dX2_pass_273 : decode cX2_pass 273 = .ok (.iaload, 1) := by decide +kernel
theorem dX2_pass_274 : decode cX2_pass 274 = .ok (.aaload, 1) := by decide +kernel
theorem dX2_pass_275 : decode cX2_pass 275 = .ok (.astore 6, 2) := by decide +kernel
theorem dX2_pass_277 : decode cX2_pass 277 = .ok (.aload_n 0, 1) := by decide +kernel
theorem dX2_pass_278 : decode cX2_pass 278 = .ok (.getfield 14, 3) := by decide +kernel
theorem dX2_pass_281 : decode cX2_pass 281 = .ok (.iload 5, 2) := by decide +kernel
theorem dX2_pass_283 : decode cX2_pass 283 = .ok (.aaload, 1) := by decide +kernel
theorem dX2_pass_284 : decode cX2_pass 284 = .ok (.iconst 0, 1) := by decide +kernel
theorem dX2_pass_285 : decode cX2_pass 285 = .ok (.iaload, 1) := by decide +kernel
theorem dX2_pass_286 : decode cX2_pass 286 = .ok (.aload_n 3, 1) := by decide +kernel
theorem dX2_pass_287 : decode cX2_pass 287 = .ok (.iload 5, 2) := by decide +kernel
theorem dX2_pass_289 : decode cX2_pass 289 = .ok (.iaload, 1) := by decide +kernel
theorem dX2_pass_290 : decode cX2_pass 290 = .ok (.isub, 1) := by decide +kernel
theorem dX2_pass_291 : decode cX2_pass 291 = .ok (.istore 7, 2) := by decide +kernel
theorem dX2_pass_293 : decode cX2_pass 293 = .ok (.iload 7, 2) := by decide +kernel
theorem dX2_pass_295 : decode cX2_pass 295 = .ok (.aload 6, 2) := by decide +kernel
theorem dX2_pass_297 : decode cX2_pass 297 = .ok (.iconst 1, 1) := by decide +kernel
theorem dX2_pass_298 : decode cX2_pass 298 = .ok (.iaload, 1) := by decide +kernel
theorem dX2_pass_299 : decode cX2_pass 299 = .ok (.if_icmp .le 9, 3) := by decide +kernel
theorem dX2_pass_302 : decode cX2_pass 302 = .ok (.aload 6, 2) := by decide +kernel
theorem dX2_pass_304 : decode cX2_pass 304 = .ok (.iconst 1, 1) := by decide +kernel
theorem dX2_pass_305 : decode cX2_pass 305 = .ok (.iaload, 1) := by decide +kernel
theorem dX2_pass_306 : decode cX2_pass 306 = .ok (.istore 7, 2) := by decide +kernel
theorem dX2_pass_308 : decode cX2_pass 308 = .ok (.iload 7, 2) := by decide +kernel
theorem dX2_pass_310 : decode cX2_pass 310 = .ok (.iload_n 2, 1) := by decide +kernel
theorem dX2_pass_311 : decode cX2_pass 311 = .ok (.if_icmp .le 6, 3) := by decide +kernel
theorem dX2_pass_314 : decode cX2_pass 314 = .ok (.iload_n 2, 1) := by decide +kernel
theorem dX2_pass_315 : decode cX2_pass 315 = .ok (.istore 7, 2) := by decide +kernel
theorem dX2_pass_317 : decode cX2_pass 317 = .ok (.aload 6, 2) := by decide +kernel
theorem dX2_pass_319 : decode cX2_pass 319 = .ok (.iconst 1, 1) := by decide +kernel
theorem dX2_pass_320 : decode cX2_pass 320 = .ok (.dup2, 1) := by decide +kernel
theorem dX2_pass_321 : decode cX2_pass 321 = .ok (.iaload, 1) := by decide +kernel
theorem dX2_pass_322 : decode cX2_pass 322 = .ok (.iload 7, 2) := by decide +kernel
theorem dX2_pass_324 : decode cX2_pass 324 = .ok (.isub, 1) := by decide +kernel
theorem dX2_pass_325 : decode cX2_pass 325 = .ok (.iastore, 1) := by decide +kernel
theorem dX2_pass_326 : decode cX2_pass 326 = .ok (.iload_n 2, 1) := by decide +kernel
theorem dX2_pass_327 : decode cX2_pass 327 = .ok (.iload 7, 2) := by decide +kernel
theorem dX2_pass_329 : decode cX2_pass 329 = .ok (.isub, 1) := by decide +kernel
theorem dX2_pass_330 : decode cX2_pass 330 = .ok (.istore_n 2, 1) := by decide +kernel
theorem dX2_pass_331 : decode cX2_pass 331 = .ok (.aload_n 0, 1) := by decide +kernel
theorem dX2_pass_332 : decode cX2_pass 332 = .ok (.dup, 1) := by decide +kernel
theorem dX2_pass_333 : decode cX2_pass 333 = .ok (.getfield 43, 3) := by decide +kernel
theorem dX2_pass_336 : decode cX2_pass 336 = .ok (.iload 7, 2) := by decide +kernel
theorem dX2_pass_338 : decode cX2_pass 338 = .ok (.iadd, 1) := by decide +kernel
theorem dX2_pass_339 : decode cX2_pass 339 = .ok (.putfield 43, 3) := by decide +kernel
theorem dX2_pass_342 : decode cX2_pass 342 = .ok (.iinc 5 1, 3) := by decide +kernel
theorem dX2_pass_345 : decode cX2_pass 345 = .ok (.goto (-109), 3) := by decide +kernel
theorem dX2_pass_348 : decode cX2_pass 348 = .ok (.aload_n 0, 1) := by decide +kernel
theorem dX2_pass_349 : decode cX2_pass 349 = .ok (.getfield 14, 3) := by decide +kernel
theorem dX2_pass_352 : decode cX2_pass 352 = .ok (.astore 5, 2) := by decide +kernel
theorem dX2_pass_354 : decode cX2_pass 354 = .ok (.aload 5, 2) := by decide +kernel
theorem dX2_pass_356 : decode cX2_pass 356 = .ok (.arraylength, 1) := by decide +kernel
theorem dX2_pass_357 : decode cX2_pass 357 = .ok (.istore 6, 2) := by decide +kernel
theorem dX2_pass_359 : decode cX2_pass 359 = .ok (.iconst 0, 1) := by decide +kernel
theorem dX2_pass_360 : decode cX2_pass 360 = .ok (.istore 7, 2) := by decide +kernel
theorem dX2_pass_362 : decode cX2_pass 362 = .ok (.iload 7, 2) := by decide +kernel
theorem dX2_pass_364 : decode cX2_pass 364 = .ok (.iload 6, 2) := by decide +kernel
theorem dX2_pass_366 : decode cX2_pass 366 = .ok (.if_icmp .ge 60, 3) := by decide +kernel
theorem dX2_pass_369 : decode cX2_pass 369 = .ok (.aload 5, 2) := by decide +kernel
theorem dX2_pass_371 : decode cX2_pass 371 = .ok (.iload 7, 2) := by decide +kernel
theorem dX2_pass_373 : decode cX2_pass 373 = .ok (.aaload, 1) := by decide +kernel
theorem dX2_pass_374 : decode cX2_pass 374 = .ok (.astore 8, 2) := by decide +kernel
theorem dX2_pass_376 : decode cX2_pass 376 = .ok (.aload 8, 2) := by decide +kernel
theorem dX2_pass_378 : decode cX2_pass 378 = .ok (.iconst 1, 1) := by decide +kernel
theorem dX2_pass_379 : decode cX2_pass 379 = .ok (.iaload, 1) := by decide +kernel
theorem dX2_pass_380 : decode cX2_pass 380 = .ok (.ifCond .lt 40, 3) := by decide +kernel
theorem dX2_pass_383 : decode cX2_pass 383 = .ok (.aload_n 0, 1) := by decide +kernel
theorem dX2_pass_384 : decode cX2_pass 384 = .ok (.getfield 18, 3) := by decide +kernel
theorem dX2_pass_387 : decode cX2_pass 387 = .ok (.aload 8, 2) := by decide +kernel
theorem dX2_pass_389 : decode cX2_pass 389 = .ok (.iconst 1, 1) := by decide +kernel
theorem dX2_pass_390 : decode cX2_pass 390 = .ok (.iaload, 1) := by decide +kernel
theorem dX2_pass_391 : decode cX2_pass 391 = .ok (.aaload, 1) := by decide +kernel
theorem dX2_pass_392 : decode cX2_pass 392 = .ok (.iconst 1, 1) := by decide +kernel
theorem dX2_pass_393 : decode cX2_pass 393 = .ok (.iaload, 1) := by decide +kernel
theorem dX2_pass_394 : decode cX2_pass 394 = .ok (.ifCond .le 6, 3) := by decide +kernel
theorem dX2_pass_397 : decode cX2_pass 397 = .ok (.goto 23, 3) := by decide +kernel
theorem dX2_pass_400 : decode cX2_pass 400 = .ok (.aload_n 0, 1) := by decide +kernel
theorem dX2_pass_401 : decode cX2_pass 401 = .ok (.getfield 18, 3) := by decide +kernel
theorem dX2_pass_404 : decode cX2_pass 404 = .ok (.aload 8, 2) := by decide +kernel
theorem dX2_pass_406 : decode cX2_pass 406 = .ok (.iconst 1, 1) := by decide +kernel
theorem dX2_pass_407 : decode cX2_pass 407 = .ok (.iaload, 1) := by decide +kernel
theorem dX2_pass_408 : decode cX2_pass 408 = .ok (.aaload, 1) := by decide +kernel
theorem dX2_pass_409 : decode cX2_pass 409 = .ok (.iconst 3, 1) := by decide +kernel
theorem dX2_pass_410 : decode cX2_pass 410 = .ok (.aload_n 0, 1) := by decide +kernel
theorem dX2_pass_411 : decode cX2_pass 411 = .ok (.getfield 33, 3) := by decide +kernel
theorem dX2_pass_414 : decode cX2_pass 414 = .ok (.iastore, 1) := by decide +kernel
theorem dX2_pass_415 : decode cX2_pass 415 = .ok (.aload 8, 2) := by decide +kernel
theorem dX2_pass_417 : decode cX2_pass 417 = .ok (.iconst 1, 1) := by decide +kernel
theorem dX2_pass_418 : decode cX2_pass 418 = .ok (.iconst (-1), 1) := by decide +kernel
theorem dX2_pass_419 : decode cX2_pass 419 = .ok (.iastore, 1) := by decide +kernel
theorem dX2_pass_420 : decode cX2_pass 420 = .ok (.iinc 7 1, 3) := by decide +kernel
theorem dX2_pass_423 : decode cX2_pass 423 = .ok (.goto (-61), 3) := by decide +kernel
theorem dX2_pass_426 : decode cX2_pass 426 = .ok (.return_, 1) := by decide +kernel
set_option maxRecDepth 20000 in
theorem ggX2_behind_X2_pass : GoodIn wsX2_behind wsX2_pass := goodIn_r _ [6, 7, 8, 9, 10, 11, 12, 13, 1, 14, 15, 16, 5, 17, 18, 19, 20, 21, 22, 23, 24, 25, 26, 27, 28, 29, 30] (by decide +kernel) (by decide +kernel)
set_option maxRecDepth 20000 in
theorem gX2_behind_X2_pass : GoodIn wsX2_behind (wsV RX2 46 RX2 yX2_pass wsX2_pass) := goodIn_app (goodIn_of _ (by decide +kernel)) ggX2_behind_X2_pass
theorem dX2_behind_0 : decode cX2_behind 0 = .ok (.aload_n 0, 1) := by decide +kernel
theorem dX2_behind_1 : decode cX2_behind 1 = .ok (.getfield 43, 3) := by decide +kernel
theorem dX2_behind_4 : decode cX2_behind 4 = .ok (.istore_n 2, 1) := by decide +kernel
theorem dX2_behind_5 : decode cX2_behind 5 = .ok (.iconst 0, 1) := by decide +kernel
theorem dX2_behind_6 : decode cX2_behind 6 = .ok (.istore_n 3, 1) := by decide +kernel
theorem dX2_behind_7 : decode cX2_behind 7 = .ok (.iload_n 3, 1) := by decide +kernel
theorem dX2_behind_8 : decode cX2_behind 8 = .ok (.iload_n 1, 1) := by decide +kernel
theorem dX2_behind_9 : decode cX2_behind 9 = .ok (.if_icmp .ge 13, 3) := by decide +kernel
theorem dX2_behind_12 : decode cX2_behind 12 = .ok (.aload_n 0, 1) := by decide +kernel
theorem dX2_behind_13 : decode cX2_behind 13 = .ok (.invokevirtual 46, 3) := by decide +kernel
theorem dX2_behind_16 : decode cX2_behind 16 = .ok (.iinc 3 1, 3) := by decide +kernel
theorem dX2_behind_19 : decode cX2_behind 19 = .ok (.goto (-12), 3) := by decide +kernel
theorem dX2_behind_22 : decode cX2_behind 22 = .ok (.aload_n 0, 1) := by decide +kernel
theorem dX2_behind_23 : decode cX2_behind 23 = .ok (.getfield 43, 3) := by decide +kernel
theorem dX2_behind_26 : decode cX2_behind 26 = .ok (.iload_n 2, 1) := by decide +kernel
theorem dX2_behind_27 : decode cX2_behind 27 = .ok (.isub, 1) := by decide +kernel
theorem dX2_behind_28 : decode cX2_behind 28 = .ok (.ireturn, 1) := by decide +kernel
theorem dX2_late_0 : decode cX2_late 0 = .ok (.iconst 0, 1) := by decide +kernel
theorem dX2_late_1 : decode cX2_late 1 = .ok (.istore_n 2, 1) := by decide +kernel
theorem dX2_late_2 : decode cX2_late 2 = .ok (.aload_n 0, 1) := by decide +kernel
theorem dX2_late_3 : decode cX2_late 3 = .ok (.getfield 18, 3) := by decide +kernel
theorem dX2_late_6 : decode cX2_late 6 = .ok (.astore_n 3, 1) := by decide +kernel
theorem dX2_late_7 : decode cX2_late 7 = .ok (.aload_n 3, 1) := by decide +kernel
theorem dX2_late_8 : decode cX2_late 8 = .ok (.arraylength, 1) := by decide +kernel
theorem dX2_late_9 : decode cX2_late 9 = .ok (.istore 4, 2) := by decide +kernel
theorem dX2_late_11 : decode cX2_late 11 = .ok (.iconst 0, 1) := by decide +kernel
theorem dX2_late_12 : decode cX2_late 12 = .ok (.istore 5, 2) := by decide +kernel
theorem dX2_late_14 : decode cX2_late 14 = .ok (.iload 5, 2) := by decide +kernel
theorem dX2_late_16 : decode cX2_late 16 = .ok (.iload 4, 2) := by decide +kernel
theorem dX2_late_18 : decode cX2_late 18 = .ok (.if_icmp .ge 53, 3) := by decide +kernel
theorem dX2_late_21 : decode cX2_late 21 = .ok (.aload_n 3, 1) := by decide +kernel
theorem dX2_late_22 : decode cX2_late 22 = .ok (.iload 5, 2) := by decide +kernel
theorem dX2_late_24 : decode cX2_late 24 = .ok (.aaload, 1) := by decide +kernel
theorem dX2_late_25 : decode cX2_late 25 = .ok (.astore 6, 2) := by decide +kernel
theorem dX2_late_27 : decode cX2_late 27 = .ok (.iload_n 2, 1) := by decide +kernel
theorem dX2_late_28 : decode cX2_late 28 = .ok (.aload 6, 2) := by decide +kernel
theorem dX2_late_30 : decode cX2_late 30 = .ok (.iconst 3, 1) := by decide +kernel
theorem dX2_late_31 : decode cX2_late 31 = .ok (.iaload, 1) := by decide +kernel
theorem dX2_late_32 : decode cX2_late 32 = .ok (.ifCond .ge 7, 3) := by decide +kernel
theorem dX2_late_35 : decode cX2_late 35 = .ok (.iload_n 1, 1) := by decide +kernel
theorem dX2_late_36 : decode cX2_late 36 = .ok (.goto 27, 3) := by decide +kernel
theorem dX2_late_39 : decode cX2_late 39 = .ok (.aload 6, 2) := by decide +kernel
theorem dX2_late_41 : decode cX2_late 41 = .ok (.iconst 3, 1) := by decide +kernel
theorem dX2_late_42 : decode cX2_late 42 = .ok (.iaload, 1) := by decide +kernel
theorem dX2_late_43 : decode cX2_late 43 = .ok (.aload 6, 2) := by decide +kernel
theorem dX2_late_45 : decode cX2_late 45 = .ok (.iconst 2, 1) := by decide +kernel
theorem dX2_late_46 : decode cX2_late 46 = .ok (.iaload, 1) := by decide +kernel
theorem dX2_late_47 : decode cX2_late 47 = .ok (.if_icmp .le 15, 3) := by decide +kernel
theorem dX2_late_50 : decode cX2_late 50 = .ok (.aload 6, 2) := by decide +kernel
theorem dX2_late_52 : decode cX2_late 52 = .ok (.iconst 3, 1) := by decide +kernel
theorem dX2_late_53 : decode cX2_late 53 = .ok (.iaload, 1) := by decide +kernel
theorem dX2_late_54 : decode cX2_late 54 = .ok (.aload 6, 2) := by decide +kernel
theorem dX2_late_56 : decode cX2_late 56 = .ok (.iconst 2, 1) := by decide +kernel
theorem dX2_late_57 : decode cX2_late 57 = .ok (.iaload, 1) := by decide +kernel
theorem dX2_late_58 : decode cX2_late 58 = .ok (.isub, 1) := by decide +kernel
theorem dX2_late_59 : decode cX2_late 59 = .ok (.goto 4, 3) := by decide +kernel
theorem dX2_late_62 : decode cX2_late 62 = .ok (.iconst 0, 1) := by decide +kernel
theorem dX2_late_63 : decode cX2_late 63 = .ok (.iadd, 1) := by decide +kernel
theorem dX2_late_64 : decode cX2_late 64 = .ok (.istore_n 2, 1) := by decide +kernel
theorem dX2_late_65 : decode cX2_late 65 = .ok (.iinc 5 1, 3) := by decide +kernel
theorem dX2_late_68 : decode cX2_late 68 = .ok (.goto (-54), 3) := by decide +kernel
theorem dX2_late_71 : decode cX2_late 71 = .ok (.iload_n 2, 1) := by decide +kernel
theorem dX2_late_72 : decode cX2_late 72 = .ok (.ireturn, 1) := by decide +kernel
set_option maxRecDepth 20000 in
theorem ggX2_isSame_X2_order : GoodIn wsX2_isSame wsX2_order := goodIn_r _ [12, 1, 7, 4, 144, 145, 146, 147, 148, 149, 150, 151] (by decide +kernel) (by decide +kernel)
set_option maxRecDepth 20000 in
theorem gX2_isSame_X2_order : GoodIn wsX2_isSame (wsV RX2 25 RX2 yX2_order wsX2_order) := goodIn_app (goodIn_of _ (by decide +kernel)) ggX2_isSame_X2_order
set_option maxRecDepth 20000 in
theorem ggX2_isSame_X1_hour : GoodIn wsX2_isSame wsX1_hour := goodIn_r _ [17, 18, 152, 153, 154, 155, 156, 157, 158, 159, 160, 161, 162, 163, 164, 165, 166, 167, 168, 169] (by decide +kernel) (by decide +kernel)
set_option maxRecDepth 20000 in
theorem gX2_isSame_X1_hour : GoodIn wsX2_isSame (wsV RX2 54 RX1 yX1_hour wsX1_hour) := goodIn_app (goodIn_of _ (by decide +kernel)) ggX2_isSame_X1_hour
set_option maxRecDepth 20000 in
theorem ggX2_isSame_X1_stones : GoodIn wsX2_isSame wsX1_stones := goodIn_r _ [22, 18, 152, 153, 154, 155, 156, 157, 158, 159, 160, 161, 162, 163, 164, 165, 166, 167, 168, 169] (by decide +kernel) (by decide +kernel)
set_option maxRecDepth 20000 in
theorem gX2_isSame_X1_stones : GoodIn wsX2_isSame (wsV RX2 59 RX1 yX1_stones wsX1_stones) := goodIn_app (goodIn_of _ (by decide +kernel)) ggX2_isSame_X1_stones
set_option maxRecDepth 20000 in
theorem ggX2_isSame_X1_sacks : GoodIn wsX2_isSame wsX1_sacks := goodIn_r _ [26, 18, 152, 153, 154, 155, 156, 157, 158, 159, 160, 161, 162, 163, 164, 165, 166, 167, 168, 169] (by decide +kernel) (by decide +kernel)
set_option maxRecDepth 20000 in
theorem gX2_isSame_X1_sacks : GoodIn wsX2_isSame (wsV RX2 61 RX1 yX1_sacks wsX1_sacks) := goodIn_app (goodIn_of _ (by decide +kernel)) ggX2_isSame_X1_sacks
set_option maxRecDepth 20000 in
theorem ggX2_isSame_X1_rule : GoodIn wsX2_isSame wsX1_rule := goodIn_r _ [30, 18, 152, 153, 154, 155, 156, 157, 158, 159, 160, 161, 162, 163, 164, 165, 166, 167, 168, 169] (by decide +kernel) (by decide +kernel)
set_option maxRecDepth 20000 in
theorem gX2_isSame_X1_rule : GoodIn wsX2_isSame (wsV RX2 63 RX1 yX1_rule wsX1_rule) := goodIn_app (goodIn_of _ (by decide +kernel)) ggX2_isSame_X1_rule
set_option maxRecDepth 20000 in
theorem ggX2_isSame_X1_wind : GoodIn wsX2_isSame wsX1_wind := goodIn_r _ [34, 18, 35, 36, 37, 38, 39, 40, 41, 42, 43, 44, 45, 152, 153, 154, 155, 156, 157, 158, 159, 160, 161, 162, 163, 164, 165, 166, 167, 168, 169] (by decide +kernel) (by decide +kernel)
set_option maxRecDepth 20000 in
theorem gX2_isSame_X1_wind : GoodIn wsX2_isSame (wsV RX2 65 RX1 yX1_wind wsX1_wind) := goodIn_app (goodIn_of _ (by decide +kernel)) ggX2_isSame_X1_wind
set_option maxRecDepth 20000 in
theorem ggX2_isSame_X1_changes : GoodIn wsX2_isSame wsX1_changes := goodIn_r _ [49, 18, 152, 153, 154, 155, 156, 157, 158, 159, 160, 161, 162, 163, 164, 165, 166, 167, 168, 169] (by decide +kernel) (by decide +kernel)
set_option maxRecDepth 20000 in
theorem gX2_isSame_X1_changes : GoodIn wsX2_isSame (wsV RX2 67 RX1 yX1_changes wsX1_changes) := goodIn_app (goodIn_of _ (by decide +kernel)) ggX2_isSame_X1_changes
set_option maxRecDepth 20000 in
theorem ggX2_isSame_X1_ground : GoodIn wsX2_isSame wsX1_ground := goodIn_r _ [53, 18, 152, 153, 154, 155, 156, 157, 158, 159, 160, 161, 162, 163, 164, 165, 166, 167, 168, 169] (by decide +kernel) (by decide +kernel)
set_option maxRecDepth 20000 in
theorem gX2_isSame_X1_ground : GoodIn wsX2_isSame (wsV RX2 69 RX1 yX1_ground wsX1_ground) := goodIn_app (goodIn_of _ (by decide +kernel)) ggX2_isSame_X1_ground
set_option maxRecDepth 20000 in
theorem ggX2_isSame_X1_first : GoodIn wsX2_isSame wsX1_first := goodIn_r _ [57, 18, 58, 59, 60, 38, 61, 62, 63, 64, 65, 66, 67, 68, 69, 70, 71, 72, 73, 74, 152, 153, 154, 155, 156, 157, 158, 159, 160, 161, 162, 163, 164, 165, 166, 167, 168, 169] (by decide +kernel) (by decide +kernel)
set_option maxRecDepth 20000 in
theorem gX2_isSame_X1_first : GoodIn wsX2_isSame (wsV RX2 72 RX1 yX1_first wsX1_first) := goodIn_app (goodIn_of _ (by decide +kernel)) ggX2_isSame_X1_first
set_option maxRecDepth 20000 in
theorem ggX2_isSame_X1_late : GoodIn wsX2_isSame wsX1_late := goodIn_r _ [78, 18, 79, 80, 81, 38, 82, 62, 83, 74, 84, 85, 86, 87, 64, 65, 66, 67, 68, 152, 153, 154, 155, 156, 157, 158, 159, 160, 161, 162, 163, 164, 165, 166, 167, 168, 169] (by decide +kernel) (by decide +kernel)
set_option maxRecDepth 20000 in
theorem gX2_isSame_X1_late : GoodIn wsX2_isSame (wsV RX2 75 RX1 yX1_late wsX1_late) := goodIn_app (goodIn_of _ (by decide +kernel)) ggX2_isSame_X1_late
set_option maxRecDepth 20000 in
theorem ggX2_isSame_X2_late : GoodIn wsX2_isSame wsX2_late := goodIn_r _ [91, 1, 144, 145, 146, 147, 148, 149, 150, 151] (by decide +kernel) (by decide +kernel)
set_option maxRecDepth 20000 in
theorem gX2_isSame_X2_late : GoodIn wsX2_isSame (wsV RX2 78 RX2 yX2_late wsX2_late) := goodIn_app (goodIn_of _ (by decide +kernel)) ggX2_isSame_X2_late
set_option maxRecDepth 20000 in
theorem ggX2_isSame_X1_stoneOf : GoodIn wsX2_isSame wsX1_stoneOf := goodIn_ca (goodIn_r _ [95, 18, 96, 97, 98, 16, 99, 100, 101, 152, 153, 154, 155, 156, 157, 158, 159, 160, 161, 162, 163, 164, 165, 166, 167, 168, 169] (by decide +kernel) (by decide +kernel)) (goodIn_sub (fun _ h => List.mem_cons_of_mem _ (List.mem_append_left _ (List.mem_append_right _ h))) (by decide +kernel))
set_option maxRecDepth 20000 in
theorem gX2_isSame_X1_stoneOf : GoodIn wsX2_isSame (wsV RX2 80 RX1 yX1_stoneOf wsX1_stoneOf) := goodIn_app (goodIn_of _ (by decide +kernel)) ggX2_isSame_X1_stoneOf
set_option maxRecDepth 20000 in
theorem ggX2_isSame_X2_stoneOf : GoodIn wsX2_isSame wsX2_stoneOf := goodIn_r _ [105, 3, 144, 145, 146, 147, 148, 149, 150, 151] (by decide +kernel) (by decide +kernel)
set_option maxRecDepth 20000 in
theorem gX2_isSame_X2_stoneOf : GoodIn wsX2_isSame (wsV RX2 36 RX2 yX2_stoneOf wsX2_stoneOf) := goodIn_app (goodIn_of _ (by decide +kernel)) ggX2_isSame_X2_stoneOf
set_option maxRecDepth 20000 in
theorem ggX2_isSame_X1_leftOf : GoodIn wsX2_isSame wsX1_leftOf := goodIn_ca (goodIn_r _ [109, 18, 96, 97, 98, 16, 99, 100, 101, 152, 153, 154, 155, 156, 157, 158, 159, 160, 161, 162, 163, 164, 165, 166, 167, 168, 169] (by decide +kernel) (by decide +kernel)) (goodIn_sub (fun _ h => List.mem_cons_of_mem _ (List.mem_append_left _ (List.mem_append_right _ h))) (by decide +kernel))
set_option maxRecDepth 20000 in
theorem gX2_isSame_X1_leftOf : GoodIn wsX2_isSame (wsV RX2 81 RX1 yX1_leftOf wsX1_leftOf) := goodIn_app (goodIn_of _ (by decide +kernel)) ggX2_isSame_X1_leftOf
set_option maxRecDepth 20000 in
theorem ggX2_isSame_X1_untilOf : GoodIn wsX2_isSame wsX1_untilOf := goodIn_ca (goodIn_r _ [113, 18, 96, 97, 98, 16, 99, 100, 101, 152, 153, 154, 155, 156, 157, 158, 159, 160, 161, 162, 163, 164, 165, 166, 167, 168, 169] (by decide +kernel) (by decide +kernel)) (goodIn_sub (fun _ h => List.mem_cons_of_mem _ (List.mem_append_left _ (List.mem_append_right _ h))) (by decide +kernel))
set_option maxRecDepth 20000 in
theorem gX2_isSame_X1_untilOf : GoodIn wsX2_isSame (wsV RX2 84 RX1 yX1_untilOf wsX1_untilOf) := goodIn_app (goodIn_of _ (by decide +kernel)) ggX2_isSame_X1_untilOf
set_option maxRecDepth 20000 in
theorem ggX2_isSame_X1_groundAt : GoodIn wsX2_isSame wsX1_groundAt := goodIn_ca (goodIn_r _ [117, 18, 96, 97, 98, 16, 99, 100, 101, 152, 153, 154, 155, 156, 157, 158, 159, 160, 161, 162, 163, 164, 165, 166, 167, 168, 169] (by decide +kernel) (by decide +kernel)) (goodIn_sub (fun _ h => List.mem_cons_of_mem _ (List.mem_append_left _ (List.mem_append_right _ h))) (by decide +kernel))
set_option maxRecDepth 20000 in
theorem gX2_isSame_X1_groundAt : GoodIn wsX2_isSame (wsV RX2 87 RX1 yX1_groundAt wsX1_groundAt) := goodIn_app (goodIn_of _ (by decide +kernel)) ggX2_isSame_X1_groundAt
set_option maxRecDepth 20000 in
theorem ggX2_isSame_X1_placeOf : GoodIn wsX2_isSame wsX1_placeOf := goodIn_ca (goodIn_r _ [121, 18, 96, 97, 98, 16, 99, 100, 101, 122, 65, 66, 38, 67, 68, 123, 124, 125, 126, 62, 64, 69, 70, 71, 72, 73, 74, 152, 153, 154, 155, 156, 157, 158, 159, 160, 161, 162, 163, 164, 165, 166, 167, 168, 169] (by decide +kernel) (by decide +kernel)) (goodIn_sub (fun _ h => List.mem_cons_of_mem _ (List.mem_append_left _ (List.mem_append_right _ h))) (by decide +kernel))
set_option maxRecDepth 20000 in
theorem gX2_isSame_X1_placeOf : GoodIn wsX2_isSame (wsV RX2 90 RX1 yX1_placeOf wsX1_placeOf) := goodIn_app (goodIn_of _ (by decide +kernel)) ggX2_isSame_X1_placeOf
set_option maxRecDepth 20000 in
theorem ggX2_isSame_X1_sackOn : GoodIn wsX2_isSame wsX1_sackOn := goodIn_ca (goodIn_r _ [130, 100, 101, 18, 152, 153, 154, 155, 156, 157, 158, 159, 160, 161, 162, 163, 164, 165, 166, 167, 168, 169] (by decide +kernel) (by decide +kernel)) (goodIn_sub (fun _ h => List.mem_cons_of_mem _ (List.mem_append_left _ (List.mem_append_right _ h))) (by decide +kernel))
set_option maxRecDepth 20000 in
theorem gX2_isSame_X1_sackOn : GoodIn wsX2_isSame (wsV RX2 93 RX1 yX1_sackOn wsX1_sackOn) := goodIn_app (goodIn_of _ (by decide +kernel)) ggX2_isSame_X1_sackOn
set_option maxRecDepth 20000 in
theorem ggX2_isSame_X1_leftFor : GoodIn wsX2_isSame wsX1_leftFor := goodIn_ca (goodIn_r _ [134, 18, 135, 136, 16, 137, 138, 139, 152, 153, 154, 155, 156, 157, 158, 159, 160, 161, 162, 163, 164, 165, 166, 167, 168, 169] (by decide +kernel) (by decide +kernel)) (goodIn_sub (fun _ h => List.mem_cons_of_mem _ (List.mem_append_right _ h)) (by decide +kernel))
set_option maxRecDepth 20000 in
theorem gX2_isSame_X1_leftFor : GoodIn wsX2_isSame (wsV RX2 96 RX1 yX1_leftFor wsX1_leftFor) := goodIn_app (goodIn_of _ (by decide +kernel)) ggX2_isSame_X1_leftFor
set_option maxRecDepth 20000 in
theorem ggX2_isSame_X1_meanLeft : GoodIn wsX2_isSame wsX1_meanLeft := goodIn_r _ [143, 18, 152, 153, 154, 155, 156, 157, 158, 159, 160, 161, 162, 163, 164, 165, 166, 167, 168, 169] (by decide +kernel) (by decide +kernel)
set_option maxRecDepth 20000 in
theorem gX2_isSame_X1_meanLeft : GoodIn wsX2_isSame (wsV RX2 99 RX1 yX1_meanLeft wsX1_meanLeft) := goodIn_app (goodIn_of _ (by decide +kernel)) ggX2_isSame_X1_meanLeft
theorem dX2_isSame_0 : decode cX2_isSame 0 = .ok (.aload_n 0, 1) := by decide +kernel
theorem dX2_isSame_1 : decode cX2_isSame 1 = .ok (.invokevirtual 25, 3) := by decide +kernel
theorem dX2_isSame_4 : decode cX2_isSame 4 = .ok (.astore_n 2, 1) := by decide +kernel
theorem dX2_isSame_5 : decode cX2_isSame 5 = .ok (.aload_n 0, 1) := by decide +kernel
theorem dX2_isSame_6 : decode cX2_isSame 6 = .ok (.getfield 18, 3) := by decide +kernel
theorem dX2_isSame_9 : decode cX2_isSame 9 = .ok (.arraylength, 1) := by decide +kernel
theorem dX2_isSame_10 : decode cX2_isSame 10 = .ok (.istore_n 3, 1) := by decide +kernel
theorem dX2_isSame_11 : decode cX2_isSame 11 = .ok (.aload_n 1, 1) := by decide +kernel
theorem dX2_isSame_12 : decode cX2_isSame 12 = .ok (.invokevirtual 54, 3) := by decide +kernel
theorem dX2_isSame_15 : decode cX2_isSame 15 = .ok (.aload_n 0, 1) := by decide +kernel
theorem dX2_isSame_16 : decode cX2_isSame 16 = .ok (.getfield 33, 3) := by decide +kernel
theorem dX2_isSame_19 : decode cX2_isSame 19 = .ok (.if_icmp .ne 106, 3) := by decide +kernel
theorem dX2_isSame_22 : decode cX2_isSame 22 = .ok (.aload_n 1, 1) := by decide +kernel
theorem dX2_isSame_23 : decode cX2_isSame 23 = .ok (.invokevirtual 59, 3) := by decide +kernel
theorem dX2_isSame_26 : decode cX2_isSame 26 = .ok (.aload_n 0, 1) := by decide +kernel
theorem dX2_isSame_27 : decode cX2_isSame 27 = .ok (.getfield 14, 3) := by decide +kernel
theorem dX2_isSame_30 : decode cX2_isSame 30 = .ok (.arraylength, 1) := by decide +kernel
theorem dX2_isSame_31 : decode cX2_isSame 31 = .ok (.if_icmp .ne 94, 3) := by decide +kernel
theorem dX2_isSame_34 : decode cX2_isSame 34 = .ok (.aload_n 1, 1) := by decide +kernel
theorem dX2_isSame_35 : decode cX2_isSame 35 = .ok (.invokevirtual 61, 3) := by decide +kernel
theorem dX2_isSame_38 : decode cX2_isSame 38 = .ok (.iload_n 3, 1) := by decide +kernel
theorem dX2_isSame_39 : decode cX2_isSame 39 = .ok (.if_icmp .ne 86, 3) := by decide +kernel
theorem dX2_isSame_42 : decode cX2_isSame 42 = .ok (.aload_n 1, 1) := by decide +kernel
theorem dX2_isSame_43 : decode cX2_isSame 43 = .ok (.invokevirtual 63, 3) := by decide +kernel
theorem dX2_isSame_46 : decode cX2_isSame 46 = .ok (.aload_n 0, 1) := by decide +kernel
theorem dX2_isSame_47 : decode cX2_isSame 47 = .ok (.getfield 21, 3) := by decide +kernel
theorem dX2_isSame_50 : decode cX2_isSame 50 = .ok (.if_icmp .ne 75, 3) := by decide +kernel
theorem dX2_isSame_53 : decode cX2_isSame 53 = .ok (.aload_n 1, 1) := by decide +kernel
theorem dX2_isSame_54 : decode cX2_isSame 54 = .ok (.invokevirtual 65, 3) := by decide +kernel
theorem dX2_isSame_57 : decode cX2_isSame 57 = .ok (.aload_n 0, 1) := by decide +kernel
theorem dX2_isSame_58 : decode cX2_isSame 58 = .ok (.getfield 7, 3) := by decide +kernel
theorem dX2_isSame_61 : decode cX2_isSame 61 = .ok (.aload_n 0, 1) := by decide +kernel
theorem dX2_isSame_62 : decode cX2_isSame 62 = .ok (.getfield 33, 3) := by decide +kernel
theorem dX2_isSame_65 : decode cX2_isSame 65 = .ok (.bipush 12, 2) := by decide +kernel
theorem dX2_isSame_67 : decode cX2_isSame 67 = .ok (.irem, 1) := by decide +kernel
theorem dX2_isSame_68 : decode cX2_isSame 68 = .ok (.iaload, 1) := by decide +kernel
theorem dX2_isSame_69 : decode cX2_isSame 69 = .ok (.if_icmp .ne 56, 3) := by decide +kernel
theorem dX2_isSame_72 : decode cX2_isSame 72 = .ok (.aload_n 1, 1) := by decide +kernel
theorem dX2_isSame_73 : decode cX2_isSame 73 = .ok (.invokevirtual 67, 3) := by decide +kernel
theorem dX2_isSame_76 : decode cX2_isSame 76 = .ok (.aload_n 0, 1) := by decide +kernel
theorem dX2_isSame_77 : decode cX2_isSame 77 = .ok (.getfield 40, 3) := by decide +kernel
theorem dX2_isSame_80 : decode cX2_isSame 80 = .ok (.if_icmp .ne 45, 3) := by decide +kernel
theorem dX2_isSame_83 : decode cX2_isSame 83 = .ok (.aload_n 1, 1) := by decide +kernel
theorem dX2_isSame_84 : decode cX2_isSame 84 = .ok (.invokevirtual 69, 3) := by decide +kernel
theorem dX2_isSame_87 : decode cX2_isSame 87 = .ok (.iload_n 3, 1) := by decide +kernel
theorem dX2_isSame_88 : decode cX2_isSame 88 = .ok (.aload_n 2, 1) := by decide +kernel
theorem dX2_isSame_89 : decode cX2_isSame 89 = .ok (.arraylength, 1) := by decide +kernel
theorem dX2_isSame_90 : decode cX2_isSame 90 = .ok (.isub, 1) := by decide +kernel
theorem dX2_isSame_91 : decode cX2_isSame 91 = .ok (.if_icmp .ne 34, 3) := by decide +kernel
theorem dX2_isSame_94 : decode cX2_isSame 94 = .ok (.aload_n 1, 1) := by decide +kernel
theorem dX2_isSame_95 : decode cX2_isSame 95 = .ok (.invokevirtual 72, 3) := by decide +kernel
theorem dX2_isSame_98 : decode cX2_isSame 98 = .ok (.aload_n 2, 1) := by decide +kernel
theorem dX2_isSame_99 : decode cX2_isSame 99 = .ok (.arraylength, 1) := by decide +kernel
theorem dX2_isSame_100 : decode cX2_isSame 100 = .ok (.ifCond .ne 7, 3) := by decide +kernel
theorem dX2_isSame_103 : decode cX2_isSame 103 = .ok (.iconst (-1), 1) := by decide +kernel
theorem dX2_isSame_104 : decode cX2_isSame 104 = .ok (.goto 6, 3) := by decide +kernel
theorem dX2_isSame_107 : decode cX2_isSame 107 = .ok (.aload_n 2, 1) := by decide +kernel
theorem dX2_isSame_108 : decode cX2_isSame 108 = .ok (.iconst 0, 1) := by decide +kernel
theorem dX2_isSame_109 : decode cX2_isSame 109 = .ok (.iaload, 1) := by decide +kernel
theorem dX2_isSame_110 : decode cX2_isSame 110 = .ok (.if_icmp .ne 15, 3) := by decide +kernel
theorem dX2_isSame_113 : decode cX2_isSame 113 = .ok (.aload_n 1, 1) := by decide +kernel
theorem dX2_isSame_114 : decode cX2_isSame 114 = .ok (.invokevirtual 75, 3) := by decide +kernel
theorem dX2_isSame_117 : decode cX2_isSame 117 = .ok (.aload_n 0, 1) := by decide +kernel
theorem dX2_isSame_118 : decode cX2_isSame 118 = .ok (.iconst 0, 1) := by decide +kernel
theorem dX2_isSame_119 : decode cX2_isSame 119 = .ok (.invokevirtual 78, 3) := by decide +kernel
theorem dX2_isSame_122 : decode cX2_isSame 122 = .ok (.if_icmp .eq 5, 3) := by decide +kernel
theorem dX2_isSame_125 : decode cX2_isSame 125 = .ok (.iconst 0, 1) := by decide +kernel
theorem dX2_isSame_126 : decode cX2_isSame 126 = .ok (.ireturn, 1) := by decide +kernel
theorem dX2_isSame_127 : decode cX2_isSame 127 = .ok (.iconst 0, 1) := by decide +kernel
theorem dX2_isSame_128 : decode cX2_isSame 128 = .ok (.istore 4, 2) := by decide +kernel
theorem dX2_isSame_130 : decode cX2_isSame 130 = .ok (.iload_n 3, 1) := by decide +kernel
theorem dX2_isSame_131 : decode cX2_isSame 131 = .ok (.newarray .int, 2) := by decide +kernel
theorem dX2_isSame_133 : decode cX2_isSame 133 = .ok (.astore 5, 2) := by decide +kernel
theorem dX2_isSame_135 : decode cX2_isSame 135 = .ok (.iconst 0, 1) := by decide +kernel
theorem dX2_isSame_136 : decode cX2_isSame 136 = .ok (.istore 6, 2) := by decide +kernel
theorem dX2_isSame_138 : decode cX2_isSame 138 = .ok (.iload 6, 2) := by decide +kernel
theorem dX2_isSame_140 : decode cX2_isSame 140 = .ok (.iload_n 3, 1) := by decide +kernel
theorem dX2_isSame_141 : decode cX2_isSame 141 = .ok (.if_icmp .ge 15, 3) := by decide +kernel
theorem dX2_isSame_144 : decode cX2_isSame 144 = .ok (.aload 5, 2) := by decide +kernel
theorem dX2_isSame_146 : decode cX2_isSame 146 = .ok (.iload 6, 2) := by decide +kernel
theorem dX2_isSame_148 : decode cX2_isSame 148 = .ok (.iconst (-1), 1) := by decide +kernel
theorem dX2_isSame_149 : decode cX2_isSame 149 = .ok (.iastore, 1) := by decide +kernel
theorem dX2_isSame_150 : decode cX2_isSame 150 = .ok (.iinc 6 1, 3) := by decide +kernel
theorem dX2_isSame_153 : decode cX2_isSame 153 = .ok (.goto (-15), 3) := by decide +kernel
theorem dX2_isSame_156 : decode cX2_isSame 156 = .ok (.iconst 0, 1) := by decide +kernel
theorem dX2_isSame_157 : decode cX2_isSame 157 = .ok (.istore 6, 2) := by decide +kernel
theorem dX2_isSame_159 : decode cX2_isSame 159 = .ok (.iload 6, 2) := by decide +kernel
theorem dX2_isSame_161 : decode cX2_isSame 161 = .ok (.aload_n 2, 1) := by decide +kernel
theorem dX2_isSame_162 : decode cX2_isSame 162 = .ok (.arraylength, 1) := by decide +kernel
theorem dX2_isSame_163 : decode cX2_isSame 163 = .ok (.if_icmp .ge 18, 3) := by decide +kernel
theorem dX2_isSame_166 : decode cX2_isSame 166 = .ok (.aload 5, 2) := by decide +kernel
theorem dX2_isSame_168 : decode cX2_isSame 168 = .ok (.aload_n 2, 1) := by decide +kernel
theorem dX2_isSame_169 : decode cX2_isSame 169 = .ok (.iload 6, 2) := by decide +kernel
theorem dX2_isSame_171 : decode cX2_isSame 171 = .ok (.iaload, 1) := by decide +kernel
theorem dX2_isSame_172 : decode cX2_isSame 172 = .ok (.iload 6, 2) := by decide +kernel
theorem dX2_isSame_174 : decode cX2_isSame 174 = .ok (.iastore, 1) := by decide +kernel
theorem dX2_isSame_175 : decode cX2_isSame 175 = .ok (.iinc 6 1, 3) := by decide +kernel
theorem dX2_isSame_178 : decode cX2_isSame 178 = .ok (.goto (-19), 3) := by decide +kernel
theorem dX2_isSame_181 : decode cX2_isSame 181 = .ok (.bipush 8, 2) := by decide +kernel
theorem dX2_isSame_183 : decode cX2_isSame 183 = .ok (.newarray .int, 2) := by decide +kernel
theorem dX2_isSame_185 : decode cX2_isSame 185 = .ok (.astore 6, 2) := by decide +kernel
theorem dX2_isSame_187 : decode cX2_isSame 187 = .ok (.iconst 0, 1) := by decide +kernel
theorem dX2_isSame_188 : decode cX2_isSame 188 = .ok (.istore 7, 2) := by decide +kernel
theorem dX2_isSame_190 : decode cX2_isSame 190 = .ok (.iload 7, 2) := by decide +kernel
theorem dX2_isSame_192 : decode cX2_isSame 192 = .ok (.iload_n 3, 1) := by decide +kernel
theorem dX2_isSame_193 : decode cX2_isSame 193 = .ok (.if_icmp .ge 111, 3) := by decide +kernel
theorem dX2_isSame_196 : decode cX2_isSame 196 = .ok (.aload_n 0, 1) := by decide +kernel
theorem dX2_isSame_197 : decode cX2_isSame 197 = .ok (.getfield 18, 3) := by decide +kernel
theorem dX2_isSame_200 : decode cX2_isSame 200 = .ok (.iload 7, 2) := by decide +kernel
theorem dX2_isSame_202 : decode cX2_isSame 202 = .ok (.aaload, 1) := by decide +kernel
theorem dX2_isSame_203 : decode cX2_isSame 203 = .ok (.astore 8, 2) := by decide +kernel
theorem dX2_isSame_205 : decode cX2_isSame 205 = .ok (.iload 4, 2) := by decide +kernel
theorem dX2_isSame_207 : decode cX2_isSame 207 = .ok (.aload 8, 2) := by decide +kernel
theorem dX2_isSame_209 : decode cX2_isSame 209 = .ok (.iconst 1, 1) := by decide +kernel
theorem dX2_isSame_210 : decode cX2_isSame 210 = .ok (.iaload, 1) := by decide +kernel
theorem dX2_isSame_211 : decode cX2_isSame 211 = .ok (.iadd, 1) := by decide +kernel
theorem dX2_isSame_212 : decode cX2_isSame 212 = .ok (.istore 4, 2) := by decide +kernel
theorem dX2_isSame_214 : decode cX2_isSame 214 = .ok (.aload 6, 2) := by decide +kernel
theorem dX2_isSame_216 : decode cX2_isSame 216 = .ok (.aload 8, 2) := by decide +kernel
theorem dX2_isSame_218 : decode cX2_isSame 218 = .ok (.iconst 0, 1) := by decide +kernel
theorem dX2_isSame_219 : decode cX2_isSame 219 = .ok (.iaload, 1) := by decide +kernel
theorem dX2_isSame_220 : decode cX2_isSame 220 = .ok (.dup2, 1) := by decide +kernel
theorem dX2_isSame_221 : decode cX2_isSame 221 = .ok (.iaload, 1) := by decide +kernel
theorem dX2_isSame_222 : decode cX2_isSame 222 = .ok (.aload 8, 2) := by decide +kernel
theorem dX2_isSame_224 : decode cX2_isSame 224 = .ok (.iconst 1, 1) := by decide +kernel
theorem dX2_isSame_225 : decode cX2_isSame 225 = .ok (.iaload, 1) := by decide +kernel
theorem dX2_isSame_226 : decode cX2_isSame 226 = .ok (.iadd, 1) := by decide +kernel
theorem dX2_isSame_227 : decode cX2_isSame 227 = .ok (.iastore, 1) := by decide +kernel
theorem dX2_isSame_228 : decode cX2_isSame 228 = .ok (.aload_n 1, 1) := by decide +kernel
theorem dX2_isSame_229 : decode cX2_isSame 229 = .ok (.iload 7, 2) := by decide +kernel
theorem dX2_isSame_231 : decode cX2_isSame 231 = .ok (.invokevirtual 80, 3) := by decide +kernel
theorem dX2_isSame_234 : decode cX2_isSame 234 = .ok (.aload_n 0, 1) := by decide +kernel
theorem dX2_isSame_235 : decode cX2_isSame 235 = .ok (.iload 7, 2) := by decide +kernel
theorem dX2_isSame_237 : decode cX2_isSame 237 = .ok (.invokevirtual 36, 3) := by decide +kernel
theorem dX2_isSame_240 : decode cX2_isSame 240 = .ok (.if_icmp .ne 56, 3) := by decide +kernel
theorem dX2_isSame_243 : decode cX2_isSame 243 = .ok (.aload_n 1, 1) := by decide +kernel
theorem dX2_isSame_244 : decode cX2_isSame 244 = .ok (.iload 7, 2) := by decide +kernel
theorem dX2_isSame_246 : decode cX2_isSame 246 = .ok (.invokevirtual 81, 3) := by decide +kernel
theorem dX2_isSame_249 : decode cX2_isSame 249 = .ok (.aload 8, 2) := by decide +kernel
theorem dX2_isSame_251 : decode cX2_isSame 251 = .ok (.iconst 1, 1) := by decide +kernel
theorem dX2_isSame_252 : decode cX2_isSame 252 = .ok (.iaload, 1) := by decide +kernel
theorem dX2_isSame_253 : decode cX2_isSame 253 = .ok (.if_icmp .ne 43, 3) := by decide +kernel
theorem dX2_isSame_256 : decode cX2_isSame 256 = .ok (.aload_n 1, 1) := by decide +kernel
theorem dX2_isSame_257 : decode cX2_isSame 257 = .ok (.iload 7, 2) := by decide +kernel
theorem dX2_isSame_259 : decode cX2_isSame 259 = .ok (.invokevirtual 84, 3) := by decide +kernel
theorem dX2_isSame_262 : decode cX2_isSame 262 = .ok (.aload 8, 2) := by decide +kernel
theorem dX2_isSame_264 : decode cX2_isSame 264 = .ok (.iconst 2, 1) := by decide +kernel
theorem dX2_isSame_265 : decode cX2_isSame 265 = .ok (.iaload, 1) := by decide +kernel
theorem dX2_isSame_266 : decode cX2_isSame 266 = .ok (.if_icmp .ne 30, 3) := by decide +kernel
theorem dX2_isSame_269 : decode cX2_isSame 269 = .ok (.aload_n 1, 1) := by decide +kernel
theorem dX2_isSame_270 : decode cX2_isSame 270 = .ok (.iload 7, 2) := by decide +kernel
theorem dX2_isSame_272 : decode cX2_isSame 272 = .ok (.invokevirtual 87, 3) := by decide +kernel
theorem dX2_isSame_275 : decode cX2_isSame 275 = .ok (.aload 8, 2) := by decide +kernel
theorem dX2_isSame_277 : decode cX2_isSame 277 = .ok (.iconst 3, 1) := by decide +kernel
theorem dX2_isSame_278 : decode cX2_isSame 278 = .ok (.iaload, 1) := by decide +kernel
theorem dX2_isSame_279 : decode cX2_isSame 279 = .ok (.if_icmp .ne 17, 3) := by decide +kernel
theorem dX2_isSame_282 : decode cX2_isSame 282 = .ok (.aload_n 1, 1) := by decide +kernel
theorem dX2_isSame_283 : decode cX2_isSame 283 = .ok (.iload 7, 2) := by decide +kernel
theorem dX2_isSame_285 : decode cX2_isSame 285 = .ok (.invokevirtual 90, 3) := by decide +kernel
theorem dX2_isSame_288 : decode cX2_isSame 288 = .ok (.aload 5, 2) := by decide +kernel
theorem dX2_isSame_290 : decode cX2_isSame 290 = .ok (.iload 7, 2) := by decide +kernel
theorem dX2_isSame_292 : decode cX2_isSame 292 = .ok (.iaload, 1) := by decide +kernel
theorem dX2_isSame_293 : decode cX2_isSame 293 = .ok (.if_icmp .eq 5, 3) := by decide +kernel
theorem dX2_isSame_296 : decode cX2_isSame 296 = .ok (.iconst 0, 1) := by decide +kernel
theorem dX2_isSame_297 : decode cX2_isSame 297 = .ok (.ireturn, 1) := by decide +kernel
theorem dX2_isSame_298 : decode cX2_isSame 298 = .ok (.iinc 7 1, 3) := by decide +kernel
theorem dX2_isSame_301 : decode cX2_isSame 301 = .ok (.goto (-111), 3) := by decide +kernel
theorem dX2_isSame_304 : decode cX2_isSame 304 = .ok (.iconst 0, 1) := by decide +kernel
theorem dX2_isSame_305 : decode cX2_isSame 305 = .ok (.istore 7, 2) := by decide +kernel
theorem dX2_isSame_307 : decode cX2_isSame 307 = .ok (.iload 7, 2) := by decide +kernel
theorem dX2_isSame_309 : decode cX2_isSame 309 = .ok (.aload_n 0, 1) := by decide +kernel
theorem dX2_isSame_310 : decode cX2_isSame 310 = .ok (.getfield 14, 3) := by decide +kernel
theorem dX2_isSame_313 : decode cX2_isSame 313 = .ok (.arraylength, 1) := by decide +kernel
theorem dX2_isSame_314 : decode cX2_isSame 314 = .ok (.if_icmp .ge 29, 3) := by decide +kernel
theorem dX2_isSame_317 : decode cX2_isSame 317 = .ok (.aload_n 1, 1) := by decide +kernel
theorem dX2_isSame_318 : decode cX2_isSame 318 = .ok (.iload 7, 2) := by decide +kernel
theorem dX2_isSame_320 : decode cX2_isSame 320 = .ok (.invokevirtual 93, 3) := by decide +kernel
theorem dX2_isSame_323 : decode cX2_isSame 323 = .ok (.aload_n 0, 1) := by decide +kernel
theorem dX2_isSame_324 : decode cX2_isSame 324 = .ok (.getfield 14, 3) := by decide +kernel
theorem dX2_isSame_327 : decode cX2_isSame 327 = .ok (.iload 7, 2) := by decide +kernel
theorem dX2_isSame_329 : decode cX2_isSame 329 = .ok (.aaload, 1) := by decide +kernel
theorem dX2_isSame_330 : decode cX2_isSame 330 = .ok (.iconst 1, 1) := by decide +kernel
theorem dX2_isSame_331 : decode cX2_isSame 331 = .ok (.iaload, 1) := by decide +kernel
theorem dX2_isSame_332 : decode cX2_isSame 332 = .ok (.if_icmp .eq 5, 3) := by decide +kernel
theorem dX2_isSame_335 : decode cX2_isSame 335 = .ok (.iconst 0, 1) := by decide +kernel
theorem dX2_isSame_336 : decode cX2_isSame 336 = .ok (.ireturn, 1) := by decide +kernel
theorem dX2_isSame_337 : decode cX2_isSame 337 = .ok (.iinc 7 1, 3) := by decide +kernel
theorem dX2_isSame_340 : decode cX2_isSame 340 = .ok (.goto (-33), 3) := by decide +kernel
theorem dX2_isSame_343 : decode cX2_isSame 343 = .ok (.iconst 0, 1) := by decide +kernel
theorem dX2_isSame_344 : decode cX2_isSame 344 = .ok (.istore 7, 2) := by decide +kernel
theorem dX2_isSame_346 : decode cX2_isSame 346 = .ok (.iload 7, 2) := by decide +kernel
theorem dX2_isSame_348 : decode cX2_isSame 348 = .ok (.bipush 8, 2) := by decide +kernel
theorem dX2_isSame_350 : decode cX2_isSame 350 = .ok (.if_icmp .ge 25, 3) := by decide +kernel
theorem dX2_isSame_353 : decode cX2_isSame 353 = .ok (.aload_n 1, 1) := by decide +kernel
theorem dX2_isSame_354 : decode cX2_isSame 354 = .ok (.iload 7, 2) := by decide +kernel
theorem dX2_isSame_356 : decode cX2_isSame 356 = .ok (.invokevirtual 96, 3) := by decide +kernel
theorem dX2_isSame_359 : decode cX2_isSame 359 = .ok (.aload 6, 2) := by decide +kernel
theorem dX2_isSame_361 : decode cX2_isSame 361 = .ok (.iload 7, 2) := by decide +kernel
theorem dX2_isSame_363 : decode cX2_isSame 363 = .ok (.iaload, 1) := by decide +kernel
theorem dX2_isSame_364 : decode cX2_isSame 364 = .ok (.if_icmp .eq 5, 3) := by decide +kernel
theorem dX2_isSame_367 : decode cX2_isSame 367 = .ok (.iconst 0, 1) := by decide +kernel
theorem dX2_isSame_368 : decode cX2_isSame 368 = .ok (.ireturn, 1) := by decide +kernel
theorem dX2_isSame_369 : decode cX2_isSame 369 = .ok (.iinc 7 1, 3) := by decide +kernel
theorem dX2_isSame_372 : decode cX2_isSame 372 = .ok (.goto (-26), 3) := by decide +kernel
theorem dX2_isSame_375 : decode cX2_isSame 375 = .ok (.aload_n 1, 1) := by decide +kernel
theorem dX2_isSame_376 : decode cX2_isSame 376 = .ok (.invokevirtual 99, 3) := by decide +kernel
theorem dX2_isSame_379 : decode cX2_isSame 379 = .ok (.aload_n 2, 1) := by decide +kernel
theorem dX2_isSame_380 : decode cX2_isSame 380 = .ok (.arraylength, 1) := by decide +kernel
theorem dX2_isSame_381 : decode cX2_isSame 381 = .ok (.ifCond .ne 7, 3) := by decide +kernel
theorem dX2_isSame_384 : decode cX2_isSame 384 = .ok (.dconst 0, 1) := by decide +kernel
theorem dX2_isSame_385 : decode cX2_isSame 385 = .ok (.goto 10, 3) := by decide +kernel
theorem dX2_isSame_388 : decode cX2_isSame 388 = .ok (.iload 4, 2) := by decide +kernel
theorem dX2_isSame_390 : decode cX2_isSame 390 = .ok (.i2d, 1) := by decide +kernel
theorem dX2_isSame_391 : decode cX2_isSame 391 = .ok (.aload_n 2, 1) := by decide +kernel
theorem dX2_isSame_392 : decode cX2_isSame 392 = .ok (.arraylength, 1) := by decide +kernel
theorem dX2_isSame_393 : decode cX2_isSame 393 = .ok (.i2d, 1) := by decide +kernel
theorem dX2_isSame_394 : decode cX2_isSame 394 = .ok (.ddiv, 1) := by decide +kernel
theorem dX2_isSame_395 : decode cX2_isSame 395 = .ok (.dcmp .l, 1) := by decide +kernel
theorem dX2_isSame_396 : decode cX2_isSame 396 = .ok (.ifCond .ne 7, 3) := by decide +kernel
theorem dX2_isSame_399 : decode cX2_isSame 399 = .ok (.iconst 1, 1) := by decide +kernel
theorem dX2_isSame_400 : decode cX2_isSame 400 = .ok (.goto 4, 3) := by decide +kernel
theorem dX2_isSame_403 : decode cX2_isSame 403 = .ok (.iconst 0, 1) := by decide +kernel
theorem dX2_isSame_404 : decode cX2_isSame 404 = .ok (.ireturn, 1) := by decide +kernel
