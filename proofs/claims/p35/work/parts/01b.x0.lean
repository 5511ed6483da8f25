theorem dJ9_floorMod_7cf53_0 : decode cJ9_floorMod_7cf53 0 = .ok (.iload_n 0, 1) := by decide +kernel
theorem dJ9_floorMod_7cf53_1 : decode cJ9_floorMod_7cf53 1 = .ok (.iload_n 1, 1) := by decide +kernel
theorem dJ9_floorMod_7cf53_2 : decode cJ9_floorMod_7cf53 2 = .ok (.irem, 1) := by decide +kernel
theorem dJ9_floorMod_7cf53_3 : decode cJ9_floorMod_7cf53 3 = .ok (.istore_n 2, 1) := by decide +kernel
theorem dJ9_floorMod_7cf53_4 : decode cJ9_floorMod_7cf53 4 = .ok (.iload_n 0, 1) := by decide +kernel
theorem dJ9_floorMod_7cf53_5 : decode cJ9_floorMod_7cf53 5 = .ok (.iload_n 1, 1) := by decide +kernel
theorem dJ9_floorMod_7cf53_6 : decode cJ9_floorMod_7cf53 6 = .ok (.ixor, 1) := by decide +kernel
theorem dJ9_floorMod_7cf53_7 : decode cJ9_floorMod_7cf53 7 = .ok (.ifCond .ge 11, 3) := by decide +kernel
theorem dJ9_floorMod_7cf53_10 : decode cJ9_floorMod_7cf53 10 = .ok (.iload_n 2, 1) := by decide +kernel
theorem dJ9_floorMod_7cf53_11 : decode cJ9_floorMod_7cf53 11 = .ok (.ifCond .eq 7, 3) := by decide +kernel
theorem dJ9_floorMod_7cf53_14 : decode cJ9_floorMod_7cf53 14 = .ok (.iload_n 2, 1) := by decide +kernel
theorem dJ9_floorMod_7cf53_15 : decode cJ9_floorMod_7cf53 15 = .ok (.iload_n 1, 1) := by decide +kernel
theorem dJ9_floorMod_7cf53_16 : decode cJ9_floorMod_7cf53 16 = .ok (.iadd, 1) := by decide +kernel
theorem dJ9_floorMod_7cf53_17 : decode cJ9_floorMod_7cf53 17 = .ok (.ireturn, 1) := by decide +kernel
theorem dJ9_floorMod_7cf53_18 : decode cJ9_floorMod_7cf53 18 = .ok (.iload_n 2, 1) := by decide +kernel
theorem dJ9_floorMod_7cf53_19 : decode cJ9_floorMod_7cf53 19 = .ok (.ireturn, 1) := by decide +kernel
theorem dJ9_max_7cf53_0 : decode cJ9_max_7cf53 0 = .ok (.iload_n 0, 1) := by decide +kernel
theorem dJ9_max_7cf53_1 : decode cJ9_max_7cf53 1 = .ok (.iload_n 1, 1) := by decide +kernel
theorem dJ9_max_7cf53_2 : decode cJ9_max_7cf53 2 = .ok (.if_icmp .lt 7, 3) := by decide +kernel
theorem dJ9_max_7cf53_5 : decode cJ9_max_7cf53 5 = .ok (.iload_n 0, 1) := by decide +kernel
theorem dJ9_max_7cf53_6 : decode cJ9_max_7cf53 6 = .ok (.goto 4, 3) := by decide +kernel
theorem dJ9_max_7cf53_9 : decode cJ9_max_7cf53 9 = .ok (.iload_n 1, 1) := by decide +kernel
theorem dJ9_max_7cf53_10 : decode cJ9_max_7cf53 10 = .ok (.ireturn, 1) := by decide +kernel
theorem dJ9_min_7cf53_0 : decode cJ9_min_7cf53 0 = .ok (.iload_n 0, 1) := by decide +kernel
theorem dJ9_min_7cf53_1 : decode cJ9_min_7cf53 1 = .ok (.iload_n 1, 1) := by decide +kernel
theorem dJ9_min_7cf53_2 : decode cJ9_min_7cf53 2 = .ok (.if_icmp .gt 7, 3) := by decide +kernel
theorem dJ9_min_7cf53_5 : decode cJ9_min_7cf53 5 = .ok (.iload_n 0, 1) := by decide +kernel
theorem dJ9_min_7cf53_6 : decode cJ9_min_7cf53 6 = .ok (.goto 4, 3) := by decide +kernel
theorem dJ9_min_7cf53_9 : decode cJ9_min_7cf53 9 = .ok (.iload_n 1, 1) := by decide +kernel
theorem dJ9_min_7cf53_10 : decode cJ9_min_7cf53 10 = .ok (.ireturn, 1) := by decide +kernel
theorem dX0_init_0 : decode cX0_init 0 = .ok (.aload_n 0, 1) := by decide +kernel
theorem dX0_init_1 : decode cX0_init 1 = .ok (.invokespecial 3, 3) := by decide +kernel
theorem dX0_init_4 : decode cX0_init 4 = .ok (.aload_n 0, 1) := by decide +kernel
theorem dX0_init_5 : decode cX0_init 5 = .ok (.bipush 12, 2) := by decide +kernel
theorem dX0_init_7 : decode cX0_init 7 = .ok (.newarray .int, 2) := by decide +kernel
theorem dX0_init_9 : decode cX0_init 9 = .ok (.putfield 9, 3) := by decide +kernel
theorem dX0_init_12 : decode cX0_init 12 = .ok (.aload_n 0, 1) := by decide +kernel
theorem dX0_init_13 : decode cX0_init 13 = .ok (.iconst 4, 1) := by decide +kernel
theorem dX0_init_14 : decode cX0_init 14 = .ok (.newarray .int, 2) := by decide +kernel
theorem dX0_init_16 : decode cX0_init 16 = .ok (.putfield 15, 3) := by decide +kernel
theorem dX0_init_19 : decode cX0_init 19 = .ok (.aload_n 0, 1) := by decide +kernel
theorem dX0_init_20 : decode cX0_init 20 = .ok (.iconst 4, 1) := by decide +kernel
theorem dX0_init_21 : decode cX0_init 21 = .ok (.newarray .int, 2) := by decide +kernel
theorem dX0_init_23 : decode cX0_init 23 = .ok (.putfield 18, 3) := by decide +kernel
theorem dX0_init_26 : decode cX0_init 26 = .ok (.aload_n 0, 1) := by decide +kernel
theorem dX0_init_27 : decode cX0_init 27 = .ok (.iconst 4, 1) := by decide +kernel
theorem dX0_init_28 : decode cX0_init 28 = .ok (.newarray .boolean, 2) := by decide +kernel
theorem dX0_init_30 : decode cX0_init 30 = .ok (.putfield 21, 3) := by decide +kernel
theorem dX0_init_33 : decode cX0_init 33 = .ok (.aload_n 0, 1) := by decide +kernel
theorem dX0_init_34 : decode cX0_init 34 = .ok (.bipush 16, 2) := by decide +kernel
theorem dX0_init_36 : decode cX0_init 36 = .ok (.newarray .int, 2) := by decide +kernel
theorem dX0_init_38 : decode cX0_init 38 = .ok (.putfield 25, 3) := by decide +kernel
theorem dX0_init_41 : decode cX0_init 41 = .ok (.aload_n 0, 1) := by decide +kernel
theorem dX0_init_42 : decode cX0_init 42 = .ok (.bipush 16, 2) := by decide +kernel
theorem dX0_init_44 : decode cX0_init 44 = .ok (.newarray .int, 2) := by decide +kernel
theorem dX0_init_46 : decode cX0_init 46 = .ok (.putfield 28, 3) := by decide +kernel
theorem dX0_init_49 : decode cX0_init 49 = .ok (.aload_n 0, 1) := by decide +kernel
theorem dX0_init_50 : decode cX0_init 50 = .ok (.bipush 16, 2) := by decide +kernel
theorem dX0_init_52 : decode cX0_init 52 = .ok (.newarray .int, 2) := by decide +kernel
theorem dX0_init_54 : decode cX0_init 54 = .ok (.putfield 31, 3) := by decide +kernel
theorem dX0_init_57 : decode cX0_init 57 = .ok (.aload_n 0, 1) := by decide +kernel
theorem dX0_init_58 : decode cX0_init 58 = .ok (.bipush 16, 2) := by decide +kernel
theorem dX0_init_60 : decode cX0_init 60 = .ok (.newarray .int, 2) := by decide +kernel
theorem dX0_init_62 : decode cX0_init 62 = .ok (.putfield 34, 3) := by decide +kernel
theorem dX0_init_65 : decode cX0_init 65 = .ok (.aload_n 0, 1) := by decide +kernel
theorem dX0_init_66 : decode cX0_init 66 = .ok (.bipush 16, 2) := by decide +kernel
theorem dX0_init_68 : decode cX0_init 68 = .ok (.newarray .int, 2) := by decide +kernel
theorem dX0_init_70 : decode cX0_init 70 = .ok (.putfield 37, 3) := by decide +kernel
theorem dX0_init_73 : decode cX0_init 73 = .ok (.aload_n 0, 1) := by decide +kernel
theorem dX0_init_74 : decode cX0_init 74 = .ok (.iconst 0, 1) := by decide +kernel
theorem dX0_init_75 : decode cX0_init 75 = .ok (.putfield 40, 3) := by decide +kernel
theorem dX0_init_78 : decode cX0_init 78 = .ok (.aload_n 0, 1) := by decide +kernel
theorem dX0_init_79 : decode cX0_init 79 = .ok (.iconst 0, 1) := by decide +kernel
theorem dX0_init_80 : decode cX0_init 80 = .ok (.putfield 44, 3) := by decide +kernel
theorem dX0_init_83 : decode cX0_init 83 = .ok (.aload_n 0, 1) := by decide +kernel
theorem dX0_init_84 : decode cX0_init 84 = .ok (.iconst 0, 1) := by decide +kernel
theorem dX0_init_85 : decode cX0_init 85 = .ok (.putfield 47, 3) := by decide +kernel
theorem dX0_init_88 : decode cX0_init 88 = .ok (.aload_n 0, 1) := by decide +kernel
theorem dX0_init_89 : decode cX0_init 89 = .ok (.iconst 0, 1) := by decide +kernel
theorem dX0_init_90 : decode cX0_init 90 = .ok (.putfield 50, 3) := by decide +kernel
theorem dX0_init_93 : decode cX0_init 93 = .ok (.aload_n 0, 1) := by decide +kernel
theorem dX0_init_94 : decode cX0_init 94 = .ok (.iconst 0, 1) := by decide +kernel
theorem dX0_init_95 : decode cX0_init 95 = .ok (.putfield 53, 3) := by decide +kernel
theorem dX0_init_98 : decode cX0_init 98 = .ok (.aload_n 0, 1) := by decide +kernel
theorem dX0_init_99 : decode cX0_init 99 = .ok (.iconst 0, 1) := by decide +kernel
theorem dX0_init_100 : decode cX0_init 100 = .ok (.putfield 56, 3) := by decide +kernel
theorem dX0_init_103 : decode cX0_init 103 = .ok (.aload_n 0, 1) := by decide +kernel
theorem dX0_init_104 : decode cX0_init 104 = .ok (.iconst 0, 1) := by decide +kernel
theorem dX0_init_105 : decode cX0_init 105 = .ok (.putfield 59, 3) := by decide +kernel
theorem dX0_init_108 : decode cX0_init 108 = .ok (.iconst 0, 1) := by decide +kernel
theorem dX0_init_109 : decode cX0_init 109 = .ok (.istore_n 1, 1) := by decide +kernel
theorem dX0_init_110 : decode cX0_init 110 = .ok (.iload_n 1, 1) := by decide +kernel
theorem dX0_init_111 : decode cX0_init 111 = .ok (.bipush 12, 2) := by decide +kernel
theorem dX0_init_113 : decode cX0_init 113 = .ok (.if_icmp .ge 16, 3) := by decide +kernel
theorem dX0_init_116 : decode cX0_init 116 = .ok (.aload_n 0, 1) := by decide +kernel
theorem dX0_init_117 : decode cX0_init 117 = .ok (.getfield 9, 3) := by decide +kernel
theorem dX0_init_120 : decode cX0_init 120 = .ok (.iload_n 1, 1) := by decide +kernel
theorem dX0_init_121 : decode cX0_init 121 = .ok (.iconst 5, 1) := by decide +kernel
theorem dX0_init_122 : decode cX0_init 122 = .ok (.iastore, 1) := by decide +kernel
theorem dX0_init_123 : decode cX0_init 123 = .ok (.iinc 1 1, 3) := by decide +kernel
theorem dX0_init_126 : decode cX0_init 126 = .ok (.goto (-16), 3) := by decide +kernel
theorem dX0_init_129 : decode cX0_init 129 = .ok (.return_, 1) := by decide +kernel
set_option maxRecDepth 20000 in
theorem ggX0_become_X0_copyRow : GoodIn wsX0_become wsX0_copyRow := goodIn_r _ [19] (by decide +kernel) (by decide +kernel)
set_option maxRecDepth 20000 in
theorem gX0_become_X0_copyRow : GoodIn wsX0_become (va_wsS RX0 63 yX0_copyRow wsX0_copyRow) := goodIn_app (goodIn_of _ (by decide +kernel)) ggX0_become_X0_copyRow
theorem dX0_become_0 : decode cX0_become 0 = .ok (.aload_n 1, 1) := by decide +kernel
theorem dX0_become_1 : decode cX0_become 1 = .ok (.getfield 9, 3) := by decide +kernel
theorem dX0_become_4 : decode cX0_become 4 = .ok (.aload_n 0, 1) := by decide +kernel
theorem dX0_become_5 : decode cX0_become 5 = .ok (.getfield 9, 3) := by decide +kernel
theorem dX0_become_8 : decode cX0_become 8 = .ok (.invokestatic 63, 3) := by decide +kernel
theorem dX0_become_11 : decode cX0_become 11 = .ok (.aload_n 1, 1) := by decide +kernel
theorem dX0_become_12 : decode cX0_become 12 = .ok (.getfield 15, 3) := by decide +kernel
theorem dX0_become_15 : decode cX0_become 15 = .ok (.aload_n 0, 1) := by decide +kernel
theorem dX0_become_16 : decode cX0_become 16 = .ok (.getfield 15, 3) := by decide +kernel
theorem dX0_become_19 : decode cX0_become 19 = .ok (.invokestatic 63, 3) := by decide +kernel
theorem dX0_become_22 : decode cX0_become 22 = .ok (.aload_n 1, 1) := by decide +kernel
theorem dX0_become_23 : decode cX0_become 23 = .ok (.getfield 18, 3) := by decide +kernel
theorem dX0_become_26 : decode cX0_become 26 = .ok (.aload_n 0, 1) := by decide +kernel
theorem dX0_become_27 : decode cX0_become 27 = .ok (.getfield 18, 3) := by decide +kernel
theorem dX0_become_30 : decode cX0_become 30 = .ok (.invokestatic 63, 3) := by decide +kernel
theorem dX0_become_33 : decode cX0_become 33 = .ok (.aload_n 1, 1) := by decide +kernel
theorem dX0_become_34 : decode cX0_become 34 = .ok (.getfield 25, 3) := by decide +kernel
theorem dX0_become_37 : decode cX0_become 37 = .ok (.aload_n 0, 1) := by decide +kernel
theorem dX0_become_38 : decode cX0_become 38 = .ok (.getfield 25, 3) := by decide +kernel
theorem dX0_become_41 : decode cX0_become 41 = .ok (.invokestatic 63, 3) := by decide +kernel
theorem dX0_become_44 : decode cX0_become 44 = .ok (.aload_n 1, 1) := by decide +kernel
theorem dX0_become_45 : decode cX0_become 45 = .ok (.getfield 28, 3) := by decide +kernel
theorem dX0_become_48 : decode cX0_become 48 = .ok (.aload_n 0, 1) := by decide +kernel
theorem dX0_become_49 : decode cX0_become 49 = .ok (.getfield 28, 3) := by decide +kernel
theorem dX0_become_52 : decode cX0_become 52 = .ok (.invokestatic 63, 3) := by decide +kernel
theorem dX0_become_55 : decode cX0_become 55 = .ok (.aload_n 1, 1) := by decide +kernel
theorem dX0_become_56 : decode cX0_become 56 = .ok (.getfield 31, 3) := by decide +kernel
theorem dX0_become_59 : decode cX0_become 59 = .ok (.aload_n 0, 1) := by decide +kernel
theorem dX0_become_60 : decode cX0_become 60 = .ok (.getfield 31, 3) := by decide +kernel
theorem dX0_become_63 : decode cX0_become 63 = .ok (.invokestatic 63, 3) := by decide +kernel
theorem dX0_become_66 : decode cX0_become 66 = .ok (.aload_n 1, 1) := by decide +kernel
theorem dX0_become_67 : decode cX0_become 67 = .ok (.getfield 34, 3) := by decide +kernel
theorem dX0_become_70 : decode cX0_become 70 = .ok (.aload_n 0, 1) := by decide +kernel
theorem dX0_become_71 : decode cX0_become 71 = .ok (.getfield 34, 3) := by decide +kernel
theorem dX0_become_74 : decode cX0_become 74 = .ok (.invokestatic 63, 3) := by decide +kernel
theorem dX0_become_77 : decode cX0_become 77 = .ok (.aload_n 1, 1) := by decide +kernel
theorem dX0_become_78 : decode cX0_become 78 = .ok (.getfield 37, 3) := by decide +kernel
theorem dX0_become_81 : decode cX0_become 81 = .ok (.aload_n 0, 1) := by decide +kernel
theorem dX0_become_82 : decode cX0_become 82 = .ok (.getfield 37, 3) := by decide +kernel
theorem dX0_become_85 : decode cX0_become 85 = .ok (.invokestatic 63, 3) := by decide +kernel
theorem dX0_become_88 : decode cX0_become 88 = .ok (.aload_n 0, 1) := by decide +kernel
theorem dX0_become_89 : decode cX0_become 89 = .ok (.aload_n 1, 1) := by decide +kernel
theorem dX0_become_90 : decode cX0_become 90 = .ok (.getfield 40, 3) := by decide +kernel
theorem dX0_become_93 : decode cX0_become 93 = .ok (.putfield 40, 3) := by decide +kernel
theorem dX0_become_96 : decode cX0_become 96 = .ok (.aload_n 0, 1) := by decide +kernel
theorem dX0_become_97 : decode cX0_become 97 = .ok (.aload_n 1, 1) := by decide +kernel
theorem dX0_become_98 : decode cX0_become 98 = .ok (.getfield 44, 3) := by decide +kernel
theorem dX0_become_101 : decode cX0_become 101 = .ok (.putfield 44, 3) := by decide +kernel
theorem dX0_become_104 : decode cX0_become 104 = .ok (.aload_n 0, 1) := by decide +kernel
theorem dX0_become_105 : decode cX0_become 105 = .ok (.aload_n 1, 1) := by decide +kernel
theorem dX0_become_106 : decode cX0_become 106 = .ok (.getfield 47, 3) := by decide +kernel
theorem dX0_become_109 : decode cX0_become 109 = .ok (.putfield 47, 3) := by decide +kernel
theorem dX0_become_112 : decode cX0_become 112 = .ok (.aload_n 0, 1) := by decide +kernel
theorem dX0_become_113 : decode cX0_become 113 = .ok (.aload_n 1, 1) := by decide +kernel
theorem dX0_become_114 : decode cX0_become 114 = .ok (.getfield 50, 3) := by decide +kernel
theorem dX0_become_117 : decode cX0_become 117 = .ok (.putfield 50, 3) := by decide +kernel
theorem dX0_become_120 : decode cX0_become 120 = .ok (.aload_n 0, 1) := by decide +kernel
theorem dX0_become_121 : decode cX0_become 121 = .ok (.aload_n 1, 1) := by decide +kernel
theorem dX0_become_122 : decode cX0_become 122 = .ok (.getfield 53, 3) := by decide +kernel
theorem dX0_become_125 : decode cX0_become 125 = .ok (.putfield 53, 3) := by decide +kernel
theorem dX0_become_128 : decode cX0_become 128 = .ok (.aload_n 0, 1) := by decide +kernel
theorem dX0_become_129 : decode cX0_become 129 = .ok (.aload_n 1, 1) := by decide +kernel
theorem dX0_become_130 : decode cX0_become 130 = .ok (.getfield 56, 3) := by decide +kernel
theorem dX0_become_133 : decode cX0_become 133 = .ok (.putfield 56, 3) := by decide +kernel
theorem dX0_become_136 : decode cX0_become 136 = .ok (.aload_n 0, 1) := by decide +kernel
theorem dX0_become_137 : decode cX0_become 137 = .ok (.aload_n 1, 1) := by decide +kernel
theorem dX0_become_138 : decode cX0_become 138 = .ok (.getfield 59, 3) := by decide +kernel
theorem dX0_become_141 : decode cX0_become 141 = .ok (.putfield 59, 3) := by decide +kernel
theorem dX0_become_144 : decode cX0_become 144 = .ok (.return_, 1) := by decide +kernel
theorem dX0_copyRow_0 : decode cX0_copyRow 0 = .ok (.iconst 0, 1) := by decide +kernel
theorem dX0_copyRow_1 : decode cX0_copyRow 1 = .ok (.istore_n 2, 1) := by decide +kernel
theorem dX0_copyRow_2 : decode cX0_copyRow 2 = .ok (.iload_n 2, 1) := by decide +kernel
theorem dX0_copyRow_3 : decode cX0_copyRow 3 = .ok (.aload_n 0, 1) := by decide +kernel
theorem dX0_copyRow_4 : decode cX0_copyRow 4 = .ok (.arraylength, 1) := by decide +kernel
theorem dX0_copyRow_5 : decode cX0_copyRow 5 = .ok (.if_icmp .ge 21, 3) := by decide +kernel
theorem dX0_copyRow_8 : decode cX0_copyRow 8 = .ok (.iload_n 2, 1) := by decide +kernel
theorem dX0_copyRow_9 : decode cX0_copyRow 9 = .ok (.aload_n 1, 1) := by decide +kernel
theorem dX0_copyRow_10 : decode cX0_copyRow 10 = .ok (.arraylength, 1) := by decide +kernel
theorem dX0_copyRow_11 : decode cX0_copyRow 11 = .ok (.if_icmp .ge 15, 3) := by decide +kernel
theorem dX0_copyRow_14 : decode cX0_copyRow 14 = .ok (.aload_n 1, 1) := by decide +kernel
theorem dX0_copyRow_15 : decode cX0_copyRow 15 = .ok (.iload_n 2, 1) := by decide +kernel
theorem dX0_copyRow_16 : decode cX0_copyRow 16 = .ok (.aload_n 0, 1) := by decide +kernel
theorem dX0_copyRow_17 : decode cX0_copyRow 17 = .ok (.iload_n 2, 1) := by decide +kernel
theorem dX0_copyRow_18 : decode cX0_copyRow 18 = .ok (.iaload, 1) := by decide +kernel
theorem dX0_copyRow_19 : decode cX0_copyRow 19 = .ok (.iastore, 1) := by decide +kernel
theorem dX0_copyRow_20 : decode cX0_copyRow 20 = .ok (.iinc 2 1, 3) := by decide +kernel
theorem dX0_copyRow_23 : decode cX0_copyRow 23 = .ok (.goto (-21), 3) := by decide +kernel
theorem dX0_copyRow_26 : decode cX0_copyRow 26 = .ok (.return_, 1) := by decide +kernel
theorem dX0_placeStone_0 : decode cX0_placeStone 0 = .ok (.aload_n 0, 1) := by decide +kernel
theorem dX0_placeStone_1 : decode cX0_placeStone 1 = .ok (.getfield 44, 3) := by decide +kernel
theorem dX0_placeStone_4 : decode cX0_placeStone 4 = .ok (.istore_n 2, 1) := by decide +kernel
theorem dX0_placeStone_5 : decode cX0_placeStone 5 = .ok (.aload_n 0, 1) := by decide +kernel
theorem dX0_placeStone_6 : decode cX0_placeStone 6 = .ok (.getfield 15, 3) := by decide +kernel
theorem dX0_placeStone_9 : decode cX0_placeStone 9 = .ok (.iload_n 2, 1) := by decide +kernel
theorem dX0_placeStone_10 : decode cX0_placeStone 10 = .ok (.iload_n 1, 1) := by decide +kernel
theorem dX0_placeStone_11 : decode cX0_placeStone 11 = .ok (.iastore, 1) := by decide +kernel
theorem dX0_placeStone_12 : decode cX0_placeStone 12 = .ok (.aload_n 0, 1) := by decide +kernel
theorem dX0_placeStone_13 : decode cX0_placeStone 13 = .ok (.getfield 18, 3) := by decide +kernel
theorem dX0_placeStone_16 : decode cX0_placeStone 16 = .ok (.iload_n 2, 1) := by decide +kernel
theorem dX0_placeStone_17 : decode cX0_placeStone 17 = .ok (.iconst (-1), 1) := by decide +kernel
theorem dX0_placeStone_18 : decode cX0_placeStone 18 = .ok (.iastore, 1) := by decide +kernel
theorem dX0_placeStone_19 : decode cX0_placeStone 19 = .ok (.aload_n 0, 1) := by decide +kernel
theorem dX0_placeStone_20 : decode cX0_placeStone 20 = .ok (.iload_n 2, 1) := by decide +kernel
theorem dX0_placeStone_21 : decode cX0_placeStone 21 = .ok (.iconst 1, 1) := by decide +kernel
theorem dX0_placeStone_22 : decode cX0_placeStone 22 = .ok (.iadd, 1) := by decide +kernel
theorem dX0_placeStone_23 : decode cX0_placeStone 23 = .ok (.putfield 44, 3) := by decide +kernel
theorem dX0_placeStone_26 : decode cX0_placeStone 26 = .ok (.iload_n 2, 1) := by decide +kernel
theorem dX0_placeStone_27 : decode cX0_placeStone 27 = .ok (.ireturn, 1) := by decide +kernel
theorem dX0_storeSack_0 : decode cX0_storeSack 0 = .ok (.aload_n 0, 1) := by decide +kernel
theorem dX0_storeSack_1 : decode cX0_storeSack 1 = .ok (.getfield 47, 3) := by decide +kernel
theorem dX0_storeSack_4 : decode cX0_storeSack 4 = .ok (.istore 4, 2) := by decide +kernel
theorem dX0_storeSack_6 : decode cX0_storeSack 6 = .ok (.aload_n 0, 1) := by decide +kernel
theorem dX0_storeSack_7 : decode cX0_storeSack 7 = .ok (.getfield 25, 3) := by decide +kernel
theorem dX0_storeSack_10 : decode cX0_storeSack 10 = .ok (.iload 4, 2) := by decide +kernel
theorem dX0_storeSack_12 : decode cX0_storeSack 12 = .ok (.iload_n 1, 1) := by decide +kernel
theorem dX0_storeSack_13 : decode cX0_storeSack 13 = .ok (.iastore, 1) := by decide +kernel
theorem dX0_storeSack_14 : decode cX0_storeSack 14 = .ok (.aload_n 0, 1) := by decide +kernel
theorem dX0_storeSack_15 : decode cX0_storeSack 15 = .ok (.getfield 28, 3) := by decide +kernel
theorem dX0_storeSack_18 : decode cX0_storeSack 18 = .ok (.iload 4, 2) := by decide +kernel
theorem dX0_storeSack_20 : decode cX0_storeSack 20 = .ok (.iload_n 2, 1) := by decide +kernel
theorem dX0_storeSack_21 : decode cX0_storeSack 21 = .ok (.iastore, 1) := by decide +kernel
theorem dX0_storeSack_22 : decode cX0_storeSack 22 = .ok (.aload_n 0, 1) := by decide +kernel
theorem dX0_storeSack_23 : decode cX0_storeSack 23 = .ok (.getfield 31, 3) := by decide +kernel
theorem dX0_storeSack_26 : decode cX0_storeSack 26 = .ok (.iload 4, 2) := by decide +kernel
theorem dX0_storeSack_28 : decode cX0_storeSack 28 = .ok (.iload_n 3, 1) := by decide +kernel
theorem dX0_storeSack_29 : decode cX0_storeSack 29 = .ok (.iastore, 1) := by decide +kernel
theorem dX0_storeSack_30 : decode cX0_storeSack 30 = .ok (.aload_n 0, 1) := by decide +kernel
theorem dX0_storeSack_31 : decode cX0_storeSack 31 = .ok (.getfield 34, 3) := by decide +kernel
theorem dX0_storeSack_34 : decode cX0_storeSack 34 = .ok (.iload 4, 2) := by decide +kernel
theorem dX0_storeSack_36 : decode cX0_storeSack 36 = .ok (.iconst (-1), 1) := by decide +kernel
theorem dX0_storeSack_37 : decode cX0_storeSack 37 = .ok (.iastore, 1) := by decide +kernel
theorem dX0_storeSack_38 : decode cX0_storeSack 38 = .ok (.aload_n 0, 1) := by decide +kernel
theorem dX0_storeSack_39 : decode cX0_storeSack 39 = .ok (.getfield 37, 3) := by decide +kernel
theorem dX0_storeSack_42 : decode cX0_storeSack 42 = .ok (.iload 4, 2) := by decide +kernel
theorem dX0_storeSack_44 : decode cX0_storeSack 44 = .ok (.iconst (-1), 1) := by decide +kernel
theorem dX0_storeSack_45 : decode cX0_storeSack 45 = .ok (.iastore, 1) := by decide +kernel
theorem dX0_storeSack_46 : decode cX0_storeSack 46 = .ok (.aload_n 0, 1) := by decide +kernel
theorem dX0_storeSack_47 : decode cX0_storeSack 47 = .ok (.iload 4, 2) := by decide +kernel
theorem dX0_storeSack_49 : decode cX0_storeSack 49 = .ok (.iconst 1, 1) := by decide +kernel
theorem dX0_storeSack_50 : decode cX0_storeSack 50 = .ok (.iadd, 1) := by decide +kernel
theorem dX0_storeSack_51 : decode cX0_storeSack 51 = .ok (.putfield 47, 3) := by decide +kernel
theorem dX0_storeSack_54 : decode cX0_storeSack 54 = .ok (.iload 4, 2) := by decide +kernel
theorem dX0_storeSack_56 : decode cX0_storeSack 56 = .ok (.ireturn, 1) := by decide +kernel
set_option maxRecDepth 20000 in
theorem ggX0_run_X0_takeOffUnwanted : GoodIn wsX0_run wsX0_takeOffUnwanted := goodIn_r _ [9, 10, 11, 12, 13, 14, 8, 15, 3, 16, 17, 18, 19, 20, 21, 22, 23, 24, 25, 26, 27, 28, 29, 30, 31, 65, 66, 67, 68, 69, 70, 71, 72, 73, 74, 75, 76, 77, 78, 79, 80] (by decide +kernel) (by decide +kernel)
set_option maxRecDepth 20000 in
theorem gX0_run_X0_takeOffUnwanted : GoodIn wsX0_run (wsV RX0 67 RX0 yX0_takeOffUnwanted wsX0_takeOffUnwanted) := goodIn_app (goodIn_of _ (by decide +kernel)) ggX0_run_X0_takeOffUnwanted
set_option maxRecDepth 20000 in
theorem ggX0_run_X0_fillStones : GoodIn wsX0_run wsX0_fillStones := goodIn_r _ [35, 10, 11, 36, 31, 37, 38, 39, 40, 8, 41, 3, 16, 17, 18, 19, 20, 21, 22, 23, 24, 25, 26, 65, 66, 67, 68, 69, 70, 71, 72, 73, 74, 75, 76, 77, 78, 79, 80] (by decide +kernel) (by decide +kernel)
set_option maxRecDepth 20000 in
theorem gX0_run_X0_fillStones : GoodIn wsX0_run (wsV RX0 70 RX0 yX0_fillStones wsX0_fillStones) := goodIn_app (goodIn_of _ (by decide +kernel)) ggX0_run_X0_fillStones
set_option maxRecDepth 20000 in
theorem ggX0_run_X0_grind : GoodIn wsX0_run wsX0_grind := goodIn_r _ [45, 10, 11, 36, 46, 20, 47, 48, 49, 50, 51, 52, 53, 8, 54, 55, 1, 56, 57, 58, 59, 65, 66, 67, 68, 69, 70, 71, 72, 73, 74, 75, 76, 77, 78, 79, 80] (by decide +kernel) (by decide +kernel)
set_option maxRecDepth 20000 in
theorem gX0_run_X0_grind : GoodIn wsX0_run (wsV RX0 73 RX0 yX0_grind wsX0_grind) := goodIn_app (goodIn_of _ (by decide +kernel)) ggX0_run_X0_grind
set_option maxRecDepth 20000 in
theorem ggX0_run_X0_finishSacks : GoodIn wsX0_run wsX0_finishSacks := goodIn_r _ [63, 10, 11, 64, 1, 2, 16, 17, 18, 8, 19, 20, 27, 28, 29, 30, 31, 65, 66, 67, 68, 69, 70, 71, 72, 73, 74, 75, 76, 77, 78, 79, 80] (by decide +kernel) (by decide +kernel)
set_option maxRecDepth 20000 in
theorem gX0_run_X0_finishSacks : GoodIn wsX0_run (wsV RX0 77 RX0 yX0_finishSacks wsX0_finishSacks) := goodIn_app (goodIn_of _ (by decide +kernel)) ggX0_run_X0_finishSacks
theorem dX0_run_0 : decode cX0_run 0 = .ok (.aload_n 0, 1) := by decide +kernel
theorem dX0_run_1 : decode cX0_run 1 = .ok (.getfield 40, 3) := by decide +kernel
theorem dX0_run_4 : decode cX0_run 4 = .ok (.iload_n 1, 1) := by decide +kernel
theorem dX0_run_5 : decode cX0_run 5 = .ok (.iadd, 1) := by decide +kernel
theorem dX0_run_6 : decode cX0_run 6 = .ok (.istore_n 2, 1) := by decide +kernel
theorem dX0_run_7 : decode cX0_run 7 = .ok (.iconst 0, 1) := by decide +kernel
theorem dX0_run_8 : decode cX0_run 8 = .ok (.istore_n 3, 1) := by decide +kernel
theorem dX0_run_9 : decode cX0_run 9 = .ok (.iconst 0, 1) := by decide +kernel
theorem dX0_run_10 : decode cX0_run 10 = .ok (.istore 4, 2) := by decide +kernel
theorem dX0_run_12 : decode cX0_run 12 = .ok (.iload 4, 2) := by decide +kernel
theorem dX0_run_14 : decode cX0_run 14 = .ok (.iload_n 1, 1) := by decide +kernel
theorem dX0_run_15 : decode cX0_run 15 = .ok (.if_icmp .ge 56, 3) := by decide +kernel
theorem dX0_run_18 : decode cX0_run 18 = .ok (.aload_n 0, 1) := by decide +kernel
theorem dX0_run_19 : decode cX0_run 19 = .ok (.getfield 50, 3) := by decide +kernel
theorem dX0_run_22 : decode cX0_run 22 = .ok (.aload_n 0, 1) := by decide +kernel
theorem dX0_run_23 : decode cX0_run 23 = .ok (.getfield 47, 3) := by decide +kernel
theorem dX0_run_26 : decode cX0_run 26 = .ok (.if_icmp .ge 45, 3) := by decide +kernel
theorem dX0_run_29 : decode cX0_run 29 = .ok (.aload_n 0, 1) := by decide +kernel
theorem dX0_run_30 : decode cX0_run 30 = .ok (.getfield 59, 3) := by decide +kernel
theorem dX0_run_33 : decode cX0_run 33 = .ok (.ifCond .eq 7, 3) := by decide +kernel
theorem dX0_run_36 : decode cX0_run 36 = .ok (.aload_n 0, 1) := by decide +kernel
theorem dX0_run_37 : decode cX0_run 37 = .ok (.invokevirtual 67, 3) := by decide +kernel
theorem dX0_run_40 : decode cX0_run 40 = .ok (.aload_n 0, 1) := by decide +kernel
theorem dX0_run_41 : decode cX0_run 41 = .ok (.invokevirtual 70, 3) := by decide +kernel
theorem dX0_run_44 : decode cX0_run 44 = .ok (.iload_n 3, 1) := by decide +kernel
theorem dX0_run_45 : decode cX0_run 45 = .ok (.aload_n 0, 1) := by decide +kernel
theorem dX0_run_46 : decode cX0_run 46 = .ok (.invokevirtual 73, 3) := by decide +kernel
theorem dX0_run_49 : decode cX0_run 49 = .ok (.iadd, 1) := by decide +kernel
theorem dX0_run_50 : decode cX0_run 50 = .ok (.istore_n 3, 1) := by decide +kernel
theorem dX0_run_51 : decode cX0_run 51 = .ok (.aload_n 0, 1) := by decide +kernel
theorem dX0_run_52 : decode cX0_run 52 = .ok (.dup, 1) := by decide +kernel
theorem dX0_run_53 : decode cX0_run 53 = .ok (.getfield 40, 3) := by decide +kernel
theorem dX0_run_56 : decode cX0_run 56 = .ok (.iconst 1, 1) := by decide +kernel
theorem dX0_run_57 : decode cX0_run 57 = .ok (.iadd, 1) := by decide +kernel
theorem dX0_run_58 : decode cX0_run 58 = .ok (.putfield 40, 3) := by decide +kernel
theorem dX0_run_61 : decode cX0_run 61 = .ok (.aload_n 0, 1) := by decide +kernel
theorem dX0_run_62 : decode cX0_run 62 = .ok (.invokevirtual 77, 3) := by decide +kernel
theorem dX0_run_65 : decode cX0_run 65 = .ok (.iinc 4 1, 3) := by decide +kernel
theorem dX0_run_68 : decode cX0_run 68 = .ok (.goto (-56), 3) := by decide +kernel
theorem dX0_run_71 : decode cX0_run 71 = .ok (.aload_n 0, 1) := by decide +kernel
theorem dX0_run_72 : decode cX0_run 72 = .ok (.iload_n 2, 1) := by decide +kernel
theorem dX0_run_73 : decode cX0_run 73 = .ok (.putfield 40, 3) := by decide +kernel
theorem dX0_run_76 : decode cX0_run 76 = .ok (.iload_n 3, 1) := by decide +kernel
theorem dX0_run_77 : decode cX0_run 77 = .ok (.ireturn, 1) := by decide +kernel
set_option maxRecDepth 20000 in
theorem ggX0_takeOffUnwanted_X0_countAhead : GoodIn wsX0_takeOffUnwanted wsX0_countAhead := goodIn_r _ [7, 8, 9, 10, 11, 6, 12, 13, 14, 15, 16, 17, 18, 19, 25, 26, 27, 28, 29, 30, 31, 32, 33, 34, 35, 36, 37, 38, 39, 40] (by decide +kernel) (by decide +kernel)
set_option maxRecDepth 20000 in
theorem gX0_takeOffUnwanted_X0_countAhead : GoodIn wsX0_takeOffUnwanted (wsV RX0 80 RX0 yX0_countAhead wsX0_countAhead) := goodIn_app (goodIn_of _ (by decide +kernel)) ggX0_takeOffUnwanted_X0_countAhead
set_option maxRecDepth 20000 in
theorem ggX0_takeOffUnwanted_X0_clearStone : GoodIn wsX0_takeOffUnwanted wsX0_clearStone := goodIn_r _ [23, 2, 24, 25, 26, 27, 28, 29, 30, 31, 32, 33, 34, 35, 36, 37, 38, 39, 40] (by decide +kernel) (by decide +kernel)
set_option maxRecDepth 20000 in
theorem gX0_takeOffUnwanted_X0_clearStone : GoodIn wsX0_takeOffUnwanted (wsV RX0 84 RX0 yX0_clearStone wsX0_clearStone) := goodIn_app (goodIn_of _ (by decide +kernel)) ggX0_takeOffUnwanted_X0_clearStone
theorem dX0_takeOffUnwanted_0 : decode cX0_takeOffUnwanted 0 = .ok (.iconst 0, 1) := by decide +kernel
theorem dX0_takeOffUnwanted_1 : decode cX0_takeOffUnwanted 1 = .ok (.istore_n 1, 1) := by decide +kernel
theorem dX0_takeOffUnwanted_2 : decode cX0_takeOffUnwanted 2 = .ok (.iload_n 1, 1) := by decide +kernel
theorem dX0_takeOffUnwanted_3 : decode cX0_takeOffUnwanted 3 = .ok (.aload_n 0, 1) := by decide +kernel
theorem dX0_takeOffUnwanted_4 : decode cX0_takeOffUnwanted 4 = .ok (.getfield 44, 3) := by decide +kernel
theorem dX0_takeOffUnwanted_7 : decode cX0_takeOffUnwanted 7 = .ok (.if_icmp .ge 38, 3) := by decide +kernel
theorem dX0_takeOffUnwanted_10 : decode cX0_takeOffUnwanted 10 = .ok (.aload_n 0, 1) := by decide +kernel
theorem dX0_takeOffUnwanted_11 : decode cX0_takeOffUnwanted 11 = .ok (.getfield 18, 3) := by decide +kernel
theorem dX0_takeOffUnwanted_14 : decode cX0_takeOffUnwanted 14 = .ok (.iload_n 1, 1) := by decide +kernel
theorem dX0_takeOffUnwanted_15 : decode cX0_takeOffUnwanted 15 = .ok (.iaload, 1) := by decide +kernel
theorem dX0_takeOffUnwanted_16 : decode cX0_takeOffUnwanted 16 = .ok (.istore_n 2, 1) := by decide +kernel
theorem dX0_takeOffUnwanted_17 : decode cX0_takeOffUnwanted 17 = .ok (.iload_n 2, 1) := by decide +kernel
theorem dX0_takeOffUnwanted_18 : decode cX0_takeOffUnwanted 18 = .ok (.iconst (-1), 1) := by decide +kernel
theorem dX0_takeOffUnwanted_19 : decode cX0_takeOffUnwanted 19 = .ok (.if_icmp .eq 20, 3) := by decide +kernel
theorem dX0_takeOffUnwanted_22 : decode cX0_takeOffUnwanted 22 = .ok (.aload_n 0, 1) := by decide +kernel
theorem dX0_takeOffUnwanted_23 : decode cX0_takeOffUnwanted 23 = .ok (.iload_n 2, 1) := by decide +kernel
theorem dX0_takeOffUnwanted_24 : decode cX0_takeOffUnwanted 24 = .ok (.invokevirtual 80, 3) := by decide +kernel
theorem dX0_takeOffUnwanted_27 : decode cX0_takeOffUnwanted 27 = .ok (.aload_n 0, 1) := by decide +kernel
theorem dX0_takeOffUnwanted_28 : decode cX0_takeOffUnwanted 28 = .ok (.getfield 44, 3) := by decide +kernel
theorem dX0_takeOffUnwanted_31 : decode cX0_takeOffUnwanted 31 = .ok (.if_icmp .lt 8, 3) := by decide +kernel
theorem dX0_takeOffUnwanted_34 : decode cX0_takeOffUnwanted 34 = .ok (.aload_n 0, 1) := by decide +kernel
theorem dX0_takeOffUnwanted_35 : decode cX0_takeOffUnwanted 35 = .ok (.iload_n 1, 1) := by decide +kernel
theorem dX0_takeOffUnwanted_36 : decode cX0_takeOffUnwanted 36 = .ok (.invokevirtual 84, 3) := by decide +kernel
theorem dX0_takeOffUnwanted_39 : decode cX0_takeOffUnwanted 39 = .ok (.iinc 1 1, 3) := by decide +kernel
theorem dX0_takeOffUnwanted_42 : decode cX0_takeOffUnwanted 42 = .ok (.goto (-40), 3) := by decide +kernel
theorem dX0_takeOffUnwanted_45 : decode cX0_takeOffUnwanted 45 = .ok (.return_, 1) := by decide +kernel
set_option maxRecDepth 20000 in
theorem ggX0_fillStones_X0_firstByRule : GoodIn wsX0_fillStones wsX0_firstByRule := goodIn_r _ [10, 11, 4, 12, 13, 14, 9, 15, 16, 17, 18, 19, 20, 21, 22, 23, 24, 25, 26, 27, 28, 29, 30, 31, 32, 33, 34, 35, 36, 37, 38] (by decide +kernel) (by decide +kernel)
set_option maxRecDepth 20000 in
theorem gX0_fillStones_X0_firstByRule : GoodIn wsX0_fillStones (wsV RX0 88 RX0 yX0_firstByRule wsX0_firstByRule) := goodIn_app (goodIn_of _ (by decide +kernel)) ggX0_fillStones_X0_firstByRule
theorem dX0_fillStones_0 : decode cX0_fillStones 0 = .ok (.iconst 0, 1) := by decide +kernel
theorem dX0_fillStones_1 : decode cX0_fillStones 1 = .ok (.istore_n 1, 1) := by decide +kernel
theorem dX0_fillStones_2 : decode cX0_fillStones 2 = .ok (.iload_n 1, 1) := by decide +kernel
theorem dX0_fillStones_3 : decode cX0_fillStones 3 = .ok (.aload_n 0, 1) := by decide +kernel
theorem dX0_fillStones_4 : decode cX0_fillStones 4 = .ok (.getfield 44, 3) := by decide +kernel
theorem dX0_fillStones_7 : decode cX0_fillStones 7 = .ok (.if_icmp .ge 74, 3) := by decide +kernel
theorem dX0_fillStones_10 : decode cX0_fillStones 10 = .ok (.aload_n 0, 1) := by decide +kernel
theorem dX0_fillStones_11 : decode cX0_fillStones 11 = .ok (.getfield 18, 3) := by decide +kernel
theorem dX0_fillStones_14 : decode cX0_fillStones 14 = .ok (.iload_n 1, 1) := by decide +kernel
theorem dX0_fillStones_15 : decode cX0_fillStones 15 = .ok (.iaload, 1) := by decide +kernel
theorem dX0_fillStones_16 : decode cX0_fillStones 16 = .ok (.iconst (-1), 1) := by decide +kernel
theorem dX0_fillStones_17 : decode cX0_fillStones 17 = .ok (.if_icmp .ne 11, 3) := by decide +kernel
theorem dX0_fillStones_20 : decode cX0_fillStones 20 = .ok (.aload_n 0, 1) := by decide +kernel
theorem dX0_fillStones_21 : decode cX0_fillStones 21 = .ok (.iconst 1, 1) := by decide +kernel
theorem dX0_fillStones_22 : decode cX0_fillStones 22 = .ok (.invokevirtual 88, 3) := by decide +kernel
theorem dX0_fillStones_25 : decode cX0_fillStones 25 = .ok (.goto 4, 3) := by decide +kernel
theorem dX0_fillStones_28 : decode cX0_fillStones 28 = .ok (.iconst (-1), 1) := by decide +kernel
theorem dX0_fillStones_29 : decode cX0_fillStones 29 = .ok (.istore_n 2, 1) := by decide +kernel
theorem dX0_fillStones_30 : decode cX0_fillStones 30 = .ok (.aload_n 0, 1) := by decide +kernel
theorem dX0_fillStones_31 : decode cX0_fillStones 31 = .ok (.getfield 21, 3) := by decide +kernel
theorem dX0_fillStones_34 : decode cX0_fillStones 34 = .ok (.iload_n 1, 1) := by decide +kernel
theorem dX0_fillStones_35 : decode cX0_fillStones 35 = .ok (.iload_n 2, 1) := by decide +kernel
theorem dX0_fillStones_36 : decode cX0_fillStones 36 = .ok (.iconst (-1), 1) := by decide +kernel
theorem dX0_fillStones_37 : decode cX0_fillStones 37 = .ok (.if_icmp .eq 7, 3) := by decide +kernel
theorem dX0_fillStones_40 : decode cX0_fillStones 40 = .ok (.iconst 1, 1) := by decide +kernel
theorem dX0_fillStones_41 : decode cX0_fillStones 41 = .ok (.goto 4, 3) := by decide +kernel
theorem dX0_fillStones_44 : decode cX0_fillStones 44 = .ok (.iconst 0, 1) := by decide +kernel
theorem dX0_fillStones_45 : decode cX0_fillStones 45 = .ok (.bastore, 1) := by decide +kernel
theorem dX0_fillStones_46 : decode cX0_fillStones 46 = .ok (.iload_n 2, 1) := by decide +kernel
theorem dX0_fillStones_47 : decode cX0_fillStones 47 = .ok (.iconst (-1), 1) := by decide +kernel
theorem dX0_fillStones_48 : decode cX0_fillStones 48 = .ok (.if_icmp .eq 27, 3) := by decide +kernel
theorem dX0_fillStones_51 : decode cX0_fillStones 51 = .ok (.aload_n 0, 1) := by decide +kernel
theorem dX0_fillStones_52 : decode cX0_fillStones 52 = .ok (.getfield 18, 3) := by decide +kernel
theorem dX0_fillStones_55 : decode cX0_fillStones 55 = .ok (.iload_n 1, 1) := by decide +kernel
theorem dX0_fillStones_56 : decode cX0_fillStones 56 = .ok (.iload_n 2, 1) := by decide +kernel
theorem dX0_fillStones_57 : decode cX0_fillStones 57 = .ok (.iastore, 1) := by decide +kernel
theorem dX0_fillStones_58 : decode cX0_fillStones 58 = .ok (.aload_n 0, 1) := by decide +kernel
theorem dX0_fillStones_59 : decode cX0_fillStones 59 = .ok (.getfield 34, 3) := by decide +kernel
theorem dX0_fillStones_62 : decode cX0_fillStones 62 = .ok (.iload_n 2, 1) := by decide +kernel
theorem dX0_fillStones_63 : decode cX0_fillStones 63 = .ok (.iload_n 1, 1) := by decide +kernel
theorem dX0_fillStones_64 : decode cX0_fillStones 64 = .ok (.iastore, 1) := by decide +kernel
theorem dX0_fillStones_65 : decode cX0_fillStones 65 = .ok (.aload_n 0, 1) := by decide +kernel
theorem dX0_fillStones_66 : decode cX0_fillStones 66 = .ok (.dup, 1) := by decide +kernel
theorem dX0_fillStones_67 : decode cX0_fillStones 67 = .ok (.getfield 53, 3) := by decide +kernel
theorem dX0_fillStones_70 : decode cX0_fillStones 70 = .ok (.iconst 1, 1) := by decide +kernel
theorem dX0_fillStones_71 : decode cX0_fillStones 71 = .ok (.iadd, 1) := by decide +kernel
theorem dX0_fillStones_72 : decode cX0_fillStones 72 = .ok (.putfield 53, 3) := by decide +kernel
theorem dX0_fillStones_75 : decode cX0_fillStones 75 = .ok (.iinc 1 1, 3) := by decide +kernel
theorem dX0_fillStones_78 : decode cX0_fillStones 78 = .ok (.goto (-76), 3) := by decide +kernel
theorem dX0_fillStones_81 : decode cX0_fillStones 81 = .ok (.return_, 1) := by decide +kernel
set_option maxRecDepth 20000 in
theorem ggX0_grind_X0_windOfHour : GoodIn wsX0_grind wsX0_windOfHour := goodIn_r _ [14, 15, 16, 17, 18, 19, 20, 21, 22, 23, 24, 25, 26, 27, 28, 29, 30, 31, 32, 33, 34, 35, 36] (by decide +kernel) (by decide +kernel)
set_option maxRecDepth 20000 in
theorem gX0_grind_X0_windOfHour : GoodIn wsX0_grind (wsV RX0 92 RX0 yX0_windOfHour wsX0_windOfHour) := goodIn_app (goodIn_of _ (by decide +kernel)) ggX0_grind_X0_windOfHour
theorem dX0_grind_0 : decode cX0_grind 0 = .ok (.aload_n 0, 1) := by decide +kernel
theorem dX0_grind_1 : decode cX0_grind 1 = .ok (.invokevirtual 92, 3) := by decide +kernel
theorem dX0_grind_4 : decode cX0_grind 4 = .ok (.istore_n 1, 1) := by decide +kernel
theorem dX0_grind_5 : decode cX0_grind 5 = .ok (.iconst 0, 1) := by decide +kernel
theorem dX0_grind_6 : decode cX0_grind 6 = .ok (.istore_n 2, 1) := by decide +kernel
theorem dX0_grind_7 : decode cX0_grind 7 = .ok (.iconst 0, 1) := by decide +kernel
theorem dX0_grind_8 : decode cX0_grind 8 = .ok (.istore_n 3, 1) := by decide +kernel
theorem dX0_grind_9 : decode cX0_grind 9 = .ok (.iload_n 3, 1) := by decide +kernel
theorem dX0_grind_10 : decode cX0_grind 10 = .ok (.aload_n 0, 1) := by decide +kernel
theorem dX0_grind_11 : decode cX0_grind 11 = .ok (.getfield 44, 3) := by decide +kernel
theorem dX0_grind_14 : decode cX0_grind 14 = .ok (.if_icmp .ge 88, 3) := by decide +kernel
theorem dX0_grind_17 : decode cX0_grind 17 = .ok (.aload_n 0, 1) := by decide +kernel
theorem dX0_grind_18 : decode cX0_grind 18 = .ok (.getfield 18, 3) := by decide +kernel
theorem dX0_grind_21 : decode cX0_grind 21 = .ok (.iload_n 3, 1) := by decide +kernel
theorem dX0_grind_22 : decode cX0_grind 22 = .ok (.iaload, 1) := by decide +kernel
theorem dX0_grind_23 : decode cX0_grind 23 = .ok (.istore 4, 2) := by decide +kernel
theorem dX0_grind_25 : decode cX0_grind 25 = .ok (.iload 4, 2) := by decide +kernel
theorem dX0_grind_27 : decode cX0_grind 27 = .ok (.iconst (-1), 1) := by decide +kernel
theorem dX0_grind_28 : decode cX0_grind 28 = .ok (.if_icmp .eq 68, 3) := by decide +kernel
theorem dX0_grind_31 : decode cX0_grind 31 = .ok (.aload_n 0, 1) := by decide +kernel
theorem dX0_grind_32 : decode cX0_grind 32 = .ok (.getfield 21, 3) := by decide +kernel
theorem dX0_grind_35 : decode cX0_grind 35 = .ok (.iload_n 3, 1) := by decide +kernel
theorem dX0_grind_36 : decode cX0_grind 36 = .ok (.baload, 1) := by decide +kernel
theorem dX0_grind_37 : decode cX0_grind 37 = .ok (.ifCond .eq 14, 3) := by decide +kernel
theorem dX0_grind_40 : decode cX0_grind 40 = .ok (.aload_n 0, 1) := by decide +kernel
theorem dX0_grind_41 : decode cX0_grind 41 = .ok (.getfield 15, 3) := by decide +kernel
theorem dX0_grind_44 : decode cX0_grind 44 = .ok (.iload_n 3, 1) := by decide +kernel
theorem dX0_grind_45 : decode cX0_grind 45 = .ok (.iaload, 1) := by decide +kernel
theorem dX0_grind_46 : decode cX0_grind 46 = .ok (.iconst 1, 1) := by decide +kernel
theorem dX0_grind_47 : decode cX0_grind 47 = .ok (.isub, 1) := by decide +kernel
theorem dX0_grind_48 : decode cX0_grind 48 = .ok (.goto 9, 3) := by decide +kernel
theorem dX0_grind_51 : decode cX0_grind 51 = .ok (.aload_n 0, 1) := by decide +kernel
theorem dX0_grind_52 : decode cX0_grind 52 = .ok (.getfield 15, 3) := by decide +kernel
theorem dX0_grind_55 : decode cX0_grind 55 = .ok (.iload_n 3, 1) := by decide +kernel
theorem dX0_grind_56 : decode cX0_grind 56 = .ok (.iaload, 1) := by decide +kernel
theorem dX0_grind_57 : decode cX0_grind 57 = .ok (.istore 5, 2) := by decide +kernel
theorem dX0_grind_59 : decode cX0_grind 59 = .ok (.iload 5, 2) := by decide +kernel
theorem dX0_grind_61 : decode cX0_grind 61 = .ok (.aload_n 0, 1) := by decide +kernel
theorem dX0_grind_62 : decode cX0_grind 62 = .ok (.getfield 28, 3) := by decide +kernel
theorem dX0_grind_65 : decode cX0_grind 65 = .ok (.iload 4, 2) := by decide +kernel
theorem dX0_grind_67 : decode cX0_grind 67 = .ok (.iaload, 1) := by decide +kernel
theorem dX0_grind_68 : decode cX0_grind 68 = .ok (.iload_n 1, 1) := by decide +kernel
theorem dX0_grind_69 : decode cX0_grind 69 = .ok (.iload_n 2, 1) := by decide +kernel
theorem dX0_grind_70 : decode cX0_grind 70 = .ok (.isub, 1) := by decide +kernel
theorem dX0_grind_71 : decode cX0_grind 71 = .ok (.invokestatic 95, 3) := by decide +kernel
theorem dX0_grind_74 : decode cX0_grind 74 = .ok (.invokestatic 95, 3) := by decide +kernel
theorem dX0_grind_77 : decode cX0_grind 77 = .ok (.istore 6, 2) := by decide +kernel
theorem dX0_grind_79 : decode cX0_grind 79 = .ok (.aload_n 0, 1) := by decide +kernel
theorem dX0_grind_80 : decode cX0_grind 80 = .ok (.getfield 28, 3) := by decide +kernel
theorem dX0_grind_83 : decode cX0_grind 83 = .ok (.iload 4, 2) := by decide +kernel
theorem dX0_grind_85 : decode cX0_grind 85 = .ok (.dup2, 1) := by decide +kernel
theorem dX0_grind_86 : decode cX0_grind 86 = .ok (.iaload, 1) := by decide +kernel
theorem dX0_grind_87 : decode cX0_grind 87 = .ok (.iload 6, 2) := by decide +kernel
theorem dX0_grind_89 : decode cX0_grind 89 = .ok (.isub, 1) := by decide +kernel
theorem dX0_grind_90 : decode cX0_grind 90 = .ok (.iastore, 1) := by decide +kernel
theorem dX0_grind_91 : decode cX0_grind 91 = .ok (.iload_n 2, 1) := by decide +kernel
theorem dX0_grind_92 : decode cX0_grind 92 = .ok (.iload 6, 2) := by decide +kernel
theorem dX0_grind_94 : decode cX0_grind 94 = .ok (.iadd, 1) := by decide +kernel
theorem dX0_grind_95 : decode cX0_grind 95 = .ok (.istore_n 2, 1) := by decide +kernel
theorem dX0_grind_96 : decode cX0_grind 96 = .ok (.iinc 3 1, 3) := by decide +kernel
theorem dX0_grind_99 : decode cX0_grind 99 = .ok (.goto (-90), 3) := by decide +kernel
theorem dX0_grind_102 : decode cX0_grind 102 = .ok (.iload_n 2, 1) := by decide +kernel
theorem dX0_grind_103 : decode cX0_grind 103 = .ok (.ireturn, 1) := by decide +kernel
set_option maxRecDepth 20000 in
theorem ggX0_finishSacks_X0_isGround : GoodIn wsX0_finishSacks wsX0_isGround := goodIn_r _ [10, 11, 17, 18, 19, 20, 21, 22, 23, 24, 25, 26, 27, 28, 29, 30, 31, 32] (by decide +kernel) (by decide +kernel)
set_option maxRecDepth 20000 in
theorem gX0_finishSacks_X0_isGround : GoodIn wsX0_finishSacks (wsV RX0 101 RX0 yX0_isGround wsX0_isGround) := goodIn_app (goodIn_of _ (by decide +kernel)) ggX0_finishSacks_X0_isGround
set_option maxRecDepth 20000 in
theorem ggX0_finishSacks_X0_clearStone : GoodIn wsX0_finishSacks wsX0_clearStone := goodIn_r _ [15, 2, 16, 17, 18, 19, 20, 21, 22, 23, 24, 25, 26, 27, 28, 29, 30, 31, 32] (by decide +kernel) (by decide +kernel)
set_option maxRecDepth 20000 in
theorem gX0_finishSacks_X0_clearStone : GoodIn wsX0_finishSacks (wsV RX0 84 RX0 yX0_clearStone wsX0_clearStone) := goodIn_app (goodIn_of _ (by decide +kernel)) ggX0_finishSacks_X0_clearStone
theorem dX0_finishSacks_0 : decode cX0_finishSacks 0 = .ok (.iconst 0, 1) := by decide +kernel
theorem dX0_finishSacks_1 : decode cX0_finishSacks 1 = .ok (.istore_n 1, 1) := by decide +kernel
theorem dX0_finishSacks_2 : decode cX0_finishSacks 2 = .ok (.iload_n 1, 1) := by decide +kernel
theorem dX0_finishSacks_3 : decode cX0_finishSacks 3 = .ok (.aload_n 0, 1) := by decide +kernel
theorem dX0_finishSacks_4 : decode cX0_finishSacks 4 = .ok (.getfield 44, 3) := by decide +kernel
theorem dX0_finishSacks_7 : decode cX0_finishSacks 7 = .ok (.if_icmp .ge 54, 3) := by decide +kernel
theorem dX0_finishSacks_10 : decode cX0_finishSacks 10 = .ok (.aload_n 0, 1) := by decide +kernel
theorem dX0_finishSacks_11 : decode cX0_finishSacks 11 = .ok (.getfield 18, 3) := by decide +kernel
theorem dX0_finishSacks_14 : decode cX0_finishSacks 14 = .ok (.iload_n 1, 1) := by decide +kernel
theorem dX0_finishSacks_15 : decode cX0_finishSacks 15 = .ok (.iaload, 1) := by decide +kernel
theorem dX0_finishSacks_16 : decode cX0_finishSacks 16 = .ok (.istore_n 2, 1) := by decide +kernel
theorem dX0_finishSacks_17 : decode cX0_finishSacks 17 = .ok (.iload_n 2, 1) := by decide +kernel
theorem dX0_finishSacks_18 : decode cX0_finishSacks 18 = .ok (.iconst (-1), 1) := by decide +kernel
theorem dX0_finishSacks_19 : decode cX0_finishSacks 19 = .ok (.if_icmp .eq 36, 3) := by decide +kernel
theorem dX0_finishSacks_22 : decode cX0_finishSacks 22 = .ok (.aload_n 0, 1) := by decide +kernel
theorem dX0_finishSacks_23 : decode cX0_finishSacks 23 = .ok (.iload_n 2, 1) := by decide +kernel
theorem dX0_finishSacks_24 : decode cX0_finishSacks 24 = .ok (.invokevirtual 101, 3) := by decide +kernel
theorem dX0_finishSacks_27 : decode cX0_finishSacks 27 = .ok (.ifCond .eq 28, 3) := by decide +kernel
theorem dX0_finishSacks_30 : decode cX0_finishSacks 30 = .ok (.aload_n 0, 1) := by decide +kernel
theorem dX0_finishSacks_31 : decode cX0_finishSacks 31 = .ok (.getfield 37, 3) := by decide +kernel
theorem dX0_finishSacks_34 : decode cX0_finishSacks 34 = .ok (.iload_n 2, 1) := by decide +kernel
theorem dX0_finishSacks_35 : decode cX0_finishSacks 35 = .ok (.aload_n 0, 1) := by decide +kernel
theorem dX0_finishSacks_36 : decode cX0_finishSacks 36 = .ok (.getfield 40, 3) := by decide +kernel
theorem dX0_finishSacks_39 : decode cX0_finishSacks 39 = .ok (.iastore, 1) := by decide +kernel
theorem dX0_finishSacks_40 : decode cX0_finishSacks 40 = .ok (.aload_n 0, 1) := by decide +kernel
theorem dX0_finishSacks_41 : decode cX0_finishSacks 41 = .ok (.dup, 1) := by decide +kernel
theorem dX0_finishSacks_42 : decode cX0_finishSacks 42 = .ok (.getfield 50, 3) := by decide +kernel
theorem dX0_finishSacks_45 : decode cX0_finishSacks 45 = .ok (.iconst 1, 1) := by decide +kernel
theorem dX0_finishSacks_46 : decode cX0_finishSacks 46 = .ok (.iadd, 1) := by decide +kernel
theorem dX0_finishSacks_47 : decode cX0_finishSacks 47 = .ok (.putfield 50, 3) := by decide +kernel
theorem dX0_finishSacks_50 : decode cX0_finishSacks 50 = .ok (.aload_n 0, 1) := by decide +kernel
theorem dX0_finishSacks_51 : decode cX0_finishSacks 51 = .ok (.iload_n 1, 1) := by decide +kernel
theorem dX0_finishSacks_52 : decode cX0_finishSacks 52 = .ok (.invokevirtual 84, 3) := by decide +kernel
theorem dX0_finishSacks_55 : decode cX0_finishSacks 55 = .ok (.iinc 1 1, 3) := by decide +kernel
theorem dX0_finishSacks_58 : decode cX0_finishSacks 58 = .ok (.goto (-56), 3) := by decide +kernel
theorem dX0_finishSacks_61 : decode cX0_finishSacks 61 = .ok (.return_, 1) := by decide +kernel
theorem dX0_clearStone_0 : decode cX0_clearStone 0 = .ok (.aload_n 0, 1) := by decide +kernel
theorem dX0_clearStone_1 : decode cX0_clearStone 1 = .ok (.getfield 18, 3) := by decide +kernel
theorem dX0_clearStone_4 : decode cX0_clearStone 4 = .ok (.iload_n 1, 1) := by decide +kernel
theorem dX0_clearStone_5 : decode cX0_clearStone 5 = .ok (.iaload, 1) := by decide +kernel
theorem dX0_clearStone_6 : decode cX0_clearStone 6 = .ok (.istore_n 2, 1) := by decide +kernel
theorem dX0_clearStone_7 : decode cX0_clearStone 7 = .ok (.iload_n 2, 1) := by decide +kernel
theorem dX0_clearStone_8 : decode cX0_clearStone 8 = .ok (.iconst (-1), 1) := by decide +kernel
theorem dX0_clearStone_9 : decode cX0_clearStone 9 = .ok (.if_icmp .eq 17, 3) := by decide +kernel
theorem dX0_clearStone_12 : decode cX0_clearStone 12 = .ok (.aload_n 0, 1) := by decide +kernel
theorem dX0_clearStone_13 : decode cX0_clearStone 13 = .ok (.getfield 34, 3) := by decide +kernel
theorem dX0_clearStone_16 : decode cX0_clearStone 16 = .ok (.iload_n 2, 1) := by decide +kernel
theorem dX0_clearStone_17 : decode cX0_clearStone 17 = .ok (.iconst (-1), 1) := by decide +kernel
theorem dX0_clearStone_18 : decode cX0_clearStone 18 = .ok (.iastore, 1) := by decide +kernel
theorem dX0_clearStone_19 : decode cX0_clearStone 19 = .ok (.aload_n 0, 1) := by decide +kernel
theorem dX0_clearStone_20 : decode cX0_clearStone 20 = .ok (.getfield 18, 3) := by decide +kernel
theorem dX0_clearStone_23 : decode cX0_clearStone 23 = .ok (.iload_n 1, 1) := by decide +kernel
theorem dX0_clearStone_24 : decode cX0_clearStone 24 = .ok (.iconst (-1), 1) := by decide +kernel
theorem dX0_clearStone_25 : decode cX0_clearStone 25 = .ok (.iastore, 1) := by decide +kernel
theorem dX0_clearStone_26 : decode cX0_clearStone 26 = .ok (.return_, 1) := by decide +kernel
set_option maxRecDepth 20000 in
theorem ggX0_windOfHour_J9_floorMod_7cf53 : GoodIn wsX0_windOfHour wsJ9_floorMod_7cf53 := goodIn_r _ [6] (by decide +kernel) (by decide +kernel)
set_option maxRecDepth 20000 in
theorem gX0_windOfHour_J9_floorMod_7cf53 : GoodIn wsX0_windOfHour (va_wsS RX0 105 yJ9_floorMod_7cf53 wsJ9_floorMod_7cf53) := goodIn_app (goodIn_of _ (by decide +kernel)) ggX0_windOfHour_J9_floorMod_7cf53
theorem dX0_windOfHour_0 : decode cX0_windOfHour 0 = .ok (.aload_n 0, 1) := by decide +kernel
theorem dX0_windOfHour_1 : decode cX0_windOfHour 1 = .ok (.getfield 9, 3) := by decide +kernel
theorem dX0_windOfHour_4 : decode cX0_windOfHour 4 = .ok (.aload_n 0, 1) := by decide +kernel
theorem dX0_windOfHour_5 : decode cX0_windOfHour 5 = .ok (.getfield 40, 3) := by decide +kernel
theorem dX0_windOfHour_8 : decode cX0_windOfHour 8 = .ok (.bipush 12, 2) := by decide +kernel
theorem dX0_windOfHour_10 : decode cX0_windOfHour 10 = .ok (.invokestatic 105, 3) := by decide +kernel
theorem dX0_windOfHour_13 : decode cX0_windOfHour 13 = .ok (.iaload, 1) := by decide +kernel
theorem dX0_windOfHour_14 : decode cX0_windOfHour 14 = .ok (.ireturn, 1) := by decide +kernel
theorem dX0_isGround_0 : decode cX0_isGround 0 = .ok (.aload_n 0, 1) := by decide +kernel
theorem dX0_isGround_1 : decode cX0_isGround 1 = .ok (.getfield 28, 3) := by decide +kernel
theorem dX0_isGround_4 : decode cX0_isGround 4 = .ok (.iload_n 1, 1) := by decide +kernel
theorem dX0_isGround_5 : decode cX0_isGround 5 = .ok (.iaload, 1) := by decide +kernel
theorem dX0_isGround_6 : decode cX0_isGround 6 = .ok (.ifCond .ne 7, 3) := by decide +kernel
theorem dX0_isGround_9 : decode cX0_isGround 9 = .ok (.iconst 1, 1) := by decide +kernel
theorem dX0_isGround_10 : decode cX0_isGround 10 = .ok (.goto 4, 3) := by decide +kernel
theorem dX0_isGround_13 : decode cX0_isGround 13 = .ok (.iconst 0, 1) := by decide +kernel
theorem dX0_isGround_14 : decode cX0_isGround 14 = .ok (.ireturn, 1) := by decide +kernel
set_option maxRecDepth 20000 in
theorem ggX0_firstByRule_X0_isGround : GoodIn wsX0_firstByRule wsX0_isGround := goodIn_r _ [7, 8, 15, 16, 17, 18, 19, 20, 21, 22, 23, 24, 25, 26, 27, 28, 29, 30] (by decide +kernel) (by decide +kernel)
set_option maxRecDepth 20000 in
theorem gX0_firstByRule_X0_isGround : GoodIn wsX0_firstByRule (wsV RX0 101 RX0 yX0_isGround wsX0_isGround) := goodIn_app (goodIn_of _ (by decide +kernel)) ggX0_firstByRule_X0_isGround
set_option maxRecDepth 20000 in
theorem ggX0_firstByRule_X0_isAhead : GoodIn wsX0_firstByRule wsX0_isAhead := goodIn_r _ [12, 13, 14, 8, 15, 16, 17, 18, 19, 20, 21, 22, 23, 24, 25, 26, 27, 28, 29, 30] (by decide +kernel) (by decide +kernel)
set_option maxRecDepth 20000 in
theorem gX0_firstByRule_X0_isAhead : GoodIn wsX0_firstByRule (wsV RX0 108 RX0 yX0_isAhead wsX0_isAhead) := goodIn_app (goodIn_of _ (by decide +kernel)) ggX0_firstByRule_X0_isAhead
theorem dX0_firstByRule_0 : decode cX0_firstByRule 0 = .ok (.iconst (-1), 1) := by decide +kernel
theorem dX0_firstByRule_1 : decode cX0_firstByRule 1 = .ok (.istore_n 2, 1) := by decide +kernel
theorem dX0_firstByRule_2 : decode cX0_firstByRule 2 = .ok (.iconst 0, 1) := by decide +kernel
theorem dX0_firstByRule_3 : decode cX0_firstByRule 3 = .ok (.istore_n 3, 1) := by decide +kernel
theorem dX0_firstByRule_4 : decode cX0_firstByRule 4 = .ok (.iload_n 3, 1) := by decide +kernel
theorem dX0_firstByRule_5 : decode cX0_firstByRule 5 = .ok (.aload_n 0, 1) := by decide +kernel
theorem dX0_firstByRule_6 : decode cX0_firstByRule 6 = .ok (.getfield 47, 3) := by decide +kernel
theorem dX0_firstByRule_9 : decode cX0_firstByRule 9 = .ok (.if_icmp .ge 59, 3) := by decide +kernel
theorem dX0_firstByRule_12 : decode cX0_firstByRule 12 = .ok (.aload_n 0, 1) := by decide +kernel
theorem dX0_firstByRule_13 : decode cX0_firstByRule 13 = .ok (.iload_n 3, 1) := by decide +kernel
theorem dX0_firstByRule_14 : decode cX0_firstByRule 14 = .ok (.invokevirtual 101, 3) := by decide +kernel
theorem dX0_firstByRule_17 : decode cX0_firstByRule 17 = .ok (.ifCond .ne 21, 3) := by decide +kernel
theorem dX0_firstByRule_20 : decode cX0_firstByRule 20 = .ok (.iload_n 1, 1) := by decide +kernel
theorem dX0_firstByRule_21 : decode cX0_firstByRule 21 = .ok (.ifCond .eq 13, 3) := by decide +kernel
theorem dX0_firstByRule_24 : decode cX0_firstByRule 24 = .ok (.aload_n 0, 1) := by decide +kernel
theorem dX0_firstByRule_25 : decode cX0_firstByRule 25 = .ok (.getfield 34, 3) := by decide +kernel
theorem dX0_firstByRule_28 : decode cX0_firstByRule 28 = .ok (.iload_n 3, 1) := by decide +kernel
theorem dX0_firstByRule_29 : decode cX0_firstByRule 29 = .ok (.iaload, 1) := by decide +kernel
theorem dX0_firstByRule_30 : decode cX0_firstByRule 30 = .ok (.iconst (-1), 1) := by decide +kernel
theorem dX0_firstByRule_31 : decode cX0_firstByRule 31 = .ok (.if_icmp .ne 7, 3) := by decide +kernel
theorem dX0_firstByRule_34 : decode cX0_firstByRule 34 = .ok (.iconst 1, 1) := by decide +kernel
theorem dX0_firstByRule_35 : decode cX0_firstByRule 35 = .ok (.goto 4, 3) := by decide +kernel
theorem dX0_firstByRule_38 : decode cX0_firstByRule 38 = .ok (.iconst 0, 1) := by decide +kernel
theorem dX0_firstByRule_39 : decode cX0_firstByRule 39 = .ok (.istore 4, 2) := by decide +kernel
theorem dX0_firstByRule_41 : decode cX0_firstByRule 41 = .ok (.iload 4, 2) := by decide +kernel
theorem dX0_firstByRule_43 : decode cX0_firstByRule 43 = .ok (.ifCond .eq 19, 3) := by decide +kernel
theorem dX0_firstByRule_46 : decode cX0_firstByRule 46 = .ok (.iload_n 2, 1) := by decide +kernel
theorem dX0_firstByRule_47 : decode cX0_firstByRule 47 = .ok (.iconst (-1), 1) := by decide +kernel
theorem dX0_firstByRule_48 : decode cX0_firstByRule 48 = .ok (.if_icmp .eq 12, 3) := by decide +kernel
theorem dX0_firstByRule_51 : decode cX0_firstByRule 51 = .ok (.aload_n 0, 1) := by decide +kernel
theorem dX0_firstByRule_52 : decode cX0_firstByRule 52 = .ok (.iload_n 3, 1) := by decide +kernel
theorem dX0_firstByRule_53 : decode cX0_firstByRule 53 = .ok (.iload_n 2, 1) := by decide +kernel
theorem dX0_firstByRule_54 : decode cX0_firstByRule 54 = .ok (.invokevirtual 108, 3) := by decide +kernel
theorem dX0_firstByRule_57 : decode cX0_firstByRule 57 = .ok (.ifCond .eq 5, 3) := by decide +kernel
theorem dX0_firstByRule_60 : decode cX0_firstByRule 60 = .ok (.iload_n 3, 1) := by decide +kernel
theorem dX0_firstByRule_61 : decode cX0_firstByRule 61 = .ok (.istore_n 2, 1) := by decide +kernel
theorem dX0_firstByRule_62 : decode cX0_firstByRule 62 = .ok (.iinc 3 1, 3) := by decide +kernel
theorem dX0_firstByRule_65 : decode cX0_firstByRule 65 = .ok (.goto (-61), 3) := by decide +kernel
theorem dX0_firstByRule_68 : decode cX0_firstByRule 68 = .ok (.iload_n 2, 1) := by decide +kernel
theorem dX0_firstByRule_69 : decode cX0_firstByRule 69 = .ok (.ireturn, 1) := by decide +kernel
set_option maxRecDepth 20000 in
theorem ggX0_countAhead_X0_isGround : GoodIn wsX0_countAhead wsX0_isGround := goodIn_r _ [6, 7, 14, 15, 16, 17, 18, 19, 20, 21, 22, 23, 24, 25, 26, 27, 28, 29] (by decide +kernel) (by decide +kernel)
set_option maxRecDepth 20000 in
theorem gX0_countAhead_X0_isGround : GoodIn wsX0_countAhead (wsV RX0 101 RX0 yX0_isGround wsX0_isGround) := goodIn_app (goodIn_of _ (by decide +kernel)) ggX0_countAhead_X0_isGround
set_option maxRecDepth 20000 in
theorem ggX0_countAhead_X0_isAhead : GoodIn wsX0_countAhead wsX0_isAhead := goodIn_r _ [11, 12, 13, 7, 14, 15, 16, 17, 18, 19, 20, 21, 22, 23, 24, 25, 26, 27, 28, 29] (by decide +kernel) (by decide +kernel)
set_option maxRecDepth 20000 in
theorem gX0_countAhead_X0_isAhead : GoodIn wsX0_countAhead (wsV RX0 108 RX0 yX0_isAhead wsX0_isAhead) := goodIn_app (goodIn_of _ (by decide +kernel)) ggX0_countAhead_X0_isAhead
theorem dX0_countAhead_0 : decode cX0_countAhead 0 = .ok (.iconst 0, 1) := by decide +kernel
theorem dX0_countAhead_1 : decode cX0_countAhead 1 = .ok (.istore_n 2, 1) := by decide +kernel
theorem dX0_countAhead_2 : decode cX0_countAhead 2 = .ok (.iconst 0, 1) := by decide +kernel
theorem dX0_countAhead_3 : decode cX0_countAhead 3 = .ok (.istore_n 3, 1) := by decide +kernel
theorem dX0_countAhead_4 : decode cX0_countAhead 4 = .ok (.iload_n 3, 1) := by decide +kernel
theorem dX0_countAhead_5 : decode cX0_countAhead 5 = .ok (.aload_n 0, 1) := by decide +kernel
theorem dX0_countAhead_6 : decode cX0_countAhead 6 = .ok (.getfield 47, 3) := by decide +kernel
theorem dX0_countAhead_9 : decode cX0_countAhead 9 = .ok (.if_icmp .ge 29, 3) := by decide +kernel
theorem dX0_countAhead_12 : decode cX0_countAhead 12 = .ok (.aload_n 0, 1) := by decide +kernel
theorem dX0_countAhead_13 : decode cX0_countAhead 13 = .ok (.iload_n 3, 1) := by decide +kernel
theorem dX0_countAhead_14 : decode cX0_countAhead 14 = .ok (.invokevirtual 101, 3) := by decide +kernel
theorem dX0_countAhead_17 : decode cX0_countAhead 17 = .ok (.ifCond .ne 15, 3) := by decide +kernel
theorem dX0_countAhead_20 : decode cX0_countAhead 20 = .ok (.aload_n 0, 1) := by decide +kernel
theorem dX0_countAhead_21 : decode cX0_countAhead 21 = .ok (.iload_n 3, 1) := by decide +kernel
theorem dX0_countAhead_22 : decode cX0_countAhead 22 = .ok (.iload_n 1, 1) := by decide +kernel
theorem dX0_countAhead_23 : decode cX0_countAhead 23 = .ok (.invokevirtual 108, 3) := by decide +kernel
theorem dX0_countAhead_26 : decode cX0_countAhead 26 = .ok (.ifCond .eq 6, 3) := by decide +kernel
theorem dX0_countAhead_29 : decode cX0_countAhead 29 = .ok (.iinc 2 1, 3) := by decide +kernel
theorem dX0_countAhead_32 : decode cX0_countAhead 32 = .ok (.iinc 3 1, 3) := by decide +kernel
theorem dX0_countAhead_35 : decode cX0_countAhead 35 = .ok (.goto (-31), 3) := by decide +kernel
theorem dX0_countAhead_38 : decode cX0_countAhead 38 = .ok (.iload_n 2, 1) := by decide +kernel
theorem dX0_countAhead_39 : decode cX0_countAhead 39 = .ok (.ireturn, 1) := by decide +kernel
theorem dX0_isAhead_0 : decode cX0_isAhead 0 = .ok (.iconst 0, 1) := by decide +kernel
theorem dX0_isAhead_1 : decode cX0_isAhead 1 = .ok (.istore_n 3, 1) := by decide +kernel
theorem dX0_isAhead_2 : decode cX0_isAhead 2 = .ok (.aload_n 0, 1) := by decide +kernel
theorem dX0_isAhead_3 : decode cX0_isAhead 3 = .ok (.getfield 56, 3) := by decide +kernel
theorem dX0_isAhead_6 : decode cX0_isAhead 6 = .ok (.iconst 1, 1) := by decide +kernel
theorem dX0_isAhead_7 : decode cX0_isAhead 7 = .ok (.if_icmp .ne 20, 3) := by decide +kernel
theorem dX0_isAhead_10 : decode cX0_isAhead 10 = .ok (.aload_n 0, 1) := by decide +kernel
theorem dX0_isAhead_11 : decode cX0_isAhead 11 = .ok (.getfield 31, 3) := by decide +kernel
theorem dX0_isAhead_14 : decode cX0_isAhead 14 = .ok (.iload_n 1, 1) := by decide +kernel
theorem dX0_isAhead_15 : decode cX0_isAhead 15 = .ok (.iaload, 1) := by decide +kernel
theorem dX0_isAhead_16 : decode cX0_isAhead 16 = .ok (.aload_n 0, 1) := by decide +kernel
theorem dX0_isAhead_17 : decode cX0_isAhead 17 = .ok (.getfield 31, 3) := by decide +kernel
theorem dX0_isAhead_20 : decode cX0_isAhead 20 = .ok (.iload_n 2, 1) := by decide +kernel
theorem dX0_isAhead_21 : decode cX0_isAhead 21 = .ok (.iaload, 1) := by decide +kernel
theorem dX0_isAhead_22 : decode cX0_isAhead 22 = .ok (.isub, 1) := by decide +kernel
theorem dX0_isAhead_23 : decode cX0_isAhead 23 = .ok (.istore_n 3, 1) := by decide +kernel
theorem dX0_isAhead_24 : decode cX0_isAhead 24 = .ok (.goto 25, 3) := by decide +kernel
theorem dX0_isAhead_27 : decode cX0_isAhead 27 = .ok (.aload_n 0, 1) := by decide +kernel
theorem dX0_isAhead_28 : decode cX0_isAhead 28 = .ok (.getfield 56, 3) := by decide +kernel
theorem dX0_isAhead_31 : decode cX0_isAhead 31 = .ok (.iconst 2, 1) := by decide +kernel
theorem dX0_isAhead_32 : decode cX0_isAhead 32 = .ok (.if_icmp .ne 17, 3) := by decide +kernel
theorem dX0_isAhead_35 : decode cX0_isAhead 35 = .ok (.aload_n 0, 1) := by decide +kernel
theorem dX0_isAhead_36 : decode cX0_isAhead 36 = .ok (.getfield 28, 3) := by decide +kernel
theorem dX0_isAhead_39 : decode cX0_isAhead 39 = .ok (.iload_n 1, 1) := by decide +kernel
theorem dX0_isAhead_40 : decode cX0_isAhead 40 = .ok (.iaload, 1) := by decide +kernel
theorem dX0_isAhead_41 : decode cX0_isAhead 41 = .ok (.aload_n 0, 1) := by decide +kernel
theorem dX0_isAhead_42 : decode cX0_isAhead 42 = .ok (.getfield 28, 3) := by decide +kernel
theorem dX0_isAhead_45 : decode cX0_isAhead 45 = .ok (.iload_n 2, 1) := by decide +kernel
theorem dX0_isAhead_46 : decode cX0_isAhead 46 = .ok (.iaload, 1) := by decide +kernel
theorem dX0_isAhead_47 : decode cX0_isAhead 47 = .ok (.isub, 1) := by decide +kernel
theorem dX0_isAhead_48 : decode cX0_isAhead 48 = .ok (.istore_n 3, 1) := by decide +kernel
theorem dX0_isAhead_49 : decode cX0_isAhead 49 = .ok (.iload_n 3, 1) := by decide +kernel
theorem dX0_isAhead_50 : decode cX0_isAhead 50 = .ok (.ifCond .lt 12, 3) := by decide +kernel
theorem dX0_isAhead_53 : decode cX0_isAhead 53 = .ok (.iload_n 3, 1) := by decide +kernel
theorem dX0_isAhead_54 : decode cX0_isAhead 54 = .ok (.ifCond .ne 12, 3) := by decide +kernel
theorem dX0_isAhead_57 : decode cX0_isAhead 57 = .ok (.iload_n 1, 1) := by decide +kernel
theorem dX0_isAhead_58 : decode cX0_isAhead 58 = .ok (.iload_n 2, 1) := by decide +kernel
theorem dX0_isAhead_59 : decode cX0_isAhead 59 = .ok (.if_icmp .ge 7, 3) := by decide +kernel
theorem dX0_isAhead_62 : decode cX0_isAhead 62 = .ok (.iconst 1, 1) := by decide +kernel
theorem dX0_isAhead_63 : decode cX0_isAhead 63 = .ok (.goto 4, 3) := by decide +kernel
theorem dX0_isAhead_66 : decode cX0_isAhead 66 = .ok (.iconst 0, 1) := by decide +kernel
theorem dX0_isAhead_67 : decode cX0_isAhead 67 = .ok (.ireturn, 1) := by decide +kernel
set_option maxRecDepth 20000 in
theorem ggX0_hoursLate_X0_isGround : GoodIn wsX0_hoursLate wsX0_isGround := goodIn_r _ [12, 13, 14, 15, 16, 17, 18, 19, 20, 21, 22, 23, 24, 25, 26, 27, 28, 29] (by decide +kernel) (by decide +kernel)
set_option maxRecDepth 20000 in
theorem gX0_hoursLate_X0_isGround : GoodIn wsX0_hoursLate (wsV RX0 101 RX0 yX0_isGround wsX0_isGround) := goodIn_app (goodIn_of _ (by decide +kernel)) ggX0_hoursLate_X0_isGround
theorem dX0_hoursLate_0 : decode cX0_hoursLate 0 = .ok (.iconst 0, 1) := by decide +kernel
theorem dX0_hoursLate_1 : decode cX0_hoursLate 1 = .ok (.istore_n 1, 1) := by decide +kernel
theorem dX0_hoursLate_2 : decode cX0_hoursLate 2 = .ok (.iconst 0, 1) := by decide +kernel
theorem dX0_hoursLate_3 : decode cX0_hoursLate 3 = .ok (.istore_n 2, 1) := by decide +kernel
theorem dX0_hoursLate_4 : decode cX0_hoursLate 4 = .ok (.iload_n 2, 1) := by decide +kernel
theorem dX0_hoursLate_5 : decode cX0_hoursLate 5 = .ok (.aload_n 0, 1) := by decide +kernel
theorem dX0_hoursLate_6 : decode cX0_hoursLate 6 = .ok (.getfield 47, 3) := by decide +kernel
theorem dX0_hoursLate_9 : decode cX0_hoursLate 9 = .ok (.if_icmp .ge 37, 3) := by decide +kernel
theorem dX0_hoursLate_12 : decode cX0_hoursLate 12 = .ok (.aload_n 0, 1) := by decide +kernel
theorem dX0_hoursLate_13 : decode cX0_hoursLate 13 = .ok (.iload_n 2, 1) := by decide +kernel
theorem dX0_hoursLate_14 : decode cX0_hoursLate 14 = .ok (.invokevirtual 101, 3) := by decide +kernel
theorem dX0_hoursLate_17 : decode cX0_hoursLate 17 = .ok (.ifCond .eq 23, 3) := by decide +kernel
theorem dX0_hoursLate_20 : decode cX0_hoursLate 20 = .ok (.iload_n 1, 1) := by decide +kernel
theorem dX0_hoursLate_21 : decode cX0_hoursLate 21 = .ok (.iconst 0, 1) := by decide +kernel
theorem dX0_hoursLate_22 : decode cX0_hoursLate 22 = .ok (.aload_n 0, 1) := by decide +kernel
theorem dX0_hoursLate_23 : decode cX0_hoursLate 23 = .ok (.getfield 37, 3) := by decide +kernel
theorem dX0_hoursLate_26 : decode cX0_hoursLate 26 = .ok (.iload_n 2, 1) := by decide +kernel
theorem dX0_hoursLate_27 : decode cX0_hoursLate 27 = .ok (.iaload, 1) := by decide +kernel
theorem dX0_hoursLate_28 : decode cX0_hoursLate 28 = .ok (.aload_n 0, 1) := by decide +kernel
theorem dX0_hoursLate_29 : decode cX0_hoursLate 29 = .ok (.getfield 31, 3) := by decide +kernel
theorem dX0_hoursLate_32 : decode cX0_hoursLate 32 = .ok (.iload_n 2, 1) := by decide +kernel
theorem dX0_hoursLate_33 : decode cX0_hoursLate 33 = .ok (.iaload, 1) := by decide +kernel
theorem dX0_hoursLate_34 : decode cX0_hoursLate 34 = .ok (.isub, 1) := by decide +kernel
theorem dX0_hoursLate_35 : decode cX0_hoursLate 35 = .ok (.invokestatic 112, 3) := by decide +kernel
theorem dX0_hoursLate_38 : decode cX0_hoursLate 38 = .ok (.iadd, 1) := by decide +kernel
theorem dX0_hoursLate_39 : decode cX0_hoursLate 39 = .ok (.istore_n 1, 1) := by decide +kernel
theorem dX0_hoursLate_40 : decode cX0_hoursLate 40 = .ok (.iinc 2 1, 3) := by decide +kernel
theorem dX0_hoursLate_43 : decode cX0_hoursLate 43 = .ok (.goto (-39), 3) := by decide +kernel
theorem dX0_hoursLate_46 : decode cX0_hoursLate 46 = .ok (.iload_n 1, 1) := by decide +kernel
theorem dX0_hoursLate_47 : decode cX0_hoursLate 47 = .ok (.ireturn, 1) := by decide +kernel
