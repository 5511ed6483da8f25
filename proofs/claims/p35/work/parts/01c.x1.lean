set_option maxRecDepth 20000 in
theorem ggX1_init_X0_init : GoodIn wsX1_init wsX0_init := goodIn_r _ [11, 12, 2, 3, 13, 14, 15, 16, 17, 18, 19, 20, 21, 22, 23, 24, 25, 26, 27, 28, 29, 30, 31, 32, 33, 34, 35, 36, 37, 38, 39, 40, 41, 42, 43, 44, 45, 46] (by decide +kernel) (by decide +kernel)
set_option maxRecDepth 20000 in
theorem gX1_init_X0_init : GoodIn wsX1_init (wsX0_init) := ggX1_init_X0_init
theorem dX1_init_0 : decode cX1_init 0 = .ok (.aload_n 0, 1) := by decide +kernel
theorem dX1_init_1 : decode cX1_init 1 = .ok (.invokespecial 1, 3) := by decide +kernel
theorem dX1_init_4 : decode cX1_init 4 = .ok (.aload_n 0, 1) := by decide +kernel
theorem dX1_init_5 : decode cX1_init 5 = .ok (.new 7, 3) := by decide +kernel
theorem dX1_init_8 : decode cX1_init 8 = .ok (.dup, 1) := by decide +kernel
theorem dX1_init_9 : decode cX1_init 9 = .ok (.invokespecial 9, 3) := by decide +kernel
theorem dX1_init_12 : decode cX1_init 12 = .ok (.putfield 10, 3) := by decide +kernel
theorem dX1_init_15 : decode cX1_init 15 = .ok (.aload_n 0, 1) := by decide +kernel
theorem dX1_init_16 : decode cX1_init 16 = .ok (.new 7, 3) := by decide +kernel
theorem dX1_init_19 : decode cX1_init 19 = .ok (.dup, 1) := by decide +kernel
theorem dX1_init_20 : decode cX1_init 20 = .ok (.invokespecial 9, 3) := by decide +kernel
theorem dX1_init_23 : decode cX1_init 23 = .ok (.putfield 16, 3) := by decide +kernel
theorem dX1_init_26 : decode cX1_init 26 = .ok (.return_, 1) := by decide +kernel
set_option maxRecDepth 20000 in
theorem ggX1_addStone_X0_placeStone : GoodIn wsX1_addStone wsX0_placeStone := goodIn_r _ [10, 11, 12, 13, 16, 17, 18, 19, 20, 21, 22, 23, 24, 25, 26, 27, 28, 29, 30, 31] (by decide +kernel) (by decide +kernel)
set_option maxRecDepth 20000 in
theorem gX1_addStone_X0_placeStone : GoodIn wsX1_addStone (wsV RX1 35 RX0 yX0_placeStone wsX0_placeStone) := goodIn_app (goodIn_of _ (by decide +kernel)) ggX1_addStone_X0_placeStone
theorem dX1_addStone_0 : decode cX1_addStone 0 = .ok (.iload_n 1, 1) := by decide +kernel
theorem dX1_addStone_1 : decode cX1_addStone 1 = .ok (.iconst 1, 1) := by decide +kernel
theorem dX1_addStone_2 : decode cX1_addStone 2 = .ok (.if_icmp .lt 9, 3) := by decide +kernel
theorem dX1_addStone_5 : decode cX1_addStone 5 = .ok (.iload_n 1, 1) := by decide +kernel
theorem dX1_addStone_6 : decode cX1_addStone 6 = .ok (.bipush 9, 2) := by decide +kernel
theorem dX1_addStone_8 : decode cX1_addStone 8 = .ok (.if_icmp .le 13, 3) := by decide +kernel
theorem dX1_addStone_11 : decode cX1_addStone 11 = .ok (.new 19, 3) := by decide +kernel
theorem dX1_addStone_14 : decode cX1_addStone 14 = .ok (.dup, 1) := by decide +kernel
theorem dX1_addStone_15 : decode cX1_addStone 15 = .ok (.ldc 21, 2) := by decide +kernel
theorem dX1_addStone_17 : decode cX1_addStone 17 = .ok (.invokespecial 23, 3) := by decide +kernel
theorem dX1_addStone_20 : decode cX1_addStone 20 = .ok (.athrow, 1) := by decide +kernel
theorem dX1_addStone_21 : decode cX1_addStone 21 = .ok (.aload_n 0, 1) := by decide +kernel
theorem dX1_addStone_22 : decode cX1_addStone 22 = .ok (.getfield 10, 3) := by decide +kernel
theorem dX1_addStone_25 : decode cX1_addStone 25 = .ok (.getfield 26, 3) := by decide +kernel
theorem dX1_addStone_28 : decode cX1_addStone 28 = .ok (.iconst 4, 1) := by decide +kernel
theorem dX1_addStone_29 : decode cX1_addStone 29 = .ok (.if_icmp .lt 13, 3) := by decide +kernel
theorem dX1_addStone_32 : decode cX1_addStone 32 = .ok (.new 30, 3) := by decide +kernel
theorem dX1_addStone_35 : decode cX1_addStone 35 = .ok (.dup, 1) := by decide +kernel
theorem dX1_addStone_36 : decode cX1_addStone 36 = .ok (.ldc 32, 2) := by decide +kernel
theorem dX1_addStone_38 : decode cX1_addStone 38 = .ok (.invokespecial 34, 3) := by decide +kernel
theorem dX1_addStone_41 : decode cX1_addStone 41 = .ok (.athrow, 1) := by decide +kernel
theorem dX1_addStone_42 : decode cX1_addStone 42 = .ok (.aload_n 0, 1) := by decide +kernel
theorem dX1_addStone_43 : decode cX1_addStone 43 = .ok (.getfield 10, 3) := by decide +kernel
theorem dX1_addStone_46 : decode cX1_addStone 46 = .ok (.iload_n 1, 1) := by decide +kernel
theorem dX1_addStone_47 : decode cX1_addStone 47 = .ok (.invokevirtual 35, 3) := by decide +kernel
theorem dX1_addStone_50 : decode cX1_addStone 50 = .ok (.ireturn, 1) := by decide +kernel
theorem dX1_setWind_0 : decode cX1_setWind 0 = .ok (.iload_n 1, 1) := by decide +kernel
theorem dX1_setWind_1 : decode cX1_setWind 1 = .ok (.ifCond .lt 9, 3) := by decide +kernel
theorem dX1_setWind_4 : decode cX1_setWind 4 = .ok (.iload_n 1, 1) := by decide +kernel
theorem dX1_setWind_5 : decode cX1_setWind 5 = .ok (.bipush 12, 2) := by decide +kernel
theorem dX1_setWind_7 : decode cX1_setWind 7 = .ok (.if_icmp .lt 13, 3) := by decide +kernel
theorem dX1_setWind_10 : decode cX1_setWind 10 = .ok (.new 39, 3) := by decide +kernel
theorem dX1_setWind_13 : decode cX1_setWind 13 = .ok (.dup, 1) := by decide +kernel
theorem dX1_setWind_14 : decode cX1_setWind 14 = .ok (.ldc 41, 2) := by decide +kernel
theorem dX1_setWind_16 : decode cX1_setWind 16 = .ok (.invokespecial 43, 3) := by decide +kernel
theorem dX1_setWind_19 : decode cX1_setWind 19 = .ok (.athrow, 1) := by decide +kernel
theorem dX1_setWind_20 : decode cX1_setWind 20 = .ok (.iload_n 2, 1) := by decide +kernel
theorem dX1_setWind_21 : decode cX1_setWind 21 = .ok (.ifCond .lt 9, 3) := by decide +kernel
theorem dX1_setWind_24 : decode cX1_setWind 24 = .ok (.iload_n 2, 1) := by decide +kernel
theorem dX1_setWind_25 : decode cX1_setWind 25 = .ok (.bipush 20, 2) := by decide +kernel
theorem dX1_setWind_27 : decode cX1_setWind 27 = .ok (.if_icmp .le 13, 3) := by decide +kernel
theorem dX1_setWind_30 : decode cX1_setWind 30 = .ok (.new 19, 3) := by decide +kernel
theorem dX1_setWind_33 : decode cX1_setWind 33 = .ok (.dup, 1) := by decide +kernel
theorem dX1_setWind_34 : decode cX1_setWind 34 = .ok (.ldc 44, 2) := by decide +kernel
theorem dX1_setWind_36 : decode cX1_setWind 36 = .ok (.invokespecial 23, 3) := by decide +kernel
theorem dX1_setWind_39 : decode cX1_setWind 39 = .ok (.athrow, 1) := by decide +kernel
theorem dX1_setWind_40 : decode cX1_setWind 40 = .ok (.aload_n 0, 1) := by decide +kernel
theorem dX1_setWind_41 : decode cX1_setWind 41 = .ok (.getfield 10, 3) := by decide +kernel
theorem dX1_setWind_44 : decode cX1_setWind 44 = .ok (.getfield 46, 3) := by decide +kernel
theorem dX1_setWind_47 : decode cX1_setWind 47 = .ok (.iload_n 1, 1) := by decide +kernel
theorem dX1_setWind_48 : decode cX1_setWind 48 = .ok (.iaload, 1) := by decide +kernel
theorem dX1_setWind_49 : decode cX1_setWind 49 = .ok (.istore_n 3, 1) := by decide +kernel
theorem dX1_setWind_50 : decode cX1_setWind 50 = .ok (.aload_n 0, 1) := by decide +kernel
theorem dX1_setWind_51 : decode cX1_setWind 51 = .ok (.getfield 10, 3) := by decide +kernel
theorem dX1_setWind_54 : decode cX1_setWind 54 = .ok (.getfield 46, 3) := by decide +kernel
theorem dX1_setWind_57 : decode cX1_setWind 57 = .ok (.iload_n 1, 1) := by decide +kernel
theorem dX1_setWind_58 : decode cX1_setWind 58 = .ok (.iload_n 2, 1) := by decide +kernel
theorem dX1_setWind_59 : decode cX1_setWind 59 = .ok (.iastore, 1) := by decide +kernel
theorem dX1_setWind_60 : decode cX1_setWind 60 = .ok (.iload_n 3, 1) := by decide +kernel
theorem dX1_setWind_61 : decode cX1_setWind 61 = .ok (.ireturn, 1) := by decide +kernel
set_option maxRecDepth 20000 in
theorem ggX1_setRule_X1_requireRule : GoodIn wsX1_setRule wsX1_requireRule := goodIn_ca (goodIn_r _ [5, 6, 7] (by decide +kernel) (by decide +kernel)) (goodIn_sub (fun _ h => List.mem_cons_of_mem _ (List.mem_append_right _ h)) (by decide +kernel))
set_option maxRecDepth 20000 in
theorem gX1_setRule_X1_requireRule : GoodIn wsX1_setRule (va_wsS RX1 50 yX1_requireRule wsX1_requireRule) := goodIn_app (goodIn_of _ (by decide +kernel)) ggX1_setRule_X1_requireRule
theorem dX1_setRule_0 : decode cX1_setRule 0 = .ok (.iload_n 1, 1) := by decide +kernel
theorem dX1_setRule_1 : decode cX1_setRule 1 = .ok (.invokestatic 50, 3) := by decide +kernel
theorem dX1_setRule_4 : decode cX1_setRule 4 = .ok (.aload_n 0, 1) := by decide +kernel
theorem dX1_setRule_5 : decode cX1_setRule 5 = .ok (.getfield 10, 3) := by decide +kernel
theorem dX1_setRule_8 : decode cX1_setRule 8 = .ok (.getfield 54, 3) := by decide +kernel
theorem dX1_setRule_11 : decode cX1_setRule 11 = .ok (.istore_n 2, 1) := by decide +kernel
theorem dX1_setRule_12 : decode cX1_setRule 12 = .ok (.aload_n 0, 1) := by decide +kernel
theorem dX1_setRule_13 : decode cX1_setRule 13 = .ok (.getfield 10, 3) := by decide +kernel
theorem dX1_setRule_16 : decode cX1_setRule 16 = .ok (.iload_n 1, 1) := by decide +kernel
theorem dX1_setRule_17 : decode cX1_setRule 17 = .ok (.putfield 54, 3) := by decide +kernel
theorem dX1_setRule_20 : decode cX1_setRule 20 = .ok (.iload_n 2, 1) := by decide +kernel
theorem dX1_setRule_21 : decode cX1_setRule 21 = .ok (.ireturn, 1) := by decide +kernel
theorem dX1_setTakingOff_0 : decode cX1_setTakingOff 0 = .ok (.aload_n 0, 1) := by decide +kernel
theorem dX1_setTakingOff_1 : decode cX1_setTakingOff 1 = .ok (.getfield 10, 3) := by decide +kernel
theorem dX1_setTakingOff_4 : decode cX1_setTakingOff 4 = .ok (.getfield 57, 3) := by decide +kernel
theorem dX1_setTakingOff_7 : decode cX1_setTakingOff 7 = .ok (.istore_n 2, 1) := by decide +kernel
theorem dX1_setTakingOff_8 : decode cX1_setTakingOff 8 = .ok (.aload_n 0, 1) := by decide +kernel
theorem dX1_setTakingOff_9 : decode cX1_setTakingOff 9 = .ok (.getfield 10, 3) := by decide +kernel
theorem dX1_setTakingOff_12 : decode cX1_setTakingOff 12 = .ok (.iload_n 1, 1) := by decide +kernel
theorem dX1_setTakingOff_13 : decode cX1_setTakingOff 13 = .ok (.putfield 57, 3) := by decide +kernel
theorem dX1_setTakingOff_16 : decode cX1_setTakingOff 16 = .ok (.iload_n 2, 1) := by decide +kernel
theorem dX1_setTakingOff_17 : decode cX1_setTakingOff 17 = .ok (.ireturn, 1) := by decide +kernel
set_option maxRecDepth 20000 in
theorem ggX1_bring_X1_requireBaker : GoodIn wsX1_bring wsX1_requireBaker := goodIn_ca (goodIn_r _ [7, 8, 9] (by decide +kernel) (by decide +kernel)) (goodIn_sub (fun _ h => List.mem_cons_of_mem _ (List.mem_append_right _ h)) (by decide +kernel))
set_option maxRecDepth 20000 in
theorem gX1_bring_X1_requireBaker : GoodIn wsX1_bring (va_wsS RX1 61 yX1_requireBaker wsX1_requireBaker) := goodIn_app (goodIn_of _ (by decide +kernel)) ggX1_bring_X1_requireBaker
set_option maxRecDepth 20000 in
theorem ggX1_bring_X1_requireGrain : GoodIn wsX1_bring wsX1_requireGrain := goodIn_ca (goodIn_r _ [12, 8, 9] (by decide +kernel) (by decide +kernel)) (goodIn_sub (fun _ h => List.mem_cons_of_mem _ (List.mem_append_right _ h)) (by decide +kernel))
set_option maxRecDepth 20000 in
theorem gX1_bring_X1_requireGrain : GoodIn wsX1_bring (va_wsS RX1 64 yX1_requireGrain wsX1_requireGrain) := goodIn_app (goodIn_of _ (by decide +kernel)) ggX1_bring_X1_requireGrain
set_option maxRecDepth 20000 in
theorem ggX1_bring_X1_requireUntil : GoodIn wsX1_bring wsX1_requireUntil := goodIn_ca (goodIn_r _ [15, 8, 9] (by decide +kernel) (by decide +kernel)) (goodIn_sub (fun _ h => List.mem_cons_of_mem _ (List.mem_append_right _ h)) (by decide +kernel))
set_option maxRecDepth 20000 in
theorem gX1_bring_X1_requireUntil : GoodIn wsX1_bring (va_wsS RX1 67 yX1_requireUntil wsX1_requireUntil) := goodIn_app (goodIn_of _ (by decide +kernel)) ggX1_bring_X1_requireUntil
set_option maxRecDepth 20000 in
theorem ggX1_bring_X0_storeSack : GoodIn wsX1_bring wsX0_storeSack := goodIn_r _ [20, 21, 22, 23, 24, 25, 26, 29, 30, 31, 32, 33, 34, 35, 36, 37, 38, 39, 40, 41, 42, 43, 44] (by decide +kernel) (by decide +kernel)
set_option maxRecDepth 20000 in
theorem gX1_bring_X0_storeSack : GoodIn wsX1_bring (wsV RX1 75 RX0 yX0_storeSack wsX0_storeSack) := goodIn_app (goodIn_of _ (by decide +kernel)) ggX1_bring_X0_storeSack
theorem dX1_bring_0 : decode cX1_bring 0 = .ok (.iload_n 1, 1) := by decide +kernel
theorem dX1_bring_1 : decode cX1_bring 1 = .ok (.invokestatic 61, 3) := by decide +kernel
theorem dX1_bring_4 : decode cX1_bring 4 = .ok (.iload_n 2, 1) := by decide +kernel
theorem dX1_bring_5 : decode cX1_bring 5 = .ok (.invokestatic 64, 3) := by decide +kernel
theorem dX1_bring_8 : decode cX1_bring 8 = .ok (.iload_n 3, 1) := by decide +kernel
theorem dX1_bring_9 : decode cX1_bring 9 = .ok (.invokestatic 67, 3) := by decide +kernel
theorem dX1_bring_12 : decode cX1_bring 12 = .ok (.aload_n 0, 1) := by decide +kernel
theorem dX1_bring_13 : decode cX1_bring 13 = .ok (.getfield 10, 3) := by decide +kernel
theorem dX1_bring_16 : decode cX1_bring 16 = .ok (.getfield 70, 3) := by decide +kernel
theorem dX1_bring_19 : decode cX1_bring 19 = .ok (.bipush 16, 2) := by decide +kernel
theorem dX1_bring_21 : decode cX1_bring 21 = .ok (.if_icmp .lt 13, 3) := by decide +kernel
theorem dX1_bring_24 : decode cX1_bring 24 = .ok (.new 30, 3) := by decide +kernel
theorem dX1_bring_27 : decode cX1_bring 27 = .ok (.dup, 1) := by decide +kernel
theorem dX1_bring_28 : decode cX1_bring 28 = .ok (.ldc 73, 2) := by decide +kernel
theorem dX1_bring_30 : decode cX1_bring 30 = .ok (.invokespecial 34, 3) := by decide +kernel
theorem dX1_bring_33 : decode cX1_bring 33 = .ok (.athrow, 1) := by decide +kernel
theorem dX1_bring_34 : decode cX1_bring 34 = .ok (.aload_n 0, 1) := by decide +kernel
theorem dX1_bring_35 : decode cX1_bring 35 = .ok (.getfield 10, 3) := by decide +kernel
theorem dX1_bring_38 : decode cX1_bring 38 = .ok (.iload_n 1, 1) := by decide +kernel
theorem dX1_bring_39 : decode cX1_bring 39 = .ok (.iload_n 2, 1) := by decide +kernel
theorem dX1_bring_40 : decode cX1_bring 40 = .ok (.iload_n 3, 1) := by decide +kernel
theorem dX1_bring_41 : decode cX1_bring 41 = .ok (.invokevirtual 75, 3) := by decide +kernel
theorem dX1_bring_44 : decode cX1_bring 44 = .ok (.ireturn, 1) := by decide +kernel
set_option maxRecDepth 20000 in
theorem ggX1_lift_X1_requireSack : GoodIn wsX1_lift wsX1_requireSack := goodIn_ca (goodIn_r _ [8, 9, 10, 3, 18, 19, 20, 21, 22, 23, 24, 25, 26, 27, 28, 29, 30, 31, 32, 33, 34, 35] (by decide +kernel) (by decide +kernel)) (goodIn_sub (fun _ h => List.mem_cons_of_mem _ (List.mem_append_right _ h)) (by decide +kernel))
set_option maxRecDepth 20000 in
theorem gX1_lift_X1_requireSack : GoodIn wsX1_lift (wsV RX1 79 RX1 yX1_requireSack wsX1_requireSack) := goodIn_app (goodIn_of _ (by decide +kernel)) ggX1_lift_X1_requireSack
set_option maxRecDepth 20000 in
theorem ggX1_lift_X0_clearStone : GoodIn wsX1_lift wsX0_clearStone := goodIn_r _ [15, 16, 17, 20, 21, 22, 23, 24, 25, 26, 27, 28, 29, 30, 31, 32, 33, 34, 35] (by decide +kernel) (by decide +kernel)
set_option maxRecDepth 20000 in
theorem gX1_lift_X0_clearStone : GoodIn wsX1_lift (wsV RX1 87 RX0 yX0_clearStone wsX0_clearStone) := goodIn_app (goodIn_of _ (by decide +kernel)) ggX1_lift_X0_clearStone
theorem dX1_lift_0 : decode cX1_lift 0 = .ok (.aload_n 0, 1) := by decide +kernel
theorem dX1_lift_1 : decode cX1_lift 1 = .ok (.iload_n 1, 1) := by decide +kernel
theorem dX1_lift_2 : decode cX1_lift 2 = .ok (.invokevirtual 79, 3) := by decide +kernel
theorem dX1_lift_5 : decode cX1_lift 5 = .ok (.aload_n 0, 1) := by decide +kernel
theorem dX1_lift_6 : decode cX1_lift 6 = .ok (.getfield 10, 3) := by decide +kernel
theorem dX1_lift_9 : decode cX1_lift 9 = .ok (.getfield 82, 3) := by decide +kernel
theorem dX1_lift_12 : decode cX1_lift 12 = .ok (.iload_n 1, 1) := by decide +kernel
theorem dX1_lift_13 : decode cX1_lift 13 = .ok (.iaload, 1) := by decide +kernel
theorem dX1_lift_14 : decode cX1_lift 14 = .ok (.istore_n 2, 1) := by decide +kernel
theorem dX1_lift_15 : decode cX1_lift 15 = .ok (.iload_n 2, 1) := by decide +kernel
theorem dX1_lift_16 : decode cX1_lift 16 = .ok (.iconst (-1), 1) := by decide +kernel
theorem dX1_lift_17 : decode cX1_lift 17 = .ok (.if_icmp .ne 13, 3) := by decide +kernel
theorem dX1_lift_20 : decode cX1_lift 20 = .ok (.new 30, 3) := by decide +kernel
theorem dX1_lift_23 : decode cX1_lift 23 = .ok (.dup, 1) := by decide +kernel
theorem dX1_lift_24 : decode cX1_lift 24 = .ok (.ldc 85, 2) := by decide +kernel
theorem dX1_lift_26 : decode cX1_lift 26 = .ok (.invokespecial 34, 3) := by decide +kernel
theorem dX1_lift_29 : decode cX1_lift 29 = .ok (.athrow, 1) := by decide +kernel
theorem dX1_lift_30 : decode cX1_lift 30 = .ok (.aload_n 0, 1) := by decide +kernel
theorem dX1_lift_31 : decode cX1_lift 31 = .ok (.getfield 10, 3) := by decide +kernel
theorem dX1_lift_34 : decode cX1_lift 34 = .ok (.iload_n 2, 1) := by decide +kernel
theorem dX1_lift_35 : decode cX1_lift 35 = .ok (.invokevirtual 87, 3) := by decide +kernel
theorem dX1_lift_38 : decode cX1_lift 38 = .ok (.iload_n 2, 1) := by decide +kernel
theorem dX1_lift_39 : decode cX1_lift 39 = .ok (.ireturn, 1) := by decide +kernel
set_option maxRecDepth 20000 in
theorem ggX1_setUntil_X1_requireSack : GoodIn wsX1_setUntil wsX1_requireSack := goodIn_ca (goodIn_r _ [6, 7, 8, 1, 14, 15, 16, 17, 18, 19, 20, 21, 22, 23, 24, 25, 26, 27, 28, 29, 30, 31] (by decide +kernel) (by decide +kernel)) (goodIn_sub (fun _ h => List.mem_cons_of_mem _ (List.mem_append_left _ (List.mem_append_right _ h))) (by decide +kernel))
set_option maxRecDepth 20000 in
theorem gX1_setUntil_X1_requireSack : GoodIn wsX1_setUntil (wsV RX1 79 RX1 yX1_requireSack wsX1_requireSack) := goodIn_app (goodIn_of _ (by decide +kernel)) ggX1_setUntil_X1_requireSack
set_option maxRecDepth 20000 in
theorem ggX1_setUntil_X1_requireUntil : GoodIn wsX1_setUntil wsX1_requireUntil := goodIn_ca (goodIn_r _ [11, 12, 13] (by decide +kernel) (by decide +kernel)) (goodIn_sub (fun _ h => List.mem_cons_of_mem _ (List.mem_append_right _ h)) (by decide +kernel))
set_option maxRecDepth 20000 in
theorem gX1_setUntil_X1_requireUntil : GoodIn wsX1_setUntil (va_wsS RX1 67 yX1_requireUntil wsX1_requireUntil) := goodIn_app (goodIn_of _ (by decide +kernel)) ggX1_setUntil_X1_requireUntil
theorem dX1_setUntil_0 : decode cX1_setUntil 0 = .ok (.aload_n 0, 1) := by decide +kernel
theorem dX1_setUntil_1 : decode cX1_setUntil 1 = .ok (.iload_n 1, 1) := by decide +kernel
theorem dX1_setUntil_2 : decode cX1_setUntil 2 = .ok (.invokevirtual 79, 3) := by decide +kernel
theorem dX1_setUntil_5 : decode cX1_setUntil 5 = .ok (.iload_n 2, 1) := by decide +kernel
theorem dX1_setUntil_6 : decode cX1_setUntil 6 = .ok (.invokestatic 67, 3) := by decide +kernel
theorem dX1_setUntil_9 : decode cX1_setUntil 9 = .ok (.aload_n 0, 1) := by decide +kernel
theorem dX1_setUntil_10 : decode cX1_setUntil 10 = .ok (.getfield 10, 3) := by decide +kernel
theorem dX1_setUntil_13 : decode cX1_setUntil 13 = .ok (.getfield 90, 3) := by decide +kernel
theorem dX1_setUntil_16 : decode cX1_setUntil 16 = .ok (.iload_n 1, 1) := by decide +kernel
theorem dX1_setUntil_17 : decode cX1_setUntil 17 = .ok (.iaload, 1) := by decide +kernel
theorem dX1_setUntil_18 : decode cX1_setUntil 18 = .ok (.istore_n 3, 1) := by decide +kernel
theorem dX1_setUntil_19 : decode cX1_setUntil 19 = .ok (.aload_n 0, 1) := by decide +kernel
theorem dX1_setUntil_20 : decode cX1_setUntil 20 = .ok (.getfield 10, 3) := by decide +kernel
theorem dX1_setUntil_23 : decode cX1_setUntil 23 = .ok (.getfield 90, 3) := by decide +kernel
theorem dX1_setUntil_26 : decode cX1_setUntil 26 = .ok (.iload_n 1, 1) := by decide +kernel
theorem dX1_setUntil_27 : decode cX1_setUntil 27 = .ok (.iload_n 2, 1) := by decide +kernel
theorem dX1_setUntil_28 : decode cX1_setUntil 28 = .ok (.iastore, 1) := by decide +kernel
theorem dX1_setUntil_29 : decode cX1_setUntil 29 = .ok (.iload_n 3, 1) := by decide +kernel
theorem dX1_setUntil_30 : decode cX1_setUntil 30 = .ok (.ireturn, 1) := by decide +kernel
set_option maxRecDepth 20000 in
theorem ggX1_pass_X1_requireHours : GoodIn wsX1_pass wsX1_requireHours := goodIn_ca (goodIn_r _ [5, 6, 7] (by decide +kernel) (by decide +kernel)) (goodIn_sub (fun _ h => List.mem_cons_of_mem _ (List.mem_append_right _ h)) (by decide +kernel))
set_option maxRecDepth 20000 in
theorem gX1_pass_X1_requireHours : GoodIn wsX1_pass (va_wsS RX1 93 yX1_requireHours wsX1_requireHours) := goodIn_app (goodIn_of _ (by decide +kernel)) ggX1_pass_X1_requireHours
set_option maxRecDepth 20000 in
theorem ggX1_pass_X0_run : GoodIn wsX1_pass wsX0_run := goodIn_r _ [12, 13, 14, 15, 16, 17, 18, 19, 11, 20, 21, 22, 23, 24, 25, 26, 27, 28, 29, 30, 31, 32, 33, 34, 35, 36, 37, 38, 39, 40, 41, 42, 43, 44, 45, 46, 47, 48, 49, 50, 51, 52, 53, 54, 55, 56, 57, 58, 59, 60, 61, 62, 63, 64, 65, 66, 67, 68, 69, 70, 71, 72, 73, 74, 75, 78, 79, 80, 81, 82, 83, 84, 85, 86, 87, 88, 89, 90, 91, 92, 93] (by decide +kernel) (by decide +kernel)
set_option maxRecDepth 20000 in
theorem gX1_pass_X0_run : GoodIn wsX1_pass (wsV RX1 96 RX0 yX0_run wsX0_run) := goodIn_app (goodIn_of _ (by decide +kernel)) ggX1_pass_X0_run
theorem dX1_pass_0 : decode cX1_pass 0 = .ok (.iload_n 1, 1) := by decide +kernel
theorem dX1_pass_1 : decode cX1_pass 1 = .ok (.invokestatic 93, 3) := by decide +kernel
theorem dX1_pass_4 : decode cX1_pass 4 = .ok (.aload_n 0, 1) := by decide +kernel
theorem dX1_pass_5 : decode cX1_pass 5 = .ok (.getfield 10, 3) := by decide +kernel
theorem dX1_pass_8 : decode cX1_pass 8 = .ok (.iload_n 1, 1) := by decide +kernel
theorem dX1_pass_9 : decode cX1_pass 9 = .ok (.invokevirtual 96, 3) := by decide +kernel
theorem dX1_pass_12 : decode cX1_pass 12 = .ok (.ireturn, 1) := by decide +kernel
theorem dX1_hour_0 : decode cX1_hour 0 = .ok (.aload_n 0, 1) := by decide +kernel
theorem dX1_hour_1 : decode cX1_hour 1 = .ok (.getfield 10, 3) := by decide +kernel
theorem dX1_hour_4 : decode cX1_hour 4 = .ok (.getfield 99, 3) := by decide +kernel
theorem dX1_hour_7 : decode cX1_hour 7 = .ok (.ireturn, 1) := by decide +kernel
theorem dX1_stones_0 : decode cX1_stones 0 = .ok (.aload_n 0, 1) := by decide +kernel
theorem dX1_stones_1 : decode cX1_stones 1 = .ok (.getfield 10, 3) := by decide +kernel
theorem dX1_stones_4 : decode cX1_stones 4 = .ok (.getfield 26, 3) := by decide +kernel
theorem dX1_stones_7 : decode cX1_stones 7 = .ok (.ireturn, 1) := by decide +kernel
theorem dX1_sacks_0 : decode cX1_sacks 0 = .ok (.aload_n 0, 1) := by decide +kernel
theorem dX1_sacks_1 : decode cX1_sacks 1 = .ok (.getfield 10, 3) := by decide +kernel
theorem dX1_sacks_4 : decode cX1_sacks 4 = .ok (.getfield 70, 3) := by decide +kernel
theorem dX1_sacks_7 : decode cX1_sacks 7 = .ok (.ireturn, 1) := by decide +kernel
theorem dX1_rule_0 : decode cX1_rule 0 = .ok (.aload_n 0, 1) := by decide +kernel
theorem dX1_rule_1 : decode cX1_rule 1 = .ok (.getfield 10, 3) := by decide +kernel
theorem dX1_rule_4 : decode cX1_rule 4 = .ok (.getfield 54, 3) := by decide +kernel
theorem dX1_rule_7 : decode cX1_rule 7 = .ok (.ireturn, 1) := by decide +kernel
set_option maxRecDepth 20000 in
theorem ggX1_wind_X0_windOfHour : GoodIn wsX1_wind wsX0_windOfHour := goodIn_r _ [6, 7, 8, 9, 10, 11, 12, 15, 16, 17, 18, 19, 20, 21, 22, 23, 24, 25, 26, 27, 28, 29, 30] (by decide +kernel) (by decide +kernel)
set_option maxRecDepth 20000 in
theorem gX1_wind_X0_windOfHour : GoodIn wsX1_wind (wsV RX1 102 RX0 yX0_windOfHour wsX0_windOfHour) := goodIn_app (goodIn_of _ (by decide +kernel)) ggX1_wind_X0_windOfHour
theorem dX1_wind_0 : decode cX1_wind 0 = .ok (.aload_n 0, 1) := by decide +kernel
theorem dX1_wind_1 : decode cX1_wind 1 = .ok (.getfield 10, 3) := by decide +kernel
theorem dX1_wind_4 : decode cX1_wind 4 = .ok (.invokevirtual 102, 3) := by decide +kernel
theorem dX1_wind_7 : decode cX1_wind 7 = .ok (.ireturn, 1) := by decide +kernel
theorem dX1_sackOn_0 : decode cX1_sackOn 0 = .ok (.iload_n 1, 1) := by decide +kernel
theorem dX1_sackOn_1 : decode cX1_sackOn 1 = .ok (.ifCond .lt 14, 3) := by decide +kernel
theorem dX1_sackOn_4 : decode cX1_sackOn 4 = .ok (.iload_n 1, 1) := by decide +kernel
theorem dX1_sackOn_5 : decode cX1_sackOn 5 = .ok (.aload_n 0, 1) := by decide +kernel
theorem dX1_sackOn_6 : decode cX1_sackOn 6 = .ok (.getfield 10, 3) := by decide +kernel
theorem dX1_sackOn_9 : decode cX1_sackOn 9 = .ok (.getfield 26, 3) := by decide +kernel
theorem dX1_sackOn_12 : decode cX1_sackOn 12 = .ok (.if_icmp .lt 13, 3) := by decide +kernel
theorem dX1_sackOn_15 : decode cX1_sackOn 15 = .ok (.new 39, 3) := by decide +kernel
theorem dX1_sackOn_18 : decode cX1_sackOn 18 = .ok (.dup, 1) := by decide +kernel
theorem dX1_sackOn_19 : decode cX1_sackOn 19 = .ok (.ldc 106, 2) := by decide +kernel
theorem dX1_sackOn_21 : decode cX1_sackOn 21 = .ok (.invokespecial 43, 3) := by decide +kernel
theorem dX1_sackOn_24 : decode cX1_sackOn 24 = .ok (.athrow, 1) := by decide +kernel
theorem dX1_sackOn_25 : decode cX1_sackOn 25 = .ok (.aload_n 0, 1) := by decide +kernel
theorem dX1_sackOn_26 : decode cX1_sackOn 26 = .ok (.getfield 10, 3) := by decide +kernel
theorem dX1_sackOn_29 : decode cX1_sackOn 29 = .ok (.getfield 108, 3) := by decide +kernel
theorem dX1_sackOn_32 : decode cX1_sackOn 32 = .ok (.iload_n 1, 1) := by decide +kernel
theorem dX1_sackOn_33 : decode cX1_sackOn 33 = .ok (.iaload, 1) := by decide +kernel
theorem dX1_sackOn_34 : decode cX1_sackOn 34 = .ok (.ireturn, 1) := by decide +kernel
set_option maxRecDepth 20000 in
theorem ggX1_stoneOf_X1_requireSack : GoodIn wsX1_stoneOf wsX1_requireSack := goodIn_ca (goodIn_r _ [6, 7, 8, 1, 9, 10, 11, 12, 13, 14, 15, 16, 17, 18, 19, 20, 21, 22, 23, 24, 25, 26] (by decide +kernel) (by decide +kernel)) (goodIn_sub (fun _ h => List.mem_cons_of_mem _ (List.mem_append_right _ h)) (by decide +kernel))
set_option maxRecDepth 20000 in
theorem gX1_stoneOf_X1_requireSack : GoodIn wsX1_stoneOf (wsV RX1 79 RX1 yX1_requireSack wsX1_requireSack) := goodIn_app (goodIn_of _ (by decide +kernel)) ggX1_stoneOf_X1_requireSack
theorem dX1_stoneOf_0 : decode cX1_stoneOf 0 = .ok (.aload_n 0, 1) := by decide +kernel
theorem dX1_stoneOf_1 : decode cX1_stoneOf 1 = .ok (.iload_n 1, 1) := by decide +kernel
theorem dX1_stoneOf_2 : decode cX1_stoneOf 2 = .ok (.invokevirtual 79, 3) := by decide +kernel
theorem dX1_stoneOf_5 : decode cX1_stoneOf 5 = .ok (.aload_n 0, 1) := by decide +kernel
theorem dX1_stoneOf_6 : decode cX1_stoneOf 6 = .ok (.getfield 10, 3) := by decide +kernel
theorem dX1_stoneOf_9 : decode cX1_stoneOf 9 = .ok (.getfield 82, 3) := by decide +kernel
theorem dX1_stoneOf_12 : decode cX1_stoneOf 12 = .ok (.iload_n 1, 1) := by decide +kernel
theorem dX1_stoneOf_13 : decode cX1_stoneOf 13 = .ok (.iaload, 1) := by decide +kernel
theorem dX1_stoneOf_14 : decode cX1_stoneOf 14 = .ok (.ireturn, 1) := by decide +kernel
set_option maxRecDepth 20000 in
theorem ggX1_leftOf_X1_requireSack : GoodIn wsX1_leftOf wsX1_requireSack := goodIn_ca (goodIn_r _ [6, 7, 8, 1, 9, 10, 11, 12, 13, 14, 15, 16, 17, 18, 19, 20, 21, 22, 23, 24, 25, 26] (by decide +kernel) (by decide +kernel)) (goodIn_sub (fun _ h => List.mem_cons_of_mem _ (List.mem_append_right _ h)) (by decide +kernel))
set_option maxRecDepth 20000 in
theorem gX1_leftOf_X1_requireSack : GoodIn wsX1_leftOf (wsV RX1 79 RX1 yX1_requireSack wsX1_requireSack) := goodIn_app (goodIn_of _ (by decide +kernel)) ggX1_leftOf_X1_requireSack
theorem dX1_leftOf_0 : decode cX1_leftOf 0 = .ok (.aload_n 0, 1) := by decide +kernel
theorem dX1_leftOf_1 : decode cX1_leftOf 1 = .ok (.iload_n 1, 1) := by decide +kernel
theorem dX1_leftOf_2 : decode cX1_leftOf 2 = .ok (.invokevirtual 79, 3) := by decide +kernel
theorem dX1_leftOf_5 : decode cX1_leftOf 5 = .ok (.aload_n 0, 1) := by decide +kernel
theorem dX1_leftOf_6 : decode cX1_leftOf 6 = .ok (.getfield 10, 3) := by decide +kernel
theorem dX1_leftOf_9 : decode cX1_leftOf 9 = .ok (.getfield 111, 3) := by decide +kernel
theorem dX1_leftOf_12 : decode cX1_leftOf 12 = .ok (.iload_n 1, 1) := by decide +kernel
theorem dX1_leftOf_13 : decode cX1_leftOf 13 = .ok (.iaload, 1) := by decide +kernel
theorem dX1_leftOf_14 : decode cX1_leftOf 14 = .ok (.ireturn, 1) := by decide +kernel
set_option maxRecDepth 20000 in
theorem ggX1_untilOf_X1_requireSack : GoodIn wsX1_untilOf wsX1_requireSack := goodIn_ca (goodIn_r _ [6, 7, 8, 1, 9, 10, 11, 12, 13, 14, 15, 16, 17, 18, 19, 20, 21, 22, 23, 24, 25, 26] (by decide +kernel) (by decide +kernel)) (goodIn_sub (fun _ h => List.mem_cons_of_mem _ (List.mem_append_right _ h)) (by decide +kernel))
set_option maxRecDepth 20000 in
theorem gX1_untilOf_X1_requireSack : GoodIn wsX1_untilOf (wsV RX1 79 RX1 yX1_requireSack wsX1_requireSack) := goodIn_app (goodIn_of _ (by decide +kernel)) ggX1_untilOf_X1_requireSack
theorem dX1_untilOf_0 : decode cX1_untilOf 0 = .ok (.aload_n 0, 1) := by decide +kernel
theorem dX1_untilOf_1 : decode cX1_untilOf 1 = .ok (.iload_n 1, 1) := by decide +kernel
theorem dX1_untilOf_2 : decode cX1_untilOf 2 = .ok (.invokevirtual 79, 3) := by decide +kernel
theorem dX1_untilOf_5 : decode cX1_untilOf 5 = .ok (.aload_n 0, 1) := by decide +kernel
theorem dX1_untilOf_6 : decode cX1_untilOf 6 = .ok (.getfield 10, 3) := by decide +kernel
theorem dX1_untilOf_9 : decode cX1_untilOf 9 = .ok (.getfield 90, 3) := by decide +kernel
theorem dX1_untilOf_12 : decode cX1_untilOf 12 = .ok (.iload_n 1, 1) := by decide +kernel
theorem dX1_untilOf_13 : decode cX1_untilOf 13 = .ok (.iaload, 1) := by decide +kernel
theorem dX1_untilOf_14 : decode cX1_untilOf 14 = .ok (.ireturn, 1) := by decide +kernel
set_option maxRecDepth 20000 in
theorem ggX1_groundAt_X1_requireSack : GoodIn wsX1_groundAt wsX1_requireSack := goodIn_ca (goodIn_r _ [6, 7, 8, 1, 9, 10, 11, 12, 13, 14, 15, 16, 17, 18, 19, 20, 21, 22, 23, 24, 25, 26] (by decide +kernel) (by decide +kernel)) (goodIn_sub (fun _ h => List.mem_cons_of_mem _ (List.mem_append_right _ h)) (by decide +kernel))
set_option maxRecDepth 20000 in
theorem gX1_groundAt_X1_requireSack : GoodIn wsX1_groundAt (wsV RX1 79 RX1 yX1_requireSack wsX1_requireSack) := goodIn_app (goodIn_of _ (by decide +kernel)) ggX1_groundAt_X1_requireSack
theorem dX1_groundAt_0 : decode cX1_groundAt 0 = .ok (.aload_n 0, 1) := by decide +kernel
theorem dX1_groundAt_1 : decode cX1_groundAt 1 = .ok (.iload_n 1, 1) := by decide +kernel
theorem dX1_groundAt_2 : decode cX1_groundAt 2 = .ok (.invokevirtual 79, 3) := by decide +kernel
theorem dX1_groundAt_5 : decode cX1_groundAt 5 = .ok (.aload_n 0, 1) := by decide +kernel
theorem dX1_groundAt_6 : decode cX1_groundAt 6 = .ok (.getfield 10, 3) := by decide +kernel
theorem dX1_groundAt_9 : decode cX1_groundAt 9 = .ok (.getfield 114, 3) := by decide +kernel
theorem dX1_groundAt_12 : decode cX1_groundAt 12 = .ok (.iload_n 1, 1) := by decide +kernel
theorem dX1_groundAt_13 : decode cX1_groundAt 13 = .ok (.iaload, 1) := by decide +kernel
theorem dX1_groundAt_14 : decode cX1_groundAt 14 = .ok (.ireturn, 1) := by decide +kernel
theorem dX1_ground_0 : decode cX1_ground 0 = .ok (.aload_n 0, 1) := by decide +kernel
theorem dX1_ground_1 : decode cX1_ground 1 = .ok (.getfield 10, 3) := by decide +kernel
theorem dX1_ground_4 : decode cX1_ground 4 = .ok (.getfield 117, 3) := by decide +kernel
theorem dX1_ground_7 : decode cX1_ground 7 = .ok (.ireturn, 1) := by decide +kernel
theorem dX1_changes_0 : decode cX1_changes 0 = .ok (.aload_n 0, 1) := by decide +kernel
theorem dX1_changes_1 : decode cX1_changes 1 = .ok (.getfield 10, 3) := by decide +kernel
theorem dX1_changes_4 : decode cX1_changes 4 = .ok (.getfield 120, 3) := by decide +kernel
theorem dX1_changes_7 : decode cX1_changes 7 = .ok (.ireturn, 1) := by decide +kernel
set_option maxRecDepth 20000 in
theorem ggX1_first_X0_firstByRule : GoodIn wsX1_first wsX0_firstByRule := goodIn_r _ [6, 7, 8, 9, 10, 11, 5, 12, 13, 14, 15, 16, 17, 18, 19, 22, 23, 24, 25, 26, 27, 28, 29, 30, 31, 32, 33, 34, 35, 36, 37] (by decide +kernel) (by decide +kernel)
set_option maxRecDepth 20000 in
theorem gX1_first_X0_firstByRule : GoodIn wsX1_first (wsV RX1 123 RX0 yX0_firstByRule wsX0_firstByRule) := goodIn_app (goodIn_of _ (by decide +kernel)) ggX1_first_X0_firstByRule
theorem dX1_first_0 : decode cX1_first 0 = .ok (.aload_n 0, 1) := by decide +kernel
theorem dX1_first_1 : decode cX1_first 1 = .ok (.getfield 10, 3) := by decide +kernel
theorem dX1_first_4 : decode cX1_first 4 = .ok (.iconst 0, 1) := by decide +kernel
theorem dX1_first_5 : decode cX1_first 5 = .ok (.invokevirtual 123, 3) := by decide +kernel
theorem dX1_first_8 : decode cX1_first 8 = .ok (.ireturn, 1) := by decide +kernel
set_option maxRecDepth 20000 in
theorem ggX1_placeOf_X1_requireSack : GoodIn wsX1_placeOf wsX1_requireSack := goodIn_ca (goodIn_r _ [6, 7, 8, 1, 27, 28, 29, 30, 31, 32, 33, 34, 35, 36, 37, 38, 39, 40, 41, 42, 43, 44] (by decide +kernel) (by decide +kernel)) (goodIn_sub (fun _ h => List.mem_cons_of_mem _ (List.mem_append_right _ h)) (by decide +kernel))
set_option maxRecDepth 20000 in
theorem gX1_placeOf_X1_requireSack : GoodIn wsX1_placeOf (wsV RX1 79 RX1 yX1_requireSack wsX1_requireSack) := goodIn_app (goodIn_of _ (by decide +kernel)) ggX1_placeOf_X1_requireSack
set_option maxRecDepth 20000 in
theorem ggX1_placeOf_X0_isGround : GoodIn wsX1_placeOf wsX0_isGround := goodIn_r _ [13, 14, 29, 30, 31, 32, 33, 34, 35, 36, 37, 38, 39, 40, 41, 42, 43, 44] (by decide +kernel) (by decide +kernel)
set_option maxRecDepth 20000 in
theorem gX1_placeOf_X0_isGround : GoodIn wsX1_placeOf (wsV RX1 127 RX0 yX0_isGround wsX0_isGround) := goodIn_app (goodIn_of _ (by decide +kernel)) ggX1_placeOf_X0_isGround
set_option maxRecDepth 20000 in
theorem ggX1_placeOf_X0_countAhead : GoodIn wsX1_placeOf wsX0_countAhead := goodIn_r _ [18, 19, 20, 10, 11, 12, 13, 14, 21, 22, 23, 24, 25, 26, 29, 30, 31, 32, 33, 34, 35, 36, 37, 38, 39, 40, 41, 42, 43, 44] (by decide +kernel) (by decide +kernel)
set_option maxRecDepth 20000 in
theorem gX1_placeOf_X0_countAhead : GoodIn wsX1_placeOf (wsV RX1 131 RX0 yX0_countAhead wsX0_countAhead) := goodIn_app (goodIn_of _ (by decide +kernel)) ggX1_placeOf_X0_countAhead
theorem dX1_placeOf_0 : decode cX1_placeOf 0 = .ok (.aload_n 0, 1) := by decide +kernel
theorem dX1_placeOf_1 : decode cX1_placeOf 1 = .ok (.iload_n 1, 1) := by decide +kernel
theorem dX1_placeOf_2 : decode cX1_placeOf 2 = .ok (.invokevirtual 79, 3) := by decide +kernel
theorem dX1_placeOf_5 : decode cX1_placeOf 5 = .ok (.aload_n 0, 1) := by decide +kernel
theorem dX1_placeOf_6 : decode cX1_placeOf 6 = .ok (.getfield 10, 3) := by decide +kernel
theorem dX1_placeOf_9 : decode cX1_placeOf 9 = .ok (.iload_n 1, 1) := by decide +kernel
theorem dX1_placeOf_10 : decode cX1_placeOf 10 = .ok (.invokevirtual 127, 3) := by decide +kernel
theorem dX1_placeOf_13 : decode cX1_placeOf 13 = .ok (.ifCond .eq 7, 3) := by decide +kernel
theorem dX1_placeOf_16 : decode cX1_placeOf 16 = .ok (.iconst (-1), 1) := by decide +kernel
theorem dX1_placeOf_17 : decode cX1_placeOf 17 = .ok (.goto 11, 3) := by decide +kernel
theorem dX1_placeOf_20 : decode cX1_placeOf 20 = .ok (.aload_n 0, 1) := by decide +kernel
theorem dX1_placeOf_21 : decode cX1_placeOf 21 = .ok (.getfield 10, 3) := by decide +kernel
theorem dX1_placeOf_24 : decode cX1_placeOf 24 = .ok (.iload_n 1, 1) := by decide +kernel
theorem dX1_placeOf_25 : decode cX1_placeOf 25 = .ok (.invokevirtual 131, 3) := by decide +kernel
theorem dX1_placeOf_28 : decode cX1_placeOf 28 = .ok (.ireturn, 1) := by decide +kernel
set_option maxRecDepth 20000 in
theorem ggX1_leftFor_X1_requireBaker : GoodIn wsX1_leftFor wsX1_requireBaker := goodIn_ca (goodIn_r _ [5, 6, 7] (by decide +kernel) (by decide +kernel)) (goodIn_sub (fun _ h => List.mem_cons_of_mem _ (List.mem_append_right _ h)) (by decide +kernel))
set_option maxRecDepth 20000 in
theorem gX1_leftFor_X1_requireBaker : GoodIn wsX1_leftFor (va_wsS RX1 61 yX1_requireBaker wsX1_requireBaker) := goodIn_app (goodIn_of _ (by decide +kernel)) ggX1_leftFor_X1_requireBaker
theorem dX1_leftFor_0 : decode cX1_leftFor 0 = .ok (.iload_n 1, 1) := by decide +kernel
theorem dX1_leftFor_1 : decode cX1_leftFor 1 = .ok (.invokestatic 61, 3) := by decide +kernel
theorem dX1_leftFor_4 : decode cX1_leftFor 4 = .ok (.iconst 0, 1) := by decide +kernel
theorem dX1_leftFor_5 : decode cX1_leftFor 5 = .ok (.istore_n 2, 1) := by decide +kernel
theorem dX1_leftFor_6 : decode cX1_leftFor 6 = .ok (.iconst 0, 1) := by decide +kernel
theorem dX1_leftFor_7 : decode cX1_leftFor 7 = .ok (.istore_n 3, 1) := by decide +kernel
theorem dX1_leftFor_8 : decode cX1_leftFor 8 = .ok (.iload_n 3, 1) := by decide +kernel
theorem dX1_leftFor_9 : decode cX1_leftFor 9 = .ok (.aload_n 0, 1) := by decide +kernel
theorem dX1_leftFor_10 : decode cX1_leftFor 10 = .ok (.getfield 10, 3) := by decide +kernel
theorem dX1_leftFor_13 : decode cX1_leftFor 13 = .ok (.getfield 70, 3) := by decide +kernel
theorem dX1_leftFor_16 : decode cX1_leftFor 16 = .ok (.if_icmp .ge 34, 3) := by decide +kernel
theorem dX1_leftFor_19 : decode cX1_leftFor 19 = .ok (.aload_n 0, 1) := by decide +kernel
theorem dX1_leftFor_20 : decode cX1_leftFor 20 = .ok (.getfield 10, 3) := by decide +kernel
theorem dX1_leftFor_23 : decode cX1_leftFor 23 = .ok (.getfield 134, 3) := by decide +kernel
theorem dX1_leftFor_26 : decode cX1_leftFor 26 = .ok (.iload_n 3, 1) := by decide +kernel
theorem dX1_leftFor_27 : decode cX1_leftFor 27 = .ok (.iaload, 1) := by decide +kernel
theorem dX1_leftFor_28 : decode cX1_leftFor 28 = .ok (.iload_n 1, 1) := by decide +kernel
theorem dX1_leftFor_29 : decode cX1_leftFor 29 = .ok (.if_icmp .ne 15, 3) := by decide +kernel
theorem dX1_leftFor_32 : decode cX1_leftFor 32 = .ok (.iload_n 2, 1) := by decide +kernel
theorem dX1_leftFor_33 : decode cX1_leftFor 33 = .ok (.aload_n 0, 1) := by decide +kernel
theorem dX1_leftFor_34 : decode cX1_leftFor 34 = .ok (.getfield 10, 3) := by decide +kernel
theorem dX1_leftFor_37 : decode cX1_leftFor 37 = .ok (.getfield 111, 3) := by decide +kernel
theorem dX1_leftFor_40 : decode cX1_leftFor 40 = .ok (.iload_n 3, 1) := by decide +kernel
theorem dX1_leftFor_41 : decode cX1_leftFor 41 = .ok (.iaload, 1) := by decide +kernel
theorem dX1_leftFor_42 : decode cX1_leftFor 42 = .ok (.iadd, 1) := by decide +kernel
theorem dX1_leftFor_43 : decode cX1_leftFor 43 = .ok (.istore_n 2, 1) := by decide +kernel
theorem dX1_leftFor_44 : decode cX1_leftFor 44 = .ok (.iinc 3 1, 3) := by decide +kernel
theorem dX1_leftFor_47 : decode cX1_leftFor 47 = .ok (.goto (-39), 3) := by decide +kernel
theorem dX1_leftFor_50 : decode cX1_leftFor 50 = .ok (.iload_n 2, 1) := by decide +kernel
theorem dX1_leftFor_51 : decode cX1_leftFor 51 = .ok (.ireturn, 1) := by decide +kernel
set_option maxRecDepth 20000 in
theorem ggX1_late_X0_hoursLate : GoodIn wsX1_late wsX0_hoursLate := goodIn_r _ [6, 7, 8, 9, 10, 11, 12, 13, 14, 15, 16, 5, 17, 18, 21, 22, 23, 24, 25, 26, 27, 28, 29, 30, 31, 32, 33, 34, 35, 36] (by decide +kernel) (by decide +kernel)
set_option maxRecDepth 20000 in
theorem gX1_late_X0_hoursLate : GoodIn wsX1_late (wsV RX1 137 RX0 yX0_hoursLate wsX0_hoursLate) := goodIn_app (goodIn_of _ (by decide +kernel)) ggX1_late_X0_hoursLate
theorem dX1_late_0 : decode cX1_late 0 = .ok (.aload_n 0, 1) := by decide +kernel
theorem dX1_late_1 : decode cX1_late 1 = .ok (.getfield 10, 3) := by decide +kernel
theorem dX1_late_4 : decode cX1_late 4 = .ok (.invokevirtual 137, 3) := by decide +kernel
theorem dX1_late_7 : decode cX1_late 7 = .ok (.ireturn, 1) := by decide +kernel
set_option maxRecDepth 20000 in
theorem ggX1_lateWith_X1_requireRule : GoodIn wsX1_lateWith wsX1_requireRule := goodIn_ca (goodIn_r _ [6, 7, 8] (by decide +kernel) (by decide +kernel)) (goodIn_sub (fun _ h => List.mem_cons_of_mem _ (List.mem_append_right _ h)) (by decide +kernel))
set_option maxRecDepth 20000 in
theorem gX1_lateWith_X1_requireRule : GoodIn wsX1_lateWith (va_wsS RX1 50 yX1_requireRule wsX1_requireRule) := goodIn_app (goodIn_of _ (by decide +kernel)) ggX1_lateWith_X1_requireRule
set_option maxRecDepth 20000 in
theorem ggX1_lateWith_X0_become : GoodIn wsX1_lateWith wsX0_become := goodIn_r _ [13, 14, 15, 16, 17, 18, 19, 20, 21, 22, 23, 24, 25, 26, 27, 28, 29, 30, 12, 31, 94, 95, 96, 97, 98, 99, 100, 101, 102, 103, 104, 105, 106, 107, 108, 109] (by decide +kernel) (by decide +kernel)
set_option maxRecDepth 20000 in
theorem gX1_lateWith_X0_become : GoodIn wsX1_lateWith (wsV RX1 143 RX0 yX0_become wsX0_become) := goodIn_app (goodIn_of _ (by decide +kernel)) ggX1_lateWith_X0_become
set_option maxRecDepth 20000 in
theorem ggX1_lateWith_X0_run : GoodIn wsX1_lateWith wsX0_run := goodIn_r _ [35, 22, 25, 24, 28, 36, 37, 38, 12, 39, 23, 16, 40, 41, 42, 43, 44, 45, 46, 47, 18, 48, 49, 50, 51, 27, 19, 52, 53, 54, 55, 20, 56, 57, 58, 59, 60, 26, 61, 62, 63, 64, 65, 66, 67, 68, 15, 69, 70, 71, 72, 73, 74, 75, 76, 14, 77, 78, 79, 80, 81, 82, 83, 84, 21, 94, 95, 96, 97, 98, 99, 100, 101, 102, 103, 104, 105, 106, 107, 108, 109] (by decide +kernel) (by decide +kernel)
set_option maxRecDepth 20000 in
theorem gX1_lateWith_X0_run : GoodIn wsX1_lateWith (wsV RX1 96 RX0 yX0_run wsX0_run) := goodIn_app (goodIn_of _ (by decide +kernel)) ggX1_lateWith_X0_run
set_option maxRecDepth 20000 in
theorem ggX1_lateWith_X0_hoursLate : GoodIn wsX1_lateWith wsX0_hoursLate := goodIn_r _ [88, 24, 21, 19, 89, 90, 71, 91, 44, 45, 46, 12, 47, 18, 94, 95, 96, 97, 98, 99, 100, 101, 102, 103, 104, 105, 106, 107, 108, 109] (by decide +kernel) (by decide +kernel)
set_option maxRecDepth 20000 in
theorem gX1_lateWith_X0_hoursLate : GoodIn wsX1_lateWith (wsV RX1 137 RX0 yX0_hoursLate wsX0_hoursLate) := goodIn_app (goodIn_of _ (by decide +kernel)) ggX1_lateWith_X0_hoursLate
theorem dX1_lateWith_0 : decode cX1_lateWith 0 = .ok (.iload_n 1, 1) := by decide +kernel
theorem dX1_lateWith_1 : decode cX1_lateWith 1 = .ok (.invokestatic 50, 3) := by decide +kernel
theorem dX1_lateWith_4 : decode cX1_lateWith 4 = .ok (.aload_n 0, 1) := by decide +kernel
theorem dX1_lateWith_5 : decode cX1_lateWith 5 = .ok (.getfield 16, 3) := by decide +kernel
theorem dX1_lateWith_8 : decode cX1_lateWith 8 = .ok (.aload_n 0, 1) := by decide +kernel
theorem dX1_lateWith_9 : decode cX1_lateWith 9 = .ok (.getfield 10, 3) := by decide +kernel
theorem dX1_lateWith_12 : decode cX1_lateWith 12 = .ok (.invokevirtual 143, 3) := by decide +kernel
theorem dX1_lateWith_15 : decode cX1_lateWith 15 = .ok (.aload_n 0, 1) := by decide +kernel
theorem dX1_lateWith_16 : decode cX1_lateWith 16 = .ok (.getfield 16, 3) := by decide +kernel
theorem dX1_lateWith_19 : decode cX1_lateWith 19 = .ok (.iload_n 1, 1) := by decide +kernel
theorem dX1_lateWith_20 : decode cX1_lateWith 20 = .ok (.putfield 54, 3) := by decide +kernel
theorem dX1_lateWith_23 : decode cX1_lateWith 23 = .ok (.aload_n 0, 1) := by decide +kernel
theorem dX1_lateWith_24 : decode cX1_lateWith 24 = .ok (.getfield 16, 3) := by decide +kernel
theorem dX1_lateWith_27 : decode cX1_lateWith 27 = .ok (.iload_n 2, 1) := by decide +kernel
theorem dX1_lateWith_28 : decode cX1_lateWith 28 = .ok (.putfield 57, 3) := by decide +kernel
theorem dX1_lateWith_31 : decode cX1_lateWith 31 = .ok (.aload_n 0, 1) := by decide +kernel
theorem dX1_lateWith_32 : decode cX1_lateWith 32 = .ok (.getfield 16, 3) := by decide +kernel
theorem dX1_lateWith_35 : decode cX1_lateWith 35 = .ok (.sipush 200, 3) := by decide +kernel
theorem dX1_lateWith_38 : decode cX1_lateWith 38 = .ok (.invokevirtual 96, 3) := by decide +kernel
theorem dX1_lateWith_41 : decode cX1_lateWith 41 = .ok (.pop, 1) := by decide +kernel
theorem dX1_lateWith_42 : decode cX1_lateWith 42 = .ok (.aload_n 0, 1) := by decide +kernel
theorem dX1_lateWith_43 : decode cX1_lateWith 43 = .ok (.getfield 16, 3) := by decide +kernel
theorem dX1_lateWith_46 : decode cX1_lateWith 46 = .ok (.invokevirtual 137, 3) := by decide +kernel
theorem dX1_lateWith_49 : decode cX1_lateWith 49 = .ok (.sipush 200, 3) := by decide +kernel
theorem dX1_lateWith_52 : decode cX1_lateWith 52 = .ok (.aload_n 0, 1) := by decide +kernel
theorem dX1_lateWith_53 : decode cX1_lateWith 53 = .ok (.getfield 16, 3) := by decide +kernel
theorem dX1_lateWith_56 : decode cX1_lateWith 56 = .ok (.getfield 70, 3) := by decide +kernel
theorem dX1_lateWith_59 : decode cX1_lateWith 59 = .ok (.aload_n 0, 1) := by decide +kernel
theorem dX1_lateWith_60 : decode cX1_lateWith 60 = .ok (.getfield 16, 3) := by decide +kernel
theorem dX1_lateWith_63 : decode cX1_lateWith 63 = .ok (.getfield 117, 3) := by decide +kernel
theorem dX1_lateWith_66 : decode cX1_lateWith 66 = .ok (.isub, 1) := by decide +kernel
theorem dX1_lateWith_67 : decode cX1_lateWith 67 = .ok (.imul, 1) := by decide +kernel
theorem dX1_lateWith_68 : decode cX1_lateWith 68 = .ok (.iadd, 1) := by decide +kernel
theorem dX1_lateWith_69 : decode cX1_lateWith 69 = .ok (.ireturn, 1) := by decide +kernel
theorem dX1_meanLeft_0 : decode cX1_meanLeft 0 = .ok (.aload_n 0, 1) := by decide +kernel
theorem dX1_meanLeft_1 : decode cX1_meanLeft 1 = .ok (.getfield 10, 3) := by decide +kernel
theorem dX1_meanLeft_4 : decode cX1_meanLeft 4 = .ok (.getfield 70, 3) := by decide +kernel
theorem dX1_meanLeft_7 : decode cX1_meanLeft 7 = .ok (.aload_n 0, 1) := by decide +kernel
theorem dX1_meanLeft_8 : decode cX1_meanLeft 8 = .ok (.getfield 10, 3) := by decide +kernel
theorem dX1_meanLeft_11 : decode cX1_meanLeft 11 = .ok (.getfield 117, 3) := by decide +kernel
theorem dX1_meanLeft_14 : decode cX1_meanLeft 14 = .ok (.isub, 1) := by decide +kernel
theorem dX1_meanLeft_15 : decode cX1_meanLeft 15 = .ok (.istore_n 1, 1) := by decide +kernel
theorem dX1_meanLeft_16 : decode cX1_meanLeft 16 = .ok (.iload_n 1, 1) := by decide +kernel
theorem dX1_meanLeft_17 : decode cX1_meanLeft 17 = .ok (.ifCond .gt 5, 3) := by decide +kernel
theorem dX1_meanLeft_20 : decode cX1_meanLeft 20 = .ok (.dconst 0, 1) := by decide +kernel
theorem dX1_meanLeft_21 : decode cX1_meanLeft 21 = .ok (.dreturn, 1) := by decide +kernel
theorem dX1_meanLeft_22 : decode cX1_meanLeft 22 = .ok (.iconst 0, 1) := by decide +kernel
theorem dX1_meanLeft_23 : decode cX1_meanLeft 23 = .ok (.istore_n 2, 1) := by decide +kernel
theorem dX1_meanLeft_24 : decode cX1_meanLeft 24 = .ok (.iconst 0, 1) := by decide +kernel
theorem dX1_meanLeft_25 : decode cX1_meanLeft 25 = .ok (.istore_n 3, 1) := by decide +kernel
theorem dX1_meanLeft_26 : decode cX1_meanLeft 26 = .ok (.iload_n 3, 1) := by decide +kernel
theorem dX1_meanLeft_27 : decode cX1_meanLeft 27 = .ok (.aload_n 0, 1) := by decide +kernel
theorem dX1_meanLeft_28 : decode cX1_meanLeft 28 = .ok (.getfield 10, 3) := by decide +kernel
theorem dX1_meanLeft_31 : decode cX1_meanLeft 31 = .ok (.getfield 70, 3) := by decide +kernel
theorem dX1_meanLeft_34 : decode cX1_meanLeft 34 = .ok (.if_icmp .ge 21, 3) := by decide +kernel
theorem dX1_meanLeft_37 : decode cX1_meanLeft 37 = .ok (.iload_n 2, 1) := by decide +kernel
theorem dX1_meanLeft_38 : decode cX1_meanLeft 38 = .ok (.aload_n 0, 1) := by decide +kernel
theorem dX1_meanLeft_39 : decode cX1_meanLeft 39 = .ok (.getfield 10, 3) := by decide +kernel
theorem dX1_meanLeft_42 : decode cX1_meanLeft 42 = .ok (.getfield 111, 3) := by decide +kernel
theorem dX1_meanLeft_45 : decode cX1_meanLeft 45 = .ok (.iload_n 3, 1) := by decide +kernel
theorem dX1_meanLeft_46 : decode cX1_meanLeft 46 = .ok (.iaload, 1) := by decide +kernel
theorem dX1_meanLeft_47 : decode cX1_meanLeft 47 = .ok (.iadd, 1) := by decide +kernel
theorem dX1_meanLeft_48 : decode cX1_meanLeft 48 = .ok (.istore_n 2, 1) := by decide +kernel
theorem dX1_meanLeft_49 : decode cX1_meanLeft 49 = .ok (.iinc 3 1, 3) := by decide +kernel
theorem dX1_meanLeft_52 : decode cX1_meanLeft 52 = .ok (.goto (-26), 3) := by decide +kernel
theorem dX1_meanLeft_55 : decode cX1_meanLeft 55 = .ok (.iload_n 2, 1) := by decide +kernel
theorem dX1_meanLeft_56 : decode cX1_meanLeft 56 = .ok (.i2d, 1) := by decide +kernel
theorem dX1_meanLeft_57 : decode cX1_meanLeft 57 = .ok (.iload_n 1, 1) := by decide +kernel
theorem dX1_meanLeft_58 : decode cX1_meanLeft 58 = .ok (.i2d, 1) := by decide +kernel
theorem dX1_meanLeft_59 : decode cX1_meanLeft 59 = .ok (.ddiv, 1) := by decide +kernel
theorem dX1_meanLeft_60 : decode cX1_meanLeft 60 = .ok (.dreturn, 1) := by decide +kernel
theorem dX1_requireSack_0 : decode cX1_requireSack 0 = .ok (.iload_n 1, 1) := by decide +kernel
theorem dX1_requireSack_1 : decode cX1_requireSack 1 = .ok (.ifCond .lt 14, 3) := by decide +kernel
theorem dX1_requireSack_4 : decode cX1_requireSack 4 = .ok (.iload_n 1, 1) := by decide +kernel
theorem dX1_requireSack_5 : decode cX1_requireSack 5 = .ok (.aload_n 0, 1) := by decide +kernel
theorem dX1_requireSack_6 : decode cX1_requireSack 6 = .ok (.getfield 10, 3) := by decide +kernel
theorem dX1_requireSack_9 : decode cX1_requireSack 9 = .ok (.getfield 70, 3) := by decide +kernel
theorem dX1_requireSack_12 : decode cX1_requireSack 12 = .ok (.if_icmp .lt 13, 3) := by decide +kernel
theorem dX1_requireSack_15 : decode cX1_requireSack 15 = .ok (.new 39, 3) := by decide +kernel
theorem dX1_requireSack_18 : decode cX1_requireSack 18 = .ok (.dup, 1) := by decide +kernel
theorem dX1_requireSack_19 : decode cX1_requireSack 19 = .ok (.ldc 215, 2) := by decide +kernel
theorem dX1_requireSack_21 : decode cX1_requireSack 21 = .ok (.invokespecial 43, 3) := by decide +kernel
theorem dX1_requireSack_24 : decode cX1_requireSack 24 = .ok (.athrow, 1) := by decide +kernel
theorem dX1_requireSack_25 : decode cX1_requireSack 25 = .ok (.return_, 1) := by decide +kernel
theorem dX1_requireRule_0 : decode cX1_requireRule 0 = .ok (.iload_n 0, 1) := by decide +kernel
theorem dX1_requireRule_1 : decode cX1_requireRule 1 = .ok (.ifCond .lt 8, 3) := by decide +kernel
theorem dX1_requireRule_4 : decode cX1_requireRule 4 = .ok (.iload_n 0, 1) := by decide +kernel
theorem dX1_requireRule_5 : decode cX1_requireRule 5 = .ok (.iconst 3, 1) := by decide +kernel
theorem dX1_requireRule_6 : decode cX1_requireRule 6 = .ok (.if_icmp .lt 13, 3) := by decide +kernel
theorem dX1_requireRule_9 : decode cX1_requireRule 9 = .ok (.new 19, 3) := by decide +kernel
theorem dX1_requireRule_12 : decode cX1_requireRule 12 = .ok (.dup, 1) := by decide +kernel
theorem dX1_requireRule_13 : decode cX1_requireRule 13 = .ok (.ldc 217, 2) := by decide +kernel
theorem dX1_requireRule_15 : decode cX1_requireRule 15 = .ok (.invokespecial 23, 3) := by decide +kernel
theorem dX1_requireRule_18 : decode cX1_requireRule 18 = .ok (.athrow, 1) := by decide +kernel
theorem dX1_requireRule_19 : decode cX1_requireRule 19 = .ok (.return_, 1) := by decide +kernel
theorem dX1_requireBaker_0 : decode cX1_requireBaker 0 = .ok (.iload_n 0, 1) := by decide +kernel
theorem dX1_requireBaker_1 : decode cX1_requireBaker 1 = .ok (.ifCond .lt 9, 3) := by decide +kernel
theorem dX1_requireBaker_4 : decode cX1_requireBaker 4 = .ok (.iload_n 0, 1) := by decide +kernel
theorem dX1_requireBaker_5 : decode cX1_requireBaker 5 = .ok (.bipush 8, 2) := by decide +kernel
theorem dX1_requireBaker_7 : decode cX1_requireBaker 7 = .ok (.if_icmp .lt 13, 3) := by decide +kernel
theorem dX1_requireBaker_10 : decode cX1_requireBaker 10 = .ok (.new 19, 3) := by decide +kernel
theorem dX1_requireBaker_13 : decode cX1_requireBaker 13 = .ok (.dup, 1) := by decide +kernel
theorem dX1_requireBaker_14 : decode cX1_requireBaker 14 = .ok (.ldc 219, 2) := by decide +kernel
theorem dX1_requireBaker_16 : decode cX1_requireBaker 16 = .ok (.invokespecial 23, 3) := by decide +kernel
theorem dX1_requireBaker_19 : decode cX1_requireBaker 19 = .ok (.athrow, 1) := by decide +kernel
theorem dX1_requireBaker_20 : decode cX1_requireBaker 20 = .ok (.return_, 1) := by decide +kernel
theorem dX1_requireGrain_0 : decode cX1_requireGrain 0 = .ok (.iload_n 0, 1) := by decide +kernel
theorem dX1_requireGrain_1 : decode cX1_requireGrain 1 = .ok (.iconst 1, 1) := by decide +kernel
theorem dX1_requireGrain_2 : decode cX1_requireGrain 2 = .ok (.if_icmp .lt 9, 3) := by decide +kernel
theorem dX1_requireGrain_5 : decode cX1_requireGrain 5 = .ok (.iload_n 0, 1) := by decide +kernel
theorem dX1_requireGrain_6 : decode cX1_requireGrain 6 = .ok (.bipush 60, 2) := by decide +kernel
theorem dX1_requireGrain_8 : decode cX1_requireGrain 8 = .ok (.if_icmp .le 13, 3) := by decide +kernel
theorem dX1_requireGrain_11 : decode cX1_requireGrain 11 = .ok (.new 19, 3) := by decide +kernel
theorem dX1_requireGrain_14 : decode cX1_requireGrain 14 = .ok (.dup, 1) := by decide +kernel
theorem dX1_requireGrain_15 : decode cX1_requireGrain 15 = .ok (.ldc 221, 2) := by decide +kernel
theorem dX1_requireGrain_17 : decode cX1_requireGrain 17 = .ok (.invokespecial 23, 3) := by decide +kernel
theorem dX1_requireGrain_20 : decode cX1_requireGrain 20 = .ok (.athrow, 1) := by decide +kernel
theorem dX1_requireGrain_21 : decode cX1_requireGrain 21 = .ok (.return_, 1) := by decide +kernel
theorem dX1_requireUntil_0 : decode cX1_requireUntil 0 = .ok (.iload_n 0, 1) := by decide +kernel
theorem dX1_requireUntil_1 : decode cX1_requireUntil 1 = .ok (.iconst 1, 1) := by decide +kernel
theorem dX1_requireUntil_2 : decode cX1_requireUntil 2 = .ok (.if_icmp .lt 10, 3) := by decide +kernel
theorem dX1_requireUntil_5 : decode cX1_requireUntil 5 = .ok (.iload_n 0, 1) := by decide +kernel
theorem dX1_requireUntil_6 : decode cX1_requireUntil 6 = .ok (.sipush 200, 3) := by decide +kernel
theorem dX1_requireUntil_9 : decode cX1_requireUntil 9 = .ok (.if_icmp .le 13, 3) := by decide +kernel
theorem dX1_requireUntil_12 : decode cX1_requireUntil 12 = .ok (.new 19, 3) := by decide +kernel
theorem dX1_requireUntil_15 : decode cX1_requireUntil 15 = .ok (.dup, 1) := by decide +kernel
theorem dX1_requireUntil_16 : decode cX1_requireUntil 16 = .ok (.ldc 223, 2) := by decide +kernel
theorem dX1_requireUntil_18 : decode cX1_requireUntil 18 = .ok (.invokespecial 23, 3) := by decide +kernel
theorem dX1_requireUntil_21 : decode cX1_requireUntil 21 = .ok (.athrow, 1) := by decide +kernel
theorem dX1_requireUntil_22 : decode cX1_requireUntil 22 = .ok (.return_, 1) := by decide +kernel
theorem dX1_requireHours_0 : decode cX1_requireHours 0 = .ok (.iload_n 0, 1) := by decide +kernel
theorem dX1_requireHours_1 : decode cX1_requireHours 1 = .ok (.iconst 1, 1) := by decide +kernel
theorem dX1_requireHours_2 : decode cX1_requireHours 2 = .ok (.if_icmp .lt 9, 3) := by decide +kernel
theorem dX1_requireHours_5 : decode cX1_requireHours 5 = .ok (.iload_n 0, 1) := by decide +kernel
theorem dX1_requireHours_6 : decode cX1_requireHours 6 = .ok (.bipush 60, 2) := by decide +kernel
theorem dX1_requireHours_8 : decode cX1_requireHours 8 = .ok (.if_icmp .le 13, 3) := by decide +kernel
theorem dX1_requireHours_11 : decode cX1_requireHours 11 = .ok (.new 19, 3) := by decide +kernel
theorem dX1_requireHours_14 : decode cX1_requireHours 14 = .ok (.dup, 1) := by decide +kernel
theorem dX1_requireHours_15 : decode cX1_requireHours 15 = .ok (.ldc 225, 2) := by decide +kernel
theorem dX1_requireHours_17 : decode cX1_requireHours 17 = .ok (.invokespecial 23, 3) := by decide +kernel
theorem dX1_requireHours_20 : decode cX1_requireHours 20 = .ok (.athrow, 1) := by decide +kernel
theorem dX1_requireHours_21 : decode cX1_requireHours 21 = .ok (.return_, 1) := by decide +kernel
