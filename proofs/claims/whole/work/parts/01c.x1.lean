set_option maxRecDepth 20000 in
theorem ggX1_init_X0_init : GoodIn wsX1_init wsX0_init := goodIn_r _ [11, 12, 2, 3, 13, 14, 15, 16, 17, 18, 19, 20, 21, 22, 23, 24, 25, 26, 27, 28, 29, 30, 31, 32, 33, 34, 35, 36, 37, 38, 39, 40, 41, 42, 43, 44, 45, 46] (by decide +kernel) (by decide +kernel)
set_option maxRecDepth 20000 in
theorem gX1_init_X0_init : GoodIn wsX1_init (wsX0_init) := ggX1_init_X0_init
theorem dX1_init_0 : decode cX1_init 0 = .ok (.aload_n 0, 1) := by decide +kernel
theorem dX1_init_1 : decode cX1_init 1 = .ok (.invokespecial 1, 3) := by decide +kernel
theorem dX1_init_4 : decode cX1_init 4 = .ok (.aload_n 0, 1) := by decide +kernel
theorem dX1_init_5 : decode cX1_init 5 = .ok (.new 7, 3) := by decide +kernel
theorem dX1_init_8 : decode cX1_init 8 = .ok (.dup, 1) := by decide +kernel
theorem dX1_init_9 : decode cX1_init 9 = .ok (.invokespecial 9, 3) := by decide +kernel
theorem dX1_init_12 : decode cX1_init 12 = .ok (.putfield 10, 3) := by decide +kernel
theorem dX1_init_15 : decode cX1_init 15 = .ok (.aload_n 0, 1) := by decide +kernel
theorem dX1_init_16 : decode cX1_init 16 = .ok (.new 7, 3) := by decide +kernel
theorem dX1_init_19 : decode cX1_init 19 = .ok (.dup, 1) := by decide +kernel
theorem dX1_init_20 : decode cX1_init 20 = .ok (.invokespecial 9, 3) := by decide +kernel
theorem dX1_init_23 : decode cX1_init 23 = .ok (.putfield 16, 3) := by decide +kernel
theorem dX1_init_26 : decode cX1_init 26 = .ok (.return_, 1) := by decide +kernel
set_option maxRecDepth 20000 in
theorem ggX1_addStone_X0_placeStone : GoodIn wsX1_addStone wsX0_placeStone := goodIn_r _ [10, 11, 12, 13, 16, 17, 18, 19, 20, 21, 22, 23, 24, 25, 26, 27, 28, 29, 30, 31] (by decide +kernel) (by decide +kernel)
set_option maxRecDepth 20000 in
theorem gX1_addStone_X0_placeStone : GoodIn wsX1_addStone (wsV RX1 35 RX0 yX0_placeStone wsX0_placeStone) := goodIn_app (goodIn_of _ (by decide +kernel)) ggX1_addStone_X0_placeStone
theorem dX1_addStone_0 : decode cX1_addStone 0 = .ok (.iload_n 1, 1) := by decide +kernel
theorem dX1_addStone_1 : decode cX1_addStone 1 = .ok (.iconst 1, 1) := by decide +kernel
theorem dX1_addStone_2 : decode cX1_addStone 2 = .ok (.if_icmp .lt 9, 3) := by decide +kernel
theorem dX1_addStone_5 : decode cX1_addStone 5 = .ok (.iload_n 1, 1) := by decide +kernel
theorem dX1_addStone_6 : decode cX1_addStone 6 = .ok (.bipush 9, 2) := by decide +kernel
theorem dX1_addStone_8 : decode cX1_addStone 8 = .ok (.if_icmp .le 13, 3) := by decide +kernel
theorem dX1_addStone_11 : decode cX1_addStone 11 = .ok (.new 19, 3) := by decide +kernel
theorem dX1_addStone_14 : decode cX1_addStone 14 = .ok (.dup, 1) := by decide +kernel
theorem dX1_addStone_15 : decode cX1_addStone 15 = .ok (.ldc 21, 2) := by decide +kernel
theorem dX1_addStone_17 : decode cX1_addStone 17 = .ok (.invokespecial 23, 3) := by decide +kernel
theorem dX1_addStone_20 : decode cX1_addStone 20 = .ok (.athrow, 1) := by decide +kernel
theorem dX1_addStone_21 : decode cX1_addStone 21 = .ok (.aload_n 0, 1) := by decide +kernel
theorem dX1_addStone_22 : decode cX1_addStone 22 = .ok (.getfield 10, 3) := by decide +kernel
theorem dX1_addStone_25 : decode cX1_addStone 25 = .ok (.getfield 26, 3) := by decide +kernel
theorem dX1_addStone_28 : decode cX1_addStone 28 = .ok (.iconst 4, 1) := by decide +kernel
theorem dX1_addStone_29 : decode cX1_addStone 29 = .ok (.if_icmp .lt 13, 3) := by decide +kernel
theorem dX1_addStone_32 : decode cX1_addStone 32 = .ok (.new 30, 3) := by decide +kernel
theorem dX1_addStone_35 : decode cX1_addStone 35 = .ok (.dup, 1) := by decide +kernel
theorem dX1_addStone_36 : decode cX1_addStone 36 = .ok (.ldc 32, 2) := by decide +kernel
theorem dX1_addStone_38 : decode cX1_addStone 38 = .ok (.invokespecial 34, 3) := by decide +kernel
theorem dX1_addStone_41 : decode cX1_addStone 41 = .ok (.athrow, 1) := by decide +kernel
theorem dX1_addStone_42 : decode cX1_addStone 42 = .ok (.aload_n 0, 1) := by decide +kernel
theorem dX1_addStone_43 : decode cX1_addStone 43 = .ok (.getfield 10, 3) := by decide +kernel
theorem dX1_addStone_46 : decode cX1_addStone 46 = .ok (.iload_n 1, 1) := by decide +kernel
theorem dX1_addStone_47 : decode cX1_addStone 47 = .ok (.invokevirtual 35, 3) := by decide +kernel
theorem dX1_addStone_50 : decode cX1_addStone 50 = .ok (.ireturn, 1) := by decide +kernel
theorem dX1_setWind_0 : decode cX1_setWind 0 = .ok (.iload_n 1, 1) := by decide +kernel
theorem dX1_setWind_1 : decode cX1_setWind 1 = .ok (.ifCond .lt 9, 3) := by decide +kernel
theorem dX1_setWind_4 : decode cX1_setWind 4 = .ok (.iload_n 1, 1) := by decide +kernel
theorem dX1_setWind_5 : decode cX1_setWind 5 = .ok (.bipush 12, 2) := by decide +kernel
theorem dX1_setWind_7 : decode cX1_setWind 7 = .ok (.if_icmp .lt 13, 3) := by decide +kernel
theorem dX1_setWind_10 : decode cX1_setWind 10 = .ok (.new 39, 3) := by decide +kernel
theorem dX1_setWind_13 : decode cX1_setWind 13 = .ok (.dup, 1) := by decide +kernel
theorem dX1_setWind_14 : decode cX1_setWind 14 = .ok (.ldc 41, 2) := by decide +kernel
theorem dX1_setWind_16 : decode cX1_setWind 16 = .ok (.invokespecial 43, 3) := by decide +kernel
theorem dX1_setWind_19 : decode cX1_setWind 19 = .ok (.athrow, 1) := by decide +kernel
theorem dX1_setWind_20 : decode cX1_setWind 20 = .ok (.iload_n 2, 1) := by decide +kernel
theorem dX1_setWind_21 : decode cX1_setWind 21 = .ok (.ifCond .lt 9, 3) := by decide +kernel
theorem dX1_setWind_24 : decode cX1_setWind 24 = .ok (.iload_n 2, 1) := by decide +kernel
theorem dX1_setWind_25 : decode cX1_setWind 25 = .ok (.bipush 20, 2) := by decide +kernel
theorem dX1_setWind_27 : decode cX1_setWind 27 = .ok (.if_icmp .le 13, 3) := by decide +kernel
theorem dX1_setWind_30 : decode cX1_setWind 30 = .ok (.new 19, 3) := by decide +kernel
theorem dX1_setWind_33 : decode cX1_setWind 33 = .ok (.dup, 1) := by decide +kernel
theorem dX1_setWind_34 : decode cX1_setWind 34 = .ok (.ldc 44, 2) := by decide +kernel
theorem dX1_setWind_36 : decode cX1_setWind 36 = .ok (.invokespecial 23, 3) := by decide +kernel
theorem dX1_setWind_39 : decode cX1_setWind 39 = .ok (.athrow, 1) := by decide +kernel
theorem dX1_setWind_40 : decode cX1_setWind 40 = .ok (.aload_n 0, 1) := by decide +kernel
theorem dX1_setWind_41 : decode cX1_setWind 41 = .ok (.getfield 10, 3) := by decide +kernel
theorem dX1_setWind_44 : decode cX1_setWind 44 = .ok (.getfield 46, 3) := by decide +kernel
theorem dX1_setWind_47 : decode cX1_setWind 47 = .ok (.iload_n 1, 1) := by decide +kernel
theorem dX1_setWind_48 : decode cX1_setWind 48 = .ok (.iaload, 1) := by decide +kernel
theorem dX1_setWind_49 : decode cX1_setWind 49 = .ok (.istore_n 3, 1) := by decide +kernel
theorem dX1_setWind_50 : decode cX1_setWind 50 = .ok (.aload_n 0, 1) := by decide +kernel
theorem dX1_setWind_51 : decode cX1_setWind 51 = .ok (.getfield 10, 3) := by decide +kernel
theorem dX1_setWind_54 : decode cX1_setWind 54 = .ok (.getfield 46, 3) := by decide +kernel
theorem dX1_setWind_57 : decode cX1_setWind 57 = .ok (.iload_n 1, 1) := by decide +kernel
theorem dX1_setWind_58 : decode cX1_setWind 58 = .ok (.iload_n 2, 1) := by decide +kernel
theorem dX1_setWind_59 : decode cX1_setWind 59 = .ok (.iastore, 1) := by decide +kernel
theorem dX1_setWind_60 : decode cX1_setWind 60 = .ok (.iload_n 3, 1) := by decide +kernel
theorem dX1_setWind_61 : decode cX1_setWind 61 = .ok (.ireturn, 1) := by decide +kernel
set_option maxRecDepth 20000 in
theorem ggX1_setRule_X1_requireRule : GoodIn wsX1_setRule wsX1_requireRule := goodIn_ca (goodIn_r _ [5, 6, 7] (by decide +kernel) (by decide +kernel)) (goodIn_sub (fun _ h => List.mem_cons_of_mem _ (List.mem_append_right _ h)) (by decide +kernel))
set_option maxRecDepth 20000 in
theorem gX1_setRule_X1_requireRule : GoodIn wsX1_setRule (va_wsS RX1 50 yX1_requireRule wsX1_requireRule) := goodIn_app (goodIn_of _ (by decide +kernel)) ggX1_setRule_X1_requireRule
theorem dX1_setRule_0 : decode cX1_setRule 0 = .ok (.iload_n 1, 1) := by decide +kernel
theorem dX1_setRule_1 : decode cX1_setRule 1 = .ok (.invokestatic 50, 3) := by decide +kernel
theorem dX1_setRule_4 : decode cX1_setRule 4 = .ok (.aload_n 0, 1) := by decide +kernel
theorem dX1_setRule_5 : decode cX1_setRule 5 = .ok (.getfield 10, 3) := by decide +kernel
theorem dX1_setRule_8 : decode cX1_setRule 8 = .ok (.getfield 54, 3) := by decide +kernel
theorem dX1_setRule_11 : decode cX1_setRule 11 = .ok (.istore_n 2, 1) := by decide +kernel
theorem dX1_setRule_12 : decode cX1_setRule 12 = .ok (.aload_n 0, 1) := by decide +kernel
theorem dX1_setRule_13 : decode cX1_setRule 13 = .ok (.getfield 10, 3) := by decide +kernel
theorem dX1_setRule_16 : decode cX1_setRule 16 = .ok (.iload_n 1, 1) := by decide +kernel
theorem dX1_setRule_17 : decode cX1_setRule 17 = .ok (.putfield 54, 3) := by decide +kernel
theorem dX1_setRule_20 : decode cX1_setRule 20 = .ok (.iload_n 2, 1) := by decide +kernel
theorem dX1_setRule_21 : decode cX1_setRule 21 = .ok (.ireturn, 1) := by decide +kernel
theorem dX1_setTakingOff_0 : decode cX1_setTakingOff 0 = .ok (.aload_n 0, 1) := by decide +kernel
theorem dX1_setTakingOff_1 : decode cX1_setTakingOff 1 = .ok (.getfield 10, 3) := by decide +kernel
theorem dX1_setTakingOff_4 : decode cX1_setTakingOff 4 = .ok (.getfield 57, 3) := by decide +kernel
theorem dX1_setTakingOff_7 : decode cX1_setTakingOff 7 = .ok (.istore_n 2, 1) := by decide +kernel
theorem dX1_setTakingOff_8 : decode cX1_setTakingOff 8 = .ok (.aload_n 0, 1) := by decide +kernel
theorem dX1_setTakingOff_9 : decode cX1_setTakingOff 9 = .ok (.getfield 10, 3) := by decide +kernel
theorem dX1_setTakingOff_12 : decode cX1_setTakingOff 12 = .ok (.iload_n 1, 1) := by decide +kernel
theorem dX1_setTakingOff_13 : decode cX1_setTakingOff 13 = .ok (.putfield 57, 3) := by decide +kernel
theorem dX1_setTakingOff_16 : decode cX1_setTakingOff 16 = .ok (.iload_n 2, 1) := by decide +kernel
theorem dX1_setTakingOff_17 : decode cX1_setTakingOff 17 = .ok (.ireturn, 1) := by decide +kernel
set_option maxRecDepth 20000 in
theorem ggX1_bring_X1_requireBaker : GoodIn wsX1_bring wsX1_requireBaker := goodIn_ca (goodIn_r _ [7, 8, 9] (by decide +kernel) (by decide +kernel)) (goodIn_sub (fun _ h => List.mem_cons_of_mem _ (List.mem_append_right _ h)) (by decide +kernel))
set_option maxRecDepth 20000 in
theorem gX1_bring_X1_requireBaker : GoodIn wsX1_bring (va_wsS RX1 61 yX1_requireBaker wsX1_requireBaker) := goodIn_app (goodIn_of _ (by decide +kernel)) ggX1_bring_X1_requireBaker
set_option maxRecDepth 20000 in
theorem ggX1_bring_X1_requireGrain : GoodIn wsX1_bring wsX1_requireGrain := goodIn_ca (goodIn_r _ [12, 8, 9] (by decide +kernel) (by decide +kernel)) (goodIn_sub (fun _ h => List.mem_cons_of_mem _ (List.mem_append_right _ h)) (by decide +kernel))
set_option maxRecDepth 20000 in
theorem gX1_bring_X1_requireGrain : GoodIn wsX1_bring (va_wsS RX1 64 yX1_requireGrain wsX1_requireGrain) := goodIn_app (goodIn_of _ (by decide +kernel)) ggX1_bring_X1_requireGrain
set_option maxRecDepth 20000 in
theorem ggX1_bring_X1_requireUntil : GoodIn wsX1_bring wsX1_requireUntil := goodIn_ca (goodIn_r _ [15, 8, 9] (by decide +kernel) (by decide +kernel)) (goodIn_sub (fun _ h => List.mem_cons_of_mem _ (List.mem_append_right _ h)) (by decide +kernel))
set_option maxRecDepth 20000 in
theorem gX1_bring_X1_requireUntil : GoodIn wsX1_bring (va_wsS RX1 67 yX1_requireUntil wsX1_requireUntil) := goodIn_app (goodIn_of _ (by decide +kernel)) ggX1_bring_X1_requireUntil
set_option maxRecDepth 20000 in
theorem ggX1_bring_X0_storeSack : GoodIn wsX1_bring wsX0_storeSack := goodIn_r _ [20, 21, 22, 23, 24, 25, 26, 29, 30, 31, 32, 33, 34, 35, 36, 37, 38, 39, 40, 41, 42, 43, 44] (by decide +kernel) (by decide +kernel)
set_option maxRecDepth 20000 in
theorem gX1_bring_X0_storeSack : GoodIn wsX1_bring (wsV RX1 75 RX0 yX0_storeSack wsX0_storeSack) := goodIn_app (goodIn_of _ (by decide +kernel)) ggX1_bring_X0_storeSack
theorem dX1_bring_0 : decode cX1_bring 0 = .ok (.iload_n 1, 1) := by decide +kernel
theorem dX1_bring_1 : decode cX1_bring 1 = .ok (.invokestatic 61, 3) := by decide +kernel
theorem dX1_bring_4 : decode cX1_bring 4 = .ok (.iload_n 2, 1) := by decide +kernel
theorem dX1_bring_5 : decode cX1_bring 5 = .ok (.invokestatic 64, 3) := by decide +kernel
theorem dX1_bring_8 : decode cX1_bring 8 = .ok (.iload_n 3, 1) := by decide +kernel
theorem dX1_bring_9 : decode cX1_bring 9 = .ok (.invokestatic 67, 3) := by decide +kernel
theorem dX1_bring_12 : decode cX1_bring 12 = .ok (.aload_n 0, 1) := by decide +kernel
theorem dX1_bring_13 : decode cX1_bring 13 = .ok (.getfield 10, 3) := by decide +kernel
theorem dX1_bring_16 : decode cX1_bring 16 = .ok (.getfield 70, 3) := by decide +kernel
theorem dX1_bring_19 : decode cX1_bring 19 = .ok (.bipush 16, 2) := by decide +kernel
theorem dX1_bring_21 : decode cX1_bring 21 = .ok (.if_icmp .lt 13, 3) := by decide +kernel
theorem dX1_bring_24 : decode cX1_bring 24 = .ok (.new 30, 3) := by decide +kernel
theorem dX1_bring_27 : decode cX1_bring 27 = .ok (.dup, 1) := by decide +kernel
theorem dX1_bring_28 : decode cX1_bring 28 = .ok (.ldc 73, 2) := by decide +kernel
theorem dX1_bring_30 : decode cX1_bring 30 = .ok (.invokespecial 34, 3) := by decide +kernel
theorem dX1_bring_33 : decode cX1_bring 33 = .ok (.athrow, 1) := by decide +kernel
theorem dX1_bring_34 : decode cX1_bring 34 = .ok (.aload_n 0, 1) := by decide +kernel
theorem dX1_bring_35 : decode cX1_bring 35 = .ok (.getfield 10, 3) := by decide +kernel
theorem dX1_bring_38 : decode cX1_bring 38 = .ok (.iload_n 1, 1) := by decide +kernel
theorem dX1_bring_39 : decode cX1_bring 39 = .ok (.iload_n 2, 1) := by decide +kernel
theorem dX1_bring_40 : decode cX1_bring 40 = .ok (.iload_n 3, 1) := by decide +kernel
theorem dX1_bring_41 : decode cX1_bring 41 = .ok (.invokevirtual 75, 3) := by decide +kernel
theorem dX1_bring_44 : decode cX1_bring 44 = .ok (.ireturn, 1) := by decide +kernel
set_option maxRecDepth 20000 in
theorem ggX1_lift_X1_requireSack : GoodIn wsX1_lift wsX1_requireSack := goodIn_ca (goodIn_r _ [8, 9, 10, 3, 18, 19, 20, 21, 22, 23, 24, 25, 26, 27, 28, 29, 30, 31, 32, 33, 34, 35] (by decide +kernel) (by decide +kernel)) (goodIn_sub (fun _ h => List.mem_cons_of_mem _ (List.mem_append_right _ h)) (by decide +kernel))
set_option maxRecDepth 20000 in
theorem gX1_lift_X1_requireSack : GoodIn wsX1_lift (wsV RX1 79 RX1 yX1_requireSack wsX1_requireSack) := goodIn_app (goodIn_of _ (by decide +kernel)) ggX1_lift_X1_requireSack
set_option maxRecDepth 20000 in
theorem ggX1_lift_X0_clearStone : GoodIn wsX1_lift wsX0_clearStone := goodIn_r _ [15, 16, 17, 20, 21, 22, 23, 24, 25, 26, 27, 28, 29, 30, 31, 32, 33, 34, 35] (by decide +kernel) (by decide +kernel)
set_option maxRecDepth 20000 in
theorem gX1_lift_X0_clearStone : GoodIn wsX1_lift (wsV RX1 87 RX0 yX0_clearStone wsX0_clearStone) := goodIn_app (goodIn_of _ (by decide +kernel)) ggX1_lift_X0_clearStone
theorem dX1_lift_0 : decode cX1_lift 0 = .ok (.aload_n 0, 1) := by decide +kernel
theorem dX1_lift_1 : decode cX1_lift 1 = .ok (.iload_n 1, 1) := by decide +kernel
theorem dX1_lift_2 : decode cX1_lift 2 = .ok (.invokevirtual 79, 3) := by decide +kernel
theorem dX1_lift_5 : decode cX1_lift 5 = .ok (.aload_n 0, 1) := by decide +kernel
theorem dX1_lift_6 : decode cX1_lift 6 = .ok (.getfield 10, 3) := by decide +kernel
theorem dX1_lift_9 : decode cX1_lift 9 = .ok (.getfield 82, 3) := by decide +kernel
theorem dX1_lift_12 : decode cX1_lift 12 = .ok (.iload_n 1, 1) := by decide +kernel
theorem dX1_lift_13 : decode cX1_lift 13 = .ok (.iaload, 1) := by decide +kernel
theorem dX1_lift_14 : decode cX1_lift 14 = .ok (.istore_n 2, 1) := by decide +kernel
theorem dX1_lift_15 : decode cX1_lift 15 = .ok (.iload_n 2, 1) := by decide +kernel
theorem dX1_lift_16 : decode cX1_lift 16 = .ok (.iconst (-1), 1) := by decide +kernel
theorem dX1_lift_17 : decode cX1_lift 17 = .ok (.if_icmp .ne 13, 3) := by decide +kernel
theorem dX1_lift_20 : decode cX1_lift 20 = .ok (.new 30, 3) := by decide +kernel
theorem dX1_lift_23 : decode cX1_lift 23 = .ok (.dup, 1) := by decide +kernel
theorem dX1_lift_24 : decode cX1_lift 24 = .ok (.ldc 85, 2) := by decide +kernel
theorem dX1_lift_26 : decode cX1_lift 26 = .ok (.invokespecial 34, 3) := by decide +kernel
theorem dX1_lift_29 : decode cX1_lift 29 = .ok (.athrow, 1) := by decide +kernel
theorem dX1_lift_30 : decode cX1_lift 30 = .ok (.aload_n 0, 1) := by decide +kernel
theorem dX1_lift_31 : decode cX1_lift 31 = .ok (.getfield 10, 3) := by decide +kernel
theorem dX1_lift_34 : decode cX1_lift 34 = .ok (.iload_n 2, 1) := by decide +kernel
theorem dX1_lift_35 : decode cX1_lift 35 = .ok (.invokevirtual 87, 3) := by decide +kernel
theorem dX1_lift_38 : decode cX1_lift 38 = .ok (.iload_n 2, 1) := by decide +kernel
theorem dX1_lift_39 : decode cX1_lift 39 = .ok (.ireturn, 1) := by decide +kernel
set_option maxRecDepth 20000 in
theorem ggX1_setUntil_X1_requireSack : GoodIn wsX1_setUntil wsX1_requireSack := goodIn_ca (goodIn_r _ [6, 7, 8, 1, 14, 15, 16, 17, 18, 19, 20, 21, 22, 23, 24, 25, 26, 27, 28, 29, 30, 31] (by decide +kernel) (by decide +kernel)) (goodIn_sub (fun _ h => List.mem_cons_of_mem _ (List.mem_append_left _ (List.mem_append_right _ h))) (by decide +kernel))
set_option maxRecDepth 20000 in
theorem gX1_setUntil_X1_requireSack : GoodIn wsX1_setUntil (wsV RX1 79 RX1 yX1_requireSack wsX1_requireSack) := goodIn_app (goodIn_of _ (by decide +kernel)) ggX1_setUntil_X1_requireSack
set_option maxRecDepth 20000 in
theorem ggX1_setUntil_X1_requireUntil : GoodIn wsX1_setUntil wsX1_requireUntil := goodIn_ca (goodIn_r _ [11, 12, 13] (by decide +kernel) (by decide +kernel)) (goodIn_sub (fun _ h => List.mem_cons_of_mem _ (List.mem_append_right _ h)) (by decide +kernel))
set_option maxRecDepth 20000 in
theorem gX1_setUntil_X1_requireUntil : GoodIn wsX1_setUntil (va_wsS RX1 67 yX1_requireUntil wsX1_requireUntil) := goodIn_app (goodIn_of _ (by decide +kernel)) ggX1_setUntil_X1_requireUntil
theorem dX1_setUntil_0 : decode cX1_setUntil 0 = .ok (.aload_n 0, 1) := by decide +kernel
theorem dX1_setUntil_1 : decode cX1_setUntil 1 = .ok (.iload_n 1, 1) := by decide +kernel
theorem dX1_setUntil_2 : decode cX1_setUntil 2 = .ok (.invokevirtual 79, 3) := by decide +kernel
theorem dX1_setUntil_5 : decode cX1_setUntil 5 = .ok (.iload_n 2, 1) := by decide +kernel
theorem dX1_setUntil_6 : decode cX1_setUntil 6 = .ok (.invokestatic 67, 3) := by decide +kernel
theorem dX1_setUntil_9 : decode cX1_setUntil 9 = .ok (.aload_n 0, 1) := by decide +kernel
theorem dX1_setUntil_10 : decode cX1_setUntil 10 = .ok (.getfield 10, 3) := by decide +kernel
theorem dX1_setUntil_13 : decode cX1_setUntil 13 = .ok (.getfield 90, 3) := by decide +kernel
theorem dX1_setUntil_16 : decode cX1_setUntil 16 = .ok (.iload_n 1, 1) := by decide +kernel
theorem dX1_setUntil_17 : decode cX1_setUntil 17 = .ok (.iaload, 1) := by decide +kernel
theorem dX1_setUntil_18 : decode cX1_setUntil 18 = .ok (.istore_n 3, 1) := by decide +kernel
theorem dX1_setUntil_19 : decode cX1_setUntil 19 = .ok (.aload_n 0, 1) := by decide +kernel
theorem dX1_setUntil_20 : decode cX1_setUntil 20 = .ok (.getfield 10, 3) := by decide +kernel
theorem dX1_setUntil_23 : decode cX1_setUntil 23 = .ok (.getfield 90, 3) := by decide +kernel
theorem dX1_setUntil_26 : decode cX1_setUntil 26 = .ok (.iload_n 1, 1) := by decide +kernel
theorem dX1_setUntil_27 : decode cX1_setUntil 27 = .ok (.iload_n 2, 1) := by decide +kernel
theorem dX1_setUntil_28 : decode cX1_setUntil 28 = .ok (.iastore, 1) := by decide +kernel
theorem dX1_setUntil_29 : decode cX1_setUntil 29 = .ok (.iload_n 3, 1) := by decide +kernel
theorem dX1_setUntil_30 : decode cX1_setUntil 30 = .ok (.ireturn, 1) := by decide +kernel
set_option maxRecDepth 20000 in
theorem ggX1_pass_X1_requireHours : GoodIn wsX1_pass wsX1_requireHours := goodIn_ca (goodIn_r _ [5, 6, 7] (by decide +kernel) (by decide +kernel)) (goodIn_sub (fun _ h => List.mem_cons_of_mem _ (List.mem_append_right _ h)) (by decide +kernel))
set_option maxRecDepth 20000 in
theorem gX1_pass_X1_requireHours : GoodIn wsX1_pass (va_wsS RX1 93 yX1_requireHours wsX1_requireHours) := goodIn_app (goodIn_of _ (by decide +kernel)) ggX1_pass_X1_requireHours
set_option maxRecDepth 20000 in
theorem ggX1_pass_X0_run : GoodIn wsX1_pass wsX0_run := goodIn_r _ [12, 13, 14, 15, 16, 17, 18, 19, 11, 20, 21, 22, 23, 24, 25, 26, 27, 28, 29, 30, 31, 32, 33, 34, 35, 36, 37, 38, 39, 40, 41, 42, 43, 44, 45, 46, 47, 48, 49, 50, 51, 52, 53, 54, 55, 56, 57, 58, 59, 60, 61, 62, 63, 64, 65, 66, 67, 68, 69, 70, 71, 72, 73, 74, 75, 78, 79, 80, 81, 82, 83, 84, 85, 86, 87, 88, 89, 90, 91, 92, 93] (by decide +kernel) (by decide +kernel)
set_option maxRecDepth 20000 in
theorem gX1_pass_X0_run : GoodIn wsX1_pass (wsV RX1 96 RX0 yX0_run wsX0_run) := goodIn_app (goodIn_of _ (by decide +kernel)) ggX1_pass_X0_run
theorem dX1_pass_0 : decode cX1_pass 0 = .ok (.iload_n 1, 1) := by decide +kernel
theorem dX1_pass_1 : decode cX1_pass 1 = .ok (.invokestatic 93, 3) := by decide +kernel
theorem dX1_pass_4 : decode cX1_pass 4 = .ok (.aload_n 0, 1) := by decide +kernel
theorem dX1_pass_5 : decode cX1_pass 5 = .ok (.getfield 10, 3) := by decide +kernel
theorem dX1_pass_8 : decode cX1_pass 8 = .ok (.iload_n 1, 1) := by decide +kernel
theorem dX1_pass_9 : decode cX1_pass 9 = .ok (.invokevirtual 96, 3) := by decide +kernel
theorem dX1_pass_12 : decode cX1_pass 12 = .ok (.ireturn, 1) := by decide +kernel
theorem dX1_hour_0 : decode cX1_hour 0 = .ok (.aload_n 0, 1) := by decide +kernel
theorem dX1_hour_1 : decode cX1_hour 1 = .ok (.getfield 10, 3) := by decide +kernel
theorem dX1_hour_4 : decode cX1_hour 4 = .ok (.getfield 99, 3) := by decide +kernel
theorem dX1_hour_7 : decode cX1_hour 7 = .ok (.ireturn, 1) := by decide +kernel
theorem dX1_stones_0 : decode cX1_stones 0 = .ok (.aload_n 0, 1) := by decide +kernel
theorem dX1_stones_1 : decode cX1_stones 1 = .ok (.getfield 10, 3) := by decide +kernel
theorem dX1_stones_4 : decode cX1_stones 4 = .ok (.getfield 26, 3) := by decide +kernel
theorem dX1_stones_7 : decode cX1_stones 7 = .ok (.ireturn, 1) := by decide +kernel
theorem dX1_sacks_0 : decode cX1_sacks 0 = .ok (.aload_n 0, 1) := by decide +kernel
theorem dX1_sacks_1 : decode cX1_sacks 1 = .ok (.getfield 10, 3) := by decide +kernel
theorem dX1_sacks_4 : decode cX1_sacks 4 = .ok (.getfield 70, 3) := by decide +kernel
theorem dX1_sacks_7 : decode cX1_sacks 7 = .ok (.ireturn, 1) := by decide +kernel
theorem dX1_rule_0 : decode cX1_rule 0 = .ok (.aload_n 0, 1) := by decide +kernel
theorem dX1_rule_1 : decode cX1_rule 1 = .ok (.getfield 10, 3) := by decide +kernel
theorem dX1_rule_4 : decode cX1_rule 4 = .ok (.getfield 54, 3) := by decide +kernel
theorem dX1_rule_7 : decode cX1_rule 7 = .ok (.ireturn, 1) := by decide +kernel
set_option maxRecDepth 20000 in
theorem ggX1_wind_X0_windOfHour : GoodIn wsX1_wind wsX0_windOfHour := goodIn_r _ [6, 7, 8, 9, 10, 11, 12, 15, 16, 17, 18, 19, 20, 21, 22, 23, 24, 25, 26, 27, 28, 29, 30] (by decide +kernel) (by decide +kernel)
set_option maxRecDepth 20000 in
theorem gX1_wind_X0_windOfHour : GoodIn wsX1_wind (wsV RX1 102 RX0 yX0_windOfHour wsX0_windOfHour) := goodIn_app (goodIn_of _ (by decide +kernel)) ggX1_wind_X0_windOfHour
theorem dX1_wind_0 : decode cX1_wind 0 = .ok (.aload_n 0, 1) := by decide +kernel
theorem dX1_wind_1 : decode cX1_wind 1 = .ok (.getfield 10, 3) := by decide +kernel
theorem dX1_wind_4 : decode cX1_wind 4 = .ok (.invokevirtual 102, 3) := by decide +kernel
theorem dX1_wind_7 : decode cX1_wind 7 = .ok (.ireturn, 1) := by decide +kernel
theorem dX1_sackOn_0 : decode cX1_sackOn 0 = .ok (.iload_n 1, 1) := by decide +kernel
theorem dX1_sackOn_1 : decode cX1_sackOn 1 = .ok (.ifCond .lt 14, 3) := by decide +kernel
theorem dX1_sackOn_4 : decode cX1_sackOn 4 = .ok (.iload_n 1, 1) := by decide +kernel
theorem dX1_sackOn_5 : decode cX1_sackOn 5 = .ok (.aload_n 0, 1) := by decide +kernel
theorem dX1_sackOn_6 : decode cX1_sackOn 6 = .ok (.getfield 10, 3) := by decide +kernel
theorem dX1_sackOn_9 : decode cX1_sackOn 9 = .ok (.getfield 26, 3) := by decide +kernel
theorem dX1_sackOn_12 : decode cX1_sackOn 12 = .ok (.if_icmp .lt 13, 3) := by decide +kernel
theorem dX1_sackOn_15 : decode cX1_sackOn 15 = .ok (.new 39, 3) := by decide +kernel
theorem dX1_sackOn_18 : decode cX1_sackOn 18 = .ok (.dup, 1) := by decide +kernel
theorem dX1_sackOn_19 : decode cX1_sackOn 19 = .ok (.ldc 106, 2) := by decide +kernel
theorem dX1_sackOn_21 : decode cX1_sackOn 21 = .ok (.invokespecial 43, 3) := by decide +kernel
theorem dX1_sackOn_24 : decode cX1_sackOn 24 = .ok (.athrow, 1) := by decide +kernel
theorem dX1_sackOn_25 : decode cX1_sackOn 25 = .ok (.aload_n 0, 1) := by decide +kernel
theorem dX1_sackOn_26 : decode cX1_sackOn 26 = .ok (.getfield 10, 3) := by decide +kernel
theorem dX1_sackOn_29 : decode cX1_sackOn 29 = .ok (.getfield 108, 3) := by decide +kernel
theorem dX1_sackOn_32 : decode cX1_sackOn 32 = .ok (.iload_n 1, 1) := by decide +kernel
theorem dX1_sackOn_33 : decode cX1_sackOn 33 = .ok (.iaload, 1) := by decide +kernel
theorem dX1_sackOn_34 : decode cX1_sackOn 34 = .ok (.ireturn, 1) := by decide +kernel
set_option maxRecDepth 20000 in
theorem ggX1_stoneOf_X1_requireSack : GoodIn wsX1_stoneOf wsX1_requireSack := goodIn_ca (goodIn_r _ [6, 7, 8, 1, 9, 10, 11, 12, 13, 14, 15, 16, 17, 18, 19, 20, 21, 22, 23, 24, 25, 26] (by decide +kernel) (by decide +kernel)) (goodIn_sub (fun _ h => List.mem_cons_of_mem _ (List.mem_append_right _ h)) (by decide +kernel))
set_option maxRecDepth 20000 in
theorem gX1_stoneOf_X1_requireSack : GoodIn wsX1_stoneOf (wsV RX1 79 RX1 yX1_requireSack wsX1_requireSack) := goodIn_app (goodIn_of _ (by decide +kernel)) ggX1_stoneOf_X1_requireSack
theorem dX1_stoneOf_0 : decode cX1_stoneOf 0 = .ok (.aload_n 0, 1) := by decide +kernel
theorem dX1_stoneOf_1 : decode cX1_stoneOf 1 = .ok (.iload_n 1, 1) := by decide +kernel
theorem dX1_stoneOf_2 : decode cX1_stoneOf 2 = .ok (.invokevirtual 79, 3) := by decide +kernel
theorem dX1_stoneOf_5 : decode cX1_stoneOf 5 = .ok (.aload_n 0, 1) := by decide +kernel
theorem dX1_stoneOf_6 : decode cX1_stoneOf 6 = .ok (.getfield 10, 3) := by decide +kernel
theorem dX1_stoneOf_9 : decode cX1_stoneOf 9 = .ok (.getfield 82, 3) := by decide +kernel
theorem dX1_stoneOf_12 : decode cX1_stoneOf 12 = .ok (.iload_n 1, 1) := by decide +kernel
theorem dX1_stoneOf_13 : decode cX1_stoneOf 13 = .ok (.iaload, 1) := by decide +kernel
theorem dX1_stoneOf_14 : decode cX1_stoneOf 14 = .ok (.ireturn, 1) := by decide +kernel
set_option maxRecDepth 20000 in
theorem ggX1_leftOf_X1_requireSack : GoodIn wsX1_leftOf wsX1_requireSack := goodIn_ca (goodIn_r _ [6, 7, 8, 1, 9, 10, 11, 12, 13, 14, 15, 16, 17, 18, 19, 20, 21, 22, 23, 24, 25, 26] (by decide +kernel) (by decide +kernel)) (goodIn_sub (fun _ h => List.mem_cons_of_mem _ (List.mem_append_right _ h)) (by decide +kernel))
set_option maxRecDepth 20000 in
theorem gX1_leftOf_X1_requireSack : GoodIn wsX1_leftOf (wsV RX1 79 RX1 yX1_requireSack wsX1_requireSack) := goodIn_app (goodIn_of _ (by decide +kernel)) ggX1_leftOf_X1_requireSack
theorem dX1_leftOf_0 : decode cX1_leftOf 0 = .ok (.aload_n 0, 1) := by decide +kernel
theorem dX1_leftOf_1 : decode cX1_leftOf 1 = .ok (.iload_n 1, 1) := by decide +kernel
theorem dX1_leftOf_2 : decode cX1_leftOf 2 = .ok (.invokevirtual 79, 3) := by decide +kernel
theorem dX1_leftOf_5 : decode cX1_leftOf 5 = .ok (.aload_n 0, 1) := by decide +kernel
theorem dX1_leftOf_6 : decode cX1_leftOf 6 = .ok (.getfield 10, 3) := by decide +kernel
theorem dX1_leftOf_9 : decode cX1_leftOf 9 = .ok (.getfield 111, 3) := by decide +kernel
theorem dX1_leftOf_12 : decode cX1_leftOf 12 = .ok (.iload_n 1, 1) := by decide +kernel
theorem dX1_leftOf_13 : decode cX1_leftOf 13 = .ok (.iaload, 1) := by decide +kernel
theorem dX1_leftOf_14 : decode cX1_leftOf 14 = .ok (.ireturn, 1) := by decide +kernel
set_option maxRecDepth 20000 in
theorem ggX1_untilOf_X1_requireSack : GoodIn wsX1_untilOf wsX1_requireSack := goodIn_ca (goodIn_r _ [6, 7, 8, 1, 9, 10, 11, 12, 13, 14, 15, 16, 17, 18, 19, 20, 21, 22, 23, 24, 25, 26] (by decide +kernel) (by decide +kernel)) (goodIn_sub (fun _ h => List.mem_cons_of_mem _ (List.mem_append_right _ h)) (by decide +kernel))
set_option maxRecDepth 20000 in
theorem gX1_untilOf_X1_requireSack : GoodIn wsX1_untilOf (wsV RX1 79 RX1 yX1_requireSack wsX1_requireSack) := goodIn_app (goodIn_of _ (by decide +kernel)) ggX1_untilOf_X1_requireSack
theorem dX1_untilOf_0 : decode cX1_untilOf 0 = .ok (.aload_n 0, 1) := by decide +kernel
theorem dX1_untilOf_1 : decode cX1_untilOf 1 = .ok (.iload_n 1, 1) := by decide +kernel
theorem dX1_untilOf_2 : decode cX1_untilOf 2 = .ok (.invokevirtual 79, 3) := by decide +kernel
theorem dX1_untilOf_5 : decode cX1_untilOf 5 = .ok (.aload_n 0, 1) := by decide +kernel
theorem dX1_untilOf_6 : decode cX1_untilOf 6 = .ok (.getfield 10, 3) := by decide +kernel
theorem dX1_untilOf_9 : decode cX1_untilOf 9 = .ok (.getfield 90, 3) := by decide +kernel
theorem dX1_untilOf_12 : decode cX1_untilOf 12 = .ok (.iload_n 1, 1) := by decide +kernel
theorem dX1_untilOf_13 : decode cX1_untilOf 13 = .ok (.iaload, 1) := by decide +kernel
theorem dX1_untilOf_14 : decode cX1_untilOf 14 = .ok (.ireturn, 1) := by decide +kernel
set_option maxRecDepth 20000 in
theorem ggX1_groundAt_X1_requireSack : GoodIn wsX1_groundAt wsX1_requireSack := goodIn_ca (goodIn_r _ [6, 7, 8, 1, 9, 10, 11, 12, 13, 14, 15, 16, 17, 18, 19, 20, 21, 22, 23, 24, 25, 26] (by decide +kernel) (by decide +kernel)) (goodIn_sub (fun _ h => List.mem_cons_of_mem _ (List.mem_append_right _ h)) (by decide +kernel))
set_option maxRecDepth 20000 in
theorem gX1_groundAt_X1_requireSack : GoodIn wsX1_groundAt (wsV RX1 79 RX1 yX1_requireSack wsX1_requireSack) := goodIn_app (goodIn_of _ (by decide +kernel)) ggX1_groundAt_X1_requireSack
theorem dX1_groundAt_0 : decode cX1_groundAt 0 = .ok (.aload_n 0, 1) := by decide +kernel
theorem dX1_groundAt_1 : decode cX1_groundAt 1 = .ok (.iload_n 1, 1) := by decide +kernel
theorem dX1_groundAt_2 : decode cX1_groundAt 2 = .ok (.invokevirtual 79, 3) := by decide +kernel
theorem dX1_groundAt_5 : decode cX1_groundAt 5 = .ok (.aload_n 0, 1) := by decide +kernel
theorem dX1_groundAt_6 : decode cX1_groundAt 6 = .ok (.getfield 10, 3) := by decide +kernel
theorem dX1_groundAt_9 : decode cX1_groundAt 9 = .ok (.getfield 114, 3) := by decide +kernel
theorem dX1_groundAt_12 : decode cX1_groundAt 12 = .ok (.iload_n 1, 1) := by decide +kernel
theorem dX1_groundAt_13 : decode cX1_groundAt 13 = .ok (.iaload, 1) := by decide +kernel
theorem dX1_groundAt_14 : decode cX1_groundAt 14 = .ok (.ireturn, 1) := by decide +kernel
theorem dX1_ground_0 : decode cX1_ground 0 = .ok (.aload_n 0, 1) := by decide +kernel
theorem dX1_ground_1 : decode cX1_ground 1 = .ok (.getfield 10, 3) := by decide +kernel
theorem dX1_ground_4 : decode cX1_ground 4 = .ok (.getfield 117, 3) := by decide +kernel
theorem dX1_ground_7 : decode cX1_ground 7 = .ok (.ireturn, 1) := by decide +kernel
theorem dX1_changes_0 : decode cX1_changes 0 = .ok (.aload_n 0, 1) := by decide +kernel
theorem dX1_changes_1 : decode cX1_changes 1 = .ok (.getfield 10, 3) := by decide +kernel
theorem dX1_changes_4 : decode cX1_changes 4 = .ok (.getfield 120, 3) := by decide +kernel
theorem dX1_changes_7 : decode cX1_changes 7 = .ok (.ireturn, 1) := by decide +kernel
set_option maxRecDepth 20000 in
theorem ggX1_first_X0_firstByRule : GoodIn wsX1_first wsX0_firstByRule := goodIn_r _ [6, 7, 8, 9, 10, 11, 5, 12, 13, 14, 15, 16, 17, 18, 19, 22, 23, 24, 25, 26, 27, 28, 29, 30, 31, 32, 33, 34, 35, 36, 37] (by decide +kernel) (by decide +kernel)
set_option maxRecDepth 20000 in
theorem gX1_first_X0_firstByRule : GoodIn wsX1_first (wsV RX1 123 RX0 yX0_firstByRule wsX0_firstByRule) := goodIn_app (goodIn_of _ (by decide +kernel)) ggX1_first_X0_firstByRule
theorem dX1_first_0 : decode cX1_first 0 = .ok (.aload_n 0, 1) := by decide +kernel
theorem dX1_first_1 : decode cX1_first 1 = .ok (.getfield 10, 3) := by decide +kernel
theorem dX1_first_4 : decode cX1_first 4 = .ok (.iconst 0, 1) := by decide +kernel
theorem dX1_first_5 : decode cX1_first 5 = .ok (.invokevirtual 123, 3) := by decide +kernel
theorem dX1_first_8 : decode cX1_first 8 = .ok (.ireturn, 1) := by decide +kernel
set_option maxRecDepth 20000 in
theorem ggX1_placeOf_X1_requireSack : GoodIn wsX1_placeOf wsX1_requireSack := goodIn_ca (goodIn_r _ [6, 7, 8, 1, 27, 28, 29, 30, 31, 32, 33, 34, 35, 36, 37, 38, 39, 40, 41, 42, 43, 44] (by decide +kernel) (by decide +kernel)) (goodIn_sub (fun _ h => List.mem_cons_of_mem _ (List.mem_append_right _ h)) (by decide +kernel))
set_option maxRecDepth 20000 in
theorem gX1_placeOf_X1_requireSack : GoodIn wsX1_placeOf (wsV RX1 79 RX1 yX1_requireSack wsX1_requireSack) := goodIn_app (goodIn_of _ (by decide +kernel)) ggX1_placeOf_X1_requireSack
set_option maxRecDepth 20000 in
theorem ggX1_placeOf_X0_isGround : GoodIn wsX1_placeOf wsX0_isGround := goodIn_r _ [13, 14, 29, 30, 31, 32, 33, 34, 35, 36, 37, 38, 39, 40, 41, 42, 43, 44] (by decide +kernel) (by decide +kernel)
set_option maxRecDepth 20000 in
theorem gX1_placeOf_X0_isGround : GoodIn wsX1_placeOf (wsV RX1 127 RX0 yX0_isGround wsX0_isGround) := goodIn_app (goodIn_of _ (by decide +kernel)) ggX1_placeOf_X0_isGround
set_option maxRecDepth 20000 in
theorem ggX1_placeOf_X0_countAhead : GoodIn wsX1_placeOf wsX0_countAhead := goodIn_r _ [18, 19, 20, 10, 11, 12, 13, 14, 21, 22, 23, 24, 25, 26, 29, 30, 31, 32, 33, 34, 35, 36, 37, 38, 39, 40, 41, 42, 43, 44] (by decide +kernel) (by decide +kernel)
set_option maxRecDepth 20000 in
theorem gX1_placeOf_X0_countAhead : GoodIn wsX1_placeOf (wsV RX1 131 RX0 yX0_countAhead wsX0_countAhead) := goodIn_app (goodIn_of _ (by decide +kernel)) ggX1_placeOf_X0_countAhead
theorem dX1_placeOf_0 : decode cX1_placeOf 0 = .ok (.aload_n 0, 1) := by decide +kernel
theorem dX1_placeOf_1 : decode cX1_placeOf 1 = .ok (.iload_n 1, 1) := by decide +kernel
theorem dX1_placeOf_2 : decode cX1_placeOf 2 = .ok (.invokevirtual 79, 3) := by decide +kernel
theorem dX1_placeOf_5 : decode cX1_placeOf 5 = .ok (.aload_n 0, 1) := by decide +kernel
theorem dX1_placeOf_6 : decode cX1_placeOf 6 = .ok (.getfield 10, 3) := by decide +kernel
theorem dX1_placeOf_9 : decode cX1_placeOf 9 = .ok (.iload_n 1, 1) := by decide +kernel
theorem dX1_placeOf_10 : decode cX1_placeOf 10 = .ok (.invokevirtual 127, 3) := by decide +kernel
theorem dX1_placeOf_13 : decode cX1_placeOf 13 = .ok (.ifCond .eq 7, 3) := by decide +kernel
theorem dX1_placeOf_16 : decode cX1_placeOf 16 = .ok (.iconst (-1), 1) := by decide +kernel
theorem dX1_placeOf_17 : decode cX1_placeOf 17 = .ok (.goto 11, 3) := by decide +kernel
theorem dX1_placeOf_20 : decode cX1_placeOf 20 = .ok (.aload_n 0, 1) := by decide +kernel
theorem dX1_placeOf_21 : decode cX1_placeOf 21 = .ok (.getfield 10, 3) := by decide +kernel
theorem dX1_placeOf_24 : decode cX1_placeOf 24 = .ok (.iload_n 1, 1) := by decide +kernel
theorem dX1_placeOf_25 : decode cX1_placeOf 25 = .ok (.invokevirtual 131, 3) := by decide +kernel
theorem dX1_placeOf_28 : decode cX1_placeOf 28 = .ok (.ireturn, 1) := by decide +kernel
set_option maxRecDepth 20000 in
theorem ggX1_leftFor_X1_requireBaker : GoodIn wsX1_leftFor wsX1_requireBaker := goodIn_ca (goodIn_r _ [5, 6, 7] (by decide +kernel) (by decide +kernel)) (goodIn_sub (fun _ h => List.mem_cons_of_mem _ (List.mem_append_right _ h)) (by decide +kernel))
set_option maxRecDepth 20000 in
theorem gX1_leftFor_X1_requireBaker : GoodIn wsX1_leftFor (va_wsS RX1 61 yX1_requireBaker wsX1_requireBaker) := goodIn_app (goodIn_of _ (by decide +kernel)) ggX1_leftFor_X1_requireBaker
theorem dX1_leftFor_0 : decode cX1_leftFor 0 = .ok (.iload_n 1, 1) := by decide +kernel
theorem dX1_leftFor_1 : decode cX1_leftFor 1 = .ok (.invokestatic 61, 3) := by decide +kernel
theorem dX1_leftFor_4 : decode cX1_leftFor 4 = .ok (.iconst 0, 1) := by decide +kernel
theorem dX1_leftFor_5 : decode cX1_leftFor 5 = .ok (.istore_n 2, 1) := by decide +kernel
theorem dX1_leftFor_6 : decode cX1_leftFor 6 = .ok (.iconst 0, 1) := by decide +kernel
theorem dX1_leftFor_7 : decode cX1_leftFor 7 = .ok (.istore_n 3, 1) := by decide +kernel
theorem dX1_leftFor_8 : decode cX1_leftFor 8 = .ok (.iload_n 3, 1) := by decide +kernel
theorem dX1_leftFor_9 : decode cX1_leftFor 9 = .ok (.aload_n 0, 1) := by decide +kernel
theorem dX1_leftFor_10 : decode cX1_leftFor 10 = .ok (.getfield 10, 3) := by decide +kernel
theorem dX1_leftFor_13 : decode cX1_leftFor 13 = .ok (.getfield 70, 3) := by decide +kernel
theorem dX1_leftFor_16 : decode cX1_leftFor 16 = .ok (.if_icmp .ge 34, 3) := by decide +kernel
theorem dX1_leftFor_19 : decode cX1_leftFor 19 = .ok (.aload_n 0, 1) := by decide +kernel
theorem dX1_leftFor_20 : decode cX1_leftFor 20 = .ok (.getfield 10, 3) := by decide +kernel
theorem dX1_leftFor_23 : decode cX1_leftFor 23 = .ok (.getfield 134, 3) := by decide +kernel
theorem dX1_leftFor_26 : decode cX1_leftFor 26 = .ok (.iload_n 3, 1) := by decide +kernel
theorem dX1_leftFor_27 : decode cX1_leftFor 27 = .ok (.iaload, 1) := by decide +kernel
theorem dX1_leftFor_28 : decode cX1_leftFor 28 = .ok (.iload_n 1, 1) := by decide +kernel
theorem dX1_leftFor_29 : decode cX1_leftFor 29 = .ok (.if_icmp .ne 15, 3) := by decide +kernel
theorem dX1_leftFor_32 : decode cX1_leftFor 32 = .ok (.iload_n 2, 1) := by decide +kernel
theorem dX1_leftFor_33 : decode cX1_leftFor 33 = .ok (.aload_n 0, 1) := by decide +kernel
theorem dX1_leftFor_34 : decode cX1_leftFor 34 = .ok (.getfield 10, 3) := by decide +kernel
theorem dX1_leftFor_37 : decode cX1_leftFor 37 = .ok (.getfield 111, 3) := by decide +kernel
theorem dX1_leftFor_40 : decode cX1_leftFor 40 = .ok (.iload_n 3, 1) := by decide +kernel
theorem dX1_leftFor_41 : decode cX1_leftFor 41 = .ok (.iaload, 1) := by decide +kernel
theorem dX1_leftFor_42 : decode cX1_leftFor 42 = .ok (.iadd, 1) := by decide +kernel
theorem dX1_leftFor_43 : decode cX1_leftFor 43 = .ok (.istore_n 2, 1) := by decide +kernel
theorem dX1_leftFor_44 : decode cX1_leftFor 44 = .ok (.iinc 3 1, 3) := by decide +kernel
theorem dX1_leftFor_47 : decode cX1_leftFor 47 = .ok (.goto (-39), 3) := by decide +kernel
theorem dX1_leftFor_50 : decode cX1_leftFor 50 = .ok (.iload_n 2, 1) := by decide +kernel
theorem dX1_leftFor_51 : decode cX1_leftFor 51 = .ok (.ireturn, 1) := by decide +kernel
set_option maxRecDepth 20000 in
theorem ggX1_late_X0_hoursLate : GoodIn wsX1_late wsX0_hoursLate := goodIn_r _ [6, 7, 8, 9, 10, 11, 12, 13, 14, 15, 16, 5, 17, 18, 21, 22, 23, 24, 25, 26, 27, 28, 29, 30, 31, 32, 33, 34, 35, 36] (by decide +kernel) (by decide +kernel)
set_option maxRecDepth 20000 in
theorem gX1_late_X0_hoursLate : GoodIn wsX1_late (wsV RX1 137 RX0 yX0_hoursLate wsX0_hoursLate) := goodIn_app (goodIn_of _ (by decide +kernel)) ggX1_late_X0_hoursLate
theorem dX1_late_0 : decode cX1_late 0 = .ok (.aload_n 0, 1) := by decide +kernel
theorem dX1_late_1 : decode cX1_late 1 = .ok (.getfield 10, 3) := by decide +kernel
theorem dX1_late_4 : decode cX1_late 4 = .ok (.invokevirtual 137, 3) := by decide +kernel
theorem dX1_late_7 : decode cX1_late 7 = .ok (.ireturn, 1) := by decide +kernel
set_option maxRecDepth 20000 in
theorem ggX1_willBeGroundAt_X1_requireSack : GoodIn wsX1_willBeGroundAt wsX1_requireSack := goodIn_ca (goodIn_r _ [6, 7, 8, 9, 90, 91, 92, 93, 94, 95, 96, 97, 98, 99, 100, 101, 102, 103, 104, 105, 106, 107] (by decide +kernel) (by decide +kernel)) (goodIn_sub (fun _ h => List.mem_cons_of_mem _ (List.mem_append_right _ h)) (by decide +kernel))
set_option maxRecDepth 20000 in
theorem gX1_willBeGroundAt_X1_requireSack : GoodIn wsX1_willBeGroundAt (wsV RX1 79 RX1 yX1_requireSack wsX1_requireSack) := goodIn_app (goodIn_of _ (by decide +kernel)) ggX1_willBeGroundAt_X1_requireSack
set_option maxRecDepth 20000 in
theorem ggX1_willBeGroundAt_X1_lookAhead : GoodIn wsX1_willBeGroundAt wsX1_lookAhead := goodIn_r _ [13, 1, 9, 14, 15, 16, 17, 18, 19, 20, 21, 22, 23, 24, 25, 26, 27, 28, 29, 30, 31, 32, 33, 34, 35, 36, 37, 38, 39, 40, 41, 42, 43, 44, 45, 46, 47, 48, 49, 50, 51, 52, 53, 54, 55, 56, 57, 58, 59, 60, 61, 62, 63, 64, 65, 66, 67, 68, 69, 70, 71, 72, 73, 74, 75, 76, 77, 78, 79, 80, 81, 82, 83, 84, 85, 86, 87, 88, 89, 90, 91, 92, 93, 94, 95, 96, 97, 98, 99, 100, 101, 102, 103, 104, 105, 106, 107] (by decide +kernel) (by decide +kernel)
set_option maxRecDepth 20000 in
theorem gX1_willBeGroundAt_X1_lookAhead : GoodIn wsX1_willBeGroundAt (wsV RX1 140 RX1 yX1_lookAhead wsX1_lookAhead) := goodIn_app (goodIn_of _ (by decide +kernel)) ggX1_willBeGroundAt_X1_lookAhead
theorem dX1_willBeGroundAt_0 : decode cX1_willBeGroundAt 0 = .ok (.aload_n 0, 1) := by decide +kernel
theorem dX1_willBeGroundAt_1 : decode cX1_willBeGroundAt 1 = .ok (.iload_n 1, 1) := by decide +kernel
theorem dX1_willBeGroundAt_2 : decode cX1_willBeGroundAt 2 = .ok (.invokevirtual 79, 3) := by decide +kernel
theorem dX1_willBeGroundAt_5 : decode cX1_willBeGroundAt 5 = .ok (.aload_n 0, 1) := by decide +kernel
theorem dX1_willBeGroundAt_6 : decode cX1_willBeGroundAt 6 = .ok (.invokevirtual 140, 3) := by decide +kernel
theorem dX1_willBeGroundAt_9 : decode cX1_willBeGroundAt 9 = .ok (.aload_n 0, 1) := by decide +kernel
theorem dX1_willBeGroundAt_10 : decode cX1_willBeGroundAt 10 = .ok (.getfield 16, 3) := by decide +kernel
theorem dX1_willBeGroundAt_13 : decode cX1_willBeGroundAt 13 = .ok (.getfield 114, 3) := by decide +kernel
theorem dX1_willBeGroundAt_16 : decode cX1_willBeGroundAt 16 = .ok (.iload_n 1, 1) := by decide +kernel
theorem dX1_willBeGroundAt_17 : decode cX1_willBeGroundAt 17 = .ok (.iaload, 1) := by decide +kernel
theorem dX1_willBeGroundAt_18 : decode cX1_willBeGroundAt 18 = .ok (.ireturn, 1) := by decide +kernel
set_option maxRecDepth 20000 in
theorem ggX1_spareOf_X1_requireSack : GoodIn wsX1_spareOf wsX1_requireSack := goodIn_ca (goodIn_r _ [6, 7, 8, 9, 91, 92, 93, 94, 95, 96, 97, 98, 99, 100, 101, 102, 103, 104, 105, 106, 107, 108] (by decide +kernel) (by decide +kernel)) (goodIn_sub (fun _ h => List.mem_cons_of_mem _ (List.mem_append_right _ h)) (by decide +kernel))
set_option maxRecDepth 20000 in
theorem gX1_spareOf_X1_requireSack : GoodIn wsX1_spareOf (wsV RX1 79 RX1 yX1_requireSack wsX1_requireSack) := goodIn_app (goodIn_of _ (by decide +kernel)) ggX1_spareOf_X1_requireSack
set_option maxRecDepth 20000 in
theorem ggX1_spareOf_X1_lookAhead : GoodIn wsX1_spareOf wsX1_lookAhead := goodIn_r _ [13, 1, 9, 14, 15, 16, 17, 18, 19, 20, 21, 22, 23, 24, 25, 26, 27, 28, 29, 30, 31, 32, 33, 34, 35, 36, 37, 38, 39, 40, 41, 42, 43, 44, 45, 46, 47, 48, 49, 50, 51, 52, 53, 54, 55, 56, 57, 58, 59, 60, 61, 62, 63, 64, 65, 66, 67, 68, 69, 70, 71, 72, 73, 74, 75, 76, 77, 78, 79, 80, 81, 82, 83, 84, 85, 86, 87, 88, 89, 91, 92, 93, 94, 95, 96, 97, 98, 99, 100, 101, 102, 103, 104, 105, 106, 107, 108] (by decide +kernel) (by decide +kernel)
set_option maxRecDepth 20000 in
theorem gX1_spareOf_X1_lookAhead : GoodIn wsX1_spareOf (wsV RX1 140 RX1 yX1_lookAhead wsX1_lookAhead) := goodIn_app (goodIn_of _ (by decide +kernel)) ggX1_spareOf_X1_lookAhead
set_option maxRecDepth 20000 in
theorem ggX1_spareOf_X0_isGround : GoodIn wsX1_spareOf wsX0_isGround := goodIn_r _ [52, 23, 93, 94, 95, 96, 97, 98, 99, 100, 101, 102, 103, 104, 105, 106, 107, 108] (by decide +kernel) (by decide +kernel)
set_option maxRecDepth 20000 in
theorem gX1_spareOf_X0_isGround : GoodIn wsX1_spareOf (wsV RX1 127 RX0 yX0_isGround wsX0_isGround) := goodIn_app (goodIn_of _ (by decide +kernel)) ggX1_spareOf_X0_isGround
theorem dX1_spareOf_0 : decode cX1_spareOf 0 = .ok (.aload_n 0, 1) := by decide +kernel
theorem dX1_spareOf_1 : decode cX1_spareOf 1 = .ok (.iload_n 1, 1) := by decide +kernel
theorem dX1_spareOf_2 : decode cX1_spareOf 2 = .ok (.invokevirtual 79, 3) := by decide +kernel
theorem dX1_spareOf_5 : decode cX1_spareOf 5 = .ok (.aload_n 0, 1) := by decide +kernel
theorem dX1_spareOf_6 : decode cX1_spareOf 6 = .ok (.invokevirtual 140, 3) := by decide +kernel
theorem dX1_spareOf_9 : decode cX1_spareOf 9 = .ok (.aload_n 0, 1) := by decide +kernel
theorem dX1_spareOf_10 : decode cX1_spareOf 10 = .ok (.getfield 16, 3) := by decide +kernel
theorem dX1_spareOf_13 : decode cX1_spareOf 13 = .ok (.iload_n 1, 1) := by decide +kernel
theorem dX1_spareOf_14 : decode cX1_spareOf 14 = .ok (.invokevirtual 127, 3) := by decide +kernel
theorem dX1_spareOf_17 : decode cX1_spareOf 17 = .ok (.ifCond .eq 25, 3) := by decide +kernel
theorem dX1_spareOf_20 : decode cX1_spareOf 20 = .ok (.aload_n 0, 1) := by decide +kernel
theorem dX1_spareOf_21 : decode cX1_spareOf 21 = .ok (.getfield 16, 3) := by decide +kernel
theorem dX1_spareOf_24 : decode cX1_spareOf 24 = .ok (.getfield 90, 3) := by decide +kernel
theorem dX1_spareOf_27 : decode cX1_spareOf 27 = .ok (.iload_n 1, 1) := by decide +kernel
theorem dX1_spareOf_28 : decode cX1_spareOf 28 = .ok (.iaload, 1) := by decide +kernel
theorem dX1_spareOf_29 : decode cX1_spareOf 29 = .ok (.aload_n 0, 1) := by decide +kernel
theorem dX1_spareOf_30 : decode cX1_spareOf 30 = .ok (.getfield 16, 3) := by decide +kernel
theorem dX1_spareOf_33 : decode cX1_spareOf 33 = .ok (.getfield 114, 3) := by decide +kernel
theorem dX1_spareOf_36 : decode cX1_spareOf 36 = .ok (.iload_n 1, 1) := by decide +kernel
theorem dX1_spareOf_37 : decode cX1_spareOf 37 = .ok (.iaload, 1) := by decide +kernel
theorem dX1_spareOf_38 : decode cX1_spareOf 38 = .ok (.isub, 1) := by decide +kernel
theorem dX1_spareOf_39 : decode cX1_spareOf 39 = .ok (.goto 6, 3) := by decide +kernel
theorem dX1_spareOf_42 : decode cX1_spareOf 42 = .ok (.sipush (-999), 3) := by decide +kernel
theorem dX1_spareOf_45 : decode cX1_spareOf 45 = .ok (.ireturn, 1) := by decide +kernel
set_option maxRecDepth 20000 in
theorem ggX1_lateWith_X1_requireRule : GoodIn wsX1_lateWith wsX1_requireRule := goodIn_ca (goodIn_r _ [6, 7, 8] (by decide +kernel) (by decide +kernel)) (goodIn_sub (fun _ h => List.mem_cons_of_mem _ (List.mem_append_right _ h)) (by decide +kernel))
set_option maxRecDepth 20000 in
theorem gX1_lateWith_X1_requireRule : GoodIn wsX1_lateWith (va_wsS RX1 50 yX1_requireRule wsX1_requireRule) := goodIn_app (goodIn_of _ (by decide +kernel)) ggX1_lateWith_X1_requireRule
set_option maxRecDepth 20000 in
theorem ggX1_lateWith_X0_become : GoodIn wsX1_lateWith wsX0_become := goodIn_r _ [13, 14, 15, 16, 17, 18, 19, 20, 21, 22, 23, 24, 25, 26, 27, 28, 29, 30, 12, 31, 94, 95, 96, 97, 98, 99, 100, 101, 102, 103, 104, 105, 106, 107, 108, 109] (by decide +kernel) (by decide +kernel)
set_option maxRecDepth 20000 in
theorem gX1_lateWith_X0_become : GoodIn wsX1_lateWith (wsV RX1 143 RX0 yX0_become wsX0_become) := goodIn_app (goodIn_of _ (by decide +kernel)) ggX1_lateWith_X0_become
set_option maxRecDepth 20000 in
theorem ggX1_lateWith_X0_run : GoodIn wsX1_lateWith wsX0_run := goodIn_r _ [35, 22, 25, 24, 28, 36, 37, 38, 12, 39, 23, 16, 40, 41, 42, 43, 44, 45, 46, 47, 18, 48, 49, 50, 51, 27, 19, 52, 53, 54, 55, 20, 56, 57, 58, 59, 60, 26, 61, 62, 63, 64, 65, 66, 67, 68, 15, 69, 70, 71, 72, 73, 74, 75, 76, 14, 77, 78, 79, 80, 81, 82, 83, 84, 21, 94, 95, 96, 97, 98, 99, 100, 101, 102, 103, 104, 105, 106, 107, 108, 109] (by decide +kernel) (by decide +kernel)
set_option maxRecDepth 20000 in
theorem gX1_lateWith_X0_run : GoodIn wsX1_lateWith (wsV RX1 96 RX0 yX0_run wsX0_run) := goodIn_app (goodIn_of _ (by decide +kernel)) ggX1_lateWith_X0_run
set_option maxRecDepth 20000 in
theorem ggX1_lateWith_X0_hoursLate : GoodIn wsX1_lateWith wsX0_hoursLate := goodIn_r _ [88, 24, 21, 19, 89, 90, 71, 91, 44, 45, 46, 12, 47, 18, 94, 95, 96, 97, 98, 99, 100, 101, 102, 103, 104, 105, 106, 107, 108, 109] (by decide +kernel) (by decide +kernel)
set_option maxRecDepth 20000 in
theorem gX1_lateWith_X0_hoursLate : GoodIn wsX1_lateWith (wsV RX1 137 RX0 yX0_hoursLate wsX0_hoursLate) := goodIn_app (goodIn_of _ (by decide +kernel)) ggX1_lateWith_X0_hoursLate
theorem dX1_lateWith_0 : decode cX1_lateWith 0 = .ok (.iload_n 1, 1) := by decide +kernel
theorem dX1_lateWith_1 : decode cX1_lateWith 1 = .ok (.invokestatic 50, 3) := by decide +kernel
theorem dX1_lateWith_4 : decode cX1_lateWith 4 = .ok (.aload_n 0, 1) := by decide +kernel
theorem dX1_lateWith_5 : decode cX1_lateWith 5 = .ok (.getfield 16, 3) := by decide +kernel
theorem dX1_lateWith_8 : decode cX1_lateWith 8 = .ok (.aload_n 0, 1) := by decide +kernel
theorem dX1_lateWith_9 : decode cX1_lateWith 9 = .ok (.getfield 10, 3) := by decide +kernel
theorem dX1_lateWith_12 : decode cX1_lateWith 12 = .ok (.invokevirtual 143, 3) := by decide +kernel
theorem dX1_lateWith_15 : decode cX1_lateWith 15 = .ok (.aload_n 0, 1) := by decide +kernel
theorem dX1_lateWith_16 : decode cX1_lateWith 16 = .ok (.getfield 16, 3) := by decide +kernel
theorem dX1_lateWith_19 : decode cX1_lateWith 19 = .ok (.iload_n 1, 1) := by decide +kernel
theorem dX1_lateWith_20 : decode cX1_lateWith 20 = .ok (.putfield 54, 3) := by decide +kernel
theorem dX1_lateWith_23 : decode cX1_lateWith 23 = .ok (.aload_n 0, 1) := by decide +kernel
theorem dX1_lateWith_24 : decode cX1_lateWith 24 = .ok (.getfield 16, 3) := by decide +kernel
theorem dX1_lateWith_27 : decode cX1_lateWith 27 = .ok (.iload_n 2, 1) := by decide +kernel
theorem dX1_lateWith_28 : decode cX1_lateWith 28 = .ok (.putfield 57, 3) := by decide +kernel
theorem dX1_lateWith_31 : decode cX1_lateWith 31 = .ok (.aload_n 0, 1) := by decide +kernel
theorem dX1_lateWith_32 : decode cX1_lateWith 32 = .ok (.getfield 16, 3) := by decide +kernel
theorem dX1_lateWith_35 : decode cX1_lateWith 35 = .ok (.sipush 200, 3) := by decide +kernel
theorem dX1_lateWith_38 : decode cX1_lateWith 38 = .ok (.invokevirtual 96, 3) := by decide +kernel
theorem dX1_lateWith_41 : decode cX1_lateWith 41 = .ok (.pop, 1) := by decide +kernel
theorem dX1_lateWith_42 : decode cX1_lateWith 42 = .ok (.aload_n 0, 1) := by decide +kernel
theorem dX1_lateWith_43 : decode cX1_lateWith 43 = .ok (.getfield 16, 3) := by decide +kernel
theorem dX1_lateWith_46 : decode cX1_lateWith 46 = .ok (.invokevirtual 137, 3) := by decide +kernel
theorem dX1_lateWith_49 : decode cX1_lateWith 49 = .ok (.sipush 200, 3) := by decide +kernel
theorem dX1_lateWith_52 : decode cX1_lateWith 52 = .ok (.aload_n 0, 1) := by decide +kernel
theorem dX1_lateWith_53 : decode cX1_lateWith 53 = .ok (.getfield 16, 3) := by decide +kernel
theorem dX1_lateWith_56 : decode cX1_lateWith 56 = .ok (.getfield 70, 3) := by decide +kernel
theorem dX1_lateWith_59 : decode cX1_lateWith 59 = .ok (.aload_n 0, 1) := by decide +kernel
theorem dX1_lateWith_60 : decode cX1_lateWith 60 = .ok (.getfield 16, 3) := by decide +kernel
theorem dX1_lateWith_63 : decode cX1_lateWith 63 = .ok (.getfield 117, 3) := by decide +kernel
theorem dX1_lateWith_66 : decode cX1_lateWith 66 = .ok (.isub, 1) := by decide +kernel
theorem dX1_lateWith_67 : decode cX1_lateWith 67 = .ok (.imul, 1) := by decide +kernel
theorem dX1_lateWith_68 : decode cX1_lateWith 68 = .ok (.iadd, 1) := by decide +kernel
theorem dX1_lateWith_69 : decode cX1_lateWith 69 = .ok (.ireturn, 1) := by decide +kernel
set_option maxRecDepth 20000 in
theorem ggX1_bestRule_X1_lateWith : GoodIn wsX1_bestRule wsX1_lateWith := goodIn_ca (goodIn_r _ [6, 7, 1, 8, 9, 5, 10, 11, 12, 13, 14, 15, 16, 17, 18, 19, 20, 21, 22, 23, 24, 25, 26, 27, 28, 29, 30, 31, 32, 33, 34, 35, 36, 37, 38, 39, 40, 41, 42, 43, 44, 45, 46, 47, 48, 49, 50, 51, 52, 53, 54, 55, 56, 57, 58, 59, 60, 61, 62, 63, 64, 65, 66, 67, 68, 69, 70, 71, 72, 73, 74, 75, 76, 77, 78, 79, 80, 81, 82, 83, 84, 85, 86, 87, 88, 89, 90, 91, 92, 93, 94, 95, 96, 97, 98, 99, 100, 101, 102, 103, 104, 105, 106, 107, 108, 109, 110, 111, 112, 113] (by decide +kernel) (by decide +kernel)) (goodIn_sub (fun _ h => List.mem_cons_of_mem _ (List.mem_append_right _ h)) (by decide +kernel))
set_option maxRecDepth 20000 in
theorem gX1_bestRule_X1_lateWith : GoodIn wsX1_bestRule (wsV RX1 147 RX1 yX1_lateWith wsX1_lateWith) := goodIn_app (goodIn_of _ (by decide +kernel)) ggX1_bestRule_X1_lateWith
theorem dX1_bestRule_0 : decode cX1_bestRule 0 = .ok (.iconst 0, 1) := by decide +kernel
theorem dX1_bestRule_1 : decode cX1_bestRule 1 = .ok (.istore_n 1, 1) := by decide +kernel
theorem dX1_bestRule_2 : decode cX1_bestRule 2 = .ok (.aload_n 0, 1) := by decide +kernel
theorem dX1_bestRule_3 : decode cX1_bestRule 3 = .ok (.iconst 0, 1) := by decide +kernel
theorem dX1_bestRule_4 : decode cX1_bestRule 4 = .ok (.aload_n 0, 1) := by decide +kernel
theorem dX1_bestRule_5 : decode cX1_bestRule 5 = .ok (.getfield 10, 3) := by decide +kernel
theorem dX1_bestRule_8 : decode cX1_bestRule 8 = .ok (.getfield 57, 3) := by decide +kernel
theorem dX1_bestRule_11 : decode cX1_bestRule 11 = .ok (.invokevirtual 147, 3) := by decide +kernel
theorem dX1_bestRule_14 : decode cX1_bestRule 14 = .ok (.istore_n 2, 1) := by decide +kernel
theorem dX1_bestRule_15 : decode cX1_bestRule 15 = .ok (.iconst 1, 1) := by decide +kernel
theorem dX1_bestRule_16 : decode cX1_bestRule 16 = .ok (.istore_n 3, 1) := by decide +kernel
theorem dX1_bestRule_17 : decode cX1_bestRule 17 = .ok (.iload_n 3, 1) := by decide +kernel
theorem dX1_bestRule_18 : decode cX1_bestRule 18 = .ok (.iconst 3, 1) := by decide +kernel
theorem dX1_bestRule_19 : decode cX1_bestRule 19 = .ok (.if_icmp .ge 34, 3) := by decide +kernel
theorem dX1_bestRule_22 : decode cX1_bestRule 22 = .ok (.aload_n 0, 1) := by decide +kernel
theorem dX1_bestRule_23 : decode cX1_bestRule 23 = .ok (.iload_n 3, 1) := by decide +kernel
theorem dX1_bestRule_24 : decode cX1_bestRule 24 = .ok (.aload_n 0, 1) := by decide +kernel
theorem dX1_bestRule_25 : decode cX1_bestRule 25 = .ok (.getfield 10, 3) := by decide +kernel
theorem dX1_bestRule_28 : decode cX1_bestRule 28 = .ok (.getfield 57, 3) := by decide +kernel
theorem dX1_bestRule_31 : decode cX1_bestRule 31 = .ok (.invokevirtual 147, 3) := by decide +kernel
theorem dX1_bestRule_34 : decode cX1_bestRule 34 = .ok (.istore 4, 2) := by decide +kernel
theorem dX1_bestRule_36 : decode cX1_bestRule 36 = .ok (.iload 4, 2) := by decide +kernel
theorem dX1_bestRule_38 : decode cX1_bestRule 38 = .ok (.iload_n 2, 1) := by decide +kernel
theorem dX1_bestRule_39 : decode cX1_bestRule 39 = .ok (.if_icmp .ge 8, 3) := by decide +kernel
theorem dX1_bestRule_42 : decode cX1_bestRule 42 = .ok (.iload_n 3, 1) := by decide +kernel
theorem dX1_bestRule_43 : decode cX1_bestRule 43 = .ok (.istore_n 1, 1) := by decide +kernel
theorem dX1_bestRule_44 : decode cX1_bestRule 44 = .ok (.iload 4, 2) := by decide +kernel
theorem dX1_bestRule_46 : decode cX1_bestRule 46 = .ok (.istore_n 2, 1) := by decide +kernel
theorem dX1_bestRule_47 : decode cX1_bestRule 47 = .ok (.iinc 3 1, 3) := by decide +kernel
theorem dX1_bestRule_50 : decode cX1_bestRule 50 = .ok (.goto (-33), 3) := by decide +kernel
theorem dX1_bestRule_53 : decode cX1_bestRule 53 = .ok (.iload_n 1, 1) := by decide +kernel
theorem dX1_bestRule_54 : decode cX1_bestRule 54 = .ok (.ireturn, 1) := by decide +kernel
set_option maxRecDepth 20000 in
theorem ggX1_wouldBeInTime_X1_requireGrain : GoodIn wsX1_wouldBeInTime wsX1_requireGrain := goodIn_ca (goodIn_r _ [6, 7, 8] (by decide +kernel) (by decide +kernel)) (goodIn_sub (fun _ h => List.mem_cons_of_mem _ (List.mem_append_right _ h)) (by decide +kernel))
set_option maxRecDepth 20000 in
theorem gX1_wouldBeInTime_X1_requireGrain : GoodIn wsX1_wouldBeInTime (va_wsS RX1 64 yX1_requireGrain wsX1_requireGrain) := goodIn_app (goodIn_of _ (by decide +kernel)) ggX1_wouldBeInTime_X1_requireGrain
set_option maxRecDepth 20000 in
theorem ggX1_wouldBeInTime_X1_requireUntil : GoodIn wsX1_wouldBeInTime wsX1_requireUntil := goodIn_ca (goodIn_r _ [11, 7, 8] (by decide +kernel) (by decide +kernel)) (goodIn_sub (fun _ h => List.mem_cons_of_mem _ (List.mem_append_right _ h)) (by decide +kernel))
set_option maxRecDepth 20000 in
theorem gX1_wouldBeInTime_X1_requireUntil : GoodIn wsX1_wouldBeInTime (va_wsS RX1 67 yX1_requireUntil wsX1_requireUntil) := goodIn_app (goodIn_of _ (by decide +kernel)) ggX1_wouldBeInTime_X1_requireUntil
set_option maxRecDepth 20000 in
theorem ggX1_wouldBeInTime_X0_become : GoodIn wsX1_wouldBeInTime wsX0_become := goodIn_r _ [16, 17, 18, 19, 20, 21, 22, 23, 24, 25, 26, 27, 28, 29, 30, 31, 32, 33, 15, 34, 95, 96, 97, 98, 99, 100, 101, 102, 103, 104, 105, 106, 107, 108, 109, 110] (by decide +kernel) (by decide +kernel)
set_option maxRecDepth 20000 in
theorem gX1_wouldBeInTime_X0_become : GoodIn wsX1_wouldBeInTime (wsV RX1 143 RX0 yX0_become wsX0_become) := goodIn_app (goodIn_of _ (by decide +kernel)) ggX1_wouldBeInTime_X0_become
set_option maxRecDepth 20000 in
theorem ggX1_wouldBeInTime_X0_storeSack : GoodIn wsX1_wouldBeInTime wsX0_storeSack := goodIn_r _ [38, 27, 20, 21, 22, 23, 24, 95, 96, 97, 98, 99, 100, 101, 102, 103, 104, 105, 106, 107, 108, 109, 110] (by decide +kernel) (by decide +kernel)
set_option maxRecDepth 20000 in
theorem gX1_wouldBeInTime_X0_storeSack : GoodIn wsX1_wouldBeInTime (wsV RX1 75 RX0 yX0_storeSack wsX0_storeSack) := goodIn_app (goodIn_of _ (by decide +kernel)) ggX1_wouldBeInTime_X0_storeSack
set_option maxRecDepth 20000 in
theorem ggX1_wouldBeInTime_X0_run : GoodIn wsX1_wouldBeInTime wsX0_run := goodIn_r _ [42, 25, 28, 27, 31, 43, 44, 45, 15, 46, 26, 19, 47, 48, 49, 50, 51, 52, 53, 54, 21, 55, 56, 57, 58, 30, 22, 59, 60, 61, 62, 23, 63, 64, 65, 66, 67, 29, 68, 69, 70, 71, 72, 73, 74, 75, 18, 76, 77, 78, 79, 80, 81, 82, 83, 17, 84, 85, 86, 87, 88, 89, 90, 91, 24, 95, 96, 97, 98, 99, 100, 101, 102, 103, 104, 105, 106, 107, 108, 109, 110] (by decide +kernel) (by decide +kernel)
set_option maxRecDepth 20000 in
theorem gX1_wouldBeInTime_X0_run : GoodIn wsX1_wouldBeInTime (wsV RX1 96 RX0 yX0_run wsX0_run) := goodIn_app (goodIn_of _ (by decide +kernel)) ggX1_wouldBeInTime_X0_run
set_option maxRecDepth 20000 in
theorem ggX1_wouldBeInTime_X0_isGround : GoodIn wsX1_wouldBeInTime wsX0_isGround := goodIn_r _ [54, 21, 95, 96, 97, 98, 99, 100, 101, 102, 103, 104, 105, 106, 107, 108, 109, 110] (by decide +kernel) (by decide +kernel)
set_option maxRecDepth 20000 in
theorem gX1_wouldBeInTime_X0_isGround : GoodIn wsX1_wouldBeInTime (wsV RX1 127 RX0 yX0_isGround wsX0_isGround) := goodIn_app (goodIn_of _ (by decide +kernel)) ggX1_wouldBeInTime_X0_isGround
theorem dX1_wouldBeInTime_0 : decode cX1_wouldBeInTime 0 = .ok (.iload_n 1, 1) := by decide +kernel
theorem dX1_wouldBeInTime_1 : decode cX1_wouldBeInTime 1 = .ok (.invokestatic 64, 3) := by decide +kernel
theorem dX1_wouldBeInTime_4 : decode cX1_wouldBeInTime 4 = .ok (.iload_n 2, 1) := by decide +kernel
theorem dX1_wouldBeInTime_5 : decode cX1_wouldBeInTime 5 = .ok (.invokestatic 67, 3) := by decide +kernel
theorem dX1_wouldBeInTime_8 : decode cX1_wouldBeInTime 8 = .ok (.aload_n 0, 1) := by decide +kernel
theorem dX1_wouldBeInTime_9 : decode cX1_wouldBeInTime 9 = .ok (.getfield 10, 3) := by decide +kernel
theorem dX1_wouldBeInTime_12 : decode cX1_wouldBeInTime 12 = .ok (.getfield 70, 3) := by decide +kernel
theorem dX1_wouldBeInTime_15 : decode cX1_wouldBeInTime 15 = .ok (.bipush 16, 2) := by decide +kernel
theorem dX1_wouldBeInTime_17 : decode cX1_wouldBeInTime 17 = .ok (.if_icmp .lt 5, 3) := by decide +kernel
theorem dX1_wouldBeInTime_20 : decode cX1_wouldBeInTime 20 = .ok (.iconst 0, 1) := by decide +kernel
theorem dX1_wouldBeInTime_21 : decode cX1_wouldBeInTime 21 = .ok (.ireturn, 1) := by decide +kernel
theorem dX1_wouldBeInTime_22 : decode cX1_wouldBeInTime 22 = .ok (.aload_n 0, 1) := by decide +kernel
theorem dX1_wouldBeInTime_23 : decode cX1_wouldBeInTime 23 = .ok (.getfield 16, 3) := by decide +kernel
theorem dX1_wouldBeInTime_26 : decode cX1_wouldBeInTime 26 = .ok (.aload_n 0, 1) := by decide +kernel
theorem dX1_wouldBeInTime_27 : decode cX1_wouldBeInTime 27 = .ok (.getfield 10, 3) := by decide +kernel
theorem dX1_wouldBeInTime_30 : decode cX1_wouldBeInTime 30 = .ok (.invokevirtual 143, 3) := by decide +kernel
theorem dX1_wouldBeInTime_33 : decode cX1_wouldBeInTime 33 = .ok (.aload_n 0, 1) := by decide +kernel
theorem dX1_wouldBeInTime_34 : decode cX1_wouldBeInTime 34 = .ok (.getfield 16, 3) := by decide +kernel
theorem dX1_wouldBeInTime_37 : decode cX1_wouldBeInTime 37 = .ok (.iconst 0, 1) := by decide +kernel
theorem dX1_wouldBeInTime_38 : decode cX1_wouldBeInTime 38 = .ok (.iload_n 1, 1) := by decide +kernel
theorem dX1_wouldBeInTime_39 : decode cX1_wouldBeInTime 39 = .ok (.iload_n 2, 1) := by decide +kernel
theorem dX1_wouldBeInTime_40 : decode cX1_wouldBeInTime 40 = .ok (.invokevirtual 75, 3) := by decide +kernel
theorem dX1_wouldBeInTime_43 : decode cX1_wouldBeInTime 43 = .ok (.istore_n 3, 1) := by decide +kernel
theorem dX1_wouldBeInTime_44 : decode cX1_wouldBeInTime 44 = .ok (.aload_n 0, 1) := by decide +kernel
theorem dX1_wouldBeInTime_45 : decode cX1_wouldBeInTime 45 = .ok (.getfield 16, 3) := by decide +kernel
theorem dX1_wouldBeInTime_48 : decode cX1_wouldBeInTime 48 = .ok (.sipush 200, 3) := by decide +kernel
theorem dX1_wouldBeInTime_51 : decode cX1_wouldBeInTime 51 = .ok (.invokevirtual 96, 3) := by decide +kernel
theorem dX1_wouldBeInTime_54 : decode cX1_wouldBeInTime 54 = .ok (.pop, 1) := by decide +kernel
theorem dX1_wouldBeInTime_55 : decode cX1_wouldBeInTime 55 = .ok (.aload_n 0, 1) := by decide +kernel
theorem dX1_wouldBeInTime_56 : decode cX1_wouldBeInTime 56 = .ok (.getfield 16, 3) := by decide +kernel
theorem dX1_wouldBeInTime_59 : decode cX1_wouldBeInTime 59 = .ok (.iload_n 3, 1) := by decide +kernel
theorem dX1_wouldBeInTime_60 : decode cX1_wouldBeInTime 60 = .ok (.invokevirtual 127, 3) := by decide +kernel
theorem dX1_wouldBeInTime_63 : decode cX1_wouldBeInTime 63 = .ok (.ifCond .eq 20, 3) := by decide +kernel
theorem dX1_wouldBeInTime_66 : decode cX1_wouldBeInTime 66 = .ok (.aload_n 0, 1) := by decide +kernel
theorem dX1_wouldBeInTime_67 : decode cX1_wouldBeInTime 67 = .ok (.getfield 16, 3) := by decide +kernel
theorem dX1_wouldBeInTime_70 : decode cX1_wouldBeInTime 70 = .ok (.getfield 114, 3) := by decide +kernel
theorem dX1_wouldBeInTime_73 : decode cX1_wouldBeInTime 73 = .ok (.iload_n 3, 1) := by decide +kernel
theorem dX1_wouldBeInTime_74 : decode cX1_wouldBeInTime 74 = .ok (.iaload, 1) := by decide +kernel
theorem dX1_wouldBeInTime_75 : decode cX1_wouldBeInTime 75 = .ok (.iload_n 2, 1) := by decide +kernel
theorem dX1_wouldBeInTime_76 : decode cX1_wouldBeInTime 76 = .ok (.if_icmp .gt 7, 3) := by decide +kernel
theorem dX1_wouldBeInTime_79 : decode cX1_wouldBeInTime 79 = .ok (.iconst 1, 1) := by decide +kernel
theorem dX1_wouldBeInTime_80 : decode cX1_wouldBeInTime 80 = .ok (.goto 4, 3) := by decide +kernel
theorem dX1_wouldBeInTime_83 : decode cX1_wouldBeInTime 83 = .ok (.iconst 0, 1) := by decide +kernel
theorem dX1_wouldBeInTime_84 : decode cX1_wouldBeInTime 84 = .ok (.ireturn, 1) := by decide +kernel
set_option maxRecDepth 20000 in
theorem ggX1_groundIn_X1_requireHours : GoodIn wsX1_groundIn wsX1_requireHours := goodIn_ca (goodIn_r _ [6, 7, 8] (by decide +kernel) (by decide +kernel)) (goodIn_sub (fun _ h => List.mem_cons_of_mem _ (List.mem_append_right _ h)) (by decide +kernel))
set_option maxRecDepth 20000 in
theorem gX1_groundIn_X1_requireHours : GoodIn wsX1_groundIn (va_wsS RX1 93 yX1_requireHours wsX1_requireHours) := goodIn_app (goodIn_of _ (by decide +kernel)) ggX1_groundIn_X1_requireHours
set_option maxRecDepth 20000 in
theorem ggX1_groundIn_X0_become : GoodIn wsX1_groundIn wsX0_become := goodIn_r _ [13, 14, 15, 16, 17, 18, 19, 20, 21, 22, 23, 24, 25, 26, 27, 28, 29, 30, 12, 31, 87, 88, 89, 90, 91, 92, 93, 94, 95, 96, 97, 98, 99, 100, 101, 102] (by decide +kernel) (by decide +kernel)
set_option maxRecDepth 20000 in
theorem gX1_groundIn_X0_become : GoodIn wsX1_groundIn (wsV RX1 143 RX0 yX0_become wsX0_become) := goodIn_app (goodIn_of _ (by decide +kernel)) ggX1_groundIn_X0_become
set_option maxRecDepth 20000 in
theorem ggX1_groundIn_X0_run : GoodIn wsX1_groundIn wsX0_run := goodIn_r _ [35, 22, 25, 24, 28, 36, 37, 38, 12, 39, 23, 16, 40, 41, 42, 43, 44, 45, 46, 47, 18, 48, 49, 50, 51, 27, 19, 52, 53, 54, 55, 20, 56, 57, 58, 59, 60, 26, 61, 62, 63, 64, 65, 66, 67, 68, 15, 69, 70, 71, 72, 73, 74, 75, 76, 14, 77, 78, 79, 80, 81, 82, 83, 84, 21, 87, 88, 89, 90, 91, 92, 93, 94, 95, 96, 97, 98, 99, 100, 101, 102] (by decide +kernel) (by decide +kernel)
set_option maxRecDepth 20000 in
theorem gX1_groundIn_X0_run : GoodIn wsX1_groundIn (wsV RX1 96 RX0 yX0_run wsX0_run) := goodIn_app (goodIn_of _ (by decide +kernel)) ggX1_groundIn_X0_run
theorem dX1_groundIn_0 : decode cX1_groundIn 0 = .ok (.iload_n 1, 1) := by decide +kernel
theorem dX1_groundIn_1 : decode cX1_groundIn 1 = .ok (.invokestatic 93, 3) := by decide +kernel
theorem dX1_groundIn_4 : decode cX1_groundIn 4 = .ok (.aload_n 0, 1) := by decide +kernel
theorem dX1_groundIn_5 : decode cX1_groundIn 5 = .ok (.getfield 16, 3) := by decide +kernel
theorem dX1_groundIn_8 : decode cX1_groundIn 8 = .ok (.aload_n 0, 1) := by decide +kernel
theorem dX1_groundIn_9 : decode cX1_groundIn 9 = .ok (.getfield 10, 3) := by decide +kernel
theorem dX1_groundIn_12 : decode cX1_groundIn 12 = .ok (.invokevirtual 143, 3) := by decide +kernel
theorem dX1_groundIn_15 : decode cX1_groundIn 15 = .ok (.aload_n 0, 1) := by decide +kernel
theorem dX1_groundIn_16 : decode cX1_groundIn 16 = .ok (.getfield 16, 3) := by decide +kernel
theorem dX1_groundIn_19 : decode cX1_groundIn 19 = .ok (.iload_n 1, 1) := by decide +kernel
theorem dX1_groundIn_20 : decode cX1_groundIn 20 = .ok (.invokevirtual 96, 3) := by decide +kernel
theorem dX1_groundIn_23 : decode cX1_groundIn 23 = .ok (.ireturn, 1) := by decide +kernel
theorem dX1_meanLeft_0 : decode cX1_meanLeft 0 = .ok (.aload_n 0, 1) := by decide +kernel
theorem dX1_meanLeft_1 : decode cX1_meanLeft 1 = .ok (.getfield 10, 3) := by decide +kernel
theorem dX1_meanLeft_4 : decode cX1_meanLeft 4 = .ok (.getfield 70, 3) := by decide +kernel
theorem dX1_meanLeft_7 : decode cX1_meanLeft 7 = .ok (.aload_n 0, 1) := by decide +kernel
theorem dX1_meanLeft_8 : decode cX1_meanLeft 8 = .ok (.getfield 10, 3) := by decide +kernel
theorem dX1_meanLeft_11 : decode cX1_meanLeft 11 = .ok (.getfield 117, 3) := by decide +kernel
theorem dX1_meanLeft_14 : decode cX1_meanLeft 14 = .ok (.isub, 1) := by decide +kernel
theorem dX1_meanLeft_15 : decode cX1_meanLeft 15 = .ok (.istore_n 1, 1) := by decide +kernel
theorem dX1_meanLeft_16 : decode cX1_meanLeft 16 = .ok (.iload_n 1, 1) := by decide +kernel
theorem dX1_meanLeft_17 : decode cX1_meanLeft 17 = .ok (.ifCond .gt 5, 3) := by decide +kernel
theorem dX1_meanLeft_20 : decode cX1_meanLeft 20 = .ok (.dconst 0, 1) := by decide +kernel
theorem dX1_meanLeft_21 : decode cX1_meanLeft 21 = .ok (.dreturn, 1) := by decide +kernel
theorem dX1_meanLeft_22 : decode cX1_meanLeft 22 = .ok (.iconst 0, 1) := by decide +kernel
theorem dX1_meanLeft_23 : decode cX1_meanLeft 23 = .ok (.istore_n 2, 1) := by decide +kernel
theorem dX1_meanLeft_24 : decode cX1_meanLeft 24 = .ok (.iconst 0, 1) := by decide +kernel
theorem dX1_meanLeft_25 : decode cX1_meanLeft 25 = .ok (.istore_n 3, 1) := by decide +kernel
theorem dX1_meanLeft_26 : decode cX1_meanLeft 26 = .ok (.iload_n 3, 1) := by decide +kernel
theorem dX1_meanLeft_27 : decode cX1_meanLeft 27 = .ok (.aload_n 0, 1) := by decide +kernel
theorem dX1_meanLeft_28 : decode cX1_meanLeft 28 = .ok (.getfield 10, 3) := by decide +kernel
theorem dX1_meanLeft_31 : decode cX1_meanLeft 31 = .ok (.getfield 70, 3) := by decide +kernel
theorem dX1_meanLeft_34 : decode cX1_meanLeft 34 = .ok (.if_icmp .ge 21, 3) := by decide +kernel
theorem dX1_meanLeft_37 : decode cX1_meanLeft 37 = .ok (.iload_n 2, 1) := by decide +kernel
theorem dX1_meanLeft_38 : decode cX1_meanLeft 38 = .ok (.aload_n 0, 1) := by decide +kernel
theorem dX1_meanLeft_39 : decode cX1_meanLeft 39 = .ok (.getfield 10, 3) := by decide +kernel
theorem dX1_meanLeft_42 : decode cX1_meanLeft 42 = .ok (.getfield 111, 3) := by decide +kernel
theorem dX1_meanLeft_45 : decode cX1_meanLeft 45 = .ok (.iload_n 3, 1) := by decide +kernel
theorem dX1_meanLeft_46 : decode cX1_meanLeft 46 = .ok (.iaload, 1) := by decide +kernel
theorem dX1_meanLeft_47 : decode cX1_meanLeft 47 = .ok (.iadd, 1) := by decide +kernel
theorem dX1_meanLeft_48 : decode cX1_meanLeft 48 = .ok (.istore_n 2, 1) := by decide +kernel
theorem dX1_meanLeft_49 : decode cX1_meanLeft 49 = .ok (.iinc 3 1, 3) := by decide +kernel
theorem dX1_meanLeft_52 : decode cX1_meanLeft 52 = .ok (.goto (-26), 3) := by decide +kernel
theorem dX1_meanLeft_55 : decode cX1_meanLeft 55 = .ok (.iload_n 2, 1) := by decide +kernel
theorem dX1_meanLeft_56 : decode cX1_meanLeft 56 = .ok (.i2d, 1) := by decide +kernel
theorem dX1_meanLeft_57 : decode cX1_meanLeft 57 = .ok (.iload_n 1, 1) := by decide +kernel
theorem dX1_meanLeft_58 : decode cX1_meanLeft 58 = .ok (.i2d, 1) := by decide +kernel
theorem dX1_meanLeft_59 : decode cX1_meanLeft 59 = .ok (.ddiv, 1) := by decide +kernel
theorem dX1_meanLeft_60 : decode cX1_meanLeft 60 = .ok (.dreturn, 1) := by decide +kernel
set_option maxRecDepth 20000 in
theorem ggX1_digest_X1_hour : GoodIn wsX1_digest wsX1_hour := goodIn_r _ [7, 2, 197, 198, 199, 200, 201, 202, 203, 204, 205, 206, 207, 208, 209, 210, 211, 212, 213, 214] (by decide +kernel) (by decide +kernel)
set_option maxRecDepth 20000 in
theorem gX1_digest_X1_hour : GoodIn wsX1_digest (wsV RX1 153 RX1 yX1_hour wsX1_hour) := goodIn_app (goodIn_of _ (by decide +kernel)) ggX1_digest_X1_hour
set_option maxRecDepth 20000 in
theorem ggX1_digest_X1_mix : GoodIn wsX1_digest wsX1_mix := goodIn_r _ [10, 11] (by decide +kernel) (by decide +kernel)
set_option maxRecDepth 20000 in
theorem gX1_digest_X1_mix : GoodIn wsX1_digest (va_wsS RX1 155 yX1_mix wsX1_mix) := goodIn_app (goodIn_of _ (by decide +kernel)) ggX1_digest_X1_mix
set_option maxRecDepth 20000 in
theorem ggX1_digest_X1_stones : GoodIn wsX1_digest wsX1_stones := goodIn_r _ [15, 2, 197, 198, 199, 200, 201, 202, 203, 204, 205, 206, 207, 208, 209, 210, 211, 212, 213, 214] (by decide +kernel) (by decide +kernel)
set_option maxRecDepth 20000 in
theorem gX1_digest_X1_stones : GoodIn wsX1_digest (wsV RX1 159 RX1 yX1_stones wsX1_stones) := goodIn_app (goodIn_of _ (by decide +kernel)) ggX1_digest_X1_stones
set_option maxRecDepth 20000 in
theorem ggX1_digest_X1_sacks : GoodIn wsX1_digest wsX1_sacks := goodIn_r _ [19, 2, 197, 198, 199, 200, 201, 202, 203, 204, 205, 206, 207, 208, 209, 210, 211, 212, 213, 214] (by decide +kernel) (by decide +kernel)
set_option maxRecDepth 20000 in
theorem gX1_digest_X1_sacks : GoodIn wsX1_digest (wsV RX1 162 RX1 yX1_sacks wsX1_sacks) := goodIn_app (goodIn_of _ (by decide +kernel)) ggX1_digest_X1_sacks
set_option maxRecDepth 20000 in
theorem ggX1_digest_X1_rule : GoodIn wsX1_digest wsX1_rule := goodIn_r _ [23, 2, 197, 198, 199, 200, 201, 202, 203, 204, 205, 206, 207, 208, 209, 210, 211, 212, 213, 214] (by decide +kernel) (by decide +kernel)
set_option maxRecDepth 20000 in
theorem gX1_digest_X1_rule : GoodIn wsX1_digest (wsV RX1 165 RX1 yX1_rule wsX1_rule) := goodIn_app (goodIn_of _ (by decide +kernel)) ggX1_digest_X1_rule
set_option maxRecDepth 20000 in
theorem ggX1_digest_X1_wind : GoodIn wsX1_digest wsX1_wind := goodIn_r _ [27, 2, 28, 29, 30, 31, 32, 33, 34, 35, 36, 37, 38, 197, 198, 199, 200, 201, 202, 203, 204, 205, 206, 207, 208, 209, 210, 211, 212, 213, 214] (by decide +kernel) (by decide +kernel)
set_option maxRecDepth 20000 in
theorem gX1_digest_X1_wind : GoodIn wsX1_digest (wsV RX1 167 RX1 yX1_wind wsX1_wind) := goodIn_app (goodIn_of _ (by decide +kernel)) ggX1_digest_X1_wind
set_option maxRecDepth 20000 in
theorem ggX1_digest_X1_ground : GoodIn wsX1_digest wsX1_ground := goodIn_r _ [42, 2, 197, 198, 199, 200, 201, 202, 203, 204, 205, 206, 207, 208, 209, 210, 211, 212, 213, 214] (by decide +kernel) (by decide +kernel)
set_option maxRecDepth 20000 in
theorem gX1_digest_X1_ground : GoodIn wsX1_digest (wsV RX1 170 RX1 yX1_ground wsX1_ground) := goodIn_app (goodIn_of _ (by decide +kernel)) ggX1_digest_X1_ground
set_option maxRecDepth 20000 in
theorem ggX1_digest_X1_changes : GoodIn wsX1_digest wsX1_changes := goodIn_r _ [46, 2, 197, 198, 199, 200, 201, 202, 203, 204, 205, 206, 207, 208, 209, 210, 211, 212, 213, 214] (by decide +kernel) (by decide +kernel)
set_option maxRecDepth 20000 in
theorem gX1_digest_X1_changes : GoodIn wsX1_digest (wsV RX1 173 RX1 yX1_changes wsX1_changes) := goodIn_app (goodIn_of _ (by decide +kernel)) ggX1_digest_X1_changes
set_option maxRecDepth 20000 in
theorem ggX1_digest_X1_first : GoodIn wsX1_digest wsX1_first := goodIn_r _ [50, 2, 51, 52, 53, 31, 54, 55, 56, 57, 58, 59, 60, 61, 62, 63, 64, 65, 66, 67, 197, 198, 199, 200, 201, 202, 203, 204, 205, 206, 207, 208, 209, 210, 211, 212, 213, 214] (by decide +kernel) (by decide +kernel)
set_option maxRecDepth 20000 in
theorem gX1_digest_X1_first : GoodIn wsX1_digest (wsV RX1 176 RX1 yX1_first wsX1_first) := goodIn_app (goodIn_of _ (by decide +kernel)) ggX1_digest_X1_first
set_option maxRecDepth 20000 in
theorem ggX1_digest_X1_late : GoodIn wsX1_digest wsX1_late := goodIn_r _ [71, 2, 72, 73, 74, 31, 75, 55, 76, 67, 77, 78, 79, 80, 57, 58, 59, 60, 61, 197, 198, 199, 200, 201, 202, 203, 204, 205, 206, 207, 208, 209, 210, 211, 212, 213, 214] (by decide +kernel) (by decide +kernel)
set_option maxRecDepth 20000 in
theorem gX1_digest_X1_late : GoodIn wsX1_digest (wsV RX1 179 RX1 yX1_late wsX1_late) := goodIn_app (goodIn_of _ (by decide +kernel)) ggX1_digest_X1_late
set_option maxRecDepth 20000 in
theorem ggX1_digest_X1_bestRule : GoodIn wsX1_digest wsX1_bestRule := goodIn_ca (goodIn_r _ [84, 2, 85, 86, 87, 6, 88, 89, 90, 91, 92, 93, 94, 95, 96, 97, 31, 98, 33, 99, 100, 101, 61, 67, 56, 76, 34, 102, 55, 103, 104, 66, 105, 106, 107, 108, 109, 110, 111, 112, 113, 114, 115, 116, 117, 118, 119, 120, 57, 58, 59, 60, 62, 63, 64, 65, 121, 122, 123, 124, 125, 126, 127, 128, 129, 130, 52, 53, 54, 131, 132, 133, 134, 135, 136, 79, 137, 138, 29, 30, 32, 35, 36, 37, 38, 139, 140, 141, 142, 72, 73, 74, 75, 77, 78, 80, 197, 198, 199, 200, 201, 202, 203, 204, 205, 206, 207, 208, 209, 210, 211, 212, 213, 214] (by decide +kernel) (by decide +kernel)) (goodIn_sub (fun _ h => List.mem_cons_of_mem _ (List.mem_append_left _ (List.mem_append_right _ h))) (by decide +kernel))
set_option maxRecDepth 20000 in
theorem gX1_digest_X1_bestRule : GoodIn wsX1_digest (wsV RX1 182 RX1 yX1_bestRule wsX1_bestRule) := goodIn_app (goodIn_of _ (by decide +kernel)) ggX1_digest_X1_bestRule
set_option maxRecDepth 20000 in
theorem ggX1_digest_X1_groundIn : GoodIn wsX1_digest wsX1_groundIn := goodIn_ca (goodIn_r _ [146, 89, 2, 147, 148, 6, 149, 93, 94, 95, 96, 97, 31, 98, 33, 99, 100, 101, 61, 67, 56, 76, 34, 102, 55, 103, 104, 66, 105, 106, 107, 108, 109, 110, 111, 112, 113, 114, 115, 116, 117, 118, 119, 120, 57, 58, 59, 60, 62, 63, 64, 65, 121, 122, 123, 124, 125, 126, 127, 128, 129, 130, 52, 53, 54, 131, 132, 133, 134, 135, 136, 79, 137, 138, 29, 30, 32, 35, 36, 37, 38, 139, 140, 141, 142, 197, 198, 199, 200, 201, 202, 203, 204, 205, 206, 207, 208, 209, 210, 211, 212, 213, 214] (by decide +kernel) (by decide +kernel)) (goodIn_sub (fun _ h => List.mem_cons_of_mem _ (List.mem_append_left _ (List.mem_append_right _ h))) (by decide +kernel))
set_option maxRecDepth 20000 in
theorem gX1_digest_X1_groundIn : GoodIn wsX1_digest (wsV RX1 185 RX1 yX1_groundIn wsX1_groundIn) := goodIn_app (goodIn_of _ (by decide +kernel)) ggX1_digest_X1_groundIn
set_option maxRecDepth 20000 in
theorem ggX1_digest_X1_sackOn : GoodIn wsX1_digest wsX1_sackOn := goodIn_ca (goodIn_r _ [153, 154, 155, 2, 197, 198, 199, 200, 201, 202, 203, 204, 205, 206, 207, 208, 209, 210, 211, 212, 213, 214] (by decide +kernel) (by decide +kernel)) (goodIn_sub (fun _ h => List.mem_cons_of_mem _ (List.mem_append_right _ h)) (by decide +kernel))
set_option maxRecDepth 20000 in
theorem gX1_digest_X1_sackOn : GoodIn wsX1_digest (wsV RX1 188 RX1 yX1_sackOn wsX1_sackOn) := goodIn_app (goodIn_of _ (by decide +kernel)) ggX1_digest_X1_sackOn
set_option maxRecDepth 20000 in
theorem ggX1_digest_X1_mixSacks : GoodIn wsX1_digest wsX1_mixSacks := goodIn_ca (goodIn_r _ [159, 2, 89, 160, 161, 162, 6, 163, 95, 96, 97, 31, 98, 33, 99, 100, 101, 61, 67, 56, 76, 34, 102, 55, 103, 104, 66, 105, 106, 107, 108, 109, 110, 111, 112, 113, 114, 115, 116, 117, 118, 119, 120, 57, 58, 59, 60, 62, 63, 64, 65, 121, 122, 123, 124, 125, 126, 127, 128, 129, 130, 52, 53, 54, 131, 132, 133, 134, 135, 136, 79, 137, 138, 29, 30, 32, 35, 36, 37, 38, 139, 140, 141, 142, 164, 165, 166, 167, 168, 169, 170, 171, 154, 155, 8, 9, 10, 11, 172, 173, 174, 175, 176, 177, 178, 179, 180, 181, 182, 183, 184, 185, 186, 187, 188, 189, 197, 198, 199, 200, 201, 202, 203, 204, 205, 206, 207, 208, 209, 210, 211, 212, 213, 214] (by decide +kernel) (by decide +kernel)) (goodIn_sub (fun _ h => List.mem_cons_of_mem _ (List.mem_append_right _ h)) (by decide +kernel))
set_option maxRecDepth 20000 in
theorem gX1_digest_X1_mixSacks : GoodIn wsX1_digest (wsV RX1 191 RX1 yX1_mixSacks wsX1_mixSacks) := goodIn_app (goodIn_of _ (by decide +kernel)) ggX1_digest_X1_mixSacks
set_option maxRecDepth 20000 in
theorem ggX1_digest_X1_leftFor : GoodIn wsX1_digest wsX1_leftFor := goodIn_ca (goodIn_r _ [193, 2, 194, 195, 6, 196, 93, 94, 197, 198, 199, 200, 201, 202, 203, 204, 205, 206, 207, 208, 209, 210, 211, 212, 213, 214] (by decide +kernel) (by decide +kernel)) (goodIn_sub (fun _ h => List.mem_cons_of_mem _ (List.mem_append_left _ (List.mem_append_right _ h))) (by decide +kernel))
set_option maxRecDepth 20000 in
theorem gX1_digest_X1_leftFor : GoodIn wsX1_digest (wsV RX1 195 RX1 yX1_leftFor wsX1_leftFor) := goodIn_app (goodIn_of _ (by decide +kernel)) ggX1_digest_X1_leftFor
theorem dX1_digest_0 : decode cX1_digest 0 = .ok (.ldc2_w 151, 3) := by decide +kernel
theorem dX1_digest_3 : decode cX1_digest 3 = .ok (.lstore_n 1, 1) := by decide +kernel
theorem dX1_digest_4 : decode cX1_digest 4 = .ok (.lload_n 1, 1) := by decide +kernel
theorem dX1_digest_5 : decode cX1_digest 5 = .ok (.aload_n 0, 1) := by decide +kernel
theorem dX1_digest_6 : decode cX1_digest 6 = .ok (.invokevirtual 153, 3) := by decide +kernel
theorem dX1_digest_9 : decode cX1_digest 9 = .ok (.invokestatic 155, 3) := by decide +kernel
theorem dX1_digest_12 : decode cX1_digest 12 = .ok (.lstore_n 1, 1) := by decide +kernel
theorem dX1_digest_13 : decode cX1_digest 13 = .ok (.lload_n 1, 1) := by decide +kernel
theorem dX1_digest_14 : decode cX1_digest 14 = .ok (.aload_n 0, 1) := by decide +kernel
theorem dX1_digest_15 : decode cX1_digest 15 = .ok (.invokevirtual 159, 3) := by decide +kernel
theorem dX1_digest_18 : decode cX1_digest 18 = .ok (.invokestatic 155, 3) := by decide +kernel
theorem dX1_digest_21 : decode cX1_digest 21 = .ok (.lstore_n 1, 1) := by decide +kernel
theorem dX1_digest_22 : decode cX1_digest 22 = .ok (.lload_n 1, 1) := by decide +kernel
theorem dX1_digest_23 : decode cX1_digest 23 = .ok (.aload_n 0, 1) := by decide +kernel
theorem dX1_digest_24 : decode cX1_digest 24 = .ok (.invokevirtual 162, 3) := by decide +kernel
theorem dX1_digest_27 : decode cX1_digest 27 = .ok (.invokestatic 155, 3) := by decide +kernel
theorem dX1_digest_30 : decode cX1_digest 30 = .ok (.lstore_n 1, 1) := by decide +kernel
theorem dX1_digest_31 : decode cX1_digest 31 = .ok (.lload_n 1, 1) := by decide +kernel
theorem dX1_digest_32 : decode cX1_digest 32 = .ok (.aload_n 0, 1) := by decide +kernel
theorem dX1_digest_33 : decode cX1_digest 33 = .ok (.invokevirtual 165, 3) := by decide +kernel
theorem dX1_digest_36 : decode cX1_digest 36 = .ok (.invokestatic 155, 3) := by decide +kernel
theorem dX1_digest_39 : decode cX1_digest 39 = .ok (.lstore_n 1, 1) := by decide +kernel
theorem dX1_digest_40 : decode cX1_digest 40 = .ok (.lload_n 1, 1) := by decide +kernel
theorem dX1_digest_41 : decode cX1_digest 41 = .ok (.aload_n 0, 1) := by decide +kernel
theorem dX1_digest_42 : decode cX1_digest 42 = .ok (.invokevirtual 167, 3) := by decide +kernel
theorem dX1_digest_45 : decode cX1_digest 45 = .ok (.invokestatic 155, 3) := by decide +kernel
theorem dX1_digest_48 : decode cX1_digest 48 = .ok (.lstore_n 1, 1) := by decide +kernel
theorem dX1_digest_49 : decode cX1_digest 49 = .ok (.lload_n 1, 1) := by decide +kernel
theorem dX1_digest_50 : decode cX1_digest 50 = .ok (.aload_n 0, 1) := by decide +kernel
theorem dX1_digest_51 : decode cX1_digest 51 = .ok (.invokevirtual 170, 3) := by decide +kernel
theorem dX1_digest_54 : decode cX1_digest 54 = .ok (.invokestatic 155, 3) := by decide +kernel
theorem dX1_digest_57 : decode cX1_digest 57 = .ok (.lstore_n 1, 1) := by decide +kernel
theorem dX1_digest_58 : decode cX1_digest 58 = .ok (.lload_n 1, 1) := by decide +kernel
theorem dX1_digest_59 : decode cX1_digest 59 = .ok (.aload_n 0, 1) := by decide +kernel
theorem dX1_digest_60 : decode cX1_digest 60 = .ok (.invokevirtual 173, 3) := by decide +kernel
theorem dX1_digest_63 : decode cX1_digest 63 = .ok (.invokestatic 155, 3) := by decide +kernel
theorem dX1_digest_66 : decode cX1_digest 66 = .ok (.lstore_n 1, 1) := by decide +kernel
theorem dX1_digest_67 : decode cX1_digest 67 = .ok (.lload_n 1, 1) := by decide +kernel
theorem dX1_digest_68 : decode cX1_digest 68 = .ok (.aload_n 0, 1) := by decide +kernel
theorem dX1_digest_69 : decode cX1_digest 69 = .ok (.invokevirtual 176, 3) := by decide +kernel
theorem dX1_digest_72 : decode cX1_digest 72 = .ok (.invokestatic 155, 3) := by decide +kernel
theorem dX1_digest_75 : decode cX1_digest 75 = .ok (.lstore_n 1, 1) := by decide +kernel
theorem dX1_digest_76 : decode cX1_digest 76 = .ok (.lload_n 1, 1) := by decide +kernel
theorem dX1_digest_77 : decode cX1_digest 77 = .ok (.aload_n 0, 1) := by decide +kernel
theorem dX1_digest_78 : decode cX1_digest 78 = .ok (.invokevirtual 179, 3) := by decide +kernel
theorem dX1_digest_81 : decode cX1_digest 81 = .ok (.invokestatic 155, 3) := by decide +kernel
theorem dX1_digest_84 : decode cX1_digest 84 = .ok (.lstore_n 1, 1) := by decide +kernel
theorem dX1_digest_85 : decode cX1_digest 85 = .ok (.lload_n 1, 1) := by decide +kernel
theorem dX1_digest_86 : decode cX1_digest 86 = .ok (.aload_n 0, 1) := by decide +kernel
theorem dX1_digest_87 : decode cX1_digest 87 = .ok (.invokevirtual 182, 3) := by decide +kernel
theorem dX1_digest_90 : decode cX1_digest 90 = .ok (.invokestatic 155, 3) := by decide +kernel
theorem dX1_digest_93 : decode cX1_digest 93 = .ok (.lstore_n 1, 1) := by decide +kernel
theorem dX1_digest_94 : decode cX1_digest 94 = .ok (.lload_n 1, 1) := by decide +kernel
theorem dX1_digest_95 : decode cX1_digest 95 = .ok (.aload_n 0, 1) := by decide +kernel
theorem dX1_digest_96 : decode cX1_digest 96 = .ok (.bipush 12, 2) := by decide +kernel
theorem dX1_digest_98 : decode cX1_digest 98 = .ok (.invokevirtual 185, 3) := by decide +kernel
theorem dX1_digest_101 : decode cX1_digest 101 = .ok (.invokestatic 155, 3) := by decide +kernel
theorem dX1_digest_104 : decode cX1_digest 104 = .ok (.lstore_n 1, 1) := by decide +kernel
theorem dX1_digest_105 : decode cX1_digest 105 = .ok (.iconst 0, 1) := by decide +kernel
theorem dX1_digest_106 : decode cX1_digest 106 = .ok (.istore_n 3, 1) := by decide +kernel
theorem dX1_digest_107 : decode cX1_digest 107 = .ok (.iload_n 3, 1) := by decide +kernel
theorem dX1_digest_108 : decode cX1_digest 108 = .ok (.aload_n 0, 1) := by decide +kernel
theorem dX1_digest_109 : decode cX1_digest 109 = .ok (.getfield 10, 3) := by decide +kernel
theorem dX1_digest_112 : decode cX1_digest 112 = .ok (.getfield 26, 3) := by decide +kernel
theorem dX1_digest_115 : decode cX1_digest 115 = .ok (.if_icmp .ge 19, 3) := by decide +kernel
theorem dX1_digest_118 : decode cX1_digest 118 = .ok (.lload_n 1, 1) := by decide +kernel
theorem dX1_digest_119 : decode cX1_digest 119 = .ok (.aload_n 0, 1) := by decide +kernel
theorem dX1_digest_120 : decode cX1_digest 120 = .ok (.iload_n 3, 1) := by decide +kernel
theorem dX1_digest_121 : decode cX1_digest 121 = .ok (.invokevirtual 188, 3) := by decide +kernel
theorem dX1_digest_124 : decode cX1_digest 124 = .ok (.invokestatic 155, 3) := by decide +kernel
theorem dX1_digest_127 : decode cX1_digest 127 = .ok (.lstore_n 1, 1) := by decide +kernel
theorem dX1_digest_128 : decode cX1_digest 128 = .ok (.iinc 3 1, 3) := by decide +kernel
theorem dX1_digest_131 : decode cX1_digest 131 = .ok (.goto (-24), 3) := by decide +kernel
theorem dX1_digest_134 : decode cX1_digest 134 = .ok (.aload_n 0, 1) := by decide +kernel
theorem dX1_digest_135 : decode cX1_digest 135 = .ok (.lload_n 1, 1) := by decide +kernel
theorem dX1_digest_136 : decode cX1_digest 136 = .ok (.invokevirtual 191, 3) := by decide +kernel
theorem dX1_digest_139 : decode cX1_digest 139 = .ok (.lstore_n 1, 1) := by decide +kernel
theorem dX1_digest_140 : decode cX1_digest 140 = .ok (.iconst 0, 1) := by decide +kernel
theorem dX1_digest_141 : decode cX1_digest 141 = .ok (.istore_n 3, 1) := by decide +kernel
theorem dX1_digest_142 : decode cX1_digest 142 = .ok (.iload_n 3, 1) := by decide +kernel
theorem dX1_digest_143 : decode cX1_digest 143 = .ok (.bipush 8, 2) := by decide +kernel
theorem dX1_digest_145 : decode cX1_digest 145 = .ok (.if_icmp .ge 19, 3) := by decide +kernel
theorem dX1_digest_148 : decode cX1_digest 148 = .ok (.lload_n 1, 1) := by decide +kernel
theorem dX1_digest_149 : decode cX1_digest 149 = .ok (.aload_n 0, 1) := by decide +kernel
theorem dX1_digest_150 : decode cX1_digest 150 = .ok (.iload_n 3, 1) := by decide +kernel
theorem dX1_digest_151 : decode cX1_digest 151 = .ok (.invokevirtual 195, 3) := by decide +kernel
theorem dX1_digest_154 : decode cX1_digest 154 = .ok (.invokestatic 155, 3) := by decide +kernel
theorem dX1_digest_157 : decode cX1_digest 157 = .ok (.lstore_n 1, 1) := by decide +kernel
theorem dX1_digest_158 : decode cX1_digest 158 = .ok (.iinc 3 1, 3) := by decide +kernel
theorem dX1_digest_161 : decode cX1_digest 161 = .ok (.goto (-19), 3) := by decide +kernel
theorem dX1_digest_164 : decode cX1_digest 164 = .ok (.lload_n 1, 1) := by decide +kernel
theorem dX1_digest_165 : decode cX1_digest 165 = .ok (.lreturn, 1) := by decide +kernel
set_option maxRecDepth 20000 in
theorem ggX1_mixSacks_X1_lookAhead : GoodIn wsX1_mixSacks wsX1_lookAhead := goodIn_r _ [7, 2, 1, 8, 9, 10, 11, 12, 13, 14, 15, 16, 17, 18, 19, 20, 21, 22, 23, 24, 25, 26, 27, 28, 29, 30, 31, 32, 33, 34, 35, 36, 37, 38, 39, 40, 41, 42, 43, 44, 45, 46, 47, 48, 49, 50, 51, 52, 53, 54, 55, 56, 57, 58, 59, 60, 61, 62, 63, 64, 65, 66, 67, 68, 69, 70, 71, 72, 73, 74, 75, 76, 77, 78, 79, 80, 81, 82, 83, 116, 117, 118, 119, 120, 121, 122, 123, 124, 125, 126, 127, 128, 129, 130, 131, 132, 133] (by decide +kernel) (by decide +kernel)
set_option maxRecDepth 20000 in
theorem gX1_mixSacks_X1_lookAhead : GoodIn wsX1_mixSacks (wsV RX1 140 RX1 yX1_lookAhead wsX1_lookAhead) := goodIn_app (goodIn_of _ (by decide +kernel)) ggX1_mixSacks_X1_lookAhead
set_option maxRecDepth 20000 in
theorem ggX1_mixSacks_X1_stoneOf : GoodIn wsX1_mixSacks wsX1_stoneOf := goodIn_ca (goodIn_r _ [87, 1, 88, 89, 90, 6, 91, 92, 93, 116, 117, 118, 119, 120, 121, 122, 123, 124, 125, 126, 127, 128, 129, 130, 131, 132, 133] (by decide +kernel) (by decide +kernel)) (goodIn_sub (fun _ h => List.mem_cons_of_mem _ (List.mem_append_right _ h)) (by decide +kernel))
set_option maxRecDepth 20000 in
theorem gX1_mixSacks_X1_stoneOf : GoodIn wsX1_mixSacks (wsV RX1 198 RX1 yX1_stoneOf wsX1_stoneOf) := goodIn_app (goodIn_of _ (by decide +kernel)) ggX1_mixSacks_X1_stoneOf
set_option maxRecDepth 20000 in
theorem ggX1_mixSacks_X1_mix : GoodIn wsX1_mixSacks wsX1_mix := goodIn_r _ [96, 97] (by decide +kernel) (by decide +kernel)
set_option maxRecDepth 20000 in
theorem gX1_mixSacks_X1_mix : GoodIn wsX1_mixSacks (va_wsS RX1 155 yX1_mix wsX1_mix) := goodIn_app (goodIn_of _ (by decide +kernel)) ggX1_mixSacks_X1_mix
set_option maxRecDepth 20000 in
theorem ggX1_mixSacks_X1_leftOf : GoodIn wsX1_mixSacks wsX1_leftOf := goodIn_ca (goodIn_r _ [101, 1, 88, 89, 90, 6, 91, 92, 93, 116, 117, 118, 119, 120, 121, 122, 123, 124, 125, 126, 127, 128, 129, 130, 131, 132, 133] (by decide +kernel) (by decide +kernel)) (goodIn_sub (fun _ h => List.mem_cons_of_mem _ (List.mem_append_right _ h)) (by decide +kernel))
set_option maxRecDepth 20000 in
theorem gX1_mixSacks_X1_leftOf : GoodIn wsX1_mixSacks (wsV RX1 201 RX1 yX1_leftOf wsX1_leftOf) := goodIn_app (goodIn_of _ (by decide +kernel)) ggX1_mixSacks_X1_leftOf
set_option maxRecDepth 20000 in
theorem ggX1_mixSacks_X1_untilOf : GoodIn wsX1_mixSacks wsX1_untilOf := goodIn_ca (goodIn_r _ [105, 1, 88, 89, 90, 6, 91, 92, 93, 116, 117, 118, 119, 120, 121, 122, 123, 124, 125, 126, 127, 128, 129, 130, 131, 132, 133] (by decide +kernel) (by decide +kernel)) (goodIn_sub (fun _ h => List.mem_cons_of_mem _ (List.mem_append_right _ h)) (by decide +kernel))
set_option maxRecDepth 20000 in
theorem gX1_mixSacks_X1_untilOf : GoodIn wsX1_mixSacks (wsV RX1 204 RX1 yX1_untilOf wsX1_untilOf) := goodIn_app (goodIn_of _ (by decide +kernel)) ggX1_mixSacks_X1_untilOf
set_option maxRecDepth 20000 in
theorem ggX1_mixSacks_X1_groundAt : GoodIn wsX1_mixSacks wsX1_groundAt := goodIn_ca (goodIn_r _ [109, 1, 88, 89, 90, 6, 91, 92, 93, 116, 117, 118, 119, 120, 121, 122, 123, 124, 125, 126, 127, 128, 129, 130, 131, 132, 133] (by decide +kernel) (by decide +kernel)) (goodIn_sub (fun _ h => List.mem_cons_of_mem _ (List.mem_append_right _ h)) (by decide +kernel))
set_option maxRecDepth 20000 in
theorem gX1_mixSacks_X1_groundAt : GoodIn wsX1_mixSacks (wsV RX1 207 RX1 yX1_groundAt wsX1_groundAt) := goodIn_app (goodIn_of _ (by decide +kernel)) ggX1_mixSacks_X1_groundAt
set_option maxRecDepth 20000 in
theorem ggX1_mixSacks_X1_placeOf : GoodIn wsX1_mixSacks wsX1_placeOf := goodIn_ca (goodIn_r _ [113, 1, 88, 89, 90, 6, 91, 92, 93, 114, 44, 45, 11, 46, 17, 115, 40, 41, 42, 23, 43, 47, 48, 49, 50, 26, 18, 116, 117, 118, 119, 120, 121, 122, 123, 124, 125, 126, 127, 128, 129, 130, 131, 132, 133] (by decide +kernel) (by decide +kernel)) (goodIn_sub (fun _ h => List.mem_cons_of_mem _ (List.mem_append_right _ h)) (by decide +kernel))
set_option maxRecDepth 20000 in
theorem gX1_mixSacks_X1_placeOf : GoodIn wsX1_mixSacks (wsV RX1 210 RX1 yX1_placeOf wsX1_placeOf) := goodIn_app (goodIn_of _ (by decide +kernel)) ggX1_mixSacks_X1_placeOf
theorem dX1_mixSacks_0 : decode cX1_mixSacks 0 = .ok (.lload_n 1, 1) := by decide +kernel
theorem dX1_mixSacks_1 : decode cX1_mixSacks 1 = .ok (.lstore_n 3, 1) := by decide +kernel
theorem dX1_mixSacks_2 : decode cX1_mixSacks 2 = .ok (.aload_n 0, 1) := by decide +kernel
theorem dX1_mixSacks_3 : decode cX1_mixSacks 3 = .ok (.invokevirtual 140, 3) := by decide +kernel
theorem dX1_mixSacks_6 : decode cX1_mixSacks 6 = .ok (.iconst 0, 1) := by decide +kernel
theorem dX1_mixSacks_7 : decode cX1_mixSacks 7 = .ok (.istore 5, 2) := by decide +kernel
theorem dX1_mixSacks_9 : decode cX1_mixSacks 9 = .ok (.iload 5, 2) := by decide +kernel
theorem dX1_mixSacks_11 : decode cX1_mixSacks 11 = .ok (.aload_n 0, 1) := by decide +kernel
theorem dX1_mixSacks_12 : decode cX1_mixSacks 12 = .ok (.getfield 10, 3) := by decide +kernel
theorem dX1_mixSacks_15 : decode cX1_mixSacks 15 = .ok (.getfield 70, 3) := by decide +kernel
theorem dX1_mixSacks_18 : decode cX1_mixSacks 18 = .ok (.if_icmp .ge 79, 3) := by decide +kernel
theorem dX1_mixSacks_21 : decode cX1_mixSacks 21 = .ok (.lload_n 3, 1) := by decide +kernel
theorem dX1_mixSacks_22 : decode cX1_mixSacks 22 = .ok (.aload_n 0, 1) := by decide +kernel
theorem dX1_mixSacks_23 : decode cX1_mixSacks 23 = .ok (.iload 5, 2) := by decide +kernel
theorem dX1_mixSacks_25 : decode cX1_mixSacks 25 = .ok (.invokevirtual 198, 3) := by decide +kernel
theorem dX1_mixSacks_28 : decode cX1_mixSacks 28 = .ok (.invokestatic 155, 3) := by decide +kernel
theorem dX1_mixSacks_31 : decode cX1_mixSacks 31 = .ok (.lstore_n 3, 1) := by decide +kernel
theorem dX1_mixSacks_32 : decode cX1_mixSacks 32 = .ok (.lload_n 3, 1) := by decide +kernel
theorem dX1_mixSacks_33 : decode cX1_mixSacks 33 = .ok (.aload_n 0, 1) := by decide +kernel
theorem dX1_mixSacks_34 : decode cX1_mixSacks 34 = .ok (.iload 5, 2) := by decide +kernel
theorem dX1_mixSacks_36 : decode cX1_mixSacks 36 = .ok (.invokevirtual 201, 3) := by decide +kernel
theorem dX1_mixSacks_39 : decode cX1_mixSacks 39 = .ok (.invokestatic 155, 3) := by decide +kernel
theorem dX1_mixSacks_42 : decode cX1_mixSacks 42 = .ok (.lstore_n 3, 1) := by decide +kernel
theorem dX1_mixSacks_43 : decode cX1_mixSacks 43 = .ok (.lload_n 3, 1) := by decide +kernel
theorem dX1_mixSacks_44 : decode cX1_mixSacks 44 = .ok (.aload_n 0, 1) := by decide +kernel
theorem dX1_mixSacks_45 : decode cX1_mixSacks 45 = .ok (.iload 5, 2) := by decide +kernel
theorem dX1_mixSacks_47 : decode cX1_mixSacks 47 = .ok (.invokevirtual 204, 3) := by decide +kernel
theorem dX1_mixSacks_50 : decode cX1_mixSacks 50 = .ok (.invokestatic 155, 3) := by decide +kernel
theorem dX1_mixSacks_53 : decode cX1_mixSacks 53 = .ok (.lstore_n 3, 1) := by decide +kernel
theorem dX1_mixSacks_54 : decode cX1_mixSacks 54 = .ok (.lload_n 3, 1) := by decide +kernel
theorem dX1_mixSacks_55 : decode cX1_mixSacks 55 = .ok (.aload_n 0, 1) := by decide +kernel
theorem dX1_mixSacks_56 : decode cX1_mixSacks 56 = .ok (.iload 5, 2) := by decide +kernel
theorem dX1_mixSacks_58 : decode cX1_mixSacks 58 = .ok (.invokevirtual 207, 3) := by decide +kernel
theorem dX1_mixSacks_61 : decode cX1_mixSacks 61 = .ok (.invokestatic 155, 3) := by decide +kernel
theorem dX1_mixSacks_64 : decode cX1_mixSacks 64 = .ok (.lstore_n 3, 1) := by decide +kernel
theorem dX1_mixSacks_65 : decode cX1_mixSacks 65 = .ok (.lload_n 3, 1) := by decide +kernel
theorem dX1_mixSacks_66 : decode cX1_mixSacks 66 = .ok (.aload_n 0, 1) := by decide +kernel
theorem dX1_mixSacks_67 : decode cX1_mixSacks 67 = .ok (.iload 5, 2) := by decide +kernel
theorem dX1_mixSacks_69 : decode cX1_mixSacks 69 = .ok (.invokevirtual 210, 3) := by decide +kernel
theorem dX1_mixSacks_72 : decode cX1_mixSacks 72 = .ok (.invokestatic 155, 3) := by decide +kernel
theorem dX1_mixSacks_75 : decode cX1_mixSacks 75 = .ok (.lstore_n 3, 1) := by decide +kernel
theorem dX1_mixSacks_76 : decode cX1_mixSacks 76 = .ok (.lload_n 3, 1) := by decide +kernel
theorem dX1_mixSacks_77 : decode cX1_mixSacks 77 = .ok (.aload_n 0, 1) := by decide +kernel
theorem dX1_mixSacks_78 : decode cX1_mixSacks 78 = .ok (.getfield 16, 3) := by decide +kernel
theorem dX1_mixSacks_81 : decode cX1_mixSacks 81 = .ok (.getfield 114, 3) := by decide +kernel
theorem dX1_mixSacks_84 : decode cX1_mixSacks 84 = .ok (.iload 5, 2) := by decide +kernel
theorem dX1_mixSacks_86 : decode cX1_mixSacks 86 = .ok (.iaload, 1) := by decide +kernel
theorem dX1_mixSacks_87 : decode cX1_mixSacks 87 = .ok (.invokestatic 155, 3) := by decide +kernel
theorem dX1_mixSacks_90 : decode cX1_mixSacks 90 = .ok (.lstore_n 3, 1) := by decide +kernel
theorem dX1_mixSacks_91 : decode cX1_mixSacks 91 = .ok (.iinc 5 1, 3) := by decide +kernel
theorem dX1_mixSacks_94 : decode cX1_mixSacks 94 = .ok (.goto (-85), 3) := by decide +kernel
theorem dX1_mixSacks_97 : decode cX1_mixSacks 97 = .ok (.lload_n 3, 1) := by decide +kernel
theorem dX1_mixSacks_98 : decode cX1_mixSacks 98 = .ok (.lreturn, 1) := by decide +kernel
theorem dX1_mix_0 : decode cX1_mix 0 = .ok (.lload_n 0, 1) := by decide +kernel
theorem dX1_mix_1 : decode cX1_mix 1 = .ok (.ldc2_w 213, 3) := by decide +kernel
theorem dX1_mix_4 : decode cX1_mix 4 = .ok (.lmul, 1) := by decide +kernel
theorem dX1_mix_5 : decode cX1_mix 5 = .ok (.iload_n 2, 1) := by decide +kernel
theorem dX1_mix_6 : decode cX1_mix 6 = .ok (.i2l, 1) := by decide +kernel
theorem dX1_mix_7 : decode cX1_mix 7 = .ok (.ladd, 1) := by decide +kernel
theorem dX1_mix_8 : decode cX1_mix 8 = .ok (.lreturn, 1) := by decide +kernel
set_option maxRecDepth 20000 in
theorem ggX1_lookAhead_X0_become : GoodIn wsX1_lookAhead wsX0_become := goodIn_r _ [7, 8, 9, 10, 11, 12, 13, 14, 15, 16, 17, 18, 19, 20, 21, 22, 23, 24, 6, 25, 81, 82, 83, 84, 85, 86, 87, 88, 89, 90, 91, 92, 93, 94, 95, 96] (by decide +kernel) (by decide +kernel)
set_option maxRecDepth 20000 in
theorem gX1_lookAhead_X0_become : GoodIn wsX1_lookAhead (wsV RX1 143 RX0 yX0_become wsX0_become) := goodIn_app (goodIn_of _ (by decide +kernel)) ggX1_lookAhead_X0_become
set_option maxRecDepth 20000 in
theorem ggX1_lookAhead_X0_run : GoodIn wsX1_lookAhead wsX0_run := goodIn_r _ [29, 16, 19, 18, 22, 30, 31, 32, 6, 33, 17, 10, 34, 35, 36, 37, 38, 39, 40, 41, 12, 42, 43, 44, 45, 21, 13, 46, 47, 48, 49, 14, 50, 51, 52, 53, 54, 20, 55, 56, 57, 58, 59, 60, 61, 62, 9, 63, 64, 65, 66, 67, 68, 69, 70, 8, 71, 72, 73, 74, 75, 76, 77, 78, 15, 81, 82, 83, 84, 85, 86, 87, 88, 89, 90, 91, 92, 93, 94, 95, 96] (by decide +kernel) (by decide +kernel)
set_option maxRecDepth 20000 in
theorem gX1_lookAhead_X0_run : GoodIn wsX1_lookAhead (wsV RX1 96 RX0 yX0_run wsX0_run) := goodIn_app (goodIn_of _ (by decide +kernel)) ggX1_lookAhead_X0_run
theorem dX1_lookAhead_0 : decode cX1_lookAhead 0 = .ok (.aload_n 0, 1) := by decide +kernel
theorem dX1_lookAhead_1 : decode cX1_lookAhead 1 = .ok (.getfield 16, 3) := by decide +kernel
theorem dX1_lookAhead_4 : decode cX1_lookAhead 4 = .ok (.aload_n 0, 1) := by decide +kernel
theorem dX1_lookAhead_5 : decode cX1_lookAhead 5 = .ok (.getfield 10, 3) := by decide +kernel
theorem dX1_lookAhead_8 : decode cX1_lookAhead 8 = .ok (.invokevirtual 143, 3) := by decide +kernel
theorem dX1_lookAhead_11 : decode cX1_lookAhead 11 = .ok (.aload_n 0, 1) := by decide +kernel
theorem dX1_lookAhead_12 : decode cX1_lookAhead 12 = .ok (.getfield 16, 3) := by decide +kernel
theorem dX1_lookAhead_15 : decode cX1_lookAhead 15 = .ok (.sipush 200, 3) := by decide +kernel
theorem dX1_lookAhead_18 : decode cX1_lookAhead 18 = .ok (.invokevirtual 96, 3) := by decide +kernel
theorem dX1_lookAhead_21 : decode cX1_lookAhead 21 = .ok (.pop, 1) := by decide +kernel
theorem dX1_lookAhead_22 : decode cX1_lookAhead 22 = .ok (.return_, 1) := by decide +kernel
theorem dX1_requireSack_0 : decode cX1_requireSack 0 = .ok (.iload_n 1, 1) := by decide +kernel
theorem dX1_requireSack_1 : decode cX1_requireSack 1 = .ok (.ifCond .lt 14, 3) := by decide +kernel
theorem dX1_requireSack_4 : decode cX1_requireSack 4 = .ok (.iload_n 1, 1) := by decide +kernel
theorem dX1_requireSack_5 : decode cX1_requireSack 5 = .ok (.aload_n 0, 1) := by decide +kernel
theorem dX1_requireSack_6 : decode cX1_requireSack 6 = .ok (.getfield 10, 3) := by decide +kernel
theorem dX1_requireSack_9 : decode cX1_requireSack 9 = .ok (.getfield 70, 3) := by decide +kernel
theorem dX1_requireSack_12 : decode cX1_requireSack 12 = .ok (.if_icmp .lt 13, 3) := by decide +kernel
theorem dX1_requireSack_15 : decode cX1_requireSack 15 = .ok (.new 39, 3) := by decide +kernel
theorem dX1_requireSack_18 : decode cX1_requireSack 18 = .ok (.dup, 1) := by decide +kernel
theorem dX1_requireSack_19 : decode cX1_requireSack 19 = .ok (.ldc 215, 2) := by decide +kernel
theorem dX1_requireSack_21 : decode cX1_requireSack 21 = .ok (.invokespecial 43, 3) := by decide +kernel
theorem dX1_requireSack_24 : decode cX1_requireSack 24 = .ok (.athrow, 1) := by decide +kernel
theorem dX1_requireSack_25 : decode cX1_requireSack 25 = .ok (.return_, 1) := by decide +kernel
theorem dX1_requireRule_0 : decode cX1_requireRule 0 = .ok (.iload_n 0, 1) := by decide +kernel
theorem dX1_requireRule_1 : decode cX1_requireRule 1 = .ok (.ifCond .lt 8, 3) := by decide +kernel
theorem dX1_requireRule_4 : decode cX1_requireRule 4 = .ok (.iload_n 0, 1) := by decide +kernel
theorem dX1_requireRule_5 : decode cX1_requireRule 5 = .ok (.iconst 3, 1) := by decide +kernel
theorem dX1_requireRule_6 : decode cX1_requireRule 6 = .ok (.if_icmp .lt 13, 3) := by decide +kernel
theorem dX1_requireRule_9 : decode cX1_requireRule 9 = .ok (.new 19, 3) := by decide +kernel
theorem dX1_requireRule_12 : decode cX1_requireRule 12 = .ok (.dup, 1) := by decide +kernel
theorem dX1_requireRule_13 : decode cX1_requireRule 13 = .ok (.ldc 217, 2) := by decide +kernel
theorem dX1_requireRule_15 : decode cX1_requireRule 15 = .ok (.invokespecial 23, 3) := by decide +kernel
theorem dX1_requireRule_18 : decode cX1_requireRule 18 = .ok (.athrow, 1) := by decide +kernel
theorem dX1_requireRule_19 : decode cX1_requireRule 19 = .ok (.return_, 1) := by decide +kernel
theorem dX1_requireBaker_0 : decode cX1_requireBaker 0 = .ok (.iload_n 0, 1) := by decide +kernel
theorem dX1_requireBaker_1 : decode cX1_requireBaker 1 = .ok (.ifCond .lt 9, 3) := by decide +kernel
theorem dX1_requireBaker_4 : decode cX1_requireBaker 4 = .ok (.iload_n 0, 1) := by decide +kernel
theorem dX1_requireBaker_5 : decode cX1_requireBaker 5 = .ok (.bipush 8, 2) := by decide +kernel
theorem dX1_requireBaker_7 : decode cX1_requireBaker 7 = .ok (.if_icmp .lt 13, 3) := by decide +kernel
theorem dX1_requireBaker_10 : decode cX1_requireBaker 10 = .ok (.new 19, 3) := by decide +kernel
theorem dX1_requireBaker_13 : decode cX1_requireBaker 13 = .ok (.dup, 1) := by decide +kernel
theorem dX1_requireBaker_14 : decode cX1_requireBaker 14 = .ok (.ldc 219, 2) := by decide +kernel
theorem dX1_requireBaker_16 : decode cX1_requireBaker 16 = .ok (.invokespecial 23, 3) := by decide +kernel
theorem dX1_requireBaker_19 : decode cX1_requireBaker 19 = .ok (.athrow, 1) := by decide +kernel
theorem dX1_requireBaker_20 : decode cX1_requireBaker 20 = .ok (.return_, 1) := by decide +kernel
theorem dX1_requireGrain_0 : decode cX1_requireGrain 0 = .ok (.iload_n 0, 1) := by decide +kernel
theorem dX1_requireGrain_1 : decode cX1_requireGrain 1 = .ok (.iconst 1, 1) := by decide +kernel
theorem dX1_requireGrain_2 : decode cX1_requireGrain 2 = .ok (.if_icmp .lt 9, 3) := by decide +kernel
theorem dX1_requireGrain_5 : decode cX1_requireGrain 5 = .ok (.iload_n 0, 1) := by decide +kernel
theorem dX1_requireGrain_6 : decode cX1_requireGrain 6 = .ok (.bipush 60, 2) := by decide +kernel
theorem dX1_requireGrain_8 : decode cX1_requireGrain 8 = .ok (.if_icmp .le 13, 3) := by decide +kernel
theorem dX1_requireGrain_11 : decode cX1_requireGrain 11 = .ok (.new 19, 3) := by decide +kernel
theorem dX1_requireGrain_14 : decode cX1_requireGrain 14 = .ok (.dup, 1) := by decide +kernel
theorem dX1_requireGrain_15 : decode cX1_requireGrain 15 = .ok (.ldc 221, 2) := by decide +kernel
theorem dX1_requireGrain_17 : decode cX1_requireGrain 17 = .ok (.invokespecial 23, 3) := by decide +kernel
theorem dX1_requireGrain_20 : decode cX1_requireGrain 20 = .ok (.athrow, 1) := by decide +kernel
theorem dX1_requireGrain_21 : decode cX1_requireGrain 21 = .ok (.return_, 1) := by decide +kernel
theorem dX1_requireUntil_0 : decode cX1_requireUntil 0 = .ok (.iload_n 0, 1) := by decide +kernel
theorem dX1_requireUntil_1 : decode cX1_requireUntil 1 = .ok (.iconst 1, 1) := by decide +kernel
theorem dX1_requireUntil_2 : decode cX1_requireUntil 2 = .ok (.if_icmp .lt 10, 3) := by decide +kernel
theorem dX1_requireUntil_5 : decode cX1_requireUntil 5 = .ok (.iload_n 0, 1) := by decide +kernel
theorem dX1_requireUntil_6 : decode cX1_requireUntil 6 = .ok (.sipush 200, 3) := by decide +kernel
theorem dX1_requireUntil_9 : decode cX1_requireUntil 9 = .ok (.if_icmp .le 13, 3) := by decide +kernel
theorem dX1_requireUntil_12 : decode cX1_requireUntil 12 = .ok (.new 19, 3) := by decide +kernel
theorem dX1_requireUntil_15 : decode cX1_requireUntil 15 = .ok (.dup, 1) := by decide +kernel
theorem dX1_requireUntil_16 : decode cX1_requireUntil 16 = .ok (.ldc 223, 2) := by decide +kernel
theorem dX1_requireUntil_18 : decode cX1_requireUntil 18 = .ok (.invokespecial 23, 3) := by decide +kernel
theorem dX1_requireUntil_21 : decode cX1_requireUntil 21 = .ok (.athrow, 1) := by decide +kernel
theorem dX1_requireUntil_22 : decode cX1_requireUntil 22 = .ok (.return_, 1) := by decide +kernel
theorem dX1_requireHours_0 : decode cX1_requireHours 0 = .ok (.iload_n 0, 1) := by decide +kernel
theorem dX1_requireHours_1 : decode cX1_requireHours 1 = .ok (.iconst 1, 1) := by decide +kernel
theorem dX1_requireHours_2 : decode cX1_requireHours 2 = .ok (.if_icmp .lt 9, 3) := by decide +kernel
theorem dX1_requireHours_5 : decode cX1_requireHours 5 = .ok (.iload_n 0, 1) := by decide +kernel
theorem dX1_requireHours_6 : decode cX1_requireHours 6 = .ok (.bipush 60, 2) := by decide +kernel
theorem dX1_requireHours_8 : decode cX1_requireHours 8 = .ok (.if_icmp .le 13, 3) := by decide +kernel
theorem dX1_requireHours_11 : decode cX1_requireHours 11 = .ok (.new 19, 3) := by decide +kernel
theorem dX1_requireHours_14 : decode cX1_requireHours 14 = .ok (.dup, 1) := by decide +kernel
theorem dX1_requireHours_15 : decode cX1_requireHours 15 = .ok (.ldc 225, 2) := by decide +kernel
theorem dX1_requireHours_17 : decode cX1_requireHours 17 = .ok (.invokespecial 23, 3) := by decide +kernel
theorem dX1_requireHours_20 : decode cX1_requireHours 20 = .ok (.athrow, 1) := by decide +kernel
theorem dX1_requireHours_21 : decode cX1_requireHours 21 = .ok (.return_, 1) := by decide +kernel
