set_option maxRecDepth 20000 in
theorem ggL_addStone_X1_addStone : GoodIn wsL_addStone wsX1_addStone := goodIn_ca (goodIn_ca (goodIn_r _ [7, 8, 9, 10, 11, 12, 13, 14, 15, 16, 17, 18, 19, 20, 21, 22, 23, 24, 25, 26, 27, 28, 29, 30, 31, 32, 33, 34, 35, 36, 37, 38] (by decide +kernel) (by decide +kernel)) (goodIn_sub (fun _ h => List.mem_cons_of_mem _ (List.mem_append_left _ (List.mem_append_right _ h))) (by decide +kernel))) (goodIn_sub (fun _ h => List.mem_cons_of_mem _ (List.mem_append_right _ h)) (by decide +kernel))
set_option maxRecDepth 20000 in
theorem gL_addStone_X1_addStone : GoodIn wsL_addStone (wsV RL 7 RX1 yX1_addStone wsX1_addStone) := goodIn_app (goodIn_of _ (by decide +kernel)) ggL_addStone_X1_addStone
set_option maxRecDepth 20000 in
theorem ggL_setWind_X1_setWind : GoodIn wsL_setWind wsX1_setWind := goodIn_ca (goodIn_ca (goodIn_r _ [7, 8, 9, 10, 11, 12, 13, 14, 15, 16, 17, 18, 19, 20, 21, 22, 23, 24, 25, 26, 27, 28, 29, 30] (by decide +kernel) (by decide +kernel)) (goodIn_sub (fun _ h => List.mem_cons_of_mem _ (List.mem_append_left _ (List.mem_append_right _ h))) (by decide +kernel))) (goodIn_sub (fun _ h => List.mem_cons_of_mem _ (List.mem_append_right _ h)) (by decide +kernel))
set_option maxRecDepth 20000 in
theorem gL_setWind_X1_setWind : GoodIn wsL_setWind (wsV RL 17 RX1 yX1_setWind wsX1_setWind) := goodIn_app (goodIn_of _ (by decide +kernel)) ggL_setWind_X1_setWind
set_option maxRecDepth 20000 in
theorem ggL_setRule_X1_setRule : GoodIn wsL_setRule wsX1_setRule := goodIn_ca (goodIn_r _ [6, 7, 8, 9, 5, 10, 11, 12, 13, 14, 15, 16, 17, 18, 19, 20, 21, 22, 23, 24, 25, 26, 27, 28, 29, 30] (by decide +kernel) (by decide +kernel)) (goodIn_sub (fun _ h => List.mem_cons_of_mem _ (List.mem_append_right _ h)) (by decide +kernel))
set_option maxRecDepth 20000 in
theorem gL_setRule_X1_setRule : GoodIn wsL_setRule (wsV RL 23 RX1 yX1_setRule wsX1_setRule) := goodIn_app (goodIn_of _ (by decide +kernel)) ggL_setRule_X1_setRule
set_option maxRecDepth 20000 in
theorem ggL_bring_X1_bring : GoodIn wsL_bring wsX1_bring := goodIn_ca (goodIn_ca (goodIn_r _ [7, 8, 9, 10, 11, 12, 6, 13, 14, 15, 16, 17, 18, 19, 20, 21, 22, 23, 24, 25, 26, 27, 28, 29, 30, 31, 32, 33, 34, 35, 36, 37, 38, 39, 40, 41, 42, 43, 44, 45, 46, 47, 48, 49, 50] (by decide +kernel) (by decide +kernel)) (goodIn_sub (fun _ h => List.mem_cons_of_mem _ (List.mem_append_left _ (List.mem_append_right _ h))) (by decide +kernel))) (goodIn_sub (fun _ h => List.mem_cons_of_mem _ (List.mem_append_right _ h)) (by decide +kernel))
set_option maxRecDepth 20000 in
theorem gL_bring_X1_bring : GoodIn wsL_bring (wsV RL 26 RX1 yX1_bring wsX1_bring) := goodIn_app (goodIn_of _ (by decide +kernel)) ggL_bring_X1_bring
set_option maxRecDepth 20000 in
theorem ggL_lift_X1_lift : GoodIn wsL_lift wsX1_lift := goodIn_ca (goodIn_ca (goodIn_r _ [7, 8, 9, 10, 11, 12, 13, 6, 14, 15, 16, 17, 18, 19, 20, 21, 22, 23, 24, 25, 26, 27, 28, 29, 30, 31, 32, 33, 34, 35, 36, 37, 38, 39, 40, 41] (by decide +kernel) (by decide +kernel)) (goodIn_sub (fun _ h => List.mem_cons_of_mem _ (List.mem_append_left _ (List.mem_append_right _ h))) (by decide +kernel))) (goodIn_sub (fun _ h => List.mem_cons_of_mem _ (List.mem_append_right _ h)) (by decide +kernel))
set_option maxRecDepth 20000 in
theorem gL_lift_X1_lift : GoodIn wsL_lift (wsV RL 30 RX1 yX1_lift wsX1_lift) := goodIn_app (goodIn_of _ (by decide +kernel)) ggL_lift_X1_lift
set_option maxRecDepth 20000 in
theorem ggL_setUntil_X1_setUntil : GoodIn wsL_setUntil wsX1_setUntil := goodIn_ca (goodIn_ca (goodIn_r _ [7, 8, 9, 10, 11, 6, 12, 13, 14, 15, 16, 17, 18, 19, 20, 21, 22, 23, 24, 25, 26, 27, 28, 29, 30, 31, 32, 33, 34, 35, 36, 37] (by decide +kernel) (by decide +kernel)) (goodIn_sub (fun _ h => List.mem_cons_of_mem _ (List.mem_append_left _ (List.mem_append_right _ h))) (by decide +kernel))) (goodIn_sub (fun _ h => List.mem_cons_of_mem _ (List.mem_append_right _ h)) (by decide +kernel))
set_option maxRecDepth 20000 in
theorem gL_setUntil_X1_setUntil : GoodIn wsL_setUntil (wsV RL 33 RX1 yX1_setUntil wsX1_setUntil) := goodIn_app (goodIn_of _ (by decide +kernel)) ggL_setUntil_X1_setUntil
set_option maxRecDepth 20000 in
theorem ggL_pass_X1_pass : GoodIn wsL_pass wsX1_pass := goodIn_ca (goodIn_r _ [6, 7, 8, 9, 5, 10, 11, 12, 13, 14, 15, 16, 17, 18, 19, 20, 21, 22, 23, 24, 25, 26, 27, 28, 29, 30, 31, 32, 33, 34, 35, 36, 37, 38, 39, 40, 41, 42, 43, 44, 45, 46, 47, 48, 49, 50, 51, 52, 53, 54, 55, 56, 57, 58, 59, 60, 61, 62, 63, 64, 65, 66, 67, 68, 69, 70, 71, 72, 73, 74, 75, 76, 77, 78, 79, 80, 81, 82, 83, 84, 85, 86, 87, 88, 89, 90, 91, 92, 93, 94, 95, 96, 97, 98] (by decide +kernel) (by decide +kernel)) (goodIn_sub (fun _ h => List.mem_cons_of_mem _ (List.mem_append_right _ h)) (by decide +kernel))
set_option maxRecDepth 20000 in
theorem gL_pass_X1_pass : GoodIn wsL_pass (wsV RL 36 RX1 yX1_pass wsX1_pass) := goodIn_app (goodIn_of _ (by decide +kernel)) ggL_pass_X1_pass
set_option maxRecDepth 20000 in
theorem ggL_sackOn_X1_sackOn : GoodIn wsL_sackOn wsX1_sackOn := goodIn_ca (goodIn_r _ [6, 7, 8, 9, 10, 11, 12, 13, 14, 15, 16, 17, 18, 19, 20, 21, 22, 23, 24, 25, 26, 27] (by decide +kernel) (by decide +kernel)) (goodIn_sub (fun _ h => List.mem_cons_of_mem _ (List.mem_append_right _ h)) (by decide +kernel))
set_option maxRecDepth 20000 in
theorem gL_sackOn_X1_sackOn : GoodIn wsL_sackOn (wsV RL 39 RX1 yX1_sackOn wsX1_sackOn) := goodIn_app (goodIn_of _ (by decide +kernel)) ggL_sackOn_X1_sackOn
set_option maxRecDepth 20000 in
theorem ggL_stoneOf_X1_stoneOf : GoodIn wsL_stoneOf wsX1_stoneOf := goodIn_ca (goodIn_r _ [6, 7, 8, 9, 10, 5, 11, 12, 13, 14, 15, 16, 17, 18, 19, 20, 21, 22, 23, 24, 25, 26, 27, 28, 29, 30, 31] (by decide +kernel) (by decide +kernel)) (goodIn_sub (fun _ h => List.mem_cons_of_mem _ (List.mem_append_right _ h)) (by decide +kernel))
set_option maxRecDepth 20000 in
theorem gL_stoneOf_X1_stoneOf : GoodIn wsL_stoneOf (wsV RL 42 RX1 yX1_stoneOf wsX1_stoneOf) := goodIn_app (goodIn_of _ (by decide +kernel)) ggL_stoneOf_X1_stoneOf
set_option maxRecDepth 20000 in
theorem ggL_leftOf_X1_leftOf : GoodIn wsL_leftOf wsX1_leftOf := goodIn_ca (goodIn_r _ [6, 7, 8, 9, 10, 5, 11, 12, 13, 14, 15, 16, 17, 18, 19, 20, 21, 22, 23, 24, 25, 26, 27, 28, 29, 30, 31] (by decide +kernel) (by decide +kernel)) (goodIn_sub (fun _ h => List.mem_cons_of_mem _ (List.mem_append_right _ h)) (by decide +kernel))
set_option maxRecDepth 20000 in
theorem gL_leftOf_X1_leftOf : GoodIn wsL_leftOf (wsV RL 45 RX1 yX1_leftOf wsX1_leftOf) := goodIn_app (goodIn_of _ (by decide +kernel)) ggL_leftOf_X1_leftOf
set_option maxRecDepth 20000 in
theorem ggL_untilOf_X1_untilOf : GoodIn wsL_untilOf wsX1_untilOf := goodIn_ca (goodIn_r _ [6, 7, 8, 9, 10, 5, 11, 12, 13, 14, 15, 16, 17, 18, 19, 20, 21, 22, 23, 24, 25, 26, 27, 28, 29, 30, 31] (by decide +kernel) (by decide +kernel)) (goodIn_sub (fun _ h => List.mem_cons_of_mem _ (List.mem_append_right _ h)) (by decide +kernel))
set_option maxRecDepth 20000 in
theorem gL_untilOf_X1_untilOf : GoodIn wsL_untilOf (wsV RL 48 RX1 yX1_untilOf wsX1_untilOf) := goodIn_app (goodIn_of _ (by decide +kernel)) ggL_untilOf_X1_untilOf
set_option maxRecDepth 20000 in
theorem ggL_groundAt_X1_groundAt : GoodIn wsL_groundAt wsX1_groundAt := goodIn_ca (goodIn_r _ [6, 7, 8, 9, 10, 5, 11, 12, 13, 14, 15, 16, 17, 18, 19, 20, 21, 22, 23, 24, 25, 26, 27, 28, 29, 30, 31] (by decide +kernel) (by decide +kernel)) (goodIn_sub (fun _ h => List.mem_cons_of_mem _ (List.mem_append_right _ h)) (by decide +kernel))
set_option maxRecDepth 20000 in
theorem gL_groundAt_X1_groundAt : GoodIn wsL_groundAt (wsV RL 51 RX1 yX1_groundAt wsX1_groundAt) := goodIn_app (goodIn_of _ (by decide +kernel)) ggL_groundAt_X1_groundAt
set_option maxRecDepth 20000 in
theorem ggL_placeOf_X1_placeOf : GoodIn wsL_placeOf wsX1_placeOf := goodIn_ca (goodIn_r _ [6, 7, 8, 9, 10, 5, 11, 12, 13, 14, 15, 16, 17, 18, 19, 20, 21, 22, 23, 24, 25, 26, 27, 28, 29, 30, 31, 32, 33, 34, 35, 36, 37, 38, 39, 40, 41, 42, 43, 44, 45, 46, 47, 48, 49] (by decide +kernel) (by decide +kernel)) (goodIn_sub (fun _ h => List.mem_cons_of_mem _ (List.mem_append_right _ h)) (by decide +kernel))
set_option maxRecDepth 20000 in
theorem gL_placeOf_X1_placeOf : GoodIn wsL_placeOf (wsV RL 54 RX1 yX1_placeOf wsX1_placeOf) := goodIn_app (goodIn_of _ (by decide +kernel)) ggL_placeOf_X1_placeOf
set_option maxRecDepth 20000 in
theorem ggL_leftFor_X1_leftFor : GoodIn wsL_leftFor wsX1_leftFor := goodIn_ca (goodIn_r _ [6, 7, 8, 9, 5, 10, 11, 12, 13, 14, 15, 16, 17, 18, 19, 20, 21, 22, 23, 24, 25, 26, 27, 28, 29, 30] (by decide +kernel) (by decide +kernel)) (goodIn_sub (fun _ h => List.mem_cons_of_mem _ (List.mem_append_right _ h)) (by decide +kernel))
set_option maxRecDepth 20000 in
theorem gL_leftFor_X1_leftFor : GoodIn wsL_leftFor (wsV RL 57 RX1 yX1_leftFor wsX1_leftFor) := goodIn_app (goodIn_of _ (by decide +kernel)) ggL_leftFor_X1_leftFor
set_option maxRecDepth 20000 in
theorem ggL_willBeGroundAt_X1_willBeGroundAt : GoodIn wsL_willBeGroundAt wsX1_willBeGroundAt := goodIn_ca (goodIn_r _ [6, 7, 8, 9, 10, 5, 11, 12, 13, 14, 15, 16, 17, 18, 19, 20, 21, 22, 23, 24, 25, 26, 27, 28, 29, 30, 31, 32, 33, 34, 35, 36, 37, 38, 39, 40, 41, 42, 43, 44, 45, 46, 47, 48, 49, 50, 51, 52, 53, 54, 55, 56, 57, 58, 59, 60, 61, 62, 63, 64, 65, 66, 67, 68, 69, 70, 71, 72, 73, 74, 75, 76, 77, 78, 79, 80, 81, 82, 83, 84, 85, 86, 87, 88, 89, 90, 91, 92, 93, 94, 95, 96, 97, 98, 99, 100, 101, 102, 103, 104, 105, 106, 107, 108, 109, 110, 111, 112] (by decide +kernel) (by decide +kernel)) (goodIn_sub (fun _ h => List.mem_cons_of_mem _ (List.mem_append_right _ h)) (by decide +kernel))
set_option maxRecDepth 20000 in
theorem gL_willBeGroundAt_X1_willBeGroundAt : GoodIn wsL_willBeGroundAt (wsV RL 60 RX1 yX1_willBeGroundAt wsX1_willBeGroundAt) := goodIn_app (goodIn_of _ (by decide +kernel)) ggL_willBeGroundAt_X1_willBeGroundAt
set_option maxRecDepth 20000 in
theorem ggL_spareOf_X1_spareOf : GoodIn wsL_spareOf wsX1_spareOf := goodIn_ca (goodIn_r _ [6, 7, 8, 9, 10, 5, 11, 12, 13, 14, 15, 16, 17, 18, 19, 20, 21, 22, 23, 24, 25, 26, 27, 28, 29, 30, 31, 32, 33, 34, 35, 36, 37, 38, 39, 40, 41, 42, 43, 44, 45, 46, 47, 48, 49, 50, 51, 52, 53, 54, 55, 56, 57, 58, 59, 60, 61, 62, 63, 64, 65, 66, 67, 68, 69, 70, 71, 72, 73, 74, 75, 76, 77, 78, 79, 80, 81, 82, 83, 84, 85, 86, 87, 88, 89, 90, 91, 92, 93, 94, 95, 96, 97, 98, 99, 100, 101, 102, 103, 104, 105, 106, 107, 108, 109, 110, 111, 112, 113] (by decide +kernel) (by decide +kernel)) (goodIn_sub (fun _ h => List.mem_cons_of_mem _ (List.mem_append_right _ h)) (by decide +kernel))
set_option maxRecDepth 20000 in
theorem gL_spareOf_X1_spareOf : GoodIn wsL_spareOf (wsV RL 63 RX1 yX1_spareOf wsX1_spareOf) := goodIn_app (goodIn_of _ (by decide +kernel)) ggL_spareOf_X1_spareOf
set_option maxRecDepth 20000 in
theorem ggL_lateWith_X1_lateWith : GoodIn wsL_lateWith wsX1_lateWith := goodIn_ca (goodIn_r _ [6, 7, 8, 9, 10, 5, 11, 12, 13, 14, 15, 16, 17, 18, 19, 20, 21, 22, 23, 24, 25, 26, 27, 28, 29, 30, 31, 32, 33, 34, 35, 36, 37, 38, 39, 40, 41, 42, 43, 44, 45, 46, 47, 48, 49, 50, 51, 52, 53, 54, 55, 56, 57, 58, 59, 60, 61, 62, 63, 64, 65, 66, 67, 68, 69, 70, 71, 72, 73, 74, 75, 76, 77, 78, 79, 80, 81, 82, 83, 84, 85, 86, 87, 88, 89, 90, 91, 92, 93, 94, 95, 96, 97, 98, 99, 100, 101, 102, 103, 104, 105, 106, 107, 108, 109, 110, 111, 112, 113, 114] (by decide +kernel) (by decide +kernel)) (goodIn_sub (fun _ h => List.mem_cons_of_mem _ (List.mem_append_right _ h)) (by decide +kernel))
set_option maxRecDepth 20000 in
theorem gL_lateWith_X1_lateWith : GoodIn wsL_lateWith (wsV RL 66 RX1 yX1_lateWith wsX1_lateWith) := goodIn_app (goodIn_of _ (by decide +kernel)) ggL_lateWith_X1_lateWith
set_option maxRecDepth 20000 in
theorem ggL_wouldBeInTime_X1_wouldBeInTime : GoodIn wsL_wouldBeInTime wsX1_wouldBeInTime := goodIn_ca (goodIn_r _ [6, 7, 8, 9, 10, 5, 11, 12, 13, 14, 15, 16, 17, 18, 19, 20, 21, 22, 23, 24, 25, 26, 27, 28, 29, 30, 31, 32, 33, 34, 35, 36, 37, 38, 39, 40, 41, 42, 43, 44, 45, 46, 47, 48, 49, 50, 51, 52, 53, 54, 55, 56, 57, 58, 59, 60, 61, 62, 63, 64, 65, 66, 67, 68, 69, 70, 71, 72, 73, 74, 75, 76, 77, 78, 79, 80, 81, 82, 83, 84, 85, 86, 87, 88, 89, 90, 91, 92, 93, 94, 95, 96, 97, 98, 99, 100, 101, 102, 103, 104, 105, 106, 107, 108, 109, 110, 111, 112, 113, 114, 115] (by decide +kernel) (by decide +kernel)) (goodIn_sub (fun _ h => List.mem_cons_of_mem _ (List.mem_append_right _ h)) (by decide +kernel))
set_option maxRecDepth 20000 in
theorem gL_wouldBeInTime_X1_wouldBeInTime : GoodIn wsL_wouldBeInTime (wsV RL 70 RX1 yX1_wouldBeInTime wsX1_wouldBeInTime) := goodIn_app (goodIn_of _ (by decide +kernel)) ggL_wouldBeInTime_X1_wouldBeInTime
set_option maxRecDepth 20000 in
theorem ggL_groundIn_X1_groundIn : GoodIn wsL_groundIn wsX1_groundIn := goodIn_ca (goodIn_r _ [6, 7, 8, 9, 10, 5, 11, 12, 13, 14, 15, 16, 17, 18, 19, 20, 21, 22, 23, 24, 25, 26, 27, 28, 29, 30, 31, 32, 33, 34, 35, 36, 37, 38, 39, 40, 41, 42, 43, 44, 45, 46, 47, 48, 49, 50, 51, 52, 53, 54, 55, 56, 57, 58, 59, 60, 61, 62, 63, 64, 65, 66, 67, 68, 69, 70, 71, 72, 73, 74, 75, 76, 77, 78, 79, 80, 81, 82, 83, 84, 85, 86, 87, 88, 89, 90, 91, 92, 93, 94, 95, 96, 97, 98, 99, 100, 101, 102, 103, 104, 105, 106, 107] (by decide +kernel) (by decide +kernel)) (goodIn_sub (fun _ h => List.mem_cons_of_mem _ (List.mem_append_right _ h)) (by decide +kernel))
set_option maxRecDepth 20000 in
theorem gL_groundIn_X1_groundIn : GoodIn wsL_groundIn (wsV RL 74 RX1 yX1_groundIn wsX1_groundIn) := goodIn_app (goodIn_of _ (by decide +kernel)) ggL_groundIn_X1_groundIn
set_option maxRecDepth 20000 in
theorem ggL_law_X1_init : GoodIn wsL_law wsX1_init := goodIn_r _ [9, 10, 11, 12, 13, 14, 15, 16, 17, 18, 19, 20, 21, 22, 23, 24, 25, 26, 27, 28, 29, 30, 31, 32, 33, 34, 35, 36, 37, 38, 39, 630, 631, 632, 633, 634, 635, 636, 637, 638, 639, 640, 641, 642, 643, 644, 645, 616, 617] (by decide +kernel) (by decide +kernel)
set_option maxRecDepth 20000 in
theorem gL_law_X1_init : GoodIn wsL_law (wsX1_init) := ggL_law_X1_init
set_option maxRecDepth 20000 in
theorem ggL_law_X2_init : GoodIn wsL_law wsX2_init := goodIn_r _ [42, 43, 11, 12, 22, 44, 45, 46, 47, 48, 49, 50, 618, 619, 620, 621, 622, 623, 624, 625, 626, 627, 628, 629] (by decide +kernel) (by decide +kernel)
set_option maxRecDepth 20000 in
theorem gL_law_X2_init : GoodIn wsL_law (wsX2_init) := ggL_law_X2_init
set_option maxRecDepth 20000 in
theorem ggL_law_L_addStone : GoodIn wsL_law wsL_addStone := goodIn_ca (goodIn_ca (goodIn_r _ [54, 55, 56, 57, 58, 59, 2, 60, 61, 62, 63, 64, 16, 65, 66, 67, 15, 68, 34, 24, 25, 616, 617, 630, 631, 632, 633, 634, 635, 636, 637, 638, 639, 640, 641, 642, 643, 644, 645] (by decide +kernel) (by decide +kernel)) (goodIn_sub (fun _ h => List.mem_append_left _ (List.mem_append_left _ (List.mem_append_right _ h))) (by decide +kernel))) (goodIn_sub (fun _ h => List.mem_append_left _ (List.mem_append_right _ h)) (by decide +kernel))
set_option maxRecDepth 20000 in
theorem gL_law_L_addStone : GoodIn wsL_law (va_wsS RL 81 yL_addStone wsL_addStone) := goodIn_app (goodIn_of _ (by decide +kernel)) ggL_law_L_addStone
set_option maxRecDepth 20000 in
theorem ggL_law_X2_addStone : GoodIn wsL_law wsX2_addStone := goodIn_r _ [72, 73, 74, 44, 75, 76, 5, 77, 78, 79, 80, 81, 618, 619, 620, 621, 622, 623, 624, 625, 626, 627, 628, 629] (by decide +kernel) (by decide +kernel)
set_option maxRecDepth 20000 in
theorem gL_law_X2_addStone : GoodIn wsL_law (wsV RL 86 RX2 yX2_addStone wsX2_addStone) := goodIn_app (goodIn_of _ (by decide +kernel)) ggL_law_X2_addStone
set_option maxRecDepth 20000 in
theorem ggL_law_X2_thrown : GoodIn wsL_law wsX2_thrown := goodIn_r _ [85, 73, 618, 619, 620, 621, 622, 623, 624, 625, 626, 627, 628, 629] (by decide +kernel) (by decide +kernel)
set_option maxRecDepth 20000 in
theorem gL_law_X2_thrown : GoodIn wsL_law (wsV RL 87 RX2 yX2_thrown wsX2_thrown) := goodIn_app (goodIn_of _ (by decide +kernel)) ggL_law_X2_thrown
set_option maxRecDepth 20000 in
theorem ggL_law_L_setWind : GoodIn wsL_law wsL_setWind := goodIn_ca (goodIn_ca (goodIn_r _ [88, 89, 55, 90, 91, 92, 2, 93, 94, 95, 61, 62, 16, 616, 617, 630, 631, 632, 633, 634, 635, 636, 637, 638, 639, 640, 641, 642, 643, 644, 645] (by decide +kernel) (by decide +kernel)) (goodIn_sub (fun _ h => List.mem_append_right _ h) (by decide +kernel))) (goodIn_sub (fun _ h => List.mem_append_left _ (List.mem_append_left _ (List.mem_append_right _ h))) (by decide +kernel))
set_option maxRecDepth 20000 in
theorem gL_law_L_setWind : GoodIn wsL_law (va_wsS RL 91 yL_setWind wsL_setWind) := goodIn_app (goodIn_of _ (by decide +kernel)) ggL_law_L_setWind
set_option maxRecDepth 20000 in
theorem ggL_law_X2_setWind : GoodIn wsL_law wsX2_setWind := goodIn_r _ [99, 73, 45, 75, 76, 5, 77, 78, 79, 80, 81, 618, 619, 620, 621, 622, 623, 624, 625, 626, 627, 628, 629] (by decide +kernel) (by decide +kernel)
set_option maxRecDepth 20000 in
theorem gL_law_X2_setWind : GoodIn wsL_law (wsV RL 94 RX2 yX2_setWind wsX2_setWind) := goodIn_app (goodIn_of _ (by decide +kernel)) ggL_law_X2_setWind
set_option maxRecDepth 20000 in
theorem ggL_law_L_setRule : GoodIn wsL_law wsL_setRule := goodIn_ca (goodIn_r _ [102, 55, 103, 104, 105, 2, 106, 16, 107, 108, 109, 61, 62, 616, 617, 630, 631, 632, 633, 634, 635, 636, 637, 638, 639, 640, 641, 642, 643, 644, 645] (by decide +kernel) (by decide +kernel)) (goodIn_sub (fun _ h => List.mem_append_left _ (List.mem_append_left _ (List.mem_append_right _ h))) (by decide +kernel))
set_option maxRecDepth 20000 in
theorem gL_law_L_setRule : GoodIn wsL_law (va_wsS RL 95 yL_setRule wsL_setRule) := goodIn_app (goodIn_of _ (by decide +kernel)) ggL_law_L_setRule
set_option maxRecDepth 20000 in
theorem ggL_law_X2_setRule : GoodIn wsL_law wsX2_setRule := goodIn_r _ [113, 73, 114, 75, 76, 5, 77, 78, 79, 80, 81, 618, 619, 620, 621, 622, 623, 624, 625, 626, 627, 628, 629] (by decide +kernel) (by decide +kernel)
set_option maxRecDepth 20000 in
theorem gL_law_X2_setRule : GoodIn wsL_law (wsV RL 97 RX2 yX2_setRule wsX2_setRule) := goodIn_app (goodIn_of _ (by decide +kernel)) ggL_law_X2_setRule
set_option maxRecDepth 20000 in
theorem ggL_law_X1_setTakingOff : GoodIn wsL_law wsX1_setTakingOff := goodIn_r _ [118, 16, 616, 617, 630, 631, 632, 633, 634, 635, 636, 637, 638, 639, 640, 641, 642, 643, 644, 645] (by decide +kernel) (by decide +kernel)
set_option maxRecDepth 20000 in
theorem gL_law_X1_setTakingOff : GoodIn wsL_law (wsV RL 98 RX1 yX1_setTakingOff wsX1_setTakingOff) := goodIn_app (goodIn_of _ (by decide +kernel)) ggL_law_X1_setTakingOff
set_option maxRecDepth 20000 in
theorem ggL_law_X2_setTakingOff : GoodIn wsL_law wsX2_setTakingOff := goodIn_r _ [122, 73, 123, 618, 619, 620, 621, 622, 623, 624, 625, 626, 627, 628, 629] (by decide +kernel) (by decide +kernel)
set_option maxRecDepth 20000 in
theorem gL_law_X2_setTakingOff : GoodIn wsL_law (wsV RL 102 RX2 yX2_setTakingOff wsX2_setTakingOff) := goodIn_app (goodIn_of _ (by decide +kernel)) ggL_law_X2_setTakingOff
set_option maxRecDepth 20000 in
theorem ggL_law_L_bring : GoodIn wsL_law wsL_bring := goodIn_ca (goodIn_ca (goodIn_r _ [126, 55, 56, 127, 128, 129, 2, 130, 63, 64, 16, 131, 132, 133, 61, 62, 134, 135, 136, 137, 138, 139, 140, 141, 142, 15, 143, 35, 28, 29, 30, 31, 32, 616, 617, 630, 631, 632, 633, 634, 635, 636, 637, 638, 639, 640, 641, 642, 643, 644, 645] (by decide +kernel) (by decide +kernel)) (goodIn_sub (fun _ h => List.mem_append_left _ (List.mem_append_right _ h)) (by decide +kernel))) (goodIn_sub (fun _ h => List.mem_append_left _ (List.mem_append_left _ (List.mem_append_right _ h))) (by decide +kernel))
set_option maxRecDepth 20000 in
theorem gL_law_L_bring : GoodIn wsL_law (va_wsS RL 103 yL_bring wsL_bring) := goodIn_app (goodIn_of _ (by decide +kernel)) ggL_law_L_bring
set_option maxRecDepth 20000 in
theorem ggL_law_X2_bring : GoodIn wsL_law wsX2_bring := goodIn_r _ [147, 73, 148, 75, 76, 5, 77, 78, 79, 80, 81, 149, 150, 151, 152, 46, 47, 48, 618, 619, 620, 621, 622, 623, 624, 625, 626, 627, 628, 629] (by decide +kernel) (by decide +kernel)
set_option maxRecDepth 20000 in
theorem gL_law_X2_bring : GoodIn wsL_law (wsV RL 106 RX2 yX2_bring wsX2_bring) := goodIn_app (goodIn_of _ (by decide +kernel)) ggL_law_X2_bring
set_option maxRecDepth 20000 in
theorem ggL_law_L_lift : GoodIn wsL_law wsL_lift := goodIn_ca (goodIn_ca (goodIn_r _ [155, 89, 56, 156, 157, 158, 2, 159, 63, 64, 16, 160, 161, 162, 163, 94, 95, 164, 165, 166, 15, 167, 25, 31, 616, 617, 630, 631, 632, 633, 634, 635, 636, 637, 638, 639, 640, 641, 642, 643, 644, 645] (by decide +kernel) (by decide +kernel)) (goodIn_sub (fun _ h => List.mem_append_left _ (List.mem_append_right _ h)) (by decide +kernel))) (goodIn_sub (fun _ h => List.mem_append_right _ h) (by decide +kernel))
set_option maxRecDepth 20000 in
theorem gL_law_L_lift : GoodIn wsL_law (va_wsS RL 107 yL_lift wsL_lift) := goodIn_app (goodIn_of _ (by decide +kernel)) ggL_law_L_lift
set_option maxRecDepth 20000 in
theorem ggL_law_X2_lift : GoodIn wsL_law wsX2_lift := goodIn_r _ [171, 73, 48, 172, 173, 174, 5, 175, 148, 75, 76, 77, 78, 79, 80, 81, 618, 619, 620, 621, 622, 623, 624, 625, 626, 627, 628, 629] (by decide +kernel) (by decide +kernel)
set_option maxRecDepth 20000 in
theorem gL_law_X2_lift : GoodIn wsL_law (wsV RL 109 RX2 yX2_lift wsX2_lift) := goodIn_app (goodIn_of _ (by decide +kernel)) ggL_law_X2_lift
set_option maxRecDepth 20000 in
theorem ggL_law_L_setUntil : GoodIn wsL_law wsL_setUntil := goodIn_ca (goodIn_ca (goodIn_r _ [178, 89, 55, 179, 180, 181, 2, 182, 16, 160, 161, 162, 163, 94, 95, 137, 138, 139, 61, 62, 616, 617, 630, 631, 632, 633, 634, 635, 636, 637, 638, 639, 640, 641, 642, 643, 644, 645] (by decide +kernel) (by decide +kernel)) (goodIn_sub (fun _ h => List.mem_append_right _ h) (by decide +kernel))) (goodIn_sub (fun _ h => List.mem_append_left _ (List.mem_append_left _ (List.mem_append_right _ h))) (by decide +kernel))
set_option maxRecDepth 20000 in
theorem gL_law_L_setUntil : GoodIn wsL_law (va_wsS RL 110 yL_setUntil wsL_setUntil) := goodIn_app (goodIn_of _ (by decide +kernel)) ggL_law_L_setUntil
set_option maxRecDepth 20000 in
theorem ggL_law_X2_setUntil : GoodIn wsL_law wsX2_setUntil := goodIn_r _ [186, 73, 47, 172, 173, 174, 5, 175, 148, 75, 76, 77, 78, 79, 80, 81, 618, 619, 620, 621, 622, 623, 624, 625, 626, 627, 628, 629] (by decide +kernel) (by decide +kernel)
set_option maxRecDepth 20000 in
theorem gL_law_X2_setUntil : GoodIn wsL_law (wsV RL 112 RX2 yX2_setUntil wsX2_setUntil) := goodIn_app (goodIn_of _ (by decide +kernel)) ggL_law_X2_setUntil
set_option maxRecDepth 20000 in
theorem ggL_law_L_pass : GoodIn wsL_law wsL_pass := goodIn_ca (goodIn_r _ [189, 55, 190, 191, 192, 2, 193, 16, 194, 195, 196, 61, 62, 197, 198, 199, 15, 200, 33, 36, 35, 39, 201, 202, 203, 204, 34, 25, 205, 206, 207, 208, 209, 210, 211, 212, 29, 213, 214, 215, 216, 38, 30, 217, 165, 166, 167, 31, 218, 219, 220, 221, 27, 37, 222, 223, 224, 225, 226, 227, 228, 229, 24, 230, 231, 232, 233, 234, 235, 236, 237, 23, 238, 239, 240, 241, 242, 243, 244, 245, 32, 616, 617, 630, 631, 632, 633, 634, 635, 636, 637, 638, 639, 640, 641, 642, 643, 644, 645] (by decide +kernel) (by decide +kernel)) (goodIn_sub (fun _ h => List.mem_append_left _ (List.mem_append_left _ (List.mem_append_right _ h))) (by decide +kernel))
set_option maxRecDepth 20000 in
theorem gL_law_L_pass : GoodIn wsL_law (va_wsS RL 113 yL_pass wsL_pass) := goodIn_app (goodIn_of _ (by decide +kernel)) ggL_law_L_pass
set_option maxRecDepth 20000 in
theorem ggL_law_X2_pass : GoodIn wsL_law wsX2_pass := goodIn_r _ [249, 73, 48, 75, 76, 5, 77, 78, 79, 80, 81, 250, 251, 252, 253, 254, 255, 256, 257, 148, 123, 74, 50, 45, 44, 258, 231, 232, 233, 259, 260, 261, 262, 263, 264, 265, 266, 267, 268, 269, 270, 114, 47, 271, 272, 273, 274, 275, 276, 277, 278, 618, 619, 620, 621, 622, 623, 624, 625, 626, 627, 628, 629] (by decide +kernel) (by decide +kernel)
set_option maxRecDepth 20000 in
theorem gL_law_X2_pass : GoodIn wsL_law (wsV RL 115 RX2 yX2_pass wsX2_pass) := goodIn_app (goodIn_of _ (by decide +kernel)) ggL_law_X2_pass
set_option maxRecDepth 20000 in
theorem ggL_law_X1_hour : GoodIn wsL_law wsX1_hour := goodIn_r _ [282, 16, 616, 617, 630, 631, 632, 633, 634, 635, 636, 637, 638, 639, 640, 641, 642, 643, 644, 645] (by decide +kernel) (by decide +kernel)
set_option maxRecDepth 20000 in
theorem gL_law_X1_hour : GoodIn wsL_law (wsV RL 116 RX1 yX1_hour wsX1_hour) := goodIn_app (goodIn_of _ (by decide +kernel)) ggL_law_X1_hour
set_option maxRecDepth 20000 in
theorem ggL_law_X2_hour : GoodIn wsL_law wsX2_hour := goodIn_r _ [286, 48, 287, 288, 289, 5, 290, 73, 618, 619, 620, 621, 622, 623, 624, 625, 626, 627, 628, 629] (by decide +kernel) (by decide +kernel)
set_option maxRecDepth 20000 in
theorem gL_law_X2_hour : GoodIn wsL_law (wsV RL 119 RX2 yX2_hour wsX2_hour) := goodIn_app (goodIn_of _ (by decide +kernel)) ggL_law_X2_hour
set_option maxRecDepth 20000 in
theorem ggL_law_X1_stones : GoodIn wsL_law wsX1_stones := goodIn_r _ [294, 16, 616, 617, 630, 631, 632, 633, 634, 635, 636, 637, 638, 639, 640, 641, 642, 643, 644, 645] (by decide +kernel) (by decide +kernel)
set_option maxRecDepth 20000 in
theorem gL_law_X1_stones : GoodIn wsL_law (wsV RL 120 RX1 yX1_stones wsX1_stones) := goodIn_app (goodIn_of _ (by decide +kernel)) ggL_law_X1_stones
set_option maxRecDepth 20000 in
theorem ggL_law_X2_stones : GoodIn wsL_law wsX2_stones := goodIn_r _ [298, 74, 287, 288, 289, 5, 290, 73, 618, 619, 620, 621, 622, 623, 624, 625, 626, 627, 628, 629] (by decide +kernel) (by decide +kernel)
set_option maxRecDepth 20000 in
theorem gL_law_X2_stones : GoodIn wsL_law (wsV RL 123 RX2 yX2_stones wsX2_stones) := goodIn_app (goodIn_of _ (by decide +kernel)) ggL_law_X2_stones
set_option maxRecDepth 20000 in
theorem ggL_law_X1_sacks : GoodIn wsL_law wsX1_sacks := goodIn_r _ [302, 16, 616, 617, 630, 631, 632, 633, 634, 635, 636, 637, 638, 639, 640, 641, 642, 643, 644, 645] (by decide +kernel) (by decide +kernel)
set_option maxRecDepth 20000 in
theorem gL_law_X1_sacks : GoodIn wsL_law (wsV RL 124 RX1 yX1_sacks wsX1_sacks) := goodIn_app (goodIn_of _ (by decide +kernel)) ggL_law_X1_sacks
set_option maxRecDepth 20000 in
theorem ggL_law_X2_sacks : GoodIn wsL_law wsX2_sacks := goodIn_r _ [306, 148, 287, 288, 289, 5, 290, 73, 618, 619, 620, 621, 622, 623, 624, 625, 626, 627, 628, 629] (by decide +kernel) (by decide +kernel)
set_option maxRecDepth 20000 in
theorem gL_law_X2_sacks : GoodIn wsL_law (wsV RL 127 RX2 yX2_sacks wsX2_sacks) := goodIn_app (goodIn_of _ (by decide +kernel)) ggL_law_X2_sacks
set_option maxRecDepth 20000 in
theorem ggL_law_X1_rule : GoodIn wsL_law wsX1_rule := goodIn_r _ [310, 16, 616, 617, 630, 631, 632, 633, 634, 635, 636, 637, 638, 639, 640, 641, 642, 643, 644, 645] (by decide +kernel) (by decide +kernel)
set_option maxRecDepth 20000 in
theorem gL_law_X1_rule : GoodIn wsL_law (wsV RL 128 RX1 yX1_rule wsX1_rule) := goodIn_app (goodIn_of _ (by decide +kernel)) ggL_law_X1_rule
set_option maxRecDepth 20000 in
theorem ggL_law_X2_rule : GoodIn wsL_law wsX2_rule := goodIn_r _ [314, 114, 287, 288, 289, 5, 290, 73, 618, 619, 620, 621, 622, 623, 624, 625, 626, 627, 628, 629] (by decide +kernel) (by decide +kernel)
set_option maxRecDepth 20000 in
theorem gL_law_X2_rule : GoodIn wsL_law (wsV RL 131 RX2 yX2_rule wsX2_rule) := goodIn_app (goodIn_of _ (by decide +kernel)) ggL_law_X2_rule
set_option maxRecDepth 20000 in
theorem ggL_law_X1_wind : GoodIn wsL_law wsX1_wind := goodIn_r _ [318, 16, 319, 235, 236, 15, 237, 23, 33, 238, 239, 240, 241, 616, 617, 630, 631, 632, 633, 634, 635, 636, 637, 638, 639, 640, 641, 642, 643, 644, 645] (by decide +kernel) (by decide +kernel)
set_option maxRecDepth 20000 in
theorem gL_law_X1_wind : GoodIn wsL_law (wsV RL 132 RX1 yX1_wind wsX1_wind) := goodIn_app (goodIn_of _ (by decide +kernel)) ggL_law_X1_wind
set_option maxRecDepth 20000 in
theorem ggL_law_X2_wind : GoodIn wsL_law wsX2_wind := goodIn_r _ [323, 45, 48, 287, 288, 289, 5, 290, 73, 618, 619, 620, 621, 622, 623, 624, 625, 626, 627, 628, 629] (by decide +kernel) (by decide +kernel)
set_option maxRecDepth 20000 in
theorem gL_law_X2_wind : GoodIn wsL_law (wsV RL 135 RX2 yX2_wind wsX2_wind) := goodIn_app (goodIn_of _ (by decide +kernel)) ggL_law_X2_wind
set_option maxRecDepth 20000 in
theorem ggL_law_L_sackOn : GoodIn wsL_law wsL_sackOn := goodIn_ca (goodIn_r _ [326, 89, 327, 328, 329, 2, 330, 94, 95, 16, 616, 617, 630, 631, 632, 633, 634, 635, 636, 637, 638, 639, 640, 641, 642, 643, 644, 645] (by decide +kernel) (by decide +kernel)) (goodIn_sub (fun _ h => List.mem_append_right _ h) (by decide +kernel))
set_option maxRecDepth 20000 in
theorem gL_law_L_sackOn : GoodIn wsL_law (va_wsS RL 136 yL_sackOn wsL_sackOn) := goodIn_app (goodIn_of _ (by decide +kernel)) ggL_law_L_sackOn
set_option maxRecDepth 20000 in
theorem ggL_law_X2_sackOn : GoodIn wsL_law wsX2_sackOn := goodIn_r _ [334, 73, 335, 336, 337, 5, 338, 74, 75, 76, 77, 271, 272, 273, 274, 148, 48, 78, 79, 80, 81, 618, 619, 620, 621, 622, 623, 624, 625, 626, 627, 628, 629] (by decide +kernel) (by decide +kernel)
set_option maxRecDepth 20000 in
theorem gL_law_X2_sackOn : GoodIn wsL_law (wsV RL 138 RX2 yX2_sackOn wsX2_sackOn) := goodIn_app (goodIn_of _ (by decide +kernel)) ggL_law_X2_sackOn
set_option maxRecDepth 20000 in
theorem ggL_law_L_stoneOf : GoodIn wsL_law wsL_stoneOf := goodIn_ca (goodIn_r _ [341, 89, 342, 343, 344, 2, 345, 16, 160, 161, 162, 163, 94, 95, 616, 617, 630, 631, 632, 633, 634, 635, 636, 637, 638, 639, 640, 641, 642, 643, 644, 645] (by decide +kernel) (by decide +kernel)) (goodIn_sub (fun _ h => List.mem_append_right _ h) (by decide +kernel))
set_option maxRecDepth 20000 in
theorem gL_law_L_stoneOf : GoodIn wsL_law (va_wsS RL 139 yL_stoneOf wsL_stoneOf) := goodIn_app (goodIn_of _ (by decide +kernel)) ggL_law_L_stoneOf
set_option maxRecDepth 20000 in
theorem ggL_law_X2_stoneOf : GoodIn wsL_law wsX2_stoneOf := goodIn_r _ [349, 350, 351, 352, 5, 353, 73, 48, 172, 173, 174, 175, 148, 75, 76, 77, 78, 79, 80, 81, 618, 619, 620, 621, 622, 623, 624, 625, 626, 627, 628, 629] (by decide +kernel) (by decide +kernel)
set_option maxRecDepth 20000 in
theorem gL_law_X2_stoneOf : GoodIn wsL_law (wsV RL 141 RX2 yX2_stoneOf wsX2_stoneOf) := goodIn_app (goodIn_of _ (by decide +kernel)) ggL_law_X2_stoneOf
set_option maxRecDepth 20000 in
theorem ggL_law_L_leftOf : GoodIn wsL_law wsL_leftOf := goodIn_ca (goodIn_r _ [356, 89, 357, 358, 359, 2, 360, 16, 160, 161, 162, 163, 94, 95, 616, 617, 630, 631, 632, 633, 634, 635, 636, 637, 638, 639, 640, 641, 642, 643, 644, 645] (by decide +kernel) (by decide +kernel)) (goodIn_sub (fun _ h => List.mem_append_right _ h) (by decide +kernel))
set_option maxRecDepth 20000 in
theorem gL_law_L_leftOf : GoodIn wsL_law (va_wsS RL 142 yL_leftOf wsL_leftOf) := goodIn_app (goodIn_of _ (by decide +kernel)) ggL_law_L_leftOf
set_option maxRecDepth 20000 in
theorem ggL_law_X2_leftOf : GoodIn wsL_law wsX2_leftOf := goodIn_r _ [364, 350, 351, 352, 5, 353, 73, 48, 172, 173, 174, 175, 148, 75, 76, 77, 78, 79, 80, 81, 618, 619, 620, 621, 622, 623, 624, 625, 626, 627, 628, 629] (by decide +kernel) (by decide +kernel)
set_option maxRecDepth 20000 in
theorem gL_law_X2_leftOf : GoodIn wsL_law (wsV RL 144 RX2 yX2_leftOf wsX2_leftOf) := goodIn_app (goodIn_of _ (by decide +kernel)) ggL_law_X2_leftOf
set_option maxRecDepth 20000 in
theorem ggL_law_L_untilOf : GoodIn wsL_law wsL_untilOf := goodIn_ca (goodIn_r _ [367, 89, 368, 369, 370, 2, 371, 16, 160, 161, 162, 163, 94, 95, 616, 617, 630, 631, 632, 633, 634, 635, 636, 637, 638, 639, 640, 641, 642, 643, 644, 645] (by decide +kernel) (by decide +kernel)) (goodIn_sub (fun _ h => List.mem_append_right _ h) (by decide +kernel))
set_option maxRecDepth 20000 in
theorem gL_law_L_untilOf : GoodIn wsL_law (va_wsS RL 145 yL_untilOf wsL_untilOf) := goodIn_app (goodIn_of _ (by decide +kernel)) ggL_law_L_untilOf
set_option maxRecDepth 20000 in
theorem ggL_law_X2_untilOf : GoodIn wsL_law wsX2_untilOf := goodIn_r _ [375, 73, 47, 172, 173, 174, 5, 175, 148, 75, 76, 77, 78, 79, 80, 81, 618, 619, 620, 621, 622, 623, 624, 625, 626, 627, 628, 629] (by decide +kernel) (by decide +kernel)
set_option maxRecDepth 20000 in
theorem gL_law_X2_untilOf : GoodIn wsL_law (wsV RL 147 RX2 yX2_untilOf wsX2_untilOf) := goodIn_app (goodIn_of _ (by decide +kernel)) ggL_law_X2_untilOf
set_option maxRecDepth 20000 in
theorem ggL_law_L_groundAt : GoodIn wsL_law wsL_groundAt := goodIn_ca (goodIn_r _ [378, 89, 379, 380, 381, 2, 382, 16, 160, 161, 162, 163, 94, 95, 616, 617, 630, 631, 632, 633, 634, 635, 636, 637, 638, 639, 640, 641, 642, 643, 644, 645] (by decide +kernel) (by decide +kernel)) (goodIn_sub (fun _ h => List.mem_append_right _ h) (by decide +kernel))
set_option maxRecDepth 20000 in
theorem gL_law_L_groundAt : GoodIn wsL_law (va_wsS RL 148 yL_groundAt wsL_groundAt) := goodIn_app (goodIn_of _ (by decide +kernel)) ggL_law_L_groundAt
set_option maxRecDepth 20000 in
theorem ggL_law_X2_groundAt : GoodIn wsL_law wsX2_groundAt := goodIn_r _ [386, 350, 351, 352, 5, 353, 73, 48, 172, 173, 174, 175, 148, 75, 76, 77, 78, 79, 80, 81, 618, 619, 620, 621, 622, 623, 624, 625, 626, 627, 628, 629] (by decide +kernel) (by decide +kernel)
set_option maxRecDepth 20000 in
theorem gL_law_X2_groundAt : GoodIn wsL_law (wsV RL 150 RX2 yX2_groundAt wsX2_groundAt) := goodIn_app (goodIn_of _ (by decide +kernel)) ggL_law_X2_groundAt
set_option maxRecDepth 20000 in
theorem ggL_law_X1_ground : GoodIn wsL_law wsX1_ground := goodIn_r _ [390, 16, 616, 617, 630, 631, 632, 633, 634, 635, 636, 637, 638, 639, 640, 641, 642, 643, 644, 645] (by decide +kernel) (by decide +kernel)
set_option maxRecDepth 20000 in
theorem gL_law_X1_ground : GoodIn wsL_law (wsV RL 151 RX1 yX1_ground wsX1_ground) := goodIn_app (goodIn_of _ (by decide +kernel)) ggL_law_X1_ground
set_option maxRecDepth 20000 in
theorem ggL_law_X2_ground : GoodIn wsL_law wsX2_ground := goodIn_r _ [394, 395, 396, 397, 5, 398, 148, 263, 264, 265, 266, 48, 287, 288, 289, 290, 73, 618, 619, 620, 621, 622, 623, 624, 625, 626, 627, 628, 629] (by decide +kernel) (by decide +kernel)
set_option maxRecDepth 20000 in
theorem gL_law_X2_ground : GoodIn wsL_law (wsV RL 154 RX2 yX2_ground wsX2_ground) := goodIn_app (goodIn_of _ (by decide +kernel)) ggL_law_X2_ground
set_option maxRecDepth 20000 in
theorem ggL_law_X1_changes : GoodIn wsL_law wsX1_changes := goodIn_r _ [402, 16, 616, 617, 630, 631, 632, 633, 634, 635, 636, 637, 638, 639, 640, 641, 642, 643, 644, 645] (by decide +kernel) (by decide +kernel)
set_option maxRecDepth 20000 in
theorem gL_law_X1_changes : GoodIn wsL_law (wsV RL 155 RX1 yX1_changes wsX1_changes) := goodIn_app (goodIn_of _ (by decide +kernel)) ggL_law_X1_changes
set_option maxRecDepth 20000 in
theorem ggL_law_X2_changes : GoodIn wsL_law wsX2_changes := goodIn_r _ [406, 48, 287, 288, 289, 5, 290, 73, 618, 619, 620, 621, 622, 623, 624, 625, 626, 627, 628, 629] (by decide +kernel) (by decide +kernel)
set_option maxRecDepth 20000 in
theorem gL_law_X2_changes : GoodIn wsL_law (wsV RL 158 RX2 yX2_changes wsX2_changes) := goodIn_app (goodIn_of _ (by decide +kernel)) ggL_law_X2_changes
set_option maxRecDepth 20000 in
theorem ggL_law_X1_first : GoodIn wsL_law wsX1_first := goodIn_r _ [410, 16, 411, 223, 224, 15, 225, 35, 31, 209, 210, 211, 212, 29, 213, 214, 215, 216, 38, 30, 616, 617, 630, 631, 632, 633, 634, 635, 636, 637, 638, 639, 640, 641, 642, 643, 644, 645] (by decide +kernel) (by decide +kernel)
set_option maxRecDepth 20000 in
theorem gL_law_X1_first : GoodIn wsL_law (wsV RL 159 RX1 yX1_first wsX1_first) := goodIn_app (goodIn_of _ (by decide +kernel)) ggL_law_X1_first
set_option maxRecDepth 20000 in
theorem ggL_law_X2_first : GoodIn wsL_law wsX2_first := goodIn_r _ [415, 275, 276, 277, 5, 278, 148, 48, 263, 264, 265, 266, 267, 268, 269, 270, 114, 47, 287, 288, 289, 290, 73, 618, 619, 620, 621, 622, 623, 624, 625, 626, 627, 628, 629] (by decide +kernel) (by decide +kernel)
set_option maxRecDepth 20000 in
theorem gL_law_X2_first : GoodIn wsL_law (wsV RL 162 RX2 yX2_first wsX2_first) := goodIn_app (goodIn_of _ (by decide +kernel)) ggL_law_X2_first
set_option maxRecDepth 20000 in
theorem ggL_law_L_placeOf : GoodIn wsL_law wsL_placeOf := goodIn_ca (goodIn_r _ [418, 89, 419, 420, 421, 2, 422, 16, 160, 161, 162, 163, 94, 95, 423, 210, 211, 15, 212, 29, 424, 206, 207, 208, 35, 209, 213, 214, 215, 216, 38, 30, 616, 617, 630, 631, 632, 633, 634, 635, 636, 637, 638, 639, 640, 641, 642, 643, 644, 645] (by decide +kernel) (by decide +kernel)) (goodIn_sub (fun _ h => List.mem_append_right _ h) (by decide +kernel))
set_option maxRecDepth 20000 in
theorem gL_law_L_placeOf : GoodIn wsL_law (va_wsS RL 163 yL_placeOf wsL_placeOf) := goodIn_app (goodIn_of _ (by decide +kernel)) ggL_law_L_placeOf
set_option maxRecDepth 20000 in
theorem ggL_law_X2_placeOf : GoodIn wsL_law wsX2_placeOf := goodIn_r _ [428, 73, 172, 173, 174, 5, 175, 148, 75, 76, 77, 429, 430, 431, 432, 263, 264, 265, 266, 48, 259, 260, 261, 262, 267, 268, 269, 270, 114, 47, 78, 79, 80, 81, 618, 619, 620, 621, 622, 623, 624, 625, 626, 627, 628, 629] (by decide +kernel) (by decide +kernel)
set_option maxRecDepth 20000 in
theorem gL_law_X2_placeOf : GoodIn wsL_law (wsV RL 165 RX2 yX2_placeOf wsX2_placeOf) := goodIn_app (goodIn_of _ (by decide +kernel)) ggL_law_X2_placeOf
set_option maxRecDepth 20000 in
theorem ggL_law_L_leftFor : GoodIn wsL_law wsL_leftFor := goodIn_ca (goodIn_r _ [435, 55, 436, 437, 438, 2, 439, 16, 131, 132, 133, 61, 62, 616, 617, 630, 631, 632, 633, 634, 635, 636, 637, 638, 639, 640, 641, 642, 643, 644, 645] (by decide +kernel) (by decide +kernel)) (goodIn_sub (fun _ h => List.mem_append_left _ (List.mem_append_left _ (List.mem_append_right _ h))) (by decide +kernel))
set_option maxRecDepth 20000 in
theorem gL_law_L_leftFor : GoodIn wsL_law (va_wsS RL 166 yL_leftFor wsL_leftFor) := goodIn_app (goodIn_of _ (by decide +kernel)) ggL_law_L_leftFor
set_option maxRecDepth 20000 in
theorem ggL_law_X2_leftFor : GoodIn wsL_law wsX2_leftFor := goodIn_r _ [443, 73, 75, 76, 5, 77, 444, 445, 446, 447, 148, 46, 48, 78, 79, 80, 81, 618, 619, 620, 621, 622, 623, 624, 625, 626, 627, 628, 629] (by decide +kernel) (by decide +kernel)
set_option maxRecDepth 20000 in
theorem gL_law_X2_leftFor : GoodIn wsL_law (wsV RL 168 RX2 yX2_leftFor wsX2_leftFor) := goodIn_app (goodIn_of _ (by decide +kernel)) ggL_law_X2_leftFor
set_option maxRecDepth 20000 in
theorem ggL_law_X1_late : GoodIn wsL_law wsX1_late := goodIn_r _ [451, 16, 452, 453, 454, 15, 455, 35, 32, 30, 456, 457, 232, 458, 209, 210, 211, 212, 29, 616, 617, 630, 631, 632, 633, 634, 635, 636, 637, 638, 639, 640, 641, 642, 643, 644, 645] (by decide +kernel) (by decide +kernel)
set_option maxRecDepth 20000 in
theorem gL_law_X1_late : GoodIn wsL_law (wsV RL 169 RX1 yX1_late wsX1_late) := goodIn_app (goodIn_of _ (by decide +kernel)) ggL_law_X1_late
set_option maxRecDepth 20000 in
theorem ggL_law_X2_late : GoodIn wsL_law wsX2_late := goodIn_r _ [462, 463, 464, 465, 5, 466, 148, 48, 47, 467, 457, 232, 458, 263, 264, 265, 266, 287, 288, 289, 290, 73, 618, 619, 620, 621, 622, 623, 624, 625, 626, 627, 628, 629] (by decide +kernel) (by decide +kernel)
set_option maxRecDepth 20000 in
theorem gL_law_X2_late : GoodIn wsL_law (wsV RL 172 RX2 yX2_late wsX2_late) := goodIn_app (goodIn_of _ (by decide +kernel)) ggL_law_X2_late
set_option maxRecDepth 20000 in
theorem ggL_law_L_willBeGroundAt : GoodIn wsL_law wsL_willBeGroundAt := goodIn_ca (goodIn_r _ [470, 89, 471, 472, 473, 2, 474, 17, 160, 161, 162, 163, 94, 95, 16, 475, 476, 477, 478, 479, 480, 481, 15, 482, 23, 24, 25, 28, 29, 30, 31, 32, 33, 34, 35, 36, 37, 38, 39, 483, 484, 485, 197, 198, 199, 200, 201, 202, 203, 204, 205, 206, 207, 208, 209, 210, 211, 212, 213, 214, 215, 216, 217, 165, 166, 167, 218, 219, 220, 221, 27, 222, 223, 224, 225, 226, 227, 228, 229, 230, 231, 232, 233, 234, 235, 236, 237, 238, 239, 240, 241, 242, 243, 244, 245, 616, 617, 630, 631, 632, 633, 634, 635, 636, 637, 638, 639, 640, 641, 642, 643, 644, 645] (by decide +kernel) (by decide +kernel)) (goodIn_sub (fun _ h => List.mem_append_right _ h) (by decide +kernel))
set_option maxRecDepth 20000 in
theorem gL_law_L_willBeGroundAt : GoodIn wsL_law (va_wsS RL 173 yL_willBeGroundAt wsL_willBeGroundAt) := goodIn_app (goodIn_of _ (by decide +kernel)) ggL_law_L_willBeGroundAt
set_option maxRecDepth 20000 in
theorem ggL_law_X2_willBeGroundAt : GoodIn wsL_law wsX2_willBeGroundAt := goodIn_r _ [489, 73, 172, 173, 174, 5, 175, 148, 75, 76, 77, 490, 491, 492, 493, 48, 494, 495, 496, 497, 49, 498, 499, 500, 501, 250, 251, 252, 253, 254, 255, 256, 257, 123, 74, 50, 45, 44, 258, 231, 232, 233, 259, 260, 261, 262, 263, 264, 265, 266, 267, 268, 269, 270, 114, 47, 271, 272, 273, 274, 275, 276, 277, 278, 502, 503, 504, 505, 78, 79, 80, 81, 618, 619, 620, 621, 622, 623, 624, 625, 626, 627, 628, 629] (by decide +kernel) (by decide +kernel)
set_option maxRecDepth 20000 in
theorem gL_law_X2_willBeGroundAt : GoodIn wsL_law (wsV RL 175 RX2 yX2_willBeGroundAt wsX2_willBeGroundAt) := goodIn_app (goodIn_of _ (by decide +kernel)) ggL_law_X2_willBeGroundAt
set_option maxRecDepth 20000 in
theorem ggL_law_L_spareOf : GoodIn wsL_law wsL_spareOf := goodIn_ca (goodIn_r _ [508, 89, 509, 510, 511, 2, 512, 17, 160, 161, 162, 163, 94, 95, 16, 475, 476, 477, 478, 479, 480, 481, 15, 482, 23, 24, 25, 28, 29, 30, 31, 32, 33, 34, 35, 36, 37, 38, 39, 483, 484, 485, 197, 198, 199, 200, 201, 202, 203, 204, 205, 206, 207, 208, 209, 210, 211, 212, 213, 214, 215, 216, 217, 165, 166, 167, 218, 219, 220, 221, 27, 222, 223, 224, 225, 226, 227, 228, 229, 230, 231, 232, 233, 234, 235, 236, 237, 238, 239, 240, 241, 242, 243, 244, 245, 423, 616, 617, 630, 631, 632, 633, 634, 635, 636, 637, 638, 639, 640, 641, 642, 643, 644, 645] (by decide +kernel) (by decide +kernel)) (goodIn_sub (fun _ h => List.mem_append_right _ h) (by decide +kernel))
set_option maxRecDepth 20000 in
theorem gL_law_L_spareOf : GoodIn wsL_law (va_wsS RL 176 yL_spareOf wsL_spareOf) := goodIn_app (goodIn_of _ (by decide +kernel)) ggL_law_L_spareOf
set_option maxRecDepth 20000 in
theorem ggL_law_X2_spareOf : GoodIn wsL_law wsX2_spareOf := goodIn_r _ [516, 73, 47, 172, 173, 174, 5, 175, 148, 75, 76, 77, 78, 79, 80, 81, 490, 491, 492, 493, 48, 494, 495, 496, 497, 49, 498, 499, 500, 501, 250, 251, 252, 253, 254, 255, 256, 257, 123, 74, 50, 45, 44, 258, 231, 232, 233, 259, 260, 261, 262, 263, 264, 265, 266, 267, 268, 269, 270, 114, 271, 272, 273, 274, 275, 276, 277, 278, 502, 503, 504, 505, 618, 619, 620, 621, 622, 623, 624, 625, 626, 627, 628, 629] (by decide +kernel) (by decide +kernel)
set_option maxRecDepth 20000 in
theorem gL_law_X2_spareOf : GoodIn wsL_law (wsV RL 178 RX2 yX2_spareOf wsX2_spareOf) := goodIn_app (goodIn_of _ (by decide +kernel)) ggL_law_X2_spareOf
set_option maxRecDepth 20000 in
theorem ggL_law_L_lateWith : GoodIn wsL_law wsL_lateWith := goodIn_ca (goodIn_r _ [519, 55, 520, 521, 522, 2, 523, 17, 16, 107, 108, 109, 61, 62, 479, 480, 481, 15, 482, 23, 24, 25, 28, 29, 30, 31, 32, 33, 34, 35, 36, 37, 38, 39, 483, 484, 485, 197, 198, 199, 200, 201, 202, 203, 204, 205, 206, 207, 208, 209, 210, 211, 212, 213, 214, 215, 216, 217, 165, 166, 167, 218, 219, 220, 221, 27, 222, 223, 224, 225, 226, 227, 228, 229, 230, 231, 232, 233, 234, 235, 236, 237, 238, 239, 240, 241, 242, 243, 244, 245, 452, 453, 454, 455, 456, 457, 458, 616, 617, 630, 631, 632, 633, 634, 635, 636, 637, 638, 639, 640, 641, 642, 643, 644, 645] (by decide +kernel) (by decide +kernel)) (goodIn_sub (fun _ h => List.mem_append_left _ (List.mem_append_left _ (List.mem_append_right _ h))) (by decide +kernel))
set_option maxRecDepth 20000 in
theorem gL_law_L_lateWith : GoodIn wsL_law (va_wsS RL 179 yL_lateWith wsL_lateWith) := goodIn_app (goodIn_of _ (by decide +kernel)) ggL_law_L_lateWith
set_option maxRecDepth 20000 in
theorem ggL_law_X2_lateWith : GoodIn wsL_law wsX2_lateWith := goodIn_r _ [527, 73, 75, 76, 5, 77, 528, 529, 530, 531, 114, 123, 494, 495, 496, 497, 48, 49, 498, 499, 500, 501, 250, 251, 252, 253, 254, 255, 256, 257, 148, 74, 50, 45, 44, 258, 231, 232, 233, 259, 260, 261, 262, 263, 264, 265, 266, 267, 268, 269, 270, 47, 271, 272, 273, 274, 275, 276, 277, 278, 463, 464, 465, 466, 467, 457, 458, 502, 503, 504, 505, 78, 79, 80, 81, 618, 619, 620, 621, 622, 623, 624, 625, 626, 627, 628, 629] (by decide +kernel) (by decide +kernel)
set_option maxRecDepth 20000 in
theorem gL_law_X2_lateWith : GoodIn wsL_law (wsV RL 182 RX2 yX2_lateWith wsX2_lateWith) := goodIn_app (goodIn_of _ (by decide +kernel)) ggL_law_X2_lateWith
set_option maxRecDepth 20000 in
theorem ggL_law_X1_bestRule : GoodIn wsL_law wsX1_bestRule := goodIn_ca (goodIn_r _ [535, 16, 536, 521, 522, 2, 523, 17, 107, 108, 109, 61, 62, 479, 480, 481, 15, 482, 23, 24, 25, 28, 29, 30, 31, 32, 33, 34, 35, 36, 37, 38, 39, 483, 484, 485, 197, 198, 199, 200, 201, 202, 203, 204, 205, 206, 207, 208, 209, 210, 211, 212, 213, 214, 215, 216, 217, 165, 166, 167, 218, 219, 220, 221, 27, 222, 223, 224, 225, 226, 227, 228, 229, 230, 231, 232, 233, 234, 235, 236, 237, 238, 239, 240, 241, 242, 243, 244, 245, 452, 453, 454, 455, 456, 457, 458, 616, 617, 630, 631, 632, 633, 634, 635, 636, 637, 638, 639, 640, 641, 642, 643, 644, 645] (by decide +kernel) (by decide +kernel)) (goodIn_sub (fun _ h => List.mem_append_left _ (List.mem_append_left _ (List.mem_append_right _ h))) (by decide +kernel))
set_option maxRecDepth 20000 in
theorem gL_law_X1_bestRule : GoodIn wsL_law (wsV RL 183 RX1 yX1_bestRule wsX1_bestRule) := goodIn_app (goodIn_of _ (by decide +kernel)) ggL_law_X1_bestRule
set_option maxRecDepth 20000 in
theorem ggL_law_X2_bestRule : GoodIn wsL_law wsX2_bestRule := goodIn_r _ [540, 541, 542, 543, 5, 544, 123, 528, 529, 530, 531, 114, 494, 495, 496, 497, 48, 49, 498, 499, 500, 501, 250, 251, 252, 253, 254, 255, 256, 257, 148, 74, 50, 45, 44, 258, 231, 232, 233, 259, 260, 261, 262, 263, 264, 265, 266, 267, 268, 269, 270, 47, 271, 272, 273, 274, 275, 276, 277, 278, 463, 464, 465, 466, 467, 457, 458, 502, 503, 504, 505, 287, 288, 289, 290, 73, 618, 619, 620, 621, 622, 623, 624, 625, 626, 627, 628, 629] (by decide +kernel) (by decide +kernel)
set_option maxRecDepth 20000 in
theorem gL_law_X2_bestRule : GoodIn wsL_law (wsV RL 186 RX2 yX2_bestRule wsX2_bestRule) := goodIn_app (goodIn_of _ (by decide +kernel)) ggL_law_X2_bestRule
set_option maxRecDepth 20000 in
theorem ggL_law_L_wouldBeInTime : GoodIn wsL_law wsL_wouldBeInTime := goodIn_ca (goodIn_r _ [547, 55, 548, 549, 550, 2, 551, 16, 17, 134, 135, 136, 61, 62, 137, 138, 139, 479, 480, 481, 15, 482, 23, 24, 25, 28, 29, 30, 31, 32, 33, 34, 35, 36, 37, 38, 39, 483, 484, 485, 140, 141, 142, 143, 197, 198, 199, 200, 201, 202, 203, 204, 205, 206, 207, 208, 209, 210, 211, 212, 213, 214, 215, 216, 217, 165, 166, 167, 218, 219, 220, 221, 27, 222, 223, 224, 225, 226, 227, 228, 229, 230, 231, 232, 233, 234, 235, 236, 237, 238, 239, 240, 241, 242, 243, 244, 245, 423, 616, 617, 630, 631, 632, 633, 634, 635, 636, 637, 638, 639, 640, 641, 642, 643, 644, 645] (by decide +kernel) (by decide +kernel)) (goodIn_sub (fun _ h => List.mem_append_left _ (List.mem_append_left _ (List.mem_append_right _ h))) (by decide +kernel))
set_option maxRecDepth 20000 in
theorem gL_law_L_wouldBeInTime : GoodIn wsL_law (va_wsS RL 187 yL_wouldBeInTime wsL_wouldBeInTime) := goodIn_app (goodIn_of _ (by decide +kernel)) ggL_law_L_wouldBeInTime
set_option maxRecDepth 20000 in
theorem ggL_law_X2_wouldBeInTime : GoodIn wsL_law wsX2_wouldBeInTime := goodIn_r _ [555, 73, 148, 48, 75, 76, 5, 77, 494, 495, 496, 497, 49, 498, 499, 500, 501, 149, 150, 151, 152, 46, 47, 250, 251, 252, 253, 254, 255, 256, 257, 123, 74, 50, 45, 44, 258, 231, 232, 233, 259, 260, 261, 262, 263, 264, 265, 266, 267, 268, 269, 270, 114, 271, 272, 273, 274, 275, 276, 277, 278, 502, 503, 504, 505, 618, 619, 620, 621, 622, 623, 624, 625, 626, 627, 628, 629] (by decide +kernel) (by decide +kernel)
set_option maxRecDepth 20000 in
theorem gL_law_X2_wouldBeInTime : GoodIn wsL_law (wsV RL 189 RX2 yX2_wouldBeInTime wsX2_wouldBeInTime) := goodIn_app (goodIn_of _ (by decide +kernel)) ggL_law_X2_wouldBeInTime
set_option maxRecDepth 20000 in
theorem ggL_law_L_groundIn : GoodIn wsL_law wsL_groundIn := goodIn_ca (goodIn_r _ [558, 55, 559, 560, 561, 2, 562, 17, 16, 194, 195, 196, 61, 62, 479, 480, 481, 15, 482, 23, 24, 25, 28, 29, 30, 31, 32, 33, 34, 35, 36, 37, 38, 39, 483, 484, 485, 197, 198, 199, 200, 201, 202, 203, 204, 205, 206, 207, 208, 209, 210, 211, 212, 213, 214, 215, 216, 217, 165, 166, 167, 218, 219, 220, 221, 27, 222, 223, 224, 225, 226, 227, 228, 229, 230, 231, 232, 233, 234, 235, 236, 237, 238, 239, 240, 241, 242, 243, 244, 245, 616, 617, 630, 631, 632, 633, 634, 635, 636, 637, 638, 639, 640, 641, 642, 643, 644, 645] (by decide +kernel) (by decide +kernel)) (goodIn_sub (fun _ h => List.mem_append_left _ (List.mem_append_left _ (List.mem_append_right _ h))) (by decide +kernel))
set_option maxRecDepth 20000 in
theorem gL_law_L_groundIn : GoodIn wsL_law (va_wsS RL 190 yL_groundIn wsL_groundIn) := goodIn_app (goodIn_of _ (by decide +kernel)) ggL_law_L_groundIn
set_option maxRecDepth 20000 in
theorem ggL_law_X2_groundIn : GoodIn wsL_law wsX2_groundIn := goodIn_r _ [566, 73, 75, 76, 5, 77, 567, 568, 569, 570, 48, 494, 495, 496, 497, 49, 498, 499, 500, 501, 250, 251, 252, 253, 254, 255, 256, 257, 148, 123, 74, 50, 45, 44, 258, 231, 232, 233, 259, 260, 261, 262, 263, 264, 265, 266, 267, 268, 269, 270, 114, 47, 271, 272, 273, 274, 275, 276, 277, 278, 502, 503, 504, 505, 78, 79, 80, 81, 618, 619, 620, 621, 622, 623, 624, 625, 626, 627, 628, 629] (by decide +kernel) (by decide +kernel)
set_option maxRecDepth 20000 in
theorem gL_law_X2_groundIn : GoodIn wsL_law (wsV RL 192 RX2 yX2_groundIn wsX2_groundIn) := goodIn_app (goodIn_of _ (by decide +kernel)) ggL_law_X2_groundIn
set_option maxRecDepth 20000 in
theorem ggL_law_X1_meanLeft : GoodIn wsL_law wsX1_meanLeft := goodIn_r _ [574, 16, 616, 617, 630, 631, 632, 633, 634, 635, 636, 637, 638, 639, 640, 641, 642, 643, 644, 645] (by decide +kernel) (by decide +kernel)
set_option maxRecDepth 20000 in
theorem gL_law_X1_meanLeft : GoodIn wsL_law (wsV RL 193 RX1 yX1_meanLeft wsX1_meanLeft) := goodIn_app (goodIn_of _ (by decide +kernel)) ggL_law_X1_meanLeft
set_option maxRecDepth 20000 in
theorem ggL_law_X2_meanLeft : GoodIn wsL_law wsX2_meanLeft := goodIn_r _ [578, 73, 148, 48, 395, 396, 397, 5, 398, 263, 264, 265, 266, 618, 619, 620, 621, 622, 623, 624, 625, 626, 627, 628, 629] (by decide +kernel) (by decide +kernel)
set_option maxRecDepth 20000 in
theorem gL_law_X2_meanLeft : GoodIn wsL_law (wsV RL 197 RX2 yX2_meanLeft wsX2_meanLeft) := goodIn_app (goodIn_of _ (by decide +kernel)) ggL_law_X2_meanLeft
set_option maxRecDepth 20000 in
theorem ggL_law_X1_digest : GoodIn wsL_law wsX1_digest := goodIn_ca (goodIn_ca (goodIn_r _ [582, 583, 16, 584, 280, 281, 2, 282, 585, 586, 587, 588, 589, 292, 293, 294, 590, 300, 301, 302, 591, 308, 309, 310, 592, 316, 317, 318, 319, 235, 236, 15, 237, 23, 33, 238, 239, 240, 241, 593, 388, 389, 390, 594, 400, 401, 402, 595, 408, 409, 410, 411, 223, 224, 225, 35, 31, 209, 210, 211, 212, 29, 213, 214, 215, 216, 38, 30, 596, 449, 450, 451, 452, 453, 454, 455, 32, 456, 457, 232, 458, 597, 533, 534, 535, 536, 521, 522, 523, 17, 107, 108, 109, 61, 62, 479, 480, 481, 482, 24, 25, 28, 34, 36, 37, 39, 483, 484, 485, 197, 198, 199, 200, 201, 202, 203, 204, 205, 206, 207, 208, 217, 165, 166, 167, 218, 219, 220, 221, 27, 222, 226, 227, 228, 229, 230, 231, 233, 234, 242, 243, 244, 245, 598, 560, 561, 562, 194, 195, 196, 599, 328, 329, 330, 94, 95, 600, 601, 602, 603, 475, 476, 477, 478, 604, 343, 344, 345, 160, 161, 162, 163, 605, 358, 359, 360, 606, 369, 370, 371, 607, 380, 381, 382, 608, 420, 421, 422, 423, 424, 609, 437, 438, 439, 131, 132, 133, 616, 617, 630, 631, 632, 633, 634, 635, 636, 637, 638, 639, 640, 641, 642, 643, 644, 645] (by decide +kernel) (by decide +kernel)) (goodIn_sub (fun _ h => List.mem_append_left _ (List.mem_append_left _ (List.mem_append_right _ h))) (by decide +kernel))) (goodIn_sub (fun _ h => List.mem_append_right _ h) (by decide +kernel))
set_option maxRecDepth 20000 in
theorem gL_law_X1_digest : GoodIn wsL_law (wsV RL 198 RX1 yX1_digest wsX1_digest) := goodIn_app (goodIn_of _ (by decide +kernel)) ggL_law_X1_digest
set_option maxRecDepth 20000 in
theorem ggL_law_X2_digest : GoodIn wsL_law wsX2_digest := goodIn_r _ [613, 73, 22, 48, 74, 148, 114, 45, 614, 615, 47, 395, 396, 397, 5, 398, 263, 264, 265, 266, 275, 276, 277, 278, 267, 268, 269, 270, 463, 464, 465, 466, 467, 457, 232, 458, 541, 542, 543, 544, 123, 528, 529, 530, 531, 494, 495, 496, 497, 49, 498, 499, 500, 501, 250, 251, 252, 253, 254, 255, 256, 257, 50, 44, 258, 231, 233, 259, 260, 261, 262, 271, 272, 273, 274, 502, 503, 504, 505, 567, 568, 569, 570, 429, 430, 431, 432, 444, 445, 446, 447, 46, 618, 619, 620, 621, 622, 623, 624, 625, 626, 627, 628, 629] (by decide +kernel) (by decide +kernel)
set_option maxRecDepth 20000 in
theorem gL_law_X2_digest : GoodIn wsL_law (wsV RL 202 RX2 yX2_digest wsX2_digest) := goodIn_app (goodIn_of _ (by decide +kernel)) ggL_law_X2_digest
