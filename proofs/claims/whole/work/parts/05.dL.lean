theorem dL_kite_0 : decode cL_kite 0 = .ok (.aload 4, 2) := by decide +kernel
theorem dL_kite_2 : decode cL_kite 2 = .ok (.iconst 0, 1) := by decide +kernel
theorem dL_kite_3 : decode cL_kite 3 = .ok (.aload_n 0, 1) := by decide +kernel
theorem dL_kite_4 : decode cL_kite 4 = .ok (.iload_n 1, 1) := by decide +kernel
theorem dL_kite_5 : decode cL_kite 5 = .ok (.iload_n 2, 1) := by decide +kernel
theorem dL_kite_6 : decode cL_kite 6 = .ok (.iload_n 3, 1) := by decide +kernel
theorem dL_kite_7 : decode cL_kite 7 = .ok (.invokevirtual 7, 3) := by decide +kernel
theorem dL_kite_10 : decode cL_kite 10 = .ok (.i2l, 1) := by decide +kernel
theorem dL_kite_11 : decode cL_kite 11 = .ok (.lastore, 1) := by decide +kernel
theorem dL_kite_12 : decode cL_kite 12 = .ok (.goto 11, 3) := by decide +kernel
theorem dL_kite_15 : decode cL_kite 15 = .ok (.astore 5, 2) := by decide +kernel
theorem dL_kite_17 : decode cL_kite 17 = .ok (.iconst 1, 1) := by decide +kernel
theorem dL_kite_18 : decode cL_kite 18 = .ok (.ireturn, 1) := by decide +kernel
theorem dL_kite_19 : decode cL_kite 19 = .ok (.astore 5, 2) := by decide +kernel
theorem dL_kite_21 : decode cL_kite 21 = .ok (.iconst 2, 1) := by decide +kernel
theorem dL_kite_22 : decode cL_kite 22 = .ok (.ireturn, 1) := by decide +kernel
theorem dL_kite_23 : decode cL_kite 23 = .ok (.iconst 0, 1) := by decide +kernel
theorem dL_kite_24 : decode cL_kite 24 = .ok (.ireturn, 1) := by decide +kernel
set_option maxRecDepth 20000 in
theorem ggL_patch_X2_patch : GoodIn wsL_patch wsX2_patch := goodIn_ca (goodIn_ca (goodIn_r _ [7, 8, 9, 10, 11, 12, 13, 14, 6, 15, 16, 17, 18, 19, 20, 21, 22, 23, 24, 25, 26, 27, 28, 29, 30, 31, 32, 33, 34, 35, 36, 37, 38, 39] (by decide +kernel) (by decide +kernel)) (goodIn_sub (fun _ h => List.mem_cons_of_mem _ (List.mem_append_left _ (List.mem_append_right _ h))) (by decide +kernel))) (goodIn_sub (fun _ h => List.mem_cons_of_mem _ (List.mem_append_right _ h)) (by decide +kernel))
set_option maxRecDepth 20000 in
theorem gL_patch_X2_patch : GoodIn wsL_patch (wsV RL 17 RX2 yX2_patch wsX2_patch) := goodIn_app (goodIn_of _ (by decide +kernel)) ggL_patch_X2_patch
theorem dL_patch_0 : decode cL_patch 0 = .ok (.aload_n 2, 1) := by decide +kernel
theorem dL_patch_1 : decode cL_patch 1 = .ok (.iconst 0, 1) := by decide +kernel
theorem dL_patch_2 : decode cL_patch 2 = .ok (.aload_n 0, 1) := by decide +kernel
theorem dL_patch_3 : decode cL_patch 3 = .ok (.iload_n 1, 1) := by decide +kernel
theorem dL_patch_4 : decode cL_patch 4 = .ok (.invokevirtual 17, 3) := by decide +kernel
theorem dL_patch_7 : decode cL_patch 7 = .ok (.i2l, 1) := by decide +kernel
theorem dL_patch_8 : decode cL_patch 8 = .ok (.lastore, 1) := by decide +kernel
theorem dL_patch_9 : decode cL_patch 9 = .ok (.goto 9, 3) := by decide +kernel
theorem dL_patch_12 : decode cL_patch 12 = .ok (.astore_n 3, 1) := by decide +kernel
theorem dL_patch_13 : decode cL_patch 13 = .ok (.iconst 1, 1) := by decide +kernel
theorem dL_patch_14 : decode cL_patch 14 = .ok (.ireturn, 1) := by decide +kernel
theorem dL_patch_15 : decode cL_patch 15 = .ok (.astore_n 3, 1) := by decide +kernel
theorem dL_patch_16 : decode cL_patch 16 = .ok (.iconst 2, 1) := by decide +kernel
theorem dL_patch_17 : decode cL_patch 17 = .ok (.ireturn, 1) := by decide +kernel
theorem dL_patch_18 : decode cL_patch 18 = .ok (.iconst 0, 1) := by decide +kernel
theorem dL_patch_19 : decode cL_patch 19 = .ok (.ireturn, 1) := by decide +kernel
set_option maxRecDepth 20000 in
theorem ggL_borrower_X2_borrower : GoodIn wsL_borrower wsX2_borrower := goodIn_ca (goodIn_ca (goodIn_r _ [7, 8, 9, 10, 11, 12, 13, 14, 15, 16, 17, 18, 6, 19, 20, 21, 22, 23, 24, 25, 26, 27, 28, 29, 30, 31, 32, 33, 34, 35, 36, 37] (by decide +kernel) (by decide +kernel)) (goodIn_sub (fun _ h => List.mem_cons_of_mem _ (List.mem_append_left _ (List.mem_append_right _ h))) (by decide +kernel))) (goodIn_sub (fun _ h => List.mem_cons_of_mem _ (List.mem_append_right _ h)) (by decide +kernel))
set_option maxRecDepth 20000 in
theorem gL_borrower_X2_borrower : GoodIn wsL_borrower (wsV RL 23 RX2 yX2_borrower wsX2_borrower) := goodIn_app (goodIn_of _ (by decide +kernel)) ggL_borrower_X2_borrower
theorem dL_borrower_0 : decode cL_borrower 0 = .ok (.aload_n 2, 1) := by decide +kernel
theorem dL_borrower_1 : decode cL_borrower 1 = .ok (.iconst 0, 1) := by decide +kernel
theorem dL_borrower_2 : decode cL_borrower 2 = .ok (.aload_n 0, 1) := by decide +kernel
theorem dL_borrower_3 : decode cL_borrower 3 = .ok (.iload_n 1, 1) := by decide +kernel
theorem dL_borrower_4 : decode cL_borrower 4 = .ok (.invokevirtual 23, 3) := by decide +kernel
theorem dL_borrower_7 : decode cL_borrower 7 = .ok (.i2l, 1) := by decide +kernel
theorem dL_borrower_8 : decode cL_borrower 8 = .ok (.lastore, 1) := by decide +kernel
theorem dL_borrower_9 : decode cL_borrower 9 = .ok (.goto 9, 3) := by decide +kernel
theorem dL_borrower_12 : decode cL_borrower 12 = .ok (.astore_n 3, 1) := by decide +kernel
theorem dL_borrower_13 : decode cL_borrower 13 = .ok (.iconst 1, 1) := by decide +kernel
theorem dL_borrower_14 : decode cL_borrower 14 = .ok (.ireturn, 1) := by decide +kernel
theorem dL_borrower_15 : decode cL_borrower 15 = .ok (.astore_n 3, 1) := by decide +kernel
theorem dL_borrower_16 : decode cL_borrower 16 = .ok (.iconst 2, 1) := by decide +kernel
theorem dL_borrower_17 : decode cL_borrower 17 = .ok (.ireturn, 1) := by decide +kernel
theorem dL_borrower_18 : decode cL_borrower 18 = .ok (.iconst 0, 1) := by decide +kernel
theorem dL_borrower_19 : decode cL_borrower 19 = .ok (.ireturn, 1) := by decide +kernel
set_option maxRecDepth 20000 in
theorem ggL_lend_X2_lend : GoodIn wsL_lend wsX2_lend := goodIn_ca (goodIn_ca (goodIn_r _ [7, 8, 9, 10, 11, 12, 13, 14, 6, 15, 16, 17, 18, 19, 20, 21, 22, 23, 24, 25, 26, 27, 28, 29, 30, 31, 32, 33, 34, 35, 36, 37, 38, 39, 40, 41, 42, 43, 44, 45, 46, 47, 48, 49, 50, 51, 52, 53, 54, 55, 56, 57, 58, 59, 60, 61, 62] (by decide +kernel) (by decide +kernel)) (goodIn_sub (fun _ h => List.mem_cons_of_mem _ (List.mem_append_left _ (List.mem_append_right _ h))) (by decide +kernel))) (goodIn_sub (fun _ h => List.mem_cons_of_mem _ (List.mem_append_right _ h)) (by decide +kernel))
set_option maxRecDepth 20000 in
theorem gL_lend_X2_lend : GoodIn wsL_lend (wsV RL 26 RX2 yX2_lend wsX2_lend) := goodIn_app (goodIn_of _ (by decide +kernel)) ggL_lend_X2_lend
theorem dL_lend_0 : decode cL_lend 0 = .ok (.aload_n 0, 1) := by decide +kernel
theorem dL_lend_1 : decode cL_lend 1 = .ok (.iload_n 1, 1) := by decide +kernel
theorem dL_lend_2 : decode cL_lend 2 = .ok (.iload_n 2, 1) := by decide +kernel
theorem dL_lend_3 : decode cL_lend 3 = .ok (.invokevirtual 26, 3) := by decide +kernel
theorem dL_lend_6 : decode cL_lend 6 = .ok (.goto 9, 3) := by decide +kernel
theorem dL_lend_9 : decode cL_lend 9 = .ok (.astore_n 3, 1) := by decide +kernel
theorem dL_lend_10 : decode cL_lend 10 = .ok (.iconst 1, 1) := by decide +kernel
theorem dL_lend_11 : decode cL_lend 11 = .ok (.ireturn, 1) := by decide +kernel
theorem dL_lend_12 : decode cL_lend 12 = .ok (.astore_n 3, 1) := by decide +kernel
theorem dL_lend_13 : decode cL_lend 13 = .ok (.iconst 2, 1) := by decide +kernel
theorem dL_lend_14 : decode cL_lend 14 = .ok (.ireturn, 1) := by decide +kernel
theorem dL_lend_15 : decode cL_lend 15 = .ok (.iconst 0, 1) := by decide +kernel
theorem dL_lend_16 : decode cL_lend 16 = .ok (.ireturn, 1) := by decide +kernel
set_option maxRecDepth 20000 in
theorem ggL_giveBack_X2_giveBack : GoodIn wsL_giveBack wsX2_giveBack := goodIn_ca (goodIn_ca (goodIn_r _ [7, 8, 9, 10, 11, 12, 13, 14, 15, 6, 16, 17, 18, 19, 20, 21, 22, 23, 24, 25, 26, 27, 28, 29, 30, 31, 32, 33, 34, 35, 36, 37, 38, 39, 40, 41, 42, 43, 44, 45, 46, 47, 48] (by decide +kernel) (by decide +kernel)) (goodIn_sub (fun _ h => List.mem_cons_of_mem _ (List.mem_append_left _ (List.mem_append_right _ h))) (by decide +kernel))) (goodIn_sub (fun _ h => List.mem_cons_of_mem _ (List.mem_append_right _ h)) (by decide +kernel))
set_option maxRecDepth 20000 in
theorem gL_giveBack_X2_giveBack : GoodIn wsL_giveBack (wsV RL 30 RX2 yX2_giveBack wsX2_giveBack) := goodIn_app (goodIn_of _ (by decide +kernel)) ggL_giveBack_X2_giveBack
theorem dL_giveBack_0 : decode cL_giveBack 0 = .ok (.aload_n 2, 1) := by decide +kernel
theorem dL_giveBack_1 : decode cL_giveBack 1 = .ok (.iconst 0, 1) := by decide +kernel
theorem dL_giveBack_2 : decode cL_giveBack 2 = .ok (.aload_n 0, 1) := by decide +kernel
theorem dL_giveBack_3 : decode cL_giveBack 3 = .ok (.iload_n 1, 1) := by decide +kernel
theorem dL_giveBack_4 : decode cL_giveBack 4 = .ok (.invokevirtual 30, 3) := by decide +kernel
theorem dL_giveBack_7 : decode cL_giveBack 7 = .ok (.i2l, 1) := by decide +kernel
theorem dL_giveBack_8 : decode cL_giveBack 8 = .ok (.lastore, 1) := by decide +kernel
theorem dL_giveBack_9 : decode cL_giveBack 9 = .ok (.goto 9, 3) := by decide +kernel
theorem dL_giveBack_12 : decode cL_giveBack 12 = .ok (.astore_n 3, 1) := by decide +kernel
theorem dL_giveBack_13 : decode cL_giveBack 13 = .ok (.iconst 1, 1) := by decide +kernel
theorem dL_giveBack_14 : decode cL_giveBack 14 = .ok (.ireturn, 1) := by decide +kernel
theorem dL_giveBack_15 : decode cL_giveBack 15 = .ok (.astore_n 3, 1) := by decide +kernel
theorem dL_giveBack_16 : decode cL_giveBack 16 = .ok (.iconst 2, 1) := by decide +kernel
theorem dL_giveBack_17 : decode cL_giveBack 17 = .ok (.ireturn, 1) := by decide +kernel
theorem dL_giveBack_18 : decode cL_giveBack 18 = .ok (.iconst 0, 1) := by decide +kernel
theorem dL_giveBack_19 : decode cL_giveBack 19 = .ok (.ireturn, 1) := by decide +kernel
set_option maxRecDepth 20000 in
theorem ggL_fly_X2_fly : GoodIn wsL_fly wsX2_fly := goodIn_ca (goodIn_ca (goodIn_ca (goodIn_r _ [8, 9, 10, 11, 12, 13, 14, 15, 16, 17, 18, 19, 20, 21, 22, 7, 23, 24, 25, 26, 27, 28, 29, 30, 31, 32, 33, 34, 35, 36, 37, 38, 39, 40, 41, 42, 43, 44, 45, 46, 47, 48, 49, 50, 51, 52, 53, 54, 55, 56, 57, 58, 59, 60, 61, 62, 63, 64, 65, 66, 67, 68, 69, 70, 71, 72, 73, 74, 75, 76, 77, 78, 79, 80, 81, 82, 83, 84, 85, 86, 87, 88, 89] (by decide +kernel) (by decide +kernel)) (goodIn_sub (fun _ h => List.mem_cons_of_mem _ (List.mem_append_left _ (List.mem_append_left _ (List.mem_append_right _ h)))) (by decide +kernel))) (goodIn_sub (fun _ h => List.mem_cons_of_mem _ (List.mem_append_left _ (List.mem_append_right _ h))) (by decide +kernel))) (goodIn_sub (fun _ h => List.mem_cons_of_mem _ (List.mem_append_right _ h)) (by decide +kernel))
set_option maxRecDepth 20000 in
theorem gL_fly_X2_fly : GoodIn wsL_fly (wsV RL 33 RX2 yX2_fly wsX2_fly) := goodIn_app (goodIn_of _ (by decide +kernel)) ggL_fly_X2_fly
theorem dL_fly_0 : decode cL_fly 0 = .ok (.aload 4, 2) := by decide +kernel
theorem dL_fly_2 : decode cL_fly 2 = .ok (.iconst 0, 1) := by decide +kernel
theorem dL_fly_3 : decode cL_fly 3 = .ok (.aload_n 0, 1) := by decide +kernel
theorem dL_fly_4 : decode cL_fly 4 = .ok (.iload_n 1, 1) := by decide +kernel
theorem dL_fly_5 : decode cL_fly 5 = .ok (.iload_n 2, 1) := by decide +kernel
theorem dL_fly_6 : decode cL_fly 6 = .ok (.iload_n 3, 1) := by decide +kernel
theorem dL_fly_7 : decode cL_fly 7 = .ok (.invokevirtual 33, 3) := by decide +kernel
theorem dL_fly_10 : decode cL_fly 10 = .ok (.i2l, 1) := by decide +kernel
theorem dL_fly_11 : decode cL_fly 11 = .ok (.lastore, 1) := by decide +kernel
theorem dL_fly_12 : decode cL_fly 12 = .ok (.goto 15, 3) := by decide +kernel
theorem dL_fly_15 : decode cL_fly 15 = .ok (.astore 5, 2) := by decide +kernel
theorem dL_fly_17 : decode cL_fly 17 = .ok (.iconst 1, 1) := by decide +kernel
theorem dL_fly_18 : decode cL_fly 18 = .ok (.ireturn, 1) := by decide +kernel
theorem dL_fly_19 : decode cL_fly 19 = .ok (.astore 5, 2) := by decide +kernel
theorem dL_fly_21 : decode cL_fly 21 = .ok (.iconst 2, 1) := by decide +kernel
theorem dL_fly_22 : decode cL_fly 22 = .ok (.ireturn, 1) := by decide +kernel
theorem dL_fly_23 : decode cL_fly 23 = .ok (.astore 5, 2) := by decide +kernel
theorem dL_fly_25 : decode cL_fly 25 = .ok (.iconst 3, 1) := by decide +kernel
theorem dL_fly_26 : decode cL_fly 26 = .ok (.ireturn, 1) := by decide +kernel
theorem dL_fly_27 : decode cL_fly 27 = .ok (.iconst 0, 1) := by decide +kernel
theorem dL_fly_28 : decode cL_fly 28 = .ok (.ireturn, 1) := by decide +kernel
set_option maxRecDepth 20000 in
theorem ggL_land_X2_land : GoodIn wsL_land wsX2_land := goodIn_ca (goodIn_ca (goodIn_r _ [7, 8, 9, 10, 11, 12, 13, 6, 14, 15, 16, 17, 18, 19, 20, 21, 22, 23, 24, 25, 26, 27, 28, 29, 30, 31, 32, 33, 34, 35, 36, 37, 38, 39, 40, 41, 42, 43, 44, 45, 46] (by decide +kernel) (by decide +kernel)) (goodIn_sub (fun _ h => List.mem_cons_of_mem _ (List.mem_append_left _ (List.mem_append_right _ h))) (by decide +kernel))) (goodIn_sub (fun _ h => List.mem_cons_of_mem _ (List.mem_append_right _ h)) (by decide +kernel))
set_option maxRecDepth 20000 in
theorem gL_land_X2_land : GoodIn wsL_land (wsV RL 36 RX2 yX2_land wsX2_land) := goodIn_app (goodIn_of _ (by decide +kernel)) ggL_land_X2_land
theorem dL_land_0 : decode cL_land 0 = .ok (.aload_n 2, 1) := by decide +kernel
theorem dL_land_1 : decode cL_land 1 = .ok (.iconst 0, 1) := by decide +kernel
theorem dL_land_2 : decode cL_land 2 = .ok (.aload_n 0, 1) := by decide +kernel
theorem dL_land_3 : decode cL_land 3 = .ok (.iload_n 1, 1) := by decide +kernel
theorem dL_land_4 : decode cL_land 4 = .ok (.invokevirtual 36, 3) := by decide +kernel
theorem dL_land_7 : decode cL_land 7 = .ok (.i2l, 1) := by decide +kernel
theorem dL_land_8 : decode cL_land 8 = .ok (.lastore, 1) := by decide +kernel
theorem dL_land_9 : decode cL_land 9 = .ok (.goto 9, 3) := by decide +kernel
theorem dL_land_12 : decode cL_land 12 = .ok (.astore_n 3, 1) := by decide +kernel
theorem dL_land_13 : decode cL_land 13 = .ok (.iconst 1, 1) := by decide +kernel
theorem dL_land_14 : decode cL_land 14 = .ok (.ireturn, 1) := by decide +kernel
theorem dL_land_15 : decode cL_land 15 = .ok (.astore_n 3, 1) := by decide +kernel
theorem dL_land_16 : decode cL_land 16 = .ok (.iconst 2, 1) := by decide +kernel
theorem dL_land_17 : decode cL_land 17 = .ok (.ireturn, 1) := by decide +kernel
theorem dL_land_18 : decode cL_land 18 = .ok (.iconst 0, 1) := by decide +kernel
theorem dL_land_19 : decode cL_land 19 = .ok (.ireturn, 1) := by decide +kernel
set_option maxRecDepth 20000 in
theorem ggL_wind_X2_wind : GoodIn wsL_wind wsX2_wind := goodIn_ca (goodIn_r _ [6, 7, 8, 9, 10, 11, 12, 13, 5, 14, 15, 16, 17, 18, 19, 20, 21, 22, 23, 24, 25, 26, 27, 28, 29, 30, 31, 32, 33, 34, 35, 36, 37, 38, 39, 40, 41, 42, 43, 44, 45, 46, 47, 48, 49, 50, 51, 52, 53, 54, 55, 56, 57, 58, 59, 60, 61, 62, 63, 64, 65, 66, 67, 68, 69, 70, 71, 72, 73, 74, 75, 76, 77, 78, 79, 80, 81, 82, 83, 84, 85, 86, 87, 88] (by decide +kernel) (by decide +kernel)) (goodIn_sub (fun _ h => List.mem_cons_of_mem _ (List.mem_append_right _ h)) (by decide +kernel))
set_option maxRecDepth 20000 in
theorem gL_wind_X2_wind : GoodIn wsL_wind (wsV RL 39 RX2 yX2_wind wsX2_wind) := goodIn_app (goodIn_of _ (by decide +kernel)) ggL_wind_X2_wind
theorem dL_wind_0 : decode cL_wind 0 = .ok (.aload_n 3, 1) := by decide +kernel
theorem dL_wind_1 : decode cL_wind 1 = .ok (.iconst 0, 1) := by decide +kernel
theorem dL_wind_2 : decode cL_wind 2 = .ok (.aload_n 0, 1) := by decide +kernel
theorem dL_wind_3 : decode cL_wind 3 = .ok (.iload_n 1, 1) := by decide +kernel
theorem dL_wind_4 : decode cL_wind 4 = .ok (.iload_n 2, 1) := by decide +kernel
theorem dL_wind_5 : decode cL_wind 5 = .ok (.invokevirtual 39, 3) := by decide +kernel
theorem dL_wind_8 : decode cL_wind 8 = .ok (.i2l, 1) := by decide +kernel
theorem dL_wind_9 : decode cL_wind 9 = .ok (.lastore, 1) := by decide +kernel
theorem dL_wind_10 : decode cL_wind 10 = .ok (.goto 7, 3) := by decide +kernel
theorem dL_wind_13 : decode cL_wind 13 = .ok (.astore 4, 2) := by decide +kernel
theorem dL_wind_15 : decode cL_wind 15 = .ok (.iconst 1, 1) := by decide +kernel
theorem dL_wind_16 : decode cL_wind 16 = .ok (.ireturn, 1) := by decide +kernel
theorem dL_wind_17 : decode cL_wind 17 = .ok (.iconst 0, 1) := by decide +kernel
theorem dL_wind_18 : decode cL_wind 18 = .ok (.ireturn, 1) := by decide +kernel
set_option maxRecDepth 20000 in
theorem ggL_pass_X2_pass : GoodIn wsL_pass wsX2_pass := goodIn_ca (goodIn_r _ [6, 7, 8, 9, 10, 5, 11, 12, 13, 14, 15, 16, 17, 18, 19, 20, 21, 22, 23, 24, 25, 26, 27, 28, 29, 30, 31, 32, 33, 34, 35, 36, 37, 38, 39, 40, 41, 42, 43, 44, 45, 46, 47, 48, 49, 50, 51] (by decide +kernel) (by decide +kernel)) (goodIn_sub (fun _ h => List.mem_cons_of_mem _ (List.mem_append_right _ h)) (by decide +kernel))
set_option maxRecDepth 20000 in
theorem gL_pass_X2_pass : GoodIn wsL_pass (wsV RL 43 RX2 yX2_pass wsX2_pass) := goodIn_app (goodIn_of _ (by decide +kernel)) ggL_pass_X2_pass
theorem dL_pass_0 : decode cL_pass 0 = .ok (.aload_n 2, 1) := by decide +kernel
theorem dL_pass_1 : decode cL_pass 1 = .ok (.iconst 0, 1) := by decide +kernel
theorem dL_pass_2 : decode cL_pass 2 = .ok (.aload_n 0, 1) := by decide +kernel
theorem dL_pass_3 : decode cL_pass 3 = .ok (.iload_n 1, 1) := by decide +kernel
theorem dL_pass_4 : decode cL_pass 4 = .ok (.invokevirtual 43, 3) := by decide +kernel
theorem dL_pass_7 : decode cL_pass 7 = .ok (.i2l, 1) := by decide +kernel
theorem dL_pass_8 : decode cL_pass 8 = .ok (.lastore, 1) := by decide +kernel
theorem dL_pass_9 : decode cL_pass 9 = .ok (.goto 6, 3) := by decide +kernel
theorem dL_pass_12 : decode cL_pass 12 = .ok (.astore_n 3, 1) := by decide +kernel
theorem dL_pass_13 : decode cL_pass 13 = .ok (.iconst 1, 1) := by decide +kernel
theorem dL_pass_14 : decode cL_pass 14 = .ok (.ireturn, 1) := by decide +kernel
theorem dL_pass_15 : decode cL_pass 15 = .ok (.iconst 0, 1) := by decide +kernel
theorem dL_pass_16 : decode cL_pass 16 = .ok (.ireturn, 1) := by decide +kernel
set_option maxRecDepth 20000 in
theorem ggL_pull_X2_pull : GoodIn wsL_pull wsX2_pull := goodIn_ca (goodIn_ca (goodIn_r _ [7, 8, 9, 10, 11, 12, 6, 13, 14, 15, 16, 17, 18, 19, 20, 21, 22, 23, 24, 25, 26, 27, 28, 29, 30, 31, 32, 33, 34, 35, 36, 37, 38, 39, 40, 41, 42, 43, 44, 45, 46, 47, 48, 49, 50, 51, 52] (by decide +kernel) (by decide +kernel)) (goodIn_sub (fun _ h => List.mem_cons_of_mem _ (List.mem_append_left _ (List.mem_append_right _ h))) (by decide +kernel))) (goodIn_sub (fun _ h => List.mem_cons_of_mem _ (List.mem_append_right _ h)) (by decide +kernel))
set_option maxRecDepth 20000 in
theorem gL_pull_X2_pull : GoodIn wsL_pull (wsV RL 46 RX2 yX2_pull wsX2_pull) := goodIn_app (goodIn_of _ (by decide +kernel)) ggL_pull_X2_pull
theorem dL_pull_0 : decode cL_pull 0 = .ok (.aload_n 3, 1) := by decide +kernel
theorem dL_pull_1 : decode cL_pull 1 = .ok (.iconst 0, 1) := by decide +kernel
theorem dL_pull_2 : decode cL_pull 2 = .ok (.aload_n 0, 1) := by decide +kernel
theorem dL_pull_3 : decode cL_pull 3 = .ok (.iload_n 1, 1) := by decide +kernel
theorem dL_pull_4 : decode cL_pull 4 = .ok (.iload_n 2, 1) := by decide +kernel
theorem dL_pull_5 : decode cL_pull 5 = .ok (.invokevirtual 46, 3) := by decide +kernel
theorem dL_pull_8 : decode cL_pull 8 = .ok (.i2l, 1) := by decide +kernel
theorem dL_pull_9 : decode cL_pull 9 = .ok (.lastore, 1) := by decide +kernel
theorem dL_pull_10 : decode cL_pull 10 = .ok (.goto 11, 3) := by decide +kernel
theorem dL_pull_13 : decode cL_pull 13 = .ok (.astore 4, 2) := by decide +kernel
theorem dL_pull_15 : decode cL_pull 15 = .ok (.iconst 1, 1) := by decide +kernel
theorem dL_pull_16 : decode cL_pull 16 = .ok (.ireturn, 1) := by decide +kernel
theorem dL_pull_17 : decode cL_pull 17 = .ok (.astore 4, 2) := by decide +kernel
theorem dL_pull_19 : decode cL_pull 19 = .ok (.iconst 2, 1) := by decide +kernel
theorem dL_pull_20 : decode cL_pull 20 = .ok (.ireturn, 1) := by decide +kernel
theorem dL_pull_21 : decode cL_pull 21 = .ok (.iconst 0, 1) := by decide +kernel
theorem dL_pull_22 : decode cL_pull 22 = .ok (.ireturn, 1) := by decide +kernel
set_option maxRecDepth 20000 in
theorem ggL_pullAnew_X2_pullAnew : GoodIn wsL_pullAnew wsX2_pullAnew := goodIn_ca (goodIn_ca (goodIn_r _ [7, 8, 9, 10, 11, 12, 6, 13, 14, 15, 16, 17, 18, 19, 20, 21, 22, 23, 24, 25, 26, 27, 28, 29, 30, 31, 32, 33, 34, 35, 36, 37, 38, 39, 40, 41, 42, 43, 44, 45, 46, 47, 48, 49, 50, 51, 52] (by decide +kernel) (by decide +kernel)) (goodIn_sub (fun _ h => List.mem_cons_of_mem _ (List.mem_append_left _ (List.mem_append_right _ h))) (by decide +kernel))) (goodIn_sub (fun _ h => List.mem_cons_of_mem _ (List.mem_append_right _ h)) (by decide +kernel))
set_option maxRecDepth 20000 in
theorem gL_pullAnew_X2_pullAnew : GoodIn wsL_pullAnew (wsV RL 49 RX2 yX2_pullAnew wsX2_pullAnew) := goodIn_app (goodIn_of _ (by decide +kernel)) ggL_pullAnew_X2_pullAnew
theorem dL_pullAnew_0 : decode cL_pullAnew 0 = .ok (.aload_n 3, 1) := by decide +kernel
theorem dL_pullAnew_1 : decode cL_pullAnew 1 = .ok (.iconst 0, 1) := by decide +kernel
theorem dL_pullAnew_2 : decode cL_pullAnew 2 = .ok (.aload_n 0, 1) := by decide +kernel
theorem dL_pullAnew_3 : decode cL_pullAnew 3 = .ok (.iload_n 1, 1) := by decide +kernel
theorem dL_pullAnew_4 : decode cL_pullAnew 4 = .ok (.iload_n 2, 1) := by decide +kernel
theorem dL_pullAnew_5 : decode cL_pullAnew 5 = .ok (.invokevirtual 49, 3) := by decide +kernel
theorem dL_pullAnew_8 : decode cL_pullAnew 8 = .ok (.i2l, 1) := by decide +kernel
theorem dL_pullAnew_9 : decode cL_pullAnew 9 = .ok (.lastore, 1) := by decide +kernel
theorem dL_pullAnew_10 : decode cL_pullAnew 10 = .ok (.goto 11, 3) := by decide +kernel
theorem dL_pullAnew_13 : decode cL_pullAnew 13 = .ok (.astore 4, 2) := by decide +kernel
theorem dL_pullAnew_15 : decode cL_pullAnew 15 = .ok (.iconst 1, 1) := by decide +kernel
theorem dL_pullAnew_16 : decode cL_pullAnew 16 = .ok (.ireturn, 1) := by decide +kernel
theorem dL_pullAnew_17 : decode cL_pullAnew 17 = .ok (.astore 4, 2) := by decide +kernel
theorem dL_pullAnew_19 : decode cL_pullAnew 19 = .ok (.iconst 2, 1) := by decide +kernel
theorem dL_pullAnew_20 : decode cL_pullAnew 20 = .ok (.ireturn, 1) := by decide +kernel
theorem dL_pullAnew_21 : decode cL_pullAnew 21 = .ok (.iconst 0, 1) := by decide +kernel
theorem dL_pullAnew_22 : decode cL_pullAnew 22 = .ok (.ireturn, 1) := by decide +kernel
set_option maxRecDepth 20000 in
theorem ggL_tension_X2_tension : GoodIn wsL_tension wsX2_tension := goodIn_ca (goodIn_r _ [6, 7, 8, 9, 10, 5, 11, 12, 13, 14, 15, 16, 17, 18, 19, 20, 21, 22, 23, 24, 25, 26, 27, 28, 29, 30, 31, 32, 33, 34, 35, 36, 37, 38, 39, 40, 41, 42, 43, 44, 45, 46, 47, 48, 49, 50, 51, 52, 53, 54, 55, 56, 57, 58] (by decide +kernel) (by decide +kernel)) (goodIn_sub (fun _ h => List.mem_cons_of_mem _ (List.mem_append_right _ h)) (by decide +kernel))
set_option maxRecDepth 20000 in
theorem gL_tension_X2_tension : GoodIn wsL_tension (wsV RL 52 RX2 yX2_tension wsX2_tension) := goodIn_app (goodIn_of _ (by decide +kernel)) ggL_tension_X2_tension
theorem dL_tension_0 : decode cL_tension 0 = .ok (.aload_n 2, 1) := by decide +kernel
theorem dL_tension_1 : decode cL_tension 1 = .ok (.iconst 0, 1) := by decide +kernel
theorem dL_tension_2 : decode cL_tension 2 = .ok (.aload_n 0, 1) := by decide +kernel
theorem dL_tension_3 : decode cL_tension 3 = .ok (.iload_n 1, 1) := by decide +kernel
theorem dL_tension_4 : decode cL_tension 4 = .ok (.invokevirtual 52, 3) := by decide +kernel
theorem dL_tension_7 : decode cL_tension 7 = .ok (.i2l, 1) := by decide +kernel
theorem dL_tension_8 : decode cL_tension 8 = .ok (.lastore, 1) := by decide +kernel
theorem dL_tension_9 : decode cL_tension 9 = .ok (.goto 6, 3) := by decide +kernel
theorem dL_tension_12 : decode cL_tension 12 = .ok (.astore_n 3, 1) := by decide +kernel
theorem dL_tension_13 : decode cL_tension 13 = .ok (.iconst 1, 1) := by decide +kernel
theorem dL_tension_14 : decode cL_tension 14 = .ok (.ireturn, 1) := by decide +kernel
theorem dL_tension_15 : decode cL_tension 15 = .ok (.iconst 0, 1) := by decide +kernel
theorem dL_tension_16 : decode cL_tension 16 = .ok (.ireturn, 1) := by decide +kernel
set_option maxRecDepth 20000 in
theorem ggL_window_X2_window : GoodIn wsL_window wsX2_window := goodIn_ca (goodIn_r _ [6, 7, 8, 9, 5, 10, 11, 12, 13, 14, 15, 16, 17, 18, 19, 20, 21, 22, 23, 24, 25, 26, 27, 28, 29, 30, 31, 32, 33, 34, 35, 36, 37, 38, 39, 40, 41, 42, 43, 44, 45, 46, 47, 48, 49, 50] (by decide +kernel) (by decide +kernel)) (goodIn_sub (fun _ h => List.mem_cons_of_mem _ (List.mem_append_right _ h)) (by decide +kernel))
set_option maxRecDepth 20000 in
theorem gL_window_X2_window : GoodIn wsL_window (wsV RL 55 RX2 yX2_window wsX2_window) := goodIn_app (goodIn_of _ (by decide +kernel)) ggL_window_X2_window
theorem dL_window_0 : decode cL_window 0 = .ok (.aload_n 3, 1) := by decide +kernel
theorem dL_window_1 : decode cL_window 1 = .ok (.iconst 0, 1) := by decide +kernel
theorem dL_window_2 : decode cL_window 2 = .ok (.aload_n 0, 1) := by decide +kernel
theorem dL_window_3 : decode cL_window 3 = .ok (.iload_n 1, 1) := by decide +kernel
theorem dL_window_4 : decode cL_window 4 = .ok (.iload_n 2, 1) := by decide +kernel
theorem dL_window_5 : decode cL_window 5 = .ok (.invokevirtual 55, 3) := by decide +kernel
theorem dL_window_8 : decode cL_window 8 = .ok (.i2l, 1) := by decide +kernel
theorem dL_window_9 : decode cL_window 9 = .ok (.lastore, 1) := by decide +kernel
theorem dL_window_10 : decode cL_window 10 = .ok (.goto 7, 3) := by decide +kernel
theorem dL_window_13 : decode cL_window 13 = .ok (.astore 4, 2) := by decide +kernel
theorem dL_window_15 : decode cL_window 15 = .ok (.iconst 1, 1) := by decide +kernel
theorem dL_window_16 : decode cL_window 16 = .ok (.ireturn, 1) := by decide +kernel
theorem dL_window_17 : decode cL_window 17 = .ok (.iconst 0, 1) := by decide +kernel
theorem dL_window_18 : decode cL_window 18 = .ok (.ireturn, 1) := by decide +kernel
set_option maxRecDepth 20000 in
theorem ggL_about_X2_about : GoodIn wsL_about wsX2_about := goodIn_ca (goodIn_ca (goodIn_r _ [7, 8, 9, 10, 11, 12, 13, 14, 15, 16, 17, 18, 19, 6, 20, 21, 22, 23, 24, 25, 26, 27, 28, 29, 30, 31, 32, 33, 34, 35, 36, 37, 38, 39, 40, 41, 42, 43, 44, 45, 46, 47, 48, 49, 50, 51, 52, 53, 54, 55, 56, 57, 58, 59, 60, 61, 62, 63, 64, 65, 66, 67, 68, 69, 70] (by decide +kernel) (by decide +kernel)) (goodIn_sub (fun _ h => List.mem_cons_of_mem _ (List.mem_append_left _ (List.mem_append_right _ h))) (by decide +kernel))) (goodIn_sub (fun _ h => List.mem_cons_of_mem _ (List.mem_append_right _ h)) (by decide +kernel))
set_option maxRecDepth 20000 in
theorem gL_about_X2_about : GoodIn wsL_about (wsV RL 59 RX2 yX2_about wsX2_about) := goodIn_app (goodIn_of _ (by decide +kernel)) ggL_about_X2_about
theorem dL_about_0 : decode cL_about 0 = .ok (.aload_n 3, 1) := by decide +kernel
theorem dL_about_1 : decode cL_about 1 = .ok (.iconst 0, 1) := by decide +kernel
theorem dL_about_2 : decode cL_about 2 = .ok (.aload_n 0, 1) := by decide +kernel
theorem dL_about_3 : decode cL_about 3 = .ok (.iload_n 1, 1) := by decide +kernel
theorem dL_about_4 : decode cL_about 4 = .ok (.iload_n 2, 1) := by decide +kernel
theorem dL_about_5 : decode cL_about 5 = .ok (.invokevirtual 59, 3) := by decide +kernel
theorem dL_about_8 : decode cL_about 8 = .ok (.i2l, 1) := by decide +kernel
theorem dL_about_9 : decode cL_about 9 = .ok (.lastore, 1) := by decide +kernel
theorem dL_about_10 : decode cL_about 10 = .ok (.goto 11, 3) := by decide +kernel
theorem dL_about_13 : decode cL_about 13 = .ok (.astore 4, 2) := by decide +kernel
theorem dL_about_15 : decode cL_about 15 = .ok (.iconst 1, 1) := by decide +kernel
theorem dL_about_16 : decode cL_about 16 = .ok (.ireturn, 1) := by decide +kernel
theorem dL_about_17 : decode cL_about 17 = .ok (.astore 4, 2) := by decide +kernel
theorem dL_about_19 : decode cL_about 19 = .ok (.iconst 2, 1) := by decide +kernel
theorem dL_about_20 : decode cL_about 20 = .ok (.ireturn, 1) := by decide +kernel
theorem dL_about_21 : decode cL_about 21 = .ok (.iconst 0, 1) := by decide +kernel
theorem dL_about_22 : decode cL_about 22 = .ok (.ireturn, 1) := by decide +kernel
set_option maxRecDepth 20000 in
theorem ggL_lane_X2_lane : GoodIn wsL_lane wsX2_lane := goodIn_ca (goodIn_r _ [6, 7, 8, 9, 10, 11, 12, 5, 13, 14, 15, 16, 17, 18, 19, 20, 21, 22, 23, 24, 25, 26, 27, 28, 29, 30, 31, 32, 33, 34] (by decide +kernel) (by decide +kernel)) (goodIn_sub (fun _ h => List.mem_cons_of_mem _ (List.mem_append_right _ h)) (by decide +kernel))
set_option maxRecDepth 20000 in
theorem gL_lane_X2_lane : GoodIn wsL_lane (wsV RL 62 RX2 yX2_lane wsX2_lane) := goodIn_app (goodIn_of _ (by decide +kernel)) ggL_lane_X2_lane
theorem dL_lane_0 : decode cL_lane 0 = .ok (.aload_n 2, 1) := by decide +kernel
theorem dL_lane_1 : decode cL_lane 1 = .ok (.iconst 0, 1) := by decide +kernel
theorem dL_lane_2 : decode cL_lane 2 = .ok (.aload_n 0, 1) := by decide +kernel
theorem dL_lane_3 : decode cL_lane 3 = .ok (.iload_n 1, 1) := by decide +kernel
theorem dL_lane_4 : decode cL_lane 4 = .ok (.invokevirtual 62, 3) := by decide +kernel
theorem dL_lane_7 : decode cL_lane 7 = .ok (.i2l, 1) := by decide +kernel
theorem dL_lane_8 : decode cL_lane 8 = .ok (.lastore, 1) := by decide +kernel
theorem dL_lane_9 : decode cL_lane 9 = .ok (.goto 6, 3) := by decide +kernel
theorem dL_lane_12 : decode cL_lane 12 = .ok (.astore_n 3, 1) := by decide +kernel
theorem dL_lane_13 : decode cL_lane 13 = .ok (.iconst 1, 1) := by decide +kernel
theorem dL_lane_14 : decode cL_lane 14 = .ok (.ireturn, 1) := by decide +kernel
theorem dL_lane_15 : decode cL_lane 15 = .ok (.iconst 0, 1) := by decide +kernel
theorem dL_lane_16 : decode cL_lane 16 = .ok (.ireturn, 1) := by decide +kernel
set_option maxRecDepth 20000 in
theorem ggL_law_X2_init : GoodIn wsL_law wsX2_init := goodIn_r _ [9, 10, 11, 12, 13, 14, 15, 16, 17, 453, 454, 455, 456, 457, 458, 459, 460, 461] (by decide +kernel) (by decide +kernel)
set_option maxRecDepth 20000 in
theorem gL_law_X2_init : GoodIn wsL_law (wsX2_init) := ggL_law_X2_init
set_option maxRecDepth 20000 in
theorem ggL_law_X3_init : GoodIn wsL_law wsX3_init := goodIn_r _ [20, 21, 11, 12, 22, 23, 24, 25, 26, 27, 28, 29, 30, 31, 32, 462, 463, 464, 465, 466, 467, 468, 469, 470, 471, 472, 473, 474, 475, 476, 477] (by decide +kernel) (by decide +kernel)
set_option maxRecDepth 20000 in
theorem gL_law_X3_init : GoodIn wsL_law (wsX3_init) := ggL_law_X3_init
set_option maxRecDepth 20000 in
theorem ggL_law_L_kite : GoodIn wsL_law wsL_kite := goodIn_ca (goodIn_ca (goodIn_r _ [36, 37, 38, 39, 40, 41, 2, 42, 43, 44, 45, 46, 47, 14, 13, 48, 49, 50, 51, 52, 53, 54, 55, 56, 11, 12, 57, 58, 59, 60, 61, 62, 453, 454, 455, 456, 457, 458, 459, 460, 461, 478, 479, 480, 481, 482, 483, 484, 485, 486] (by decide +kernel) (by decide +kernel)) (goodIn_sub (fun _ h => List.mem_append_left _ (List.mem_append_left _ (List.mem_append_right _ h))) (by decide +kernel))) (goodIn_sub (fun _ h => List.mem_append_left _ (List.mem_append_right _ h)) (by decide +kernel))
set_option maxRecDepth 20000 in
theorem gL_law_L_kite : GoodIn wsL_law (va_wsS RL 69 yL_kite wsL_kite) := goodIn_app (goodIn_of _ (by decide +kernel)) ggL_law_L_kite
set_option maxRecDepth 20000 in
theorem ggL_law_X3_kite : GoodIn wsL_law wsX3_kite := goodIn_r _ [66, 67, 23, 24, 25, 29, 30, 68, 69, 5, 70, 71, 72, 73, 74, 75, 462, 463, 464, 465, 466, 467, 468, 469, 470, 471, 472, 473, 474, 475, 476, 477] (by decide +kernel) (by decide +kernel)
set_option maxRecDepth 20000 in
theorem gL_law_X3_kite : GoodIn wsL_law (wsV RL 74 RX3 yX3_kite wsX3_kite) := goodIn_app (goodIn_of _ (by decide +kernel)) ggL_law_X3_kite
set_option maxRecDepth 20000 in
theorem ggL_law_X3_thrown : GoodIn wsL_law wsX3_thrown := goodIn_r _ [79, 75, 462, 463, 464, 465, 466, 467, 468, 469, 470, 471, 472, 473, 474, 475, 476, 477] (by decide +kernel) (by decide +kernel)
set_option maxRecDepth 20000 in
theorem gL_law_X3_thrown : GoodIn wsL_law (wsV RL 75 RX3 yX3_thrown wsX3_thrown) := goodIn_app (goodIn_of _ (by decide +kernel)) ggL_law_X3_thrown
set_option maxRecDepth 20000 in
theorem ggL_law_L_patch : GoodIn wsL_law wsL_patch := goodIn_ca (goodIn_ca (goodIn_r _ [82, 83, 38, 84, 85, 86, 2, 87, 45, 46, 88, 89, 90, 91, 92, 93, 94, 95, 14, 50, 51, 52, 478, 479, 480, 481, 482, 483, 484, 485, 486, 453, 454, 455, 456, 457, 458, 459, 460, 461] (by decide +kernel) (by decide +kernel)) (goodIn_sub (fun _ h => List.mem_append_left _ (List.mem_append_right _ h)) (by decide +kernel))) (goodIn_sub (fun _ h => List.mem_append_right _ h) (by decide +kernel))
set_option maxRecDepth 20000 in
theorem gL_law_L_patch : GoodIn wsL_law (va_wsS RL 79 yL_patch wsL_patch) := goodIn_app (goodIn_of _ (by decide +kernel)) ggL_law_L_patch
set_option maxRecDepth 20000 in
theorem ggL_law_X3_patch : GoodIn wsL_law wsX3_patch := goodIn_r _ [99, 27, 25, 100, 101, 102, 5, 103, 67, 68, 69, 70, 71, 72, 73, 74, 75, 462, 463, 464, 465, 466, 467, 468, 469, 470, 471, 472, 473, 474, 475, 476, 477] (by decide +kernel) (by decide +kernel)
set_option maxRecDepth 20000 in
theorem gL_law_X3_patch : GoodIn wsL_law (wsV RL 82 RX3 yX3_patch wsX3_patch) := goodIn_app (goodIn_of _ (by decide +kernel)) ggL_law_X3_patch
set_option maxRecDepth 20000 in
theorem ggL_law_L_borrower : GoodIn wsL_law wsL_borrower := goodIn_ca (goodIn_ca (goodIn_r _ [106, 37, 38, 107, 108, 109, 2, 110, 43, 44, 45, 46, 111, 16, 15, 112, 113, 50, 51, 52, 114, 115, 116, 117, 11, 12, 118, 453, 454, 455, 456, 457, 458, 459, 460, 461, 487, 488] (by decide +kernel) (by decide +kernel)) (goodIn_sub (fun _ h => List.mem_append_left _ (List.mem_append_left _ (List.mem_append_right _ h))) (by decide +kernel))) (goodIn_sub (fun _ h => List.mem_append_left _ (List.mem_append_right _ h)) (by decide +kernel))
set_option maxRecDepth 20000 in
theorem gL_law_L_borrower : GoodIn wsL_law (va_wsS RL 83 yL_borrower wsL_borrower) := goodIn_app (goodIn_of _ (by decide +kernel)) ggL_law_L_borrower
set_option maxRecDepth 20000 in
theorem ggL_law_X3_borrower : GoodIn wsL_law wsX3_borrower := goodIn_r _ [122, 123, 32, 68, 69, 5, 70, 71, 72, 73, 74, 75, 462, 463, 464, 465, 466, 467, 468, 469, 470, 471, 472, 473, 474, 475, 476, 477] (by decide +kernel) (by decide +kernel)
set_option maxRecDepth 20000 in
theorem gL_law_X3_borrower : GoodIn wsL_law (wsV RL 85 RX3 yX3_borrower wsX3_borrower) := goodIn_app (goodIn_of _ (by decide +kernel)) ggL_law_X3_borrower
set_option maxRecDepth 20000 in
theorem ggL_law_L_lend : GoodIn wsL_law wsL_lend := goodIn_ca (goodIn_ca (goodIn_r _ [126, 83, 38, 127, 128, 129, 2, 130, 45, 46, 131, 132, 90, 91, 92, 93, 94, 95, 14, 50, 51, 52, 133, 134, 135, 136, 16, 137, 138, 139, 49, 140, 61, 141, 142, 143, 144, 145, 113, 146, 147, 118, 148, 478, 479, 480, 481, 482, 483, 484, 485, 486, 487, 488, 453, 454, 455, 456, 457, 458, 459, 460, 461] (by decide +kernel) (by decide +kernel)) (goodIn_sub (fun _ h => List.mem_append_left _ (List.mem_append_right _ h)) (by decide +kernel))) (goodIn_sub (fun _ h => List.mem_append_right _ h) (by decide +kernel))
set_option maxRecDepth 20000 in
theorem gL_law_L_lend : GoodIn wsL_law (va_wsS RL 86 yL_lend wsL_lend) := goodIn_app (goodIn_of _ (by decide +kernel)) ggL_law_L_lend
set_option maxRecDepth 20000 in
theorem ggL_law_X3_lend : GoodIn wsL_law wsX3_lend := goodIn_r _ [152, 29, 27, 28, 32, 23, 100, 101, 102, 5, 103, 67, 68, 69, 70, 153, 154, 155, 156, 123, 157, 158, 159, 160, 71, 72, 73, 74, 75, 462, 463, 464, 465, 466, 467, 468, 469, 470, 471, 472, 473, 474, 475, 476, 477] (by decide +kernel) (by decide +kernel)
set_option maxRecDepth 20000 in
theorem gL_law_X3_lend : GoodIn wsL_law (wsV RL 89 RX3 yX3_lend wsX3_lend) := goodIn_app (goodIn_of _ (by decide +kernel)) ggL_law_X3_lend
set_option maxRecDepth 20000 in
theorem ggL_law_L_giveBack : GoodIn wsL_law wsL_giveBack := goodIn_ca (goodIn_ca (goodIn_r _ [163, 83, 38, 164, 165, 166, 2, 167, 45, 46, 132, 131, 168, 133, 134, 135, 136, 94, 95, 16, 50, 51, 52, 169, 170, 171, 49, 172, 62, 487, 488, 478, 479, 480, 481, 482, 483, 484, 485, 486, 453, 454, 455, 456, 457, 458, 459, 460, 461] (by decide +kernel) (by decide +kernel)) (goodIn_sub (fun _ h => List.mem_append_left _ (List.mem_append_right _ h)) (by decide +kernel))) (goodIn_sub (fun _ h => List.mem_append_right _ h) (by decide +kernel))
set_option maxRecDepth 20000 in
theorem gL_law_L_giveBack : GoodIn wsL_law (va_wsS RL 90 yL_giveBack wsL_giveBack) := goodIn_app (goodIn_of _ (by decide +kernel)) ggL_law_L_giveBack
set_option maxRecDepth 20000 in
theorem ggL_law_X3_giveBack : GoodIn wsL_law wsX3_giveBack := goodIn_r _ [176, 30, 29, 153, 154, 155, 5, 156, 123, 68, 69, 70, 157, 158, 159, 160, 67, 71, 72, 73, 74, 75, 462, 463, 464, 465, 466, 467, 468, 469, 470, 471, 472, 473, 474, 475, 476, 477] (by decide +kernel) (by decide +kernel)
set_option maxRecDepth 20000 in
theorem gL_law_X3_giveBack : GoodIn wsL_law (wsV RL 92 RX3 yX3_giveBack wsX3_giveBack) := goodIn_app (goodIn_of _ (by decide +kernel)) ggL_law_X3_giveBack
set_option maxRecDepth 20000 in
theorem ggL_law_L_fly : GoodIn wsL_law wsL_fly := goodIn_ca (goodIn_ca (goodIn_ca (goodIn_r _ [179, 83, 37, 38, 180, 181, 182, 2, 183, 94, 95, 43, 44, 45, 46, 184, 17, 185, 186, 187, 90, 91, 92, 93, 14, 50, 51, 52, 188, 189, 190, 191, 192, 193, 49, 194, 61, 141, 195, 170, 171, 172, 62, 196, 197, 198, 199, 200, 201, 202, 203, 60, 204, 205, 206, 207, 58, 59, 208, 209, 210, 211, 212, 213, 214, 215, 216, 217, 218, 219, 220, 221, 453, 454, 455, 456, 457, 458, 459, 460, 461, 478, 479, 480, 481, 482, 483, 484, 485, 486] (by decide +kernel) (by decide +kernel)) (goodIn_sub (fun _ h => List.mem_append_right _ h) (by decide +kernel))) (goodIn_sub (fun _ h => List.mem_append_left _ (List.mem_append_left _ (List.mem_append_right _ h))) (by decide +kernel))) (goodIn_sub (fun _ h => List.mem_append_left _ (List.mem_append_right _ h)) (by decide +kernel))
set_option maxRecDepth 20000 in
theorem gL_law_L_fly : GoodIn wsL_law (va_wsS RL 93 yL_fly wsL_fly) := goodIn_app (goodIn_of _ (by decide +kernel)) ggL_law_L_fly
set_option maxRecDepth 20000 in
theorem ggL_law_X3_fly : GoodIn wsL_law wsX3_fly := goodIn_r _ [225, 29, 27, 30, 226, 31, 100, 101, 102, 5, 103, 67, 68, 69, 70, 227, 228, 229, 230, 231, 232, 233, 234, 235, 236, 237, 24, 23, 25, 238, 239, 240, 241, 242, 243, 244, 245, 246, 247, 248, 249, 250, 251, 252, 253, 254, 71, 72, 73, 74, 75, 462, 463, 464, 465, 466, 467, 468, 469, 470, 471, 472, 473, 474, 475, 476, 477] (by decide +kernel) (by decide +kernel)
set_option maxRecDepth 20000 in
theorem gL_law_X3_fly : GoodIn wsL_law (wsV RL 95 RX3 yX3_fly wsX3_fly) := goodIn_app (goodIn_of _ (by decide +kernel)) ggL_law_X3_fly
set_option maxRecDepth 20000 in
theorem ggL_law_L_land : GoodIn wsL_law wsL_land := goodIn_ca (goodIn_ca (goodIn_r _ [257, 83, 38, 258, 259, 260, 2, 261, 45, 46, 186, 90, 91, 92, 93, 94, 95, 14, 50, 51, 52, 188, 189, 190, 262, 263, 264, 265, 17, 478, 479, 480, 481, 482, 483, 484, 485, 486, 453, 454, 455, 456, 457, 458, 459, 460, 461] (by decide +kernel) (by decide +kernel)) (goodIn_sub (fun _ h => List.mem_append_left _ (List.mem_append_right _ h)) (by decide +kernel))) (goodIn_sub (fun _ h => List.mem_append_right _ h) (by decide +kernel))
set_option maxRecDepth 20000 in
theorem gL_law_L_land : GoodIn wsL_law (va_wsS RL 96 yL_land wsL_land) := goodIn_app (goodIn_of _ (by decide +kernel)) ggL_law_L_land
set_option maxRecDepth 20000 in
theorem ggL_law_X3_land : GoodIn wsL_law wsX3_land := goodIn_r _ [269, 30, 100, 101, 102, 5, 103, 67, 68, 69, 70, 71, 72, 73, 74, 75, 462, 463, 464, 465, 466, 467, 468, 469, 470, 471, 472, 473, 474, 475, 476, 477] (by decide +kernel) (by decide +kernel)
set_option maxRecDepth 20000 in
theorem gL_law_X3_land : GoodIn wsL_law (wsV RL 98 RX3 yX3_land wsX3_land) := goodIn_app (goodIn_of _ (by decide +kernel)) ggL_law_X3_land
set_option maxRecDepth 20000 in
theorem ggL_law_L_wind : GoodIn wsL_law wsL_wind := goodIn_ca (goodIn_r _ [272, 37, 273, 274, 275, 2, 276, 43, 44, 184, 185, 277, 278, 279, 280, 50, 51, 52, 281, 282, 283, 284, 17, 88, 285, 197, 198, 49, 199, 200, 201, 202, 203, 60, 204, 205, 206, 207, 58, 59, 286, 287, 288, 289, 290, 262, 263, 264, 265, 186, 188, 189, 190, 291, 292, 293, 294, 295, 296, 297, 298, 216, 217, 218, 219, 62, 220, 221, 209, 210, 211, 453, 454, 455, 456, 457, 458, 459, 460, 461, 478, 479, 480, 481, 482, 483, 484, 485, 486] (by decide +kernel) (by decide +kernel)) (goodIn_sub (fun _ h => List.mem_append_left _ (List.mem_append_left _ (List.mem_append_right _ h))) (by decide +kernel))
set_option maxRecDepth 20000 in
theorem gL_law_L_wind : GoodIn wsL_law (va_wsS RL 99 yL_wind wsL_wind) := goodIn_app (goodIn_of _ (by decide +kernel)) ggL_law_L_wind
set_option maxRecDepth 20000 in
theorem ggL_law_X3_wind : GoodIn wsL_law wsX3_wind := goodIn_r _ [302, 303, 226, 250, 67, 30, 27, 68, 69, 5, 70, 71, 72, 73, 74, 75, 230, 231, 232, 233, 234, 235, 236, 237, 24, 23, 25, 304, 305, 306, 307, 308, 309, 310, 311, 238, 239, 240, 241, 251, 252, 253, 254, 31, 246, 247, 248, 249, 462, 463, 464, 465, 466, 467, 468, 469, 470, 471, 472, 473, 474, 475, 476, 477] (by decide +kernel) (by decide +kernel)
set_option maxRecDepth 20000 in
theorem gL_law_X3_wind : GoodIn wsL_law (wsV RL 102 RX3 yX3_wind wsX3_wind) := goodIn_app (goodIn_of _ (by decide +kernel)) ggL_law_X3_wind
set_option maxRecDepth 20000 in
theorem ggL_law_X2_rain : GoodIn wsL_law wsX2_rain := goodIn_r _ [315, 316, 453, 454, 455, 456, 457, 458, 459, 460, 461] (by decide +kernel) (by decide +kernel)
set_option maxRecDepth 20000 in
theorem gL_law_X2_rain : GoodIn wsL_law (wsV RL 103 RX2 yX2_rain wsX2_rain) := goodIn_app (goodIn_of _ (by decide +kernel)) ggL_law_X2_rain
set_option maxRecDepth 20000 in
theorem ggL_law_X3_rain : GoodIn wsL_law wsX3_rain := goodIn_r _ [320, 75, 321, 462, 463, 464, 465, 466, 467, 468, 469, 470, 471, 472, 473, 474, 475, 476, 477] (by decide +kernel) (by decide +kernel)
set_option maxRecDepth 20000 in
theorem gL_law_X3_rain : GoodIn wsL_law (wsV RL 107 RX3 yX3_rain wsX3_rain) := goodIn_app (goodIn_of _ (by decide +kernel)) ggL_law_X3_rain
set_option maxRecDepth 20000 in
theorem ggL_law_L_pass : GoodIn wsL_law wsL_pass := goodIn_ca (goodIn_r _ [324, 37, 325, 326, 327, 2, 328, 43, 44, 50, 51, 52, 329, 330, 331, 332, 14, 316, 333, 334, 335, 49, 336, 142, 195, 170, 171, 172, 62, 337, 338, 339, 340, 341, 453, 454, 455, 456, 457, 458, 459, 460, 461, 478, 479, 480, 481, 482, 483, 484, 485, 486] (by decide +kernel) (by decide +kernel)) (goodIn_sub (fun _ h => List.mem_append_left _ (List.mem_append_left _ (List.mem_append_right _ h))) (by decide +kernel))
set_option maxRecDepth 20000 in
theorem gL_law_L_pass : GoodIn wsL_law (va_wsS RL 108 yL_pass wsL_pass) := goodIn_app (goodIn_of _ (by decide +kernel)) ggL_law_L_pass
set_option maxRecDepth 20000 in
theorem ggL_law_X3_pass : GoodIn wsL_law wsX3_pass := goodIn_r _ [345, 67, 321, 30, 28, 68, 69, 5, 70, 71, 72, 73, 74, 75, 462, 463, 464, 465, 466, 467, 468, 469, 470, 471, 472, 473, 474, 475, 476, 477] (by decide +kernel) (by decide +kernel)
set_option maxRecDepth 20000 in
theorem gL_law_X3_pass : GoodIn wsL_law (wsV RL 110 RX3 yX3_pass wsX3_pass) := goodIn_app (goodIn_of _ (by decide +kernel)) ggL_law_X3_pass
set_option maxRecDepth 20000 in
theorem ggL_law_L_pull : GoodIn wsL_law wsL_pull := goodIn_ca (goodIn_ca (goodIn_r _ [348, 83, 37, 349, 350, 351, 2, 352, 43, 44, 90, 91, 92, 93, 94, 95, 14, 50, 51, 52, 278, 279, 280, 286, 201, 202, 49, 203, 60, 204, 205, 206, 207, 58, 59, 453, 454, 455, 456, 457, 458, 459, 460, 461, 478, 479, 480, 481, 482, 483, 484, 485, 486] (by decide +kernel) (by decide +kernel)) (goodIn_sub (fun _ h => List.mem_append_left _ (List.mem_append_left _ (List.mem_append_right _ h))) (by decide +kernel))) (goodIn_sub (fun _ h => List.mem_append_right _ h) (by decide +kernel))
set_option maxRecDepth 20000 in
theorem gL_law_L_pull : GoodIn wsL_law (va_wsS RL 111 yL_pull wsL_pull) := goodIn_app (goodIn_of _ (by decide +kernel)) ggL_law_L_pull
set_option maxRecDepth 20000 in
theorem ggL_law_X3_pull : GoodIn wsL_law wsX3_pull := goodIn_r _ [356, 100, 101, 102, 5, 103, 67, 68, 69, 70, 71, 72, 73, 74, 75, 234, 235, 236, 237, 24, 23, 25, 462, 463, 464, 465, 466, 467, 468, 469, 470, 471, 472, 473, 474, 475, 476, 477] (by decide +kernel) (by decide +kernel)
set_option maxRecDepth 20000 in
theorem gL_law_X3_pull : GoodIn wsL_law (wsV RL 113 RX3 yX3_pull wsX3_pull) := goodIn_app (goodIn_of _ (by decide +kernel)) ggL_law_X3_pull
set_option maxRecDepth 20000 in
theorem ggL_law_L_pullAnew : GoodIn wsL_law wsL_pullAnew := goodIn_ca (goodIn_ca (goodIn_r _ [359, 83, 37, 360, 361, 362, 2, 363, 43, 44, 90, 91, 92, 93, 94, 95, 14, 50, 51, 52, 278, 279, 280, 364, 365, 366, 49, 367, 60, 368, 369, 370, 371, 58, 59, 453, 454, 455, 456, 457, 458, 459, 460, 461, 478, 479, 480, 481, 482, 483, 484, 485, 486] (by decide +kernel) (by decide +kernel)) (goodIn_sub (fun _ h => List.mem_append_left _ (List.mem_append_left _ (List.mem_append_right _ h))) (by decide +kernel))) (goodIn_sub (fun _ h => List.mem_append_right _ h) (by decide +kernel))
set_option maxRecDepth 20000 in
theorem gL_law_L_pullAnew : GoodIn wsL_law (va_wsS RL 114 yL_pullAnew wsL_pullAnew) := goodIn_app (goodIn_of _ (by decide +kernel)) ggL_law_L_pullAnew
set_option maxRecDepth 20000 in
theorem ggL_law_X3_pullAnew : GoodIn wsL_law wsX3_pullAnew := goodIn_r _ [375, 376, 354, 355, 5, 356, 100, 101, 102, 103, 67, 68, 69, 70, 71, 72, 73, 74, 75, 234, 235, 236, 237, 24, 23, 25, 462, 463, 464, 465, 466, 467, 468, 469, 470, 471, 472, 473, 474, 475, 476, 477] (by decide +kernel) (by decide +kernel)
set_option maxRecDepth 20000 in
theorem gL_law_X3_pullAnew : GoodIn wsL_law (wsV RL 116 RX3 yX3_pullAnew wsX3_pullAnew) := goodIn_app (goodIn_of _ (by decide +kernel)) ggL_law_X3_pullAnew
set_option maxRecDepth 20000 in
theorem ggL_law_L_tension : GoodIn wsL_law wsL_tension := goodIn_ca (goodIn_r _ [379, 83, 380, 381, 382, 2, 383, 184, 90, 91, 92, 93, 94, 95, 14, 50, 51, 52, 384, 385, 386, 49, 387, 388, 59, 200, 201, 202, 203, 60, 204, 205, 206, 207, 58, 389, 390, 391, 392, 393, 394, 453, 454, 455, 456, 457, 458, 459, 460, 461, 478, 479, 480, 481, 482, 483, 484, 485, 486] (by decide +kernel) (by decide +kernel)) (goodIn_sub (fun _ h => List.mem_append_right _ h) (by decide +kernel))
set_option maxRecDepth 20000 in
theorem gL_law_L_tension : GoodIn wsL_law (va_wsS RL 117 yL_tension wsL_tension) := goodIn_app (goodIn_of _ (by decide +kernel)) ggL_law_L_tension
set_option maxRecDepth 20000 in
theorem ggL_law_X3_tension : GoodIn wsL_law wsX3_tension := goodIn_r _ [398, 226, 399, 24, 100, 101, 102, 5, 103, 67, 68, 69, 70, 71, 72, 73, 74, 75, 234, 235, 236, 237, 23, 25, 400, 401, 402, 403, 404, 405, 406, 407, 408, 409, 410, 411, 462, 463, 464, 465, 466, 467, 468, 469, 470, 471, 472, 473, 474, 475, 476, 477] (by decide +kernel) (by decide +kernel)
set_option maxRecDepth 20000 in
theorem gL_law_X3_tension : GoodIn wsL_law (wsV RL 119 RX3 yX3_tension wsX3_tension) := goodIn_app (goodIn_of _ (by decide +kernel)) ggL_law_X3_tension
set_option maxRecDepth 20000 in
theorem ggL_law_L_window : GoodIn wsL_law wsL_window := goodIn_ca (goodIn_r _ [414, 83, 415, 416, 417, 2, 418, 90, 91, 92, 93, 94, 95, 14, 50, 51, 52, 285, 197, 198, 49, 199, 200, 201, 202, 203, 60, 204, 205, 206, 207, 58, 59, 453, 454, 455, 456, 457, 458, 459, 460, 461, 478, 479, 480, 481, 482, 483, 484, 485, 486] (by decide +kernel) (by decide +kernel)) (goodIn_sub (fun _ h => List.mem_append_right _ h) (by decide +kernel))
set_option maxRecDepth 20000 in
theorem gL_law_L_window : GoodIn wsL_law (va_wsS RL 120 yL_window wsL_window) := goodIn_app (goodIn_of _ (by decide +kernel)) ggL_law_L_window
set_option maxRecDepth 20000 in
theorem ggL_law_X3_window : GoodIn wsL_law wsX3_window := goodIn_r _ [422, 100, 101, 102, 5, 103, 67, 68, 69, 70, 71, 72, 73, 74, 75, 230, 231, 232, 233, 234, 235, 236, 237, 24, 23, 25, 462, 463, 464, 465, 466, 467, 468, 469, 470, 471, 472, 473, 474, 475, 476, 477] (by decide +kernel) (by decide +kernel)
set_option maxRecDepth 20000 in
theorem gL_law_X3_window : GoodIn wsL_law (wsV RL 123 RX3 yX3_window wsX3_window) := goodIn_app (goodIn_of _ (by decide +kernel)) ggL_law_X3_window
set_option maxRecDepth 20000 in
theorem ggL_law_L_about : GoodIn wsL_law wsL_about := goodIn_ca (goodIn_ca (goodIn_r _ [425, 83, 37, 426, 427, 428, 2, 429, 43, 44, 89, 88, 341, 131, 186, 184, 185, 90, 91, 92, 93, 94, 95, 14, 50, 51, 52, 169, 170, 171, 49, 172, 62, 216, 217, 218, 219, 220, 221, 209, 210, 211, 200, 201, 202, 203, 60, 204, 205, 206, 207, 58, 59, 478, 479, 480, 481, 482, 483, 484, 485, 486, 453, 454, 455, 456, 457, 458, 459, 460, 461] (by decide +kernel) (by decide +kernel)) (goodIn_sub (fun _ h => List.mem_append_left _ (List.mem_append_left _ (List.mem_append_right _ h))) (by decide +kernel))) (goodIn_sub (fun _ h => List.mem_append_right _ h) (by decide +kernel))
set_option maxRecDepth 20000 in
theorem gL_law_L_about : GoodIn wsL_law (va_wsS RL 124 yL_about wsL_about) := goodIn_app (goodIn_of _ (by decide +kernel)) ggL_law_L_about
set_option maxRecDepth 20000 in
theorem ggL_law_X3_about : GoodIn wsL_law wsX3_about := goodIn_r _ [433, 25, 27, 28, 29, 30, 100, 101, 102, 5, 103, 67, 68, 69, 70, 71, 72, 73, 74, 75, 251, 252, 253, 254, 31, 246, 247, 248, 249, 250, 226, 234, 235, 236, 237, 24, 23, 462, 463, 464, 465, 466, 467, 468, 469, 470, 471, 472, 473, 474, 475, 476, 477] (by decide +kernel) (by decide +kernel)
set_option maxRecDepth 20000 in
theorem gL_law_X3_about : GoodIn wsL_law (wsV RL 126 RX3 yX3_about wsX3_about) := goodIn_app (goodIn_of _ (by decide +kernel)) ggL_law_X3_about
set_option maxRecDepth 20000 in
theorem ggL_law_L_lane : GoodIn wsL_law wsL_lane := goodIn_ca (goodIn_r _ [436, 83, 437, 438, 439, 2, 440, 94, 95, 17, 168, 188, 189, 190, 50, 51, 52, 453, 454, 455, 456, 457, 458, 459, 460, 461, 478, 479, 480, 481, 482, 483, 484, 485, 486] (by decide +kernel) (by decide +kernel)) (goodIn_sub (fun _ h => List.mem_append_right _ h) (by decide +kernel))
set_option maxRecDepth 20000 in
theorem gL_law_L_lane : GoodIn wsL_law (va_wsS RL 127 yL_lane wsL_lane) := goodIn_app (goodIn_of _ (by decide +kernel)) ggL_law_L_lane
set_option maxRecDepth 20000 in
theorem ggL_law_X3_lane : GoodIn wsL_law wsX3_lane := goodIn_r _ [444, 227, 228, 5, 229, 68, 69, 70, 71, 72, 73, 74, 75, 238, 239, 240, 241, 67, 30, 462, 463, 464, 465, 466, 467, 468, 469, 470, 471, 472, 473, 474, 475, 476, 477] (by decide +kernel) (by decide +kernel)
set_option maxRecDepth 20000 in
theorem gL_law_X3_lane : GoodIn wsL_law (wsV RL 129 RX3 yX3_lane wsX3_lane) := goodIn_app (goodIn_of _ (by decide +kernel)) ggL_law_X3_lane
set_option maxRecDepth 20000 in
theorem ggL_law_X2_called : GoodIn wsL_law wsX2_called := goodIn_r _ [448, 277, 453, 454, 455, 456, 457, 458, 459, 460, 461] (by decide +kernel) (by decide +kernel)
set_option maxRecDepth 20000 in
theorem gL_law_X2_called : GoodIn wsL_law (wsV RL 130 RX2 yX2_called wsX2_called) := goodIn_app (goodIn_of _ (by decide +kernel)) ggL_law_X2_called
set_option maxRecDepth 20000 in
theorem ggL_law_X3_called : GoodIn wsL_law wsX3_called := goodIn_r _ [452, 75, 303, 462, 463, 464, 465, 466, 467, 468, 469, 470, 471, 472, 473, 474, 475, 476, 477] (by decide +kernel) (by decide +kernel)
set_option maxRecDepth 20000 in
theorem gL_law_X3_called : GoodIn wsL_law (wsV RL 133 RX3 yX3_called wsX3_called) := goodIn_app (goodIn_of _ (by decide +kernel)) ggL_law_X3_called
