theorem dL_draw_0 : decode cL_draw 0 = .ok (.iload_n 1, 1) := by decide +kernel
theorem dL_draw_1 : decode cL_draw 1 = .ok (.aload_n 0, 1) := by decide +kernel
theorem dL_draw_2 : decode cL_draw 2 = .ok (.arraylength, 1) := by decide +kernel
theorem dL_draw_3 : decode cL_draw 3 = .ok (.if_icmp .ge 12, 3) := by decide +kernel
theorem dL_draw_6 : decode cL_draw 6 = .ok (.aload_n 0, 1) := by decide +kernel
theorem dL_draw_7 : decode cL_draw 7 = .ok (.iload_n 1, 1) := by decide +kernel
theorem dL_draw_8 : decode cL_draw 8 = .ok (.iaload, 1) := by decide +kernel
theorem dL_draw_9 : decode cL_draw 9 = .ok (.ldc 7, 2) := by decide +kernel
theorem dL_draw_11 : decode cL_draw 11 = .ok (.iand, 1) := by decide +kernel
theorem dL_draw_12 : decode cL_draw 12 = .ok (.goto 12, 3) := by decide +kernel
theorem dL_draw_15 : decode cL_draw 15 = .ok (.ldc 8, 2) := by decide +kernel
theorem dL_draw_17 : decode cL_draw 17 = .ok (.iload_n 1, 1) := by decide +kernel
theorem dL_draw_18 : decode cL_draw 18 = .ok (.iconst 2, 1) := by decide +kernel
theorem dL_draw_19 : decode cL_draw 19 = .ok (.iadd, 1) := by decide +kernel
theorem dL_draw_20 : decode cL_draw 20 = .ok (.imul, 1) := by decide +kernel
theorem dL_draw_21 : decode cL_draw 21 = .ok (.ldc 9, 2) := by decide +kernel
theorem dL_draw_23 : decode cL_draw 23 = .ok (.irem, 1) := by decide +kernel
theorem dL_draw_24 : decode cL_draw 24 = .ok (.ireturn, 1) := by decide +kernel
set_option maxRecDepth 20000 in
theorem ggL_kites_X2_kite : GoodIn wsL_kites wsX2_kite := goodIn_ca (goodIn_ca (goodIn_r _ [6, 7, 8, 9, 10, 11, 12, 13, 14, 15, 16, 17, 5, 18, 19, 20, 21, 22, 23, 24, 25, 26, 27, 28, 29, 30, 31, 32, 33, 34, 35, 36, 37, 38, 39, 40, 41, 42, 43, 44, 45, 46, 47, 48] (by decide +kernel) (by decide +kernel)) (goodIn_sub (fun _ h => List.mem_cons_of_mem _ (List.mem_append_left _ (List.mem_append_right _ h))) (by decide +kernel))) (goodIn_sub (fun _ h => List.mem_cons_of_mem _ (List.mem_append_right _ h)) (by decide +kernel))
set_option maxRecDepth 20000 in
theorem gL_kites_X2_kite : GoodIn wsL_kites (wsV RL 10 RX2 yX2_kite wsX2_kite) := goodIn_app (goodIn_of _ (by decide +kernel)) ggL_kites_X2_kite
theorem dL_kites_0 : decode cL_kites 0 = .ok (.aload_n 0, 1) := by decide +kernel
theorem dL_kites_1 : decode cL_kites 1 = .ok (.iload_n 1, 1) := by decide +kernel
theorem dL_kites_2 : decode cL_kites 2 = .ok (.iload_n 2, 1) := by decide +kernel
theorem dL_kites_3 : decode cL_kites 3 = .ok (.iload_n 3, 1) := by decide +kernel
theorem dL_kites_4 : decode cL_kites 4 = .ok (.invokevirtual 10, 3) := by decide +kernel
theorem dL_kites_7 : decode cL_kites 7 = .ok (.ireturn, 1) := by decide +kernel
theorem dL_kites_8 : decode cL_kites 8 = .ok (.astore 4, 2) := by decide +kernel
theorem dL_kites_10 : decode cL_kites 10 = .ok (.bipush (-2), 2) := by decide +kernel
theorem dL_kites_12 : decode cL_kites 12 = .ok (.ireturn, 1) := by decide +kernel
set_option maxRecDepth 20000 in
theorem ggL_borrowers_X2_borrower : GoodIn wsL_borrowers wsX2_borrower := goodIn_ca (goodIn_ca (goodIn_r _ [6, 7, 8, 9, 10, 11, 12, 13, 14, 15, 16, 17, 5, 18, 19, 20, 21, 22, 23, 24, 25, 26, 27, 28, 29, 30, 31, 32, 33, 34, 35, 36] (by decide +kernel) (by decide +kernel)) (goodIn_sub (fun _ h => List.mem_cons_of_mem _ (List.mem_append_left _ (List.mem_append_right _ h))) (by decide +kernel))) (goodIn_sub (fun _ h => List.mem_cons_of_mem _ (List.mem_append_right _ h)) (by decide +kernel))
set_option maxRecDepth 20000 in
theorem gL_borrowers_X2_borrower : GoodIn wsL_borrowers (wsV RL 18 RX2 yX2_borrower wsX2_borrower) := goodIn_app (goodIn_of _ (by decide +kernel)) ggL_borrowers_X2_borrower
theorem dL_borrowers_0 : decode cL_borrowers 0 = .ok (.aload_n 0, 1) := by decide +kernel
theorem dL_borrowers_1 : decode cL_borrowers 1 = .ok (.iload_n 1, 1) := by decide +kernel
theorem dL_borrowers_2 : decode cL_borrowers 2 = .ok (.invokevirtual 18, 3) := by decide +kernel
theorem dL_borrowers_5 : decode cL_borrowers 5 = .ok (.ireturn, 1) := by decide +kernel
theorem dL_borrowers_6 : decode cL_borrowers 6 = .ok (.astore_n 2, 1) := by decide +kernel
theorem dL_borrowers_7 : decode cL_borrowers 7 = .ok (.bipush (-2), 2) := by decide +kernel
theorem dL_borrowers_9 : decode cL_borrowers 9 = .ok (.ireturn, 1) := by decide +kernel
set_option maxRecDepth 20000 in
theorem ggL_patches_X2_patch : GoodIn wsL_patches wsX2_patch := goodIn_ca (goodIn_ca (goodIn_r _ [6, 7, 8, 9, 10, 11, 12, 13, 5, 14, 15, 16, 17, 18, 19, 20, 21, 22, 23, 24, 25, 26, 27, 28, 29, 30, 31, 32, 33, 34, 35, 36, 37, 38] (by decide +kernel) (by decide +kernel)) (goodIn_sub (fun _ h => List.mem_cons_of_mem _ (List.mem_append_left _ (List.mem_append_right _ h))) (by decide +kernel))) (goodIn_sub (fun _ h => List.mem_cons_of_mem _ (List.mem_append_right _ h)) (by decide +kernel))
set_option maxRecDepth 20000 in
theorem gL_patches_X2_patch : GoodIn wsL_patches (wsV RL 22 RX2 yX2_patch wsX2_patch) := goodIn_app (goodIn_of _ (by decide +kernel)) ggL_patches_X2_patch
theorem dL_patches_0 : decode cL_patches 0 = .ok (.aload_n 0, 1) := by decide +kernel
theorem dL_patches_1 : decode cL_patches 1 = .ok (.iload_n 1, 1) := by decide +kernel
theorem dL_patches_2 : decode cL_patches 2 = .ok (.invokevirtual 22, 3) := by decide +kernel
theorem dL_patches_5 : decode cL_patches 5 = .ok (.ireturn, 1) := by decide +kernel
theorem dL_patches_6 : decode cL_patches 6 = .ok (.astore_n 2, 1) := by decide +kernel
theorem dL_patches_7 : decode cL_patches 7 = .ok (.bipush (-2), 2) := by decide +kernel
theorem dL_patches_9 : decode cL_patches 9 = .ok (.ireturn, 1) := by decide +kernel
set_option maxRecDepth 20000 in
theorem ggL_lends_X2_lend : GoodIn wsL_lends wsX2_lend := goodIn_ca (goodIn_ca (goodIn_r _ [6, 7, 8, 9, 10, 11, 12, 13, 5, 14, 15, 16, 17, 18, 19, 20, 21, 22, 23, 24, 25, 26, 27, 28, 29, 30, 31, 32, 33, 34, 35, 36, 37, 38, 39, 40, 41, 42, 43, 44, 45, 46, 47, 48, 49, 50, 51, 52, 53, 54, 55, 56, 57, 58, 59, 60, 61] (by decide +kernel) (by decide +kernel)) (goodIn_sub (fun _ h => List.mem_cons_of_mem _ (List.mem_append_left _ (List.mem_append_right _ h))) (by decide +kernel))) (goodIn_sub (fun _ h => List.mem_cons_of_mem _ (List.mem_append_right _ h)) (by decide +kernel))
set_option maxRecDepth 20000 in
theorem gL_lends_X2_lend : GoodIn wsL_lends (wsV RL 25 RX2 yX2_lend wsX2_lend) := goodIn_app (goodIn_of _ (by decide +kernel)) ggL_lends_X2_lend
theorem dL_lends_0 : decode cL_lends 0 = .ok (.aload_n 0, 1) := by decide +kernel
theorem dL_lends_1 : decode cL_lends 1 = .ok (.iload_n 1, 1) := by decide +kernel
theorem dL_lends_2 : decode cL_lends 2 = .ok (.iload_n 2, 1) := by decide +kernel
theorem dL_lends_3 : decode cL_lends 3 = .ok (.invokevirtual 25, 3) := by decide +kernel
theorem dL_lends_6 : decode cL_lends 6 = .ok (.iconst 0, 1) := by decide +kernel
theorem dL_lends_7 : decode cL_lends 7 = .ok (.ireturn, 1) := by decide +kernel
theorem dL_lends_8 : decode cL_lends 8 = .ok (.astore_n 3, 1) := by decide +kernel
theorem dL_lends_9 : decode cL_lends 9 = .ok (.bipush (-2), 2) := by decide +kernel
theorem dL_lends_11 : decode cL_lends 11 = .ok (.ireturn, 1) := by decide +kernel
set_option maxRecDepth 20000 in
theorem ggL_backs_X2_giveBack : GoodIn wsL_backs wsX2_giveBack := goodIn_ca (goodIn_ca (goodIn_r _ [6, 7, 8, 9, 10, 11, 12, 13, 14, 5, 15, 16, 17, 18, 19, 20, 21, 22, 23, 24, 25, 26, 27, 28, 29, 30, 31, 32, 33, 34, 35, 36, 37, 38, 39, 40, 41, 42, 43, 44, 45, 46, 47] (by decide +kernel) (by decide +kernel)) (goodIn_sub (fun _ h => List.mem_cons_of_mem _ (List.mem_append_left _ (List.mem_append_right _ h))) (by decide +kernel))) (goodIn_sub (fun _ h => List.mem_cons_of_mem _ (List.mem_append_right _ h)) (by decide +kernel))
set_option maxRecDepth 20000 in
theorem gL_backs_X2_giveBack : GoodIn wsL_backs (wsV RL 29 RX2 yX2_giveBack wsX2_giveBack) := goodIn_app (goodIn_of _ (by decide +kernel)) ggL_backs_X2_giveBack
theorem dL_backs_0 : decode cL_backs 0 = .ok (.aload_n 0, 1) := by decide +kernel
theorem dL_backs_1 : decode cL_backs 1 = .ok (.iload_n 1, 1) := by decide +kernel
theorem dL_backs_2 : decode cL_backs 2 = .ok (.invokevirtual 29, 3) := by decide +kernel
theorem dL_backs_5 : decode cL_backs 5 = .ok (.ireturn, 1) := by decide +kernel
theorem dL_backs_6 : decode cL_backs 6 = .ok (.astore_n 2, 1) := by decide +kernel
theorem dL_backs_7 : decode cL_backs 7 = .ok (.bipush (-2), 2) := by decide +kernel
theorem dL_backs_9 : decode cL_backs 9 = .ok (.ireturn, 1) := by decide +kernel
set_option maxRecDepth 20000 in
theorem ggL_flies_X2_fly : GoodIn wsL_flies wsX2_fly := goodIn_ca (goodIn_ca (goodIn_ca (goodIn_r _ [7, 8, 9, 10, 11, 12, 13, 14, 15, 16, 17, 18, 19, 20, 21, 6, 22, 23, 24, 25, 26, 27, 28, 29, 30, 31, 32, 33, 34, 35, 36, 37, 38, 39, 40, 41, 42, 43, 44, 45, 46, 47, 48, 49, 50, 51, 52, 53, 54, 55, 56, 57, 58, 59, 60, 61, 62, 63, 64, 65, 66, 67, 68, 69, 70, 71, 72, 73, 74, 75, 76, 77, 78, 79, 80, 81, 82, 83, 84, 85, 86, 87, 88] (by decide +kernel) (by decide +kernel)) (goodIn_sub (fun _ h => List.mem_cons_of_mem _ (List.mem_append_left _ (List.mem_append_left _ (List.mem_append_right _ h)))) (by decide +kernel))) (goodIn_sub (fun _ h => List.mem_cons_of_mem _ (List.mem_append_left _ (List.mem_append_right _ h))) (by decide +kernel))) (goodIn_sub (fun _ h => List.mem_cons_of_mem _ (List.mem_append_right _ h)) (by decide +kernel))
set_option maxRecDepth 20000 in
theorem gL_flies_X2_fly : GoodIn wsL_flies (wsV RL 32 RX2 yX2_fly wsX2_fly) := goodIn_app (goodIn_of _ (by decide +kernel)) ggL_flies_X2_fly
theorem dL_flies_0 : decode cL_flies 0 = .ok (.aload_n 0, 1) := by decide +kernel
theorem dL_flies_1 : decode cL_flies 1 = .ok (.iload_n 1, 1) := by decide +kernel
theorem dL_flies_2 : decode cL_flies 2 = .ok (.iload_n 2, 1) := by decide +kernel
theorem dL_flies_3 : decode cL_flies 3 = .ok (.iload_n 3, 1) := by decide +kernel
theorem dL_flies_4 : decode cL_flies 4 = .ok (.invokevirtual 32, 3) := by decide +kernel
theorem dL_flies_7 : decode cL_flies 7 = .ok (.ireturn, 1) := by decide +kernel
theorem dL_flies_8 : decode cL_flies 8 = .ok (.astore 4, 2) := by decide +kernel
theorem dL_flies_10 : decode cL_flies 10 = .ok (.ldc 35, 2) := by decide +kernel
theorem dL_flies_12 : decode cL_flies 12 = .ok (.ireturn, 1) := by decide +kernel
set_option maxRecDepth 20000 in
theorem ggL_lands_X2_land : GoodIn wsL_lands wsX2_land := goodIn_ca (goodIn_ca (goodIn_r _ [6, 7, 8, 9, 10, 11, 12, 5, 13, 14, 15, 16, 17, 18, 19, 20, 21, 22, 23, 24, 25, 26, 27, 28, 29, 30, 31, 32, 33, 34, 35, 36, 37, 38, 39, 40, 41, 42, 43, 44, 45] (by decide +kernel) (by decide +kernel)) (goodIn_sub (fun _ h => List.mem_cons_of_mem _ (List.mem_append_left _ (List.mem_append_right _ h))) (by decide +kernel))) (goodIn_sub (fun _ h => List.mem_cons_of_mem _ (List.mem_append_right _ h)) (by decide +kernel))
set_option maxRecDepth 20000 in
theorem gL_lands_X2_land : GoodIn wsL_lands (wsV RL 36 RX2 yX2_land wsX2_land) := goodIn_app (goodIn_of _ (by decide +kernel)) ggL_lands_X2_land
theorem dL_lands_0 : decode cL_lands 0 = .ok (.aload_n 0, 1) := by decide +kernel
theorem dL_lands_1 : decode cL_lands 1 = .ok (.iload_n 1, 1) := by decide +kernel
theorem dL_lands_2 : decode cL_lands 2 = .ok (.invokevirtual 36, 3) := by decide +kernel
theorem dL_lands_5 : decode cL_lands 5 = .ok (.ireturn, 1) := by decide +kernel
theorem dL_lands_6 : decode cL_lands 6 = .ok (.astore_n 2, 1) := by decide +kernel
theorem dL_lands_7 : decode cL_lands 7 = .ok (.bipush (-2), 2) := by decide +kernel
theorem dL_lands_9 : decode cL_lands 9 = .ok (.ireturn, 1) := by decide +kernel
set_option maxRecDepth 20000 in
theorem ggL_step_L_kites : GoodIn wsL_step wsL_kites := goodIn_ca (goodIn_ca (goodIn_r _ [4, 5, 6, 7, 8, 9, 10, 11, 12, 13, 14, 15, 16, 17, 18, 19, 20, 21, 22, 23, 24, 25, 26, 27, 28, 29, 30, 31, 32, 33, 34, 244, 245, 246, 247, 248, 249, 250, 251, 252, 253, 254, 255, 256, 257, 258, 259, 260, 261] (by decide +kernel) (by decide +kernel)) (goodIn_sub (fun _ h => List.mem_cons_of_mem _ (List.mem_append_left _ (List.mem_append_left _ (List.mem_append_right _ h)))) (by decide +kernel))) (goodIn_sub (fun _ h => List.mem_cons_of_mem _ (List.mem_append_left _ (List.mem_append_right _ h))) (by decide +kernel))
set_option maxRecDepth 20000 in
theorem gL_step_L_kites : GoodIn wsL_step (va_wsS RL 39 yL_kites wsL_kites) := goodIn_app (goodIn_of _ (by decide +kernel)) ggL_step_L_kites
set_option maxRecDepth 20000 in
theorem ggL_step_X2_about : GoodIn wsL_step wsX2_about := goodIn_ca (goodIn_ca (goodIn_r _ [38, 11, 12, 39, 40, 41, 42, 43, 44, 45, 46, 47, 48, 9, 49, 50, 51, 16, 20, 21, 22, 52, 53, 54, 19, 55, 34, 56, 57, 58, 59, 60, 61, 62, 63, 64, 65, 66, 67, 68, 32, 69, 70, 71, 72, 30, 31, 253, 254, 255, 256, 257, 258, 259, 260, 261, 244, 245, 246, 247, 248, 249, 250, 251, 252] (by decide +kernel) (by decide +kernel)) (goodIn_sub (fun _ h => List.mem_cons_of_mem _ (List.mem_append_left _ (List.mem_append_left _ (List.mem_append_right _ h)))) (by decide +kernel))) (goodIn_sub (fun _ h => List.mem_cons_of_mem _ (List.mem_append_right _ h)) (by decide +kernel))
set_option maxRecDepth 20000 in
theorem gL_step_X2_about : GoodIn wsL_step (wsV RL 45 RX2 yX2_about wsX2_about) := goodIn_app (goodIn_of _ (by decide +kernel)) ggL_step_X2_about
set_option maxRecDepth 20000 in
theorem ggL_step_X2_pull : GoodIn wsL_step wsX2_pull := goodIn_ca (goodIn_ca (goodIn_r _ [76, 11, 12, 46, 47, 48, 9, 49, 50, 51, 16, 20, 21, 22, 77, 78, 79, 80, 66, 67, 19, 68, 32, 69, 70, 71, 72, 30, 31, 244, 245, 246, 247, 248, 249, 250, 251, 252, 253, 254, 255, 256, 257, 258, 259, 260, 261] (by decide +kernel) (by decide +kernel)) (goodIn_sub (fun _ h => List.mem_cons_of_mem _ (List.mem_append_left _ (List.mem_append_left _ (List.mem_append_right _ h)))) (by decide +kernel))) (goodIn_sub (fun _ h => List.mem_cons_of_mem _ (List.mem_append_right _ h)) (by decide +kernel))
set_option maxRecDepth 20000 in
theorem gL_step_X2_pull : GoodIn wsL_step (wsV RL 49 RX2 yX2_pull wsX2_pull) := goodIn_app (goodIn_of _ (by decide +kernel)) ggL_step_X2_pull
set_option maxRecDepth 20000 in
theorem ggL_step_L_borrowers : GoodIn wsL_step wsL_borrowers := goodIn_ca (goodIn_ca (goodIn_r _ [83, 5, 84, 85, 86, 9, 87, 11, 12, 13, 14, 88, 89, 90, 91, 92, 20, 21, 22, 93, 94, 95, 96, 27, 28, 97, 244, 245, 246, 247, 248, 249, 250, 251, 252, 262, 263] (by decide +kernel) (by decide +kernel)) (goodIn_sub (fun _ h => List.mem_cons_of_mem _ (List.mem_append_left _ (List.mem_append_left _ (List.mem_append_right _ h)))) (by decide +kernel))) (goodIn_sub (fun _ h => List.mem_cons_of_mem _ (List.mem_append_left _ (List.mem_append_right _ h))) (by decide +kernel))
set_option maxRecDepth 20000 in
theorem gL_step_L_borrowers : GoodIn wsL_step (va_wsS RL 52 yL_borrowers wsL_borrowers) := goodIn_app (goodIn_of _ (by decide +kernel)) ggL_step_L_borrowers
set_option maxRecDepth 20000 in
theorem ggL_step_L_kiteOf : GoodIn wsL_step wsL_kiteOf := goodIn_ca (goodIn_ca (goodIn_r _ [100, 35, 36, 37, 9, 38, 11, 12, 39, 40, 41, 42, 43, 44, 45, 46, 47, 48, 49, 50, 51, 16, 20, 21, 22, 52, 53, 54, 19, 55, 34, 56, 57, 58, 59, 60, 61, 62, 63, 64, 65, 66, 67, 68, 32, 69, 70, 71, 72, 30, 31, 253, 254, 255, 256, 257, 258, 259, 260, 261, 244, 245, 246, 247, 248, 249, 250, 251, 252] (by decide +kernel) (by decide +kernel)) (goodIn_sub (fun _ h => List.mem_cons_of_mem _ (List.mem_append_left _ (List.mem_append_left _ (List.mem_append_right _ h)))) (by decide +kernel))) (goodIn_sub (fun _ h => List.mem_cons_of_mem _ (List.mem_append_right _ h)) (by decide +kernel))
set_option maxRecDepth 20000 in
theorem gL_step_L_kiteOf : GoodIn wsL_step (va_wsS RL 56 yL_kiteOf wsL_kiteOf) := goodIn_app (goodIn_of _ (by decide +kernel)) ggL_step_L_kiteOf
set_option maxRecDepth 20000 in
theorem ggL_step_L_lends : GoodIn wsL_step wsL_lends := goodIn_ca (goodIn_ca (goodIn_r _ [103, 5, 104, 105, 106, 9, 107, 13, 14, 42, 108, 46, 47, 48, 49, 50, 51, 16, 20, 21, 22, 109, 110, 111, 112, 89, 113, 114, 115, 19, 116, 33, 117, 118, 119, 120, 121, 92, 122, 123, 97, 124, 253, 254, 255, 256, 257, 258, 259, 260, 261, 262, 263, 244, 245, 246, 247, 248, 249, 250, 251, 252] (by decide +kernel) (by decide +kernel)) (goodIn_sub (fun _ h => List.mem_cons_of_mem _ (List.mem_append_left _ (List.mem_append_right _ h))) (by decide +kernel))) (goodIn_sub (fun _ h => List.mem_cons_of_mem _ (List.mem_append_right _ h)) (by decide +kernel))
set_option maxRecDepth 20000 in
theorem gL_step_L_lends : GoodIn wsL_step (va_wsS RL 60 yL_lends wsL_lends) := goodIn_app (goodIn_of _ (by decide +kernel)) ggL_step_L_lends
set_option maxRecDepth 20000 in
theorem ggL_step_L_backs : GoodIn wsL_step wsL_backs := goodIn_ca (goodIn_ca (goodIn_r _ [127, 5, 128, 129, 130, 9, 131, 13, 14, 108, 42, 132, 109, 110, 111, 112, 50, 51, 89, 20, 21, 22, 52, 53, 54, 19, 55, 34, 262, 263, 253, 254, 255, 256, 257, 258, 259, 260, 261, 244, 245, 246, 247, 248, 249, 250, 251, 252] (by decide +kernel) (by decide +kernel)) (goodIn_sub (fun _ h => List.mem_cons_of_mem _ (List.mem_append_left _ (List.mem_append_right _ h))) (by decide +kernel))) (goodIn_sub (fun _ h => List.mem_cons_of_mem _ (List.mem_append_right _ h)) (by decide +kernel))
set_option maxRecDepth 20000 in
theorem gL_step_L_backs : GoodIn wsL_step (va_wsS RL 64 yL_backs wsL_backs) := goodIn_app (goodIn_of _ (by decide +kernel)) ggL_step_L_backs
set_option maxRecDepth 20000 in
theorem ggL_step_L_isFlown : GoodIn wsL_step wsL_isFlown := goodIn_ca (goodIn_ca (goodIn_ca (goodIn_r _ [135, 136, 73, 74, 75, 9, 76, 11, 12, 46, 47, 48, 49, 50, 51, 16, 20, 21, 22, 77, 78, 79, 80, 66, 67, 19, 68, 32, 69, 70, 71, 72, 30, 31, 35, 36, 37, 38, 39, 40, 41, 42, 43, 44, 45, 52, 53, 54, 55, 34, 56, 57, 58, 59, 60, 61, 62, 63, 64, 65, 137, 138, 139, 140, 141, 132, 142, 143, 144, 145, 146, 3, 147, 5, 148, 149, 150, 151, 13, 14, 152, 153, 154, 155, 156, 33, 117, 157, 158, 159, 160, 161, 162, 163, 164, 165, 166, 244, 245, 246, 247, 248, 249, 250, 251, 252, 253, 254, 255, 256, 257, 258, 259, 260, 261] (by decide +kernel) (by decide +kernel)) (goodIn_sub (fun _ h => List.mem_cons_of_mem _ (List.mem_append_left _ (List.mem_append_left _ (List.mem_append_right _ h)))) (by decide +kernel))) (goodIn_sub (fun _ h => List.mem_cons_of_mem _ (List.mem_append_right _ h)) (by decide +kernel))) (goodIn_sub (fun _ h => List.mem_cons_of_mem _ (List.mem_append_left _ (List.mem_append_right _ h))) (by decide +kernel))
set_option maxRecDepth 20000 in
theorem gL_step_L_isFlown : GoodIn wsL_step (va_wsS RL 67 yL_isFlown wsL_isFlown) := goodIn_app (goodIn_of _ (by decide +kernel)) ggL_step_L_isFlown
set_option maxRecDepth 20000 in
theorem ggL_step_X2_called : GoodIn wsL_step wsX2_called := goodIn_r _ [170, 171, 244, 245, 246, 247, 248, 249, 250, 251, 252] (by decide +kernel) (by decide +kernel)
set_option maxRecDepth 20000 in
theorem gL_step_X2_called : GoodIn wsL_step (wsV RL 71 RX2 yX2_called wsX2_called) := goodIn_app (goodIn_of _ (by decide +kernel)) ggL_step_X2_called
set_option maxRecDepth 20000 in
theorem ggL_step_L_lands : GoodIn wsL_step wsL_lands := goodIn_ca (goodIn_ca (goodIn_r _ [174, 5, 175, 176, 177, 9, 178, 13, 14, 43, 46, 47, 48, 49, 50, 51, 16, 20, 21, 22, 142, 143, 144, 179, 180, 181, 182, 141, 253, 254, 255, 256, 257, 258, 259, 260, 261, 244, 245, 246, 247, 248, 249, 250, 251, 252] (by decide +kernel) (by decide +kernel)) (goodIn_sub (fun _ h => List.mem_cons_of_mem _ (List.mem_append_left _ (List.mem_append_right _ h))) (by decide +kernel))) (goodIn_sub (fun _ h => List.mem_cons_of_mem _ (List.mem_append_right _ h)) (by decide +kernel))
set_option maxRecDepth 20000 in
theorem gL_step_L_lands : GoodIn wsL_step (va_wsS RL 75 yL_lands wsL_lands) := goodIn_app (goodIn_of _ (by decide +kernel)) ggL_step_L_lands
set_option maxRecDepth 20000 in
theorem ggL_step_L_patches : GoodIn wsL_step wsL_patches := goodIn_ca (goodIn_ca (goodIn_r _ [185, 5, 186, 187, 188, 9, 189, 13, 14, 40, 39, 46, 47, 48, 49, 50, 51, 16, 20, 21, 22, 253, 254, 255, 256, 257, 258, 259, 260, 261, 244, 245, 246, 247, 248, 249, 250, 251, 252] (by decide +kernel) (by decide +kernel)) (goodIn_sub (fun _ h => List.mem_cons_of_mem _ (List.mem_append_left _ (List.mem_append_right _ h))) (by decide +kernel))) (goodIn_sub (fun _ h => List.mem_cons_of_mem _ (List.mem_append_right _ h)) (by decide +kernel))
set_option maxRecDepth 20000 in
theorem gL_step_L_patches : GoodIn wsL_step (va_wsS RL 78 yL_patches wsL_patches) := goodIn_app (goodIn_of _ (by decide +kernel)) ggL_step_L_patches
set_option maxRecDepth 20000 in
theorem ggL_step_X2_rain : GoodIn wsL_step wsX2_rain := goodIn_r _ [193, 194, 244, 245, 246, 247, 248, 249, 250, 251, 252] (by decide +kernel) (by decide +kernel)
set_option maxRecDepth 20000 in
theorem gL_step_X2_rain : GoodIn wsL_step (wsV RL 81 RX2 yX2_rain wsX2_rain) := goodIn_app (goodIn_of _ (by decide +kernel)) ggL_step_X2_rain
set_option maxRecDepth 20000 in
theorem ggL_step_L_isPassed : GoodIn wsL_step wsL_isPassed := goodIn_ca (goodIn_ca (goodIn_r _ [197, 35, 36, 37, 9, 38, 11, 12, 39, 40, 41, 42, 43, 44, 45, 46, 47, 48, 49, 50, 51, 16, 20, 21, 22, 52, 53, 54, 19, 55, 34, 56, 57, 58, 59, 60, 61, 62, 63, 64, 65, 66, 67, 68, 32, 69, 70, 71, 72, 30, 31, 198, 199, 200, 201, 202, 203, 204, 205, 194, 206, 207, 208, 209, 118, 157, 210, 211, 212, 213, 253, 254, 255, 256, 257, 258, 259, 260, 261, 244, 245, 246, 247, 248, 249, 250, 251, 252] (by decide +kernel) (by decide +kernel)) (goodIn_sub (fun _ h => List.mem_cons_of_mem _ (List.mem_append_left _ (List.mem_append_left _ (List.mem_append_right _ h)))) (by decide +kernel))) (goodIn_sub (fun _ h => List.mem_cons_of_mem _ (List.mem_append_right _ h)) (by decide +kernel))
set_option maxRecDepth 20000 in
theorem gL_step_L_isPassed : GoodIn wsL_step (va_wsS RL 85 yL_isPassed wsL_isPassed) := goodIn_app (goodIn_of _ (by decide +kernel)) ggL_step_L_isPassed
set_option maxRecDepth 20000 in
theorem ggL_step_L_isBlown : GoodIn wsL_step wsL_isBlown := goodIn_ca (goodIn_ca (goodIn_r _ [216, 217, 218, 3, 219, 35, 36, 37, 9, 38, 11, 12, 39, 40, 41, 42, 43, 44, 45, 46, 47, 48, 49, 50, 51, 16, 20, 21, 22, 52, 53, 54, 19, 55, 34, 56, 57, 58, 59, 60, 61, 62, 63, 64, 65, 66, 67, 68, 32, 69, 70, 71, 72, 30, 31, 220, 221, 222, 167, 168, 169, 170, 171, 223, 224, 225, 226, 77, 78, 79, 227, 228, 229, 230, 141, 231, 159, 160, 161, 80, 232, 233, 234, 235, 179, 180, 181, 182, 142, 143, 144, 236, 237, 238, 239, 240, 241, 242, 243, 253, 254, 255, 256, 257, 258, 259, 260, 261, 244, 245, 246, 247, 248, 249, 250, 251, 252] (by decide +kernel) (by decide +kernel)) (goodIn_sub (fun _ h => List.mem_cons_of_mem _ (List.mem_append_left _ (List.mem_append_left _ (List.mem_append_right _ h)))) (by decide +kernel))) (goodIn_sub (fun _ h => List.mem_cons_of_mem _ (List.mem_append_right _ h)) (by decide +kernel))
set_option maxRecDepth 20000 in
theorem gL_step_L_isBlown : GoodIn wsL_step (va_wsS RL 89 yL_isBlown wsL_isBlown) := goodIn_app (goodIn_of _ (by decide +kernel)) ggL_step_L_isBlown
