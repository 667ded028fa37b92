theorem dL_part_17 : decode cL_part 17 = .ok (.ireturn, 1) := by decide +kernel
theorem dL_part_18 : decode cL_part 18 = .ok (.astore 5, 2) := by decide +kernel
theorem dL_part_20 : decode cL_part 20 = .ok (.iconst 2, 1) := by decide +kernel
theorem dL_part_21 : decode cL_part 21 = .ok (.ireturn, 1) := by decide +kernel
theorem dL_part_22 : decode cL_part 22 = .ok (.iconst 0, 1) := by decide +kernel
theorem dL_part_23 : decode cL_part 23 = .ok (.ireturn, 1) := by decide +kernel
set_option maxRecDepth 20000 in
theorem ggL_misfit_X6_misfit : GoodIn wsL_misfit wsX6_misfit := goodIn_ca (goodIn_ca (goodIn_r _ [7, 8, 9, 10, 11, 12, 13, 14, 15, 16, 17, 18, 19, 20, 6, 21, 22, 23, 24, 25, 26, 27, 28, 29, 30, 31, 32, 33, 34, 35, 36, 37, 38, 39, 40, 41, 42, 43, 44, 45, 46, 47, 48, 49, 50, 51, 52, 53, 54, 55, 56, 57, 58, 59, 60, 61, 62, 63, 64, 65, 66, 67, 68, 69, 70, 71, 72, 73, 74, 75, 76, 77, 78, 79, 80, 81, 82, 83, 84, 85, 86, 87, 88, 89, 90, 91, 92, 93, 94, 95, 96, 97] (by decide +kernel) (by decide +kernel)) (goodIn_sub (fun _ h => List.mem_cons_of_mem _ (List.mem_append_left _ (List.mem_append_right _ h))) (by decide +kernel))) (goodIn_sub (fun _ h => List.mem_cons_of_mem _ (List.mem_append_right _ h)) (by decide +kernel))
set_option maxRecDepth 20000 in
theorem gL_misfit_X6_misfit : GoodIn wsL_misfit (wsV RL 71 RX6 yX6_misfit wsX6_misfit) := goodIn_app (goodIn_of _ (by decide +kernel)) ggL_misfit_X6_misfit
theorem dL_misfit_0 : decode cL_misfit 0 = .ok (.aload_n 2, 1) := by decide +kernel
theorem dL_misfit_1 : decode cL_misfit 1 = .ok (.iconst 0, 1) := by decide +kernel
theorem dL_misfit_2 : decode cL_misfit 2 = .ok (.aload_n 0, 1) := by decide +kernel
theorem dL_misfit_3 : decode cL_misfit 3 = .ok (.iload_n 1, 1) := by decide +kernel
theorem dL_misfit_4 : decode cL_misfit 4 = .ok (.invokevirtual 71, 3) := by decide +kernel
theorem dL_misfit_7 : decode cL_misfit 7 = .ok (.i2l, 1) := by decide +kernel
theorem dL_misfit_8 : decode cL_misfit 8 = .ok (.lastore, 1) := by decide +kernel
theorem dL_misfit_9 : decode cL_misfit 9 = .ok (.goto 9, 3) := by decide +kernel
theorem dL_misfit_12 : decode cL_misfit 12 = .ok (.astore_n 3, 1) := by decide +kernel
theorem dL_misfit_13 : decode cL_misfit 13 = .ok (.iconst 1, 1) := by decide +kernel
theorem dL_misfit_14 : decode cL_misfit 14 = .ok (.ireturn, 1) := by decide +kernel
theorem dL_misfit_15 : decode cL_misfit 15 = .ok (.astore_n 3, 1) := by decide +kernel
theorem dL_misfit_16 : decode cL_misfit 16 = .ok (.iconst 2, 1) := by decide +kernel
theorem dL_misfit_17 : decode cL_misfit 17 = .ok (.ireturn, 1) := by decide +kernel
theorem dL_misfit_18 : decode cL_misfit 18 = .ok (.iconst 0, 1) := by decide +kernel
theorem dL_misfit_19 : decode cL_misfit 19 = .ok (.ireturn, 1) := by decide +kernel
set_option maxRecDepth 20000 in
theorem ggL_tight_X6_tight : GoodIn wsL_tight wsX6_tight := goodIn_ca (goodIn_ca (goodIn_r _ [7, 8, 9, 10, 11, 12, 13, 14, 15, 6, 16, 17, 18, 19, 20, 21, 22, 23, 24, 25, 26, 27, 28, 29, 30, 31, 32, 33, 34, 35, 36, 37, 38, 39, 40, 41, 42, 43, 44, 45, 46, 47, 48, 49, 50, 51, 52, 53, 54, 55, 56, 57, 58, 59, 60, 61, 62, 63, 64, 65, 66, 67, 68, 69, 70, 71, 72, 73, 74, 75, 76, 77, 78, 79, 80, 81, 82, 83, 84, 85, 86, 87, 88, 89, 90, 91, 92, 93, 94, 95, 96, 97, 98, 99, 100, 101, 102, 103] (by decide +kernel) (by decide +kernel)) (goodIn_sub (fun _ h => List.mem_cons_of_mem _ (List.mem_append_left _ (List.mem_append_right _ h))) (by decide +kernel))) (goodIn_sub (fun _ h => List.mem_cons_of_mem _ (List.mem_append_right _ h)) (by decide +kernel))
set_option maxRecDepth 20000 in
theorem gL_tight_X6_tight : GoodIn wsL_tight (wsV RL 74 RX6 yX6_tight wsX6_tight) := goodIn_app (goodIn_of _ (by decide +kernel)) ggL_tight_X6_tight
theorem dL_tight_0 : decode cL_tight 0 = .ok (.aload 4, 2) := by decide +kernel
theorem dL_tight_2 : decode cL_tight 2 = .ok (.iconst 0, 1) := by decide +kernel
theorem dL_tight_3 : decode cL_tight 3 = .ok (.aload_n 0, 1) := by decide +kernel
theorem dL_tight_4 : decode cL_tight 4 = .ok (.iload_n 1, 1) := by decide +kernel
theorem dL_tight_5 : decode cL_tight 5 = .ok (.iload_n 2, 1) := by decide +kernel
theorem dL_tight_6 : decode cL_tight 6 = .ok (.iload_n 3, 1) := by decide +kernel
theorem dL_tight_7 : decode cL_tight 7 = .ok (.invokevirtual 74, 3) := by decide +kernel
theorem dL_tight_10 : decode cL_tight 10 = .ok (.i2l, 1) := by decide +kernel
theorem dL_tight_11 : decode cL_tight 11 = .ok (.lastore, 1) := by decide +kernel
theorem dL_tight_12 : decode cL_tight 12 = .ok (.goto 11, 3) := by decide +kernel
theorem dL_tight_15 : decode cL_tight 15 = .ok (.astore 5, 2) := by decide +kernel
theorem dL_tight_17 : decode cL_tight 17 = .ok (.iconst 1, 1) := by decide +kernel
theorem dL_tight_18 : decode cL_tight 18 = .ok (.ireturn, 1) := by decide +kernel
theorem dL_tight_19 : decode cL_tight 19 = .ok (.astore 5, 2) := by decide +kernel
theorem dL_tight_21 : decode cL_tight 21 = .ok (.iconst 2, 1) := by decide +kernel
theorem dL_tight_22 : decode cL_tight 22 = .ok (.ireturn, 1) := by decide +kernel
theorem dL_tight_23 : decode cL_tight 23 = .ok (.iconst 0, 1) := by decide +kernel
theorem dL_tight_24 : decode cL_tight 24 = .ok (.ireturn, 1) := by decide +kernel
set_option maxRecDepth 20000 in
theorem ggL_transfer_X6_transfer : GoodIn wsL_transfer wsX6_transfer := goodIn_ca (goodIn_ca (goodIn_ca (goodIn_r _ [8, 9, 10, 11, 12, 13, 14, 15, 16, 17, 18, 19, 20, 21, 22, 23, 24, 25, 26, 27, 7, 28, 29, 30, 31, 32, 33, 34, 35, 36, 37, 38, 39, 40, 41, 42, 43, 44, 45, 46, 47, 48, 49, 50, 51, 52, 53, 54, 55, 56, 57, 58, 59, 60, 61, 62, 63, 64, 65, 66, 67, 68, 69, 70, 71, 72, 73, 74, 75, 76, 77, 78, 79, 80, 81, 82, 83, 84, 85, 86, 87, 88, 89, 90, 91, 92, 93, 94, 95, 96, 97, 98, 99, 100, 101, 102, 103, 104, 105, 106, 107, 108, 109, 110, 111, 112, 113, 114, 115, 116, 117, 118, 119, 120, 121, 122, 123, 124, 125, 126, 127, 128, 129, 130, 131, 132, 133, 134, 135, 136, 137, 138, 139, 140, 141, 142, 143, 144, 145, 146, 147, 148, 149, 150, 151, 152, 153, 154] (by decide +kernel) (by decide +kernel)) (goodIn_sub (fun _ h => List.mem_cons_of_mem _ (List.mem_append_left _ (List.mem_append_left _ (List.mem_append_right _ h)))) (by decide +kernel))) (goodIn_sub (fun _ h => List.mem_cons_of_mem _ (List.mem_append_left _ (List.mem_append_right _ h))) (by decide +kernel))) (goodIn_sub (fun _ h => List.mem_cons_of_mem _ (List.mem_append_right _ h)) (by decide +kernel))
set_option maxRecDepth 20000 in
theorem gL_transfer_X6_transfer : GoodIn wsL_transfer (wsV RL 78 RX6 yX6_transfer wsX6_transfer) := goodIn_app (goodIn_of _ (by decide +kernel)) ggL_transfer_X6_transfer
theorem dL_transfer_0 : decode cL_transfer 0 = .ok (.aload_n 3, 1) := by decide +kernel
theorem dL_transfer_1 : decode cL_transfer 1 = .ok (.iconst 0, 1) := by decide +kernel
theorem dL_transfer_2 : decode cL_transfer 2 = .ok (.aload_n 0, 1) := by decide +kernel
theorem dL_transfer_3 : decode cL_transfer 3 = .ok (.iload_n 1, 1) := by decide +kernel
theorem dL_transfer_4 : decode cL_transfer 4 = .ok (.iload_n 2, 1) := by decide +kernel
theorem dL_transfer_5 : decode cL_transfer 5 = .ok (.invokevirtual 78, 3) := by decide +kernel
theorem dL_transfer_8 : decode cL_transfer 8 = .ok (.i2l, 1) := by decide +kernel
theorem dL_transfer_9 : decode cL_transfer 9 = .ok (.lastore, 1) := by decide +kernel
theorem dL_transfer_10 : decode cL_transfer 10 = .ok (.goto 15, 3) := by decide +kernel
theorem dL_transfer_13 : decode cL_transfer 13 = .ok (.astore 4, 2) := by decide +kernel
theorem dL_transfer_15 : decode cL_transfer 15 = .ok (.iconst 1, 1) := by decide +kernel
theorem dL_transfer_16 : decode cL_transfer 16 = .ok (.ireturn, 1) := by decide +kernel
theorem dL_transfer_17 : decode cL_transfer 17 = .ok (.astore 4, 2) := by decide +kernel
theorem dL_transfer_19 : decode cL_transfer 19 = .ok (.iconst 2, 1) := by decide +kernel
theorem dL_transfer_20 : decode cL_transfer 20 = .ok (.ireturn, 1) := by decide +kernel
theorem dL_transfer_21 : decode cL_transfer 21 = .ok (.astore 4, 2) := by decide +kernel
theorem dL_transfer_23 : decode cL_transfer 23 = .ok (.iconst 3, 1) := by decide +kernel
theorem dL_transfer_24 : decode cL_transfer 24 = .ok (.ireturn, 1) := by decide +kernel
theorem dL_transfer_25 : decode cL_transfer 25 = .ok (.iconst 0, 1) := by decide +kernel
theorem dL_transfer_26 : decode cL_transfer 26 = .ok (.ireturn, 1) := by decide +kernel
set_option maxRecDepth 20000 in
theorem ggL_distribute_X6_distribute : GoodIn wsL_distribute wsX6_distribute := goodIn_ca (goodIn_ca (goodIn_ca (goodIn_r _ [8, 9, 10, 11, 12, 13, 14, 15, 16, 7, 17, 18, 19, 20, 21, 22, 23, 24, 25, 26, 27, 28, 29, 30, 31, 32, 33, 34, 35, 36, 37, 38, 39, 40, 41, 42, 43, 44, 45, 46, 47, 48, 49, 50, 51, 52, 53, 54, 55, 56, 57, 58, 59, 60, 61, 62, 63, 64, 65, 66, 67, 68, 69, 70, 71, 72, 73, 74, 75, 76, 77, 78, 79, 80, 81, 82, 83, 84, 85, 86, 87, 88, 89, 90, 91, 92, 93, 94, 95, 96, 97, 98, 99, 100, 101, 102, 103, 104, 105, 106, 107, 108, 109, 110, 111, 112, 113, 114, 115, 116, 117, 118, 119, 120, 121, 122, 123, 124, 125, 126, 127, 128, 129, 130, 131, 132, 133, 134, 135, 136, 137, 138, 139, 140, 141, 142, 143, 144, 145, 146, 147, 148, 149, 150, 151, 152, 153, 154, 155] (by decide +kernel) (by decide +kernel)) (goodIn_sub (fun _ h => List.mem_cons_of_mem _ (List.mem_append_left _ (List.mem_append_left _ (List.mem_append_right _ h)))) (by decide +kernel))) (goodIn_sub (fun _ h => List.mem_cons_of_mem _ (List.mem_append_left _ (List.mem_append_right _ h))) (by decide +kernel))) (goodIn_sub (fun _ h => List.mem_cons_of_mem _ (List.mem_append_right _ h)) (by decide +kernel))
set_option maxRecDepth 20000 in
theorem gL_distribute_X6_distribute : GoodIn wsL_distribute (wsV RL 81 RX6 yX6_distribute wsX6_distribute) := goodIn_app (goodIn_of _ (by decide +kernel)) ggL_distribute_X6_distribute
theorem dL_distribute_0 : decode cL_distribute 0 = .ok (.aload 4, 2) := by decide +kernel
theorem dL_distribute_2 : decode cL_distribute 2 = .ok (.iconst 0, 1) := by decide +kernel
theorem dL_distribute_3 : decode cL_distribute 3 = .ok (.aload_n 0, 1) := by decide +kernel
theorem dL_distribute_4 : decode cL_distribute 4 = .ok (.iload_n 1, 1) := by decide +kernel
theorem dL_distribute_5 : decode cL_distribute 5 = .ok (.iload_n 2, 1) := by decide +kernel
theorem dL_distribute_6 : decode cL_distribute 6 = .ok (.iload_n 3, 1) := by decide +kernel
theorem dL_distribute_7 : decode cL_distribute 7 = .ok (.invokevirtual 81, 3) := by decide +kernel
theorem dL_distribute_10 : decode cL_distribute 10 = .ok (.i2l, 1) := by decide +kernel
theorem dL_distribute_11 : decode cL_distribute 11 = .ok (.lastore, 1) := by decide +kernel
theorem dL_distribute_12 : decode cL_distribute 12 = .ok (.goto 15, 3) := by decide +kernel
theorem dL_distribute_15 : decode cL_distribute 15 = .ok (.astore 5, 2) := by decide +kernel
theorem dL_distribute_17 : decode cL_distribute 17 = .ok (.iconst 1, 1) := by decide +kernel
theorem dL_distribute_18 : decode cL_distribute 18 = .ok (.ireturn, 1) := by decide +kernel
theorem dL_distribute_19 : decode cL_distribute 19 = .ok (.astore 5, 2) := by decide +kernel
theorem dL_distribute_21 : decode cL_distribute 21 = .ok (.iconst 2, 1) := by decide +kernel
theorem dL_distribute_22 : decode cL_distribute 22 = .ok (.ireturn, 1) := by decide +kernel
theorem dL_distribute_23 : decode cL_distribute 23 = .ok (.astore 5, 2) := by decide +kernel
theorem dL_distribute_25 : decode cL_distribute 25 = .ok (.iconst 3, 1) := by decide +kernel
theorem dL_distribute_26 : decode cL_distribute 26 = .ok (.ireturn, 1) := by decide +kernel
theorem dL_distribute_27 : decode cL_distribute 27 = .ok (.iconst 0, 1) := by decide +kernel
theorem dL_distribute_28 : decode cL_distribute 28 = .ok (.ireturn, 1) := by decide +kernel
