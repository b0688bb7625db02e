theorem dL_drawn_0 : decode cL_drawn 0 = .ok (.iload_n 1, 1) := by decide +kernel
theorem dL_drawn_1 : decode cL_drawn 1 = .ok (.aload_n 0, 1) := by decide +kernel
theorem dL_drawn_2 : decode cL_drawn 2 = .ok (.arraylength, 1) := by decide +kernel
theorem dL_drawn_3 : decode cL_drawn 3 = .ok (.if_icmp .ge 9, 3) := by decide +kernel
theorem dL_drawn_6 : decode cL_drawn 6 = .ok (.aload_n 0, 1) := by decide +kernel
theorem dL_drawn_7 : decode cL_drawn 7 = .ok (.iload_n 1, 1) := by decide +kernel
theorem dL_drawn_8 : decode cL_drawn 8 = .ok (.iaload, 1) := by decide +kernel
theorem dL_drawn_9 : decode cL_drawn 9 = .ok (.goto 12, 3) := by decide +kernel
theorem dL_drawn_12 : decode cL_drawn 12 = .ok (.sipush 12251, 3) := by decide +kernel
theorem dL_drawn_15 : decode cL_drawn 15 = .ok (.iload_n 1, 1) := by decide +kernel
theorem dL_drawn_16 : decode cL_drawn 16 = .ok (.imul, 1) := by decide +kernel
theorem dL_drawn_17 : decode cL_drawn 17 = .ok (.sipush 9001, 3) := by decide +kernel
theorem dL_drawn_20 : decode cL_drawn 20 = .ok (.iadd, 1) := by decide +kernel
theorem dL_drawn_21 : decode cL_drawn 21 = .ok (.istore_n 2, 1) := by decide +kernel
theorem dL_drawn_22 : decode cL_drawn 22 = .ok (.iload_n 2, 1) := by decide +kernel
theorem dL_drawn_23 : decode cL_drawn 23 = .ok (.ldc 7, 2) := by decide +kernel
theorem dL_drawn_25 : decode cL_drawn 25 = .ok (.iand, 1) := by decide +kernel
theorem dL_drawn_26 : decode cL_drawn 26 = .ok (.ireturn, 1) := by decide +kernel
set_option maxRecDepth 20000 in
theorem ggL_pattern_X4_pattern : GoodIn wsL_pattern wsX4_pattern := goodIn_ca (goodIn_ca (goodIn_ca (goodIn_r _ [8, 9, 10, 11, 12, 13, 14, 7, 15, 16, 17, 18, 19, 20, 21, 22, 23, 24, 25, 26, 27, 28, 29, 30, 31, 32, 33, 34, 35, 36, 37, 38, 39, 40, 41, 42, 43, 44, 45, 46, 47, 48, 49, 50, 51, 52, 53, 54, 55, 56, 57, 58, 59, 60, 61, 62, 63, 64, 65, 66, 67, 68, 69, 70, 71] (by decide +kernel) (by decide +kernel)) (goodIn_sub (fun _ h => List.mem_cons_of_mem _ (List.mem_append_left _ (List.mem_append_left _ (List.mem_append_right _ h)))) (by decide +kernel))) (goodIn_sub (fun _ h => List.mem_cons_of_mem _ (List.mem_append_left _ (List.mem_append_right _ h))) (by decide +kernel))) (goodIn_sub (fun _ h => List.mem_cons_of_mem _ (List.mem_append_right _ h)) (by decide +kernel))
set_option maxRecDepth 20000 in
theorem gL_pattern_X4_pattern : GoodIn wsL_pattern (wsV RL 8 RX4 yX4_pattern wsX4_pattern) := goodIn_app (goodIn_of _ (by decide +kernel)) ggL_pattern_X4_pattern
theorem dL_pattern_0 : decode cL_pattern 0 = .ok (.aload_n 0, 1) := by decide +kernel
theorem dL_pattern_1 : decode cL_pattern 1 = .ok (.iload_n 1, 1) := by decide +kernel
theorem dL_pattern_2 : decode cL_pattern 2 = .ok (.iload_n 2, 1) := by decide +kernel
theorem dL_pattern_3 : decode cL_pattern 3 = .ok (.iload_n 3, 1) := by decide +kernel
theorem dL_pattern_4 : decode cL_pattern 4 = .ok (.iload 4, 2) := by decide +kernel
theorem dL_pattern_6 : decode cL_pattern 6 = .ok (.iload 5, 2) := by decide +kernel
theorem dL_pattern_8 : decode cL_pattern 8 = .ok (.invokevirtual 8, 3) := by decide +kernel
theorem dL_pattern_11 : decode cL_pattern 11 = .ok (.ireturn, 1) := by decide +kernel
theorem dL_pattern_12 : decode cL_pattern 12 = .ok (.astore 6, 2) := by decide +kernel
theorem dL_pattern_14 : decode cL_pattern 14 = .ok (.bipush (-8), 2) := by decide +kernel
theorem dL_pattern_16 : decode cL_pattern 16 = .ok (.ireturn, 1) := by decide +kernel
theorem dL_pattern_17 : decode cL_pattern 17 = .ok (.astore 6, 2) := by decide +kernel
theorem dL_pattern_19 : decode cL_pattern 19 = .ok (.bipush (-8), 2) := by decide +kernel
theorem dL_pattern_21 : decode cL_pattern 21 = .ok (.ireturn, 1) := by decide +kernel
theorem dL_pattern_22 : decode cL_pattern 22 = .ok (.astore 6, 2) := by decide +kernel
theorem dL_pattern_24 : decode cL_pattern 24 = .ok (.bipush (-8), 2) := by decide +kernel
theorem dL_pattern_26 : decode cL_pattern 26 = .ok (.ireturn, 1) := by decide +kernel
set_option maxRecDepth 20000 in
theorem ggL_test_X4_test : GoodIn wsL_test wsX4_test := goodIn_ca (goodIn_ca (goodIn_ca (goodIn_r _ [8, 9, 10, 11, 12, 13, 14, 7, 15, 16, 17, 18, 19, 20, 21, 22, 23, 24, 25, 26, 27, 28, 29, 30, 31, 32, 33, 34, 35, 36, 37, 38, 39, 40, 41, 42, 43, 44, 45, 46, 47, 48, 49, 50, 51, 52, 53, 54, 55, 56, 57, 58, 59, 60, 61, 62, 63, 64, 65] (by decide +kernel) (by decide +kernel)) (goodIn_sub (fun _ h => List.mem_cons_of_mem _ (List.mem_append_left _ (List.mem_append_left _ (List.mem_append_right _ h)))) (by decide +kernel))) (goodIn_sub (fun _ h => List.mem_cons_of_mem _ (List.mem_append_left _ (List.mem_append_right _ h))) (by decide +kernel))) (goodIn_sub (fun _ h => List.mem_cons_of_mem _ (List.mem_append_right _ h)) (by decide +kernel))
set_option maxRecDepth 20000 in
theorem gL_test_X4_test : GoodIn wsL_test (wsV RL 20 RX4 yX4_test wsX4_test) := goodIn_app (goodIn_of _ (by decide +kernel)) ggL_test_X4_test
theorem dL_test_0 : decode cL_test 0 = .ok (.aload_n 0, 1) := by decide +kernel
theorem dL_test_1 : decode cL_test 1 = .ok (.iload_n 1, 1) := by decide +kernel
theorem dL_test_2 : decode cL_test 2 = .ok (.iload_n 2, 1) := by decide +kernel
theorem dL_test_3 : decode cL_test 3 = .ok (.iload_n 3, 1) := by decide +kernel
theorem dL_test_4 : decode cL_test 4 = .ok (.iload 4, 2) := by decide +kernel
theorem dL_test_6 : decode cL_test 6 = .ok (.iload 5, 2) := by decide +kernel
theorem dL_test_8 : decode cL_test 8 = .ok (.iload 6, 2) := by decide +kernel
theorem dL_test_10 : decode cL_test 10 = .ok (.invokevirtual 20, 3) := by decide +kernel
theorem dL_test_13 : decode cL_test 13 = .ok (.ireturn, 1) := by decide +kernel
theorem dL_test_14 : decode cL_test 14 = .ok (.astore 7, 2) := by decide +kernel
theorem dL_test_16 : decode cL_test 16 = .ok (.bipush (-8), 2) := by decide +kernel
theorem dL_test_18 : decode cL_test 18 = .ok (.ireturn, 1) := by decide +kernel
theorem dL_test_19 : decode cL_test 19 = .ok (.astore 7, 2) := by decide +kernel
theorem dL_test_21 : decode cL_test 21 = .ok (.bipush (-8), 2) := by decide +kernel
theorem dL_test_23 : decode cL_test 23 = .ok (.ireturn, 1) := by decide +kernel
theorem dL_test_24 : decode cL_test 24 = .ok (.astore 7, 2) := by decide +kernel
theorem dL_test_26 : decode cL_test 26 = .ok (.bipush (-8), 2) := by decide +kernel
theorem dL_test_28 : decode cL_test 28 = .ok (.ireturn, 1) := by decide +kernel
set_option maxRecDepth 20000 in
theorem ggL_does_X4_kind : GoodIn wsL_does wsX4_kind := goodIn_ca (goodIn_ca (goodIn_r _ [8, 9, 10, 11, 12, 13, 14, 15, 16, 17, 18, 19, 20, 21, 22, 23, 24, 25, 26, 27, 28, 107, 108, 109, 110, 111, 112] (by decide +kernel) (by decide +kernel)) (goodIn_sub (fun _ h => List.mem_cons_of_mem _ (List.mem_append_left _ (List.mem_append_left _ (List.mem_append_right _ h)))) (by decide +kernel))) (goodIn_sub (fun _ h => List.mem_cons_of_mem _ (List.mem_append_left _ (List.mem_append_right _ h))) (by decide +kernel))
set_option maxRecDepth 20000 in
theorem gL_does_X4_kind : GoodIn wsL_does (wsV RL 24 RX4 yX4_kind wsX4_kind) := goodIn_app (goodIn_of _ (by decide +kernel)) ggL_does_X4_kind
set_option maxRecDepth 20000 in
theorem ggL_does_X4_rule : GoodIn wsL_does wsX4_rule := goodIn_ca (goodIn_ca (goodIn_ca (goodIn_r _ [32, 11, 12, 33, 34, 35, 36, 7, 37, 9, 10, 13, 14, 15, 16, 17, 18, 19, 38, 39, 40, 41, 42, 43, 44, 45, 46, 47, 48, 49, 50, 51, 52, 53, 54, 55, 56, 57, 107, 108, 109, 110, 111, 112, 113, 114, 115, 116, 117, 118, 119, 120, 121, 122, 123, 124] (by decide +kernel) (by decide +kernel)) (goodIn_sub (fun _ h => List.mem_cons_of_mem _ (List.mem_append_left _ (List.mem_append_right _ h))) (by decide +kernel))) (goodIn_sub (fun _ h => List.mem_cons_of_mem _ (List.mem_append_left _ (List.mem_append_left _ (List.mem_append_right _ h)))) (by decide +kernel))) (goodIn_sub (fun _ h => List.mem_cons_of_mem _ (List.mem_append_right _ h)) (by decide +kernel))
set_option maxRecDepth 20000 in
theorem gL_does_X4_rule : GoodIn wsL_does (wsV RL 28 RX4 yX4_rule wsX4_rule) := goodIn_app (goodIn_of _ (by decide +kernel)) ggL_does_X4_rule
set_option maxRecDepth 20000 in
theorem ggL_does_X4_drop : GoodIn wsL_does wsX4_drop := goodIn_ca (goodIn_r _ [61, 62, 63, 64, 65, 7, 66, 9, 10, 67, 68, 69, 70, 71, 72, 73, 74, 75, 76, 77, 78, 107, 108, 109, 110, 125, 126, 127, 128, 129, 130, 131, 132, 133, 134] (by decide +kernel) (by decide +kernel)) (goodIn_sub (fun _ h => List.mem_cons_of_mem _ (List.mem_append_left _ (List.mem_append_left _ (List.mem_append_right _ h)))) (by decide +kernel))
set_option maxRecDepth 20000 in
theorem gL_does_X4_drop : GoodIn wsL_does (wsV RL 32 RX4 yX4_drop wsX4_drop) := goodIn_app (goodIn_of _ (by decide +kernel)) ggL_does_X4_drop
set_option maxRecDepth 20000 in
theorem ggL_does_X4_letter : GoodIn wsL_does wsX4_letter := goodIn_ca (goodIn_ca (goodIn_r _ [82, 11, 12, 62, 38, 39, 7, 40, 41, 42, 43, 44, 45, 83, 84, 85, 70, 86, 87, 88, 89, 90, 91, 92, 107, 108, 109, 110, 125, 126, 127, 128, 129, 130, 131, 132, 133, 134] (by decide +kernel) (by decide +kernel)) (goodIn_sub (fun _ h => List.mem_cons_of_mem _ (List.mem_append_left _ (List.mem_append_right _ h))) (by decide +kernel))) (goodIn_sub (fun _ h => List.mem_cons_of_mem _ (List.mem_append_right _ h)) (by decide +kernel))
set_option maxRecDepth 20000 in
theorem gL_does_X4_letter : GoodIn wsL_does (wsV RL 35 RX4 yX4_letter wsX4_letter) := goodIn_app (goodIn_of _ (by decide +kernel)) ggL_does_X4_letter
set_option maxRecDepth 20000 in
theorem ggL_does_X4_put : GoodIn wsL_does wsX4_put := goodIn_ca (goodIn_ca (goodIn_r _ [96, 11, 12, 33, 38, 39, 7, 40, 41, 42, 43, 44, 45, 97, 98, 99, 49, 100, 101, 102, 103, 104, 105, 106, 107, 108, 109, 110, 113, 114, 115, 116, 117, 118, 119, 120, 121, 122, 123, 124] (by decide +kernel) (by decide +kernel)) (goodIn_sub (fun _ h => List.mem_cons_of_mem _ (List.mem_append_left _ (List.mem_append_right _ h))) (by decide +kernel))) (goodIn_sub (fun _ h => List.mem_cons_of_mem _ (List.mem_append_right _ h)) (by decide +kernel))
set_option maxRecDepth 20000 in
theorem gL_does_X4_put : GoodIn wsL_does (wsV RL 38 RX4 yX4_put wsX4_put) := goodIn_app (goodIn_of _ (by decide +kernel)) ggL_does_X4_put
theorem dL_does_0 : decode cL_does 0 = .ok (.iload_n 1, 1) := by decide +kernel
theorem dL_does_1 : decode cL_does 1 = .ok (.ifCond .ne 11, 3) := by decide +kernel
theorem dL_does_4 : decode cL_does 4 = .ok (.aload_n 0, 1) := by decide +kernel
theorem dL_does_5 : decode cL_does 5 = .ok (.iload_n 2, 1) := by decide +kernel
theorem dL_does_6 : decode cL_does 6 = .ok (.invokevirtual 24, 3) := by decide +kernel
theorem dL_does_9 : decode cL_does 9 = .ok (.goto 48, 3) := by decide +kernel
theorem dL_does_12 : decode cL_does 12 = .ok (.iload_n 1, 1) := by decide +kernel
theorem dL_does_13 : decode cL_does 13 = .ok (.iconst 1, 1) := by decide +kernel
theorem dL_does_14 : decode cL_does 14 = .ok (.if_icmp .ne 12, 3) := by decide +kernel
theorem dL_does_17 : decode cL_does 17 = .ok (.aload_n 0, 1) := by decide +kernel
theorem dL_does_18 : decode cL_does 18 = .ok (.iload_n 2, 1) := by decide +kernel
theorem dL_does_19 : decode cL_does 19 = .ok (.iload_n 3, 1) := by decide +kernel
theorem dL_does_20 : decode cL_does 20 = .ok (.invokevirtual 28, 3) := by decide +kernel
theorem dL_does_23 : decode cL_does 23 = .ok (.goto 34, 3) := by decide +kernel
theorem dL_does_26 : decode cL_does 26 = .ok (.iload_n 1, 1) := by decide +kernel
theorem dL_does_27 : decode cL_does 27 = .ok (.iconst 2, 1) := by decide +kernel
theorem dL_does_28 : decode cL_does 28 = .ok (.if_icmp .ne 11, 3) := by decide +kernel
theorem dL_does_31 : decode cL_does 31 = .ok (.aload_n 0, 1) := by decide +kernel
theorem dL_does_32 : decode cL_does 32 = .ok (.iload_n 2, 1) := by decide +kernel
theorem dL_does_33 : decode cL_does 33 = .ok (.invokevirtual 32, 3) := by decide +kernel
theorem dL_does_36 : decode cL_does 36 = .ok (.goto 21, 3) := by decide +kernel
theorem dL_does_39 : decode cL_does 39 = .ok (.iload_n 1, 1) := by decide +kernel
theorem dL_does_40 : decode cL_does 40 = .ok (.iconst 3, 1) := by decide +kernel
theorem dL_does_41 : decode cL_does 41 = .ok (.if_icmp .ne 11, 3) := by decide +kernel
theorem dL_does_44 : decode cL_does 44 = .ok (.aload_n 0, 1) := by decide +kernel
theorem dL_does_45 : decode cL_does 45 = .ok (.iload_n 2, 1) := by decide +kernel
theorem dL_does_46 : decode cL_does 46 = .ok (.invokevirtual 35, 3) := by decide +kernel
theorem dL_does_49 : decode cL_does 49 = .ok (.goto 8, 3) := by decide +kernel
theorem dL_does_52 : decode cL_does 52 = .ok (.aload_n 0, 1) := by decide +kernel
theorem dL_does_53 : decode cL_does 53 = .ok (.iload_n 2, 1) := by decide +kernel
theorem dL_does_54 : decode cL_does 54 = .ok (.invokevirtual 38, 3) := by decide +kernel
theorem dL_does_57 : decode cL_does 57 = .ok (.ireturn, 1) := by decide +kernel
theorem dL_does_58 : decode cL_does 58 = .ok (.astore 4, 2) := by decide +kernel
theorem dL_does_60 : decode cL_does 60 = .ok (.bipush (-8), 2) := by decide +kernel
theorem dL_does_62 : decode cL_does 62 = .ok (.ireturn, 1) := by decide +kernel
theorem dL_does_63 : decode cL_does 63 = .ok (.astore 4, 2) := by decide +kernel
theorem dL_does_65 : decode cL_does 65 = .ok (.bipush (-8), 2) := by decide +kernel
theorem dL_does_67 : decode cL_does 67 = .ok (.ireturn, 1) := by decide +kernel
theorem dL_does_68 : decode cL_does 68 = .ok (.astore 4, 2) := by decide +kernel
theorem dL_does_70 : decode cL_does 70 = .ok (.bipush (-8), 2) := by decide +kernel
theorem dL_does_72 : decode cL_does 72 = .ok (.ireturn, 1) := by decide +kernel
set_option maxRecDepth 20000 in
theorem ggL_is_X4_fits : GoodIn wsL_is wsX4_fits := goodIn_ca (goodIn_r _ [6, 7, 8, 9, 10, 5, 11, 12, 13, 14, 15, 16, 17, 18, 19, 20, 21, 22, 23, 24, 25, 26, 27, 28, 29, 30, 31, 32, 33, 34, 35, 36, 37, 38, 39, 89, 90, 91, 92, 93, 94, 95, 96, 97, 98, 99, 100, 101, 102] (by decide +kernel) (by decide +kernel)) (goodIn_sub (fun _ h => List.mem_cons_of_mem _ (List.mem_append_right _ h)) (by decide +kernel))
set_option maxRecDepth 20000 in
theorem gL_is_X4_fits : GoodIn wsL_is (wsV RL 41 RX4 yX4_fits wsX4_fits) := goodIn_app (goodIn_of _ (by decide +kernel)) ggL_is_X4_fits
set_option maxRecDepth 20000 in
theorem ggL_is_X4_fitsByTable : GoodIn wsL_is wsX4_fitsByTable := goodIn_ca (goodIn_r _ [43, 7, 8, 9, 10, 5, 11, 12, 13, 14, 15, 16, 17, 18, 19, 20, 44, 45, 46, 47, 25, 48, 26, 27, 49, 50, 51, 52, 35, 36, 37, 38, 39, 89, 90, 91, 92, 93, 94, 95, 96, 97, 98, 99, 100, 101, 102] (by decide +kernel) (by decide +kernel)) (goodIn_sub (fun _ h => List.mem_cons_of_mem _ (List.mem_append_right _ h)) (by decide +kernel))
set_option maxRecDepth 20000 in
theorem gL_is_X4_fitsByTable : GoodIn wsL_is (wsV RL 45 RX4 yX4_fitsByTable wsX4_fitsByTable) := goodIn_app (goodIn_of _ (by decide +kernel)) ggL_is_X4_fitsByTable
set_option maxRecDepth 20000 in
theorem ggL_is_X4_proves : GoodIn wsL_is wsX4_proves := goodIn_ca (goodIn_r _ [56, 57, 58, 59, 60, 5, 61, 12, 13, 62, 63, 64, 65, 66, 67, 68, 69, 70, 71, 72, 73, 74, 75, 76, 77, 78, 79, 80, 81, 82, 83, 84, 85, 86, 87, 88, 89, 90, 91, 92, 103, 104, 105, 106, 107, 108, 109, 110, 111, 112, 113, 114] (by decide +kernel) (by decide +kernel)) (goodIn_sub (fun _ h => List.mem_cons_of_mem _ (List.mem_append_right _ h)) (by decide +kernel))
set_option maxRecDepth 20000 in
theorem gL_is_X4_proves : GoodIn wsL_is (wsV RL 48 RX4 yX4_proves wsX4_proves) := goodIn_app (goodIn_of _ (by decide +kernel)) ggL_is_X4_proves
theorem dL_is_0 : decode cL_is 0 = .ok (.iload_n 1, 1) := by decide +kernel
theorem dL_is_1 : decode cL_is 1 = .ok (.ifCond .ne 14, 3) := by decide +kernel
theorem dL_is_4 : decode cL_is 4 = .ok (.aload_n 0, 1) := by decide +kernel
theorem dL_is_5 : decode cL_is 5 = .ok (.iload_n 2, 1) := by decide +kernel
theorem dL_is_6 : decode cL_is 6 = .ok (.invokevirtual 41, 3) := by decide +kernel
theorem dL_is_9 : decode cL_is 9 = .ok (.ifCond .eq 34, 3) := by decide +kernel
theorem dL_is_12 : decode cL_is 12 = .ok (.goto 27, 3) := by decide +kernel
theorem dL_is_15 : decode cL_is 15 = .ok (.iload_n 1, 1) := by decide +kernel
theorem dL_is_16 : decode cL_is 16 = .ok (.iconst 1, 1) := by decide +kernel
theorem dL_is_17 : decode cL_is 17 = .ok (.if_icmp .ne 14, 3) := by decide +kernel
theorem dL_is_20 : decode cL_is 20 = .ok (.aload_n 0, 1) := by decide +kernel
theorem dL_is_21 : decode cL_is 21 = .ok (.iload_n 2, 1) := by decide +kernel
theorem dL_is_22 : decode cL_is 22 = .ok (.invokevirtual 45, 3) := by decide +kernel
theorem dL_is_25 : decode cL_is 25 = .ok (.ifCond .eq 18, 3) := by decide +kernel
theorem dL_is_28 : decode cL_is 28 = .ok (.goto 11, 3) := by decide +kernel
theorem dL_is_31 : decode cL_is 31 = .ok (.aload_n 0, 1) := by decide +kernel
theorem dL_is_32 : decode cL_is 32 = .ok (.iload_n 2, 1) := by decide +kernel
theorem dL_is_33 : decode cL_is 33 = .ok (.invokevirtual 48, 3) := by decide +kernel
theorem dL_is_36 : decode cL_is 36 = .ok (.ifCond .eq 7, 3) := by decide +kernel
theorem dL_is_39 : decode cL_is 39 = .ok (.iconst 1, 1) := by decide +kernel
theorem dL_is_40 : decode cL_is 40 = .ok (.goto 4, 3) := by decide +kernel
theorem dL_is_43 : decode cL_is 43 = .ok (.iconst 0, 1) := by decide +kernel
theorem dL_is_44 : decode cL_is 44 = .ok (.ireturn, 1) := by decide +kernel
theorem dL_is_45 : decode cL_is 45 = .ok (.astore_n 3, 1) := by decide +kernel
theorem dL_is_46 : decode cL_is 46 = .ok (.bipush (-8), 2) := by decide +kernel
theorem dL_is_48 : decode cL_is 48 = .ok (.ireturn, 1) := by decide +kernel
theorem dL_turned_0 : decode cL_turned 0 = .ok (.iload_n 0, 1) := by decide +kernel
theorem dL_turned_1 : decode cL_turned 1 = .ok (.bipush 10, 2) := by decide +kernel
theorem dL_turned_3 : decode cL_turned 3 = .ok (.if_icmp .ge 10, 3) := by decide +kernel
theorem dL_turned_6 : decode cL_turned 6 = .ok (.bipush 9, 2) := by decide +kernel
theorem dL_turned_8 : decode cL_turned 8 = .ok (.iload_n 0, 1) := by decide +kernel
theorem dL_turned_9 : decode cL_turned 9 = .ok (.isub, 1) := by decide +kernel
theorem dL_turned_10 : decode cL_turned 10 = .ok (.goto 4, 3) := by decide +kernel
theorem dL_turned_13 : decode cL_turned 13 = .ok (.iload_n 0, 1) := by decide +kernel
theorem dL_turned_14 : decode cL_turned 14 = .ok (.ireturn, 1) := by decide +kernel
