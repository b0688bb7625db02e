set_option maxRecDepth 20000 in
theorem ggL_kind_X4_kind : GoodIn wsL_kind wsX4_kind := goodIn_ca (goodIn_ca (goodIn_r _ [7, 8, 9, 10, 11, 12, 13, 14, 15, 16, 17, 18, 19, 20, 21, 22, 23, 24, 25, 26, 27, 28, 29, 30, 31, 32, 33] (by decide +kernel) (by decide +kernel)) (goodIn_sub (fun _ h => List.mem_cons_of_mem _ (List.mem_append_left _ (List.mem_append_right _ h))) (by decide +kernel))) (goodIn_sub (fun _ h => List.mem_cons_of_mem _ (List.mem_append_right _ h)) (by decide +kernel))
set_option maxRecDepth 20000 in
theorem gL_kind_X4_kind : GoodIn wsL_kind (wsV RL 7 RX4 yX4_kind wsX4_kind) := goodIn_app (goodIn_of _ (by decide +kernel)) ggL_kind_X4_kind
theorem dL_kind_0 : decode cL_kind 0 = .ok (.aload_n 2, 1) := by decide +kernel
theorem dL_kind_1 : decode cL_kind 1 = .ok (.iconst 0, 1) := by decide +kernel
theorem dL_kind_2 : decode cL_kind 2 = .ok (.aload_n 0, 1) := by decide +kernel
theorem dL_kind_3 : decode cL_kind 3 = .ok (.iload_n 1, 1) := by decide +kernel
theorem dL_kind_4 : decode cL_kind 4 = .ok (.invokevirtual 7, 3) := by decide +kernel
theorem dL_kind_7 : decode cL_kind 7 = .ok (.i2l, 1) := by decide +kernel
theorem dL_kind_8 : decode cL_kind 8 = .ok (.lastore, 1) := by decide +kernel
theorem dL_kind_9 : decode cL_kind 9 = .ok (.goto 9, 3) := by decide +kernel
theorem dL_kind_12 : decode cL_kind 12 = .ok (.astore_n 3, 1) := by decide +kernel
theorem dL_kind_13 : decode cL_kind 13 = .ok (.iconst 1, 1) := by decide +kernel
theorem dL_kind_14 : decode cL_kind 14 = .ok (.ireturn, 1) := by decide +kernel
theorem dL_kind_15 : decode cL_kind 15 = .ok (.astore_n 3, 1) := by decide +kernel
theorem dL_kind_16 : decode cL_kind 16 = .ok (.iconst 2, 1) := by decide +kernel
theorem dL_kind_17 : decode cL_kind 17 = .ok (.ireturn, 1) := by decide +kernel
theorem dL_kind_18 : decode cL_kind 18 = .ok (.iconst 0, 1) := by decide +kernel
theorem dL_kind_19 : decode cL_kind 19 = .ok (.ireturn, 1) := by decide +kernel
set_option maxRecDepth 20000 in
theorem ggL_pattern_X4_pattern : GoodIn wsL_pattern wsX4_pattern := goodIn_ca (goodIn_ca (goodIn_ca (goodIn_r _ [8, 9, 10, 11, 12, 13, 14, 7, 15, 16, 17, 18, 19, 20, 21, 22, 23, 24, 25, 26, 27, 28, 29, 30, 31, 32, 33, 34, 35, 36, 37, 38, 39, 40, 41, 42, 43, 44, 45, 46, 47, 48, 49, 50, 51, 52, 53, 54, 55, 56, 57, 58, 59, 60, 61, 62, 63, 64, 65, 66, 67, 68, 69, 70, 71] (by decide +kernel) (by decide +kernel)) (goodIn_sub (fun _ h => List.mem_cons_of_mem _ (List.mem_append_left _ (List.mem_append_left _ (List.mem_append_right _ h)))) (by decide +kernel))) (goodIn_sub (fun _ h => List.mem_cons_of_mem _ (List.mem_append_left _ (List.mem_append_right _ h))) (by decide +kernel))) (goodIn_sub (fun _ h => List.mem_cons_of_mem _ (List.mem_append_right _ h)) (by decide +kernel))
set_option maxRecDepth 20000 in
theorem gL_pattern_X4_pattern : GoodIn wsL_pattern (wsV RL 17 RX4 yX4_pattern wsX4_pattern) := goodIn_app (goodIn_of _ (by decide +kernel)) ggL_pattern_X4_pattern
theorem dL_pattern_0 : decode cL_pattern 0 = .ok (.aload 6, 2) := by decide +kernel
theorem dL_pattern_2 : decode cL_pattern 2 = .ok (.iconst 0, 1) := by decide +kernel
theorem dL_pattern_3 : decode cL_pattern 3 = .ok (.aload_n 0, 1) := by decide +kernel
theorem dL_pattern_4 : decode cL_pattern 4 = .ok (.iload_n 1, 1) := by decide +kernel
theorem dL_pattern_5 : decode cL_pattern 5 = .ok (.iload_n 2, 1) := by decide +kernel
theorem dL_pattern_6 : decode cL_pattern 6 = .ok (.iload_n 3, 1) := by decide +kernel
theorem dL_pattern_7 : decode cL_pattern 7 = .ok (.iload 4, 2) := by decide +kernel
theorem dL_pattern_9 : decode cL_pattern 9 = .ok (.iload 5, 2) := by decide +kernel
theorem dL_pattern_11 : decode cL_pattern 11 = .ok (.invokevirtual 17, 3) := by decide +kernel
theorem dL_pattern_14 : decode cL_pattern 14 = .ok (.i2l, 1) := by decide +kernel
theorem dL_pattern_15 : decode cL_pattern 15 = .ok (.lastore, 1) := by decide +kernel
theorem dL_pattern_16 : decode cL_pattern 16 = .ok (.goto 15, 3) := by decide +kernel
theorem dL_pattern_19 : decode cL_pattern 19 = .ok (.astore 7, 2) := by decide +kernel
theorem dL_pattern_21 : decode cL_pattern 21 = .ok (.iconst 1, 1) := by decide +kernel
theorem dL_pattern_22 : decode cL_pattern 22 = .ok (.ireturn, 1) := by decide +kernel
theorem dL_pattern_23 : decode cL_pattern 23 = .ok (.astore 7, 2) := by decide +kernel
theorem dL_pattern_25 : decode cL_pattern 25 = .ok (.iconst 2, 1) := by decide +kernel
theorem dL_pattern_26 : decode cL_pattern 26 = .ok (.ireturn, 1) := by decide +kernel
theorem dL_pattern_27 : decode cL_pattern 27 = .ok (.astore 7, 2) := by decide +kernel
theorem dL_pattern_29 : decode cL_pattern 29 = .ok (.iconst 3, 1) := by decide +kernel
theorem dL_pattern_30 : decode cL_pattern 30 = .ok (.ireturn, 1) := by decide +kernel
theorem dL_pattern_31 : decode cL_pattern 31 = .ok (.iconst 0, 1) := by decide +kernel
theorem dL_pattern_32 : decode cL_pattern 32 = .ok (.ireturn, 1) := by decide +kernel
set_option maxRecDepth 20000 in
theorem ggL_drop_X4_drop : GoodIn wsL_drop wsX4_drop := goodIn_ca (goodIn_r _ [6, 7, 8, 9, 10, 5, 11, 12, 13, 14, 15, 16, 17, 18, 19, 20, 21, 22, 23, 24, 25, 26, 27, 28, 29, 30, 31, 32, 33, 34, 35, 36, 37, 38, 39] (by decide +kernel) (by decide +kernel)) (goodIn_sub (fun _ h => List.mem_cons_of_mem _ (List.mem_append_right _ h)) (by decide +kernel))
set_option maxRecDepth 20000 in
theorem gL_drop_X4_drop : GoodIn wsL_drop (wsV RL 23 RX4 yX4_drop wsX4_drop) := goodIn_app (goodIn_of _ (by decide +kernel)) ggL_drop_X4_drop
theorem dL_drop_0 : decode cL_drop 0 = .ok (.aload_n 2, 1) := by decide +kernel
theorem dL_drop_1 : decode cL_drop 1 = .ok (.iconst 0, 1) := by decide +kernel
theorem dL_drop_2 : decode cL_drop 2 = .ok (.aload_n 0, 1) := by decide +kernel
theorem dL_drop_3 : decode cL_drop 3 = .ok (.iload_n 1, 1) := by decide +kernel
theorem dL_drop_4 : decode cL_drop 4 = .ok (.invokevirtual 23, 3) := by decide +kernel
theorem dL_drop_7 : decode cL_drop 7 = .ok (.i2l, 1) := by decide +kernel
theorem dL_drop_8 : decode cL_drop 8 = .ok (.lastore, 1) := by decide +kernel
theorem dL_drop_9 : decode cL_drop 9 = .ok (.goto 6, 3) := by decide +kernel
theorem dL_drop_12 : decode cL_drop 12 = .ok (.astore_n 3, 1) := by decide +kernel
theorem dL_drop_13 : decode cL_drop 13 = .ok (.iconst 1, 1) := by decide +kernel
theorem dL_drop_14 : decode cL_drop 14 = .ok (.ireturn, 1) := by decide +kernel
theorem dL_drop_15 : decode cL_drop 15 = .ok (.iconst 0, 1) := by decide +kernel
theorem dL_drop_16 : decode cL_drop 16 = .ok (.ireturn, 1) := by decide +kernel
set_option maxRecDepth 20000 in
theorem ggL_rule_X4_rule : GoodIn wsL_rule wsX4_rule := goodIn_ca (goodIn_ca (goodIn_ca (goodIn_r _ [8, 9, 10, 11, 12, 13, 14, 7, 15, 16, 17, 18, 19, 20, 21, 22, 23, 24, 25, 26, 27, 28, 29, 30, 31, 32, 33, 34, 35, 36, 37, 38, 39, 40, 41, 42, 43, 44, 45, 46, 47, 48, 49, 50, 51, 52, 53, 54, 55, 56, 57, 58, 59, 60, 61, 62] (by decide +kernel) (by decide +kernel)) (goodIn_sub (fun _ h => List.mem_cons_of_mem _ (List.mem_append_left _ (List.mem_append_left _ (List.mem_append_right _ h)))) (by decide +kernel))) (goodIn_sub (fun _ h => List.mem_cons_of_mem _ (List.mem_append_left _ (List.mem_append_right _ h))) (by decide +kernel))) (goodIn_sub (fun _ h => List.mem_cons_of_mem _ (List.mem_append_right _ h)) (by decide +kernel))
set_option maxRecDepth 20000 in
theorem gL_rule_X4_rule : GoodIn wsL_rule (wsV RL 26 RX4 yX4_rule wsX4_rule) := goodIn_app (goodIn_of _ (by decide +kernel)) ggL_rule_X4_rule
theorem dL_rule_0 : decode cL_rule 0 = .ok (.aload_n 3, 1) := by decide +kernel
theorem dL_rule_1 : decode cL_rule 1 = .ok (.iconst 0, 1) := by decide +kernel
theorem dL_rule_2 : decode cL_rule 2 = .ok (.aload_n 0, 1) := by decide +kernel
theorem dL_rule_3 : decode cL_rule 3 = .ok (.iload_n 1, 1) := by decide +kernel
theorem dL_rule_4 : decode cL_rule 4 = .ok (.iload_n 2, 1) := by decide +kernel
theorem dL_rule_5 : decode cL_rule 5 = .ok (.invokevirtual 26, 3) := by decide +kernel
theorem dL_rule_8 : decode cL_rule 8 = .ok (.i2l, 1) := by decide +kernel
theorem dL_rule_9 : decode cL_rule 9 = .ok (.lastore, 1) := by decide +kernel
theorem dL_rule_10 : decode cL_rule 10 = .ok (.goto 15, 3) := by decide +kernel
theorem dL_rule_13 : decode cL_rule 13 = .ok (.astore 4, 2) := by decide +kernel
theorem dL_rule_15 : decode cL_rule 15 = .ok (.iconst 1, 1) := by decide +kernel
theorem dL_rule_16 : decode cL_rule 16 = .ok (.ireturn, 1) := by decide +kernel
theorem dL_rule_17 : decode cL_rule 17 = .ok (.astore 4, 2) := by decide +kernel
theorem dL_rule_19 : decode cL_rule 19 = .ok (.iconst 2, 1) := by decide +kernel
theorem dL_rule_20 : decode cL_rule 20 = .ok (.ireturn, 1) := by decide +kernel
theorem dL_rule_21 : decode cL_rule 21 = .ok (.astore 4, 2) := by decide +kernel
theorem dL_rule_23 : decode cL_rule 23 = .ok (.iconst 3, 1) := by decide +kernel
theorem dL_rule_24 : decode cL_rule 24 = .ok (.ireturn, 1) := by decide +kernel
theorem dL_rule_25 : decode cL_rule 25 = .ok (.iconst 0, 1) := by decide +kernel
theorem dL_rule_26 : decode cL_rule 26 = .ok (.ireturn, 1) := by decide +kernel
set_option maxRecDepth 20000 in
theorem ggL_test_X4_test : GoodIn wsL_test wsX4_test := goodIn_ca (goodIn_ca (goodIn_ca (goodIn_r _ [8, 9, 10, 11, 12, 13, 14, 7, 15, 16, 17, 18, 19, 20, 21, 22, 23, 24, 25, 26, 27, 28, 29, 30, 31, 32, 33, 34, 35, 36, 37, 38, 39, 40, 41, 42, 43, 44, 45, 46, 47, 48, 49, 50, 51, 52, 53, 54, 55, 56, 57, 58, 59, 60, 61, 62, 63, 64, 65] (by decide +kernel) (by decide +kernel)) (goodIn_sub (fun _ h => List.mem_cons_of_mem _ (List.mem_append_left _ (List.mem_append_left _ (List.mem_append_right _ h)))) (by decide +kernel))) (goodIn_sub (fun _ h => List.mem_cons_of_mem _ (List.mem_append_left _ (List.mem_append_right _ h))) (by decide +kernel))) (goodIn_sub (fun _ h => List.mem_cons_of_mem _ (List.mem_append_right _ h)) (by decide +kernel))
set_option maxRecDepth 20000 in
theorem gL_test_X4_test : GoodIn wsL_test (wsV RL 30 RX4 yX4_test wsX4_test) := goodIn_app (goodIn_of _ (by decide +kernel)) ggL_test_X4_test
theorem dL_test_0 : decode cL_test 0 = .ok (.aload 7, 2) := by decide +kernel
theorem dL_test_2 : decode cL_test 2 = .ok (.iconst 0, 1) := by decide +kernel
theorem dL_test_3 : decode cL_test 3 = .ok (.aload_n 0, 1) := by decide +kernel
theorem dL_test_4 : decode cL_test 4 = .ok (.iload_n 1, 1) := by decide +kernel
theorem dL_test_5 : decode cL_test 5 = .ok (.iload_n 2, 1) := by decide +kernel
theorem dL_test_6 : decode cL_test 6 = .ok (.iload_n 3, 1) := by decide +kernel
theorem dL_test_7 : decode cL_test 7 = .ok (.iload 4, 2) := by decide +kernel
theorem dL_test_9 : decode cL_test 9 = .ok (.iload 5, 2) := by decide +kernel
theorem dL_test_11 : decode cL_test 11 = .ok (.iload 6, 2) := by decide +kernel
theorem dL_test_13 : decode cL_test 13 = .ok (.invokevirtual 30, 3) := by decide +kernel
theorem dL_test_16 : decode cL_test 16 = .ok (.i2l, 1) := by decide +kernel
theorem dL_test_17 : decode cL_test 17 = .ok (.lastore, 1) := by decide +kernel
theorem dL_test_18 : decode cL_test 18 = .ok (.goto 15, 3) := by decide +kernel
theorem dL_test_21 : decode cL_test 21 = .ok (.astore 8, 2) := by decide +kernel
theorem dL_test_23 : decode cL_test 23 = .ok (.iconst 1, 1) := by decide +kernel
theorem dL_test_24 : decode cL_test 24 = .ok (.ireturn, 1) := by decide +kernel
theorem dL_test_25 : decode cL_test 25 = .ok (.astore 8, 2) := by decide +kernel
theorem dL_test_27 : decode cL_test 27 = .ok (.iconst 2, 1) := by decide +kernel
theorem dL_test_28 : decode cL_test 28 = .ok (.ireturn, 1) := by decide +kernel
theorem dL_test_29 : decode cL_test 29 = .ok (.astore 8, 2) := by decide +kernel
theorem dL_test_31 : decode cL_test 31 = .ok (.iconst 3, 1) := by decide +kernel
theorem dL_test_32 : decode cL_test 32 = .ok (.ireturn, 1) := by decide +kernel
theorem dL_test_33 : decode cL_test 33 = .ok (.iconst 0, 1) := by decide +kernel
theorem dL_test_34 : decode cL_test 34 = .ok (.ireturn, 1) := by decide +kernel
set_option maxRecDepth 20000 in
theorem ggL_isSpecial_X4_isSpecial : GoodIn wsL_isSpecial wsX4_isSpecial := goodIn_ca (goodIn_r _ [6, 7, 8, 9, 10, 5, 11, 12, 13, 14, 15, 16, 17, 18, 19, 20, 21, 22, 23, 24, 25, 26, 27, 28, 29, 30, 31, 32, 33, 34, 35] (by decide +kernel) (by decide +kernel)) (goodIn_sub (fun _ h => List.mem_cons_of_mem _ (List.mem_append_right _ h)) (by decide +kernel))
set_option maxRecDepth 20000 in
theorem gL_isSpecial_X4_isSpecial : GoodIn wsL_isSpecial (wsV RL 34 RX4 yX4_isSpecial wsX4_isSpecial) := goodIn_app (goodIn_of _ (by decide +kernel)) ggL_isSpecial_X4_isSpecial
theorem dL_isSpecial_0 : decode cL_isSpecial 0 = .ok (.aload_n 3, 1) := by decide +kernel
theorem dL_isSpecial_1 : decode cL_isSpecial 1 = .ok (.iconst 0, 1) := by decide +kernel
theorem dL_isSpecial_2 : decode cL_isSpecial 2 = .ok (.aload_n 0, 1) := by decide +kernel
theorem dL_isSpecial_3 : decode cL_isSpecial 3 = .ok (.iload_n 1, 1) := by decide +kernel
theorem dL_isSpecial_4 : decode cL_isSpecial 4 = .ok (.iload_n 2, 1) := by decide +kernel
theorem dL_isSpecial_5 : decode cL_isSpecial 5 = .ok (.invokevirtual 34, 3) := by decide +kernel
theorem dL_isSpecial_8 : decode cL_isSpecial 8 = .ok (.ifCond .eq 7, 3) := by decide +kernel
theorem dL_isSpecial_11 : decode cL_isSpecial 11 = .ok (.lconst 1, 1) := by decide +kernel
theorem dL_isSpecial_12 : decode cL_isSpecial 12 = .ok (.goto 4, 3) := by decide +kernel
theorem dL_isSpecial_15 : decode cL_isSpecial 15 = .ok (.lconst 0, 1) := by decide +kernel
theorem dL_isSpecial_16 : decode cL_isSpecial 16 = .ok (.lastore, 1) := by decide +kernel
theorem dL_isSpecial_17 : decode cL_isSpecial 17 = .ok (.goto 7, 3) := by decide +kernel
theorem dL_isSpecial_20 : decode cL_isSpecial 20 = .ok (.astore 4, 2) := by decide +kernel
theorem dL_isSpecial_22 : decode cL_isSpecial 22 = .ok (.iconst 1, 1) := by decide +kernel
theorem dL_isSpecial_23 : decode cL_isSpecial 23 = .ok (.ireturn, 1) := by decide +kernel
theorem dL_isSpecial_24 : decode cL_isSpecial 24 = .ok (.iconst 0, 1) := by decide +kernel
theorem dL_isSpecial_25 : decode cL_isSpecial 25 = .ok (.ireturn, 1) := by decide +kernel
set_option maxRecDepth 20000 in
theorem ggL_letter_X4_letter : GoodIn wsL_letter wsX4_letter := goodIn_ca (goodIn_ca (goodIn_r _ [7, 8, 9, 10, 11, 12, 6, 13, 14, 15, 16, 17, 18, 19, 20, 21, 22, 23, 24, 25, 26, 27, 28, 29, 30, 31, 32, 33, 34, 35, 36, 37, 38, 39, 40, 41, 42, 43] (by decide +kernel) (by decide +kernel)) (goodIn_sub (fun _ h => List.mem_cons_of_mem _ (List.mem_append_left _ (List.mem_append_right _ h))) (by decide +kernel))) (goodIn_sub (fun _ h => List.mem_cons_of_mem _ (List.mem_append_right _ h)) (by decide +kernel))
set_option maxRecDepth 20000 in
theorem gL_letter_X4_letter : GoodIn wsL_letter (wsV RL 38 RX4 yX4_letter wsX4_letter) := goodIn_app (goodIn_of _ (by decide +kernel)) ggL_letter_X4_letter
theorem dL_letter_0 : decode cL_letter 0 = .ok (.aload_n 2, 1) := by decide +kernel
theorem dL_letter_1 : decode cL_letter 1 = .ok (.iconst 0, 1) := by decide +kernel
theorem dL_letter_2 : decode cL_letter 2 = .ok (.aload_n 0, 1) := by decide +kernel
theorem dL_letter_3 : decode cL_letter 3 = .ok (.iload_n 1, 1) := by decide +kernel
theorem dL_letter_4 : decode cL_letter 4 = .ok (.invokevirtual 38, 3) := by decide +kernel
theorem dL_letter_7 : decode cL_letter 7 = .ok (.i2l, 1) := by decide +kernel
theorem dL_letter_8 : decode cL_letter 8 = .ok (.lastore, 1) := by decide +kernel
theorem dL_letter_9 : decode cL_letter 9 = .ok (.goto 9, 3) := by decide +kernel
theorem dL_letter_12 : decode cL_letter 12 = .ok (.astore_n 3, 1) := by decide +kernel
theorem dL_letter_13 : decode cL_letter 13 = .ok (.iconst 1, 1) := by decide +kernel
theorem dL_letter_14 : decode cL_letter 14 = .ok (.ireturn, 1) := by decide +kernel
theorem dL_letter_15 : decode cL_letter 15 = .ok (.astore_n 3, 1) := by decide +kernel
theorem dL_letter_16 : decode cL_letter 16 = .ok (.iconst 2, 1) := by decide +kernel
theorem dL_letter_17 : decode cL_letter 17 = .ok (.ireturn, 1) := by decide +kernel
theorem dL_letter_18 : decode cL_letter 18 = .ok (.iconst 0, 1) := by decide +kernel
theorem dL_letter_19 : decode cL_letter 19 = .ok (.ireturn, 1) := by decide +kernel
set_option maxRecDepth 20000 in
theorem ggL_put_X4_put : GoodIn wsL_put wsX4_put := goodIn_ca (goodIn_ca (goodIn_r _ [7, 8, 9, 10, 11, 12, 6, 13, 14, 15, 16, 17, 18, 19, 20, 21, 22, 23, 24, 25, 26, 27, 28, 29, 30, 31, 32, 33, 34, 35, 36, 37, 38, 39, 40, 41, 42, 43, 44, 45] (by decide +kernel) (by decide +kernel)) (goodIn_sub (fun _ h => List.mem_cons_of_mem _ (List.mem_append_left _ (List.mem_append_right _ h))) (by decide +kernel))) (goodIn_sub (fun _ h => List.mem_cons_of_mem _ (List.mem_append_right _ h)) (by decide +kernel))
set_option maxRecDepth 20000 in
theorem gL_put_X4_put : GoodIn wsL_put (wsV RL 41 RX4 yX4_put wsX4_put) := goodIn_app (goodIn_of _ (by decide +kernel)) ggL_put_X4_put
theorem dL_put_0 : decode cL_put 0 = .ok (.aload_n 2, 1) := by decide +kernel
theorem dL_put_1 : decode cL_put 1 = .ok (.iconst 0, 1) := by decide +kernel
theorem dL_put_2 : decode cL_put 2 = .ok (.aload_n 0, 1) := by decide +kernel
theorem dL_put_3 : decode cL_put 3 = .ok (.iload_n 1, 1) := by decide +kernel
theorem dL_put_4 : decode cL_put 4 = .ok (.invokevirtual 41, 3) := by decide +kernel
theorem dL_put_7 : decode cL_put 7 = .ok (.i2l, 1) := by decide +kernel
theorem dL_put_8 : decode cL_put 8 = .ok (.lastore, 1) := by decide +kernel
theorem dL_put_9 : decode cL_put 9 = .ok (.goto 9, 3) := by decide +kernel
theorem dL_put_12 : decode cL_put 12 = .ok (.astore_n 3, 1) := by decide +kernel
theorem dL_put_13 : decode cL_put 13 = .ok (.iconst 1, 1) := by decide +kernel
theorem dL_put_14 : decode cL_put 14 = .ok (.ireturn, 1) := by decide +kernel
theorem dL_put_15 : decode cL_put 15 = .ok (.astore_n 3, 1) := by decide +kernel
theorem dL_put_16 : decode cL_put 16 = .ok (.iconst 2, 1) := by decide +kernel
theorem dL_put_17 : decode cL_put 17 = .ok (.ireturn, 1) := by decide +kernel
theorem dL_put_18 : decode cL_put 18 = .ok (.iconst 0, 1) := by decide +kernel
theorem dL_put_19 : decode cL_put 19 = .ok (.ireturn, 1) := by decide +kernel
set_option maxRecDepth 20000 in
theorem ggL_fits_X4_fits : GoodIn wsL_fits wsX4_fits := goodIn_ca (goodIn_r _ [6, 7, 8, 9, 10, 5, 11, 12, 13, 14, 15, 16, 17, 18, 19, 20, 21, 22, 23, 24, 25, 26, 27, 28, 29, 30, 31, 32, 33, 34, 35, 36, 37, 38, 39, 40, 41, 42, 43, 44, 45, 46, 47, 48, 49, 50, 51, 52, 53] (by decide +kernel) (by decide +kernel)) (goodIn_sub (fun _ h => List.mem_cons_of_mem _ (List.mem_append_right _ h)) (by decide +kernel))
set_option maxRecDepth 20000 in
theorem gL_fits_X4_fits : GoodIn wsL_fits (wsV RL 44 RX4 yX4_fits wsX4_fits) := goodIn_app (goodIn_of _ (by decide +kernel)) ggL_fits_X4_fits
theorem dL_fits_0 : decode cL_fits 0 = .ok (.aload_n 2, 1) := by decide +kernel
theorem dL_fits_1 : decode cL_fits 1 = .ok (.iconst 0, 1) := by decide +kernel
theorem dL_fits_2 : decode cL_fits 2 = .ok (.aload_n 0, 1) := by decide +kernel
theorem dL_fits_3 : decode cL_fits 3 = .ok (.iload_n 1, 1) := by decide +kernel
theorem dL_fits_4 : decode cL_fits 4 = .ok (.invokevirtual 44, 3) := by decide +kernel
theorem dL_fits_7 : decode cL_fits 7 = .ok (.ifCond .eq 7, 3) := by decide +kernel
theorem dL_fits_10 : decode cL_fits 10 = .ok (.lconst 1, 1) := by decide +kernel
theorem dL_fits_11 : decode cL_fits 11 = .ok (.goto 4, 3) := by decide +kernel
theorem dL_fits_14 : decode cL_fits 14 = .ok (.lconst 0, 1) := by decide +kernel
theorem dL_fits_15 : decode cL_fits 15 = .ok (.lastore, 1) := by decide +kernel
theorem dL_fits_16 : decode cL_fits 16 = .ok (.goto 6, 3) := by decide +kernel
theorem dL_fits_19 : decode cL_fits 19 = .ok (.astore_n 3, 1) := by decide +kernel
theorem dL_fits_20 : decode cL_fits 20 = .ok (.iconst 1, 1) := by decide +kernel
theorem dL_fits_21 : decode cL_fits 21 = .ok (.ireturn, 1) := by decide +kernel
theorem dL_fits_22 : decode cL_fits 22 = .ok (.iconst 0, 1) := by decide +kernel
theorem dL_fits_23 : decode cL_fits 23 = .ok (.ireturn, 1) := by decide +kernel
set_option maxRecDepth 20000 in
theorem ggL_fitsByTable_X4_fitsByTable : GoodIn wsL_fitsByTable wsX4_fitsByTable := goodIn_ca (goodIn_r _ [6, 7, 8, 9, 10, 5, 11, 12, 13, 14, 15, 16, 17, 18, 19, 20, 21, 22, 23, 24, 25, 26, 27, 28, 29, 30, 31, 32, 33, 34, 35, 36, 37, 38, 39, 40, 41, 42, 43, 44, 45, 46, 47, 48, 49, 50, 51] (by decide +kernel) (by decide +kernel)) (goodIn_sub (fun _ h => List.mem_cons_of_mem _ (List.mem_append_right _ h)) (by decide +kernel))
set_option maxRecDepth 20000 in
theorem gL_fitsByTable_X4_fitsByTable : GoodIn wsL_fitsByTable (wsV RL 48 RX4 yX4_fitsByTable wsX4_fitsByTable) := goodIn_app (goodIn_of _ (by decide +kernel)) ggL_fitsByTable_X4_fitsByTable
theorem dL_fitsByTable_0 : decode cL_fitsByTable 0 = .ok (.aload_n 2, 1) := by decide +kernel
theorem dL_fitsByTable_1 : decode cL_fitsByTable 1 = .ok (.iconst 0, 1) := by decide +kernel
theorem dL_fitsByTable_2 : decode cL_fitsByTable 2 = .ok (.aload_n 0, 1) := by decide +kernel
theorem dL_fitsByTable_3 : decode cL_fitsByTable 3 = .ok (.iload_n 1, 1) := by decide +kernel
theorem dL_fitsByTable_4 : decode cL_fitsByTable 4 = .ok (.invokevirtual 48, 3) := by decide +kernel
theorem dL_fitsByTable_7 : decode cL_fitsByTable 7 = .ok (.ifCond .eq 7, 3) := by decide +kernel
theorem dL_fitsByTable_10 : decode cL_fitsByTable 10 = .ok (.lconst 1, 1) := by decide +kernel
theorem dL_fitsByTable_11 : decode cL_fitsByTable 11 = .ok (.goto 4, 3) := by decide +kernel
theorem dL_fitsByTable_14 : decode cL_fitsByTable 14 = .ok (.lconst 0, 1) := by decide +kernel
theorem dL_fitsByTable_15 : decode cL_fitsByTable 15 = .ok (.lastore, 1) := by decide +kernel
theorem dL_fitsByTable_16 : decode cL_fitsByTable 16 = .ok (.goto 6, 3) := by decide +kernel
theorem dL_fitsByTable_19 : decode cL_fitsByTable 19 = .ok (.astore_n 3, 1) := by decide +kernel
theorem dL_fitsByTable_20 : decode cL_fitsByTable 20 = .ok (.iconst 1, 1) := by decide +kernel
theorem dL_fitsByTable_21 : decode cL_fitsByTable 21 = .ok (.ireturn, 1) := by decide +kernel
theorem dL_fitsByTable_22 : decode cL_fitsByTable 22 = .ok (.iconst 0, 1) := by decide +kernel
theorem dL_fitsByTable_23 : decode cL_fitsByTable 23 = .ok (.ireturn, 1) := by decide +kernel
set_option maxRecDepth 20000 in
theorem ggL_proves_X4_proves : GoodIn wsL_proves wsX4_proves := goodIn_ca (goodIn_r _ [6, 7, 8, 9, 10, 5, 11, 12, 13, 14, 15, 16, 17, 18, 19, 20, 21, 22, 23, 24, 25, 26, 27, 28, 29, 30, 31, 32, 33, 34, 35, 36, 37, 38, 39, 40, 41, 42, 43, 44, 45, 46, 47, 48, 49, 50, 51, 52, 53, 54, 55, 56] (by decide +kernel) (by decide +kernel)) (goodIn_sub (fun _ h => List.mem_cons_of_mem _ (List.mem_append_right _ h)) (by decide +kernel))
set_option maxRecDepth 20000 in
theorem gL_proves_X4_proves : GoodIn wsL_proves (wsV RL 51 RX4 yX4_proves wsX4_proves) := goodIn_app (goodIn_of _ (by decide +kernel)) ggL_proves_X4_proves
theorem dL_proves_0 : decode cL_proves 0 = .ok (.aload_n 2, 1) := by decide +kernel
theorem dL_proves_1 : decode cL_proves 1 = .ok (.iconst 0, 1) := by decide +kernel
theorem dL_proves_2 : decode cL_proves 2 = .ok (.aload_n 0, 1) := by decide +kernel
theorem dL_proves_3 : decode cL_proves 3 = .ok (.iload_n 1, 1) := by decide +kernel
theorem dL_proves_4 : decode cL_proves 4 = .ok (.invokevirtual 51, 3) := by decide +kernel
theorem dL_proves_7 : decode cL_proves 7 = .ok (.ifCond .eq 7, 3) := by decide +kernel
theorem dL_proves_10 : decode cL_proves 10 = .ok (.lconst 1, 1) := by decide +kernel
theorem dL_proves_11 : decode cL_proves 11 = .ok (.goto 4, 3) := by decide +kernel
theorem dL_proves_14 : decode cL_proves 14 = .ok (.lconst 0, 1) := by decide +kernel
theorem dL_proves_15 : decode cL_proves 15 = .ok (.lastore, 1) := by decide +kernel
theorem dL_proves_16 : decode cL_proves 16 = .ok (.goto 6, 3) := by decide +kernel
theorem dL_proves_19 : decode cL_proves 19 = .ok (.astore_n 3, 1) := by decide +kernel
theorem dL_proves_20 : decode cL_proves 20 = .ok (.iconst 1, 1) := by decide +kernel
theorem dL_proves_21 : decode cL_proves 21 = .ok (.ireturn, 1) := by decide +kernel
theorem dL_proves_22 : decode cL_proves 22 = .ok (.iconst 0, 1) := by decide +kernel
theorem dL_proves_23 : decode cL_proves 23 = .ok (.ireturn, 1) := by decide +kernel
set_option maxRecDepth 20000 in
theorem ggL_program_X4_program : GoodIn wsL_program wsX4_program := goodIn_ca (goodIn_ca (goodIn_r _ [7, 8, 9, 10, 11, 6, 12, 13, 14, 15, 16, 17, 18, 19, 20, 21, 22, 23, 24, 25, 26, 27, 28, 29, 30, 31, 32, 33, 34, 35, 36, 37, 38, 39, 40, 41, 42, 43, 44, 45, 46] (by decide +kernel) (by decide +kernel)) (goodIn_sub (fun _ h => List.mem_cons_of_mem _ (List.mem_append_left _ (List.mem_append_right _ h))) (by decide +kernel))) (goodIn_sub (fun _ h => List.mem_cons_of_mem _ (List.mem_append_right _ h)) (by decide +kernel))
set_option maxRecDepth 20000 in
theorem gL_program_X4_program : GoodIn wsL_program (wsV RL 54 RX4 yX4_program wsX4_program) := goodIn_app (goodIn_of _ (by decide +kernel)) ggL_program_X4_program
theorem dL_program_0 : decode cL_program 0 = .ok (.aload 5, 2) := by decide +kernel
theorem dL_program_2 : decode cL_program 2 = .ok (.iconst 0, 1) := by decide +kernel
theorem dL_program_3 : decode cL_program 3 = .ok (.aload_n 0, 1) := by decide +kernel
theorem dL_program_4 : decode cL_program 4 = .ok (.iload_n 1, 1) := by decide +kernel
theorem dL_program_5 : decode cL_program 5 = .ok (.iload_n 2, 1) := by decide +kernel
theorem dL_program_6 : decode cL_program 6 = .ok (.iload_n 3, 1) := by decide +kernel
theorem dL_program_7 : decode cL_program 7 = .ok (.iload 4, 2) := by decide +kernel
theorem dL_program_9 : decode cL_program 9 = .ok (.invokevirtual 54, 3) := by decide +kernel
theorem dL_program_12 : decode cL_program 12 = .ok (.i2l, 1) := by decide +kernel
theorem dL_program_13 : decode cL_program 13 = .ok (.lastore, 1) := by decide +kernel
theorem dL_program_14 : decode cL_program 14 = .ok (.goto 11, 3) := by decide +kernel
theorem dL_program_17 : decode cL_program 17 = .ok (.astore 6, 2) := by decide +kernel
theorem dL_program_19 : decode cL_program 19 = .ok (.iconst 1, 1) := by decide +kernel
theorem dL_program_20 : decode cL_program 20 = .ok (.ireturn, 1) := by decide +kernel
theorem dL_program_21 : decode cL_program 21 = .ok (.astore 6, 2) := by decide +kernel
theorem dL_program_23 : decode cL_program 23 = .ok (.iconst 2, 1) := by decide +kernel
theorem dL_program_24 : decode cL_program 24 = .ok (.ireturn, 1) := by decide +kernel
theorem dL_program_25 : decode cL_program 25 = .ok (.iconst 0, 1) := by decide +kernel
theorem dL_program_26 : decode cL_program 26 = .ok (.ireturn, 1) := by decide +kernel
set_option maxRecDepth 20000 in
theorem ggL_setDefault_X4_setDefault : GoodIn wsL_setDefault wsX4_setDefault := goodIn_ca (goodIn_ca (goodIn_r _ [7, 8, 9, 10, 11, 6, 12, 13, 14, 15, 16, 17, 18, 19, 20, 21, 22, 23, 24, 25, 26, 27, 28, 29, 30, 31, 32, 33, 34, 35, 36, 37, 38, 39, 40, 41, 42, 43, 44, 45, 46] (by decide +kernel) (by decide +kernel)) (goodIn_sub (fun _ h => List.mem_cons_of_mem _ (List.mem_append_left _ (List.mem_append_right _ h))) (by decide +kernel))) (goodIn_sub (fun _ h => List.mem_cons_of_mem _ (List.mem_append_right _ h)) (by decide +kernel))
set_option maxRecDepth 20000 in
theorem gL_setDefault_X4_setDefault : GoodIn wsL_setDefault (wsV RL 58 RX4 yX4_setDefault wsX4_setDefault) := goodIn_app (goodIn_of _ (by decide +kernel)) ggL_setDefault_X4_setDefault
theorem dL_setDefault_0 : decode cL_setDefault 0 = .ok (.aload 4, 2) := by decide +kernel
theorem dL_setDefault_2 : decode cL_setDefault 2 = .ok (.iconst 0, 1) := by decide +kernel
theorem dL_setDefault_3 : decode cL_setDefault 3 = .ok (.aload_n 0, 1) := by decide +kernel
theorem dL_setDefault_4 : decode cL_setDefault 4 = .ok (.iload_n 1, 1) := by decide +kernel
theorem dL_setDefault_5 : decode cL_setDefault 5 = .ok (.iload_n 2, 1) := by decide +kernel
theorem dL_setDefault_6 : decode cL_setDefault 6 = .ok (.iload_n 3, 1) := by decide +kernel
theorem dL_setDefault_7 : decode cL_setDefault 7 = .ok (.invokevirtual 58, 3) := by decide +kernel
theorem dL_setDefault_10 : decode cL_setDefault 10 = .ok (.i2l, 1) := by decide +kernel
theorem dL_setDefault_11 : decode cL_setDefault 11 = .ok (.lastore, 1) := by decide +kernel
theorem dL_setDefault_12 : decode cL_setDefault 12 = .ok (.goto 11, 3) := by decide +kernel
theorem dL_setDefault_15 : decode cL_setDefault 15 = .ok (.astore 5, 2) := by decide +kernel
theorem dL_setDefault_17 : decode cL_setDefault 17 = .ok (.iconst 1, 1) := by decide +kernel
theorem dL_setDefault_18 : decode cL_setDefault 18 = .ok (.ireturn, 1) := by decide +kernel
theorem dL_setDefault_19 : decode cL_setDefault 19 = .ok (.astore 5, 2) := by decide +kernel
theorem dL_setDefault_21 : decode cL_setDefault 21 = .ok (.iconst 2, 1) := by decide +kernel
theorem dL_setDefault_22 : decode cL_setDefault 22 = .ok (.ireturn, 1) := by decide +kernel
theorem dL_setDefault_23 : decode cL_setDefault 23 = .ok (.iconst 0, 1) := by decide +kernel
theorem dL_setDefault_24 : decode cL_setDefault 24 = .ok (.ireturn, 1) := by decide +kernel
set_option maxRecDepth 20000 in
theorem ggL_programs_X4_programs : GoodIn wsL_programs wsX4_programs := goodIn_ca (goodIn_r _ [6, 7, 8, 9, 10, 11, 5, 12, 13, 14, 15, 16, 17, 18, 19, 20, 21, 22, 23, 24, 25, 26, 27, 28, 29, 30, 31, 32, 33, 34, 35, 36, 37, 38, 39, 40, 41, 42, 43, 44, 45, 46, 47, 48, 49, 50, 51, 52, 53, 54, 55, 56, 57, 58] (by decide +kernel) (by decide +kernel)) (goodIn_sub (fun _ h => List.mem_cons_of_mem _ (List.mem_append_right _ h)) (by decide +kernel))
set_option maxRecDepth 20000 in
theorem gL_programs_X4_programs : GoodIn wsL_programs (wsV RL 62 RX4 yX4_programs wsX4_programs) := goodIn_app (goodIn_of _ (by decide +kernel)) ggL_programs_X4_programs
theorem dL_programs_0 : decode cL_programs 0 = .ok (.aload_n 2, 1) := by decide +kernel
theorem dL_programs_1 : decode cL_programs 1 = .ok (.iconst 0, 1) := by decide +kernel
theorem dL_programs_2 : decode cL_programs 2 = .ok (.aload_n 0, 1) := by decide +kernel
theorem dL_programs_3 : decode cL_programs 3 = .ok (.iload_n 1, 1) := by decide +kernel
theorem dL_programs_4 : decode cL_programs 4 = .ok (.invokevirtual 62, 3) := by decide +kernel
theorem dL_programs_7 : decode cL_programs 7 = .ok (.i2l, 1) := by decide +kernel
theorem dL_programs_8 : decode cL_programs 8 = .ok (.lastore, 1) := by decide +kernel
theorem dL_programs_9 : decode cL_programs 9 = .ok (.goto 6, 3) := by decide +kernel
theorem dL_programs_12 : decode cL_programs 12 = .ok (.astore_n 3, 1) := by decide +kernel
theorem dL_programs_13 : decode cL_programs 13 = .ok (.iconst 1, 1) := by decide +kernel
theorem dL_programs_14 : decode cL_programs 14 = .ok (.ireturn, 1) := by decide +kernel
theorem dL_programs_15 : decode cL_programs 15 = .ok (.iconst 0, 1) := by decide +kernel
theorem dL_programs_16 : decode cL_programs 16 = .ok (.ireturn, 1) := by decide +kernel
set_option maxRecDepth 20000 in
theorem ggL_programAt_X4_programAt : GoodIn wsL_programAt wsX4_programAt := goodIn_ca (goodIn_r _ [6, 7, 8, 9, 10, 11, 12, 13, 5, 14, 15, 16, 17, 18, 19, 20, 21, 22, 23, 24, 25, 26, 27, 28, 29, 30, 31, 32, 33, 34, 35, 36, 37, 38, 39, 40, 41, 42, 43, 44, 45, 46, 47, 48, 49, 50, 51, 52, 53, 54, 55, 56, 57, 58, 59, 60, 61] (by decide +kernel) (by decide +kernel)) (goodIn_sub (fun _ h => List.mem_cons_of_mem _ (List.mem_append_right _ h)) (by decide +kernel))
set_option maxRecDepth 20000 in
theorem gL_programAt_X4_programAt : GoodIn wsL_programAt (wsV RL 65 RX4 yX4_programAt wsX4_programAt) := goodIn_app (goodIn_of _ (by decide +kernel)) ggL_programAt_X4_programAt
theorem dL_programAt_0 : decode cL_programAt 0 = .ok (.aload_n 3, 1) := by decide +kernel
theorem dL_programAt_1 : decode cL_programAt 1 = .ok (.iconst 0, 1) := by decide +kernel
theorem dL_programAt_2 : decode cL_programAt 2 = .ok (.aload_n 0, 1) := by decide +kernel
theorem dL_programAt_3 : decode cL_programAt 3 = .ok (.iload_n 1, 1) := by decide +kernel
theorem dL_programAt_4 : decode cL_programAt 4 = .ok (.iload_n 2, 1) := by decide +kernel
theorem dL_programAt_5 : decode cL_programAt 5 = .ok (.invokevirtual 65, 3) := by decide +kernel
theorem dL_programAt_8 : decode cL_programAt 8 = .ok (.i2l, 1) := by decide +kernel
theorem dL_programAt_9 : decode cL_programAt 9 = .ok (.lastore, 1) := by decide +kernel
theorem dL_programAt_10 : decode cL_programAt 10 = .ok (.goto 7, 3) := by decide +kernel
theorem dL_programAt_13 : decode cL_programAt 13 = .ok (.astore 4, 2) := by decide +kernel
theorem dL_programAt_15 : decode cL_programAt 15 = .ok (.iconst 1, 1) := by decide +kernel
theorem dL_programAt_16 : decode cL_programAt 16 = .ok (.ireturn, 1) := by decide +kernel
theorem dL_programAt_17 : decode cL_programAt 17 = .ok (.iconst 0, 1) := by decide +kernel
theorem dL_programAt_18 : decode cL_programAt 18 = .ok (.ireturn, 1) := by decide +kernel
set_option maxRecDepth 20000 in
theorem ggL_opener_X4_opener : GoodIn wsL_opener wsX4_opener := goodIn_ca (goodIn_r _ [6, 7, 8, 9, 10, 11, 5, 12, 13, 14, 15, 16, 17, 18, 19, 20, 21, 22, 23, 24, 25, 26, 27, 28, 29, 30, 31, 32, 33, 34, 35, 36, 37, 38, 39, 40, 41, 42, 43, 44, 45, 46, 47, 48, 49, 50, 51, 52] (by decide +kernel) (by decide +kernel)) (goodIn_sub (fun _ h => List.mem_cons_of_mem _ (List.mem_append_right _ h)) (by decide +kernel))
set_option maxRecDepth 20000 in
theorem gL_opener_X4_opener : GoodIn wsL_opener (wsV RL 68 RX4 yX4_opener wsX4_opener) := goodIn_app (goodIn_of _ (by decide +kernel)) ggL_opener_X4_opener
theorem dL_opener_0 : decode cL_opener 0 = .ok (.aload_n 2, 1) := by decide +kernel
theorem dL_opener_1 : decode cL_opener 1 = .ok (.iconst 0, 1) := by decide +kernel
theorem dL_opener_2 : decode cL_opener 2 = .ok (.aload_n 0, 1) := by decide +kernel
theorem dL_opener_3 : decode cL_opener 3 = .ok (.iload_n 1, 1) := by decide +kernel
theorem dL_opener_4 : decode cL_opener 4 = .ok (.invokevirtual 68, 3) := by decide +kernel
theorem dL_opener_7 : decode cL_opener 7 = .ok (.i2l, 1) := by decide +kernel
theorem dL_opener_8 : decode cL_opener 8 = .ok (.lastore, 1) := by decide +kernel
theorem dL_opener_9 : decode cL_opener 9 = .ok (.goto 6, 3) := by decide +kernel
theorem dL_opener_12 : decode cL_opener 12 = .ok (.astore_n 3, 1) := by decide +kernel
theorem dL_opener_13 : decode cL_opener 13 = .ok (.iconst 1, 1) := by decide +kernel
theorem dL_opener_14 : decode cL_opener 14 = .ok (.ireturn, 1) := by decide +kernel
theorem dL_opener_15 : decode cL_opener 15 = .ok (.iconst 0, 1) := by decide +kernel
theorem dL_opener_16 : decode cL_opener 16 = .ok (.ireturn, 1) := by decide +kernel
