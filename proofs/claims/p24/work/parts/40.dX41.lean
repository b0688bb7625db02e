set_option maxRecDepth 20000 in
theorem ggX4_init_X1_init : GoodIn wsX4_init wsX1_init := goodIn_r _ [21, 22, 2, 3, 23, 24, 25, 65, 66] (by decide +kernel) (by decide +kernel)
set_option maxRecDepth 20000 in
theorem gX4_init_X1_init_n9 : GoodIn wsX4_init (wsX1_init) := ggX4_init_X1_init
set_option maxRecDepth 20000 in
theorem ggX4_init_X2_init : GoodIn wsX4_init wsX2_init := goodIn_r _ [27, 28, 2, 3, 23, 29, 30, 31, 32, 33, 34, 35, 36, 37, 38, 39, 71, 72, 73, 74, 75, 76, 77, 78, 79, 80] (by decide +kernel) (by decide +kernel)
set_option maxRecDepth 20000 in
theorem gX4_init_X2_init_n18 : GoodIn wsX4_init (wsX2_init) := ggX4_init_X2_init
set_option maxRecDepth 20000 in
theorem ggX4_init_X0_init : GoodIn wsX4_init wsX0_init := goodIn_r _ [41, 42, 2, 3, 23, 43, 44, 45, 46, 47, 48, 49, 50, 51, 52, 53, 34, 54, 81, 82, 83, 84, 85, 86, 87, 88, 89, 90, 91, 92] (by decide +kernel) (by decide +kernel)
set_option maxRecDepth 20000 in
theorem gX4_init_X0_init_n25 : GoodIn wsX4_init (wsX0_init) := ggX4_init_X0_init
set_option maxRecDepth 20000 in
theorem ggX4_init_X3_init : GoodIn wsX4_init wsX3_init := goodIn_r _ [57, 58, 2, 3, 23, 59, 60, 61, 62, 63, 64, 93, 94] (by decide +kernel) (by decide +kernel)
set_option maxRecDepth 20000 in
theorem gX4_init_X3_init : GoodIn wsX4_init (wsX3_init) := ggX4_init_X3_init
theorem dX4_init_0 : decode cX4_init 0 = .ok (.aload_n 0, 1) := by decide +kernel
theorem dX4_init_1 : decode cX4_init 1 = .ok (.invokespecial 1, 3) := by decide +kernel
theorem dX4_init_4 : decode cX4_init 4 = .ok (.aload_n 0, 1) := by decide +kernel
theorem dX4_init_5 : decode cX4_init 5 = .ok (.new 7, 3) := by decide +kernel
theorem dX4_init_8 : decode cX4_init 8 = .ok (.dup, 1) := by decide +kernel
theorem dX4_init_9 : decode cX4_init 9 = .ok (.invokespecial 9, 3) := by decide +kernel
theorem dX4_init_12 : decode cX4_init 12 = .ok (.putfield 10, 3) := by decide +kernel
theorem dX4_init_15 : decode cX4_init 15 = .ok (.aload_n 0, 1) := by decide +kernel
theorem dX4_init_16 : decode cX4_init 16 = .ok (.new 16, 3) := by decide +kernel
theorem dX4_init_19 : decode cX4_init 19 = .ok (.dup, 1) := by decide +kernel
theorem dX4_init_20 : decode cX4_init 20 = .ok (.invokespecial 18, 3) := by decide +kernel
theorem dX4_init_23 : decode cX4_init 23 = .ok (.putfield 19, 3) := by decide +kernel
theorem dX4_init_26 : decode cX4_init 26 = .ok (.aload_n 0, 1) := by decide +kernel
theorem dX4_init_27 : decode cX4_init 27 = .ok (.new 23, 3) := by decide +kernel
theorem dX4_init_30 : decode cX4_init 30 = .ok (.dup, 1) := by decide +kernel
theorem dX4_init_31 : decode cX4_init 31 = .ok (.invokespecial 25, 3) := by decide +kernel
theorem dX4_init_34 : decode cX4_init 34 = .ok (.putfield 26, 3) := by decide +kernel
theorem dX4_init_37 : decode cX4_init 37 = .ok (.aload_n 0, 1) := by decide +kernel
theorem dX4_init_38 : decode cX4_init 38 = .ok (.new 30, 3) := by decide +kernel
theorem dX4_init_41 : decode cX4_init 41 = .ok (.dup, 1) := by decide +kernel
theorem dX4_init_42 : decode cX4_init 42 = .ok (.invokespecial 32, 3) := by decide +kernel
theorem dX4_init_45 : decode cX4_init 45 = .ok (.putfield 33, 3) := by decide +kernel
theorem dX4_init_48 : decode cX4_init 48 = .ok (.return_, 1) := by decide +kernel
set_option maxRecDepth 20000 in
theorem ggX4_kind_X1_has : GoodIn wsX4_kind wsX1_has := goodIn_r _ [10, 11, 25, 26] (by decide +kernel) (by decide +kernel)
set_option maxRecDepth 20000 in
theorem gX4_kind_X1_has : GoodIn wsX4_kind (wsV RX4 37 RX1 yX1_has wsX1_has) := goodIn_app (goodIn_of _ (by decide +kernel)) ggX4_kind_X1_has
set_option maxRecDepth 20000 in
theorem ggX4_kind_X1_isFull : GoodIn wsX4_kind wsX1_isFull := goodIn_r _ [15, 11, 25, 26] (by decide +kernel) (by decide +kernel)
set_option maxRecDepth 20000 in
theorem gX4_kind_X1_isFull : GoodIn wsX4_kind (wsV RX4 48 RX1 yX1_isFull wsX1_isFull) := goodIn_app (goodIn_of _ (by decide +kernel)) ggX4_kind_X1_isFull
set_option maxRecDepth 20000 in
theorem ggX4_kind_X1_add : GoodIn wsX4_kind wsX1_add := goodIn_r _ [19, 20, 11, 25, 26] (by decide +kernel) (by decide +kernel)
set_option maxRecDepth 20000 in
theorem gX4_kind_X1_add : GoodIn wsX4_kind (wsV RX4 57 RX1 yX1_add wsX1_add) := goodIn_app (goodIn_of _ (by decide +kernel)) ggX4_kind_X1_add
theorem dX4_kind_0 : decode cX4_kind 0 = .ok (.iload_n 1, 1) := by decide +kernel
theorem dX4_kind_1 : decode cX4_kind 1 = .ok (.iconst (-1), 1) := by decide +kernel
theorem dX4_kind_2 : decode cX4_kind 2 = .ok (.if_icmp .eq 24, 3) := by decide +kernel
theorem dX4_kind_5 : decode cX4_kind 5 = .ok (.aload_n 0, 1) := by decide +kernel
theorem dX4_kind_6 : decode cX4_kind 6 = .ok (.getfield 10, 3) := by decide +kernel
theorem dX4_kind_9 : decode cX4_kind 9 = .ok (.iload_n 1, 1) := by decide +kernel
theorem dX4_kind_10 : decode cX4_kind 10 = .ok (.invokevirtual 37, 3) := by decide +kernel
theorem dX4_kind_13 : decode cX4_kind 13 = .ok (.ifCond .ne 13, 3) := by decide +kernel
theorem dX4_kind_16 : decode cX4_kind 16 = .ok (.new 41, 3) := by decide +kernel
theorem dX4_kind_19 : decode cX4_kind 19 = .ok (.dup, 1) := by decide +kernel
theorem dX4_kind_20 : decode cX4_kind 20 = .ok (.ldc 43, 2) := by decide +kernel
theorem dX4_kind_22 : decode cX4_kind 22 = .ok (.invokespecial 45, 3) := by decide +kernel
theorem dX4_kind_25 : decode cX4_kind 25 = .ok (.athrow, 1) := by decide +kernel
theorem dX4_kind_26 : decode cX4_kind 26 = .ok (.aload_n 0, 1) := by decide +kernel
theorem dX4_kind_27 : decode cX4_kind 27 = .ok (.getfield 10, 3) := by decide +kernel
theorem dX4_kind_30 : decode cX4_kind 30 = .ok (.invokevirtual 48, 3) := by decide +kernel
theorem dX4_kind_33 : decode cX4_kind 33 = .ok (.ifCond .eq 13, 3) := by decide +kernel
theorem dX4_kind_36 : decode cX4_kind 36 = .ok (.new 52, 3) := by decide +kernel
theorem dX4_kind_39 : decode cX4_kind 39 = .ok (.dup, 1) := by decide +kernel
theorem dX4_kind_40 : decode cX4_kind 40 = .ok (.ldc 54, 2) := by decide +kernel
theorem dX4_kind_42 : decode cX4_kind 42 = .ok (.invokespecial 56, 3) := by decide +kernel
theorem dX4_kind_45 : decode cX4_kind 45 = .ok (.athrow, 1) := by decide +kernel
theorem dX4_kind_46 : decode cX4_kind 46 = .ok (.aload_n 0, 1) := by decide +kernel
theorem dX4_kind_47 : decode cX4_kind 47 = .ok (.getfield 10, 3) := by decide +kernel
theorem dX4_kind_50 : decode cX4_kind 50 = .ok (.iload_n 1, 1) := by decide +kernel
theorem dX4_kind_51 : decode cX4_kind 51 = .ok (.invokevirtual 57, 3) := by decide +kernel
theorem dX4_kind_54 : decode cX4_kind 54 = .ok (.ireturn, 1) := by decide +kernel
set_option maxRecDepth 20000 in
theorem ggX4_pattern_X4_requireKind : GoodIn wsX4_pattern wsX4_requireKind := goodIn_ca (goodIn_r _ [8, 9, 10, 11, 12, 13, 14, 15, 16, 17, 49, 50, 51, 52, 53, 54] (by decide +kernel) (by decide +kernel)) (goodIn_sub (fun _ h => List.mem_cons_of_mem _ (List.mem_append_left _ (List.mem_append_right _ h))) (by decide +kernel))
set_option maxRecDepth 20000 in
theorem gX4_pattern_X4_requireKind : GoodIn wsX4_pattern (wsV RX4 61 RX4 yX4_requireKind wsX4_requireKind) := goodIn_app (goodIn_of _ (by decide +kernel)) ggX4_pattern_X4_requireKind
set_option maxRecDepth 20000 in
theorem ggX4_pattern_X4_requireRange : GoodIn wsX4_pattern wsX4_requireRange := goodIn_ca (goodIn_r _ [20, 21, 22, 7, 23, 24, 25] (by decide +kernel) (by decide +kernel)) (goodIn_sub (fun _ h => List.mem_cons_of_mem _ (List.mem_append_right _ h)) (by decide +kernel))
set_option maxRecDepth 20000 in
theorem gX4_pattern_X4_requireRange : GoodIn wsX4_pattern (va_wsS RX4 65 yX4_requireRange wsX4_requireRange) := goodIn_app (goodIn_of _ (by decide +kernel)) ggX4_pattern_X4_requireRange
set_option maxRecDepth 20000 in
theorem ggX4_pattern_X4_requireArgument : GoodIn wsX4_pattern wsX4_requireArgument := goodIn_ca (goodIn_r _ [23, 24, 25] (by decide +kernel) (by decide +kernel)) (goodIn_sub (fun _ h => List.mem_cons_of_mem _ (List.mem_append_right _ h)) (by decide +kernel))
set_option maxRecDepth 20000 in
theorem gX4_pattern_X4_requireArgument : GoodIn wsX4_pattern (va_wsS RX4 69 yX4_requireArgument wsX4_requireArgument) := goodIn_app (goodIn_of _ (by decide +kernel)) ggX4_pattern_X4_requireArgument
set_option maxRecDepth 20000 in
theorem ggX4_pattern_X4_tokenAt : GoodIn wsX4_pattern wsX4_tokenAt := goodIn_r _ [28] (by decide +kernel) (by decide +kernel)
set_option maxRecDepth 20000 in
theorem gX4_pattern_X4_tokenAt : GoodIn wsX4_pattern (va_wsS RX4 73 yX4_tokenAt wsX4_tokenAt) := goodIn_app (goodIn_of _ (by decide +kernel)) ggX4_pattern_X4_tokenAt
set_option maxRecDepth 20000 in
theorem ggX4_pattern_X2_isFullOfPatterns : GoodIn wsX4_pattern wsX2_isFullOfPatterns := goodIn_r _ [33, 34, 55, 56, 57, 58, 59, 60, 61, 62, 63, 64] (by decide +kernel) (by decide +kernel)
set_option maxRecDepth 20000 in
theorem gX4_pattern_X2_isFullOfPatterns : GoodIn wsX4_pattern (wsV RX4 77 RX2 yX2_isFullOfPatterns wsX2_isFullOfPatterns) := goodIn_app (goodIn_of _ (by decide +kernel)) ggX4_pattern_X2_isFullOfPatterns
set_option maxRecDepth 20000 in
theorem ggX4_pattern_X2_writeToken : GoodIn wsX4_pattern wsX2_writeToken := goodIn_r _ [38, 39, 34, 55, 56, 57, 58, 59, 60, 61, 62, 63, 64] (by decide +kernel) (by decide +kernel)
set_option maxRecDepth 20000 in
theorem gX4_pattern_X2_writeToken : GoodIn wsX4_pattern (wsV RX4 82 RX2 yX2_writeToken wsX2_writeToken) := goodIn_app (goodIn_of _ (by decide +kernel)) ggX4_pattern_X2_writeToken
set_option maxRecDepth 20000 in
theorem ggX4_pattern_X2_addPattern : GoodIn wsX4_pattern wsX2_addPattern := goodIn_r _ [43, 34, 44, 45, 46, 47, 48, 55, 56, 57, 58, 59, 60, 61, 62, 63, 64] (by decide +kernel) (by decide +kernel)
set_option maxRecDepth 20000 in
theorem gX4_pattern_X2_addPattern : GoodIn wsX4_pattern (wsV RX4 86 RX2 yX2_addPattern wsX2_addPattern) := goodIn_app (goodIn_of _ (by decide +kernel)) ggX4_pattern_X2_addPattern
theorem dX4_pattern_0 : decode cX4_pattern 0 = .ok (.aload_n 0, 1) := by decide +kernel
theorem dX4_pattern_1 : decode cX4_pattern 1 = .ok (.iload_n 1, 1) := by decide +kernel
theorem dX4_pattern_2 : decode cX4_pattern 2 = .ok (.invokevirtual 61, 3) := by decide +kernel
theorem dX4_pattern_5 : decode cX4_pattern 5 = .ok (.iload_n 2, 1) := by decide +kernel
theorem dX4_pattern_6 : decode cX4_pattern 6 = .ok (.iconst 0, 1) := by decide +kernel
theorem dX4_pattern_7 : decode cX4_pattern 7 = .ok (.bipush 100, 2) := by decide +kernel
theorem dX4_pattern_9 : decode cX4_pattern 9 = .ok (.invokestatic 65, 3) := by decide +kernel
theorem dX4_pattern_12 : decode cX4_pattern 12 = .ok (.iload_n 3, 1) := by decide +kernel
theorem dX4_pattern_13 : decode cX4_pattern 13 = .ok (.iconst 0, 1) := by decide +kernel
theorem dX4_pattern_14 : decode cX4_pattern 14 = .ok (.bipush 8, 2) := by decide +kernel
theorem dX4_pattern_16 : decode cX4_pattern 16 = .ok (.invokestatic 65, 3) := by decide +kernel
theorem dX4_pattern_19 : decode cX4_pattern 19 = .ok (.iload 4, 2) := by decide +kernel
theorem dX4_pattern_21 : decode cX4_pattern 21 = .ok (.ifCond .lt 12, 3) := by decide +kernel
theorem dX4_pattern_24 : decode cX4_pattern 24 = .ok (.iload 5, 2) := by decide +kernel
theorem dX4_pattern_26 : decode cX4_pattern 26 = .ok (.ifCond .lt 7, 3) := by decide +kernel
theorem dX4_pattern_29 : decode cX4_pattern 29 = .ok (.iconst 1, 1) := by decide +kernel
theorem dX4_pattern_30 : decode cX4_pattern 30 = .ok (.goto 4, 3) := by decide +kernel
theorem dX4_pattern_33 : decode cX4_pattern 33 = .ok (.iconst 0, 1) := by decide +kernel
theorem dX4_pattern_34 : decode cX4_pattern 34 = .ok (.invokestatic 69, 3) := by decide +kernel
theorem dX4_pattern_37 : decode cX4_pattern 37 = .ok (.iconst 0, 1) := by decide +kernel
theorem dX4_pattern_38 : decode cX4_pattern 38 = .ok (.istore 6, 2) := by decide +kernel
theorem dX4_pattern_40 : decode cX4_pattern 40 = .ok (.iload 6, 2) := by decide +kernel
theorem dX4_pattern_42 : decode cX4_pattern 42 = .ok (.iload_n 3, 1) := by decide +kernel
theorem dX4_pattern_43 : decode cX4_pattern 43 = .ok (.if_icmp .ge 24, 3) := by decide +kernel
theorem dX4_pattern_46 : decode cX4_pattern 46 = .ok (.iload 6, 2) := by decide +kernel
theorem dX4_pattern_48 : decode cX4_pattern 48 = .ok (.iload 4, 2) := by decide +kernel
theorem dX4_pattern_50 : decode cX4_pattern 50 = .ok (.iload 5, 2) := by decide +kernel
theorem dX4_pattern_52 : decode cX4_pattern 52 = .ok (.invokestatic 73, 3) := by decide +kernel
theorem dX4_pattern_55 : decode cX4_pattern 55 = .ok (.iconst 0, 1) := by decide +kernel
theorem dX4_pattern_56 : decode cX4_pattern 56 = .ok (.bipush 11, 2) := by decide +kernel
theorem dX4_pattern_58 : decode cX4_pattern 58 = .ok (.invokestatic 65, 3) := by decide +kernel
theorem dX4_pattern_61 : decode cX4_pattern 61 = .ok (.iinc 6 1, 3) := by decide +kernel
theorem dX4_pattern_64 : decode cX4_pattern 64 = .ok (.goto (-24), 3) := by decide +kernel
theorem dX4_pattern_67 : decode cX4_pattern 67 = .ok (.aload_n 0, 1) := by decide +kernel
theorem dX4_pattern_68 : decode cX4_pattern 68 = .ok (.getfield 19, 3) := by decide +kernel
theorem dX4_pattern_71 : decode cX4_pattern 71 = .ok (.invokevirtual 77, 3) := by decide +kernel
theorem dX4_pattern_74 : decode cX4_pattern 74 = .ok (.ifCond .eq 13, 3) := by decide +kernel
theorem dX4_pattern_77 : decode cX4_pattern 77 = .ok (.new 52, 3) := by decide +kernel
theorem dX4_pattern_80 : decode cX4_pattern 80 = .ok (.dup, 1) := by decide +kernel
theorem dX4_pattern_81 : decode cX4_pattern 81 = .ok (.ldc 80, 2) := by decide +kernel
theorem dX4_pattern_83 : decode cX4_pattern 83 = .ok (.invokespecial 56, 3) := by decide +kernel
theorem dX4_pattern_86 : decode cX4_pattern 86 = .ok (.athrow, 1) := by decide +kernel
theorem dX4_pattern_87 : decode cX4_pattern 87 = .ok (.iconst 0, 1) := by decide +kernel
theorem dX4_pattern_88 : decode cX4_pattern 88 = .ok (.istore 6, 2) := by decide +kernel
theorem dX4_pattern_90 : decode cX4_pattern 90 = .ok (.iload 6, 2) := by decide +kernel
theorem dX4_pattern_92 : decode cX4_pattern 92 = .ok (.iload_n 3, 1) := by decide +kernel
theorem dX4_pattern_93 : decode cX4_pattern 93 = .ok (.if_icmp .ge 27, 3) := by decide +kernel
theorem dX4_pattern_96 : decode cX4_pattern 96 = .ok (.aload_n 0, 1) := by decide +kernel
theorem dX4_pattern_97 : decode cX4_pattern 97 = .ok (.getfield 19, 3) := by decide +kernel
theorem dX4_pattern_100 : decode cX4_pattern 100 = .ok (.iload 6, 2) := by decide +kernel
theorem dX4_pattern_102 : decode cX4_pattern 102 = .ok (.iload 6, 2) := by decide +kernel
theorem dX4_pattern_104 : decode cX4_pattern 104 = .ok (.iload 4, 2) := by decide +kernel
theorem dX4_pattern_106 : decode cX4_pattern 106 = .ok (.iload 5, 2) := by decide +kernel
theorem dX4_pattern_108 : decode cX4_pattern 108 = .ok (.invokestatic 73, 3) := by decide +kernel
theorem dX4_pattern_111 : decode cX4_pattern 111 = .ok (.invokevirtual 82, 3) := by decide +kernel
theorem dX4_pattern_114 : decode cX4_pattern 114 = .ok (.iinc 6 1, 3) := by decide +kernel
theorem dX4_pattern_117 : decode cX4_pattern 117 = .ok (.goto (-27), 3) := by decide +kernel
theorem dX4_pattern_120 : decode cX4_pattern 120 = .ok (.aload_n 0, 1) := by decide +kernel
theorem dX4_pattern_121 : decode cX4_pattern 121 = .ok (.getfield 19, 3) := by decide +kernel
theorem dX4_pattern_124 : decode cX4_pattern 124 = .ok (.iload_n 1, 1) := by decide +kernel
theorem dX4_pattern_125 : decode cX4_pattern 125 = .ok (.iload_n 2, 1) := by decide +kernel
theorem dX4_pattern_126 : decode cX4_pattern 126 = .ok (.iload_n 3, 1) := by decide +kernel
theorem dX4_pattern_127 : decode cX4_pattern 127 = .ok (.invokevirtual 86, 3) := by decide +kernel
theorem dX4_pattern_130 : decode cX4_pattern 130 = .ok (.ireturn, 1) := by decide +kernel
set_option maxRecDepth 20000 in
theorem ggX4_drop_X4_requirePattern : GoodIn wsX4_drop wsX4_requirePattern := goodIn_ca (goodIn_r _ [6, 7, 8, 1, 9, 10, 11, 12, 13, 14, 15, 21, 22, 23, 24, 25, 26, 27, 28, 29, 30, 31, 32, 33, 34] (by decide +kernel) (by decide +kernel)) (goodIn_sub (fun _ h => List.mem_cons_of_mem _ (List.mem_append_right _ h)) (by decide +kernel))
set_option maxRecDepth 20000 in
theorem gX4_drop_X4_requirePattern : GoodIn wsX4_drop (wsV RX4 89 RX4 yX4_requirePattern wsX4_requirePattern) := goodIn_app (goodIn_of _ (by decide +kernel)) ggX4_drop_X4_requirePattern
set_option maxRecDepth 20000 in
theorem ggX4_drop_X2_dropPattern : GoodIn wsX4_drop wsX2_dropPattern := goodIn_r _ [19, 15, 20, 25, 26, 27, 28, 29, 30, 31, 32, 33, 34] (by decide +kernel) (by decide +kernel)
set_option maxRecDepth 20000 in
theorem gX4_drop_X2_dropPattern : GoodIn wsX4_drop (wsV RX4 92 RX2 yX2_dropPattern wsX2_dropPattern) := goodIn_app (goodIn_of _ (by decide +kernel)) ggX4_drop_X2_dropPattern
theorem dX4_drop_0 : decode cX4_drop 0 = .ok (.aload_n 0, 1) := by decide +kernel
theorem dX4_drop_1 : decode cX4_drop 1 = .ok (.iload_n 1, 1) := by decide +kernel
theorem dX4_drop_2 : decode cX4_drop 2 = .ok (.invokevirtual 89, 3) := by decide +kernel
theorem dX4_drop_5 : decode cX4_drop 5 = .ok (.aload_n 0, 1) := by decide +kernel
theorem dX4_drop_6 : decode cX4_drop 6 = .ok (.getfield 19, 3) := by decide +kernel
theorem dX4_drop_9 : decode cX4_drop 9 = .ok (.iload_n 1, 1) := by decide +kernel
theorem dX4_drop_10 : decode cX4_drop 10 = .ok (.invokevirtual 92, 3) := by decide +kernel
theorem dX4_drop_13 : decode cX4_drop 13 = .ok (.ireturn, 1) := by decide +kernel
set_option maxRecDepth 20000 in
theorem ggX4_rule_X4_requireKind : GoodIn wsX4_rule wsX4_requireKind := goodIn_ca (goodIn_r _ [8, 9, 10, 11, 12, 13, 14, 15, 16, 17, 38, 39, 40, 41, 42, 43] (by decide +kernel) (by decide +kernel)) (goodIn_sub (fun _ h => List.mem_cons_of_mem _ (List.mem_append_left _ (List.mem_append_right _ h))) (by decide +kernel))
set_option maxRecDepth 20000 in
theorem gX4_rule_X4_requireKind : GoodIn wsX4_rule (wsV RX4 61 RX4 yX4_requireKind wsX4_requireKind) := goodIn_app (goodIn_of _ (by decide +kernel)) ggX4_rule_X4_requireKind
set_option maxRecDepth 20000 in
theorem ggX4_rule_X4_requireRange : GoodIn wsX4_rule wsX4_requireRange := goodIn_ca (goodIn_r _ [20, 21, 22, 7, 23, 24, 25] (by decide +kernel) (by decide +kernel)) (goodIn_sub (fun _ h => List.mem_cons_of_mem _ (List.mem_append_right _ h)) (by decide +kernel))
set_option maxRecDepth 20000 in
theorem gX4_rule_X4_requireRange : GoodIn wsX4_rule (va_wsS RX4 65 yX4_requireRange wsX4_requireRange) := goodIn_app (goodIn_of _ (by decide +kernel)) ggX4_rule_X4_requireRange
set_option maxRecDepth 20000 in
theorem ggX4_rule_X0_isFullOfRules : GoodIn wsX4_rule wsX0_isFullOfRules := goodIn_r _ [30, 31, 44, 45, 46, 47, 48, 49, 50, 51, 52, 53, 54, 55] (by decide +kernel) (by decide +kernel)
set_option maxRecDepth 20000 in
theorem gX4_rule_X0_isFullOfRules : GoodIn wsX4_rule (wsV RX4 95 RX0 yX0_isFullOfRules wsX0_isFullOfRules) := goodIn_app (goodIn_of _ (by decide +kernel)) ggX4_rule_X0_isFullOfRules
set_option maxRecDepth 20000 in
theorem ggX4_rule_X0_addRule : GoodIn wsX4_rule wsX0_addRule := goodIn_r _ [35, 36, 31, 37, 44, 45, 46, 47, 48, 49, 50, 51, 52, 53, 54, 55] (by decide +kernel) (by decide +kernel)
set_option maxRecDepth 20000 in
theorem gX4_rule_X0_addRule : GoodIn wsX4_rule (wsV RX4 100 RX0 yX0_addRule wsX0_addRule) := goodIn_app (goodIn_of _ (by decide +kernel)) ggX4_rule_X0_addRule
theorem dX4_rule_0 : decode cX4_rule 0 = .ok (.aload_n 0, 1) := by decide +kernel
theorem dX4_rule_1 : decode cX4_rule 1 = .ok (.iload_n 1, 1) := by decide +kernel
theorem dX4_rule_2 : decode cX4_rule 2 = .ok (.invokevirtual 61, 3) := by decide +kernel
theorem dX4_rule_5 : decode cX4_rule 5 = .ok (.iload_n 2, 1) := by decide +kernel
theorem dX4_rule_6 : decode cX4_rule 6 = .ok (.iconst 0, 1) := by decide +kernel
theorem dX4_rule_7 : decode cX4_rule 7 = .ok (.bipush 100, 2) := by decide +kernel
theorem dX4_rule_9 : decode cX4_rule 9 = .ok (.invokestatic 65, 3) := by decide +kernel
theorem dX4_rule_12 : decode cX4_rule 12 = .ok (.aload_n 0, 1) := by decide +kernel
theorem dX4_rule_13 : decode cX4_rule 13 = .ok (.getfield 26, 3) := by decide +kernel
theorem dX4_rule_16 : decode cX4_rule 16 = .ok (.invokevirtual 95, 3) := by decide +kernel
theorem dX4_rule_19 : decode cX4_rule 19 = .ok (.ifCond .eq 13, 3) := by decide +kernel
theorem dX4_rule_22 : decode cX4_rule 22 = .ok (.new 52, 3) := by decide +kernel
theorem dX4_rule_25 : decode cX4_rule 25 = .ok (.dup, 1) := by decide +kernel
theorem dX4_rule_26 : decode cX4_rule 26 = .ok (.ldc 98, 2) := by decide +kernel
theorem dX4_rule_28 : decode cX4_rule 28 = .ok (.invokespecial 56, 3) := by decide +kernel
theorem dX4_rule_31 : decode cX4_rule 31 = .ok (.athrow, 1) := by decide +kernel
theorem dX4_rule_32 : decode cX4_rule 32 = .ok (.aload_n 0, 1) := by decide +kernel
theorem dX4_rule_33 : decode cX4_rule 33 = .ok (.getfield 26, 3) := by decide +kernel
theorem dX4_rule_36 : decode cX4_rule 36 = .ok (.iload_n 1, 1) := by decide +kernel
theorem dX4_rule_37 : decode cX4_rule 37 = .ok (.iload_n 2, 1) := by decide +kernel
theorem dX4_rule_38 : decode cX4_rule 38 = .ok (.invokevirtual 100, 3) := by decide +kernel
theorem dX4_rule_41 : decode cX4_rule 41 = .ok (.ireturn, 1) := by decide +kernel
set_option maxRecDepth 20000 in
theorem ggX4_test_X4_requireRule : GoodIn wsX4_test wsX4_requireRule := goodIn_ca (goodIn_r _ [8, 9, 10, 3, 11, 12, 13, 14, 15, 16, 43, 44, 45, 46, 47, 48, 49, 50, 51, 52, 53, 54, 55, 56, 57, 58] (by decide +kernel) (by decide +kernel)) (goodIn_sub (fun _ h => List.mem_cons_of_mem _ (List.mem_append_left _ (List.mem_append_right _ h))) (by decide +kernel))
set_option maxRecDepth 20000 in
theorem gX4_test_X4_requireRule : GoodIn wsX4_test (wsV RX4 104 RX4 yX4_requireRule wsX4_requireRule) := goodIn_app (goodIn_of _ (by decide +kernel)) ggX4_test_X4_requireRule
set_option maxRecDepth 20000 in
theorem ggX4_test_X0_greatestNextLevel : GoodIn wsX4_test wsX0_greatestNextLevel := goodIn_r _ [20, 21, 22, 47, 48, 49, 50, 51, 52, 53, 54, 55, 56, 57, 58] (by decide +kernel) (by decide +kernel)
set_option maxRecDepth 20000 in
theorem gX4_test_X0_greatestNextLevel : GoodIn wsX4_test (wsV RX4 107 RX0 yX0_greatestNextLevel wsX0_greatestNextLevel) := goodIn_app (goodIn_of _ (by decide +kernel)) ggX4_test_X0_greatestNextLevel
set_option maxRecDepth 20000 in
theorem ggX4_test_X4_requireRange : GoodIn wsX4_test wsX4_requireRange := goodIn_ca (goodIn_r _ [25, 26, 27, 7, 28, 29, 30] (by decide +kernel) (by decide +kernel)) (goodIn_sub (fun _ h => List.mem_cons_of_mem _ (List.mem_append_right _ h)) (by decide +kernel))
set_option maxRecDepth 20000 in
theorem gX4_test_X4_requireRange : GoodIn wsX4_test (va_wsS RX4 65 yX4_requireRange wsX4_requireRange) := goodIn_app (goodIn_of _ (by decide +kernel)) ggX4_test_X4_requireRange
set_option maxRecDepth 20000 in
theorem ggX4_test_X0_isFullOfTests : GoodIn wsX4_test wsX0_isFullOfTests := goodIn_r _ [34, 21, 47, 48, 49, 50, 51, 52, 53, 54, 55, 56, 57, 58] (by decide +kernel) (by decide +kernel)
set_option maxRecDepth 20000 in
theorem gX4_test_X0_isFullOfTests : GoodIn wsX4_test (wsV RX4 110 RX0 yX0_isFullOfTests wsX0_isFullOfTests) := goodIn_app (goodIn_of _ (by decide +kernel)) ggX4_test_X0_isFullOfTests
set_option maxRecDepth 20000 in
theorem ggX4_test_X0_addTest : GoodIn wsX4_test wsX0_addTest := goodIn_r _ [38, 21, 22, 39, 40, 41, 42, 47, 48, 49, 50, 51, 52, 53, 54, 55, 56, 57, 58] (by decide +kernel) (by decide +kernel)
set_option maxRecDepth 20000 in
theorem gX4_test_X0_addTest : GoodIn wsX4_test (wsV RX4 115 RX0 yX0_addTest wsX0_addTest) := goodIn_app (goodIn_of _ (by decide +kernel)) ggX4_test_X0_addTest
theorem dX4_test_0 : decode cX4_test 0 = .ok (.aload_n 0, 1) := by decide +kernel
theorem dX4_test_1 : decode cX4_test 1 = .ok (.iload_n 1, 1) := by decide +kernel
theorem dX4_test_2 : decode cX4_test 2 = .ok (.invokevirtual 104, 3) := by decide +kernel
theorem dX4_test_5 : decode cX4_test 5 = .ok (.iload_n 2, 1) := by decide +kernel
theorem dX4_test_6 : decode cX4_test 6 = .ok (.iconst 0, 1) := by decide +kernel
theorem dX4_test_7 : decode cX4_test 7 = .ok (.aload_n 0, 1) := by decide +kernel
theorem dX4_test_8 : decode cX4_test 8 = .ok (.getfield 26, 3) := by decide +kernel
theorem dX4_test_11 : decode cX4_test 11 = .ok (.iload_n 1, 1) := by decide +kernel
theorem dX4_test_12 : decode cX4_test 12 = .ok (.invokevirtual 107, 3) := by decide +kernel
theorem dX4_test_15 : decode cX4_test 15 = .ok (.invokestatic 65, 3) := by decide +kernel
theorem dX4_test_18 : decode cX4_test 18 = .ok (.iload_n 3, 1) := by decide +kernel
theorem dX4_test_19 : decode cX4_test 19 = .ok (.iconst 0, 1) := by decide +kernel
theorem dX4_test_20 : decode cX4_test 20 = .ok (.bipush 15, 2) := by decide +kernel
theorem dX4_test_22 : decode cX4_test 22 = .ok (.invokestatic 65, 3) := by decide +kernel
theorem dX4_test_25 : decode cX4_test 25 = .ok (.iload 4, 2) := by decide +kernel
theorem dX4_test_27 : decode cX4_test 27 = .ok (.iload_n 3, 1) := by decide +kernel
theorem dX4_test_28 : decode cX4_test 28 = .ok (.bipush 15, 2) := by decide +kernel
theorem dX4_test_30 : decode cX4_test 30 = .ok (.invokestatic 65, 3) := by decide +kernel
theorem dX4_test_33 : decode cX4_test 33 = .ok (.iload 5, 2) := by decide +kernel
theorem dX4_test_35 : decode cX4_test 35 = .ok (.iconst 0, 1) := by decide +kernel
theorem dX4_test_36 : decode cX4_test 36 = .ok (.sipush 255, 3) := by decide +kernel
theorem dX4_test_39 : decode cX4_test 39 = .ok (.invokestatic 65, 3) := by decide +kernel
theorem dX4_test_42 : decode cX4_test 42 = .ok (.iload 6, 2) := by decide +kernel
theorem dX4_test_44 : decode cX4_test 44 = .ok (.iconst 0, 1) := by decide +kernel
theorem dX4_test_45 : decode cX4_test 45 = .ok (.sipush 255, 3) := by decide +kernel
theorem dX4_test_48 : decode cX4_test 48 = .ok (.invokestatic 65, 3) := by decide +kernel
theorem dX4_test_51 : decode cX4_test 51 = .ok (.aload_n 0, 1) := by decide +kernel
theorem dX4_test_52 : decode cX4_test 52 = .ok (.getfield 26, 3) := by decide +kernel
theorem dX4_test_55 : decode cX4_test 55 = .ok (.iload_n 1, 1) := by decide +kernel
theorem dX4_test_56 : decode cX4_test 56 = .ok (.invokevirtual 110, 3) := by decide +kernel
theorem dX4_test_59 : decode cX4_test 59 = .ok (.ifCond .eq 13, 3) := by decide +kernel
theorem dX4_test_62 : decode cX4_test 62 = .ok (.new 52, 3) := by decide +kernel
theorem dX4_test_65 : decode cX4_test 65 = .ok (.dup, 1) := by decide +kernel
theorem dX4_test_66 : decode cX4_test 66 = .ok (.ldc 113, 2) := by decide +kernel
theorem dX4_test_68 : decode cX4_test 68 = .ok (.invokespecial 56, 3) := by decide +kernel
theorem dX4_test_71 : decode cX4_test 71 = .ok (.athrow, 1) := by decide +kernel
theorem dX4_test_72 : decode cX4_test 72 = .ok (.aload_n 0, 1) := by decide +kernel
theorem dX4_test_73 : decode cX4_test 73 = .ok (.getfield 26, 3) := by decide +kernel
theorem dX4_test_76 : decode cX4_test 76 = .ok (.iload_n 1, 1) := by decide +kernel
theorem dX4_test_77 : decode cX4_test 77 = .ok (.iload_n 2, 1) := by decide +kernel
theorem dX4_test_78 : decode cX4_test 78 = .ok (.iload_n 3, 1) := by decide +kernel
theorem dX4_test_79 : decode cX4_test 79 = .ok (.iload 4, 2) := by decide +kernel
theorem dX4_test_81 : decode cX4_test 81 = .ok (.iload 5, 2) := by decide +kernel
theorem dX4_test_83 : decode cX4_test 83 = .ok (.iload 6, 2) := by decide +kernel
theorem dX4_test_85 : decode cX4_test 85 = .ok (.invokevirtual 115, 3) := by decide +kernel
theorem dX4_test_88 : decode cX4_test 88 = .ok (.ireturn, 1) := by decide +kernel
set_option maxRecDepth 20000 in
theorem ggX4_kinds_X1_size : GoodIn wsX4_kinds wsX1_size := goodIn_r _ [6, 7, 12, 13] (by decide +kernel) (by decide +kernel)
set_option maxRecDepth 20000 in
theorem gX4_kinds_X1_size : GoodIn wsX4_kinds (wsV RX4 119 RX1 yX1_size wsX1_size) := goodIn_app (goodIn_of _ (by decide +kernel)) ggX4_kinds_X1_size
theorem dX4_kinds_0 : decode cX4_kinds 0 = .ok (.aload_n 0, 1) := by decide +kernel
theorem dX4_kinds_1 : decode cX4_kinds 1 = .ok (.getfield 10, 3) := by decide +kernel
theorem dX4_kinds_4 : decode cX4_kinds 4 = .ok (.invokevirtual 119, 3) := by decide +kernel
theorem dX4_kinds_7 : decode cX4_kinds 7 = .ok (.ireturn, 1) := by decide +kernel
set_option maxRecDepth 20000 in
theorem ggX4_letter_X4_requireRange : GoodIn wsX4_letter wsX4_requireRange := goodIn_ca (goodIn_r _ [7, 8, 9, 6, 10, 11, 12] (by decide +kernel) (by decide +kernel)) (goodIn_sub (fun _ h => List.mem_cons_of_mem _ (List.mem_append_right _ h)) (by decide +kernel))
set_option maxRecDepth 20000 in
theorem gX4_letter_X4_requireRange : GoodIn wsX4_letter (va_wsS RX4 65 yX4_requireRange wsX4_requireRange) := goodIn_app (goodIn_of _ (by decide +kernel)) ggX4_letter_X4_requireRange
set_option maxRecDepth 20000 in
theorem ggX4_letter_X2_isFullOfLetters : GoodIn wsX4_letter wsX2_isFullOfLetters := goodIn_r _ [17, 18, 28, 29, 30, 31, 32, 33, 34, 35, 36, 37] (by decide +kernel) (by decide +kernel)
set_option maxRecDepth 20000 in
theorem gX4_letter_X2_isFullOfLetters : GoodIn wsX4_letter (wsV RX4 127 RX2 yX2_isFullOfLetters wsX2_isFullOfLetters) := goodIn_app (goodIn_of _ (by decide +kernel)) ggX4_letter_X2_isFullOfLetters
set_option maxRecDepth 20000 in
theorem ggX4_letter_X2_addLetter : GoodIn wsX4_letter wsX2_addLetter := goodIn_r _ [22, 23, 18, 28, 29, 30, 31, 32, 33, 34, 35, 36, 37] (by decide +kernel) (by decide +kernel)
set_option maxRecDepth 20000 in
theorem gX4_letter_X2_addLetter : GoodIn wsX4_letter (wsV RX4 132 RX2 yX2_addLetter wsX2_addLetter) := goodIn_app (goodIn_of _ (by decide +kernel)) ggX4_letter_X2_addLetter
theorem dX4_letter_0 : decode cX4_letter 0 = .ok (.iload_n 1, 1) := by decide +kernel
theorem dX4_letter_1 : decode cX4_letter 1 = .ok (.iconst 0, 1) := by decide +kernel
theorem dX4_letter_2 : decode cX4_letter 2 = .ok (.bipush 9, 2) := by decide +kernel
theorem dX4_letter_4 : decode cX4_letter 4 = .ok (.invokestatic 65, 3) := by decide +kernel
theorem dX4_letter_7 : decode cX4_letter 7 = .ok (.aload_n 0, 1) := by decide +kernel
theorem dX4_letter_8 : decode cX4_letter 8 = .ok (.getfield 19, 3) := by decide +kernel
theorem dX4_letter_11 : decode cX4_letter 11 = .ok (.invokevirtual 127, 3) := by decide +kernel
theorem dX4_letter_14 : decode cX4_letter 14 = .ok (.ifCond .eq 13, 3) := by decide +kernel
theorem dX4_letter_17 : decode cX4_letter 17 = .ok (.new 52, 3) := by decide +kernel
theorem dX4_letter_20 : decode cX4_letter 20 = .ok (.dup, 1) := by decide +kernel
theorem dX4_letter_21 : decode cX4_letter 21 = .ok (.ldc 130, 2) := by decide +kernel
theorem dX4_letter_23 : decode cX4_letter 23 = .ok (.invokespecial 56, 3) := by decide +kernel
theorem dX4_letter_26 : decode cX4_letter 26 = .ok (.athrow, 1) := by decide +kernel
theorem dX4_letter_27 : decode cX4_letter 27 = .ok (.aload_n 0, 1) := by decide +kernel
theorem dX4_letter_28 : decode cX4_letter 28 = .ok (.getfield 19, 3) := by decide +kernel
theorem dX4_letter_31 : decode cX4_letter 31 = .ok (.iload_n 1, 1) := by decide +kernel
theorem dX4_letter_32 : decode cX4_letter 32 = .ok (.invokevirtual 132, 3) := by decide +kernel
theorem dX4_letter_35 : decode cX4_letter 35 = .ok (.ireturn, 1) := by decide +kernel
set_option maxRecDepth 20000 in
theorem ggX4_put_X4_requireRange : GoodIn wsX4_put wsX4_requireRange := goodIn_ca (goodIn_r _ [7, 8, 9, 6, 10, 11, 12] (by decide +kernel) (by decide +kernel)) (goodIn_sub (fun _ h => List.mem_cons_of_mem _ (List.mem_append_right _ h)) (by decide +kernel))
set_option maxRecDepth 20000 in
theorem gX4_put_X4_requireRange : GoodIn wsX4_put (va_wsS RX4 65 yX4_requireRange wsX4_requireRange) := goodIn_app (goodIn_of _ (by decide +kernel)) ggX4_put_X4_requireRange
set_option maxRecDepth 20000 in
theorem ggX4_put_X0_isFullOfBytes : GoodIn wsX4_put wsX0_isFullOfBytes := goodIn_r _ [17, 18, 28, 29, 30, 31, 32, 33, 34, 35, 36, 37, 38, 39] (by decide +kernel) (by decide +kernel)
set_option maxRecDepth 20000 in
theorem gX4_put_X0_isFullOfBytes : GoodIn wsX4_put (wsV RX4 135 RX0 yX0_isFullOfBytes wsX0_isFullOfBytes) := goodIn_app (goodIn_of _ (by decide +kernel)) ggX4_put_X0_isFullOfBytes
set_option maxRecDepth 20000 in
theorem ggX4_put_X0_addByte : GoodIn wsX4_put wsX0_addByte := goodIn_r _ [22, 23, 18, 28, 29, 30, 31, 32, 33, 34, 35, 36, 37, 38, 39] (by decide +kernel) (by decide +kernel)
set_option maxRecDepth 20000 in
theorem gX4_put_X0_addByte : GoodIn wsX4_put (wsV RX4 140 RX0 yX0_addByte wsX0_addByte) := goodIn_app (goodIn_of _ (by decide +kernel)) ggX4_put_X0_addByte
theorem dX4_put_0 : decode cX4_put 0 = .ok (.iload_n 1, 1) := by decide +kernel
theorem dX4_put_1 : decode cX4_put 1 = .ok (.iconst 0, 1) := by decide +kernel
theorem dX4_put_2 : decode cX4_put 2 = .ok (.sipush 255, 3) := by decide +kernel
theorem dX4_put_5 : decode cX4_put 5 = .ok (.invokestatic 65, 3) := by decide +kernel
theorem dX4_put_8 : decode cX4_put 8 = .ok (.aload_n 0, 1) := by decide +kernel
theorem dX4_put_9 : decode cX4_put 9 = .ok (.getfield 26, 3) := by decide +kernel
theorem dX4_put_12 : decode cX4_put 12 = .ok (.invokevirtual 135, 3) := by decide +kernel
theorem dX4_put_15 : decode cX4_put 15 = .ok (.ifCond .eq 13, 3) := by decide +kernel
theorem dX4_put_18 : decode cX4_put 18 = .ok (.new 52, 3) := by decide +kernel
theorem dX4_put_21 : decode cX4_put 21 = .ok (.dup, 1) := by decide +kernel
theorem dX4_put_22 : decode cX4_put 22 = .ok (.ldc 138, 2) := by decide +kernel
theorem dX4_put_24 : decode cX4_put 24 = .ok (.invokespecial 56, 3) := by decide +kernel
theorem dX4_put_27 : decode cX4_put 27 = .ok (.athrow, 1) := by decide +kernel
theorem dX4_put_28 : decode cX4_put 28 = .ok (.aload_n 0, 1) := by decide +kernel
theorem dX4_put_29 : decode cX4_put 29 = .ok (.getfield 26, 3) := by decide +kernel
theorem dX4_put_32 : decode cX4_put 32 = .ok (.iload_n 1, 1) := by decide +kernel
theorem dX4_put_33 : decode cX4_put 33 = .ok (.invokevirtual 140, 3) := by decide +kernel
theorem dX4_put_36 : decode cX4_put 36 = .ok (.ireturn, 1) := by decide +kernel
set_option maxRecDepth 20000 in
theorem ggX4_empty_X2_clearName : GoodIn wsX4_empty wsX2_clearName := goodIn_r _ [7, 8, 19, 20, 21, 22, 23, 24, 25, 26, 27, 28] (by decide +kernel) (by decide +kernel)
set_option maxRecDepth 20000 in
theorem gX4_empty_X2_clearName : GoodIn wsX4_empty (wsV RX4 143 RX2 yX2_clearName wsX2_clearName) := goodIn_app (goodIn_of _ (by decide +kernel)) ggX4_empty_X2_clearName
set_option maxRecDepth 20000 in
theorem ggX4_empty_X0_clearBytes : GoodIn wsX4_empty wsX0_clearBytes := goodIn_r _ [13, 14, 29, 30, 31, 32, 33, 34, 35, 36, 37, 38, 39, 40] (by decide +kernel) (by decide +kernel)
set_option maxRecDepth 20000 in
theorem gX4_empty_X0_clearBytes : GoodIn wsX4_empty (wsV RX4 146 RX0 yX0_clearBytes wsX0_clearBytes) := goodIn_app (goodIn_of _ (by decide +kernel)) ggX4_empty_X0_clearBytes
theorem dX4_empty_0 : decode cX4_empty 0 = .ok (.aload_n 0, 1) := by decide +kernel
theorem dX4_empty_1 : decode cX4_empty 1 = .ok (.getfield 19, 3) := by decide +kernel
theorem dX4_empty_4 : decode cX4_empty 4 = .ok (.invokevirtual 143, 3) := by decide +kernel
theorem dX4_empty_7 : decode cX4_empty 7 = .ok (.aload_n 0, 1) := by decide +kernel
theorem dX4_empty_8 : decode cX4_empty 8 = .ok (.getfield 26, 3) := by decide +kernel
theorem dX4_empty_11 : decode cX4_empty 11 = .ok (.invokevirtual 146, 3) := by decide +kernel
theorem dX4_empty_14 : decode cX4_empty 14 = .ok (.iadd, 1) := by decide +kernel
theorem dX4_empty_15 : decode cX4_empty 15 = .ok (.ireturn, 1) := by decide +kernel
set_option maxRecDepth 20000 in
theorem ggX4_fits_X4_requirePattern : GoodIn wsX4_fits wsX4_requirePattern := goodIn_ca (goodIn_r _ [6, 7, 8, 1, 9, 10, 11, 12, 13, 14, 15, 35, 36, 37, 38, 39, 40, 41, 42, 43, 44, 45, 46, 47, 48] (by decide +kernel) (by decide +kernel)) (goodIn_sub (fun _ h => List.mem_cons_of_mem _ (List.mem_append_right _ h)) (by decide +kernel))
set_option maxRecDepth 20000 in
theorem gX4_fits_X4_requirePattern : GoodIn wsX4_fits (wsV RX4 89 RX4 yX4_requirePattern wsX4_requirePattern) := goodIn_app (goodIn_of _ (by decide +kernel)) ggX4_fits_X4_requirePattern
set_option maxRecDepth 20000 in
theorem ggX4_fits_X2_fitsName : GoodIn wsX4_fits wsX2_fitsName := goodIn_r _ [19, 20, 21, 22, 23, 24, 25, 12, 26, 27, 28, 29, 30, 31, 32, 33, 34, 39, 40, 41, 42, 43, 44, 45, 46, 47, 48] (by decide +kernel) (by decide +kernel)
set_option maxRecDepth 20000 in
theorem gX4_fits_X2_fitsName : GoodIn wsX4_fits (wsV RX4 149 RX2 yX2_fitsName wsX2_fitsName) := goodIn_app (goodIn_of _ (by decide +kernel)) ggX4_fits_X2_fitsName
theorem dX4_fits_0 : decode cX4_fits 0 = .ok (.aload_n 0, 1) := by decide +kernel
theorem dX4_fits_1 : decode cX4_fits 1 = .ok (.iload_n 1, 1) := by decide +kernel
theorem dX4_fits_2 : decode cX4_fits 2 = .ok (.invokevirtual 89, 3) := by decide +kernel
theorem dX4_fits_5 : decode cX4_fits 5 = .ok (.aload_n 0, 1) := by decide +kernel
theorem dX4_fits_6 : decode cX4_fits 6 = .ok (.getfield 19, 3) := by decide +kernel
theorem dX4_fits_9 : decode cX4_fits 9 = .ok (.iload_n 1, 1) := by decide +kernel
theorem dX4_fits_10 : decode cX4_fits 10 = .ok (.invokevirtual 149, 3) := by decide +kernel
theorem dX4_fits_13 : decode cX4_fits 13 = .ok (.ireturn, 1) := by decide +kernel
set_option maxRecDepth 20000 in
theorem ggX4_fitsByTable_X4_requirePattern : GoodIn wsX4_fitsByTable wsX4_requirePattern := goodIn_ca (goodIn_r _ [6, 7, 8, 1, 9, 10, 11, 12, 13, 14, 15, 33, 34, 35, 36, 37, 38, 39, 40, 41, 42, 43, 44, 45, 46] (by decide +kernel) (by decide +kernel)) (goodIn_sub (fun _ h => List.mem_cons_of_mem _ (List.mem_append_right _ h)) (by decide +kernel))
set_option maxRecDepth 20000 in
theorem gX4_fitsByTable_X4_requirePattern : GoodIn wsX4_fitsByTable (wsV RX4 89 RX4 yX4_requirePattern wsX4_requirePattern) := goodIn_app (goodIn_of _ (by decide +kernel)) ggX4_fitsByTable_X4_requirePattern
set_option maxRecDepth 20000 in
theorem ggX4_fitsByTable_X2_fitsNameByTable : GoodIn wsX4_fitsByTable wsX2_fitsNameByTable := goodIn_r _ [19, 20, 21, 22, 23, 24, 25, 26, 12, 27, 28, 29, 30, 31, 32, 37, 38, 39, 40, 41, 42, 43, 44, 45, 46] (by decide +kernel) (by decide +kernel)
set_option maxRecDepth 20000 in
theorem gX4_fitsByTable_X2_fitsNameByTable : GoodIn wsX4_fitsByTable (wsV RX4 152 RX2 yX2_fitsNameByTable wsX2_fitsNameByTable) := goodIn_app (goodIn_of _ (by decide +kernel)) ggX4_fitsByTable_X2_fitsNameByTable
theorem dX4_fitsByTable_0 : decode cX4_fitsByTable 0 = .ok (.aload_n 0, 1) := by decide +kernel
theorem dX4_fitsByTable_1 : decode cX4_fitsByTable 1 = .ok (.iload_n 1, 1) := by decide +kernel
theorem dX4_fitsByTable_2 : decode cX4_fitsByTable 2 = .ok (.invokevirtual 89, 3) := by decide +kernel
theorem dX4_fitsByTable_5 : decode cX4_fitsByTable 5 = .ok (.aload_n 0, 1) := by decide +kernel
theorem dX4_fitsByTable_6 : decode cX4_fitsByTable 6 = .ok (.getfield 19, 3) := by decide +kernel
theorem dX4_fitsByTable_9 : decode cX4_fitsByTable 9 = .ok (.iload_n 1, 1) := by decide +kernel
theorem dX4_fitsByTable_10 : decode cX4_fitsByTable 10 = .ok (.invokevirtual 152, 3) := by decide +kernel
theorem dX4_fitsByTable_13 : decode cX4_fitsByTable 13 = .ok (.ireturn, 1) := by decide +kernel
set_option maxRecDepth 20000 in
theorem ggX4_proves_X4_requireRule : GoodIn wsX4_proves wsX4_requireRule := goodIn_ca (goodIn_r _ [6, 7, 8, 1, 9, 10, 11, 12, 13, 14, 36, 37, 38, 39, 40, 41, 42, 43, 44, 45, 46, 47, 48, 49, 50, 51] (by decide +kernel) (by decide +kernel)) (goodIn_sub (fun _ h => List.mem_cons_of_mem _ (List.mem_append_right _ h)) (by decide +kernel))
set_option maxRecDepth 20000 in
theorem gX4_proves_X4_requireRule : GoodIn wsX4_proves (wsV RX4 104 RX4 yX4_requireRule wsX4_requireRule) := goodIn_app (goodIn_of _ (by decide +kernel)) ggX4_proves_X4_requireRule
set_option maxRecDepth 20000 in
theorem ggX4_proves_X0_provesKind : GoodIn wsX4_proves wsX0_provesKind := goodIn_r _ [18, 19, 20, 21, 22, 23, 24, 12, 25, 26, 27, 28, 29, 30, 31, 32, 33, 34, 35, 40, 41, 42, 43, 44, 45, 46, 47, 48, 49, 50, 51] (by decide +kernel) (by decide +kernel)
set_option maxRecDepth 20000 in
theorem gX4_proves_X0_provesKind : GoodIn wsX4_proves (wsV RX4 155 RX0 yX0_provesKind wsX0_provesKind) := goodIn_app (goodIn_of _ (by decide +kernel)) ggX4_proves_X0_provesKind
theorem dX4_proves_0 : decode cX4_proves 0 = .ok (.aload_n 0, 1) := by decide +kernel
theorem dX4_proves_1 : decode cX4_proves 1 = .ok (.iload_n 1, 1) := by decide +kernel
theorem dX4_proves_2 : decode cX4_proves 2 = .ok (.invokevirtual 104, 3) := by decide +kernel
theorem dX4_proves_5 : decode cX4_proves 5 = .ok (.aload_n 0, 1) := by decide +kernel
theorem dX4_proves_6 : decode cX4_proves 6 = .ok (.getfield 26, 3) := by decide +kernel
theorem dX4_proves_9 : decode cX4_proves 9 = .ok (.iload_n 1, 1) := by decide +kernel
theorem dX4_proves_10 : decode cX4_proves 10 = .ok (.invokevirtual 155, 3) := by decide +kernel
theorem dX4_proves_13 : decode cX4_proves 13 = .ok (.ireturn, 1) := by decide +kernel
set_option maxRecDepth 20000 in
theorem ggX4_byName_X2_firstFitting : GoodIn wsX4_byName wsX2_firstFitting := goodIn_r _ [7, 8, 9, 10, 11, 12, 6, 13, 14, 15, 16, 17, 18, 19, 20, 21, 22, 23, 24, 25, 26, 27, 28, 29, 30, 31, 32, 33, 34, 35, 36, 37, 38, 39, 40, 41, 42, 43, 44, 45, 46, 47, 48, 49, 50, 51, 52, 53, 66, 67, 68, 69, 70, 71, 72, 73, 74, 75, 76, 77] (by decide +kernel) (by decide +kernel)
set_option maxRecDepth 20000 in
theorem gX4_byName_X2_firstFitting : GoodIn wsX4_byName (wsV RX4 158 RX2 yX2_firstFitting wsX2_firstFitting) := goodIn_app (goodIn_of _ (by decide +kernel)) ggX4_byName_X2_firstFitting
set_option maxRecDepth 20000 in
theorem ggX4_byName_X2_kindOf : GoodIn wsX4_byName wsX2_kindOf := goodIn_r _ [57, 20, 58, 59, 60, 6, 61, 8, 9, 66, 67, 68, 69, 70, 71, 72, 73, 74, 75] (by decide +kernel) (by decide +kernel)
set_option maxRecDepth 20000 in
theorem gX4_byName_X2_kindOf : GoodIn wsX4_byName (wsV RX4 162 RX2 yX2_kindOf wsX2_kindOf) := goodIn_app (goodIn_of _ (by decide +kernel)) ggX4_byName_X2_kindOf
theorem dX4_byName_0 : decode cX4_byName 0 = .ok (.aload_n 0, 1) := by decide +kernel
theorem dX4_byName_1 : decode cX4_byName 1 = .ok (.getfield 19, 3) := by decide +kernel
theorem dX4_byName_4 : decode cX4_byName 4 = .ok (.aload_n 0, 1) := by decide +kernel
