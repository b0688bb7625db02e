set_option maxRecDepth 20000 in
theorem ggX5_first_X5_special : GoodIn wsX5_first wsX5_special := goodIn_r _ [17, 18, 19, 20, 21, 22, 23, 24, 25, 26, 27, 28, 29, 30, 31, 32, 33, 34, 35, 36, 37, 38, 39, 40, 41, 42] (by decide +kernel) (by decide +kernel)
set_option maxRecDepth 20000 in
theorem gX5_first_X5_special : GoodIn wsX5_first (wsV RX5 110 RX5 yX5_special wsX5_special) := goodIn_app (goodIn_of _ (by decide +kernel)) ggX5_first_X5_special
theorem dX5_first_0 : decode cX5_first 0 = .ok (.iconst (-1), 1) := by decide +kernel
theorem dX5_first_1 : decode cX5_first 1 = .ok (.istore_n 2, 1) := by decide +kernel
theorem dX5_first_2 : decode cX5_first 2 = .ok (.iconst 0, 1) := by decide +kernel
theorem dX5_first_3 : decode cX5_first 3 = .ok (.istore_n 3, 1) := by decide +kernel
theorem dX5_first_4 : decode cX5_first 4 = .ok (.iload_n 3, 1) := by decide +kernel
theorem dX5_first_5 : decode cX5_first 5 = .ok (.aload_n 0, 1) := by decide +kernel
theorem dX5_first_6 : decode cX5_first 6 = .ok (.getfield 88, 3) := by decide +kernel
theorem dX5_first_9 : decode cX5_first 9 = .ok (.if_icmp .ge 113, 3) := by decide +kernel
theorem dX5_first_12 : decode cX5_first 12 = .ok (.aload_n 0, 1) := by decide +kernel
theorem dX5_first_13 : decode cX5_first 13 = .ok (.getfield 25, 3) := by decide +kernel
theorem dX5_first_16 : decode cX5_first 16 = .ok (.iload_n 3, 1) := by decide +kernel
theorem dX5_first_17 : decode cX5_first 17 = .ok (.baload, 1) := by decide +kernel
theorem dX5_first_18 : decode cX5_first 18 = .ok (.ifCond .ne 98, 3) := by decide +kernel
theorem dX5_first_21 : decode cX5_first 21 = .ok (.aload_n 0, 1) := by decide +kernel
theorem dX5_first_22 : decode cX5_first 22 = .ok (.iload_n 3, 1) := by decide +kernel
theorem dX5_first_23 : decode cX5_first 23 = .ok (.invokevirtual 120, 3) := by decide +kernel
theorem dX5_first_26 : decode cX5_first 26 = .ok (.ifCond .eq 90, 3) := by decide +kernel
theorem dX5_first_29 : decode cX5_first 29 = .ok (.iload_n 1, 1) := by decide +kernel
theorem dX5_first_30 : decode cX5_first 30 = .ok (.iconst (-1), 1) := by decide +kernel
theorem dX5_first_31 : decode cX5_first 31 = .ok (.if_icmp .eq 17, 3) := by decide +kernel
theorem dX5_first_34 : decode cX5_first 34 = .ok (.aload_n 0, 1) := by decide +kernel
theorem dX5_first_35 : decode cX5_first 35 = .ok (.aload_n 0, 1) := by decide +kernel
theorem dX5_first_36 : decode cX5_first 36 = .ok (.getfield 13, 3) := by decide +kernel
theorem dX5_first_39 : decode cX5_first 39 = .ok (.iload_n 3, 1) := by decide +kernel
theorem dX5_first_40 : decode cX5_first 40 = .ok (.iaload, 1) := by decide +kernel
theorem dX5_first_41 : decode cX5_first 41 = .ok (.iload_n 1, 1) := by decide +kernel
theorem dX5_first_42 : decode cX5_first 42 = .ok (.invokevirtual 110, 3) := by decide +kernel
theorem dX5_first_45 : decode cX5_first 45 = .ok (.ifCond .eq 71, 3) := by decide +kernel
theorem dX5_first_48 : decode cX5_first 48 = .ok (.iload_n 2, 1) := by decide +kernel
theorem dX5_first_49 : decode cX5_first 49 = .ok (.iconst (-1), 1) := by decide +kernel
theorem dX5_first_50 : decode cX5_first 50 = .ok (.if_icmp .eq 48, 3) := by decide +kernel
theorem dX5_first_53 : decode cX5_first 53 = .ok (.aload_n 0, 1) := by decide +kernel
theorem dX5_first_54 : decode cX5_first 54 = .ok (.getfield 16, 3) := by decide +kernel
theorem dX5_first_57 : decode cX5_first 57 = .ok (.iload_n 3, 1) := by decide +kernel
theorem dX5_first_58 : decode cX5_first 58 = .ok (.iaload, 1) := by decide +kernel
theorem dX5_first_59 : decode cX5_first 59 = .ok (.aload_n 0, 1) := by decide +kernel
theorem dX5_first_60 : decode cX5_first 60 = .ok (.getfield 16, 3) := by decide +kernel
theorem dX5_first_63 : decode cX5_first 63 = .ok (.iload_n 2, 1) := by decide +kernel
theorem dX5_first_64 : decode cX5_first 64 = .ok (.iaload, 1) := by decide +kernel
theorem dX5_first_65 : decode cX5_first 65 = .ok (.if_icmp .gt 33, 3) := by decide +kernel
theorem dX5_first_68 : decode cX5_first 68 = .ok (.aload_n 0, 1) := by decide +kernel
theorem dX5_first_69 : decode cX5_first 69 = .ok (.getfield 16, 3) := by decide +kernel
theorem dX5_first_72 : decode cX5_first 72 = .ok (.iload_n 3, 1) := by decide +kernel
theorem dX5_first_73 : decode cX5_first 73 = .ok (.iaload, 1) := by decide +kernel
theorem dX5_first_74 : decode cX5_first 74 = .ok (.aload_n 0, 1) := by decide +kernel
theorem dX5_first_75 : decode cX5_first 75 = .ok (.getfield 16, 3) := by decide +kernel
theorem dX5_first_78 : decode cX5_first 78 = .ok (.iload_n 2, 1) := by decide +kernel
theorem dX5_first_79 : decode cX5_first 79 = .ok (.iaload, 1) := by decide +kernel
theorem dX5_first_80 : decode cX5_first 80 = .ok (.if_icmp .ne 22, 3) := by decide +kernel
theorem dX5_first_83 : decode cX5_first 83 = .ok (.aload_n 0, 1) := by decide +kernel
theorem dX5_first_84 : decode cX5_first 84 = .ok (.getfield 19, 3) := by decide +kernel
theorem dX5_first_87 : decode cX5_first 87 = .ok (.iload_n 3, 1) := by decide +kernel
theorem dX5_first_88 : decode cX5_first 88 = .ok (.iaload, 1) := by decide +kernel
theorem dX5_first_89 : decode cX5_first 89 = .ok (.aload_n 0, 1) := by decide +kernel
theorem dX5_first_90 : decode cX5_first 90 = .ok (.getfield 19, 3) := by decide +kernel
theorem dX5_first_93 : decode cX5_first 93 = .ok (.iload_n 2, 1) := by decide +kernel
theorem dX5_first_94 : decode cX5_first 94 = .ok (.iaload, 1) := by decide +kernel
theorem dX5_first_95 : decode cX5_first 95 = .ok (.if_icmp .le 7, 3) := by decide +kernel
theorem dX5_first_98 : decode cX5_first 98 = .ok (.iconst 1, 1) := by decide +kernel
theorem dX5_first_99 : decode cX5_first 99 = .ok (.goto 4, 3) := by decide +kernel
theorem dX5_first_102 : decode cX5_first 102 = .ok (.iconst 0, 1) := by decide +kernel
theorem dX5_first_103 : decode cX5_first 103 = .ok (.istore 4, 2) := by decide +kernel
theorem dX5_first_105 : decode cX5_first 105 = .ok (.iload 4, 2) := by decide +kernel
theorem dX5_first_107 : decode cX5_first 107 = .ok (.ifCond .eq 7, 3) := by decide +kernel
theorem dX5_first_110 : decode cX5_first 110 = .ok (.iload_n 3, 1) := by decide +kernel
theorem dX5_first_111 : decode cX5_first 111 = .ok (.goto 4, 3) := by decide +kernel
theorem dX5_first_114 : decode cX5_first 114 = .ok (.iload_n 2, 1) := by decide +kernel
theorem dX5_first_115 : decode cX5_first 115 = .ok (.istore_n 2, 1) := by decide +kernel
theorem dX5_first_116 : decode cX5_first 116 = .ok (.iinc 3 1, 3) := by decide +kernel
theorem dX5_first_119 : decode cX5_first 119 = .ok (.goto (-115), 3) := by decide +kernel
theorem dX5_first_122 : decode cX5_first 122 = .ok (.iload_n 2, 1) := by decide +kernel
theorem dX5_first_123 : decode cX5_first 123 = .ok (.ireturn, 1) := by decide +kernel
set_option maxRecDepth 20000 in
theorem ggX5_named_X5_first : GoodIn wsX5_named wsX5_first := goodIn_r _ [6, 7, 8, 1, 9, 10, 11, 12, 13, 5, 14, 15, 16, 17, 18, 19, 20, 21, 22, 23, 24, 25, 26, 27, 28, 29, 30, 31, 32, 33, 34, 35, 36, 37, 38, 39, 40, 41, 42, 43, 44, 45, 46] (by decide +kernel) (by decide +kernel)
set_option maxRecDepth 20000 in
theorem gX5_named_X5_first : GoodIn wsX5_named (wsV RX5 132 RX5 yX5_first wsX5_first) := goodIn_app (goodIn_of _ (by decide +kernel)) ggX5_named_X5_first
theorem dX5_named_0 : decode cX5_named 0 = .ok (.aload_n 0, 1) := by decide +kernel
theorem dX5_named_1 : decode cX5_named 1 = .ok (.iconst (-1), 1) := by decide +kernel
theorem dX5_named_2 : decode cX5_named 2 = .ok (.invokevirtual 132, 3) := by decide +kernel
theorem dX5_named_5 : decode cX5_named 5 = .ok (.istore_n 1, 1) := by decide +kernel
theorem dX5_named_6 : decode cX5_named 6 = .ok (.iload_n 1, 1) := by decide +kernel
theorem dX5_named_7 : decode cX5_named 7 = .ok (.iconst (-1), 1) := by decide +kernel
theorem dX5_named_8 : decode cX5_named 8 = .ok (.if_icmp .ne 7, 3) := by decide +kernel
theorem dX5_named_11 : decode cX5_named 11 = .ok (.iconst (-1), 1) := by decide +kernel
theorem dX5_named_12 : decode cX5_named 12 = .ok (.goto 9, 3) := by decide +kernel
theorem dX5_named_15 : decode cX5_named 15 = .ok (.aload_n 0, 1) := by decide +kernel
theorem dX5_named_16 : decode cX5_named 16 = .ok (.getfield 13, 3) := by decide +kernel
theorem dX5_named_19 : decode cX5_named 19 = .ok (.iload_n 1, 1) := by decide +kernel
theorem dX5_named_20 : decode cX5_named 20 = .ok (.iaload, 1) := by decide +kernel
theorem dX5_named_21 : decode cX5_named 21 = .ok (.ireturn, 1) := by decide +kernel
set_option maxRecDepth 20000 in
theorem ggX5_proven_X5_proof : GoodIn wsX5_proven wsX5_proof := goodIn_r _ [7, 8, 9, 10, 11, 12, 6, 13, 14, 15, 16, 17, 18, 19, 20, 21, 22, 23, 24, 25, 26, 27, 28, 29, 30, 31, 32, 33, 34, 35, 36, 37, 38, 39, 40, 41, 42, 43] (by decide +kernel) (by decide +kernel)
set_option maxRecDepth 20000 in
theorem gX5_proven_X5_proof : GoodIn wsX5_proven (wsV RX5 129 RX5 yX5_proof wsX5_proof) := goodIn_app (goodIn_of _ (by decide +kernel)) ggX5_proven_X5_proof
theorem dX5_proven_0 : decode cX5_proven 0 = .ok (.iconst (-1), 1) := by decide +kernel
theorem dX5_proven_1 : decode cX5_proven 1 = .ok (.istore_n 1, 1) := by decide +kernel
theorem dX5_proven_2 : decode cX5_proven 2 = .ok (.iconst 0, 1) := by decide +kernel
theorem dX5_proven_3 : decode cX5_proven 3 = .ok (.istore_n 2, 1) := by decide +kernel
theorem dX5_proven_4 : decode cX5_proven 4 = .ok (.iload_n 2, 1) := by decide +kernel
theorem dX5_proven_5 : decode cX5_proven 5 = .ok (.aload_n 0, 1) := by decide +kernel
theorem dX5_proven_6 : decode cX5_proven 6 = .ok (.getfield 100, 3) := by decide +kernel
theorem dX5_proven_9 : decode cX5_proven 9 = .ok (.if_icmp .ge 43, 3) := by decide +kernel
theorem dX5_proven_12 : decode cX5_proven 12 = .ok (.aload_n 0, 1) := by decide +kernel
theorem dX5_proven_13 : decode cX5_proven 13 = .ok (.iload_n 2, 1) := by decide +kernel
theorem dX5_proven_14 : decode cX5_proven 14 = .ok (.invokevirtual 129, 3) := by decide +kernel
theorem dX5_proven_17 : decode cX5_proven 17 = .ok (.ifCond .eq 27, 3) := by decide +kernel
theorem dX5_proven_20 : decode cX5_proven 20 = .ok (.iload_n 1, 1) := by decide +kernel
theorem dX5_proven_21 : decode cX5_proven 21 = .ok (.iconst (-1), 1) := by decide +kernel
theorem dX5_proven_22 : decode cX5_proven 22 = .ok (.if_icmp .eq 18, 3) := by decide +kernel
theorem dX5_proven_25 : decode cX5_proven 25 = .ok (.aload_n 0, 1) := by decide +kernel
theorem dX5_proven_26 : decode cX5_proven 26 = .ok (.getfield 32, 3) := by decide +kernel
theorem dX5_proven_29 : decode cX5_proven 29 = .ok (.iload_n 2, 1) := by decide +kernel
theorem dX5_proven_30 : decode cX5_proven 30 = .ok (.iaload, 1) := by decide +kernel
theorem dX5_proven_31 : decode cX5_proven 31 = .ok (.aload_n 0, 1) := by decide +kernel
theorem dX5_proven_32 : decode cX5_proven 32 = .ok (.getfield 32, 3) := by decide +kernel
theorem dX5_proven_35 : decode cX5_proven 35 = .ok (.iload_n 1, 1) := by decide +kernel
theorem dX5_proven_36 : decode cX5_proven 36 = .ok (.iaload, 1) := by decide +kernel
theorem dX5_proven_37 : decode cX5_proven 37 = .ok (.if_icmp .le 7, 3) := by decide +kernel
theorem dX5_proven_40 : decode cX5_proven 40 = .ok (.iload_n 2, 1) := by decide +kernel
theorem dX5_proven_41 : decode cX5_proven 41 = .ok (.goto 4, 3) := by decide +kernel
theorem dX5_proven_44 : decode cX5_proven 44 = .ok (.iload_n 1, 1) := by decide +kernel
theorem dX5_proven_45 : decode cX5_proven 45 = .ok (.istore_n 1, 1) := by decide +kernel
theorem dX5_proven_46 : decode cX5_proven 46 = .ok (.iinc 2 1, 3) := by decide +kernel
theorem dX5_proven_49 : decode cX5_proven 49 = .ok (.goto (-45), 3) := by decide +kernel
theorem dX5_proven_52 : decode cX5_proven 52 = .ok (.iload_n 1, 1) := by decide +kernel
theorem dX5_proven_53 : decode cX5_proven 53 = .ok (.ireturn, 1) := by decide +kernel
set_option maxRecDepth 20000 in
theorem ggX5_byName_X5_named : GoodIn wsX5_byName wsX5_named := goodIn_r _ [5, 6, 7, 8, 9, 4, 10, 11, 12, 13, 14, 15, 16, 17, 18, 19, 20, 21, 22, 23, 24, 25, 26, 32, 33, 34, 35, 36, 37, 38, 39, 40, 41, 42, 43, 44, 45, 46, 47, 48, 49, 50, 51, 52, 53, 54, 55] (by decide +kernel) (by decide +kernel)
set_option maxRecDepth 20000 in
theorem gX5_byName_X5_named : GoodIn wsX5_byName (wsV RX5 135 RX5 yX5_named wsX5_named) := goodIn_app (goodIn_of _ (by decide +kernel)) ggX5_byName_X5_named
set_option maxRecDepth 20000 in
theorem ggX5_byName_X5_told : GoodIn wsX5_byName wsX5_told := goodIn_r _ [30, 31, 32, 33, 34, 35, 36, 37, 38, 39, 40, 41, 42, 43, 44, 45, 46, 47, 48, 49, 50, 51, 52, 53, 54, 55] (by decide +kernel) (by decide +kernel)
set_option maxRecDepth 20000 in
theorem gX5_byName_X5_told : GoodIn wsX5_byName (wsV RX5 106 RX5 yX5_told wsX5_told) := goodIn_app (goodIn_of _ (by decide +kernel)) ggX5_byName_X5_told
theorem dX5_byName_0 : decode cX5_byName 0 = .ok (.aload_n 0, 1) := by decide +kernel
theorem dX5_byName_1 : decode cX5_byName 1 = .ok (.aload_n 0, 1) := by decide +kernel
theorem dX5_byName_2 : decode cX5_byName 2 = .ok (.invokevirtual 135, 3) := by decide +kernel
theorem dX5_byName_5 : decode cX5_byName 5 = .ok (.invokevirtual 106, 3) := by decide +kernel
theorem dX5_byName_8 : decode cX5_byName 8 = .ok (.ireturn, 1) := by decide +kernel
set_option maxRecDepth 20000 in
theorem ggX5_byBytes_X5_proven : GoodIn wsX5_byBytes wsX5_proven := goodIn_r _ [6, 7, 8, 9, 10, 11, 5, 12, 13, 14, 15, 16, 17, 18, 19, 20, 21, 22, 23, 24, 30, 31, 32, 33, 34, 35, 36, 37, 38, 39, 40, 41, 42, 43, 44, 45, 46, 47, 48, 49, 50, 51, 52, 53] (by decide +kernel) (by decide +kernel)
set_option maxRecDepth 20000 in
theorem gX5_byBytes_X5_proven : GoodIn wsX5_byBytes (wsV RX5 139 RX5 yX5_proven wsX5_proven) := goodIn_app (goodIn_of _ (by decide +kernel)) ggX5_byBytes_X5_proven
set_option maxRecDepth 20000 in
theorem ggX5_byBytes_X5_told : GoodIn wsX5_byBytes wsX5_told := goodIn_r _ [28, 29, 30, 31, 32, 33, 34, 35, 36, 37, 38, 39, 40, 41, 42, 43, 44, 45, 46, 47, 48, 49, 50, 51, 52, 53] (by decide +kernel) (by decide +kernel)
set_option maxRecDepth 20000 in
theorem gX5_byBytes_X5_told : GoodIn wsX5_byBytes (wsV RX5 106 RX5 yX5_told wsX5_told) := goodIn_app (goodIn_of _ (by decide +kernel)) ggX5_byBytes_X5_told
theorem dX5_byBytes_0 : decode cX5_byBytes 0 = .ok (.aload_n 0, 1) := by decide +kernel
theorem dX5_byBytes_1 : decode cX5_byBytes 1 = .ok (.invokevirtual 139, 3) := by decide +kernel
theorem dX5_byBytes_4 : decode cX5_byBytes 4 = .ok (.istore_n 1, 1) := by decide +kernel
theorem dX5_byBytes_5 : decode cX5_byBytes 5 = .ok (.aload_n 0, 1) := by decide +kernel
theorem dX5_byBytes_6 : decode cX5_byBytes 6 = .ok (.iload_n 1, 1) := by decide +kernel
theorem dX5_byBytes_7 : decode cX5_byBytes 7 = .ok (.iconst (-1), 1) := by decide +kernel
theorem dX5_byBytes_8 : decode cX5_byBytes 8 = .ok (.if_icmp .ne 7, 3) := by decide +kernel
theorem dX5_byBytes_11 : decode cX5_byBytes 11 = .ok (.iconst (-1), 1) := by decide +kernel
theorem dX5_byBytes_12 : decode cX5_byBytes 12 = .ok (.goto 9, 3) := by decide +kernel
theorem dX5_byBytes_15 : decode cX5_byBytes 15 = .ok (.aload_n 0, 1) := by decide +kernel
theorem dX5_byBytes_16 : decode cX5_byBytes 16 = .ok (.getfield 29, 3) := by decide +kernel
theorem dX5_byBytes_19 : decode cX5_byBytes 19 = .ok (.iload_n 1, 1) := by decide +kernel
theorem dX5_byBytes_20 : decode cX5_byBytes 20 = .ok (.iaload, 1) := by decide +kernel
theorem dX5_byBytes_21 : decode cX5_byBytes 21 = .ok (.invokevirtual 106, 3) := by decide +kernel
theorem dX5_byBytes_24 : decode cX5_byBytes 24 = .ok (.ireturn, 1) := by decide +kernel
set_option maxRecDepth 20000 in
theorem ggX5_guess_X5_proven : GoodIn wsX5_guess wsX5_proven := goodIn_r _ [11, 12, 4, 13, 14, 15, 10, 16, 17, 18, 19, 20, 21, 22, 23, 24, 5, 6, 25, 26, 54, 55, 56, 57, 58, 59, 60, 61, 62, 63, 64, 65, 66, 67, 68, 69, 70, 71, 72, 73, 74, 75, 76, 77] (by decide +kernel) (by decide +kernel)
set_option maxRecDepth 20000 in
theorem gX5_guess_X5_proven : GoodIn wsX5_guess (wsV RX5 139 RX5 yX5_proven wsX5_proven) := goodIn_app (goodIn_of _ (by decide +kernel)) ggX5_guess_X5_proven
set_option maxRecDepth 20000 in
theorem ggX5_guess_X5_named : GoodIn wsX5_guess wsX5_named := goodIn_r _ [30, 3, 31, 32, 33, 10, 34, 35, 36, 37, 38, 39, 40, 41, 42, 43, 44, 45, 46, 47, 48, 49, 50, 54, 55, 56, 57, 58, 59, 60, 61, 62, 63, 64, 65, 66, 67, 68, 69, 70, 71, 72, 73, 74, 75, 76, 77] (by decide +kernel) (by decide +kernel)
set_option maxRecDepth 20000 in
theorem gX5_guess_X5_named : GoodIn wsX5_guess (wsV RX5 135 RX5 yX5_named wsX5_named) := goodIn_app (goodIn_of _ (by decide +kernel)) ggX5_guess_X5_named
set_option maxRecDepth 20000 in
theorem ggX5_guess_X5_first : GoodIn wsX5_guess wsX5_first := goodIn_r _ [34, 35, 36, 3, 37, 38, 39, 40, 41, 10, 42, 43, 44, 45, 46, 47, 48, 49, 50, 54, 55, 56, 57, 58, 59, 60, 61, 62, 63, 64, 65, 66, 67, 68, 69, 70, 71, 72, 73, 74, 75, 76, 77] (by decide +kernel) (by decide +kernel)
set_option maxRecDepth 20000 in
theorem gX5_guess_X5_first : GoodIn wsX5_guess (wsV RX5 132 RX5 yX5_first wsX5_first) := goodIn_app (goodIn_of _ (by decide +kernel)) ggX5_guess_X5_first
set_option maxRecDepth 20000 in
theorem ggX5_guess_X5_in : GoodIn wsX5_guess wsX5_in := goodIn_r _ [53] (by decide +kernel) (by decide +kernel)
set_option maxRecDepth 20000 in
theorem gX5_guess_X5_in : GoodIn wsX5_guess (va_wsS RX5 72 yX5_in wsX5_in) := goodIn_app (goodIn_of _ (by decide +kernel)) ggX5_guess_X5_in
theorem dX5_guess_0 : decode cX5_guess 0 = .ok (.aload_n 0, 1) := by decide +kernel
theorem dX5_guess_1 : decode cX5_guess 1 = .ok (.iconst 0, 1) := by decide +kernel
theorem dX5_guess_2 : decode cX5_guess 2 = .ok (.putfield 65, 3) := by decide +kernel
theorem dX5_guess_5 : decode cX5_guess 5 = .ok (.aload_n 0, 1) := by decide +kernel
theorem dX5_guess_6 : decode cX5_guess 6 = .ok (.invokevirtual 139, 3) := by decide +kernel
theorem dX5_guess_9 : decode cX5_guess 9 = .ok (.istore_n 1, 1) := by decide +kernel
theorem dX5_guess_10 : decode cX5_guess 10 = .ok (.aload_n 0, 1) := by decide +kernel
theorem dX5_guess_11 : decode cX5_guess 11 = .ok (.invokevirtual 135, 3) := by decide +kernel
theorem dX5_guess_14 : decode cX5_guess 14 = .ok (.istore_n 2, 1) := by decide +kernel
theorem dX5_guess_15 : decode cX5_guess 15 = .ok (.iload_n 1, 1) := by decide +kernel
theorem dX5_guess_16 : decode cX5_guess 16 = .ok (.iconst (-1), 1) := by decide +kernel
theorem dX5_guess_17 : decode cX5_guess 17 = .ok (.if_icmp .eq 53, 3) := by decide +kernel
theorem dX5_guess_20 : decode cX5_guess 20 = .ok (.aload_n 0, 1) := by decide +kernel
theorem dX5_guess_21 : decode cX5_guess 21 = .ok (.aload_n 0, 1) := by decide +kernel
theorem dX5_guess_22 : decode cX5_guess 22 = .ok (.getfield 29, 3) := by decide +kernel
theorem dX5_guess_25 : decode cX5_guess 25 = .ok (.iload_n 1, 1) := by decide +kernel
theorem dX5_guess_26 : decode cX5_guess 26 = .ok (.iaload, 1) := by decide +kernel
theorem dX5_guess_27 : decode cX5_guess 27 = .ok (.invokevirtual 132, 3) := by decide +kernel
theorem dX5_guess_30 : decode cX5_guess 30 = .ok (.istore_n 3, 1) := by decide +kernel
theorem dX5_guess_31 : decode cX5_guess 31 = .ok (.iload_n 3, 1) := by decide +kernel
theorem dX5_guess_32 : decode cX5_guess 32 = .ok (.iconst (-1), 1) := by decide +kernel
theorem dX5_guess_33 : decode cX5_guess 33 = .ok (.if_icmp .eq 10, 3) := by decide +kernel
theorem dX5_guess_36 : decode cX5_guess 36 = .ok (.aload_n 0, 1) := by decide +kernel
theorem dX5_guess_37 : decode cX5_guess 37 = .ok (.getfield 13, 3) := by decide +kernel
theorem dX5_guess_40 : decode cX5_guess 40 = .ok (.iload_n 3, 1) := by decide +kernel
theorem dX5_guess_41 : decode cX5_guess 41 = .ok (.iaload, 1) := by decide +kernel
theorem dX5_guess_42 : decode cX5_guess 42 = .ok (.ireturn, 1) := by decide +kernel
theorem dX5_guess_43 : decode cX5_guess 43 = .ok (.aload_n 0, 1) := by decide +kernel
theorem dX5_guess_44 : decode cX5_guess 44 = .ok (.getfield 32, 3) := by decide +kernel
theorem dX5_guess_47 : decode cX5_guess 47 = .ok (.iload_n 1, 1) := by decide +kernel
theorem dX5_guess_48 : decode cX5_guess 48 = .ok (.iaload, 1) := by decide +kernel
theorem dX5_guess_49 : decode cX5_guess 49 = .ok (.bipush 50, 2) := by decide +kernel
theorem dX5_guess_51 : decode cX5_guess 51 = .ok (.if_icmp .ge 8, 3) := by decide +kernel
theorem dX5_guess_54 : decode cX5_guess 54 = .ok (.iload_n 2, 1) := by decide +kernel
theorem dX5_guess_55 : decode cX5_guess 55 = .ok (.iconst (-1), 1) := by decide +kernel
theorem dX5_guess_56 : decode cX5_guess 56 = .ok (.if_icmp .ne 12, 3) := by decide +kernel
theorem dX5_guess_59 : decode cX5_guess 59 = .ok (.aload_n 0, 1) := by decide +kernel
theorem dX5_guess_60 : decode cX5_guess 60 = .ok (.getfield 29, 3) := by decide +kernel
theorem dX5_guess_63 : decode cX5_guess 63 = .ok (.iload_n 1, 1) := by decide +kernel
theorem dX5_guess_64 : decode cX5_guess 64 = .ok (.iaload, 1) := by decide +kernel
theorem dX5_guess_65 : decode cX5_guess 65 = .ok (.goto 4, 3) := by decide +kernel
theorem dX5_guess_68 : decode cX5_guess 68 = .ok (.iload_n 2, 1) := by decide +kernel
theorem dX5_guess_69 : decode cX5_guess 69 = .ok (.ireturn, 1) := by decide +kernel
theorem dX5_guess_70 : decode cX5_guess 70 = .ok (.iload_n 2, 1) := by decide +kernel
theorem dX5_guess_71 : decode cX5_guess 71 = .ok (.iconst (-1), 1) := by decide +kernel
theorem dX5_guess_72 : decode cX5_guess 72 = .ok (.if_icmp .eq 5, 3) := by decide +kernel
theorem dX5_guess_75 : decode cX5_guess 75 = .ok (.iload_n 2, 1) := by decide +kernel
theorem dX5_guess_76 : decode cX5_guess 76 = .ok (.ireturn, 1) := by decide +kernel
theorem dX5_guess_77 : decode cX5_guess 77 = .ok (.iconst 1, 1) := by decide +kernel
theorem dX5_guess_78 : decode cX5_guess 78 = .ok (.istore_n 3, 1) := by decide +kernel
theorem dX5_guess_79 : decode cX5_guess 79 = .ok (.iconst 0, 1) := by decide +kernel
theorem dX5_guess_80 : decode cX5_guess 80 = .ok (.istore 4, 2) := by decide +kernel
theorem dX5_guess_82 : decode cX5_guess 82 = .ok (.iload 4, 2) := by decide +kernel
theorem dX5_guess_84 : decode cX5_guess 84 = .ok (.aload_n 0, 1) := by decide +kernel
theorem dX5_guess_85 : decode cX5_guess 85 = .ok (.getfield 117, 3) := by decide +kernel
theorem dX5_guess_88 : decode cX5_guess 88 = .ok (.if_icmp .ge 72, 3) := by decide +kernel
theorem dX5_guess_91 : decode cX5_guess 91 = .ok (.iload_n 3, 1) := by decide +kernel
theorem dX5_guess_92 : decode cX5_guess 92 = .ok (.ifCond .eq 60, 3) := by decide +kernel
theorem dX5_guess_95 : decode cX5_guess 95 = .ok (.aload_n 0, 1) := by decide +kernel
theorem dX5_guess_96 : decode cX5_guess 96 = .ok (.getfield 56, 3) := by decide +kernel
theorem dX5_guess_99 : decode cX5_guess 99 = .ok (.iload 4, 2) := by decide +kernel
theorem dX5_guess_101 : decode cX5_guess 101 = .ok (.iaload, 1) := by decide +kernel
theorem dX5_guess_102 : decode cX5_guess 102 = .ok (.bipush 32, 2) := by decide +kernel
theorem dX5_guess_104 : decode cX5_guess 104 = .ok (.bipush 126, 2) := by decide +kernel
theorem dX5_guess_106 : decode cX5_guess 106 = .ok (.invokestatic 72, 3) := by decide +kernel
theorem dX5_guess_109 : decode cX5_guess 109 = .ok (.ifCond .ne 39, 3) := by decide +kernel
theorem dX5_guess_112 : decode cX5_guess 112 = .ok (.aload_n 0, 1) := by decide +kernel
theorem dX5_guess_113 : decode cX5_guess 113 = .ok (.getfield 56, 3) := by decide +kernel
theorem dX5_guess_116 : decode cX5_guess 116 = .ok (.iload 4, 2) := by decide +kernel
theorem dX5_guess_118 : decode cX5_guess 118 = .ok (.iaload, 1) := by decide +kernel
theorem dX5_guess_119 : decode cX5_guess 119 = .ok (.bipush 9, 2) := by decide +kernel
theorem dX5_guess_121 : decode cX5_guess 121 = .ok (.if_icmp .eq 27, 3) := by decide +kernel
theorem dX5_guess_124 : decode cX5_guess 124 = .ok (.aload_n 0, 1) := by decide +kernel
theorem dX5_guess_125 : decode cX5_guess 125 = .ok (.getfield 56, 3) := by decide +kernel
theorem dX5_guess_128 : decode cX5_guess 128 = .ok (.iload 4, 2) := by decide +kernel
theorem dX5_guess_130 : decode cX5_guess 130 = .ok (.iaload, 1) := by decide +kernel
theorem dX5_guess_131 : decode cX5_guess 131 = .ok (.bipush 10, 2) := by decide +kernel
theorem dX5_guess_133 : decode cX5_guess 133 = .ok (.if_icmp .eq 15, 3) := by decide +kernel
theorem dX5_guess_136 : decode cX5_guess 136 = .ok (.aload_n 0, 1) := by decide +kernel
theorem dX5_guess_137 : decode cX5_guess 137 = .ok (.getfield 56, 3) := by decide +kernel
theorem dX5_guess_140 : decode cX5_guess 140 = .ok (.iload 4, 2) := by decide +kernel
theorem dX5_guess_142 : decode cX5_guess 142 = .ok (.iaload, 1) := by decide +kernel
theorem dX5_guess_143 : decode cX5_guess 143 = .ok (.bipush 13, 2) := by decide +kernel
theorem dX5_guess_145 : decode cX5_guess 145 = .ok (.if_icmp .ne 7, 3) := by decide +kernel
theorem dX5_guess_148 : decode cX5_guess 148 = .ok (.iconst 1, 1) := by decide +kernel
theorem dX5_guess_149 : decode cX5_guess 149 = .ok (.goto 4, 3) := by decide +kernel
theorem dX5_guess_152 : decode cX5_guess 152 = .ok (.iconst 0, 1) := by decide +kernel
theorem dX5_guess_153 : decode cX5_guess 153 = .ok (.istore_n 3, 1) := by decide +kernel
theorem dX5_guess_154 : decode cX5_guess 154 = .ok (.iinc 4 1, 3) := by decide +kernel
theorem dX5_guess_157 : decode cX5_guess 157 = .ok (.goto (-75), 3) := by decide +kernel
theorem dX5_guess_160 : decode cX5_guess 160 = .ok (.iload_n 3, 1) := by decide +kernel
theorem dX5_guess_161 : decode cX5_guess 161 = .ok (.ifCond .eq 7, 3) := by decide +kernel
theorem dX5_guess_164 : decode cX5_guess 164 = .ok (.iconst (-1), 1) := by decide +kernel
theorem dX5_guess_165 : decode cX5_guess 165 = .ok (.goto 5, 3) := by decide +kernel
theorem dX5_guess_168 : decode cX5_guess 168 = .ok (.bipush (-2), 2) := by decide +kernel
theorem dX5_guess_170 : decode cX5_guess 170 = .ok (.ireturn, 1) := by decide +kernel
set_option maxRecDepth 20000 in
theorem ggX5_isList_X5_in : GoodIn wsX5_isList wsX5_in := goodIn_r _ [4] (by decide +kernel) (by decide +kernel)
set_option maxRecDepth 20000 in
theorem gX5_isList_X5_in : GoodIn wsX5_isList (va_wsS RX5 72 yX5_in wsX5_in) := goodIn_app (goodIn_of _ (by decide +kernel)) ggX5_isList_X5_in
theorem dX5_isList_0 : decode cX5_isList 0 = .ok (.iload_n 0, 1) := by decide +kernel
theorem dX5_isList_1 : decode cX5_isList 1 = .ok (.iconst 0, 1) := by decide +kernel
theorem dX5_isList_2 : decode cX5_isList 2 = .ok (.iconst 2, 1) := by decide +kernel
theorem dX5_isList_3 : decode cX5_isList 3 = .ok (.invokestatic 72, 3) := by decide +kernel
theorem dX5_isList_6 : decode cX5_isList 6 = .ok (.ireturn, 1) := by decide +kernel
set_option maxRecDepth 20000 in
theorem ggX5_program_X5_isKind : GoodIn wsX5_program wsX5_isKind := goodIn_r _ [6, 7, 8, 9, 5, 10, 19, 20, 21, 22, 23, 24, 25, 26, 27, 28, 29, 30, 31, 32, 33, 34, 35, 36, 37, 38, 39, 40, 41, 42] (by decide +kernel) (by decide +kernel)
set_option maxRecDepth 20000 in
theorem gX5_program_X5_isKind : GoodIn wsX5_program (wsV RX5 76 RX5 yX5_isKind wsX5_isKind) := goodIn_app (goodIn_of _ (by decide +kernel)) ggX5_program_X5_isKind
set_option maxRecDepth 20000 in
theorem ggX5_program_X5_isList : GoodIn wsX5_program wsX5_isList := goodIn_r _ [13, 8, 9, 5, 10] (by decide +kernel) (by decide +kernel)
set_option maxRecDepth 20000 in
theorem gX5_program_X5_isList : GoodIn wsX5_program (va_wsS RX5 142 yX5_isList wsX5_isList) := goodIn_app (goodIn_of _ (by decide +kernel)) ggX5_program_X5_isList
set_option maxRecDepth 20000 in
theorem ggX5_program_X5_in : GoodIn wsX5_program wsX5_in := goodIn_r _ [10] (by decide +kernel) (by decide +kernel)
set_option maxRecDepth 20000 in
theorem gX5_program_X5_in : GoodIn wsX5_program (va_wsS RX5 72 yX5_in wsX5_in) := goodIn_app (goodIn_of _ (by decide +kernel)) ggX5_program_X5_in
set_option maxRecDepth 20000 in
theorem ggX5_program_X5_asked_ : GoodIn wsX5_program wsX5_asked_ := goodIn_r _ [17, 18, 19, 20, 21, 22, 23, 24, 25, 26, 27, 28, 29, 30, 31, 32, 33, 34, 35, 36, 37, 38, 39, 40, 41, 42] (by decide +kernel) (by decide +kernel)
set_option maxRecDepth 20000 in
theorem gX5_program_X5_asked_ : GoodIn wsX5_program (wsV RX5 80 RX5 yX5_asked_ wsX5_asked_) := goodIn_app (goodIn_of _ (by decide +kernel)) ggX5_program_X5_asked_
theorem dX5_program_0 : decode cX5_program 0 = .ok (.aload_n 0, 1) := by decide +kernel
theorem dX5_program_1 : decode cX5_program 1 = .ok (.aload_n 0, 1) := by decide +kernel
theorem dX5_program_2 : decode cX5_program 2 = .ok (.iload_n 2, 1) := by decide +kernel
theorem dX5_program_3 : decode cX5_program 3 = .ok (.invokevirtual 76, 3) := by decide +kernel
theorem dX5_program_6 : decode cX5_program 6 = .ok (.iload_n 1, 1) := by decide +kernel
theorem dX5_program_7 : decode cX5_program 7 = .ok (.invokestatic 142, 3) := by decide +kernel
theorem dX5_program_10 : decode cX5_program 10 = .ok (.ifCond .eq 27, 3) := by decide +kernel
theorem dX5_program_13 : decode cX5_program 13 = .ok (.iload_n 3, 1) := by decide +kernel
theorem dX5_program_14 : decode cX5_program 14 = .ok (.iconst 0, 1) := by decide +kernel
theorem dX5_program_15 : decode cX5_program 15 = .ok (.bipush 9, 2) := by decide +kernel
theorem dX5_program_17 : decode cX5_program 17 = .ok (.invokestatic 72, 3) := by decide +kernel
theorem dX5_program_20 : decode cX5_program 20 = .ok (.ifCond .eq 17, 3) := by decide +kernel
theorem dX5_program_23 : decode cX5_program 23 = .ok (.iload 4, 2) := by decide +kernel
theorem dX5_program_25 : decode cX5_program 25 = .ok (.iconst 0, 1) := by decide +kernel
theorem dX5_program_26 : decode cX5_program 26 = .ok (.iconst 2, 1) := by decide +kernel
theorem dX5_program_27 : decode cX5_program 27 = .ok (.invokestatic 72, 3) := by decide +kernel
theorem dX5_program_30 : decode cX5_program 30 = .ok (.ifCond .eq 7, 3) := by decide +kernel
theorem dX5_program_33 : decode cX5_program 33 = .ok (.iconst 1, 1) := by decide +kernel
theorem dX5_program_34 : decode cX5_program 34 = .ok (.goto 4, 3) := by decide +kernel
theorem dX5_program_37 : decode cX5_program 37 = .ok (.iconst 0, 1) := by decide +kernel
theorem dX5_program_38 : decode cX5_program 38 = .ok (.invokevirtual 80, 3) := by decide +kernel
theorem dX5_program_41 : decode cX5_program 41 = .ok (.ifCond .ne 5, 3) := by decide +kernel
theorem dX5_program_44 : decode cX5_program 44 = .ok (.iconst 0, 1) := by decide +kernel
theorem dX5_program_45 : decode cX5_program 45 = .ok (.ireturn, 1) := by decide +kernel
theorem dX5_program_46 : decode cX5_program 46 = .ok (.sipush 140, 3) := by decide +kernel
theorem dX5_program_49 : decode cX5_program 49 = .ok (.iload_n 1, 1) := by decide +kernel
theorem dX5_program_50 : decode cX5_program 50 = .ok (.imul, 1) := by decide +kernel
theorem dX5_program_51 : decode cX5_program 51 = .ok (.bipush 10, 2) := by decide +kernel
theorem dX5_program_53 : decode cX5_program 53 = .ok (.iload_n 2, 1) := by decide +kernel
theorem dX5_program_54 : decode cX5_program 54 = .ok (.imul, 1) := by decide +kernel
theorem dX5_program_55 : decode cX5_program 55 = .ok (.iadd, 1) := by decide +kernel
theorem dX5_program_56 : decode cX5_program 56 = .ok (.iload_n 3, 1) := by decide +kernel
theorem dX5_program_57 : decode cX5_program 57 = .ok (.iadd, 1) := by decide +kernel
theorem dX5_program_58 : decode cX5_program 58 = .ok (.istore 5, 2) := by decide +kernel
theorem dX5_program_60 : decode cX5_program 60 = .ok (.aload_n 0, 1) := by decide +kernel
theorem dX5_program_61 : decode cX5_program 61 = .ok (.getfield 59, 3) := by decide +kernel
theorem dX5_program_64 : decode cX5_program 64 = .ok (.iload 5, 2) := by decide +kernel
theorem dX5_program_66 : decode cX5_program 66 = .ok (.iaload, 1) := by decide +kernel
theorem dX5_program_67 : decode cX5_program 67 = .ok (.istore 6, 2) := by decide +kernel
theorem dX5_program_69 : decode cX5_program 69 = .ok (.aload_n 0, 1) := by decide +kernel
theorem dX5_program_70 : decode cX5_program 70 = .ok (.getfield 59, 3) := by decide +kernel
theorem dX5_program_73 : decode cX5_program 73 = .ok (.iload 5, 2) := by decide +kernel
theorem dX5_program_75 : decode cX5_program 75 = .ok (.iload 4, 2) := by decide +kernel
theorem dX5_program_77 : decode cX5_program 77 = .ok (.iastore, 1) := by decide +kernel
theorem dX5_program_78 : decode cX5_program 78 = .ok (.iload 6, 2) := by decide +kernel
theorem dX5_program_80 : decode cX5_program 80 = .ok (.ireturn, 1) := by decide +kernel
set_option maxRecDepth 20000 in
theorem ggX5_setDefault_X5_isKind : GoodIn wsX5_setDefault wsX5_isKind := goodIn_r _ [6, 7, 8, 9, 5, 10, 19, 20, 21, 22, 23, 24, 25, 26, 27, 28, 29, 30, 31, 32, 33, 34, 35, 36, 37, 38, 39, 40, 41, 42] (by decide +kernel) (by decide +kernel)
set_option maxRecDepth 20000 in
theorem gX5_setDefault_X5_isKind : GoodIn wsX5_setDefault (wsV RX5 76 RX5 yX5_isKind wsX5_isKind) := goodIn_app (goodIn_of _ (by decide +kernel)) ggX5_setDefault_X5_isKind
set_option maxRecDepth 20000 in
theorem ggX5_setDefault_X5_isList : GoodIn wsX5_setDefault wsX5_isList := goodIn_r _ [13, 8, 9, 5, 10] (by decide +kernel) (by decide +kernel)
set_option maxRecDepth 20000 in
theorem gX5_setDefault_X5_isList : GoodIn wsX5_setDefault (va_wsS RX5 142 yX5_isList wsX5_isList) := goodIn_app (goodIn_of _ (by decide +kernel)) ggX5_setDefault_X5_isList
set_option maxRecDepth 20000 in
theorem ggX5_setDefault_X5_in : GoodIn wsX5_setDefault wsX5_in := goodIn_r _ [10] (by decide +kernel) (by decide +kernel)
set_option maxRecDepth 20000 in
theorem gX5_setDefault_X5_in : GoodIn wsX5_setDefault (va_wsS RX5 72 yX5_in wsX5_in) := goodIn_app (goodIn_of _ (by decide +kernel)) ggX5_setDefault_X5_in
set_option maxRecDepth 20000 in
theorem ggX5_setDefault_X5_asked_ : GoodIn wsX5_setDefault wsX5_asked_ := goodIn_r _ [17, 18, 19, 20, 21, 22, 23, 24, 25, 26, 27, 28, 29, 30, 31, 32, 33, 34, 35, 36, 37, 38, 39, 40, 41, 42] (by decide +kernel) (by decide +kernel)
set_option maxRecDepth 20000 in
theorem gX5_setDefault_X5_asked_ : GoodIn wsX5_setDefault (wsV RX5 80 RX5 yX5_asked_ wsX5_asked_) := goodIn_app (goodIn_of _ (by decide +kernel)) ggX5_setDefault_X5_asked_
theorem dX5_setDefault_0 : decode cX5_setDefault 0 = .ok (.aload_n 0, 1) := by decide +kernel
theorem dX5_setDefault_1 : decode cX5_setDefault 1 = .ok (.aload_n 0, 1) := by decide +kernel
theorem dX5_setDefault_2 : decode cX5_setDefault 2 = .ok (.iload_n 2, 1) := by decide +kernel
theorem dX5_setDefault_3 : decode cX5_setDefault 3 = .ok (.invokevirtual 76, 3) := by decide +kernel
theorem dX5_setDefault_6 : decode cX5_setDefault 6 = .ok (.iload_n 1, 1) := by decide +kernel
theorem dX5_setDefault_7 : decode cX5_setDefault 7 = .ok (.invokestatic 142, 3) := by decide +kernel
theorem dX5_setDefault_10 : decode cX5_setDefault 10 = .ok (.ifCond .eq 17, 3) := by decide +kernel
theorem dX5_setDefault_13 : decode cX5_setDefault 13 = .ok (.iload_n 3, 1) := by decide +kernel
theorem dX5_setDefault_14 : decode cX5_setDefault 14 = .ok (.iconst (-1), 1) := by decide +kernel
theorem dX5_setDefault_15 : decode cX5_setDefault 15 = .ok (.bipush 9, 2) := by decide +kernel
theorem dX5_setDefault_17 : decode cX5_setDefault 17 = .ok (.invokestatic 72, 3) := by decide +kernel
theorem dX5_setDefault_20 : decode cX5_setDefault 20 = .ok (.ifCond .eq 7, 3) := by decide +kernel
theorem dX5_setDefault_23 : decode cX5_setDefault 23 = .ok (.iconst 1, 1) := by decide +kernel
theorem dX5_setDefault_24 : decode cX5_setDefault 24 = .ok (.goto 4, 3) := by decide +kernel
theorem dX5_setDefault_27 : decode cX5_setDefault 27 = .ok (.iconst 0, 1) := by decide +kernel
theorem dX5_setDefault_28 : decode cX5_setDefault 28 = .ok (.invokevirtual 80, 3) := by decide +kernel
theorem dX5_setDefault_31 : decode cX5_setDefault 31 = .ok (.ifCond .ne 5, 3) := by decide +kernel
theorem dX5_setDefault_34 : decode cX5_setDefault 34 = .ok (.iconst 0, 1) := by decide +kernel
theorem dX5_setDefault_35 : decode cX5_setDefault 35 = .ok (.ireturn, 1) := by decide +kernel
theorem dX5_setDefault_36 : decode cX5_setDefault 36 = .ok (.aload_n 0, 1) := by decide +kernel
theorem dX5_setDefault_37 : decode cX5_setDefault 37 = .ok (.getfield 62, 3) := by decide +kernel
theorem dX5_setDefault_40 : decode cX5_setDefault 40 = .ok (.bipush 14, 2) := by decide +kernel
theorem dX5_setDefault_42 : decode cX5_setDefault 42 = .ok (.iload_n 1, 1) := by decide +kernel
theorem dX5_setDefault_43 : decode cX5_setDefault 43 = .ok (.imul, 1) := by decide +kernel
theorem dX5_setDefault_44 : decode cX5_setDefault 44 = .ok (.iload_n 2, 1) := by decide +kernel
theorem dX5_setDefault_45 : decode cX5_setDefault 45 = .ok (.iadd, 1) := by decide +kernel
theorem dX5_setDefault_46 : decode cX5_setDefault 46 = .ok (.iaload, 1) := by decide +kernel
theorem dX5_setDefault_47 : decode cX5_setDefault 47 = .ok (.iconst 1, 1) := by decide +kernel
theorem dX5_setDefault_48 : decode cX5_setDefault 48 = .ok (.isub, 1) := by decide +kernel
theorem dX5_setDefault_49 : decode cX5_setDefault 49 = .ok (.istore 4, 2) := by decide +kernel
theorem dX5_setDefault_51 : decode cX5_setDefault 51 = .ok (.aload_n 0, 1) := by decide +kernel
theorem dX5_setDefault_52 : decode cX5_setDefault 52 = .ok (.getfield 62, 3) := by decide +kernel
theorem dX5_setDefault_55 : decode cX5_setDefault 55 = .ok (.bipush 14, 2) := by decide +kernel
theorem dX5_setDefault_57 : decode cX5_setDefault 57 = .ok (.iload_n 1, 1) := by decide +kernel
theorem dX5_setDefault_58 : decode cX5_setDefault 58 = .ok (.imul, 1) := by decide +kernel
theorem dX5_setDefault_59 : decode cX5_setDefault 59 = .ok (.iload_n 2, 1) := by decide +kernel
theorem dX5_setDefault_60 : decode cX5_setDefault 60 = .ok (.iadd, 1) := by decide +kernel
theorem dX5_setDefault_61 : decode cX5_setDefault 61 = .ok (.iload_n 3, 1) := by decide +kernel
theorem dX5_setDefault_62 : decode cX5_setDefault 62 = .ok (.iconst 1, 1) := by decide +kernel
theorem dX5_setDefault_63 : decode cX5_setDefault 63 = .ok (.iadd, 1) := by decide +kernel
theorem dX5_setDefault_64 : decode cX5_setDefault 64 = .ok (.iastore, 1) := by decide +kernel
theorem dX5_setDefault_65 : decode cX5_setDefault 65 = .ok (.iload 4, 2) := by decide +kernel
theorem dX5_setDefault_67 : decode cX5_setDefault 67 = .ok (.ireturn, 1) := by decide +kernel
theorem dX5_opens_0 : decode cX5_opens 0 = .ok (.iconst 0, 1) := by decide +kernel
theorem dX5_opens_1 : decode cX5_opens 1 = .ok (.istore_n 3, 1) := by decide +kernel
theorem dX5_opens_2 : decode cX5_opens 2 = .ok (.iconst 0, 1) := by decide +kernel
theorem dX5_opens_3 : decode cX5_opens 3 = .ok (.istore 4, 2) := by decide +kernel
theorem dX5_opens_5 : decode cX5_opens 5 = .ok (.iconst 0, 1) := by decide +kernel
theorem dX5_opens_6 : decode cX5_opens 6 = .ok (.istore 5, 2) := by decide +kernel
theorem dX5_opens_8 : decode cX5_opens 8 = .ok (.iload 5, 2) := by decide +kernel
theorem dX5_opens_10 : decode cX5_opens 10 = .ok (.iconst 3, 1) := by decide +kernel
theorem dX5_opens_11 : decode cX5_opens 11 = .ok (.if_icmp .ge 68, 3) := by decide +kernel
theorem dX5_opens_14 : decode cX5_opens 14 = .ok (.aload_n 0, 1) := by decide +kernel
theorem dX5_opens_15 : decode cX5_opens 15 = .ok (.getfield 59, 3) := by decide +kernel
theorem dX5_opens_18 : decode cX5_opens 18 = .ok (.sipush 140, 3) := by decide +kernel
theorem dX5_opens_21 : decode cX5_opens 21 = .ok (.iload 5, 2) := by decide +kernel
theorem dX5_opens_23 : decode cX5_opens 23 = .ok (.imul, 1) := by decide +kernel
theorem dX5_opens_24 : decode cX5_opens 24 = .ok (.bipush 10, 2) := by decide +kernel
theorem dX5_opens_26 : decode cX5_opens 26 = .ok (.iload_n 1, 1) := by decide +kernel
theorem dX5_opens_27 : decode cX5_opens 27 = .ok (.imul, 1) := by decide +kernel
theorem dX5_opens_28 : decode cX5_opens 28 = .ok (.iadd, 1) := by decide +kernel
theorem dX5_opens_29 : decode cX5_opens 29 = .ok (.iload_n 2, 1) := by decide +kernel
theorem dX5_opens_30 : decode cX5_opens 30 = .ok (.iadd, 1) := by decide +kernel
theorem dX5_opens_31 : decode cX5_opens 31 = .ok (.iaload, 1) := by decide +kernel
theorem dX5_opens_32 : decode cX5_opens 32 = .ok (.istore 6, 2) := by decide +kernel
theorem dX5_opens_34 : decode cX5_opens 34 = .ok (.iload_n 3, 1) := by decide +kernel
theorem dX5_opens_35 : decode cX5_opens 35 = .ok (.ifCond .ne 14, 3) := by decide +kernel
theorem dX5_opens_38 : decode cX5_opens 38 = .ok (.iload 6, 2) := by decide +kernel
theorem dX5_opens_40 : decode cX5_opens 40 = .ok (.iconst 1, 1) := by decide +kernel
theorem dX5_opens_41 : decode cX5_opens 41 = .ok (.if_icmp .ne 12, 3) := by decide +kernel
theorem dX5_opens_44 : decode cX5_opens 44 = .ok (.iload 4, 2) := by decide +kernel
theorem dX5_opens_46 : decode cX5_opens 46 = .ok (.ifCond .ne 7, 3) := by decide +kernel
theorem dX5_opens_49 : decode cX5_opens 49 = .ok (.iconst 1, 1) := by decide +kernel
theorem dX5_opens_50 : decode cX5_opens 50 = .ok (.goto 4, 3) := by decide +kernel
theorem dX5_opens_53 : decode cX5_opens 53 = .ok (.iconst 0, 1) := by decide +kernel
theorem dX5_opens_54 : decode cX5_opens 54 = .ok (.istore_n 3, 1) := by decide +kernel
theorem dX5_opens_55 : decode cX5_opens 55 = .ok (.iload 4, 2) := by decide +kernel
theorem dX5_opens_57 : decode cX5_opens 57 = .ok (.ifCond .ne 9, 3) := by decide +kernel
theorem dX5_opens_60 : decode cX5_opens 60 = .ok (.iload 6, 2) := by decide +kernel
theorem dX5_opens_62 : decode cX5_opens 62 = .ok (.iconst 2, 1) := by decide +kernel
theorem dX5_opens_63 : decode cX5_opens 63 = .ok (.if_icmp .ne 7, 3) := by decide +kernel
theorem dX5_opens_66 : decode cX5_opens 66 = .ok (.iconst 1, 1) := by decide +kernel
theorem dX5_opens_67 : decode cX5_opens 67 = .ok (.goto 4, 3) := by decide +kernel
theorem dX5_opens_70 : decode cX5_opens 70 = .ok (.iconst 0, 1) := by decide +kernel
theorem dX5_opens_71 : decode cX5_opens 71 = .ok (.istore 4, 2) := by decide +kernel
theorem dX5_opens_73 : decode cX5_opens 73 = .ok (.iinc 5 1, 3) := by decide +kernel
theorem dX5_opens_76 : decode cX5_opens 76 = .ok (.goto (-68), 3) := by decide +kernel
theorem dX5_opens_79 : decode cX5_opens 79 = .ok (.iload_n 3, 1) := by decide +kernel
theorem dX5_opens_80 : decode cX5_opens 80 = .ok (.ireturn, 1) := by decide +kernel
set_option maxRecDepth 20000 in
theorem ggX5_listed_X5_opens : GoodIn wsX5_listed wsX5_opens := goodIn_r _ [6, 7, 8, 9, 10, 11, 12, 13, 14, 15, 16, 17, 18, 19, 20, 21, 22, 23, 24, 25, 26, 27, 28, 29, 30, 31] (by decide +kernel) (by decide +kernel)
set_option maxRecDepth 20000 in
theorem gX5_listed_X5_opens : GoodIn wsX5_listed (wsV RX5 145 RX5 yX5_opens wsX5_opens) := goodIn_app (goodIn_of _ (by decide +kernel)) ggX5_listed_X5_opens
theorem dX5_listed_0 : decode cX5_listed 0 = .ok (.iconst 0, 1) := by decide +kernel
theorem dX5_listed_1 : decode cX5_listed 1 = .ok (.istore_n 3, 1) := by decide +kernel
theorem dX5_listed_2 : decode cX5_listed 2 = .ok (.iconst 0, 1) := by decide +kernel
theorem dX5_listed_3 : decode cX5_listed 3 = .ok (.istore 4, 2) := by decide +kernel
theorem dX5_listed_5 : decode cX5_listed 5 = .ok (.iload_n 1, 1) := by decide +kernel
theorem dX5_listed_6 : decode cX5_listed 6 = .ok (.istore 5, 2) := by decide +kernel
theorem dX5_listed_8 : decode cX5_listed 8 = .ok (.iload 5, 2) := by decide +kernel
theorem dX5_listed_10 : decode cX5_listed 10 = .ok (.iconst (-1), 1) := by decide +kernel
theorem dX5_listed_11 : decode cX5_listed 11 = .ok (.if_icmp .eq 70, 3) := by decide +kernel
theorem dX5_listed_14 : decode cX5_listed 14 = .ok (.iconst 0, 1) := by decide +kernel
theorem dX5_listed_15 : decode cX5_listed 15 = .ok (.istore 6, 2) := by decide +kernel
theorem dX5_listed_17 : decode cX5_listed 17 = .ok (.iload 6, 2) := by decide +kernel
theorem dX5_listed_19 : decode cX5_listed 19 = .ok (.bipush 10, 2) := by decide +kernel
theorem dX5_listed_21 : decode cX5_listed 21 = .ok (.if_icmp .ge 48, 3) := by decide +kernel
theorem dX5_listed_24 : decode cX5_listed 24 = .ok (.iload_n 3, 1) := by decide +kernel
theorem dX5_listed_25 : decode cX5_listed 25 = .ok (.iload 6, 2) := by decide +kernel
theorem dX5_listed_27 : decode cX5_listed 27 = .ok (.ishr, 1) := by decide +kernel
theorem dX5_listed_28 : decode cX5_listed 28 = .ok (.iconst 1, 1) := by decide +kernel
theorem dX5_listed_29 : decode cX5_listed 29 = .ok (.iand, 1) := by decide +kernel
theorem dX5_listed_30 : decode cX5_listed 30 = .ok (.ifCond .ne 33, 3) := by decide +kernel
theorem dX5_listed_33 : decode cX5_listed 33 = .ok (.aload_n 0, 1) := by decide +kernel
theorem dX5_listed_34 : decode cX5_listed 34 = .ok (.iload 5, 2) := by decide +kernel
theorem dX5_listed_36 : decode cX5_listed 36 = .ok (.iload 6, 2) := by decide +kernel
theorem dX5_listed_38 : decode cX5_listed 38 = .ok (.invokevirtual 145, 3) := by decide +kernel
theorem dX5_listed_41 : decode cX5_listed 41 = .ok (.ifCond .eq 22, 3) := by decide +kernel
theorem dX5_listed_44 : decode cX5_listed 44 = .ok (.iload 4, 2) := by decide +kernel
theorem dX5_listed_46 : decode cX5_listed 46 = .ok (.iload_n 2, 1) := by decide +kernel
theorem dX5_listed_47 : decode cX5_listed 47 = .ok (.if_icmp .ne 6, 3) := by decide +kernel
theorem dX5_listed_50 : decode cX5_listed 50 = .ok (.iload 6, 2) := by decide +kernel
theorem dX5_listed_52 : decode cX5_listed 52 = .ok (.ireturn, 1) := by decide +kernel
theorem dX5_listed_53 : decode cX5_listed 53 = .ok (.iload_n 3, 1) := by decide +kernel
theorem dX5_listed_54 : decode cX5_listed 54 = .ok (.iconst 1, 1) := by decide +kernel
theorem dX5_listed_55 : decode cX5_listed 55 = .ok (.iload 6, 2) := by decide +kernel
theorem dX5_listed_57 : decode cX5_listed 57 = .ok (.ishl, 1) := by decide +kernel
theorem dX5_listed_58 : decode cX5_listed 58 = .ok (.ior, 1) := by decide +kernel
theorem dX5_listed_59 : decode cX5_listed 59 = .ok (.istore_n 3, 1) := by decide +kernel
theorem dX5_listed_60 : decode cX5_listed 60 = .ok (.iinc 4 1, 3) := by decide +kernel
theorem dX5_listed_63 : decode cX5_listed 63 = .ok (.iinc 6 1, 3) := by decide +kernel
theorem dX5_listed_66 : decode cX5_listed 66 = .ok (.goto (-49), 3) := by decide +kernel
theorem dX5_listed_69 : decode cX5_listed 69 = .ok (.aload_n 0, 1) := by decide +kernel
theorem dX5_listed_70 : decode cX5_listed 70 = .ok (.getfield 7, 3) := by decide +kernel
theorem dX5_listed_73 : decode cX5_listed 73 = .ok (.iload 5, 2) := by decide +kernel
theorem dX5_listed_75 : decode cX5_listed 75 = .ok (.iaload, 1) := by decide +kernel
theorem dX5_listed_76 : decode cX5_listed 76 = .ok (.istore 5, 2) := by decide +kernel
theorem dX5_listed_78 : decode cX5_listed 78 = .ok (.goto (-70), 3) := by decide +kernel
theorem dX5_listed_81 : decode cX5_listed 81 = .ok (.iload_n 2, 1) := by decide +kernel
theorem dX5_listed_82 : decode cX5_listed 82 = .ok (.iconst (-1), 1) := by decide +kernel
theorem dX5_listed_83 : decode cX5_listed 83 = .ok (.if_icmp .ne 8, 3) := by decide +kernel
theorem dX5_listed_86 : decode cX5_listed 86 = .ok (.iload 4, 2) := by decide +kernel
theorem dX5_listed_88 : decode cX5_listed 88 = .ok (.goto 4, 3) := by decide +kernel
theorem dX5_listed_91 : decode cX5_listed 91 = .ok (.iconst (-1), 1) := by decide +kernel
theorem dX5_listed_92 : decode cX5_listed 92 = .ok (.ireturn, 1) := by decide +kernel
set_option maxRecDepth 20000 in
theorem ggX5_programs_X5_isKind : GoodIn wsX5_programs wsX5_isKind := goodIn_r _ [5, 6, 7, 8, 4, 9, 25, 26, 27, 28, 29, 30, 31, 32, 33, 34, 35, 36, 37, 38, 39, 40, 41, 42, 43, 44, 45, 46, 47, 48] (by decide +kernel) (by decide +kernel)
set_option maxRecDepth 20000 in
theorem gX5_programs_X5_isKind : GoodIn wsX5_programs (wsV RX5 76 RX5 yX5_isKind wsX5_isKind) := goodIn_app (goodIn_of _ (by decide +kernel)) ggX5_programs_X5_isKind
