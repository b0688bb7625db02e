set_option maxRecDepth 20000 in
theorem ggX5_programs_X5_asked : GoodIn wsX5_programs wsX5_asked := goodIn_r _ [13, 14, 25, 26, 27, 28, 29, 30, 31, 32, 33, 34, 35, 36, 37, 38, 39, 40, 41, 42, 43, 44, 45, 46, 47, 48] (by decide +kernel) (by decide +kernel)
set_option maxRecDepth 20000 in
theorem gX5_programs_X5_asked : GoodIn wsX5_programs (wsV RX5 97 RX5 yX5_asked wsX5_asked) := goodIn_app (goodIn_of _ (by decide +kernel)) ggX5_programs_X5_asked
set_option maxRecDepth 20000 in
theorem ggX5_programs_X5_listed : GoodIn wsX5_programs wsX5_listed := goodIn_r _ [18, 19, 20, 21, 22, 4, 23, 24, 25, 26, 27, 28, 29, 30, 31, 32, 33, 34, 35, 36, 37, 38, 39, 40, 41, 42, 43, 44, 45, 46, 47, 48] (by decide +kernel) (by decide +kernel)
set_option maxRecDepth 20000 in
theorem gX5_programs_X5_listed : GoodIn wsX5_programs (wsV RX5 148 RX5 yX5_listed wsX5_listed) := goodIn_app (goodIn_of _ (by decide +kernel)) ggX5_programs_X5_listed
theorem dX5_programs_0 : decode cX5_programs 0 = .ok (.aload_n 0, 1) := by decide +kernel
theorem dX5_programs_1 : decode cX5_programs 1 = .ok (.aload_n 0, 1) := by decide +kernel
theorem dX5_programs_2 : decode cX5_programs 2 = .ok (.iload_n 1, 1) := by decide +kernel
theorem dX5_programs_3 : decode cX5_programs 3 = .ok (.invokevirtual 76, 3) := by decide +kernel
theorem dX5_programs_6 : decode cX5_programs 6 = .ok (.invokevirtual 97, 3) := by decide +kernel
theorem dX5_programs_9 : decode cX5_programs 9 = .ok (.ifCond .eq 12, 3) := by decide +kernel
theorem dX5_programs_12 : decode cX5_programs 12 = .ok (.aload_n 0, 1) := by decide +kernel
theorem dX5_programs_13 : decode cX5_programs 13 = .ok (.iload_n 1, 1) := by decide +kernel
theorem dX5_programs_14 : decode cX5_programs 14 = .ok (.iconst (-1), 1) := by decide +kernel
theorem dX5_programs_15 : decode cX5_programs 15 = .ok (.invokevirtual 148, 3) := by decide +kernel
theorem dX5_programs_18 : decode cX5_programs 18 = .ok (.goto 4, 3) := by decide +kernel
theorem dX5_programs_21 : decode cX5_programs 21 = .ok (.iconst 0, 1) := by decide +kernel
theorem dX5_programs_22 : decode cX5_programs 22 = .ok (.ireturn, 1) := by decide +kernel
set_option maxRecDepth 20000 in
theorem ggX5_programAt_X5_isKind : GoodIn wsX5_programAt wsX5_isKind := goodIn_r _ [5, 6, 7, 8, 4, 9, 25, 26, 27, 28, 29, 30, 31, 32, 33, 34, 35, 36, 37, 38, 39, 40, 41, 42, 43, 44, 45, 46, 47, 48] (by decide +kernel) (by decide +kernel)
set_option maxRecDepth 20000 in
theorem gX5_programAt_X5_isKind : GoodIn wsX5_programAt (wsV RX5 76 RX5 yX5_isKind wsX5_isKind) := goodIn_app (goodIn_of _ (by decide +kernel)) ggX5_programAt_X5_isKind
set_option maxRecDepth 20000 in
theorem ggX5_programAt_X5_listed : GoodIn wsX5_programAt wsX5_listed := goodIn_r _ [13, 14, 15, 16, 17, 4, 18, 19, 25, 26, 27, 28, 29, 30, 31, 32, 33, 34, 35, 36, 37, 38, 39, 40, 41, 42, 43, 44, 45, 46, 47, 48] (by decide +kernel) (by decide +kernel)
set_option maxRecDepth 20000 in
theorem gX5_programAt_X5_listed : GoodIn wsX5_programAt (wsV RX5 148 RX5 yX5_listed wsX5_listed) := goodIn_app (goodIn_of _ (by decide +kernel)) ggX5_programAt_X5_listed
set_option maxRecDepth 20000 in
theorem ggX5_programAt_X5_asked : GoodIn wsX5_programAt wsX5_asked := goodIn_r _ [23, 24, 25, 26, 27, 28, 29, 30, 31, 32, 33, 34, 35, 36, 37, 38, 39, 40, 41, 42, 43, 44, 45, 46, 47, 48] (by decide +kernel) (by decide +kernel)
set_option maxRecDepth 20000 in
theorem gX5_programAt_X5_asked : GoodIn wsX5_programAt (wsV RX5 97 RX5 yX5_asked wsX5_asked) := goodIn_app (goodIn_of _ (by decide +kernel)) ggX5_programAt_X5_asked
theorem dX5_programAt_0 : decode cX5_programAt 0 = .ok (.aload_n 0, 1) := by decide +kernel
theorem dX5_programAt_1 : decode cX5_programAt 1 = .ok (.iload_n 1, 1) := by decide +kernel
theorem dX5_programAt_2 : decode cX5_programAt 2 = .ok (.invokevirtual 76, 3) := by decide +kernel
theorem dX5_programAt_5 : decode cX5_programAt 5 = .ok (.ifCond .eq 16, 3) := by decide +kernel
theorem dX5_programAt_8 : decode cX5_programAt 8 = .ok (.iload_n 2, 1) := by decide +kernel
theorem dX5_programAt_9 : decode cX5_programAt 9 = .ok (.ifCond .lt 12, 3) := by decide +kernel
theorem dX5_programAt_12 : decode cX5_programAt 12 = .ok (.aload_n 0, 1) := by decide +kernel
theorem dX5_programAt_13 : decode cX5_programAt 13 = .ok (.iload_n 1, 1) := by decide +kernel
theorem dX5_programAt_14 : decode cX5_programAt 14 = .ok (.iload_n 2, 1) := by decide +kernel
theorem dX5_programAt_15 : decode cX5_programAt 15 = .ok (.invokevirtual 148, 3) := by decide +kernel
theorem dX5_programAt_18 : decode cX5_programAt 18 = .ok (.goto 4, 3) := by decide +kernel
theorem dX5_programAt_21 : decode cX5_programAt 21 = .ok (.iconst (-1), 1) := by decide +kernel
theorem dX5_programAt_22 : decode cX5_programAt 22 = .ok (.istore_n 3, 1) := by decide +kernel
theorem dX5_programAt_23 : decode cX5_programAt 23 = .ok (.aload_n 0, 1) := by decide +kernel
theorem dX5_programAt_24 : decode cX5_programAt 24 = .ok (.iload_n 3, 1) := by decide +kernel
theorem dX5_programAt_25 : decode cX5_programAt 25 = .ok (.iconst (-1), 1) := by decide +kernel
theorem dX5_programAt_26 : decode cX5_programAt 26 = .ok (.if_icmp .eq 7, 3) := by decide +kernel
theorem dX5_programAt_29 : decode cX5_programAt 29 = .ok (.iconst 1, 1) := by decide +kernel
theorem dX5_programAt_30 : decode cX5_programAt 30 = .ok (.goto 4, 3) := by decide +kernel
theorem dX5_programAt_33 : decode cX5_programAt 33 = .ok (.iconst 0, 1) := by decide +kernel
theorem dX5_programAt_34 : decode cX5_programAt 34 = .ok (.invokevirtual 97, 3) := by decide +kernel
theorem dX5_programAt_37 : decode cX5_programAt 37 = .ok (.ifCond .eq 7, 3) := by decide +kernel
theorem dX5_programAt_40 : decode cX5_programAt 40 = .ok (.iload_n 3, 1) := by decide +kernel
theorem dX5_programAt_41 : decode cX5_programAt 41 = .ok (.goto 4, 3) := by decide +kernel
theorem dX5_programAt_44 : decode cX5_programAt 44 = .ok (.iconst 0, 1) := by decide +kernel
theorem dX5_programAt_45 : decode cX5_programAt 45 = .ok (.ireturn, 1) := by decide +kernel
set_option maxRecDepth 20000 in
theorem ggX5_opener_X5_isKind : GoodIn wsX5_opener wsX5_isKind := goodIn_r _ [7, 8, 9, 10, 6, 11, 22, 23, 24, 25, 26, 27, 28, 29, 30, 31, 32, 33, 34, 35, 36, 37, 38, 39, 40, 41, 42, 43, 44, 45] (by decide +kernel) (by decide +kernel)
set_option maxRecDepth 20000 in
theorem gX5_opener_X5_isKind : GoodIn wsX5_opener (wsV RX5 76 RX5 yX5_isKind wsX5_isKind) := goodIn_app (goodIn_of _ (by decide +kernel)) ggX5_opener_X5_isKind
set_option maxRecDepth 20000 in
theorem ggX5_opener_X5_asked : GoodIn wsX5_opener wsX5_asked := goodIn_r _ [15, 16, 22, 23, 24, 25, 26, 27, 28, 29, 30, 31, 32, 33, 34, 35, 36, 37, 38, 39, 40, 41, 42, 43, 44, 45] (by decide +kernel) (by decide +kernel)
set_option maxRecDepth 20000 in
theorem gX5_opener_X5_asked : GoodIn wsX5_opener (wsV RX5 97 RX5 yX5_asked wsX5_asked) := goodIn_app (goodIn_of _ (by decide +kernel)) ggX5_opener_X5_asked
set_option maxRecDepth 20000 in
theorem ggX5_opener_X5_opens : GoodIn wsX5_opener wsX5_opens := goodIn_r _ [20, 21, 22, 23, 24, 25, 26, 27, 28, 29, 30, 31, 32, 33, 34, 35, 36, 37, 38, 39, 40, 41, 42, 43, 44, 45] (by decide +kernel) (by decide +kernel)
set_option maxRecDepth 20000 in
theorem gX5_opener_X5_opens : GoodIn wsX5_opener (wsV RX5 145 RX5 yX5_opens wsX5_opens) := goodIn_app (goodIn_of _ (by decide +kernel)) ggX5_opener_X5_opens
theorem dX5_opener_0 : decode cX5_opener 0 = .ok (.aload_n 0, 1) := by decide +kernel
theorem dX5_opener_1 : decode cX5_opener 1 = .ok (.aload_n 0, 1) := by decide +kernel
theorem dX5_opener_2 : decode cX5_opener 2 = .ok (.iload_n 1, 1) := by decide +kernel
theorem dX5_opener_3 : decode cX5_opener 3 = .ok (.invokevirtual 76, 3) := by decide +kernel
theorem dX5_opener_6 : decode cX5_opener 6 = .ok (.invokevirtual 97, 3) := by decide +kernel
theorem dX5_opener_9 : decode cX5_opener 9 = .ok (.ifCond .ne 5, 3) := by decide +kernel
theorem dX5_opener_12 : decode cX5_opener 12 = .ok (.iconst 0, 1) := by decide +kernel
theorem dX5_opener_13 : decode cX5_opener 13 = .ok (.ireturn, 1) := by decide +kernel
theorem dX5_opener_14 : decode cX5_opener 14 = .ok (.iload_n 1, 1) := by decide +kernel
theorem dX5_opener_15 : decode cX5_opener 15 = .ok (.istore_n 2, 1) := by decide +kernel
theorem dX5_opener_16 : decode cX5_opener 16 = .ok (.iload_n 2, 1) := by decide +kernel
theorem dX5_opener_17 : decode cX5_opener 17 = .ok (.iconst (-1), 1) := by decide +kernel
theorem dX5_opener_18 : decode cX5_opener 18 = .ok (.if_icmp .eq 60, 3) := by decide +kernel
theorem dX5_opener_21 : decode cX5_opener 21 = .ok (.iconst 0, 1) := by decide +kernel
theorem dX5_opener_22 : decode cX5_opener 22 = .ok (.istore_n 3, 1) := by decide +kernel
theorem dX5_opener_23 : decode cX5_opener 23 = .ok (.iload_n 3, 1) := by decide +kernel
theorem dX5_opener_24 : decode cX5_opener 24 = .ok (.iconst 3, 1) := by decide +kernel
theorem dX5_opener_25 : decode cX5_opener 25 = .ok (.if_icmp .ge 43, 3) := by decide +kernel
theorem dX5_opener_28 : decode cX5_opener 28 = .ok (.aload_n 0, 1) := by decide +kernel
theorem dX5_opener_29 : decode cX5_opener 29 = .ok (.getfield 62, 3) := by decide +kernel
theorem dX5_opener_32 : decode cX5_opener 32 = .ok (.bipush 14, 2) := by decide +kernel
theorem dX5_opener_34 : decode cX5_opener 34 = .ok (.iload_n 3, 1) := by decide +kernel
theorem dX5_opener_35 : decode cX5_opener 35 = .ok (.imul, 1) := by decide +kernel
theorem dX5_opener_36 : decode cX5_opener 36 = .ok (.iload_n 2, 1) := by decide +kernel
theorem dX5_opener_37 : decode cX5_opener 37 = .ok (.iadd, 1) := by decide +kernel
theorem dX5_opener_38 : decode cX5_opener 38 = .ok (.iaload, 1) := by decide +kernel
theorem dX5_opener_39 : decode cX5_opener 39 = .ok (.iconst 1, 1) := by decide +kernel
theorem dX5_opener_40 : decode cX5_opener 40 = .ok (.isub, 1) := by decide +kernel
theorem dX5_opener_41 : decode cX5_opener 41 = .ok (.istore 4, 2) := by decide +kernel
theorem dX5_opener_43 : decode cX5_opener 43 = .ok (.iload 4, 2) := by decide +kernel
theorem dX5_opener_45 : decode cX5_opener 45 = .ok (.iconst (-1), 1) := by decide +kernel
theorem dX5_opener_46 : decode cX5_opener 46 = .ok (.if_icmp .eq 16, 3) := by decide +kernel
theorem dX5_opener_49 : decode cX5_opener 49 = .ok (.aload_n 0, 1) := by decide +kernel
theorem dX5_opener_50 : decode cX5_opener 50 = .ok (.iload_n 2, 1) := by decide +kernel
theorem dX5_opener_51 : decode cX5_opener 51 = .ok (.iload 4, 2) := by decide +kernel
theorem dX5_opener_53 : decode cX5_opener 53 = .ok (.invokevirtual 145, 3) := by decide +kernel
theorem dX5_opener_56 : decode cX5_opener 56 = .ok (.ifCond .eq 6, 3) := by decide +kernel
theorem dX5_opener_59 : decode cX5_opener 59 = .ok (.iload 4, 2) := by decide +kernel
theorem dX5_opener_61 : decode cX5_opener 61 = .ok (.ireturn, 1) := by decide +kernel
theorem dX5_opener_62 : decode cX5_opener 62 = .ok (.iinc 3 1, 3) := by decide +kernel
theorem dX5_opener_65 : decode cX5_opener 65 = .ok (.goto (-42), 3) := by decide +kernel
theorem dX5_opener_68 : decode cX5_opener 68 = .ok (.aload_n 0, 1) := by decide +kernel
theorem dX5_opener_69 : decode cX5_opener 69 = .ok (.getfield 7, 3) := by decide +kernel
theorem dX5_opener_72 : decode cX5_opener 72 = .ok (.iload_n 2, 1) := by decide +kernel
theorem dX5_opener_73 : decode cX5_opener 73 = .ok (.iaload, 1) := by decide +kernel
theorem dX5_opener_74 : decode cX5_opener 74 = .ok (.istore_n 2, 1) := by decide +kernel
theorem dX5_opener_75 : decode cX5_opener 75 = .ok (.goto (-59), 3) := by decide +kernel
theorem dX5_opener_78 : decode cX5_opener 78 = .ok (.iconst (-1), 1) := by decide +kernel
theorem dX5_opener_79 : decode cX5_opener 79 = .ok (.ireturn, 1) := by decide +kernel
