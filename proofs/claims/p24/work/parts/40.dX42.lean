theorem dX4_byName_5 : decode cX4_byName 5 = .ok (.getfield 19, 3) := by decide +kernel
theorem dX4_byName_8 : decode cX4_byName 8 = .ok (.aload_n 0, 1) := by decide +kernel
theorem dX4_byName_9 : decode cX4_byName 9 = .ok (.getfield 10, 3) := by decide +kernel
theorem dX4_byName_12 : decode cX4_byName 12 = .ok (.iconst (-1), 1) := by decide +kernel
theorem dX4_byName_13 : decode cX4_byName 13 = .ok (.invokevirtual 158, 3) := by decide +kernel
theorem dX4_byName_16 : decode cX4_byName 16 = .ok (.invokevirtual 162, 3) := by decide +kernel
theorem dX4_byName_19 : decode cX4_byName 19 = .ok (.ireturn, 1) := by decide +kernel
set_option maxRecDepth 20000 in
theorem ggX4_byBytes_X0_provingRule : GoodIn wsX4_byBytes wsX0_provingRule := goodIn_r _ [6, 7, 8, 9, 10, 11, 5, 12, 13, 14, 15, 16, 17, 18, 19, 20, 21, 22, 23, 24, 25, 26, 27, 28, 29, 43, 44, 45, 46, 47, 48, 49, 50, 51, 52, 53, 54] (by decide +kernel) (by decide +kernel)
set_option maxRecDepth 20000 in
theorem gX4_byBytes_X0_provingRule : GoodIn wsX4_byBytes (wsV RX4 165 RX0 yX0_provingRule wsX0_provingRule) := goodIn_app (goodIn_of _ (by decide +kernel)) ggX4_byBytes_X0_provingRule
set_option maxRecDepth 20000 in
theorem ggX4_byBytes_X0_kindOf : GoodIn wsX4_byBytes wsX0_kindOf := goodIn_r _ [33, 34, 35, 36, 37, 5, 38, 7, 43, 44, 45, 46, 47, 48, 49, 50, 51, 52, 53, 54] (by decide +kernel) (by decide +kernel)
set_option maxRecDepth 20000 in
theorem gX4_byBytes_X0_kindOf : GoodIn wsX4_byBytes (wsV RX4 168 RX0 yX0_kindOf wsX0_kindOf) := goodIn_app (goodIn_of _ (by decide +kernel)) ggX4_byBytes_X0_kindOf
theorem dX4_byBytes_0 : decode cX4_byBytes 0 = .ok (.aload_n 0, 1) := by decide +kernel
theorem dX4_byBytes_1 : decode cX4_byBytes 1 = .ok (.getfield 26, 3) := by decide +kernel
theorem dX4_byBytes_4 : decode cX4_byBytes 4 = .ok (.aload_n 0, 1) := by decide +kernel
theorem dX4_byBytes_5 : decode cX4_byBytes 5 = .ok (.getfield 26, 3) := by decide +kernel
theorem dX4_byBytes_8 : decode cX4_byBytes 8 = .ok (.invokevirtual 165, 3) := by decide +kernel
theorem dX4_byBytes_11 : decode cX4_byBytes 11 = .ok (.invokevirtual 168, 3) := by decide +kernel
theorem dX4_byBytes_14 : decode cX4_byBytes 14 = .ok (.ireturn, 1) := by decide +kernel
set_option maxRecDepth 20000 in
theorem ggX4_guess_X0_provingRule : GoodIn wsX4_guess wsX0_provingRule := goodIn_r _ [8, 9, 10, 11, 12, 13, 7, 14, 15, 16, 17, 18, 19, 20, 21, 22, 23, 24, 25, 26, 27, 28, 29, 30, 31, 120, 121, 122, 123, 124, 125, 126, 127, 128, 129, 130, 131] (by decide +kernel) (by decide +kernel)
set_option maxRecDepth 20000 in
theorem gX4_guess_X0_provingRule : GoodIn wsX4_guess (wsV RX4 165 RX0 yX0_provingRule wsX0_provingRule) := goodIn_app (goodIn_of _ (by decide +kernel)) ggX4_guess_X0_provingRule
set_option maxRecDepth 20000 in
theorem ggX4_guess_X2_firstFitting : GoodIn wsX4_guess wsX2_firstFitting := goodIn_r _ [36, 37, 38, 39, 40, 41, 35, 42, 43, 44, 45, 46, 47, 48, 49, 50, 51, 52, 53, 54, 55, 56, 57, 58, 59, 60, 61, 62, 63, 64, 65, 66, 67, 68, 69, 70, 71, 72, 73, 74, 75, 76, 77, 78, 79, 80, 81, 82, 132, 133, 134, 135, 136, 137, 138, 139, 140, 141, 142, 143] (by decide +kernel) (by decide +kernel)
set_option maxRecDepth 20000 in
theorem gX4_guess_X2_firstFitting : GoodIn wsX4_guess (wsV RX4 158 RX2 yX2_firstFitting wsX2_firstFitting) := goodIn_app (goodIn_of _ (by decide +kernel)) ggX4_guess_X2_firstFitting
set_option maxRecDepth 20000 in
theorem ggX4_guess_X4_guessWithBytes : GoodIn wsX4_guess wsX4_guessWithBytes := goodIn_r _ [87, 1, 2, 3, 88, 89, 90, 7, 91, 92, 93, 94, 95, 96, 9, 32, 33, 34, 35, 36, 37, 38, 39, 40, 41, 42, 43, 44, 45, 46, 47, 48, 49, 50, 51, 52, 53, 54, 55, 56, 57, 58, 59, 60, 61, 62, 63, 64, 65, 66, 67, 68, 69, 70, 71, 72, 73, 74, 75, 76, 77, 78, 79, 80, 81, 82, 97, 98, 99, 100, 101, 102, 103, 104, 105, 106, 107, 108, 10, 116, 117, 118, 119, 120, 121, 122, 123, 124, 125, 126, 127, 128, 129, 130, 131, 132, 133, 134, 135, 136, 137, 138, 139, 140, 141, 142, 143] (by decide +kernel) (by decide +kernel)
set_option maxRecDepth 20000 in
theorem gX4_guess_X4_guessWithBytes : GoodIn wsX4_guess (wsV RX4 169 RX4 yX4_guessWithBytes wsX4_guessWithBytes) := goodIn_app (goodIn_of _ (by decide +kernel)) ggX4_guess_X4_guessWithBytes
set_option maxRecDepth 20000 in
theorem ggX4_guess_X2_kindOf : GoodIn wsX4_guess wsX2_kindOf := goodIn_r _ [100, 49, 101, 102, 103, 35, 104, 37, 38, 132, 133, 134, 135, 136, 137, 138, 139, 140, 141] (by decide +kernel) (by decide +kernel)
set_option maxRecDepth 20000 in
theorem gX4_guess_X2_kindOf : GoodIn wsX4_guess (wsV RX4 162 RX2 yX2_kindOf wsX2_kindOf) := goodIn_app (goodIn_of _ (by decide +kernel)) ggX4_guess_X2_kindOf
set_option maxRecDepth 20000 in
theorem ggX4_guess_X0_isText : GoodIn wsX4_guess wsX0_isText := goodIn_r _ [112, 24, 25, 113, 114, 7, 115, 120, 121, 122, 123, 124, 125, 126, 127, 128, 129, 130, 131] (by decide +kernel) (by decide +kernel)
set_option maxRecDepth 20000 in
theorem gX4_guess_X0_isText : GoodIn wsX4_guess (wsV RX4 172 RX0 yX0_isText wsX0_isText) := goodIn_app (goodIn_of _ (by decide +kernel)) ggX4_guess_X0_isText
theorem dX4_guess_0 : decode cX4_guess 0 = .ok (.aload_n 0, 1) := by decide +kernel
theorem dX4_guess_1 : decode cX4_guess 1 = .ok (.getfield 26, 3) := by decide +kernel
theorem dX4_guess_4 : decode cX4_guess 4 = .ok (.invokevirtual 165, 3) := by decide +kernel
theorem dX4_guess_7 : decode cX4_guess 7 = .ok (.istore_n 1, 1) := by decide +kernel
theorem dX4_guess_8 : decode cX4_guess 8 = .ok (.aload_n 0, 1) := by decide +kernel
theorem dX4_guess_9 : decode cX4_guess 9 = .ok (.getfield 19, 3) := by decide +kernel
theorem dX4_guess_12 : decode cX4_guess 12 = .ok (.aload_n 0, 1) := by decide +kernel
theorem dX4_guess_13 : decode cX4_guess 13 = .ok (.getfield 10, 3) := by decide +kernel
theorem dX4_guess_16 : decode cX4_guess 16 = .ok (.iconst (-1), 1) := by decide +kernel
theorem dX4_guess_17 : decode cX4_guess 17 = .ok (.invokevirtual 158, 3) := by decide +kernel
theorem dX4_guess_20 : decode cX4_guess 20 = .ok (.istore_n 2, 1) := by decide +kernel
theorem dX4_guess_21 : decode cX4_guess 21 = .ok (.iload_n 1, 1) := by decide +kernel
theorem dX4_guess_22 : decode cX4_guess 22 = .ok (.iconst (-1), 1) := by decide +kernel
theorem dX4_guess_23 : decode cX4_guess 23 = .ok (.if_icmp .eq 10, 3) := by decide +kernel
theorem dX4_guess_26 : decode cX4_guess 26 = .ok (.aload_n 0, 1) := by decide +kernel
theorem dX4_guess_27 : decode cX4_guess 27 = .ok (.iload_n 1, 1) := by decide +kernel
theorem dX4_guess_28 : decode cX4_guess 28 = .ok (.iload_n 2, 1) := by decide +kernel
theorem dX4_guess_29 : decode cX4_guess 29 = .ok (.invokevirtual 169, 3) := by decide +kernel
theorem dX4_guess_32 : decode cX4_guess 32 = .ok (.ireturn, 1) := by decide +kernel
theorem dX4_guess_33 : decode cX4_guess 33 = .ok (.iload_n 2, 1) := by decide +kernel
theorem dX4_guess_34 : decode cX4_guess 34 = .ok (.iconst (-1), 1) := by decide +kernel
theorem dX4_guess_35 : decode cX4_guess 35 = .ok (.if_icmp .eq 12, 3) := by decide +kernel
theorem dX4_guess_38 : decode cX4_guess 38 = .ok (.aload_n 0, 1) := by decide +kernel
theorem dX4_guess_39 : decode cX4_guess 39 = .ok (.getfield 19, 3) := by decide +kernel
theorem dX4_guess_42 : decode cX4_guess 42 = .ok (.iload_n 2, 1) := by decide +kernel
theorem dX4_guess_43 : decode cX4_guess 43 = .ok (.invokevirtual 162, 3) := by decide +kernel
theorem dX4_guess_46 : decode cX4_guess 46 = .ok (.ireturn, 1) := by decide +kernel
theorem dX4_guess_47 : decode cX4_guess 47 = .ok (.aload_n 0, 1) := by decide +kernel
theorem dX4_guess_48 : decode cX4_guess 48 = .ok (.getfield 26, 3) := by decide +kernel
theorem dX4_guess_51 : decode cX4_guess 51 = .ok (.invokevirtual 172, 3) := by decide +kernel
theorem dX4_guess_54 : decode cX4_guess 54 = .ok (.ifCond .eq 7, 3) := by decide +kernel
theorem dX4_guess_57 : decode cX4_guess 57 = .ok (.iconst (-1), 1) := by decide +kernel
theorem dX4_guess_58 : decode cX4_guess 58 = .ok (.goto 5, 3) := by decide +kernel
theorem dX4_guess_61 : decode cX4_guess 61 = .ok (.bipush (-2), 2) := by decide +kernel
theorem dX4_guess_63 : decode cX4_guess 63 = .ok (.ireturn, 1) := by decide +kernel
set_option maxRecDepth 20000 in
theorem ggX4_guessWithBytes_X0_kindOf : GoodIn wsX4_guessWithBytes wsX0_kindOf := goodIn_r _ [8, 9, 10, 11, 12, 7, 13, 14, 83, 84, 85, 86, 87, 88, 89, 90, 91, 92, 93, 94] (by decide +kernel) (by decide +kernel)
set_option maxRecDepth 20000 in
theorem gX4_guessWithBytes_X0_kindOf : GoodIn wsX4_guessWithBytes (wsV RX4 168 RX0 yX0_kindOf wsX0_kindOf) := goodIn_app (goodIn_of _ (by decide +kernel)) ggX4_guessWithBytes_X0_kindOf
set_option maxRecDepth 20000 in
theorem ggX4_guessWithBytes_X2_firstFitting : GoodIn wsX4_guessWithBytes wsX2_firstFitting := goodIn_r _ [19, 20, 21, 22, 23, 24, 18, 25, 26, 27, 28, 29, 30, 31, 32, 33, 34, 35, 36, 37, 38, 39, 40, 41, 42, 43, 44, 45, 46, 47, 48, 49, 50, 51, 52, 53, 54, 55, 56, 57, 58, 59, 60, 61, 62, 63, 64, 65, 95, 96, 97, 98, 99, 100, 101, 102, 103, 104, 105, 106] (by decide +kernel) (by decide +kernel)
set_option maxRecDepth 20000 in
theorem gX4_guessWithBytes_X2_firstFitting : GoodIn wsX4_guessWithBytes (wsV RX4 158 RX2 yX2_firstFitting wsX2_firstFitting) := goodIn_app (goodIn_of _ (by decide +kernel)) ggX4_guessWithBytes_X2_firstFitting
set_option maxRecDepth 20000 in
theorem ggX4_guessWithBytes_X2_kindOf : GoodIn wsX4_guessWithBytes wsX2_kindOf := goodIn_r _ [69, 32, 70, 71, 72, 18, 73, 20, 21, 95, 96, 97, 98, 99, 100, 101, 102, 103, 104] (by decide +kernel) (by decide +kernel)
set_option maxRecDepth 20000 in
theorem gX4_guessWithBytes_X2_kindOf : GoodIn wsX4_guessWithBytes (wsV RX4 162 RX2 yX2_kindOf wsX2_kindOf) := goodIn_app (goodIn_of _ (by decide +kernel)) ggX4_guessWithBytes_X2_kindOf
set_option maxRecDepth 20000 in
theorem ggX4_guessWithBytes_X0_isStrong : GoodIn wsX4_guessWithBytes wsX0_isStrong := goodIn_r _ [77, 78, 10, 11, 12, 7, 13, 14, 83, 84, 85, 86, 87, 88, 89, 90, 91, 92, 93, 94] (by decide +kernel) (by decide +kernel)
set_option maxRecDepth 20000 in
theorem gX4_guessWithBytes_X0_isStrong : GoodIn wsX4_guessWithBytes (wsV RX4 175 RX0 yX0_isStrong wsX0_isStrong) := goodIn_app (goodIn_of _ (by decide +kernel)) ggX4_guessWithBytes_X0_isStrong
theorem dX4_guessWithBytes_0 : decode cX4_guessWithBytes 0 = .ok (.aload_n 0, 1) := by decide +kernel
theorem dX4_guessWithBytes_1 : decode cX4_guessWithBytes 1 = .ok (.getfield 26, 3) := by decide +kernel
theorem dX4_guessWithBytes_4 : decode cX4_guessWithBytes 4 = .ok (.iload_n 1, 1) := by decide +kernel
theorem dX4_guessWithBytes_5 : decode cX4_guessWithBytes 5 = .ok (.invokevirtual 168, 3) := by decide +kernel
theorem dX4_guessWithBytes_8 : decode cX4_guessWithBytes 8 = .ok (.istore_n 3, 1) := by decide +kernel
theorem dX4_guessWithBytes_9 : decode cX4_guessWithBytes 9 = .ok (.aload_n 0, 1) := by decide +kernel
theorem dX4_guessWithBytes_10 : decode cX4_guessWithBytes 10 = .ok (.getfield 19, 3) := by decide +kernel
theorem dX4_guessWithBytes_13 : decode cX4_guessWithBytes 13 = .ok (.aload_n 0, 1) := by decide +kernel
theorem dX4_guessWithBytes_14 : decode cX4_guessWithBytes 14 = .ok (.getfield 10, 3) := by decide +kernel
theorem dX4_guessWithBytes_17 : decode cX4_guessWithBytes 17 = .ok (.iload_n 3, 1) := by decide +kernel
theorem dX4_guessWithBytes_18 : decode cX4_guessWithBytes 18 = .ok (.invokevirtual 158, 3) := by decide +kernel
theorem dX4_guessWithBytes_21 : decode cX4_guessWithBytes 21 = .ok (.istore 4, 2) := by decide +kernel
theorem dX4_guessWithBytes_23 : decode cX4_guessWithBytes 23 = .ok (.iload 4, 2) := by decide +kernel
theorem dX4_guessWithBytes_25 : decode cX4_guessWithBytes 25 = .ok (.iconst (-1), 1) := by decide +kernel
theorem dX4_guessWithBytes_26 : decode cX4_guessWithBytes 26 = .ok (.if_icmp .eq 13, 3) := by decide +kernel
theorem dX4_guessWithBytes_29 : decode cX4_guessWithBytes 29 = .ok (.aload_n 0, 1) := by decide +kernel
theorem dX4_guessWithBytes_30 : decode cX4_guessWithBytes 30 = .ok (.getfield 19, 3) := by decide +kernel
theorem dX4_guessWithBytes_33 : decode cX4_guessWithBytes 33 = .ok (.iload 4, 2) := by decide +kernel
theorem dX4_guessWithBytes_35 : decode cX4_guessWithBytes 35 = .ok (.invokevirtual 162, 3) := by decide +kernel
theorem dX4_guessWithBytes_38 : decode cX4_guessWithBytes 38 = .ok (.ireturn, 1) := by decide +kernel
theorem dX4_guessWithBytes_39 : decode cX4_guessWithBytes 39 = .ok (.iload_n 2, 1) := by decide +kernel
theorem dX4_guessWithBytes_40 : decode cX4_guessWithBytes 40 = .ok (.iconst (-1), 1) := by decide +kernel
theorem dX4_guessWithBytes_41 : decode cX4_guessWithBytes 41 = .ok (.if_icmp .eq 14, 3) := by decide +kernel
theorem dX4_guessWithBytes_44 : decode cX4_guessWithBytes 44 = .ok (.aload_n 0, 1) := by decide +kernel
theorem dX4_guessWithBytes_45 : decode cX4_guessWithBytes 45 = .ok (.getfield 26, 3) := by decide +kernel
theorem dX4_guessWithBytes_48 : decode cX4_guessWithBytes 48 = .ok (.iload_n 1, 1) := by decide +kernel
theorem dX4_guessWithBytes_49 : decode cX4_guessWithBytes 49 = .ok (.invokevirtual 175, 3) := by decide +kernel
theorem dX4_guessWithBytes_52 : decode cX4_guessWithBytes 52 = .ok (.ifCond .eq 5, 3) := by decide +kernel
theorem dX4_guessWithBytes_55 : decode cX4_guessWithBytes 55 = .ok (.iload_n 3, 1) := by decide +kernel
theorem dX4_guessWithBytes_56 : decode cX4_guessWithBytes 56 = .ok (.ireturn, 1) := by decide +kernel
theorem dX4_guessWithBytes_57 : decode cX4_guessWithBytes 57 = .ok (.aload_n 0, 1) := by decide +kernel
theorem dX4_guessWithBytes_58 : decode cX4_guessWithBytes 58 = .ok (.getfield 19, 3) := by decide +kernel
theorem dX4_guessWithBytes_61 : decode cX4_guessWithBytes 61 = .ok (.iload_n 2, 1) := by decide +kernel
theorem dX4_guessWithBytes_62 : decode cX4_guessWithBytes 62 = .ok (.invokevirtual 162, 3) := by decide +kernel
theorem dX4_guessWithBytes_65 : decode cX4_guessWithBytes 65 = .ok (.ireturn, 1) := by decide +kernel
set_option maxRecDepth 20000 in
theorem ggX4_requireKind_X1_has : GoodIn wsX4_requireKind wsX1_has := goodIn_r _ [8, 9, 14, 15] (by decide +kernel) (by decide +kernel)
set_option maxRecDepth 20000 in
theorem gX4_requireKind_X1_has : GoodIn wsX4_requireKind (wsV RX4 37 RX1 yX1_has wsX1_has) := goodIn_app (goodIn_of _ (by decide +kernel)) ggX4_requireKind_X1_has
theorem dX4_requireKind_0 : decode cX4_requireKind 0 = .ok (.aload_n 0, 1) := by decide +kernel
theorem dX4_requireKind_1 : decode cX4_requireKind 1 = .ok (.getfield 10, 3) := by decide +kernel
theorem dX4_requireKind_4 : decode cX4_requireKind 4 = .ok (.iload_n 1, 1) := by decide +kernel
theorem dX4_requireKind_5 : decode cX4_requireKind 5 = .ok (.invokevirtual 37, 3) := by decide +kernel
theorem dX4_requireKind_8 : decode cX4_requireKind 8 = .ok (.ifCond .ne 13, 3) := by decide +kernel
theorem dX4_requireKind_11 : decode cX4_requireKind 11 = .ok (.new 41, 3) := by decide +kernel
theorem dX4_requireKind_14 : decode cX4_requireKind 14 = .ok (.dup, 1) := by decide +kernel
theorem dX4_requireKind_15 : decode cX4_requireKind 15 = .ok (.ldc 197, 2) := by decide +kernel
theorem dX4_requireKind_17 : decode cX4_requireKind 17 = .ok (.invokespecial 45, 3) := by decide +kernel
theorem dX4_requireKind_20 : decode cX4_requireKind 20 = .ok (.athrow, 1) := by decide +kernel
theorem dX4_requireKind_21 : decode cX4_requireKind 21 = .ok (.return_, 1) := by decide +kernel
set_option maxRecDepth 20000 in
theorem ggX4_requirePattern_X2_hasPattern : GoodIn wsX4_requirePattern wsX2_hasPattern := goodIn_r _ [8, 9, 10, 15, 16, 17, 18, 19, 20, 21, 22, 23, 24] (by decide +kernel) (by decide +kernel)
set_option maxRecDepth 20000 in
theorem gX4_requirePattern_X2_hasPattern : GoodIn wsX4_requirePattern (wsV RX4 199 RX2 yX2_hasPattern wsX2_hasPattern) := goodIn_app (goodIn_of _ (by decide +kernel)) ggX4_requirePattern_X2_hasPattern
theorem dX4_requirePattern_0 : decode cX4_requirePattern 0 = .ok (.aload_n 0, 1) := by decide +kernel
theorem dX4_requirePattern_1 : decode cX4_requirePattern 1 = .ok (.getfield 19, 3) := by decide +kernel
theorem dX4_requirePattern_4 : decode cX4_requirePattern 4 = .ok (.iload_n 1, 1) := by decide +kernel
theorem dX4_requirePattern_5 : decode cX4_requirePattern 5 = .ok (.invokevirtual 199, 3) := by decide +kernel
theorem dX4_requirePattern_8 : decode cX4_requirePattern 8 = .ok (.ifCond .ne 13, 3) := by decide +kernel
theorem dX4_requirePattern_11 : decode cX4_requirePattern 11 = .ok (.new 41, 3) := by decide +kernel
theorem dX4_requirePattern_14 : decode cX4_requirePattern 14 = .ok (.dup, 1) := by decide +kernel
theorem dX4_requirePattern_15 : decode cX4_requirePattern 15 = .ok (.ldc 202, 2) := by decide +kernel
theorem dX4_requirePattern_17 : decode cX4_requirePattern 17 = .ok (.invokespecial 45, 3) := by decide +kernel
theorem dX4_requirePattern_20 : decode cX4_requirePattern 20 = .ok (.athrow, 1) := by decide +kernel
theorem dX4_requirePattern_21 : decode cX4_requirePattern 21 = .ok (.return_, 1) := by decide +kernel
set_option maxRecDepth 20000 in
theorem ggX4_requireRule_X0_hasRule : GoodIn wsX4_requireRule wsX0_hasRule := goodIn_r _ [8, 9, 14, 15, 16, 17, 18, 19, 20, 21, 22, 23, 24, 25] (by decide +kernel) (by decide +kernel)
set_option maxRecDepth 20000 in
theorem gX4_requireRule_X0_hasRule : GoodIn wsX4_requireRule (wsV RX4 204 RX0 yX0_hasRule wsX0_hasRule) := goodIn_app (goodIn_of _ (by decide +kernel)) ggX4_requireRule_X0_hasRule
theorem dX4_requireRule_0 : decode cX4_requireRule 0 = .ok (.aload_n 0, 1) := by decide +kernel
theorem dX4_requireRule_1 : decode cX4_requireRule 1 = .ok (.getfield 26, 3) := by decide +kernel
theorem dX4_requireRule_4 : decode cX4_requireRule 4 = .ok (.iload_n 1, 1) := by decide +kernel
theorem dX4_requireRule_5 : decode cX4_requireRule 5 = .ok (.invokevirtual 204, 3) := by decide +kernel
theorem dX4_requireRule_8 : decode cX4_requireRule 8 = .ok (.ifCond .ne 13, 3) := by decide +kernel
theorem dX4_requireRule_11 : decode cX4_requireRule 11 = .ok (.new 41, 3) := by decide +kernel
theorem dX4_requireRule_14 : decode cX4_requireRule 14 = .ok (.dup, 1) := by decide +kernel
theorem dX4_requireRule_15 : decode cX4_requireRule 15 = .ok (.ldc 207, 2) := by decide +kernel
theorem dX4_requireRule_17 : decode cX4_requireRule 17 = .ok (.invokespecial 45, 3) := by decide +kernel
theorem dX4_requireRule_20 : decode cX4_requireRule 20 = .ok (.athrow, 1) := by decide +kernel
theorem dX4_requireRule_21 : decode cX4_requireRule 21 = .ok (.return_, 1) := by decide +kernel
set_option maxRecDepth 20000 in
theorem ggX4_requireRange_X4_requireArgument : GoodIn wsX4_requireRange wsX4_requireArgument := goodIn_ca (goodIn_r _ [4, 5, 6] (by decide +kernel) (by decide +kernel)) (goodIn_sub (fun _ h => List.mem_cons_of_mem _ (List.mem_append_right _ h)) (by decide +kernel))
set_option maxRecDepth 20000 in
theorem gX4_requireRange_X4_requireArgument : GoodIn wsX4_requireRange (va_wsS RX4 69 yX4_requireArgument wsX4_requireArgument) := goodIn_app (goodIn_of _ (by decide +kernel)) ggX4_requireRange_X4_requireArgument
theorem dX4_requireRange_0 : decode cX4_requireRange 0 = .ok (.iload_n 0, 1) := by decide +kernel
theorem dX4_requireRange_1 : decode cX4_requireRange 1 = .ok (.iload_n 1, 1) := by decide +kernel
theorem dX4_requireRange_2 : decode cX4_requireRange 2 = .ok (.if_icmp .lt 12, 3) := by decide +kernel
theorem dX4_requireRange_5 : decode cX4_requireRange 5 = .ok (.iload_n 0, 1) := by decide +kernel
theorem dX4_requireRange_6 : decode cX4_requireRange 6 = .ok (.iload_n 2, 1) := by decide +kernel
theorem dX4_requireRange_7 : decode cX4_requireRange 7 = .ok (.if_icmp .gt 7, 3) := by decide +kernel
theorem dX4_requireRange_10 : decode cX4_requireRange 10 = .ok (.iconst 1, 1) := by decide +kernel
theorem dX4_requireRange_11 : decode cX4_requireRange 11 = .ok (.goto 4, 3) := by decide +kernel
theorem dX4_requireRange_14 : decode cX4_requireRange 14 = .ok (.iconst 0, 1) := by decide +kernel
theorem dX4_requireRange_15 : decode cX4_requireRange 15 = .ok (.invokestatic 69, 3) := by decide +kernel
theorem dX4_requireRange_18 : decode cX4_requireRange 18 = .ok (.return_, 1) := by decide +kernel
theorem dX4_requireArgument_0 : decode cX4_requireArgument 0 = .ok (.iload_n 0, 1) := by decide +kernel
theorem dX4_requireArgument_1 : decode cX4_requireArgument 1 = .ok (.ifCond .ne 13, 3) := by decide +kernel
theorem dX4_requireArgument_4 : decode cX4_requireArgument 4 = .ok (.new 209, 3) := by decide +kernel
theorem dX4_requireArgument_7 : decode cX4_requireArgument 7 = .ok (.dup, 1) := by decide +kernel
theorem dX4_requireArgument_8 : decode cX4_requireArgument 8 = .ok (.ldc 211, 2) := by decide +kernel
theorem dX4_requireArgument_10 : decode cX4_requireArgument 10 = .ok (.invokespecial 213, 3) := by decide +kernel
theorem dX4_requireArgument_13 : decode cX4_requireArgument 13 = .ok (.athrow, 1) := by decide +kernel
theorem dX4_requireArgument_14 : decode cX4_requireArgument 14 = .ok (.return_, 1) := by decide +kernel
theorem dX4_tokenAt_0 : decode cX4_tokenAt 0 = .ok (.iload_n 0, 1) := by decide +kernel
theorem dX4_tokenAt_1 : decode cX4_tokenAt 1 = .ok (.iconst 4, 1) := by decide +kernel
theorem dX4_tokenAt_2 : decode cX4_tokenAt 2 = .ok (.if_icmp .ge 7, 3) := by decide +kernel
theorem dX4_tokenAt_5 : decode cX4_tokenAt 5 = .ok (.iload_n 1, 1) := by decide +kernel
theorem dX4_tokenAt_6 : decode cX4_tokenAt 6 = .ok (.goto 4, 3) := by decide +kernel
theorem dX4_tokenAt_9 : decode cX4_tokenAt 9 = .ok (.iload_n 2, 1) := by decide +kernel
theorem dX4_tokenAt_10 : decode cX4_tokenAt 10 = .ok (.istore_n 3, 1) := by decide +kernel
theorem dX4_tokenAt_11 : decode cX4_tokenAt 11 = .ok (.iload_n 0, 1) := by decide +kernel
theorem dX4_tokenAt_12 : decode cX4_tokenAt 12 = .ok (.iconst 4, 1) := by decide +kernel
theorem dX4_tokenAt_13 : decode cX4_tokenAt 13 = .ok (.if_icmp .ge 7, 3) := by decide +kernel
theorem dX4_tokenAt_16 : decode cX4_tokenAt 16 = .ok (.iload_n 0, 1) := by decide +kernel
theorem dX4_tokenAt_17 : decode cX4_tokenAt 17 = .ok (.goto 6, 3) := by decide +kernel
theorem dX4_tokenAt_20 : decode cX4_tokenAt 20 = .ok (.iload_n 0, 1) := by decide +kernel
theorem dX4_tokenAt_21 : decode cX4_tokenAt 21 = .ok (.iconst 4, 1) := by decide +kernel
theorem dX4_tokenAt_22 : decode cX4_tokenAt 22 = .ok (.isub, 1) := by decide +kernel
theorem dX4_tokenAt_23 : decode cX4_tokenAt 23 = .ok (.istore 4, 2) := by decide +kernel
theorem dX4_tokenAt_25 : decode cX4_tokenAt 25 = .ok (.iconst 0, 1) := by decide +kernel
theorem dX4_tokenAt_26 : decode cX4_tokenAt 26 = .ok (.istore 5, 2) := by decide +kernel
theorem dX4_tokenAt_28 : decode cX4_tokenAt 28 = .ok (.iload 5, 2) := by decide +kernel
theorem dX4_tokenAt_30 : decode cX4_tokenAt 30 = .ok (.iload 4, 2) := by decide +kernel
theorem dX4_tokenAt_32 : decode cX4_tokenAt 32 = .ok (.if_icmp .ge 14, 3) := by decide +kernel
theorem dX4_tokenAt_35 : decode cX4_tokenAt 35 = .ok (.iload_n 3, 1) := by decide +kernel
theorem dX4_tokenAt_36 : decode cX4_tokenAt 36 = .ok (.bipush 100, 2) := by decide +kernel
theorem dX4_tokenAt_38 : decode cX4_tokenAt 38 = .ok (.idiv, 1) := by decide +kernel
theorem dX4_tokenAt_39 : decode cX4_tokenAt 39 = .ok (.istore_n 3, 1) := by decide +kernel
theorem dX4_tokenAt_40 : decode cX4_tokenAt 40 = .ok (.iinc 5 1, 3) := by decide +kernel
theorem dX4_tokenAt_43 : decode cX4_tokenAt 43 = .ok (.goto (-15), 3) := by decide +kernel
theorem dX4_tokenAt_46 : decode cX4_tokenAt 46 = .ok (.iload_n 3, 1) := by decide +kernel
theorem dX4_tokenAt_47 : decode cX4_tokenAt 47 = .ok (.bipush 100, 2) := by decide +kernel
theorem dX4_tokenAt_49 : decode cX4_tokenAt 49 = .ok (.irem, 1) := by decide +kernel
theorem dX4_tokenAt_50 : decode cX4_tokenAt 50 = .ok (.ireturn, 1) := by decide +kernel
