theorem dX3_setDefaultOf_0 : decode cX3_setDefaultOf 0 = .ok (.iload_n 1, 1) := by decide +kernel
theorem dX3_setDefaultOf_1 : decode cX3_setDefaultOf 1 = .ok (.iload_n 2, 1) := by decide +kernel
theorem dX3_setDefaultOf_2 : decode cX3_setDefaultOf 2 = .ok (.invokestatic 24, 3) := by decide +kernel
theorem dX3_setDefaultOf_5 : decode cX3_setDefaultOf 5 = .ok (.istore 4, 2) := by decide +kernel
theorem dX3_setDefaultOf_7 : decode cX3_setDefaultOf 7 = .ok (.aload_n 0, 1) := by decide +kernel
theorem dX3_setDefaultOf_8 : decode cX3_setDefaultOf 8 = .ok (.getfield 15, 3) := by decide +kernel
theorem dX3_setDefaultOf_11 : decode cX3_setDefaultOf 11 = .ok (.iload 4, 2) := by decide +kernel
theorem dX3_setDefaultOf_13 : decode cX3_setDefaultOf 13 = .ok (.iaload, 1) := by decide +kernel
theorem dX3_setDefaultOf_14 : decode cX3_setDefaultOf 14 = .ok (.istore 5, 2) := by decide +kernel
theorem dX3_setDefaultOf_16 : decode cX3_setDefaultOf 16 = .ok (.aload_n 0, 1) := by decide +kernel
theorem dX3_setDefaultOf_17 : decode cX3_setDefaultOf 17 = .ok (.getfield 15, 3) := by decide +kernel
theorem dX3_setDefaultOf_20 : decode cX3_setDefaultOf 20 = .ok (.iload 4, 2) := by decide +kernel
theorem dX3_setDefaultOf_22 : decode cX3_setDefaultOf 22 = .ok (.iload_n 3, 1) := by decide +kernel
theorem dX3_setDefaultOf_23 : decode cX3_setDefaultOf 23 = .ok (.iastore, 1) := by decide +kernel
theorem dX3_setDefaultOf_24 : decode cX3_setDefaultOf 24 = .ok (.iload 5, 2) := by decide +kernel
theorem dX3_setDefaultOf_26 : decode cX3_setDefaultOf 26 = .ok (.ireturn, 1) := by decide +kernel
theorem dX3_placeOf_0 : decode cX3_placeOf 0 = .ok (.iload_n 0, 1) := by decide +kernel
theorem dX3_placeOf_1 : decode cX3_placeOf 1 = .ok (.bipush 14, 2) := by decide +kernel
theorem dX3_placeOf_3 : decode cX3_placeOf 3 = .ok (.imul, 1) := by decide +kernel
theorem dX3_placeOf_4 : decode cX3_placeOf 4 = .ok (.iload_n 1, 1) := by decide +kernel
theorem dX3_placeOf_5 : decode cX3_placeOf 5 = .ok (.iadd, 1) := by decide +kernel
theorem dX3_placeOf_6 : decode cX3_placeOf 6 = .ok (.ireturn, 1) := by decide +kernel
set_option maxRecDepth 20000 in
theorem ggX3_opens_X3_placeOf : GoodIn wsX3_opens wsX3_placeOf := goodIn_r _ [5] (by decide +kernel) (by decide +kernel)
set_option maxRecDepth 20000 in
theorem gX3_opens_X3_placeOf : GoodIn wsX3_opens (va_wsS RX3 24 yX3_placeOf wsX3_placeOf) := goodIn_app (goodIn_of _ (by decide +kernel)) ggX3_opens_X3_placeOf
theorem dX3_opens_0 : decode cX3_opens 0 = .ok (.iconst 0, 1) := by decide +kernel
theorem dX3_opens_1 : decode cX3_opens 1 = .ok (.istore_n 3, 1) := by decide +kernel
theorem dX3_opens_2 : decode cX3_opens 2 = .ok (.iload_n 3, 1) := by decide +kernel
theorem dX3_opens_3 : decode cX3_opens 3 = .ok (.iconst 3, 1) := by decide +kernel
theorem dX3_opens_4 : decode cX3_opens 4 = .ok (.if_icmp .ge 43, 3) := by decide +kernel
theorem dX3_opens_7 : decode cX3_opens 7 = .ok (.aload_n 0, 1) := by decide +kernel
theorem dX3_opens_8 : decode cX3_opens 8 = .ok (.getfield 9, 3) := by decide +kernel
theorem dX3_opens_11 : decode cX3_opens 11 = .ok (.iload_n 3, 1) := by decide +kernel
theorem dX3_opens_12 : decode cX3_opens 12 = .ok (.iload_n 2, 1) := by decide +kernel
theorem dX3_opens_13 : decode cX3_opens 13 = .ok (.invokestatic 24, 3) := by decide +kernel
theorem dX3_opens_16 : decode cX3_opens 16 = .ok (.bipush 10, 2) := by decide +kernel
theorem dX3_opens_18 : decode cX3_opens 18 = .ok (.imul, 1) := by decide +kernel
theorem dX3_opens_19 : decode cX3_opens 19 = .ok (.iload_n 1, 1) := by decide +kernel
theorem dX3_opens_20 : decode cX3_opens 20 = .ok (.iadd, 1) := by decide +kernel
theorem dX3_opens_21 : decode cX3_opens 21 = .ok (.iaload, 1) := by decide +kernel
theorem dX3_opens_22 : decode cX3_opens 22 = .ok (.istore 4, 2) := by decide +kernel
theorem dX3_opens_24 : decode cX3_opens 24 = .ok (.iload 4, 2) := by decide +kernel
theorem dX3_opens_26 : decode cX3_opens 26 = .ok (.ifCond .eq 15, 3) := by decide +kernel
theorem dX3_opens_29 : decode cX3_opens 29 = .ok (.iload 4, 2) := by decide +kernel
theorem dX3_opens_31 : decode cX3_opens 31 = .ok (.iconst 1, 1) := by decide +kernel
theorem dX3_opens_32 : decode cX3_opens 32 = .ok (.if_icmp .ne 7, 3) := by decide +kernel
theorem dX3_opens_35 : decode cX3_opens 35 = .ok (.iconst 1, 1) := by decide +kernel
theorem dX3_opens_36 : decode cX3_opens 36 = .ok (.goto 4, 3) := by decide +kernel
theorem dX3_opens_39 : decode cX3_opens 39 = .ok (.iconst 0, 1) := by decide +kernel
theorem dX3_opens_40 : decode cX3_opens 40 = .ok (.ireturn, 1) := by decide +kernel
theorem dX3_opens_41 : decode cX3_opens 41 = .ok (.iinc 3 1, 3) := by decide +kernel
theorem dX3_opens_44 : decode cX3_opens 44 = .ok (.goto (-42), 3) := by decide +kernel
theorem dX3_opens_47 : decode cX3_opens 47 = .ok (.iconst 0, 1) := by decide +kernel
theorem dX3_opens_48 : decode cX3_opens 48 = .ok (.ireturn, 1) := by decide +kernel
set_option maxRecDepth 20000 in
theorem ggX3_openersOf_X3_opens : GoodIn wsX3_openersOf wsX3_opens := goodIn_r _ [5, 6, 7, 8, 4, 9, 10, 11] (by decide +kernel) (by decide +kernel)
set_option maxRecDepth 20000 in
theorem gX3_openersOf_X3_opens : GoodIn wsX3_openersOf (wsV RX3 28 RX3 yX3_opens wsX3_opens) := goodIn_app (goodIn_of _ (by decide +kernel)) ggX3_openersOf_X3_opens
theorem dX3_openersOf_0 : decode cX3_openersOf 0 = .ok (.iconst 0, 1) := by decide +kernel
theorem dX3_openersOf_1 : decode cX3_openersOf 1 = .ok (.istore_n 2, 1) := by decide +kernel
theorem dX3_openersOf_2 : decode cX3_openersOf 2 = .ok (.iconst 0, 1) := by decide +kernel
theorem dX3_openersOf_3 : decode cX3_openersOf 3 = .ok (.istore_n 3, 1) := by decide +kernel
theorem dX3_openersOf_4 : decode cX3_openersOf 4 = .ok (.iload_n 3, 1) := by decide +kernel
theorem dX3_openersOf_5 : decode cX3_openersOf 5 = .ok (.bipush 10, 2) := by decide +kernel
theorem dX3_openersOf_7 : decode cX3_openersOf 7 = .ok (.if_icmp .ge 24, 3) := by decide +kernel
theorem dX3_openersOf_10 : decode cX3_openersOf 10 = .ok (.aload_n 0, 1) := by decide +kernel
theorem dX3_openersOf_11 : decode cX3_openersOf 11 = .ok (.iload_n 3, 1) := by decide +kernel
theorem dX3_openersOf_12 : decode cX3_openersOf 12 = .ok (.iload_n 1, 1) := by decide +kernel
theorem dX3_openersOf_13 : decode cX3_openersOf 13 = .ok (.invokevirtual 28, 3) := by decide +kernel
theorem dX3_openersOf_16 : decode cX3_openersOf 16 = .ok (.ifCond .eq 9, 3) := by decide +kernel
theorem dX3_openersOf_19 : decode cX3_openersOf 19 = .ok (.iload_n 2, 1) := by decide +kernel
theorem dX3_openersOf_20 : decode cX3_openersOf 20 = .ok (.iconst 1, 1) := by decide +kernel
theorem dX3_openersOf_21 : decode cX3_openersOf 21 = .ok (.iload_n 3, 1) := by decide +kernel
theorem dX3_openersOf_22 : decode cX3_openersOf 22 = .ok (.ishl, 1) := by decide +kernel
theorem dX3_openersOf_23 : decode cX3_openersOf 23 = .ok (.ior, 1) := by decide +kernel
theorem dX3_openersOf_24 : decode cX3_openersOf 24 = .ok (.istore_n 2, 1) := by decide +kernel
theorem dX3_openersOf_25 : decode cX3_openersOf 25 = .ok (.iinc 3 1, 3) := by decide +kernel
theorem dX3_openersOf_28 : decode cX3_openersOf 28 = .ok (.goto (-24), 3) := by decide +kernel
theorem dX3_openersOf_31 : decode cX3_openersOf 31 = .ok (.iload_n 2, 1) := by decide +kernel
theorem dX3_openersOf_32 : decode cX3_openersOf 32 = .ok (.ireturn, 1) := by decide +kernel
set_option maxRecDepth 20000 in
theorem ggX3_countPrograms_X3_openersOf : GoodIn wsX3_countPrograms wsX3_openersOf := goodIn_r _ [5, 6, 7, 8, 4, 9, 10, 11, 12, 13, 32, 33] (by decide +kernel) (by decide +kernel)
set_option maxRecDepth 20000 in
theorem gX3_countPrograms_X3_openersOf : GoodIn wsX3_countPrograms (wsV RX3 32 RX3 yX3_openersOf wsX3_openersOf) := goodIn_app (goodIn_of _ (by decide +kernel)) ggX3_countPrograms_X3_openersOf
set_option maxRecDepth 20000 in
theorem ggX3_countPrograms_X1_parentOf : GoodIn wsX3_countPrograms wsX1_parentOf := goodIn_r _ [18, 19, 20, 21, 22, 17, 23, 24, 34, 35] (by decide +kernel) (by decide +kernel)
set_option maxRecDepth 20000 in
theorem gX3_countPrograms_X1_parentOf : GoodIn wsX3_countPrograms (wsV RX3 36 RX1 yX1_parentOf wsX1_parentOf) := goodIn_app (goodIn_of _ (by decide +kernel)) ggX3_countPrograms_X1_parentOf
set_option maxRecDepth 20000 in
theorem ggX3_countPrograms_J6_bitCount_0f7a4 : GoodIn wsX3_countPrograms wsJ6_bitCount_0f7a4 := goodIn_r _ [28, 29, 30, 31] (by decide +kernel) (by decide +kernel)
set_option maxRecDepth 20000 in
theorem gX3_countPrograms_J6_bitCount_0f7a4 : GoodIn wsX3_countPrograms (va_wsS RX3 41 yJ6_bitCount_0f7a4 wsJ6_bitCount_0f7a4) := goodIn_app (goodIn_of _ (by decide +kernel)) ggX3_countPrograms_J6_bitCount_0f7a4
theorem dX3_countPrograms_0 : decode cX3_countPrograms 0 = .ok (.iconst 0, 1) := by decide +kernel
theorem dX3_countPrograms_1 : decode cX3_countPrograms 1 = .ok (.istore_n 3, 1) := by decide +kernel
theorem dX3_countPrograms_2 : decode cX3_countPrograms 2 = .ok (.iload_n 2, 1) := by decide +kernel
theorem dX3_countPrograms_3 : decode cX3_countPrograms 3 = .ok (.istore 4, 2) := by decide +kernel
theorem dX3_countPrograms_5 : decode cX3_countPrograms 5 = .ok (.iconst 0, 1) := by decide +kernel
theorem dX3_countPrograms_6 : decode cX3_countPrograms 6 = .ok (.istore 5, 2) := by decide +kernel
theorem dX3_countPrograms_8 : decode cX3_countPrograms 8 = .ok (.iload 5, 2) := by decide +kernel
theorem dX3_countPrograms_10 : decode cX3_countPrograms 10 = .ok (.bipush 14, 2) := by decide +kernel
theorem dX3_countPrograms_12 : decode cX3_countPrograms 12 = .ok (.if_icmp .ge 32, 3) := by decide +kernel
theorem dX3_countPrograms_15 : decode cX3_countPrograms 15 = .ok (.iload 4, 2) := by decide +kernel
theorem dX3_countPrograms_17 : decode cX3_countPrograms 17 = .ok (.iconst (-1), 1) := by decide +kernel
theorem dX3_countPrograms_18 : decode cX3_countPrograms 18 = .ok (.if_icmp .eq 26, 3) := by decide +kernel
theorem dX3_countPrograms_21 : decode cX3_countPrograms 21 = .ok (.iload_n 3, 1) := by decide +kernel
theorem dX3_countPrograms_22 : decode cX3_countPrograms 22 = .ok (.aload_n 0, 1) := by decide +kernel
theorem dX3_countPrograms_23 : decode cX3_countPrograms 23 = .ok (.iload 4, 2) := by decide +kernel
theorem dX3_countPrograms_25 : decode cX3_countPrograms 25 = .ok (.invokevirtual 32, 3) := by decide +kernel
theorem dX3_countPrograms_28 : decode cX3_countPrograms 28 = .ok (.ior, 1) := by decide +kernel
theorem dX3_countPrograms_29 : decode cX3_countPrograms 29 = .ok (.istore_n 3, 1) := by decide +kernel
theorem dX3_countPrograms_30 : decode cX3_countPrograms 30 = .ok (.aload_n 1, 1) := by decide +kernel
theorem dX3_countPrograms_31 : decode cX3_countPrograms 31 = .ok (.iload 4, 2) := by decide +kernel
theorem dX3_countPrograms_33 : decode cX3_countPrograms 33 = .ok (.invokevirtual 36, 3) := by decide +kernel
theorem dX3_countPrograms_36 : decode cX3_countPrograms 36 = .ok (.istore 4, 2) := by decide +kernel
theorem dX3_countPrograms_38 : decode cX3_countPrograms 38 = .ok (.iinc 5 1, 3) := by decide +kernel
theorem dX3_countPrograms_41 : decode cX3_countPrograms 41 = .ok (.goto (-33), 3) := by decide +kernel
theorem dX3_countPrograms_44 : decode cX3_countPrograms 44 = .ok (.iload_n 3, 1) := by decide +kernel
theorem dX3_countPrograms_45 : decode cX3_countPrograms 45 = .ok (.invokestatic 41, 3) := by decide +kernel
theorem dX3_countPrograms_48 : decode cX3_countPrograms 48 = .ok (.ireturn, 1) := by decide +kernel
set_option maxRecDepth 20000 in
theorem ggX3_programInOrder_X3_openersOf : GoodIn wsX3_programInOrder wsX3_openersOf := goodIn_r _ [5, 6, 7, 8, 4, 9, 10, 11, 12, 13, 35, 36] (by decide +kernel) (by decide +kernel)
set_option maxRecDepth 20000 in
theorem gX3_programInOrder_X3_openersOf : GoodIn wsX3_programInOrder (wsV RX3 32 RX3 yX3_openersOf wsX3_openersOf) := goodIn_app (goodIn_of _ (by decide +kernel)) ggX3_programInOrder_X3_openersOf
set_option maxRecDepth 20000 in
theorem ggX3_programInOrder_J6_bitCount_0f7a4 : GoodIn wsX3_programInOrder wsJ6_bitCount_0f7a4 := goodIn_r _ [17, 18, 19, 20] (by decide +kernel) (by decide +kernel)
set_option maxRecDepth 20000 in
theorem gX3_programInOrder_J6_bitCount_0f7a4 : GoodIn wsX3_programInOrder (va_wsS RX3 41 yJ6_bitCount_0f7a4 wsJ6_bitCount_0f7a4) := goodIn_app (goodIn_of _ (by decide +kernel)) ggX3_programInOrder_J6_bitCount_0f7a4
set_option maxRecDepth 20000 in
theorem ggX3_programInOrder_X3_programOf : GoodIn wsX3_programInOrder wsX3_programOf := goodIn_r _ [23] (by decide +kernel) (by decide +kernel)
set_option maxRecDepth 20000 in
theorem gX3_programInOrder_X3_programOf : GoodIn wsX3_programInOrder (va_wsS RX3 46 yX3_programOf wsX3_programOf) := goodIn_app (goodIn_of _ (by decide +kernel)) ggX3_programInOrder_X3_programOf
set_option maxRecDepth 20000 in
theorem ggX3_programInOrder_X1_parentOf : GoodIn wsX3_programInOrder wsX1_parentOf := goodIn_r _ [28, 29, 30, 31, 32, 27, 33, 34, 37, 38] (by decide +kernel) (by decide +kernel)
set_option maxRecDepth 20000 in
theorem gX3_programInOrder_X1_parentOf : GoodIn wsX3_programInOrder (wsV RX3 36 RX1 yX1_parentOf wsX1_parentOf) := goodIn_app (goodIn_of _ (by decide +kernel)) ggX3_programInOrder_X1_parentOf
theorem dX3_programInOrder_0 : decode cX3_programInOrder 0 = .ok (.iload_n 3, 1) := by decide +kernel
theorem dX3_programInOrder_1 : decode cX3_programInOrder 1 = .ok (.ifCond .ge 5, 3) := by decide +kernel
theorem dX3_programInOrder_4 : decode cX3_programInOrder 4 = .ok (.iconst (-1), 1) := by decide +kernel
theorem dX3_programInOrder_5 : decode cX3_programInOrder 5 = .ok (.ireturn, 1) := by decide +kernel
theorem dX3_programInOrder_6 : decode cX3_programInOrder 6 = .ok (.iconst 0, 1) := by decide +kernel
theorem dX3_programInOrder_7 : decode cX3_programInOrder 7 = .ok (.istore 4, 2) := by decide +kernel
theorem dX3_programInOrder_9 : decode cX3_programInOrder 9 = .ok (.iload_n 2, 1) := by decide +kernel
theorem dX3_programInOrder_10 : decode cX3_programInOrder 10 = .ok (.istore 5, 2) := by decide +kernel
theorem dX3_programInOrder_12 : decode cX3_programInOrder 12 = .ok (.iconst 0, 1) := by decide +kernel
theorem dX3_programInOrder_13 : decode cX3_programInOrder 13 = .ok (.istore 6, 2) := by decide +kernel
theorem dX3_programInOrder_15 : decode cX3_programInOrder 15 = .ok (.iload 6, 2) := by decide +kernel
theorem dX3_programInOrder_17 : decode cX3_programInOrder 17 = .ok (.bipush 14, 2) := by decide +kernel
theorem dX3_programInOrder_19 : decode cX3_programInOrder 19 = .ok (.if_icmp .ge 72, 3) := by decide +kernel
theorem dX3_programInOrder_22 : decode cX3_programInOrder 22 = .ok (.iload 5, 2) := by decide +kernel
theorem dX3_programInOrder_24 : decode cX3_programInOrder 24 = .ok (.iconst (-1), 1) := by decide +kernel
theorem dX3_programInOrder_25 : decode cX3_programInOrder 25 = .ok (.if_icmp .eq 66, 3) := by decide +kernel
theorem dX3_programInOrder_28 : decode cX3_programInOrder 28 = .ok (.aload_n 0, 1) := by decide +kernel
theorem dX3_programInOrder_29 : decode cX3_programInOrder 29 = .ok (.iload 5, 2) := by decide +kernel
theorem dX3_programInOrder_31 : decode cX3_programInOrder 31 = .ok (.invokevirtual 32, 3) := by decide +kernel
theorem dX3_programInOrder_34 : decode cX3_programInOrder 34 = .ok (.iload 4, 2) := by decide +kernel
theorem dX3_programInOrder_36 : decode cX3_programInOrder 36 = .ok (.iconst (-1), 1) := by decide +kernel
theorem dX3_programInOrder_37 : decode cX3_programInOrder 37 = .ok (.ixor, 1) := by decide +kernel
theorem dX3_programInOrder_38 : decode cX3_programInOrder 38 = .ok (.iand, 1) := by decide +kernel
theorem dX3_programInOrder_39 : decode cX3_programInOrder 39 = .ok (.istore 7, 2) := by decide +kernel
theorem dX3_programInOrder_41 : decode cX3_programInOrder 41 = .ok (.iload 4, 2) := by decide +kernel
theorem dX3_programInOrder_43 : decode cX3_programInOrder 43 = .ok (.invokestatic 41, 3) := by decide +kernel
theorem dX3_programInOrder_46 : decode cX3_programInOrder 46 = .ok (.istore 8, 2) := by decide +kernel
theorem dX3_programInOrder_48 : decode cX3_programInOrder 48 = .ok (.iload_n 3, 1) := by decide +kernel
theorem dX3_programInOrder_49 : decode cX3_programInOrder 49 = .ok (.iload 8, 2) := by decide +kernel
theorem dX3_programInOrder_51 : decode cX3_programInOrder 51 = .ok (.isub, 1) := by decide +kernel
theorem dX3_programInOrder_52 : decode cX3_programInOrder 52 = .ok (.iload 7, 2) := by decide +kernel
theorem dX3_programInOrder_54 : decode cX3_programInOrder 54 = .ok (.invokestatic 41, 3) := by decide +kernel
theorem dX3_programInOrder_57 : decode cX3_programInOrder 57 = .ok (.if_icmp .ge 13, 3) := by decide +kernel
theorem dX3_programInOrder_60 : decode cX3_programInOrder 60 = .ok (.iload 7, 2) := by decide +kernel
theorem dX3_programInOrder_62 : decode cX3_programInOrder 62 = .ok (.iload_n 3, 1) := by decide +kernel
theorem dX3_programInOrder_63 : decode cX3_programInOrder 63 = .ok (.iload 8, 2) := by decide +kernel
theorem dX3_programInOrder_65 : decode cX3_programInOrder 65 = .ok (.isub, 1) := by decide +kernel
theorem dX3_programInOrder_66 : decode cX3_programInOrder 66 = .ok (.invokestatic 46, 3) := by decide +kernel
theorem dX3_programInOrder_69 : decode cX3_programInOrder 69 = .ok (.ireturn, 1) := by decide +kernel
theorem dX3_programInOrder_70 : decode cX3_programInOrder 70 = .ok (.iload 4, 2) := by decide +kernel
theorem dX3_programInOrder_72 : decode cX3_programInOrder 72 = .ok (.iload 7, 2) := by decide +kernel
theorem dX3_programInOrder_74 : decode cX3_programInOrder 74 = .ok (.ior, 1) := by decide +kernel
theorem dX3_programInOrder_75 : decode cX3_programInOrder 75 = .ok (.istore 4, 2) := by decide +kernel
theorem dX3_programInOrder_77 : decode cX3_programInOrder 77 = .ok (.aload_n 1, 1) := by decide +kernel
theorem dX3_programInOrder_78 : decode cX3_programInOrder 78 = .ok (.iload 5, 2) := by decide +kernel
theorem dX3_programInOrder_80 : decode cX3_programInOrder 80 = .ok (.invokevirtual 36, 3) := by decide +kernel
theorem dX3_programInOrder_83 : decode cX3_programInOrder 83 = .ok (.istore 5, 2) := by decide +kernel
theorem dX3_programInOrder_85 : decode cX3_programInOrder 85 = .ok (.iinc 6 1, 3) := by decide +kernel
theorem dX3_programInOrder_88 : decode cX3_programInOrder 88 = .ok (.goto (-73), 3) := by decide +kernel
theorem dX3_programInOrder_91 : decode cX3_programInOrder 91 = .ok (.iconst (-1), 1) := by decide +kernel
theorem dX3_programInOrder_92 : decode cX3_programInOrder 92 = .ok (.ireturn, 1) := by decide +kernel
theorem dX3_programOf_0 : decode cX3_programOf 0 = .ok (.iload_n 1, 1) := by decide +kernel
theorem dX3_programOf_1 : decode cX3_programOf 1 = .ok (.istore_n 2, 1) := by decide +kernel
theorem dX3_programOf_2 : decode cX3_programOf 2 = .ok (.iconst 0, 1) := by decide +kernel
theorem dX3_programOf_3 : decode cX3_programOf 3 = .ok (.istore_n 3, 1) := by decide +kernel
theorem dX3_programOf_4 : decode cX3_programOf 4 = .ok (.iload_n 3, 1) := by decide +kernel
theorem dX3_programOf_5 : decode cX3_programOf 5 = .ok (.bipush 10, 2) := by decide +kernel
theorem dX3_programOf_7 : decode cX3_programOf 7 = .ok (.if_icmp .ge 27, 3) := by decide +kernel
theorem dX3_programOf_10 : decode cX3_programOf 10 = .ok (.iload_n 0, 1) := by decide +kernel
theorem dX3_programOf_11 : decode cX3_programOf 11 = .ok (.iload_n 3, 1) := by decide +kernel
theorem dX3_programOf_12 : decode cX3_programOf 12 = .ok (.ishr, 1) := by decide +kernel
theorem dX3_programOf_13 : decode cX3_programOf 13 = .ok (.iconst 1, 1) := by decide +kernel
theorem dX3_programOf_14 : decode cX3_programOf 14 = .ok (.iand, 1) := by decide +kernel
theorem dX3_programOf_15 : decode cX3_programOf 15 = .ok (.iconst 1, 1) := by decide +kernel
theorem dX3_programOf_16 : decode cX3_programOf 16 = .ok (.if_icmp .ne 12, 3) := by decide +kernel
theorem dX3_programOf_19 : decode cX3_programOf 19 = .ok (.iload_n 2, 1) := by decide +kernel
theorem dX3_programOf_20 : decode cX3_programOf 20 = .ok (.ifCond .ne 5, 3) := by decide +kernel
theorem dX3_programOf_23 : decode cX3_programOf 23 = .ok (.iload_n 3, 1) := by decide +kernel
theorem dX3_programOf_24 : decode cX3_programOf 24 = .ok (.ireturn, 1) := by decide +kernel
theorem dX3_programOf_25 : decode cX3_programOf 25 = .ok (.iinc 2 (-1), 3) := by decide +kernel
theorem dX3_programOf_28 : decode cX3_programOf 28 = .ok (.iinc 3 1, 3) := by decide +kernel
theorem dX3_programOf_31 : decode cX3_programOf 31 = .ok (.goto (-27), 3) := by decide +kernel
theorem dX3_programOf_34 : decode cX3_programOf 34 = .ok (.iconst (-1), 1) := by decide +kernel
theorem dX3_programOf_35 : decode cX3_programOf 35 = .ok (.ireturn, 1) := by decide +kernel
set_option maxRecDepth 20000 in
theorem ggX3_defaultUpward_X3_defaultOf : GoodIn wsX3_defaultUpward wsX3_defaultOf := goodIn_r _ [5, 6, 7, 8, 4, 9, 10, 11, 12, 13, 14, 26, 27] (by decide +kernel) (by decide +kernel)
set_option maxRecDepth 20000 in
theorem gX3_defaultUpward_X3_defaultOf : GoodIn wsX3_defaultUpward (wsV RX3 49 RX3 yX3_defaultOf wsX3_defaultOf) := goodIn_app (goodIn_of _ (by decide +kernel)) ggX3_defaultUpward_X3_defaultOf
set_option maxRecDepth 20000 in
theorem ggX3_defaultUpward_X1_parentOf : GoodIn wsX3_defaultUpward wsX1_parentOf := goodIn_r _ [19, 20, 21, 22, 23, 18, 24, 25, 28, 29] (by decide +kernel) (by decide +kernel)
set_option maxRecDepth 20000 in
theorem gX3_defaultUpward_X1_parentOf : GoodIn wsX3_defaultUpward (wsV RX3 36 RX1 yX1_parentOf wsX1_parentOf) := goodIn_app (goodIn_of _ (by decide +kernel)) ggX3_defaultUpward_X1_parentOf
theorem dX3_defaultUpward_0 : decode cX3_defaultUpward 0 = .ok (.iload_n 2, 1) := by decide +kernel
theorem dX3_defaultUpward_1 : decode cX3_defaultUpward 1 = .ok (.istore_n 3, 1) := by decide +kernel
theorem dX3_defaultUpward_2 : decode cX3_defaultUpward 2 = .ok (.iconst 0, 1) := by decide +kernel
theorem dX3_defaultUpward_3 : decode cX3_defaultUpward 3 = .ok (.istore 4, 2) := by decide +kernel
theorem dX3_defaultUpward_5 : decode cX3_defaultUpward 5 = .ok (.iload 4, 2) := by decide +kernel
theorem dX3_defaultUpward_7 : decode cX3_defaultUpward 7 = .ok (.bipush 14, 2) := by decide +kernel
theorem dX3_defaultUpward_9 : decode cX3_defaultUpward 9 = .ok (.if_icmp .ge 36, 3) := by decide +kernel
theorem dX3_defaultUpward_12 : decode cX3_defaultUpward 12 = .ok (.iload_n 3, 1) := by decide +kernel
theorem dX3_defaultUpward_13 : decode cX3_defaultUpward 13 = .ok (.iconst (-1), 1) := by decide +kernel
theorem dX3_defaultUpward_14 : decode cX3_defaultUpward 14 = .ok (.if_icmp .eq 31, 3) := by decide +kernel
theorem dX3_defaultUpward_17 : decode cX3_defaultUpward 17 = .ok (.aload_n 0, 1) := by decide +kernel
theorem dX3_defaultUpward_18 : decode cX3_defaultUpward 18 = .ok (.iload_n 3, 1) := by decide +kernel
theorem dX3_defaultUpward_19 : decode cX3_defaultUpward 19 = .ok (.invokevirtual 49, 3) := by decide +kernel
theorem dX3_defaultUpward_22 : decode cX3_defaultUpward 22 = .ok (.istore 5, 2) := by decide +kernel
theorem dX3_defaultUpward_24 : decode cX3_defaultUpward 24 = .ok (.iload 5, 2) := by decide +kernel
theorem dX3_defaultUpward_26 : decode cX3_defaultUpward 26 = .ok (.iconst (-1), 1) := by decide +kernel
theorem dX3_defaultUpward_27 : decode cX3_defaultUpward 27 = .ok (.if_icmp .eq 6, 3) := by decide +kernel
theorem dX3_defaultUpward_30 : decode cX3_defaultUpward 30 = .ok (.iload 5, 2) := by decide +kernel
theorem dX3_defaultUpward_32 : decode cX3_defaultUpward 32 = .ok (.ireturn, 1) := by decide +kernel
theorem dX3_defaultUpward_33 : decode cX3_defaultUpward 33 = .ok (.aload_n 1, 1) := by decide +kernel
theorem dX3_defaultUpward_34 : decode cX3_defaultUpward 34 = .ok (.iload_n 3, 1) := by decide +kernel
theorem dX3_defaultUpward_35 : decode cX3_defaultUpward 35 = .ok (.invokevirtual 36, 3) := by decide +kernel
theorem dX3_defaultUpward_38 : decode cX3_defaultUpward 38 = .ok (.istore_n 3, 1) := by decide +kernel
theorem dX3_defaultUpward_39 : decode cX3_defaultUpward 39 = .ok (.iinc 4 1, 3) := by decide +kernel
theorem dX3_defaultUpward_42 : decode cX3_defaultUpward 42 = .ok (.goto (-37), 3) := by decide +kernel
theorem dX3_defaultUpward_45 : decode cX3_defaultUpward 45 = .ok (.iconst (-1), 1) := by decide +kernel
theorem dX3_defaultUpward_46 : decode cX3_defaultUpward 46 = .ok (.ireturn, 1) := by decide +kernel
set_option maxRecDepth 20000 in
theorem ggX3_defaultOf_X3_placeOf : GoodIn wsX3_defaultOf wsX3_placeOf := goodIn_r _ [5] (by decide +kernel) (by decide +kernel)
set_option maxRecDepth 20000 in
theorem gX3_defaultOf_X3_placeOf : GoodIn wsX3_defaultOf (va_wsS RX3 24 yX3_placeOf wsX3_placeOf) := goodIn_app (goodIn_of _ (by decide +kernel)) ggX3_defaultOf_X3_placeOf
set_option maxRecDepth 20000 in
theorem ggX3_defaultOf_X3_opens : GoodIn wsX3_defaultOf wsX3_opens := goodIn_r _ [9, 10, 2, 3, 4, 5, 11, 12] (by decide +kernel) (by decide +kernel)
set_option maxRecDepth 20000 in
theorem gX3_defaultOf_X3_opens : GoodIn wsX3_defaultOf (wsV RX3 28 RX3 yX3_opens wsX3_opens) := goodIn_app (goodIn_of _ (by decide +kernel)) ggX3_defaultOf_X3_opens
theorem dX3_defaultOf_0 : decode cX3_defaultOf 0 = .ok (.iconst 0, 1) := by decide +kernel
theorem dX3_defaultOf_1 : decode cX3_defaultOf 1 = .ok (.istore_n 2, 1) := by decide +kernel
theorem dX3_defaultOf_2 : decode cX3_defaultOf 2 = .ok (.iload_n 2, 1) := by decide +kernel
theorem dX3_defaultOf_3 : decode cX3_defaultOf 3 = .ok (.iconst 3, 1) := by decide +kernel
theorem dX3_defaultOf_4 : decode cX3_defaultOf 4 = .ok (.if_icmp .ge 36, 3) := by decide +kernel
theorem dX3_defaultOf_7 : decode cX3_defaultOf 7 = .ok (.aload_n 0, 1) := by decide +kernel
theorem dX3_defaultOf_8 : decode cX3_defaultOf 8 = .ok (.getfield 15, 3) := by decide +kernel
theorem dX3_defaultOf_11 : decode cX3_defaultOf 11 = .ok (.iload_n 2, 1) := by decide +kernel
theorem dX3_defaultOf_12 : decode cX3_defaultOf 12 = .ok (.iload_n 1, 1) := by decide +kernel
theorem dX3_defaultOf_13 : decode cX3_defaultOf 13 = .ok (.invokestatic 24, 3) := by decide +kernel
theorem dX3_defaultOf_16 : decode cX3_defaultOf 16 = .ok (.iaload, 1) := by decide +kernel
theorem dX3_defaultOf_17 : decode cX3_defaultOf 17 = .ok (.istore_n 3, 1) := by decide +kernel
theorem dX3_defaultOf_18 : decode cX3_defaultOf 18 = .ok (.iload_n 3, 1) := by decide +kernel
theorem dX3_defaultOf_19 : decode cX3_defaultOf 19 = .ok (.iconst (-1), 1) := by decide +kernel
theorem dX3_defaultOf_20 : decode cX3_defaultOf 20 = .ok (.if_icmp .eq 14, 3) := by decide +kernel
theorem dX3_defaultOf_23 : decode cX3_defaultOf 23 = .ok (.aload_n 0, 1) := by decide +kernel
theorem dX3_defaultOf_24 : decode cX3_defaultOf 24 = .ok (.iload_n 3, 1) := by decide +kernel
theorem dX3_defaultOf_25 : decode cX3_defaultOf 25 = .ok (.iload_n 1, 1) := by decide +kernel
theorem dX3_defaultOf_26 : decode cX3_defaultOf 26 = .ok (.invokevirtual 28, 3) := by decide +kernel
theorem dX3_defaultOf_29 : decode cX3_defaultOf 29 = .ok (.ifCond .eq 5, 3) := by decide +kernel
theorem dX3_defaultOf_32 : decode cX3_defaultOf 32 = .ok (.iload_n 3, 1) := by decide +kernel
theorem dX3_defaultOf_33 : decode cX3_defaultOf 33 = .ok (.ireturn, 1) := by decide +kernel
theorem dX3_defaultOf_34 : decode cX3_defaultOf 34 = .ok (.iinc 2 1, 3) := by decide +kernel
theorem dX3_defaultOf_37 : decode cX3_defaultOf 37 = .ok (.goto (-35), 3) := by decide +kernel
theorem dX3_defaultOf_40 : decode cX3_defaultOf 40 = .ok (.iconst (-1), 1) := by decide +kernel
theorem dX3_defaultOf_41 : decode cX3_defaultOf 41 = .ok (.ireturn, 1) := by decide +kernel
theorem dJ6_bitCount_0f7a4_0 : decode cJ6_bitCount_0f7a4 0 = .ok (.iload_n 0, 1) := by decide +kernel
theorem dJ6_bitCount_0f7a4_1 : decode cJ6_bitCount_0f7a4 1 = .ok (.iload_n 0, 1) := by decide +kernel
theorem dJ6_bitCount_0f7a4_2 : decode cJ6_bitCount_0f7a4 2 = .ok (.iconst 1, 1) := by decide +kernel
theorem dJ6_bitCount_0f7a4_3 : decode cJ6_bitCount_0f7a4 3 = .ok (.iushr, 1) := by decide +kernel
theorem dJ6_bitCount_0f7a4_4 : decode cJ6_bitCount_0f7a4 4 = .ok (.ldc_w 265, 3) := by decide +kernel
theorem dJ6_bitCount_0f7a4_7 : decode cJ6_bitCount_0f7a4 7 = .ok (.iand, 1) := by decide +kernel
theorem dJ6_bitCount_0f7a4_8 : decode cJ6_bitCount_0f7a4 8 = .ok (.isub, 1) := by decide +kernel
theorem dJ6_bitCount_0f7a4_9 : decode cJ6_bitCount_0f7a4 9 = .ok (.istore_n 0, 1) := by decide +kernel
theorem dJ6_bitCount_0f7a4_10 : decode cJ6_bitCount_0f7a4 10 = .ok (.iload_n 0, 1) := by decide +kernel
theorem dJ6_bitCount_0f7a4_11 : decode cJ6_bitCount_0f7a4 11 = .ok (.ldc_w 266, 3) := by decide +kernel
theorem dJ6_bitCount_0f7a4_14 : decode cJ6_bitCount_0f7a4 14 = .ok (.iand, 1) := by decide +kernel
theorem dJ6_bitCount_0f7a4_15 : decode cJ6_bitCount_0f7a4 15 = .ok (.iload_n 0, 1) := by decide +kernel
theorem dJ6_bitCount_0f7a4_16 : decode cJ6_bitCount_0f7a4 16 = .ok (.iconst 2, 1) := by decide +kernel
theorem dJ6_bitCount_0f7a4_17 : decode cJ6_bitCount_0f7a4 17 = .ok (.iushr, 1) := by decide +kernel
theorem dJ6_bitCount_0f7a4_18 : decode cJ6_bitCount_0f7a4 18 = .ok (.ldc_w 266, 3) := by decide +kernel
theorem dJ6_bitCount_0f7a4_21 : decode cJ6_bitCount_0f7a4 21 = .ok (.iand, 1) := by decide +kernel
theorem dJ6_bitCount_0f7a4_22 : decode cJ6_bitCount_0f7a4 22 = .ok (.iadd, 1) := by decide +kernel
theorem dJ6_bitCount_0f7a4_23 : decode cJ6_bitCount_0f7a4 23 = .ok (.istore_n 0, 1) := by decide +kernel
theorem dJ6_bitCount_0f7a4_24 : decode cJ6_bitCount_0f7a4 24 = .ok (.iload_n 0, 1) := by decide +kernel
theorem dJ6_bitCount_0f7a4_25 : decode cJ6_bitCount_0f7a4 25 = .ok (.iload_n 0, 1) := by decide +kernel
theorem dJ6_bitCount_0f7a4_26 : decode cJ6_bitCount_0f7a4 26 = .ok (.iconst 4, 1) := by decide +kernel
theorem dJ6_bitCount_0f7a4_27 : decode cJ6_bitCount_0f7a4 27 = .ok (.iushr, 1) := by decide +kernel
theorem dJ6_bitCount_0f7a4_28 : decode cJ6_bitCount_0f7a4 28 = .ok (.iadd, 1) := by decide +kernel
theorem dJ6_bitCount_0f7a4_29 : decode cJ6_bitCount_0f7a4 29 = .ok (.ldc_w 267, 3) := by decide +kernel
theorem dJ6_bitCount_0f7a4_32 : decode cJ6_bitCount_0f7a4 32 = .ok (.iand, 1) := by decide +kernel
theorem dJ6_bitCount_0f7a4_33 : decode cJ6_bitCount_0f7a4 33 = .ok (.istore_n 0, 1) := by decide +kernel
theorem dJ6_bitCount_0f7a4_34 : decode cJ6_bitCount_0f7a4 34 = .ok (.iload_n 0, 1) := by decide +kernel
theorem dJ6_bitCount_0f7a4_35 : decode cJ6_bitCount_0f7a4 35 = .ok (.iload_n 0, 1) := by decide +kernel
theorem dJ6_bitCount_0f7a4_36 : decode cJ6_bitCount_0f7a4 36 = .ok (.bipush 8, 2) := by decide +kernel
theorem dJ6_bitCount_0f7a4_38 : decode cJ6_bitCount_0f7a4 38 = .ok (.iushr, 1) := by decide +kernel
theorem dJ6_bitCount_0f7a4_39 : decode cJ6_bitCount_0f7a4 39 = .ok (.iadd, 1) := by decide +kernel
theorem dJ6_bitCount_0f7a4_40 : decode cJ6_bitCount_0f7a4 40 = .ok (.istore_n 0, 1) := by decide +kernel
theorem dJ6_bitCount_0f7a4_41 : decode cJ6_bitCount_0f7a4 41 = .ok (.iload_n 0, 1) := by decide +kernel
theorem dJ6_bitCount_0f7a4_42 : decode cJ6_bitCount_0f7a4 42 = .ok (.iload_n 0, 1) := by decide +kernel
theorem dJ6_bitCount_0f7a4_43 : decode cJ6_bitCount_0f7a4 43 = .ok (.bipush 16, 2) := by decide +kernel
theorem dJ6_bitCount_0f7a4_45 : decode cJ6_bitCount_0f7a4 45 = .ok (.iushr, 1) := by decide +kernel
theorem dJ6_bitCount_0f7a4_46 : decode cJ6_bitCount_0f7a4 46 = .ok (.iadd, 1) := by decide +kernel
theorem dJ6_bitCount_0f7a4_47 : decode cJ6_bitCount_0f7a4 47 = .ok (.istore_n 0, 1) := by decide +kernel
theorem dJ6_bitCount_0f7a4_48 : decode cJ6_bitCount_0f7a4 48 = .ok (.iload_n 0, 1) := by decide +kernel
theorem dJ6_bitCount_0f7a4_49 : decode cJ6_bitCount_0f7a4 49 = .ok (.bipush 63, 2) := by decide +kernel
theorem dJ6_bitCount_0f7a4_51 : decode cJ6_bitCount_0f7a4 51 = .ok (.iand, 1) := by decide +kernel
theorem dJ6_bitCount_0f7a4_52 : decode cJ6_bitCount_0f7a4 52 = .ok (.ireturn, 1) := by decide +kernel
theorem dJ7_fill_53178_0 : decode cJ7_fill_53178 0 = .ok (.iconst 0, 1) := by decide +kernel
theorem dJ7_fill_53178_1 : decode cJ7_fill_53178 1 = .ok (.istore_n 2, 1) := by decide +kernel
theorem dJ7_fill_53178_2 : decode cJ7_fill_53178 2 = .ok (.aload_n 0, 1) := by decide +kernel
theorem dJ7_fill_53178_3 : decode cJ7_fill_53178 3 = .ok (.arraylength, 1) := by decide +kernel
theorem dJ7_fill_53178_4 : decode cJ7_fill_53178 4 = .ok (.istore_n 3, 1) := by decide +kernel
theorem dJ7_fill_53178_5 : decode cJ7_fill_53178 5 = .ok (.iload_n 2, 1) := by decide +kernel
theorem dJ7_fill_53178_6 : decode cJ7_fill_53178 6 = .ok (.iload_n 3, 1) := by decide +kernel
theorem dJ7_fill_53178_7 : decode cJ7_fill_53178 7 = .ok (.if_icmp .ge 13, 3) := by decide +kernel
theorem dJ7_fill_53178_10 : decode cJ7_fill_53178 10 = .ok (.aload_n 0, 1) := by decide +kernel
theorem dJ7_fill_53178_11 : decode cJ7_fill_53178 11 = .ok (.iload_n 2, 1) := by decide +kernel
theorem dJ7_fill_53178_12 : decode cJ7_fill_53178 12 = .ok (.iload_n 1, 1) := by decide +kernel
theorem dJ7_fill_53178_13 : decode cJ7_fill_53178 13 = .ok (.iastore, 1) := by decide +kernel
theorem dJ7_fill_53178_14 : decode cJ7_fill_53178 14 = .ok (.iinc 2 1, 3) := by decide +kernel
theorem dJ7_fill_53178_17 : decode cJ7_fill_53178 17 = .ok (.goto (-12), 3) := by decide +kernel
theorem dJ7_fill_53178_20 : decode cJ7_fill_53178 20 = .ok (.return_, 1) := by decide +kernel
