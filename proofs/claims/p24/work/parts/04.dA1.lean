theorem dX0_init_0 : decode cX0_init 0 = .ok (.aload_n 0, 1) := by decide +kernel
theorem dX0_init_1 : decode cX0_init 1 = .ok (.invokespecial 3, 3) := by decide +kernel
theorem dX0_init_4 : decode cX0_init 4 = .ok (.aload_n 0, 1) := by decide +kernel
theorem dX0_init_5 : decode cX0_init 5 = .ok (.bipush 16, 2) := by decide +kernel
theorem dX0_init_7 : decode cX0_init 7 = .ok (.newarray .int, 2) := by decide +kernel
theorem dX0_init_9 : decode cX0_init 9 = .ok (.putfield 9, 3) := by decide +kernel
theorem dX0_init_12 : decode cX0_init 12 = .ok (.aload_n 0, 1) := by decide +kernel
theorem dX0_init_13 : decode cX0_init 13 = .ok (.iconst 0, 1) := by decide +kernel
theorem dX0_init_14 : decode cX0_init 14 = .ok (.putfield 15, 3) := by decide +kernel
theorem dX0_init_17 : decode cX0_init 17 = .ok (.aload_n 0, 1) := by decide +kernel
theorem dX0_init_18 : decode cX0_init 18 = .ok (.bipush 12, 2) := by decide +kernel
theorem dX0_init_20 : decode cX0_init 20 = .ok (.newarray .int, 2) := by decide +kernel
theorem dX0_init_22 : decode cX0_init 22 = .ok (.putfield 19, 3) := by decide +kernel
theorem dX0_init_25 : decode cX0_init 25 = .ok (.aload_n 0, 1) := by decide +kernel
theorem dX0_init_26 : decode cX0_init 26 = .ok (.bipush 12, 2) := by decide +kernel
theorem dX0_init_28 : decode cX0_init 28 = .ok (.newarray .int, 2) := by decide +kernel
theorem dX0_init_30 : decode cX0_init 30 = .ok (.putfield 22, 3) := by decide +kernel
theorem dX0_init_33 : decode cX0_init 33 = .ok (.aload_n 0, 1) := by decide +kernel
theorem dX0_init_34 : decode cX0_init 34 = .ok (.bipush 12, 2) := by decide +kernel
theorem dX0_init_36 : decode cX0_init 36 = .ok (.newarray .int, 2) := by decide +kernel
theorem dX0_init_38 : decode cX0_init 38 = .ok (.putfield 25, 3) := by decide +kernel
theorem dX0_init_41 : decode cX0_init 41 = .ok (.aload_n 0, 1) := by decide +kernel
theorem dX0_init_42 : decode cX0_init 42 = .ok (.iconst 0, 1) := by decide +kernel
theorem dX0_init_43 : decode cX0_init 43 = .ok (.putfield 28, 3) := by decide +kernel
theorem dX0_init_46 : decode cX0_init 46 = .ok (.aload_n 0, 1) := by decide +kernel
theorem dX0_init_47 : decode cX0_init 47 = .ok (.bipush 72, 2) := by decide +kernel
theorem dX0_init_49 : decode cX0_init 49 = .ok (.newarray .int, 2) := by decide +kernel
theorem dX0_init_51 : decode cX0_init 51 = .ok (.putfield 31, 3) := by decide +kernel
theorem dX0_init_54 : decode cX0_init 54 = .ok (.aload_n 0, 1) := by decide +kernel
theorem dX0_init_55 : decode cX0_init 55 = .ok (.bipush 72, 2) := by decide +kernel
theorem dX0_init_57 : decode cX0_init 57 = .ok (.newarray .int, 2) := by decide +kernel
theorem dX0_init_59 : decode cX0_init 59 = .ok (.putfield 34, 3) := by decide +kernel
theorem dX0_init_62 : decode cX0_init 62 = .ok (.aload_n 0, 1) := by decide +kernel
theorem dX0_init_63 : decode cX0_init 63 = .ok (.bipush 72, 2) := by decide +kernel
theorem dX0_init_65 : decode cX0_init 65 = .ok (.newarray .int, 2) := by decide +kernel
theorem dX0_init_67 : decode cX0_init 67 = .ok (.putfield 37, 3) := by decide +kernel
theorem dX0_init_70 : decode cX0_init 70 = .ok (.aload_n 0, 1) := by decide +kernel
theorem dX0_init_71 : decode cX0_init 71 = .ok (.bipush 72, 2) := by decide +kernel
theorem dX0_init_73 : decode cX0_init 73 = .ok (.newarray .int, 2) := by decide +kernel
theorem dX0_init_75 : decode cX0_init 75 = .ok (.putfield 40, 3) := by decide +kernel
theorem dX0_init_78 : decode cX0_init 78 = .ok (.aload_n 0, 1) := by decide +kernel
theorem dX0_init_79 : decode cX0_init 79 = .ok (.bipush 72, 2) := by decide +kernel
theorem dX0_init_81 : decode cX0_init 81 = .ok (.newarray .int, 2) := by decide +kernel
theorem dX0_init_83 : decode cX0_init 83 = .ok (.putfield 43, 3) := by decide +kernel
theorem dX0_init_86 : decode cX0_init 86 = .ok (.aload_n 0, 1) := by decide +kernel
theorem dX0_init_87 : decode cX0_init 87 = .ok (.bipush 72, 2) := by decide +kernel
theorem dX0_init_89 : decode cX0_init 89 = .ok (.newarray .boolean, 2) := by decide +kernel
theorem dX0_init_91 : decode cX0_init 91 = .ok (.putfield 46, 3) := by decide +kernel
theorem dX0_init_94 : decode cX0_init 94 = .ok (.return_, 1) := by decide +kernel
theorem dX0_isFullOfBytes_0 : decode cX0_isFullOfBytes 0 = .ok (.aload_n 0, 1) := by decide +kernel
theorem dX0_isFullOfBytes_1 : decode cX0_isFullOfBytes 1 = .ok (.getfield 15, 3) := by decide +kernel
theorem dX0_isFullOfBytes_4 : decode cX0_isFullOfBytes 4 = .ok (.bipush 16, 2) := by decide +kernel
theorem dX0_isFullOfBytes_6 : decode cX0_isFullOfBytes 6 = .ok (.if_icmp .lt 7, 3) := by decide +kernel
theorem dX0_isFullOfBytes_9 : decode cX0_isFullOfBytes 9 = .ok (.iconst 1, 1) := by decide +kernel
theorem dX0_isFullOfBytes_10 : decode cX0_isFullOfBytes 10 = .ok (.goto 4, 3) := by decide +kernel
theorem dX0_isFullOfBytes_13 : decode cX0_isFullOfBytes 13 = .ok (.iconst 0, 1) := by decide +kernel
theorem dX0_isFullOfBytes_14 : decode cX0_isFullOfBytes 14 = .ok (.ireturn, 1) := by decide +kernel
theorem dX0_addByte_0 : decode cX0_addByte 0 = .ok (.aload_n 0, 1) := by decide +kernel
theorem dX0_addByte_1 : decode cX0_addByte 1 = .ok (.getfield 9, 3) := by decide +kernel
theorem dX0_addByte_4 : decode cX0_addByte 4 = .ok (.aload_n 0, 1) := by decide +kernel
theorem dX0_addByte_5 : decode cX0_addByte 5 = .ok (.getfield 15, 3) := by decide +kernel
theorem dX0_addByte_8 : decode cX0_addByte 8 = .ok (.iload_n 1, 1) := by decide +kernel
theorem dX0_addByte_9 : decode cX0_addByte 9 = .ok (.iastore, 1) := by decide +kernel
theorem dX0_addByte_10 : decode cX0_addByte 10 = .ok (.aload_n 0, 1) := by decide +kernel
theorem dX0_addByte_11 : decode cX0_addByte 11 = .ok (.dup, 1) := by decide +kernel
theorem dX0_addByte_12 : decode cX0_addByte 12 = .ok (.getfield 15, 3) := by decide +kernel
theorem dX0_addByte_15 : decode cX0_addByte 15 = .ok (.iconst 1, 1) := by decide +kernel
theorem dX0_addByte_16 : decode cX0_addByte 16 = .ok (.iadd, 1) := by decide +kernel
theorem dX0_addByte_17 : decode cX0_addByte 17 = .ok (.putfield 15, 3) := by decide +kernel
theorem dX0_addByte_20 : decode cX0_addByte 20 = .ok (.aload_n 0, 1) := by decide +kernel
theorem dX0_addByte_21 : decode cX0_addByte 21 = .ok (.getfield 15, 3) := by decide +kernel
theorem dX0_addByte_24 : decode cX0_addByte 24 = .ok (.ireturn, 1) := by decide +kernel
theorem dX0_clearBytes_0 : decode cX0_clearBytes 0 = .ok (.aload_n 0, 1) := by decide +kernel
theorem dX0_clearBytes_1 : decode cX0_clearBytes 1 = .ok (.getfield 15, 3) := by decide +kernel
theorem dX0_clearBytes_4 : decode cX0_clearBytes 4 = .ok (.istore_n 1, 1) := by decide +kernel
theorem dX0_clearBytes_5 : decode cX0_clearBytes 5 = .ok (.aload_n 0, 1) := by decide +kernel
theorem dX0_clearBytes_6 : decode cX0_clearBytes 6 = .ok (.iconst 0, 1) := by decide +kernel
theorem dX0_clearBytes_7 : decode cX0_clearBytes 7 = .ok (.putfield 15, 3) := by decide +kernel
theorem dX0_clearBytes_10 : decode cX0_clearBytes 10 = .ok (.iload_n 1, 1) := by decide +kernel
theorem dX0_clearBytes_11 : decode cX0_clearBytes 11 = .ok (.ireturn, 1) := by decide +kernel
set_option maxRecDepth 20000 in
theorem ggX0_isText_X0_isTextByte : GoodIn wsX0_isText wsX0_isTextByte := goodIn_r _ [6] (by decide +kernel) (by decide +kernel)
set_option maxRecDepth 20000 in
theorem gX0_isText_X0_isTextByte : GoodIn wsX0_isText (va_wsS RX0 50 yX0_isTextByte wsX0_isTextByte) := goodIn_app (goodIn_of _ (by decide +kernel)) ggX0_isText_X0_isTextByte
theorem dX0_isText_0 : decode cX0_isText 0 = .ok (.iconst 0, 1) := by decide +kernel
theorem dX0_isText_1 : decode cX0_isText 1 = .ok (.istore_n 1, 1) := by decide +kernel
theorem dX0_isText_2 : decode cX0_isText 2 = .ok (.iload_n 1, 1) := by decide +kernel
theorem dX0_isText_3 : decode cX0_isText 3 = .ok (.aload_n 0, 1) := by decide +kernel
theorem dX0_isText_4 : decode cX0_isText 4 = .ok (.getfield 15, 3) := by decide +kernel
theorem dX0_isText_7 : decode cX0_isText 7 = .ok (.if_icmp .ge 23, 3) := by decide +kernel
theorem dX0_isText_10 : decode cX0_isText 10 = .ok (.aload_n 0, 1) := by decide +kernel
theorem dX0_isText_11 : decode cX0_isText 11 = .ok (.getfield 9, 3) := by decide +kernel
theorem dX0_isText_14 : decode cX0_isText 14 = .ok (.iload_n 1, 1) := by decide +kernel
theorem dX0_isText_15 : decode cX0_isText 15 = .ok (.iaload, 1) := by decide +kernel
theorem dX0_isText_16 : decode cX0_isText 16 = .ok (.invokestatic 50, 3) := by decide +kernel
theorem dX0_isText_19 : decode cX0_isText 19 = .ok (.ifCond .ne 5, 3) := by decide +kernel
theorem dX0_isText_22 : decode cX0_isText 22 = .ok (.iconst 0, 1) := by decide +kernel
theorem dX0_isText_23 : decode cX0_isText 23 = .ok (.ireturn, 1) := by decide +kernel
theorem dX0_isText_24 : decode cX0_isText 24 = .ok (.iinc 1 1, 3) := by decide +kernel
theorem dX0_isText_27 : decode cX0_isText 27 = .ok (.goto (-25), 3) := by decide +kernel
theorem dX0_isText_30 : decode cX0_isText 30 = .ok (.iconst 1, 1) := by decide +kernel
theorem dX0_isText_31 : decode cX0_isText 31 = .ok (.ireturn, 1) := by decide +kernel
theorem dX0_isTextByte_0 : decode cX0_isTextByte 0 = .ok (.iload_n 0, 1) := by decide +kernel
theorem dX0_isTextByte_1 : decode cX0_isTextByte 1 = .ok (.bipush 32, 2) := by decide +kernel
theorem dX0_isTextByte_3 : decode cX0_isTextByte 3 = .ok (.if_icmp .lt 9, 3) := by decide +kernel
theorem dX0_isTextByte_6 : decode cX0_isTextByte 6 = .ok (.iload_n 0, 1) := by decide +kernel
theorem dX0_isTextByte_7 : decode cX0_isTextByte 7 = .ok (.bipush 126, 2) := by decide +kernel
theorem dX0_isTextByte_9 : decode cX0_isTextByte 9 = .ok (.if_icmp .le 21, 3) := by decide +kernel
theorem dX0_isTextByte_12 : decode cX0_isTextByte 12 = .ok (.iload_n 0, 1) := by decide +kernel
theorem dX0_isTextByte_13 : decode cX0_isTextByte 13 = .ok (.bipush 9, 2) := by decide +kernel
theorem dX0_isTextByte_15 : decode cX0_isTextByte 15 = .ok (.if_icmp .eq 15, 3) := by decide +kernel
theorem dX0_isTextByte_18 : decode cX0_isTextByte 18 = .ok (.iload_n 0, 1) := by decide +kernel
theorem dX0_isTextByte_19 : decode cX0_isTextByte 19 = .ok (.bipush 10, 2) := by decide +kernel
theorem dX0_isTextByte_21 : decode cX0_isTextByte 21 = .ok (.if_icmp .eq 9, 3) := by decide +kernel
theorem dX0_isTextByte_24 : decode cX0_isTextByte 24 = .ok (.iload_n 0, 1) := by decide +kernel
theorem dX0_isTextByte_25 : decode cX0_isTextByte 25 = .ok (.bipush 13, 2) := by decide +kernel
theorem dX0_isTextByte_27 : decode cX0_isTextByte 27 = .ok (.if_icmp .ne 7, 3) := by decide +kernel
theorem dX0_isTextByte_30 : decode cX0_isTextByte 30 = .ok (.iconst 1, 1) := by decide +kernel
theorem dX0_isTextByte_31 : decode cX0_isTextByte 31 = .ok (.goto 4, 3) := by decide +kernel
theorem dX0_isTextByte_34 : decode cX0_isTextByte 34 = .ok (.iconst 0, 1) := by decide +kernel
theorem dX0_isTextByte_35 : decode cX0_isTextByte 35 = .ok (.ireturn, 1) := by decide +kernel
theorem dX0_hasRule_0 : decode cX0_hasRule 0 = .ok (.iload_n 1, 1) := by decide +kernel
theorem dX0_hasRule_1 : decode cX0_hasRule 1 = .ok (.ifCond .lt 15, 3) := by decide +kernel
theorem dX0_hasRule_4 : decode cX0_hasRule 4 = .ok (.iload_n 1, 1) := by decide +kernel
theorem dX0_hasRule_5 : decode cX0_hasRule 5 = .ok (.aload_n 0, 1) := by decide +kernel
theorem dX0_hasRule_6 : decode cX0_hasRule 6 = .ok (.getfield 28, 3) := by decide +kernel
theorem dX0_hasRule_9 : decode cX0_hasRule 9 = .ok (.if_icmp .ge 7, 3) := by decide +kernel
theorem dX0_hasRule_12 : decode cX0_hasRule 12 = .ok (.iconst 1, 1) := by decide +kernel
theorem dX0_hasRule_13 : decode cX0_hasRule 13 = .ok (.goto 4, 3) := by decide +kernel
theorem dX0_hasRule_16 : decode cX0_hasRule 16 = .ok (.iconst 0, 1) := by decide +kernel
theorem dX0_hasRule_17 : decode cX0_hasRule 17 = .ok (.ireturn, 1) := by decide +kernel
theorem dX0_isFullOfRules_0 : decode cX0_isFullOfRules 0 = .ok (.aload_n 0, 1) := by decide +kernel
theorem dX0_isFullOfRules_1 : decode cX0_isFullOfRules 1 = .ok (.getfield 28, 3) := by decide +kernel
theorem dX0_isFullOfRules_4 : decode cX0_isFullOfRules 4 = .ok (.bipush 12, 2) := by decide +kernel
theorem dX0_isFullOfRules_6 : decode cX0_isFullOfRules 6 = .ok (.if_icmp .lt 7, 3) := by decide +kernel
theorem dX0_isFullOfRules_9 : decode cX0_isFullOfRules 9 = .ok (.iconst 1, 1) := by decide +kernel
theorem dX0_isFullOfRules_10 : decode cX0_isFullOfRules 10 = .ok (.goto 4, 3) := by decide +kernel
theorem dX0_isFullOfRules_13 : decode cX0_isFullOfRules 13 = .ok (.iconst 0, 1) := by decide +kernel
theorem dX0_isFullOfRules_14 : decode cX0_isFullOfRules 14 = .ok (.ireturn, 1) := by decide +kernel
theorem dX0_addRule_0 : decode cX0_addRule 0 = .ok (.aload_n 0, 1) := by decide +kernel
theorem dX0_addRule_1 : decode cX0_addRule 1 = .ok (.getfield 19, 3) := by decide +kernel
theorem dX0_addRule_4 : decode cX0_addRule 4 = .ok (.aload_n 0, 1) := by decide +kernel
theorem dX0_addRule_5 : decode cX0_addRule 5 = .ok (.getfield 28, 3) := by decide +kernel
theorem dX0_addRule_8 : decode cX0_addRule 8 = .ok (.iload_n 1, 1) := by decide +kernel
theorem dX0_addRule_9 : decode cX0_addRule 9 = .ok (.iastore, 1) := by decide +kernel
theorem dX0_addRule_10 : decode cX0_addRule 10 = .ok (.aload_n 0, 1) := by decide +kernel
theorem dX0_addRule_11 : decode cX0_addRule 11 = .ok (.getfield 22, 3) := by decide +kernel
theorem dX0_addRule_14 : decode cX0_addRule 14 = .ok (.aload_n 0, 1) := by decide +kernel
theorem dX0_addRule_15 : decode cX0_addRule 15 = .ok (.getfield 28, 3) := by decide +kernel
theorem dX0_addRule_18 : decode cX0_addRule 18 = .ok (.iload_n 2, 1) := by decide +kernel
theorem dX0_addRule_19 : decode cX0_addRule 19 = .ok (.iastore, 1) := by decide +kernel
theorem dX0_addRule_20 : decode cX0_addRule 20 = .ok (.aload_n 0, 1) := by decide +kernel
theorem dX0_addRule_21 : decode cX0_addRule 21 = .ok (.dup, 1) := by decide +kernel
theorem dX0_addRule_22 : decode cX0_addRule 22 = .ok (.getfield 28, 3) := by decide +kernel
theorem dX0_addRule_25 : decode cX0_addRule 25 = .ok (.iconst 1, 1) := by decide +kernel
theorem dX0_addRule_26 : decode cX0_addRule 26 = .ok (.iadd, 1) := by decide +kernel
theorem dX0_addRule_27 : decode cX0_addRule 27 = .ok (.putfield 28, 3) := by decide +kernel
theorem dX0_addRule_30 : decode cX0_addRule 30 = .ok (.aload_n 0, 1) := by decide +kernel
theorem dX0_addRule_31 : decode cX0_addRule 31 = .ok (.getfield 28, 3) := by decide +kernel
theorem dX0_addRule_34 : decode cX0_addRule 34 = .ok (.iconst 1, 1) := by decide +kernel
theorem dX0_addRule_35 : decode cX0_addRule 35 = .ok (.isub, 1) := by decide +kernel
theorem dX0_addRule_36 : decode cX0_addRule 36 = .ok (.ireturn, 1) := by decide +kernel
theorem dX0_greatestNextLevel_0 : decode cX0_greatestNextLevel 0 = .ok (.aload_n 0, 1) := by decide +kernel
theorem dX0_greatestNextLevel_1 : decode cX0_greatestNextLevel 1 = .ok (.getfield 25, 3) := by decide +kernel
theorem dX0_greatestNextLevel_4 : decode cX0_greatestNextLevel 4 = .ok (.iload_n 1, 1) := by decide +kernel
theorem dX0_greatestNextLevel_5 : decode cX0_greatestNextLevel 5 = .ok (.iaload, 1) := by decide +kernel
theorem dX0_greatestNextLevel_6 : decode cX0_greatestNextLevel 6 = .ok (.istore_n 2, 1) := by decide +kernel
theorem dX0_greatestNextLevel_7 : decode cX0_greatestNextLevel 7 = .ok (.iload_n 2, 1) := by decide +kernel
theorem dX0_greatestNextLevel_8 : decode cX0_greatestNextLevel 8 = .ok (.ifCond .ne 7, 3) := by decide +kernel
theorem dX0_greatestNextLevel_11 : decode cX0_greatestNextLevel 11 = .ok (.iconst 0, 1) := by decide +kernel
theorem dX0_greatestNextLevel_12 : decode cX0_greatestNextLevel 12 = .ok (.goto 18, 3) := by decide +kernel
theorem dX0_greatestNextLevel_15 : decode cX0_greatestNextLevel 15 = .ok (.aload_n 0, 1) := by decide +kernel
theorem dX0_greatestNextLevel_16 : decode cX0_greatestNextLevel 16 = .ok (.getfield 31, 3) := by decide +kernel
theorem dX0_greatestNextLevel_19 : decode cX0_greatestNextLevel 19 = .ok (.iload_n 1, 1) := by decide +kernel
theorem dX0_greatestNextLevel_20 : decode cX0_greatestNextLevel 20 = .ok (.bipush 6, 2) := by decide +kernel
theorem dX0_greatestNextLevel_22 : decode cX0_greatestNextLevel 22 = .ok (.imul, 1) := by decide +kernel
theorem dX0_greatestNextLevel_23 : decode cX0_greatestNextLevel 23 = .ok (.iload_n 2, 1) := by decide +kernel
theorem dX0_greatestNextLevel_24 : decode cX0_greatestNextLevel 24 = .ok (.iadd, 1) := by decide +kernel
theorem dX0_greatestNextLevel_25 : decode cX0_greatestNextLevel 25 = .ok (.iconst 1, 1) := by decide +kernel
theorem dX0_greatestNextLevel_26 : decode cX0_greatestNextLevel 26 = .ok (.isub, 1) := by decide +kernel
theorem dX0_greatestNextLevel_27 : decode cX0_greatestNextLevel 27 = .ok (.iaload, 1) := by decide +kernel
theorem dX0_greatestNextLevel_28 : decode cX0_greatestNextLevel 28 = .ok (.iconst 1, 1) := by decide +kernel
theorem dX0_greatestNextLevel_29 : decode cX0_greatestNextLevel 29 = .ok (.iadd, 1) := by decide +kernel
theorem dX0_greatestNextLevel_30 : decode cX0_greatestNextLevel 30 = .ok (.ireturn, 1) := by decide +kernel
theorem dX0_isFullOfTests_0 : decode cX0_isFullOfTests 0 = .ok (.aload_n 0, 1) := by decide +kernel
theorem dX0_isFullOfTests_1 : decode cX0_isFullOfTests 1 = .ok (.getfield 25, 3) := by decide +kernel
theorem dX0_isFullOfTests_4 : decode cX0_isFullOfTests 4 = .ok (.iload_n 1, 1) := by decide +kernel
theorem dX0_isFullOfTests_5 : decode cX0_isFullOfTests 5 = .ok (.iaload, 1) := by decide +kernel
theorem dX0_isFullOfTests_6 : decode cX0_isFullOfTests 6 = .ok (.bipush 6, 2) := by decide +kernel
theorem dX0_isFullOfTests_8 : decode cX0_isFullOfTests 8 = .ok (.if_icmp .lt 7, 3) := by decide +kernel
theorem dX0_isFullOfTests_11 : decode cX0_isFullOfTests 11 = .ok (.iconst 1, 1) := by decide +kernel
theorem dX0_isFullOfTests_12 : decode cX0_isFullOfTests 12 = .ok (.goto 4, 3) := by decide +kernel
theorem dX0_isFullOfTests_15 : decode cX0_isFullOfTests 15 = .ok (.iconst 0, 1) := by decide +kernel
theorem dX0_isFullOfTests_16 : decode cX0_isFullOfTests 16 = .ok (.ireturn, 1) := by decide +kernel
theorem dX0_addTest_0 : decode cX0_addTest 0 = .ok (.iload_n 1, 1) := by decide +kernel
theorem dX0_addTest_1 : decode cX0_addTest 1 = .ok (.bipush 6, 2) := by decide +kernel
theorem dX0_addTest_3 : decode cX0_addTest 3 = .ok (.imul, 1) := by decide +kernel
theorem dX0_addTest_4 : decode cX0_addTest 4 = .ok (.aload_n 0, 1) := by decide +kernel
theorem dX0_addTest_5 : decode cX0_addTest 5 = .ok (.getfield 25, 3) := by decide +kernel
theorem dX0_addTest_8 : decode cX0_addTest 8 = .ok (.iload_n 1, 1) := by decide +kernel
theorem dX0_addTest_9 : decode cX0_addTest 9 = .ok (.iaload, 1) := by decide +kernel
theorem dX0_addTest_10 : decode cX0_addTest 10 = .ok (.iadd, 1) := by decide +kernel
theorem dX0_addTest_11 : decode cX0_addTest 11 = .ok (.istore 7, 2) := by decide +kernel
theorem dX0_addTest_13 : decode cX0_addTest 13 = .ok (.aload_n 0, 1) := by decide +kernel
theorem dX0_addTest_14 : decode cX0_addTest 14 = .ok (.getfield 31, 3) := by decide +kernel
theorem dX0_addTest_17 : decode cX0_addTest 17 = .ok (.iload 7, 2) := by decide +kernel
theorem dX0_addTest_19 : decode cX0_addTest 19 = .ok (.iload_n 2, 1) := by decide +kernel
theorem dX0_addTest_20 : decode cX0_addTest 20 = .ok (.iastore, 1) := by decide +kernel
theorem dX0_addTest_21 : decode cX0_addTest 21 = .ok (.aload_n 0, 1) := by decide +kernel
theorem dX0_addTest_22 : decode cX0_addTest 22 = .ok (.getfield 34, 3) := by decide +kernel
theorem dX0_addTest_25 : decode cX0_addTest 25 = .ok (.iload 7, 2) := by decide +kernel
theorem dX0_addTest_27 : decode cX0_addTest 27 = .ok (.iload_n 3, 1) := by decide +kernel
theorem dX0_addTest_28 : decode cX0_addTest 28 = .ok (.iastore, 1) := by decide +kernel
theorem dX0_addTest_29 : decode cX0_addTest 29 = .ok (.aload_n 0, 1) := by decide +kernel
theorem dX0_addTest_30 : decode cX0_addTest 30 = .ok (.getfield 37, 3) := by decide +kernel
theorem dX0_addTest_33 : decode cX0_addTest 33 = .ok (.iload 7, 2) := by decide +kernel
theorem dX0_addTest_35 : decode cX0_addTest 35 = .ok (.iload 4, 2) := by decide +kernel
theorem dX0_addTest_37 : decode cX0_addTest 37 = .ok (.iastore, 1) := by decide +kernel
theorem dX0_addTest_38 : decode cX0_addTest 38 = .ok (.aload_n 0, 1) := by decide +kernel
theorem dX0_addTest_39 : decode cX0_addTest 39 = .ok (.getfield 40, 3) := by decide +kernel
theorem dX0_addTest_42 : decode cX0_addTest 42 = .ok (.iload 7, 2) := by decide +kernel
theorem dX0_addTest_44 : decode cX0_addTest 44 = .ok (.iload 5, 2) := by decide +kernel
theorem dX0_addTest_46 : decode cX0_addTest 46 = .ok (.iastore, 1) := by decide +kernel
theorem dX0_addTest_47 : decode cX0_addTest 47 = .ok (.aload_n 0, 1) := by decide +kernel
theorem dX0_addTest_48 : decode cX0_addTest 48 = .ok (.getfield 43, 3) := by decide +kernel
theorem dX0_addTest_51 : decode cX0_addTest 51 = .ok (.iload 7, 2) := by decide +kernel
theorem dX0_addTest_53 : decode cX0_addTest 53 = .ok (.iload 6, 2) := by decide +kernel
theorem dX0_addTest_55 : decode cX0_addTest 55 = .ok (.iastore, 1) := by decide +kernel
theorem dX0_addTest_56 : decode cX0_addTest 56 = .ok (.aload_n 0, 1) := by decide +kernel
theorem dX0_addTest_57 : decode cX0_addTest 57 = .ok (.getfield 25, 3) := by decide +kernel
theorem dX0_addTest_60 : decode cX0_addTest 60 = .ok (.iload_n 1, 1) := by decide +kernel
theorem dX0_addTest_61 : decode cX0_addTest 61 = .ok (.dup2, 1) := by decide +kernel
theorem dX0_addTest_62 : decode cX0_addTest 62 = .ok (.iaload, 1) := by decide +kernel
theorem dX0_addTest_63 : decode cX0_addTest 63 = .ok (.iconst 1, 1) := by decide +kernel
theorem dX0_addTest_64 : decode cX0_addTest 64 = .ok (.iadd, 1) := by decide +kernel
theorem dX0_addTest_65 : decode cX0_addTest 65 = .ok (.iastore, 1) := by decide +kernel
theorem dX0_addTest_66 : decode cX0_addTest 66 = .ok (.aload_n 0, 1) := by decide +kernel
theorem dX0_addTest_67 : decode cX0_addTest 67 = .ok (.getfield 25, 3) := by decide +kernel
theorem dX0_addTest_70 : decode cX0_addTest 70 = .ok (.iload_n 1, 1) := by decide +kernel
theorem dX0_addTest_71 : decode cX0_addTest 71 = .ok (.iaload, 1) := by decide +kernel
theorem dX0_addTest_72 : decode cX0_addTest 72 = .ok (.ireturn, 1) := by decide +kernel
set_option maxRecDepth 20000 in
theorem ggX0_kindOf_X0_hasRule : GoodIn wsX0_kindOf wsX0_hasRule := goodIn_r _ [6, 7, 8, 9, 10, 11, 12, 13, 14, 15, 16, 17, 18, 19] (by decide +kernel) (by decide +kernel)
set_option maxRecDepth 20000 in
theorem gX0_kindOf_X0_hasRule : GoodIn wsX0_kindOf (wsV RX0 54 RX0 yX0_hasRule wsX0_hasRule) := goodIn_app (goodIn_of _ (by decide +kernel)) ggX0_kindOf_X0_hasRule
theorem dX0_kindOf_0 : decode cX0_kindOf 0 = .ok (.aload_n 0, 1) := by decide +kernel
theorem dX0_kindOf_1 : decode cX0_kindOf 1 = .ok (.iload_n 1, 1) := by decide +kernel
theorem dX0_kindOf_2 : decode cX0_kindOf 2 = .ok (.invokevirtual 54, 3) := by decide +kernel
theorem dX0_kindOf_5 : decode cX0_kindOf 5 = .ok (.ifCond .eq 12, 3) := by decide +kernel
theorem dX0_kindOf_8 : decode cX0_kindOf 8 = .ok (.aload_n 0, 1) := by decide +kernel
theorem dX0_kindOf_9 : decode cX0_kindOf 9 = .ok (.getfield 19, 3) := by decide +kernel
theorem dX0_kindOf_12 : decode cX0_kindOf 12 = .ok (.iload_n 1, 1) := by decide +kernel
theorem dX0_kindOf_13 : decode cX0_kindOf 13 = .ok (.iaload, 1) := by decide +kernel
theorem dX0_kindOf_14 : decode cX0_kindOf 14 = .ok (.goto 4, 3) := by decide +kernel
theorem dX0_kindOf_17 : decode cX0_kindOf 17 = .ok (.iconst (-1), 1) := by decide +kernel
theorem dX0_kindOf_18 : decode cX0_kindOf 18 = .ok (.ireturn, 1) := by decide +kernel
set_option maxRecDepth 20000 in
theorem ggX0_isStrong_X0_hasRule : GoodIn wsX0_isStrong wsX0_hasRule := goodIn_r _ [6, 7, 8, 9, 10, 11, 12, 13, 14, 15, 16, 17, 18, 19] (by decide +kernel) (by decide +kernel)
set_option maxRecDepth 20000 in
theorem gX0_isStrong_X0_hasRule : GoodIn wsX0_isStrong (wsV RX0 54 RX0 yX0_hasRule wsX0_hasRule) := goodIn_app (goodIn_of _ (by decide +kernel)) ggX0_isStrong_X0_hasRule
theorem dX0_isStrong_0 : decode cX0_isStrong 0 = .ok (.aload_n 0, 1) := by decide +kernel
theorem dX0_isStrong_1 : decode cX0_isStrong 1 = .ok (.iload_n 1, 1) := by decide +kernel
theorem dX0_isStrong_2 : decode cX0_isStrong 2 = .ok (.invokevirtual 54, 3) := by decide +kernel
theorem dX0_isStrong_5 : decode cX0_isStrong 5 = .ok (.ifCond .eq 18, 3) := by decide +kernel
theorem dX0_isStrong_8 : decode cX0_isStrong 8 = .ok (.aload_n 0, 1) := by decide +kernel
theorem dX0_isStrong_9 : decode cX0_isStrong 9 = .ok (.getfield 22, 3) := by decide +kernel
theorem dX0_isStrong_12 : decode cX0_isStrong 12 = .ok (.iload_n 1, 1) := by decide +kernel
theorem dX0_isStrong_13 : decode cX0_isStrong 13 = .ok (.iaload, 1) := by decide +kernel
theorem dX0_isStrong_14 : decode cX0_isStrong 14 = .ok (.bipush 50, 2) := by decide +kernel
theorem dX0_isStrong_16 : decode cX0_isStrong 16 = .ok (.if_icmp .lt 7, 3) := by decide +kernel
theorem dX0_isStrong_19 : decode cX0_isStrong 19 = .ok (.iconst 1, 1) := by decide +kernel
theorem dX0_isStrong_20 : decode cX0_isStrong 20 = .ok (.goto 4, 3) := by decide +kernel
theorem dX0_isStrong_23 : decode cX0_isStrong 23 = .ok (.iconst 0, 1) := by decide +kernel
theorem dX0_isStrong_24 : decode cX0_isStrong 24 = .ok (.ireturn, 1) := by decide +kernel
set_option maxRecDepth 20000 in
theorem ggX0_provingRule_X0_provesKind : GoodIn wsX0_provingRule wsX0_provesKind := goodIn_r _ [7, 8, 9, 10, 11, 12, 13, 6, 14, 15, 16, 17, 18, 19, 20, 21, 22, 23, 24, 25, 26, 27, 28, 29, 30, 31, 32, 33, 34, 35, 36] (by decide +kernel) (by decide +kernel)
set_option maxRecDepth 20000 in
theorem gX0_provingRule_X0_provesKind : GoodIn wsX0_provingRule (wsV RX0 57 RX0 yX0_provesKind wsX0_provesKind) := goodIn_app (goodIn_of _ (by decide +kernel)) ggX0_provingRule_X0_provesKind
theorem dX0_provingRule_0 : decode cX0_provingRule 0 = .ok (.iconst (-1), 1) := by decide +kernel
theorem dX0_provingRule_1 : decode cX0_provingRule 1 = .ok (.istore_n 1, 1) := by decide +kernel
theorem dX0_provingRule_2 : decode cX0_provingRule 2 = .ok (.iconst 0, 1) := by decide +kernel
theorem dX0_provingRule_3 : decode cX0_provingRule 3 = .ok (.istore_n 2, 1) := by decide +kernel
theorem dX0_provingRule_4 : decode cX0_provingRule 4 = .ok (.iload_n 2, 1) := by decide +kernel
theorem dX0_provingRule_5 : decode cX0_provingRule 5 = .ok (.aload_n 0, 1) := by decide +kernel
theorem dX0_provingRule_6 : decode cX0_provingRule 6 = .ok (.getfield 28, 3) := by decide +kernel
theorem dX0_provingRule_9 : decode cX0_provingRule 9 = .ok (.if_icmp .ge 49, 3) := by decide +kernel
theorem dX0_provingRule_12 : decode cX0_provingRule 12 = .ok (.iload_n 1, 1) := by decide +kernel
theorem dX0_provingRule_13 : decode cX0_provingRule 13 = .ok (.iconst (-1), 1) := by decide +kernel
theorem dX0_provingRule_14 : decode cX0_provingRule 14 = .ok (.if_icmp .eq 18, 3) := by decide +kernel
theorem dX0_provingRule_17 : decode cX0_provingRule 17 = .ok (.aload_n 0, 1) := by decide +kernel
theorem dX0_provingRule_18 : decode cX0_provingRule 18 = .ok (.getfield 22, 3) := by decide +kernel
theorem dX0_provingRule_21 : decode cX0_provingRule 21 = .ok (.iload_n 2, 1) := by decide +kernel
theorem dX0_provingRule_22 : decode cX0_provingRule 22 = .ok (.iaload, 1) := by decide +kernel
theorem dX0_provingRule_23 : decode cX0_provingRule 23 = .ok (.aload_n 0, 1) := by decide +kernel
theorem dX0_provingRule_24 : decode cX0_provingRule 24 = .ok (.getfield 22, 3) := by decide +kernel
theorem dX0_provingRule_27 : decode cX0_provingRule 27 = .ok (.iload_n 1, 1) := by decide +kernel
theorem dX0_provingRule_28 : decode cX0_provingRule 28 = .ok (.iaload, 1) := by decide +kernel
theorem dX0_provingRule_29 : decode cX0_provingRule 29 = .ok (.if_icmp .le 7, 3) := by decide +kernel
theorem dX0_provingRule_32 : decode cX0_provingRule 32 = .ok (.iconst 1, 1) := by decide +kernel
theorem dX0_provingRule_33 : decode cX0_provingRule 33 = .ok (.goto 4, 3) := by decide +kernel
theorem dX0_provingRule_36 : decode cX0_provingRule 36 = .ok (.iconst 0, 1) := by decide +kernel
theorem dX0_provingRule_37 : decode cX0_provingRule 37 = .ok (.istore_n 3, 1) := by decide +kernel
theorem dX0_provingRule_38 : decode cX0_provingRule 38 = .ok (.iload_n 3, 1) := by decide +kernel
theorem dX0_provingRule_39 : decode cX0_provingRule 39 = .ok (.ifCond .eq 13, 3) := by decide +kernel
theorem dX0_provingRule_42 : decode cX0_provingRule 42 = .ok (.aload_n 0, 1) := by decide +kernel
theorem dX0_provingRule_43 : decode cX0_provingRule 43 = .ok (.iload_n 2, 1) := by decide +kernel
theorem dX0_provingRule_44 : decode cX0_provingRule 44 = .ok (.invokevirtual 57, 3) := by decide +kernel
theorem dX0_provingRule_47 : decode cX0_provingRule 47 = .ok (.ifCond .eq 5, 3) := by decide +kernel
theorem dX0_provingRule_50 : decode cX0_provingRule 50 = .ok (.iload_n 2, 1) := by decide +kernel
theorem dX0_provingRule_51 : decode cX0_provingRule 51 = .ok (.istore_n 1, 1) := by decide +kernel
theorem dX0_provingRule_52 : decode cX0_provingRule 52 = .ok (.iinc 2 1, 3) := by decide +kernel
theorem dX0_provingRule_55 : decode cX0_provingRule 55 = .ok (.goto (-51), 3) := by decide +kernel
theorem dX0_provingRule_58 : decode cX0_provingRule 58 = .ok (.iload_n 1, 1) := by decide +kernel
theorem dX0_provingRule_59 : decode cX0_provingRule 59 = .ok (.ireturn, 1) := by decide +kernel
set_option maxRecDepth 20000 in
theorem ggX0_provesKind_X0_holds : GoodIn wsX0_provesKind wsX0_holds := goodIn_r _ [8, 9, 10, 11, 12, 13, 14, 19, 20, 21, 22, 23, 24, 25, 26, 27, 28, 29, 30] (by decide +kernel) (by decide +kernel)
set_option maxRecDepth 20000 in
theorem gX0_provesKind_X0_holds : GoodIn wsX0_provesKind (wsV RX0 60 RX0 yX0_holds wsX0_holds) := goodIn_app (goodIn_of _ (by decide +kernel)) ggX0_provesKind_X0_holds
set_option maxRecDepth 20000 in
theorem ggX0_provesKind_X0_leadsBelow : GoodIn wsX0_provesKind wsX0_leadsBelow := goodIn_r _ [18, 3, 2, 19, 20, 21, 22, 23, 24, 25, 26, 27, 28, 29, 30] (by decide +kernel) (by decide +kernel)
set_option maxRecDepth 20000 in
theorem gX0_provesKind_X0_leadsBelow : GoodIn wsX0_provesKind (wsV RX0 63 RX0 yX0_leadsBelow wsX0_leadsBelow) := goodIn_app (goodIn_of _ (by decide +kernel)) ggX0_provesKind_X0_leadsBelow
theorem dX0_provesKind_0 : decode cX0_provesKind 0 = .ok (.iload_n 1, 1) := by decide +kernel
theorem dX0_provesKind_1 : decode cX0_provesKind 1 = .ok (.bipush 6, 2) := by decide +kernel
theorem dX0_provesKind_3 : decode cX0_provesKind 3 = .ok (.imul, 1) := by decide +kernel
theorem dX0_provesKind_4 : decode cX0_provesKind 4 = .ok (.istore_n 2, 1) := by decide +kernel
theorem dX0_provesKind_5 : decode cX0_provesKind 5 = .ok (.iload_n 2, 1) := by decide +kernel
theorem dX0_provesKind_6 : decode cX0_provesKind 6 = .ok (.aload_n 0, 1) := by decide +kernel
theorem dX0_provesKind_7 : decode cX0_provesKind 7 = .ok (.getfield 25, 3) := by decide +kernel
theorem dX0_provesKind_10 : decode cX0_provesKind 10 = .ok (.iload_n 1, 1) := by decide +kernel
theorem dX0_provesKind_11 : decode cX0_provesKind 11 = .ok (.iaload, 1) := by decide +kernel
theorem dX0_provesKind_12 : decode cX0_provesKind 12 = .ok (.iadd, 1) := by decide +kernel
theorem dX0_provesKind_13 : decode cX0_provesKind 13 = .ok (.istore_n 3, 1) := by decide +kernel
theorem dX0_provesKind_14 : decode cX0_provesKind 14 = .ok (.iconst 0, 1) := by decide +kernel
theorem dX0_provesKind_15 : decode cX0_provesKind 15 = .ok (.istore 4, 2) := by decide +kernel
theorem dX0_provesKind_17 : decode cX0_provesKind 17 = .ok (.iload_n 3, 1) := by decide +kernel
theorem dX0_provesKind_18 : decode cX0_provesKind 18 = .ok (.iconst 1, 1) := by decide +kernel
theorem dX0_provesKind_19 : decode cX0_provesKind 19 = .ok (.isub, 1) := by decide +kernel
theorem dX0_provesKind_20 : decode cX0_provesKind 20 = .ok (.istore 5, 2) := by decide +kernel
theorem dX0_provesKind_22 : decode cX0_provesKind 22 = .ok (.iload 5, 2) := by decide +kernel
theorem dX0_provesKind_24 : decode cX0_provesKind 24 = .ok (.iload_n 2, 1) := by decide +kernel
theorem dX0_provesKind_25 : decode cX0_provesKind 25 = .ok (.if_icmp .lt 72, 3) := by decide +kernel
theorem dX0_provesKind_28 : decode cX0_provesKind 28 = .ok (.aload_n 0, 1) := by decide +kernel
theorem dX0_provesKind_29 : decode cX0_provesKind 29 = .ok (.getfield 46, 3) := by decide +kernel
theorem dX0_provesKind_32 : decode cX0_provesKind 32 = .ok (.iload 5, 2) := by decide +kernel
theorem dX0_provesKind_34 : decode cX0_provesKind 34 = .ok (.aload_n 0, 1) := by decide +kernel
theorem dX0_provesKind_35 : decode cX0_provesKind 35 = .ok (.iload 5, 2) := by decide +kernel
theorem dX0_provesKind_37 : decode cX0_provesKind 37 = .ok (.invokevirtual 60, 3) := by decide +kernel
theorem dX0_provesKind_40 : decode cX0_provesKind 40 = .ok (.ifCond .eq 17, 3) := by decide +kernel
theorem dX0_provesKind_43 : decode cX0_provesKind 43 = .ok (.aload_n 0, 1) := by decide +kernel
theorem dX0_provesKind_44 : decode cX0_provesKind 44 = .ok (.iload 5, 2) := by decide +kernel
theorem dX0_provesKind_46 : decode cX0_provesKind 46 = .ok (.iload_n 3, 1) := by decide +kernel
theorem dX0_provesKind_47 : decode cX0_provesKind 47 = .ok (.invokevirtual 63, 3) := by decide +kernel
theorem dX0_provesKind_50 : decode cX0_provesKind 50 = .ok (.ifCond .eq 7, 3) := by decide +kernel
theorem dX0_provesKind_53 : decode cX0_provesKind 53 = .ok (.iconst 1, 1) := by decide +kernel
theorem dX0_provesKind_54 : decode cX0_provesKind 54 = .ok (.goto 4, 3) := by decide +kernel
theorem dX0_provesKind_57 : decode cX0_provesKind 57 = .ok (.iconst 0, 1) := by decide +kernel
theorem dX0_provesKind_58 : decode cX0_provesKind 58 = .ok (.bastore, 1) := by decide +kernel
theorem dX0_provesKind_59 : decode cX0_provesKind 59 = .ok (.iload 4, 2) := by decide +kernel
theorem dX0_provesKind_61 : decode cX0_provesKind 61 = .ok (.ifCond .ne 23, 3) := by decide +kernel
theorem dX0_provesKind_64 : decode cX0_provesKind 64 = .ok (.aload_n 0, 1) := by decide +kernel
theorem dX0_provesKind_65 : decode cX0_provesKind 65 = .ok (.getfield 46, 3) := by decide +kernel
theorem dX0_provesKind_68 : decode cX0_provesKind 68 = .ok (.iload 5, 2) := by decide +kernel
theorem dX0_provesKind_70 : decode cX0_provesKind 70 = .ok (.baload, 1) := by decide +kernel
theorem dX0_provesKind_71 : decode cX0_provesKind 71 = .ok (.ifCond .eq 17, 3) := by decide +kernel
theorem dX0_provesKind_74 : decode cX0_provesKind 74 = .ok (.aload_n 0, 1) := by decide +kernel
theorem dX0_provesKind_75 : decode cX0_provesKind 75 = .ok (.getfield 31, 3) := by decide +kernel
theorem dX0_provesKind_78 : decode cX0_provesKind 78 = .ok (.iload 5, 2) := by decide +kernel
theorem dX0_provesKind_80 : decode cX0_provesKind 80 = .ok (.iaload, 1) := by decide +kernel
theorem dX0_provesKind_81 : decode cX0_provesKind 81 = .ok (.ifCond .ne 7, 3) := by decide +kernel
theorem dX0_provesKind_84 : decode cX0_provesKind 84 = .ok (.iconst 1, 1) := by decide +kernel
theorem dX0_provesKind_85 : decode cX0_provesKind 85 = .ok (.goto 4, 3) := by decide +kernel
theorem dX0_provesKind_88 : decode cX0_provesKind 88 = .ok (.iconst 0, 1) := by decide +kernel
theorem dX0_provesKind_89 : decode cX0_provesKind 89 = .ok (.istore 4, 2) := by decide +kernel
theorem dX0_provesKind_91 : decode cX0_provesKind 91 = .ok (.iinc 5 (-1), 3) := by decide +kernel
theorem dX0_provesKind_94 : decode cX0_provesKind 94 = .ok (.goto (-72), 3) := by decide +kernel
theorem dX0_provesKind_97 : decode cX0_provesKind 97 = .ok (.iload 4, 2) := by decide +kernel
theorem dX0_provesKind_99 : decode cX0_provesKind 99 = .ok (.ireturn, 1) := by decide +kernel
theorem dX0_holds_0 : decode cX0_holds 0 = .ok (.aload_n 0, 1) := by decide +kernel
theorem dX0_holds_1 : decode cX0_holds 1 = .ok (.getfield 34, 3) := by decide +kernel
theorem dX0_holds_4 : decode cX0_holds 4 = .ok (.iload_n 1, 1) := by decide +kernel
theorem dX0_holds_5 : decode cX0_holds 5 = .ok (.iaload, 1) := by decide +kernel
theorem dX0_holds_6 : decode cX0_holds 6 = .ok (.istore_n 2, 1) := by decide +kernel
theorem dX0_holds_7 : decode cX0_holds 7 = .ok (.iload_n 2, 1) := by decide +kernel
theorem dX0_holds_8 : decode cX0_holds 8 = .ok (.aload_n 0, 1) := by decide +kernel
theorem dX0_holds_9 : decode cX0_holds 9 = .ok (.getfield 37, 3) := by decide +kernel
theorem dX0_holds_12 : decode cX0_holds 12 = .ok (.iload_n 1, 1) := by decide +kernel
theorem dX0_holds_13 : decode cX0_holds 13 = .ok (.iaload, 1) := by decide +kernel
theorem dX0_holds_14 : decode cX0_holds 14 = .ok (.if_icmp .gt 41, 3) := by decide +kernel
theorem dX0_holds_17 : decode cX0_holds 17 = .ok (.iload_n 2, 1) := by decide +kernel
theorem dX0_holds_18 : decode cX0_holds 18 = .ok (.aload_n 0, 1) := by decide +kernel
theorem dX0_holds_19 : decode cX0_holds 19 = .ok (.getfield 15, 3) := by decide +kernel
theorem dX0_holds_22 : decode cX0_holds 22 = .ok (.if_icmp .ge 33, 3) := by decide +kernel
theorem dX0_holds_25 : decode cX0_holds 25 = .ok (.aload_n 0, 1) := by decide +kernel
theorem dX0_holds_26 : decode cX0_holds 26 = .ok (.getfield 9, 3) := by decide +kernel
theorem dX0_holds_29 : decode cX0_holds 29 = .ok (.iload_n 2, 1) := by decide +kernel
theorem dX0_holds_30 : decode cX0_holds 30 = .ok (.iaload, 1) := by decide +kernel
theorem dX0_holds_31 : decode cX0_holds 31 = .ok (.aload_n 0, 1) := by decide +kernel
theorem dX0_holds_32 : decode cX0_holds 32 = .ok (.getfield 43, 3) := by decide +kernel
theorem dX0_holds_35 : decode cX0_holds 35 = .ok (.iload_n 1, 1) := by decide +kernel
theorem dX0_holds_36 : decode cX0_holds 36 = .ok (.iaload, 1) := by decide +kernel
theorem dX0_holds_37 : decode cX0_holds 37 = .ok (.iand, 1) := by decide +kernel
theorem dX0_holds_38 : decode cX0_holds 38 = .ok (.aload_n 0, 1) := by decide +kernel
theorem dX0_holds_39 : decode cX0_holds 39 = .ok (.getfield 40, 3) := by decide +kernel
theorem dX0_holds_42 : decode cX0_holds 42 = .ok (.iload_n 1, 1) := by decide +kernel
theorem dX0_holds_43 : decode cX0_holds 43 = .ok (.iaload, 1) := by decide +kernel
theorem dX0_holds_44 : decode cX0_holds 44 = .ok (.if_icmp .ne 5, 3) := by decide +kernel
theorem dX0_holds_47 : decode cX0_holds 47 = .ok (.iconst 1, 1) := by decide +kernel
theorem dX0_holds_48 : decode cX0_holds 48 = .ok (.ireturn, 1) := by decide +kernel
theorem dX0_holds_49 : decode cX0_holds 49 = .ok (.iinc 2 1, 3) := by decide +kernel
theorem dX0_holds_52 : decode cX0_holds 52 = .ok (.goto (-45), 3) := by decide +kernel
theorem dX0_holds_55 : decode cX0_holds 55 = .ok (.iconst 0, 1) := by decide +kernel
theorem dX0_holds_56 : decode cX0_holds 56 = .ok (.ireturn, 1) := by decide +kernel
theorem dX0_leadsBelow_0 : decode cX0_leadsBelow 0 = .ok (.aload_n 0, 1) := by decide +kernel
theorem dX0_leadsBelow_1 : decode cX0_leadsBelow 1 = .ok (.getfield 31, 3) := by decide +kernel
theorem dX0_leadsBelow_4 : decode cX0_leadsBelow 4 = .ok (.iload_n 1, 1) := by decide +kernel
theorem dX0_leadsBelow_5 : decode cX0_leadsBelow 5 = .ok (.iaload, 1) := by decide +kernel
theorem dX0_leadsBelow_6 : decode cX0_leadsBelow 6 = .ok (.iconst 1, 1) := by decide +kernel
theorem dX0_leadsBelow_7 : decode cX0_leadsBelow 7 = .ok (.iadd, 1) := by decide +kernel
theorem dX0_leadsBelow_8 : decode cX0_leadsBelow 8 = .ok (.istore_n 3, 1) := by decide +kernel
theorem dX0_leadsBelow_9 : decode cX0_leadsBelow 9 = .ok (.iconst 1, 1) := by decide +kernel
theorem dX0_leadsBelow_10 : decode cX0_leadsBelow 10 = .ok (.istore 4, 2) := by decide +kernel
theorem dX0_leadsBelow_12 : decode cX0_leadsBelow 12 = .ok (.iload_n 1, 1) := by decide +kernel
theorem dX0_leadsBelow_13 : decode cX0_leadsBelow 13 = .ok (.iconst 1, 1) := by decide +kernel
theorem dX0_leadsBelow_14 : decode cX0_leadsBelow 14 = .ok (.iadd, 1) := by decide +kernel
theorem dX0_leadsBelow_15 : decode cX0_leadsBelow 15 = .ok (.istore 5, 2) := by decide +kernel
theorem dX0_leadsBelow_17 : decode cX0_leadsBelow 17 = .ok (.iload 5, 2) := by decide +kernel
theorem dX0_leadsBelow_19 : decode cX0_leadsBelow 19 = .ok (.iload_n 2, 1) := by decide +kernel
theorem dX0_leadsBelow_20 : decode cX0_leadsBelow 20 = .ok (.if_icmp .ge 46, 3) := by decide +kernel
theorem dX0_leadsBelow_23 : decode cX0_leadsBelow 23 = .ok (.aload_n 0, 1) := by decide +kernel
theorem dX0_leadsBelow_24 : decode cX0_leadsBelow 24 = .ok (.getfield 31, 3) := by decide +kernel
theorem dX0_leadsBelow_27 : decode cX0_leadsBelow 27 = .ok (.iload 5, 2) := by decide +kernel
theorem dX0_leadsBelow_29 : decode cX0_leadsBelow 29 = .ok (.iaload, 1) := by decide +kernel
theorem dX0_leadsBelow_30 : decode cX0_leadsBelow 30 = .ok (.iload_n 3, 1) := by decide +kernel
theorem dX0_leadsBelow_31 : decode cX0_leadsBelow 31 = .ok (.if_icmp .lt 35, 3) := by decide +kernel
theorem dX0_leadsBelow_34 : decode cX0_leadsBelow 34 = .ok (.aload_n 0, 1) := by decide +kernel
theorem dX0_leadsBelow_35 : decode cX0_leadsBelow 35 = .ok (.getfield 31, 3) := by decide +kernel
theorem dX0_leadsBelow_38 : decode cX0_leadsBelow 38 = .ok (.iload 5, 2) := by decide +kernel
theorem dX0_leadsBelow_40 : decode cX0_leadsBelow 40 = .ok (.iaload, 1) := by decide +kernel
theorem dX0_leadsBelow_41 : decode cX0_leadsBelow 41 = .ok (.iload_n 3, 1) := by decide +kernel
theorem dX0_leadsBelow_42 : decode cX0_leadsBelow 42 = .ok (.if_icmp .ne 18, 3) := by decide +kernel
theorem dX0_leadsBelow_45 : decode cX0_leadsBelow 45 = .ok (.aload_n 0, 1) := by decide +kernel
theorem dX0_leadsBelow_46 : decode cX0_leadsBelow 46 = .ok (.getfield 46, 3) := by decide +kernel
theorem dX0_leadsBelow_49 : decode cX0_leadsBelow 49 = .ok (.iload 5, 2) := by decide +kernel
theorem dX0_leadsBelow_51 : decode cX0_leadsBelow 51 = .ok (.baload, 1) := by decide +kernel
theorem dX0_leadsBelow_52 : decode cX0_leadsBelow 52 = .ok (.ifCond .eq 5, 3) := by decide +kernel
theorem dX0_leadsBelow_55 : decode cX0_leadsBelow 55 = .ok (.iconst 1, 1) := by decide +kernel
theorem dX0_leadsBelow_56 : decode cX0_leadsBelow 56 = .ok (.ireturn, 1) := by decide +kernel
theorem dX0_leadsBelow_57 : decode cX0_leadsBelow 57 = .ok (.iconst 0, 1) := by decide +kernel
theorem dX0_leadsBelow_58 : decode cX0_leadsBelow 58 = .ok (.istore 4, 2) := by decide +kernel
theorem dX0_leadsBelow_60 : decode cX0_leadsBelow 60 = .ok (.iinc 5 1, 3) := by decide +kernel
theorem dX0_leadsBelow_63 : decode cX0_leadsBelow 63 = .ok (.goto (-46), 3) := by decide +kernel
theorem dX0_leadsBelow_66 : decode cX0_leadsBelow 66 = .ok (.iload 4, 2) := by decide +kernel
theorem dX0_leadsBelow_68 : decode cX0_leadsBelow 68 = .ok (.ireturn, 1) := by decide +kernel
theorem dX1_init_0 : decode cX1_init 0 = .ok (.aload_n 0, 1) := by decide +kernel
theorem dX1_init_1 : decode cX1_init 1 = .ok (.invokespecial 3, 3) := by decide +kernel
theorem dX1_init_4 : decode cX1_init 4 = .ok (.aload_n 0, 1) := by decide +kernel
theorem dX1_init_5 : decode cX1_init 5 = .ok (.bipush 14, 2) := by decide +kernel
theorem dX1_init_7 : decode cX1_init 7 = .ok (.newarray .int, 2) := by decide +kernel
theorem dX1_init_9 : decode cX1_init 9 = .ok (.putfield 9, 3) := by decide +kernel
theorem dX1_init_12 : decode cX1_init 12 = .ok (.aload_n 0, 1) := by decide +kernel
theorem dX1_init_13 : decode cX1_init 13 = .ok (.iconst 0, 1) := by decide +kernel
theorem dX1_init_14 : decode cX1_init 14 = .ok (.putfield 15, 3) := by decide +kernel
theorem dX1_init_17 : decode cX1_init 17 = .ok (.return_, 1) := by decide +kernel
theorem dX1_size_0 : decode cX1_size 0 = .ok (.aload_n 0, 1) := by decide +kernel
theorem dX1_size_1 : decode cX1_size 1 = .ok (.getfield 15, 3) := by decide +kernel
theorem dX1_size_4 : decode cX1_size 4 = .ok (.ireturn, 1) := by decide +kernel
theorem dX1_has_0 : decode cX1_has 0 = .ok (.iload_n 1, 1) := by decide +kernel
theorem dX1_has_1 : decode cX1_has 1 = .ok (.ifCond .lt 15, 3) := by decide +kernel
theorem dX1_has_4 : decode cX1_has 4 = .ok (.iload_n 1, 1) := by decide +kernel
theorem dX1_has_5 : decode cX1_has 5 = .ok (.aload_n 0, 1) := by decide +kernel
theorem dX1_has_6 : decode cX1_has 6 = .ok (.getfield 15, 3) := by decide +kernel
theorem dX1_has_9 : decode cX1_has 9 = .ok (.if_icmp .ge 7, 3) := by decide +kernel
theorem dX1_has_12 : decode cX1_has 12 = .ok (.iconst 1, 1) := by decide +kernel
theorem dX1_has_13 : decode cX1_has 13 = .ok (.goto 4, 3) := by decide +kernel
theorem dX1_has_16 : decode cX1_has 16 = .ok (.iconst 0, 1) := by decide +kernel
theorem dX1_has_17 : decode cX1_has 17 = .ok (.ireturn, 1) := by decide +kernel
theorem dX1_isFull_0 : decode cX1_isFull 0 = .ok (.aload_n 0, 1) := by decide +kernel
theorem dX1_isFull_1 : decode cX1_isFull 1 = .ok (.getfield 15, 3) := by decide +kernel
theorem dX1_isFull_4 : decode cX1_isFull 4 = .ok (.bipush 14, 2) := by decide +kernel
theorem dX1_isFull_6 : decode cX1_isFull 6 = .ok (.if_icmp .lt 7, 3) := by decide +kernel
theorem dX1_isFull_9 : decode cX1_isFull 9 = .ok (.iconst 1, 1) := by decide +kernel
theorem dX1_isFull_10 : decode cX1_isFull 10 = .ok (.goto 4, 3) := by decide +kernel
theorem dX1_isFull_13 : decode cX1_isFull 13 = .ok (.iconst 0, 1) := by decide +kernel
theorem dX1_isFull_14 : decode cX1_isFull 14 = .ok (.ireturn, 1) := by decide +kernel
theorem dX1_add_0 : decode cX1_add 0 = .ok (.aload_n 0, 1) := by decide +kernel
theorem dX1_add_1 : decode cX1_add 1 = .ok (.getfield 9, 3) := by decide +kernel
theorem dX1_add_4 : decode cX1_add 4 = .ok (.aload_n 0, 1) := by decide +kernel
theorem dX1_add_5 : decode cX1_add 5 = .ok (.getfield 15, 3) := by decide +kernel
theorem dX1_add_8 : decode cX1_add 8 = .ok (.iload_n 1, 1) := by decide +kernel
theorem dX1_add_9 : decode cX1_add 9 = .ok (.iastore, 1) := by decide +kernel
theorem dX1_add_10 : decode cX1_add 10 = .ok (.aload_n 0, 1) := by decide +kernel
theorem dX1_add_11 : decode cX1_add 11 = .ok (.dup, 1) := by decide +kernel
theorem dX1_add_12 : decode cX1_add 12 = .ok (.getfield 15, 3) := by decide +kernel
theorem dX1_add_15 : decode cX1_add 15 = .ok (.iconst 1, 1) := by decide +kernel
theorem dX1_add_16 : decode cX1_add 16 = .ok (.iadd, 1) := by decide +kernel
theorem dX1_add_17 : decode cX1_add 17 = .ok (.putfield 15, 3) := by decide +kernel
theorem dX1_add_20 : decode cX1_add 20 = .ok (.aload_n 0, 1) := by decide +kernel
theorem dX1_add_21 : decode cX1_add 21 = .ok (.getfield 15, 3) := by decide +kernel
theorem dX1_add_24 : decode cX1_add 24 = .ok (.iconst 1, 1) := by decide +kernel
theorem dX1_add_25 : decode cX1_add 25 = .ok (.isub, 1) := by decide +kernel
theorem dX1_add_26 : decode cX1_add 26 = .ok (.ireturn, 1) := by decide +kernel
set_option maxRecDepth 20000 in
theorem ggX1_parentOf_X1_has : GoodIn wsX1_parentOf wsX1_has := goodIn_r _ [6, 7, 8, 9] (by decide +kernel) (by decide +kernel)
set_option maxRecDepth 20000 in
theorem gX1_parentOf_X1_has : GoodIn wsX1_parentOf (wsV RX1 19 RX1 yX1_has wsX1_has) := goodIn_app (goodIn_of _ (by decide +kernel)) ggX1_parentOf_X1_has
theorem dX1_parentOf_0 : decode cX1_parentOf 0 = .ok (.aload_n 0, 1) := by decide +kernel
theorem dX1_parentOf_1 : decode cX1_parentOf 1 = .ok (.iload_n 1, 1) := by decide +kernel
theorem dX1_parentOf_2 : decode cX1_parentOf 2 = .ok (.invokevirtual 19, 3) := by decide +kernel
theorem dX1_parentOf_5 : decode cX1_parentOf 5 = .ok (.ifCond .eq 12, 3) := by decide +kernel
theorem dX1_parentOf_8 : decode cX1_parentOf 8 = .ok (.aload_n 0, 1) := by decide +kernel
theorem dX1_parentOf_9 : decode cX1_parentOf 9 = .ok (.getfield 9, 3) := by decide +kernel
theorem dX1_parentOf_12 : decode cX1_parentOf 12 = .ok (.iload_n 1, 1) := by decide +kernel
theorem dX1_parentOf_13 : decode cX1_parentOf 13 = .ok (.iaload, 1) := by decide +kernel
theorem dX1_parentOf_14 : decode cX1_parentOf 14 = .ok (.goto 4, 3) := by decide +kernel
theorem dX1_parentOf_17 : decode cX1_parentOf 17 = .ok (.iconst (-1), 1) := by decide +kernel
theorem dX1_parentOf_18 : decode cX1_parentOf 18 = .ok (.ireturn, 1) := by decide +kernel
set_option maxRecDepth 20000 in
theorem ggX1_leadsUp_X1_parentOf : GoodIn wsX1_leadsUp wsX1_parentOf := goodIn_r _ [5, 6, 7, 8, 9, 4, 10, 11, 12, 13] (by decide +kernel) (by decide +kernel)
set_option maxRecDepth 20000 in
theorem gX1_leadsUp_X1_parentOf : GoodIn wsX1_leadsUp (wsV RX1 23 RX1 yX1_parentOf wsX1_parentOf) := goodIn_app (goodIn_of _ (by decide +kernel)) ggX1_leadsUp_X1_parentOf
theorem dX1_leadsUp_0 : decode cX1_leadsUp 0 = .ok (.iload_n 1, 1) := by decide +kernel
theorem dX1_leadsUp_1 : decode cX1_leadsUp 1 = .ok (.istore_n 3, 1) := by decide +kernel
theorem dX1_leadsUp_2 : decode cX1_leadsUp 2 = .ok (.iconst 0, 1) := by decide +kernel
theorem dX1_leadsUp_3 : decode cX1_leadsUp 3 = .ok (.istore 4, 2) := by decide +kernel
theorem dX1_leadsUp_5 : decode cX1_leadsUp 5 = .ok (.iload 4, 2) := by decide +kernel
theorem dX1_leadsUp_7 : decode cX1_leadsUp 7 = .ok (.bipush 14, 2) := by decide +kernel
theorem dX1_leadsUp_9 : decode cX1_leadsUp 9 = .ok (.if_icmp .ge 27, 3) := by decide +kernel
theorem dX1_leadsUp_12 : decode cX1_leadsUp 12 = .ok (.iload_n 3, 1) := by decide +kernel
theorem dX1_leadsUp_13 : decode cX1_leadsUp 13 = .ok (.iconst (-1), 1) := by decide +kernel
theorem dX1_leadsUp_14 : decode cX1_leadsUp 14 = .ok (.if_icmp .eq 22, 3) := by decide +kernel
theorem dX1_leadsUp_17 : decode cX1_leadsUp 17 = .ok (.iload_n 3, 1) := by decide +kernel
theorem dX1_leadsUp_18 : decode cX1_leadsUp 18 = .ok (.iload_n 2, 1) := by decide +kernel
theorem dX1_leadsUp_19 : decode cX1_leadsUp 19 = .ok (.if_icmp .ne 5, 3) := by decide +kernel
theorem dX1_leadsUp_22 : decode cX1_leadsUp 22 = .ok (.iconst 1, 1) := by decide +kernel
theorem dX1_leadsUp_23 : decode cX1_leadsUp 23 = .ok (.ireturn, 1) := by decide +kernel
theorem dX1_leadsUp_24 : decode cX1_leadsUp 24 = .ok (.aload_n 0, 1) := by decide +kernel
theorem dX1_leadsUp_25 : decode cX1_leadsUp 25 = .ok (.iload_n 3, 1) := by decide +kernel
theorem dX1_leadsUp_26 : decode cX1_leadsUp 26 = .ok (.invokevirtual 23, 3) := by decide +kernel
theorem dX1_leadsUp_29 : decode cX1_leadsUp 29 = .ok (.istore_n 3, 1) := by decide +kernel
theorem dX1_leadsUp_30 : decode cX1_leadsUp 30 = .ok (.iinc 4 1, 3) := by decide +kernel
theorem dX1_leadsUp_33 : decode cX1_leadsUp 33 = .ok (.goto (-28), 3) := by decide +kernel
theorem dX1_leadsUp_36 : decode cX1_leadsUp 36 = .ok (.iconst 0, 1) := by decide +kernel
theorem dX1_leadsUp_37 : decode cX1_leadsUp 37 = .ok (.ireturn, 1) := by decide +kernel
theorem dX2_init_0 : decode cX2_init 0 = .ok (.aload_n 0, 1) := by decide +kernel
theorem dX2_init_1 : decode cX2_init 1 = .ok (.invokespecial 3, 3) := by decide +kernel
theorem dX2_init_4 : decode cX2_init 4 = .ok (.aload_n 0, 1) := by decide +kernel
theorem dX2_init_5 : decode cX2_init 5 = .ok (.bipush 12, 2) := by decide +kernel
theorem dX2_init_7 : decode cX2_init 7 = .ok (.newarray .int, 2) := by decide +kernel
theorem dX2_init_9 : decode cX2_init 9 = .ok (.putfield 9, 3) := by decide +kernel
theorem dX2_init_12 : decode cX2_init 12 = .ok (.aload_n 0, 1) := by decide +kernel
theorem dX2_init_13 : decode cX2_init 13 = .ok (.iconst 0, 1) := by decide +kernel
theorem dX2_init_14 : decode cX2_init 14 = .ok (.putfield 15, 3) := by decide +kernel
theorem dX2_init_17 : decode cX2_init 17 = .ok (.aload_n 0, 1) := by decide +kernel
theorem dX2_init_18 : decode cX2_init 18 = .ok (.bipush 20, 2) := by decide +kernel
theorem dX2_init_20 : decode cX2_init 20 = .ok (.newarray .int, 2) := by decide +kernel
theorem dX2_init_22 : decode cX2_init 22 = .ok (.putfield 19, 3) := by decide +kernel
theorem dX2_init_25 : decode cX2_init 25 = .ok (.aload_n 0, 1) := by decide +kernel
theorem dX2_init_26 : decode cX2_init 26 = .ok (.bipush 20, 2) := by decide +kernel
theorem dX2_init_28 : decode cX2_init 28 = .ok (.newarray .int, 2) := by decide +kernel
theorem dX2_init_30 : decode cX2_init 30 = .ok (.putfield 22, 3) := by decide +kernel
theorem dX2_init_33 : decode cX2_init 33 = .ok (.aload_n 0, 1) := by decide +kernel
theorem dX2_init_34 : decode cX2_init 34 = .ok (.bipush 20, 2) := by decide +kernel
theorem dX2_init_36 : decode cX2_init 36 = .ok (.newarray .int, 2) := by decide +kernel
theorem dX2_init_38 : decode cX2_init 38 = .ok (.putfield 25, 3) := by decide +kernel
theorem dX2_init_41 : decode cX2_init 41 = .ok (.aload_n 0, 1) := by decide +kernel
theorem dX2_init_42 : decode cX2_init 42 = .ok (.bipush 20, 2) := by decide +kernel
theorem dX2_init_44 : decode cX2_init 44 = .ok (.newarray .boolean, 2) := by decide +kernel
theorem dX2_init_46 : decode cX2_init 46 = .ok (.putfield 28, 3) := by decide +kernel
