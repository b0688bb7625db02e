theorem dX2_init_49 : decode cX2_init 49 = .ok (.aload_n 0, 1) := by decide +kernel
theorem dX2_init_50 : decode cX2_init 50 = .ok (.sipush 160, 3) := by decide +kernel
theorem dX2_init_53 : decode cX2_init 53 = .ok (.newarray .int, 2) := by decide +kernel
theorem dX2_init_55 : decode cX2_init 55 = .ok (.putfield 32, 3) := by decide +kernel
theorem dX2_init_58 : decode cX2_init 58 = .ok (.aload_n 0, 1) := by decide +kernel
theorem dX2_init_59 : decode cX2_init 59 = .ok (.iconst 0, 1) := by decide +kernel
theorem dX2_init_60 : decode cX2_init 60 = .ok (.putfield 35, 3) := by decide +kernel
theorem dX2_init_63 : decode cX2_init 63 = .ok (.aload_n 0, 1) := by decide +kernel
theorem dX2_init_64 : decode cX2_init 64 = .ok (.iconst 0, 1) := by decide +kernel
theorem dX2_init_65 : decode cX2_init 65 = .ok (.putfield 38, 3) := by decide +kernel
theorem dX2_init_68 : decode cX2_init 68 = .ok (.aload_n 0, 1) := by decide +kernel
theorem dX2_init_69 : decode cX2_init 69 = .ok (.bipush 117, 2) := by decide +kernel
theorem dX2_init_71 : decode cX2_init 71 = .ok (.newarray .boolean, 2) := by decide +kernel
theorem dX2_init_73 : decode cX2_init 73 = .ok (.putfield 41, 3) := by decide +kernel
theorem dX2_init_76 : decode cX2_init 76 = .ok (.return_, 1) := by decide +kernel
theorem dX2_isFullOfLetters_0 : decode cX2_isFullOfLetters 0 = .ok (.aload_n 0, 1) := by decide +kernel
theorem dX2_isFullOfLetters_1 : decode cX2_isFullOfLetters 1 = .ok (.getfield 15, 3) := by decide +kernel
theorem dX2_isFullOfLetters_4 : decode cX2_isFullOfLetters 4 = .ok (.bipush 12, 2) := by decide +kernel
theorem dX2_isFullOfLetters_6 : decode cX2_isFullOfLetters 6 = .ok (.if_icmp .lt 7, 3) := by decide +kernel
theorem dX2_isFullOfLetters_9 : decode cX2_isFullOfLetters 9 = .ok (.iconst 1, 1) := by decide +kernel
theorem dX2_isFullOfLetters_10 : decode cX2_isFullOfLetters 10 = .ok (.goto 4, 3) := by decide +kernel
theorem dX2_isFullOfLetters_13 : decode cX2_isFullOfLetters 13 = .ok (.iconst 0, 1) := by decide +kernel
theorem dX2_isFullOfLetters_14 : decode cX2_isFullOfLetters 14 = .ok (.ireturn, 1) := by decide +kernel
theorem dX2_addLetter_0 : decode cX2_addLetter 0 = .ok (.aload_n 0, 1) := by decide +kernel
theorem dX2_addLetter_1 : decode cX2_addLetter 1 = .ok (.getfield 9, 3) := by decide +kernel
theorem dX2_addLetter_4 : decode cX2_addLetter 4 = .ok (.aload_n 0, 1) := by decide +kernel
theorem dX2_addLetter_5 : decode cX2_addLetter 5 = .ok (.getfield 15, 3) := by decide +kernel
theorem dX2_addLetter_8 : decode cX2_addLetter 8 = .ok (.iload_n 1, 1) := by decide +kernel
theorem dX2_addLetter_9 : decode cX2_addLetter 9 = .ok (.iastore, 1) := by decide +kernel
theorem dX2_addLetter_10 : decode cX2_addLetter 10 = .ok (.aload_n 0, 1) := by decide +kernel
theorem dX2_addLetter_11 : decode cX2_addLetter 11 = .ok (.dup, 1) := by decide +kernel
theorem dX2_addLetter_12 : decode cX2_addLetter 12 = .ok (.getfield 15, 3) := by decide +kernel
theorem dX2_addLetter_15 : decode cX2_addLetter 15 = .ok (.iconst 1, 1) := by decide +kernel
theorem dX2_addLetter_16 : decode cX2_addLetter 16 = .ok (.iadd, 1) := by decide +kernel
theorem dX2_addLetter_17 : decode cX2_addLetter 17 = .ok (.putfield 15, 3) := by decide +kernel
theorem dX2_addLetter_20 : decode cX2_addLetter 20 = .ok (.aload_n 0, 1) := by decide +kernel
theorem dX2_addLetter_21 : decode cX2_addLetter 21 = .ok (.getfield 15, 3) := by decide +kernel
theorem dX2_addLetter_24 : decode cX2_addLetter 24 = .ok (.ireturn, 1) := by decide +kernel
theorem dX2_clearName_0 : decode cX2_clearName 0 = .ok (.aload_n 0, 1) := by decide +kernel
theorem dX2_clearName_1 : decode cX2_clearName 1 = .ok (.getfield 15, 3) := by decide +kernel
theorem dX2_clearName_4 : decode cX2_clearName 4 = .ok (.istore_n 1, 1) := by decide +kernel
theorem dX2_clearName_5 : decode cX2_clearName 5 = .ok (.aload_n 0, 1) := by decide +kernel
theorem dX2_clearName_6 : decode cX2_clearName 6 = .ok (.iconst 0, 1) := by decide +kernel
theorem dX2_clearName_7 : decode cX2_clearName 7 = .ok (.putfield 15, 3) := by decide +kernel
theorem dX2_clearName_10 : decode cX2_clearName 10 = .ok (.iload_n 1, 1) := by decide +kernel
theorem dX2_clearName_11 : decode cX2_clearName 11 = .ok (.ireturn, 1) := by decide +kernel
theorem dX2_hasPattern_0 : decode cX2_hasPattern 0 = .ok (.iload_n 1, 1) := by decide +kernel
theorem dX2_hasPattern_1 : decode cX2_hasPattern 1 = .ok (.ifCond .lt 24, 3) := by decide +kernel
theorem dX2_hasPattern_4 : decode cX2_hasPattern 4 = .ok (.iload_n 1, 1) := by decide +kernel
theorem dX2_hasPattern_5 : decode cX2_hasPattern 5 = .ok (.aload_n 0, 1) := by decide +kernel
theorem dX2_hasPattern_6 : decode cX2_hasPattern 6 = .ok (.getfield 35, 3) := by decide +kernel
theorem dX2_hasPattern_9 : decode cX2_hasPattern 9 = .ok (.if_icmp .ge 16, 3) := by decide +kernel
theorem dX2_hasPattern_12 : decode cX2_hasPattern 12 = .ok (.aload_n 0, 1) := by decide +kernel
theorem dX2_hasPattern_13 : decode cX2_hasPattern 13 = .ok (.getfield 28, 3) := by decide +kernel
theorem dX2_hasPattern_16 : decode cX2_hasPattern 16 = .ok (.iload_n 1, 1) := by decide +kernel
theorem dX2_hasPattern_17 : decode cX2_hasPattern 17 = .ok (.baload, 1) := by decide +kernel
theorem dX2_hasPattern_18 : decode cX2_hasPattern 18 = .ok (.ifCond .eq 7, 3) := by decide +kernel
theorem dX2_hasPattern_21 : decode cX2_hasPattern 21 = .ok (.iconst 1, 1) := by decide +kernel
theorem dX2_hasPattern_22 : decode cX2_hasPattern 22 = .ok (.goto 4, 3) := by decide +kernel
theorem dX2_hasPattern_25 : decode cX2_hasPattern 25 = .ok (.iconst 0, 1) := by decide +kernel
theorem dX2_hasPattern_26 : decode cX2_hasPattern 26 = .ok (.ireturn, 1) := by decide +kernel
theorem dX2_isFullOfPatterns_0 : decode cX2_isFullOfPatterns 0 = .ok (.aload_n 0, 1) := by decide +kernel
theorem dX2_isFullOfPatterns_1 : decode cX2_isFullOfPatterns 1 = .ok (.getfield 35, 3) := by decide +kernel
theorem dX2_isFullOfPatterns_4 : decode cX2_isFullOfPatterns 4 = .ok (.bipush 20, 2) := by decide +kernel
theorem dX2_isFullOfPatterns_6 : decode cX2_isFullOfPatterns 6 = .ok (.if_icmp .lt 7, 3) := by decide +kernel
theorem dX2_isFullOfPatterns_9 : decode cX2_isFullOfPatterns 9 = .ok (.iconst 1, 1) := by decide +kernel
theorem dX2_isFullOfPatterns_10 : decode cX2_isFullOfPatterns 10 = .ok (.goto 4, 3) := by decide +kernel
theorem dX2_isFullOfPatterns_13 : decode cX2_isFullOfPatterns 13 = .ok (.iconst 0, 1) := by decide +kernel
theorem dX2_isFullOfPatterns_14 : decode cX2_isFullOfPatterns 14 = .ok (.ireturn, 1) := by decide +kernel
theorem dX2_writeToken_0 : decode cX2_writeToken 0 = .ok (.aload_n 0, 1) := by decide +kernel
theorem dX2_writeToken_1 : decode cX2_writeToken 1 = .ok (.getfield 32, 3) := by decide +kernel
theorem dX2_writeToken_4 : decode cX2_writeToken 4 = .ok (.aload_n 0, 1) := by decide +kernel
theorem dX2_writeToken_5 : decode cX2_writeToken 5 = .ok (.getfield 35, 3) := by decide +kernel
theorem dX2_writeToken_8 : decode cX2_writeToken 8 = .ok (.bipush 8, 2) := by decide +kernel
theorem dX2_writeToken_10 : decode cX2_writeToken 10 = .ok (.imul, 1) := by decide +kernel
theorem dX2_writeToken_11 : decode cX2_writeToken 11 = .ok (.iload_n 1, 1) := by decide +kernel
theorem dX2_writeToken_12 : decode cX2_writeToken 12 = .ok (.iadd, 1) := by decide +kernel
theorem dX2_writeToken_13 : decode cX2_writeToken 13 = .ok (.iload_n 2, 1) := by decide +kernel
theorem dX2_writeToken_14 : decode cX2_writeToken 14 = .ok (.iastore, 1) := by decide +kernel
theorem dX2_writeToken_15 : decode cX2_writeToken 15 = .ok (.return_, 1) := by decide +kernel
theorem dX2_addPattern_0 : decode cX2_addPattern 0 = .ok (.aload_n 0, 1) := by decide +kernel
theorem dX2_addPattern_1 : decode cX2_addPattern 1 = .ok (.getfield 35, 3) := by decide +kernel
theorem dX2_addPattern_4 : decode cX2_addPattern 4 = .ok (.istore 4, 2) := by decide +kernel
theorem dX2_addPattern_6 : decode cX2_addPattern 6 = .ok (.aload_n 0, 1) := by decide +kernel
theorem dX2_addPattern_7 : decode cX2_addPattern 7 = .ok (.getfield 19, 3) := by decide +kernel
theorem dX2_addPattern_10 : decode cX2_addPattern 10 = .ok (.iload 4, 2) := by decide +kernel
theorem dX2_addPattern_12 : decode cX2_addPattern 12 = .ok (.iload_n 1, 1) := by decide +kernel
theorem dX2_addPattern_13 : decode cX2_addPattern 13 = .ok (.iastore, 1) := by decide +kernel
theorem dX2_addPattern_14 : decode cX2_addPattern 14 = .ok (.aload_n 0, 1) := by decide +kernel
theorem dX2_addPattern_15 : decode cX2_addPattern 15 = .ok (.getfield 22, 3) := by decide +kernel
theorem dX2_addPattern_18 : decode cX2_addPattern 18 = .ok (.iload 4, 2) := by decide +kernel
theorem dX2_addPattern_20 : decode cX2_addPattern 20 = .ok (.iload_n 2, 1) := by decide +kernel
theorem dX2_addPattern_21 : decode cX2_addPattern 21 = .ok (.iastore, 1) := by decide +kernel
theorem dX2_addPattern_22 : decode cX2_addPattern 22 = .ok (.aload_n 0, 1) := by decide +kernel
theorem dX2_addPattern_23 : decode cX2_addPattern 23 = .ok (.getfield 25, 3) := by decide +kernel
theorem dX2_addPattern_26 : decode cX2_addPattern 26 = .ok (.iload 4, 2) := by decide +kernel
theorem dX2_addPattern_28 : decode cX2_addPattern 28 = .ok (.iload_n 3, 1) := by decide +kernel
theorem dX2_addPattern_29 : decode cX2_addPattern 29 = .ok (.iastore, 1) := by decide +kernel
theorem dX2_addPattern_30 : decode cX2_addPattern 30 = .ok (.aload_n 0, 1) := by decide +kernel
theorem dX2_addPattern_31 : decode cX2_addPattern 31 = .ok (.getfield 28, 3) := by decide +kernel
theorem dX2_addPattern_34 : decode cX2_addPattern 34 = .ok (.iload 4, 2) := by decide +kernel
theorem dX2_addPattern_36 : decode cX2_addPattern 36 = .ok (.iconst 1, 1) := by decide +kernel
theorem dX2_addPattern_37 : decode cX2_addPattern 37 = .ok (.bastore, 1) := by decide +kernel
theorem dX2_addPattern_38 : decode cX2_addPattern 38 = .ok (.aload_n 0, 1) := by decide +kernel
theorem dX2_addPattern_39 : decode cX2_addPattern 39 = .ok (.dup, 1) := by decide +kernel
theorem dX2_addPattern_40 : decode cX2_addPattern 40 = .ok (.getfield 35, 3) := by decide +kernel
theorem dX2_addPattern_43 : decode cX2_addPattern 43 = .ok (.iconst 1, 1) := by decide +kernel
theorem dX2_addPattern_44 : decode cX2_addPattern 44 = .ok (.iadd, 1) := by decide +kernel
theorem dX2_addPattern_45 : decode cX2_addPattern 45 = .ok (.putfield 35, 3) := by decide +kernel
theorem dX2_addPattern_48 : decode cX2_addPattern 48 = .ok (.aload_n 0, 1) := by decide +kernel
theorem dX2_addPattern_49 : decode cX2_addPattern 49 = .ok (.dup, 1) := by decide +kernel
theorem dX2_addPattern_50 : decode cX2_addPattern 50 = .ok (.getfield 38, 3) := by decide +kernel
theorem dX2_addPattern_53 : decode cX2_addPattern 53 = .ok (.iconst 1, 1) := by decide +kernel
theorem dX2_addPattern_54 : decode cX2_addPattern 54 = .ok (.iadd, 1) := by decide +kernel
theorem dX2_addPattern_55 : decode cX2_addPattern 55 = .ok (.putfield 38, 3) := by decide +kernel
theorem dX2_addPattern_58 : decode cX2_addPattern 58 = .ok (.iload 4, 2) := by decide +kernel
theorem dX2_addPattern_60 : decode cX2_addPattern 60 = .ok (.ireturn, 1) := by decide +kernel
theorem dX2_dropPattern_0 : decode cX2_dropPattern 0 = .ok (.aload_n 0, 1) := by decide +kernel
theorem dX2_dropPattern_1 : decode cX2_dropPattern 1 = .ok (.getfield 28, 3) := by decide +kernel
theorem dX2_dropPattern_4 : decode cX2_dropPattern 4 = .ok (.iload_n 1, 1) := by decide +kernel
theorem dX2_dropPattern_5 : decode cX2_dropPattern 5 = .ok (.iconst 0, 1) := by decide +kernel
theorem dX2_dropPattern_6 : decode cX2_dropPattern 6 = .ok (.bastore, 1) := by decide +kernel
theorem dX2_dropPattern_7 : decode cX2_dropPattern 7 = .ok (.aload_n 0, 1) := by decide +kernel
theorem dX2_dropPattern_8 : decode cX2_dropPattern 8 = .ok (.dup, 1) := by decide +kernel
theorem dX2_dropPattern_9 : decode cX2_dropPattern 9 = .ok (.getfield 38, 3) := by decide +kernel
theorem dX2_dropPattern_12 : decode cX2_dropPattern 12 = .ok (.iconst 1, 1) := by decide +kernel
theorem dX2_dropPattern_13 : decode cX2_dropPattern 13 = .ok (.isub, 1) := by decide +kernel
theorem dX2_dropPattern_14 : decode cX2_dropPattern 14 = .ok (.putfield 38, 3) := by decide +kernel
theorem dX2_dropPattern_17 : decode cX2_dropPattern 17 = .ok (.aload_n 0, 1) := by decide +kernel
theorem dX2_dropPattern_18 : decode cX2_dropPattern 18 = .ok (.getfield 38, 3) := by decide +kernel
theorem dX2_dropPattern_21 : decode cX2_dropPattern 21 = .ok (.ireturn, 1) := by decide +kernel
set_option maxRecDepth 20000 in
theorem ggX2_kindOf_X2_hasPattern : GoodIn wsX2_kindOf wsX2_hasPattern := goodIn_r _ [6, 7, 8, 9, 10, 11, 12, 13, 14, 15, 16, 17, 18] (by decide +kernel) (by decide +kernel)
set_option maxRecDepth 20000 in
theorem gX2_kindOf_X2_hasPattern : GoodIn wsX2_kindOf (wsV RX2 44 RX2 yX2_hasPattern wsX2_hasPattern) := goodIn_app (goodIn_of _ (by decide +kernel)) ggX2_kindOf_X2_hasPattern
theorem dX2_kindOf_0 : decode cX2_kindOf 0 = .ok (.aload_n 0, 1) := by decide +kernel
theorem dX2_kindOf_1 : decode cX2_kindOf 1 = .ok (.iload_n 1, 1) := by decide +kernel
theorem dX2_kindOf_2 : decode cX2_kindOf 2 = .ok (.invokevirtual 44, 3) := by decide +kernel
theorem dX2_kindOf_5 : decode cX2_kindOf 5 = .ok (.ifCond .eq 12, 3) := by decide +kernel
theorem dX2_kindOf_8 : decode cX2_kindOf 8 = .ok (.aload_n 0, 1) := by decide +kernel
theorem dX2_kindOf_9 : decode cX2_kindOf 9 = .ok (.getfield 19, 3) := by decide +kernel
theorem dX2_kindOf_12 : decode cX2_kindOf 12 = .ok (.iload_n 1, 1) := by decide +kernel
theorem dX2_kindOf_13 : decode cX2_kindOf 13 = .ok (.iaload, 1) := by decide +kernel
theorem dX2_kindOf_14 : decode cX2_kindOf 14 = .ok (.goto 4, 3) := by decide +kernel
theorem dX2_kindOf_17 : decode cX2_kindOf 17 = .ok (.iconst (-1), 1) := by decide +kernel
theorem dX2_kindOf_18 : decode cX2_kindOf 18 = .ok (.ireturn, 1) := by decide +kernel
set_option maxRecDepth 20000 in
theorem ggX2_firstFitting_X2_isAhead : GoodIn wsX2_firstFitting wsX2_isAhead := goodIn_r _ [7, 8, 9, 48, 49, 50, 51, 52, 53, 54, 55, 56, 57] (by decide +kernel) (by decide +kernel)
set_option maxRecDepth 20000 in
theorem gX2_firstFitting_X2_isAhead : GoodIn wsX2_firstFitting (wsV RX2 48 RX2 yX2_isAhead wsX2_isAhead) := goodIn_app (goodIn_of _ (by decide +kernel)) ggX2_firstFitting_X2_isAhead
set_option maxRecDepth 20000 in
theorem ggX2_firstFitting_X2_isOf : GoodIn wsX2_firstFitting wsX2_isOf := goodIn_r _ [13, 14, 15, 16, 17, 18, 19, 20, 21, 22, 23, 24, 25, 26, 27, 28, 29, 48, 49, 50, 51, 52, 53, 54, 55, 56, 57, 58, 59] (by decide +kernel) (by decide +kernel)
set_option maxRecDepth 20000 in
theorem gX2_firstFitting_X2_isOf : GoodIn wsX2_firstFitting (wsV RX2 52 RX2 yX2_isOf wsX2_isOf) := goodIn_app (goodIn_of _ (by decide +kernel)) ggX2_firstFitting_X2_isOf
set_option maxRecDepth 20000 in
theorem ggX2_firstFitting_X2_fitsName : GoodIn wsX2_firstFitting wsX2_fitsName := goodIn_r _ [33, 9, 34, 35, 36, 37, 38, 6, 39, 40, 41, 42, 43, 44, 45, 46, 47, 48, 49, 50, 51, 52, 53, 54, 55, 56, 57] (by decide +kernel) (by decide +kernel)
set_option maxRecDepth 20000 in
theorem gX2_firstFitting_X2_fitsName : GoodIn wsX2_firstFitting (wsV RX2 56 RX2 yX2_fitsName wsX2_fitsName) := goodIn_app (goodIn_of _ (by decide +kernel)) ggX2_firstFitting_X2_fitsName
theorem dX2_firstFitting_0 : decode cX2_firstFitting 0 = .ok (.iconst (-1), 1) := by decide +kernel
theorem dX2_firstFitting_1 : decode cX2_firstFitting 1 = .ok (.istore_n 3, 1) := by decide +kernel
theorem dX2_firstFitting_2 : decode cX2_firstFitting 2 = .ok (.iconst 0, 1) := by decide +kernel
theorem dX2_firstFitting_3 : decode cX2_firstFitting 3 = .ok (.istore 4, 2) := by decide +kernel
theorem dX2_firstFitting_5 : decode cX2_firstFitting 5 = .ok (.iload 4, 2) := by decide +kernel
theorem dX2_firstFitting_7 : decode cX2_firstFitting 7 = .ok (.aload_n 0, 1) := by decide +kernel
theorem dX2_firstFitting_8 : decode cX2_firstFitting 8 = .ok (.getfield 35, 3) := by decide +kernel
theorem dX2_firstFitting_11 : decode cX2_firstFitting 11 = .ok (.if_icmp .ge 69, 3) := by decide +kernel
theorem dX2_firstFitting_14 : decode cX2_firstFitting 14 = .ok (.aload_n 0, 1) := by decide +kernel
theorem dX2_firstFitting_15 : decode cX2_firstFitting 15 = .ok (.getfield 28, 3) := by decide +kernel
theorem dX2_firstFitting_18 : decode cX2_firstFitting 18 = .ok (.iload 4, 2) := by decide +kernel
theorem dX2_firstFitting_20 : decode cX2_firstFitting 20 = .ok (.baload, 1) := by decide +kernel
theorem dX2_firstFitting_21 : decode cX2_firstFitting 21 = .ok (.ifCond .eq 22, 3) := by decide +kernel
theorem dX2_firstFitting_24 : decode cX2_firstFitting 24 = .ok (.iload_n 3, 1) := by decide +kernel
theorem dX2_firstFitting_25 : decode cX2_firstFitting 25 = .ok (.iconst (-1), 1) := by decide +kernel
theorem dX2_firstFitting_26 : decode cX2_firstFitting 26 = .ok (.if_icmp .eq 13, 3) := by decide +kernel
theorem dX2_firstFitting_29 : decode cX2_firstFitting 29 = .ok (.aload_n 0, 1) := by decide +kernel
theorem dX2_firstFitting_30 : decode cX2_firstFitting 30 = .ok (.iload 4, 2) := by decide +kernel
theorem dX2_firstFitting_32 : decode cX2_firstFitting 32 = .ok (.iload_n 3, 1) := by decide +kernel
theorem dX2_firstFitting_33 : decode cX2_firstFitting 33 = .ok (.invokevirtual 48, 3) := by decide +kernel
theorem dX2_firstFitting_36 : decode cX2_firstFitting 36 = .ok (.ifCond .eq 7, 3) := by decide +kernel
theorem dX2_firstFitting_39 : decode cX2_firstFitting 39 = .ok (.iconst 1, 1) := by decide +kernel
theorem dX2_firstFitting_40 : decode cX2_firstFitting 40 = .ok (.goto 4, 3) := by decide +kernel
theorem dX2_firstFitting_43 : decode cX2_firstFitting 43 = .ok (.iconst 0, 1) := by decide +kernel
theorem dX2_firstFitting_44 : decode cX2_firstFitting 44 = .ok (.istore 5, 2) := by decide +kernel
theorem dX2_firstFitting_46 : decode cX2_firstFitting 46 = .ok (.iload 5, 2) := by decide +kernel
theorem dX2_firstFitting_48 : decode cX2_firstFitting 48 = .ok (.ifCond .eq 26, 3) := by decide +kernel
theorem dX2_firstFitting_51 : decode cX2_firstFitting 51 = .ok (.aload_n 0, 1) := by decide +kernel
theorem dX2_firstFitting_52 : decode cX2_firstFitting 52 = .ok (.aload_n 1, 1) := by decide +kernel
theorem dX2_firstFitting_53 : decode cX2_firstFitting 53 = .ok (.iload 4, 2) := by decide +kernel
theorem dX2_firstFitting_55 : decode cX2_firstFitting 55 = .ok (.iload_n 2, 1) := by decide +kernel
theorem dX2_firstFitting_56 : decode cX2_firstFitting 56 = .ok (.invokevirtual 52, 3) := by decide +kernel
theorem dX2_firstFitting_59 : decode cX2_firstFitting 59 = .ok (.ifCond .eq 15, 3) := by decide +kernel
theorem dX2_firstFitting_62 : decode cX2_firstFitting 62 = .ok (.aload_n 0, 1) := by decide +kernel
theorem dX2_firstFitting_63 : decode cX2_firstFitting 63 = .ok (.iload 4, 2) := by decide +kernel
theorem dX2_firstFitting_65 : decode cX2_firstFitting 65 = .ok (.invokevirtual 56, 3) := by decide +kernel
theorem dX2_firstFitting_68 : decode cX2_firstFitting 68 = .ok (.ifCond .eq 6, 3) := by decide +kernel
theorem dX2_firstFitting_71 : decode cX2_firstFitting 71 = .ok (.iload 4, 2) := by decide +kernel
theorem dX2_firstFitting_73 : decode cX2_firstFitting 73 = .ok (.istore_n 3, 1) := by decide +kernel
theorem dX2_firstFitting_74 : decode cX2_firstFitting 74 = .ok (.iinc 4 1, 3) := by decide +kernel
theorem dX2_firstFitting_77 : decode cX2_firstFitting 77 = .ok (.goto (-72), 3) := by decide +kernel
theorem dX2_firstFitting_80 : decode cX2_firstFitting 80 = .ok (.iload_n 3, 1) := by decide +kernel
theorem dX2_firstFitting_81 : decode cX2_firstFitting 81 = .ok (.ireturn, 1) := by decide +kernel
set_option maxRecDepth 20000 in
theorem ggX2_isOf_X1_leadsUp : GoodIn wsX2_isOf wsX1_leadsUp := goodIn_r _ [6, 7, 8, 9, 5, 10, 11, 12, 13, 14, 15, 16, 27, 28] (by decide +kernel) (by decide +kernel)
set_option maxRecDepth 20000 in
theorem gX2_isOf_X1_leadsUp : GoodIn wsX2_isOf (wsV RX2 59 RX1 yX1_leadsUp wsX1_leadsUp) := goodIn_app (goodIn_of _ (by decide +kernel)) ggX2_isOf_X1_leadsUp
theorem dX2_isOf_0 : decode cX2_isOf 0 = .ok (.iload_n 3, 1) := by decide +kernel
theorem dX2_isOf_1 : decode cX2_isOf 1 = .ok (.iconst (-1), 1) := by decide +kernel
theorem dX2_isOf_2 : decode cX2_isOf 2 = .ok (.if_icmp .eq 17, 3) := by decide +kernel
theorem dX2_isOf_5 : decode cX2_isOf 5 = .ok (.aload_n 1, 1) := by decide +kernel
theorem dX2_isOf_6 : decode cX2_isOf 6 = .ok (.aload_n 0, 1) := by decide +kernel
theorem dX2_isOf_7 : decode cX2_isOf 7 = .ok (.getfield 19, 3) := by decide +kernel
theorem dX2_isOf_10 : decode cX2_isOf 10 = .ok (.iload_n 2, 1) := by decide +kernel
theorem dX2_isOf_11 : decode cX2_isOf 11 = .ok (.iaload, 1) := by decide +kernel
theorem dX2_isOf_12 : decode cX2_isOf 12 = .ok (.iload_n 3, 1) := by decide +kernel
theorem dX2_isOf_13 : decode cX2_isOf 13 = .ok (.invokevirtual 59, 3) := by decide +kernel
theorem dX2_isOf_16 : decode cX2_isOf 16 = .ok (.ifCond .eq 7, 3) := by decide +kernel
theorem dX2_isOf_19 : decode cX2_isOf 19 = .ok (.iconst 1, 1) := by decide +kernel
theorem dX2_isOf_20 : decode cX2_isOf 20 = .ok (.goto 4, 3) := by decide +kernel
theorem dX2_isOf_23 : decode cX2_isOf 23 = .ok (.iconst 0, 1) := by decide +kernel
theorem dX2_isOf_24 : decode cX2_isOf 24 = .ok (.ireturn, 1) := by decide +kernel
theorem dX2_isAhead_0 : decode cX2_isAhead 0 = .ok (.aload_n 0, 1) := by decide +kernel
theorem dX2_isAhead_1 : decode cX2_isAhead 1 = .ok (.getfield 22, 3) := by decide +kernel
theorem dX2_isAhead_4 : decode cX2_isAhead 4 = .ok (.iload_n 1, 1) := by decide +kernel
theorem dX2_isAhead_5 : decode cX2_isAhead 5 = .ok (.iaload, 1) := by decide +kernel
theorem dX2_isAhead_6 : decode cX2_isAhead 6 = .ok (.aload_n 0, 1) := by decide +kernel
theorem dX2_isAhead_7 : decode cX2_isAhead 7 = .ok (.getfield 22, 3) := by decide +kernel
theorem dX2_isAhead_10 : decode cX2_isAhead 10 = .ok (.iload_n 2, 1) := by decide +kernel
theorem dX2_isAhead_11 : decode cX2_isAhead 11 = .ok (.iaload, 1) := by decide +kernel
theorem dX2_isAhead_12 : decode cX2_isAhead 12 = .ok (.if_icmp .eq 24, 3) := by decide +kernel
theorem dX2_isAhead_15 : decode cX2_isAhead 15 = .ok (.aload_n 0, 1) := by decide +kernel
theorem dX2_isAhead_16 : decode cX2_isAhead 16 = .ok (.getfield 22, 3) := by decide +kernel
theorem dX2_isAhead_19 : decode cX2_isAhead 19 = .ok (.iload_n 1, 1) := by decide +kernel
theorem dX2_isAhead_20 : decode cX2_isAhead 20 = .ok (.iaload, 1) := by decide +kernel
theorem dX2_isAhead_21 : decode cX2_isAhead 21 = .ok (.aload_n 0, 1) := by decide +kernel
theorem dX2_isAhead_22 : decode cX2_isAhead 22 = .ok (.getfield 22, 3) := by decide +kernel
theorem dX2_isAhead_25 : decode cX2_isAhead 25 = .ok (.iload_n 2, 1) := by decide +kernel
theorem dX2_isAhead_26 : decode cX2_isAhead 26 = .ok (.iaload, 1) := by decide +kernel
theorem dX2_isAhead_27 : decode cX2_isAhead 27 = .ok (.if_icmp .le 7, 3) := by decide +kernel
theorem dX2_isAhead_30 : decode cX2_isAhead 30 = .ok (.iconst 1, 1) := by decide +kernel
theorem dX2_isAhead_31 : decode cX2_isAhead 31 = .ok (.goto 4, 3) := by decide +kernel
theorem dX2_isAhead_34 : decode cX2_isAhead 34 = .ok (.iconst 0, 1) := by decide +kernel
theorem dX2_isAhead_35 : decode cX2_isAhead 35 = .ok (.ireturn, 1) := by decide +kernel
theorem dX2_isAhead_36 : decode cX2_isAhead 36 = .ok (.aload_n 0, 1) := by decide +kernel
theorem dX2_isAhead_37 : decode cX2_isAhead 37 = .ok (.getfield 25, 3) := by decide +kernel
theorem dX2_isAhead_40 : decode cX2_isAhead 40 = .ok (.iload_n 1, 1) := by decide +kernel
theorem dX2_isAhead_41 : decode cX2_isAhead 41 = .ok (.iaload, 1) := by decide +kernel
theorem dX2_isAhead_42 : decode cX2_isAhead 42 = .ok (.aload_n 0, 1) := by decide +kernel
theorem dX2_isAhead_43 : decode cX2_isAhead 43 = .ok (.getfield 25, 3) := by decide +kernel
theorem dX2_isAhead_46 : decode cX2_isAhead 46 = .ok (.iload_n 2, 1) := by decide +kernel
theorem dX2_isAhead_47 : decode cX2_isAhead 47 = .ok (.iaload, 1) := by decide +kernel
theorem dX2_isAhead_48 : decode cX2_isAhead 48 = .ok (.if_icmp .le 7, 3) := by decide +kernel
theorem dX2_isAhead_51 : decode cX2_isAhead 51 = .ok (.iconst 1, 1) := by decide +kernel
theorem dX2_isAhead_52 : decode cX2_isAhead 52 = .ok (.goto 4, 3) := by decide +kernel
theorem dX2_isAhead_55 : decode cX2_isAhead 55 = .ok (.iconst 0, 1) := by decide +kernel
theorem dX2_isAhead_56 : decode cX2_isAhead 56 = .ok (.ireturn, 1) := by decide +kernel
set_option maxRecDepth 20000 in
theorem ggX2_fitsName_X2_reachedAfter : GoodIn wsX2_fitsName wsX2_reachedAfter := goodIn_r _ [8, 3, 9, 10, 7, 11, 12, 13, 14, 15, 16, 17, 18, 19, 20, 21, 22, 23, 24, 25, 26] (by decide +kernel) (by decide +kernel)
set_option maxRecDepth 20000 in
theorem gX2_fitsName_X2_reachedAfter : GoodIn wsX2_fitsName (wsV RX2 64 RX2 yX2_reachedAfter wsX2_reachedAfter) := goodIn_app (goodIn_of _ (by decide +kernel)) ggX2_fitsName_X2_reachedAfter
set_option maxRecDepth 20000 in
theorem ggX2_fitsName_X2_isReached : GoodIn wsX2_fitsName wsX2_isReached := goodIn_r _ [11] (by decide +kernel) (by decide +kernel)
set_option maxRecDepth 20000 in
theorem gX2_fitsName_X2_isReached : GoodIn wsX2_fitsName (va_wsS RX2 68 yX2_isReached wsX2_isReached) := goodIn_app (goodIn_of _ (by decide +kernel)) ggX2_fitsName_X2_isReached
theorem dX2_fitsName_0 : decode cX2_fitsName 0 = .ok (.iload_n 1, 1) := by decide +kernel
theorem dX2_fitsName_1 : decode cX2_fitsName 1 = .ok (.bipush 8, 2) := by decide +kernel
theorem dX2_fitsName_3 : decode cX2_fitsName 3 = .ok (.imul, 1) := by decide +kernel
theorem dX2_fitsName_4 : decode cX2_fitsName 4 = .ok (.istore_n 2, 1) := by decide +kernel
theorem dX2_fitsName_5 : decode cX2_fitsName 5 = .ok (.iconst 1, 1) := by decide +kernel
theorem dX2_fitsName_6 : decode cX2_fitsName 6 = .ok (.istore_n 3, 1) := by decide +kernel
theorem dX2_fitsName_7 : decode cX2_fitsName 7 = .ok (.iconst 0, 1) := by decide +kernel
theorem dX2_fitsName_8 : decode cX2_fitsName 8 = .ok (.istore 4, 2) := by decide +kernel
theorem dX2_fitsName_10 : decode cX2_fitsName 10 = .ok (.iload 4, 2) := by decide +kernel
theorem dX2_fitsName_12 : decode cX2_fitsName 12 = .ok (.aload_n 0, 1) := by decide +kernel
theorem dX2_fitsName_13 : decode cX2_fitsName 13 = .ok (.getfield 25, 3) := by decide +kernel
theorem dX2_fitsName_16 : decode cX2_fitsName 16 = .ok (.iload_n 1, 1) := by decide +kernel
theorem dX2_fitsName_17 : decode cX2_fitsName 17 = .ok (.iaload, 1) := by decide +kernel
theorem dX2_fitsName_18 : decode cX2_fitsName 18 = .ok (.if_icmp .ge 24, 3) := by decide +kernel
theorem dX2_fitsName_21 : decode cX2_fitsName 21 = .ok (.aload_n 0, 1) := by decide +kernel
theorem dX2_fitsName_22 : decode cX2_fitsName 22 = .ok (.aload_n 0, 1) := by decide +kernel
theorem dX2_fitsName_23 : decode cX2_fitsName 23 = .ok (.getfield 32, 3) := by decide +kernel
theorem dX2_fitsName_26 : decode cX2_fitsName 26 = .ok (.iload_n 2, 1) := by decide +kernel
theorem dX2_fitsName_27 : decode cX2_fitsName 27 = .ok (.iload 4, 2) := by decide +kernel
theorem dX2_fitsName_29 : decode cX2_fitsName 29 = .ok (.iadd, 1) := by decide +kernel
theorem dX2_fitsName_30 : decode cX2_fitsName 30 = .ok (.iaload, 1) := by decide +kernel
theorem dX2_fitsName_31 : decode cX2_fitsName 31 = .ok (.iload_n 3, 1) := by decide +kernel
theorem dX2_fitsName_32 : decode cX2_fitsName 32 = .ok (.invokevirtual 64, 3) := by decide +kernel
theorem dX2_fitsName_35 : decode cX2_fitsName 35 = .ok (.istore_n 3, 1) := by decide +kernel
theorem dX2_fitsName_36 : decode cX2_fitsName 36 = .ok (.iinc 4 1, 3) := by decide +kernel
theorem dX2_fitsName_39 : decode cX2_fitsName 39 = .ok (.goto (-29), 3) := by decide +kernel
theorem dX2_fitsName_42 : decode cX2_fitsName 42 = .ok (.iload_n 3, 1) := by decide +kernel
theorem dX2_fitsName_43 : decode cX2_fitsName 43 = .ok (.aload_n 0, 1) := by decide +kernel
theorem dX2_fitsName_44 : decode cX2_fitsName 44 = .ok (.getfield 15, 3) := by decide +kernel
theorem dX2_fitsName_47 : decode cX2_fitsName 47 = .ok (.invokestatic 68, 3) := by decide +kernel
theorem dX2_fitsName_50 : decode cX2_fitsName 50 = .ok (.ireturn, 1) := by decide +kernel
set_option maxRecDepth 20000 in
theorem ggX2_reachedAfter_X2_isReached : GoodIn wsX2_reachedAfter wsX2_isReached := goodIn_r _ [5] (by decide +kernel) (by decide +kernel)
set_option maxRecDepth 20000 in
theorem gX2_reachedAfter_X2_isReached : GoodIn wsX2_reachedAfter (va_wsS RX2 68 yX2_isReached wsX2_isReached) := goodIn_app (goodIn_of _ (by decide +kernel)) ggX2_reachedAfter_X2_isReached
set_option maxRecDepth 20000 in
theorem ggX2_reachedAfter_X2_standsFor : GoodIn wsX2_reachedAfter wsX2_standsFor := goodIn_r _ [9, 10, 11, 12, 13, 14, 15, 16, 17, 18, 19, 20] (by decide +kernel) (by decide +kernel)
set_option maxRecDepth 20000 in
theorem gX2_reachedAfter_X2_standsFor : GoodIn wsX2_reachedAfter (wsV RX2 71 RX2 yX2_standsFor wsX2_standsFor) := goodIn_app (goodIn_of _ (by decide +kernel)) ggX2_reachedAfter_X2_standsFor
theorem dX2_reachedAfter_0 : decode cX2_reachedAfter 0 = .ok (.iload_n 1, 1) := by decide +kernel
theorem dX2_reachedAfter_1 : decode cX2_reachedAfter 1 = .ok (.bipush 10, 2) := by decide +kernel
theorem dX2_reachedAfter_3 : decode cX2_reachedAfter 3 = .ok (.if_icmp .ne 7, 3) := by decide +kernel
theorem dX2_reachedAfter_6 : decode cX2_reachedAfter 6 = .ok (.iload_n 2, 1) := by decide +kernel
theorem dX2_reachedAfter_7 : decode cX2_reachedAfter 7 = .ok (.goto 4, 3) := by decide +kernel
theorem dX2_reachedAfter_10 : decode cX2_reachedAfter 10 = .ok (.iconst 0, 1) := by decide +kernel
theorem dX2_reachedAfter_11 : decode cX2_reachedAfter 11 = .ok (.istore_n 3, 1) := by decide +kernel
theorem dX2_reachedAfter_12 : decode cX2_reachedAfter 12 = .ok (.iconst 0, 1) := by decide +kernel
theorem dX2_reachedAfter_13 : decode cX2_reachedAfter 13 = .ok (.istore 4, 2) := by decide +kernel
theorem dX2_reachedAfter_15 : decode cX2_reachedAfter 15 = .ok (.iload 4, 2) := by decide +kernel
theorem dX2_reachedAfter_17 : decode cX2_reachedAfter 17 = .ok (.aload_n 0, 1) := by decide +kernel
theorem dX2_reachedAfter_18 : decode cX2_reachedAfter 18 = .ok (.getfield 15, 3) := by decide +kernel
theorem dX2_reachedAfter_21 : decode cX2_reachedAfter 21 = .ok (.if_icmp .ge 64, 3) := by decide +kernel
theorem dX2_reachedAfter_24 : decode cX2_reachedAfter 24 = .ok (.iload_n 1, 1) := by decide +kernel
theorem dX2_reachedAfter_25 : decode cX2_reachedAfter 25 = .ok (.bipush 10, 2) := by decide +kernel
theorem dX2_reachedAfter_27 : decode cX2_reachedAfter 27 = .ok (.if_icmp .ne 12, 3) := by decide +kernel
theorem dX2_reachedAfter_30 : decode cX2_reachedAfter 30 = .ok (.iload_n 3, 1) := by decide +kernel
theorem dX2_reachedAfter_31 : decode cX2_reachedAfter 31 = .ok (.iload 4, 2) := by decide +kernel
theorem dX2_reachedAfter_33 : decode cX2_reachedAfter 33 = .ok (.invokestatic 68, 3) := by decide +kernel
theorem dX2_reachedAfter_36 : decode cX2_reachedAfter 36 = .ok (.goto 27, 3) := by decide +kernel
theorem dX2_reachedAfter_39 : decode cX2_reachedAfter 39 = .ok (.iload_n 2, 1) := by decide +kernel
theorem dX2_reachedAfter_40 : decode cX2_reachedAfter 40 = .ok (.iload 4, 2) := by decide +kernel
theorem dX2_reachedAfter_42 : decode cX2_reachedAfter 42 = .ok (.invokestatic 68, 3) := by decide +kernel
theorem dX2_reachedAfter_45 : decode cX2_reachedAfter 45 = .ok (.ifCond .eq 17, 3) := by decide +kernel
theorem dX2_reachedAfter_48 : decode cX2_reachedAfter 48 = .ok (.aload_n 0, 1) := by decide +kernel
theorem dX2_reachedAfter_49 : decode cX2_reachedAfter 49 = .ok (.iload_n 1, 1) := by decide +kernel
theorem dX2_reachedAfter_50 : decode cX2_reachedAfter 50 = .ok (.iload 4, 2) := by decide +kernel
theorem dX2_reachedAfter_52 : decode cX2_reachedAfter 52 = .ok (.invokevirtual 71, 3) := by decide +kernel
theorem dX2_reachedAfter_55 : decode cX2_reachedAfter 55 = .ok (.ifCond .eq 7, 3) := by decide +kernel
theorem dX2_reachedAfter_58 : decode cX2_reachedAfter 58 = .ok (.iconst 1, 1) := by decide +kernel
theorem dX2_reachedAfter_59 : decode cX2_reachedAfter 59 = .ok (.goto 4, 3) := by decide +kernel
theorem dX2_reachedAfter_62 : decode cX2_reachedAfter 62 = .ok (.iconst 0, 1) := by decide +kernel
theorem dX2_reachedAfter_63 : decode cX2_reachedAfter 63 = .ok (.istore 5, 2) := by decide +kernel
theorem dX2_reachedAfter_65 : decode cX2_reachedAfter 65 = .ok (.iload 5, 2) := by decide +kernel
theorem dX2_reachedAfter_67 : decode cX2_reachedAfter 67 = .ok (.ifCond .eq 12, 3) := by decide +kernel
theorem dX2_reachedAfter_70 : decode cX2_reachedAfter 70 = .ok (.iload_n 3, 1) := by decide +kernel
theorem dX2_reachedAfter_71 : decode cX2_reachedAfter 71 = .ok (.iconst 1, 1) := by decide +kernel
theorem dX2_reachedAfter_72 : decode cX2_reachedAfter 72 = .ok (.iload 4, 2) := by decide +kernel
theorem dX2_reachedAfter_74 : decode cX2_reachedAfter 74 = .ok (.iconst 1, 1) := by decide +kernel
theorem dX2_reachedAfter_75 : decode cX2_reachedAfter 75 = .ok (.iadd, 1) := by decide +kernel
theorem dX2_reachedAfter_76 : decode cX2_reachedAfter 76 = .ok (.ishl, 1) := by decide +kernel
theorem dX2_reachedAfter_77 : decode cX2_reachedAfter 77 = .ok (.ior, 1) := by decide +kernel
theorem dX2_reachedAfter_78 : decode cX2_reachedAfter 78 = .ok (.istore_n 3, 1) := by decide +kernel
theorem dX2_reachedAfter_79 : decode cX2_reachedAfter 79 = .ok (.iinc 4 1, 3) := by decide +kernel
theorem dX2_reachedAfter_82 : decode cX2_reachedAfter 82 = .ok (.goto (-67), 3) := by decide +kernel
theorem dX2_reachedAfter_85 : decode cX2_reachedAfter 85 = .ok (.iload_n 3, 1) := by decide +kernel
theorem dX2_reachedAfter_86 : decode cX2_reachedAfter 86 = .ok (.ireturn, 1) := by decide +kernel
theorem dX2_isReached_0 : decode cX2_isReached 0 = .ok (.iload_n 0, 1) := by decide +kernel
theorem dX2_isReached_1 : decode cX2_isReached 1 = .ok (.iload_n 1, 1) := by decide +kernel
theorem dX2_isReached_2 : decode cX2_isReached 2 = .ok (.ishr, 1) := by decide +kernel
theorem dX2_isReached_3 : decode cX2_isReached 3 = .ok (.iconst 1, 1) := by decide +kernel
theorem dX2_isReached_4 : decode cX2_isReached 4 = .ok (.iand, 1) := by decide +kernel
theorem dX2_isReached_5 : decode cX2_isReached 5 = .ok (.iconst 1, 1) := by decide +kernel
theorem dX2_isReached_6 : decode cX2_isReached 6 = .ok (.if_icmp .ne 7, 3) := by decide +kernel
theorem dX2_isReached_9 : decode cX2_isReached 9 = .ok (.iconst 1, 1) := by decide +kernel
theorem dX2_isReached_10 : decode cX2_isReached 10 = .ok (.goto 4, 3) := by decide +kernel
theorem dX2_isReached_13 : decode cX2_isReached 13 = .ok (.iconst 0, 1) := by decide +kernel
theorem dX2_isReached_14 : decode cX2_isReached 14 = .ok (.ireturn, 1) := by decide +kernel
theorem dX2_standsFor_0 : decode cX2_standsFor 0 = .ok (.iload_n 1, 1) := by decide +kernel
theorem dX2_standsFor_1 : decode cX2_standsFor 1 = .ok (.bipush 11, 2) := by decide +kernel
theorem dX2_standsFor_3 : decode cX2_standsFor 3 = .ok (.if_icmp .eq 13, 3) := by decide +kernel
theorem dX2_standsFor_6 : decode cX2_standsFor 6 = .ok (.iload_n 1, 1) := by decide +kernel
theorem dX2_standsFor_7 : decode cX2_standsFor 7 = .ok (.aload_n 0, 1) := by decide +kernel
theorem dX2_standsFor_8 : decode cX2_standsFor 8 = .ok (.getfield 9, 3) := by decide +kernel
theorem dX2_standsFor_11 : decode cX2_standsFor 11 = .ok (.iload_n 2, 1) := by decide +kernel
theorem dX2_standsFor_12 : decode cX2_standsFor 12 = .ok (.iaload, 1) := by decide +kernel
theorem dX2_standsFor_13 : decode cX2_standsFor 13 = .ok (.if_icmp .ne 7, 3) := by decide +kernel
theorem dX2_standsFor_16 : decode cX2_standsFor 16 = .ok (.iconst 1, 1) := by decide +kernel
theorem dX2_standsFor_17 : decode cX2_standsFor 17 = .ok (.goto 4, 3) := by decide +kernel
theorem dX2_standsFor_20 : decode cX2_standsFor 20 = .ok (.iconst 0, 1) := by decide +kernel
theorem dX2_standsFor_21 : decode cX2_standsFor 21 = .ok (.ireturn, 1) := by decide +kernel
set_option maxRecDepth 20000 in
theorem ggX2_fitsNameByTable_X2_fillLine : GoodIn wsX2_fitsNameByTable wsX2_fillLine := goodIn_r _ [9, 2, 4, 10, 11, 12, 8, 13, 14, 15, 16, 17, 18, 19, 20, 21, 22, 23, 24] (by decide +kernel) (by decide +kernel)
set_option maxRecDepth 20000 in
theorem gX2_fitsNameByTable_X2_fillLine : GoodIn wsX2_fitsNameByTable (wsV RX2 74 RX2 yX2_fillLine wsX2_fillLine) := goodIn_app (goodIn_of _ (by decide +kernel)) ggX2_fitsNameByTable_X2_fillLine
theorem dX2_fitsNameByTable_0 : decode cX2_fitsNameByTable 0 = .ok (.aload_n 0, 1) := by decide +kernel
theorem dX2_fitsNameByTable_1 : decode cX2_fitsNameByTable 1 = .ok (.getfield 25, 3) := by decide +kernel
theorem dX2_fitsNameByTable_4 : decode cX2_fitsNameByTable 4 = .ok (.iload_n 1, 1) := by decide +kernel
theorem dX2_fitsNameByTable_5 : decode cX2_fitsNameByTable 5 = .ok (.iaload, 1) := by decide +kernel
theorem dX2_fitsNameByTable_6 : decode cX2_fitsNameByTable 6 = .ok (.istore_n 2, 1) := by decide +kernel
theorem dX2_fitsNameByTable_7 : decode cX2_fitsNameByTable 7 = .ok (.aload_n 0, 1) := by decide +kernel
theorem dX2_fitsNameByTable_8 : decode cX2_fitsNameByTable 8 = .ok (.getfield 41, 3) := by decide +kernel
theorem dX2_fitsNameByTable_11 : decode cX2_fitsNameByTable 11 = .ok (.iconst 0, 1) := by decide +kernel
theorem dX2_fitsNameByTable_12 : decode cX2_fitsNameByTable 12 = .ok (.iconst 1, 1) := by decide +kernel
theorem dX2_fitsNameByTable_13 : decode cX2_fitsNameByTable 13 = .ok (.bastore, 1) := by decide +kernel
theorem dX2_fitsNameByTable_14 : decode cX2_fitsNameByTable 14 = .ok (.iconst 1, 1) := by decide +kernel
theorem dX2_fitsNameByTable_15 : decode cX2_fitsNameByTable 15 = .ok (.istore_n 3, 1) := by decide +kernel
theorem dX2_fitsNameByTable_16 : decode cX2_fitsNameByTable 16 = .ok (.iload_n 3, 1) := by decide +kernel
theorem dX2_fitsNameByTable_17 : decode cX2_fitsNameByTable 17 = .ok (.iload_n 2, 1) := by decide +kernel
theorem dX2_fitsNameByTable_18 : decode cX2_fitsNameByTable 18 = .ok (.if_icmp .gt 27, 3) := by decide +kernel
theorem dX2_fitsNameByTable_21 : decode cX2_fitsNameByTable 21 = .ok (.aload_n 0, 1) := by decide +kernel
theorem dX2_fitsNameByTable_22 : decode cX2_fitsNameByTable 22 = .ok (.iload_n 3, 1) := by decide +kernel
theorem dX2_fitsNameByTable_23 : decode cX2_fitsNameByTable 23 = .ok (.aload_n 0, 1) := by decide +kernel
theorem dX2_fitsNameByTable_24 : decode cX2_fitsNameByTable 24 = .ok (.getfield 32, 3) := by decide +kernel
theorem dX2_fitsNameByTable_27 : decode cX2_fitsNameByTable 27 = .ok (.iload_n 1, 1) := by decide +kernel
theorem dX2_fitsNameByTable_28 : decode cX2_fitsNameByTable 28 = .ok (.bipush 8, 2) := by decide +kernel
theorem dX2_fitsNameByTable_30 : decode cX2_fitsNameByTable 30 = .ok (.imul, 1) := by decide +kernel
theorem dX2_fitsNameByTable_31 : decode cX2_fitsNameByTable 31 = .ok (.iload_n 3, 1) := by decide +kernel
theorem dX2_fitsNameByTable_32 : decode cX2_fitsNameByTable 32 = .ok (.iadd, 1) := by decide +kernel
theorem dX2_fitsNameByTable_33 : decode cX2_fitsNameByTable 33 = .ok (.iconst 1, 1) := by decide +kernel
theorem dX2_fitsNameByTable_34 : decode cX2_fitsNameByTable 34 = .ok (.isub, 1) := by decide +kernel
theorem dX2_fitsNameByTable_35 : decode cX2_fitsNameByTable 35 = .ok (.iaload, 1) := by decide +kernel
theorem dX2_fitsNameByTable_36 : decode cX2_fitsNameByTable 36 = .ok (.invokevirtual 74, 3) := by decide +kernel
theorem dX2_fitsNameByTable_39 : decode cX2_fitsNameByTable 39 = .ok (.iinc 3 1, 3) := by decide +kernel
theorem dX2_fitsNameByTable_42 : decode cX2_fitsNameByTable 42 = .ok (.goto (-26), 3) := by decide +kernel
theorem dX2_fitsNameByTable_45 : decode cX2_fitsNameByTable 45 = .ok (.aload_n 0, 1) := by decide +kernel
theorem dX2_fitsNameByTable_46 : decode cX2_fitsNameByTable 46 = .ok (.getfield 41, 3) := by decide +kernel
theorem dX2_fitsNameByTable_49 : decode cX2_fitsNameByTable 49 = .ok (.iload_n 2, 1) := by decide +kernel
theorem dX2_fitsNameByTable_50 : decode cX2_fitsNameByTable 50 = .ok (.bipush 13, 2) := by decide +kernel
theorem dX2_fitsNameByTable_52 : decode cX2_fitsNameByTable 52 = .ok (.imul, 1) := by decide +kernel
theorem dX2_fitsNameByTable_53 : decode cX2_fitsNameByTable 53 = .ok (.aload_n 0, 1) := by decide +kernel
theorem dX2_fitsNameByTable_54 : decode cX2_fitsNameByTable 54 = .ok (.getfield 15, 3) := by decide +kernel
theorem dX2_fitsNameByTable_57 : decode cX2_fitsNameByTable 57 = .ok (.iadd, 1) := by decide +kernel
theorem dX2_fitsNameByTable_58 : decode cX2_fitsNameByTable 58 = .ok (.baload, 1) := by decide +kernel
theorem dX2_fitsNameByTable_59 : decode cX2_fitsNameByTable 59 = .ok (.ireturn, 1) := by decide +kernel
set_option maxRecDepth 20000 in
theorem ggX2_fillLine_X2_standsFor : GoodIn wsX2_fillLine wsX2_standsFor := goodIn_r _ [7, 8, 9, 10, 11, 12, 13, 14, 15, 16, 17, 18] (by decide +kernel) (by decide +kernel)
set_option maxRecDepth 20000 in
theorem gX2_fillLine_X2_standsFor : GoodIn wsX2_fillLine (wsV RX2 71 RX2 yX2_standsFor wsX2_standsFor) := goodIn_app (goodIn_of _ (by decide +kernel)) ggX2_fillLine_X2_standsFor
theorem dX2_fillLine_0 : decode cX2_fillLine 0 = .ok (.iload_n 1, 1) := by decide +kernel
theorem dX2_fillLine_1 : decode cX2_fillLine 1 = .ok (.bipush 13, 2) := by decide +kernel
theorem dX2_fillLine_3 : decode cX2_fillLine 3 = .ok (.imul, 1) := by decide +kernel
theorem dX2_fillLine_4 : decode cX2_fillLine 4 = .ok (.istore_n 3, 1) := by decide +kernel
theorem dX2_fillLine_5 : decode cX2_fillLine 5 = .ok (.iload_n 3, 1) := by decide +kernel
theorem dX2_fillLine_6 : decode cX2_fillLine 6 = .ok (.bipush 13, 2) := by decide +kernel
theorem dX2_fillLine_8 : decode cX2_fillLine 8 = .ok (.isub, 1) := by decide +kernel
theorem dX2_fillLine_9 : decode cX2_fillLine 9 = .ok (.istore 4, 2) := by decide +kernel
theorem dX2_fillLine_11 : decode cX2_fillLine 11 = .ok (.aload_n 0, 1) := by decide +kernel
theorem dX2_fillLine_12 : decode cX2_fillLine 12 = .ok (.getfield 41, 3) := by decide +kernel
theorem dX2_fillLine_15 : decode cX2_fillLine 15 = .ok (.iload_n 3, 1) := by decide +kernel
theorem dX2_fillLine_16 : decode cX2_fillLine 16 = .ok (.iload_n 2, 1) := by decide +kernel
theorem dX2_fillLine_17 : decode cX2_fillLine 17 = .ok (.bipush 10, 2) := by decide +kernel
theorem dX2_fillLine_19 : decode cX2_fillLine 19 = .ok (.if_icmp .ne 17, 3) := by decide +kernel
theorem dX2_fillLine_22 : decode cX2_fillLine 22 = .ok (.aload_n 0, 1) := by decide +kernel
theorem dX2_fillLine_23 : decode cX2_fillLine 23 = .ok (.getfield 41, 3) := by decide +kernel
theorem dX2_fillLine_26 : decode cX2_fillLine 26 = .ok (.iload 4, 2) := by decide +kernel
theorem dX2_fillLine_28 : decode cX2_fillLine 28 = .ok (.baload, 1) := by decide +kernel
theorem dX2_fillLine_29 : decode cX2_fillLine 29 = .ok (.ifCond .eq 7, 3) := by decide +kernel
theorem dX2_fillLine_32 : decode cX2_fillLine 32 = .ok (.iconst 1, 1) := by decide +kernel
theorem dX2_fillLine_33 : decode cX2_fillLine 33 = .ok (.goto 4, 3) := by decide +kernel
theorem dX2_fillLine_36 : decode cX2_fillLine 36 = .ok (.iconst 0, 1) := by decide +kernel
theorem dX2_fillLine_37 : decode cX2_fillLine 37 = .ok (.bastore, 1) := by decide +kernel
theorem dX2_fillLine_38 : decode cX2_fillLine 38 = .ok (.iconst 1, 1) := by decide +kernel
theorem dX2_fillLine_39 : decode cX2_fillLine 39 = .ok (.istore 5, 2) := by decide +kernel
theorem dX2_fillLine_41 : decode cX2_fillLine 41 = .ok (.iload 5, 2) := by decide +kernel
theorem dX2_fillLine_43 : decode cX2_fillLine 43 = .ok (.aload_n 0, 1) := by decide +kernel
theorem dX2_fillLine_44 : decode cX2_fillLine 44 = .ok (.getfield 15, 3) := by decide +kernel
theorem dX2_fillLine_47 : decode cX2_fillLine 47 = .ok (.if_icmp .gt 91, 3) := by decide +kernel
theorem dX2_fillLine_50 : decode cX2_fillLine 50 = .ok (.aload_n 0, 1) := by decide +kernel
theorem dX2_fillLine_51 : decode cX2_fillLine 51 = .ok (.getfield 41, 3) := by decide +kernel
theorem dX2_fillLine_54 : decode cX2_fillLine 54 = .ok (.iload_n 3, 1) := by decide +kernel
theorem dX2_fillLine_55 : decode cX2_fillLine 55 = .ok (.iload 5, 2) := by decide +kernel
theorem dX2_fillLine_57 : decode cX2_fillLine 57 = .ok (.iadd, 1) := by decide +kernel
theorem dX2_fillLine_58 : decode cX2_fillLine 58 = .ok (.iload_n 2, 1) := by decide +kernel
theorem dX2_fillLine_59 : decode cX2_fillLine 59 = .ok (.bipush 10, 2) := by decide +kernel
theorem dX2_fillLine_61 : decode cX2_fillLine 61 = .ok (.if_icmp .ne 38, 3) := by decide +kernel
theorem dX2_fillLine_64 : decode cX2_fillLine 64 = .ok (.aload_n 0, 1) := by decide +kernel
theorem dX2_fillLine_65 : decode cX2_fillLine 65 = .ok (.getfield 41, 3) := by decide +kernel
theorem dX2_fillLine_68 : decode cX2_fillLine 68 = .ok (.iload 4, 2) := by decide +kernel
theorem dX2_fillLine_70 : decode cX2_fillLine 70 = .ok (.iload 5, 2) := by decide +kernel
theorem dX2_fillLine_72 : decode cX2_fillLine 72 = .ok (.iadd, 1) := by decide +kernel
theorem dX2_fillLine_73 : decode cX2_fillLine 73 = .ok (.baload, 1) := by decide +kernel
theorem dX2_fillLine_74 : decode cX2_fillLine 74 = .ok (.ifCond .ne 17, 3) := by decide +kernel
theorem dX2_fillLine_77 : decode cX2_fillLine 77 = .ok (.aload_n 0, 1) := by decide +kernel
theorem dX2_fillLine_78 : decode cX2_fillLine 78 = .ok (.getfield 41, 3) := by decide +kernel
theorem dX2_fillLine_81 : decode cX2_fillLine 81 = .ok (.iload_n 3, 1) := by decide +kernel
theorem dX2_fillLine_82 : decode cX2_fillLine 82 = .ok (.iload 5, 2) := by decide +kernel
theorem dX2_fillLine_84 : decode cX2_fillLine 84 = .ok (.iadd, 1) := by decide +kernel
theorem dX2_fillLine_85 : decode cX2_fillLine 85 = .ok (.iconst 1, 1) := by decide +kernel
theorem dX2_fillLine_86 : decode cX2_fillLine 86 = .ok (.isub, 1) := by decide +kernel
theorem dX2_fillLine_87 : decode cX2_fillLine 87 = .ok (.baload, 1) := by decide +kernel
theorem dX2_fillLine_88 : decode cX2_fillLine 88 = .ok (.ifCond .eq 7, 3) := by decide +kernel
theorem dX2_fillLine_91 : decode cX2_fillLine 91 = .ok (.iconst 1, 1) := by decide +kernel
theorem dX2_fillLine_92 : decode cX2_fillLine 92 = .ok (.goto 39, 3) := by decide +kernel
theorem dX2_fillLine_95 : decode cX2_fillLine 95 = .ok (.iconst 0, 1) := by decide +kernel
theorem dX2_fillLine_96 : decode cX2_fillLine 96 = .ok (.goto 35, 3) := by decide +kernel
theorem dX2_fillLine_99 : decode cX2_fillLine 99 = .ok (.aload_n 0, 1) := by decide +kernel
theorem dX2_fillLine_100 : decode cX2_fillLine 100 = .ok (.getfield 41, 3) := by decide +kernel
theorem dX2_fillLine_103 : decode cX2_fillLine 103 = .ok (.iload 4, 2) := by decide +kernel
theorem dX2_fillLine_105 : decode cX2_fillLine 105 = .ok (.iload 5, 2) := by decide +kernel
theorem dX2_fillLine_107 : decode cX2_fillLine 107 = .ok (.iadd, 1) := by decide +kernel
theorem dX2_fillLine_108 : decode cX2_fillLine 108 = .ok (.iconst 1, 1) := by decide +kernel
theorem dX2_fillLine_109 : decode cX2_fillLine 109 = .ok (.isub, 1) := by decide +kernel
theorem dX2_fillLine_110 : decode cX2_fillLine 110 = .ok (.baload, 1) := by decide +kernel
theorem dX2_fillLine_111 : decode cX2_fillLine 111 = .ok (.ifCond .eq 19, 3) := by decide +kernel
theorem dX2_fillLine_114 : decode cX2_fillLine 114 = .ok (.aload_n 0, 1) := by decide +kernel
theorem dX2_fillLine_115 : decode cX2_fillLine 115 = .ok (.iload_n 2, 1) := by decide +kernel
theorem dX2_fillLine_116 : decode cX2_fillLine 116 = .ok (.iload 5, 2) := by decide +kernel
theorem dX2_fillLine_118 : decode cX2_fillLine 118 = .ok (.iconst 1, 1) := by decide +kernel
theorem dX2_fillLine_119 : decode cX2_fillLine 119 = .ok (.isub, 1) := by decide +kernel
theorem dX2_fillLine_120 : decode cX2_fillLine 120 = .ok (.invokevirtual 71, 3) := by decide +kernel
theorem dX2_fillLine_123 : decode cX2_fillLine 123 = .ok (.ifCond .eq 7, 3) := by decide +kernel
theorem dX2_fillLine_126 : decode cX2_fillLine 126 = .ok (.iconst 1, 1) := by decide +kernel
theorem dX2_fillLine_127 : decode cX2_fillLine 127 = .ok (.goto 4, 3) := by decide +kernel
theorem dX2_fillLine_130 : decode cX2_fillLine 130 = .ok (.iconst 0, 1) := by decide +kernel
theorem dX2_fillLine_131 : decode cX2_fillLine 131 = .ok (.bastore, 1) := by decide +kernel
theorem dX2_fillLine_132 : decode cX2_fillLine 132 = .ok (.iinc 5 1, 3) := by decide +kernel
theorem dX2_fillLine_135 : decode cX2_fillLine 135 = .ok (.goto (-94), 3) := by decide +kernel
theorem dX2_fillLine_138 : decode cX2_fillLine 138 = .ok (.return_, 1) := by decide +kernel
set_option maxRecDepth 20000 in
theorem ggX3_init_J7_fill_53178 : GoodIn wsX3_init wsJ7_fill_53178 := goodIn_r _ [10] (by decide +kernel) (by decide +kernel)
set_option maxRecDepth 20000 in
theorem gX3_init_J7_fill_53178 : GoodIn wsX3_init (va_wsS RX3 18 yJ7_fill_53178 wsJ7_fill_53178) := goodIn_app (goodIn_of _ (by decide +kernel)) ggX3_init_J7_fill_53178
theorem dX3_init_0 : decode cX3_init 0 = .ok (.aload_n 0, 1) := by decide +kernel
theorem dX3_init_1 : decode cX3_init 1 = .ok (.invokespecial 3, 3) := by decide +kernel
theorem dX3_init_4 : decode cX3_init 4 = .ok (.aload_n 0, 1) := by decide +kernel
theorem dX3_init_5 : decode cX3_init 5 = .ok (.sipush 420, 3) := by decide +kernel
theorem dX3_init_8 : decode cX3_init 8 = .ok (.newarray .int, 2) := by decide +kernel
theorem dX3_init_10 : decode cX3_init 10 = .ok (.putfield 9, 3) := by decide +kernel
theorem dX3_init_13 : decode cX3_init 13 = .ok (.aload_n 0, 1) := by decide +kernel
theorem dX3_init_14 : decode cX3_init 14 = .ok (.bipush 42, 2) := by decide +kernel
theorem dX3_init_16 : decode cX3_init 16 = .ok (.newarray .int, 2) := by decide +kernel
theorem dX3_init_18 : decode cX3_init 18 = .ok (.putfield 15, 3) := by decide +kernel
theorem dX3_init_21 : decode cX3_init 21 = .ok (.aload_n 0, 1) := by decide +kernel
theorem dX3_init_22 : decode cX3_init 22 = .ok (.getfield 15, 3) := by decide +kernel
theorem dX3_init_25 : decode cX3_init 25 = .ok (.iconst (-1), 1) := by decide +kernel
theorem dX3_init_26 : decode cX3_init 26 = .ok (.invokestatic 18, 3) := by decide +kernel
theorem dX3_init_29 : decode cX3_init 29 = .ok (.return_, 1) := by decide +kernel
theorem dJ7_fill_53178_0 : decode cJ7_fill_53178 0 = .ok (.iconst 0, 1) := by decide +kernel
theorem dJ7_fill_53178_1 : decode cJ7_fill_53178 1 = .ok (.istore_n 2, 1) := by decide +kernel
theorem dJ7_fill_53178_2 : decode cJ7_fill_53178 2 = .ok (.aload_n 0, 1) := by decide +kernel
theorem dJ7_fill_53178_3 : decode cJ7_fill_53178 3 = .ok (.arraylength, 1) := by decide +kernel
theorem dJ7_fill_53178_4 : decode cJ7_fill_53178 4 = .ok (.istore_n 3, 1) := by decide +kernel
theorem dJ7_fill_53178_5 : decode cJ7_fill_53178 5 = .ok (.iload_n 2, 1) := by decide +kernel
theorem dJ7_fill_53178_6 : decode cJ7_fill_53178 6 = .ok (.iload_n 3, 1) := by decide +kernel
theorem dJ7_fill_53178_7 : decode cJ7_fill_53178 7 = .ok (.if_icmp .ge 13, 3) := by decide +kernel
theorem dJ7_fill_53178_10 : decode cJ7_fill_53178 10 = .ok (.aload_n 0, 1) := by decide +kernel
theorem dJ7_fill_53178_11 : decode cJ7_fill_53178 11 = .ok (.iload_n 2, 1) := by decide +kernel
theorem dJ7_fill_53178_12 : decode cJ7_fill_53178 12 = .ok (.iload_n 1, 1) := by decide +kernel
theorem dJ7_fill_53178_13 : decode cJ7_fill_53178 13 = .ok (.iastore, 1) := by decide +kernel
theorem dJ7_fill_53178_14 : decode cJ7_fill_53178 14 = .ok (.iinc 2 1, 3) := by decide +kernel
theorem dJ7_fill_53178_17 : decode cJ7_fill_53178 17 = .ok (.goto (-12), 3) := by decide +kernel
theorem dJ7_fill_53178_20 : decode cJ7_fill_53178 20 = .ok (.return_, 1) := by decide +kernel
