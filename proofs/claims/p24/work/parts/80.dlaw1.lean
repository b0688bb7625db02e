set_option maxRecDepth 20000 in
theorem ggL_law_X4_init : GoodIn wsL_law wsX4_init := goodIn_r _ [5, 6, 7, 8, 9, 10, 11, 12, 13, 14, 15, 16, 17, 18, 19, 20, 21, 22, 23, 24, 25, 26, 27, 28, 29, 30, 31, 32, 33, 34, 35, 36, 37, 38, 39, 40, 41, 42, 43, 44, 45, 46, 47, 48, 49, 50, 51, 52, 53, 54, 55, 56, 57, 58, 59, 60, 61, 62, 63, 64, 65, 66, 67, 68, 69, 355, 356, 351, 352, 353, 354, 357, 358, 359, 360, 361, 362, 363, 364, 365, 366, 367, 368, 369, 370, 371, 372, 373, 374, 375, 376, 377, 378, 379, 380] (by decide +kernel) (by decide +kernel)
set_option maxRecDepth 20000 in
theorem gL_law_X4_init : GoodIn wsL_law (wsX4_init) := ggL_law_X4_init
set_option maxRecDepth 20000 in
theorem ggL_law_L_drawn : GoodIn wsL_law wsL_drawn := goodIn_r _ [73, 74] (by decide +kernel) (by decide +kernel)
set_option maxRecDepth 20000 in
theorem gL_law_L_drawn : GoodIn wsL_law (va_wsS RL 52 yL_drawn wsL_drawn) := goodIn_app (goodIn_of _ (by decide +kernel)) ggL_law_L_drawn
set_option maxRecDepth 20000 in
theorem ggL_law_X4_kinds : GoodIn wsL_law wsX4_kinds := goodIn_r _ [78, 12, 79, 80, 81, 11, 82, 30, 351, 352, 353, 354, 355, 356] (by decide +kernel) (by decide +kernel)
set_option maxRecDepth 20000 in
theorem gL_law_X4_kinds : GoodIn wsL_law (wsV RL 58 RX4 yX4_kinds wsX4_kinds) := goodIn_app (goodIn_of _ (by decide +kernel)) ggL_law_X4_kinds
set_option maxRecDepth 20000 in
theorem ggL_law_L_does : GoodIn wsL_law wsL_does := goodIn_ca (goodIn_ca (goodIn_ca (goodIn_r _ [85, 86, 87, 88, 89, 90, 91, 2, 92, 93, 94, 95, 96, 12, 97, 98, 99, 11, 100, 30, 101, 102, 103, 104, 105, 106, 107, 108, 29, 109, 110, 111, 112, 20, 113, 114, 115, 116, 117, 118, 119, 120, 121, 122, 123, 124, 125, 126, 127, 19, 128, 53, 129, 130, 131, 132, 50, 51, 133, 134, 135, 136, 16, 137, 138, 139, 140, 141, 142, 143, 15, 144, 42, 40, 145, 146, 147, 148, 43, 149, 150, 151, 152, 153, 154, 155, 156, 35, 157, 158, 159, 160, 34, 161, 162, 163, 164, 165, 166, 167, 168, 49, 169, 170, 171, 172, 48, 351, 352, 353, 354, 355, 356, 367, 368, 369, 370, 371, 372, 373, 374, 375, 376, 377, 378, 357, 358, 359, 360, 361, 362, 363, 364, 365, 366] (by decide +kernel) (by decide +kernel)) (goodIn_sub (fun _ h => List.mem_append_left _ (List.mem_append_left _ (List.mem_append_right _ h))) (by decide +kernel))) (goodIn_sub (fun _ h => List.mem_append_left _ (List.mem_append_right _ h)) (by decide +kernel))) (goodIn_sub (fun _ h => List.mem_append_right _ h) (by decide +kernel))
set_option maxRecDepth 20000 in
theorem gL_law_L_does : GoodIn wsL_law (va_wsS RL 62 yL_does wsL_does) := goodIn_app (goodIn_of _ (by decide +kernel)) ggL_law_L_does
set_option maxRecDepth 20000 in
theorem ggL_law_L_turned : GoodIn wsL_law wsL_turned := goodIn_r _ [175] (by decide +kernel) (by decide +kernel)
set_option maxRecDepth 20000 in
theorem gL_law_L_turned : GoodIn wsL_law (va_wsS RL 66 yL_turned wsL_turned) := goodIn_app (goodIn_of _ (by decide +kernel)) ggL_law_L_turned
set_option maxRecDepth 20000 in
theorem ggL_law_L_pattern : GoodIn wsL_law wsL_pattern := goodIn_ca (goodIn_ca (goodIn_ca (goodIn_r _ [178, 86, 87, 88, 179, 180, 181, 2, 182, 95, 96, 16, 113, 114, 115, 116, 93, 94, 12, 97, 98, 99, 11, 100, 30, 117, 118, 119, 120, 121, 122, 123, 124, 183, 184, 185, 186, 187, 188, 15, 189, 42, 190, 191, 192, 193, 41, 194, 195, 196, 197, 36, 37, 38, 40, 43, 351, 352, 353, 354, 355, 356, 357, 358, 359, 360, 361, 362, 363, 364, 365, 366] (by decide +kernel) (by decide +kernel)) (goodIn_sub (fun _ h => List.mem_append_left _ (List.mem_append_right _ h)) (by decide +kernel))) (goodIn_sub (fun _ h => List.mem_append_left _ (List.mem_append_left _ (List.mem_append_right _ h))) (by decide +kernel))) (goodIn_sub (fun _ h => List.mem_append_right _ h) (by decide +kernel))
set_option maxRecDepth 20000 in
theorem gL_law_L_pattern : GoodIn wsL_law (va_wsS RL 69 yL_pattern wsL_pattern) := goodIn_app (goodIn_of _ (by decide +kernel)) ggL_law_L_pattern
set_option maxRecDepth 20000 in
theorem ggL_law_L_test : GoodIn wsL_law wsL_test := goodIn_ca (goodIn_ca (goodIn_ca (goodIn_r _ [200, 86, 87, 88, 201, 202, 203, 2, 204, 95, 96, 20, 205, 206, 207, 208, 93, 94, 209, 210, 211, 19, 212, 53, 213, 214, 215, 216, 52, 54, 117, 118, 119, 120, 121, 122, 123, 124, 217, 218, 219, 220, 221, 222, 223, 224, 55, 56, 57, 58, 351, 352, 353, 354, 367, 368, 369, 370, 371, 372, 373, 374, 375, 376, 377, 378] (by decide +kernel) (by decide +kernel)) (goodIn_sub (fun _ h => List.mem_append_left _ (List.mem_append_right _ h)) (by decide +kernel))) (goodIn_sub (fun _ h => List.mem_append_left _ (List.mem_append_left _ (List.mem_append_right _ h))) (by decide +kernel))) (goodIn_sub (fun _ h => List.mem_append_right _ h) (by decide +kernel))
set_option maxRecDepth 20000 in
theorem gL_law_L_test : GoodIn wsL_law (va_wsS RL 72 yL_test wsL_test) := goodIn_app (goodIn_of _ (by decide +kernel)) ggL_law_L_test
set_option maxRecDepth 20000 in
theorem ggL_law_X4_empty : GoodIn wsL_law wsX4_empty := goodIn_r _ [228, 16, 20, 229, 230, 231, 15, 232, 35, 233, 234, 235, 19, 236, 49, 351, 352, 353, 354, 357, 358, 359, 360, 361, 362, 363, 364, 365, 366, 367, 368, 369, 370, 371, 372, 373, 374, 375, 376, 377, 378] (by decide +kernel) (by decide +kernel)
set_option maxRecDepth 20000 in
theorem gL_law_X4_empty : GoodIn wsL_law (wsV RL 75 RX4 yX4_empty wsX4_empty) := goodIn_app (goodIn_of _ (by decide +kernel)) ggL_law_X4_empty
set_option maxRecDepth 20000 in
theorem ggL_law_X4_byName : GoodIn wsL_law wsX4_byName := goodIn_r _ [240, 16, 12, 241, 242, 243, 15, 244, 42, 40, 245, 246, 247, 248, 37, 38, 249, 250, 251, 252, 36, 253, 254, 255, 11, 256, 257, 258, 259, 260, 29, 261, 98, 99, 100, 30, 262, 263, 264, 265, 41, 35, 266, 267, 268, 269, 270, 271, 272, 273, 274, 275, 276, 34, 277, 278, 279, 280, 281, 142, 143, 144, 351, 352, 353, 354, 357, 358, 359, 360, 361, 362, 363, 364, 365, 366, 355, 356] (by decide +kernel) (by decide +kernel)
set_option maxRecDepth 20000 in
theorem gL_law_X4_byName : GoodIn wsL_law (wsV RL 78 RX4 yX4_byName wsX4_byName) := goodIn_app (goodIn_of _ (by decide +kernel)) ggL_law_X4_byName
set_option maxRecDepth 20000 in
theorem ggL_law_X4_byBytes : GoodIn wsL_law wsX4_byBytes := goodIn_r _ [285, 20, 286, 287, 288, 19, 289, 53, 51, 290, 291, 292, 293, 52, 59, 54, 294, 295, 296, 297, 55, 56, 49, 48, 58, 57, 298, 299, 300, 301, 302, 303, 304, 305, 50, 306, 210, 211, 212, 351, 352, 353, 354, 367, 368, 369, 370, 371, 372, 373, 374, 375, 376, 377, 378] (by decide +kernel) (by decide +kernel)
set_option maxRecDepth 20000 in
theorem gL_law_X4_byBytes : GoodIn wsL_law (wsV RL 81 RX4 yX4_byBytes wsX4_byBytes) := goodIn_app (goodIn_of _ (by decide +kernel)) ggL_law_X4_byBytes
set_option maxRecDepth 20000 in
theorem ggL_law_X4_guess : GoodIn wsL_law wsX4_guess := goodIn_r _ [310, 20, 16, 12, 286, 287, 288, 19, 289, 53, 51, 290, 291, 292, 293, 52, 59, 54, 294, 295, 296, 297, 55, 56, 49, 48, 58, 57, 298, 299, 300, 301, 241, 242, 243, 15, 244, 42, 40, 245, 246, 247, 248, 37, 38, 249, 250, 251, 252, 36, 253, 254, 255, 11, 256, 257, 258, 259, 260, 29, 261, 98, 99, 100, 30, 262, 263, 264, 265, 41, 35, 266, 267, 268, 269, 270, 271, 272, 273, 274, 275, 276, 34, 311, 312, 313, 2, 314, 302, 303, 304, 305, 50, 306, 210, 211, 212, 277, 278, 279, 280, 281, 142, 143, 144, 315, 316, 317, 318, 319, 320, 321, 322, 323, 324, 325, 351, 352, 353, 354, 367, 368, 369, 370, 371, 372, 373, 374, 375, 376, 377, 378, 357, 358, 359, 360, 361, 362, 363, 364, 365, 366, 355, 356] (by decide +kernel) (by decide +kernel)
set_option maxRecDepth 20000 in
theorem gL_law_X4_guess : GoodIn wsL_law (wsV RL 84 RX4 yX4_guess wsX4_guess) := goodIn_app (goodIn_of _ (by decide +kernel)) ggL_law_X4_guess
set_option maxRecDepth 20000 in
theorem ggL_law_L_is : GoodIn wsL_law wsL_is := goodIn_ca (goodIn_r _ [328, 86, 329, 330, 331, 2, 332, 16, 137, 138, 139, 140, 93, 94, 141, 142, 143, 15, 144, 42, 40, 333, 263, 264, 265, 38, 41, 35, 266, 267, 268, 269, 270, 271, 272, 273, 274, 275, 276, 34, 334, 335, 336, 337, 338, 339, 340, 341, 44, 342, 343, 344, 345, 346, 347, 348, 349, 20, 205, 206, 207, 208, 209, 210, 211, 19, 212, 53, 350, 291, 292, 293, 52, 59, 54, 294, 295, 296, 297, 55, 56, 49, 48, 58, 57, 298, 299, 300, 301, 351, 352, 353, 354, 357, 358, 359, 360, 361, 362, 363, 364, 365, 366, 367, 368, 369, 370, 371, 372, 373, 374, 375, 376, 377, 378] (by decide +kernel) (by decide +kernel)) (goodIn_sub (fun _ h => List.mem_append_left _ (List.mem_append_left _ (List.mem_append_right _ h))) (by decide +kernel))
set_option maxRecDepth 20000 in
theorem gL_law_L_is : GoodIn wsL_law (va_wsS RL 87 yL_is wsL_is) := goodIn_app (goodIn_of _ (by decide +kernel)) ggL_law_L_is
theorem dL_law_0 : decode cL_law 0 = .ok (.new 9, 3) := by decide +kernel
theorem dL_law_3 : decode cL_law 3 = .ok (.dup, 1) := by decide +kernel
theorem dL_law_4 : decode cL_law 4 = .ok (.invokespecial 51, 3) := by decide +kernel
theorem dL_law_7 : decode cL_law 7 = .ok (.astore_n 1, 1) := by decide +kernel
theorem dL_law_8 : decode cL_law 8 = .ok (.new 9, 3) := by decide +kernel
theorem dL_law_11 : decode cL_law 11 = .ok (.dup, 1) := by decide +kernel
theorem dL_law_12 : decode cL_law 12 = .ok (.invokespecial 51, 3) := by decide +kernel
theorem dL_law_15 : decode cL_law 15 = .ok (.astore_n 2, 1) := by decide +kernel
theorem dL_law_16 : decode cL_law 16 = .ok (.iconst 1, 1) := by decide +kernel
theorem dL_law_17 : decode cL_law 17 = .ok (.istore_n 3, 1) := by decide +kernel
theorem dL_law_18 : decode cL_law 18 = .ok (.iconst 0, 1) := by decide +kernel
theorem dL_law_19 : decode cL_law 19 = .ok (.istore 4, 2) := by decide +kernel
theorem dL_law_21 : decode cL_law 21 = .ok (.iload 4, 2) := by decide +kernel
theorem dL_law_23 : decode cL_law 23 = .ok (.bipush 120, 2) := by decide +kernel
theorem dL_law_25 : decode cL_law 25 = .ok (.if_icmp .ge 805, 3) := by decide +kernel
theorem dL_law_28 : decode cL_law 28 = .ok (.iload_n 3, 1) := by decide +kernel
theorem dL_law_29 : decode cL_law 29 = .ok (.ifCond .eq 801, 3) := by decide +kernel
theorem dL_law_32 : decode cL_law 32 = .ok (.aload_n 0, 1) := by decide +kernel
theorem dL_law_33 : decode cL_law 33 = .ok (.iload 4, 2) := by decide +kernel
theorem dL_law_35 : decode cL_law 35 = .ok (.bipush 60, 2) := by decide +kernel
theorem dL_law_37 : decode cL_law 37 = .ok (.irem, 1) := by decide +kernel
theorem dL_law_38 : decode cL_law 38 = .ok (.invokestatic 52, 3) := by decide +kernel
theorem dL_law_41 : decode cL_law 41 = .ok (.iconst 1, 1) := by decide +kernel
theorem dL_law_42 : decode cL_law 42 = .ok (.iload 4, 2) := by decide +kernel
theorem dL_law_44 : decode cL_law 44 = .ok (.bipush 60, 2) := by decide +kernel
theorem dL_law_46 : decode cL_law 46 = .ok (.idiv, 1) := by decide +kernel
theorem dL_law_47 : decode cL_law 47 = .ok (.iadd, 1) := by decide +kernel
theorem dL_law_48 : decode cL_law 48 = .ok (.idiv, 1) := by decide +kernel
theorem dL_law_49 : decode cL_law 49 = .ok (.iconst 5, 1) := by decide +kernel
theorem dL_law_50 : decode cL_law 50 = .ok (.iload 4, 2) := by decide +kernel
theorem dL_law_52 : decode cL_law 52 = .ok (.bipush 60, 2) := by decide +kernel
theorem dL_law_54 : decode cL_law 54 = .ok (.idiv, 1) := by decide +kernel
theorem dL_law_55 : decode cL_law 55 = .ok (.imul, 1) := by decide +kernel
theorem dL_law_56 : decode cL_law 56 = .ok (.iadd, 1) := by decide +kernel
theorem dL_law_57 : decode cL_law 57 = .ok (.istore 5, 2) := by decide +kernel
theorem dL_law_59 : decode cL_law 59 = .ok (.iload 4, 2) := by decide +kernel
theorem dL_law_61 : decode cL_law 61 = .ok (.iconst 2, 1) := by decide +kernel
theorem dL_law_62 : decode cL_law 62 = .ok (.if_icmp .ge 7, 3) := by decide +kernel
theorem dL_law_65 : decode cL_law 65 = .ok (.iconst 0, 1) := by decide +kernel
theorem dL_law_66 : decode cL_law 66 = .ok (.goto 8, 3) := by decide +kernel
theorem dL_law_69 : decode cL_law 69 = .ok (.iload 5, 2) := by decide +kernel
theorem dL_law_71 : decode cL_law 71 = .ok (.bipush 16, 2) := by decide +kernel
theorem dL_law_73 : decode cL_law 73 = .ok (.irem, 1) := by decide +kernel
theorem dL_law_74 : decode cL_law 74 = .ok (.istore 6, 2) := by decide +kernel
theorem dL_law_76 : decode cL_law 76 = .ok (.iload 5, 2) := by decide +kernel
theorem dL_law_78 : decode cL_law 78 = .ok (.bipush 16, 2) := by decide +kernel
theorem dL_law_80 : decode cL_law 80 = .ok (.idiv, 1) := by decide +kernel
theorem dL_law_81 : decode cL_law 81 = .ok (.istore 7, 2) := by decide +kernel
theorem dL_law_83 : decode cL_law 83 = .ok (.aload_n 1, 1) := by decide +kernel
theorem dL_law_84 : decode cL_law 84 = .ok (.invokevirtual 58, 3) := by decide +kernel
theorem dL_law_87 : decode cL_law 87 = .ok (.istore 8, 2) := by decide +kernel
theorem dL_law_89 : decode cL_law 89 = .ok (.iload 8, 2) := by decide +kernel
theorem dL_law_91 : decode cL_law 91 = .ok (.ifCond .ne 7, 3) := by decide +kernel
theorem dL_law_94 : decode cL_law 94 = .ok (.iconst 0, 1) := by decide +kernel
theorem dL_law_95 : decode cL_law 95 = .ok (.goto 8, 3) := by decide +kernel
theorem dL_law_98 : decode cL_law 98 = .ok (.iload 7, 2) := by decide +kernel
theorem dL_law_100 : decode cL_law 100 = .ok (.iload 8, 2) := by decide +kernel
theorem dL_law_102 : decode cL_law 102 = .ok (.irem, 1) := by decide +kernel
theorem dL_law_103 : decode cL_law 103 = .ok (.istore 9, 2) := by decide +kernel
theorem dL_law_105 : decode cL_law 105 = .ok (.iload 6, 2) := by decide +kernel
theorem dL_law_107 : decode cL_law 107 = .ok (.ifCond .ne 53, 3) := by decide +kernel
theorem dL_law_110 : decode cL_law 110 = .ok (.aload_n 1, 1) := by decide +kernel
theorem dL_law_111 : decode cL_law 111 = .ok (.iconst 0, 1) := by decide +kernel
theorem dL_law_112 : decode cL_law 112 = .ok (.iload 7, 2) := by decide +kernel
theorem dL_law_114 : decode cL_law 114 = .ok (.iconst 3, 1) := by decide +kernel
theorem dL_law_115 : decode cL_law 115 = .ok (.irem, 1) := by decide +kernel
theorem dL_law_116 : decode cL_law 116 = .ok (.ifCond .ne 7, 3) := by decide +kernel
theorem dL_law_119 : decode cL_law 119 = .ok (.iconst (-1), 1) := by decide +kernel
theorem dL_law_120 : decode cL_law 120 = .ok (.goto 5, 3) := by decide +kernel
theorem dL_law_123 : decode cL_law 123 = .ok (.iload 9, 2) := by decide +kernel
theorem dL_law_125 : decode cL_law 125 = .ok (.iconst 0, 1) := by decide +kernel
theorem dL_law_126 : decode cL_law 126 = .ok (.invokestatic 62, 3) := by decide +kernel
theorem dL_law_129 : decode cL_law 129 = .ok (.aload_n 2, 1) := by decide +kernel
theorem dL_law_130 : decode cL_law 130 = .ok (.iconst 0, 1) := by decide +kernel
theorem dL_law_131 : decode cL_law 131 = .ok (.iload 7, 2) := by decide +kernel
