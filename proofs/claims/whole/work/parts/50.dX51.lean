theorem dX5_init_0 : decode cX5_init 0 = .ok (.aload_n 0, 1) := by decide +kernel
theorem dX5_init_1 : decode cX5_init 1 = .ok (.invokespecial 1, 3) := by decide +kernel
theorem dX5_init_4 : decode cX5_init 4 = .ok (.aload_n 0, 1) := by decide +kernel
theorem dX5_init_5 : decode cX5_init 5 = .ok (.bipush 14, 2) := by decide +kernel
theorem dX5_init_7 : decode cX5_init 7 = .ok (.newarray .int, 2) := by decide +kernel
theorem dX5_init_9 : decode cX5_init 9 = .ok (.putfield 7, 3) := by decide +kernel
theorem dX5_init_12 : decode cX5_init 12 = .ok (.aload_n 0, 1) := by decide +kernel
theorem dX5_init_13 : decode cX5_init 13 = .ok (.bipush 20, 2) := by decide +kernel
theorem dX5_init_15 : decode cX5_init 15 = .ok (.newarray .int, 2) := by decide +kernel
theorem dX5_init_17 : decode cX5_init 17 = .ok (.putfield 13, 3) := by decide +kernel
theorem dX5_init_20 : decode cX5_init 20 = .ok (.aload_n 0, 1) := by decide +kernel
theorem dX5_init_21 : decode cX5_init 21 = .ok (.bipush 20, 2) := by decide +kernel
theorem dX5_init_23 : decode cX5_init 23 = .ok (.newarray .int, 2) := by decide +kernel
theorem dX5_init_25 : decode cX5_init 25 = .ok (.putfield 16, 3) := by decide +kernel
theorem dX5_init_28 : decode cX5_init 28 = .ok (.aload_n 0, 1) := by decide +kernel
theorem dX5_init_29 : decode cX5_init 29 = .ok (.bipush 20, 2) := by decide +kernel
theorem dX5_init_31 : decode cX5_init 31 = .ok (.newarray .int, 2) := by decide +kernel
theorem dX5_init_33 : decode cX5_init 33 = .ok (.putfield 19, 3) := by decide +kernel
theorem dX5_init_36 : decode cX5_init 36 = .ok (.aload_n 0, 1) := by decide +kernel
theorem dX5_init_37 : decode cX5_init 37 = .ok (.sipush 160, 3) := by decide +kernel
theorem dX5_init_40 : decode cX5_init 40 = .ok (.newarray .int, 2) := by decide +kernel
theorem dX5_init_42 : decode cX5_init 42 = .ok (.putfield 22, 3) := by decide +kernel
theorem dX5_init_45 : decode cX5_init 45 = .ok (.aload_n 0, 1) := by decide +kernel
theorem dX5_init_46 : decode cX5_init 46 = .ok (.bipush 20, 2) := by decide +kernel
theorem dX5_init_48 : decode cX5_init 48 = .ok (.newarray .boolean, 2) := by decide +kernel
theorem dX5_init_50 : decode cX5_init 50 = .ok (.putfield 25, 3) := by decide +kernel
theorem dX5_init_53 : decode cX5_init 53 = .ok (.aload_n 0, 1) := by decide +kernel
theorem dX5_init_54 : decode cX5_init 54 = .ok (.bipush 12, 2) := by decide +kernel
theorem dX5_init_56 : decode cX5_init 56 = .ok (.newarray .int, 2) := by decide +kernel
theorem dX5_init_58 : decode cX5_init 58 = .ok (.putfield 29, 3) := by decide +kernel
theorem dX5_init_61 : decode cX5_init 61 = .ok (.aload_n 0, 1) := by decide +kernel
theorem dX5_init_62 : decode cX5_init 62 = .ok (.bipush 12, 2) := by decide +kernel
theorem dX5_init_64 : decode cX5_init 64 = .ok (.newarray .int, 2) := by decide +kernel
theorem dX5_init_66 : decode cX5_init 66 = .ok (.putfield 32, 3) := by decide +kernel
theorem dX5_init_69 : decode cX5_init 69 = .ok (.aload_n 0, 1) := by decide +kernel
theorem dX5_init_70 : decode cX5_init 70 = .ok (.bipush 12, 2) := by decide +kernel
theorem dX5_init_72 : decode cX5_init 72 = .ok (.newarray .int, 2) := by decide +kernel
theorem dX5_init_74 : decode cX5_init 74 = .ok (.putfield 35, 3) := by decide +kernel
theorem dX5_init_77 : decode cX5_init 77 = .ok (.aload_n 0, 1) := by decide +kernel
theorem dX5_init_78 : decode cX5_init 78 = .ok (.bipush 72, 2) := by decide +kernel
theorem dX5_init_80 : decode cX5_init 80 = .ok (.newarray .int, 2) := by decide +kernel
theorem dX5_init_82 : decode cX5_init 82 = .ok (.putfield 38, 3) := by decide +kernel
theorem dX5_init_85 : decode cX5_init 85 = .ok (.aload_n 0, 1) := by decide +kernel
theorem dX5_init_86 : decode cX5_init 86 = .ok (.bipush 72, 2) := by decide +kernel
theorem dX5_init_88 : decode cX5_init 88 = .ok (.newarray .int, 2) := by decide +kernel
theorem dX5_init_90 : decode cX5_init 90 = .ok (.putfield 41, 3) := by decide +kernel
theorem dX5_init_93 : decode cX5_init 93 = .ok (.aload_n 0, 1) := by decide +kernel
theorem dX5_init_94 : decode cX5_init 94 = .ok (.bipush 72, 2) := by decide +kernel
theorem dX5_init_96 : decode cX5_init 96 = .ok (.newarray .int, 2) := by decide +kernel
theorem dX5_init_98 : decode cX5_init 98 = .ok (.putfield 44, 3) := by decide +kernel
theorem dX5_init_101 : decode cX5_init 101 = .ok (.aload_n 0, 1) := by decide +kernel
theorem dX5_init_102 : decode cX5_init 102 = .ok (.bipush 72, 2) := by decide +kernel
theorem dX5_init_104 : decode cX5_init 104 = .ok (.newarray .int, 2) := by decide +kernel
theorem dX5_init_106 : decode cX5_init 106 = .ok (.putfield 47, 3) := by decide +kernel
theorem dX5_init_109 : decode cX5_init 109 = .ok (.aload_n 0, 1) := by decide +kernel
theorem dX5_init_110 : decode cX5_init 110 = .ok (.bipush 72, 2) := by decide +kernel
theorem dX5_init_112 : decode cX5_init 112 = .ok (.newarray .int, 2) := by decide +kernel
theorem dX5_init_114 : decode cX5_init 114 = .ok (.putfield 50, 3) := by decide +kernel
theorem dX5_init_117 : decode cX5_init 117 = .ok (.aload_n 0, 1) := by decide +kernel
theorem dX5_init_118 : decode cX5_init 118 = .ok (.bipush 12, 2) := by decide +kernel
theorem dX5_init_120 : decode cX5_init 120 = .ok (.newarray .int, 2) := by decide +kernel
theorem dX5_init_122 : decode cX5_init 122 = .ok (.putfield 53, 3) := by decide +kernel
theorem dX5_init_125 : decode cX5_init 125 = .ok (.aload_n 0, 1) := by decide +kernel
theorem dX5_init_126 : decode cX5_init 126 = .ok (.bipush 16, 2) := by decide +kernel
theorem dX5_init_128 : decode cX5_init 128 = .ok (.newarray .int, 2) := by decide +kernel
theorem dX5_init_130 : decode cX5_init 130 = .ok (.putfield 56, 3) := by decide +kernel
theorem dX5_init_133 : decode cX5_init 133 = .ok (.aload_n 0, 1) := by decide +kernel
theorem dX5_init_134 : decode cX5_init 134 = .ok (.sipush 420, 3) := by decide +kernel
theorem dX5_init_137 : decode cX5_init 137 = .ok (.newarray .int, 2) := by decide +kernel
theorem dX5_init_139 : decode cX5_init 139 = .ok (.putfield 59, 3) := by decide +kernel
theorem dX5_init_142 : decode cX5_init 142 = .ok (.aload_n 0, 1) := by decide +kernel
theorem dX5_init_143 : decode cX5_init 143 = .ok (.bipush 42, 2) := by decide +kernel
theorem dX5_init_145 : decode cX5_init 145 = .ok (.newarray .int, 2) := by decide +kernel
theorem dX5_init_147 : decode cX5_init 147 = .ok (.putfield 62, 3) := by decide +kernel
theorem dX5_init_150 : decode cX5_init 150 = .ok (.return_, 1) := by decide +kernel
theorem dX5_thrown_0 : decode cX5_thrown 0 = .ok (.aload_n 0, 1) := by decide +kernel
theorem dX5_thrown_1 : decode cX5_thrown 1 = .ok (.getfield 65, 3) := by decide +kernel
theorem dX5_thrown_4 : decode cX5_thrown 4 = .ok (.ireturn, 1) := by decide +kernel
theorem dX5_in_0 : decode cX5_in 0 = .ok (.iload_n 0, 1) := by decide +kernel
theorem dX5_in_1 : decode cX5_in 1 = .ok (.iload_n 1, 1) := by decide +kernel
theorem dX5_in_2 : decode cX5_in 2 = .ok (.if_icmp .lt 12, 3) := by decide +kernel
theorem dX5_in_5 : decode cX5_in 5 = .ok (.iload_n 0, 1) := by decide +kernel
theorem dX5_in_6 : decode cX5_in 6 = .ok (.iload_n 2, 1) := by decide +kernel
theorem dX5_in_7 : decode cX5_in 7 = .ok (.if_icmp .gt 7, 3) := by decide +kernel
theorem dX5_in_10 : decode cX5_in 10 = .ok (.iconst 1, 1) := by decide +kernel
theorem dX5_in_11 : decode cX5_in 11 = .ok (.goto 4, 3) := by decide +kernel
theorem dX5_in_14 : decode cX5_in 14 = .ok (.iconst 0, 1) := by decide +kernel
theorem dX5_in_15 : decode cX5_in 15 = .ok (.ireturn, 1) := by decide +kernel
theorem dX5_asked_0 : decode cX5_asked 0 = .ok (.aload_n 0, 1) := by decide +kernel
theorem dX5_asked_1 : decode cX5_asked 1 = .ok (.iload_n 1, 1) := by decide +kernel
theorem dX5_asked_2 : decode cX5_asked 2 = .ok (.ifCond .eq 7, 3) := by decide +kernel
theorem dX5_asked_5 : decode cX5_asked 5 = .ok (.iconst 0, 1) := by decide +kernel
theorem dX5_asked_6 : decode cX5_asked 6 = .ok (.goto 4, 3) := by decide +kernel
theorem dX5_asked_9 : decode cX5_asked 9 = .ok (.iconst 1, 1) := by decide +kernel
theorem dX5_asked_10 : decode cX5_asked 10 = .ok (.putfield 65, 3) := by decide +kernel
theorem dX5_asked_13 : decode cX5_asked 13 = .ok (.iload_n 1, 1) := by decide +kernel
theorem dX5_asked_14 : decode cX5_asked 14 = .ok (.ireturn, 1) := by decide +kernel
theorem dX5_asked__0 : decode cX5_asked_ 0 = .ok (.aload_n 0, 1) := by decide +kernel
theorem dX5_asked__1 : decode cX5_asked_ 1 = .ok (.iload_n 1, 1) := by decide +kernel
theorem dX5_asked__2 : decode cX5_asked_ 2 = .ok (.ifCond .ne 7, 3) := by decide +kernel
theorem dX5_asked__5 : decode cX5_asked_ 5 = .ok (.iconst 1, 1) := by decide +kernel
theorem dX5_asked__6 : decode cX5_asked_ 6 = .ok (.goto 12, 3) := by decide +kernel
theorem dX5_asked__9 : decode cX5_asked_ 9 = .ok (.iload_n 2, 1) := by decide +kernel
theorem dX5_asked__10 : decode cX5_asked_ 10 = .ok (.ifCond .eq 7, 3) := by decide +kernel
theorem dX5_asked__13 : decode cX5_asked_ 13 = .ok (.iconst 0, 1) := by decide +kernel
theorem dX5_asked__14 : decode cX5_asked_ 14 = .ok (.goto 4, 3) := by decide +kernel
theorem dX5_asked__17 : decode cX5_asked_ 17 = .ok (.iconst 2, 1) := by decide +kernel
theorem dX5_asked__18 : decode cX5_asked_ 18 = .ok (.putfield 65, 3) := by decide +kernel
theorem dX5_asked__21 : decode cX5_asked_ 21 = .ok (.aload_n 0, 1) := by decide +kernel
theorem dX5_asked__22 : decode cX5_asked_ 22 = .ok (.getfield 65, 3) := by decide +kernel
theorem dX5_asked__25 : decode cX5_asked_ 25 = .ok (.ifCond .ne 7, 3) := by decide +kernel
theorem dX5_asked__28 : decode cX5_asked_ 28 = .ok (.iconst 1, 1) := by decide +kernel
theorem dX5_asked__29 : decode cX5_asked_ 29 = .ok (.goto 4, 3) := by decide +kernel
theorem dX5_asked__32 : decode cX5_asked_ 32 = .ok (.iconst 0, 1) := by decide +kernel
theorem dX5_asked__33 : decode cX5_asked_ 33 = .ok (.ireturn, 1) := by decide +kernel
theorem dX5_asked___0 : decode cX5_asked__ 0 = .ok (.aload_n 0, 1) := by decide +kernel
theorem dX5_asked___1 : decode cX5_asked__ 1 = .ok (.iload_n 1, 1) := by decide +kernel
theorem dX5_asked___2 : decode cX5_asked__ 2 = .ok (.ifCond .ne 7, 3) := by decide +kernel
theorem dX5_asked___5 : decode cX5_asked__ 5 = .ok (.iconst 1, 1) := by decide +kernel
theorem dX5_asked___6 : decode cX5_asked__ 6 = .ok (.goto 20, 3) := by decide +kernel
theorem dX5_asked___9 : decode cX5_asked__ 9 = .ok (.iload_n 2, 1) := by decide +kernel
theorem dX5_asked___10 : decode cX5_asked__ 10 = .ok (.ifCond .ne 7, 3) := by decide +kernel
theorem dX5_asked___13 : decode cX5_asked__ 13 = .ok (.iconst 2, 1) := by decide +kernel
theorem dX5_asked___14 : decode cX5_asked__ 14 = .ok (.goto 12, 3) := by decide +kernel
theorem dX5_asked___17 : decode cX5_asked__ 17 = .ok (.iload_n 3, 1) := by decide +kernel
theorem dX5_asked___18 : decode cX5_asked__ 18 = .ok (.ifCond .eq 7, 3) := by decide +kernel
theorem dX5_asked___21 : decode cX5_asked__ 21 = .ok (.iconst 0, 1) := by decide +kernel
theorem dX5_asked___22 : decode cX5_asked__ 22 = .ok (.goto 4, 3) := by decide +kernel
theorem dX5_asked___25 : decode cX5_asked__ 25 = .ok (.iconst 3, 1) := by decide +kernel
theorem dX5_asked___26 : decode cX5_asked__ 26 = .ok (.putfield 65, 3) := by decide +kernel
theorem dX5_asked___29 : decode cX5_asked__ 29 = .ok (.aload_n 0, 1) := by decide +kernel
theorem dX5_asked___30 : decode cX5_asked__ 30 = .ok (.getfield 65, 3) := by decide +kernel
theorem dX5_asked___33 : decode cX5_asked__ 33 = .ok (.ifCond .ne 7, 3) := by decide +kernel
theorem dX5_asked___36 : decode cX5_asked__ 36 = .ok (.iconst 1, 1) := by decide +kernel
theorem dX5_asked___37 : decode cX5_asked__ 37 = .ok (.goto 4, 3) := by decide +kernel
theorem dX5_asked___40 : decode cX5_asked__ 40 = .ok (.iconst 0, 1) := by decide +kernel
theorem dX5_asked___41 : decode cX5_asked__ 41 = .ok (.ireturn, 1) := by decide +kernel
theorem dX5_told_0 : decode cX5_told 0 = .ok (.aload_n 0, 1) := by decide +kernel
theorem dX5_told_1 : decode cX5_told 1 = .ok (.iconst 0, 1) := by decide +kernel
theorem dX5_told_2 : decode cX5_told 2 = .ok (.putfield 65, 3) := by decide +kernel
theorem dX5_told_5 : decode cX5_told 5 = .ok (.iload_n 1, 1) := by decide +kernel
theorem dX5_told_6 : decode cX5_told 6 = .ok (.ireturn, 1) := by decide +kernel
set_option maxRecDepth 20000 in
theorem ggX5_isKind_X5_in : GoodIn wsX5_isKind wsX5_in := goodIn_r _ [5] (by decide +kernel) (by decide +kernel)
set_option maxRecDepth 20000 in
theorem gX5_isKind_X5_in : GoodIn wsX5_isKind (va_wsS RX5 72 yX5_in wsX5_in) := goodIn_app (goodIn_of _ (by decide +kernel)) ggX5_isKind_X5_in
theorem dX5_isKind_0 : decode cX5_isKind 0 = .ok (.iload_n 1, 1) := by decide +kernel
theorem dX5_isKind_1 : decode cX5_isKind 1 = .ok (.iconst 0, 1) := by decide +kernel
theorem dX5_isKind_2 : decode cX5_isKind 2 = .ok (.aload_n 0, 1) := by decide +kernel
theorem dX5_isKind_3 : decode cX5_isKind 3 = .ok (.getfield 69, 3) := by decide +kernel
theorem dX5_isKind_6 : decode cX5_isKind 6 = .ok (.iconst 1, 1) := by decide +kernel
theorem dX5_isKind_7 : decode cX5_isKind 7 = .ok (.isub, 1) := by decide +kernel
theorem dX5_isKind_8 : decode cX5_isKind 8 = .ok (.invokestatic 72, 3) := by decide +kernel
theorem dX5_isKind_11 : decode cX5_isKind 11 = .ok (.ireturn, 1) := by decide +kernel
set_option maxRecDepth 20000 in
theorem ggX5_kind_X5_isKind : GoodIn wsX5_kind wsX5_isKind := goodIn_r _ [7, 1, 8, 9, 6, 10, 16, 17, 18, 19, 20, 21, 22, 23, 24, 25, 26, 27, 28, 29, 30, 31, 32, 33, 34, 35, 36, 37, 38, 39] (by decide +kernel) (by decide +kernel)
set_option maxRecDepth 20000 in
theorem gX5_kind_X5_isKind : GoodIn wsX5_kind (wsV RX5 76 RX5 yX5_isKind wsX5_isKind) := goodIn_app (goodIn_of _ (by decide +kernel)) ggX5_kind_X5_isKind
set_option maxRecDepth 20000 in
theorem ggX5_kind_X5_asked_ : GoodIn wsX5_kind wsX5_asked_ := goodIn_r _ [14, 15, 16, 17, 18, 19, 20, 21, 22, 23, 24, 25, 26, 27, 28, 29, 30, 31, 32, 33, 34, 35, 36, 37, 38, 39] (by decide +kernel) (by decide +kernel)
set_option maxRecDepth 20000 in
theorem gX5_kind_X5_asked_ : GoodIn wsX5_kind (wsV RX5 80 RX5 yX5_asked_ wsX5_asked_) := goodIn_app (goodIn_of _ (by decide +kernel)) ggX5_kind_X5_asked_
theorem dX5_kind_0 : decode cX5_kind 0 = .ok (.aload_n 0, 1) := by decide +kernel
theorem dX5_kind_1 : decode cX5_kind 1 = .ok (.iload_n 1, 1) := by decide +kernel
theorem dX5_kind_2 : decode cX5_kind 2 = .ok (.iconst (-1), 1) := by decide +kernel
theorem dX5_kind_3 : decode cX5_kind 3 = .ok (.if_icmp .eq 11, 3) := by decide +kernel
theorem dX5_kind_6 : decode cX5_kind 6 = .ok (.aload_n 0, 1) := by decide +kernel
theorem dX5_kind_7 : decode cX5_kind 7 = .ok (.iload_n 1, 1) := by decide +kernel
theorem dX5_kind_8 : decode cX5_kind 8 = .ok (.invokevirtual 76, 3) := by decide +kernel
theorem dX5_kind_11 : decode cX5_kind 11 = .ok (.ifCond .eq 7, 3) := by decide +kernel
theorem dX5_kind_14 : decode cX5_kind 14 = .ok (.iconst 1, 1) := by decide +kernel
theorem dX5_kind_15 : decode cX5_kind 15 = .ok (.goto 4, 3) := by decide +kernel
theorem dX5_kind_18 : decode cX5_kind 18 = .ok (.iconst 0, 1) := by decide +kernel
theorem dX5_kind_19 : decode cX5_kind 19 = .ok (.aload_n 0, 1) := by decide +kernel
theorem dX5_kind_20 : decode cX5_kind 20 = .ok (.getfield 69, 3) := by decide +kernel
theorem dX5_kind_23 : decode cX5_kind 23 = .ok (.bipush 14, 2) := by decide +kernel
theorem dX5_kind_25 : decode cX5_kind 25 = .ok (.if_icmp .ge 7, 3) := by decide +kernel
theorem dX5_kind_28 : decode cX5_kind 28 = .ok (.iconst 1, 1) := by decide +kernel
theorem dX5_kind_29 : decode cX5_kind 29 = .ok (.goto 4, 3) := by decide +kernel
theorem dX5_kind_32 : decode cX5_kind 32 = .ok (.iconst 0, 1) := by decide +kernel
theorem dX5_kind_33 : decode cX5_kind 33 = .ok (.invokevirtual 80, 3) := by decide +kernel
theorem dX5_kind_36 : decode cX5_kind 36 = .ok (.ifCond .ne 5, 3) := by decide +kernel
theorem dX5_kind_39 : decode cX5_kind 39 = .ok (.iconst 0, 1) := by decide +kernel
theorem dX5_kind_40 : decode cX5_kind 40 = .ok (.ireturn, 1) := by decide +kernel
theorem dX5_kind_41 : decode cX5_kind 41 = .ok (.aload_n 0, 1) := by decide +kernel
theorem dX5_kind_42 : decode cX5_kind 42 = .ok (.getfield 7, 3) := by decide +kernel
theorem dX5_kind_45 : decode cX5_kind 45 = .ok (.aload_n 0, 1) := by decide +kernel
theorem dX5_kind_46 : decode cX5_kind 46 = .ok (.getfield 69, 3) := by decide +kernel
theorem dX5_kind_49 : decode cX5_kind 49 = .ok (.iload_n 1, 1) := by decide +kernel
theorem dX5_kind_50 : decode cX5_kind 50 = .ok (.iastore, 1) := by decide +kernel
theorem dX5_kind_51 : decode cX5_kind 51 = .ok (.aload_n 0, 1) := by decide +kernel
theorem dX5_kind_52 : decode cX5_kind 52 = .ok (.dup, 1) := by decide +kernel
theorem dX5_kind_53 : decode cX5_kind 53 = .ok (.getfield 69, 3) := by decide +kernel
theorem dX5_kind_56 : decode cX5_kind 56 = .ok (.iconst 1, 1) := by decide +kernel
theorem dX5_kind_57 : decode cX5_kind 57 = .ok (.iadd, 1) := by decide +kernel
theorem dX5_kind_58 : decode cX5_kind 58 = .ok (.putfield 69, 3) := by decide +kernel
theorem dX5_kind_61 : decode cX5_kind 61 = .ok (.aload_n 0, 1) := by decide +kernel
theorem dX5_kind_62 : decode cX5_kind 62 = .ok (.getfield 69, 3) := by decide +kernel
theorem dX5_kind_65 : decode cX5_kind 65 = .ok (.iconst 1, 1) := by decide +kernel
theorem dX5_kind_66 : decode cX5_kind 66 = .ok (.isub, 1) := by decide +kernel
theorem dX5_kind_67 : decode cX5_kind 67 = .ok (.ireturn, 1) := by decide +kernel
theorem dX5_digits_0 : decode cX5_digits 0 = .ok (.iload_n 2, 1) := by decide +kernel
theorem dX5_digits_1 : decode cX5_digits 1 = .ok (.iconst 4, 1) := by decide +kernel
theorem dX5_digits_2 : decode cX5_digits 2 = .ok (.if_icmp .ge 7, 3) := by decide +kernel
theorem dX5_digits_5 : decode cX5_digits 5 = .ok (.iload_n 0, 1) := by decide +kernel
theorem dX5_digits_6 : decode cX5_digits 6 = .ok (.goto 4, 3) := by decide +kernel
theorem dX5_digits_9 : decode cX5_digits 9 = .ok (.iload_n 1, 1) := by decide +kernel
theorem dX5_digits_10 : decode cX5_digits 10 = .ok (.istore_n 3, 1) := by decide +kernel
theorem dX5_digits_11 : decode cX5_digits 11 = .ok (.iload_n 2, 1) := by decide +kernel
theorem dX5_digits_12 : decode cX5_digits 12 = .ok (.iconst 4, 1) := by decide +kernel
theorem dX5_digits_13 : decode cX5_digits 13 = .ok (.irem, 1) := by decide +kernel
theorem dX5_digits_14 : decode cX5_digits 14 = .ok (.istore 4, 2) := by decide +kernel
theorem dX5_digits_16 : decode cX5_digits 16 = .ok (.iload 4, 2) := by decide +kernel
theorem dX5_digits_18 : decode cX5_digits 18 = .ok (.ifCond .le 14, 3) := by decide +kernel
theorem dX5_digits_21 : decode cX5_digits 21 = .ok (.iload_n 3, 1) := by decide +kernel
theorem dX5_digits_22 : decode cX5_digits 22 = .ok (.bipush 100, 2) := by decide +kernel
theorem dX5_digits_24 : decode cX5_digits 24 = .ok (.idiv, 1) := by decide +kernel
theorem dX5_digits_25 : decode cX5_digits 25 = .ok (.istore_n 3, 1) := by decide +kernel
theorem dX5_digits_26 : decode cX5_digits 26 = .ok (.iinc 4 (-1), 3) := by decide +kernel
theorem dX5_digits_29 : decode cX5_digits 29 = .ok (.goto (-13), 3) := by decide +kernel
theorem dX5_digits_32 : decode cX5_digits 32 = .ok (.iload_n 3, 1) := by decide +kernel
theorem dX5_digits_33 : decode cX5_digits 33 = .ok (.bipush 100, 2) := by decide +kernel
theorem dX5_digits_35 : decode cX5_digits 35 = .ok (.irem, 1) := by decide +kernel
theorem dX5_digits_36 : decode cX5_digits 36 = .ok (.ireturn, 1) := by decide +kernel
set_option maxRecDepth 20000 in
theorem ggX5_pattern_X5_in : GoodIn wsX5_pattern wsX5_in := goodIn_r _ [9] (by decide +kernel) (by decide +kernel)
set_option maxRecDepth 20000 in
theorem gX5_pattern_X5_in : GoodIn wsX5_pattern (va_wsS RX5 72 yX5_in wsX5_in) := goodIn_app (goodIn_of _ (by decide +kernel)) ggX5_pattern_X5_in
set_option maxRecDepth 20000 in
theorem ggX5_pattern_X5_digits : GoodIn wsX5_pattern wsX5_digits := goodIn_r _ [12] (by decide +kernel) (by decide +kernel)
set_option maxRecDepth 20000 in
theorem gX5_pattern_X5_digits : GoodIn wsX5_pattern (va_wsS RX5 84 yX5_digits wsX5_digits) := goodIn_app (goodIn_of _ (by decide +kernel)) ggX5_pattern_X5_digits
set_option maxRecDepth 20000 in
theorem ggX5_pattern_X5_isKind : GoodIn wsX5_pattern wsX5_isKind := goodIn_r _ [16, 17, 6, 7, 8, 9, 23, 24, 25, 26, 27, 28, 29, 30, 31, 32, 33, 34, 35, 36, 37, 38, 39, 40, 41, 42, 43, 44, 45, 46] (by decide +kernel) (by decide +kernel)
set_option maxRecDepth 20000 in
theorem gX5_pattern_X5_isKind : GoodIn wsX5_pattern (wsV RX5 76 RX5 yX5_isKind wsX5_isKind) := goodIn_app (goodIn_of _ (by decide +kernel)) ggX5_pattern_X5_isKind
set_option maxRecDepth 20000 in
theorem ggX5_pattern_X5_asked__ : GoodIn wsX5_pattern wsX5_asked__ := goodIn_r _ [21, 22, 23, 24, 25, 26, 27, 28, 29, 30, 31, 32, 33, 34, 35, 36, 37, 38, 39, 40, 41, 42, 43, 44, 45, 46] (by decide +kernel) (by decide +kernel)
set_option maxRecDepth 20000 in
theorem gX5_pattern_X5_asked__ : GoodIn wsX5_pattern (wsV RX5 91 RX5 yX5_asked__ wsX5_asked__) := goodIn_app (goodIn_of _ (by decide +kernel)) ggX5_pattern_X5_asked__
theorem dX5_pattern_0 : decode cX5_pattern 0 = .ok (.iload_n 2, 1) := by decide +kernel
theorem dX5_pattern_1 : decode cX5_pattern 1 = .ok (.iconst 0, 1) := by decide +kernel
theorem dX5_pattern_2 : decode cX5_pattern 2 = .ok (.bipush 100, 2) := by decide +kernel
theorem dX5_pattern_4 : decode cX5_pattern 4 = .ok (.invokestatic 72, 3) := by decide +kernel
theorem dX5_pattern_7 : decode cX5_pattern 7 = .ok (.ifCond .eq 27, 3) := by decide +kernel
theorem dX5_pattern_10 : decode cX5_pattern 10 = .ok (.iload_n 3, 1) := by decide +kernel
theorem dX5_pattern_11 : decode cX5_pattern 11 = .ok (.iconst 0, 1) := by decide +kernel
theorem dX5_pattern_12 : decode cX5_pattern 12 = .ok (.bipush 8, 2) := by decide +kernel
theorem dX5_pattern_14 : decode cX5_pattern 14 = .ok (.invokestatic 72, 3) := by decide +kernel
theorem dX5_pattern_17 : decode cX5_pattern 17 = .ok (.ifCond .eq 17, 3) := by decide +kernel
theorem dX5_pattern_20 : decode cX5_pattern 20 = .ok (.iload 4, 2) := by decide +kernel
theorem dX5_pattern_22 : decode cX5_pattern 22 = .ok (.ifCond .lt 12, 3) := by decide +kernel
theorem dX5_pattern_25 : decode cX5_pattern 25 = .ok (.iload 5, 2) := by decide +kernel
theorem dX5_pattern_27 : decode cX5_pattern 27 = .ok (.ifCond .lt 7, 3) := by decide +kernel
theorem dX5_pattern_30 : decode cX5_pattern 30 = .ok (.iconst 1, 1) := by decide +kernel
theorem dX5_pattern_31 : decode cX5_pattern 31 = .ok (.goto 4, 3) := by decide +kernel
theorem dX5_pattern_34 : decode cX5_pattern 34 = .ok (.iconst 0, 1) := by decide +kernel
theorem dX5_pattern_35 : decode cX5_pattern 35 = .ok (.istore 6, 2) := by decide +kernel
theorem dX5_pattern_37 : decode cX5_pattern 37 = .ok (.iconst 0, 1) := by decide +kernel
theorem dX5_pattern_38 : decode cX5_pattern 38 = .ok (.istore 7, 2) := by decide +kernel
theorem dX5_pattern_40 : decode cX5_pattern 40 = .ok (.iload 7, 2) := by decide +kernel
theorem dX5_pattern_42 : decode cX5_pattern 42 = .ok (.iload_n 3, 1) := by decide +kernel
theorem dX5_pattern_43 : decode cX5_pattern 43 = .ok (.if_icmp .ge 35, 3) := by decide +kernel
theorem dX5_pattern_46 : decode cX5_pattern 46 = .ok (.iload 6, 2) := by decide +kernel
theorem dX5_pattern_48 : decode cX5_pattern 48 = .ok (.ifCond .eq 30, 3) := by decide +kernel
theorem dX5_pattern_51 : decode cX5_pattern 51 = .ok (.iload 4, 2) := by decide +kernel
theorem dX5_pattern_53 : decode cX5_pattern 53 = .ok (.iload 5, 2) := by decide +kernel
theorem dX5_pattern_55 : decode cX5_pattern 55 = .ok (.iload 7, 2) := by decide +kernel
theorem dX5_pattern_57 : decode cX5_pattern 57 = .ok (.invokestatic 84, 3) := by decide +kernel
theorem dX5_pattern_60 : decode cX5_pattern 60 = .ok (.bipush 11, 2) := by decide +kernel
theorem dX5_pattern_62 : decode cX5_pattern 62 = .ok (.if_icmp .gt 7, 3) := by decide +kernel
theorem dX5_pattern_65 : decode cX5_pattern 65 = .ok (.iconst 1, 1) := by decide +kernel
theorem dX5_pattern_66 : decode cX5_pattern 66 = .ok (.goto 4, 3) := by decide +kernel
theorem dX5_pattern_69 : decode cX5_pattern 69 = .ok (.iconst 0, 1) := by decide +kernel
theorem dX5_pattern_70 : decode cX5_pattern 70 = .ok (.istore 6, 2) := by decide +kernel
theorem dX5_pattern_72 : decode cX5_pattern 72 = .ok (.iinc 7 1, 3) := by decide +kernel
theorem dX5_pattern_75 : decode cX5_pattern 75 = .ok (.goto (-35), 3) := by decide +kernel
theorem dX5_pattern_78 : decode cX5_pattern 78 = .ok (.aload_n 0, 1) := by decide +kernel
theorem dX5_pattern_79 : decode cX5_pattern 79 = .ok (.aload_n 0, 1) := by decide +kernel
theorem dX5_pattern_80 : decode cX5_pattern 80 = .ok (.iload_n 1, 1) := by decide +kernel
theorem dX5_pattern_81 : decode cX5_pattern 81 = .ok (.invokevirtual 76, 3) := by decide +kernel
theorem dX5_pattern_84 : decode cX5_pattern 84 = .ok (.iload 6, 2) := by decide +kernel
theorem dX5_pattern_86 : decode cX5_pattern 86 = .ok (.aload_n 0, 1) := by decide +kernel
theorem dX5_pattern_87 : decode cX5_pattern 87 = .ok (.getfield 88, 3) := by decide +kernel
theorem dX5_pattern_90 : decode cX5_pattern 90 = .ok (.bipush 20, 2) := by decide +kernel
theorem dX5_pattern_92 : decode cX5_pattern 92 = .ok (.if_icmp .ge 7, 3) := by decide +kernel
theorem dX5_pattern_95 : decode cX5_pattern 95 = .ok (.iconst 1, 1) := by decide +kernel
theorem dX5_pattern_96 : decode cX5_pattern 96 = .ok (.goto 4, 3) := by decide +kernel
theorem dX5_pattern_99 : decode cX5_pattern 99 = .ok (.iconst 0, 1) := by decide +kernel
theorem dX5_pattern_100 : decode cX5_pattern 100 = .ok (.invokevirtual 91, 3) := by decide +kernel
theorem dX5_pattern_103 : decode cX5_pattern 103 = .ok (.ifCond .ne 5, 3) := by decide +kernel
theorem dX5_pattern_106 : decode cX5_pattern 106 = .ok (.iconst 0, 1) := by decide +kernel
theorem dX5_pattern_107 : decode cX5_pattern 107 = .ok (.ireturn, 1) := by decide +kernel
theorem dX5_pattern_108 : decode cX5_pattern 108 = .ok (.aload_n 0, 1) := by decide +kernel
theorem dX5_pattern_109 : decode cX5_pattern 109 = .ok (.getfield 13, 3) := by decide +kernel
theorem dX5_pattern_112 : decode cX5_pattern 112 = .ok (.aload_n 0, 1) := by decide +kernel
theorem dX5_pattern_113 : decode cX5_pattern 113 = .ok (.getfield 88, 3) := by decide +kernel
theorem dX5_pattern_116 : decode cX5_pattern 116 = .ok (.iload_n 1, 1) := by decide +kernel
theorem dX5_pattern_117 : decode cX5_pattern 117 = .ok (.iastore, 1) := by decide +kernel
theorem dX5_pattern_118 : decode cX5_pattern 118 = .ok (.aload_n 0, 1) := by decide +kernel
theorem dX5_pattern_119 : decode cX5_pattern 119 = .ok (.getfield 16, 3) := by decide +kernel
theorem dX5_pattern_122 : decode cX5_pattern 122 = .ok (.aload_n 0, 1) := by decide +kernel
theorem dX5_pattern_123 : decode cX5_pattern 123 = .ok (.getfield 88, 3) := by decide +kernel
theorem dX5_pattern_126 : decode cX5_pattern 126 = .ok (.iload_n 2, 1) := by decide +kernel
theorem dX5_pattern_127 : decode cX5_pattern 127 = .ok (.iastore, 1) := by decide +kernel
theorem dX5_pattern_128 : decode cX5_pattern 128 = .ok (.aload_n 0, 1) := by decide +kernel
theorem dX5_pattern_129 : decode cX5_pattern 129 = .ok (.getfield 19, 3) := by decide +kernel
theorem dX5_pattern_132 : decode cX5_pattern 132 = .ok (.aload_n 0, 1) := by decide +kernel
theorem dX5_pattern_133 : decode cX5_pattern 133 = .ok (.getfield 88, 3) := by decide +kernel
theorem dX5_pattern_136 : decode cX5_pattern 136 = .ok (.iload_n 3, 1) := by decide +kernel
theorem dX5_pattern_137 : decode cX5_pattern 137 = .ok (.iastore, 1) := by decide +kernel
theorem dX5_pattern_138 : decode cX5_pattern 138 = .ok (.iconst 0, 1) := by decide +kernel
theorem dX5_pattern_139 : decode cX5_pattern 139 = .ok (.istore 7, 2) := by decide +kernel
theorem dX5_pattern_141 : decode cX5_pattern 141 = .ok (.iload 7, 2) := by decide +kernel
theorem dX5_pattern_143 : decode cX5_pattern 143 = .ok (.iload_n 3, 1) := by decide +kernel
theorem dX5_pattern_144 : decode cX5_pattern 144 = .ok (.if_icmp .ge 33, 3) := by decide +kernel
theorem dX5_pattern_147 : decode cX5_pattern 147 = .ok (.aload_n 0, 1) := by decide +kernel
theorem dX5_pattern_148 : decode cX5_pattern 148 = .ok (.getfield 22, 3) := by decide +kernel
theorem dX5_pattern_151 : decode cX5_pattern 151 = .ok (.bipush 8, 2) := by decide +kernel
theorem dX5_pattern_153 : decode cX5_pattern 153 = .ok (.aload_n 0, 1) := by decide +kernel
theorem dX5_pattern_154 : decode cX5_pattern 154 = .ok (.getfield 88, 3) := by decide +kernel
theorem dX5_pattern_157 : decode cX5_pattern 157 = .ok (.imul, 1) := by decide +kernel
theorem dX5_pattern_158 : decode cX5_pattern 158 = .ok (.iload 7, 2) := by decide +kernel
theorem dX5_pattern_160 : decode cX5_pattern 160 = .ok (.iadd, 1) := by decide +kernel
theorem dX5_pattern_161 : decode cX5_pattern 161 = .ok (.iload 4, 2) := by decide +kernel
theorem dX5_pattern_163 : decode cX5_pattern 163 = .ok (.iload 5, 2) := by decide +kernel
theorem dX5_pattern_165 : decode cX5_pattern 165 = .ok (.iload 7, 2) := by decide +kernel
theorem dX5_pattern_167 : decode cX5_pattern 167 = .ok (.invokestatic 84, 3) := by decide +kernel
theorem dX5_pattern_170 : decode cX5_pattern 170 = .ok (.iastore, 1) := by decide +kernel
theorem dX5_pattern_171 : decode cX5_pattern 171 = .ok (.iinc 7 1, 3) := by decide +kernel
theorem dX5_pattern_174 : decode cX5_pattern 174 = .ok (.goto (-33), 3) := by decide +kernel
theorem dX5_pattern_177 : decode cX5_pattern 177 = .ok (.aload_n 0, 1) := by decide +kernel
theorem dX5_pattern_178 : decode cX5_pattern 178 = .ok (.dup, 1) := by decide +kernel
theorem dX5_pattern_179 : decode cX5_pattern 179 = .ok (.getfield 88, 3) := by decide +kernel
theorem dX5_pattern_182 : decode cX5_pattern 182 = .ok (.iconst 1, 1) := by decide +kernel
theorem dX5_pattern_183 : decode cX5_pattern 183 = .ok (.iadd, 1) := by decide +kernel
theorem dX5_pattern_184 : decode cX5_pattern 184 = .ok (.putfield 88, 3) := by decide +kernel
theorem dX5_pattern_187 : decode cX5_pattern 187 = .ok (.aload_n 0, 1) := by decide +kernel
theorem dX5_pattern_188 : decode cX5_pattern 188 = .ok (.getfield 88, 3) := by decide +kernel
theorem dX5_pattern_191 : decode cX5_pattern 191 = .ok (.iconst 1, 1) := by decide +kernel
theorem dX5_pattern_192 : decode cX5_pattern 192 = .ok (.isub, 1) := by decide +kernel
theorem dX5_pattern_193 : decode cX5_pattern 193 = .ok (.ireturn, 1) := by decide +kernel
set_option maxRecDepth 20000 in
theorem ggX5_isThere_X5_in : GoodIn wsX5_isThere wsX5_in := goodIn_r _ [6] (by decide +kernel) (by decide +kernel)
set_option maxRecDepth 20000 in
theorem gX5_isThere_X5_in : GoodIn wsX5_isThere (va_wsS RX5 72 yX5_in wsX5_in) := goodIn_app (goodIn_of _ (by decide +kernel)) ggX5_isThere_X5_in
theorem dX5_isThere_0 : decode cX5_isThere 0 = .ok (.iload_n 1, 1) := by decide +kernel
theorem dX5_isThere_1 : decode cX5_isThere 1 = .ok (.iconst 0, 1) := by decide +kernel
theorem dX5_isThere_2 : decode cX5_isThere 2 = .ok (.aload_n 0, 1) := by decide +kernel
theorem dX5_isThere_3 : decode cX5_isThere 3 = .ok (.getfield 88, 3) := by decide +kernel
theorem dX5_isThere_6 : decode cX5_isThere 6 = .ok (.iconst 1, 1) := by decide +kernel
theorem dX5_isThere_7 : decode cX5_isThere 7 = .ok (.isub, 1) := by decide +kernel
theorem dX5_isThere_8 : decode cX5_isThere 8 = .ok (.invokestatic 72, 3) := by decide +kernel
theorem dX5_isThere_11 : decode cX5_isThere 11 = .ok (.ifCond .eq 16, 3) := by decide +kernel
theorem dX5_isThere_14 : decode cX5_isThere 14 = .ok (.aload_n 0, 1) := by decide +kernel
theorem dX5_isThere_15 : decode cX5_isThere 15 = .ok (.getfield 25, 3) := by decide +kernel
theorem dX5_isThere_18 : decode cX5_isThere 18 = .ok (.iload_n 1, 1) := by decide +kernel
theorem dX5_isThere_19 : decode cX5_isThere 19 = .ok (.baload, 1) := by decide +kernel
theorem dX5_isThere_20 : decode cX5_isThere 20 = .ok (.ifCond .ne 7, 3) := by decide +kernel
theorem dX5_isThere_23 : decode cX5_isThere 23 = .ok (.iconst 1, 1) := by decide +kernel
theorem dX5_isThere_24 : decode cX5_isThere 24 = .ok (.goto 4, 3) := by decide +kernel
theorem dX5_isThere_27 : decode cX5_isThere 27 = .ok (.iconst 0, 1) := by decide +kernel
theorem dX5_isThere_28 : decode cX5_isThere 28 = .ok (.ireturn, 1) := by decide +kernel
set_option maxRecDepth 20000 in
theorem ggX5_drop_X5_isThere : GoodIn wsX5_drop wsX5_isThere := goodIn_r _ [7, 2, 1, 8, 9, 6, 10, 16, 17, 18, 19, 20, 21, 22, 23, 24, 25, 26, 27, 28, 29, 30, 31, 32, 33, 34, 35, 36, 37, 38, 39] (by decide +kernel) (by decide +kernel)
set_option maxRecDepth 20000 in
theorem gX5_drop_X5_isThere : GoodIn wsX5_drop (wsV RX5 94 RX5 yX5_isThere wsX5_isThere) := goodIn_app (goodIn_of _ (by decide +kernel)) ggX5_drop_X5_isThere
set_option maxRecDepth 20000 in
theorem ggX5_drop_X5_asked : GoodIn wsX5_drop wsX5_asked := goodIn_r _ [14, 15, 16, 17, 18, 19, 20, 21, 22, 23, 24, 25, 26, 27, 28, 29, 30, 31, 32, 33, 34, 35, 36, 37, 38, 39] (by decide +kernel) (by decide +kernel)
set_option maxRecDepth 20000 in
theorem gX5_drop_X5_asked : GoodIn wsX5_drop (wsV RX5 97 RX5 yX5_asked wsX5_asked) := goodIn_app (goodIn_of _ (by decide +kernel)) ggX5_drop_X5_asked
theorem dX5_drop_0 : decode cX5_drop 0 = .ok (.aload_n 0, 1) := by decide +kernel
theorem dX5_drop_1 : decode cX5_drop 1 = .ok (.aload_n 0, 1) := by decide +kernel
theorem dX5_drop_2 : decode cX5_drop 2 = .ok (.iload_n 1, 1) := by decide +kernel
theorem dX5_drop_3 : decode cX5_drop 3 = .ok (.invokevirtual 94, 3) := by decide +kernel
theorem dX5_drop_6 : decode cX5_drop 6 = .ok (.invokevirtual 97, 3) := by decide +kernel
theorem dX5_drop_9 : decode cX5_drop 9 = .ok (.ifCond .ne 5, 3) := by decide +kernel
theorem dX5_drop_12 : decode cX5_drop 12 = .ok (.iconst 0, 1) := by decide +kernel
theorem dX5_drop_13 : decode cX5_drop 13 = .ok (.ireturn, 1) := by decide +kernel
theorem dX5_drop_14 : decode cX5_drop 14 = .ok (.aload_n 0, 1) := by decide +kernel
theorem dX5_drop_15 : decode cX5_drop 15 = .ok (.getfield 25, 3) := by decide +kernel
theorem dX5_drop_18 : decode cX5_drop 18 = .ok (.iload_n 1, 1) := by decide +kernel
theorem dX5_drop_19 : decode cX5_drop 19 = .ok (.iconst 1, 1) := by decide +kernel
theorem dX5_drop_20 : decode cX5_drop 20 = .ok (.bastore, 1) := by decide +kernel
theorem dX5_drop_21 : decode cX5_drop 21 = .ok (.iconst 0, 1) := by decide +kernel
theorem dX5_drop_22 : decode cX5_drop 22 = .ok (.istore_n 2, 1) := by decide +kernel
theorem dX5_drop_23 : decode cX5_drop 23 = .ok (.iconst 0, 1) := by decide +kernel
theorem dX5_drop_24 : decode cX5_drop 24 = .ok (.istore_n 3, 1) := by decide +kernel
theorem dX5_drop_25 : decode cX5_drop 25 = .ok (.iload_n 3, 1) := by decide +kernel
theorem dX5_drop_26 : decode cX5_drop 26 = .ok (.aload_n 0, 1) := by decide +kernel
theorem dX5_drop_27 : decode cX5_drop 27 = .ok (.getfield 88, 3) := by decide +kernel
theorem dX5_drop_30 : decode cX5_drop 30 = .ok (.if_icmp .ge 26, 3) := by decide +kernel
theorem dX5_drop_33 : decode cX5_drop 33 = .ok (.iload_n 2, 1) := by decide +kernel
theorem dX5_drop_34 : decode cX5_drop 34 = .ok (.aload_n 0, 1) := by decide +kernel
theorem dX5_drop_35 : decode cX5_drop 35 = .ok (.getfield 25, 3) := by decide +kernel
theorem dX5_drop_38 : decode cX5_drop 38 = .ok (.iload_n 3, 1) := by decide +kernel
theorem dX5_drop_39 : decode cX5_drop 39 = .ok (.baload, 1) := by decide +kernel
theorem dX5_drop_40 : decode cX5_drop 40 = .ok (.ifCond .eq 7, 3) := by decide +kernel
theorem dX5_drop_43 : decode cX5_drop 43 = .ok (.iconst 0, 1) := by decide +kernel
theorem dX5_drop_44 : decode cX5_drop 44 = .ok (.goto 4, 3) := by decide +kernel
theorem dX5_drop_47 : decode cX5_drop 47 = .ok (.iconst 1, 1) := by decide +kernel
theorem dX5_drop_48 : decode cX5_drop 48 = .ok (.iadd, 1) := by decide +kernel
theorem dX5_drop_49 : decode cX5_drop 49 = .ok (.istore_n 2, 1) := by decide +kernel
theorem dX5_drop_50 : decode cX5_drop 50 = .ok (.iinc 3 1, 3) := by decide +kernel
theorem dX5_drop_53 : decode cX5_drop 53 = .ok (.goto (-28), 3) := by decide +kernel
theorem dX5_drop_56 : decode cX5_drop 56 = .ok (.iload_n 2, 1) := by decide +kernel
theorem dX5_drop_57 : decode cX5_drop 57 = .ok (.ireturn, 1) := by decide +kernel
set_option maxRecDepth 20000 in
theorem ggX5_rule_X5_isKind : GoodIn wsX5_rule wsX5_isKind := goodIn_r _ [8, 9, 10, 11, 7, 12, 18, 19, 20, 21, 22, 23, 24, 25, 26, 27, 28, 29, 30, 31, 32, 33, 34, 35, 36, 37, 38, 39, 40, 41] (by decide +kernel) (by decide +kernel)
set_option maxRecDepth 20000 in
theorem gX5_rule_X5_isKind : GoodIn wsX5_rule (wsV RX5 76 RX5 yX5_isKind wsX5_isKind) := goodIn_app (goodIn_of _ (by decide +kernel)) ggX5_rule_X5_isKind
set_option maxRecDepth 20000 in
theorem ggX5_rule_X5_in : GoodIn wsX5_rule wsX5_in := goodIn_r _ [12] (by decide +kernel) (by decide +kernel)
set_option maxRecDepth 20000 in
theorem gX5_rule_X5_in : GoodIn wsX5_rule (va_wsS RX5 72 yX5_in wsX5_in) := goodIn_app (goodIn_of _ (by decide +kernel)) ggX5_rule_X5_in
set_option maxRecDepth 20000 in
theorem ggX5_rule_X5_asked__ : GoodIn wsX5_rule wsX5_asked__ := goodIn_r _ [16, 17, 18, 19, 20, 21, 22, 23, 24, 25, 26, 27, 28, 29, 30, 31, 32, 33, 34, 35, 36, 37, 38, 39, 40, 41] (by decide +kernel) (by decide +kernel)
set_option maxRecDepth 20000 in
theorem gX5_rule_X5_asked__ : GoodIn wsX5_rule (wsV RX5 91 RX5 yX5_asked__ wsX5_asked__) := goodIn_app (goodIn_of _ (by decide +kernel)) ggX5_rule_X5_asked__
theorem dX5_rule_0 : decode cX5_rule 0 = .ok (.aload_n 0, 1) := by decide +kernel
theorem dX5_rule_1 : decode cX5_rule 1 = .ok (.aload_n 0, 1) := by decide +kernel
theorem dX5_rule_2 : decode cX5_rule 2 = .ok (.iload_n 1, 1) := by decide +kernel
theorem dX5_rule_3 : decode cX5_rule 3 = .ok (.invokevirtual 76, 3) := by decide +kernel
theorem dX5_rule_6 : decode cX5_rule 6 = .ok (.iload_n 2, 1) := by decide +kernel
theorem dX5_rule_7 : decode cX5_rule 7 = .ok (.iconst 0, 1) := by decide +kernel
theorem dX5_rule_8 : decode cX5_rule 8 = .ok (.bipush 100, 2) := by decide +kernel
theorem dX5_rule_10 : decode cX5_rule 10 = .ok (.invokestatic 72, 3) := by decide +kernel
theorem dX5_rule_13 : decode cX5_rule 13 = .ok (.aload_n 0, 1) := by decide +kernel
theorem dX5_rule_14 : decode cX5_rule 14 = .ok (.getfield 100, 3) := by decide +kernel
theorem dX5_rule_17 : decode cX5_rule 17 = .ok (.bipush 12, 2) := by decide +kernel
theorem dX5_rule_19 : decode cX5_rule 19 = .ok (.if_icmp .ge 7, 3) := by decide +kernel
theorem dX5_rule_22 : decode cX5_rule 22 = .ok (.iconst 1, 1) := by decide +kernel
theorem dX5_rule_23 : decode cX5_rule 23 = .ok (.goto 4, 3) := by decide +kernel
theorem dX5_rule_26 : decode cX5_rule 26 = .ok (.iconst 0, 1) := by decide +kernel
theorem dX5_rule_27 : decode cX5_rule 27 = .ok (.invokevirtual 91, 3) := by decide +kernel
theorem dX5_rule_30 : decode cX5_rule 30 = .ok (.ifCond .ne 5, 3) := by decide +kernel
theorem dX5_rule_33 : decode cX5_rule 33 = .ok (.iconst 0, 1) := by decide +kernel
theorem dX5_rule_34 : decode cX5_rule 34 = .ok (.ireturn, 1) := by decide +kernel
theorem dX5_rule_35 : decode cX5_rule 35 = .ok (.aload_n 0, 1) := by decide +kernel
theorem dX5_rule_36 : decode cX5_rule 36 = .ok (.getfield 29, 3) := by decide +kernel
theorem dX5_rule_39 : decode cX5_rule 39 = .ok (.aload_n 0, 1) := by decide +kernel
theorem dX5_rule_40 : decode cX5_rule 40 = .ok (.getfield 100, 3) := by decide +kernel
theorem dX5_rule_43 : decode cX5_rule 43 = .ok (.iload_n 1, 1) := by decide +kernel
theorem dX5_rule_44 : decode cX5_rule 44 = .ok (.iastore, 1) := by decide +kernel
theorem dX5_rule_45 : decode cX5_rule 45 = .ok (.aload_n 0, 1) := by decide +kernel
theorem dX5_rule_46 : decode cX5_rule 46 = .ok (.getfield 32, 3) := by decide +kernel
theorem dX5_rule_49 : decode cX5_rule 49 = .ok (.aload_n 0, 1) := by decide +kernel
theorem dX5_rule_50 : decode cX5_rule 50 = .ok (.getfield 100, 3) := by decide +kernel
theorem dX5_rule_53 : decode cX5_rule 53 = .ok (.iload_n 2, 1) := by decide +kernel
theorem dX5_rule_54 : decode cX5_rule 54 = .ok (.iastore, 1) := by decide +kernel
theorem dX5_rule_55 : decode cX5_rule 55 = .ok (.aload_n 0, 1) := by decide +kernel
theorem dX5_rule_56 : decode cX5_rule 56 = .ok (.dup, 1) := by decide +kernel
theorem dX5_rule_57 : decode cX5_rule 57 = .ok (.getfield 100, 3) := by decide +kernel
theorem dX5_rule_60 : decode cX5_rule 60 = .ok (.iconst 1, 1) := by decide +kernel
theorem dX5_rule_61 : decode cX5_rule 61 = .ok (.iadd, 1) := by decide +kernel
theorem dX5_rule_62 : decode cX5_rule 62 = .ok (.putfield 100, 3) := by decide +kernel
theorem dX5_rule_65 : decode cX5_rule 65 = .ok (.aload_n 0, 1) := by decide +kernel
theorem dX5_rule_66 : decode cX5_rule 66 = .ok (.getfield 100, 3) := by decide +kernel
theorem dX5_rule_69 : decode cX5_rule 69 = .ok (.iconst 1, 1) := by decide +kernel
theorem dX5_rule_70 : decode cX5_rule 70 = .ok (.isub, 1) := by decide +kernel
theorem dX5_rule_71 : decode cX5_rule 71 = .ok (.ireturn, 1) := by decide +kernel
set_option maxRecDepth 20000 in
theorem ggX5_isRule_X5_in : GoodIn wsX5_isRule wsX5_in := goodIn_r _ [5] (by decide +kernel) (by decide +kernel)
set_option maxRecDepth 20000 in
theorem gX5_isRule_X5_in : GoodIn wsX5_isRule (va_wsS RX5 72 yX5_in wsX5_in) := goodIn_app (goodIn_of _ (by decide +kernel)) ggX5_isRule_X5_in
theorem dX5_isRule_0 : decode cX5_isRule 0 = .ok (.iload_n 1, 1) := by decide +kernel
theorem dX5_isRule_1 : decode cX5_isRule 1 = .ok (.iconst 0, 1) := by decide +kernel
theorem dX5_isRule_2 : decode cX5_isRule 2 = .ok (.aload_n 0, 1) := by decide +kernel
theorem dX5_isRule_3 : decode cX5_isRule 3 = .ok (.getfield 100, 3) := by decide +kernel
theorem dX5_isRule_6 : decode cX5_isRule 6 = .ok (.iconst 1, 1) := by decide +kernel
theorem dX5_isRule_7 : decode cX5_isRule 7 = .ok (.isub, 1) := by decide +kernel
theorem dX5_isRule_8 : decode cX5_isRule 8 = .ok (.invokestatic 72, 3) := by decide +kernel
theorem dX5_isRule_11 : decode cX5_isRule 11 = .ok (.ireturn, 1) := by decide +kernel
set_option maxRecDepth 20000 in
theorem ggX5_test_X5_isRule : GoodIn wsX5_test wsX5_isRule := goodIn_r _ [11, 12, 13, 14, 10, 15, 21, 22, 23, 24, 25, 26, 27, 28, 29, 30, 31, 32, 33, 34, 35, 36, 37, 38, 39, 40, 41, 42, 43, 44] (by decide +kernel) (by decide +kernel)
set_option maxRecDepth 20000 in
theorem gX5_test_X5_isRule : GoodIn wsX5_test (wsV RX5 103 RX5 yX5_isRule wsX5_isRule) := goodIn_app (goodIn_of _ (by decide +kernel)) ggX5_test_X5_isRule
set_option maxRecDepth 20000 in
theorem ggX5_test_X5_in : GoodIn wsX5_test wsX5_in := goodIn_r _ [15] (by decide +kernel) (by decide +kernel)
set_option maxRecDepth 20000 in
theorem gX5_test_X5_in : GoodIn wsX5_test (va_wsS RX5 72 yX5_in wsX5_in) := goodIn_app (goodIn_of _ (by decide +kernel)) ggX5_test_X5_in
set_option maxRecDepth 20000 in
theorem ggX5_test_X5_asked__ : GoodIn wsX5_test wsX5_asked__ := goodIn_r _ [19, 20, 21, 22, 23, 24, 25, 26, 27, 28, 29, 30, 31, 32, 33, 34, 35, 36, 37, 38, 39, 40, 41, 42, 43, 44] (by decide +kernel) (by decide +kernel)
set_option maxRecDepth 20000 in
theorem gX5_test_X5_asked__ : GoodIn wsX5_test (wsV RX5 91 RX5 yX5_asked__ wsX5_asked__) := goodIn_app (goodIn_of _ (by decide +kernel)) ggX5_test_X5_asked__
theorem dX5_test_0 : decode cX5_test 0 = .ok (.aload_n 0, 1) := by decide +kernel
theorem dX5_test_1 : decode cX5_test 1 = .ok (.iload_n 1, 1) := by decide +kernel
theorem dX5_test_2 : decode cX5_test 2 = .ok (.invokevirtual 103, 3) := by decide +kernel
theorem dX5_test_5 : decode cX5_test 5 = .ok (.istore 7, 2) := by decide +kernel
theorem dX5_test_7 : decode cX5_test 7 = .ok (.iload 7, 2) := by decide +kernel
theorem dX5_test_9 : decode cX5_test 9 = .ok (.ifCond .eq 12, 3) := by decide +kernel
theorem dX5_test_12 : decode cX5_test 12 = .ok (.aload_n 0, 1) := by decide +kernel
theorem dX5_test_13 : decode cX5_test 13 = .ok (.getfield 35, 3) := by decide +kernel
theorem dX5_test_16 : decode cX5_test 16 = .ok (.iload_n 1, 1) := by decide +kernel
theorem dX5_test_17 : decode cX5_test 17 = .ok (.iaload, 1) := by decide +kernel
theorem dX5_test_18 : decode cX5_test 18 = .ok (.goto 4, 3) := by decide +kernel
theorem dX5_test_21 : decode cX5_test 21 = .ok (.iconst 0, 1) := by decide +kernel
theorem dX5_test_22 : decode cX5_test 22 = .ok (.istore 8, 2) := by decide +kernel
theorem dX5_test_24 : decode cX5_test 24 = .ok (.iload 8, 2) := by decide +kernel
theorem dX5_test_26 : decode cX5_test 26 = .ok (.ifCond .ne 7, 3) := by decide +kernel
theorem dX5_test_29 : decode cX5_test 29 = .ok (.iconst 0, 1) := by decide +kernel
theorem dX5_test_30 : decode cX5_test 30 = .ok (.goto 19, 3) := by decide +kernel
theorem dX5_test_33 : decode cX5_test 33 = .ok (.aload_n 0, 1) := by decide +kernel
theorem dX5_test_34 : decode cX5_test 34 = .ok (.getfield 38, 3) := by decide +kernel
theorem dX5_test_37 : decode cX5_test 37 = .ok (.bipush 6, 2) := by decide +kernel
theorem dX5_test_39 : decode cX5_test 39 = .ok (.iload_n 1, 1) := by decide +kernel
theorem dX5_test_40 : decode cX5_test 40 = .ok (.imul, 1) := by decide +kernel
theorem dX5_test_41 : decode cX5_test 41 = .ok (.iload 8, 2) := by decide +kernel
theorem dX5_test_43 : decode cX5_test 43 = .ok (.iadd, 1) := by decide +kernel
theorem dX5_test_44 : decode cX5_test 44 = .ok (.iconst 1, 1) := by decide +kernel
theorem dX5_test_45 : decode cX5_test 45 = .ok (.isub, 1) := by decide +kernel
theorem dX5_test_46 : decode cX5_test 46 = .ok (.iaload, 1) := by decide +kernel
theorem dX5_test_47 : decode cX5_test 47 = .ok (.iconst 1, 1) := by decide +kernel
theorem dX5_test_48 : decode cX5_test 48 = .ok (.iadd, 1) := by decide +kernel
theorem dX5_test_49 : decode cX5_test 49 = .ok (.istore 9, 2) := by decide +kernel
theorem dX5_test_51 : decode cX5_test 51 = .ok (.iload_n 2, 1) := by decide +kernel
theorem dX5_test_52 : decode cX5_test 52 = .ok (.iconst 0, 1) := by decide +kernel
theorem dX5_test_53 : decode cX5_test 53 = .ok (.iload 9, 2) := by decide +kernel
theorem dX5_test_55 : decode cX5_test 55 = .ok (.invokestatic 72, 3) := by decide +kernel
theorem dX5_test_58 : decode cX5_test 58 = .ok (.ifCond .eq 52, 3) := by decide +kernel
theorem dX5_test_61 : decode cX5_test 61 = .ok (.iload_n 3, 1) := by decide +kernel
theorem dX5_test_62 : decode cX5_test 62 = .ok (.iconst 0, 1) := by decide +kernel
theorem dX5_test_63 : decode cX5_test 63 = .ok (.bipush 15, 2) := by decide +kernel
theorem dX5_test_65 : decode cX5_test 65 = .ok (.invokestatic 72, 3) := by decide +kernel
theorem dX5_test_68 : decode cX5_test 68 = .ok (.ifCond .eq 42, 3) := by decide +kernel
theorem dX5_test_71 : decode cX5_test 71 = .ok (.iload 4, 2) := by decide +kernel
theorem dX5_test_73 : decode cX5_test 73 = .ok (.iload_n 3, 1) := by decide +kernel
theorem dX5_test_74 : decode cX5_test 74 = .ok (.bipush 15, 2) := by decide +kernel
theorem dX5_test_76 : decode cX5_test 76 = .ok (.invokestatic 72, 3) := by decide +kernel
theorem dX5_test_79 : decode cX5_test 79 = .ok (.ifCond .eq 31, 3) := by decide +kernel
theorem dX5_test_82 : decode cX5_test 82 = .ok (.iload 5, 2) := by decide +kernel
theorem dX5_test_84 : decode cX5_test 84 = .ok (.iconst 0, 1) := by decide +kernel
theorem dX5_test_85 : decode cX5_test 85 = .ok (.sipush 255, 3) := by decide +kernel
