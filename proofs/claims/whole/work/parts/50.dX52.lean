theorem dX5_test_88 : decode cX5_test 88 = .ok (.invokestatic 72, 3) := by decide +kernel
theorem dX5_test_91 : decode cX5_test 91 = .ok (.ifCond .eq 19, 3) := by decide +kernel
theorem dX5_test_94 : decode cX5_test 94 = .ok (.iload 6, 2) := by decide +kernel
theorem dX5_test_96 : decode cX5_test 96 = .ok (.iconst 0, 1) := by decide +kernel
theorem dX5_test_97 : decode cX5_test 97 = .ok (.sipush 255, 3) := by decide +kernel
theorem dX5_test_100 : decode cX5_test 100 = .ok (.invokestatic 72, 3) := by decide +kernel
theorem dX5_test_103 : decode cX5_test 103 = .ok (.ifCond .eq 7, 3) := by decide +kernel
theorem dX5_test_106 : decode cX5_test 106 = .ok (.iconst 1, 1) := by decide +kernel
theorem dX5_test_107 : decode cX5_test 107 = .ok (.goto 4, 3) := by decide +kernel
theorem dX5_test_110 : decode cX5_test 110 = .ok (.iconst 0, 1) := by decide +kernel
theorem dX5_test_111 : decode cX5_test 111 = .ok (.istore 10, 2) := by decide +kernel
theorem dX5_test_113 : decode cX5_test 113 = .ok (.aload_n 0, 1) := by decide +kernel
theorem dX5_test_114 : decode cX5_test 114 = .ok (.iload 7, 2) := by decide +kernel
theorem dX5_test_116 : decode cX5_test 116 = .ok (.iload 10, 2) := by decide +kernel
theorem dX5_test_118 : decode cX5_test 118 = .ok (.iload 8, 2) := by decide +kernel
theorem dX5_test_120 : decode cX5_test 120 = .ok (.bipush 6, 2) := by decide +kernel
theorem dX5_test_122 : decode cX5_test 122 = .ok (.if_icmp .ge 7, 3) := by decide +kernel
theorem dX5_test_125 : decode cX5_test 125 = .ok (.iconst 1, 1) := by decide +kernel
theorem dX5_test_126 : decode cX5_test 126 = .ok (.goto 4, 3) := by decide +kernel
theorem dX5_test_129 : decode cX5_test 129 = .ok (.iconst 0, 1) := by decide +kernel
theorem dX5_test_130 : decode cX5_test 130 = .ok (.invokevirtual 91, 3) := by decide +kernel
theorem dX5_test_133 : decode cX5_test 133 = .ok (.ifCond .ne 5, 3) := by decide +kernel
theorem dX5_test_136 : decode cX5_test 136 = .ok (.iconst 0, 1) := by decide +kernel
theorem dX5_test_137 : decode cX5_test 137 = .ok (.ireturn, 1) := by decide +kernel
theorem dX5_test_138 : decode cX5_test 138 = .ok (.bipush 6, 2) := by decide +kernel
theorem dX5_test_140 : decode cX5_test 140 = .ok (.iload_n 1, 1) := by decide +kernel
theorem dX5_test_141 : decode cX5_test 141 = .ok (.imul, 1) := by decide +kernel
theorem dX5_test_142 : decode cX5_test 142 = .ok (.iload 8, 2) := by decide +kernel
theorem dX5_test_144 : decode cX5_test 144 = .ok (.iadd, 1) := by decide +kernel
theorem dX5_test_145 : decode cX5_test 145 = .ok (.istore 11, 2) := by decide +kernel
theorem dX5_test_147 : decode cX5_test 147 = .ok (.aload_n 0, 1) := by decide +kernel
theorem dX5_test_148 : decode cX5_test 148 = .ok (.getfield 38, 3) := by decide +kernel
theorem dX5_test_151 : decode cX5_test 151 = .ok (.iload 11, 2) := by decide +kernel
theorem dX5_test_153 : decode cX5_test 153 = .ok (.iload_n 2, 1) := by decide +kernel
theorem dX5_test_154 : decode cX5_test 154 = .ok (.iastore, 1) := by decide +kernel
theorem dX5_test_155 : decode cX5_test 155 = .ok (.aload_n 0, 1) := by decide +kernel
theorem dX5_test_156 : decode cX5_test 156 = .ok (.getfield 41, 3) := by decide +kernel
theorem dX5_test_159 : decode cX5_test 159 = .ok (.iload 11, 2) := by decide +kernel
theorem dX5_test_161 : decode cX5_test 161 = .ok (.iload_n 3, 1) := by decide +kernel
theorem dX5_test_162 : decode cX5_test 162 = .ok (.iastore, 1) := by decide +kernel
theorem dX5_test_163 : decode cX5_test 163 = .ok (.aload_n 0, 1) := by decide +kernel
theorem dX5_test_164 : decode cX5_test 164 = .ok (.getfield 44, 3) := by decide +kernel
theorem dX5_test_167 : decode cX5_test 167 = .ok (.iload 11, 2) := by decide +kernel
theorem dX5_test_169 : decode cX5_test 169 = .ok (.iload 4, 2) := by decide +kernel
theorem dX5_test_171 : decode cX5_test 171 = .ok (.iastore, 1) := by decide +kernel
theorem dX5_test_172 : decode cX5_test 172 = .ok (.aload_n 0, 1) := by decide +kernel
theorem dX5_test_173 : decode cX5_test 173 = .ok (.getfield 47, 3) := by decide +kernel
theorem dX5_test_176 : decode cX5_test 176 = .ok (.iload 11, 2) := by decide +kernel
theorem dX5_test_178 : decode cX5_test 178 = .ok (.iload 5, 2) := by decide +kernel
theorem dX5_test_180 : decode cX5_test 180 = .ok (.iastore, 1) := by decide +kernel
theorem dX5_test_181 : decode cX5_test 181 = .ok (.aload_n 0, 1) := by decide +kernel
theorem dX5_test_182 : decode cX5_test 182 = .ok (.getfield 50, 3) := by decide +kernel
theorem dX5_test_185 : decode cX5_test 185 = .ok (.iload 11, 2) := by decide +kernel
theorem dX5_test_187 : decode cX5_test 187 = .ok (.iload 6, 2) := by decide +kernel
theorem dX5_test_189 : decode cX5_test 189 = .ok (.iastore, 1) := by decide +kernel
theorem dX5_test_190 : decode cX5_test 190 = .ok (.aload_n 0, 1) := by decide +kernel
theorem dX5_test_191 : decode cX5_test 191 = .ok (.getfield 35, 3) := by decide +kernel
theorem dX5_test_194 : decode cX5_test 194 = .ok (.iload_n 1, 1) := by decide +kernel
theorem dX5_test_195 : decode cX5_test 195 = .ok (.dup2, 1) := by decide +kernel
theorem dX5_test_196 : decode cX5_test 196 = .ok (.iaload, 1) := by decide +kernel
theorem dX5_test_197 : decode cX5_test 197 = .ok (.iconst 1, 1) := by decide +kernel
theorem dX5_test_198 : decode cX5_test 198 = .ok (.iadd, 1) := by decide +kernel
theorem dX5_test_199 : decode cX5_test 199 = .ok (.iastore, 1) := by decide +kernel
theorem dX5_test_200 : decode cX5_test 200 = .ok (.aload_n 0, 1) := by decide +kernel
theorem dX5_test_201 : decode cX5_test 201 = .ok (.getfield 35, 3) := by decide +kernel
theorem dX5_test_204 : decode cX5_test 204 = .ok (.iload_n 1, 1) := by decide +kernel
theorem dX5_test_205 : decode cX5_test 205 = .ok (.iaload, 1) := by decide +kernel
theorem dX5_test_206 : decode cX5_test 206 = .ok (.ireturn, 1) := by decide +kernel
set_option maxRecDepth 20000 in
theorem ggX5_kinds_X5_told : GoodIn wsX5_kinds wsX5_told := goodIn_r _ [6, 7, 8, 9, 10, 11, 12, 13, 14, 15, 16, 17, 18, 19, 20, 21, 22, 23, 24, 25, 26, 27, 28, 29, 30, 31] (by decide +kernel) (by decide +kernel)
set_option maxRecDepth 20000 in
theorem gX5_kinds_X5_told : GoodIn wsX5_kinds (wsV RX5 106 RX5 yX5_told wsX5_told) := goodIn_app (goodIn_of _ (by decide +kernel)) ggX5_kinds_X5_told
theorem dX5_kinds_0 : decode cX5_kinds 0 = .ok (.aload_n 0, 1) := by decide +kernel
theorem dX5_kinds_1 : decode cX5_kinds 1 = .ok (.aload_n 0, 1) := by decide +kernel
theorem dX5_kinds_2 : decode cX5_kinds 2 = .ok (.getfield 69, 3) := by decide +kernel
theorem dX5_kinds_5 : decode cX5_kinds 5 = .ok (.invokevirtual 106, 3) := by decide +kernel
theorem dX5_kinds_8 : decode cX5_kinds 8 = .ok (.ireturn, 1) := by decide +kernel
theorem dX5_special_0 : decode cX5_special 0 = .ok (.iload_n 1, 1) := by decide +kernel
theorem dX5_special_1 : decode cX5_special 1 = .ok (.istore_n 3, 1) := by decide +kernel
theorem dX5_special_2 : decode cX5_special 2 = .ok (.iload_n 3, 1) := by decide +kernel
theorem dX5_special_3 : decode cX5_special 3 = .ok (.iconst (-1), 1) := by decide +kernel
theorem dX5_special_4 : decode cX5_special 4 = .ok (.if_icmp .eq 18, 3) := by decide +kernel
theorem dX5_special_7 : decode cX5_special 7 = .ok (.iload_n 3, 1) := by decide +kernel
theorem dX5_special_8 : decode cX5_special 8 = .ok (.iload_n 2, 1) := by decide +kernel
theorem dX5_special_9 : decode cX5_special 9 = .ok (.if_icmp .eq 13, 3) := by decide +kernel
theorem dX5_special_12 : decode cX5_special 12 = .ok (.aload_n 0, 1) := by decide +kernel
theorem dX5_special_13 : decode cX5_special 13 = .ok (.getfield 7, 3) := by decide +kernel
theorem dX5_special_16 : decode cX5_special 16 = .ok (.iload_n 3, 1) := by decide +kernel
theorem dX5_special_17 : decode cX5_special 17 = .ok (.iaload, 1) := by decide +kernel
theorem dX5_special_18 : decode cX5_special 18 = .ok (.istore_n 3, 1) := by decide +kernel
theorem dX5_special_19 : decode cX5_special 19 = .ok (.goto (-17), 3) := by decide +kernel
theorem dX5_special_22 : decode cX5_special 22 = .ok (.iload_n 3, 1) := by decide +kernel
theorem dX5_special_23 : decode cX5_special 23 = .ok (.iload_n 2, 1) := by decide +kernel
theorem dX5_special_24 : decode cX5_special 24 = .ok (.if_icmp .ne 7, 3) := by decide +kernel
theorem dX5_special_27 : decode cX5_special 27 = .ok (.iconst 1, 1) := by decide +kernel
theorem dX5_special_28 : decode cX5_special 28 = .ok (.goto 4, 3) := by decide +kernel
theorem dX5_special_31 : decode cX5_special 31 = .ok (.iconst 0, 1) := by decide +kernel
theorem dX5_special_32 : decode cX5_special 32 = .ok (.ireturn, 1) := by decide +kernel
set_option maxRecDepth 20000 in
theorem ggX5_isSpecial_X5_isKind : GoodIn wsX5_isSpecial wsX5_isKind := goodIn_r _ [5, 6, 7, 8, 4, 9, 20, 21, 22, 23, 24, 25, 26, 27, 28, 29, 30, 31, 32, 33, 34, 35, 36, 37, 38, 39, 40, 41, 42, 43] (by decide +kernel) (by decide +kernel)
set_option maxRecDepth 20000 in
theorem gX5_isSpecial_X5_isKind : GoodIn wsX5_isSpecial (wsV RX5 76 RX5 yX5_isKind wsX5_isKind) := goodIn_app (goodIn_of _ (by decide +kernel)) ggX5_isSpecial_X5_isKind
set_option maxRecDepth 20000 in
theorem ggX5_isSpecial_X5_asked : GoodIn wsX5_isSpecial wsX5_asked := goodIn_r _ [13, 14, 20, 21, 22, 23, 24, 25, 26, 27, 28, 29, 30, 31, 32, 33, 34, 35, 36, 37, 38, 39, 40, 41, 42, 43] (by decide +kernel) (by decide +kernel)
set_option maxRecDepth 20000 in
theorem gX5_isSpecial_X5_asked : GoodIn wsX5_isSpecial (wsV RX5 97 RX5 yX5_asked wsX5_asked) := goodIn_app (goodIn_of _ (by decide +kernel)) ggX5_isSpecial_X5_asked
set_option maxRecDepth 20000 in
theorem ggX5_isSpecial_X5_special : GoodIn wsX5_isSpecial wsX5_special := goodIn_r _ [18, 19, 20, 21, 22, 23, 24, 25, 26, 27, 28, 29, 30, 31, 32, 33, 34, 35, 36, 37, 38, 39, 40, 41, 42, 43] (by decide +kernel) (by decide +kernel)
set_option maxRecDepth 20000 in
theorem gX5_isSpecial_X5_special : GoodIn wsX5_isSpecial (wsV RX5 110 RX5 yX5_special wsX5_special) := goodIn_app (goodIn_of _ (by decide +kernel)) ggX5_isSpecial_X5_special
theorem dX5_isSpecial_0 : decode cX5_isSpecial 0 = .ok (.aload_n 0, 1) := by decide +kernel
theorem dX5_isSpecial_1 : decode cX5_isSpecial 1 = .ok (.aload_n 0, 1) := by decide +kernel
theorem dX5_isSpecial_2 : decode cX5_isSpecial 2 = .ok (.iload_n 1, 1) := by decide +kernel
theorem dX5_isSpecial_3 : decode cX5_isSpecial 3 = .ok (.invokevirtual 76, 3) := by decide +kernel
theorem dX5_isSpecial_6 : decode cX5_isSpecial 6 = .ok (.ifCond .eq 15, 3) := by decide +kernel
theorem dX5_isSpecial_9 : decode cX5_isSpecial 9 = .ok (.aload_n 0, 1) := by decide +kernel
theorem dX5_isSpecial_10 : decode cX5_isSpecial 10 = .ok (.iload_n 2, 1) := by decide +kernel
theorem dX5_isSpecial_11 : decode cX5_isSpecial 11 = .ok (.invokevirtual 76, 3) := by decide +kernel
theorem dX5_isSpecial_14 : decode cX5_isSpecial 14 = .ok (.ifCond .eq 7, 3) := by decide +kernel
theorem dX5_isSpecial_17 : decode cX5_isSpecial 17 = .ok (.iconst 1, 1) := by decide +kernel
theorem dX5_isSpecial_18 : decode cX5_isSpecial 18 = .ok (.goto 4, 3) := by decide +kernel
theorem dX5_isSpecial_21 : decode cX5_isSpecial 21 = .ok (.iconst 0, 1) := by decide +kernel
theorem dX5_isSpecial_22 : decode cX5_isSpecial 22 = .ok (.invokevirtual 97, 3) := by decide +kernel
theorem dX5_isSpecial_25 : decode cX5_isSpecial 25 = .ok (.ifCond .eq 16, 3) := by decide +kernel
theorem dX5_isSpecial_28 : decode cX5_isSpecial 28 = .ok (.aload_n 0, 1) := by decide +kernel
theorem dX5_isSpecial_29 : decode cX5_isSpecial 29 = .ok (.iload_n 1, 1) := by decide +kernel
theorem dX5_isSpecial_30 : decode cX5_isSpecial 30 = .ok (.iload_n 2, 1) := by decide +kernel
theorem dX5_isSpecial_31 : decode cX5_isSpecial 31 = .ok (.invokevirtual 110, 3) := by decide +kernel
theorem dX5_isSpecial_34 : decode cX5_isSpecial 34 = .ok (.ifCond .eq 7, 3) := by decide +kernel
theorem dX5_isSpecial_37 : decode cX5_isSpecial 37 = .ok (.iconst 1, 1) := by decide +kernel
theorem dX5_isSpecial_38 : decode cX5_isSpecial 38 = .ok (.goto 4, 3) := by decide +kernel
theorem dX5_isSpecial_41 : decode cX5_isSpecial 41 = .ok (.iconst 0, 1) := by decide +kernel
theorem dX5_isSpecial_42 : decode cX5_isSpecial 42 = .ok (.ireturn, 1) := by decide +kernel
set_option maxRecDepth 20000 in
theorem ggX5_letter_X5_in : GoodIn wsX5_letter wsX5_in := goodIn_r _ [6] (by decide +kernel) (by decide +kernel)
set_option maxRecDepth 20000 in
theorem gX5_letter_X5_in : GoodIn wsX5_letter (va_wsS RX5 72 yX5_in wsX5_in) := goodIn_app (goodIn_of _ (by decide +kernel)) ggX5_letter_X5_in
set_option maxRecDepth 20000 in
theorem ggX5_letter_X5_asked_ : GoodIn wsX5_letter wsX5_asked_ := goodIn_r _ [10, 11, 12, 13, 14, 15, 16, 17, 18, 19, 20, 21, 22, 23, 24, 25, 26, 27, 28, 29, 30, 31, 32, 33, 34, 35] (by decide +kernel) (by decide +kernel)
set_option maxRecDepth 20000 in
theorem gX5_letter_X5_asked_ : GoodIn wsX5_letter (wsV RX5 80 RX5 yX5_asked_ wsX5_asked_) := goodIn_app (goodIn_of _ (by decide +kernel)) ggX5_letter_X5_asked_
theorem dX5_letter_0 : decode cX5_letter 0 = .ok (.aload_n 0, 1) := by decide +kernel
theorem dX5_letter_1 : decode cX5_letter 1 = .ok (.iload_n 1, 1) := by decide +kernel
theorem dX5_letter_2 : decode cX5_letter 2 = .ok (.iconst 0, 1) := by decide +kernel
theorem dX5_letter_3 : decode cX5_letter 3 = .ok (.bipush 9, 2) := by decide +kernel
theorem dX5_letter_5 : decode cX5_letter 5 = .ok (.invokestatic 72, 3) := by decide +kernel
theorem dX5_letter_8 : decode cX5_letter 8 = .ok (.aload_n 0, 1) := by decide +kernel
theorem dX5_letter_9 : decode cX5_letter 9 = .ok (.getfield 114, 3) := by decide +kernel
theorem dX5_letter_12 : decode cX5_letter 12 = .ok (.bipush 12, 2) := by decide +kernel
theorem dX5_letter_14 : decode cX5_letter 14 = .ok (.if_icmp .ge 7, 3) := by decide +kernel
theorem dX5_letter_17 : decode cX5_letter 17 = .ok (.iconst 1, 1) := by decide +kernel
theorem dX5_letter_18 : decode cX5_letter 18 = .ok (.goto 4, 3) := by decide +kernel
theorem dX5_letter_21 : decode cX5_letter 21 = .ok (.iconst 0, 1) := by decide +kernel
theorem dX5_letter_22 : decode cX5_letter 22 = .ok (.invokevirtual 80, 3) := by decide +kernel
theorem dX5_letter_25 : decode cX5_letter 25 = .ok (.ifCond .ne 5, 3) := by decide +kernel
theorem dX5_letter_28 : decode cX5_letter 28 = .ok (.iconst 0, 1) := by decide +kernel
theorem dX5_letter_29 : decode cX5_letter 29 = .ok (.ireturn, 1) := by decide +kernel
theorem dX5_letter_30 : decode cX5_letter 30 = .ok (.aload_n 0, 1) := by decide +kernel
theorem dX5_letter_31 : decode cX5_letter 31 = .ok (.getfield 53, 3) := by decide +kernel
theorem dX5_letter_34 : decode cX5_letter 34 = .ok (.aload_n 0, 1) := by decide +kernel
theorem dX5_letter_35 : decode cX5_letter 35 = .ok (.getfield 114, 3) := by decide +kernel
theorem dX5_letter_38 : decode cX5_letter 38 = .ok (.iload_n 1, 1) := by decide +kernel
theorem dX5_letter_39 : decode cX5_letter 39 = .ok (.iastore, 1) := by decide +kernel
theorem dX5_letter_40 : decode cX5_letter 40 = .ok (.aload_n 0, 1) := by decide +kernel
theorem dX5_letter_41 : decode cX5_letter 41 = .ok (.dup, 1) := by decide +kernel
theorem dX5_letter_42 : decode cX5_letter 42 = .ok (.getfield 114, 3) := by decide +kernel
theorem dX5_letter_45 : decode cX5_letter 45 = .ok (.iconst 1, 1) := by decide +kernel
theorem dX5_letter_46 : decode cX5_letter 46 = .ok (.iadd, 1) := by decide +kernel
theorem dX5_letter_47 : decode cX5_letter 47 = .ok (.putfield 114, 3) := by decide +kernel
theorem dX5_letter_50 : decode cX5_letter 50 = .ok (.aload_n 0, 1) := by decide +kernel
theorem dX5_letter_51 : decode cX5_letter 51 = .ok (.getfield 114, 3) := by decide +kernel
theorem dX5_letter_54 : decode cX5_letter 54 = .ok (.ireturn, 1) := by decide +kernel
set_option maxRecDepth 20000 in
theorem ggX5_put_X5_in : GoodIn wsX5_put wsX5_in := goodIn_r _ [6] (by decide +kernel) (by decide +kernel)
set_option maxRecDepth 20000 in
theorem gX5_put_X5_in : GoodIn wsX5_put (va_wsS RX5 72 yX5_in wsX5_in) := goodIn_app (goodIn_of _ (by decide +kernel)) ggX5_put_X5_in
set_option maxRecDepth 20000 in
theorem ggX5_put_X5_asked_ : GoodIn wsX5_put wsX5_asked_ := goodIn_r _ [10, 11, 12, 13, 14, 15, 16, 17, 18, 19, 20, 21, 22, 23, 24, 25, 26, 27, 28, 29, 30, 31, 32, 33, 34, 35] (by decide +kernel) (by decide +kernel)
set_option maxRecDepth 20000 in
theorem gX5_put_X5_asked_ : GoodIn wsX5_put (wsV RX5 80 RX5 yX5_asked_ wsX5_asked_) := goodIn_app (goodIn_of _ (by decide +kernel)) ggX5_put_X5_asked_
theorem dX5_put_0 : decode cX5_put 0 = .ok (.aload_n 0, 1) := by decide +kernel
theorem dX5_put_1 : decode cX5_put 1 = .ok (.iload_n 1, 1) := by decide +kernel
theorem dX5_put_2 : decode cX5_put 2 = .ok (.iconst 0, 1) := by decide +kernel
theorem dX5_put_3 : decode cX5_put 3 = .ok (.sipush 255, 3) := by decide +kernel
theorem dX5_put_6 : decode cX5_put 6 = .ok (.invokestatic 72, 3) := by decide +kernel
theorem dX5_put_9 : decode cX5_put 9 = .ok (.aload_n 0, 1) := by decide +kernel
theorem dX5_put_10 : decode cX5_put 10 = .ok (.getfield 117, 3) := by decide +kernel
theorem dX5_put_13 : decode cX5_put 13 = .ok (.bipush 16, 2) := by decide +kernel
theorem dX5_put_15 : decode cX5_put 15 = .ok (.if_icmp .ge 7, 3) := by decide +kernel
theorem dX5_put_18 : decode cX5_put 18 = .ok (.iconst 1, 1) := by decide +kernel
theorem dX5_put_19 : decode cX5_put 19 = .ok (.goto 4, 3) := by decide +kernel
theorem dX5_put_22 : decode cX5_put 22 = .ok (.iconst 0, 1) := by decide +kernel
theorem dX5_put_23 : decode cX5_put 23 = .ok (.invokevirtual 80, 3) := by decide +kernel
theorem dX5_put_26 : decode cX5_put 26 = .ok (.ifCond .ne 5, 3) := by decide +kernel
theorem dX5_put_29 : decode cX5_put 29 = .ok (.iconst 0, 1) := by decide +kernel
theorem dX5_put_30 : decode cX5_put 30 = .ok (.ireturn, 1) := by decide +kernel
theorem dX5_put_31 : decode cX5_put 31 = .ok (.aload_n 0, 1) := by decide +kernel
theorem dX5_put_32 : decode cX5_put 32 = .ok (.getfield 56, 3) := by decide +kernel
theorem dX5_put_35 : decode cX5_put 35 = .ok (.aload_n 0, 1) := by decide +kernel
theorem dX5_put_36 : decode cX5_put 36 = .ok (.getfield 117, 3) := by decide +kernel
theorem dX5_put_39 : decode cX5_put 39 = .ok (.iload_n 1, 1) := by decide +kernel
theorem dX5_put_40 : decode cX5_put 40 = .ok (.iastore, 1) := by decide +kernel
theorem dX5_put_41 : decode cX5_put 41 = .ok (.aload_n 0, 1) := by decide +kernel
theorem dX5_put_42 : decode cX5_put 42 = .ok (.dup, 1) := by decide +kernel
theorem dX5_put_43 : decode cX5_put 43 = .ok (.getfield 117, 3) := by decide +kernel
theorem dX5_put_46 : decode cX5_put 46 = .ok (.iconst 1, 1) := by decide +kernel
theorem dX5_put_47 : decode cX5_put 47 = .ok (.iadd, 1) := by decide +kernel
theorem dX5_put_48 : decode cX5_put 48 = .ok (.putfield 117, 3) := by decide +kernel
theorem dX5_put_51 : decode cX5_put 51 = .ok (.aload_n 0, 1) := by decide +kernel
theorem dX5_put_52 : decode cX5_put 52 = .ok (.getfield 117, 3) := by decide +kernel
theorem dX5_put_55 : decode cX5_put 55 = .ok (.ireturn, 1) := by decide +kernel
set_option maxRecDepth 20000 in
theorem ggX5_empty_X5_told : GoodIn wsX5_empty wsX5_told := goodIn_r _ [7, 8, 9, 10, 11, 12, 13, 14, 15, 16, 17, 18, 19, 20, 21, 22, 23, 24, 25, 26, 27, 28, 29, 30, 31, 32] (by decide +kernel) (by decide +kernel)
set_option maxRecDepth 20000 in
theorem gX5_empty_X5_told : GoodIn wsX5_empty (wsV RX5 106 RX5 yX5_told wsX5_told) := goodIn_app (goodIn_of _ (by decide +kernel)) ggX5_empty_X5_told
theorem dX5_empty_0 : decode cX5_empty 0 = .ok (.aload_n 0, 1) := by decide +kernel
theorem dX5_empty_1 : decode cX5_empty 1 = .ok (.getfield 114, 3) := by decide +kernel
theorem dX5_empty_4 : decode cX5_empty 4 = .ok (.aload_n 0, 1) := by decide +kernel
theorem dX5_empty_5 : decode cX5_empty 5 = .ok (.getfield 117, 3) := by decide +kernel
theorem dX5_empty_8 : decode cX5_empty 8 = .ok (.iadd, 1) := by decide +kernel
theorem dX5_empty_9 : decode cX5_empty 9 = .ok (.istore_n 1, 1) := by decide +kernel
theorem dX5_empty_10 : decode cX5_empty 10 = .ok (.aload_n 0, 1) := by decide +kernel
theorem dX5_empty_11 : decode cX5_empty 11 = .ok (.iconst 0, 1) := by decide +kernel
theorem dX5_empty_12 : decode cX5_empty 12 = .ok (.putfield 114, 3) := by decide +kernel
theorem dX5_empty_15 : decode cX5_empty 15 = .ok (.aload_n 0, 1) := by decide +kernel
theorem dX5_empty_16 : decode cX5_empty 16 = .ok (.iconst 0, 1) := by decide +kernel
theorem dX5_empty_17 : decode cX5_empty 17 = .ok (.putfield 117, 3) := by decide +kernel
theorem dX5_empty_20 : decode cX5_empty 20 = .ok (.aload_n 0, 1) := by decide +kernel
theorem dX5_empty_21 : decode cX5_empty 21 = .ok (.iload_n 1, 1) := by decide +kernel
theorem dX5_empty_22 : decode cX5_empty 22 = .ok (.invokevirtual 106, 3) := by decide +kernel
theorem dX5_empty_25 : decode cX5_empty 25 = .ok (.ireturn, 1) := by decide +kernel
theorem dX5_fit_0 : decode cX5_fit 0 = .ok (.iconst 1, 1) := by decide +kernel
theorem dX5_fit_1 : decode cX5_fit 1 = .ok (.istore_n 2, 1) := by decide +kernel
theorem dX5_fit_2 : decode cX5_fit 2 = .ok (.iconst 0, 1) := by decide +kernel
theorem dX5_fit_3 : decode cX5_fit 3 = .ok (.istore_n 3, 1) := by decide +kernel
theorem dX5_fit_4 : decode cX5_fit 4 = .ok (.iload_n 3, 1) := by decide +kernel
theorem dX5_fit_5 : decode cX5_fit 5 = .ok (.aload_n 0, 1) := by decide +kernel
theorem dX5_fit_6 : decode cX5_fit 6 = .ok (.getfield 19, 3) := by decide +kernel
theorem dX5_fit_9 : decode cX5_fit 9 = .ok (.iload_n 1, 1) := by decide +kernel
theorem dX5_fit_10 : decode cX5_fit 10 = .ok (.iaload, 1) := by decide +kernel
theorem dX5_fit_11 : decode cX5_fit 11 = .ok (.if_icmp .ge 129, 3) := by decide +kernel
theorem dX5_fit_14 : decode cX5_fit 14 = .ok (.aload_n 0, 1) := by decide +kernel
theorem dX5_fit_15 : decode cX5_fit 15 = .ok (.getfield 22, 3) := by decide +kernel
theorem dX5_fit_18 : decode cX5_fit 18 = .ok (.bipush 8, 2) := by decide +kernel
theorem dX5_fit_20 : decode cX5_fit 20 = .ok (.iload_n 1, 1) := by decide +kernel
theorem dX5_fit_21 : decode cX5_fit 21 = .ok (.imul, 1) := by decide +kernel
theorem dX5_fit_22 : decode cX5_fit 22 = .ok (.iload_n 3, 1) := by decide +kernel
theorem dX5_fit_23 : decode cX5_fit 23 = .ok (.iadd, 1) := by decide +kernel
theorem dX5_fit_24 : decode cX5_fit 24 = .ok (.iaload, 1) := by decide +kernel
theorem dX5_fit_25 : decode cX5_fit 25 = .ok (.istore 4, 2) := by decide +kernel
theorem dX5_fit_27 : decode cX5_fit 27 = .ok (.iconst 0, 1) := by decide +kernel
theorem dX5_fit_28 : decode cX5_fit 28 = .ok (.istore 5, 2) := by decide +kernel
theorem dX5_fit_30 : decode cX5_fit 30 = .ok (.iconst 0, 1) := by decide +kernel
theorem dX5_fit_31 : decode cX5_fit 31 = .ok (.istore 6, 2) := by decide +kernel
theorem dX5_fit_33 : decode cX5_fit 33 = .ok (.iload 6, 2) := by decide +kernel
theorem dX5_fit_35 : decode cX5_fit 35 = .ok (.aload_n 0, 1) := by decide +kernel
theorem dX5_fit_36 : decode cX5_fit 36 = .ok (.getfield 114, 3) := by decide +kernel
theorem dX5_fit_39 : decode cX5_fit 39 = .ok (.if_icmp .gt 92, 3) := by decide +kernel
theorem dX5_fit_42 : decode cX5_fit 42 = .ok (.iload_n 2, 1) := by decide +kernel
theorem dX5_fit_43 : decode cX5_fit 43 = .ok (.iload 6, 2) := by decide +kernel
theorem dX5_fit_45 : decode cX5_fit 45 = .ok (.ishr, 1) := by decide +kernel
theorem dX5_fit_46 : decode cX5_fit 46 = .ok (.iconst 1, 1) := by decide +kernel
theorem dX5_fit_47 : decode cX5_fit 47 = .ok (.iand, 1) := by decide +kernel
theorem dX5_fit_48 : decode cX5_fit 48 = .ok (.iconst 1, 1) := by decide +kernel
theorem dX5_fit_49 : decode cX5_fit 49 = .ok (.if_icmp .ne 7, 3) := by decide +kernel
theorem dX5_fit_52 : decode cX5_fit 52 = .ok (.iconst 1, 1) := by decide +kernel
theorem dX5_fit_53 : decode cX5_fit 53 = .ok (.goto 4, 3) := by decide +kernel
theorem dX5_fit_56 : decode cX5_fit 56 = .ok (.iconst 0, 1) := by decide +kernel
theorem dX5_fit_57 : decode cX5_fit 57 = .ok (.istore 7, 2) := by decide +kernel
theorem dX5_fit_59 : decode cX5_fit 59 = .ok (.iload 7, 2) := by decide +kernel
theorem dX5_fit_61 : decode cX5_fit 61 = .ok (.ifCond .eq 22, 3) := by decide +kernel
theorem dX5_fit_64 : decode cX5_fit 64 = .ok (.iload 4, 2) := by decide +kernel
theorem dX5_fit_66 : decode cX5_fit 66 = .ok (.bipush 10, 2) := by decide +kernel
theorem dX5_fit_68 : decode cX5_fit 68 = .ok (.if_icmp .ne 15, 3) := by decide +kernel
theorem dX5_fit_71 : decode cX5_fit 71 = .ok (.iload 5, 2) := by decide +kernel
theorem dX5_fit_73 : decode cX5_fit 73 = .ok (.iconst (-1), 1) := by decide +kernel
theorem dX5_fit_74 : decode cX5_fit 74 = .ok (.iload 6, 2) := by decide +kernel
theorem dX5_fit_76 : decode cX5_fit 76 = .ok (.ishl, 1) := by decide +kernel
theorem dX5_fit_77 : decode cX5_fit 77 = .ok (.ior, 1) := by decide +kernel
theorem dX5_fit_78 : decode cX5_fit 78 = .ok (.istore 5, 2) := by decide +kernel
theorem dX5_fit_80 : decode cX5_fit 80 = .ok (.goto 45, 3) := by decide +kernel
theorem dX5_fit_83 : decode cX5_fit 83 = .ok (.iload 7, 2) := by decide +kernel
theorem dX5_fit_85 : decode cX5_fit 85 = .ok (.ifCond .eq 40, 3) := by decide +kernel
theorem dX5_fit_88 : decode cX5_fit 88 = .ok (.iload 6, 2) := by decide +kernel
theorem dX5_fit_90 : decode cX5_fit 90 = .ok (.aload_n 0, 1) := by decide +kernel
theorem dX5_fit_91 : decode cX5_fit 91 = .ok (.getfield 114, 3) := by decide +kernel
theorem dX5_fit_94 : decode cX5_fit 94 = .ok (.if_icmp .ge 31, 3) := by decide +kernel
theorem dX5_fit_97 : decode cX5_fit 97 = .ok (.iload 4, 2) := by decide +kernel
theorem dX5_fit_99 : decode cX5_fit 99 = .ok (.bipush 11, 2) := by decide +kernel
theorem dX5_fit_101 : decode cX5_fit 101 = .ok (.if_icmp .eq 15, 3) := by decide +kernel
theorem dX5_fit_104 : decode cX5_fit 104 = .ok (.iload 4, 2) := by decide +kernel
theorem dX5_fit_106 : decode cX5_fit 106 = .ok (.aload_n 0, 1) := by decide +kernel
theorem dX5_fit_107 : decode cX5_fit 107 = .ok (.getfield 53, 3) := by decide +kernel
theorem dX5_fit_110 : decode cX5_fit 110 = .ok (.iload 6, 2) := by decide +kernel
theorem dX5_fit_112 : decode cX5_fit 112 = .ok (.iaload, 1) := by decide +kernel
theorem dX5_fit_113 : decode cX5_fit 113 = .ok (.if_icmp .ne 12, 3) := by decide +kernel
theorem dX5_fit_116 : decode cX5_fit 116 = .ok (.iload 5, 2) := by decide +kernel
theorem dX5_fit_118 : decode cX5_fit 118 = .ok (.iconst 2, 1) := by decide +kernel
theorem dX5_fit_119 : decode cX5_fit 119 = .ok (.iload 6, 2) := by decide +kernel
theorem dX5_fit_121 : decode cX5_fit 121 = .ok (.ishl, 1) := by decide +kernel
theorem dX5_fit_122 : decode cX5_fit 122 = .ok (.ior, 1) := by decide +kernel
theorem dX5_fit_123 : decode cX5_fit 123 = .ok (.istore 5, 2) := by decide +kernel
theorem dX5_fit_125 : decode cX5_fit 125 = .ok (.iinc 6 1, 3) := by decide +kernel
theorem dX5_fit_128 : decode cX5_fit 128 = .ok (.goto (-95), 3) := by decide +kernel
theorem dX5_fit_131 : decode cX5_fit 131 = .ok (.iload 5, 2) := by decide +kernel
theorem dX5_fit_133 : decode cX5_fit 133 = .ok (.istore_n 2, 1) := by decide +kernel
theorem dX5_fit_134 : decode cX5_fit 134 = .ok (.iinc 3 1, 3) := by decide +kernel
theorem dX5_fit_137 : decode cX5_fit 137 = .ok (.goto (-133), 3) := by decide +kernel
theorem dX5_fit_140 : decode cX5_fit 140 = .ok (.iload_n 2, 1) := by decide +kernel
theorem dX5_fit_141 : decode cX5_fit 141 = .ok (.aload_n 0, 1) := by decide +kernel
theorem dX5_fit_142 : decode cX5_fit 142 = .ok (.getfield 114, 3) := by decide +kernel
theorem dX5_fit_145 : decode cX5_fit 145 = .ok (.ishr, 1) := by decide +kernel
theorem dX5_fit_146 : decode cX5_fit 146 = .ok (.iconst 1, 1) := by decide +kernel
theorem dX5_fit_147 : decode cX5_fit 147 = .ok (.iand, 1) := by decide +kernel
theorem dX5_fit_148 : decode cX5_fit 148 = .ok (.iconst 1, 1) := by decide +kernel
theorem dX5_fit_149 : decode cX5_fit 149 = .ok (.if_icmp .ne 7, 3) := by decide +kernel
theorem dX5_fit_152 : decode cX5_fit 152 = .ok (.iconst 1, 1) := by decide +kernel
theorem dX5_fit_153 : decode cX5_fit 153 = .ok (.goto 4, 3) := by decide +kernel
theorem dX5_fit_156 : decode cX5_fit 156 = .ok (.iconst 0, 1) := by decide +kernel
theorem dX5_fit_157 : decode cX5_fit 157 = .ok (.ireturn, 1) := by decide +kernel
set_option maxRecDepth 20000 in
theorem ggX5_fits_X5_isThere : GoodIn wsX5_fits wsX5_isThere := goodIn_r _ [5, 6, 7, 8, 9, 4, 10, 24, 25, 26, 27, 28, 29, 30, 31, 32, 33, 34, 35, 36, 37, 38, 39, 40, 41, 42, 43, 44, 45, 46, 47] (by decide +kernel) (by decide +kernel)
set_option maxRecDepth 20000 in
theorem gX5_fits_X5_isThere : GoodIn wsX5_fits (wsV RX5 94 RX5 yX5_isThere wsX5_isThere) := goodIn_app (goodIn_of _ (by decide +kernel)) ggX5_fits_X5_isThere
set_option maxRecDepth 20000 in
theorem ggX5_fits_X5_asked : GoodIn wsX5_fits wsX5_asked := goodIn_r _ [14, 15, 24, 25, 26, 27, 28, 29, 30, 31, 32, 33, 34, 35, 36, 37, 38, 39, 40, 41, 42, 43, 44, 45, 46, 47] (by decide +kernel) (by decide +kernel)
set_option maxRecDepth 20000 in
theorem gX5_fits_X5_asked : GoodIn wsX5_fits (wsV RX5 97 RX5 yX5_asked wsX5_asked) := goodIn_app (goodIn_of _ (by decide +kernel)) ggX5_fits_X5_asked
set_option maxRecDepth 20000 in
theorem ggX5_fits_X5_fit : GoodIn wsX5_fits wsX5_fit := goodIn_r _ [19, 20, 21, 22, 23, 24, 25, 26, 27, 28, 29, 30, 31, 32, 33, 34, 35, 36, 37, 38, 39, 40, 41, 42, 43, 44, 45, 46, 47] (by decide +kernel) (by decide +kernel)
set_option maxRecDepth 20000 in
theorem gX5_fits_X5_fit : GoodIn wsX5_fits (wsV RX5 120 RX5 yX5_fit wsX5_fit) := goodIn_app (goodIn_of _ (by decide +kernel)) ggX5_fits_X5_fit
theorem dX5_fits_0 : decode cX5_fits 0 = .ok (.aload_n 0, 1) := by decide +kernel
theorem dX5_fits_1 : decode cX5_fits 1 = .ok (.aload_n 0, 1) := by decide +kernel
theorem dX5_fits_2 : decode cX5_fits 2 = .ok (.iload_n 1, 1) := by decide +kernel
theorem dX5_fits_3 : decode cX5_fits 3 = .ok (.invokevirtual 94, 3) := by decide +kernel
theorem dX5_fits_6 : decode cX5_fits 6 = .ok (.invokevirtual 97, 3) := by decide +kernel
theorem dX5_fits_9 : decode cX5_fits 9 = .ok (.ifCond .eq 15, 3) := by decide +kernel
theorem dX5_fits_12 : decode cX5_fits 12 = .ok (.aload_n 0, 1) := by decide +kernel
theorem dX5_fits_13 : decode cX5_fits 13 = .ok (.iload_n 1, 1) := by decide +kernel
theorem dX5_fits_14 : decode cX5_fits 14 = .ok (.invokevirtual 120, 3) := by decide +kernel
theorem dX5_fits_17 : decode cX5_fits 17 = .ok (.ifCond .eq 7, 3) := by decide +kernel
theorem dX5_fits_20 : decode cX5_fits 20 = .ok (.iconst 1, 1) := by decide +kernel
theorem dX5_fits_21 : decode cX5_fits 21 = .ok (.goto 4, 3) := by decide +kernel
theorem dX5_fits_24 : decode cX5_fits 24 = .ok (.iconst 0, 1) := by decide +kernel
theorem dX5_fits_25 : decode cX5_fits 25 = .ok (.ireturn, 1) := by decide +kernel
set_option maxRecDepth 20000 in
theorem ggX5_fitsByTable_X5_fits : GoodIn wsX5_fitsByTable wsX5_fits := goodIn_r _ [5, 6, 7, 8, 4, 9, 10, 11, 12, 13, 14, 15, 16, 17, 18, 19, 20, 21, 22, 23, 24, 25, 26, 27, 28, 29, 30, 31, 32, 33, 34, 35, 36, 37, 38, 39, 40, 41, 42, 43, 44, 45, 46, 47, 48, 49, 50, 51] (by decide +kernel) (by decide +kernel)
set_option maxRecDepth 20000 in
theorem gX5_fitsByTable_X5_fits : GoodIn wsX5_fitsByTable (wsV RX5 123 RX5 yX5_fits wsX5_fits) := goodIn_app (goodIn_of _ (by decide +kernel)) ggX5_fitsByTable_X5_fits
theorem dX5_fitsByTable_0 : decode cX5_fitsByTable 0 = .ok (.aload_n 0, 1) := by decide +kernel
theorem dX5_fitsByTable_1 : decode cX5_fitsByTable 1 = .ok (.iload_n 1, 1) := by decide +kernel
theorem dX5_fitsByTable_2 : decode cX5_fitsByTable 2 = .ok (.invokevirtual 123, 3) := by decide +kernel
theorem dX5_fitsByTable_5 : decode cX5_fitsByTable 5 = .ok (.ireturn, 1) := by decide +kernel
theorem dX5_holds_0 : decode cX5_holds 0 = .ok (.iconst 0, 1) := by decide +kernel
theorem dX5_holds_1 : decode cX5_holds 1 = .ok (.istore_n 2, 1) := by decide +kernel
theorem dX5_holds_2 : decode cX5_holds 2 = .ok (.aload_n 0, 1) := by decide +kernel
theorem dX5_holds_3 : decode cX5_holds 3 = .ok (.getfield 41, 3) := by decide +kernel
theorem dX5_holds_6 : decode cX5_holds 6 = .ok (.iload_n 1, 1) := by decide +kernel
theorem dX5_holds_7 : decode cX5_holds 7 = .ok (.iaload, 1) := by decide +kernel
theorem dX5_holds_8 : decode cX5_holds 8 = .ok (.istore_n 3, 1) := by decide +kernel
theorem dX5_holds_9 : decode cX5_holds 9 = .ok (.iload_n 3, 1) := by decide +kernel
theorem dX5_holds_10 : decode cX5_holds 10 = .ok (.aload_n 0, 1) := by decide +kernel
theorem dX5_holds_11 : decode cX5_holds 11 = .ok (.getfield 44, 3) := by decide +kernel
theorem dX5_holds_14 : decode cX5_holds 14 = .ok (.iload_n 1, 1) := by decide +kernel
theorem dX5_holds_15 : decode cX5_holds 15 = .ok (.iaload, 1) := by decide +kernel
theorem dX5_holds_16 : decode cX5_holds 16 = .ok (.if_icmp .gt 49, 3) := by decide +kernel
theorem dX5_holds_19 : decode cX5_holds 19 = .ok (.iload_n 3, 1) := by decide +kernel
theorem dX5_holds_20 : decode cX5_holds 20 = .ok (.aload_n 0, 1) := by decide +kernel
theorem dX5_holds_21 : decode cX5_holds 21 = .ok (.getfield 117, 3) := by decide +kernel
theorem dX5_holds_24 : decode cX5_holds 24 = .ok (.if_icmp .ge 41, 3) := by decide +kernel
theorem dX5_holds_27 : decode cX5_holds 27 = .ok (.iload_n 2, 1) := by decide +kernel
theorem dX5_holds_28 : decode cX5_holds 28 = .ok (.ifCond .ne 25, 3) := by decide +kernel
theorem dX5_holds_31 : decode cX5_holds 31 = .ok (.aload_n 0, 1) := by decide +kernel
theorem dX5_holds_32 : decode cX5_holds 32 = .ok (.getfield 56, 3) := by decide +kernel
theorem dX5_holds_35 : decode cX5_holds 35 = .ok (.iload_n 3, 1) := by decide +kernel
theorem dX5_holds_36 : decode cX5_holds 36 = .ok (.iaload, 1) := by decide +kernel
theorem dX5_holds_37 : decode cX5_holds 37 = .ok (.aload_n 0, 1) := by decide +kernel
theorem dX5_holds_38 : decode cX5_holds 38 = .ok (.getfield 50, 3) := by decide +kernel
theorem dX5_holds_41 : decode cX5_holds 41 = .ok (.iload_n 1, 1) := by decide +kernel
theorem dX5_holds_42 : decode cX5_holds 42 = .ok (.iaload, 1) := by decide +kernel
theorem dX5_holds_43 : decode cX5_holds 43 = .ok (.iand, 1) := by decide +kernel
theorem dX5_holds_44 : decode cX5_holds 44 = .ok (.aload_n 0, 1) := by decide +kernel
theorem dX5_holds_45 : decode cX5_holds 45 = .ok (.getfield 47, 3) := by decide +kernel
theorem dX5_holds_48 : decode cX5_holds 48 = .ok (.iload_n 1, 1) := by decide +kernel
theorem dX5_holds_49 : decode cX5_holds 49 = .ok (.iaload, 1) := by decide +kernel
theorem dX5_holds_50 : decode cX5_holds 50 = .ok (.if_icmp .ne 7, 3) := by decide +kernel
theorem dX5_holds_53 : decode cX5_holds 53 = .ok (.iconst 1, 1) := by decide +kernel
theorem dX5_holds_54 : decode cX5_holds 54 = .ok (.goto 4, 3) := by decide +kernel
theorem dX5_holds_57 : decode cX5_holds 57 = .ok (.iconst 0, 1) := by decide +kernel
theorem dX5_holds_58 : decode cX5_holds 58 = .ok (.istore_n 2, 1) := by decide +kernel
theorem dX5_holds_59 : decode cX5_holds 59 = .ok (.iinc 3 1, 3) := by decide +kernel
theorem dX5_holds_62 : decode cX5_holds 62 = .ok (.goto (-53), 3) := by decide +kernel
theorem dX5_holds_65 : decode cX5_holds 65 = .ok (.iload_n 2, 1) := by decide +kernel
theorem dX5_holds_66 : decode cX5_holds 66 = .ok (.ireturn, 1) := by decide +kernel
set_option maxRecDepth 20000 in
theorem ggX5_proof_X5_holds : GoodIn wsX5_proof wsX5_holds := goodIn_r _ [7, 8, 9, 10, 11, 12, 13, 14, 15, 16, 17, 18, 19, 20, 21, 22, 23, 24, 25, 26, 27, 28, 29, 30, 31, 32, 33, 34, 35, 36, 37] (by decide +kernel) (by decide +kernel)
set_option maxRecDepth 20000 in
theorem gX5_proof_X5_holds : GoodIn wsX5_proof (wsV RX5 126 RX5 yX5_holds wsX5_holds) := goodIn_app (goodIn_of _ (by decide +kernel)) ggX5_proof_X5_holds
theorem dX5_proof_0 : decode cX5_proof 0 = .ok (.iconst 0, 1) := by decide +kernel
theorem dX5_proof_1 : decode cX5_proof 1 = .ok (.istore_n 2, 1) := by decide +kernel
theorem dX5_proof_2 : decode cX5_proof 2 = .ok (.iconst 0, 1) := by decide +kernel
theorem dX5_proof_3 : decode cX5_proof 3 = .ok (.istore_n 3, 1) := by decide +kernel
theorem dX5_proof_4 : decode cX5_proof 4 = .ok (.iconst 0, 1) := by decide +kernel
theorem dX5_proof_5 : decode cX5_proof 5 = .ok (.istore 4, 2) := by decide +kernel
theorem dX5_proof_7 : decode cX5_proof 7 = .ok (.aload_n 0, 1) := by decide +kernel
theorem dX5_proof_8 : decode cX5_proof 8 = .ok (.getfield 35, 3) := by decide +kernel
theorem dX5_proof_11 : decode cX5_proof 11 = .ok (.iload_n 1, 1) := by decide +kernel
theorem dX5_proof_12 : decode cX5_proof 12 = .ok (.iaload, 1) := by decide +kernel
theorem dX5_proof_13 : decode cX5_proof 13 = .ok (.iconst 1, 1) := by decide +kernel
theorem dX5_proof_14 : decode cX5_proof 14 = .ok (.isub, 1) := by decide +kernel
theorem dX5_proof_15 : decode cX5_proof 15 = .ok (.istore 5, 2) := by decide +kernel
theorem dX5_proof_17 : decode cX5_proof 17 = .ok (.iload 5, 2) := by decide +kernel
theorem dX5_proof_19 : decode cX5_proof 19 = .ok (.ifCond .lt 153, 3) := by decide +kernel
theorem dX5_proof_22 : decode cX5_proof 22 = .ok (.bipush 6, 2) := by decide +kernel
theorem dX5_proof_24 : decode cX5_proof 24 = .ok (.iload_n 1, 1) := by decide +kernel
theorem dX5_proof_25 : decode cX5_proof 25 = .ok (.imul, 1) := by decide +kernel
theorem dX5_proof_26 : decode cX5_proof 26 = .ok (.iload 5, 2) := by decide +kernel
theorem dX5_proof_28 : decode cX5_proof 28 = .ok (.iadd, 1) := by decide +kernel
theorem dX5_proof_29 : decode cX5_proof 29 = .ok (.istore 6, 2) := by decide +kernel
theorem dX5_proof_31 : decode cX5_proof 31 = .ok (.iload_n 3, 1) := by decide +kernel
theorem dX5_proof_32 : decode cX5_proof 32 = .ok (.iload 5, 2) := by decide +kernel
theorem dX5_proof_34 : decode cX5_proof 34 = .ok (.ishr, 1) := by decide +kernel
theorem dX5_proof_35 : decode cX5_proof 35 = .ok (.iconst 1, 1) := by decide +kernel
theorem dX5_proof_36 : decode cX5_proof 36 = .ok (.iand, 1) := by decide +kernel
theorem dX5_proof_37 : decode cX5_proof 37 = .ok (.iconst 1, 1) := by decide +kernel
theorem dX5_proof_38 : decode cX5_proof 38 = .ok (.if_icmp .ne 7, 3) := by decide +kernel
theorem dX5_proof_41 : decode cX5_proof 41 = .ok (.iconst 1, 1) := by decide +kernel
theorem dX5_proof_42 : decode cX5_proof 42 = .ok (.goto 4, 3) := by decide +kernel
theorem dX5_proof_45 : decode cX5_proof 45 = .ok (.iconst 0, 1) := by decide +kernel
theorem dX5_proof_46 : decode cX5_proof 46 = .ok (.istore 7, 2) := by decide +kernel
theorem dX5_proof_48 : decode cX5_proof 48 = .ok (.aload_n 0, 1) := by decide +kernel
theorem dX5_proof_49 : decode cX5_proof 49 = .ok (.iload 6, 2) := by decide +kernel
theorem dX5_proof_51 : decode cX5_proof 51 = .ok (.invokevirtual 126, 3) := by decide +kernel
theorem dX5_proof_54 : decode cX5_proof 54 = .ok (.ifCond .eq 22, 3) := by decide +kernel
theorem dX5_proof_57 : decode cX5_proof 57 = .ok (.iload 7, 2) := by decide +kernel
theorem dX5_proof_59 : decode cX5_proof 59 = .ok (.ifCond .eq 13, 3) := by decide +kernel
theorem dX5_proof_62 : decode cX5_proof 62 = .ok (.iload_n 2, 1) := by decide +kernel
theorem dX5_proof_63 : decode cX5_proof 63 = .ok (.iload 5, 2) := by decide +kernel
theorem dX5_proof_65 : decode cX5_proof 65 = .ok (.ishr, 1) := by decide +kernel
theorem dX5_proof_66 : decode cX5_proof 66 = .ok (.iconst 1, 1) := by decide +kernel
theorem dX5_proof_67 : decode cX5_proof 67 = .ok (.iand, 1) := by decide +kernel
theorem dX5_proof_68 : decode cX5_proof 68 = .ok (.iconst 1, 1) := by decide +kernel
theorem dX5_proof_69 : decode cX5_proof 69 = .ok (.if_icmp .ne 7, 3) := by decide +kernel
theorem dX5_proof_72 : decode cX5_proof 72 = .ok (.iconst 1, 1) := by decide +kernel
theorem dX5_proof_73 : decode cX5_proof 73 = .ok (.goto 4, 3) := by decide +kernel
theorem dX5_proof_76 : decode cX5_proof 76 = .ok (.iconst 0, 1) := by decide +kernel
theorem dX5_proof_77 : decode cX5_proof 77 = .ok (.istore 8, 2) := by decide +kernel
theorem dX5_proof_79 : decode cX5_proof 79 = .ok (.iload 5, 2) := by decide +kernel
theorem dX5_proof_81 : decode cX5_proof 81 = .ok (.iconst 1, 1) := by decide +kernel
theorem dX5_proof_82 : decode cX5_proof 82 = .ok (.isub, 1) := by decide +kernel
theorem dX5_proof_83 : decode cX5_proof 83 = .ok (.istore 9, 2) := by decide +kernel
theorem dX5_proof_85 : decode cX5_proof 85 = .ok (.iload 9, 2) := by decide +kernel
theorem dX5_proof_87 : decode cX5_proof 87 = .ok (.ifCond .lt 31, 3) := by decide +kernel
theorem dX5_proof_90 : decode cX5_proof 90 = .ok (.aload_n 0, 1) := by decide +kernel
theorem dX5_proof_91 : decode cX5_proof 91 = .ok (.getfield 38, 3) := by decide +kernel
theorem dX5_proof_94 : decode cX5_proof 94 = .ok (.bipush 6, 2) := by decide +kernel
theorem dX5_proof_96 : decode cX5_proof 96 = .ok (.iload_n 1, 1) := by decide +kernel
theorem dX5_proof_97 : decode cX5_proof 97 = .ok (.imul, 1) := by decide +kernel
theorem dX5_proof_98 : decode cX5_proof 98 = .ok (.iload 9, 2) := by decide +kernel
theorem dX5_proof_100 : decode cX5_proof 100 = .ok (.iadd, 1) := by decide +kernel
theorem dX5_proof_101 : decode cX5_proof 101 = .ok (.iaload, 1) := by decide +kernel
theorem dX5_proof_102 : decode cX5_proof 102 = .ok (.aload_n 0, 1) := by decide +kernel
theorem dX5_proof_103 : decode cX5_proof 103 = .ok (.getfield 38, 3) := by decide +kernel
theorem dX5_proof_106 : decode cX5_proof 106 = .ok (.iload 6, 2) := by decide +kernel
theorem dX5_proof_108 : decode cX5_proof 108 = .ok (.iaload, 1) := by decide +kernel
theorem dX5_proof_109 : decode cX5_proof 109 = .ok (.if_icmp .lt 9, 3) := by decide +kernel
theorem dX5_proof_112 : decode cX5_proof 112 = .ok (.iinc 9 (-1), 3) := by decide +kernel
theorem dX5_proof_115 : decode cX5_proof 115 = .ok (.goto (-30), 3) := by decide +kernel
theorem dX5_proof_118 : decode cX5_proof 118 = .ok (.iload 9, 2) := by decide +kernel
theorem dX5_proof_120 : decode cX5_proof 120 = .ok (.ifCond .lt 29, 3) := by decide +kernel
theorem dX5_proof_123 : decode cX5_proof 123 = .ok (.iload_n 3, 1) := by decide +kernel
theorem dX5_proof_124 : decode cX5_proof 124 = .ok (.iconst 1, 1) := by decide +kernel
theorem dX5_proof_125 : decode cX5_proof 125 = .ok (.iload 9, 2) := by decide +kernel
theorem dX5_proof_127 : decode cX5_proof 127 = .ok (.ishl, 1) := by decide +kernel
theorem dX5_proof_128 : decode cX5_proof 128 = .ok (.ior, 1) := by decide +kernel
theorem dX5_proof_129 : decode cX5_proof 129 = .ok (.istore_n 3, 1) := by decide +kernel
theorem dX5_proof_130 : decode cX5_proof 130 = .ok (.iload_n 2, 1) := by decide +kernel
theorem dX5_proof_131 : decode cX5_proof 131 = .ok (.iload 8, 2) := by decide +kernel
theorem dX5_proof_133 : decode cX5_proof 133 = .ok (.ifCond .eq 10, 3) := by decide +kernel
theorem dX5_proof_136 : decode cX5_proof 136 = .ok (.iconst 1, 1) := by decide +kernel
theorem dX5_proof_137 : decode cX5_proof 137 = .ok (.iload 9, 2) := by decide +kernel
theorem dX5_proof_139 : decode cX5_proof 139 = .ok (.ishl, 1) := by decide +kernel
theorem dX5_proof_140 : decode cX5_proof 140 = .ok (.goto 4, 3) := by decide +kernel
theorem dX5_proof_143 : decode cX5_proof 143 = .ok (.iconst 0, 1) := by decide +kernel
theorem dX5_proof_144 : decode cX5_proof 144 = .ok (.ior, 1) := by decide +kernel
theorem dX5_proof_145 : decode cX5_proof 145 = .ok (.istore_n 2, 1) := by decide +kernel
theorem dX5_proof_146 : decode cX5_proof 146 = .ok (.goto 20, 3) := by decide +kernel
theorem dX5_proof_149 : decode cX5_proof 149 = .ok (.iload 4, 2) := by decide +kernel
theorem dX5_proof_151 : decode cX5_proof 151 = .ok (.ifCond .ne 8, 3) := by decide +kernel
theorem dX5_proof_154 : decode cX5_proof 154 = .ok (.iload 8, 2) := by decide +kernel
theorem dX5_proof_156 : decode cX5_proof 156 = .ok (.ifCond .eq 7, 3) := by decide +kernel
theorem dX5_proof_159 : decode cX5_proof 159 = .ok (.iconst 1, 1) := by decide +kernel
theorem dX5_proof_160 : decode cX5_proof 160 = .ok (.goto 4, 3) := by decide +kernel
theorem dX5_proof_163 : decode cX5_proof 163 = .ok (.iconst 0, 1) := by decide +kernel
theorem dX5_proof_164 : decode cX5_proof 164 = .ok (.istore 4, 2) := by decide +kernel
theorem dX5_proof_166 : decode cX5_proof 166 = .ok (.iinc 5 (-1), 3) := by decide +kernel
theorem dX5_proof_169 : decode cX5_proof 169 = .ok (.goto (-152), 3) := by decide +kernel
theorem dX5_proof_172 : decode cX5_proof 172 = .ok (.iload 4, 2) := by decide +kernel
theorem dX5_proof_174 : decode cX5_proof 174 = .ok (.ireturn, 1) := by decide +kernel
set_option maxRecDepth 20000 in
theorem ggX5_proves_X5_isRule : GoodIn wsX5_proves wsX5_isRule := goodIn_r _ [5, 6, 7, 8, 4, 9, 31, 32, 33, 34, 35, 36, 37, 38, 39, 40, 41, 42, 43, 44, 45, 46, 47, 48, 49, 50, 51, 52, 53, 54] (by decide +kernel) (by decide +kernel)
set_option maxRecDepth 20000 in
theorem gX5_proves_X5_isRule : GoodIn wsX5_proves (wsV RX5 103 RX5 yX5_isRule wsX5_isRule) := goodIn_app (goodIn_of _ (by decide +kernel)) ggX5_proves_X5_isRule
set_option maxRecDepth 20000 in
theorem ggX5_proves_X5_asked : GoodIn wsX5_proves wsX5_asked := goodIn_r _ [13, 14, 31, 32, 33, 34, 35, 36, 37, 38, 39, 40, 41, 42, 43, 44, 45, 46, 47, 48, 49, 50, 51, 52, 53, 54] (by decide +kernel) (by decide +kernel)
set_option maxRecDepth 20000 in
theorem gX5_proves_X5_asked : GoodIn wsX5_proves (wsV RX5 97 RX5 yX5_asked wsX5_asked) := goodIn_app (goodIn_of _ (by decide +kernel)) ggX5_proves_X5_asked
set_option maxRecDepth 20000 in
theorem ggX5_proves_X5_proof : GoodIn wsX5_proves wsX5_proof := goodIn_r _ [18, 19, 20, 21, 22, 23, 4, 24, 25, 26, 27, 28, 29, 30, 31, 32, 33, 34, 35, 36, 37, 38, 39, 40, 41, 42, 43, 44, 45, 46, 47, 48, 49, 50, 51, 52, 53, 54] (by decide +kernel) (by decide +kernel)
set_option maxRecDepth 20000 in
theorem gX5_proves_X5_proof : GoodIn wsX5_proves (wsV RX5 129 RX5 yX5_proof wsX5_proof) := goodIn_app (goodIn_of _ (by decide +kernel)) ggX5_proves_X5_proof
theorem dX5_proves_0 : decode cX5_proves 0 = .ok (.aload_n 0, 1) := by decide +kernel
theorem dX5_proves_1 : decode cX5_proves 1 = .ok (.aload_n 0, 1) := by decide +kernel
theorem dX5_proves_2 : decode cX5_proves 2 = .ok (.iload_n 1, 1) := by decide +kernel
theorem dX5_proves_3 : decode cX5_proves 3 = .ok (.invokevirtual 103, 3) := by decide +kernel
theorem dX5_proves_6 : decode cX5_proves 6 = .ok (.invokevirtual 97, 3) := by decide +kernel
theorem dX5_proves_9 : decode cX5_proves 9 = .ok (.ifCond .eq 15, 3) := by decide +kernel
theorem dX5_proves_12 : decode cX5_proves 12 = .ok (.aload_n 0, 1) := by decide +kernel
theorem dX5_proves_13 : decode cX5_proves 13 = .ok (.iload_n 1, 1) := by decide +kernel
theorem dX5_proves_14 : decode cX5_proves 14 = .ok (.invokevirtual 129, 3) := by decide +kernel
theorem dX5_proves_17 : decode cX5_proves 17 = .ok (.ifCond .eq 7, 3) := by decide +kernel
theorem dX5_proves_20 : decode cX5_proves 20 = .ok (.iconst 1, 1) := by decide +kernel
theorem dX5_proves_21 : decode cX5_proves 21 = .ok (.goto 4, 3) := by decide +kernel
theorem dX5_proves_24 : decode cX5_proves 24 = .ok (.iconst 0, 1) := by decide +kernel
theorem dX5_proves_25 : decode cX5_proves 25 = .ok (.ireturn, 1) := by decide +kernel
set_option maxRecDepth 20000 in
theorem ggX5_first_X5_fit : GoodIn wsX5_first wsX5_fit := goodIn_r _ [10, 5, 11, 12, 13, 19, 20, 21, 22, 23, 24, 25, 26, 27, 28, 29, 30, 31, 32, 33, 34, 35, 36, 37, 38, 39, 40, 41, 42] (by decide +kernel) (by decide +kernel)
set_option maxRecDepth 20000 in
theorem gX5_first_X5_fit : GoodIn wsX5_first (wsV RX5 120 RX5 yX5_fit wsX5_fit) := goodIn_app (goodIn_of _ (by decide +kernel)) ggX5_first_X5_fit
