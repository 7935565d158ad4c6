theorem dX6_needPlayed_20 : decode cX6_needPlayed 20 = .ok (.return_, 1) := by decide +kernel
set_option maxRecDepth 20000 in
theorem ggX6_needNotPlayed_X4_isPlayed : GoodIn wsX6_needNotPlayed wsX4_isPlayed := goodIn_r _ [8, 9, 21, 22, 23, 24, 25, 26, 27] (by decide +kernel) (by decide +kernel)
set_option maxRecDepth 20000 in
theorem gX6_needNotPlayed_X4_isPlayed : GoodIn wsX6_needNotPlayed (wsV RX6 175 RX4 yX4_isPlayed wsX4_isPlayed) := goodIn_app (goodIn_of _ (by decide +kernel)) ggX6_needNotPlayed_X4_isPlayed
theorem dX6_needNotPlayed_0 : decode cX6_needNotPlayed 0 = .ok (.aload_n 0, 1) := by decide +kernel
theorem dX6_needNotPlayed_1 : decode cX6_needNotPlayed 1 = .ok (.getfield 42, 3) := by decide +kernel
theorem dX6_needNotPlayed_4 : decode cX6_needNotPlayed 4 = .ok (.invokevirtual 175, 3) := by decide +kernel
theorem dX6_needNotPlayed_7 : decode cX6_needNotPlayed 7 = .ok (.ifCond .eq 13, 3) := by decide +kernel
theorem dX6_needNotPlayed_10 : decode cX6_needNotPlayed 10 = .ok (.new 118, 3) := by decide +kernel
theorem dX6_needNotPlayed_13 : decode cX6_needNotPlayed 13 = .ok (.dup, 1) := by decide +kernel
theorem dX6_needNotPlayed_14 : decode cX6_needNotPlayed 14 = .ok (.ldc 252, 2) := by decide +kernel
theorem dX6_needNotPlayed_16 : decode cX6_needNotPlayed 16 = .ok (.invokespecial 122, 3) := by decide +kernel
theorem dX6_needNotPlayed_19 : decode cX6_needNotPlayed 19 = .ok (.athrow, 1) := by decide +kernel
theorem dX6_needNotPlayed_20 : decode cX6_needNotPlayed 20 = .ok (.return_, 1) := by decide +kernel
theorem dX7_init_0 : decode cX7_init 0 = .ok (.aload_n 0, 1) := by decide +kernel
theorem dX7_init_1 : decode cX7_init 1 = .ok (.invokespecial 1, 3) := by decide +kernel
theorem dX7_init_4 : decode cX7_init 4 = .ok (.aload_n 0, 1) := by decide +kernel
theorem dX7_init_5 : decode cX7_init 5 = .ok (.bipush 8, 2) := by decide +kernel
theorem dX7_init_7 : decode cX7_init 7 = .ok (.newarray .int, 2) := by decide +kernel
theorem dX7_init_9 : decode cX7_init 9 = .ok (.putfield 7, 3) := by decide +kernel
theorem dX7_init_12 : decode cX7_init 12 = .ok (.aload_n 0, 1) := by decide +kernel
theorem dX7_init_13 : decode cX7_init 13 = .ok (.bipush 8, 2) := by decide +kernel
theorem dX7_init_15 : decode cX7_init 15 = .ok (.newarray .int, 2) := by decide +kernel
theorem dX7_init_17 : decode cX7_init 17 = .ok (.putfield 13, 3) := by decide +kernel
theorem dX7_init_20 : decode cX7_init 20 = .ok (.aload_n 0, 1) := by decide +kernel
theorem dX7_init_21 : decode cX7_init 21 = .ok (.sipush 768, 3) := by decide +kernel
theorem dX7_init_24 : decode cX7_init 24 = .ok (.newarray .int, 2) := by decide +kernel
theorem dX7_init_26 : decode cX7_init 26 = .ok (.putfield 16, 3) := by decide +kernel
theorem dX7_init_29 : decode cX7_init 29 = .ok (.aload_n 0, 1) := by decide +kernel
theorem dX7_init_30 : decode cX7_init 30 = .ok (.sipush 192, 3) := by decide +kernel
theorem dX7_init_33 : decode cX7_init 33 = .ok (.newarray .int, 2) := by decide +kernel
theorem dX7_init_35 : decode cX7_init 35 = .ok (.putfield 19, 3) := by decide +kernel
theorem dX7_init_38 : decode cX7_init 38 = .ok (.aload_n 0, 1) := by decide +kernel
theorem dX7_init_39 : decode cX7_init 39 = .ok (.bipush 12, 2) := by decide +kernel
theorem dX7_init_41 : decode cX7_init 41 = .ok (.newarray .int, 2) := by decide +kernel
theorem dX7_init_43 : decode cX7_init 43 = .ok (.putfield 22, 3) := by decide +kernel
theorem dX7_init_46 : decode cX7_init 46 = .ok (.aload_n 0, 1) := by decide +kernel
theorem dX7_init_47 : decode cX7_init 47 = .ok (.bipush 12, 2) := by decide +kernel
theorem dX7_init_49 : decode cX7_init 49 = .ok (.newarray .int, 2) := by decide +kernel
theorem dX7_init_51 : decode cX7_init 51 = .ok (.putfield 25, 3) := by decide +kernel
theorem dX7_init_54 : decode cX7_init 54 = .ok (.aload_n 0, 1) := by decide +kernel
theorem dX7_init_55 : decode cX7_init 55 = .ok (.bipush 12, 2) := by decide +kernel
theorem dX7_init_57 : decode cX7_init 57 = .ok (.newarray .boolean, 2) := by decide +kernel
theorem dX7_init_59 : decode cX7_init 59 = .ok (.putfield 28, 3) := by decide +kernel
theorem dX7_init_62 : decode cX7_init 62 = .ok (.aload_n 0, 1) := by decide +kernel
theorem dX7_init_63 : decode cX7_init 63 = .ok (.bipush 96, 2) := by decide +kernel
theorem dX7_init_65 : decode cX7_init 65 = .ok (.newarray .int, 2) := by decide +kernel
theorem dX7_init_67 : decode cX7_init 67 = .ok (.putfield 32, 3) := by decide +kernel
theorem dX7_init_70 : decode cX7_init 70 = .ok (.aload_n 0, 1) := by decide +kernel
theorem dX7_init_71 : decode cX7_init 71 = .ok (.bipush 6, 2) := by decide +kernel
theorem dX7_init_73 : decode cX7_init 73 = .ok (.newarray .int, 2) := by decide +kernel
theorem dX7_init_75 : decode cX7_init 75 = .ok (.putfield 35, 3) := by decide +kernel
theorem dX7_init_78 : decode cX7_init 78 = .ok (.aload_n 0, 1) := by decide +kernel
theorem dX7_init_79 : decode cX7_init 79 = .ok (.bipush 48, 2) := by decide +kernel
theorem dX7_init_81 : decode cX7_init 81 = .ok (.newarray .int, 2) := by decide +kernel
theorem dX7_init_83 : decode cX7_init 83 = .ok (.putfield 38, 3) := by decide +kernel
theorem dX7_init_86 : decode cX7_init 86 = .ok (.aload_n 0, 1) := by decide +kernel
theorem dX7_init_87 : decode cX7_init 87 = .ok (.bipush 48, 2) := by decide +kernel
theorem dX7_init_89 : decode cX7_init 89 = .ok (.newarray .int, 2) := by decide +kernel
theorem dX7_init_91 : decode cX7_init 91 = .ok (.putfield 41, 3) := by decide +kernel
theorem dX7_init_94 : decode cX7_init 94 = .ok (.aload_n 0, 1) := by decide +kernel
theorem dX7_init_95 : decode cX7_init 95 = .ok (.bipush 48, 2) := by decide +kernel
theorem dX7_init_97 : decode cX7_init 97 = .ok (.newarray .int, 2) := by decide +kernel
theorem dX7_init_99 : decode cX7_init 99 = .ok (.putfield 44, 3) := by decide +kernel
theorem dX7_init_102 : decode cX7_init 102 = .ok (.aload_n 0, 1) := by decide +kernel
theorem dX7_init_103 : decode cX7_init 103 = .ok (.bipush 48, 2) := by decide +kernel
theorem dX7_init_105 : decode cX7_init 105 = .ok (.newarray .int, 2) := by decide +kernel
theorem dX7_init_107 : decode cX7_init 107 = .ok (.putfield 47, 3) := by decide +kernel
theorem dX7_init_110 : decode cX7_init 110 = .ok (.aload_n 0, 1) := by decide +kernel
theorem dX7_init_111 : decode cX7_init 111 = .ok (.bipush 8, 2) := by decide +kernel
theorem dX7_init_113 : decode cX7_init 113 = .ok (.newarray .int, 2) := by decide +kernel
theorem dX7_init_115 : decode cX7_init 115 = .ok (.putfield 50, 3) := by decide +kernel
theorem dX7_init_118 : decode cX7_init 118 = .ok (.aload_n 0, 1) := by decide +kernel
theorem dX7_init_119 : decode cX7_init 119 = .ok (.sipush 576, 3) := by decide +kernel
theorem dX7_init_122 : decode cX7_init 122 = .ok (.newarray .int, 2) := by decide +kernel
theorem dX7_init_124 : decode cX7_init 124 = .ok (.putfield 53, 3) := by decide +kernel
theorem dX7_init_127 : decode cX7_init 127 = .ok (.aload_n 0, 1) := by decide +kernel
theorem dX7_init_128 : decode cX7_init 128 = .ok (.sipush 576, 3) := by decide +kernel
theorem dX7_init_131 : decode cX7_init 131 = .ok (.newarray .boolean, 2) := by decide +kernel
theorem dX7_init_133 : decode cX7_init 133 = .ok (.putfield 56, 3) := by decide +kernel
theorem dX7_init_136 : decode cX7_init 136 = .ok (.aload_n 0, 1) := by decide +kernel
theorem dX7_init_137 : decode cX7_init 137 = .ok (.bipush 9, 2) := by decide +kernel
theorem dX7_init_139 : decode cX7_init 139 = .ok (.newarray .int, 2) := by decide +kernel
theorem dX7_init_141 : decode cX7_init 141 = .ok (.putfield 59, 3) := by decide +kernel
theorem dX7_init_144 : decode cX7_init 144 = .ok (.aload_n 0, 1) := by decide +kernel
theorem dX7_init_145 : decode cX7_init 145 = .ok (.bipush 8, 2) := by decide +kernel
theorem dX7_init_147 : decode cX7_init 147 = .ok (.newarray .int, 2) := by decide +kernel
theorem dX7_init_149 : decode cX7_init 149 = .ok (.putfield 62, 3) := by decide +kernel
theorem dX7_init_152 : decode cX7_init 152 = .ok (.aload_n 0, 1) := by decide +kernel
theorem dX7_init_153 : decode cX7_init 153 = .ok (.bipush 12, 2) := by decide +kernel
theorem dX7_init_155 : decode cX7_init 155 = .ok (.newarray .int, 2) := by decide +kernel
theorem dX7_init_157 : decode cX7_init 157 = .ok (.putfield 65, 3) := by decide +kernel
theorem dX7_init_160 : decode cX7_init 160 = .ok (.aload_n 0, 1) := by decide +kernel
theorem dX7_init_161 : decode cX7_init 161 = .ok (.bipush 8, 2) := by decide +kernel
theorem dX7_init_163 : decode cX7_init 163 = .ok (.newarray .int, 2) := by decide +kernel
theorem dX7_init_165 : decode cX7_init 165 = .ok (.putfield 68, 3) := by decide +kernel
theorem dX7_init_168 : decode cX7_init 168 = .ok (.aload_n 0, 1) := by decide +kernel
theorem dX7_init_169 : decode cX7_init 169 = .ok (.iconst (-1), 1) := by decide +kernel
theorem dX7_init_170 : decode cX7_init 170 = .ok (.putfield 71, 3) := by decide +kernel
theorem dX7_init_173 : decode cX7_init 173 = .ok (.iconst 0, 1) := by decide +kernel
theorem dX7_init_174 : decode cX7_init 174 = .ok (.istore_n 1, 1) := by decide +kernel
theorem dX7_init_175 : decode cX7_init 175 = .ok (.iload_n 1, 1) := by decide +kernel
theorem dX7_init_176 : decode cX7_init 176 = .ok (.bipush 8, 2) := by decide +kernel
theorem dX7_init_178 : decode cX7_init 178 = .ok (.if_icmp .ge 16, 3) := by decide +kernel
theorem dX7_init_181 : decode cX7_init 181 = .ok (.aload_n 0, 1) := by decide +kernel
theorem dX7_init_182 : decode cX7_init 182 = .ok (.getfield 7, 3) := by decide +kernel
theorem dX7_init_185 : decode cX7_init 185 = .ok (.iload_n 1, 1) := by decide +kernel
theorem dX7_init_186 : decode cX7_init 186 = .ok (.iconst 1, 1) := by decide +kernel
theorem dX7_init_187 : decode cX7_init 187 = .ok (.iastore, 1) := by decide +kernel
theorem dX7_init_188 : decode cX7_init 188 = .ok (.iinc 1 1, 3) := by decide +kernel
theorem dX7_init_191 : decode cX7_init 191 = .ok (.goto (-16), 3) := by decide +kernel
theorem dX7_init_194 : decode cX7_init 194 = .ok (.iconst 0, 1) := by decide +kernel
theorem dX7_init_195 : decode cX7_init 195 = .ok (.istore_n 1, 1) := by decide +kernel
theorem dX7_init_196 : decode cX7_init 196 = .ok (.iload_n 1, 1) := by decide +kernel
theorem dX7_init_197 : decode cX7_init 197 = .ok (.sipush 768, 3) := by decide +kernel
theorem dX7_init_200 : decode cX7_init 200 = .ok (.if_icmp .ge 16, 3) := by decide +kernel
theorem dX7_init_203 : decode cX7_init 203 = .ok (.aload_n 0, 1) := by decide +kernel
theorem dX7_init_204 : decode cX7_init 204 = .ok (.getfield 16, 3) := by decide +kernel
theorem dX7_init_207 : decode cX7_init 207 = .ok (.iload_n 1, 1) := by decide +kernel
theorem dX7_init_208 : decode cX7_init 208 = .ok (.iconst (-1), 1) := by decide +kernel
theorem dX7_init_209 : decode cX7_init 209 = .ok (.iastore, 1) := by decide +kernel
theorem dX7_init_210 : decode cX7_init 210 = .ok (.iinc 1 1, 3) := by decide +kernel
theorem dX7_init_213 : decode cX7_init 213 = .ok (.goto (-17), 3) := by decide +kernel
theorem dX7_init_216 : decode cX7_init 216 = .ok (.iconst 0, 1) := by decide +kernel
theorem dX7_init_217 : decode cX7_init 217 = .ok (.istore_n 1, 1) := by decide +kernel
theorem dX7_init_218 : decode cX7_init 218 = .ok (.iload_n 1, 1) := by decide +kernel
theorem dX7_init_219 : decode cX7_init 219 = .ok (.sipush 192, 3) := by decide +kernel
theorem dX7_init_222 : decode cX7_init 222 = .ok (.if_icmp .ge 16, 3) := by decide +kernel
theorem dX7_init_225 : decode cX7_init 225 = .ok (.aload_n 0, 1) := by decide +kernel
theorem dX7_init_226 : decode cX7_init 226 = .ok (.getfield 19, 3) := by decide +kernel
theorem dX7_init_229 : decode cX7_init 229 = .ok (.iload_n 1, 1) := by decide +kernel
theorem dX7_init_230 : decode cX7_init 230 = .ok (.iconst (-1), 1) := by decide +kernel
theorem dX7_init_231 : decode cX7_init 231 = .ok (.iastore, 1) := by decide +kernel
theorem dX7_init_232 : decode cX7_init 232 = .ok (.iinc 1 1, 3) := by decide +kernel
theorem dX7_init_235 : decode cX7_init 235 = .ok (.goto (-17), 3) := by decide +kernel
theorem dX7_init_238 : decode cX7_init 238 = .ok (.return_, 1) := by decide +kernel
theorem dX7_thrown_0 : decode cX7_thrown 0 = .ok (.aload_n 0, 1) := by decide +kernel
theorem dX7_thrown_1 : decode cX7_thrown 1 = .ok (.getfield 75, 3) := by decide +kernel
theorem dX7_thrown_4 : decode cX7_thrown 4 = .ok (.ireturn, 1) := by decide +kernel
theorem dX7_fails_0 : decode cX7_fails 0 = .ok (.aload_n 0, 1) := by decide +kernel
theorem dX7_fails_1 : decode cX7_fails 1 = .ok (.iload_n 1, 1) := by decide +kernel
theorem dX7_fails_2 : decode cX7_fails 2 = .ok (.putfield 75, 3) := by decide +kernel
theorem dX7_fails_5 : decode cX7_fails 5 = .ok (.iconst 0, 1) := by decide +kernel
theorem dX7_fails_6 : decode cX7_fails 6 = .ok (.ireturn, 1) := by decide +kernel
theorem dX7_in_0 : decode cX7_in 0 = .ok (.iload_n 0, 1) := by decide +kernel
theorem dX7_in_1 : decode cX7_in 1 = .ok (.iload_n 1, 1) := by decide +kernel
theorem dX7_in_2 : decode cX7_in 2 = .ok (.if_icmp .lt 12, 3) := by decide +kernel
theorem dX7_in_5 : decode cX7_in 5 = .ok (.iload_n 0, 1) := by decide +kernel
theorem dX7_in_6 : decode cX7_in 6 = .ok (.iload_n 2, 1) := by decide +kernel
theorem dX7_in_7 : decode cX7_in 7 = .ok (.if_icmp .gt 7, 3) := by decide +kernel
theorem dX7_in_10 : decode cX7_in 10 = .ok (.iconst 1, 1) := by decide +kernel
theorem dX7_in_11 : decode cX7_in 11 = .ok (.goto 4, 3) := by decide +kernel
theorem dX7_in_14 : decode cX7_in 14 = .ok (.iconst 0, 1) := by decide +kernel
theorem dX7_in_15 : decode cX7_in 15 = .ok (.ireturn, 1) := by decide +kernel
set_option maxRecDepth 20000 in
theorem ggX7_isSample_X7_in : GoodIn wsX7_isSample wsX7_in := goodIn_r _ [4] (by decide +kernel) (by decide +kernel)
set_option maxRecDepth 20000 in
theorem gX7_isSample_X7_in : GoodIn wsX7_isSample (va_wsS RX7 78 yX7_in wsX7_in) := goodIn_app (goodIn_of _ (by decide +kernel)) ggX7_isSample_X7_in
theorem dX7_isSample_0 : decode cX7_isSample 0 = .ok (.iload_n 0, 1) := by decide +kernel
theorem dX7_isSample_1 : decode cX7_isSample 1 = .ok (.iconst 0, 1) := by decide +kernel
theorem dX7_isSample_2 : decode cX7_isSample 2 = .ok (.bipush 7, 2) := by decide +kernel
theorem dX7_isSample_4 : decode cX7_isSample 4 = .ok (.invokestatic 78, 3) := by decide +kernel
theorem dX7_isSample_7 : decode cX7_isSample 7 = .ok (.ireturn, 1) := by decide +kernel
set_option maxRecDepth 20000 in
theorem ggX7_isPattern_X7_in : GoodIn wsX7_isPattern wsX7_in := goodIn_r _ [4] (by decide +kernel) (by decide +kernel)
set_option maxRecDepth 20000 in
theorem gX7_isPattern_X7_in : GoodIn wsX7_isPattern (va_wsS RX7 78 yX7_in wsX7_in) := goodIn_app (goodIn_of _ (by decide +kernel)) ggX7_isPattern_X7_in
theorem dX7_isPattern_0 : decode cX7_isPattern 0 = .ok (.iload_n 0, 1) := by decide +kernel
theorem dX7_isPattern_1 : decode cX7_isPattern 1 = .ok (.iconst 0, 1) := by decide +kernel
theorem dX7_isPattern_2 : decode cX7_isPattern 2 = .ok (.bipush 11, 2) := by decide +kernel
theorem dX7_isPattern_4 : decode cX7_isPattern 4 = .ok (.invokestatic 78, 3) := by decide +kernel
theorem dX7_isPattern_7 : decode cX7_isPattern 7 = .ok (.ireturn, 1) := by decide +kernel
set_option maxRecDepth 20000 in
theorem ggX7_isSong_X7_in : GoodIn wsX7_isSong wsX7_in := goodIn_r _ [4] (by decide +kernel) (by decide +kernel)
set_option maxRecDepth 20000 in
theorem gX7_isSong_X7_in : GoodIn wsX7_isSong (va_wsS RX7 78 yX7_in wsX7_in) := goodIn_app (goodIn_of _ (by decide +kernel)) ggX7_isSong_X7_in
theorem dX7_isSong_0 : decode cX7_isSong 0 = .ok (.iload_n 0, 1) := by decide +kernel
theorem dX7_isSong_1 : decode cX7_isSong 1 = .ok (.iconst 0, 1) := by decide +kernel
theorem dX7_isSong_2 : decode cX7_isSong 2 = .ok (.iconst 5, 1) := by decide +kernel
theorem dX7_isSong_3 : decode cX7_isSong 3 = .ok (.invokestatic 78, 3) := by decide +kernel
theorem dX7_isSong_6 : decode cX7_isSong 6 = .ok (.ireturn, 1) := by decide +kernel
set_option maxRecDepth 20000 in
theorem ggX7_setSize_X7_isSample : GoodIn wsX7_setSize wsX7_isSample := goodIn_r _ [7, 8, 9, 6, 10] (by decide +kernel) (by decide +kernel)
set_option maxRecDepth 20000 in
theorem gX7_setSize_X7_isSample : GoodIn wsX7_setSize (va_wsS RX7 82 yX7_isSample wsX7_isSample) := goodIn_app (goodIn_of _ (by decide +kernel)) ggX7_setSize_X7_isSample
set_option maxRecDepth 20000 in
theorem ggX7_setSize_X7_fails : GoodIn wsX7_setSize wsX7_fails := goodIn_r _ [14, 1, 15, 16, 17, 18, 19, 20, 21, 22, 23, 24, 25, 26, 27, 28, 29, 30, 31, 32, 33, 34, 35, 36, 37, 38, 39, 40, 41, 42, 43, 44, 45] (by decide +kernel) (by decide +kernel)
set_option maxRecDepth 20000 in
theorem gX7_setSize_X7_fails : GoodIn wsX7_setSize (wsV RX7 86 RX7 yX7_fails wsX7_fails) := goodIn_app (goodIn_of _ (by decide +kernel)) ggX7_setSize_X7_fails
set_option maxRecDepth 20000 in
theorem ggX7_setSize_X7_in : GoodIn wsX7_setSize wsX7_in := goodIn_r _ [10] (by decide +kernel) (by decide +kernel)
set_option maxRecDepth 20000 in
theorem gX7_setSize_X7_in : GoodIn wsX7_setSize (va_wsS RX7 78 yX7_in wsX7_in) := goodIn_app (goodIn_of _ (by decide +kernel)) ggX7_setSize_X7_in
theorem dX7_setSize_0 : decode cX7_setSize 0 = .ok (.aload_n 0, 1) := by decide +kernel
theorem dX7_setSize_1 : decode cX7_setSize 1 = .ok (.iconst 0, 1) := by decide +kernel
theorem dX7_setSize_2 : decode cX7_setSize 2 = .ok (.putfield 75, 3) := by decide +kernel
theorem dX7_setSize_5 : decode cX7_setSize 5 = .ok (.iload_n 1, 1) := by decide +kernel
theorem dX7_setSize_6 : decode cX7_setSize 6 = .ok (.invokestatic 82, 3) := by decide +kernel
theorem dX7_setSize_9 : decode cX7_setSize 9 = .ok (.ifCond .ne 9, 3) := by decide +kernel
theorem dX7_setSize_12 : decode cX7_setSize 12 = .ok (.aload_n 0, 1) := by decide +kernel
theorem dX7_setSize_13 : decode cX7_setSize 13 = .ok (.iconst 1, 1) := by decide +kernel
theorem dX7_setSize_14 : decode cX7_setSize 14 = .ok (.invokevirtual 86, 3) := by decide +kernel
theorem dX7_setSize_17 : decode cX7_setSize 17 = .ok (.ireturn, 1) := by decide +kernel
theorem dX7_setSize_18 : decode cX7_setSize 18 = .ok (.iload_n 2, 1) := by decide +kernel
theorem dX7_setSize_19 : decode cX7_setSize 19 = .ok (.iconst 1, 1) := by decide +kernel
theorem dX7_setSize_20 : decode cX7_setSize 20 = .ok (.bipush 6, 2) := by decide +kernel
theorem dX7_setSize_22 : decode cX7_setSize 22 = .ok (.invokestatic 78, 3) := by decide +kernel
theorem dX7_setSize_25 : decode cX7_setSize 25 = .ok (.ifCond .ne 9, 3) := by decide +kernel
theorem dX7_setSize_28 : decode cX7_setSize 28 = .ok (.aload_n 0, 1) := by decide +kernel
theorem dX7_setSize_29 : decode cX7_setSize 29 = .ok (.iconst 2, 1) := by decide +kernel
theorem dX7_setSize_30 : decode cX7_setSize 30 = .ok (.invokevirtual 86, 3) := by decide +kernel
theorem dX7_setSize_33 : decode cX7_setSize 33 = .ok (.ireturn, 1) := by decide +kernel
theorem dX7_setSize_34 : decode cX7_setSize 34 = .ok (.aload_n 0, 1) := by decide +kernel
theorem dX7_setSize_35 : decode cX7_setSize 35 = .ok (.getfield 90, 3) := by decide +kernel
theorem dX7_setSize_38 : decode cX7_setSize 38 = .ok (.ifCond .eq 9, 3) := by decide +kernel
theorem dX7_setSize_41 : decode cX7_setSize 41 = .ok (.aload_n 0, 1) := by decide +kernel
theorem dX7_setSize_42 : decode cX7_setSize 42 = .ok (.iconst 3, 1) := by decide +kernel
theorem dX7_setSize_43 : decode cX7_setSize 43 = .ok (.invokevirtual 86, 3) := by decide +kernel
theorem dX7_setSize_46 : decode cX7_setSize 46 = .ok (.ireturn, 1) := by decide +kernel
theorem dX7_setSize_47 : decode cX7_setSize 47 = .ok (.aload_n 0, 1) := by decide +kernel
theorem dX7_setSize_48 : decode cX7_setSize 48 = .ok (.getfield 7, 3) := by decide +kernel
theorem dX7_setSize_51 : decode cX7_setSize 51 = .ok (.iload_n 1, 1) := by decide +kernel
theorem dX7_setSize_52 : decode cX7_setSize 52 = .ok (.iaload, 1) := by decide +kernel
theorem dX7_setSize_53 : decode cX7_setSize 53 = .ok (.istore_n 3, 1) := by decide +kernel
theorem dX7_setSize_54 : decode cX7_setSize 54 = .ok (.aload_n 0, 1) := by decide +kernel
theorem dX7_setSize_55 : decode cX7_setSize 55 = .ok (.getfield 7, 3) := by decide +kernel
theorem dX7_setSize_58 : decode cX7_setSize 58 = .ok (.iload_n 1, 1) := by decide +kernel
theorem dX7_setSize_59 : decode cX7_setSize 59 = .ok (.iload_n 2, 1) := by decide +kernel
theorem dX7_setSize_60 : decode cX7_setSize 60 = .ok (.iastore, 1) := by decide +kernel
theorem dX7_setSize_61 : decode cX7_setSize 61 = .ok (.iload_n 3, 1) := by decide +kernel
theorem dX7_setSize_62 : decode cX7_setSize 62 = .ok (.ireturn, 1) := by decide +kernel
set_option maxRecDepth 20000 in
theorem ggX7_tune_X7_isSample : GoodIn wsX7_tune wsX7_isSample := goodIn_r _ [6, 7, 8, 5, 9] (by decide +kernel) (by decide +kernel)
set_option maxRecDepth 20000 in
theorem gX7_tune_X7_isSample : GoodIn wsX7_tune (va_wsS RX7 82 yX7_isSample wsX7_isSample) := goodIn_app (goodIn_of _ (by decide +kernel)) ggX7_tune_X7_isSample
set_option maxRecDepth 20000 in
theorem ggX7_tune_X7_fails : GoodIn wsX7_tune wsX7_fails := goodIn_r _ [13, 1, 14, 15, 16, 17, 18, 19, 20, 21, 22, 23, 24, 25, 26, 27, 28, 29, 30, 31, 32, 33, 34, 35, 36, 37, 38, 39, 40, 41, 42, 43, 44] (by decide +kernel) (by decide +kernel)
set_option maxRecDepth 20000 in
theorem gX7_tune_X7_fails : GoodIn wsX7_tune (wsV RX7 86 RX7 yX7_fails wsX7_fails) := goodIn_app (goodIn_of _ (by decide +kernel)) ggX7_tune_X7_fails
set_option maxRecDepth 20000 in
theorem ggX7_tune_X7_in : GoodIn wsX7_tune wsX7_in := goodIn_r _ [9] (by decide +kernel) (by decide +kernel)
set_option maxRecDepth 20000 in
theorem gX7_tune_X7_in : GoodIn wsX7_tune (va_wsS RX7 78 yX7_in wsX7_in) := goodIn_app (goodIn_of _ (by decide +kernel)) ggX7_tune_X7_in
theorem dX7_tune_0 : decode cX7_tune 0 = .ok (.aload_n 0, 1) := by decide +kernel
theorem dX7_tune_1 : decode cX7_tune 1 = .ok (.iconst 0, 1) := by decide +kernel
theorem dX7_tune_2 : decode cX7_tune 2 = .ok (.putfield 75, 3) := by decide +kernel
theorem dX7_tune_5 : decode cX7_tune 5 = .ok (.iload_n 1, 1) := by decide +kernel
theorem dX7_tune_6 : decode cX7_tune 6 = .ok (.invokestatic 82, 3) := by decide +kernel
theorem dX7_tune_9 : decode cX7_tune 9 = .ok (.ifCond .ne 9, 3) := by decide +kernel
theorem dX7_tune_12 : decode cX7_tune 12 = .ok (.aload_n 0, 1) := by decide +kernel
theorem dX7_tune_13 : decode cX7_tune 13 = .ok (.iconst 1, 1) := by decide +kernel
theorem dX7_tune_14 : decode cX7_tune 14 = .ok (.invokevirtual 86, 3) := by decide +kernel
theorem dX7_tune_17 : decode cX7_tune 17 = .ok (.ireturn, 1) := by decide +kernel
theorem dX7_tune_18 : decode cX7_tune 18 = .ok (.iload_n 2, 1) := by decide +kernel
theorem dX7_tune_19 : decode cX7_tune 19 = .ok (.bipush (-12), 2) := by decide +kernel
theorem dX7_tune_21 : decode cX7_tune 21 = .ok (.bipush 12, 2) := by decide +kernel
theorem dX7_tune_23 : decode cX7_tune 23 = .ok (.invokestatic 78, 3) := by decide +kernel
theorem dX7_tune_26 : decode cX7_tune 26 = .ok (.ifCond .ne 9, 3) := by decide +kernel
theorem dX7_tune_29 : decode cX7_tune 29 = .ok (.aload_n 0, 1) := by decide +kernel
theorem dX7_tune_30 : decode cX7_tune 30 = .ok (.iconst 2, 1) := by decide +kernel
theorem dX7_tune_31 : decode cX7_tune 31 = .ok (.invokevirtual 86, 3) := by decide +kernel
theorem dX7_tune_34 : decode cX7_tune 34 = .ok (.ireturn, 1) := by decide +kernel
theorem dX7_tune_35 : decode cX7_tune 35 = .ok (.aload_n 0, 1) := by decide +kernel
theorem dX7_tune_36 : decode cX7_tune 36 = .ok (.getfield 13, 3) := by decide +kernel
theorem dX7_tune_39 : decode cX7_tune 39 = .ok (.iload_n 1, 1) := by decide +kernel
theorem dX7_tune_40 : decode cX7_tune 40 = .ok (.iaload, 1) := by decide +kernel
theorem dX7_tune_41 : decode cX7_tune 41 = .ok (.istore_n 3, 1) := by decide +kernel
theorem dX7_tune_42 : decode cX7_tune 42 = .ok (.aload_n 0, 1) := by decide +kernel
theorem dX7_tune_43 : decode cX7_tune 43 = .ok (.getfield 13, 3) := by decide +kernel
theorem dX7_tune_46 : decode cX7_tune 46 = .ok (.iload_n 1, 1) := by decide +kernel
theorem dX7_tune_47 : decode cX7_tune 47 = .ok (.iload_n 2, 1) := by decide +kernel
theorem dX7_tune_48 : decode cX7_tune 48 = .ok (.iastore, 1) := by decide +kernel
theorem dX7_tune_49 : decode cX7_tune 49 = .ok (.iload_n 3, 1) := by decide +kernel
theorem dX7_tune_50 : decode cX7_tune 50 = .ok (.ireturn, 1) := by decide +kernel
set_option maxRecDepth 20000 in
theorem ggX7_setStep_X7_isPattern : GoodIn wsX7_setStep wsX7_isPattern := goodIn_r _ [7, 8, 9, 6, 10] (by decide +kernel) (by decide +kernel)
set_option maxRecDepth 20000 in
theorem gX7_setStep_X7_isPattern : GoodIn wsX7_setStep (va_wsS RX7 94 yX7_isPattern wsX7_isPattern) := goodIn_app (goodIn_of _ (by decide +kernel)) ggX7_setStep_X7_isPattern
set_option maxRecDepth 20000 in
theorem ggX7_setStep_X7_in : GoodIn wsX7_setStep wsX7_in := goodIn_r _ [10] (by decide +kernel) (by decide +kernel)
set_option maxRecDepth 20000 in
theorem gX7_setStep_X7_in : GoodIn wsX7_setStep (va_wsS RX7 78 yX7_in wsX7_in) := goodIn_app (goodIn_of _ (by decide +kernel)) ggX7_setStep_X7_in
set_option maxRecDepth 20000 in
theorem ggX7_setStep_X7_fails : GoodIn wsX7_setStep wsX7_fails := goodIn_r _ [14, 1, 15, 16, 17, 18, 19, 20, 21, 22, 23, 24, 25, 26, 27, 28, 29, 30, 31, 32, 33, 34, 35, 36, 37, 38, 39, 40, 41, 42, 43, 44, 45] (by decide +kernel) (by decide +kernel)
set_option maxRecDepth 20000 in
theorem gX7_setStep_X7_fails : GoodIn wsX7_setStep (wsV RX7 86 RX7 yX7_fails wsX7_fails) := goodIn_app (goodIn_of _ (by decide +kernel)) ggX7_setStep_X7_fails
theorem dX7_setStep_0 : decode cX7_setStep 0 = .ok (.aload_n 0, 1) := by decide +kernel
theorem dX7_setStep_1 : decode cX7_setStep 1 = .ok (.iconst 0, 1) := by decide +kernel
theorem dX7_setStep_2 : decode cX7_setStep 2 = .ok (.putfield 75, 3) := by decide +kernel
theorem dX7_setStep_5 : decode cX7_setStep 5 = .ok (.iload_n 1, 1) := by decide +kernel
theorem dX7_setStep_6 : decode cX7_setStep 6 = .ok (.invokestatic 94, 3) := by decide +kernel
theorem dX7_setStep_9 : decode cX7_setStep 9 = .ok (.ifCond .eq 33, 3) := by decide +kernel
theorem dX7_setStep_12 : decode cX7_setStep 12 = .ok (.iload_n 2, 1) := by decide +kernel
theorem dX7_setStep_13 : decode cX7_setStep 13 = .ok (.iconst 0, 1) := by decide +kernel
theorem dX7_setStep_14 : decode cX7_setStep 14 = .ok (.iconst 3, 1) := by decide +kernel
theorem dX7_setStep_15 : decode cX7_setStep 15 = .ok (.invokestatic 78, 3) := by decide +kernel
theorem dX7_setStep_18 : decode cX7_setStep 18 = .ok (.ifCond .eq 24, 3) := by decide +kernel
theorem dX7_setStep_21 : decode cX7_setStep 21 = .ok (.iload_n 3, 1) := by decide +kernel
theorem dX7_setStep_22 : decode cX7_setStep 22 = .ok (.iconst 0, 1) := by decide +kernel
theorem dX7_setStep_23 : decode cX7_setStep 23 = .ok (.bipush 15, 2) := by decide +kernel
theorem dX7_setStep_25 : decode cX7_setStep 25 = .ok (.invokestatic 78, 3) := by decide +kernel
theorem dX7_setStep_28 : decode cX7_setStep 28 = .ok (.ifCond .eq 14, 3) := by decide +kernel
theorem dX7_setStep_31 : decode cX7_setStep 31 = .ok (.iload 4, 2) := by decide +kernel
theorem dX7_setStep_33 : decode cX7_setStep 33 = .ok (.iconst (-1), 1) := by decide +kernel
theorem dX7_setStep_34 : decode cX7_setStep 34 = .ok (.bipush 7, 2) := by decide +kernel
theorem dX7_setStep_36 : decode cX7_setStep 36 = .ok (.invokestatic 78, 3) := by decide +kernel
theorem dX7_setStep_39 : decode cX7_setStep 39 = .ok (.ifCond .ne 9, 3) := by decide +kernel
theorem dX7_setStep_42 : decode cX7_setStep 42 = .ok (.aload_n 0, 1) := by decide +kernel
theorem dX7_setStep_43 : decode cX7_setStep 43 = .ok (.iconst 1, 1) := by decide +kernel
theorem dX7_setStep_44 : decode cX7_setStep 44 = .ok (.invokevirtual 86, 3) := by decide +kernel
theorem dX7_setStep_47 : decode cX7_setStep 47 = .ok (.ireturn, 1) := by decide +kernel
theorem dX7_setStep_48 : decode cX7_setStep 48 = .ok (.aload_n 0, 1) := by decide +kernel
theorem dX7_setStep_49 : decode cX7_setStep 49 = .ok (.getfield 90, 3) := by decide +kernel
theorem dX7_setStep_52 : decode cX7_setStep 52 = .ok (.ifCond .eq 9, 3) := by decide +kernel
theorem dX7_setStep_55 : decode cX7_setStep 55 = .ok (.aload_n 0, 1) := by decide +kernel
theorem dX7_setStep_56 : decode cX7_setStep 56 = .ok (.iconst 2, 1) := by decide +kernel
theorem dX7_setStep_57 : decode cX7_setStep 57 = .ok (.invokevirtual 86, 3) := by decide +kernel
theorem dX7_setStep_60 : decode cX7_setStep 60 = .ok (.ireturn, 1) := by decide +kernel
theorem dX7_setStep_61 : decode cX7_setStep 61 = .ok (.bipush 64, 2) := by decide +kernel
theorem dX7_setStep_63 : decode cX7_setStep 63 = .ok (.iload_n 1, 1) := by decide +kernel
theorem dX7_setStep_64 : decode cX7_setStep 64 = .ok (.imul, 1) := by decide +kernel
theorem dX7_setStep_65 : decode cX7_setStep 65 = .ok (.bipush 16, 2) := by decide +kernel
theorem dX7_setStep_67 : decode cX7_setStep 67 = .ok (.iload_n 2, 1) := by decide +kernel
theorem dX7_setStep_68 : decode cX7_setStep 68 = .ok (.imul, 1) := by decide +kernel
theorem dX7_setStep_69 : decode cX7_setStep 69 = .ok (.iadd, 1) := by decide +kernel
theorem dX7_setStep_70 : decode cX7_setStep 70 = .ok (.iload_n 3, 1) := by decide +kernel
theorem dX7_setStep_71 : decode cX7_setStep 71 = .ok (.iadd, 1) := by decide +kernel
theorem dX7_setStep_72 : decode cX7_setStep 72 = .ok (.istore 5, 2) := by decide +kernel
theorem dX7_setStep_74 : decode cX7_setStep 74 = .ok (.aload_n 0, 1) := by decide +kernel
theorem dX7_setStep_75 : decode cX7_setStep 75 = .ok (.getfield 16, 3) := by decide +kernel
theorem dX7_setStep_78 : decode cX7_setStep 78 = .ok (.iload 5, 2) := by decide +kernel
theorem dX7_setStep_80 : decode cX7_setStep 80 = .ok (.iaload, 1) := by decide +kernel
theorem dX7_setStep_81 : decode cX7_setStep 81 = .ok (.istore 6, 2) := by decide +kernel
theorem dX7_setStep_83 : decode cX7_setStep 83 = .ok (.aload_n 0, 1) := by decide +kernel
theorem dX7_setStep_84 : decode cX7_setStep 84 = .ok (.getfield 16, 3) := by decide +kernel
theorem dX7_setStep_87 : decode cX7_setStep 87 = .ok (.iload 5, 2) := by decide +kernel
theorem dX7_setStep_89 : decode cX7_setStep 89 = .ok (.iload 4, 2) := by decide +kernel
theorem dX7_setStep_91 : decode cX7_setStep 91 = .ok (.iastore, 1) := by decide +kernel
theorem dX7_setStep_92 : decode cX7_setStep 92 = .ok (.iload 6, 2) := by decide +kernel
theorem dX7_setStep_94 : decode cX7_setStep 94 = .ok (.ireturn, 1) := by decide +kernel
set_option maxRecDepth 20000 in
theorem ggX7_setFill_X7_isPattern : GoodIn wsX7_setFill wsX7_isPattern := goodIn_r _ [7, 8, 9, 6, 10] (by decide +kernel) (by decide +kernel)
set_option maxRecDepth 20000 in
theorem gX7_setFill_X7_isPattern : GoodIn wsX7_setFill (va_wsS RX7 94 yX7_isPattern wsX7_isPattern) := goodIn_app (goodIn_of _ (by decide +kernel)) ggX7_setFill_X7_isPattern
set_option maxRecDepth 20000 in
theorem ggX7_setFill_X7_in : GoodIn wsX7_setFill wsX7_in := goodIn_r _ [10] (by decide +kernel) (by decide +kernel)
set_option maxRecDepth 20000 in
theorem gX7_setFill_X7_in : GoodIn wsX7_setFill (va_wsS RX7 78 yX7_in wsX7_in) := goodIn_app (goodIn_of _ (by decide +kernel)) ggX7_setFill_X7_in
set_option maxRecDepth 20000 in
theorem ggX7_setFill_X7_fails : GoodIn wsX7_setFill wsX7_fails := goodIn_r _ [14, 1, 15, 16, 17, 18, 19, 20, 21, 22, 23, 24, 25, 26, 27, 28, 29, 30, 31, 32, 33, 34, 35, 36, 37, 38, 39, 40, 41, 42, 43, 44, 45] (by decide +kernel) (by decide +kernel)
set_option maxRecDepth 20000 in
theorem gX7_setFill_X7_fails : GoodIn wsX7_setFill (wsV RX7 86 RX7 yX7_fails wsX7_fails) := goodIn_app (goodIn_of _ (by decide +kernel)) ggX7_setFill_X7_fails
theorem dX7_setFill_0 : decode cX7_setFill 0 = .ok (.aload_n 0, 1) := by decide +kernel
theorem dX7_setFill_1 : decode cX7_setFill 1 = .ok (.iconst 0, 1) := by decide +kernel
theorem dX7_setFill_2 : decode cX7_setFill 2 = .ok (.putfield 75, 3) := by decide +kernel
theorem dX7_setFill_5 : decode cX7_setFill 5 = .ok (.iload_n 1, 1) := by decide +kernel
theorem dX7_setFill_6 : decode cX7_setFill 6 = .ok (.invokestatic 94, 3) := by decide +kernel
theorem dX7_setFill_9 : decode cX7_setFill 9 = .ok (.ifCond .eq 34, 3) := by decide +kernel
theorem dX7_setFill_12 : decode cX7_setFill 12 = .ok (.iload_n 2, 1) := by decide +kernel
theorem dX7_setFill_13 : decode cX7_setFill 13 = .ok (.iconst 0, 1) := by decide +kernel
theorem dX7_setFill_14 : decode cX7_setFill 14 = .ok (.iconst 3, 1) := by decide +kernel
theorem dX7_setFill_15 : decode cX7_setFill 15 = .ok (.invokestatic 78, 3) := by decide +kernel
theorem dX7_setFill_18 : decode cX7_setFill 18 = .ok (.ifCond .eq 25, 3) := by decide +kernel
theorem dX7_setFill_21 : decode cX7_setFill 21 = .ok (.iload_n 3, 1) := by decide +kernel
theorem dX7_setFill_22 : decode cX7_setFill 22 = .ok (.bipush 12, 2) := by decide +kernel
theorem dX7_setFill_24 : decode cX7_setFill 24 = .ok (.bipush 15, 2) := by decide +kernel
theorem dX7_setFill_26 : decode cX7_setFill 26 = .ok (.invokestatic 78, 3) := by decide +kernel
theorem dX7_setFill_29 : decode cX7_setFill 29 = .ok (.ifCond .eq 14, 3) := by decide +kernel
theorem dX7_setFill_32 : decode cX7_setFill 32 = .ok (.iload 4, 2) := by decide +kernel
theorem dX7_setFill_34 : decode cX7_setFill 34 = .ok (.iconst (-1), 1) := by decide +kernel
theorem dX7_setFill_35 : decode cX7_setFill 35 = .ok (.bipush 7, 2) := by decide +kernel
theorem dX7_setFill_37 : decode cX7_setFill 37 = .ok (.invokestatic 78, 3) := by decide +kernel
theorem dX7_setFill_40 : decode cX7_setFill 40 = .ok (.ifCond .ne 9, 3) := by decide +kernel
theorem dX7_setFill_43 : decode cX7_setFill 43 = .ok (.aload_n 0, 1) := by decide +kernel
theorem dX7_setFill_44 : decode cX7_setFill 44 = .ok (.iconst 1, 1) := by decide +kernel
theorem dX7_setFill_45 : decode cX7_setFill 45 = .ok (.invokevirtual 86, 3) := by decide +kernel
theorem dX7_setFill_48 : decode cX7_setFill 48 = .ok (.ireturn, 1) := by decide +kernel
theorem dX7_setFill_49 : decode cX7_setFill 49 = .ok (.aload_n 0, 1) := by decide +kernel
theorem dX7_setFill_50 : decode cX7_setFill 50 = .ok (.getfield 90, 3) := by decide +kernel
theorem dX7_setFill_53 : decode cX7_setFill 53 = .ok (.ifCond .eq 9, 3) := by decide +kernel
theorem dX7_setFill_56 : decode cX7_setFill 56 = .ok (.aload_n 0, 1) := by decide +kernel
theorem dX7_setFill_57 : decode cX7_setFill 57 = .ok (.iconst 2, 1) := by decide +kernel
theorem dX7_setFill_58 : decode cX7_setFill 58 = .ok (.invokevirtual 86, 3) := by decide +kernel
theorem dX7_setFill_61 : decode cX7_setFill 61 = .ok (.ireturn, 1) := by decide +kernel
theorem dX7_setFill_62 : decode cX7_setFill 62 = .ok (.bipush 16, 2) := by decide +kernel
theorem dX7_setFill_64 : decode cX7_setFill 64 = .ok (.iload_n 1, 1) := by decide +kernel
theorem dX7_setFill_65 : decode cX7_setFill 65 = .ok (.imul, 1) := by decide +kernel
theorem dX7_setFill_66 : decode cX7_setFill 66 = .ok (.iconst 4, 1) := by decide +kernel
theorem dX7_setFill_67 : decode cX7_setFill 67 = .ok (.iload_n 2, 1) := by decide +kernel
theorem dX7_setFill_68 : decode cX7_setFill 68 = .ok (.imul, 1) := by decide +kernel
theorem dX7_setFill_69 : decode cX7_setFill 69 = .ok (.iadd, 1) := by decide +kernel
theorem dX7_setFill_70 : decode cX7_setFill 70 = .ok (.iload_n 3, 1) := by decide +kernel
theorem dX7_setFill_71 : decode cX7_setFill 71 = .ok (.iadd, 1) := by decide +kernel
theorem dX7_setFill_72 : decode cX7_setFill 72 = .ok (.bipush 12, 2) := by decide +kernel
theorem dX7_setFill_74 : decode cX7_setFill 74 = .ok (.isub, 1) := by decide +kernel
theorem dX7_setFill_75 : decode cX7_setFill 75 = .ok (.istore 5, 2) := by decide +kernel
theorem dX7_setFill_77 : decode cX7_setFill 77 = .ok (.aload_n 0, 1) := by decide +kernel
theorem dX7_setFill_78 : decode cX7_setFill 78 = .ok (.getfield 19, 3) := by decide +kernel
theorem dX7_setFill_81 : decode cX7_setFill 81 = .ok (.iload 5, 2) := by decide +kernel
theorem dX7_setFill_83 : decode cX7_setFill 83 = .ok (.iaload, 1) := by decide +kernel
theorem dX7_setFill_84 : decode cX7_setFill 84 = .ok (.istore 6, 2) := by decide +kernel
theorem dX7_setFill_86 : decode cX7_setFill 86 = .ok (.aload_n 0, 1) := by decide +kernel
theorem dX7_setFill_87 : decode cX7_setFill 87 = .ok (.getfield 19, 3) := by decide +kernel
theorem dX7_setFill_90 : decode cX7_setFill 90 = .ok (.iload 5, 2) := by decide +kernel
theorem dX7_setFill_92 : decode cX7_setFill 92 = .ok (.iload 4, 2) := by decide +kernel
theorem dX7_setFill_94 : decode cX7_setFill 94 = .ok (.iastore, 1) := by decide +kernel
theorem dX7_setFill_95 : decode cX7_setFill 95 = .ok (.iload 6, 2) := by decide +kernel
theorem dX7_setFill_97 : decode cX7_setFill 97 = .ok (.ireturn, 1) := by decide +kernel
set_option maxRecDepth 20000 in
theorem ggX7_setFeel_X7_isPattern : GoodIn wsX7_setFeel wsX7_isPattern := goodIn_r _ [8, 9, 10, 7, 11] (by decide +kernel) (by decide +kernel)
set_option maxRecDepth 20000 in
theorem gX7_setFeel_X7_isPattern : GoodIn wsX7_setFeel (va_wsS RX7 94 yX7_isPattern wsX7_isPattern) := goodIn_app (goodIn_of _ (by decide +kernel)) ggX7_setFeel_X7_isPattern
set_option maxRecDepth 20000 in
theorem ggX7_setFeel_X7_fails : GoodIn wsX7_setFeel wsX7_fails := goodIn_r _ [15, 1, 16, 17, 18, 19, 20, 21, 22, 23, 24, 25, 26, 27, 28, 29, 30, 31, 32, 33, 34, 35, 36, 37, 38, 39, 40, 41, 42, 43, 44, 45, 46] (by decide +kernel) (by decide +kernel)
set_option maxRecDepth 20000 in
theorem gX7_setFeel_X7_fails : GoodIn wsX7_setFeel (wsV RX7 86 RX7 yX7_fails wsX7_fails) := goodIn_app (goodIn_of _ (by decide +kernel)) ggX7_setFeel_X7_fails
set_option maxRecDepth 20000 in
theorem ggX7_setFeel_X7_in : GoodIn wsX7_setFeel wsX7_in := goodIn_r _ [11] (by decide +kernel) (by decide +kernel)
set_option maxRecDepth 20000 in
theorem gX7_setFeel_X7_in : GoodIn wsX7_setFeel (va_wsS RX7 78 yX7_in wsX7_in) := goodIn_app (goodIn_of _ (by decide +kernel)) ggX7_setFeel_X7_in
theorem dX7_setFeel_0 : decode cX7_setFeel 0 = .ok (.aload_n 0, 1) := by decide +kernel
theorem dX7_setFeel_1 : decode cX7_setFeel 1 = .ok (.iconst 0, 1) := by decide +kernel
theorem dX7_setFeel_2 : decode cX7_setFeel 2 = .ok (.putfield 75, 3) := by decide +kernel
theorem dX7_setFeel_5 : decode cX7_setFeel 5 = .ok (.iload_n 1, 1) := by decide +kernel
theorem dX7_setFeel_6 : decode cX7_setFeel 6 = .ok (.invokestatic 94, 3) := by decide +kernel
theorem dX7_setFeel_9 : decode cX7_setFeel 9 = .ok (.ifCond .ne 9, 3) := by decide +kernel
theorem dX7_setFeel_12 : decode cX7_setFeel 12 = .ok (.aload_n 0, 1) := by decide +kernel
theorem dX7_setFeel_13 : decode cX7_setFeel 13 = .ok (.iconst 1, 1) := by decide +kernel
theorem dX7_setFeel_14 : decode cX7_setFeel 14 = .ok (.invokevirtual 86, 3) := by decide +kernel
theorem dX7_setFeel_17 : decode cX7_setFeel 17 = .ok (.ireturn, 1) := by decide +kernel
theorem dX7_setFeel_18 : decode cX7_setFeel 18 = .ok (.iload_n 2, 1) := by decide +kernel
theorem dX7_setFeel_19 : decode cX7_setFeel 19 = .ok (.iconst 0, 1) := by decide +kernel
theorem dX7_setFeel_20 : decode cX7_setFeel 20 = .ok (.bipush 6, 2) := by decide +kernel
theorem dX7_setFeel_22 : decode cX7_setFeel 22 = .ok (.invokestatic 78, 3) := by decide +kernel
theorem dX7_setFeel_25 : decode cX7_setFeel 25 = .ok (.ifCond .eq 17, 3) := by decide +kernel
theorem dX7_setFeel_28 : decode cX7_setFeel 28 = .ok (.iload_n 3, 1) := by decide +kernel
theorem dX7_setFeel_29 : decode cX7_setFeel 29 = .ok (.ifCond .eq 19, 3) := by decide +kernel
theorem dX7_setFeel_32 : decode cX7_setFeel 32 = .ok (.iload_n 3, 1) := by decide +kernel
theorem dX7_setFeel_33 : decode cX7_setFeel 33 = .ok (.iconst 2, 1) := by decide +kernel
theorem dX7_setFeel_34 : decode cX7_setFeel 34 = .ok (.bipush 8, 2) := by decide +kernel
theorem dX7_setFeel_36 : decode cX7_setFeel 36 = .ok (.invokestatic 78, 3) := by decide +kernel
theorem dX7_setFeel_39 : decode cX7_setFeel 39 = .ok (.ifCond .ne 9, 3) := by decide +kernel
theorem dX7_setFeel_42 : decode cX7_setFeel 42 = .ok (.aload_n 0, 1) := by decide +kernel
theorem dX7_setFeel_43 : decode cX7_setFeel 43 = .ok (.iconst 2, 1) := by decide +kernel
theorem dX7_setFeel_44 : decode cX7_setFeel 44 = .ok (.invokevirtual 86, 3) := by decide +kernel
theorem dX7_setFeel_47 : decode cX7_setFeel 47 = .ok (.ireturn, 1) := by decide +kernel
theorem dX7_setFeel_48 : decode cX7_setFeel 48 = .ok (.aload_n 0, 1) := by decide +kernel
theorem dX7_setFeel_49 : decode cX7_setFeel 49 = .ok (.getfield 90, 3) := by decide +kernel
theorem dX7_setFeel_52 : decode cX7_setFeel 52 = .ok (.ifCond .eq 9, 3) := by decide +kernel
theorem dX7_setFeel_55 : decode cX7_setFeel 55 = .ok (.aload_n 0, 1) := by decide +kernel
theorem dX7_setFeel_56 : decode cX7_setFeel 56 = .ok (.iconst 3, 1) := by decide +kernel
theorem dX7_setFeel_57 : decode cX7_setFeel 57 = .ok (.invokevirtual 86, 3) := by decide +kernel
theorem dX7_setFeel_60 : decode cX7_setFeel 60 = .ok (.ireturn, 1) := by decide +kernel
theorem dX7_setFeel_61 : decode cX7_setFeel 61 = .ok (.aload_n 0, 1) := by decide +kernel
theorem dX7_setFeel_62 : decode cX7_setFeel 62 = .ok (.getfield 22, 3) := by decide +kernel
theorem dX7_setFeel_65 : decode cX7_setFeel 65 = .ok (.iload_n 1, 1) := by decide +kernel
theorem dX7_setFeel_66 : decode cX7_setFeel 66 = .ok (.iaload, 1) := by decide +kernel
theorem dX7_setFeel_67 : decode cX7_setFeel 67 = .ok (.istore 4, 2) := by decide +kernel
theorem dX7_setFeel_69 : decode cX7_setFeel 69 = .ok (.aload_n 0, 1) := by decide +kernel
theorem dX7_setFeel_70 : decode cX7_setFeel 70 = .ok (.getfield 22, 3) := by decide +kernel
theorem dX7_setFeel_73 : decode cX7_setFeel 73 = .ok (.iload_n 1, 1) := by decide +kernel
theorem dX7_setFeel_74 : decode cX7_setFeel 74 = .ok (.iload_n 2, 1) := by decide +kernel
theorem dX7_setFeel_75 : decode cX7_setFeel 75 = .ok (.iastore, 1) := by decide +kernel
theorem dX7_setFeel_76 : decode cX7_setFeel 76 = .ok (.aload_n 0, 1) := by decide +kernel
theorem dX7_setFeel_77 : decode cX7_setFeel 77 = .ok (.getfield 25, 3) := by decide +kernel
theorem dX7_setFeel_80 : decode cX7_setFeel 80 = .ok (.iload_n 1, 1) := by decide +kernel
theorem dX7_setFeel_81 : decode cX7_setFeel 81 = .ok (.iload_n 3, 1) := by decide +kernel
theorem dX7_setFeel_82 : decode cX7_setFeel 82 = .ok (.iastore, 1) := by decide +kernel
theorem dX7_setFeel_83 : decode cX7_setFeel 83 = .ok (.iload 4, 2) := by decide +kernel
theorem dX7_setFeel_85 : decode cX7_setFeel 85 = .ok (.ireturn, 1) := by decide +kernel
set_option maxRecDepth 20000 in
theorem ggX7_freeze_X7_isPattern : GoodIn wsX7_freeze wsX7_isPattern := goodIn_r _ [8, 9, 10, 7, 11] (by decide +kernel) (by decide +kernel)
set_option maxRecDepth 20000 in
theorem gX7_freeze_X7_isPattern : GoodIn wsX7_freeze (va_wsS RX7 94 yX7_isPattern wsX7_isPattern) := goodIn_app (goodIn_of _ (by decide +kernel)) ggX7_freeze_X7_isPattern
theorem dX7_freeze_0 : decode cX7_freeze 0 = .ok (.aload_n 0, 1) := by decide +kernel
theorem dX7_freeze_1 : decode cX7_freeze 1 = .ok (.iload_n 1, 1) := by decide +kernel
theorem dX7_freeze_2 : decode cX7_freeze 2 = .ok (.invokestatic 94, 3) := by decide +kernel
theorem dX7_freeze_5 : decode cX7_freeze 5 = .ok (.ifCond .eq 7, 3) := by decide +kernel
theorem dX7_freeze_8 : decode cX7_freeze 8 = .ok (.iconst 0, 1) := by decide +kernel
theorem dX7_freeze_9 : decode cX7_freeze 9 = .ok (.goto 4, 3) := by decide +kernel
theorem dX7_freeze_12 : decode cX7_freeze 12 = .ok (.iconst 1, 1) := by decide +kernel
theorem dX7_freeze_13 : decode cX7_freeze 13 = .ok (.putfield 75, 3) := by decide +kernel
theorem dX7_freeze_16 : decode cX7_freeze 16 = .ok (.aload_n 0, 1) := by decide +kernel
theorem dX7_freeze_17 : decode cX7_freeze 17 = .ok (.getfield 75, 3) := by decide +kernel
theorem dX7_freeze_20 : decode cX7_freeze 20 = .ok (.ifCond .le 5, 3) := by decide +kernel
theorem dX7_freeze_23 : decode cX7_freeze 23 = .ok (.iconst 0, 1) := by decide +kernel
theorem dX7_freeze_24 : decode cX7_freeze 24 = .ok (.ireturn, 1) := by decide +kernel
theorem dX7_freeze_25 : decode cX7_freeze 25 = .ok (.aload_n 0, 1) := by decide +kernel
theorem dX7_freeze_26 : decode cX7_freeze 26 = .ok (.getfield 28, 3) := by decide +kernel
theorem dX7_freeze_29 : decode cX7_freeze 29 = .ok (.iload_n 1, 1) := by decide +kernel
theorem dX7_freeze_30 : decode cX7_freeze 30 = .ok (.baload, 1) := by decide +kernel
theorem dX7_freeze_31 : decode cX7_freeze 31 = .ok (.istore_n 3, 1) := by decide +kernel
theorem dX7_freeze_32 : decode cX7_freeze 32 = .ok (.iconst 0, 1) := by decide +kernel
theorem dX7_freeze_33 : decode cX7_freeze 33 = .ok (.istore 4, 2) := by decide +kernel
theorem dX7_freeze_35 : decode cX7_freeze 35 = .ok (.iload 4, 2) := by decide +kernel
theorem dX7_freeze_37 : decode cX7_freeze 37 = .ok (.bipush 8, 2) := by decide +kernel
theorem dX7_freeze_39 : decode cX7_freeze 39 = .ok (.if_icmp .ge 36, 3) := by decide +kernel
theorem dX7_freeze_42 : decode cX7_freeze 42 = .ok (.iload_n 2, 1) := by decide +kernel
theorem dX7_freeze_43 : decode cX7_freeze 43 = .ok (.ifCond .eq 32, 3) := by decide +kernel
theorem dX7_freeze_46 : decode cX7_freeze 46 = .ok (.iload_n 3, 1) := by decide +kernel
theorem dX7_freeze_47 : decode cX7_freeze 47 = .ok (.ifCond .ne 28, 3) := by decide +kernel
theorem dX7_freeze_50 : decode cX7_freeze 50 = .ok (.aload_n 0, 1) := by decide +kernel
theorem dX7_freeze_51 : decode cX7_freeze 51 = .ok (.getfield 32, 3) := by decide +kernel
theorem dX7_freeze_54 : decode cX7_freeze 54 = .ok (.bipush 8, 2) := by decide +kernel
theorem dX7_freeze_56 : decode cX7_freeze 56 = .ok (.iload_n 1, 1) := by decide +kernel
theorem dX7_freeze_57 : decode cX7_freeze 57 = .ok (.imul, 1) := by decide +kernel
theorem dX7_freeze_58 : decode cX7_freeze 58 = .ok (.iload 4, 2) := by decide +kernel
theorem dX7_freeze_60 : decode cX7_freeze 60 = .ok (.iadd, 1) := by decide +kernel
theorem dX7_freeze_61 : decode cX7_freeze 61 = .ok (.aload_n 0, 1) := by decide +kernel
theorem dX7_freeze_62 : decode cX7_freeze 62 = .ok (.getfield 13, 3) := by decide +kernel
theorem dX7_freeze_65 : decode cX7_freeze 65 = .ok (.iload 4, 2) := by decide +kernel
theorem dX7_freeze_67 : decode cX7_freeze 67 = .ok (.iaload, 1) := by decide +kernel
theorem dX7_freeze_68 : decode cX7_freeze 68 = .ok (.iastore, 1) := by decide +kernel
theorem dX7_freeze_69 : decode cX7_freeze 69 = .ok (.iinc 4 1, 3) := by decide +kernel
theorem dX7_freeze_72 : decode cX7_freeze 72 = .ok (.goto (-37), 3) := by decide +kernel
theorem dX7_freeze_75 : decode cX7_freeze 75 = .ok (.aload_n 0, 1) := by decide +kernel
theorem dX7_freeze_76 : decode cX7_freeze 76 = .ok (.getfield 28, 3) := by decide +kernel
theorem dX7_freeze_79 : decode cX7_freeze 79 = .ok (.iload_n 1, 1) := by decide +kernel
theorem dX7_freeze_80 : decode cX7_freeze 80 = .ok (.iload_n 2, 1) := by decide +kernel
theorem dX7_freeze_81 : decode cX7_freeze 81 = .ok (.bastore, 1) := by decide +kernel
theorem dX7_freeze_82 : decode cX7_freeze 82 = .ok (.iload_n 3, 1) := by decide +kernel
theorem dX7_freeze_83 : decode cX7_freeze 83 = .ok (.ireturn, 1) := by decide +kernel
set_option maxRecDepth 20000 in
theorem ggX7_addEntry_X7_isSong : GoodIn wsX7_addEntry wsX7_isSong := goodIn_r _ [10, 11, 12, 9, 13] (by decide +kernel) (by decide +kernel)
set_option maxRecDepth 20000 in
theorem gX7_addEntry_X7_isSong : GoodIn wsX7_addEntry (va_wsS RX7 97 yX7_isSong wsX7_isSong) := goodIn_app (goodIn_of _ (by decide +kernel)) ggX7_addEntry_X7_isSong
set_option maxRecDepth 20000 in
theorem ggX7_addEntry_X7_isPattern : GoodIn wsX7_addEntry wsX7_isPattern := goodIn_r _ [16, 11, 12, 9, 13] (by decide +kernel) (by decide +kernel)
set_option maxRecDepth 20000 in
theorem gX7_addEntry_X7_isPattern : GoodIn wsX7_addEntry (va_wsS RX7 94 yX7_isPattern wsX7_isPattern) := goodIn_app (goodIn_of _ (by decide +kernel)) ggX7_addEntry_X7_isPattern
set_option maxRecDepth 20000 in
theorem ggX7_addEntry_X7_fails : GoodIn wsX7_addEntry wsX7_fails := goodIn_r _ [20, 1, 21, 22, 23, 24, 25, 26, 27, 28, 29, 30, 31, 32, 33, 34, 35, 36, 37, 38, 39, 40, 41, 42, 43, 44, 45, 46, 47, 48, 49, 50, 51] (by decide +kernel) (by decide +kernel)
set_option maxRecDepth 20000 in
theorem gX7_addEntry_X7_fails : GoodIn wsX7_addEntry (wsV RX7 86 RX7 yX7_fails wsX7_fails) := goodIn_app (goodIn_of _ (by decide +kernel)) ggX7_addEntry_X7_fails
set_option maxRecDepth 20000 in
theorem ggX7_addEntry_X7_in : GoodIn wsX7_addEntry wsX7_in := goodIn_r _ [13] (by decide +kernel) (by decide +kernel)
set_option maxRecDepth 20000 in
theorem gX7_addEntry_X7_in : GoodIn wsX7_addEntry (va_wsS RX7 78 yX7_in wsX7_in) := goodIn_app (goodIn_of _ (by decide +kernel)) ggX7_addEntry_X7_in
theorem dX7_addEntry_0 : decode cX7_addEntry 0 = .ok (.aload_n 0, 1) := by decide +kernel
theorem dX7_addEntry_1 : decode cX7_addEntry 1 = .ok (.iconst 0, 1) := by decide +kernel
theorem dX7_addEntry_2 : decode cX7_addEntry 2 = .ok (.putfield 75, 3) := by decide +kernel
theorem dX7_addEntry_5 : decode cX7_addEntry 5 = .ok (.iload_n 1, 1) := by decide +kernel
theorem dX7_addEntry_6 : decode cX7_addEntry 6 = .ok (.invokestatic 97, 3) := by decide +kernel
theorem dX7_addEntry_9 : decode cX7_addEntry 9 = .ok (.ifCond .eq 10, 3) := by decide +kernel
theorem dX7_addEntry_12 : decode cX7_addEntry 12 = .ok (.iload_n 2, 1) := by decide +kernel
theorem dX7_addEntry_13 : decode cX7_addEntry 13 = .ok (.invokestatic 94, 3) := by decide +kernel
theorem dX7_addEntry_16 : decode cX7_addEntry 16 = .ok (.ifCond .ne 9, 3) := by decide +kernel
theorem dX7_addEntry_19 : decode cX7_addEntry 19 = .ok (.aload_n 0, 1) := by decide +kernel
theorem dX7_addEntry_20 : decode cX7_addEntry 20 = .ok (.iconst 1, 1) := by decide +kernel
theorem dX7_addEntry_21 : decode cX7_addEntry 21 = .ok (.invokevirtual 86, 3) := by decide +kernel
theorem dX7_addEntry_24 : decode cX7_addEntry 24 = .ok (.ireturn, 1) := by decide +kernel
theorem dX7_addEntry_25 : decode cX7_addEntry 25 = .ok (.iload_n 3, 1) := by decide +kernel
theorem dX7_addEntry_26 : decode cX7_addEntry 26 = .ok (.iconst 1, 1) := by decide +kernel
theorem dX7_addEntry_27 : decode cX7_addEntry 27 = .ok (.iconst 4, 1) := by decide +kernel
theorem dX7_addEntry_28 : decode cX7_addEntry 28 = .ok (.invokestatic 78, 3) := by decide +kernel
theorem dX7_addEntry_31 : decode cX7_addEntry 31 = .ok (.ifCond .ne 9, 3) := by decide +kernel
theorem dX7_addEntry_34 : decode cX7_addEntry 34 = .ok (.aload_n 0, 1) := by decide +kernel
theorem dX7_addEntry_35 : decode cX7_addEntry 35 = .ok (.iconst 2, 1) := by decide +kernel
theorem dX7_addEntry_36 : decode cX7_addEntry 36 = .ok (.invokevirtual 86, 3) := by decide +kernel
theorem dX7_addEntry_39 : decode cX7_addEntry 39 = .ok (.ireturn, 1) := by decide +kernel
theorem dX7_addEntry_40 : decode cX7_addEntry 40 = .ok (.aload_n 0, 1) := by decide +kernel
theorem dX7_addEntry_41 : decode cX7_addEntry 41 = .ok (.getfield 35, 3) := by decide +kernel
theorem dX7_addEntry_44 : decode cX7_addEntry 44 = .ok (.iload_n 1, 1) := by decide +kernel
theorem dX7_addEntry_45 : decode cX7_addEntry 45 = .ok (.iaload, 1) := by decide +kernel
theorem dX7_addEntry_46 : decode cX7_addEntry 46 = .ok (.bipush 8, 2) := by decide +kernel
theorem dX7_addEntry_48 : decode cX7_addEntry 48 = .ok (.if_icmp .eq 10, 3) := by decide +kernel
theorem dX7_addEntry_51 : decode cX7_addEntry 51 = .ok (.aload_n 0, 1) := by decide +kernel
theorem dX7_addEntry_52 : decode cX7_addEntry 52 = .ok (.getfield 90, 3) := by decide +kernel
theorem dX7_addEntry_55 : decode cX7_addEntry 55 = .ok (.ifCond .eq 9, 3) := by decide +kernel
theorem dX7_addEntry_58 : decode cX7_addEntry 58 = .ok (.aload_n 0, 1) := by decide +kernel
theorem dX7_addEntry_59 : decode cX7_addEntry 59 = .ok (.iconst 3, 1) := by decide +kernel
theorem dX7_addEntry_60 : decode cX7_addEntry 60 = .ok (.invokevirtual 86, 3) := by decide +kernel
theorem dX7_addEntry_63 : decode cX7_addEntry 63 = .ok (.ireturn, 1) := by decide +kernel
theorem dX7_addEntry_64 : decode cX7_addEntry 64 = .ok (.bipush 8, 2) := by decide +kernel
theorem dX7_addEntry_66 : decode cX7_addEntry 66 = .ok (.iload_n 1, 1) := by decide +kernel
theorem dX7_addEntry_67 : decode cX7_addEntry 67 = .ok (.imul, 1) := by decide +kernel
theorem dX7_addEntry_68 : decode cX7_addEntry 68 = .ok (.aload_n 0, 1) := by decide +kernel
theorem dX7_addEntry_69 : decode cX7_addEntry 69 = .ok (.getfield 35, 3) := by decide +kernel
theorem dX7_addEntry_72 : decode cX7_addEntry 72 = .ok (.iload_n 1, 1) := by decide +kernel
theorem dX7_addEntry_73 : decode cX7_addEntry 73 = .ok (.iaload, 1) := by decide +kernel
theorem dX7_addEntry_74 : decode cX7_addEntry 74 = .ok (.iadd, 1) := by decide +kernel
theorem dX7_addEntry_75 : decode cX7_addEntry 75 = .ok (.istore 4, 2) := by decide +kernel
theorem dX7_addEntry_77 : decode cX7_addEntry 77 = .ok (.aload_n 0, 1) := by decide +kernel
theorem dX7_addEntry_78 : decode cX7_addEntry 78 = .ok (.getfield 38, 3) := by decide +kernel
theorem dX7_addEntry_81 : decode cX7_addEntry 81 = .ok (.iload 4, 2) := by decide +kernel
theorem dX7_addEntry_83 : decode cX7_addEntry 83 = .ok (.iload_n 2, 1) := by decide +kernel
theorem dX7_addEntry_84 : decode cX7_addEntry 84 = .ok (.iastore, 1) := by decide +kernel
theorem dX7_addEntry_85 : decode cX7_addEntry 85 = .ok (.aload_n 0, 1) := by decide +kernel
theorem dX7_addEntry_86 : decode cX7_addEntry 86 = .ok (.getfield 41, 3) := by decide +kernel
theorem dX7_addEntry_89 : decode cX7_addEntry 89 = .ok (.iload 4, 2) := by decide +kernel
theorem dX7_addEntry_91 : decode cX7_addEntry 91 = .ok (.iload_n 3, 1) := by decide +kernel
theorem dX7_addEntry_92 : decode cX7_addEntry 92 = .ok (.iastore, 1) := by decide +kernel
theorem dX7_addEntry_93 : decode cX7_addEntry 93 = .ok (.aload_n 0, 1) := by decide +kernel
theorem dX7_addEntry_94 : decode cX7_addEntry 94 = .ok (.getfield 47, 3) := by decide +kernel
theorem dX7_addEntry_97 : decode cX7_addEntry 97 = .ok (.iload 4, 2) := by decide +kernel
theorem dX7_addEntry_99 : decode cX7_addEntry 99 = .ok (.iconst 0, 1) := by decide +kernel
theorem dX7_addEntry_100 : decode cX7_addEntry 100 = .ok (.iastore, 1) := by decide +kernel
theorem dX7_addEntry_101 : decode cX7_addEntry 101 = .ok (.aload_n 0, 1) := by decide +kernel
theorem dX7_addEntry_102 : decode cX7_addEntry 102 = .ok (.getfield 35, 3) := by decide +kernel
theorem dX7_addEntry_105 : decode cX7_addEntry 105 = .ok (.iload_n 1, 1) := by decide +kernel
theorem dX7_addEntry_106 : decode cX7_addEntry 106 = .ok (.dup2, 1) := by decide +kernel
theorem dX7_addEntry_107 : decode cX7_addEntry 107 = .ok (.iaload, 1) := by decide +kernel
theorem dX7_addEntry_108 : decode cX7_addEntry 108 = .ok (.iconst 1, 1) := by decide +kernel
theorem dX7_addEntry_109 : decode cX7_addEntry 109 = .ok (.iadd, 1) := by decide +kernel
theorem dX7_addEntry_110 : decode cX7_addEntry 110 = .ok (.iastore, 1) := by decide +kernel
theorem dX7_addEntry_111 : decode cX7_addEntry 111 = .ok (.aload_n 0, 1) := by decide +kernel
theorem dX7_addEntry_112 : decode cX7_addEntry 112 = .ok (.getfield 35, 3) := by decide +kernel
theorem dX7_addEntry_115 : decode cX7_addEntry 115 = .ok (.iload_n 1, 1) := by decide +kernel
theorem dX7_addEntry_116 : decode cX7_addEntry 116 = .ok (.iaload, 1) := by decide +kernel
theorem dX7_addEntry_117 : decode cX7_addEntry 117 = .ok (.iconst 1, 1) := by decide +kernel
theorem dX7_addEntry_118 : decode cX7_addEntry 118 = .ok (.isub, 1) := by decide +kernel
theorem dX7_addEntry_119 : decode cX7_addEntry 119 = .ok (.ireturn, 1) := by decide +kernel
theorem dX7_lays_0 : decode cX7_lays 0 = .ok (.iconst 0, 1) := by decide +kernel
theorem dX7_lays_1 : decode cX7_lays 1 = .ok (.istore_n 3, 1) := by decide +kernel
theorem dX7_lays_2 : decode cX7_lays 2 = .ok (.iload_n 3, 1) := by decide +kernel
theorem dX7_lays_3 : decode cX7_lays 3 = .ok (.bipush 8, 2) := by decide +kernel
theorem dX7_lays_5 : decode cX7_lays 5 = .ok (.if_icmp .ge 16, 3) := by decide +kernel
theorem dX7_lays_8 : decode cX7_lays 8 = .ok (.aload_n 0, 1) := by decide +kernel
theorem dX7_lays_9 : decode cX7_lays 9 = .ok (.getfield 62, 3) := by decide +kernel
theorem dX7_lays_12 : decode cX7_lays 12 = .ok (.iload_n 3, 1) := by decide +kernel
theorem dX7_lays_13 : decode cX7_lays 13 = .ok (.iconst 0, 1) := by decide +kernel
theorem dX7_lays_14 : decode cX7_lays 14 = .ok (.iastore, 1) := by decide +kernel
theorem dX7_lays_15 : decode cX7_lays 15 = .ok (.iinc 3 1, 3) := by decide +kernel
theorem dX7_lays_18 : decode cX7_lays 18 = .ok (.goto (-16), 3) := by decide +kernel
theorem dX7_lays_21 : decode cX7_lays 21 = .ok (.iconst 0, 1) := by decide +kernel
theorem dX7_lays_22 : decode cX7_lays 22 = .ok (.istore_n 3, 1) := by decide +kernel
theorem dX7_lays_23 : decode cX7_lays 23 = .ok (.iload_n 3, 1) := by decide +kernel
theorem dX7_lays_24 : decode cX7_lays 24 = .ok (.bipush 12, 2) := by decide +kernel
theorem dX7_lays_26 : decode cX7_lays 26 = .ok (.if_icmp .ge 16, 3) := by decide +kernel
theorem dX7_lays_29 : decode cX7_lays 29 = .ok (.aload_n 0, 1) := by decide +kernel
theorem dX7_lays_30 : decode cX7_lays 30 = .ok (.getfield 65, 3) := by decide +kernel
theorem dX7_lays_33 : decode cX7_lays 33 = .ok (.iload_n 3, 1) := by decide +kernel
theorem dX7_lays_34 : decode cX7_lays 34 = .ok (.iconst 0, 1) := by decide +kernel
theorem dX7_lays_35 : decode cX7_lays 35 = .ok (.iastore, 1) := by decide +kernel
theorem dX7_lays_36 : decode cX7_lays 36 = .ok (.iinc 3 1, 3) := by decide +kernel
theorem dX7_lays_39 : decode cX7_lays 39 = .ok (.goto (-16), 3) := by decide +kernel
theorem dX7_lays_42 : decode cX7_lays 42 = .ok (.iconst 0, 1) := by decide +kernel
theorem dX7_lays_43 : decode cX7_lays 43 = .ok (.istore_n 3, 1) := by decide +kernel
theorem dX7_lays_44 : decode cX7_lays 44 = .ok (.iconst 0, 1) := by decide +kernel
theorem dX7_lays_45 : decode cX7_lays 45 = .ok (.istore 4, 2) := by decide +kernel
theorem dX7_lays_47 : decode cX7_lays 47 = .ok (.iload 4, 2) := by decide +kernel
theorem dX7_lays_49 : decode cX7_lays 49 = .ok (.aload_n 0, 1) := by decide +kernel
theorem dX7_lays_50 : decode cX7_lays 50 = .ok (.getfield 35, 3) := by decide +kernel
theorem dX7_lays_53 : decode cX7_lays 53 = .ok (.iload_n 1, 1) := by decide +kernel
theorem dX7_lays_54 : decode cX7_lays 54 = .ok (.iaload, 1) := by decide +kernel
theorem dX7_lays_55 : decode cX7_lays 55 = .ok (.if_icmp .ge 165, 3) := by decide +kernel
theorem dX7_lays_58 : decode cX7_lays 58 = .ok (.iload_n 3, 1) := by decide +kernel
theorem dX7_lays_59 : decode cX7_lays 59 = .ok (.bipush 64, 2) := by decide +kernel
theorem dX7_lays_61 : decode cX7_lays 61 = .ok (.if_icmp .ge 159, 3) := by decide +kernel
theorem dX7_lays_64 : decode cX7_lays 64 = .ok (.bipush 8, 2) := by decide +kernel
theorem dX7_lays_66 : decode cX7_lays 66 = .ok (.iload_n 1, 1) := by decide +kernel
theorem dX7_lays_67 : decode cX7_lays 67 = .ok (.imul, 1) := by decide +kernel
theorem dX7_lays_68 : decode cX7_lays 68 = .ok (.iload 4, 2) := by decide +kernel
theorem dX7_lays_70 : decode cX7_lays 70 = .ok (.iadd, 1) := by decide +kernel
theorem dX7_lays_71 : decode cX7_lays 71 = .ok (.istore 5, 2) := by decide +kernel
theorem dX7_lays_73 : decode cX7_lays 73 = .ok (.aload_n 0, 1) := by decide +kernel
theorem dX7_lays_74 : decode cX7_lays 74 = .ok (.getfield 38, 3) := by decide +kernel
theorem dX7_lays_77 : decode cX7_lays 77 = .ok (.iload 5, 2) := by decide +kernel
theorem dX7_lays_79 : decode cX7_lays 79 = .ok (.iaload, 1) := by decide +kernel
theorem dX7_lays_80 : decode cX7_lays 80 = .ok (.istore 6, 2) := by decide +kernel
theorem dX7_lays_82 : decode cX7_lays 82 = .ok (.iconst 0, 1) := by decide +kernel
theorem dX7_lays_83 : decode cX7_lays 83 = .ok (.istore 7, 2) := by decide +kernel
theorem dX7_lays_85 : decode cX7_lays 85 = .ok (.iload 7, 2) := by decide +kernel
theorem dX7_lays_87 : decode cX7_lays 87 = .ok (.aload_n 0, 1) := by decide +kernel
theorem dX7_lays_88 : decode cX7_lays 88 = .ok (.getfield 41, 3) := by decide +kernel
theorem dX7_lays_91 : decode cX7_lays 91 = .ok (.iload 5, 2) := by decide +kernel
theorem dX7_lays_93 : decode cX7_lays 93 = .ok (.iaload, 1) := by decide +kernel
theorem dX7_lays_94 : decode cX7_lays 94 = .ok (.if_icmp .ge 80, 3) := by decide +kernel
theorem dX7_lays_97 : decode cX7_lays 97 = .ok (.iload_n 3, 1) := by decide +kernel
theorem dX7_lays_98 : decode cX7_lays 98 = .ok (.bipush 64, 2) := by decide +kernel
theorem dX7_lays_100 : decode cX7_lays 100 = .ok (.if_icmp .ge 74, 3) := by decide +kernel
theorem dX7_lays_103 : decode cX7_lays 103 = .ok (.aload_n 0, 1) := by decide +kernel
theorem dX7_lays_104 : decode cX7_lays 104 = .ok (.getfield 65, 3) := by decide +kernel
theorem dX7_lays_107 : decode cX7_lays 107 = .ok (.iload 6, 2) := by decide +kernel
theorem dX7_lays_109 : decode cX7_lays 109 = .ok (.dup2, 1) := by decide +kernel
theorem dX7_lays_110 : decode cX7_lays 110 = .ok (.iaload, 1) := by decide +kernel
theorem dX7_lays_111 : decode cX7_lays 111 = .ok (.iconst 1, 1) := by decide +kernel
theorem dX7_lays_112 : decode cX7_lays 112 = .ok (.iadd, 1) := by decide +kernel
theorem dX7_lays_113 : decode cX7_lays 113 = .ok (.iastore, 1) := by decide +kernel
theorem dX7_lays_114 : decode cX7_lays 114 = .ok (.aload_n 0, 1) := by decide +kernel
theorem dX7_lays_115 : decode cX7_lays 115 = .ok (.getfield 53, 3) := by decide +kernel
theorem dX7_lays_118 : decode cX7_lays 118 = .ok (.iload_n 2, 1) := by decide +kernel
theorem dX7_lays_119 : decode cX7_lays 119 = .ok (.iload_n 3, 1) := by decide +kernel
theorem dX7_lays_120 : decode cX7_lays 120 = .ok (.iadd, 1) := by decide +kernel
theorem dX7_lays_121 : decode cX7_lays 121 = .ok (.iload 6, 2) := by decide +kernel
theorem dX7_lays_123 : decode cX7_lays 123 = .ok (.iastore, 1) := by decide +kernel
theorem dX7_lays_124 : decode cX7_lays 124 = .ok (.aload_n 0, 1) := by decide +kernel
theorem dX7_lays_125 : decode cX7_lays 125 = .ok (.getfield 56, 3) := by decide +kernel
theorem dX7_lays_128 : decode cX7_lays 128 = .ok (.iload_n 2, 1) := by decide +kernel
theorem dX7_lays_129 : decode cX7_lays 129 = .ok (.iload_n 3, 1) := by decide +kernel
theorem dX7_lays_130 : decode cX7_lays 130 = .ok (.iadd, 1) := by decide +kernel
theorem dX7_lays_131 : decode cX7_lays 131 = .ok (.aload_n 0, 1) := by decide +kernel
theorem dX7_lays_132 : decode cX7_lays 132 = .ok (.getfield 25, 3) := by decide +kernel
theorem dX7_lays_135 : decode cX7_lays 135 = .ok (.iload 6, 2) := by decide +kernel
theorem dX7_lays_137 : decode cX7_lays 137 = .ok (.iaload, 1) := by decide +kernel
theorem dX7_lays_138 : decode cX7_lays 138 = .ok (.ifCond .le 25, 3) := by decide +kernel
theorem dX7_lays_141 : decode cX7_lays 141 = .ok (.aload_n 0, 1) := by decide +kernel
theorem dX7_lays_142 : decode cX7_lays 142 = .ok (.getfield 65, 3) := by decide +kernel
theorem dX7_lays_145 : decode cX7_lays 145 = .ok (.iload 6, 2) := by decide +kernel
theorem dX7_lays_147 : decode cX7_lays 147 = .ok (.iaload, 1) := by decide +kernel
theorem dX7_lays_148 : decode cX7_lays 148 = .ok (.aload_n 0, 1) := by decide +kernel
theorem dX7_lays_149 : decode cX7_lays 149 = .ok (.getfield 25, 3) := by decide +kernel
theorem dX7_lays_152 : decode cX7_lays 152 = .ok (.iload 6, 2) := by decide +kernel
theorem dX7_lays_154 : decode cX7_lays 154 = .ok (.iaload, 1) := by decide +kernel
theorem dX7_lays_155 : decode cX7_lays 155 = .ok (.irem, 1) := by decide +kernel
theorem dX7_lays_156 : decode cX7_lays 156 = .ok (.ifCond .ne 7, 3) := by decide +kernel
theorem dX7_lays_159 : decode cX7_lays 159 = .ok (.iconst 1, 1) := by decide +kernel
theorem dX7_lays_160 : decode cX7_lays 160 = .ok (.goto 4, 3) := by decide +kernel
theorem dX7_lays_163 : decode cX7_lays 163 = .ok (.iconst 0, 1) := by decide +kernel
theorem dX7_lays_164 : decode cX7_lays 164 = .ok (.bastore, 1) := by decide +kernel
theorem dX7_lays_165 : decode cX7_lays 165 = .ok (.iinc 3 1, 3) := by decide +kernel
theorem dX7_lays_168 : decode cX7_lays 168 = .ok (.iinc 7 1, 3) := by decide +kernel
theorem dX7_lays_171 : decode cX7_lays 171 = .ok (.goto (-86), 3) := by decide +kernel
theorem dX7_lays_174 : decode cX7_lays 174 = .ok (.aload_n 0, 1) := by decide +kernel
theorem dX7_lays_175 : decode cX7_lays 175 = .ok (.getfield 62, 3) := by decide +kernel
theorem dX7_lays_178 : decode cX7_lays 178 = .ok (.iload 4, 2) := by decide +kernel
theorem dX7_lays_180 : decode cX7_lays 180 = .ok (.iaload, 1) := by decide +kernel
theorem dX7_lays_181 : decode cX7_lays 181 = .ok (.aload_n 0, 1) := by decide +kernel
theorem dX7_lays_182 : decode cX7_lays 182 = .ok (.getfield 47, 3) := by decide +kernel
theorem dX7_lays_185 : decode cX7_lays 185 = .ok (.iload 5, 2) := by decide +kernel
theorem dX7_lays_187 : decode cX7_lays 187 = .ok (.iaload, 1) := by decide +kernel
theorem dX7_lays_188 : decode cX7_lays 188 = .ok (.if_icmp .ge 26, 3) := by decide +kernel
theorem dX7_lays_191 : decode cX7_lays 191 = .ok (.aload_n 0, 1) := by decide +kernel
theorem dX7_lays_192 : decode cX7_lays 192 = .ok (.getfield 62, 3) := by decide +kernel
theorem dX7_lays_195 : decode cX7_lays 195 = .ok (.iload 4, 2) := by decide +kernel
theorem dX7_lays_197 : decode cX7_lays 197 = .ok (.dup2, 1) := by decide +kernel
theorem dX7_lays_198 : decode cX7_lays 198 = .ok (.iaload, 1) := by decide +kernel
theorem dX7_lays_199 : decode cX7_lays 199 = .ok (.iconst 1, 1) := by decide +kernel
theorem dX7_lays_200 : decode cX7_lays 200 = .ok (.iadd, 1) := by decide +kernel
theorem dX7_lays_201 : decode cX7_lays 201 = .ok (.iastore, 1) := by decide +kernel
theorem dX7_lays_202 : decode cX7_lays 202 = .ok (.aload_n 0, 1) := by decide +kernel
theorem dX7_lays_203 : decode cX7_lays 203 = .ok (.getfield 44, 3) := by decide +kernel
theorem dX7_lays_206 : decode cX7_lays 206 = .ok (.iload 5, 2) := by decide +kernel
theorem dX7_lays_208 : decode cX7_lays 208 = .ok (.iaload, 1) := by decide +kernel
theorem dX7_lays_209 : decode cX7_lays 209 = .ok (.istore 4, 2) := by decide +kernel
theorem dX7_lays_211 : decode cX7_lays 211 = .ok (.goto 6, 3) := by decide +kernel
theorem dX7_lays_214 : decode cX7_lays 214 = .ok (.iinc 4 1, 3) := by decide +kernel
theorem dX7_lays_217 : decode cX7_lays 217 = .ok (.goto (-170), 3) := by decide +kernel
theorem dX7_lays_220 : decode cX7_lays 220 = .ok (.iload_n 3, 1) := by decide +kernel
theorem dX7_lays_221 : decode cX7_lays 221 = .ok (.ireturn, 1) := by decide +kernel
set_option maxRecDepth 20000 in
theorem ggX7_jump_X7_isSong : GoodIn wsX7_jump wsX7_isSong := goodIn_r _ [9, 10, 11, 8, 12] (by decide +kernel) (by decide +kernel)
set_option maxRecDepth 20000 in
theorem gX7_jump_X7_isSong : GoodIn wsX7_jump (va_wsS RX7 97 yX7_isSong wsX7_isSong) := goodIn_app (goodIn_of _ (by decide +kernel)) ggX7_jump_X7_isSong
set_option maxRecDepth 20000 in
theorem ggX7_jump_X7_in : GoodIn wsX7_jump wsX7_in := goodIn_r _ [12] (by decide +kernel) (by decide +kernel)
set_option maxRecDepth 20000 in
theorem gX7_jump_X7_in : GoodIn wsX7_jump (va_wsS RX7 78 yX7_in wsX7_in) := goodIn_app (goodIn_of _ (by decide +kernel)) ggX7_jump_X7_in
set_option maxRecDepth 20000 in
theorem ggX7_jump_X7_fails : GoodIn wsX7_jump wsX7_fails := goodIn_r _ [16, 1, 28, 29, 30, 31, 32, 33, 34, 35, 36, 37, 38, 39, 40, 41, 42, 43, 44, 45, 46, 47, 48, 49, 50, 51, 52, 53, 54, 55, 56, 57, 58] (by decide +kernel) (by decide +kernel)
set_option maxRecDepth 20000 in
theorem gX7_jump_X7_fails : GoodIn wsX7_jump (wsV RX7 86 RX7 yX7_fails wsX7_fails) := goodIn_app (goodIn_of _ (by decide +kernel)) ggX7_jump_X7_fails
set_option maxRecDepth 20000 in
theorem ggX7_jump_X7_lays : GoodIn wsX7_jump wsX7_lays := goodIn_r _ [20, 21, 22, 2, 23, 24, 25, 26, 27, 5, 4, 28, 29, 30, 31, 32, 33, 34, 35, 36, 37, 38, 39, 40, 41, 42, 43, 44, 45, 46, 47, 48, 49, 50, 51, 52, 53, 54, 55, 56, 57, 58] (by decide +kernel) (by decide +kernel)
set_option maxRecDepth 20000 in
theorem gX7_jump_X7_lays : GoodIn wsX7_jump (wsV RX7 100 RX7 yX7_lays wsX7_lays) := goodIn_app (goodIn_of _ (by decide +kernel)) ggX7_jump_X7_lays
theorem dX7_jump_0 : decode cX7_jump 0 = .ok (.aload_n 0, 1) := by decide +kernel
theorem dX7_jump_1 : decode cX7_jump 1 = .ok (.iconst 0, 1) := by decide +kernel
theorem dX7_jump_2 : decode cX7_jump 2 = .ok (.putfield 75, 3) := by decide +kernel
theorem dX7_jump_5 : decode cX7_jump 5 = .ok (.iload_n 1, 1) := by decide +kernel
theorem dX7_jump_6 : decode cX7_jump 6 = .ok (.invokestatic 97, 3) := by decide +kernel
theorem dX7_jump_9 : decode cX7_jump 9 = .ok (.ifCond .eq 35, 3) := by decide +kernel
theorem dX7_jump_12 : decode cX7_jump 12 = .ok (.iload_n 2, 1) := by decide +kernel
theorem dX7_jump_13 : decode cX7_jump 13 = .ok (.iconst 0, 1) := by decide +kernel
theorem dX7_jump_14 : decode cX7_jump 14 = .ok (.aload_n 0, 1) := by decide +kernel
theorem dX7_jump_15 : decode cX7_jump 15 = .ok (.getfield 35, 3) := by decide +kernel
theorem dX7_jump_18 : decode cX7_jump 18 = .ok (.iload_n 1, 1) := by decide +kernel
theorem dX7_jump_19 : decode cX7_jump 19 = .ok (.iaload, 1) := by decide +kernel
theorem dX7_jump_20 : decode cX7_jump 20 = .ok (.iconst 1, 1) := by decide +kernel
theorem dX7_jump_21 : decode cX7_jump 21 = .ok (.isub, 1) := by decide +kernel
theorem dX7_jump_22 : decode cX7_jump 22 = .ok (.invokestatic 78, 3) := by decide +kernel
theorem dX7_jump_25 : decode cX7_jump 25 = .ok (.ifCond .eq 19, 3) := by decide +kernel
theorem dX7_jump_28 : decode cX7_jump 28 = .ok (.iload_n 3, 1) := by decide +kernel
theorem dX7_jump_29 : decode cX7_jump 29 = .ok (.iconst 0, 1) := by decide +kernel
theorem dX7_jump_30 : decode cX7_jump 30 = .ok (.aload_n 0, 1) := by decide +kernel
theorem dX7_jump_31 : decode cX7_jump 31 = .ok (.getfield 35, 3) := by decide +kernel
theorem dX7_jump_34 : decode cX7_jump 34 = .ok (.iload_n 1, 1) := by decide +kernel
theorem dX7_jump_35 : decode cX7_jump 35 = .ok (.iaload, 1) := by decide +kernel
theorem dX7_jump_36 : decode cX7_jump 36 = .ok (.iconst 1, 1) := by decide +kernel
theorem dX7_jump_37 : decode cX7_jump 37 = .ok (.isub, 1) := by decide +kernel
theorem dX7_jump_38 : decode cX7_jump 38 = .ok (.invokestatic 78, 3) := by decide +kernel
theorem dX7_jump_41 : decode cX7_jump 41 = .ok (.ifCond .ne 9, 3) := by decide +kernel
theorem dX7_jump_44 : decode cX7_jump 44 = .ok (.aload_n 0, 1) := by decide +kernel
theorem dX7_jump_45 : decode cX7_jump 45 = .ok (.iconst 1, 1) := by decide +kernel
theorem dX7_jump_46 : decode cX7_jump 46 = .ok (.invokevirtual 86, 3) := by decide +kernel
theorem dX7_jump_49 : decode cX7_jump 49 = .ok (.ireturn, 1) := by decide +kernel
theorem dX7_jump_50 : decode cX7_jump 50 = .ok (.iload 4, 2) := by decide +kernel
theorem dX7_jump_52 : decode cX7_jump 52 = .ok (.iconst 0, 1) := by decide +kernel
theorem dX7_jump_53 : decode cX7_jump 53 = .ok (.iconst 3, 1) := by decide +kernel
theorem dX7_jump_54 : decode cX7_jump 54 = .ok (.invokestatic 78, 3) := by decide +kernel
theorem dX7_jump_57 : decode cX7_jump 57 = .ok (.ifCond .ne 9, 3) := by decide +kernel
theorem dX7_jump_60 : decode cX7_jump 60 = .ok (.aload_n 0, 1) := by decide +kernel
theorem dX7_jump_61 : decode cX7_jump 61 = .ok (.iconst 2, 1) := by decide +kernel
theorem dX7_jump_62 : decode cX7_jump 62 = .ok (.invokevirtual 86, 3) := by decide +kernel
theorem dX7_jump_65 : decode cX7_jump 65 = .ok (.ireturn, 1) := by decide +kernel
theorem dX7_jump_66 : decode cX7_jump 66 = .ok (.aload_n 0, 1) := by decide +kernel
theorem dX7_jump_67 : decode cX7_jump 67 = .ok (.getfield 90, 3) := by decide +kernel
theorem dX7_jump_70 : decode cX7_jump 70 = .ok (.ifCond .eq 9, 3) := by decide +kernel
theorem dX7_jump_73 : decode cX7_jump 73 = .ok (.aload_n 0, 1) := by decide +kernel
theorem dX7_jump_74 : decode cX7_jump 74 = .ok (.iconst 3, 1) := by decide +kernel
theorem dX7_jump_75 : decode cX7_jump 75 = .ok (.invokevirtual 86, 3) := by decide +kernel
theorem dX7_jump_78 : decode cX7_jump 78 = .ok (.ireturn, 1) := by decide +kernel
theorem dX7_jump_79 : decode cX7_jump 79 = .ok (.aload_n 0, 1) := by decide +kernel
theorem dX7_jump_80 : decode cX7_jump 80 = .ok (.getfield 44, 3) := by decide +kernel
theorem dX7_jump_83 : decode cX7_jump 83 = .ok (.bipush 8, 2) := by decide +kernel
theorem dX7_jump_85 : decode cX7_jump 85 = .ok (.iload_n 1, 1) := by decide +kernel
theorem dX7_jump_86 : decode cX7_jump 86 = .ok (.imul, 1) := by decide +kernel
theorem dX7_jump_87 : decode cX7_jump 87 = .ok (.iload_n 2, 1) := by decide +kernel
theorem dX7_jump_88 : decode cX7_jump 88 = .ok (.iadd, 1) := by decide +kernel
theorem dX7_jump_89 : decode cX7_jump 89 = .ok (.iload_n 3, 1) := by decide +kernel
theorem dX7_jump_90 : decode cX7_jump 90 = .ok (.iastore, 1) := by decide +kernel
theorem dX7_jump_91 : decode cX7_jump 91 = .ok (.aload_n 0, 1) := by decide +kernel
theorem dX7_jump_92 : decode cX7_jump 92 = .ok (.getfield 47, 3) := by decide +kernel
theorem dX7_jump_95 : decode cX7_jump 95 = .ok (.bipush 8, 2) := by decide +kernel
theorem dX7_jump_97 : decode cX7_jump 97 = .ok (.iload_n 1, 1) := by decide +kernel
theorem dX7_jump_98 : decode cX7_jump 98 = .ok (.imul, 1) := by decide +kernel
theorem dX7_jump_99 : decode cX7_jump 99 = .ok (.iload_n 2, 1) := by decide +kernel
theorem dX7_jump_100 : decode cX7_jump 100 = .ok (.iadd, 1) := by decide +kernel
theorem dX7_jump_101 : decode cX7_jump 101 = .ok (.iload 4, 2) := by decide +kernel
theorem dX7_jump_103 : decode cX7_jump 103 = .ok (.iastore, 1) := by decide +kernel
theorem dX7_jump_104 : decode cX7_jump 104 = .ok (.aload_n 0, 1) := by decide +kernel
theorem dX7_jump_105 : decode cX7_jump 105 = .ok (.iload_n 1, 1) := by decide +kernel
theorem dX7_jump_106 : decode cX7_jump 106 = .ok (.sipush 512, 3) := by decide +kernel
theorem dX7_jump_109 : decode cX7_jump 109 = .ok (.invokevirtual 100, 3) := by decide +kernel
theorem dX7_jump_112 : decode cX7_jump 112 = .ok (.ireturn, 1) := by decide +kernel
set_option maxRecDepth 20000 in
theorem ggX7_bars_X7_isSong : GoodIn wsX7_bars wsX7_isSong := goodIn_r _ [5, 6, 7, 4, 8] (by decide +kernel) (by decide +kernel)
set_option maxRecDepth 20000 in
theorem gX7_bars_X7_isSong : GoodIn wsX7_bars (va_wsS RX7 97 yX7_isSong wsX7_isSong) := goodIn_app (goodIn_of _ (by decide +kernel)) ggX7_bars_X7_isSong
set_option maxRecDepth 20000 in
theorem ggX7_bars_X7_lays : GoodIn wsX7_bars wsX7_lays := goodIn_r _ [12, 13, 14, 15, 16, 17, 18, 19, 20, 21, 22, 27, 28, 29, 30, 31, 32, 33, 34, 35, 36, 37, 38, 39, 40, 41, 42, 43, 44, 45, 46, 47, 48, 49, 50, 51, 52, 53, 54, 55, 56, 57] (by decide +kernel) (by decide +kernel)
set_option maxRecDepth 20000 in
theorem gX7_bars_X7_lays : GoodIn wsX7_bars (wsV RX7 100 RX7 yX7_lays wsX7_lays) := goodIn_app (goodIn_of _ (by decide +kernel)) ggX7_bars_X7_lays
set_option maxRecDepth 20000 in
theorem ggX7_bars_X7_fails : GoodIn wsX7_bars wsX7_fails := goodIn_r _ [26, 1, 27, 28, 29, 30, 31, 32, 33, 34, 35, 36, 37, 38, 39, 40, 41, 42, 43, 44, 45, 46, 47, 48, 49, 50, 51, 52, 53, 54, 55, 56, 57] (by decide +kernel) (by decide +kernel)
set_option maxRecDepth 20000 in
theorem gX7_bars_X7_fails : GoodIn wsX7_bars (wsV RX7 86 RX7 yX7_fails wsX7_fails) := goodIn_app (goodIn_of _ (by decide +kernel)) ggX7_bars_X7_fails
theorem dX7_bars_0 : decode cX7_bars 0 = .ok (.aload_n 0, 1) := by decide +kernel
theorem dX7_bars_1 : decode cX7_bars 1 = .ok (.iconst 0, 1) := by decide +kernel
theorem dX7_bars_2 : decode cX7_bars 2 = .ok (.putfield 75, 3) := by decide +kernel
theorem dX7_bars_5 : decode cX7_bars 5 = .ok (.iload_n 1, 1) := by decide +kernel
theorem dX7_bars_6 : decode cX7_bars 6 = .ok (.invokestatic 97, 3) := by decide +kernel
theorem dX7_bars_9 : decode cX7_bars 9 = .ok (.ifCond .eq 14, 3) := by decide +kernel
theorem dX7_bars_12 : decode cX7_bars 12 = .ok (.aload_n 0, 1) := by decide +kernel
theorem dX7_bars_13 : decode cX7_bars 13 = .ok (.iload_n 1, 1) := by decide +kernel
theorem dX7_bars_14 : decode cX7_bars 14 = .ok (.sipush 512, 3) := by decide +kernel
theorem dX7_bars_17 : decode cX7_bars 17 = .ok (.invokevirtual 100, 3) := by decide +kernel
theorem dX7_bars_20 : decode cX7_bars 20 = .ok (.goto 8, 3) := by decide +kernel
theorem dX7_bars_23 : decode cX7_bars 23 = .ok (.aload_n 0, 1) := by decide +kernel
theorem dX7_bars_24 : decode cX7_bars 24 = .ok (.iconst 1, 1) := by decide +kernel
theorem dX7_bars_25 : decode cX7_bars 25 = .ok (.invokevirtual 86, 3) := by decide +kernel
theorem dX7_bars_28 : decode cX7_bars 28 = .ok (.ireturn, 1) := by decide +kernel
set_option maxRecDepth 20000 in
theorem ggX7_barAt_X7_isSong : GoodIn wsX7_barAt wsX7_isSong := goodIn_r _ [7, 8, 9, 6, 10] (by decide +kernel) (by decide +kernel)
set_option maxRecDepth 20000 in
theorem gX7_barAt_X7_isSong : GoodIn wsX7_barAt (va_wsS RX7 97 yX7_isSong wsX7_isSong) := goodIn_app (goodIn_of _ (by decide +kernel)) ggX7_barAt_X7_isSong
set_option maxRecDepth 20000 in
theorem ggX7_barAt_X7_lays : GoodIn wsX7_barAt wsX7_lays := goodIn_r _ [14, 15, 16, 17, 18, 19, 2, 3, 20, 21, 22, 27, 28, 29, 30, 31, 32, 33, 34, 35, 36, 37, 38, 39, 40, 41, 42, 43, 44, 45, 46, 47, 48, 49, 50, 51, 52, 53, 54, 55, 56, 57] (by decide +kernel) (by decide +kernel)
set_option maxRecDepth 20000 in
theorem gX7_barAt_X7_lays : GoodIn wsX7_barAt (wsV RX7 100 RX7 yX7_lays wsX7_lays) := goodIn_app (goodIn_of _ (by decide +kernel)) ggX7_barAt_X7_lays
set_option maxRecDepth 20000 in
theorem ggX7_barAt_X7_in : GoodIn wsX7_barAt wsX7_in := goodIn_r _ [10] (by decide +kernel) (by decide +kernel)
set_option maxRecDepth 20000 in
theorem gX7_barAt_X7_in : GoodIn wsX7_barAt (va_wsS RX7 78 yX7_in wsX7_in) := goodIn_app (goodIn_of _ (by decide +kernel)) ggX7_barAt_X7_in
set_option maxRecDepth 20000 in
theorem ggX7_barAt_X7_fails : GoodIn wsX7_barAt wsX7_fails := goodIn_r _ [26, 1, 27, 28, 29, 30, 31, 32, 33, 34, 35, 36, 37, 38, 39, 40, 41, 42, 43, 44, 45, 46, 47, 48, 49, 50, 51, 52, 53, 54, 55, 56, 57] (by decide +kernel) (by decide +kernel)
set_option maxRecDepth 20000 in
theorem gX7_barAt_X7_fails : GoodIn wsX7_barAt (wsV RX7 86 RX7 yX7_fails wsX7_fails) := goodIn_app (goodIn_of _ (by decide +kernel)) ggX7_barAt_X7_fails
theorem dX7_barAt_0 : decode cX7_barAt 0 = .ok (.aload_n 0, 1) := by decide +kernel
theorem dX7_barAt_1 : decode cX7_barAt 1 = .ok (.iconst 0, 1) := by decide +kernel
theorem dX7_barAt_2 : decode cX7_barAt 2 = .ok (.putfield 75, 3) := by decide +kernel
theorem dX7_barAt_5 : decode cX7_barAt 5 = .ok (.iload_n 1, 1) := by decide +kernel
theorem dX7_barAt_6 : decode cX7_barAt 6 = .ok (.invokestatic 97, 3) := by decide +kernel
theorem dX7_barAt_9 : decode cX7_barAt 9 = .ok (.ifCond .eq 21, 3) := by decide +kernel
theorem dX7_barAt_12 : decode cX7_barAt 12 = .ok (.iload_n 2, 1) := by decide +kernel
theorem dX7_barAt_13 : decode cX7_barAt 13 = .ok (.iconst 0, 1) := by decide +kernel
theorem dX7_barAt_14 : decode cX7_barAt 14 = .ok (.aload_n 0, 1) := by decide +kernel
theorem dX7_barAt_15 : decode cX7_barAt 15 = .ok (.iload_n 1, 1) := by decide +kernel
theorem dX7_barAt_16 : decode cX7_barAt 16 = .ok (.sipush 512, 3) := by decide +kernel
theorem dX7_barAt_19 : decode cX7_barAt 19 = .ok (.invokevirtual 100, 3) := by decide +kernel
theorem dX7_barAt_22 : decode cX7_barAt 22 = .ok (.iconst 1, 1) := by decide +kernel
theorem dX7_barAt_23 : decode cX7_barAt 23 = .ok (.isub, 1) := by decide +kernel
theorem dX7_barAt_24 : decode cX7_barAt 24 = .ok (.invokestatic 78, 3) := by decide +kernel
theorem dX7_barAt_27 : decode cX7_barAt 27 = .ok (.ifCond .ne 9, 3) := by decide +kernel
theorem dX7_barAt_30 : decode cX7_barAt 30 = .ok (.aload_n 0, 1) := by decide +kernel
theorem dX7_barAt_31 : decode cX7_barAt 31 = .ok (.iconst 1, 1) := by decide +kernel
theorem dX7_barAt_32 : decode cX7_barAt 32 = .ok (.invokevirtual 86, 3) := by decide +kernel
theorem dX7_barAt_35 : decode cX7_barAt 35 = .ok (.ireturn, 1) := by decide +kernel
theorem dX7_barAt_36 : decode cX7_barAt 36 = .ok (.bipush 10, 2) := by decide +kernel
theorem dX7_barAt_38 : decode cX7_barAt 38 = .ok (.aload_n 0, 1) := by decide +kernel
theorem dX7_barAt_39 : decode cX7_barAt 39 = .ok (.getfield 53, 3) := by decide +kernel
theorem dX7_barAt_42 : decode cX7_barAt 42 = .ok (.sipush 512, 3) := by decide +kernel
theorem dX7_barAt_45 : decode cX7_barAt 45 = .ok (.iload_n 2, 1) := by decide +kernel
theorem dX7_barAt_46 : decode cX7_barAt 46 = .ok (.iadd, 1) := by decide +kernel
theorem dX7_barAt_47 : decode cX7_barAt 47 = .ok (.iaload, 1) := by decide +kernel
theorem dX7_barAt_48 : decode cX7_barAt 48 = .ok (.imul, 1) := by decide +kernel
theorem dX7_barAt_49 : decode cX7_barAt 49 = .ok (.aload_n 0, 1) := by decide +kernel
theorem dX7_barAt_50 : decode cX7_barAt 50 = .ok (.getfield 56, 3) := by decide +kernel
theorem dX7_barAt_53 : decode cX7_barAt 53 = .ok (.sipush 512, 3) := by decide +kernel
theorem dX7_barAt_56 : decode cX7_barAt 56 = .ok (.iload_n 2, 1) := by decide +kernel
theorem dX7_barAt_57 : decode cX7_barAt 57 = .ok (.iadd, 1) := by decide +kernel
theorem dX7_barAt_58 : decode cX7_barAt 58 = .ok (.baload, 1) := by decide +kernel
theorem dX7_barAt_59 : decode cX7_barAt 59 = .ok (.ifCond .eq 7, 3) := by decide +kernel
theorem dX7_barAt_62 : decode cX7_barAt 62 = .ok (.iconst 1, 1) := by decide +kernel
theorem dX7_barAt_63 : decode cX7_barAt 63 = .ok (.goto 4, 3) := by decide +kernel
theorem dX7_barAt_66 : decode cX7_barAt 66 = .ok (.iconst 0, 1) := by decide +kernel
theorem dX7_barAt_67 : decode cX7_barAt 67 = .ok (.iadd, 1) := by decide +kernel
theorem dX7_barAt_68 : decode cX7_barAt 68 = .ok (.ireturn, 1) := by decide +kernel
theorem dX7_sampleAt_0 : decode cX7_sampleAt 0 = .ok (.aload_n 0, 1) := by decide +kernel
theorem dX7_sampleAt_1 : decode cX7_sampleAt 1 = .ok (.getfield 53, 3) := by decide +kernel
theorem dX7_sampleAt_4 : decode cX7_sampleAt 4 = .ok (.iload_n 1, 1) := by decide +kernel
theorem dX7_sampleAt_5 : decode cX7_sampleAt 5 = .ok (.iaload, 1) := by decide +kernel
theorem dX7_sampleAt_6 : decode cX7_sampleAt 6 = .ok (.istore 4, 2) := by decide +kernel
theorem dX7_sampleAt_8 : decode cX7_sampleAt 8 = .ok (.aload_n 0, 1) := by decide +kernel
theorem dX7_sampleAt_9 : decode cX7_sampleAt 9 = .ok (.getfield 56, 3) := by decide +kernel
theorem dX7_sampleAt_12 : decode cX7_sampleAt 12 = .ok (.iload_n 1, 1) := by decide +kernel
theorem dX7_sampleAt_13 : decode cX7_sampleAt 13 = .ok (.baload, 1) := by decide +kernel
theorem dX7_sampleAt_14 : decode cX7_sampleAt 14 = .ok (.ifCond .eq 31, 3) := by decide +kernel
theorem dX7_sampleAt_17 : decode cX7_sampleAt 17 = .ok (.iload_n 3, 1) := by decide +kernel
theorem dX7_sampleAt_18 : decode cX7_sampleAt 18 = .ok (.bipush 11, 2) := by decide +kernel
theorem dX7_sampleAt_20 : decode cX7_sampleAt 20 = .ok (.if_icmp .le 25, 3) := by decide +kernel
theorem dX7_sampleAt_23 : decode cX7_sampleAt 23 = .ok (.aload_n 0, 1) := by decide +kernel
theorem dX7_sampleAt_24 : decode cX7_sampleAt 24 = .ok (.getfield 19, 3) := by decide +kernel
theorem dX7_sampleAt_27 : decode cX7_sampleAt 27 = .ok (.bipush 16, 2) := by decide +kernel
theorem dX7_sampleAt_29 : decode cX7_sampleAt 29 = .ok (.iload 4, 2) := by decide +kernel
theorem dX7_sampleAt_31 : decode cX7_sampleAt 31 = .ok (.imul, 1) := by decide +kernel
theorem dX7_sampleAt_32 : decode cX7_sampleAt 32 = .ok (.iconst 4, 1) := by decide +kernel
theorem dX7_sampleAt_33 : decode cX7_sampleAt 33 = .ok (.iload_n 2, 1) := by decide +kernel
theorem dX7_sampleAt_34 : decode cX7_sampleAt 34 = .ok (.imul, 1) := by decide +kernel
theorem dX7_sampleAt_35 : decode cX7_sampleAt 35 = .ok (.iadd, 1) := by decide +kernel
theorem dX7_sampleAt_36 : decode cX7_sampleAt 36 = .ok (.iload_n 3, 1) := by decide +kernel
theorem dX7_sampleAt_37 : decode cX7_sampleAt 37 = .ok (.iadd, 1) := by decide +kernel
theorem dX7_sampleAt_38 : decode cX7_sampleAt 38 = .ok (.bipush 12, 2) := by decide +kernel
theorem dX7_sampleAt_40 : decode cX7_sampleAt 40 = .ok (.isub, 1) := by decide +kernel
theorem dX7_sampleAt_41 : decode cX7_sampleAt 41 = .ok (.iaload, 1) := by decide +kernel
theorem dX7_sampleAt_42 : decode cX7_sampleAt 42 = .ok (.goto 20, 3) := by decide +kernel
theorem dX7_sampleAt_45 : decode cX7_sampleAt 45 = .ok (.aload_n 0, 1) := by decide +kernel
theorem dX7_sampleAt_46 : decode cX7_sampleAt 46 = .ok (.getfield 16, 3) := by decide +kernel
theorem dX7_sampleAt_49 : decode cX7_sampleAt 49 = .ok (.bipush 64, 2) := by decide +kernel
theorem dX7_sampleAt_51 : decode cX7_sampleAt 51 = .ok (.iload 4, 2) := by decide +kernel
theorem dX7_sampleAt_53 : decode cX7_sampleAt 53 = .ok (.imul, 1) := by decide +kernel
theorem dX7_sampleAt_54 : decode cX7_sampleAt 54 = .ok (.bipush 16, 2) := by decide +kernel
theorem dX7_sampleAt_56 : decode cX7_sampleAt 56 = .ok (.iload_n 2, 1) := by decide +kernel
theorem dX7_sampleAt_57 : decode cX7_sampleAt 57 = .ok (.imul, 1) := by decide +kernel
theorem dX7_sampleAt_58 : decode cX7_sampleAt 58 = .ok (.iadd, 1) := by decide +kernel
theorem dX7_sampleAt_59 : decode cX7_sampleAt 59 = .ok (.iload_n 3, 1) := by decide +kernel
theorem dX7_sampleAt_60 : decode cX7_sampleAt 60 = .ok (.iadd, 1) := by decide +kernel
theorem dX7_sampleAt_61 : decode cX7_sampleAt 61 = .ok (.iaload, 1) := by decide +kernel
theorem dX7_sampleAt_62 : decode cX7_sampleAt 62 = .ok (.ireturn, 1) := by decide +kernel
set_option maxRecDepth 20000 in
theorem ggX7_beatsOf_X7_lays : GoodIn wsX7_beatsOf wsX7_lays := goodIn_r _ [5, 6, 7, 8, 9, 10, 11, 12, 13, 14, 15, 22, 23, 24, 25, 26, 27, 28, 29, 30, 31, 32, 33, 34, 35, 36, 37, 38, 39, 40, 41, 42, 43, 44, 45, 46, 47, 48, 49, 50, 51, 52] (by decide +kernel) (by decide +kernel)
set_option maxRecDepth 20000 in
theorem gX7_beatsOf_X7_lays : GoodIn wsX7_beatsOf (wsV RX7 100 RX7 yX7_lays wsX7_lays) := goodIn_app (goodIn_of _ (by decide +kernel)) ggX7_beatsOf_X7_lays
set_option maxRecDepth 20000 in
theorem ggX7_beatsOf_X7_sampleAt : GoodIn wsX7_beatsOf wsX7_sampleAt := goodIn_r _ [19, 11, 12, 20, 21, 22, 23, 24, 25, 26, 27, 28, 29, 30, 31, 32, 33, 34, 35, 36, 37, 38, 39, 40, 41, 42, 43, 44, 45, 46, 47, 48, 49, 50, 51, 52] (by decide +kernel) (by decide +kernel)
set_option maxRecDepth 20000 in
theorem gX7_beatsOf_X7_sampleAt : GoodIn wsX7_beatsOf (wsV RX7 104 RX7 yX7_sampleAt wsX7_sampleAt) := goodIn_app (goodIn_of _ (by decide +kernel)) ggX7_beatsOf_X7_sampleAt
theorem dX7_beatsOf_0 : decode cX7_beatsOf 0 = .ok (.aload_n 0, 1) := by decide +kernel
theorem dX7_beatsOf_1 : decode cX7_beatsOf 1 = .ok (.iload_n 1, 1) := by decide +kernel
theorem dX7_beatsOf_2 : decode cX7_beatsOf 2 = .ok (.sipush 512, 3) := by decide +kernel
theorem dX7_beatsOf_5 : decode cX7_beatsOf 5 = .ok (.invokevirtual 100, 3) := by decide +kernel
theorem dX7_beatsOf_8 : decode cX7_beatsOf 8 = .ok (.istore_n 2, 1) := by decide +kernel
theorem dX7_beatsOf_9 : decode cX7_beatsOf 9 = .ok (.iconst 0, 1) := by decide +kernel
theorem dX7_beatsOf_10 : decode cX7_beatsOf 10 = .ok (.istore_n 3, 1) := by decide +kernel
theorem dX7_beatsOf_11 : decode cX7_beatsOf 11 = .ok (.iconst 0, 1) := by decide +kernel
theorem dX7_beatsOf_12 : decode cX7_beatsOf 12 = .ok (.istore 4, 2) := by decide +kernel
theorem dX7_beatsOf_14 : decode cX7_beatsOf 14 = .ok (.iload 4, 2) := by decide +kernel
theorem dX7_beatsOf_16 : decode cX7_beatsOf 16 = .ok (.iload_n 2, 1) := by decide +kernel
theorem dX7_beatsOf_17 : decode cX7_beatsOf 17 = .ok (.bipush 64, 2) := by decide +kernel
theorem dX7_beatsOf_19 : decode cX7_beatsOf 19 = .ok (.imul, 1) := by decide +kernel
theorem dX7_beatsOf_20 : decode cX7_beatsOf 20 = .ok (.if_icmp .ge 46, 3) := by decide +kernel
theorem dX7_beatsOf_23 : decode cX7_beatsOf 23 = .ok (.iload_n 3, 1) := by decide +kernel
theorem dX7_beatsOf_24 : decode cX7_beatsOf 24 = .ok (.aload_n 0, 1) := by decide +kernel
theorem dX7_beatsOf_25 : decode cX7_beatsOf 25 = .ok (.sipush 512, 3) := by decide +kernel
theorem dX7_beatsOf_28 : decode cX7_beatsOf 28 = .ok (.iload 4, 2) := by decide +kernel
theorem dX7_beatsOf_30 : decode cX7_beatsOf 30 = .ok (.bipush 64, 2) := by decide +kernel
theorem dX7_beatsOf_32 : decode cX7_beatsOf 32 = .ok (.idiv, 1) := by decide +kernel
theorem dX7_beatsOf_33 : decode cX7_beatsOf 33 = .ok (.iadd, 1) := by decide +kernel
theorem dX7_beatsOf_34 : decode cX7_beatsOf 34 = .ok (.iload 4, 2) := by decide +kernel
theorem dX7_beatsOf_36 : decode cX7_beatsOf 36 = .ok (.bipush 16, 2) := by decide +kernel
theorem dX7_beatsOf_38 : decode cX7_beatsOf 38 = .ok (.idiv, 1) := by decide +kernel
theorem dX7_beatsOf_39 : decode cX7_beatsOf 39 = .ok (.iconst 4, 1) := by decide +kernel
theorem dX7_beatsOf_40 : decode cX7_beatsOf 40 = .ok (.irem, 1) := by decide +kernel
theorem dX7_beatsOf_41 : decode cX7_beatsOf 41 = .ok (.iload 4, 2) := by decide +kernel
theorem dX7_beatsOf_43 : decode cX7_beatsOf 43 = .ok (.bipush 16, 2) := by decide +kernel
theorem dX7_beatsOf_45 : decode cX7_beatsOf 45 = .ok (.irem, 1) := by decide +kernel
theorem dX7_beatsOf_46 : decode cX7_beatsOf 46 = .ok (.invokevirtual 104, 3) := by decide +kernel
theorem dX7_beatsOf_49 : decode cX7_beatsOf 49 = .ok (.iconst (-1), 1) := by decide +kernel
theorem dX7_beatsOf_50 : decode cX7_beatsOf 50 = .ok (.if_icmp .eq 7, 3) := by decide +kernel
theorem dX7_beatsOf_53 : decode cX7_beatsOf 53 = .ok (.iconst 1, 1) := by decide +kernel
theorem dX7_beatsOf_54 : decode cX7_beatsOf 54 = .ok (.goto 4, 3) := by decide +kernel
theorem dX7_beatsOf_57 : decode cX7_beatsOf 57 = .ok (.iconst 0, 1) := by decide +kernel
theorem dX7_beatsOf_58 : decode cX7_beatsOf 58 = .ok (.iadd, 1) := by decide +kernel
theorem dX7_beatsOf_59 : decode cX7_beatsOf 59 = .ok (.istore_n 3, 1) := by decide +kernel
theorem dX7_beatsOf_60 : decode cX7_beatsOf 60 = .ok (.iinc 4 1, 3) := by decide +kernel
theorem dX7_beatsOf_63 : decode cX7_beatsOf 63 = .ok (.goto (-49), 3) := by decide +kernel
theorem dX7_beatsOf_66 : decode cX7_beatsOf 66 = .ok (.iload_n 3, 1) := by decide +kernel
theorem dX7_beatsOf_67 : decode cX7_beatsOf 67 = .ok (.ireturn, 1) := by decide +kernel
set_option maxRecDepth 20000 in
theorem ggX7_beats_X7_isSong : GoodIn wsX7_beats wsX7_isSong := goodIn_r _ [5, 6, 7, 4, 8] (by decide +kernel) (by decide +kernel)
set_option maxRecDepth 20000 in
theorem gX7_beats_X7_isSong : GoodIn wsX7_beats (va_wsS RX7 97 yX7_isSong wsX7_isSong) := goodIn_app (goodIn_of _ (by decide +kernel)) ggX7_beats_X7_isSong
set_option maxRecDepth 20000 in
theorem ggX7_beats_X7_beatsOf : GoodIn wsX7_beats wsX7_beatsOf := goodIn_r _ [12, 13, 14, 15, 4, 16, 17, 18, 19, 20, 21, 22, 23, 24, 25, 26, 27, 28, 29, 30, 31, 32, 37, 38, 39, 40, 41, 42, 43, 44, 45, 46, 47, 48, 49, 50, 51, 52, 53, 54, 55, 56, 57, 58, 59, 60, 61, 62, 63, 64, 65, 66, 67] (by decide +kernel) (by decide +kernel)
set_option maxRecDepth 20000 in
theorem gX7_beats_X7_beatsOf : GoodIn wsX7_beats (wsV RX7 108 RX7 yX7_beatsOf wsX7_beatsOf) := goodIn_app (goodIn_of _ (by decide +kernel)) ggX7_beats_X7_beatsOf
set_option maxRecDepth 20000 in
theorem ggX7_beats_X7_fails : GoodIn wsX7_beats wsX7_fails := goodIn_r _ [36, 1, 37, 38, 39, 40, 41, 42, 43, 44, 45, 46, 47, 48, 49, 50, 51, 52, 53, 54, 55, 56, 57, 58, 59, 60, 61, 62, 63, 64, 65, 66, 67] (by decide +kernel) (by decide +kernel)
set_option maxRecDepth 20000 in
theorem gX7_beats_X7_fails : GoodIn wsX7_beats (wsV RX7 86 RX7 yX7_fails wsX7_fails) := goodIn_app (goodIn_of _ (by decide +kernel)) ggX7_beats_X7_fails
theorem dX7_beats_0 : decode cX7_beats 0 = .ok (.aload_n 0, 1) := by decide +kernel
theorem dX7_beats_1 : decode cX7_beats 1 = .ok (.iconst 0, 1) := by decide +kernel
theorem dX7_beats_2 : decode cX7_beats 2 = .ok (.putfield 75, 3) := by decide +kernel
theorem dX7_beats_5 : decode cX7_beats 5 = .ok (.iload_n 1, 1) := by decide +kernel
theorem dX7_beats_6 : decode cX7_beats 6 = .ok (.invokestatic 97, 3) := by decide +kernel
theorem dX7_beats_9 : decode cX7_beats 9 = .ok (.ifCond .eq 11, 3) := by decide +kernel
theorem dX7_beats_12 : decode cX7_beats 12 = .ok (.aload_n 0, 1) := by decide +kernel
theorem dX7_beats_13 : decode cX7_beats 13 = .ok (.iload_n 1, 1) := by decide +kernel
theorem dX7_beats_14 : decode cX7_beats 14 = .ok (.invokevirtual 108, 3) := by decide +kernel
theorem dX7_beats_17 : decode cX7_beats 17 = .ok (.goto 8, 3) := by decide +kernel
theorem dX7_beats_20 : decode cX7_beats 20 = .ok (.aload_n 0, 1) := by decide +kernel
theorem dX7_beats_21 : decode cX7_beats 21 = .ok (.iconst 1, 1) := by decide +kernel
theorem dX7_beats_22 : decode cX7_beats 22 = .ok (.invokevirtual 86, 3) := by decide +kernel
theorem dX7_beats_25 : decode cX7_beats 25 = .ok (.ireturn, 1) := by decide +kernel
set_option maxRecDepth 20000 in
theorem ggX7_beatsByTicks_X7_isSong : GoodIn wsX7_beatsByTicks wsX7_isSong := goodIn_r _ [5, 6, 7, 4, 8] (by decide +kernel) (by decide +kernel)
set_option maxRecDepth 20000 in
theorem gX7_beatsByTicks_X7_isSong : GoodIn wsX7_beatsByTicks (va_wsS RX7 97 yX7_isSong wsX7_isSong) := goodIn_app (goodIn_of _ (by decide +kernel)) ggX7_beatsByTicks_X7_isSong
set_option maxRecDepth 20000 in
theorem ggX7_beatsByTicks_X7_beatsOf : GoodIn wsX7_beatsByTicks wsX7_beatsOf := goodIn_r _ [12, 13, 14, 15, 4, 16, 17, 18, 19, 20, 21, 22, 23, 24, 25, 26, 27, 28, 29, 30, 31, 32, 37, 38, 39, 40, 41, 42, 43, 44, 45, 46, 47, 48, 49, 50, 51, 52, 53, 54, 55, 56, 57, 58, 59, 60, 61, 62, 63, 64, 65, 66, 67] (by decide +kernel) (by decide +kernel)
set_option maxRecDepth 20000 in
theorem gX7_beatsByTicks_X7_beatsOf : GoodIn wsX7_beatsByTicks (wsV RX7 108 RX7 yX7_beatsOf wsX7_beatsOf) := goodIn_app (goodIn_of _ (by decide +kernel)) ggX7_beatsByTicks_X7_beatsOf
set_option maxRecDepth 20000 in
theorem ggX7_beatsByTicks_X7_fails : GoodIn wsX7_beatsByTicks wsX7_fails := goodIn_r _ [36, 1, 37, 38, 39, 40, 41, 42, 43, 44, 45, 46, 47, 48, 49, 50, 51, 52, 53, 54, 55, 56, 57, 58, 59, 60, 61, 62, 63, 64, 65, 66, 67] (by decide +kernel) (by decide +kernel)
set_option maxRecDepth 20000 in
theorem gX7_beatsByTicks_X7_fails : GoodIn wsX7_beatsByTicks (wsV RX7 86 RX7 yX7_fails wsX7_fails) := goodIn_app (goodIn_of _ (by decide +kernel)) ggX7_beatsByTicks_X7_fails
theorem dX7_beatsByTicks_0 : decode cX7_beatsByTicks 0 = .ok (.aload_n 0, 1) := by decide +kernel
theorem dX7_beatsByTicks_1 : decode cX7_beatsByTicks 1 = .ok (.iconst 0, 1) := by decide +kernel
theorem dX7_beatsByTicks_2 : decode cX7_beatsByTicks 2 = .ok (.putfield 75, 3) := by decide +kernel
theorem dX7_beatsByTicks_5 : decode cX7_beatsByTicks 5 = .ok (.iload_n 1, 1) := by decide +kernel
theorem dX7_beatsByTicks_6 : decode cX7_beatsByTicks 6 = .ok (.invokestatic 97, 3) := by decide +kernel
theorem dX7_beatsByTicks_9 : decode cX7_beatsByTicks 9 = .ok (.ifCond .eq 11, 3) := by decide +kernel
theorem dX7_beatsByTicks_12 : decode cX7_beatsByTicks 12 = .ok (.aload_n 0, 1) := by decide +kernel
theorem dX7_beatsByTicks_13 : decode cX7_beatsByTicks 13 = .ok (.iload_n 1, 1) := by decide +kernel
theorem dX7_beatsByTicks_14 : decode cX7_beatsByTicks 14 = .ok (.invokevirtual 108, 3) := by decide +kernel
theorem dX7_beatsByTicks_17 : decode cX7_beatsByTicks 17 = .ok (.goto 8, 3) := by decide +kernel
theorem dX7_beatsByTicks_20 : decode cX7_beatsByTicks 20 = .ok (.aload_n 0, 1) := by decide +kernel
theorem dX7_beatsByTicks_21 : decode cX7_beatsByTicks 21 = .ok (.iconst 1, 1) := by decide +kernel
theorem dX7_beatsByTicks_22 : decode cX7_beatsByTicks 22 = .ok (.invokevirtual 86, 3) := by decide +kernel
theorem dX7_beatsByTicks_25 : decode cX7_beatsByTicks 25 = .ok (.ireturn, 1) := by decide +kernel
set_option maxRecDepth 20000 in
theorem ggX7_addToSet_X7_isSong : GoodIn wsX7_addToSet wsX7_isSong := goodIn_r _ [8, 9, 10, 7, 11] (by decide +kernel) (by decide +kernel)
set_option maxRecDepth 20000 in
theorem gX7_addToSet_X7_isSong : GoodIn wsX7_addToSet (va_wsS RX7 97 yX7_isSong wsX7_isSong) := goodIn_app (goodIn_of _ (by decide +kernel)) ggX7_addToSet_X7_isSong
set_option maxRecDepth 20000 in
theorem ggX7_addToSet_X7_fails : GoodIn wsX7_addToSet wsX7_fails := goodIn_r _ [15, 1, 16, 17, 18, 19, 20, 21, 22, 23, 24, 25, 26, 27, 28, 29, 30, 31, 32, 33, 34, 35, 36, 37, 38, 39, 40, 41, 42, 43, 44, 45, 46] (by decide +kernel) (by decide +kernel)
set_option maxRecDepth 20000 in
theorem gX7_addToSet_X7_fails : GoodIn wsX7_addToSet (wsV RX7 86 RX7 yX7_fails wsX7_fails) := goodIn_app (goodIn_of _ (by decide +kernel)) ggX7_addToSet_X7_fails
theorem dX7_addToSet_0 : decode cX7_addToSet 0 = .ok (.aload_n 0, 1) := by decide +kernel
theorem dX7_addToSet_1 : decode cX7_addToSet 1 = .ok (.iconst 0, 1) := by decide +kernel
theorem dX7_addToSet_2 : decode cX7_addToSet 2 = .ok (.putfield 75, 3) := by decide +kernel
theorem dX7_addToSet_5 : decode cX7_addToSet 5 = .ok (.iload_n 1, 1) := by decide +kernel
theorem dX7_addToSet_6 : decode cX7_addToSet 6 = .ok (.invokestatic 97, 3) := by decide +kernel
theorem dX7_addToSet_9 : decode cX7_addToSet 9 = .ok (.ifCond .ne 9, 3) := by decide +kernel
theorem dX7_addToSet_12 : decode cX7_addToSet 12 = .ok (.aload_n 0, 1) := by decide +kernel
theorem dX7_addToSet_13 : decode cX7_addToSet 13 = .ok (.iconst 1, 1) := by decide +kernel
theorem dX7_addToSet_14 : decode cX7_addToSet 14 = .ok (.invokevirtual 86, 3) := by decide +kernel
theorem dX7_addToSet_17 : decode cX7_addToSet 17 = .ok (.ireturn, 1) := by decide +kernel
theorem dX7_addToSet_18 : decode cX7_addToSet 18 = .ok (.aload_n 0, 1) := by decide +kernel
theorem dX7_addToSet_19 : decode cX7_addToSet 19 = .ok (.getfield 111, 3) := by decide +kernel
theorem dX7_addToSet_22 : decode cX7_addToSet 22 = .ok (.bipush 8, 2) := by decide +kernel
theorem dX7_addToSet_24 : decode cX7_addToSet 24 = .ok (.if_icmp .eq 10, 3) := by decide +kernel
theorem dX7_addToSet_27 : decode cX7_addToSet 27 = .ok (.aload_n 0, 1) := by decide +kernel
theorem dX7_addToSet_28 : decode cX7_addToSet 28 = .ok (.getfield 90, 3) := by decide +kernel
theorem dX7_addToSet_31 : decode cX7_addToSet 31 = .ok (.ifCond .eq 9, 3) := by decide +kernel
theorem dX7_addToSet_34 : decode cX7_addToSet 34 = .ok (.aload_n 0, 1) := by decide +kernel
theorem dX7_addToSet_35 : decode cX7_addToSet 35 = .ok (.iconst 2, 1) := by decide +kernel
theorem dX7_addToSet_36 : decode cX7_addToSet 36 = .ok (.invokevirtual 86, 3) := by decide +kernel
theorem dX7_addToSet_39 : decode cX7_addToSet 39 = .ok (.ireturn, 1) := by decide +kernel
theorem dX7_addToSet_40 : decode cX7_addToSet 40 = .ok (.aload_n 0, 1) := by decide +kernel
theorem dX7_addToSet_41 : decode cX7_addToSet 41 = .ok (.getfield 50, 3) := by decide +kernel
theorem dX7_addToSet_44 : decode cX7_addToSet 44 = .ok (.aload_n 0, 1) := by decide +kernel
theorem dX7_addToSet_45 : decode cX7_addToSet 45 = .ok (.getfield 111, 3) := by decide +kernel
theorem dX7_addToSet_48 : decode cX7_addToSet 48 = .ok (.iload_n 1, 1) := by decide +kernel
theorem dX7_addToSet_49 : decode cX7_addToSet 49 = .ok (.iastore, 1) := by decide +kernel
theorem dX7_addToSet_50 : decode cX7_addToSet 50 = .ok (.aload_n 0, 1) := by decide +kernel
theorem dX7_addToSet_51 : decode cX7_addToSet 51 = .ok (.dup, 1) := by decide +kernel
theorem dX7_addToSet_52 : decode cX7_addToSet 52 = .ok (.getfield 111, 3) := by decide +kernel
theorem dX7_addToSet_55 : decode cX7_addToSet 55 = .ok (.iconst 1, 1) := by decide +kernel
theorem dX7_addToSet_56 : decode cX7_addToSet 56 = .ok (.iadd, 1) := by decide +kernel
theorem dX7_addToSet_57 : decode cX7_addToSet 57 = .ok (.putfield 111, 3) := by decide +kernel
theorem dX7_addToSet_60 : decode cX7_addToSet 60 = .ok (.aload_n 0, 1) := by decide +kernel
theorem dX7_addToSet_61 : decode cX7_addToSet 61 = .ok (.getfield 111, 3) := by decide +kernel
theorem dX7_addToSet_64 : decode cX7_addToSet 64 = .ok (.ireturn, 1) := by decide +kernel
set_option maxRecDepth 20000 in
theorem ggX7_clearSet_X7_fails : GoodIn wsX7_clearSet wsX7_fails := goodIn_r _ [8, 1, 9, 10, 11, 12, 13, 14, 15, 16, 17, 18, 19, 20, 21, 22, 23, 24, 25, 26, 27, 28, 29, 30, 31, 32, 33, 34, 35, 36, 37, 38, 39] (by decide +kernel) (by decide +kernel)
set_option maxRecDepth 20000 in
theorem gX7_clearSet_X7_fails : GoodIn wsX7_clearSet (wsV RX7 86 RX7 yX7_fails wsX7_fails) := goodIn_app (goodIn_of _ (by decide +kernel)) ggX7_clearSet_X7_fails
theorem dX7_clearSet_0 : decode cX7_clearSet 0 = .ok (.aload_n 0, 1) := by decide +kernel
theorem dX7_clearSet_1 : decode cX7_clearSet 1 = .ok (.iconst 0, 1) := by decide +kernel
theorem dX7_clearSet_2 : decode cX7_clearSet 2 = .ok (.putfield 75, 3) := by decide +kernel
theorem dX7_clearSet_5 : decode cX7_clearSet 5 = .ok (.aload_n 0, 1) := by decide +kernel
theorem dX7_clearSet_6 : decode cX7_clearSet 6 = .ok (.getfield 90, 3) := by decide +kernel
theorem dX7_clearSet_9 : decode cX7_clearSet 9 = .ok (.ifCond .eq 9, 3) := by decide +kernel
theorem dX7_clearSet_12 : decode cX7_clearSet 12 = .ok (.aload_n 0, 1) := by decide +kernel
theorem dX7_clearSet_13 : decode cX7_clearSet 13 = .ok (.iconst 1, 1) := by decide +kernel
theorem dX7_clearSet_14 : decode cX7_clearSet 14 = .ok (.invokevirtual 86, 3) := by decide +kernel
theorem dX7_clearSet_17 : decode cX7_clearSet 17 = .ok (.ireturn, 1) := by decide +kernel
theorem dX7_clearSet_18 : decode cX7_clearSet 18 = .ok (.aload_n 0, 1) := by decide +kernel
theorem dX7_clearSet_19 : decode cX7_clearSet 19 = .ok (.getfield 111, 3) := by decide +kernel
theorem dX7_clearSet_22 : decode cX7_clearSet 22 = .ok (.istore_n 1, 1) := by decide +kernel
theorem dX7_clearSet_23 : decode cX7_clearSet 23 = .ok (.aload_n 0, 1) := by decide +kernel
theorem dX7_clearSet_24 : decode cX7_clearSet 24 = .ok (.iconst 0, 1) := by decide +kernel
theorem dX7_clearSet_25 : decode cX7_clearSet 25 = .ok (.putfield 111, 3) := by decide +kernel
theorem dX7_clearSet_28 : decode cX7_clearSet 28 = .ok (.iload_n 1, 1) := by decide +kernel
theorem dX7_clearSet_29 : decode cX7_clearSet 29 = .ok (.ireturn, 1) := by decide +kernel
set_option maxRecDepth 20000 in
theorem ggX7_start_X7_fails : GoodIn wsX7_start wsX7_fails := goodIn_r _ [17, 1, 31, 32, 33, 34, 35, 36, 37, 38, 39, 40, 41, 42, 43, 44, 45, 46, 47, 48, 49, 50, 51, 52, 53, 54, 55, 56, 57, 58, 59, 60, 61] (by decide +kernel) (by decide +kernel)
set_option maxRecDepth 20000 in
theorem gX7_start_X7_fails : GoodIn wsX7_start (wsV RX7 86 RX7 yX7_fails wsX7_fails) := goodIn_app (goodIn_of _ (by decide +kernel)) ggX7_start_X7_fails
set_option maxRecDepth 20000 in
theorem ggX7_start_X7_lays : GoodIn wsX7_start wsX7_lays := goodIn_r _ [21, 22, 23, 4, 24, 25, 26, 27, 28, 29, 30, 31, 32, 33, 34, 35, 36, 37, 38, 39, 40, 41, 42, 43, 44, 45, 46, 47, 48, 49, 50, 51, 52, 53, 54, 55, 56, 57, 58, 59, 60, 61] (by decide +kernel) (by decide +kernel)
set_option maxRecDepth 20000 in
theorem gX7_start_X7_lays : GoodIn wsX7_start (wsV RX7 100 RX7 yX7_lays wsX7_lays) := goodIn_app (goodIn_of _ (by decide +kernel)) ggX7_start_X7_lays
theorem dX7_start_0 : decode cX7_start 0 = .ok (.aload_n 0, 1) := by decide +kernel
theorem dX7_start_1 : decode cX7_start 1 = .ok (.iconst 0, 1) := by decide +kernel
theorem dX7_start_2 : decode cX7_start 2 = .ok (.putfield 75, 3) := by decide +kernel
theorem dX7_start_5 : decode cX7_start 5 = .ok (.aload_n 0, 1) := by decide +kernel
theorem dX7_start_6 : decode cX7_start 6 = .ok (.getfield 90, 3) := by decide +kernel
theorem dX7_start_9 : decode cX7_start 9 = .ok (.ifCond .ne 14, 3) := by decide +kernel
theorem dX7_start_12 : decode cX7_start 12 = .ok (.aload_n 0, 1) := by decide +kernel
theorem dX7_start_13 : decode cX7_start 13 = .ok (.getfield 111, 3) := by decide +kernel
theorem dX7_start_16 : decode cX7_start 16 = .ok (.ifCond .le 7, 3) := by decide +kernel
theorem dX7_start_19 : decode cX7_start 19 = .ok (.iconst 1, 1) := by decide +kernel
theorem dX7_start_20 : decode cX7_start 20 = .ok (.goto 4, 3) := by decide +kernel
theorem dX7_start_23 : decode cX7_start 23 = .ok (.iconst 0, 1) := by decide +kernel
theorem dX7_start_24 : decode cX7_start 24 = .ok (.istore_n 1, 1) := by decide +kernel
theorem dX7_start_25 : decode cX7_start 25 = .ok (.iconst 0, 1) := by decide +kernel
theorem dX7_start_26 : decode cX7_start 26 = .ok (.istore_n 2, 1) := by decide +kernel
theorem dX7_start_27 : decode cX7_start 27 = .ok (.iload_n 2, 1) := by decide +kernel
theorem dX7_start_28 : decode cX7_start 28 = .ok (.aload_n 0, 1) := by decide +kernel
theorem dX7_start_29 : decode cX7_start 29 = .ok (.getfield 111, 3) := by decide +kernel
theorem dX7_start_32 : decode cX7_start 32 = .ok (.if_icmp .ge 33, 3) := by decide +kernel
theorem dX7_start_35 : decode cX7_start 35 = .ok (.iload_n 1, 1) := by decide +kernel
theorem dX7_start_36 : decode cX7_start 36 = .ok (.ifCond .eq 21, 3) := by decide +kernel
theorem dX7_start_39 : decode cX7_start 39 = .ok (.aload_n 0, 1) := by decide +kernel
theorem dX7_start_40 : decode cX7_start 40 = .ok (.getfield 35, 3) := by decide +kernel
theorem dX7_start_43 : decode cX7_start 43 = .ok (.aload_n 0, 1) := by decide +kernel
theorem dX7_start_44 : decode cX7_start 44 = .ok (.getfield 50, 3) := by decide +kernel
theorem dX7_start_47 : decode cX7_start 47 = .ok (.iload_n 2, 1) := by decide +kernel
theorem dX7_start_48 : decode cX7_start 48 = .ok (.iaload, 1) := by decide +kernel
theorem dX7_start_49 : decode cX7_start 49 = .ok (.iaload, 1) := by decide +kernel
theorem dX7_start_50 : decode cX7_start 50 = .ok (.ifCond .le 7, 3) := by decide +kernel
theorem dX7_start_53 : decode cX7_start 53 = .ok (.iconst 1, 1) := by decide +kernel
theorem dX7_start_54 : decode cX7_start 54 = .ok (.goto 4, 3) := by decide +kernel
theorem dX7_start_57 : decode cX7_start 57 = .ok (.iconst 0, 1) := by decide +kernel
theorem dX7_start_58 : decode cX7_start 58 = .ok (.istore_n 1, 1) := by decide +kernel
theorem dX7_start_59 : decode cX7_start 59 = .ok (.iinc 2 1, 3) := by decide +kernel
theorem dX7_start_62 : decode cX7_start 62 = .ok (.goto (-35), 3) := by decide +kernel
theorem dX7_start_65 : decode cX7_start 65 = .ok (.iload_n 1, 1) := by decide +kernel
theorem dX7_start_66 : decode cX7_start 66 = .ok (.ifCond .ne 9, 3) := by decide +kernel
theorem dX7_start_69 : decode cX7_start 69 = .ok (.aload_n 0, 1) := by decide +kernel
theorem dX7_start_70 : decode cX7_start 70 = .ok (.iconst 1, 1) := by decide +kernel
theorem dX7_start_71 : decode cX7_start 71 = .ok (.invokevirtual 86, 3) := by decide +kernel
theorem dX7_start_74 : decode cX7_start 74 = .ok (.ireturn, 1) := by decide +kernel
theorem dX7_start_75 : decode cX7_start 75 = .ok (.iconst 0, 1) := by decide +kernel
theorem dX7_start_76 : decode cX7_start 76 = .ok (.istore_n 2, 1) := by decide +kernel
theorem dX7_start_77 : decode cX7_start 77 = .ok (.iconst 0, 1) := by decide +kernel
theorem dX7_start_78 : decode cX7_start 78 = .ok (.istore_n 3, 1) := by decide +kernel
theorem dX7_start_79 : decode cX7_start 79 = .ok (.iload_n 3, 1) := by decide +kernel
theorem dX7_start_80 : decode cX7_start 80 = .ok (.aload_n 0, 1) := by decide +kernel
theorem dX7_start_81 : decode cX7_start 81 = .ok (.getfield 111, 3) := by decide +kernel
theorem dX7_start_84 : decode cX7_start 84 = .ok (.if_icmp .ge 30, 3) := by decide +kernel
theorem dX7_start_87 : decode cX7_start 87 = .ok (.aload_n 0, 1) := by decide +kernel
theorem dX7_start_88 : decode cX7_start 88 = .ok (.getfield 59, 3) := by decide +kernel
theorem dX7_start_91 : decode cX7_start 91 = .ok (.iload_n 3, 1) := by decide +kernel
theorem dX7_start_92 : decode cX7_start 92 = .ok (.iload_n 2, 1) := by decide +kernel
theorem dX7_start_93 : decode cX7_start 93 = .ok (.iastore, 1) := by decide +kernel
theorem dX7_start_94 : decode cX7_start 94 = .ok (.iload_n 2, 1) := by decide +kernel
theorem dX7_start_95 : decode cX7_start 95 = .ok (.aload_n 0, 1) := by decide +kernel
theorem dX7_start_96 : decode cX7_start 96 = .ok (.aload_n 0, 1) := by decide +kernel
theorem dX7_start_97 : decode cX7_start 97 = .ok (.getfield 50, 3) := by decide +kernel
theorem dX7_start_100 : decode cX7_start 100 = .ok (.iload_n 3, 1) := by decide +kernel
theorem dX7_start_101 : decode cX7_start 101 = .ok (.iaload, 1) := by decide +kernel
theorem dX7_start_102 : decode cX7_start 102 = .ok (.iload_n 2, 1) := by decide +kernel
theorem dX7_start_103 : decode cX7_start 103 = .ok (.invokevirtual 100, 3) := by decide +kernel
theorem dX7_start_106 : decode cX7_start 106 = .ok (.iadd, 1) := by decide +kernel
theorem dX7_start_107 : decode cX7_start 107 = .ok (.istore_n 2, 1) := by decide +kernel
theorem dX7_start_108 : decode cX7_start 108 = .ok (.iinc 3 1, 3) := by decide +kernel
theorem dX7_start_111 : decode cX7_start 111 = .ok (.goto (-32), 3) := by decide +kernel
theorem dX7_start_114 : decode cX7_start 114 = .ok (.aload_n 0, 1) := by decide +kernel
theorem dX7_start_115 : decode cX7_start 115 = .ok (.getfield 59, 3) := by decide +kernel
theorem dX7_start_118 : decode cX7_start 118 = .ok (.aload_n 0, 1) := by decide +kernel
theorem dX7_start_119 : decode cX7_start 119 = .ok (.getfield 111, 3) := by decide +kernel
theorem dX7_start_122 : decode cX7_start 122 = .ok (.iload_n 2, 1) := by decide +kernel
theorem dX7_start_123 : decode cX7_start 123 = .ok (.iastore, 1) := by decide +kernel
theorem dX7_start_124 : decode cX7_start 124 = .ok (.iconst 0, 1) := by decide +kernel
theorem dX7_start_125 : decode cX7_start 125 = .ok (.istore_n 3, 1) := by decide +kernel
theorem dX7_start_126 : decode cX7_start 126 = .ok (.iload_n 3, 1) := by decide +kernel
theorem dX7_start_127 : decode cX7_start 127 = .ok (.bipush 8, 2) := by decide +kernel
theorem dX7_start_129 : decode cX7_start 129 = .ok (.if_icmp .ge 16, 3) := by decide +kernel
theorem dX7_start_132 : decode cX7_start 132 = .ok (.aload_n 0, 1) := by decide +kernel
theorem dX7_start_133 : decode cX7_start 133 = .ok (.getfield 68, 3) := by decide +kernel
theorem dX7_start_136 : decode cX7_start 136 = .ok (.iload_n 3, 1) := by decide +kernel
theorem dX7_start_137 : decode cX7_start 137 = .ok (.iconst 0, 1) := by decide +kernel
theorem dX7_start_138 : decode cX7_start 138 = .ok (.iastore, 1) := by decide +kernel
theorem dX7_start_139 : decode cX7_start 139 = .ok (.iinc 3 1, 3) := by decide +kernel
theorem dX7_start_142 : decode cX7_start 142 = .ok (.goto (-16), 3) := by decide +kernel
theorem dX7_start_145 : decode cX7_start 145 = .ok (.aload_n 0, 1) := by decide +kernel
theorem dX7_start_146 : decode cX7_start 146 = .ok (.iconst (-1), 1) := by decide +kernel
theorem dX7_start_147 : decode cX7_start 147 = .ok (.putfield 71, 3) := by decide +kernel
theorem dX7_start_150 : decode cX7_start 150 = .ok (.aload_n 0, 1) := by decide +kernel
theorem dX7_start_151 : decode cX7_start 151 = .ok (.iconst 0, 1) := by decide +kernel
theorem dX7_start_152 : decode cX7_start 152 = .ok (.putfield 114, 3) := by decide +kernel
theorem dX7_start_155 : decode cX7_start 155 = .ok (.aload_n 0, 1) := by decide +kernel
theorem dX7_start_156 : decode cX7_start 156 = .ok (.iconst 0, 1) := by decide +kernel
theorem dX7_start_157 : decode cX7_start 157 = .ok (.putfield 117, 3) := by decide +kernel
theorem dX7_start_160 : decode cX7_start 160 = .ok (.aload_n 0, 1) := by decide +kernel
theorem dX7_start_161 : decode cX7_start 161 = .ok (.iconst 0, 1) := by decide +kernel
theorem dX7_start_162 : decode cX7_start 162 = .ok (.putfield 120, 3) := by decide +kernel
theorem dX7_start_165 : decode cX7_start 165 = .ok (.aload_n 0, 1) := by decide +kernel
theorem dX7_start_166 : decode cX7_start 166 = .ok (.iconst 0, 1) := by decide +kernel
theorem dX7_start_167 : decode cX7_start 167 = .ok (.putfield 123, 3) := by decide +kernel
theorem dX7_start_170 : decode cX7_start 170 = .ok (.aload_n 0, 1) := by decide +kernel
theorem dX7_start_171 : decode cX7_start 171 = .ok (.iconst 1, 1) := by decide +kernel
theorem dX7_start_172 : decode cX7_start 172 = .ok (.putfield 90, 3) := by decide +kernel
theorem dX7_start_175 : decode cX7_start 175 = .ok (.iload_n 2, 1) := by decide +kernel
theorem dX7_start_176 : decode cX7_start 176 = .ok (.ireturn, 1) := by decide +kernel
theorem dX7_begins_0 : decode cX7_begins 0 = .ok (.bipush 12, 2) := by decide +kernel
theorem dX7_begins_2 : decode cX7_begins 2 = .ok (.iload_n 2, 1) := by decide +kernel
theorem dX7_begins_3 : decode cX7_begins 3 = .ok (.imul, 1) := by decide +kernel
theorem dX7_begins_4 : decode cX7_begins 4 = .ok (.iload_n 2, 1) := by decide +kernel
theorem dX7_begins_5 : decode cX7_begins 5 = .ok (.iconst 2, 1) := by decide +kernel
theorem dX7_begins_6 : decode cX7_begins 6 = .ok (.irem, 1) := by decide +kernel
theorem dX7_begins_7 : decode cX7_begins 7 = .ok (.aload_n 0, 1) := by decide +kernel
theorem dX7_begins_8 : decode cX7_begins 8 = .ok (.getfield 22, 3) := by decide +kernel
theorem dX7_begins_11 : decode cX7_begins 11 = .ok (.aload_n 0, 1) := by decide +kernel
theorem dX7_begins_12 : decode cX7_begins 12 = .ok (.getfield 53, 3) := by decide +kernel
theorem dX7_begins_15 : decode cX7_begins 15 = .ok (.iload_n 1, 1) := by decide +kernel
theorem dX7_begins_16 : decode cX7_begins 16 = .ok (.iaload, 1) := by decide +kernel
theorem dX7_begins_17 : decode cX7_begins 17 = .ok (.iaload, 1) := by decide +kernel
theorem dX7_begins_18 : decode cX7_begins 18 = .ok (.imul, 1) := by decide +kernel
theorem dX7_begins_19 : decode cX7_begins 19 = .ok (.iadd, 1) := by decide +kernel
theorem dX7_begins_20 : decode cX7_begins 20 = .ok (.ireturn, 1) := by decide +kernel
set_option maxRecDepth 20000 in
theorem ggX7_next_X7_begins : GoodIn wsX7_next wsX7_begins := goodIn_r _ [9, 10, 11, 19, 20, 21, 22, 23, 24, 25, 26, 27, 28, 29, 30, 31, 32, 33, 34, 35, 36, 37, 38, 39, 40, 41, 42, 43, 44, 45, 46, 47, 48, 49] (by decide +kernel) (by decide +kernel)
set_option maxRecDepth 20000 in
theorem gX7_next_X7_begins : GoodIn wsX7_next (wsV RX7 126 RX7 yX7_begins wsX7_begins) := goodIn_app (goodIn_of _ (by decide +kernel)) ggX7_next_X7_begins
set_option maxRecDepth 20000 in
theorem ggX7_next_X7_sampleAt : GoodIn wsX7_next wsX7_sampleAt := goodIn_r _ [15, 11, 16, 17, 18, 19, 20, 21, 22, 23, 24, 25, 26, 27, 28, 29, 30, 31, 32, 33, 34, 35, 36, 37, 38, 39, 40, 41, 42, 43, 44, 45, 46, 47, 48, 49] (by decide +kernel) (by decide +kernel)
set_option maxRecDepth 20000 in
theorem gX7_next_X7_sampleAt : GoodIn wsX7_next (wsV RX7 104 RX7 yX7_sampleAt wsX7_sampleAt) := goodIn_app (goodIn_of _ (by decide +kernel)) ggX7_next_X7_sampleAt
theorem dX7_next_0 : decode cX7_next 0 = .ok (.aload_n 0, 1) := by decide +kernel
theorem dX7_next_1 : decode cX7_next 1 = .ok (.getfield 120, 3) := by decide +kernel
theorem dX7_next_4 : decode cX7_next 4 = .ok (.istore_n 2, 1) := by decide +kernel
theorem dX7_next_5 : decode cX7_next 5 = .ok (.iload_n 2, 1) := by decide +kernel
theorem dX7_next_6 : decode cX7_next 6 = .ok (.aload_n 0, 1) := by decide +kernel
theorem dX7_next_7 : decode cX7_next 7 = .ok (.getfield 120, 3) := by decide +kernel
theorem dX7_next_10 : decode cX7_next 10 = .ok (.iconst 3, 1) := by decide +kernel
theorem dX7_next_11 : decode cX7_next 11 = .ok (.iadd, 1) := by decide +kernel
theorem dX7_next_12 : decode cX7_next 12 = .ok (.if_icmp .gt 95, 3) := by decide +kernel
theorem dX7_next_15 : decode cX7_next 15 = .ok (.iload_n 2, 1) := by decide +kernel
theorem dX7_next_16 : decode cX7_next 16 = .ok (.aload_n 0, 1) := by decide +kernel
theorem dX7_next_17 : decode cX7_next 17 = .ok (.getfield 59, 3) := by decide +kernel
theorem dX7_next_20 : decode cX7_next 20 = .ok (.aload_n 0, 1) := by decide +kernel
theorem dX7_next_21 : decode cX7_next 21 = .ok (.getfield 111, 3) := by decide +kernel
theorem dX7_next_24 : decode cX7_next 24 = .ok (.iaload, 1) := by decide +kernel
theorem dX7_next_25 : decode cX7_next 25 = .ok (.if_icmp .ge 82, 3) := by decide +kernel
theorem dX7_next_28 : decode cX7_next 28 = .ok (.iconst 0, 1) := by decide +kernel
theorem dX7_next_29 : decode cX7_next 29 = .ok (.istore_n 3, 1) := by decide +kernel
theorem dX7_next_30 : decode cX7_next 30 = .ok (.iload_n 3, 1) := by decide +kernel
theorem dX7_next_31 : decode cX7_next 31 = .ok (.bipush 16, 2) := by decide +kernel
theorem dX7_next_33 : decode cX7_next 33 = .ok (.if_icmp .ge 68, 3) := by decide +kernel
theorem dX7_next_36 : decode cX7_next 36 = .ok (.sipush 192, 3) := by decide +kernel
theorem dX7_next_39 : decode cX7_next 39 = .ok (.iload_n 2, 1) := by decide +kernel
theorem dX7_next_40 : decode cX7_next 40 = .ok (.aload_n 0, 1) := by decide +kernel
theorem dX7_next_41 : decode cX7_next 41 = .ok (.getfield 120, 3) := by decide +kernel
theorem dX7_next_44 : decode cX7_next 44 = .ok (.isub, 1) := by decide +kernel
theorem dX7_next_45 : decode cX7_next 45 = .ok (.imul, 1) := by decide +kernel
theorem dX7_next_46 : decode cX7_next 46 = .ok (.aload_n 0, 1) := by decide +kernel
theorem dX7_next_47 : decode cX7_next 47 = .ok (.iload_n 2, 1) := by decide +kernel
theorem dX7_next_48 : decode cX7_next 48 = .ok (.iload_n 3, 1) := by decide +kernel
theorem dX7_next_49 : decode cX7_next 49 = .ok (.invokevirtual 126, 3) := by decide +kernel
theorem dX7_next_52 : decode cX7_next 52 = .ok (.iadd, 1) := by decide +kernel
theorem dX7_next_53 : decode cX7_next 53 = .ok (.aload_n 0, 1) := by decide +kernel
theorem dX7_next_54 : decode cX7_next 54 = .ok (.getfield 123, 3) := by decide +kernel
theorem dX7_next_57 : decode cX7_next 57 = .ok (.isub, 1) := by decide +kernel
theorem dX7_next_58 : decode cX7_next 58 = .ok (.istore 4, 2) := by decide +kernel
theorem dX7_next_60 : decode cX7_next 60 = .ok (.iconst 0, 1) := by decide +kernel
theorem dX7_next_61 : decode cX7_next 61 = .ok (.istore 5, 2) := by decide +kernel
theorem dX7_next_63 : decode cX7_next 63 = .ok (.iload 5, 2) := by decide +kernel
theorem dX7_next_65 : decode cX7_next 65 = .ok (.iconst 4, 1) := by decide +kernel
theorem dX7_next_66 : decode cX7_next 66 = .ok (.if_icmp .ge 29, 3) := by decide +kernel
theorem dX7_next_69 : decode cX7_next 69 = .ok (.iload 4, 2) := by decide +kernel
theorem dX7_next_71 : decode cX7_next 71 = .ok (.ifCond .le 18, 3) := by decide +kernel
theorem dX7_next_74 : decode cX7_next 74 = .ok (.aload_n 0, 1) := by decide +kernel
theorem dX7_next_75 : decode cX7_next 75 = .ok (.iload_n 2, 1) := by decide +kernel
theorem dX7_next_76 : decode cX7_next 76 = .ok (.iload 5, 2) := by decide +kernel
theorem dX7_next_78 : decode cX7_next 78 = .ok (.iload_n 3, 1) := by decide +kernel
theorem dX7_next_79 : decode cX7_next 79 = .ok (.invokevirtual 104, 3) := by decide +kernel
theorem dX7_next_82 : decode cX7_next 82 = .ok (.iload_n 1, 1) := by decide +kernel
theorem dX7_next_83 : decode cX7_next 83 = .ok (.if_icmp .ne 6, 3) := by decide +kernel
theorem dX7_next_86 : decode cX7_next 86 = .ok (.iload 4, 2) := by decide +kernel
theorem dX7_next_88 : decode cX7_next 88 = .ok (.ireturn, 1) := by decide +kernel
theorem dX7_next_89 : decode cX7_next 89 = .ok (.iinc 5 1, 3) := by decide +kernel
theorem dX7_next_92 : decode cX7_next 92 = .ok (.goto (-29), 3) := by decide +kernel
theorem dX7_next_95 : decode cX7_next 95 = .ok (.iinc 3 1, 3) := by decide +kernel
theorem dX7_next_98 : decode cX7_next 98 = .ok (.goto (-68), 3) := by decide +kernel
theorem dX7_next_101 : decode cX7_next 101 = .ok (.iinc 2 1, 3) := by decide +kernel
theorem dX7_next_104 : decode cX7_next 104 = .ok (.goto (-99), 3) := by decide +kernel
theorem dX7_next_107 : decode cX7_next 107 = .ok (.iconst (-1), 1) := by decide +kernel
theorem dX7_next_108 : decode cX7_next 108 = .ok (.ireturn, 1) := by decide +kernel
theorem dX7_pages_0 : decode cX7_pages 0 = .ok (.aload_n 0, 1) := by decide +kernel
theorem dX7_pages_1 : decode cX7_pages 1 = .ok (.getfield 71, 3) := by decide +kernel
theorem dX7_pages_4 : decode cX7_pages 4 = .ok (.iconst (-1), 1) := by decide +kernel
theorem dX7_pages_5 : decode cX7_pages 5 = .ok (.if_icmp .ne 7, 3) := by decide +kernel
theorem dX7_pages_8 : decode cX7_pages 8 = .ok (.iconst 0, 1) := by decide +kernel
theorem dX7_pages_9 : decode cX7_pages 9 = .ok (.goto 4, 3) := by decide +kernel
theorem dX7_pages_12 : decode cX7_pages 12 = .ok (.iconst 1, 1) := by decide +kernel
theorem dX7_pages_13 : decode cX7_pages 13 = .ok (.istore_n 1, 1) := by decide +kernel
theorem dX7_pages_14 : decode cX7_pages 14 = .ok (.iconst 0, 1) := by decide +kernel
theorem dX7_pages_15 : decode cX7_pages 15 = .ok (.istore_n 2, 1) := by decide +kernel
theorem dX7_pages_16 : decode cX7_pages 16 = .ok (.iload_n 2, 1) := by decide +kernel
theorem dX7_pages_17 : decode cX7_pages 17 = .ok (.bipush 8, 2) := by decide +kernel
theorem dX7_pages_19 : decode cX7_pages 19 = .ok (.if_icmp .ge 18, 3) := by decide +kernel
theorem dX7_pages_22 : decode cX7_pages 22 = .ok (.iload_n 1, 1) := by decide +kernel
theorem dX7_pages_23 : decode cX7_pages 23 = .ok (.aload_n 0, 1) := by decide +kernel
theorem dX7_pages_24 : decode cX7_pages 24 = .ok (.getfield 68, 3) := by decide +kernel
theorem dX7_pages_27 : decode cX7_pages 27 = .ok (.iload_n 2, 1) := by decide +kernel
theorem dX7_pages_28 : decode cX7_pages 28 = .ok (.iaload, 1) := by decide +kernel
theorem dX7_pages_29 : decode cX7_pages 29 = .ok (.iadd, 1) := by decide +kernel
theorem dX7_pages_30 : decode cX7_pages 30 = .ok (.istore_n 1, 1) := by decide +kernel
theorem dX7_pages_31 : decode cX7_pages 31 = .ok (.iinc 2 1, 3) := by decide +kernel
theorem dX7_pages_34 : decode cX7_pages 34 = .ok (.goto (-18), 3) := by decide +kernel
theorem dX7_pages_37 : decode cX7_pages 37 = .ok (.iload_n 1, 1) := by decide +kernel
theorem dX7_pages_38 : decode cX7_pages 38 = .ok (.ireturn, 1) := by decide +kernel
set_option maxRecDepth 20000 in
theorem ggX7_last_X7_next : GoodIn wsX7_last wsX7_next := goodIn_r _ [7, 8, 9, 10, 11, 12, 13, 14, 6, 15, 16, 17, 18, 19, 20, 21, 22, 23, 24, 25, 26, 27, 28, 29, 30, 31, 32, 33, 34, 35, 36, 37, 38, 39, 40, 41, 42, 43, 44, 45, 46, 47, 48, 49, 50, 51, 52, 53, 54, 55] (by decide +kernel) (by decide +kernel)
set_option maxRecDepth 20000 in
theorem gX7_last_X7_next : GoodIn wsX7_last (wsV RX7 129 RX7 yX7_next wsX7_next) := goodIn_app (goodIn_of _ (by decide +kernel)) ggX7_last_X7_next
theorem dX7_last_0 : decode cX7_last 0 = .ok (.iconst (-1), 1) := by decide +kernel
theorem dX7_last_1 : decode cX7_last 1 = .ok (.istore_n 2, 1) := by decide +kernel
theorem dX7_last_2 : decode cX7_last 2 = .ok (.iconst 0, 1) := by decide +kernel
theorem dX7_last_3 : decode cX7_last 3 = .ok (.istore_n 3, 1) := by decide +kernel
theorem dX7_last_4 : decode cX7_last 4 = .ok (.iconst 0, 1) := by decide +kernel
theorem dX7_last_5 : decode cX7_last 5 = .ok (.istore 4, 2) := by decide +kernel
theorem dX7_last_7 : decode cX7_last 7 = .ok (.iload 4, 2) := by decide +kernel
theorem dX7_last_9 : decode cX7_last 9 = .ok (.bipush 8, 2) := by decide +kernel
theorem dX7_last_11 : decode cX7_last 11 = .ok (.if_icmp .ge 60, 3) := by decide +kernel
theorem dX7_last_14 : decode cX7_last 14 = .ok (.aload_n 0, 1) := by decide +kernel
theorem dX7_last_15 : decode cX7_last 15 = .ok (.iload 4, 2) := by decide +kernel
theorem dX7_last_17 : decode cX7_last 17 = .ok (.invokevirtual 129, 3) := by decide +kernel
theorem dX7_last_20 : decode cX7_last 20 = .ok (.istore 5, 2) := by decide +kernel
theorem dX7_last_22 : decode cX7_last 22 = .ok (.iload 5, 2) := by decide +kernel
theorem dX7_last_24 : decode cX7_last 24 = .ok (.iconst (-1), 1) := by decide +kernel
theorem dX7_last_25 : decode cX7_last 25 = .ok (.if_icmp .ne 8, 3) := by decide +kernel
theorem dX7_last_28 : decode cX7_last 28 = .ok (.ldc 132, 2) := by decide +kernel
theorem dX7_last_30 : decode cX7_last 30 = .ok (.goto 5, 3) := by decide +kernel
theorem dX7_last_33 : decode cX7_last 33 = .ok (.iload 5, 2) := by decide +kernel
theorem dX7_last_35 : decode cX7_last 35 = .ok (.istore 5, 2) := by decide +kernel
theorem dX7_last_37 : decode cX7_last 37 = .ok (.iload 4, 2) := by decide +kernel
theorem dX7_last_39 : decode cX7_last 39 = .ok (.iload_n 1, 1) := by decide +kernel
theorem dX7_last_40 : decode cX7_last 40 = .ok (.if_icmp .eq 25, 3) := by decide +kernel
theorem dX7_last_43 : decode cX7_last 43 = .ok (.aload_n 0, 1) := by decide +kernel
theorem dX7_last_44 : decode cX7_last 44 = .ok (.getfield 68, 3) := by decide +kernel
theorem dX7_last_47 : decode cX7_last 47 = .ok (.iload 4, 2) := by decide +kernel
theorem dX7_last_49 : decode cX7_last 49 = .ok (.iaload, 1) := by decide +kernel
theorem dX7_last_50 : decode cX7_last 50 = .ok (.ifCond .le 15, 3) := by decide +kernel
theorem dX7_last_53 : decode cX7_last 53 = .ok (.iload 5, 2) := by decide +kernel
theorem dX7_last_55 : decode cX7_last 55 = .ok (.iload_n 3, 1) := by decide +kernel
theorem dX7_last_56 : decode cX7_last 56 = .ok (.if_icmp .lt 9, 3) := by decide +kernel
theorem dX7_last_59 : decode cX7_last 59 = .ok (.iload 4, 2) := by decide +kernel
theorem dX7_last_61 : decode cX7_last 61 = .ok (.istore_n 2, 1) := by decide +kernel
theorem dX7_last_62 : decode cX7_last 62 = .ok (.iload 5, 2) := by decide +kernel
theorem dX7_last_64 : decode cX7_last 64 = .ok (.istore_n 3, 1) := by decide +kernel
theorem dX7_last_65 : decode cX7_last 65 = .ok (.iinc 4 1, 3) := by decide +kernel
theorem dX7_last_68 : decode cX7_last 68 = .ok (.goto (-61), 3) := by decide +kernel
theorem dX7_last_71 : decode cX7_last 71 = .ok (.iload_n 2, 1) := by decide +kernel
theorem dX7_last_72 : decode cX7_last 72 = .ok (.ireturn, 1) := by decide +kernel
set_option maxRecDepth 20000 in
theorem ggX7_takes_X7_next : GoodIn wsX7_takes wsX7_next := goodIn_r _ [10, 11, 12, 13, 14, 15, 16, 17, 9, 18, 19, 20, 21, 22, 23, 24, 25, 26, 27, 36, 37, 38, 39, 40, 41, 42, 43, 44, 45, 46, 47, 48, 49, 50, 51, 52, 53, 54, 55, 56, 57, 58, 59, 60, 61, 62, 63, 64, 65, 66] (by decide +kernel) (by decide +kernel)
set_option maxRecDepth 20000 in
theorem gX7_takes_X7_next : GoodIn wsX7_takes (wsV RX7 129 RX7 yX7_next wsX7_next) := goodIn_app (goodIn_of _ (by decide +kernel)) ggX7_takes_X7_next
set_option maxRecDepth 20000 in
theorem ggX7_takes_X7_pages : GoodIn wsX7_takes wsX7_pages := goodIn_r _ [31, 4, 2, 36, 37, 38, 39, 40, 41, 42, 43, 44, 45, 46, 47, 48, 49, 50, 51, 52, 53, 54, 55, 56, 57, 58, 59, 60, 61, 62, 63, 64, 65, 66] (by decide +kernel) (by decide +kernel)
set_option maxRecDepth 20000 in
theorem gX7_takes_X7_pages : GoodIn wsX7_takes (wsV RX7 133 RX7 yX7_pages wsX7_pages) := goodIn_app (goodIn_of _ (by decide +kernel)) ggX7_takes_X7_pages
set_option maxRecDepth 20000 in
theorem ggX7_takes_X7_last : GoodIn wsX7_takes wsX7_last := goodIn_r _ [35, 1, 2, 6, 7, 8, 9, 10, 11, 12, 13, 14, 15, 16, 17, 18, 19, 20, 21, 22, 23, 24, 25, 26, 27, 36, 37, 38, 39, 40, 41, 42, 43, 44, 45, 46, 47, 48, 49, 50, 51, 52, 53, 54, 55, 56, 57, 58, 59, 60, 61, 62, 63, 64, 65, 66] (by decide +kernel) (by decide +kernel)
set_option maxRecDepth 20000 in
theorem gX7_takes_X7_last : GoodIn wsX7_takes (wsV RX7 137 RX7 yX7_last wsX7_last) := goodIn_app (goodIn_of _ (by decide +kernel)) ggX7_takes_X7_last
theorem dX7_takes_0 : decode cX7_takes 0 = .ok (.iconst (-1), 1) := by decide +kernel
theorem dX7_takes_1 : decode cX7_takes 1 = .ok (.istore_n 1, 1) := by decide +kernel
theorem dX7_takes_2 : decode cX7_takes 2 = .ok (.ldc 132, 2) := by decide +kernel
theorem dX7_takes_4 : decode cX7_takes 4 = .ok (.istore_n 2, 1) := by decide +kernel
theorem dX7_takes_5 : decode cX7_takes 5 = .ok (.iconst 0, 1) := by decide +kernel
theorem dX7_takes_6 : decode cX7_takes 6 = .ok (.istore_n 3, 1) := by decide +kernel
theorem dX7_takes_7 : decode cX7_takes 7 = .ok (.iload_n 3, 1) := by decide +kernel
theorem dX7_takes_8 : decode cX7_takes 8 = .ok (.bipush 8, 2) := by decide +kernel
theorem dX7_takes_10 : decode cX7_takes 10 = .ok (.if_icmp .ge 52, 3) := by decide +kernel
theorem dX7_takes_13 : decode cX7_takes 13 = .ok (.aload_n 0, 1) := by decide +kernel
theorem dX7_takes_14 : decode cX7_takes 14 = .ok (.getfield 68, 3) := by decide +kernel
theorem dX7_takes_17 : decode cX7_takes 17 = .ok (.iload_n 3, 1) := by decide +kernel
theorem dX7_takes_18 : decode cX7_takes 18 = .ok (.iaload, 1) := by decide +kernel
theorem dX7_takes_19 : decode cX7_takes 19 = .ok (.aload_n 0, 1) := by decide +kernel
theorem dX7_takes_20 : decode cX7_takes 20 = .ok (.getfield 7, 3) := by decide +kernel
theorem dX7_takes_23 : decode cX7_takes 23 = .ok (.iload_n 3, 1) := by decide +kernel
theorem dX7_takes_24 : decode cX7_takes 24 = .ok (.iaload, 1) := by decide +kernel
theorem dX7_takes_25 : decode cX7_takes 25 = .ok (.if_icmp .ge 11, 3) := by decide +kernel
theorem dX7_takes_28 : decode cX7_takes 28 = .ok (.aload_n 0, 1) := by decide +kernel
theorem dX7_takes_29 : decode cX7_takes 29 = .ok (.iload_n 3, 1) := by decide +kernel
theorem dX7_takes_30 : decode cX7_takes 30 = .ok (.invokevirtual 129, 3) := by decide +kernel
theorem dX7_takes_33 : decode cX7_takes 33 = .ok (.goto 4, 3) := by decide +kernel
theorem dX7_takes_36 : decode cX7_takes 36 = .ok (.iconst (-1), 1) := by decide +kernel
theorem dX7_takes_37 : decode cX7_takes 37 = .ok (.istore 4, 2) := by decide +kernel
theorem dX7_takes_39 : decode cX7_takes 39 = .ok (.iload 4, 2) := by decide +kernel
theorem dX7_takes_41 : decode cX7_takes 41 = .ok (.iconst (-1), 1) := by decide +kernel
theorem dX7_takes_42 : decode cX7_takes 42 = .ok (.if_icmp .eq 14, 3) := by decide +kernel
theorem dX7_takes_45 : decode cX7_takes 45 = .ok (.iload 4, 2) := by decide +kernel
theorem dX7_takes_47 : decode cX7_takes 47 = .ok (.iload_n 2, 1) := by decide +kernel
theorem dX7_takes_48 : decode cX7_takes 48 = .ok (.if_icmp .ge 8, 3) := by decide +kernel
theorem dX7_takes_51 : decode cX7_takes 51 = .ok (.iload_n 3, 1) := by decide +kernel
theorem dX7_takes_52 : decode cX7_takes 52 = .ok (.istore_n 1, 1) := by decide +kernel
theorem dX7_takes_53 : decode cX7_takes 53 = .ok (.iload 4, 2) := by decide +kernel
theorem dX7_takes_55 : decode cX7_takes 55 = .ok (.istore_n 2, 1) := by decide +kernel
theorem dX7_takes_56 : decode cX7_takes 56 = .ok (.iinc 3 1, 3) := by decide +kernel
theorem dX7_takes_59 : decode cX7_takes 59 = .ok (.goto (-52), 3) := by decide +kernel
theorem dX7_takes_62 : decode cX7_takes 62 = .ok (.iload_n 1, 1) := by decide +kernel
theorem dX7_takes_63 : decode cX7_takes 63 = .ok (.iconst (-1), 1) := by decide +kernel
theorem dX7_takes_64 : decode cX7_takes 64 = .ok (.if_icmp .ne 4, 3) := by decide +kernel
theorem dX7_takes_67 : decode cX7_takes 67 = .ok (.return_, 1) := by decide +kernel
theorem dX7_takes_68 : decode cX7_takes 68 = .ok (.aload_n 0, 1) := by decide +kernel
theorem dX7_takes_69 : decode cX7_takes 69 = .ok (.invokevirtual 133, 3) := by decide +kernel
theorem dX7_takes_72 : decode cX7_takes 72 = .ok (.bipush 12, 2) := by decide +kernel
theorem dX7_takes_74 : decode cX7_takes 74 = .ok (.if_icmp .ne 48, 3) := by decide +kernel
theorem dX7_takes_77 : decode cX7_takes 77 = .ok (.aload_n 0, 1) := by decide +kernel
theorem dX7_takes_78 : decode cX7_takes 78 = .ok (.iload_n 1, 1) := by decide +kernel
theorem dX7_takes_79 : decode cX7_takes 79 = .ok (.invokevirtual 137, 3) := by decide +kernel
theorem dX7_takes_82 : decode cX7_takes 82 = .ok (.istore_n 3, 1) := by decide +kernel
theorem dX7_takes_83 : decode cX7_takes 83 = .ok (.iload_n 3, 1) := by decide +kernel
theorem dX7_takes_84 : decode cX7_takes 84 = .ok (.iconst (-1), 1) := by decide +kernel
theorem dX7_takes_85 : decode cX7_takes 85 = .ok (.if_icmp .ne 7, 3) := by decide +kernel
theorem dX7_takes_88 : decode cX7_takes 88 = .ok (.iconst 0, 1) := by decide +kernel
theorem dX7_takes_89 : decode cX7_takes 89 = .ok (.goto 8, 3) := by decide +kernel
theorem dX7_takes_92 : decode cX7_takes 92 = .ok (.aload_n 0, 1) := by decide +kernel
theorem dX7_takes_93 : decode cX7_takes 93 = .ok (.iload_n 3, 1) := by decide +kernel
theorem dX7_takes_94 : decode cX7_takes 94 = .ok (.invokevirtual 129, 3) := by decide +kernel
theorem dX7_takes_97 : decode cX7_takes 97 = .ok (.istore 4, 2) := by decide +kernel
theorem dX7_takes_99 : decode cX7_takes 99 = .ok (.iload 4, 2) := by decide +kernel
theorem dX7_takes_101 : decode cX7_takes 101 = .ok (.iconst (-1), 1) := by decide +kernel
theorem dX7_takes_102 : decode cX7_takes 102 = .ok (.if_icmp .eq 10, 3) := by decide +kernel
theorem dX7_takes_105 : decode cX7_takes 105 = .ok (.iload 4, 2) := by decide +kernel
theorem dX7_takes_107 : decode cX7_takes 107 = .ok (.iload_n 2, 1) := by decide +kernel
theorem dX7_takes_108 : decode cX7_takes 108 = .ok (.if_icmp .gt 4, 3) := by decide +kernel
theorem dX7_takes_111 : decode cX7_takes 111 = .ok (.return_, 1) := by decide +kernel
theorem dX7_takes_112 : decode cX7_takes 112 = .ok (.aload_n 0, 1) := by decide +kernel
theorem dX7_takes_113 : decode cX7_takes 113 = .ok (.getfield 68, 3) := by decide +kernel
theorem dX7_takes_116 : decode cX7_takes 116 = .ok (.iload_n 3, 1) := by decide +kernel
theorem dX7_takes_117 : decode cX7_takes 117 = .ok (.dup2, 1) := by decide +kernel
theorem dX7_takes_118 : decode cX7_takes 118 = .ok (.iaload, 1) := by decide +kernel
theorem dX7_takes_119 : decode cX7_takes 119 = .ok (.iconst 1, 1) := by decide +kernel
theorem dX7_takes_120 : decode cX7_takes 120 = .ok (.isub, 1) := by decide +kernel
theorem dX7_takes_121 : decode cX7_takes 121 = .ok (.iastore, 1) := by decide +kernel
theorem dX7_takes_122 : decode cX7_takes 122 = .ok (.aload_n 0, 1) := by decide +kernel
theorem dX7_takes_123 : decode cX7_takes 123 = .ok (.iload_n 1, 1) := by decide +kernel
theorem dX7_takes_124 : decode cX7_takes 124 = .ok (.putfield 71, 3) := by decide +kernel
theorem dX7_takes_127 : decode cX7_takes 127 = .ok (.aload_n 0, 1) := by decide +kernel
theorem dX7_takes_128 : decode cX7_takes 128 = .ok (.iconst 0, 1) := by decide +kernel
theorem dX7_takes_129 : decode cX7_takes 129 = .ok (.putfield 114, 3) := by decide +kernel
theorem dX7_takes_132 : decode cX7_takes 132 = .ok (.return_, 1) := by decide +kernel
set_option maxRecDepth 20000 in
theorem ggX7_uses_X7_begins : GoodIn wsX7_uses wsX7_begins := goodIn_r _ [16, 17, 6, 25, 26, 27, 28, 29, 30, 31, 32, 33, 34, 35, 36, 37, 38, 39, 40, 41, 42, 43, 44, 45, 46, 47, 48, 49, 50, 51, 52, 53, 54, 55] (by decide +kernel) (by decide +kernel)
set_option maxRecDepth 20000 in
theorem gX7_uses_X7_begins : GoodIn wsX7_uses (wsV RX7 126 RX7 yX7_begins wsX7_begins) := goodIn_app (goodIn_of _ (by decide +kernel)) ggX7_uses_X7_begins
set_option maxRecDepth 20000 in
theorem ggX7_uses_X7_sampleAt : GoodIn wsX7_uses wsX7_sampleAt := goodIn_r _ [21, 6, 22, 23, 24, 25, 26, 27, 28, 29, 30, 31, 32, 33, 34, 35, 36, 37, 38, 39, 40, 41, 42, 43, 44, 45, 46, 47, 48, 49, 50, 51, 52, 53, 54, 55] (by decide +kernel) (by decide +kernel)
set_option maxRecDepth 20000 in
theorem gX7_uses_X7_sampleAt : GoodIn wsX7_uses (wsV RX7 104 RX7 yX7_sampleAt wsX7_sampleAt) := goodIn_app (goodIn_of _ (by decide +kernel)) ggX7_uses_X7_sampleAt
theorem dX7_uses_0 : decode cX7_uses 0 = .ok (.iconst 0, 1) := by decide +kernel
theorem dX7_uses_1 : decode cX7_uses 1 = .ok (.istore_n 1, 1) := by decide +kernel
theorem dX7_uses_2 : decode cX7_uses 2 = .ok (.iload_n 1, 1) := by decide +kernel
theorem dX7_uses_3 : decode cX7_uses 3 = .ok (.bipush 16, 2) := by decide +kernel
theorem dX7_uses_5 : decode cX7_uses 5 = .ok (.if_icmp .ge 166, 3) := by decide +kernel
theorem dX7_uses_8 : decode cX7_uses 8 = .ok (.iconst 0, 1) := by decide +kernel
theorem dX7_uses_9 : decode cX7_uses 9 = .ok (.istore_n 2, 1) := by decide +kernel
theorem dX7_uses_10 : decode cX7_uses 10 = .ok (.iload_n 2, 1) := by decide +kernel
theorem dX7_uses_11 : decode cX7_uses 11 = .ok (.iconst 4, 1) := by decide +kernel
theorem dX7_uses_12 : decode cX7_uses 12 = .ok (.if_icmp .ge 153, 3) := by decide +kernel
theorem dX7_uses_15 : decode cX7_uses 15 = .ok (.aload_n 0, 1) := by decide +kernel
theorem dX7_uses_16 : decode cX7_uses 16 = .ok (.aload_n 0, 1) := by decide +kernel
theorem dX7_uses_17 : decode cX7_uses 17 = .ok (.getfield 120, 3) := by decide +kernel
theorem dX7_uses_20 : decode cX7_uses 20 = .ok (.iload_n 1, 1) := by decide +kernel
theorem dX7_uses_21 : decode cX7_uses 21 = .ok (.invokevirtual 126, 3) := by decide +kernel
theorem dX7_uses_24 : decode cX7_uses 24 = .ok (.aload_n 0, 1) := by decide +kernel
theorem dX7_uses_25 : decode cX7_uses 25 = .ok (.getfield 123, 3) := by decide +kernel
theorem dX7_uses_28 : decode cX7_uses 28 = .ok (.if_icmp .ne 137, 3) := by decide +kernel
theorem dX7_uses_31 : decode cX7_uses 31 = .ok (.aload_n 0, 1) := by decide +kernel
theorem dX7_uses_32 : decode cX7_uses 32 = .ok (.aload_n 0, 1) := by decide +kernel
theorem dX7_uses_33 : decode cX7_uses 33 = .ok (.getfield 120, 3) := by decide +kernel
theorem dX7_uses_36 : decode cX7_uses 36 = .ok (.iload_n 2, 1) := by decide +kernel
theorem dX7_uses_37 : decode cX7_uses 37 = .ok (.iload_n 1, 1) := by decide +kernel
theorem dX7_uses_38 : decode cX7_uses 38 = .ok (.invokevirtual 104, 3) := by decide +kernel
theorem dX7_uses_41 : decode cX7_uses 41 = .ok (.istore_n 3, 1) := by decide +kernel
theorem dX7_uses_42 : decode cX7_uses 42 = .ok (.iload_n 3, 1) := by decide +kernel
theorem dX7_uses_43 : decode cX7_uses 43 = .ok (.iconst (-1), 1) := by decide +kernel
theorem dX7_uses_44 : decode cX7_uses 44 = .ok (.if_icmp .eq 100, 3) := by decide +kernel
theorem dX7_uses_47 : decode cX7_uses 47 = .ok (.aload_n 0, 1) := by decide +kernel
theorem dX7_uses_48 : decode cX7_uses 48 = .ok (.getfield 68, 3) := by decide +kernel
theorem dX7_uses_51 : decode cX7_uses 51 = .ok (.iload_n 3, 1) := by decide +kernel
theorem dX7_uses_52 : decode cX7_uses 52 = .ok (.iaload, 1) := by decide +kernel
theorem dX7_uses_53 : decode cX7_uses 53 = .ok (.aload_n 0, 1) := by decide +kernel
theorem dX7_uses_54 : decode cX7_uses 54 = .ok (.getfield 7, 3) := by decide +kernel
theorem dX7_uses_57 : decode cX7_uses 57 = .ok (.iload_n 3, 1) := by decide +kernel
theorem dX7_uses_58 : decode cX7_uses 58 = .ok (.iaload, 1) := by decide +kernel
theorem dX7_uses_59 : decode cX7_uses 59 = .ok (.if_icmp .ne 85, 3) := by decide +kernel
theorem dX7_uses_62 : decode cX7_uses 62 = .ok (.aload_n 0, 1) := by decide +kernel
theorem dX7_uses_63 : decode cX7_uses 63 = .ok (.getfield 28, 3) := by decide +kernel
theorem dX7_uses_66 : decode cX7_uses 66 = .ok (.aload_n 0, 1) := by decide +kernel
theorem dX7_uses_67 : decode cX7_uses 67 = .ok (.getfield 53, 3) := by decide +kernel
theorem dX7_uses_70 : decode cX7_uses 70 = .ok (.aload_n 0, 1) := by decide +kernel
theorem dX7_uses_71 : decode cX7_uses 71 = .ok (.getfield 120, 3) := by decide +kernel
theorem dX7_uses_74 : decode cX7_uses 74 = .ok (.iaload, 1) := by decide +kernel
theorem dX7_uses_75 : decode cX7_uses 75 = .ok (.baload, 1) := by decide +kernel
theorem dX7_uses_76 : decode cX7_uses 76 = .ok (.ifCond .eq 25, 3) := by decide +kernel
theorem dX7_uses_79 : decode cX7_uses 79 = .ok (.aload_n 0, 1) := by decide +kernel
theorem dX7_uses_80 : decode cX7_uses 80 = .ok (.getfield 32, 3) := by decide +kernel
theorem dX7_uses_83 : decode cX7_uses 83 = .ok (.bipush 8, 2) := by decide +kernel
theorem dX7_uses_85 : decode cX7_uses 85 = .ok (.aload_n 0, 1) := by decide +kernel
theorem dX7_uses_86 : decode cX7_uses 86 = .ok (.getfield 53, 3) := by decide +kernel
theorem dX7_uses_89 : decode cX7_uses 89 = .ok (.aload_n 0, 1) := by decide +kernel
theorem dX7_uses_90 : decode cX7_uses 90 = .ok (.getfield 120, 3) := by decide +kernel
theorem dX7_uses_93 : decode cX7_uses 93 = .ok (.iaload, 1) := by decide +kernel
theorem dX7_uses_94 : decode cX7_uses 94 = .ok (.imul, 1) := by decide +kernel
theorem dX7_uses_95 : decode cX7_uses 95 = .ok (.iload_n 3, 1) := by decide +kernel
theorem dX7_uses_96 : decode cX7_uses 96 = .ok (.iadd, 1) := by decide +kernel
theorem dX7_uses_97 : decode cX7_uses 97 = .ok (.iaload, 1) := by decide +kernel
theorem dX7_uses_98 : decode cX7_uses 98 = .ok (.goto 9, 3) := by decide +kernel
theorem dX7_uses_101 : decode cX7_uses 101 = .ok (.aload_n 0, 1) := by decide +kernel
theorem dX7_uses_102 : decode cX7_uses 102 = .ok (.getfield 13, 3) := by decide +kernel
theorem dX7_uses_105 : decode cX7_uses 105 = .ok (.iload_n 3, 1) := by decide +kernel
theorem dX7_uses_106 : decode cX7_uses 106 = .ok (.iaload, 1) := by decide +kernel
theorem dX7_uses_107 : decode cX7_uses 107 = .ok (.istore 4, 2) := by decide +kernel
theorem dX7_uses_109 : decode cX7_uses 109 = .ok (.aload_n 0, 1) := by decide +kernel
theorem dX7_uses_110 : decode cX7_uses 110 = .ok (.dup, 1) := by decide +kernel
theorem dX7_uses_111 : decode cX7_uses 111 = .ok (.getfield 140, 3) := by decide +kernel
theorem dX7_uses_114 : decode cX7_uses 114 = .ok (.iconst 1, 1) := by decide +kernel
theorem dX7_uses_115 : decode cX7_uses 115 = .ok (.iadd, 1) := by decide +kernel
theorem dX7_uses_116 : decode cX7_uses 116 = .ok (.putfield 140, 3) := by decide +kernel
theorem dX7_uses_119 : decode cX7_uses 119 = .ok (.aload_n 0, 1) := by decide +kernel
theorem dX7_uses_120 : decode cX7_uses 120 = .ok (.bipush 31, 2) := by decide +kernel
theorem dX7_uses_122 : decode cX7_uses 122 = .ok (.aload_n 0, 1) := by decide +kernel
theorem dX7_uses_123 : decode cX7_uses 123 = .ok (.getfield 143, 3) := by decide +kernel
theorem dX7_uses_126 : decode cX7_uses 126 = .ok (.imul, 1) := by decide +kernel
theorem dX7_uses_127 : decode cX7_uses 127 = .ok (.bipush 100, 2) := by decide +kernel
theorem dX7_uses_129 : decode cX7_uses 129 = .ok (.iload_n 3, 1) := by decide +kernel
theorem dX7_uses_130 : decode cX7_uses 130 = .ok (.imul, 1) := by decide +kernel
theorem dX7_uses_131 : decode cX7_uses 131 = .ok (.iadd, 1) := by decide +kernel
theorem dX7_uses_132 : decode cX7_uses 132 = .ok (.iload 4, 2) := by decide +kernel
theorem dX7_uses_134 : decode cX7_uses 134 = .ok (.iadd, 1) := by decide +kernel
theorem dX7_uses_135 : decode cX7_uses 135 = .ok (.bipush 12, 2) := by decide +kernel
theorem dX7_uses_137 : decode cX7_uses 137 = .ok (.iadd, 1) := by decide +kernel
theorem dX7_uses_138 : decode cX7_uses 138 = .ok (.putfield 143, 3) := by decide +kernel
theorem dX7_uses_141 : decode cX7_uses 141 = .ok (.goto 18, 3) := by decide +kernel
theorem dX7_uses_144 : decode cX7_uses 144 = .ok (.iload_n 3, 1) := by decide +kernel
theorem dX7_uses_145 : decode cX7_uses 145 = .ok (.iconst (-1), 1) := by decide +kernel
theorem dX7_uses_146 : decode cX7_uses 146 = .ok (.if_icmp .eq 13, 3) := by decide +kernel
theorem dX7_uses_149 : decode cX7_uses 149 = .ok (.aload_n 0, 1) := by decide +kernel
theorem dX7_uses_150 : decode cX7_uses 150 = .ok (.dup, 1) := by decide +kernel
theorem dX7_uses_151 : decode cX7_uses 151 = .ok (.getfield 146, 3) := by decide +kernel
theorem dX7_uses_154 : decode cX7_uses 154 = .ok (.iconst 1, 1) := by decide +kernel
theorem dX7_uses_155 : decode cX7_uses 155 = .ok (.iadd, 1) := by decide +kernel
theorem dX7_uses_156 : decode cX7_uses 156 = .ok (.putfield 146, 3) := by decide +kernel
theorem dX7_uses_159 : decode cX7_uses 159 = .ok (.iinc 2 1, 3) := by decide +kernel
theorem dX7_uses_162 : decode cX7_uses 162 = .ok (.goto (-152), 3) := by decide +kernel
theorem dX7_uses_165 : decode cX7_uses 165 = .ok (.iinc 1 1, 3) := by decide +kernel
theorem dX7_uses_168 : decode cX7_uses 168 = .ok (.goto (-166), 3) := by decide +kernel
theorem dX7_uses_171 : decode cX7_uses 171 = .ok (.return_, 1) := by decide +kernel
set_option maxRecDepth 20000 in
theorem ggX7_passes_X7_uses : GoodIn wsX7_passes wsX7_uses := goodIn_r _ [14, 5, 4, 3, 15, 16, 17, 18, 19, 20, 21, 22, 23, 24, 25, 13, 26, 27, 28, 29, 30, 31, 32, 33, 34, 52, 53, 54, 55, 56, 57, 58, 59, 60, 61, 62, 63, 64, 65, 66, 67, 68, 69, 70, 71, 72, 73, 74, 75, 76, 77, 78, 79, 80, 81, 82] (by decide +kernel) (by decide +kernel)
set_option maxRecDepth 20000 in
theorem gX7_passes_X7_uses : GoodIn wsX7_passes (wsV RX7 149 RX7 yX7_uses wsX7_uses) := goodIn_app (goodIn_of _ (by decide +kernel)) ggX7_passes_X7_uses
set_option maxRecDepth 20000 in
theorem ggX7_passes_X7_takes : GoodIn wsX7_passes wsX7_takes := goodIn_r _ [38, 39, 3, 15, 1, 2, 40, 41, 42, 13, 43, 5, 7, 8, 4, 23, 24, 25, 26, 27, 17, 28, 29, 30, 31, 32, 33, 34, 44, 45, 46, 47, 48, 49, 50, 51, 52, 53, 54, 55, 56, 57, 58, 59, 60, 61, 62, 63, 64, 65, 66, 67, 68, 69, 70, 71, 72, 73, 74, 75, 76, 77, 78, 79, 80, 81, 82] (by decide +kernel) (by decide +kernel)
set_option maxRecDepth 20000 in
theorem gX7_passes_X7_takes : GoodIn wsX7_passes (wsV RX7 152 RX7 yX7_takes wsX7_takes) := goodIn_app (goodIn_of _ (by decide +kernel)) ggX7_passes_X7_takes
theorem dX7_passes_0 : decode cX7_passes 0 = .ok (.aload_n 0, 1) := by decide +kernel
theorem dX7_passes_1 : decode cX7_passes 1 = .ok (.invokevirtual 149, 3) := by decide +kernel
theorem dX7_passes_4 : decode cX7_passes 4 = .ok (.aload_n 0, 1) := by decide +kernel
theorem dX7_passes_5 : decode cX7_passes 5 = .ok (.getfield 71, 3) := by decide +kernel
theorem dX7_passes_8 : decode cX7_passes 8 = .ok (.iconst (-1), 1) := by decide +kernel
theorem dX7_passes_9 : decode cX7_passes 9 = .ok (.if_icmp .ne 7, 3) := by decide +kernel
theorem dX7_passes_12 : decode cX7_passes 12 = .ok (.aload_n 0, 1) := by decide +kernel
theorem dX7_passes_13 : decode cX7_passes 13 = .ok (.invokevirtual 152, 3) := by decide +kernel
theorem dX7_passes_16 : decode cX7_passes 16 = .ok (.aload_n 0, 1) := by decide +kernel
theorem dX7_passes_17 : decode cX7_passes 17 = .ok (.getfield 71, 3) := by decide +kernel
theorem dX7_passes_20 : decode cX7_passes 20 = .ok (.iconst (-1), 1) := by decide +kernel
theorem dX7_passes_21 : decode cX7_passes 21 = .ok (.if_icmp .eq 45, 3) := by decide +kernel
theorem dX7_passes_24 : decode cX7_passes 24 = .ok (.aload_n 0, 1) := by decide +kernel
theorem dX7_passes_25 : decode cX7_passes 25 = .ok (.dup, 1) := by decide +kernel
theorem dX7_passes_26 : decode cX7_passes 26 = .ok (.getfield 114, 3) := by decide +kernel
theorem dX7_passes_29 : decode cX7_passes 29 = .ok (.iconst 1, 1) := by decide +kernel
theorem dX7_passes_30 : decode cX7_passes 30 = .ok (.iadd, 1) := by decide +kernel
theorem dX7_passes_31 : decode cX7_passes 31 = .ok (.putfield 114, 3) := by decide +kernel
theorem dX7_passes_34 : decode cX7_passes 34 = .ok (.aload_n 0, 1) := by decide +kernel
theorem dX7_passes_35 : decode cX7_passes 35 = .ok (.getfield 114, 3) := by decide +kernel
theorem dX7_passes_38 : decode cX7_passes 38 = .ok (.bipush 8, 2) := by decide +kernel
theorem dX7_passes_40 : decode cX7_passes 40 = .ok (.if_icmp .ne 26, 3) := by decide +kernel
theorem dX7_passes_43 : decode cX7_passes 43 = .ok (.aload_n 0, 1) := by decide +kernel
theorem dX7_passes_44 : decode cX7_passes 44 = .ok (.getfield 68, 3) := by decide +kernel
theorem dX7_passes_47 : decode cX7_passes 47 = .ok (.aload_n 0, 1) := by decide +kernel
theorem dX7_passes_48 : decode cX7_passes 48 = .ok (.getfield 71, 3) := by decide +kernel
theorem dX7_passes_51 : decode cX7_passes 51 = .ok (.dup2, 1) := by decide +kernel
theorem dX7_passes_52 : decode cX7_passes 52 = .ok (.iaload, 1) := by decide +kernel
theorem dX7_passes_53 : decode cX7_passes 53 = .ok (.iconst 1, 1) := by decide +kernel
theorem dX7_passes_54 : decode cX7_passes 54 = .ok (.iadd, 1) := by decide +kernel
theorem dX7_passes_55 : decode cX7_passes 55 = .ok (.iastore, 1) := by decide +kernel
theorem dX7_passes_56 : decode cX7_passes 56 = .ok (.aload_n 0, 1) := by decide +kernel
theorem dX7_passes_57 : decode cX7_passes 57 = .ok (.iconst (-1), 1) := by decide +kernel
theorem dX7_passes_58 : decode cX7_passes 58 = .ok (.putfield 71, 3) := by decide +kernel
theorem dX7_passes_61 : decode cX7_passes 61 = .ok (.aload_n 0, 1) := by decide +kernel
theorem dX7_passes_62 : decode cX7_passes 62 = .ok (.iconst 0, 1) := by decide +kernel
theorem dX7_passes_63 : decode cX7_passes 63 = .ok (.putfield 114, 3) := by decide +kernel
theorem dX7_passes_66 : decode cX7_passes 66 = .ok (.aload_n 0, 1) := by decide +kernel
theorem dX7_passes_67 : decode cX7_passes 67 = .ok (.dup, 1) := by decide +kernel
theorem dX7_passes_68 : decode cX7_passes 68 = .ok (.getfield 123, 3) := by decide +kernel
theorem dX7_passes_71 : decode cX7_passes 71 = .ok (.iconst 1, 1) := by decide +kernel
theorem dX7_passes_72 : decode cX7_passes 72 = .ok (.iadd, 1) := by decide +kernel
theorem dX7_passes_73 : decode cX7_passes 73 = .ok (.putfield 123, 3) := by decide +kernel
theorem dX7_passes_76 : decode cX7_passes 76 = .ok (.aload_n 0, 1) := by decide +kernel
theorem dX7_passes_77 : decode cX7_passes 77 = .ok (.getfield 123, 3) := by decide +kernel
theorem dX7_passes_80 : decode cX7_passes 80 = .ok (.sipush 192, 3) := by decide +kernel
theorem dX7_passes_83 : decode cX7_passes 83 = .ok (.if_icmp .ne 70, 3) := by decide +kernel
theorem dX7_passes_86 : decode cX7_passes 86 = .ok (.aload_n 0, 1) := by decide +kernel
theorem dX7_passes_87 : decode cX7_passes 87 = .ok (.iconst 0, 1) := by decide +kernel
theorem dX7_passes_88 : decode cX7_passes 88 = .ok (.putfield 123, 3) := by decide +kernel
theorem dX7_passes_91 : decode cX7_passes 91 = .ok (.aload_n 0, 1) := by decide +kernel
theorem dX7_passes_92 : decode cX7_passes 92 = .ok (.dup, 1) := by decide +kernel
theorem dX7_passes_93 : decode cX7_passes 93 = .ok (.getfield 120, 3) := by decide +kernel
theorem dX7_passes_96 : decode cX7_passes 96 = .ok (.iconst 1, 1) := by decide +kernel
theorem dX7_passes_97 : decode cX7_passes 97 = .ok (.iadd, 1) := by decide +kernel
theorem dX7_passes_98 : decode cX7_passes 98 = .ok (.putfield 120, 3) := by decide +kernel
theorem dX7_passes_101 : decode cX7_passes 101 = .ok (.aload_n 0, 1) := by decide +kernel
theorem dX7_passes_102 : decode cX7_passes 102 = .ok (.dup, 1) := by decide +kernel
theorem dX7_passes_103 : decode cX7_passes 103 = .ok (.getfield 117, 3) := by decide +kernel
theorem dX7_passes_106 : decode cX7_passes 106 = .ok (.aload_n 0, 1) := by decide +kernel
theorem dX7_passes_107 : decode cX7_passes 107 = .ok (.getfield 120, 3) := by decide +kernel
theorem dX7_passes_110 : decode cX7_passes 110 = .ok (.aload_n 0, 1) := by decide +kernel
theorem dX7_passes_111 : decode cX7_passes 111 = .ok (.getfield 59, 3) := by decide +kernel
theorem dX7_passes_114 : decode cX7_passes 114 = .ok (.aload_n 0, 1) := by decide +kernel
theorem dX7_passes_115 : decode cX7_passes 115 = .ok (.getfield 117, 3) := by decide +kernel
theorem dX7_passes_118 : decode cX7_passes 118 = .ok (.iconst 1, 1) := by decide +kernel
theorem dX7_passes_119 : decode cX7_passes 119 = .ok (.iadd, 1) := by decide +kernel
theorem dX7_passes_120 : decode cX7_passes 120 = .ok (.iaload, 1) := by decide +kernel
theorem dX7_passes_121 : decode cX7_passes 121 = .ok (.if_icmp .ne 7, 3) := by decide +kernel
theorem dX7_passes_124 : decode cX7_passes 124 = .ok (.iconst 1, 1) := by decide +kernel
theorem dX7_passes_125 : decode cX7_passes 125 = .ok (.goto 4, 3) := by decide +kernel
theorem dX7_passes_128 : decode cX7_passes 128 = .ok (.iconst 0, 1) := by decide +kernel
theorem dX7_passes_129 : decode cX7_passes 129 = .ok (.iadd, 1) := by decide +kernel
theorem dX7_passes_130 : decode cX7_passes 130 = .ok (.putfield 117, 3) := by decide +kernel
theorem dX7_passes_133 : decode cX7_passes 133 = .ok (.aload_n 0, 1) := by decide +kernel
theorem dX7_passes_134 : decode cX7_passes 134 = .ok (.aload_n 0, 1) := by decide +kernel
theorem dX7_passes_135 : decode cX7_passes 135 = .ok (.getfield 117, 3) := by decide +kernel
theorem dX7_passes_138 : decode cX7_passes 138 = .ok (.aload_n 0, 1) := by decide +kernel
theorem dX7_passes_139 : decode cX7_passes 139 = .ok (.getfield 111, 3) := by decide +kernel
theorem dX7_passes_142 : decode cX7_passes 142 = .ok (.if_icmp .ge 7, 3) := by decide +kernel
theorem dX7_passes_145 : decode cX7_passes 145 = .ok (.iconst 1, 1) := by decide +kernel
theorem dX7_passes_146 : decode cX7_passes 146 = .ok (.goto 4, 3) := by decide +kernel
theorem dX7_passes_149 : decode cX7_passes 149 = .ok (.iconst 0, 1) := by decide +kernel
theorem dX7_passes_150 : decode cX7_passes 150 = .ok (.putfield 90, 3) := by decide +kernel
theorem dX7_passes_153 : decode cX7_passes 153 = .ok (.return_, 1) := by decide +kernel
set_option maxRecDepth 20000 in
theorem ggX7_tick_X7_in : GoodIn wsX7_tick wsX7_in := goodIn_r _ [7] (by decide +kernel) (by decide +kernel)
set_option maxRecDepth 20000 in
theorem gX7_tick_X7_in : GoodIn wsX7_tick (va_wsS RX7 78 yX7_in wsX7_in) := goodIn_app (goodIn_of _ (by decide +kernel)) ggX7_tick_X7_in
set_option maxRecDepth 20000 in
theorem ggX7_tick_X7_fails : GoodIn wsX7_tick wsX7_fails := goodIn_r _ [11, 1, 64, 65, 66, 67, 68, 69, 70, 71, 72, 73, 74, 75, 76, 77, 78, 79, 80, 81, 82, 83, 84, 85, 86, 87, 88, 89, 90, 91, 92, 93, 94] (by decide +kernel) (by decide +kernel)
set_option maxRecDepth 20000 in
theorem gX7_tick_X7_fails : GoodIn wsX7_tick (wsV RX7 86 RX7 yX7_fails wsX7_fails) := goodIn_app (goodIn_of _ (by decide +kernel)) ggX7_tick_X7_fails
set_option maxRecDepth 20000 in
theorem ggX7_tick_X7_passes : GoodIn wsX7_tick wsX7_passes := goodIn_r _ [15, 16, 17, 18, 19, 20, 21, 22, 23, 2, 24, 25, 26, 6, 27, 28, 29, 30, 31, 32, 3, 33, 34, 35, 36, 37, 38, 39, 40, 41, 42, 43, 44, 45, 46, 47, 48, 49, 50, 51, 52, 53, 54, 55, 56, 57, 58, 59, 60, 61, 62, 63, 64, 65, 66, 67, 68, 69, 70, 71, 72, 73, 74, 75, 76, 77, 78, 79, 80, 81, 82, 83, 84, 85, 86, 87, 88, 89, 90, 91, 92, 93, 94] (by decide +kernel) (by decide +kernel)
set_option maxRecDepth 20000 in
theorem gX7_tick_X7_passes : GoodIn wsX7_tick (wsV RX7 155 RX7 yX7_passes wsX7_passes) := goodIn_app (goodIn_of _ (by decide +kernel)) ggX7_tick_X7_passes
theorem dX7_tick_0 : decode cX7_tick 0 = .ok (.aload_n 0, 1) := by decide +kernel
theorem dX7_tick_1 : decode cX7_tick 1 = .ok (.iconst 0, 1) := by decide +kernel
theorem dX7_tick_2 : decode cX7_tick 2 = .ok (.putfield 75, 3) := by decide +kernel
theorem dX7_tick_5 : decode cX7_tick 5 = .ok (.iload_n 1, 1) := by decide +kernel
theorem dX7_tick_6 : decode cX7_tick 6 = .ok (.iconst 1, 1) := by decide +kernel
theorem dX7_tick_7 : decode cX7_tick 7 = .ok (.sipush 2000, 3) := by decide +kernel
theorem dX7_tick_10 : decode cX7_tick 10 = .ok (.invokestatic 78, 3) := by decide +kernel
theorem dX7_tick_13 : decode cX7_tick 13 = .ok (.ifCond .ne 9, 3) := by decide +kernel
theorem dX7_tick_16 : decode cX7_tick 16 = .ok (.aload_n 0, 1) := by decide +kernel
theorem dX7_tick_17 : decode cX7_tick 17 = .ok (.iconst 1, 1) := by decide +kernel
theorem dX7_tick_18 : decode cX7_tick 18 = .ok (.invokevirtual 86, 3) := by decide +kernel
theorem dX7_tick_21 : decode cX7_tick 21 = .ok (.ireturn, 1) := by decide +kernel
theorem dX7_tick_22 : decode cX7_tick 22 = .ok (.aload_n 0, 1) := by decide +kernel
theorem dX7_tick_23 : decode cX7_tick 23 = .ok (.getfield 90, 3) := by decide +kernel
theorem dX7_tick_26 : decode cX7_tick 26 = .ok (.ifCond .ne 9, 3) := by decide +kernel
theorem dX7_tick_29 : decode cX7_tick 29 = .ok (.aload_n 0, 1) := by decide +kernel
theorem dX7_tick_30 : decode cX7_tick 30 = .ok (.iconst 2, 1) := by decide +kernel
theorem dX7_tick_31 : decode cX7_tick 31 = .ok (.invokevirtual 86, 3) := by decide +kernel
theorem dX7_tick_34 : decode cX7_tick 34 = .ok (.ireturn, 1) := by decide +kernel
theorem dX7_tick_35 : decode cX7_tick 35 = .ok (.aload_n 0, 1) := by decide +kernel
theorem dX7_tick_36 : decode cX7_tick 36 = .ok (.getfield 140, 3) := by decide +kernel
theorem dX7_tick_39 : decode cX7_tick 39 = .ok (.istore_n 2, 1) := by decide +kernel
theorem dX7_tick_40 : decode cX7_tick 40 = .ok (.iconst 0, 1) := by decide +kernel
theorem dX7_tick_41 : decode cX7_tick 41 = .ok (.istore_n 3, 1) := by decide +kernel
theorem dX7_tick_42 : decode cX7_tick 42 = .ok (.iload_n 3, 1) := by decide +kernel
theorem dX7_tick_43 : decode cX7_tick 43 = .ok (.iload_n 1, 1) := by decide +kernel
theorem dX7_tick_44 : decode cX7_tick 44 = .ok (.if_icmp .ge 20, 3) := by decide +kernel
theorem dX7_tick_47 : decode cX7_tick 47 = .ok (.aload_n 0, 1) := by decide +kernel
theorem dX7_tick_48 : decode cX7_tick 48 = .ok (.getfield 90, 3) := by decide +kernel
theorem dX7_tick_51 : decode cX7_tick 51 = .ok (.ifCond .eq 13, 3) := by decide +kernel
theorem dX7_tick_54 : decode cX7_tick 54 = .ok (.aload_n 0, 1) := by decide +kernel
theorem dX7_tick_55 : decode cX7_tick 55 = .ok (.invokevirtual 155, 3) := by decide +kernel
theorem dX7_tick_58 : decode cX7_tick 58 = .ok (.iinc 3 1, 3) := by decide +kernel
theorem dX7_tick_61 : decode cX7_tick 61 = .ok (.goto (-19), 3) := by decide +kernel
theorem dX7_tick_64 : decode cX7_tick 64 = .ok (.aload_n 0, 1) := by decide +kernel
theorem dX7_tick_65 : decode cX7_tick 65 = .ok (.getfield 140, 3) := by decide +kernel
theorem dX7_tick_68 : decode cX7_tick 68 = .ok (.iload_n 2, 1) := by decide +kernel
theorem dX7_tick_69 : decode cX7_tick 69 = .ok (.isub, 1) := by decide +kernel
theorem dX7_tick_70 : decode cX7_tick 70 = .ok (.ireturn, 1) := by decide +kernel
set_option maxRecDepth 20000 in
theorem ggX7_skip_X7_fails : GoodIn wsX7_skip wsX7_fails := goodIn_r _ [12, 1, 13, 14, 15, 16, 17, 18, 19, 20, 21, 22, 23, 24, 25, 26, 27, 28, 29, 30, 31, 32, 33, 34, 35, 36, 37, 38, 39, 40, 41, 42, 43] (by decide +kernel) (by decide +kernel)
set_option maxRecDepth 20000 in
theorem gX7_skip_X7_fails : GoodIn wsX7_skip (wsV RX7 86 RX7 yX7_fails wsX7_fails) := goodIn_app (goodIn_of _ (by decide +kernel)) ggX7_skip_X7_fails
theorem dX7_skip_0 : decode cX7_skip 0 = .ok (.aload_n 0, 1) := by decide +kernel
theorem dX7_skip_1 : decode cX7_skip 1 = .ok (.iconst 0, 1) := by decide +kernel
theorem dX7_skip_2 : decode cX7_skip 2 = .ok (.putfield 75, 3) := by decide +kernel
theorem dX7_skip_5 : decode cX7_skip 5 = .ok (.aload_n 0, 1) := by decide +kernel
theorem dX7_skip_6 : decode cX7_skip 6 = .ok (.getfield 90, 3) := by decide +kernel
theorem dX7_skip_9 : decode cX7_skip 9 = .ok (.ifCond .ne 9, 3) := by decide +kernel
theorem dX7_skip_12 : decode cX7_skip 12 = .ok (.aload_n 0, 1) := by decide +kernel
theorem dX7_skip_13 : decode cX7_skip 13 = .ok (.iconst 1, 1) := by decide +kernel
theorem dX7_skip_14 : decode cX7_skip 14 = .ok (.invokevirtual 86, 3) := by decide +kernel
theorem dX7_skip_17 : decode cX7_skip 17 = .ok (.ireturn, 1) := by decide +kernel
theorem dX7_skip_18 : decode cX7_skip 18 = .ok (.aload_n 0, 1) := by decide +kernel
theorem dX7_skip_19 : decode cX7_skip 19 = .ok (.dup, 1) := by decide +kernel
theorem dX7_skip_20 : decode cX7_skip 20 = .ok (.getfield 117, 3) := by decide +kernel
theorem dX7_skip_23 : decode cX7_skip 23 = .ok (.iconst 1, 1) := by decide +kernel
theorem dX7_skip_24 : decode cX7_skip 24 = .ok (.iadd, 1) := by decide +kernel
theorem dX7_skip_25 : decode cX7_skip 25 = .ok (.putfield 117, 3) := by decide +kernel
theorem dX7_skip_28 : decode cX7_skip 28 = .ok (.aload_n 0, 1) := by decide +kernel
theorem dX7_skip_29 : decode cX7_skip 29 = .ok (.aload_n 0, 1) := by decide +kernel
theorem dX7_skip_30 : decode cX7_skip 30 = .ok (.getfield 59, 3) := by decide +kernel
theorem dX7_skip_33 : decode cX7_skip 33 = .ok (.aload_n 0, 1) := by decide +kernel
theorem dX7_skip_34 : decode cX7_skip 34 = .ok (.getfield 117, 3) := by decide +kernel
theorem dX7_skip_37 : decode cX7_skip 37 = .ok (.iaload, 1) := by decide +kernel
theorem dX7_skip_38 : decode cX7_skip 38 = .ok (.putfield 120, 3) := by decide +kernel
theorem dX7_skip_41 : decode cX7_skip 41 = .ok (.aload_n 0, 1) := by decide +kernel
theorem dX7_skip_42 : decode cX7_skip 42 = .ok (.iconst 0, 1) := by decide +kernel
theorem dX7_skip_43 : decode cX7_skip 43 = .ok (.putfield 123, 3) := by decide +kernel
theorem dX7_skip_46 : decode cX7_skip 46 = .ok (.aload_n 0, 1) := by decide +kernel
theorem dX7_skip_47 : decode cX7_skip 47 = .ok (.aload_n 0, 1) := by decide +kernel
theorem dX7_skip_48 : decode cX7_skip 48 = .ok (.getfield 117, 3) := by decide +kernel
theorem dX7_skip_51 : decode cX7_skip 51 = .ok (.aload_n 0, 1) := by decide +kernel
theorem dX7_skip_52 : decode cX7_skip 52 = .ok (.getfield 111, 3) := by decide +kernel
theorem dX7_skip_55 : decode cX7_skip 55 = .ok (.if_icmp .ge 7, 3) := by decide +kernel
theorem dX7_skip_58 : decode cX7_skip 58 = .ok (.iconst 1, 1) := by decide +kernel
theorem dX7_skip_59 : decode cX7_skip 59 = .ok (.goto 4, 3) := by decide +kernel
theorem dX7_skip_62 : decode cX7_skip 62 = .ok (.iconst 0, 1) := by decide +kernel
theorem dX7_skip_63 : decode cX7_skip 63 = .ok (.putfield 90, 3) := by decide +kernel
theorem dX7_skip_66 : decode cX7_skip 66 = .ok (.aload_n 0, 1) := by decide +kernel
theorem dX7_skip_67 : decode cX7_skip 67 = .ok (.getfield 90, 3) := by decide +kernel
theorem dX7_skip_70 : decode cX7_skip 70 = .ok (.ifCond .eq 10, 3) := by decide +kernel
theorem dX7_skip_73 : decode cX7_skip 73 = .ok (.aload_n 0, 1) := by decide +kernel
theorem dX7_skip_74 : decode cX7_skip 74 = .ok (.getfield 117, 3) := by decide +kernel
theorem dX7_skip_77 : decode cX7_skip 77 = .ok (.goto 4, 3) := by decide +kernel
theorem dX7_skip_80 : decode cX7_skip 80 = .ok (.iconst (-1), 1) := by decide +kernel
theorem dX7_skip_81 : decode cX7_skip 81 = .ok (.ireturn, 1) := by decide +kernel
theorem dX7_place_0 : decode cX7_place 0 = .ok (.aload_n 0, 1) := by decide +kernel
theorem dX7_place_1 : decode cX7_place 1 = .ok (.iconst 0, 1) := by decide +kernel
theorem dX7_place_2 : decode cX7_place 2 = .ok (.putfield 75, 3) := by decide +kernel
theorem dX7_place_5 : decode cX7_place 5 = .ok (.aload_n 0, 1) := by decide +kernel
theorem dX7_place_6 : decode cX7_place 6 = .ok (.getfield 90, 3) := by decide +kernel
theorem dX7_place_9 : decode cX7_place 9 = .ok (.ifCond .eq 37, 3) := by decide +kernel
theorem dX7_place_12 : decode cX7_place 12 = .ok (.ldc 158, 2) := by decide +kernel
theorem dX7_place_14 : decode cX7_place 14 = .ok (.aload_n 0, 1) := by decide +kernel
theorem dX7_place_15 : decode cX7_place 15 = .ok (.getfield 117, 3) := by decide +kernel
theorem dX7_place_18 : decode cX7_place 18 = .ok (.imul, 1) := by decide +kernel
theorem dX7_place_19 : decode cX7_place 19 = .ok (.sipush 1000, 3) := by decide +kernel
theorem dX7_place_22 : decode cX7_place 22 = .ok (.aload_n 0, 1) := by decide +kernel
theorem dX7_place_23 : decode cX7_place 23 = .ok (.getfield 120, 3) := by decide +kernel
theorem dX7_place_26 : decode cX7_place 26 = .ok (.aload_n 0, 1) := by decide +kernel
theorem dX7_place_27 : decode cX7_place 27 = .ok (.getfield 59, 3) := by decide +kernel
theorem dX7_place_30 : decode cX7_place 30 = .ok (.aload_n 0, 1) := by decide +kernel
theorem dX7_place_31 : decode cX7_place 31 = .ok (.getfield 117, 3) := by decide +kernel
theorem dX7_place_34 : decode cX7_place 34 = .ok (.iaload, 1) := by decide +kernel
theorem dX7_place_35 : decode cX7_place 35 = .ok (.isub, 1) := by decide +kernel
theorem dX7_place_36 : decode cX7_place 36 = .ok (.imul, 1) := by decide +kernel
theorem dX7_place_37 : decode cX7_place 37 = .ok (.iadd, 1) := by decide +kernel
theorem dX7_place_38 : decode cX7_place 38 = .ok (.aload_n 0, 1) := by decide +kernel
theorem dX7_place_39 : decode cX7_place 39 = .ok (.getfield 123, 3) := by decide +kernel
theorem dX7_place_42 : decode cX7_place 42 = .ok (.iadd, 1) := by decide +kernel
theorem dX7_place_43 : decode cX7_place 43 = .ok (.goto 4, 3) := by decide +kernel
theorem dX7_place_46 : decode cX7_place 46 = .ok (.iconst (-1), 1) := by decide +kernel
theorem dX7_place_47 : decode cX7_place 47 = .ok (.ireturn, 1) := by decide +kernel
set_option maxRecDepth 20000 in
theorem ggX7_loaded_X7_isSample : GoodIn wsX7_loaded wsX7_isSample := goodIn_r _ [6, 7, 8, 5, 9] (by decide +kernel) (by decide +kernel)
set_option maxRecDepth 20000 in
theorem gX7_loaded_X7_isSample : GoodIn wsX7_loaded (va_wsS RX7 82 yX7_isSample wsX7_isSample) := goodIn_app (goodIn_of _ (by decide +kernel)) ggX7_loaded_X7_isSample
set_option maxRecDepth 20000 in
theorem ggX7_loaded_X7_fails : GoodIn wsX7_loaded wsX7_fails := goodIn_r _ [13, 1, 14, 15, 16, 17, 18, 19, 20, 21, 22, 23, 24, 25, 26, 27, 28, 29, 30, 31, 32, 33, 34, 35, 36, 37, 38, 39, 40, 41, 42, 43, 44] (by decide +kernel) (by decide +kernel)
set_option maxRecDepth 20000 in
theorem gX7_loaded_X7_fails : GoodIn wsX7_loaded (wsV RX7 86 RX7 yX7_fails wsX7_fails) := goodIn_app (goodIn_of _ (by decide +kernel)) ggX7_loaded_X7_fails
