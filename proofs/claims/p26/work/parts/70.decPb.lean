theorem dL_removes_117 : decode cL_removes 117 = .ok (.goto (-22), 3) := by decide +kernel
theorem dL_removes_120 : decode cL_removes 120 = .ok (.iconst 0, 1) := by decide +kernel
theorem dL_removes_121 : decode cL_removes 121 = .ok (.istore 10, 2) := by decide +kernel
theorem dL_removes_123 : decode cL_removes 123 = .ok (.iconst 0, 1) := by decide +kernel
theorem dL_removes_124 : decode cL_removes 124 = .ok (.istore 11, 2) := by decide +kernel
theorem dL_removes_126 : decode cL_removes 126 = .ok (.iload 11, 2) := by decide +kernel
theorem dL_removes_128 : decode cL_removes 128 = .ok (.aload 7, 2) := by decide +kernel
theorem dL_removes_130 : decode cL_removes 130 = .ok (.iconst 2, 1) := by decide +kernel
theorem dL_removes_131 : decode cL_removes 131 = .ok (.iaload, 1) := by decide +kernel
theorem dL_removes_132 : decode cL_removes 132 = .ok (.if_icmp .ge 26, 3) := by decide +kernel
theorem dL_removes_135 : decode cL_removes 135 = .ok (.iload 10, 2) := by decide +kernel
theorem dL_removes_137 : decode cL_removes 137 = .ok (.iload 8, 2) := by decide +kernel
theorem dL_removes_139 : decode cL_removes 139 = .ok (.iload 9, 2) := by decide +kernel
theorem dL_removes_141 : decode cL_removes 141 = .ok (.iconst (-1), 1) := by decide +kernel
theorem dL_removes_142 : decode cL_removes 142 = .ok (.ixor, 1) := by decide +kernel
theorem dL_removes_143 : decode cL_removes 143 = .ok (.iand, 1) := by decide +kernel
theorem dL_removes_144 : decode cL_removes 144 = .ok (.iload 11, 2) := by decide +kernel
theorem dL_removes_146 : decode cL_removes 146 = .ok (.ishr, 1) := by decide +kernel
theorem dL_removes_147 : decode cL_removes 147 = .ok (.iconst 1, 1) := by decide +kernel
theorem dL_removes_148 : decode cL_removes 148 = .ok (.iand, 1) := by decide +kernel
theorem dL_removes_149 : decode cL_removes 149 = .ok (.iadd, 1) := by decide +kernel
theorem dL_removes_150 : decode cL_removes 150 = .ok (.istore 10, 2) := by decide +kernel
theorem dL_removes_152 : decode cL_removes 152 = .ok (.iinc 11 1, 3) := by decide +kernel
theorem dL_removes_155 : decode cL_removes 155 = .ok (.goto (-29), 3) := by decide +kernel
theorem dL_removes_158 : decode cL_removes 158 = .ok (.iconst 0, 1) := by decide +kernel
theorem dL_removes_159 : decode cL_removes 159 = .ok (.istore 11, 2) := by decide +kernel
theorem dL_removes_161 : decode cL_removes 161 = .ok (.iload 11, 2) := by decide +kernel
theorem dL_removes_163 : decode cL_removes 163 = .ok (.aload 7, 2) := by decide +kernel
theorem dL_removes_165 : decode cL_removes 165 = .ok (.iconst 3, 1) := by decide +kernel
theorem dL_removes_166 : decode cL_removes 166 = .ok (.iaload, 1) := by decide +kernel
theorem dL_removes_167 : decode cL_removes 167 = .ok (.if_icmp .ge 80, 3) := by decide +kernel
theorem dL_removes_170 : decode cL_removes 170 = .ok (.iload 8, 2) := by decide +kernel
theorem dL_removes_172 : decode cL_removes 172 = .ok (.iload 9, 2) := by decide +kernel
theorem dL_removes_174 : decode cL_removes 174 = .ok (.iconst (-1), 1) := by decide +kernel
theorem dL_removes_175 : decode cL_removes 175 = .ok (.ixor, 1) := by decide +kernel
theorem dL_removes_176 : decode cL_removes 176 = .ok (.iand, 1) := by decide +kernel
theorem dL_removes_177 : decode cL_removes 177 = .ok (.bipush 8, 2) := by decide +kernel
theorem dL_removes_179 : decode cL_removes 179 = .ok (.iload 11, 2) := by decide +kernel
theorem dL_removes_181 : decode cL_removes 181 = .ok (.iadd, 1) := by decide +kernel
theorem dL_removes_182 : decode cL_removes 182 = .ok (.ishr, 1) := by decide +kernel
theorem dL_removes_183 : decode cL_removes 183 = .ok (.iconst 1, 1) := by decide +kernel
theorem dL_removes_184 : decode cL_removes 184 = .ok (.iand, 1) := by decide +kernel
theorem dL_removes_185 : decode cL_removes 185 = .ok (.iconst 1, 1) := by decide +kernel
theorem dL_removes_186 : decode cL_removes 186 = .ok (.if_icmp .ne 25, 3) := by decide +kernel
theorem dL_removes_189 : decode cL_removes 189 = .ok (.iload 11, 2) := by decide +kernel
theorem dL_removes_191 : decode cL_removes 191 = .ok (.iload_n 2, 1) := by decide +kernel
theorem dL_removes_192 : decode cL_removes 192 = .ok (.if_icmp .eq 19, 3) := by decide +kernel
theorem dL_removes_195 : decode cL_removes 195 = .ok (.aload 5, 2) := by decide +kernel
theorem dL_removes_197 : decode cL_removes 197 = .ok (.iconst 3, 1) := by decide +kernel
theorem dL_removes_198 : decode cL_removes 198 = .ok (.iload 11, 2) := by decide +kernel
theorem dL_removes_200 : decode cL_removes 200 = .ok (.imul, 1) := by decide +kernel
theorem dL_removes_201 : decode cL_removes 201 = .ok (.iconst 2, 1) := by decide +kernel
theorem dL_removes_202 : decode cL_removes 202 = .ok (.iadd, 1) := by decide +kernel
theorem dL_removes_203 : decode cL_removes 203 = .ok (.iaload, 1) := by decide +kernel
theorem dL_removes_204 : decode cL_removes 204 = .ok (.ifCond .ne 7, 3) := by decide +kernel
theorem dL_removes_207 : decode cL_removes 207 = .ok (.iconst 1, 1) := by decide +kernel
theorem dL_removes_208 : decode cL_removes 208 = .ok (.goto 4, 3) := by decide +kernel
theorem dL_removes_211 : decode cL_removes 211 = .ok (.iconst 0, 1) := by decide +kernel
theorem dL_removes_212 : decode cL_removes 212 = .ok (.istore 12, 2) := by decide +kernel
theorem dL_removes_214 : decode cL_removes 214 = .ok (.aload 5, 2) := by decide +kernel
theorem dL_removes_216 : decode cL_removes 216 = .ok (.iconst 3, 1) := by decide +kernel
theorem dL_removes_217 : decode cL_removes 217 = .ok (.iload 11, 2) := by decide +kernel
theorem dL_removes_219 : decode cL_removes 219 = .ok (.imul, 1) := by decide +kernel
theorem dL_removes_220 : decode cL_removes 220 = .ok (.iconst 2, 1) := by decide +kernel
theorem dL_removes_221 : decode cL_removes 221 = .ok (.iadd, 1) := by decide +kernel
theorem dL_removes_222 : decode cL_removes 222 = .ok (.iload 12, 2) := by decide +kernel
theorem dL_removes_224 : decode cL_removes 224 = .ok (.ifCond .eq 7, 3) := by decide +kernel
theorem dL_removes_227 : decode cL_removes 227 = .ok (.iconst 3, 1) := by decide +kernel
theorem dL_removes_228 : decode cL_removes 228 = .ok (.goto 12, 3) := by decide +kernel
theorem dL_removes_231 : decode cL_removes 231 = .ok (.aload 5, 2) := by decide +kernel
theorem dL_removes_233 : decode cL_removes 233 = .ok (.iconst 3, 1) := by decide +kernel
theorem dL_removes_234 : decode cL_removes 234 = .ok (.iload 11, 2) := by decide +kernel
theorem dL_removes_236 : decode cL_removes 236 = .ok (.imul, 1) := by decide +kernel
theorem dL_removes_237 : decode cL_removes 237 = .ok (.iconst 2, 1) := by decide +kernel
theorem dL_removes_238 : decode cL_removes 238 = .ok (.iadd, 1) := by decide +kernel
theorem dL_removes_239 : decode cL_removes 239 = .ok (.iaload, 1) := by decide +kernel
theorem dL_removes_240 : decode cL_removes 240 = .ok (.iastore, 1) := by decide +kernel
theorem dL_removes_241 : decode cL_removes 241 = .ok (.iinc 11 1, 3) := by decide +kernel
theorem dL_removes_244 : decode cL_removes 244 = .ok (.goto (-83), 3) := by decide +kernel
theorem dL_removes_247 : decode cL_removes 247 = .ok (.aload 4, 2) := by decide +kernel
theorem dL_removes_249 : decode cL_removes 249 = .ok (.aload 6, 2) := by decide +kernel
theorem dL_removes_251 : decode cL_removes 251 = .ok (.aload 7, 2) := by decide +kernel
theorem dL_removes_253 : decode cL_removes 253 = .ok (.invokestatic 40, 3) := by decide +kernel
theorem dL_removes_256 : decode cL_removes 256 = .ok (.iload 10, 2) := by decide +kernel
theorem dL_removes_258 : decode cL_removes 258 = .ok (.ireturn, 1) := by decide +kernel
theorem dL_overlaps_0 : decode cL_overlaps 0 = .ok (.iconst 0, 1) := by decide +kernel
theorem dL_overlaps_1 : decode cL_overlaps 1 = .ok (.istore 4, 2) := by decide +kernel
theorem dL_overlaps_3 : decode cL_overlaps 3 = .ok (.iconst 0, 1) := by decide +kernel
theorem dL_overlaps_4 : decode cL_overlaps 4 = .ok (.istore 5, 2) := by decide +kernel
theorem dL_overlaps_6 : decode cL_overlaps 6 = .ok (.iload 5, 2) := by decide +kernel
theorem dL_overlaps_8 : decode cL_overlaps 8 = .ok (.aload_n 3, 1) := by decide +kernel
theorem dL_overlaps_9 : decode cL_overlaps 9 = .ok (.iconst 0, 1) := by decide +kernel
theorem dL_overlaps_10 : decode cL_overlaps 10 = .ok (.iaload, 1) := by decide +kernel
theorem dL_overlaps_11 : decode cL_overlaps 11 = .ok (.if_icmp .ge 50, 3) := by decide +kernel
theorem dL_overlaps_14 : decode cL_overlaps 14 = .ok (.aload_n 2, 1) := by decide +kernel
theorem dL_overlaps_15 : decode cL_overlaps 15 = .ok (.iconst 3, 1) := by decide +kernel
theorem dL_overlaps_16 : decode cL_overlaps 16 = .ok (.iload_n 0, 1) := by decide +kernel
theorem dL_overlaps_17 : decode cL_overlaps 17 = .ok (.imul, 1) := by decide +kernel
theorem dL_overlaps_18 : decode cL_overlaps 18 = .ok (.iconst 2, 1) := by decide +kernel
theorem dL_overlaps_19 : decode cL_overlaps 19 = .ok (.iadd, 1) := by decide +kernel
theorem dL_overlaps_20 : decode cL_overlaps 20 = .ok (.iaload, 1) := by decide +kernel
theorem dL_overlaps_21 : decode cL_overlaps 21 = .ok (.ifCond .ne 40, 3) := by decide +kernel
theorem dL_overlaps_24 : decode cL_overlaps 24 = .ok (.iload 4, 2) := by decide +kernel
theorem dL_overlaps_26 : decode cL_overlaps 26 = .ok (.aload_n 1, 1) := by decide +kernel
theorem dL_overlaps_27 : decode cL_overlaps 27 = .ok (.iload 5, 2) := by decide +kernel
theorem dL_overlaps_29 : decode cL_overlaps 29 = .ok (.iaload, 1) := by decide +kernel
theorem dL_overlaps_30 : decode cL_overlaps 30 = .ok (.bipush 8, 2) := by decide +kernel
theorem dL_overlaps_32 : decode cL_overlaps 32 = .ok (.iload_n 0, 1) := by decide +kernel
theorem dL_overlaps_33 : decode cL_overlaps 33 = .ok (.iadd, 1) := by decide +kernel
theorem dL_overlaps_34 : decode cL_overlaps 34 = .ok (.ishr, 1) := by decide +kernel
theorem dL_overlaps_35 : decode cL_overlaps 35 = .ok (.iconst 1, 1) := by decide +kernel
theorem dL_overlaps_36 : decode cL_overlaps 36 = .ok (.iand, 1) := by decide +kernel
theorem dL_overlaps_37 : decode cL_overlaps 37 = .ok (.iconst 1, 1) := by decide +kernel
theorem dL_overlaps_38 : decode cL_overlaps 38 = .ok (.if_icmp .ne 13, 3) := by decide +kernel
theorem dL_overlaps_41 : decode cL_overlaps 41 = .ok (.aload_n 1, 1) := by decide +kernel
theorem dL_overlaps_42 : decode cL_overlaps 42 = .ok (.iload 5, 2) := by decide +kernel
theorem dL_overlaps_44 : decode cL_overlaps 44 = .ok (.iaload, 1) := by decide +kernel
theorem dL_overlaps_45 : decode cL_overlaps 45 = .ok (.bipush 8, 2) := by decide +kernel
theorem dL_overlaps_47 : decode cL_overlaps 47 = .ok (.ishr, 1) := by decide +kernel
theorem dL_overlaps_48 : decode cL_overlaps 48 = .ok (.goto 4, 3) := by decide +kernel
theorem dL_overlaps_51 : decode cL_overlaps 51 = .ok (.iconst 0, 1) := by decide +kernel
theorem dL_overlaps_52 : decode cL_overlaps 52 = .ok (.ior, 1) := by decide +kernel
theorem dL_overlaps_53 : decode cL_overlaps 53 = .ok (.istore 4, 2) := by decide +kernel
theorem dL_overlaps_55 : decode cL_overlaps 55 = .ok (.iinc 5 1, 3) := by decide +kernel
theorem dL_overlaps_58 : decode cL_overlaps 58 = .ok (.goto (-52), 3) := by decide +kernel
theorem dL_overlaps_61 : decode cL_overlaps 61 = .ok (.iconst 0, 1) := by decide +kernel
theorem dL_overlaps_62 : decode cL_overlaps 62 = .ok (.istore 5, 2) := by decide +kernel
theorem dL_overlaps_64 : decode cL_overlaps 64 = .ok (.iload 5, 2) := by decide +kernel
theorem dL_overlaps_66 : decode cL_overlaps 66 = .ok (.aload_n 3, 1) := by decide +kernel
theorem dL_overlaps_67 : decode cL_overlaps 67 = .ok (.iconst 3, 1) := by decide +kernel
theorem dL_overlaps_68 : decode cL_overlaps 68 = .ok (.iaload, 1) := by decide +kernel
theorem dL_overlaps_69 : decode cL_overlaps 69 = .ok (.if_icmp .ge 41, 3) := by decide +kernel
theorem dL_overlaps_72 : decode cL_overlaps 72 = .ok (.iload 4, 2) := by decide +kernel
theorem dL_overlaps_74 : decode cL_overlaps 74 = .ok (.iload 5, 2) := by decide +kernel
theorem dL_overlaps_76 : decode cL_overlaps 76 = .ok (.iload_n 0, 1) := by decide +kernel
theorem dL_overlaps_77 : decode cL_overlaps 77 = .ok (.if_icmp .eq 14, 3) := by decide +kernel
theorem dL_overlaps_80 : decode cL_overlaps 80 = .ok (.aload_n 2, 1) := by decide +kernel
theorem dL_overlaps_81 : decode cL_overlaps 81 = .ok (.iconst 3, 1) := by decide +kernel
theorem dL_overlaps_82 : decode cL_overlaps 82 = .ok (.iload 5, 2) := by decide +kernel
theorem dL_overlaps_84 : decode cL_overlaps 84 = .ok (.imul, 1) := by decide +kernel
theorem dL_overlaps_85 : decode cL_overlaps 85 = .ok (.iconst 2, 1) := by decide +kernel
theorem dL_overlaps_86 : decode cL_overlaps 86 = .ok (.iadd, 1) := by decide +kernel
theorem dL_overlaps_87 : decode cL_overlaps 87 = .ok (.iaload, 1) := by decide +kernel
theorem dL_overlaps_88 : decode cL_overlaps 88 = .ok (.ifCond .eq 12, 3) := by decide +kernel
theorem dL_overlaps_91 : decode cL_overlaps 91 = .ok (.iconst 1, 1) := by decide +kernel
theorem dL_overlaps_92 : decode cL_overlaps 92 = .ok (.iload 5, 2) := by decide +kernel
theorem dL_overlaps_94 : decode cL_overlaps 94 = .ok (.ishl, 1) := by decide +kernel
theorem dL_overlaps_95 : decode cL_overlaps 95 = .ok (.iconst (-1), 1) := by decide +kernel
theorem dL_overlaps_96 : decode cL_overlaps 96 = .ok (.ixor, 1) := by decide +kernel
theorem dL_overlaps_97 : decode cL_overlaps 97 = .ok (.goto 4, 3) := by decide +kernel
theorem dL_overlaps_100 : decode cL_overlaps 100 = .ok (.iconst (-1), 1) := by decide +kernel
theorem dL_overlaps_101 : decode cL_overlaps 101 = .ok (.iand, 1) := by decide +kernel
theorem dL_overlaps_102 : decode cL_overlaps 102 = .ok (.istore 4, 2) := by decide +kernel
theorem dL_overlaps_104 : decode cL_overlaps 104 = .ok (.iinc 5 1, 3) := by decide +kernel
theorem dL_overlaps_107 : decode cL_overlaps 107 = .ok (.goto (-43), 3) := by decide +kernel
theorem dL_overlaps_110 : decode cL_overlaps 110 = .ok (.iload 4, 2) := by decide +kernel
theorem dL_overlaps_112 : decode cL_overlaps 112 = .ok (.ireturn, 1) := by decide +kernel
set_option maxRecDepth 20000 in
theorem ggL_isSo_X4_length : GoodIn wsL_isSo wsX4_length := goodIn_r _ [5, 6, 150, 151, 152, 153, 154, 155, 156, 157, 158, 159, 160, 161, 162, 163] (by decide +kernel) (by decide +kernel)
set_option maxRecDepth 20000 in
theorem gL_isSo_X4_length : GoodIn wsL_isSo (wsV RL 44 RX4 yX4_length wsX4_length) := goodIn_app (goodIn_of _ (by decide +kernel)) ggL_isSo_X4_length
set_option maxRecDepth 20000 in
theorem ggL_isSo_X4_version : GoodIn wsL_isSo wsX4_version := goodIn_r _ [10, 11, 150, 151, 152, 153, 154, 155, 156, 157, 158, 159, 160] (by decide +kernel) (by decide +kernel)
set_option maxRecDepth 20000 in
theorem gL_isSo_X4_version : GoodIn wsL_isSo (wsV RL 48 RX4 yX4_version wsX4_version) := goodIn_app (goodIn_of _ (by decide +kernel)) ggL_isSo_X4_version
set_option maxRecDepth 20000 in
theorem ggL_isSo_X4_comments : GoodIn wsL_isSo wsX4_comments := goodIn_r _ [15, 16, 150, 151, 152, 153, 154, 155, 156, 157, 158, 159, 160, 164, 165, 166, 167] (by decide +kernel) (by decide +kernel)
set_option maxRecDepth 20000 in
theorem gL_isSo_X4_comments : GoodIn wsL_isSo (wsV RL 51 RX4 yX4_comments wsX4_comments) := goodIn_app (goodIn_of _ (by decide +kernel)) ggL_isSo_X4_comments
set_option maxRecDepth 20000 in
theorem ggL_isSo_X4_letterAt : GoodIn wsL_isSo wsX4_letterAt := goodIn_ca (goodIn_r _ [20, 6, 21, 22, 23, 4, 24, 25, 26, 27, 28, 29, 30, 31, 32, 33, 34, 35, 36, 150, 151, 152, 153, 154, 155, 156, 157, 158, 159, 160, 161, 162, 163] (by decide +kernel) (by decide +kernel)) (goodIn_sub (fun _ h => List.mem_cons_of_mem _ (List.mem_append_right _ h)) (by decide +kernel))
set_option maxRecDepth 20000 in
theorem gL_isSo_X4_letterAt : GoodIn wsL_isSo (wsV RL 54 RX4 yX4_letterAt wsX4_letterAt) := goodIn_app (goodIn_of _ (by decide +kernel)) ggL_isSo_X4_letterAt
set_option maxRecDepth 20000 in
theorem ggL_isSo_X4_cover : GoodIn wsL_isSo wsX4_cover := goodIn_ca (goodIn_r _ [40, 16, 21, 22, 23, 4, 24, 25, 26, 6, 41, 42, 43, 44, 45, 46, 47, 48, 49, 150, 151, 152, 153, 154, 155, 156, 157, 158, 159, 160, 161, 162, 163, 164, 165, 166, 167] (by decide +kernel) (by decide +kernel)) (goodIn_sub (fun _ h => List.mem_cons_of_mem _ (List.mem_append_right _ h)) (by decide +kernel))
set_option maxRecDepth 20000 in
theorem gL_isSo_X4_cover : GoodIn wsL_isSo (wsV RL 57 RX4 yX4_cover wsX4_cover) := goodIn_app (goodIn_of _ (by decide +kernel)) ggL_isSo_X4_cover
set_option maxRecDepth 20000 in
theorem ggL_isSo_X4_coverByLetters : GoodIn wsL_isSo wsX4_coverByLetters := goodIn_ca (goodIn_r _ [53, 6, 21, 22, 23, 4, 24, 25, 26, 54, 28, 55, 56, 57, 32, 33, 34, 35, 36, 150, 151, 152, 153, 154, 155, 156, 157, 158, 159, 160, 161, 162, 163] (by decide +kernel) (by decide +kernel)) (goodIn_sub (fun _ h => List.mem_cons_of_mem _ (List.mem_append_right _ h)) (by decide +kernel))
set_option maxRecDepth 20000 in
theorem gL_isSo_X4_coverByLetters : GoodIn wsL_isSo (wsV RL 60 RX4 yX4_coverByLetters wsX4_coverByLetters) := goodIn_app (goodIn_of _ (by decide +kernel)) ggL_isSo_X4_coverByLetters
set_option maxRecDepth 20000 in
theorem ggL_isSo_X4_pieceAt : GoodIn wsL_isSo wsX4_pieceAt := goodIn_ca (goodIn_r _ [61, 25, 26, 6, 62, 63, 64, 4, 65, 16, 41, 42, 43, 44, 45, 46, 47, 48, 49, 150, 151, 152, 153, 154, 155, 156, 157, 158, 159, 160, 161, 162, 163, 164, 165, 166, 167] (by decide +kernel) (by decide +kernel)) (goodIn_sub (fun _ h => List.mem_cons_of_mem _ (List.mem_append_right _ h)) (by decide +kernel))
set_option maxRecDepth 20000 in
theorem gL_isSo_X4_pieceAt : GoodIn wsL_isSo (wsV RL 63 RX4 yX4_pieceAt wsX4_pieceAt) := goodIn_app (goodIn_of _ (by decide +kernel)) ggL_isSo_X4_pieceAt
set_option maxRecDepth 20000 in
theorem ggL_isSo_L_low : GoodIn wsL_isSo wsL_low := goodIn_r _ [69, 70] (by decide +kernel) (by decide +kernel)
set_option maxRecDepth 20000 in
theorem gL_isSo_L_low : GoodIn wsL_isSo (va_wsS RL 66 yL_low wsL_low) := goodIn_app (goodIn_of _ (by decide +kernel)) ggL_isSo_L_low
set_option maxRecDepth 20000 in
theorem ggL_isSo_X4_rangeOf : GoodIn wsL_isSo wsX4_rangeOf := goodIn_ca (goodIn_r _ [74, 16, 75, 76, 77, 4, 78, 25, 26, 79, 42, 80, 81, 46, 47, 82, 83, 84, 85, 150, 151, 152, 153, 154, 155, 156, 157, 158, 159, 160, 164, 165, 166, 167] (by decide +kernel) (by decide +kernel)) (goodIn_sub (fun _ h => List.mem_cons_of_mem _ (List.mem_append_right _ h)) (by decide +kernel))
set_option maxRecDepth 20000 in
theorem gL_isSo_X4_rangeOf : GoodIn wsL_isSo (wsV RL 70 RX4 yX4_rangeOf wsX4_rangeOf) := goodIn_app (goodIn_of _ (by decide +kernel)) ggL_isSo_X4_rangeOf
set_option maxRecDepth 20000 in
theorem ggL_isSo_L_range : GoodIn wsL_isSo wsL_range := goodIn_r _ [88, 89, 90, 68, 91, 92, 93, 94] (by decide +kernel) (by decide +kernel)
set_option maxRecDepth 20000 in
theorem gL_isSo_L_range : GoodIn wsL_isSo (va_wsS RL 37 yL_range wsL_range) := goodIn_app (goodIn_of _ (by decide +kernel)) ggL_isSo_L_range
set_option maxRecDepth 20000 in
theorem ggL_isSo_X4_rangeThen : GoodIn wsL_isSo wsX4_rangeThen := goodIn_ca (goodIn_r _ [98, 25, 26, 11, 16, 99, 75, 76, 77, 4, 78, 79, 42, 80, 81, 46, 47, 82, 83, 84, 85, 100, 101, 102, 103, 104, 150, 151, 152, 153, 154, 155, 156, 157, 158, 159, 160, 164, 165, 166, 167, 168] (by decide +kernel) (by decide +kernel)) (goodIn_sub (fun _ h => List.mem_cons_of_mem _ (List.mem_append_right _ h)) (by decide +kernel))
set_option maxRecDepth 20000 in
theorem gL_isSo_X4_rangeThen : GoodIn wsL_isSo (wsV RL 73 RX4 yX4_rangeThen wsX4_rangeThen) := goodIn_app (goodIn_of _ (by decide +kernel)) ggL_isSo_X4_rangeThen
set_option maxRecDepth 20000 in
theorem ggL_isSo_X4_stateOf : GoodIn wsL_isSo wsX4_stateOf := goodIn_ca (goodIn_r _ [108, 109, 110, 111, 112, 4, 113, 25, 26, 114, 150, 151, 152, 153, 154, 155, 156, 157, 158, 159, 160, 164, 165, 166, 167] (by decide +kernel) (by decide +kernel)) (goodIn_sub (fun _ h => List.mem_cons_of_mem _ (List.mem_append_right _ h)) (by decide +kernel))
set_option maxRecDepth 20000 in
theorem gL_isSo_X4_stateOf : GoodIn wsL_isSo (wsV RL 76 RX4 yX4_stateOf wsX4_stateOf) := goodIn_app (goodIn_of _ (by decide +kernel)) ggL_isSo_X4_stateOf
set_option maxRecDepth 20000 in
theorem ggL_isSo_X4_overlaps : GoodIn wsL_isSo wsX4_overlaps := goodIn_ca (goodIn_r _ [118, 110, 111, 112, 4, 113, 25, 26, 114, 119, 120, 121, 122, 109, 123, 42, 124, 125, 46, 126, 127, 128, 129, 47, 130, 131, 132, 133, 48, 49, 150, 151, 152, 153, 154, 155, 156, 157, 158, 159, 160, 164, 165, 166, 167] (by decide +kernel) (by decide +kernel)) (goodIn_sub (fun _ h => List.mem_cons_of_mem _ (List.mem_append_right _ h)) (by decide +kernel))
set_option maxRecDepth 20000 in
theorem gL_isSo_X4_overlaps : GoodIn wsL_isSo (wsV RL 79 RX4 yX4_overlaps wsX4_overlaps) := goodIn_app (goodIn_of _ (by decide +kernel)) ggL_isSo_X4_overlaps
set_option maxRecDepth 20000 in
theorem ggL_isSo_L_overlaps : GoodIn wsL_isSo wsL_overlaps := goodIn_r _ [136] (by decide +kernel) (by decide +kernel)
set_option maxRecDepth 20000 in
theorem gL_isSo_L_overlaps : GoodIn wsL_isSo (va_wsS RL 82 yL_overlaps wsL_overlaps) := goodIn_app (goodIn_of _ (by decide +kernel)) ggL_isSo_L_overlaps
set_option maxRecDepth 20000 in
theorem ggL_isSo_X4_pieces : GoodIn wsL_isSo wsX4_pieces := goodIn_r _ [140, 6, 62, 63, 64, 4, 65, 16, 41, 42, 43, 44, 45, 46, 47, 48, 49, 150, 151, 152, 153, 154, 155, 156, 157, 158, 159, 160, 161, 162, 163, 164, 165, 166, 167] (by decide +kernel) (by decide +kernel)
set_option maxRecDepth 20000 in
theorem gL_isSo_X4_pieces : GoodIn wsL_isSo (wsV RL 85 RX4 yX4_pieces wsX4_pieces) := goodIn_app (goodIn_of _ (by decide +kernel)) ggL_isSo_X4_pieces
set_option maxRecDepth 20000 in
theorem ggL_isSo_X4_open : GoodIn wsL_isSo wsX4_open := goodIn_r _ [144, 145, 150, 151, 152, 153, 154, 155, 156, 157, 158, 159, 160] (by decide +kernel) (by decide +kernel)
set_option maxRecDepth 20000 in
theorem gL_isSo_X4_open : GoodIn wsL_isSo (wsV RL 88 RX4 yX4_open wsX4_open) := goodIn_app (goodIn_of _ (by decide +kernel)) ggL_isSo_X4_open
set_option maxRecDepth 20000 in
theorem ggL_isSo_X4_orphans : GoodIn wsL_isSo wsX4_orphans := goodIn_r _ [149, 16, 83, 42, 84, 85, 46, 133, 48, 4, 49, 150, 151, 152, 153, 154, 155, 156, 157, 158, 159, 160, 164, 165, 166, 167] (by decide +kernel) (by decide +kernel)
set_option maxRecDepth 20000 in
theorem gL_isSo_X4_orphans : GoodIn wsL_isSo (wsV RL 91 RX4 yX4_orphans wsX4_orphans) := goodIn_app (goodIn_of _ (by decide +kernel)) ggL_isSo_X4_orphans
theorem dL_isSo_0 : decode cL_isSo 0 = .ok (.aload_n 0, 1) := by decide +kernel
theorem dL_isSo_1 : decode cL_isSo 1 = .ok (.invokevirtual 44, 3) := by decide +kernel
theorem dL_isSo_4 : decode cL_isSo 4 = .ok (.aload 7, 2) := by decide +kernel
theorem dL_isSo_6 : decode cL_isSo 6 = .ok (.iconst 0, 1) := by decide +kernel
theorem dL_isSo_7 : decode cL_isSo 7 = .ok (.iaload, 1) := by decide +kernel
theorem dL_isSo_8 : decode cL_isSo 8 = .ok (.if_icmp .ne 52, 3) := by decide +kernel
theorem dL_isSo_11 : decode cL_isSo 11 = .ok (.aload_n 0, 1) := by decide +kernel
theorem dL_isSo_12 : decode cL_isSo 12 = .ok (.invokevirtual 48, 3) := by decide +kernel
theorem dL_isSo_15 : decode cL_isSo 15 = .ok (.aload 7, 2) := by decide +kernel
theorem dL_isSo_17 : decode cL_isSo 17 = .ok (.iconst 1, 1) := by decide +kernel
theorem dL_isSo_18 : decode cL_isSo 18 = .ok (.iaload, 1) := by decide +kernel
theorem dL_isSo_19 : decode cL_isSo 19 = .ok (.if_icmp .ne 41, 3) := by decide +kernel
theorem dL_isSo_22 : decode cL_isSo 22 = .ok (.aload_n 0, 1) := by decide +kernel
theorem dL_isSo_23 : decode cL_isSo 23 = .ok (.invokevirtual 51, 3) := by decide +kernel
theorem dL_isSo_26 : decode cL_isSo 26 = .ok (.aload 7, 2) := by decide +kernel
theorem dL_isSo_28 : decode cL_isSo 28 = .ok (.iconst 2, 1) := by decide +kernel
theorem dL_isSo_29 : decode cL_isSo 29 = .ok (.iaload, 1) := by decide +kernel
theorem dL_isSo_30 : decode cL_isSo 30 = .ok (.if_icmp .ne 30, 3) := by decide +kernel
theorem dL_isSo_33 : decode cL_isSo 33 = .ok (.aload_n 0, 1) := by decide +kernel
theorem dL_isSo_34 : decode cL_isSo 34 = .ok (.aload 7, 2) := by decide +kernel
theorem dL_isSo_36 : decode cL_isSo 36 = .ok (.iconst 0, 1) := by decide +kernel
theorem dL_isSo_37 : decode cL_isSo 37 = .ok (.iaload, 1) := by decide +kernel
theorem dL_isSo_38 : decode cL_isSo 38 = .ok (.invokevirtual 54, 3) := by decide +kernel
theorem dL_isSo_41 : decode cL_isSo 41 = .ok (.iconst (-1), 1) := by decide +kernel
theorem dL_isSo_42 : decode cL_isSo 42 = .ok (.if_icmp .ne 18, 3) := by decide +kernel
theorem dL_isSo_45 : decode cL_isSo 45 = .ok (.aload_n 0, 1) := by decide +kernel
theorem dL_isSo_46 : decode cL_isSo 46 = .ok (.aload 7, 2) := by decide +kernel
theorem dL_isSo_48 : decode cL_isSo 48 = .ok (.iconst 0, 1) := by decide +kernel
theorem dL_isSo_49 : decode cL_isSo 49 = .ok (.iaload, 1) := by decide +kernel
theorem dL_isSo_50 : decode cL_isSo 50 = .ok (.invokevirtual 57, 3) := by decide +kernel
theorem dL_isSo_53 : decode cL_isSo 53 = .ok (.ifCond .ne 7, 3) := by decide +kernel
theorem dL_isSo_56 : decode cL_isSo 56 = .ok (.iconst 1, 1) := by decide +kernel
theorem dL_isSo_57 : decode cL_isSo 57 = .ok (.goto 4, 3) := by decide +kernel
theorem dL_isSo_60 : decode cL_isSo 60 = .ok (.iconst 0, 1) := by decide +kernel
theorem dL_isSo_61 : decode cL_isSo 61 = .ok (.istore 8, 2) := by decide +kernel
theorem dL_isSo_63 : decode cL_isSo 63 = .ok (.iconst 1, 1) := by decide +kernel
theorem dL_isSo_64 : decode cL_isSo 64 = .ok (.aload 7, 2) := by decide +kernel
theorem dL_isSo_66 : decode cL_isSo 66 = .ok (.iconst 2, 1) := by decide +kernel
theorem dL_isSo_67 : decode cL_isSo 67 = .ok (.iaload, 1) := by decide +kernel
theorem dL_isSo_68 : decode cL_isSo 68 = .ok (.ishl, 1) := by decide +kernel
theorem dL_isSo_69 : decode cL_isSo 69 = .ok (.iconst 1, 1) := by decide +kernel
theorem dL_isSo_70 : decode cL_isSo 70 = .ok (.isub, 1) := by decide +kernel
theorem dL_isSo_71 : decode cL_isSo 71 = .ok (.istore 9, 2) := by decide +kernel
theorem dL_isSo_73 : decode cL_isSo 73 = .ok (.iconst 0, 1) := by decide +kernel
theorem dL_isSo_74 : decode cL_isSo 74 = .ok (.istore 10, 2) := by decide +kernel
theorem dL_isSo_76 : decode cL_isSo 76 = .ok (.iconst 0, 1) := by decide +kernel
theorem dL_isSo_77 : decode cL_isSo 77 = .ok (.istore 11, 2) := by decide +kernel
theorem dL_isSo_79 : decode cL_isSo 79 = .ok (.iconst 0, 1) := by decide +kernel
theorem dL_isSo_80 : decode cL_isSo 80 = .ok (.istore 12, 2) := by decide +kernel
theorem dL_isSo_82 : decode cL_isSo 82 = .ok (.iload 12, 2) := by decide +kernel
theorem dL_isSo_84 : decode cL_isSo 84 = .ok (.aload 7, 2) := by decide +kernel
theorem dL_isSo_86 : decode cL_isSo 86 = .ok (.iconst 0, 1) := by decide +kernel
theorem dL_isSo_87 : decode cL_isSo 87 = .ok (.iaload, 1) := by decide +kernel
theorem dL_isSo_88 : decode cL_isSo 88 = .ok (.if_icmp .ge 135, 3) := by decide +kernel
theorem dL_isSo_91 : decode cL_isSo 91 = .ok (.iload 8, 2) := by decide +kernel
theorem dL_isSo_93 : decode cL_isSo 93 = .ok (.ifCond .eq 130, 3) := by decide +kernel
theorem dL_isSo_96 : decode cL_isSo 96 = .ok (.iload 12, 2) := by decide +kernel
theorem dL_isSo_98 : decode cL_isSo 98 = .ok (.ifCond .eq 20, 3) := by decide +kernel
theorem dL_isSo_101 : decode cL_isSo 101 = .ok (.aload_n 3, 1) := by decide +kernel
theorem dL_isSo_102 : decode cL_isSo 102 = .ok (.iload 12, 2) := by decide +kernel
theorem dL_isSo_104 : decode cL_isSo 104 = .ok (.iaload, 1) := by decide +kernel
theorem dL_isSo_105 : decode cL_isSo 105 = .ok (.aload_n 3, 1) := by decide +kernel
theorem dL_isSo_106 : decode cL_isSo 106 = .ok (.iload 12, 2) := by decide +kernel
theorem dL_isSo_108 : decode cL_isSo 108 = .ok (.iconst 1, 1) := by decide +kernel
theorem dL_isSo_109 : decode cL_isSo 109 = .ok (.isub, 1) := by decide +kernel
theorem dL_isSo_110 : decode cL_isSo 110 = .ok (.iaload, 1) := by decide +kernel
theorem dL_isSo_111 : decode cL_isSo 111 = .ok (.ixor, 1) := by decide +kernel
theorem dL_isSo_112 : decode cL_isSo 112 = .ok (.iload 9, 2) := by decide +kernel
theorem dL_isSo_114 : decode cL_isSo 114 = .ok (.iand, 1) := by decide +kernel
theorem dL_isSo_115 : decode cL_isSo 115 = .ok (.ifCond .eq 7, 3) := by decide +kernel
theorem dL_isSo_118 : decode cL_isSo 118 = .ok (.iconst 1, 1) := by decide +kernel
theorem dL_isSo_119 : decode cL_isSo 119 = .ok (.goto 4, 3) := by decide +kernel
theorem dL_isSo_122 : decode cL_isSo 122 = .ok (.iconst 0, 1) := by decide +kernel
theorem dL_isSo_123 : decode cL_isSo 123 = .ok (.istore 13, 2) := by decide +kernel
theorem dL_isSo_125 : decode cL_isSo 125 = .ok (.iload 11, 2) := by decide +kernel
theorem dL_isSo_127 : decode cL_isSo 127 = .ok (.aload_n 3, 1) := by decide +kernel
theorem dL_isSo_128 : decode cL_isSo 128 = .ok (.iload 12, 2) := by decide +kernel
theorem dL_isSo_130 : decode cL_isSo 130 = .ok (.iaload, 1) := by decide +kernel
theorem dL_isSo_131 : decode cL_isSo 131 = .ok (.ior, 1) := by decide +kernel
theorem dL_isSo_132 : decode cL_isSo 132 = .ok (.istore 11, 2) := by decide +kernel
theorem dL_isSo_134 : decode cL_isSo 134 = .ok (.aload_n 0, 1) := by decide +kernel
theorem dL_isSo_135 : decode cL_isSo 135 = .ok (.iload 12, 2) := by decide +kernel
theorem dL_isSo_137 : decode cL_isSo 137 = .ok (.invokevirtual 54, 3) := by decide +kernel
theorem dL_isSo_140 : decode cL_isSo 140 = .ok (.aload_n 2, 1) := by decide +kernel
theorem dL_isSo_141 : decode cL_isSo 141 = .ok (.iload 12, 2) := by decide +kernel
theorem dL_isSo_143 : decode cL_isSo 143 = .ok (.iaload, 1) := by decide +kernel
theorem dL_isSo_144 : decode cL_isSo 144 = .ok (.if_icmp .ne 55, 3) := by decide +kernel
theorem dL_isSo_147 : decode cL_isSo 147 = .ok (.aload_n 0, 1) := by decide +kernel
theorem dL_isSo_148 : decode cL_isSo 148 = .ok (.iload 12, 2) := by decide +kernel
theorem dL_isSo_150 : decode cL_isSo 150 = .ok (.invokevirtual 57, 3) := by decide +kernel
theorem dL_isSo_153 : decode cL_isSo 153 = .ok (.aload_n 3, 1) := by decide +kernel
theorem dL_isSo_154 : decode cL_isSo 154 = .ok (.iload 12, 2) := by decide +kernel
theorem dL_isSo_156 : decode cL_isSo 156 = .ok (.iaload, 1) := by decide +kernel
theorem dL_isSo_157 : decode cL_isSo 157 = .ok (.iload 9, 2) := by decide +kernel
theorem dL_isSo_159 : decode cL_isSo 159 = .ok (.iand, 1) := by decide +kernel
theorem dL_isSo_160 : decode cL_isSo 160 = .ok (.if_icmp .ne 39, 3) := by decide +kernel
theorem dL_isSo_163 : decode cL_isSo 163 = .ok (.aload_n 0, 1) := by decide +kernel
theorem dL_isSo_164 : decode cL_isSo 164 = .ok (.iload 12, 2) := by decide +kernel
theorem dL_isSo_166 : decode cL_isSo 166 = .ok (.invokevirtual 60, 3) := by decide +kernel
theorem dL_isSo_169 : decode cL_isSo 169 = .ok (.aload_n 3, 1) := by decide +kernel
theorem dL_isSo_170 : decode cL_isSo 170 = .ok (.iload 12, 2) := by decide +kernel
theorem dL_isSo_172 : decode cL_isSo 172 = .ok (.iaload, 1) := by decide +kernel
theorem dL_isSo_173 : decode cL_isSo 173 = .ok (.iload 9, 2) := by decide +kernel
theorem dL_isSo_175 : decode cL_isSo 175 = .ok (.iand, 1) := by decide +kernel
theorem dL_isSo_176 : decode cL_isSo 176 = .ok (.if_icmp .ne 23, 3) := by decide +kernel
theorem dL_isSo_179 : decode cL_isSo 179 = .ok (.iload 13, 2) := by decide +kernel
theorem dL_isSo_181 : decode cL_isSo 181 = .ok (.ifCond .eq 14, 3) := by decide +kernel
theorem dL_isSo_184 : decode cL_isSo 184 = .ok (.aload_n 0, 1) := by decide +kernel
theorem dL_isSo_185 : decode cL_isSo 185 = .ok (.iload 10, 2) := by decide +kernel
theorem dL_isSo_187 : decode cL_isSo 187 = .ok (.invokevirtual 63, 3) := by decide +kernel
theorem dL_isSo_190 : decode cL_isSo 190 = .ok (.iload 12, 2) := by decide +kernel
theorem dL_isSo_192 : decode cL_isSo 192 = .ok (.if_icmp .ne 7, 3) := by decide +kernel
theorem dL_isSo_195 : decode cL_isSo 195 = .ok (.iconst 1, 1) := by decide +kernel
theorem dL_isSo_196 : decode cL_isSo 196 = .ok (.goto 4, 3) := by decide +kernel
theorem dL_isSo_199 : decode cL_isSo 199 = .ok (.iconst 0, 1) := by decide +kernel
theorem dL_isSo_200 : decode cL_isSo 200 = .ok (.istore 8, 2) := by decide +kernel
theorem dL_isSo_202 : decode cL_isSo 202 = .ok (.iload 10, 2) := by decide +kernel
theorem dL_isSo_204 : decode cL_isSo 204 = .ok (.iload 13, 2) := by decide +kernel
theorem dL_isSo_206 : decode cL_isSo 206 = .ok (.ifCond .eq 7, 3) := by decide +kernel
theorem dL_isSo_209 : decode cL_isSo 209 = .ok (.iconst 1, 1) := by decide +kernel
theorem dL_isSo_210 : decode cL_isSo 210 = .ok (.goto 4, 3) := by decide +kernel
theorem dL_isSo_213 : decode cL_isSo 213 = .ok (.iconst 0, 1) := by decide +kernel
theorem dL_isSo_214 : decode cL_isSo 214 = .ok (.iadd, 1) := by decide +kernel
theorem dL_isSo_215 : decode cL_isSo 215 = .ok (.istore 10, 2) := by decide +kernel
theorem dL_isSo_217 : decode cL_isSo 217 = .ok (.iinc 12 1, 3) := by decide +kernel
theorem dL_isSo_220 : decode cL_isSo 220 = .ok (.goto (-138), 3) := by decide +kernel
theorem dL_isSo_223 : decode cL_isSo 223 = .ok (.iconst 0, 1) := by decide +kernel
theorem dL_isSo_224 : decode cL_isSo 224 = .ok (.istore 12, 2) := by decide +kernel
theorem dL_isSo_226 : decode cL_isSo 226 = .ok (.aload 7, 2) := by decide +kernel
theorem dL_isSo_228 : decode cL_isSo 228 = .ok (.iconst 1, 1) := by decide +kernel
theorem dL_isSo_229 : decode cL_isSo 229 = .ok (.iaload, 1) := by decide +kernel
theorem dL_isSo_230 : decode cL_isSo 230 = .ok (.bipush 8, 2) := by decide +kernel
theorem dL_isSo_232 : decode cL_isSo 232 = .ok (.if_icmp .ge 16, 3) := by decide +kernel
theorem dL_isSo_235 : decode cL_isSo 235 = .ok (.iload_n 1, 1) := by decide +kernel
theorem dL_isSo_236 : decode cL_isSo 236 = .ok (.aload 7, 2) := by decide +kernel
theorem dL_isSo_238 : decode cL_isSo 238 = .ok (.iconst 1, 1) := by decide +kernel
theorem dL_isSo_239 : decode cL_isSo 239 = .ok (.iaload, 1) := by decide +kernel
theorem dL_isSo_240 : decode cL_isSo 240 = .ok (.iconst 1, 1) := by decide +kernel
theorem dL_isSo_241 : decode cL_isSo 241 = .ok (.iadd, 1) := by decide +kernel
theorem dL_isSo_242 : decode cL_isSo 242 = .ok (.invokestatic 66, 3) := by decide +kernel
theorem dL_isSo_245 : decode cL_isSo 245 = .ok (.goto 14, 3) := by decide +kernel
theorem dL_isSo_248 : decode cL_isSo 248 = .ok (.aload 7, 2) := by decide +kernel
theorem dL_isSo_250 : decode cL_isSo 250 = .ok (.iconst 1, 1) := by decide +kernel
theorem dL_isSo_251 : decode cL_isSo 251 = .ok (.iaload, 1) := by decide +kernel
theorem dL_isSo_252 : decode cL_isSo 252 = .ok (.iload_n 1, 1) := by decide +kernel
theorem dL_isSo_253 : decode cL_isSo 253 = .ok (.bipush 8, 2) := by decide +kernel
theorem dL_isSo_255 : decode cL_isSo 255 = .ok (.invokestatic 66, 3) := by decide +kernel
theorem dL_isSo_258 : decode cL_isSo 258 = .ok (.isub, 1) := by decide +kernel
theorem dL_isSo_259 : decode cL_isSo 259 = .ok (.istore 13, 2) := by decide +kernel
theorem dL_isSo_261 : decode cL_isSo 261 = .ok (.iconst 0, 1) := by decide +kernel
theorem dL_isSo_262 : decode cL_isSo 262 = .ok (.istore 14, 2) := by decide +kernel
theorem dL_isSo_264 : decode cL_isSo 264 = .ok (.iload 14, 2) := by decide +kernel
theorem dL_isSo_266 : decode cL_isSo 266 = .ok (.aload 7, 2) := by decide +kernel
theorem dL_isSo_268 : decode cL_isSo 268 = .ok (.iconst 2, 1) := by decide +kernel
theorem dL_isSo_269 : decode cL_isSo 269 = .ok (.iaload, 1) := by decide +kernel
theorem dL_isSo_270 : decode cL_isSo 270 = .ok (.if_icmp .ge 81, 3) := by decide +kernel
theorem dL_isSo_273 : decode cL_isSo 273 = .ok (.iload 8, 2) := by decide +kernel
theorem dL_isSo_275 : decode cL_isSo 275 = .ok (.ifCond .eq 76, 3) := by decide +kernel
theorem dL_isSo_278 : decode cL_isSo 278 = .ok (.iload 12, 2) := by decide +kernel
theorem dL_isSo_280 : decode cL_isSo 280 = .ok (.aload 4, 2) := by decide +kernel
theorem dL_isSo_282 : decode cL_isSo 282 = .ok (.bipush 6, 2) := by decide +kernel
theorem dL_isSo_284 : decode cL_isSo 284 = .ok (.iload 14, 2) := by decide +kernel
theorem dL_isSo_286 : decode cL_isSo 286 = .ok (.imul, 1) := by decide +kernel
theorem dL_isSo_287 : decode cL_isSo 287 = .ok (.iconst 1, 1) := by decide +kernel
theorem dL_isSo_288 : decode cL_isSo 288 = .ok (.iadd, 1) := by decide +kernel
theorem dL_isSo_289 : decode cL_isSo 289 = .ok (.iaload, 1) := by decide +kernel
theorem dL_isSo_290 : decode cL_isSo 290 = .ok (.iload 14, 2) := by decide +kernel
theorem dL_isSo_292 : decode cL_isSo 292 = .ok (.ishl, 1) := by decide +kernel
theorem dL_isSo_293 : decode cL_isSo 293 = .ok (.ior, 1) := by decide +kernel
theorem dL_isSo_294 : decode cL_isSo 294 = .ok (.istore 12, 2) := by decide +kernel
theorem dL_isSo_296 : decode cL_isSo 296 = .ok (.aload_n 0, 1) := by decide +kernel
theorem dL_isSo_297 : decode cL_isSo 297 = .ok (.iload 14, 2) := by decide +kernel
theorem dL_isSo_299 : decode cL_isSo 299 = .ok (.invokevirtual 70, 3) := by decide +kernel
theorem dL_isSo_302 : decode cL_isSo 302 = .ok (.iload 14, 2) := by decide +kernel
theorem dL_isSo_304 : decode cL_isSo 304 = .ok (.aload_n 3, 1) := by decide +kernel
