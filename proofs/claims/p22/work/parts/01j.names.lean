theorem dL_passes_0 : decode cL_passes 0 = .ok (.aload_n 0, 1) := by decide +kernel
theorem dL_passes_1 : decode cL_passes 1 = .ok (.iconst 0, 1) := by decide +kernel
theorem dL_passes_2 : decode cL_passes 2 = .ok (.invokestatic 141, 3) := by decide +kernel
theorem dL_passes_5 : decode cL_passes 5 = .ok (.ldc 19, 2) := by decide +kernel
theorem dL_passes_7 : decode cL_passes 7 = .ok (.if_icmp .ne 41, 3) := by decide +kernel
theorem dL_passes_10 : decode cL_passes 10 = .ok (.aload_n 0, 1) := by decide +kernel
theorem dL_passes_11 : decode cL_passes 11 = .ok (.bipush 101, 2) := by decide +kernel
theorem dL_passes_13 : decode cL_passes 13 = .ok (.invokestatic 141, 3) := by decide +kernel
theorem dL_passes_16 : decode cL_passes 16 = .ok (.ldc 19, 2) := by decide +kernel
theorem dL_passes_18 : decode cL_passes 18 = .ok (.if_icmp .ne 30, 3) := by decide +kernel
theorem dL_passes_21 : decode cL_passes 21 = .ok (.aload 9, 2) := by decide +kernel
theorem dL_passes_23 : decode cL_passes 23 = .ok (.iconst 0, 1) := by decide +kernel
theorem dL_passes_24 : decode cL_passes 24 = .ok (.iaload, 1) := by decide +kernel
theorem dL_passes_25 : decode cL_passes 25 = .ok (.sipush 900, 3) := by decide +kernel
theorem dL_passes_28 : decode cL_passes 28 = .ok (.if_icmp .le 22, 3) := by decide +kernel
theorem dL_passes_31 : decode cL_passes 31 = .ok (.aload_n 0, 1) := by decide +kernel
theorem dL_passes_32 : decode cL_passes 32 = .ok (.sipush 1001, 3) := by decide +kernel
theorem dL_passes_35 : decode cL_passes 35 = .ok (.aload 9, 2) := by decide +kernel
theorem dL_passes_37 : decode cL_passes 37 = .ok (.iconst 0, 1) := by decide +kernel
theorem dL_passes_38 : decode cL_passes 38 = .ok (.iaload, 1) := by decide +kernel
theorem dL_passes_39 : decode cL_passes 39 = .ok (.isub, 1) := by decide +kernel
theorem dL_passes_40 : decode cL_passes 40 = .ok (.invokestatic 141, 3) := by decide +kernel
theorem dL_passes_43 : decode cL_passes 43 = .ok (.ldc 29, 2) := by decide +kernel
theorem dL_passes_45 : decode cL_passes 45 = .ok (.if_icmp .eq 5, 3) := by decide +kernel
theorem dL_passes_48 : decode cL_passes 48 = .ok (.iconst 0, 1) := by decide +kernel
theorem dL_passes_49 : decode cL_passes 49 = .ok (.ireturn, 1) := by decide +kernel
theorem dL_passes_50 : decode cL_passes 50 = .ok (.aload 9, 2) := by decide +kernel
theorem dL_passes_52 : decode cL_passes 52 = .ok (.iconst 0, 1) := by decide +kernel
theorem dL_passes_53 : decode cL_passes 53 = .ok (.iaload, 1) := by decide +kernel
theorem dL_passes_54 : decode cL_passes 54 = .ok (.iload_n 1, 1) := by decide +kernel
theorem dL_passes_55 : decode cL_passes 55 = .ok (.iadd, 1) := by decide +kernel
theorem dL_passes_56 : decode cL_passes 56 = .ok (.sipush 1000, 3) := by decide +kernel
theorem dL_passes_59 : decode cL_passes 59 = .ok (.if_icmp .le 19, 3) := by decide +kernel
theorem dL_passes_62 : decode cL_passes 62 = .ok (.aload_n 0, 1) := by decide +kernel
theorem dL_passes_63 : decode cL_passes 63 = .ok (.iload_n 1, 1) := by decide +kernel
theorem dL_passes_64 : decode cL_passes 64 = .ok (.invokestatic 141, 3) := by decide +kernel
theorem dL_passes_67 : decode cL_passes 67 = .ok (.ldc 29, 2) := by decide +kernel
theorem dL_passes_69 : decode cL_passes 69 = .ok (.if_icmp .ne 7, 3) := by decide +kernel
theorem dL_passes_72 : decode cL_passes 72 = .ok (.iconst 1, 1) := by decide +kernel
theorem dL_passes_73 : decode cL_passes 73 = .ok (.goto 4, 3) := by decide +kernel
theorem dL_passes_76 : decode cL_passes 76 = .ok (.iconst 0, 1) := by decide +kernel
theorem dL_passes_77 : decode cL_passes 77 = .ok (.ireturn, 1) := by decide +kernel
theorem dL_passes_78 : decode cL_passes 78 = .ok (.iconst 0, 1) := by decide +kernel
theorem dL_passes_79 : decode cL_passes 79 = .ok (.istore 10, 2) := by decide +kernel
theorem dL_passes_81 : decode cL_passes 81 = .ok (.iconst 0, 1) := by decide +kernel
theorem dL_passes_82 : decode cL_passes 82 = .ok (.istore 11, 2) := by decide +kernel
theorem dL_passes_84 : decode cL_passes 84 = .ok (.iload 11, 2) := by decide +kernel
theorem dL_passes_86 : decode cL_passes 86 = .ok (.iload_n 1, 1) := by decide +kernel
theorem dL_passes_87 : decode cL_passes 87 = .ok (.if_icmp .ge 173, 3) := by decide +kernel
theorem dL_passes_90 : decode cL_passes 90 = .ok (.iconst 0, 1) := by decide +kernel
theorem dL_passes_91 : decode cL_passes 91 = .ok (.istore 12, 2) := by decide +kernel
theorem dL_passes_93 : decode cL_passes 93 = .ok (.iload 12, 2) := by decide +kernel
theorem dL_passes_95 : decode cL_passes 95 = .ok (.aload 9, 2) := by decide +kernel
theorem dL_passes_97 : decode cL_passes 97 = .ok (.iconst 1, 1) := by decide +kernel
theorem dL_passes_98 : decode cL_passes 98 = .ok (.iaload, 1) := by decide +kernel
theorem dL_passes_99 : decode cL_passes 99 = .ok (.if_icmp .ge 73, 3) := by decide +kernel
theorem dL_passes_102 : decode cL_passes 102 = .ok (.aload 4, 2) := by decide +kernel
theorem dL_passes_104 : decode cL_passes 104 = .ok (.iload 12, 2) := by decide +kernel
theorem dL_passes_106 : decode cL_passes 106 = .ok (.iaload, 1) := by decide +kernel
theorem dL_passes_107 : decode cL_passes 107 = .ok (.aload 9, 2) := by decide +kernel
theorem dL_passes_109 : decode cL_passes 109 = .ok (.iconst 0, 1) := by decide +kernel
theorem dL_passes_110 : decode cL_passes 110 = .ok (.iaload, 1) := by decide +kernel
theorem dL_passes_111 : decode cL_passes 111 = .ok (.if_icmp .ne 55, 3) := by decide +kernel
theorem dL_passes_114 : decode cL_passes 114 = .ok (.aload_n 3, 1) := by decide +kernel
theorem dL_passes_115 : decode cL_passes 115 = .ok (.iload 12, 2) := by decide +kernel
theorem dL_passes_117 : decode cL_passes 117 = .ok (.iaload, 1) := by decide +kernel
theorem dL_passes_118 : decode cL_passes 118 = .ok (.ifCond .ne 6, 3) := by decide +kernel
theorem dL_passes_121 : decode cL_passes 121 = .ok (.goto 45, 3) := by decide +kernel
theorem dL_passes_124 : decode cL_passes 124 = .ok (.aload 7, 2) := by decide +kernel
theorem dL_passes_126 : decode cL_passes 126 = .ok (.aload 9, 2) := by decide +kernel
theorem dL_passes_128 : decode cL_passes 128 = .ok (.aload_n 2, 1) := by decide +kernel
theorem dL_passes_129 : decode cL_passes 129 = .ok (.iload 12, 2) := by decide +kernel
theorem dL_passes_131 : decode cL_passes 131 = .ok (.iaload, 1) := by decide +kernel
theorem dL_passes_132 : decode cL_passes 132 = .ok (.iconst 1, 1) := by decide +kernel
theorem dL_passes_133 : decode cL_passes 133 = .ok (.iand, 1) := by decide +kernel
theorem dL_passes_134 : decode cL_passes 134 = .ok (.iconst 2, 1) := by decide +kernel
theorem dL_passes_135 : decode cL_passes 135 = .ok (.aload_n 2, 1) := by decide +kernel
theorem dL_passes_136 : decode cL_passes 136 = .ok (.aload_n 3, 1) := by decide +kernel
theorem dL_passes_137 : decode cL_passes 137 = .ok (.aload 5, 2) := by decide +kernel
theorem dL_passes_139 : decode cL_passes 139 = .ok (.iload 12, 2) := by decide +kernel
theorem dL_passes_141 : decode cL_passes 141 = .ok (.aload 6, 2) := by decide +kernel
theorem dL_passes_143 : decode cL_passes 143 = .ok (.aload_n 2, 1) := by decide +kernel
theorem dL_passes_144 : decode cL_passes 144 = .ok (.iload 12, 2) := by decide +kernel
theorem dL_passes_146 : decode cL_passes 146 = .ok (.iaload, 1) := by decide +kernel
theorem dL_passes_147 : decode cL_passes 147 = .ok (.iconst 1, 1) := by decide +kernel
theorem dL_passes_148 : decode cL_passes 148 = .ok (.ishr, 1) := by decide +kernel
theorem dL_passes_149 : decode cL_passes 149 = .ok (.iconst 1, 1) := by decide +kernel
theorem dL_passes_150 : decode cL_passes 150 = .ok (.iand, 1) := by decide +kernel
theorem dL_passes_151 : decode cL_passes 151 = .ok (.iaload, 1) := by decide +kernel
theorem dL_passes_152 : decode cL_passes 152 = .ok (.invokestatic 91, 3) := by decide +kernel
theorem dL_passes_155 : decode cL_passes 155 = .ok (.invokestatic 137, 3) := by decide +kernel
theorem dL_passes_158 : decode cL_passes 158 = .ok (.aload_n 3, 1) := by decide +kernel
theorem dL_passes_159 : decode cL_passes 159 = .ok (.iload 12, 2) := by decide +kernel
theorem dL_passes_161 : decode cL_passes 161 = .ok (.iconst 0, 1) := by decide +kernel
theorem dL_passes_162 : decode cL_passes 162 = .ok (.iastore, 1) := by decide +kernel
theorem dL_passes_163 : decode cL_passes 163 = .ok (.iinc 10 1, 3) := by decide +kernel
theorem dL_passes_166 : decode cL_passes 166 = .ok (.iinc 12 1, 3) := by decide +kernel
theorem dL_passes_169 : decode cL_passes 169 = .ok (.goto (-76), 3) := by decide +kernel
theorem dL_passes_172 : decode cL_passes 172 = .ok (.aload 9, 2) := by decide +kernel
theorem dL_passes_174 : decode cL_passes 174 = .ok (.iconst 0, 1) := by decide +kernel
theorem dL_passes_175 : decode cL_passes 175 = .ok (.dup2, 1) := by decide +kernel
theorem dL_passes_176 : decode cL_passes 176 = .ok (.iaload, 1) := by decide +kernel
theorem dL_passes_177 : decode cL_passes 177 = .ok (.iconst 1, 1) := by decide +kernel
theorem dL_passes_178 : decode cL_passes 178 = .ok (.iadd, 1) := by decide +kernel
theorem dL_passes_179 : decode cL_passes 179 = .ok (.iastore, 1) := by decide +kernel
theorem dL_passes_180 : decode cL_passes 180 = .ok (.aload 9, 2) := by decide +kernel
theorem dL_passes_182 : decode cL_passes 182 = .ok (.iconst 2, 1) := by decide +kernel
theorem dL_passes_183 : decode cL_passes 183 = .ok (.dup2, 1) := by decide +kernel
theorem dL_passes_184 : decode cL_passes 184 = .ok (.iaload, 1) := by decide +kernel
theorem dL_passes_185 : decode cL_passes 185 = .ok (.iconst 1, 1) := by decide +kernel
theorem dL_passes_186 : decode cL_passes 186 = .ok (.ishr, 1) := by decide +kernel
theorem dL_passes_187 : decode cL_passes 187 = .ok (.iastore, 1) := by decide +kernel
theorem dL_passes_188 : decode cL_passes 188 = .ok (.aload 9, 2) := by decide +kernel
theorem dL_passes_190 : decode cL_passes 190 = .ok (.iconst 2, 1) := by decide +kernel
theorem dL_passes_191 : decode cL_passes 191 = .ok (.dup2, 1) := by decide +kernel
theorem dL_passes_192 : decode cL_passes 192 = .ok (.iaload, 1) := by decide +kernel
theorem dL_passes_193 : decode cL_passes 193 = .ok (.bipush (-2), 2) := by decide +kernel
theorem dL_passes_195 : decode cL_passes 195 = .ok (.iand, 1) := by decide +kernel
theorem dL_passes_196 : decode cL_passes 196 = .ok (.iastore, 1) := by decide +kernel
theorem dL_passes_197 : decode cL_passes 197 = .ok (.iconst 0, 1) := by decide +kernel
theorem dL_passes_198 : decode cL_passes 198 = .ok (.istore 12, 2) := by decide +kernel
theorem dL_passes_200 : decode cL_passes 200 = .ok (.iload 12, 2) := by decide +kernel
theorem dL_passes_202 : decode cL_passes 202 = .ok (.bipush 6, 2) := by decide +kernel
theorem dL_passes_204 : decode cL_passes 204 = .ok (.if_icmp .ge 50, 3) := by decide +kernel
theorem dL_passes_207 : decode cL_passes 207 = .ok (.aload 8, 2) := by decide +kernel
theorem dL_passes_209 : decode cL_passes 209 = .ok (.iload 12, 2) := by decide +kernel
theorem dL_passes_211 : decode cL_passes 211 = .ok (.dup2, 1) := by decide +kernel
theorem dL_passes_212 : decode cL_passes 212 = .ok (.laload, 1) := by decide +kernel
theorem dL_passes_213 : decode cL_passes 213 = .ok (.aload 7, 2) := by decide +kernel
theorem dL_passes_215 : decode cL_passes 215 = .ok (.bipush 6, 2) := by decide +kernel
theorem dL_passes_217 : decode cL_passes 217 = .ok (.aload 9, 2) := by decide +kernel
theorem dL_passes_219 : decode cL_passes 219 = .ok (.iconst 0, 1) := by decide +kernel
theorem dL_passes_220 : decode cL_passes 220 = .ok (.iaload, 1) := by decide +kernel
theorem dL_passes_221 : decode cL_passes 221 = .ok (.bipush 10, 2) := by decide +kernel
theorem dL_passes_223 : decode cL_passes 223 = .ok (.irem, 1) := by decide +kernel
theorem dL_passes_224 : decode cL_passes 224 = .ok (.imul, 1) := by decide +kernel
theorem dL_passes_225 : decode cL_passes 225 = .ok (.iload 12, 2) := by decide +kernel
theorem dL_passes_227 : decode cL_passes 227 = .ok (.iadd, 1) := by decide +kernel
theorem dL_passes_228 : decode cL_passes 228 = .ok (.laload, 1) := by decide +kernel
theorem dL_passes_229 : decode cL_passes 229 = .ok (.ladd, 1) := by decide +kernel
theorem dL_passes_230 : decode cL_passes 230 = .ok (.lastore, 1) := by decide +kernel
theorem dL_passes_231 : decode cL_passes 231 = .ok (.aload 7, 2) := by decide +kernel
theorem dL_passes_233 : decode cL_passes 233 = .ok (.bipush 6, 2) := by decide +kernel
theorem dL_passes_235 : decode cL_passes 235 = .ok (.aload 9, 2) := by decide +kernel
theorem dL_passes_237 : decode cL_passes 237 = .ok (.iconst 0, 1) := by decide +kernel
theorem dL_passes_238 : decode cL_passes 238 = .ok (.iaload, 1) := by decide +kernel
theorem dL_passes_239 : decode cL_passes 239 = .ok (.bipush 10, 2) := by decide +kernel
theorem dL_passes_241 : decode cL_passes 241 = .ok (.irem, 1) := by decide +kernel
theorem dL_passes_242 : decode cL_passes 242 = .ok (.imul, 1) := by decide +kernel
theorem dL_passes_243 : decode cL_passes 243 = .ok (.iload 12, 2) := by decide +kernel
theorem dL_passes_245 : decode cL_passes 245 = .ok (.iadd, 1) := by decide +kernel
theorem dL_passes_246 : decode cL_passes 246 = .ok (.lconst 0, 1) := by decide +kernel
theorem dL_passes_247 : decode cL_passes 247 = .ok (.lastore, 1) := by decide +kernel
theorem dL_passes_248 : decode cL_passes 248 = .ok (.iinc 12 1, 3) := by decide +kernel
theorem dL_passes_251 : decode cL_passes 251 = .ok (.goto (-51), 3) := by decide +kernel
theorem dL_passes_254 : decode cL_passes 254 = .ok (.iinc 11 1, 3) := by decide +kernel
theorem dL_passes_257 : decode cL_passes 257 = .ok (.goto (-173), 3) := by decide +kernel
theorem dL_passes_260 : decode cL_passes 260 = .ok (.aload_n 0, 1) := by decide +kernel
theorem dL_passes_261 : decode cL_passes 261 = .ok (.iload_n 1, 1) := by decide +kernel
theorem dL_passes_262 : decode cL_passes 262 = .ok (.invokestatic 141, 3) := by decide +kernel
theorem dL_passes_265 : decode cL_passes 265 = .ok (.iload 10, 2) := by decide +kernel
theorem dL_passes_267 : decode cL_passes 267 = .ok (.if_icmp .ne 7, 3) := by decide +kernel
theorem dL_passes_270 : decode cL_passes 270 = .ok (.iconst 1, 1) := by decide +kernel
theorem dL_passes_271 : decode cL_passes 271 = .ok (.goto 4, 3) := by decide +kernel
theorem dL_passes_274 : decode cL_passes 274 = .ok (.iconst 0, 1) := by decide +kernel
theorem dL_passes_275 : decode cL_passes 275 = .ok (.ireturn, 1) := by decide +kernel
set_option maxRecDepth 20000 in
theorem ggL_isTold_L_now : GoodIn wsL_isTold wsL_now := goodIn_r _ [8, 9, 10, 7, 11] (by decide +kernel) (by decide +kernel)
set_option maxRecDepth 20000 in
theorem gL_isTold_L_now : GoodIn wsL_isTold (va_wsS RL 87 yL_now wsL_now) := goodIn_app (goodIn_of _ (by decide +kernel)) ggL_isTold_L_now
set_option maxRecDepth 20000 in
theorem ggL_isTold_L_gains : GoodIn wsL_isTold wsL_gains := goodIn_r _ [14, 15, 16, 7, 17, 18] (by decide +kernel) (by decide +kernel)
set_option maxRecDepth 20000 in
theorem gL_isTold_L_gains : GoodIn wsL_isTold (va_wsS RL 91 yL_gains wsL_gains) := goodIn_app (goodIn_of _ (by decide +kernel)) ggL_isTold_L_gains
set_option maxRecDepth 20000 in
theorem ggL_isTold_L_left : GoodIn wsL_isTold wsL_left := goodIn_ca (goodIn_r _ [21, 22, 1, 23, 24, 25, 26, 27, 28, 29, 30, 31, 32, 33, 34, 35, 36, 37, 192, 193, 194, 195, 196, 197, 198, 199, 200, 201, 202, 203] (by decide +kernel) (by decide +kernel)) (goodIn_sub (fun _ h => List.mem_cons_of_mem _ (List.mem_append_left _ (List.mem_append_right _ h))) (by decide +kernel))
set_option maxRecDepth 20000 in
theorem gL_isTold_L_left : GoodIn wsL_isTold (va_wsS RL 143 yL_left wsL_left) := goodIn_app (goodIn_of _ (by decide +kernel)) ggL_isTold_L_left
set_option maxRecDepth 20000 in
theorem ggL_isTold_X5_rate : GoodIn wsL_isTold wsX5_rate := goodIn_ca (goodIn_r _ [41, 28, 29, 30, 26, 31, 32, 33, 34, 35, 36, 37, 192, 193, 194, 195, 196, 197, 198, 199, 200, 201, 202, 203] (by decide +kernel) (by decide +kernel)) (goodIn_sub (fun _ h => List.mem_cons_of_mem _ (List.mem_append_left _ (List.mem_append_right _ h))) (by decide +kernel))
set_option maxRecDepth 20000 in
theorem gL_isTold_X5_rate : GoodIn wsL_isTold (wsV RL 145 RX5 yX5_rate wsX5_rate) := goodIn_app (goodIn_of _ (by decide +kernel)) ggL_isTold_X5_rate
set_option maxRecDepth 20000 in
theorem ggL_isTold_X5_window : GoodIn wsL_isTold wsX5_window := goodIn_ca (goodIn_r _ [45, 28, 29, 30, 26, 31, 32, 33, 34, 35, 36, 37, 192, 193, 194, 195, 196, 197, 198, 199, 200, 201, 202, 203] (by decide +kernel) (by decide +kernel)) (goodIn_sub (fun _ h => List.mem_cons_of_mem _ (List.mem_append_left _ (List.mem_append_right _ h))) (by decide +kernel))
set_option maxRecDepth 20000 in
theorem gL_isTold_X5_window : GoodIn wsL_isTold (wsV RL 148 RX5 yX5_window wsX5_window) := goodIn_app (goodIn_of _ (by decide +kernel)) ggL_isTold_X5_window
set_option maxRecDepth 20000 in
theorem ggL_isTold_X5_gain : GoodIn wsL_isTold wsX5_gain := goodIn_ca (goodIn_r _ [49, 50, 28, 29, 30, 26, 31, 32, 33, 34, 35, 36, 37, 51, 52, 53, 54, 55, 56, 57, 58, 59, 60, 61, 62, 63, 64, 65, 66, 67, 68, 69, 70, 71, 72, 73, 74, 75, 76, 77, 78, 79, 80, 81, 82, 83, 84, 85, 86, 199, 200, 201, 202, 203, 204, 205, 192, 193, 194, 195, 196, 197, 198, 206, 207, 208] (by decide +kernel) (by decide +kernel)) (goodIn_sub (fun _ h => List.mem_cons_of_mem _ (List.mem_append_left _ (List.mem_append_right _ h))) (by decide +kernel))
set_option maxRecDepth 20000 in
theorem gL_isTold_X5_gain : GoodIn wsL_isTold (wsV RL 151 RX5 yX5_gain wsX5_gain) := goodIn_app (goodIn_of _ (by decide +kernel)) ggL_isTold_X5_gain
set_option maxRecDepth 20000 in
theorem ggL_isTold_L_exposure : GoodIn wsL_isTold wsL_exposure := goodIn_ca (goodIn_r _ [89, 22, 2, 90, 91, 92, 26, 93, 94, 95, 96, 97, 32, 33, 98, 35, 36, 37, 99, 100, 101, 102, 34, 50, 103, 104, 105, 54, 106, 107, 74, 75, 76, 56, 57, 58, 59, 60, 61, 62, 63, 64, 65, 66, 67, 68, 69, 70, 71, 72, 73, 77, 78, 79, 80, 81, 82, 83, 84, 85, 86, 108, 109, 110, 111, 112, 113, 199, 200, 201, 202, 203, 192, 193, 194, 195, 196, 197, 198, 204, 205, 206, 207, 208] (by decide +kernel) (by decide +kernel)) (goodIn_sub (fun _ h => List.mem_cons_of_mem _ (List.mem_append_left _ (List.mem_append_right _ h))) (by decide +kernel))
set_option maxRecDepth 20000 in
theorem gL_isTold_L_exposure : GoodIn wsL_isTold (va_wsS RL 154 yL_exposure wsL_exposure) := goodIn_app (goodIn_of _ (by decide +kernel)) ggL_isTold_L_exposure
set_option maxRecDepth 20000 in
theorem ggL_isTold_L_exposes : GoodIn wsL_isTold wsL_exposes := goodIn_r _ [116, 5, 6, 7, 8, 9, 10, 11, 12, 13, 14, 15, 16, 17, 18] (by decide +kernel) (by decide +kernel)
set_option maxRecDepth 20000 in
theorem gL_isTold_L_exposes : GoodIn wsL_isTold (va_wsS RL 125 yL_exposes wsL_exposes) := goodIn_app (goodIn_of _ (by decide +kernel)) ggL_isTold_L_exposes
set_option maxRecDepth 20000 in
theorem ggL_isTold_L_balance : GoodIn wsL_isTold wsL_balance := goodIn_ca (goodIn_ca (goodIn_r _ [119, 22, 120, 2, 3, 121, 122, 123, 26, 124, 94, 95, 96, 97, 32, 33, 98, 35, 36, 37, 125, 126, 127, 128, 129, 130, 131, 132, 133, 134, 135, 209, 210, 211, 199, 200, 201, 202, 203, 212] (by decide +kernel) (by decide +kernel)) (goodIn_sub (fun _ h => List.mem_cons_of_mem _ (List.mem_append_left _ (List.mem_append_right _ h))) (by decide +kernel))) (goodIn_sub (fun _ h => List.mem_cons_of_mem _ (List.mem_append_right _ h)) (by decide +kernel))
set_option maxRecDepth 20000 in
theorem gL_isTold_L_balance : GoodIn wsL_isTold (va_wsS RL 156 yL_balance wsL_balance) := goodIn_app (goodIn_of _ (by decide +kernel)) ggL_isTold_L_balance
set_option maxRecDepth 20000 in
theorem ggL_isTold_L_due : GoodIn wsL_isTold wsL_due := goodIn_ca (goodIn_ca (goodIn_r _ [138, 22, 120, 2, 3, 139, 140, 141, 26, 142, 50, 94, 95, 96, 97, 32, 33, 98, 35, 36, 37, 125, 126, 127, 128, 129, 143, 144, 145, 146, 147, 148, 149, 150, 151, 152, 153, 131, 132, 133, 134, 135, 199, 200, 201, 202, 203, 204, 205, 209, 210, 211, 212] (by decide +kernel) (by decide +kernel)) (goodIn_sub (fun _ h => List.mem_cons_of_mem _ (List.mem_append_left _ (List.mem_append_right _ h))) (by decide +kernel))) (goodIn_sub (fun _ h => List.mem_cons_of_mem _ (List.mem_append_right _ h)) (by decide +kernel))
set_option maxRecDepth 20000 in
theorem gL_isTold_L_due : GoodIn wsL_isTold (va_wsS RL 159 yL_due wsL_due) := goodIn_app (goodIn_of _ (by decide +kernel)) ggL_isTold_L_due
set_option maxRecDepth 20000 in
theorem ggL_isTold_L_low : GoodIn wsL_isTold wsL_low := goodIn_r _ [156] (by decide +kernel) (by decide +kernel)
set_option maxRecDepth 20000 in
theorem gL_isTold_L_low : GoodIn wsL_isTold (va_wsS RL 99 yL_low wsL_low) := goodIn_app (goodIn_of _ (by decide +kernel)) ggL_isTold_L_low
set_option maxRecDepth 20000 in
theorem ggL_isTold_L_forward : GoodIn wsL_isTold wsL_forward := goodIn_ca (goodIn_ca (goodIn_r _ [159, 22, 120, 1, 4, 160, 161, 162, 26, 163, 164, 165, 166, 167, 32, 33, 168, 35, 36, 37, 125, 126, 127, 128, 129, 169, 63, 64, 65, 66, 67, 68, 69, 70, 71, 72, 73, 74, 75, 76, 199, 200, 201, 202, 203, 206, 207, 208] (by decide +kernel) (by decide +kernel)) (goodIn_sub (fun _ h => List.mem_cons_of_mem _ (List.mem_append_left _ (List.mem_append_right _ h))) (by decide +kernel))) (goodIn_sub (fun _ h => List.mem_cons_of_mem _ (List.mem_append_right _ h)) (by decide +kernel))
set_option maxRecDepth 20000 in
theorem gL_isTold_L_forward : GoodIn wsL_isTold (va_wsS RL 162 yL_forward wsL_forward) := goodIn_app (goodIn_of _ (by decide +kernel)) ggL_isTold_L_forward
set_option maxRecDepth 20000 in
theorem ggL_isTold_L_forwards : GoodIn wsL_isTold wsL_forwards := goodIn_r _ [11] (by decide +kernel) (by decide +kernel)
set_option maxRecDepth 20000 in
theorem gL_isTold_L_forwards : GoodIn wsL_isTold (va_wsS RL 83 yL_forwards wsL_forwards) := goodIn_app (goodIn_of _ (by decide +kernel)) ggL_isTold_L_forwards
set_option maxRecDepth 20000 in
theorem ggL_isTold_X5_today : GoodIn wsL_isTold wsX5_today := goodIn_r _ [173, 50, 199, 200, 201, 202, 203, 204, 205] (by decide +kernel) (by decide +kernel)
set_option maxRecDepth 20000 in
theorem gL_isTold_X5_today : GoodIn wsL_isTold (wsV RL 116 RX5 yX5_today wsX5_today) := goodIn_app (goodIn_of _ (by decide +kernel)) ggL_isTold_X5_today
set_option maxRecDepth 20000 in
theorem ggL_isTold_X5_settlementDay : GoodIn wsL_isTold wsX5_settlementDay := goodIn_r _ [177, 50, 178, 179, 180, 181, 182, 183, 184, 185, 186, 187, 188, 36, 26, 37, 199, 200, 201, 202, 203, 204, 205] (by decide +kernel) (by decide +kernel)
set_option maxRecDepth 20000 in
theorem gL_isTold_X5_settlementDay : GoodIn wsL_isTold (wsV RL 164 RX5 yX5_settlementDay wsX5_settlementDay) := goodIn_app (goodIn_of _ (by decide +kernel)) ggL_isTold_X5_settlementDay
set_option maxRecDepth 20000 in
theorem ggL_isTold_L_settles : GoodIn wsL_isTold wsL_settles := goodIn_r _ [191] (by decide +kernel) (by decide +kernel)
set_option maxRecDepth 20000 in
theorem gL_isTold_L_settles : GoodIn wsL_isTold (va_wsS RL 95 yL_settles wsL_settles) := goodIn_app (goodIn_of _ (by decide +kernel)) ggL_isTold_L_settles
