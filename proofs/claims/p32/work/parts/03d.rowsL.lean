theorem dL_below_0 : decode cL_below 0 = .ok (.iload_n 0, 1) := by decide +kernel
theorem dL_below_1 : decode cL_below 1 = .ok (.ldc 7, 2) := by decide +kernel
theorem dL_below_3 : decode cL_below 3 = .ok (.iand, 1) := by decide +kernel
theorem dL_below_4 : decode cL_below 4 = .ok (.iload_n 1, 1) := by decide +kernel
theorem dL_below_5 : decode cL_below 5 = .ok (.irem, 1) := by decide +kernel
theorem dL_below_6 : decode cL_below 6 = .ok (.ireturn, 1) := by decide +kernel
theorem dL_cell_0 : decode cL_cell 0 = .ok (.iload_n 1, 1) := by decide +kernel
theorem dL_cell_1 : decode cL_cell 1 = .ok (.aload_n 0, 1) := by decide +kernel
theorem dL_cell_2 : decode cL_cell 2 = .ok (.arraylength, 1) := by decide +kernel
theorem dL_cell_3 : decode cL_cell 3 = .ok (.if_icmp .ge 9, 3) := by decide +kernel
theorem dL_cell_6 : decode cL_cell 6 = .ok (.aload_n 0, 1) := by decide +kernel
theorem dL_cell_7 : decode cL_cell 7 = .ok (.iload_n 1, 1) := by decide +kernel
theorem dL_cell_8 : decode cL_cell 8 = .ok (.iaload, 1) := by decide +kernel
theorem dL_cell_9 : decode cL_cell 9 = .ok (.goto 9, 3) := by decide +kernel
theorem dL_cell_12 : decode cL_cell 12 = .ok (.ldc 8, 2) := by decide +kernel
theorem dL_cell_14 : decode cL_cell 14 = .ok (.iload_n 1, 1) := by decide +kernel
theorem dL_cell_15 : decode cL_cell 15 = .ok (.iconst 3, 1) := by decide +kernel
theorem dL_cell_16 : decode cL_cell 16 = .ok (.iadd, 1) := by decide +kernel
theorem dL_cell_17 : decode cL_cell 17 = .ok (.imul, 1) := by decide +kernel
theorem dL_cell_18 : decode cL_cell 18 = .ok (.ireturn, 1) := by decide +kernel
set_option maxRecDepth 20000 in
theorem ggL_build_L_cell : GoodIn wsL_build wsL_cell := goodIn_r _ [5, 6] (by decide +kernel) (by decide +kernel)
set_option maxRecDepth 20000 in
theorem gL_build_L_cell : GoodIn wsL_build (va_wsS RL 9 yL_cell wsL_cell) := goodIn_app (goodIn_of _ (by decide +kernel)) ggL_build_L_cell
set_option maxRecDepth 20000 in
theorem ggL_build_L_below : GoodIn wsL_build wsL_below := goodIn_r _ [9, 10] (by decide +kernel) (by decide +kernel)
set_option maxRecDepth 20000 in
theorem gL_build_L_below : GoodIn wsL_build (va_wsS RL 15 yL_below wsL_below) := goodIn_app (goodIn_of _ (by decide +kernel)) ggL_build_L_below
set_option maxRecDepth 20000 in
theorem ggL_build_X2_setUnits : GoodIn wsL_build wsX2_setUnits := goodIn_ca (goodIn_ca (goodIn_r _ [15, 16, 17, 18, 19, 20, 21, 22, 14, 23, 24, 25, 26, 27, 28, 29, 30, 31, 32, 33, 34, 71, 72, 73, 74, 75, 76, 77, 78, 79, 80, 81, 82, 83, 84, 85, 86, 87, 88] (by decide +kernel) (by decide +kernel)) (goodIn_sub (fun _ h => List.mem_cons_of_mem _ (List.mem_append_left _ (List.mem_append_left _ (List.mem_append_right _ h)))) (by decide +kernel))) (goodIn_sub (fun _ h => List.mem_cons_of_mem _ (List.mem_append_left _ (List.mem_append_right _ h))) (by decide +kernel))
set_option maxRecDepth 20000 in
theorem gL_build_X2_setUnits : GoodIn wsL_build (wsV RL 19 RX2 yX2_setUnits wsX2_setUnits) := goodIn_app (goodIn_of _ (by decide +kernel)) ggL_build_X2_setUnits
set_option maxRecDepth 20000 in
theorem ggL_build_X2_addOperation : GoodIn wsL_build wsX2_addOperation := goodIn_ca (goodIn_ca (goodIn_r _ [38, 16, 17, 39, 40, 18, 41, 20, 26, 27, 14, 28, 29, 30, 31, 32, 33, 34, 42, 43, 44, 45, 46, 47, 48, 49, 71, 72, 73, 74, 75, 76, 77, 78, 79, 80, 81, 82, 83, 84, 85, 86, 87, 88] (by decide +kernel) (by decide +kernel)) (goodIn_sub (fun _ h => List.mem_cons_of_mem _ (List.mem_append_left _ (List.mem_append_left _ (List.mem_append_right _ h)))) (by decide +kernel))) (goodIn_sub (fun _ h => List.mem_cons_of_mem _ (List.mem_append_right _ h)) (by decide +kernel))
set_option maxRecDepth 20000 in
theorem gL_build_X2_addOperation : GoodIn wsL_build (wsV RL 24 RX2 yX2_addOperation wsX2_addOperation) := goodIn_app (goodIn_of _ (by decide +kernel)) ggL_build_X2_addOperation
set_option maxRecDepth 20000 in
theorem ggL_build_X2_addDependence : GoodIn wsL_build wsX2_addDependence := goodIn_ca (goodIn_ca (goodIn_ca (goodIn_r _ [53, 16, 17, 39, 40, 18, 54, 20, 55, 56, 57, 14, 58, 24, 25, 41, 59, 60, 61, 29, 30, 31, 32, 33, 34, 62, 63, 64, 45, 65, 66, 67, 68, 69, 70, 71, 72, 73, 74, 75, 76, 77, 78, 79, 80, 81, 82, 83, 84, 85, 86, 87, 88] (by decide +kernel) (by decide +kernel)) (goodIn_sub (fun _ h => List.mem_cons_of_mem _ (List.mem_append_left _ (List.mem_append_left _ (List.mem_append_right _ h)))) (by decide +kernel))) (goodIn_sub (fun _ h => List.mem_cons_of_mem _ (List.mem_append_right _ h)) (by decide +kernel))) (goodIn_sub (fun _ h => List.mem_cons_of_mem _ (List.mem_append_left _ (List.mem_append_right _ h))) (by decide +kernel))
set_option maxRecDepth 20000 in
theorem gL_build_X2_addDependence : GoodIn wsL_build (wsV RL 27 RX2 yX2_addDependence wsX2_addDependence) := goodIn_app (goodIn_of _ (by decide +kernel)) ggL_build_X2_addDependence
theorem dL_build_0 : decode cL_build 0 = .ok (.iconst 0, 1) := by decide +kernel
theorem dL_build_1 : decode cL_build 1 = .ok (.istore 7, 2) := by decide +kernel
theorem dL_build_3 : decode cL_build 3 = .ok (.iload 7, 2) := by decide +kernel
theorem dL_build_5 : decode cL_build 5 = .ok (.iconst 3, 1) := by decide +kernel
theorem dL_build_6 : decode cL_build 6 = .ok (.if_icmp .ge 45, 3) := by decide +kernel
theorem dL_build_9 : decode cL_build 9 = .ok (.aload_n 3, 1) := by decide +kernel
theorem dL_build_10 : decode cL_build 10 = .ok (.iload 7, 2) := by decide +kernel
theorem dL_build_12 : decode cL_build 12 = .ok (.iconst 1, 1) := by decide +kernel
theorem dL_build_13 : decode cL_build 13 = .ok (.aload_n 1, 1) := by decide +kernel
theorem dL_build_14 : decode cL_build 14 = .ok (.iload_n 2, 1) := by decide +kernel
theorem dL_build_15 : decode cL_build 15 = .ok (.invokestatic 9, 3) := by decide +kernel
theorem dL_build_18 : decode cL_build 18 = .ok (.iconst 3, 1) := by decide +kernel
theorem dL_build_19 : decode cL_build 19 = .ok (.iload 7, 2) := by decide +kernel
theorem dL_build_21 : decode cL_build 21 = .ok (.imul, 1) := by decide +kernel
theorem dL_build_22 : decode cL_build 22 = .ok (.ishr, 1) := by decide +kernel
theorem dL_build_23 : decode cL_build 23 = .ok (.iconst 3, 1) := by decide +kernel
theorem dL_build_24 : decode cL_build 24 = .ok (.invokestatic 15, 3) := by decide +kernel
theorem dL_build_27 : decode cL_build 27 = .ok (.iadd, 1) := by decide +kernel
theorem dL_build_28 : decode cL_build 28 = .ok (.iastore, 1) := by decide +kernel
theorem dL_build_29 : decode cL_build 29 = .ok (.aload_n 0, 1) := by decide +kernel
theorem dL_build_30 : decode cL_build 30 = .ok (.iload 7, 2) := by decide +kernel
theorem dL_build_32 : decode cL_build 32 = .ok (.aload_n 3, 1) := by decide +kernel
theorem dL_build_33 : decode cL_build 33 = .ok (.iload 7, 2) := by decide +kernel
theorem dL_build_35 : decode cL_build 35 = .ok (.iaload, 1) := by decide +kernel
theorem dL_build_36 : decode cL_build 36 = .ok (.invokevirtual 19, 3) := by decide +kernel
theorem dL_build_39 : decode cL_build 39 = .ok (.iconst 1, 1) := by decide +kernel
theorem dL_build_40 : decode cL_build 40 = .ok (.if_icmp .eq 5, 3) := by decide +kernel
theorem dL_build_43 : decode cL_build 43 = .ok (.iconst (-1), 1) := by decide +kernel
theorem dL_build_44 : decode cL_build 44 = .ok (.ireturn, 1) := by decide +kernel
theorem dL_build_45 : decode cL_build 45 = .ok (.iinc 7 1, 3) := by decide +kernel
theorem dL_build_48 : decode cL_build 48 = .ok (.goto (-45), 3) := by decide +kernel
theorem dL_build_51 : decode cL_build 51 = .ok (.iconst 1, 1) := by decide +kernel
theorem dL_build_52 : decode cL_build 52 = .ok (.aload_n 1, 1) := by decide +kernel
theorem dL_build_53 : decode cL_build 53 = .ok (.iload_n 2, 1) := by decide +kernel
theorem dL_build_54 : decode cL_build 54 = .ok (.invokestatic 9, 3) := by decide +kernel
theorem dL_build_57 : decode cL_build 57 = .ok (.bipush 12, 2) := by decide +kernel
theorem dL_build_59 : decode cL_build 59 = .ok (.ishr, 1) := by decide +kernel
theorem dL_build_60 : decode cL_build 60 = .ok (.bipush 6, 2) := by decide +kernel
theorem dL_build_62 : decode cL_build 62 = .ok (.invokestatic 15, 3) := by decide +kernel
theorem dL_build_65 : decode cL_build 65 = .ok (.iadd, 1) := by decide +kernel
theorem dL_build_66 : decode cL_build 66 = .ok (.istore 7, 2) := by decide +kernel
theorem dL_build_68 : decode cL_build 68 = .ok (.iconst 0, 1) := by decide +kernel
theorem dL_build_69 : decode cL_build 69 = .ok (.istore 8, 2) := by decide +kernel
theorem dL_build_71 : decode cL_build 71 = .ok (.iload 8, 2) := by decide +kernel
theorem dL_build_73 : decode cL_build 73 = .ok (.iload 7, 2) := by decide +kernel
theorem dL_build_75 : decode cL_build 75 = .ok (.if_icmp .ge 72, 3) := by decide +kernel
theorem dL_build_78 : decode cL_build 78 = .ok (.aload 4, 2) := by decide +kernel
theorem dL_build_80 : decode cL_build 80 = .ok (.iload 8, 2) := by decide +kernel
theorem dL_build_82 : decode cL_build 82 = .ok (.aload_n 1, 1) := by decide +kernel
theorem dL_build_83 : decode cL_build 83 = .ok (.iload_n 2, 1) := by decide +kernel
theorem dL_build_84 : decode cL_build 84 = .ok (.iconst 1, 1) := by decide +kernel
theorem dL_build_85 : decode cL_build 85 = .ok (.iadd, 1) := by decide +kernel
theorem dL_build_86 : decode cL_build 86 = .ok (.iload 8, 2) := by decide +kernel
theorem dL_build_88 : decode cL_build 88 = .ok (.iadd, 1) := by decide +kernel
theorem dL_build_89 : decode cL_build 89 = .ok (.invokestatic 9, 3) := by decide +kernel
theorem dL_build_92 : decode cL_build 92 = .ok (.iconst 3, 1) := by decide +kernel
theorem dL_build_93 : decode cL_build 93 = .ok (.invokestatic 15, 3) := by decide +kernel
theorem dL_build_96 : decode cL_build 96 = .ok (.iastore, 1) := by decide +kernel
theorem dL_build_97 : decode cL_build 97 = .ok (.aload 5, 2) := by decide +kernel
theorem dL_build_99 : decode cL_build 99 = .ok (.iload 8, 2) := by decide +kernel
theorem dL_build_101 : decode cL_build 101 = .ok (.iconst 1, 1) := by decide +kernel
theorem dL_build_102 : decode cL_build 102 = .ok (.aload_n 1, 1) := by decide +kernel
theorem dL_build_103 : decode cL_build 103 = .ok (.iload_n 2, 1) := by decide +kernel
theorem dL_build_104 : decode cL_build 104 = .ok (.iconst 1, 1) := by decide +kernel
theorem dL_build_105 : decode cL_build 105 = .ok (.iadd, 1) := by decide +kernel
theorem dL_build_106 : decode cL_build 106 = .ok (.iload 8, 2) := by decide +kernel
theorem dL_build_108 : decode cL_build 108 = .ok (.iadd, 1) := by decide +kernel
theorem dL_build_109 : decode cL_build 109 = .ok (.invokestatic 9, 3) := by decide +kernel
theorem dL_build_112 : decode cL_build 112 = .ok (.iconst 3, 1) := by decide +kernel
theorem dL_build_113 : decode cL_build 113 = .ok (.ishr, 1) := by decide +kernel
theorem dL_build_114 : decode cL_build 114 = .ok (.iconst 3, 1) := by decide +kernel
theorem dL_build_115 : decode cL_build 115 = .ok (.invokestatic 15, 3) := by decide +kernel
theorem dL_build_118 : decode cL_build 118 = .ok (.iadd, 1) := by decide +kernel
theorem dL_build_119 : decode cL_build 119 = .ok (.iastore, 1) := by decide +kernel
theorem dL_build_120 : decode cL_build 120 = .ok (.aload_n 0, 1) := by decide +kernel
theorem dL_build_121 : decode cL_build 121 = .ok (.aload 4, 2) := by decide +kernel
theorem dL_build_123 : decode cL_build 123 = .ok (.iload 8, 2) := by decide +kernel
theorem dL_build_125 : decode cL_build 125 = .ok (.iaload, 1) := by decide +kernel
theorem dL_build_126 : decode cL_build 126 = .ok (.aload 5, 2) := by decide +kernel
theorem dL_build_128 : decode cL_build 128 = .ok (.iload 8, 2) := by decide +kernel
theorem dL_build_130 : decode cL_build 130 = .ok (.iaload, 1) := by decide +kernel
theorem dL_build_131 : decode cL_build 131 = .ok (.invokevirtual 24, 3) := by decide +kernel
theorem dL_build_134 : decode cL_build 134 = .ok (.iload 8, 2) := by decide +kernel
theorem dL_build_136 : decode cL_build 136 = .ok (.if_icmp .eq 5, 3) := by decide +kernel
theorem dL_build_139 : decode cL_build 139 = .ok (.iconst (-1), 1) := by decide +kernel
theorem dL_build_140 : decode cL_build 140 = .ok (.ireturn, 1) := by decide +kernel
theorem dL_build_141 : decode cL_build 141 = .ok (.iinc 8 1, 3) := by decide +kernel
theorem dL_build_144 : decode cL_build 144 = .ok (.goto (-73), 3) := by decide +kernel
theorem dL_build_147 : decode cL_build 147 = .ok (.aload_n 1, 1) := by decide +kernel
theorem dL_build_148 : decode cL_build 148 = .ok (.iload_n 2, 1) := by decide +kernel
theorem dL_build_149 : decode cL_build 149 = .ok (.invokestatic 9, 3) := by decide +kernel
theorem dL_build_152 : decode cL_build 152 = .ok (.bipush 18, 2) := by decide +kernel
theorem dL_build_154 : decode cL_build 154 = .ok (.ishr, 1) := by decide +kernel
theorem dL_build_155 : decode cL_build 155 = .ok (.bipush 9, 2) := by decide +kernel
theorem dL_build_157 : decode cL_build 157 = .ok (.invokestatic 15, 3) := by decide +kernel
theorem dL_build_160 : decode cL_build 160 = .ok (.istore 8, 2) := by decide +kernel
theorem dL_build_162 : decode cL_build 162 = .ok (.iconst 0, 1) := by decide +kernel
theorem dL_build_163 : decode cL_build 163 = .ok (.istore 9, 2) := by decide +kernel
theorem dL_build_165 : decode cL_build 165 = .ok (.iload 9, 2) := by decide +kernel
theorem dL_build_167 : decode cL_build 167 = .ok (.iload 8, 2) := by decide +kernel
theorem dL_build_169 : decode cL_build 169 = .ok (.if_icmp .ge 162, 3) := by decide +kernel
theorem dL_build_172 : decode cL_build 172 = .ok (.aload_n 1, 1) := by decide +kernel
theorem dL_build_173 : decode cL_build 173 = .ok (.iload_n 2, 1) := by decide +kernel
theorem dL_build_174 : decode cL_build 174 = .ok (.bipush 7, 2) := by decide +kernel
theorem dL_build_176 : decode cL_build 176 = .ok (.iadd, 1) := by decide +kernel
theorem dL_build_177 : decode cL_build 177 = .ok (.iload 9, 2) := by decide +kernel
theorem dL_build_179 : decode cL_build 179 = .ok (.iadd, 1) := by decide +kernel
theorem dL_build_180 : decode cL_build 180 = .ok (.invokestatic 9, 3) := by decide +kernel
theorem dL_build_183 : decode cL_build 183 = .ok (.istore 10, 2) := by decide +kernel
theorem dL_build_185 : decode cL_build 185 = .ok (.iload 10, 2) := by decide +kernel
theorem dL_build_187 : decode cL_build 187 = .ok (.iload 7, 2) := by decide +kernel
theorem dL_build_189 : decode cL_build 189 = .ok (.invokestatic 15, 3) := by decide +kernel
theorem dL_build_192 : decode cL_build 192 = .ok (.istore 11, 2) := by decide +kernel
theorem dL_build_194 : decode cL_build 194 = .ok (.iload 10, 2) := by decide +kernel
theorem dL_build_196 : decode cL_build 196 = .ok (.iconst 4, 1) := by decide +kernel
theorem dL_build_197 : decode cL_build 197 = .ok (.ishr, 1) := by decide +kernel
theorem dL_build_198 : decode cL_build 198 = .ok (.iload 7, 2) := by decide +kernel
theorem dL_build_200 : decode cL_build 200 = .ok (.invokestatic 15, 3) := by decide +kernel
theorem dL_build_203 : decode cL_build 203 = .ok (.istore 12, 2) := by decide +kernel
theorem dL_build_205 : decode cL_build 205 = .ok (.iload 10, 2) := by decide +kernel
theorem dL_build_207 : decode cL_build 207 = .ok (.bipush 8, 2) := by decide +kernel
theorem dL_build_209 : decode cL_build 209 = .ok (.ishr, 1) := by decide +kernel
theorem dL_build_210 : decode cL_build 210 = .ok (.bipush 7, 2) := by decide +kernel
theorem dL_build_212 : decode cL_build 212 = .ok (.invokestatic 15, 3) := by decide +kernel
theorem dL_build_215 : decode cL_build 215 = .ok (.istore 13, 2) := by decide +kernel
theorem dL_build_217 : decode cL_build 217 = .ok (.iload 11, 2) := by decide +kernel
theorem dL_build_219 : decode cL_build 219 = .ok (.iload 12, 2) := by decide +kernel
theorem dL_build_221 : decode cL_build 221 = .ok (.if_icmp .ge 15, 3) := by decide +kernel
theorem dL_build_224 : decode cL_build 224 = .ok (.iload 10, 2) := by decide +kernel
theorem dL_build_226 : decode cL_build 226 = .ok (.bipush 12, 2) := by decide +kernel
theorem dL_build_228 : decode cL_build 228 = .ok (.ishr, 1) := by decide +kernel
theorem dL_build_229 : decode cL_build 229 = .ok (.iconst 2, 1) := by decide +kernel
theorem dL_build_230 : decode cL_build 230 = .ok (.invokestatic 15, 3) := by decide +kernel
theorem dL_build_233 : decode cL_build 233 = .ok (.goto 14, 3) := by decide +kernel
theorem dL_build_236 : decode cL_build 236 = .ok (.iconst 1, 1) := by decide +kernel
theorem dL_build_237 : decode cL_build 237 = .ok (.iload 10, 2) := by decide +kernel
theorem dL_build_239 : decode cL_build 239 = .ok (.bipush 12, 2) := by decide +kernel
theorem dL_build_241 : decode cL_build 241 = .ok (.ishr, 1) := by decide +kernel
theorem dL_build_242 : decode cL_build 242 = .ok (.iconst 3, 1) := by decide +kernel
theorem dL_build_243 : decode cL_build 243 = .ok (.invokestatic 15, 3) := by decide +kernel
theorem dL_build_246 : decode cL_build 246 = .ok (.iadd, 1) := by decide +kernel
theorem dL_build_247 : decode cL_build 247 = .ok (.istore 14, 2) := by decide +kernel
theorem dL_build_249 : decode cL_build 249 = .ok (.iconst 4, 1) := by decide +kernel
theorem dL_build_250 : decode cL_build 250 = .ok (.newarray .int, 2) := by decide +kernel
theorem dL_build_252 : decode cL_build 252 = .ok (.dup, 1) := by decide +kernel
theorem dL_build_253 : decode cL_build 253 = .ok (.iconst 0, 1) := by decide +kernel
theorem dL_build_254 : decode cL_build 254 = .ok (.iload 11, 2) := by decide +kernel
theorem dL_build_256 : decode cL_build 256 = .ok (.iastore, 1) := by decide +kernel
theorem dL_build_257 : decode cL_build 257 = .ok (.dup, 1) := by decide +kernel
theorem dL_build_258 : decode cL_build 258 = .ok (.iconst 1, 1) := by decide +kernel
theorem dL_build_259 : decode cL_build 259 = .ok (.iload 12, 2) := by decide +kernel
theorem dL_build_261 : decode cL_build 261 = .ok (.iastore, 1) := by decide +kernel
theorem dL_build_262 : decode cL_build 262 = .ok (.dup, 1) := by decide +kernel
theorem dL_build_263 : decode cL_build 263 = .ok (.iconst 2, 1) := by decide +kernel
theorem dL_build_264 : decode cL_build 264 = .ok (.iload 13, 2) := by decide +kernel
theorem dL_build_266 : decode cL_build 266 = .ok (.iastore, 1) := by decide +kernel
theorem dL_build_267 : decode cL_build 267 = .ok (.dup, 1) := by decide +kernel
theorem dL_build_268 : decode cL_build 268 = .ok (.iconst 3, 1) := by decide +kernel
theorem dL_build_269 : decode cL_build 269 = .ok (.iload 14, 2) := by decide +kernel
theorem dL_build_271 : decode cL_build 271 = .ok (.iastore, 1) := by decide +kernel
theorem dL_build_272 : decode cL_build 272 = .ok (.astore 15, 2) := by decide +kernel
theorem dL_build_274 : decode cL_build 274 = .ok (.iconst 0, 1) := by decide +kernel
theorem dL_build_275 : decode cL_build 275 = .ok (.istore 16, 2) := by decide +kernel
theorem dL_build_277 : decode cL_build 277 = .ok (.iload 16, 2) := by decide +kernel
theorem dL_build_279 : decode cL_build 279 = .ok (.iconst 4, 1) := by decide +kernel
theorem dL_build_280 : decode cL_build 280 = .ok (.if_icmp .ge 26, 3) := by decide +kernel
theorem dL_build_283 : decode cL_build 283 = .ok (.aload 6, 2) := by decide +kernel
theorem dL_build_285 : decode cL_build 285 = .ok (.iconst 1, 1) := by decide +kernel
theorem dL_build_286 : decode cL_build 286 = .ok (.iconst 4, 1) := by decide +kernel
theorem dL_build_287 : decode cL_build 287 = .ok (.iload 9, 2) := by decide +kernel
theorem dL_build_289 : decode cL_build 289 = .ok (.imul, 1) := by decide +kernel
theorem dL_build_290 : decode cL_build 290 = .ok (.iadd, 1) := by decide +kernel
theorem dL_build_291 : decode cL_build 291 = .ok (.iload 16, 2) := by decide +kernel
theorem dL_build_293 : decode cL_build 293 = .ok (.iadd, 1) := by decide +kernel
theorem dL_build_294 : decode cL_build 294 = .ok (.aload 15, 2) := by decide +kernel
theorem dL_build_296 : decode cL_build 296 = .ok (.iload 16, 2) := by decide +kernel
theorem dL_build_298 : decode cL_build 298 = .ok (.iaload, 1) := by decide +kernel
theorem dL_build_299 : decode cL_build 299 = .ok (.iastore, 1) := by decide +kernel
theorem dL_build_300 : decode cL_build 300 = .ok (.iinc 16 1, 3) := by decide +kernel
theorem dL_build_303 : decode cL_build 303 = .ok (.goto (-26), 3) := by decide +kernel
theorem dL_build_306 : decode cL_build 306 = .ok (.aload_n 0, 1) := by decide +kernel
theorem dL_build_307 : decode cL_build 307 = .ok (.iload 11, 2) := by decide +kernel
theorem dL_build_309 : decode cL_build 309 = .ok (.iload 12, 2) := by decide +kernel
theorem dL_build_311 : decode cL_build 311 = .ok (.iload 13, 2) := by decide +kernel
theorem dL_build_313 : decode cL_build 313 = .ok (.iload 14, 2) := by decide +kernel
theorem dL_build_315 : decode cL_build 315 = .ok (.invokevirtual 27, 3) := by decide +kernel
theorem dL_build_318 : decode cL_build 318 = .ok (.iload 9, 2) := by decide +kernel
theorem dL_build_320 : decode cL_build 320 = .ok (.if_icmp .eq 5, 3) := by decide +kernel
theorem dL_build_323 : decode cL_build 323 = .ok (.iconst (-1), 1) := by decide +kernel
theorem dL_build_324 : decode cL_build 324 = .ok (.ireturn, 1) := by decide +kernel
theorem dL_build_325 : decode cL_build 325 = .ok (.iinc 9 1, 3) := by decide +kernel
theorem dL_build_328 : decode cL_build 328 = .ok (.goto (-163), 3) := by decide +kernel
theorem dL_build_331 : decode cL_build 331 = .ok (.aload 6, 2) := by decide +kernel
theorem dL_build_333 : decode cL_build 333 = .ok (.iconst 0, 1) := by decide +kernel
theorem dL_build_334 : decode cL_build 334 = .ok (.iload 8, 2) := by decide +kernel
theorem dL_build_336 : decode cL_build 336 = .ok (.iastore, 1) := by decide +kernel
theorem dL_build_337 : decode cL_build 337 = .ok (.iload 7, 2) := by decide +kernel
theorem dL_build_339 : decode cL_build 339 = .ok (.ireturn, 1) := by decide +kernel
theorem dL_isValid_0 : decode cL_isValid 0 = .ok (.iconst 0, 1) := by decide +kernel
theorem dL_isValid_1 : decode cL_isValid 1 = .ok (.istore 7, 2) := by decide +kernel
theorem dL_isValid_3 : decode cL_isValid 3 = .ok (.iload 7, 2) := by decide +kernel
theorem dL_isValid_5 : decode cL_isValid 5 = .ok (.aload 6, 2) := by decide +kernel
theorem dL_isValid_7 : decode cL_isValid 7 = .ok (.iconst 0, 1) := by decide +kernel
theorem dL_isValid_8 : decode cL_isValid 8 = .ok (.iaload, 1) := by decide +kernel
theorem dL_isValid_9 : decode cL_isValid 9 = .ok (.if_icmp .ge 56, 3) := by decide +kernel
theorem dL_isValid_12 : decode cL_isValid 12 = .ok (.iconst 1, 1) := by decide +kernel
theorem dL_isValid_13 : decode cL_isValid 13 = .ok (.iconst 4, 1) := by decide +kernel
theorem dL_isValid_14 : decode cL_isValid 14 = .ok (.iload 7, 2) := by decide +kernel
theorem dL_isValid_16 : decode cL_isValid 16 = .ok (.imul, 1) := by decide +kernel
theorem dL_isValid_17 : decode cL_isValid 17 = .ok (.iadd, 1) := by decide +kernel
theorem dL_isValid_18 : decode cL_isValid 18 = .ok (.istore 8, 2) := by decide +kernel
theorem dL_isValid_20 : decode cL_isValid 20 = .ok (.aload_n 2, 1) := by decide +kernel
theorem dL_isValid_21 : decode cL_isValid 21 = .ok (.aload 6, 2) := by decide +kernel
theorem dL_isValid_23 : decode cL_isValid 23 = .ok (.iload 8, 2) := by decide +kernel
theorem dL_isValid_25 : decode cL_isValid 25 = .ok (.iconst 1, 1) := by decide +kernel
theorem dL_isValid_26 : decode cL_isValid 26 = .ok (.iadd, 1) := by decide +kernel
theorem dL_isValid_27 : decode cL_isValid 27 = .ok (.iaload, 1) := by decide +kernel
theorem dL_isValid_28 : decode cL_isValid 28 = .ok (.iaload, 1) := by decide +kernel
theorem dL_isValid_29 : decode cL_isValid 29 = .ok (.iload_n 1, 1) := by decide +kernel
theorem dL_isValid_30 : decode cL_isValid 30 = .ok (.aload 6, 2) := by decide +kernel
theorem dL_isValid_32 : decode cL_isValid 32 = .ok (.iload 8, 2) := by decide +kernel
theorem dL_isValid_34 : decode cL_isValid 34 = .ok (.iconst 3, 1) := by decide +kernel
theorem dL_isValid_35 : decode cL_isValid 35 = .ok (.iadd, 1) := by decide +kernel
theorem dL_isValid_36 : decode cL_isValid 36 = .ok (.iaload, 1) := by decide +kernel
theorem dL_isValid_37 : decode cL_isValid 37 = .ok (.imul, 1) := by decide +kernel
theorem dL_isValid_38 : decode cL_isValid 38 = .ok (.iadd, 1) := by decide +kernel
theorem dL_isValid_39 : decode cL_isValid 39 = .ok (.aload_n 2, 1) := by decide +kernel
theorem dL_isValid_40 : decode cL_isValid 40 = .ok (.aload 6, 2) := by decide +kernel
theorem dL_isValid_42 : decode cL_isValid 42 = .ok (.iload 8, 2) := by decide +kernel
theorem dL_isValid_44 : decode cL_isValid 44 = .ok (.iaload, 1) := by decide +kernel
theorem dL_isValid_45 : decode cL_isValid 45 = .ok (.iaload, 1) := by decide +kernel
theorem dL_isValid_46 : decode cL_isValid 46 = .ok (.aload 6, 2) := by decide +kernel
theorem dL_isValid_48 : decode cL_isValid 48 = .ok (.iload 8, 2) := by decide +kernel
theorem dL_isValid_50 : decode cL_isValid 50 = .ok (.iconst 2, 1) := by decide +kernel
theorem dL_isValid_51 : decode cL_isValid 51 = .ok (.iadd, 1) := by decide +kernel
theorem dL_isValid_52 : decode cL_isValid 52 = .ok (.iaload, 1) := by decide +kernel
theorem dL_isValid_53 : decode cL_isValid 53 = .ok (.iadd, 1) := by decide +kernel
theorem dL_isValid_54 : decode cL_isValid 54 = .ok (.if_icmp .ge 5, 3) := by decide +kernel
theorem dL_isValid_57 : decode cL_isValid 57 = .ok (.iconst 0, 1) := by decide +kernel
theorem dL_isValid_58 : decode cL_isValid 58 = .ok (.ireturn, 1) := by decide +kernel
theorem dL_isValid_59 : decode cL_isValid 59 = .ok (.iinc 7 1, 3) := by decide +kernel
theorem dL_isValid_62 : decode cL_isValid 62 = .ok (.goto (-59), 3) := by decide +kernel
theorem dL_isValid_65 : decode cL_isValid 65 = .ok (.iconst 0, 1) := by decide +kernel
theorem dL_isValid_66 : decode cL_isValid 66 = .ok (.istore 7, 2) := by decide +kernel
theorem dL_isValid_68 : decode cL_isValid 68 = .ok (.iload 7, 2) := by decide +kernel
theorem dL_isValid_70 : decode cL_isValid 70 = .ok (.iload_n 1, 1) := by decide +kernel
theorem dL_isValid_71 : decode cL_isValid 71 = .ok (.if_icmp .ge 107, 3) := by decide +kernel
theorem dL_isValid_74 : decode cL_isValid 74 = .ok (.iconst 3, 1) := by decide +kernel
theorem dL_isValid_75 : decode cL_isValid 75 = .ok (.newarray .int, 2) := by decide +kernel
theorem dL_isValid_77 : decode cL_isValid 77 = .ok (.astore 8, 2) := by decide +kernel
theorem dL_isValid_79 : decode cL_isValid 79 = .ok (.iconst 0, 1) := by decide +kernel
theorem dL_isValid_80 : decode cL_isValid 80 = .ok (.istore 9, 2) := by decide +kernel
theorem dL_isValid_82 : decode cL_isValid 82 = .ok (.iload 9, 2) := by decide +kernel
theorem dL_isValid_84 : decode cL_isValid 84 = .ok (.iload_n 0, 1) := by decide +kernel
theorem dL_isValid_85 : decode cL_isValid 85 = .ok (.if_icmp .ge 58, 3) := by decide +kernel
theorem dL_isValid_88 : decode cL_isValid 88 = .ok (.iconst 0, 1) := by decide +kernel
theorem dL_isValid_89 : decode cL_isValid 89 = .ok (.istore 10, 2) := by decide +kernel
theorem dL_isValid_91 : decode cL_isValid 91 = .ok (.iload 10, 2) := by decide +kernel
theorem dL_isValid_93 : decode cL_isValid 93 = .ok (.aload 5, 2) := by decide +kernel
theorem dL_isValid_95 : decode cL_isValid 95 = .ok (.iload 9, 2) := by decide +kernel
theorem dL_isValid_97 : decode cL_isValid 97 = .ok (.iaload, 1) := by decide +kernel
theorem dL_isValid_98 : decode cL_isValid 98 = .ok (.if_icmp .ge 39, 3) := by decide +kernel
theorem dL_isValid_101 : decode cL_isValid 101 = .ok (.aload 8, 2) := by decide +kernel
theorem dL_isValid_103 : decode cL_isValid 103 = .ok (.aload 4, 2) := by decide +kernel
theorem dL_isValid_105 : decode cL_isValid 105 = .ok (.iload 9, 2) := by decide +kernel
theorem dL_isValid_107 : decode cL_isValid 107 = .ok (.iaload, 1) := by decide +kernel
theorem dL_isValid_108 : decode cL_isValid 108 = .ok (.dup2, 1) := by decide +kernel
theorem dL_isValid_109 : decode cL_isValid 109 = .ok (.iaload, 1) := by decide +kernel
theorem dL_isValid_110 : decode cL_isValid 110 = .ok (.aload_n 2, 1) := by decide +kernel
theorem dL_isValid_111 : decode cL_isValid 111 = .ok (.iload 9, 2) := by decide +kernel
theorem dL_isValid_113 : decode cL_isValid 113 = .ok (.iaload, 1) := by decide +kernel
theorem dL_isValid_114 : decode cL_isValid 114 = .ok (.iload 10, 2) := by decide +kernel
theorem dL_isValid_116 : decode cL_isValid 116 = .ok (.iadd, 1) := by decide +kernel
theorem dL_isValid_117 : decode cL_isValid 117 = .ok (.iload_n 1, 1) := by decide +kernel
theorem dL_isValid_118 : decode cL_isValid 118 = .ok (.irem, 1) := by decide +kernel
theorem dL_isValid_119 : decode cL_isValid 119 = .ok (.iload 7, 2) := by decide +kernel
theorem dL_isValid_121 : decode cL_isValid 121 = .ok (.if_icmp .ne 7, 3) := by decide +kernel
theorem dL_isValid_124 : decode cL_isValid 124 = .ok (.iconst 1, 1) := by decide +kernel
theorem dL_isValid_125 : decode cL_isValid 125 = .ok (.goto 4, 3) := by decide +kernel
theorem dL_isValid_128 : decode cL_isValid 128 = .ok (.iconst 0, 1) := by decide +kernel
theorem dL_isValid_129 : decode cL_isValid 129 = .ok (.iadd, 1) := by decide +kernel
theorem dL_isValid_130 : decode cL_isValid 130 = .ok (.iastore, 1) := by decide +kernel
theorem dL_isValid_131 : decode cL_isValid 131 = .ok (.iinc 10 1, 3) := by decide +kernel
theorem dL_isValid_134 : decode cL_isValid 134 = .ok (.goto (-43), 3) := by decide +kernel
theorem dL_isValid_137 : decode cL_isValid 137 = .ok (.iinc 9 1, 3) := by decide +kernel
theorem dL_isValid_140 : decode cL_isValid 140 = .ok (.goto (-58), 3) := by decide +kernel
theorem dL_isValid_143 : decode cL_isValid 143 = .ok (.iconst 0, 1) := by decide +kernel
theorem dL_isValid_144 : decode cL_isValid 144 = .ok (.istore 9, 2) := by decide +kernel
theorem dL_isValid_146 : decode cL_isValid 146 = .ok (.iload 9, 2) := by decide +kernel
theorem dL_isValid_148 : decode cL_isValid 148 = .ok (.iconst 3, 1) := by decide +kernel
theorem dL_isValid_149 : decode cL_isValid 149 = .ok (.if_icmp .ge 23, 3) := by decide +kernel
theorem dL_isValid_152 : decode cL_isValid 152 = .ok (.aload 8, 2) := by decide +kernel
theorem dL_isValid_154 : decode cL_isValid 154 = .ok (.iload 9, 2) := by decide +kernel
theorem dL_isValid_156 : decode cL_isValid 156 = .ok (.iaload, 1) := by decide +kernel
theorem dL_isValid_157 : decode cL_isValid 157 = .ok (.aload_n 3, 1) := by decide +kernel
theorem dL_isValid_158 : decode cL_isValid 158 = .ok (.iload 9, 2) := by decide +kernel
theorem dL_isValid_160 : decode cL_isValid 160 = .ok (.iaload, 1) := by decide +kernel
theorem dL_isValid_161 : decode cL_isValid 161 = .ok (.if_icmp .le 5, 3) := by decide +kernel
theorem dL_isValid_164 : decode cL_isValid 164 = .ok (.iconst 0, 1) := by decide +kernel
theorem dL_isValid_165 : decode cL_isValid 165 = .ok (.ireturn, 1) := by decide +kernel
theorem dL_isValid_166 : decode cL_isValid 166 = .ok (.iinc 9 1, 3) := by decide +kernel
theorem dL_isValid_169 : decode cL_isValid 169 = .ok (.goto (-23), 3) := by decide +kernel
theorem dL_isValid_172 : decode cL_isValid 172 = .ok (.iinc 7 1, 3) := by decide +kernel
theorem dL_isValid_175 : decode cL_isValid 175 = .ok (.goto (-107), 3) := by decide +kernel
theorem dL_isValid_178 : decode cL_isValid 178 = .ok (.iconst 1, 1) := by decide +kernel
theorem dL_isValid_179 : decode cL_isValid 179 = .ok (.ireturn, 1) := by decide +kernel
set_option maxRecDepth 20000 in
theorem ggL_law_X2_init : GoodIn wsL_law wsX2_init := goodIn_r _ [6, 7, 8, 9, 10, 11, 12, 13, 14, 15, 16, 17, 18, 19, 20, 21, 3, 22, 23, 24, 25, 26, 27, 28, 29, 30, 31, 32, 33, 34, 35, 36, 37, 38, 242, 243, 244, 245, 246, 247, 248, 249, 250, 251, 239, 240, 241, 252, 253, 254, 255, 256] (by decide +kernel) (by decide +kernel)
set_option maxRecDepth 20000 in
theorem gL_law_X2_init : GoodIn wsL_law (wsX2_init) := ggL_law_X2_init
set_option maxRecDepth 20000 in
theorem ggL_law_L_build : GoodIn wsL_law wsL_build := goodIn_ca (goodIn_ca (goodIn_ca (goodIn_r _ [42, 3, 43, 44, 41, 45, 46, 47, 48, 49, 50, 51, 52, 53, 2, 54, 55, 56, 13, 57, 17, 58, 59, 60, 61, 62, 63, 64, 65, 66, 67, 68, 16, 69, 70, 71, 72, 73, 74, 75, 76, 77, 78, 79, 80, 12, 81, 23, 82, 24, 83, 84, 85, 86, 87, 88, 89, 90, 91, 92, 93, 94, 95, 96, 97, 98, 25, 99, 26, 27, 28, 239, 240, 241, 242, 243, 244, 245, 246, 247, 248, 249, 250, 251, 252, 253, 254, 255, 256] (by decide +kernel) (by decide +kernel)) (goodIn_sub (fun _ h => List.mem_append_left _ (List.mem_append_left _ (List.mem_append_right _ h))) (by decide +kernel))) (goodIn_sub (fun _ h => List.mem_append_left _ (List.mem_append_right _ h)) (by decide +kernel))) (goodIn_sub (fun _ h => List.mem_append_right _ h) (by decide +kernel))
set_option maxRecDepth 20000 in
theorem gL_law_L_build : GoodIn wsL_law (va_wsS RL 32 yL_build wsL_build) := goodIn_app (goodIn_of _ (by decide +kernel)) ggL_law_L_build
set_option maxRecDepth 20000 in
theorem ggL_law_X2_schedule : GoodIn wsL_law wsX2_schedule := goodIn_ca (goodIn_r _ [103, 55, 56, 17, 104, 13, 105, 106, 107, 108, 66, 67, 68, 16, 69, 70, 109, 110, 111, 12, 112, 113, 114, 115, 116, 29, 82, 117, 118, 119, 120, 121, 122, 123, 124, 99, 26, 27, 28, 25, 125, 126, 127, 128, 22, 129, 130, 131, 132, 133, 23, 24, 134, 135, 136, 137, 38, 34, 36, 138, 139, 140, 141, 142, 143, 144, 145, 146, 147, 148, 149, 150, 151, 152, 153, 154, 155, 156, 157, 158, 159, 160, 161, 162, 163, 164, 165, 166, 167, 168, 169, 170, 171, 172, 173, 174, 175, 176, 177, 178, 179, 180, 181, 182, 239, 240, 241, 252, 253, 254, 255, 256, 242, 243, 244, 245, 246, 247, 248, 249, 250, 251] (by decide +kernel) (by decide +kernel)) (goodIn_sub (fun _ h => List.mem_append_left _ (List.mem_append_left _ (List.mem_append_right _ h))) (by decide +kernel))
set_option maxRecDepth 20000 in
theorem gL_law_X2_schedule : GoodIn wsL_law (wsV RL 36 RX2 yX2_schedule wsX2_schedule) := goodIn_app (goodIn_of _ (by decide +kernel)) ggL_law_X2_schedule
set_option maxRecDepth 20000 in
theorem ggL_law_L_cell : GoodIn wsL_law wsL_cell := goodIn_r _ [45, 46] (by decide +kernel) (by decide +kernel)
set_option maxRecDepth 20000 in
theorem gL_law_L_cell : GoodIn wsL_law (va_wsS RL 9 yL_cell wsL_cell) := goodIn_app (goodIn_of _ (by decide +kernel)) ggL_law_L_cell
set_option maxRecDepth 20000 in
theorem ggL_law_L_below : GoodIn wsL_law wsL_below := goodIn_r _ [49, 50] (by decide +kernel) (by decide +kernel)
set_option maxRecDepth 20000 in
theorem gL_law_L_below : GoodIn wsL_law (va_wsS RL 15 yL_below wsL_below) := goodIn_app (goodIn_of _ (by decide +kernel)) ggL_law_L_below
set_option maxRecDepth 20000 in
theorem ggL_law_X2_move : GoodIn wsL_law wsX2_move := goodIn_ca (goodIn_ca (goodIn_ca (goodIn_r _ [186, 55, 56, 17, 88, 89, 90, 2, 91, 61, 62, 13, 77, 187, 188, 189, 190, 75, 76, 191, 192, 193, 194, 16, 195, 34, 196, 197, 198, 199, 178, 179, 180, 181, 38, 171, 172, 36, 70, 150, 151, 152, 153, 154, 155, 156, 157, 158, 159, 106, 107, 108, 160, 161, 162, 163, 164, 165, 166, 167, 168, 169, 170, 173, 174, 175, 176, 177, 239, 240, 241, 242, 243, 244, 245, 246, 247, 248, 249, 250, 251, 252, 253, 254, 255, 256] (by decide +kernel) (by decide +kernel)) (goodIn_sub (fun _ h => List.mem_append_left _ (List.mem_append_left _ (List.mem_append_right _ h))) (by decide +kernel))) (goodIn_sub (fun _ h => List.mem_append_left _ (List.mem_append_right _ h)) (by decide +kernel))) (goodIn_sub (fun _ h => List.mem_append_right _ h) (by decide +kernel))
set_option maxRecDepth 20000 in
theorem gL_law_X2_move : GoodIn wsL_law (wsV RL 40 RX2 yX2_move wsX2_move) := goodIn_app (goodIn_of _ (by decide +kernel)) ggL_law_X2_move
set_option maxRecDepth 20000 in
theorem ggL_law_X2_time : GoodIn wsL_law wsX2_time := goodIn_ca (goodIn_ca (goodIn_r _ [203, 17, 204, 88, 89, 90, 2, 91, 61, 62, 13, 77, 187, 188, 189, 190, 75, 76, 191, 239, 240, 241, 252, 253, 254, 255, 256, 242, 243, 244, 245, 246, 247, 248, 249, 250, 251] (by decide +kernel) (by decide +kernel)) (goodIn_sub (fun _ h => List.mem_append_left _ (List.mem_append_right _ h)) (by decide +kernel))) (goodIn_sub (fun _ h => List.mem_append_right _ h) (by decide +kernel))
set_option maxRecDepth 20000 in
theorem gL_law_X2_time : GoodIn wsL_law (wsV RL 44 RX2 yX2_time wsX2_time) := goodIn_app (goodIn_of _ (by decide +kernel)) ggL_law_X2_time
set_option maxRecDepth 20000 in
theorem ggL_law_L_isValid : GoodIn wsL_law wsL_isValid := goodIn_r _ [207, 3] (by decide +kernel) (by decide +kernel)
set_option maxRecDepth 20000 in
theorem gL_law_L_isValid : GoodIn wsL_law (va_wsS RL 47 yL_isValid wsL_isValid) := goodIn_app (goodIn_of _ (by decide +kernel)) ggL_law_L_isValid
set_option maxRecDepth 20000 in
theorem ggL_law_X2_stages : GoodIn wsL_law wsX2_stages := goodIn_ca (goodIn_r _ [211, 17, 187, 188, 189, 2, 190, 75, 76, 191, 212, 213, 214, 16, 215, 38, 138, 70, 216, 217, 218, 219, 34, 159, 106, 107, 108, 239, 240, 241, 252, 253, 254, 255, 256, 242, 243, 244, 245, 246, 247, 248, 249, 250, 251] (by decide +kernel) (by decide +kernel)) (goodIn_sub (fun _ h => List.mem_append_right _ h) (by decide +kernel))
set_option maxRecDepth 20000 in
theorem gL_law_X2_stages : GoodIn wsL_law (wsV RL 51 RX2 yX2_stages wsX2_stages) := goodIn_app (goodIn_of _ (by decide +kernel)) ggL_law_X2_stages
set_option maxRecDepth 20000 in
theorem ggL_law_X2_cycles : GoodIn wsL_law wsX2_cycles := goodIn_ca (goodIn_ca (goodIn_r _ [223, 13, 77, 17, 191, 187, 188, 189, 2, 190, 75, 76, 224, 225, 226, 55, 56, 227, 217, 218, 16, 219, 38, 138, 34, 159, 106, 107, 108, 239, 240, 241, 242, 243, 244, 245, 246, 247, 248, 249, 250, 251, 252, 253, 254, 255, 256] (by decide +kernel) (by decide +kernel)) (goodIn_sub (fun _ h => List.mem_append_right _ h) (by decide +kernel))) (goodIn_sub (fun _ h => List.mem_append_left _ (List.mem_append_left _ (List.mem_append_right _ h))) (by decide +kernel))
set_option maxRecDepth 20000 in
theorem gL_law_X2_cycles : GoodIn wsL_law (wsV RL 55 RX2 yX2_cycles wsX2_cycles) := goodIn_app (goodIn_of _ (by decide +kernel)) ggL_law_X2_cycles
set_option maxRecDepth 20000 in
theorem ggL_law_X2_issued : GoodIn wsL_law wsX2_issued := goodIn_ca (goodIn_ca (goodIn_r _ [231, 13, 77, 187, 188, 189, 2, 190, 75, 76, 17, 191, 224, 225, 226, 55, 56, 232, 233, 234, 235, 236, 237, 238, 204, 239, 240, 241, 242, 243, 244, 245, 246, 247, 248, 249, 250, 251, 252, 253, 254, 255, 256] (by decide +kernel) (by decide +kernel)) (goodIn_sub (fun _ h => List.mem_append_right _ h) (by decide +kernel))) (goodIn_sub (fun _ h => List.mem_append_left _ (List.mem_append_left _ (List.mem_append_right _ h))) (by decide +kernel))
set_option maxRecDepth 20000 in
theorem gL_law_X2_issued : GoodIn wsL_law (wsV RL 58 RX2 yX2_issued wsX2_issued) := goodIn_app (goodIn_of _ (by decide +kernel)) ggL_law_X2_issued
theorem dL_law_0 : decode cL_law 0 = .ok (.new 20, 3) := by decide +kernel
theorem dL_law_3 : decode cL_law 3 = .ok (.dup, 1) := by decide +kernel
theorem dL_law_4 : decode cL_law 4 = .ok (.invokespecial 31, 3) := by decide +kernel
theorem dL_law_7 : decode cL_law 7 = .ok (.astore_n 1, 1) := by decide +kernel
theorem dL_law_8 : decode cL_law 8 = .ok (.iconst 3, 1) := by decide +kernel
theorem dL_law_9 : decode cL_law 9 = .ok (.newarray .int, 2) := by decide +kernel
theorem dL_law_11 : decode cL_law 11 = .ok (.astore_n 2, 1) := by decide +kernel
theorem dL_law_12 : decode cL_law 12 = .ok (.bipush 6, 2) := by decide +kernel
theorem dL_law_14 : decode cL_law 14 = .ok (.newarray .int, 2) := by decide +kernel
theorem dL_law_16 : decode cL_law 16 = .ok (.astore_n 3, 1) := by decide +kernel
theorem dL_law_17 : decode cL_law 17 = .ok (.bipush 6, 2) := by decide +kernel
theorem dL_law_19 : decode cL_law 19 = .ok (.newarray .int, 2) := by decide +kernel
theorem dL_law_21 : decode cL_law 21 = .ok (.astore 4, 2) := by decide +kernel
theorem dL_law_23 : decode cL_law 23 = .ok (.bipush 40, 2) := by decide +kernel
theorem dL_law_25 : decode cL_law 25 = .ok (.newarray .int, 2) := by decide +kernel
theorem dL_law_27 : decode cL_law 27 = .ok (.astore 5, 2) := by decide +kernel
theorem dL_law_29 : decode cL_law 29 = .ok (.aload_n 1, 1) := by decide +kernel
theorem dL_law_30 : decode cL_law 30 = .ok (.aload_n 0, 1) := by decide +kernel
theorem dL_law_31 : decode cL_law 31 = .ok (.iconst 0, 1) := by decide +kernel
theorem dL_law_32 : decode cL_law 32 = .ok (.aload_n 2, 1) := by decide +kernel
theorem dL_law_33 : decode cL_law 33 = .ok (.aload_n 3, 1) := by decide +kernel
theorem dL_law_34 : decode cL_law 34 = .ok (.aload 4, 2) := by decide +kernel
theorem dL_law_36 : decode cL_law 36 = .ok (.aload 5, 2) := by decide +kernel
theorem dL_law_38 : decode cL_law 38 = .ok (.invokestatic 32, 3) := by decide +kernel
theorem dL_law_41 : decode cL_law 41 = .ok (.istore 6, 2) := by decide +kernel
theorem dL_law_43 : decode cL_law 43 = .ok (.iload 6, 2) := by decide +kernel
theorem dL_law_45 : decode cL_law 45 = .ok (.iconst 1, 1) := by decide +kernel
theorem dL_law_46 : decode cL_law 46 = .ok (.if_icmp .ge 5, 3) := by decide +kernel
theorem dL_law_49 : decode cL_law 49 = .ok (.iconst 0, 1) := by decide +kernel
theorem dL_law_50 : decode cL_law 50 = .ok (.ireturn, 1) := by decide +kernel
theorem dL_law_51 : decode cL_law 51 = .ok (.aload_n 1, 1) := by decide +kernel
theorem dL_law_52 : decode cL_law 52 = .ok (.sipush 200, 3) := by decide +kernel
theorem dL_law_55 : decode cL_law 55 = .ok (.invokevirtual 36, 3) := by decide +kernel
theorem dL_law_58 : decode cL_law 58 = .ok (.istore 7, 2) := by decide +kernel
theorem dL_law_60 : decode cL_law 60 = .ok (.iload 7, 2) := by decide +kernel
theorem dL_law_62 : decode cL_law 62 = .ok (.ifCond .ge 5, 3) := by decide +kernel
theorem dL_law_65 : decode cL_law 65 = .ok (.iconst 0, 1) := by decide +kernel
theorem dL_law_66 : decode cL_law 66 = .ok (.ireturn, 1) := by decide +kernel
theorem dL_law_67 : decode cL_law 67 = .ok (.iconst 0, 1) := by decide +kernel
theorem dL_law_68 : decode cL_law 68 = .ok (.istore 8, 2) := by decide +kernel
theorem dL_law_70 : decode cL_law 70 = .ok (.iload 8, 2) := by decide +kernel
theorem dL_law_72 : decode cL_law 72 = .ok (.bipush 6, 2) := by decide +kernel
theorem dL_law_74 : decode cL_law 74 = .ok (.if_icmp .ge 77, 3) := by decide +kernel
theorem dL_law_77 : decode cL_law 77 = .ok (.aload_n 0, 1) := by decide +kernel
theorem dL_law_78 : decode cL_law 78 = .ok (.bipush 17, 2) := by decide +kernel
theorem dL_law_80 : decode cL_law 80 = .ok (.iload 8, 2) := by decide +kernel
theorem dL_law_82 : decode cL_law 82 = .ok (.iadd, 1) := by decide +kernel
theorem dL_law_83 : decode cL_law 83 = .ok (.invokestatic 9, 3) := by decide +kernel
theorem dL_law_86 : decode cL_law 86 = .ok (.iload 6, 2) := by decide +kernel
theorem dL_law_88 : decode cL_law 88 = .ok (.invokestatic 15, 3) := by decide +kernel
theorem dL_law_91 : decode cL_law 91 = .ok (.istore 9, 2) := by decide +kernel
theorem dL_law_93 : decode cL_law 93 = .ok (.aload_n 1, 1) := by decide +kernel
theorem dL_law_94 : decode cL_law 94 = .ok (.iload 9, 2) := by decide +kernel
theorem dL_law_96 : decode cL_law 96 = .ok (.aload_n 0, 1) := by decide +kernel
theorem dL_law_97 : decode cL_law 97 = .ok (.bipush 17, 2) := by decide +kernel
theorem dL_law_99 : decode cL_law 99 = .ok (.iload 8, 2) := by decide +kernel
theorem dL_law_101 : decode cL_law 101 = .ok (.iadd, 1) := by decide +kernel
theorem dL_law_102 : decode cL_law 102 = .ok (.invokestatic 9, 3) := by decide +kernel
theorem dL_law_105 : decode cL_law 105 = .ok (.iconst 4, 1) := by decide +kernel
theorem dL_law_106 : decode cL_law 106 = .ok (.ishr, 1) := by decide +kernel
theorem dL_law_107 : decode cL_law 107 = .ok (.bipush 60, 2) := by decide +kernel
theorem dL_law_109 : decode cL_law 109 = .ok (.invokestatic 15, 3) := by decide +kernel
theorem dL_law_112 : decode cL_law 112 = .ok (.invokevirtual 40, 3) := by decide +kernel
theorem dL_law_115 : decode cL_law 115 = .ok (.ifCond .eq 30, 3) := by decide +kernel
theorem dL_law_118 : decode cL_law 118 = .ok (.aload_n 1, 1) := by decide +kernel
theorem dL_law_119 : decode cL_law 119 = .ok (.iload 9, 2) := by decide +kernel
theorem dL_law_121 : decode cL_law 121 = .ok (.invokevirtual 44, 3) := by decide +kernel
theorem dL_law_124 : decode cL_law 124 = .ok (.aload_n 0, 1) := by decide +kernel
theorem dL_law_125 : decode cL_law 125 = .ok (.bipush 17, 2) := by decide +kernel
theorem dL_law_127 : decode cL_law 127 = .ok (.iload 8, 2) := by decide +kernel
theorem dL_law_129 : decode cL_law 129 = .ok (.iadd, 1) := by decide +kernel
theorem dL_law_130 : decode cL_law 130 = .ok (.invokestatic 9, 3) := by decide +kernel
theorem dL_law_133 : decode cL_law 133 = .ok (.iconst 4, 1) := by decide +kernel
theorem dL_law_134 : decode cL_law 134 = .ok (.ishr, 1) := by decide +kernel
theorem dL_law_135 : decode cL_law 135 = .ok (.bipush 60, 2) := by decide +kernel
theorem dL_law_137 : decode cL_law 137 = .ok (.invokestatic 15, 3) := by decide +kernel
theorem dL_law_140 : decode cL_law 140 = .ok (.if_icmp .eq 5, 3) := by decide +kernel
theorem dL_law_143 : decode cL_law 143 = .ok (.iconst 0, 1) := by decide +kernel
theorem dL_law_144 : decode cL_law 144 = .ok (.ireturn, 1) := by decide +kernel
theorem dL_law_145 : decode cL_law 145 = .ok (.iinc 8 1, 3) := by decide +kernel
theorem dL_law_148 : decode cL_law 148 = .ok (.goto (-78), 3) := by decide +kernel
theorem dL_law_151 : decode cL_law 151 = .ok (.bipush 6, 2) := by decide +kernel
theorem dL_law_153 : decode cL_law 153 = .ok (.newarray .int, 2) := by decide +kernel
theorem dL_law_155 : decode cL_law 155 = .ok (.astore 8, 2) := by decide +kernel
theorem dL_law_157 : decode cL_law 157 = .ok (.iconst 0, 1) := by decide +kernel
theorem dL_law_158 : decode cL_law 158 = .ok (.istore 9, 2) := by decide +kernel
theorem dL_law_160 : decode cL_law 160 = .ok (.iload 9, 2) := by decide +kernel
theorem dL_law_162 : decode cL_law 162 = .ok (.iload 6, 2) := by decide +kernel
theorem dL_law_164 : decode cL_law 164 = .ok (.if_icmp .ge 20, 3) := by decide +kernel
theorem dL_law_167 : decode cL_law 167 = .ok (.aload 8, 2) := by decide +kernel
theorem dL_law_169 : decode cL_law 169 = .ok (.iload 9, 2) := by decide +kernel
theorem dL_law_171 : decode cL_law 171 = .ok (.aload_n 1, 1) := by decide +kernel
theorem dL_law_172 : decode cL_law 172 = .ok (.iload 9, 2) := by decide +kernel
theorem dL_law_174 : decode cL_law 174 = .ok (.invokevirtual 44, 3) := by decide +kernel
theorem dL_law_177 : decode cL_law 177 = .ok (.iastore, 1) := by decide +kernel
theorem dL_law_178 : decode cL_law 178 = .ok (.iinc 9 1, 3) := by decide +kernel
theorem dL_law_181 : decode cL_law 181 = .ok (.goto (-21), 3) := by decide +kernel
theorem dL_law_184 : decode cL_law 184 = .ok (.iload 6, 2) := by decide +kernel
theorem dL_law_186 : decode cL_law 186 = .ok (.iload 7, 2) := by decide +kernel
theorem dL_law_188 : decode cL_law 188 = .ok (.aload 8, 2) := by decide +kernel
theorem dL_law_190 : decode cL_law 190 = .ok (.aload_n 2, 1) := by decide +kernel
theorem dL_law_191 : decode cL_law 191 = .ok (.aload_n 3, 1) := by decide +kernel
theorem dL_law_192 : decode cL_law 192 = .ok (.aload 4, 2) := by decide +kernel
theorem dL_law_194 : decode cL_law 194 = .ok (.aload 5, 2) := by decide +kernel
theorem dL_law_196 : decode cL_law 196 = .ok (.invokestatic 47, 3) := by decide +kernel
theorem dL_law_199 : decode cL_law 199 = .ok (.ifCond .ne 5, 3) := by decide +kernel
theorem dL_law_202 : decode cL_law 202 = .ok (.iconst 0, 1) := by decide +kernel
theorem dL_law_203 : decode cL_law 203 = .ok (.ireturn, 1) := by decide +kernel
theorem dL_law_204 : decode cL_law 204 = .ok (.aload_n 1, 1) := by decide +kernel
theorem dL_law_205 : decode cL_law 205 = .ok (.invokevirtual 51, 3) := by decide +kernel
theorem dL_law_208 : decode cL_law 208 = .ok (.istore 9, 2) := by decide +kernel
theorem dL_law_210 : decode cL_law 210 = .ok (.iload 9, 2) := by decide +kernel
theorem dL_law_212 : decode cL_law 212 = .ok (.iconst 3, 1) := by decide +kernel
theorem dL_law_213 : decode cL_law 213 = .ok (.iadd, 1) := by decide +kernel
theorem dL_law_214 : decode cL_law 214 = .ok (.istore 10, 2) := by decide +kernel
theorem dL_law_216 : decode cL_law 216 = .ok (.aload_n 1, 1) := by decide +kernel
theorem dL_law_217 : decode cL_law 217 = .ok (.iload 10, 2) := by decide +kernel
theorem dL_law_219 : decode cL_law 219 = .ok (.invokevirtual 55, 3) := by decide +kernel
theorem dL_law_222 : decode cL_law 222 = .ok (.iconst 4, 1) := by decide +kernel
theorem dL_law_223 : decode cL_law 223 = .ok (.iadd, 1) := by decide +kernel
theorem dL_law_224 : decode cL_law 224 = .ok (.istore 11, 2) := by decide +kernel
theorem dL_law_226 : decode cL_law 226 = .ok (.iconst 3, 1) := by decide +kernel
theorem dL_law_227 : decode cL_law 227 = .ok (.iload 11, 2) := by decide +kernel
theorem dL_law_229 : decode cL_law 229 = .ok (.iconst 1, 1) := by decide +kernel
theorem dL_law_230 : decode cL_law 230 = .ok (.iadd, 1) := by decide +kernel
theorem dL_law_231 : decode cL_law 231 = .ok (.imul, 1) := by decide +kernel
theorem dL_law_232 : decode cL_law 232 = .ok (.newarray .int, 2) := by decide +kernel
theorem dL_law_234 : decode cL_law 234 = .ok (.astore 12, 2) := by decide +kernel
theorem dL_law_236 : decode cL_law 236 = .ok (.iconst 0, 1) := by decide +kernel
theorem dL_law_237 : decode cL_law 237 = .ok (.istore 13, 2) := by decide +kernel
theorem dL_law_239 : decode cL_law 239 = .ok (.iload 13, 2) := by decide +kernel
theorem dL_law_241 : decode cL_law 241 = .ok (.iload 10, 2) := by decide +kernel
theorem dL_law_243 : decode cL_law 243 = .ok (.if_icmp .ge 72, 3) := by decide +kernel
theorem dL_law_246 : decode cL_law 246 = .ok (.iconst 0, 1) := by decide +kernel
theorem dL_law_247 : decode cL_law 247 = .ok (.istore 14, 2) := by decide +kernel
theorem dL_law_249 : decode cL_law 249 = .ok (.iload 14, 2) := by decide +kernel
theorem dL_law_251 : decode cL_law 251 = .ok (.iload 6, 2) := by decide +kernel
theorem dL_law_253 : decode cL_law 253 = .ok (.if_icmp .ge 56, 3) := by decide +kernel
theorem dL_law_256 : decode cL_law 256 = .ok (.iconst 0, 1) := by decide +kernel
theorem dL_law_257 : decode cL_law 257 = .ok (.istore 15, 2) := by decide +kernel
theorem dL_law_259 : decode cL_law 259 = .ok (.iload 15, 2) := by decide +kernel
theorem dL_law_261 : decode cL_law 261 = .ok (.aload 4, 2) := by decide +kernel
theorem dL_law_263 : decode cL_law 263 = .ok (.iload 14, 2) := by decide +kernel
theorem dL_law_265 : decode cL_law 265 = .ok (.iaload, 1) := by decide +kernel
theorem dL_law_266 : decode cL_law 266 = .ok (.if_icmp .ge 37, 3) := by decide +kernel
theorem dL_law_269 : decode cL_law 269 = .ok (.aload 12, 2) := by decide +kernel
theorem dL_law_271 : decode cL_law 271 = .ok (.iconst 3, 1) := by decide +kernel
theorem dL_law_272 : decode cL_law 272 = .ok (.aload 8, 2) := by decide +kernel
theorem dL_law_274 : decode cL_law 274 = .ok (.iload 14, 2) := by decide +kernel
theorem dL_law_276 : decode cL_law 276 = .ok (.iaload, 1) := by decide +kernel
theorem dL_law_277 : decode cL_law 277 = .ok (.iload 13, 2) := by decide +kernel
theorem dL_law_279 : decode cL_law 279 = .ok (.iload 7, 2) := by decide +kernel
theorem dL_law_281 : decode cL_law 281 = .ok (.imul, 1) := by decide +kernel
theorem dL_law_282 : decode cL_law 282 = .ok (.iadd, 1) := by decide +kernel
theorem dL_law_283 : decode cL_law 283 = .ok (.iload 15, 2) := by decide +kernel
theorem dL_law_285 : decode cL_law 285 = .ok (.iadd, 1) := by decide +kernel
theorem dL_law_286 : decode cL_law 286 = .ok (.imul, 1) := by decide +kernel
theorem dL_law_287 : decode cL_law 287 = .ok (.aload_n 3, 1) := by decide +kernel
theorem dL_law_288 : decode cL_law 288 = .ok (.iload 14, 2) := by decide +kernel
theorem dL_law_290 : decode cL_law 290 = .ok (.iaload, 1) := by decide +kernel
theorem dL_law_291 : decode cL_law 291 = .ok (.iadd, 1) := by decide +kernel
theorem dL_law_292 : decode cL_law 292 = .ok (.dup2, 1) := by decide +kernel
theorem dL_law_293 : decode cL_law 293 = .ok (.iaload, 1) := by decide +kernel
theorem dL_law_294 : decode cL_law 294 = .ok (.iconst 1, 1) := by decide +kernel
theorem dL_law_295 : decode cL_law 295 = .ok (.iadd, 1) := by decide +kernel
theorem dL_law_296 : decode cL_law 296 = .ok (.iastore, 1) := by decide +kernel
theorem dL_law_297 : decode cL_law 297 = .ok (.iinc 15 1, 3) := by decide +kernel
theorem dL_law_300 : decode cL_law 300 = .ok (.goto (-41), 3) := by decide +kernel
theorem dL_law_303 : decode cL_law 303 = .ok (.iinc 14 1, 3) := by decide +kernel
theorem dL_law_306 : decode cL_law 306 = .ok (.goto (-57), 3) := by decide +kernel
theorem dL_law_309 : decode cL_law 309 = .ok (.iinc 13 1, 3) := by decide +kernel
theorem dL_law_312 : decode cL_law 312 = .ok (.goto (-73), 3) := by decide +kernel
theorem dL_law_315 : decode cL_law 315 = .ok (.iconst 0, 1) := by decide +kernel
theorem dL_law_316 : decode cL_law 316 = .ok (.istore 13, 2) := by decide +kernel
theorem dL_law_318 : decode cL_law 318 = .ok (.iload 13, 2) := by decide +kernel
theorem dL_law_320 : decode cL_law 320 = .ok (.iload 11, 2) := by decide +kernel
theorem dL_law_322 : decode cL_law 322 = .ok (.if_icmp .gt 43, 3) := by decide +kernel
theorem dL_law_325 : decode cL_law 325 = .ok (.iconst 0, 1) := by decide +kernel
theorem dL_law_326 : decode cL_law 326 = .ok (.istore 14, 2) := by decide +kernel
theorem dL_law_328 : decode cL_law 328 = .ok (.iload 14, 2) := by decide +kernel
theorem dL_law_330 : decode cL_law 330 = .ok (.iconst 3, 1) := by decide +kernel
theorem dL_law_331 : decode cL_law 331 = .ok (.if_icmp .ge 28, 3) := by decide +kernel
theorem dL_law_334 : decode cL_law 334 = .ok (.aload 12, 2) := by decide +kernel
theorem dL_law_336 : decode cL_law 336 = .ok (.iconst 3, 1) := by decide +kernel
theorem dL_law_337 : decode cL_law 337 = .ok (.iload 13, 2) := by decide +kernel
theorem dL_law_339 : decode cL_law 339 = .ok (.imul, 1) := by decide +kernel
theorem dL_law_340 : decode cL_law 340 = .ok (.iload 14, 2) := by decide +kernel
theorem dL_law_342 : decode cL_law 342 = .ok (.iadd, 1) := by decide +kernel
theorem dL_law_343 : decode cL_law 343 = .ok (.iaload, 1) := by decide +kernel
theorem dL_law_344 : decode cL_law 344 = .ok (.aload_n 2, 1) := by decide +kernel
theorem dL_law_345 : decode cL_law 345 = .ok (.iload 14, 2) := by decide +kernel
theorem dL_law_347 : decode cL_law 347 = .ok (.iaload, 1) := by decide +kernel
theorem dL_law_348 : decode cL_law 348 = .ok (.if_icmp .le 5, 3) := by decide +kernel
theorem dL_law_351 : decode cL_law 351 = .ok (.iconst 0, 1) := by decide +kernel
theorem dL_law_352 : decode cL_law 352 = .ok (.ireturn, 1) := by decide +kernel
theorem dL_law_353 : decode cL_law 353 = .ok (.iinc 14 1, 3) := by decide +kernel
theorem dL_law_356 : decode cL_law 356 = .ok (.goto (-28), 3) := by decide +kernel
theorem dL_law_359 : decode cL_law 359 = .ok (.iinc 13 1, 3) := by decide +kernel
theorem dL_law_362 : decode cL_law 362 = .ok (.goto (-44), 3) := by decide +kernel
theorem dL_law_365 : decode cL_law 365 = .ok (.iconst 0, 1) := by decide +kernel
theorem dL_law_366 : decode cL_law 366 = .ok (.istore 13, 2) := by decide +kernel
theorem dL_law_368 : decode cL_law 368 = .ok (.iload 13, 2) := by decide +kernel
theorem dL_law_370 : decode cL_law 370 = .ok (.aload 5, 2) := by decide +kernel
theorem dL_law_372 : decode cL_law 372 = .ok (.iconst 0, 1) := by decide +kernel
theorem dL_law_373 : decode cL_law 373 = .ok (.iaload, 1) := by decide +kernel
theorem dL_law_374 : decode cL_law 374 = .ok (.if_icmp .ge 90, 3) := by decide +kernel
theorem dL_law_377 : decode cL_law 377 = .ok (.iconst 1, 1) := by decide +kernel
theorem dL_law_378 : decode cL_law 378 = .ok (.iconst 4, 1) := by decide +kernel
theorem dL_law_379 : decode cL_law 379 = .ok (.iload 13, 2) := by decide +kernel
theorem dL_law_381 : decode cL_law 381 = .ok (.imul, 1) := by decide +kernel
theorem dL_law_382 : decode cL_law 382 = .ok (.iadd, 1) := by decide +kernel
theorem dL_law_383 : decode cL_law 383 = .ok (.istore 14, 2) := by decide +kernel
theorem dL_law_385 : decode cL_law 385 = .ok (.aload 5, 2) := by decide +kernel
theorem dL_law_387 : decode cL_law 387 = .ok (.iload 14, 2) := by decide +kernel
theorem dL_law_389 : decode cL_law 389 = .ok (.iconst 3, 1) := by decide +kernel
theorem dL_law_390 : decode cL_law 390 = .ok (.iadd, 1) := by decide +kernel
theorem dL_law_391 : decode cL_law 391 = .ok (.iaload, 1) := by decide +kernel
theorem dL_law_392 : decode cL_law 392 = .ok (.istore 15, 2) := by decide +kernel
theorem dL_law_394 : decode cL_law 394 = .ok (.iload 15, 2) := by decide +kernel
theorem dL_law_396 : decode cL_law 396 = .ok (.iload 10, 2) := by decide +kernel
theorem dL_law_398 : decode cL_law 398 = .ok (.if_icmp .ge 60, 3) := by decide +kernel
theorem dL_law_401 : decode cL_law 401 = .ok (.aload 8, 2) := by decide +kernel
theorem dL_law_403 : decode cL_law 403 = .ok (.aload 5, 2) := by decide +kernel
theorem dL_law_405 : decode cL_law 405 = .ok (.iload 14, 2) := by decide +kernel
theorem dL_law_407 : decode cL_law 407 = .ok (.iconst 1, 1) := by decide +kernel
theorem dL_law_408 : decode cL_law 408 = .ok (.iadd, 1) := by decide +kernel
theorem dL_law_409 : decode cL_law 409 = .ok (.iaload, 1) := by decide +kernel
theorem dL_law_410 : decode cL_law 410 = .ok (.iaload, 1) := by decide +kernel
theorem dL_law_411 : decode cL_law 411 = .ok (.iload 15, 2) := by decide +kernel
theorem dL_law_413 : decode cL_law 413 = .ok (.iload 7, 2) := by decide +kernel
theorem dL_law_415 : decode cL_law 415 = .ok (.imul, 1) := by decide +kernel
theorem dL_law_416 : decode cL_law 416 = .ok (.iadd, 1) := by decide +kernel
theorem dL_law_417 : decode cL_law 417 = .ok (.aload 8, 2) := by decide +kernel
theorem dL_law_419 : decode cL_law 419 = .ok (.aload 5, 2) := by decide +kernel
theorem dL_law_421 : decode cL_law 421 = .ok (.iload 14, 2) := by decide +kernel
theorem dL_law_423 : decode cL_law 423 = .ok (.iaload, 1) := by decide +kernel
theorem dL_law_424 : decode cL_law 424 = .ok (.iaload, 1) := by decide +kernel
theorem dL_law_425 : decode cL_law 425 = .ok (.iload 15, 2) := by decide +kernel
theorem dL_law_427 : decode cL_law 427 = .ok (.aload 5, 2) := by decide +kernel
theorem dL_law_429 : decode cL_law 429 = .ok (.iload 14, 2) := by decide +kernel
theorem dL_law_431 : decode cL_law 431 = .ok (.iconst 3, 1) := by decide +kernel
theorem dL_law_432 : decode cL_law 432 = .ok (.iadd, 1) := by decide +kernel
theorem dL_law_433 : decode cL_law 433 = .ok (.iaload, 1) := by decide +kernel
theorem dL_law_434 : decode cL_law 434 = .ok (.isub, 1) := by decide +kernel
theorem dL_law_435 : decode cL_law 435 = .ok (.iload 7, 2) := by decide +kernel
theorem dL_law_437 : decode cL_law 437 = .ok (.imul, 1) := by decide +kernel
theorem dL_law_438 : decode cL_law 438 = .ok (.iadd, 1) := by decide +kernel
theorem dL_law_439 : decode cL_law 439 = .ok (.aload 5, 2) := by decide +kernel
theorem dL_law_441 : decode cL_law 441 = .ok (.iload 14, 2) := by decide +kernel
theorem dL_law_443 : decode cL_law 443 = .ok (.iconst 2, 1) := by decide +kernel
theorem dL_law_444 : decode cL_law 444 = .ok (.iadd, 1) := by decide +kernel
theorem dL_law_445 : decode cL_law 445 = .ok (.iaload, 1) := by decide +kernel
theorem dL_law_446 : decode cL_law 446 = .ok (.iadd, 1) := by decide +kernel
theorem dL_law_447 : decode cL_law 447 = .ok (.if_icmp .ge 5, 3) := by decide +kernel
theorem dL_law_450 : decode cL_law 450 = .ok (.iconst 0, 1) := by decide +kernel
theorem dL_law_451 : decode cL_law 451 = .ok (.ireturn, 1) := by decide +kernel
theorem dL_law_452 : decode cL_law 452 = .ok (.iinc 15 1, 3) := by decide +kernel
theorem dL_law_455 : decode cL_law 455 = .ok (.goto (-61), 3) := by decide +kernel
theorem dL_law_458 : decode cL_law 458 = .ok (.iinc 13 1, 3) := by decide +kernel
theorem dL_law_461 : decode cL_law 461 = .ok (.goto (-93), 3) := by decide +kernel
theorem dL_law_464 : decode cL_law 464 = .ok (.iconst 0, 1) := by decide +kernel
theorem dL_law_465 : decode cL_law 465 = .ok (.istore 13, 2) := by decide +kernel
theorem dL_law_467 : decode cL_law 467 = .ok (.iload 9, 2) := by decide +kernel
theorem dL_law_469 : decode cL_law 469 = .ok (.iconst 1, 1) := by decide +kernel
theorem dL_law_470 : decode cL_law 470 = .ok (.isub, 1) := by decide +kernel
theorem dL_law_471 : decode cL_law 471 = .ok (.iload 7, 2) := by decide +kernel
theorem dL_law_473 : decode cL_law 473 = .ok (.imul, 1) := by decide +kernel
theorem dL_law_474 : decode cL_law 474 = .ok (.istore 14, 2) := by decide +kernel
theorem dL_law_476 : decode cL_law 476 = .ok (.iload 14, 2) := by decide +kernel
theorem dL_law_478 : decode cL_law 478 = .ok (.iload 9, 2) := by decide +kernel
theorem dL_law_480 : decode cL_law 480 = .ok (.iload 7, 2) := by decide +kernel
theorem dL_law_482 : decode cL_law 482 = .ok (.imul, 1) := by decide +kernel
theorem dL_law_483 : decode cL_law 483 = .ok (.if_icmp .ge 22, 3) := by decide +kernel
theorem dL_law_486 : decode cL_law 486 = .ok (.iload 13, 2) := by decide +kernel
theorem dL_law_488 : decode cL_law 488 = .ok (.aload_n 1, 1) := by decide +kernel
theorem dL_law_489 : decode cL_law 489 = .ok (.iload 10, 2) := by decide +kernel
theorem dL_law_491 : decode cL_law 491 = .ok (.iload 14, 2) := by decide +kernel
theorem dL_law_493 : decode cL_law 493 = .ok (.invokevirtual 58, 3) := by decide +kernel
theorem dL_law_496 : decode cL_law 496 = .ok (.iadd, 1) := by decide +kernel
theorem dL_law_497 : decode cL_law 497 = .ok (.istore 13, 2) := by decide +kernel
theorem dL_law_499 : decode cL_law 499 = .ok (.iinc 14 1, 3) := by decide +kernel
theorem dL_law_502 : decode cL_law 502 = .ok (.goto (-26), 3) := by decide +kernel
theorem dL_law_505 : decode cL_law 505 = .ok (.iload 13, 2) := by decide +kernel
theorem dL_law_507 : decode cL_law 507 = .ok (.iload 6, 2) := by decide +kernel
theorem dL_law_509 : decode cL_law 509 = .ok (.if_icmp .eq 5, 3) := by decide +kernel
theorem dL_law_512 : decode cL_law 512 = .ok (.iconst 0, 1) := by decide +kernel
theorem dL_law_513 : decode cL_law 513 = .ok (.ireturn, 1) := by decide +kernel
theorem dL_law_514 : decode cL_law 514 = .ok (.iconst 0, 1) := by decide +kernel
theorem dL_law_515 : decode cL_law 515 = .ok (.istore 14, 2) := by decide +kernel
theorem dL_law_517 : decode cL_law 517 = .ok (.iconst 0, 1) := by decide +kernel
theorem dL_law_518 : decode cL_law 518 = .ok (.istore 15, 2) := by decide +kernel
theorem dL_law_520 : decode cL_law 520 = .ok (.iload 15, 2) := by decide +kernel
theorem dL_law_522 : decode cL_law 522 = .ok (.iload 11, 2) := by decide +kernel
theorem dL_law_524 : decode cL_law 524 = .ok (.if_icmp .ge 22, 3) := by decide +kernel
theorem dL_law_527 : decode cL_law 527 = .ok (.iload 14, 2) := by decide +kernel
theorem dL_law_529 : decode cL_law 529 = .ok (.aload_n 1, 1) := by decide +kernel
theorem dL_law_530 : decode cL_law 530 = .ok (.iload 10, 2) := by decide +kernel
theorem dL_law_532 : decode cL_law 532 = .ok (.iload 15, 2) := by decide +kernel
theorem dL_law_534 : decode cL_law 534 = .ok (.invokevirtual 58, 3) := by decide +kernel
theorem dL_law_537 : decode cL_law 537 = .ok (.iadd, 1) := by decide +kernel
theorem dL_law_538 : decode cL_law 538 = .ok (.istore 14, 2) := by decide +kernel
theorem dL_law_540 : decode cL_law 540 = .ok (.iinc 15 1, 3) := by decide +kernel
theorem dL_law_543 : decode cL_law 543 = .ok (.goto (-23), 3) := by decide +kernel
theorem dL_law_546 : decode cL_law 546 = .ok (.iload 14, 2) := by decide +kernel
theorem dL_law_548 : decode cL_law 548 = .ok (.iload 6, 2) := by decide +kernel
theorem dL_law_550 : decode cL_law 550 = .ok (.iload 10, 2) := by decide +kernel
theorem dL_law_552 : decode cL_law 552 = .ok (.imul, 1) := by decide +kernel
theorem dL_law_553 : decode cL_law 553 = .ok (.if_icmp .ne 18, 3) := by decide +kernel
theorem dL_law_556 : decode cL_law 556 = .ok (.aload_n 1, 1) := by decide +kernel
theorem dL_law_557 : decode cL_law 557 = .ok (.iload 10, 2) := by decide +kernel
theorem dL_law_559 : decode cL_law 559 = .ok (.iload 11, 2) := by decide +kernel
theorem dL_law_561 : decode cL_law 561 = .ok (.invokevirtual 58, 3) := by decide +kernel
theorem dL_law_564 : decode cL_law 564 = .ok (.ifCond .ne 7, 3) := by decide +kernel
theorem dL_law_567 : decode cL_law 567 = .ok (.iconst 1, 1) := by decide +kernel
theorem dL_law_568 : decode cL_law 568 = .ok (.goto 4, 3) := by decide +kernel
theorem dL_law_571 : decode cL_law 571 = .ok (.iconst 0, 1) := by decide +kernel
theorem dL_law_572 : decode cL_law 572 = .ok (.ireturn, 1) := by decide +kernel
