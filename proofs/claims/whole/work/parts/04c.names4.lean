theorem dX4_target_16 : decode cX4_target 16 = .ok (.imul, 1) := by decide +kernel
theorem dX4_target_17 : decode cX4_target 17 = .ok (.iconst 3, 1) := by decide +kernel
theorem dX4_target_18 : decode cX4_target 18 = .ok (.iadd, 1) := by decide +kernel
theorem dX4_target_19 : decode cX4_target 19 = .ok (.iaload, 1) := by decide +kernel
theorem dX4_target_20 : decode cX4_target 20 = .ok (.ireturn, 1) := by decide +kernel
set_option maxRecDepth 20000 in
theorem ggX4_narrow_X4_flow : GoodIn wsX4_narrow wsX4_flow := goodIn_r _ [15, 16, 6, 7, 9, 8, 10, 17, 18, 19, 20, 21, 22, 14, 23, 24, 25, 26, 27, 28, 29, 30, 31, 32, 33, 34, 35, 36, 37, 38, 39, 40, 41, 42, 43, 44, 49, 50, 51, 52, 53, 54, 55, 56, 57, 58, 59, 60, 61, 62, 63] (by decide +kernel) (by decide +kernel)
set_option maxRecDepth 20000 in
theorem gX4_narrow_X4_flow : GoodIn wsX4_narrow (wsV RX4 102 RX4 yX4_flow wsX4_flow) := goodIn_app (goodIn_of _ (by decide +kernel)) ggX4_narrow_X4_flow
set_option maxRecDepth 20000 in
theorem ggX4_narrow_X4_target : GoodIn wsX4_narrow wsX4_target := goodIn_r _ [48, 16, 49, 50, 51, 52, 53, 54, 55, 56, 57, 58, 59, 60, 61, 62, 63] (by decide +kernel) (by decide +kernel)
set_option maxRecDepth 20000 in
theorem gX4_narrow_X4_target : GoodIn wsX4_narrow (wsV RX4 106 RX4 yX4_target wsX4_target) := goodIn_app (goodIn_of _ (by decide +kernel)) ggX4_narrow_X4_target
theorem dX4_narrow_0 : decode cX4_narrow 0 = .ok (.iconst 0, 1) := by decide +kernel
theorem dX4_narrow_1 : decode cX4_narrow 1 = .ok (.istore_n 1, 1) := by decide +kernel
theorem dX4_narrow_2 : decode cX4_narrow 2 = .ok (.iload_n 1, 1) := by decide +kernel
theorem dX4_narrow_3 : decode cX4_narrow 3 = .ok (.bipush 24, 2) := by decide +kernel
theorem dX4_narrow_5 : decode cX4_narrow 5 = .ok (.if_icmp .ge 24, 3) := by decide +kernel
theorem dX4_narrow_8 : decode cX4_narrow 8 = .ok (.aload_n 0, 1) := by decide +kernel
theorem dX4_narrow_9 : decode cX4_narrow 9 = .ok (.getfield 24, 3) := by decide +kernel
theorem dX4_narrow_12 : decode cX4_narrow 12 = .ok (.iload_n 1, 1) := by decide +kernel
theorem dX4_narrow_13 : decode cX4_narrow 13 = .ok (.iload_n 1, 1) := by decide +kernel
theorem dX4_narrow_14 : decode cX4_narrow 14 = .ok (.ifCond .ne 7, 3) := by decide +kernel
theorem dX4_narrow_17 : decode cX4_narrow 17 = .ok (.iconst 1, 1) := by decide +kernel
theorem dX4_narrow_18 : decode cX4_narrow 18 = .ok (.goto 4, 3) := by decide +kernel
theorem dX4_narrow_21 : decode cX4_narrow 21 = .ok (.iconst 0, 1) := by decide +kernel
theorem dX4_narrow_22 : decode cX4_narrow 22 = .ok (.bastore, 1) := by decide +kernel
theorem dX4_narrow_23 : decode cX4_narrow 23 = .ok (.iinc 1 1, 3) := by decide +kernel
theorem dX4_narrow_26 : decode cX4_narrow 26 = .ok (.goto (-24), 3) := by decide +kernel
theorem dX4_narrow_29 : decode cX4_narrow 29 = .ok (.iconst 0, 1) := by decide +kernel
theorem dX4_narrow_30 : decode cX4_narrow 30 = .ok (.istore_n 1, 1) := by decide +kernel
theorem dX4_narrow_31 : decode cX4_narrow 31 = .ok (.iload_n 1, 1) := by decide +kernel
theorem dX4_narrow_32 : decode cX4_narrow 32 = .ok (.iconst 4, 1) := by decide +kernel
theorem dX4_narrow_33 : decode cX4_narrow 33 = .ok (.if_icmp .ge 23, 3) := by decide +kernel
theorem dX4_narrow_36 : decode cX4_narrow 36 = .ok (.aload_n 0, 1) := by decide +kernel
theorem dX4_narrow_37 : decode cX4_narrow 37 = .ok (.getfield 27, 3) := by decide +kernel
theorem dX4_narrow_40 : decode cX4_narrow 40 = .ok (.iload_n 1, 1) := by decide +kernel
theorem dX4_narrow_41 : decode cX4_narrow 41 = .ok (.lconst 0, 1) := by decide +kernel
theorem dX4_narrow_42 : decode cX4_narrow 42 = .ok (.lastore, 1) := by decide +kernel
theorem dX4_narrow_43 : decode cX4_narrow 43 = .ok (.aload_n 0, 1) := by decide +kernel
theorem dX4_narrow_44 : decode cX4_narrow 44 = .ok (.getfield 30, 3) := by decide +kernel
theorem dX4_narrow_47 : decode cX4_narrow 47 = .ok (.iload_n 1, 1) := by decide +kernel
theorem dX4_narrow_48 : decode cX4_narrow 48 = .ok (.lconst 0, 1) := by decide +kernel
theorem dX4_narrow_49 : decode cX4_narrow 49 = .ok (.lastore, 1) := by decide +kernel
theorem dX4_narrow_50 : decode cX4_narrow 50 = .ok (.iinc 1 1, 3) := by decide +kernel
theorem dX4_narrow_53 : decode cX4_narrow 53 = .ok (.goto (-22), 3) := by decide +kernel
theorem dX4_narrow_56 : decode cX4_narrow 56 = .ok (.iconst 0, 1) := by decide +kernel
theorem dX4_narrow_57 : decode cX4_narrow 57 = .ok (.istore_n 1, 1) := by decide +kernel
theorem dX4_narrow_58 : decode cX4_narrow 58 = .ok (.iload_n 1, 1) := by decide +kernel
theorem dX4_narrow_59 : decode cX4_narrow 59 = .ok (.aload_n 0, 1) := by decide +kernel
theorem dX4_narrow_60 : decode cX4_narrow 60 = .ok (.getfield 42, 3) := by decide +kernel
theorem dX4_narrow_63 : decode cX4_narrow 63 = .ok (.if_icmp .ge 197, 3) := by decide +kernel
theorem dX4_narrow_66 : decode cX4_narrow 66 = .ok (.aload_n 0, 1) := by decide +kernel
theorem dX4_narrow_67 : decode cX4_narrow 67 = .ok (.getfield 13, 3) := by decide +kernel
theorem dX4_narrow_70 : decode cX4_narrow 70 = .ok (.iload_n 1, 1) := by decide +kernel
theorem dX4_narrow_71 : decode cX4_narrow 71 = .ok (.baload, 1) := by decide +kernel
theorem dX4_narrow_72 : decode cX4_narrow 72 = .ok (.ifCond .eq 8, 3) := by decide +kernel
theorem dX4_narrow_75 : decode cX4_narrow 75 = .ok (.aload_n 0, 1) := by decide +kernel
theorem dX4_narrow_76 : decode cX4_narrow 76 = .ok (.iload_n 1, 1) := by decide +kernel
theorem dX4_narrow_77 : decode cX4_narrow 77 = .ok (.invokevirtual 102, 3) := by decide +kernel
theorem dX4_narrow_80 : decode cX4_narrow 80 = .ok (.iconst 0, 1) := by decide +kernel
theorem dX4_narrow_81 : decode cX4_narrow 81 = .ok (.istore_n 2, 1) := by decide +kernel
theorem dX4_narrow_82 : decode cX4_narrow 82 = .ok (.iload_n 2, 1) := by decide +kernel
theorem dX4_narrow_83 : decode cX4_narrow 83 = .ok (.iconst 2, 1) := by decide +kernel
theorem dX4_narrow_84 : decode cX4_narrow 84 = .ok (.if_icmp .ge 170, 3) := by decide +kernel
theorem dX4_narrow_87 : decode cX4_narrow 87 = .ok (.aload_n 0, 1) := by decide +kernel
theorem dX4_narrow_88 : decode cX4_narrow 88 = .ok (.getfield 13, 3) := by decide +kernel
theorem dX4_narrow_91 : decode cX4_narrow 91 = .ok (.iload_n 1, 1) := by decide +kernel
theorem dX4_narrow_92 : decode cX4_narrow 92 = .ok (.baload, 1) := by decide +kernel
theorem dX4_narrow_93 : decode cX4_narrow 93 = .ok (.ifCond .eq 155, 3) := by decide +kernel
theorem dX4_narrow_96 : decode cX4_narrow 96 = .ok (.aload_n 0, 1) := by decide +kernel
theorem dX4_narrow_97 : decode cX4_narrow 97 = .ok (.getfield 33, 3) := by decide +kernel
theorem dX4_narrow_100 : decode cX4_narrow 100 = .ok (.iload_n 2, 1) := by decide +kernel
theorem dX4_narrow_101 : decode cX4_narrow 101 = .ok (.baload, 1) := by decide +kernel
theorem dX4_narrow_102 : decode cX4_narrow 102 = .ok (.ifCond .eq 146, 3) := by decide +kernel
theorem dX4_narrow_105 : decode cX4_narrow 105 = .ok (.aload_n 0, 1) := by decide +kernel
theorem dX4_narrow_106 : decode cX4_narrow 106 = .ok (.iload_n 1, 1) := by decide +kernel
theorem dX4_narrow_107 : decode cX4_narrow 107 = .ok (.iload_n 2, 1) := by decide +kernel
theorem dX4_narrow_108 : decode cX4_narrow 108 = .ok (.invokevirtual 106, 3) := by decide +kernel
theorem dX4_narrow_111 : decode cX4_narrow 111 = .ok (.istore_n 3, 1) := by decide +kernel
theorem dX4_narrow_112 : decode cX4_narrow 112 = .ok (.iconst 0, 1) := by decide +kernel
theorem dX4_narrow_113 : decode cX4_narrow 113 = .ok (.istore 4, 2) := by decide +kernel
theorem dX4_narrow_115 : decode cX4_narrow 115 = .ok (.iload 4, 2) := by decide +kernel
theorem dX4_narrow_117 : decode cX4_narrow 117 = .ok (.iconst 4, 1) := by decide +kernel
theorem dX4_narrow_118 : decode cX4_narrow 118 = .ok (.if_icmp .ge 123, 3) := by decide +kernel
theorem dX4_narrow_121 : decode cX4_narrow 121 = .ok (.aload_n 0, 1) := by decide +kernel
theorem dX4_narrow_122 : decode cX4_narrow 122 = .ok (.getfield 24, 3) := by decide +kernel
theorem dX4_narrow_125 : decode cX4_narrow 125 = .ok (.iload_n 3, 1) := by decide +kernel
theorem dX4_narrow_126 : decode cX4_narrow 126 = .ok (.baload, 1) := by decide +kernel
theorem dX4_narrow_127 : decode cX4_narrow 127 = .ok (.ifCond .eq 29, 3) := by decide +kernel
theorem dX4_narrow_130 : decode cX4_narrow 130 = .ok (.aload_n 0, 1) := by decide +kernel
theorem dX4_narrow_131 : decode cX4_narrow 131 = .ok (.getfield 36, 3) := by decide +kernel
theorem dX4_narrow_134 : decode cX4_narrow 134 = .ok (.iconst 4, 1) := by decide +kernel
theorem dX4_narrow_135 : decode cX4_narrow 135 = .ok (.iload_n 2, 1) := by decide +kernel
theorem dX4_narrow_136 : decode cX4_narrow 136 = .ok (.imul, 1) := by decide +kernel
theorem dX4_narrow_137 : decode cX4_narrow 137 = .ok (.iload 4, 2) := by decide +kernel
theorem dX4_narrow_139 : decode cX4_narrow 139 = .ok (.iadd, 1) := by decide +kernel
theorem dX4_narrow_140 : decode cX4_narrow 140 = .ok (.laload, 1) := by decide +kernel
theorem dX4_narrow_141 : decode cX4_narrow 141 = .ok (.aload_n 0, 1) := by decide +kernel
theorem dX4_narrow_142 : decode cX4_narrow 142 = .ok (.getfield 27, 3) := by decide +kernel
theorem dX4_narrow_145 : decode cX4_narrow 145 = .ok (.iconst 4, 1) := by decide +kernel
theorem dX4_narrow_146 : decode cX4_narrow 146 = .ok (.iload_n 3, 1) := by decide +kernel
theorem dX4_narrow_147 : decode cX4_narrow 147 = .ok (.imul, 1) := by decide +kernel
theorem dX4_narrow_148 : decode cX4_narrow 148 = .ok (.iload 4, 2) := by decide +kernel
theorem dX4_narrow_150 : decode cX4_narrow 150 = .ok (.iadd, 1) := by decide +kernel
theorem dX4_narrow_151 : decode cX4_narrow 151 = .ok (.laload, 1) := by decide +kernel
theorem dX4_narrow_152 : decode cX4_narrow 152 = .ok (.lcmp, 1) := by decide +kernel
theorem dX4_narrow_153 : decode cX4_narrow 153 = .ok (.ifCond .ge 25, 3) := by decide +kernel
theorem dX4_narrow_156 : decode cX4_narrow 156 = .ok (.aload_n 0, 1) := by decide +kernel
theorem dX4_narrow_157 : decode cX4_narrow 157 = .ok (.getfield 27, 3) := by decide +kernel
theorem dX4_narrow_160 : decode cX4_narrow 160 = .ok (.iconst 4, 1) := by decide +kernel
theorem dX4_narrow_161 : decode cX4_narrow 161 = .ok (.iload_n 3, 1) := by decide +kernel
theorem dX4_narrow_162 : decode cX4_narrow 162 = .ok (.imul, 1) := by decide +kernel
theorem dX4_narrow_163 : decode cX4_narrow 163 = .ok (.iload 4, 2) := by decide +kernel
theorem dX4_narrow_165 : decode cX4_narrow 165 = .ok (.iadd, 1) := by decide +kernel
theorem dX4_narrow_166 : decode cX4_narrow 166 = .ok (.aload_n 0, 1) := by decide +kernel
theorem dX4_narrow_167 : decode cX4_narrow 167 = .ok (.getfield 36, 3) := by decide +kernel
theorem dX4_narrow_170 : decode cX4_narrow 170 = .ok (.iconst 4, 1) := by decide +kernel
theorem dX4_narrow_171 : decode cX4_narrow 171 = .ok (.iload_n 2, 1) := by decide +kernel
theorem dX4_narrow_172 : decode cX4_narrow 172 = .ok (.imul, 1) := by decide +kernel
theorem dX4_narrow_173 : decode cX4_narrow 173 = .ok (.iload 4, 2) := by decide +kernel
theorem dX4_narrow_175 : decode cX4_narrow 175 = .ok (.iadd, 1) := by decide +kernel
theorem dX4_narrow_176 : decode cX4_narrow 176 = .ok (.laload, 1) := by decide +kernel
theorem dX4_narrow_177 : decode cX4_narrow 177 = .ok (.lastore, 1) := by decide +kernel
theorem dX4_narrow_178 : decode cX4_narrow 178 = .ok (.aload_n 0, 1) := by decide +kernel
theorem dX4_narrow_179 : decode cX4_narrow 179 = .ok (.getfield 24, 3) := by decide +kernel
theorem dX4_narrow_182 : decode cX4_narrow 182 = .ok (.iload_n 3, 1) := by decide +kernel
theorem dX4_narrow_183 : decode cX4_narrow 183 = .ok (.baload, 1) := by decide +kernel
theorem dX4_narrow_184 : decode cX4_narrow 184 = .ok (.ifCond .eq 29, 3) := by decide +kernel
theorem dX4_narrow_187 : decode cX4_narrow 187 = .ok (.aload_n 0, 1) := by decide +kernel
theorem dX4_narrow_188 : decode cX4_narrow 188 = .ok (.getfield 39, 3) := by decide +kernel
theorem dX4_narrow_191 : decode cX4_narrow 191 = .ok (.iconst 4, 1) := by decide +kernel
theorem dX4_narrow_192 : decode cX4_narrow 192 = .ok (.iload_n 2, 1) := by decide +kernel
theorem dX4_narrow_193 : decode cX4_narrow 193 = .ok (.imul, 1) := by decide +kernel
theorem dX4_narrow_194 : decode cX4_narrow 194 = .ok (.iload 4, 2) := by decide +kernel
theorem dX4_narrow_196 : decode cX4_narrow 196 = .ok (.iadd, 1) := by decide +kernel
theorem dX4_narrow_197 : decode cX4_narrow 197 = .ok (.laload, 1) := by decide +kernel
theorem dX4_narrow_198 : decode cX4_narrow 198 = .ok (.aload_n 0, 1) := by decide +kernel
theorem dX4_narrow_199 : decode cX4_narrow 199 = .ok (.getfield 30, 3) := by decide +kernel
theorem dX4_narrow_202 : decode cX4_narrow 202 = .ok (.iconst 4, 1) := by decide +kernel
theorem dX4_narrow_203 : decode cX4_narrow 203 = .ok (.iload_n 3, 1) := by decide +kernel
theorem dX4_narrow_204 : decode cX4_narrow 204 = .ok (.imul, 1) := by decide +kernel
theorem dX4_narrow_205 : decode cX4_narrow 205 = .ok (.iload 4, 2) := by decide +kernel
theorem dX4_narrow_207 : decode cX4_narrow 207 = .ok (.iadd, 1) := by decide +kernel
theorem dX4_narrow_208 : decode cX4_narrow 208 = .ok (.laload, 1) := by decide +kernel
theorem dX4_narrow_209 : decode cX4_narrow 209 = .ok (.lcmp, 1) := by decide +kernel
theorem dX4_narrow_210 : decode cX4_narrow 210 = .ok (.ifCond .le 25, 3) := by decide +kernel
theorem dX4_narrow_213 : decode cX4_narrow 213 = .ok (.aload_n 0, 1) := by decide +kernel
theorem dX4_narrow_214 : decode cX4_narrow 214 = .ok (.getfield 30, 3) := by decide +kernel
theorem dX4_narrow_217 : decode cX4_narrow 217 = .ok (.iconst 4, 1) := by decide +kernel
theorem dX4_narrow_218 : decode cX4_narrow 218 = .ok (.iload_n 3, 1) := by decide +kernel
theorem dX4_narrow_219 : decode cX4_narrow 219 = .ok (.imul, 1) := by decide +kernel
theorem dX4_narrow_220 : decode cX4_narrow 220 = .ok (.iload 4, 2) := by decide +kernel
theorem dX4_narrow_222 : decode cX4_narrow 222 = .ok (.iadd, 1) := by decide +kernel
theorem dX4_narrow_223 : decode cX4_narrow 223 = .ok (.aload_n 0, 1) := by decide +kernel
theorem dX4_narrow_224 : decode cX4_narrow 224 = .ok (.getfield 39, 3) := by decide +kernel
theorem dX4_narrow_227 : decode cX4_narrow 227 = .ok (.iconst 4, 1) := by decide +kernel
theorem dX4_narrow_228 : decode cX4_narrow 228 = .ok (.iload_n 2, 1) := by decide +kernel
theorem dX4_narrow_229 : decode cX4_narrow 229 = .ok (.imul, 1) := by decide +kernel
theorem dX4_narrow_230 : decode cX4_narrow 230 = .ok (.iload 4, 2) := by decide +kernel
theorem dX4_narrow_232 : decode cX4_narrow 232 = .ok (.iadd, 1) := by decide +kernel
theorem dX4_narrow_233 : decode cX4_narrow 233 = .ok (.laload, 1) := by decide +kernel
theorem dX4_narrow_234 : decode cX4_narrow 234 = .ok (.lastore, 1) := by decide +kernel
theorem dX4_narrow_235 : decode cX4_narrow 235 = .ok (.iinc 4 1, 3) := by decide +kernel
theorem dX4_narrow_238 : decode cX4_narrow 238 = .ok (.goto (-123), 3) := by decide +kernel
theorem dX4_narrow_241 : decode cX4_narrow 241 = .ok (.aload_n 0, 1) := by decide +kernel
theorem dX4_narrow_242 : decode cX4_narrow 242 = .ok (.getfield 24, 3) := by decide +kernel
theorem dX4_narrow_245 : decode cX4_narrow 245 = .ok (.iload_n 3, 1) := by decide +kernel
theorem dX4_narrow_246 : decode cX4_narrow 246 = .ok (.iconst 1, 1) := by decide +kernel
theorem dX4_narrow_247 : decode cX4_narrow 247 = .ok (.bastore, 1) := by decide +kernel
theorem dX4_narrow_248 : decode cX4_narrow 248 = .ok (.iinc 2 1, 3) := by decide +kernel
theorem dX4_narrow_251 : decode cX4_narrow 251 = .ok (.goto (-169), 3) := by decide +kernel
theorem dX4_narrow_254 : decode cX4_narrow 254 = .ok (.iinc 1 1, 3) := by decide +kernel
theorem dX4_narrow_257 : decode cX4_narrow 257 = .ok (.goto (-199), 3) := by decide +kernel
theorem dX4_narrow_260 : decode cX4_narrow 260 = .ok (.iconst 0, 1) := by decide +kernel
theorem dX4_narrow_261 : decode cX4_narrow 261 = .ok (.istore_n 1, 1) := by decide +kernel
theorem dX4_narrow_262 : decode cX4_narrow 262 = .ok (.iload_n 1, 1) := by decide +kernel
theorem dX4_narrow_263 : decode cX4_narrow 263 = .ok (.bipush 96, 2) := by decide +kernel
theorem dX4_narrow_265 : decode cX4_narrow 265 = .ok (.if_icmp .ge 33, 3) := by decide +kernel
theorem dX4_narrow_268 : decode cX4_narrow 268 = .ok (.aload_n 0, 1) := by decide +kernel
theorem dX4_narrow_269 : decode cX4_narrow 269 = .ok (.getfield 17, 3) := by decide +kernel
theorem dX4_narrow_272 : decode cX4_narrow 272 = .ok (.iload_n 1, 1) := by decide +kernel
theorem dX4_narrow_273 : decode cX4_narrow 273 = .ok (.aload_n 0, 1) := by decide +kernel
theorem dX4_narrow_274 : decode cX4_narrow 274 = .ok (.getfield 27, 3) := by decide +kernel
theorem dX4_narrow_277 : decode cX4_narrow 277 = .ok (.iload_n 1, 1) := by decide +kernel
theorem dX4_narrow_278 : decode cX4_narrow 278 = .ok (.laload, 1) := by decide +kernel
theorem dX4_narrow_279 : decode cX4_narrow 279 = .ok (.lastore, 1) := by decide +kernel
theorem dX4_narrow_280 : decode cX4_narrow 280 = .ok (.aload_n 0, 1) := by decide +kernel
theorem dX4_narrow_281 : decode cX4_narrow 281 = .ok (.getfield 21, 3) := by decide +kernel
theorem dX4_narrow_284 : decode cX4_narrow 284 = .ok (.iload_n 1, 1) := by decide +kernel
theorem dX4_narrow_285 : decode cX4_narrow 285 = .ok (.aload_n 0, 1) := by decide +kernel
theorem dX4_narrow_286 : decode cX4_narrow 286 = .ok (.getfield 30, 3) := by decide +kernel
theorem dX4_narrow_289 : decode cX4_narrow 289 = .ok (.iload_n 1, 1) := by decide +kernel
theorem dX4_narrow_290 : decode cX4_narrow 290 = .ok (.laload, 1) := by decide +kernel
theorem dX4_narrow_291 : decode cX4_narrow 291 = .ok (.lastore, 1) := by decide +kernel
theorem dX4_narrow_292 : decode cX4_narrow 292 = .ok (.iinc 1 1, 3) := by decide +kernel
theorem dX4_narrow_295 : decode cX4_narrow 295 = .ok (.goto (-33), 3) := by decide +kernel
theorem dX4_narrow_298 : decode cX4_narrow 298 = .ok (.iconst 0, 1) := by decide +kernel
theorem dX4_narrow_299 : decode cX4_narrow 299 = .ok (.istore_n 1, 1) := by decide +kernel
theorem dX4_narrow_300 : decode cX4_narrow 300 = .ok (.iload_n 1, 1) := by decide +kernel
theorem dX4_narrow_301 : decode cX4_narrow 301 = .ok (.bipush 24, 2) := by decide +kernel
theorem dX4_narrow_303 : decode cX4_narrow 303 = .ok (.if_icmp .ge 21, 3) := by decide +kernel
theorem dX4_narrow_306 : decode cX4_narrow 306 = .ok (.aload_n 0, 1) := by decide +kernel
theorem dX4_narrow_307 : decode cX4_narrow 307 = .ok (.getfield 13, 3) := by decide +kernel
theorem dX4_narrow_310 : decode cX4_narrow 310 = .ok (.iload_n 1, 1) := by decide +kernel
theorem dX4_narrow_311 : decode cX4_narrow 311 = .ok (.aload_n 0, 1) := by decide +kernel
theorem dX4_narrow_312 : decode cX4_narrow 312 = .ok (.getfield 24, 3) := by decide +kernel
theorem dX4_narrow_315 : decode cX4_narrow 315 = .ok (.iload_n 1, 1) := by decide +kernel
theorem dX4_narrow_316 : decode cX4_narrow 316 = .ok (.baload, 1) := by decide +kernel
theorem dX4_narrow_317 : decode cX4_narrow 317 = .ok (.bastore, 1) := by decide +kernel
theorem dX4_narrow_318 : decode cX4_narrow 318 = .ok (.iinc 1 1, 3) := by decide +kernel
theorem dX4_narrow_321 : decode cX4_narrow 321 = .ok (.goto (-21), 3) := by decide +kernel
theorem dX4_narrow_324 : decode cX4_narrow 324 = .ok (.return_, 1) := by decide +kernel
set_option maxRecDepth 20000 in
theorem ggX4_scan_X4_forget : GoodIn wsX4_scan wsX4_forget := goodIn_r _ [13, 1, 6, 79, 80, 81, 82, 83, 84, 85, 86, 87, 88, 89, 90, 91, 92, 93] (by decide +kernel) (by decide +kernel)
set_option maxRecDepth 20000 in
theorem gX4_scan_X4_forget : GoodIn wsX4_scan (wsV RX4 54 RX4 yX4_forget wsX4_forget) := goodIn_app (goodIn_of _ (by decide +kernel)) ggX4_scan_X4_forget
set_option maxRecDepth 20000 in
theorem ggX4_scan_X4_whole : GoodIn wsX4_scan wsX4_whole := goodIn_r _ [17, 7, 18, 79, 80, 81, 82, 83, 84, 85, 86, 87, 88, 89, 90, 91, 92, 93] (by decide +kernel) (by decide +kernel)
set_option maxRecDepth 20000 in
theorem gX4_scan_X4_whole : GoodIn wsX4_scan (wsV RX4 110 RX4 yX4_whole wsX4_whole) := goodIn_app (goodIn_of _ (by decide +kernel)) ggX4_scan_X4_whole
set_option maxRecDepth 20000 in
theorem ggX4_scan_X4_flow : GoodIn wsX4_scan wsX4_flow := goodIn_r _ [22, 18, 8, 23, 3, 24, 4, 25, 26, 27, 28, 29, 30, 12, 31, 32, 33, 34, 35, 36, 37, 38, 39, 40, 41, 42, 43, 44, 45, 46, 47, 48, 49, 50, 51, 52, 79, 80, 81, 82, 83, 84, 85, 86, 87, 88, 89, 90, 91, 92, 93] (by decide +kernel) (by decide +kernel)
set_option maxRecDepth 20000 in
theorem gX4_scan_X4_flow : GoodIn wsX4_scan (wsV RX4 102 RX4 yX4_flow wsX4_flow) := goodIn_app (goodIn_of _ (by decide +kernel)) ggX4_scan_X4_flow
set_option maxRecDepth 20000 in
theorem ggX4_scan_X4_target : GoodIn wsX4_scan wsX4_target := goodIn_r _ [56, 18, 79, 80, 81, 82, 83, 84, 85, 86, 87, 88, 89, 90, 91, 92, 93] (by decide +kernel) (by decide +kernel)
set_option maxRecDepth 20000 in
theorem gX4_scan_X4_target : GoodIn wsX4_scan (wsV RX4 106 RX4 yX4_target wsX4_target) := goodIn_app (goodIn_of _ (by decide +kernel)) ggX4_scan_X4_target
set_option maxRecDepth 20000 in
theorem ggX4_scan_X4_arrive : GoodIn wsX4_scan wsX4_arrive := goodIn_r _ [60, 2, 3, 23, 4, 24, 26, 27, 79, 80, 81, 82, 83, 84, 85, 86, 87, 88, 89, 90, 91, 92, 93] (by decide +kernel) (by decide +kernel)
set_option maxRecDepth 20000 in
theorem gX4_scan_X4_arrive : GoodIn wsX4_scan (wsV RX4 115 RX4 yX4_arrive wsX4_arrive) := goodIn_app (goodIn_of _ (by decide +kernel)) ggX4_scan_X4_arrive
set_option maxRecDepth 20000 in
theorem ggX4_scan_X4_narrow : GoodIn wsX4_scan wsX4_narrow := goodIn_r _ [64, 65, 66, 67, 7, 2, 8, 23, 24, 3, 4, 19, 20, 21, 12, 22, 18, 25, 26, 27, 28, 29, 30, 31, 32, 33, 34, 35, 36, 37, 38, 39, 40, 41, 42, 43, 44, 45, 46, 47, 48, 49, 50, 51, 52, 53, 54, 55, 56, 79, 80, 81, 82, 83, 84, 85, 86, 87, 88, 89, 90, 91, 92, 93] (by decide +kernel) (by decide +kernel)
set_option maxRecDepth 20000 in
theorem gX4_scan_X4_narrow : GoodIn wsX4_scan (wsV RX4 119 RX4 yX4_narrow wsX4_narrow) := goodIn_app (goodIn_of _ (by decide +kernel)) ggX4_scan_X4_narrow
set_option maxRecDepth 20000 in
theorem ggX4_scan_X4_alarm : GoodIn wsX4_scan wsX4_alarm := goodIn_r _ [71, 18, 3, 4, 25, 72, 73, 74, 12, 75, 1, 7, 2, 76, 77, 78, 79, 80, 81, 82, 83, 84, 85, 86, 87, 88, 89, 90, 91, 92, 93] (by decide +kernel) (by decide +kernel)
set_option maxRecDepth 20000 in
theorem gX4_scan_X4_alarm : GoodIn wsX4_scan (wsV RX4 122 RX4 yX4_alarm wsX4_alarm) := goodIn_app (goodIn_of _ (by decide +kernel)) ggX4_scan_X4_alarm
theorem dX4_scan_0 : decode cX4_scan 0 = .ok (.aload_n 0, 1) := by decide +kernel
theorem dX4_scan_1 : decode cX4_scan 1 = .ok (.invokevirtual 54, 3) := by decide +kernel
theorem dX4_scan_4 : decode cX4_scan 4 = .ok (.aload_n 0, 1) := by decide +kernel
theorem dX4_scan_5 : decode cX4_scan 5 = .ok (.invokevirtual 110, 3) := by decide +kernel
theorem dX4_scan_8 : decode cX4_scan 8 = .ok (.ifCond .ne 5, 3) := by decide +kernel
theorem dX4_scan_11 : decode cX4_scan 11 = .ok (.iconst (-1), 1) := by decide +kernel
theorem dX4_scan_12 : decode cX4_scan 12 = .ok (.ireturn, 1) := by decide +kernel
theorem dX4_scan_13 : decode cX4_scan 13 = .ok (.aload_n 0, 1) := by decide +kernel
theorem dX4_scan_14 : decode cX4_scan 14 = .ok (.iconst 1, 1) := by decide +kernel
theorem dX4_scan_15 : decode cX4_scan 15 = .ok (.putfield 57, 3) := by decide +kernel
theorem dX4_scan_18 : decode cX4_scan 18 = .ok (.iconst 0, 1) := by decide +kernel
theorem dX4_scan_19 : decode cX4_scan 19 = .ok (.istore_n 1, 1) := by decide +kernel
theorem dX4_scan_20 : decode cX4_scan 20 = .ok (.iload_n 1, 1) := by decide +kernel
theorem dX4_scan_21 : decode cX4_scan 21 = .ok (.bipush 24, 2) := by decide +kernel
theorem dX4_scan_23 : decode cX4_scan 23 = .ok (.if_icmp .ge 24, 3) := by decide +kernel
theorem dX4_scan_26 : decode cX4_scan 26 = .ok (.aload_n 0, 1) := by decide +kernel
theorem dX4_scan_27 : decode cX4_scan 27 = .ok (.getfield 13, 3) := by decide +kernel
theorem dX4_scan_30 : decode cX4_scan 30 = .ok (.iload_n 1, 1) := by decide +kernel
theorem dX4_scan_31 : decode cX4_scan 31 = .ok (.iload_n 1, 1) := by decide +kernel
theorem dX4_scan_32 : decode cX4_scan 32 = .ok (.ifCond .ne 7, 3) := by decide +kernel
theorem dX4_scan_35 : decode cX4_scan 35 = .ok (.iconst 1, 1) := by decide +kernel
theorem dX4_scan_36 : decode cX4_scan 36 = .ok (.goto 4, 3) := by decide +kernel
theorem dX4_scan_39 : decode cX4_scan 39 = .ok (.iconst 0, 1) := by decide +kernel
theorem dX4_scan_40 : decode cX4_scan 40 = .ok (.bastore, 1) := by decide +kernel
theorem dX4_scan_41 : decode cX4_scan 41 = .ok (.iinc 1 1, 3) := by decide +kernel
theorem dX4_scan_44 : decode cX4_scan 44 = .ok (.goto (-24), 3) := by decide +kernel
theorem dX4_scan_47 : decode cX4_scan 47 = .ok (.iconst 0, 1) := by decide +kernel
theorem dX4_scan_48 : decode cX4_scan 48 = .ok (.istore_n 1, 1) := by decide +kernel
theorem dX4_scan_49 : decode cX4_scan 49 = .ok (.iload_n 1, 1) := by decide +kernel
theorem dX4_scan_50 : decode cX4_scan 50 = .ok (.iconst 4, 1) := by decide +kernel
theorem dX4_scan_51 : decode cX4_scan 51 = .ok (.if_icmp .ge 23, 3) := by decide +kernel
theorem dX4_scan_54 : decode cX4_scan 54 = .ok (.aload_n 0, 1) := by decide +kernel
theorem dX4_scan_55 : decode cX4_scan 55 = .ok (.getfield 17, 3) := by decide +kernel
theorem dX4_scan_58 : decode cX4_scan 58 = .ok (.iload_n 1, 1) := by decide +kernel
theorem dX4_scan_59 : decode cX4_scan 59 = .ok (.lconst 0, 1) := by decide +kernel
theorem dX4_scan_60 : decode cX4_scan 60 = .ok (.lastore, 1) := by decide +kernel
theorem dX4_scan_61 : decode cX4_scan 61 = .ok (.aload_n 0, 1) := by decide +kernel
theorem dX4_scan_62 : decode cX4_scan 62 = .ok (.getfield 21, 3) := by decide +kernel
theorem dX4_scan_65 : decode cX4_scan 65 = .ok (.iload_n 1, 1) := by decide +kernel
theorem dX4_scan_66 : decode cX4_scan 66 = .ok (.lconst 0, 1) := by decide +kernel
theorem dX4_scan_67 : decode cX4_scan 67 = .ok (.lastore, 1) := by decide +kernel
theorem dX4_scan_68 : decode cX4_scan 68 = .ok (.iinc 1 1, 3) := by decide +kernel
theorem dX4_scan_71 : decode cX4_scan 71 = .ok (.goto (-22), 3) := by decide +kernel
theorem dX4_scan_74 : decode cX4_scan 74 = .ok (.iconst 1, 1) := by decide +kernel
theorem dX4_scan_75 : decode cX4_scan 75 = .ok (.istore_n 1, 1) := by decide +kernel
theorem dX4_scan_76 : decode cX4_scan 76 = .ok (.iconst 0, 1) := by decide +kernel
theorem dX4_scan_77 : decode cX4_scan 77 = .ok (.istore_n 2, 1) := by decide +kernel
theorem dX4_scan_78 : decode cX4_scan 78 = .ok (.iload_n 2, 1) := by decide +kernel
theorem dX4_scan_79 : decode cX4_scan 79 = .ok (.ldc 114, 2) := by decide +kernel
theorem dX4_scan_81 : decode cX4_scan 81 = .ok (.if_icmp .ge 99, 3) := by decide +kernel
theorem dX4_scan_84 : decode cX4_scan 84 = .ok (.iload_n 1, 1) := by decide +kernel
theorem dX4_scan_85 : decode cX4_scan 85 = .ok (.ifCond .eq 95, 3) := by decide +kernel
theorem dX4_scan_88 : decode cX4_scan 88 = .ok (.iconst 0, 1) := by decide +kernel
theorem dX4_scan_89 : decode cX4_scan 89 = .ok (.istore_n 1, 1) := by decide +kernel
theorem dX4_scan_90 : decode cX4_scan 90 = .ok (.aload_n 0, 1) := by decide +kernel
theorem dX4_scan_91 : decode cX4_scan 91 = .ok (.aload_n 0, 1) := by decide +kernel
theorem dX4_scan_92 : decode cX4_scan 92 = .ok (.getfield 61, 3) := by decide +kernel
theorem dX4_scan_95 : decode cX4_scan 95 = .ok (.iconst 1, 1) := by decide +kernel
theorem dX4_scan_96 : decode cX4_scan 96 = .ok (.iadd, 1) := by decide +kernel
theorem dX4_scan_97 : decode cX4_scan 97 = .ok (.putfield 61, 3) := by decide +kernel
theorem dX4_scan_100 : decode cX4_scan 100 = .ok (.iconst 0, 1) := by decide +kernel
theorem dX4_scan_101 : decode cX4_scan 101 = .ok (.istore_n 3, 1) := by decide +kernel
theorem dX4_scan_102 : decode cX4_scan 102 = .ok (.iload_n 3, 1) := by decide +kernel
theorem dX4_scan_103 : decode cX4_scan 103 = .ok (.aload_n 0, 1) := by decide +kernel
theorem dX4_scan_104 : decode cX4_scan 104 = .ok (.getfield 42, 3) := by decide +kernel
theorem dX4_scan_107 : decode cX4_scan 107 = .ok (.if_icmp .ge 67, 3) := by decide +kernel
theorem dX4_scan_110 : decode cX4_scan 110 = .ok (.aload_n 0, 1) := by decide +kernel
theorem dX4_scan_111 : decode cX4_scan 111 = .ok (.getfield 13, 3) := by decide +kernel
theorem dX4_scan_114 : decode cX4_scan 114 = .ok (.iload_n 3, 1) := by decide +kernel
theorem dX4_scan_115 : decode cX4_scan 115 = .ok (.baload, 1) := by decide +kernel
theorem dX4_scan_116 : decode cX4_scan 116 = .ok (.ifCond .eq 52, 3) := by decide +kernel
theorem dX4_scan_119 : decode cX4_scan 119 = .ok (.aload_n 0, 1) := by decide +kernel
theorem dX4_scan_120 : decode cX4_scan 120 = .ok (.iload_n 3, 1) := by decide +kernel
theorem dX4_scan_121 : decode cX4_scan 121 = .ok (.invokevirtual 102, 3) := by decide +kernel
theorem dX4_scan_124 : decode cX4_scan 124 = .ok (.iconst 0, 1) := by decide +kernel
theorem dX4_scan_125 : decode cX4_scan 125 = .ok (.istore 4, 2) := by decide +kernel
theorem dX4_scan_127 : decode cX4_scan 127 = .ok (.iload 4, 2) := by decide +kernel
theorem dX4_scan_129 : decode cX4_scan 129 = .ok (.iconst 2, 1) := by decide +kernel
theorem dX4_scan_130 : decode cX4_scan 130 = .ok (.if_icmp .ge 38, 3) := by decide +kernel
theorem dX4_scan_133 : decode cX4_scan 133 = .ok (.aload_n 0, 1) := by decide +kernel
theorem dX4_scan_134 : decode cX4_scan 134 = .ok (.getfield 33, 3) := by decide +kernel
theorem dX4_scan_137 : decode cX4_scan 137 = .ok (.iload 4, 2) := by decide +kernel
theorem dX4_scan_139 : decode cX4_scan 139 = .ok (.baload, 1) := by decide +kernel
theorem dX4_scan_140 : decode cX4_scan 140 = .ok (.ifCond .eq 22, 3) := by decide +kernel
theorem dX4_scan_143 : decode cX4_scan 143 = .ok (.aload_n 0, 1) := by decide +kernel
theorem dX4_scan_144 : decode cX4_scan 144 = .ok (.iload_n 3, 1) := by decide +kernel
theorem dX4_scan_145 : decode cX4_scan 145 = .ok (.aload_n 0, 1) := by decide +kernel
theorem dX4_scan_146 : decode cX4_scan 146 = .ok (.iload_n 3, 1) := by decide +kernel
theorem dX4_scan_147 : decode cX4_scan 147 = .ok (.iload 4, 2) := by decide +kernel
theorem dX4_scan_149 : decode cX4_scan 149 = .ok (.invokevirtual 106, 3) := by decide +kernel
theorem dX4_scan_152 : decode cX4_scan 152 = .ok (.iload 4, 2) := by decide +kernel
theorem dX4_scan_154 : decode cX4_scan 154 = .ok (.invokevirtual 115, 3) := by decide +kernel
theorem dX4_scan_157 : decode cX4_scan 157 = .ok (.ifCond .eq 5, 3) := by decide +kernel
theorem dX4_scan_160 : decode cX4_scan 160 = .ok (.iconst 1, 1) := by decide +kernel
theorem dX4_scan_161 : decode cX4_scan 161 = .ok (.istore_n 1, 1) := by decide +kernel
theorem dX4_scan_162 : decode cX4_scan 162 = .ok (.iinc 4 1, 3) := by decide +kernel
theorem dX4_scan_165 : decode cX4_scan 165 = .ok (.goto (-38), 3) := by decide +kernel
theorem dX4_scan_168 : decode cX4_scan 168 = .ok (.iinc 3 1, 3) := by decide +kernel
theorem dX4_scan_171 : decode cX4_scan 171 = .ok (.goto (-69), 3) := by decide +kernel
theorem dX4_scan_174 : decode cX4_scan 174 = .ok (.iinc 2 1, 3) := by decide +kernel
theorem dX4_scan_177 : decode cX4_scan 177 = .ok (.goto (-99), 3) := by decide +kernel
theorem dX4_scan_180 : decode cX4_scan 180 = .ok (.aload_n 0, 1) := by decide +kernel
theorem dX4_scan_181 : decode cX4_scan 181 = .ok (.invokevirtual 119, 3) := by decide +kernel
theorem dX4_scan_184 : decode cX4_scan 184 = .ok (.iconst 0, 1) := by decide +kernel
theorem dX4_scan_185 : decode cX4_scan 185 = .ok (.istore_n 2, 1) := by decide +kernel
theorem dX4_scan_186 : decode cX4_scan 186 = .ok (.iconst 0, 1) := by decide +kernel
theorem dX4_scan_187 : decode cX4_scan 187 = .ok (.istore_n 3, 1) := by decide +kernel
theorem dX4_scan_188 : decode cX4_scan 188 = .ok (.iload_n 3, 1) := by decide +kernel
theorem dX4_scan_189 : decode cX4_scan 189 = .ok (.aload_n 0, 1) := by decide +kernel
theorem dX4_scan_190 : decode cX4_scan 190 = .ok (.getfield 42, 3) := by decide +kernel
theorem dX4_scan_193 : decode cX4_scan 193 = .ok (.if_icmp .ge 21, 3) := by decide +kernel
theorem dX4_scan_196 : decode cX4_scan 196 = .ok (.aload_n 0, 1) := by decide +kernel
theorem dX4_scan_197 : decode cX4_scan 197 = .ok (.iload_n 3, 1) := by decide +kernel
theorem dX4_scan_198 : decode cX4_scan 198 = .ok (.invokevirtual 122, 3) := by decide +kernel
theorem dX4_scan_201 : decode cX4_scan 201 = .ok (.ifCond .le 7, 3) := by decide +kernel
theorem dX4_scan_204 : decode cX4_scan 204 = .ok (.iload_n 2, 1) := by decide +kernel
theorem dX4_scan_205 : decode cX4_scan 205 = .ok (.iconst 1, 1) := by decide +kernel
theorem dX4_scan_206 : decode cX4_scan 206 = .ok (.iadd, 1) := by decide +kernel
theorem dX4_scan_207 : decode cX4_scan 207 = .ok (.istore_n 2, 1) := by decide +kernel
theorem dX4_scan_208 : decode cX4_scan 208 = .ok (.iinc 3 1, 3) := by decide +kernel
theorem dX4_scan_211 : decode cX4_scan 211 = .ok (.goto (-23), 3) := by decide +kernel
theorem dX4_scan_214 : decode cX4_scan 214 = .ok (.iload_n 2, 1) := by decide +kernel
theorem dX4_scan_215 : decode cX4_scan 215 = .ok (.ireturn, 1) := by decide +kernel
theorem dX4_rounds_0 : decode cX4_rounds 0 = .ok (.aload_n 0, 1) := by decide +kernel
theorem dX4_rounds_1 : decode cX4_rounds 1 = .ok (.getfield 61, 3) := by decide +kernel
theorem dX4_rounds_4 : decode cX4_rounds 4 = .ok (.ireturn, 1) := by decide +kernel
set_option maxRecDepth 20000 in
theorem ggX4_reached_X4_within : GoodIn wsX4_reached wsX4_within := goodIn_r _ [7] (by decide +kernel) (by decide +kernel)
set_option maxRecDepth 20000 in
theorem gX4_reached_X4_within : GoodIn wsX4_reached (va_wsS RX4 46 yX4_within wsX4_within) := goodIn_app (goodIn_of _ (by decide +kernel)) ggX4_reached_X4_within
theorem dX4_reached_0 : decode cX4_reached 0 = .ok (.aload_n 0, 1) := by decide +kernel
theorem dX4_reached_1 : decode cX4_reached 1 = .ok (.getfield 57, 3) := by decide +kernel
theorem dX4_reached_4 : decode cX4_reached 4 = .ok (.ifCond .eq 16, 3) := by decide +kernel
theorem dX4_reached_7 : decode cX4_reached 7 = .ok (.iload_n 1, 1) := by decide +kernel
theorem dX4_reached_8 : decode cX4_reached 8 = .ok (.aload_n 0, 1) := by decide +kernel
theorem dX4_reached_9 : decode cX4_reached 9 = .ok (.getfield 42, 3) := by decide +kernel
theorem dX4_reached_12 : decode cX4_reached 12 = .ok (.iconst 1, 1) := by decide +kernel
theorem dX4_reached_13 : decode cX4_reached 13 = .ok (.isub, 1) := by decide +kernel
theorem dX4_reached_14 : decode cX4_reached 14 = .ok (.invokestatic 46, 3) := by decide +kernel
theorem dX4_reached_17 : decode cX4_reached 17 = .ok (.ifCond .ne 5, 3) := by decide +kernel
theorem dX4_reached_20 : decode cX4_reached 20 = .ok (.iconst (-1), 1) := by decide +kernel
theorem dX4_reached_21 : decode cX4_reached 21 = .ok (.ireturn, 1) := by decide +kernel
theorem dX4_reached_22 : decode cX4_reached 22 = .ok (.aload_n 0, 1) := by decide +kernel
theorem dX4_reached_23 : decode cX4_reached 23 = .ok (.getfield 13, 3) := by decide +kernel
theorem dX4_reached_26 : decode cX4_reached 26 = .ok (.iload_n 1, 1) := by decide +kernel
theorem dX4_reached_27 : decode cX4_reached 27 = .ok (.baload, 1) := by decide +kernel
theorem dX4_reached_28 : decode cX4_reached 28 = .ok (.ifCond .eq 7, 3) := by decide +kernel
theorem dX4_reached_31 : decode cX4_reached 31 = .ok (.iconst 1, 1) := by decide +kernel
theorem dX4_reached_32 : decode cX4_reached 32 = .ok (.goto 4, 3) := by decide +kernel
theorem dX4_reached_35 : decode cX4_reached 35 = .ok (.iconst 0, 1) := by decide +kernel
theorem dX4_reached_36 : decode cX4_reached 36 = .ok (.ireturn, 1) := by decide +kernel
set_option maxRecDepth 20000 in
theorem ggX4_low_X4_reached : GoodIn wsX4_low wsX4_reached := goodIn_r _ [7, 8, 9, 10, 11, 12, 6, 13, 14, 15, 16, 17, 18, 19, 20, 21, 22, 23, 24, 25, 26, 27, 28] (by decide +kernel) (by decide +kernel)
set_option maxRecDepth 20000 in
theorem gX4_low_X4_reached : GoodIn wsX4_low (wsV RX4 126 RX4 yX4_reached wsX4_reached) := goodIn_app (goodIn_of _ (by decide +kernel)) ggX4_low_X4_reached
set_option maxRecDepth 20000 in
theorem ggX4_low_X4_within : GoodIn wsX4_low wsX4_within := goodIn_r _ [13] (by decide +kernel) (by decide +kernel)
set_option maxRecDepth 20000 in
theorem gX4_low_X4_within : GoodIn wsX4_low (va_wsS RX4 46 yX4_within wsX4_within) := goodIn_app (goodIn_of _ (by decide +kernel)) ggX4_low_X4_within
theorem dX4_low_0 : decode cX4_low 0 = .ok (.aload_n 0, 1) := by decide +kernel
theorem dX4_low_1 : decode cX4_low 1 = .ok (.iload_n 1, 1) := by decide +kernel
theorem dX4_low_2 : decode cX4_low 2 = .ok (.invokevirtual 126, 3) := by decide +kernel
theorem dX4_low_5 : decode cX4_low 5 = .ok (.iconst 1, 1) := by decide +kernel
theorem dX4_low_6 : decode cX4_low 6 = .ok (.if_icmp .ne 24, 3) := by decide +kernel
theorem dX4_low_9 : decode cX4_low 9 = .ok (.iload_n 2, 1) := by decide +kernel
theorem dX4_low_10 : decode cX4_low 10 = .ok (.iconst 3, 1) := by decide +kernel
theorem dX4_low_11 : decode cX4_low 11 = .ok (.invokestatic 46, 3) := by decide +kernel
theorem dX4_low_14 : decode cX4_low 14 = .ok (.ifCond .eq 16, 3) := by decide +kernel
theorem dX4_low_17 : decode cX4_low 17 = .ok (.aload_n 0, 1) := by decide +kernel
theorem dX4_low_18 : decode cX4_low 18 = .ok (.getfield 17, 3) := by decide +kernel
theorem dX4_low_21 : decode cX4_low 21 = .ok (.iconst 4, 1) := by decide +kernel
theorem dX4_low_22 : decode cX4_low 22 = .ok (.iload_n 1, 1) := by decide +kernel
theorem dX4_low_23 : decode cX4_low 23 = .ok (.imul, 1) := by decide +kernel
theorem dX4_low_24 : decode cX4_low 24 = .ok (.iload_n 2, 1) := by decide +kernel
theorem dX4_low_25 : decode cX4_low 25 = .ok (.iadd, 1) := by decide +kernel
theorem dX4_low_26 : decode cX4_low 26 = .ok (.laload, 1) := by decide +kernel
theorem dX4_low_27 : decode cX4_low 27 = .ok (.goto 6, 3) := by decide +kernel
theorem dX4_low_30 : decode cX4_low 30 = .ok (.ldc2_w 129, 3) := by decide +kernel
theorem dX4_low_33 : decode cX4_low 33 = .ok (.lreturn, 1) := by decide +kernel
set_option maxRecDepth 20000 in
theorem ggX4_high_X4_reached : GoodIn wsX4_high wsX4_reached := goodIn_r _ [7, 8, 9, 10, 11, 12, 6, 13, 14, 15, 16, 17, 18, 19, 20, 21, 22, 23, 24, 25, 26, 27, 28] (by decide +kernel) (by decide +kernel)
set_option maxRecDepth 20000 in
theorem gX4_high_X4_reached : GoodIn wsX4_high (wsV RX4 126 RX4 yX4_reached wsX4_reached) := goodIn_app (goodIn_of _ (by decide +kernel)) ggX4_high_X4_reached
set_option maxRecDepth 20000 in
theorem ggX4_high_X4_within : GoodIn wsX4_high wsX4_within := goodIn_r _ [13] (by decide +kernel) (by decide +kernel)
set_option maxRecDepth 20000 in
theorem gX4_high_X4_within : GoodIn wsX4_high (va_wsS RX4 46 yX4_within wsX4_within) := goodIn_app (goodIn_of _ (by decide +kernel)) ggX4_high_X4_within
theorem dX4_high_0 : decode cX4_high 0 = .ok (.aload_n 0, 1) := by decide +kernel
theorem dX4_high_1 : decode cX4_high 1 = .ok (.iload_n 1, 1) := by decide +kernel
theorem dX4_high_2 : decode cX4_high 2 = .ok (.invokevirtual 126, 3) := by decide +kernel
theorem dX4_high_5 : decode cX4_high 5 = .ok (.iconst 1, 1) := by decide +kernel
theorem dX4_high_6 : decode cX4_high 6 = .ok (.if_icmp .ne 24, 3) := by decide +kernel
theorem dX4_high_9 : decode cX4_high 9 = .ok (.iload_n 2, 1) := by decide +kernel
theorem dX4_high_10 : decode cX4_high 10 = .ok (.iconst 3, 1) := by decide +kernel
theorem dX4_high_11 : decode cX4_high 11 = .ok (.invokestatic 46, 3) := by decide +kernel
theorem dX4_high_14 : decode cX4_high 14 = .ok (.ifCond .eq 16, 3) := by decide +kernel
theorem dX4_high_17 : decode cX4_high 17 = .ok (.aload_n 0, 1) := by decide +kernel
theorem dX4_high_18 : decode cX4_high 18 = .ok (.getfield 21, 3) := by decide +kernel
theorem dX4_high_21 : decode cX4_high 21 = .ok (.iconst 4, 1) := by decide +kernel
theorem dX4_high_22 : decode cX4_high 22 = .ok (.iload_n 1, 1) := by decide +kernel
theorem dX4_high_23 : decode cX4_high 23 = .ok (.imul, 1) := by decide +kernel
theorem dX4_high_24 : decode cX4_high 24 = .ok (.iload_n 2, 1) := by decide +kernel
theorem dX4_high_25 : decode cX4_high 25 = .ok (.iadd, 1) := by decide +kernel
theorem dX4_high_26 : decode cX4_high 26 = .ok (.laload, 1) := by decide +kernel
theorem dX4_high_27 : decode cX4_high 27 = .ok (.goto 6, 3) := by decide +kernel
theorem dX4_high_30 : decode cX4_high 30 = .ok (.ldc2_w 129, 3) := by decide +kernel
theorem dX4_high_33 : decode cX4_high 33 = .ok (.lreturn, 1) := by decide +kernel
set_option maxRecDepth 20000 in
theorem ggX4_alarm_X4_reached : GoodIn wsX4_alarm wsX4_reached := goodIn_r _ [9, 10, 11, 12, 13, 14, 8, 15, 16, 17, 18, 19, 20, 21, 22, 23, 24, 25, 26, 27, 28, 29, 30] (by decide +kernel) (by decide +kernel)
set_option maxRecDepth 20000 in
theorem gX4_alarm_X4_reached : GoodIn wsX4_alarm (wsV RX4 126 RX4 yX4_reached wsX4_reached) := goodIn_app (goodIn_of _ (by decide +kernel)) ggX4_alarm_X4_reached
theorem dX4_alarm_0 : decode cX4_alarm 0 = .ok (.aload_n 0, 1) := by decide +kernel
theorem dX4_alarm_1 : decode cX4_alarm 1 = .ok (.iload_n 1, 1) := by decide +kernel
theorem dX4_alarm_2 : decode cX4_alarm 2 = .ok (.invokevirtual 126, 3) := by decide +kernel
theorem dX4_alarm_5 : decode cX4_alarm 5 = .ok (.iconst 1, 1) := by decide +kernel
theorem dX4_alarm_6 : decode cX4_alarm 6 = .ok (.if_icmp .eq 5, 3) := by decide +kernel
theorem dX4_alarm_9 : decode cX4_alarm 9 = .ok (.iconst 0, 1) := by decide +kernel
theorem dX4_alarm_10 : decode cX4_alarm 10 = .ok (.ireturn, 1) := by decide +kernel
theorem dX4_alarm_11 : decode cX4_alarm 11 = .ok (.aload_n 0, 1) := by decide +kernel
theorem dX4_alarm_12 : decode cX4_alarm 12 = .ok (.getfield 7, 3) := by decide +kernel
theorem dX4_alarm_15 : decode cX4_alarm 15 = .ok (.iconst 4, 1) := by decide +kernel
theorem dX4_alarm_16 : decode cX4_alarm 16 = .ok (.iload_n 1, 1) := by decide +kernel
theorem dX4_alarm_17 : decode cX4_alarm 17 = .ok (.imul, 1) := by decide +kernel
theorem dX4_alarm_18 : decode cX4_alarm 18 = .ok (.iaload, 1) := by decide +kernel
theorem dX4_alarm_19 : decode cX4_alarm 19 = .ok (.istore_n 2, 1) := by decide +kernel
theorem dX4_alarm_20 : decode cX4_alarm 20 = .ok (.iconst 4, 1) := by decide +kernel
theorem dX4_alarm_21 : decode cX4_alarm 21 = .ok (.iload_n 1, 1) := by decide +kernel
theorem dX4_alarm_22 : decode cX4_alarm 22 = .ok (.imul, 1) := by decide +kernel
theorem dX4_alarm_23 : decode cX4_alarm 23 = .ok (.aload_n 0, 1) := by decide +kernel
theorem dX4_alarm_24 : decode cX4_alarm 24 = .ok (.getfield 7, 3) := by decide +kernel
theorem dX4_alarm_27 : decode cX4_alarm 27 = .ok (.iconst 4, 1) := by decide +kernel
theorem dX4_alarm_28 : decode cX4_alarm 28 = .ok (.iload_n 1, 1) := by decide +kernel
theorem dX4_alarm_29 : decode cX4_alarm 29 = .ok (.imul, 1) := by decide +kernel
theorem dX4_alarm_30 : decode cX4_alarm 30 = .ok (.iconst 2, 1) := by decide +kernel
theorem dX4_alarm_31 : decode cX4_alarm 31 = .ok (.iadd, 1) := by decide +kernel
theorem dX4_alarm_32 : decode cX4_alarm 32 = .ok (.iaload, 1) := by decide +kernel
theorem dX4_alarm_33 : decode cX4_alarm 33 = .ok (.iadd, 1) := by decide +kernel
theorem dX4_alarm_34 : decode cX4_alarm 34 = .ok (.istore_n 3, 1) := by decide +kernel
theorem dX4_alarm_35 : decode cX4_alarm 35 = .ok (.iconst 4, 1) := by decide +kernel
theorem dX4_alarm_36 : decode cX4_alarm 36 = .ok (.iload_n 1, 1) := by decide +kernel
theorem dX4_alarm_37 : decode cX4_alarm 37 = .ok (.imul, 1) := by decide +kernel
theorem dX4_alarm_38 : decode cX4_alarm 38 = .ok (.aload_n 0, 1) := by decide +kernel
theorem dX4_alarm_39 : decode cX4_alarm 39 = .ok (.getfield 7, 3) := by decide +kernel
theorem dX4_alarm_42 : decode cX4_alarm 42 = .ok (.iconst 4, 1) := by decide +kernel
theorem dX4_alarm_43 : decode cX4_alarm 43 = .ok (.iload_n 1, 1) := by decide +kernel
theorem dX4_alarm_44 : decode cX4_alarm 44 = .ok (.imul, 1) := by decide +kernel
theorem dX4_alarm_45 : decode cX4_alarm 45 = .ok (.iconst 3, 1) := by decide +kernel
theorem dX4_alarm_46 : decode cX4_alarm 46 = .ok (.iadd, 1) := by decide +kernel
theorem dX4_alarm_47 : decode cX4_alarm 47 = .ok (.iaload, 1) := by decide +kernel
theorem dX4_alarm_48 : decode cX4_alarm 48 = .ok (.iadd, 1) := by decide +kernel
theorem dX4_alarm_49 : decode cX4_alarm 49 = .ok (.istore 4, 2) := by decide +kernel
theorem dX4_alarm_51 : decode cX4_alarm 51 = .ok (.iload_n 2, 1) := by decide +kernel
theorem dX4_alarm_52 : decode cX4_alarm 52 = .ok (.bipush 6, 2) := by decide +kernel
theorem dX4_alarm_54 : decode cX4_alarm 54 = .ok (.if_icmp .ne 33, 3) := by decide +kernel
theorem dX4_alarm_57 : decode cX4_alarm 57 = .ok (.aload_n 0, 1) := by decide +kernel
theorem dX4_alarm_58 : decode cX4_alarm 58 = .ok (.getfield 17, 3) := by decide +kernel
theorem dX4_alarm_61 : decode cX4_alarm 61 = .ok (.iload 4, 2) := by decide +kernel
theorem dX4_alarm_63 : decode cX4_alarm 63 = .ok (.laload, 1) := by decide +kernel
theorem dX4_alarm_64 : decode cX4_alarm 64 = .ok (.lconst 0, 1) := by decide +kernel
theorem dX4_alarm_65 : decode cX4_alarm 65 = .ok (.lcmp, 1) := by decide +kernel
theorem dX4_alarm_66 : decode cX4_alarm 66 = .ok (.ifCond .gt 19, 3) := by decide +kernel
theorem dX4_alarm_69 : decode cX4_alarm 69 = .ok (.aload_n 0, 1) := by decide +kernel
theorem dX4_alarm_70 : decode cX4_alarm 70 = .ok (.getfield 21, 3) := by decide +kernel
theorem dX4_alarm_73 : decode cX4_alarm 73 = .ok (.iload 4, 2) := by decide +kernel
theorem dX4_alarm_75 : decode cX4_alarm 75 = .ok (.laload, 1) := by decide +kernel
theorem dX4_alarm_76 : decode cX4_alarm 76 = .ok (.lconst 0, 1) := by decide +kernel
theorem dX4_alarm_77 : decode cX4_alarm 77 = .ok (.lcmp, 1) := by decide +kernel
theorem dX4_alarm_78 : decode cX4_alarm 78 = .ok (.ifCond .lt 7, 3) := by decide +kernel
theorem dX4_alarm_81 : decode cX4_alarm 81 = .ok (.iconst 1, 1) := by decide +kernel
theorem dX4_alarm_82 : decode cX4_alarm 82 = .ok (.goto 4, 3) := by decide +kernel
theorem dX4_alarm_85 : decode cX4_alarm 85 = .ok (.iconst 0, 1) := by decide +kernel
theorem dX4_alarm_86 : decode cX4_alarm 86 = .ok (.ireturn, 1) := by decide +kernel
theorem dX4_alarm_87 : decode cX4_alarm 87 = .ok (.iload_n 2, 1) := by decide +kernel
theorem dX4_alarm_88 : decode cX4_alarm 88 = .ok (.bipush 7, 2) := by decide +kernel
theorem dX4_alarm_90 : decode cX4_alarm 90 = .ok (.if_icmp .eq 9, 3) := by decide +kernel
theorem dX4_alarm_93 : decode cX4_alarm 93 = .ok (.iload_n 2, 1) := by decide +kernel
theorem dX4_alarm_94 : decode cX4_alarm 94 = .ok (.bipush 8, 2) := by decide +kernel
theorem dX4_alarm_96 : decode cX4_alarm 96 = .ok (.if_icmp .ne 33, 3) := by decide +kernel
theorem dX4_alarm_99 : decode cX4_alarm 99 = .ok (.aload_n 0, 1) := by decide +kernel
theorem dX4_alarm_100 : decode cX4_alarm 100 = .ok (.getfield 17, 3) := by decide +kernel
theorem dX4_alarm_103 : decode cX4_alarm 103 = .ok (.iload_n 3, 1) := by decide +kernel
theorem dX4_alarm_104 : decode cX4_alarm 104 = .ok (.laload, 1) := by decide +kernel
theorem dX4_alarm_105 : decode cX4_alarm 105 = .ok (.lconst 0, 1) := by decide +kernel
theorem dX4_alarm_106 : decode cX4_alarm 106 = .ok (.lcmp, 1) := by decide +kernel
theorem dX4_alarm_107 : decode cX4_alarm 107 = .ok (.ifCond .lt 16, 3) := by decide +kernel
theorem dX4_alarm_110 : decode cX4_alarm 110 = .ok (.aload_n 0, 1) := by decide +kernel
theorem dX4_alarm_111 : decode cX4_alarm 111 = .ok (.getfield 21, 3) := by decide +kernel
theorem dX4_alarm_114 : decode cX4_alarm 114 = .ok (.iload_n 3, 1) := by decide +kernel
theorem dX4_alarm_115 : decode cX4_alarm 115 = .ok (.laload, 1) := by decide +kernel
theorem dX4_alarm_116 : decode cX4_alarm 116 = .ok (.ldc2_w 96, 3) := by decide +kernel
theorem dX4_alarm_119 : decode cX4_alarm 119 = .ok (.lcmp, 1) := by decide +kernel
theorem dX4_alarm_120 : decode cX4_alarm 120 = .ok (.ifCond .le 7, 3) := by decide +kernel
theorem dX4_alarm_123 : decode cX4_alarm 123 = .ok (.iconst 2, 1) := by decide +kernel
theorem dX4_alarm_124 : decode cX4_alarm 124 = .ok (.goto 4, 3) := by decide +kernel
theorem dX4_alarm_127 : decode cX4_alarm 127 = .ok (.iconst 0, 1) := by decide +kernel
theorem dX4_alarm_128 : decode cX4_alarm 128 = .ok (.ireturn, 1) := by decide +kernel
theorem dX4_alarm_129 : decode cX4_alarm 129 = .ok (.iconst 0, 1) := by decide +kernel
theorem dX4_alarm_130 : decode cX4_alarm 130 = .ok (.ireturn, 1) := by decide +kernel
