theorem dX4_compare_1 : decode cX4_compare 1 = .ok (.iload_n 3, 1) := by decide +kernel
theorem dX4_compare_2 : decode cX4_compare 2 = .ok (.if_icmp .ne 11, 3) := by decide +kernel
theorem dX4_compare_5 : decode cX4_compare 5 = .ok (.aload_n 0, 1) := by decide +kernel
theorem dX4_compare_6 : decode cX4_compare 6 = .ok (.getfield 33, 3) := by decide +kernel
theorem dX4_compare_9 : decode cX4_compare 9 = .ok (.iconst 1, 1) := by decide +kernel
theorem dX4_compare_10 : decode cX4_compare 10 = .ok (.iconst 0, 1) := by decide +kernel
theorem dX4_compare_11 : decode cX4_compare 11 = .ok (.bastore, 1) := by decide +kernel
theorem dX4_compare_12 : decode cX4_compare 12 = .ok (.return_, 1) := by decide +kernel
theorem dX4_compare_13 : decode cX4_compare 13 = .ok (.aload_n 0, 1) := by decide +kernel
theorem dX4_compare_14 : decode cX4_compare 14 = .ok (.getfield 17, 3) := by decide +kernel
theorem dX4_compare_17 : decode cX4_compare 17 = .ok (.iconst 4, 1) := by decide +kernel
theorem dX4_compare_18 : decode cX4_compare 18 = .ok (.iload_n 1, 1) := by decide +kernel
theorem dX4_compare_19 : decode cX4_compare 19 = .ok (.imul, 1) := by decide +kernel
theorem dX4_compare_20 : decode cX4_compare 20 = .ok (.iload_n 2, 1) := by decide +kernel
theorem dX4_compare_21 : decode cX4_compare 21 = .ok (.iadd, 1) := by decide +kernel
theorem dX4_compare_22 : decode cX4_compare 22 = .ok (.laload, 1) := by decide +kernel
theorem dX4_compare_23 : decode cX4_compare 23 = .ok (.lstore 4, 2) := by decide +kernel
theorem dX4_compare_25 : decode cX4_compare 25 = .ok (.aload_n 0, 1) := by decide +kernel
theorem dX4_compare_26 : decode cX4_compare 26 = .ok (.getfield 21, 3) := by decide +kernel
theorem dX4_compare_29 : decode cX4_compare 29 = .ok (.iconst 4, 1) := by decide +kernel
theorem dX4_compare_30 : decode cX4_compare 30 = .ok (.iload_n 1, 1) := by decide +kernel
theorem dX4_compare_31 : decode cX4_compare 31 = .ok (.imul, 1) := by decide +kernel
theorem dX4_compare_32 : decode cX4_compare 32 = .ok (.iload_n 2, 1) := by decide +kernel
theorem dX4_compare_33 : decode cX4_compare 33 = .ok (.iadd, 1) := by decide +kernel
theorem dX4_compare_34 : decode cX4_compare 34 = .ok (.laload, 1) := by decide +kernel
theorem dX4_compare_35 : decode cX4_compare 35 = .ok (.lstore 6, 2) := by decide +kernel
theorem dX4_compare_37 : decode cX4_compare 37 = .ok (.aload_n 0, 1) := by decide +kernel
theorem dX4_compare_38 : decode cX4_compare 38 = .ok (.getfield 17, 3) := by decide +kernel
theorem dX4_compare_41 : decode cX4_compare 41 = .ok (.iconst 4, 1) := by decide +kernel
theorem dX4_compare_42 : decode cX4_compare 42 = .ok (.iload_n 1, 1) := by decide +kernel
theorem dX4_compare_43 : decode cX4_compare 43 = .ok (.imul, 1) := by decide +kernel
theorem dX4_compare_44 : decode cX4_compare 44 = .ok (.iload_n 3, 1) := by decide +kernel
theorem dX4_compare_45 : decode cX4_compare 45 = .ok (.iadd, 1) := by decide +kernel
theorem dX4_compare_46 : decode cX4_compare 46 = .ok (.laload, 1) := by decide +kernel
theorem dX4_compare_47 : decode cX4_compare 47 = .ok (.lstore 8, 2) := by decide +kernel
theorem dX4_compare_49 : decode cX4_compare 49 = .ok (.aload_n 0, 1) := by decide +kernel
theorem dX4_compare_50 : decode cX4_compare 50 = .ok (.getfield 21, 3) := by decide +kernel
theorem dX4_compare_53 : decode cX4_compare 53 = .ok (.iconst 4, 1) := by decide +kernel
theorem dX4_compare_54 : decode cX4_compare 54 = .ok (.iload_n 1, 1) := by decide +kernel
theorem dX4_compare_55 : decode cX4_compare 55 = .ok (.imul, 1) := by decide +kernel
theorem dX4_compare_56 : decode cX4_compare 56 = .ok (.iload_n 3, 1) := by decide +kernel
theorem dX4_compare_57 : decode cX4_compare 57 = .ok (.iadd, 1) := by decide +kernel
theorem dX4_compare_58 : decode cX4_compare 58 = .ok (.laload, 1) := by decide +kernel
theorem dX4_compare_59 : decode cX4_compare 59 = .ok (.lstore 10, 2) := by decide +kernel
theorem dX4_compare_61 : decode cX4_compare 61 = .ok (.lload 8, 2) := by decide +kernel
theorem dX4_compare_63 : decode cX4_compare 63 = .ok (.lload 4, 2) := by decide +kernel
theorem dX4_compare_65 : decode cX4_compare 65 = .ok (.lcmp, 1) := by decide +kernel
theorem dX4_compare_66 : decode cX4_compare 66 = .ok (.ifCond .le 11, 3) := by decide +kernel
theorem dX4_compare_69 : decode cX4_compare 69 = .ok (.aload_n 0, 1) := by decide +kernel
theorem dX4_compare_70 : decode cX4_compare 70 = .ok (.getfield 36, 3) := by decide +kernel
theorem dX4_compare_73 : decode cX4_compare 73 = .ok (.iload_n 2, 1) := by decide +kernel
theorem dX4_compare_74 : decode cX4_compare 74 = .ok (.lload 8, 2) := by decide +kernel
theorem dX4_compare_76 : decode cX4_compare 76 = .ok (.lastore, 1) := by decide +kernel
theorem dX4_compare_77 : decode cX4_compare 77 = .ok (.lload 6, 2) := by decide +kernel
theorem dX4_compare_79 : decode cX4_compare 79 = .ok (.lload 10, 2) := by decide +kernel
theorem dX4_compare_81 : decode cX4_compare 81 = .ok (.lcmp, 1) := by decide +kernel
theorem dX4_compare_82 : decode cX4_compare 82 = .ok (.ifCond .ge 11, 3) := by decide +kernel
theorem dX4_compare_85 : decode cX4_compare 85 = .ok (.aload_n 0, 1) := by decide +kernel
theorem dX4_compare_86 : decode cX4_compare 86 = .ok (.getfield 39, 3) := by decide +kernel
theorem dX4_compare_89 : decode cX4_compare 89 = .ok (.iload_n 3, 1) := by decide +kernel
theorem dX4_compare_90 : decode cX4_compare 90 = .ok (.lload 6, 2) := by decide +kernel
theorem dX4_compare_92 : decode cX4_compare 92 = .ok (.lastore, 1) := by decide +kernel
theorem dX4_compare_93 : decode cX4_compare 93 = .ok (.aload_n 0, 1) := by decide +kernel
theorem dX4_compare_94 : decode cX4_compare 94 = .ok (.getfield 33, 3) := by decide +kernel
theorem dX4_compare_97 : decode cX4_compare 97 = .ok (.iconst 0, 1) := by decide +kernel
theorem dX4_compare_98 : decode cX4_compare 98 = .ok (.aload_n 0, 1) := by decide +kernel
theorem dX4_compare_99 : decode cX4_compare 99 = .ok (.getfield 36, 3) := by decide +kernel
theorem dX4_compare_102 : decode cX4_compare 102 = .ok (.iload_n 2, 1) := by decide +kernel
theorem dX4_compare_103 : decode cX4_compare 103 = .ok (.laload, 1) := by decide +kernel
theorem dX4_compare_104 : decode cX4_compare 104 = .ok (.aload_n 0, 1) := by decide +kernel
theorem dX4_compare_105 : decode cX4_compare 105 = .ok (.getfield 39, 3) := by decide +kernel
theorem dX4_compare_108 : decode cX4_compare 108 = .ok (.iload_n 2, 1) := by decide +kernel
theorem dX4_compare_109 : decode cX4_compare 109 = .ok (.laload, 1) := by decide +kernel
theorem dX4_compare_110 : decode cX4_compare 110 = .ok (.lcmp, 1) := by decide +kernel
theorem dX4_compare_111 : decode cX4_compare 111 = .ok (.ifCond .gt 23, 3) := by decide +kernel
theorem dX4_compare_114 : decode cX4_compare 114 = .ok (.aload_n 0, 1) := by decide +kernel
theorem dX4_compare_115 : decode cX4_compare 115 = .ok (.getfield 36, 3) := by decide +kernel
theorem dX4_compare_118 : decode cX4_compare 118 = .ok (.iload_n 3, 1) := by decide +kernel
theorem dX4_compare_119 : decode cX4_compare 119 = .ok (.laload, 1) := by decide +kernel
theorem dX4_compare_120 : decode cX4_compare 120 = .ok (.aload_n 0, 1) := by decide +kernel
theorem dX4_compare_121 : decode cX4_compare 121 = .ok (.getfield 39, 3) := by decide +kernel
theorem dX4_compare_124 : decode cX4_compare 124 = .ok (.iload_n 3, 1) := by decide +kernel
theorem dX4_compare_125 : decode cX4_compare 125 = .ok (.laload, 1) := by decide +kernel
theorem dX4_compare_126 : decode cX4_compare 126 = .ok (.lcmp, 1) := by decide +kernel
theorem dX4_compare_127 : decode cX4_compare 127 = .ok (.ifCond .gt 7, 3) := by decide +kernel
theorem dX4_compare_130 : decode cX4_compare 130 = .ok (.iconst 1, 1) := by decide +kernel
theorem dX4_compare_131 : decode cX4_compare 131 = .ok (.goto 4, 3) := by decide +kernel
theorem dX4_compare_134 : decode cX4_compare 134 = .ok (.iconst 0, 1) := by decide +kernel
theorem dX4_compare_135 : decode cX4_compare 135 = .ok (.bastore, 1) := by decide +kernel
theorem dX4_compare_136 : decode cX4_compare 136 = .ok (.lload 10, 2) := by decide +kernel
theorem dX4_compare_138 : decode cX4_compare 138 = .ok (.lconst 1, 1) := by decide +kernel
theorem dX4_compare_139 : decode cX4_compare 139 = .ok (.lsub, 1) := by decide +kernel
theorem dX4_compare_140 : decode cX4_compare 140 = .ok (.lload 6, 2) := by decide +kernel
theorem dX4_compare_142 : decode cX4_compare 142 = .ok (.lcmp, 1) := by decide +kernel
theorem dX4_compare_143 : decode cX4_compare 143 = .ok (.ifCond .ge 15, 3) := by decide +kernel
theorem dX4_compare_146 : decode cX4_compare 146 = .ok (.aload_n 0, 1) := by decide +kernel
theorem dX4_compare_147 : decode cX4_compare 147 = .ok (.getfield 39, 3) := by decide +kernel
theorem dX4_compare_150 : decode cX4_compare 150 = .ok (.iconst 4, 1) := by decide +kernel
theorem dX4_compare_151 : decode cX4_compare 151 = .ok (.iload_n 2, 1) := by decide +kernel
theorem dX4_compare_152 : decode cX4_compare 152 = .ok (.iadd, 1) := by decide +kernel
theorem dX4_compare_153 : decode cX4_compare 153 = .ok (.lload 10, 2) := by decide +kernel
theorem dX4_compare_155 : decode cX4_compare 155 = .ok (.lconst 1, 1) := by decide +kernel
theorem dX4_compare_156 : decode cX4_compare 156 = .ok (.lsub, 1) := by decide +kernel
theorem dX4_compare_157 : decode cX4_compare 157 = .ok (.lastore, 1) := by decide +kernel
theorem dX4_compare_158 : decode cX4_compare 158 = .ok (.lload 4, 2) := by decide +kernel
theorem dX4_compare_160 : decode cX4_compare 160 = .ok (.lconst 1, 1) := by decide +kernel
theorem dX4_compare_161 : decode cX4_compare 161 = .ok (.ladd, 1) := by decide +kernel
theorem dX4_compare_162 : decode cX4_compare 162 = .ok (.lload 8, 2) := by decide +kernel
theorem dX4_compare_164 : decode cX4_compare 164 = .ok (.lcmp, 1) := by decide +kernel
theorem dX4_compare_165 : decode cX4_compare 165 = .ok (.ifCond .le 15, 3) := by decide +kernel
theorem dX4_compare_168 : decode cX4_compare 168 = .ok (.aload_n 0, 1) := by decide +kernel
theorem dX4_compare_169 : decode cX4_compare 169 = .ok (.getfield 36, 3) := by decide +kernel
theorem dX4_compare_172 : decode cX4_compare 172 = .ok (.iconst 4, 1) := by decide +kernel
theorem dX4_compare_173 : decode cX4_compare 173 = .ok (.iload_n 3, 1) := by decide +kernel
theorem dX4_compare_174 : decode cX4_compare 174 = .ok (.iadd, 1) := by decide +kernel
theorem dX4_compare_175 : decode cX4_compare 175 = .ok (.lload 4, 2) := by decide +kernel
theorem dX4_compare_177 : decode cX4_compare 177 = .ok (.lconst 1, 1) := by decide +kernel
theorem dX4_compare_178 : decode cX4_compare 178 = .ok (.ladd, 1) := by decide +kernel
theorem dX4_compare_179 : decode cX4_compare 179 = .ok (.lastore, 1) := by decide +kernel
theorem dX4_compare_180 : decode cX4_compare 180 = .ok (.aload_n 0, 1) := by decide +kernel
theorem dX4_compare_181 : decode cX4_compare 181 = .ok (.getfield 33, 3) := by decide +kernel
theorem dX4_compare_184 : decode cX4_compare 184 = .ok (.iconst 1, 1) := by decide +kernel
theorem dX4_compare_185 : decode cX4_compare 185 = .ok (.aload_n 0, 1) := by decide +kernel
theorem dX4_compare_186 : decode cX4_compare 186 = .ok (.getfield 36, 3) := by decide +kernel
theorem dX4_compare_189 : decode cX4_compare 189 = .ok (.iconst 4, 1) := by decide +kernel
theorem dX4_compare_190 : decode cX4_compare 190 = .ok (.iload_n 2, 1) := by decide +kernel
theorem dX4_compare_191 : decode cX4_compare 191 = .ok (.iadd, 1) := by decide +kernel
theorem dX4_compare_192 : decode cX4_compare 192 = .ok (.laload, 1) := by decide +kernel
theorem dX4_compare_193 : decode cX4_compare 193 = .ok (.aload_n 0, 1) := by decide +kernel
theorem dX4_compare_194 : decode cX4_compare 194 = .ok (.getfield 39, 3) := by decide +kernel
theorem dX4_compare_197 : decode cX4_compare 197 = .ok (.iconst 4, 1) := by decide +kernel
theorem dX4_compare_198 : decode cX4_compare 198 = .ok (.iload_n 2, 1) := by decide +kernel
theorem dX4_compare_199 : decode cX4_compare 199 = .ok (.iadd, 1) := by decide +kernel
theorem dX4_compare_200 : decode cX4_compare 200 = .ok (.laload, 1) := by decide +kernel
theorem dX4_compare_201 : decode cX4_compare 201 = .ok (.lcmp, 1) := by decide +kernel
theorem dX4_compare_202 : decode cX4_compare 202 = .ok (.ifCond .gt 27, 3) := by decide +kernel
theorem dX4_compare_205 : decode cX4_compare 205 = .ok (.aload_n 0, 1) := by decide +kernel
theorem dX4_compare_206 : decode cX4_compare 206 = .ok (.getfield 36, 3) := by decide +kernel
theorem dX4_compare_209 : decode cX4_compare 209 = .ok (.iconst 4, 1) := by decide +kernel
theorem dX4_compare_210 : decode cX4_compare 210 = .ok (.iload_n 3, 1) := by decide +kernel
theorem dX4_compare_211 : decode cX4_compare 211 = .ok (.iadd, 1) := by decide +kernel
theorem dX4_compare_212 : decode cX4_compare 212 = .ok (.laload, 1) := by decide +kernel
theorem dX4_compare_213 : decode cX4_compare 213 = .ok (.aload_n 0, 1) := by decide +kernel
theorem dX4_compare_214 : decode cX4_compare 214 = .ok (.getfield 39, 3) := by decide +kernel
theorem dX4_compare_217 : decode cX4_compare 217 = .ok (.iconst 4, 1) := by decide +kernel
theorem dX4_compare_218 : decode cX4_compare 218 = .ok (.iload_n 3, 1) := by decide +kernel
theorem dX4_compare_219 : decode cX4_compare 219 = .ok (.iadd, 1) := by decide +kernel
theorem dX4_compare_220 : decode cX4_compare 220 = .ok (.laload, 1) := by decide +kernel
theorem dX4_compare_221 : decode cX4_compare 221 = .ok (.lcmp, 1) := by decide +kernel
theorem dX4_compare_222 : decode cX4_compare 222 = .ok (.ifCond .gt 7, 3) := by decide +kernel
theorem dX4_compare_225 : decode cX4_compare 225 = .ok (.iconst 1, 1) := by decide +kernel
theorem dX4_compare_226 : decode cX4_compare 226 = .ok (.goto 4, 3) := by decide +kernel
theorem dX4_compare_229 : decode cX4_compare 229 = .ok (.iconst 0, 1) := by decide +kernel
theorem dX4_compare_230 : decode cX4_compare 230 = .ok (.bastore, 1) := by decide +kernel
theorem dX4_compare_231 : decode cX4_compare 231 = .ok (.return_, 1) := by decide +kernel
set_option maxRecDepth 20000 in
theorem ggX4_flow_X4_set : GoodIn wsX4_flow wsX4_set := goodIn_r _ [14, 15, 3, 8, 5, 9, 36, 37, 38, 39, 40, 41, 42, 43, 44, 45, 46, 47, 48, 49, 50] (by decide +kernel) (by decide +kernel)
set_option maxRecDepth 20000 in
theorem gX4_flow_X4_set : GoodIn wsX4_flow (wsV RX4 89 RX4 yX4_set wsX4_set) := goodIn_app (goodIn_of _ (by decide +kernel)) ggX4_flow_X4_set
set_option maxRecDepth 20000 in
theorem ggX4_flow_X4_calculate : GoodIn wsX4_flow wsX4_calculate := goodIn_r _ [19, 4, 6, 20, 21, 22, 23, 2, 24, 25, 26, 13, 27, 28, 29, 30, 31, 10, 11, 12, 14, 15, 3, 8, 5, 9, 36, 37, 38, 39, 40, 41, 42, 43, 44, 45, 46, 47, 48, 49, 50] (by decide +kernel) (by decide +kernel)
set_option maxRecDepth 20000 in
theorem gX4_flow_X4_calculate : GoodIn wsX4_flow (wsV RX4 92 RX4 yX4_calculate wsX4_calculate) := goodIn_app (goodIn_of _ (by decide +kernel)) ggX4_flow_X4_calculate
set_option maxRecDepth 20000 in
theorem ggX4_flow_X4_compare : GoodIn wsX4_flow wsX4_compare := goodIn_r _ [35, 2, 4, 6, 3, 5, 36, 37, 38, 39, 40, 41, 42, 43, 44, 45, 46, 47, 48, 49, 50] (by decide +kernel) (by decide +kernel)
set_option maxRecDepth 20000 in
theorem gX4_flow_X4_compare : GoodIn wsX4_flow (wsV RX4 98 RX4 yX4_compare wsX4_compare) := goodIn_app (goodIn_of _ (by decide +kernel)) ggX4_flow_X4_compare
theorem dX4_flow_0 : decode cX4_flow 0 = .ok (.aload_n 0, 1) := by decide +kernel
theorem dX4_flow_1 : decode cX4_flow 1 = .ok (.getfield 7, 3) := by decide +kernel
theorem dX4_flow_4 : decode cX4_flow 4 = .ok (.iconst 4, 1) := by decide +kernel
theorem dX4_flow_5 : decode cX4_flow 5 = .ok (.iload_n 1, 1) := by decide +kernel
theorem dX4_flow_6 : decode cX4_flow 6 = .ok (.imul, 1) := by decide +kernel
theorem dX4_flow_7 : decode cX4_flow 7 = .ok (.iaload, 1) := by decide +kernel
theorem dX4_flow_8 : decode cX4_flow 8 = .ok (.istore_n 2, 1) := by decide +kernel
theorem dX4_flow_9 : decode cX4_flow 9 = .ok (.aload_n 0, 1) := by decide +kernel
theorem dX4_flow_10 : decode cX4_flow 10 = .ok (.getfield 7, 3) := by decide +kernel
theorem dX4_flow_13 : decode cX4_flow 13 = .ok (.iconst 4, 1) := by decide +kernel
theorem dX4_flow_14 : decode cX4_flow 14 = .ok (.iload_n 1, 1) := by decide +kernel
theorem dX4_flow_15 : decode cX4_flow 15 = .ok (.imul, 1) := by decide +kernel
theorem dX4_flow_16 : decode cX4_flow 16 = .ok (.iconst 1, 1) := by decide +kernel
theorem dX4_flow_17 : decode cX4_flow 17 = .ok (.iadd, 1) := by decide +kernel
theorem dX4_flow_18 : decode cX4_flow 18 = .ok (.iaload, 1) := by decide +kernel
theorem dX4_flow_19 : decode cX4_flow 19 = .ok (.istore_n 3, 1) := by decide +kernel
theorem dX4_flow_20 : decode cX4_flow 20 = .ok (.aload_n 0, 1) := by decide +kernel
theorem dX4_flow_21 : decode cX4_flow 21 = .ok (.getfield 7, 3) := by decide +kernel
theorem dX4_flow_24 : decode cX4_flow 24 = .ok (.iconst 4, 1) := by decide +kernel
theorem dX4_flow_25 : decode cX4_flow 25 = .ok (.iload_n 1, 1) := by decide +kernel
theorem dX4_flow_26 : decode cX4_flow 26 = .ok (.imul, 1) := by decide +kernel
theorem dX4_flow_27 : decode cX4_flow 27 = .ok (.iconst 2, 1) := by decide +kernel
theorem dX4_flow_28 : decode cX4_flow 28 = .ok (.iadd, 1) := by decide +kernel
theorem dX4_flow_29 : decode cX4_flow 29 = .ok (.iaload, 1) := by decide +kernel
theorem dX4_flow_30 : decode cX4_flow 30 = .ok (.istore 4, 2) := by decide +kernel
theorem dX4_flow_32 : decode cX4_flow 32 = .ok (.aload_n 0, 1) := by decide +kernel
theorem dX4_flow_33 : decode cX4_flow 33 = .ok (.getfield 33, 3) := by decide +kernel
theorem dX4_flow_36 : decode cX4_flow 36 = .ok (.iconst 0, 1) := by decide +kernel
theorem dX4_flow_37 : decode cX4_flow 37 = .ok (.iload_n 2, 1) := by decide +kernel
theorem dX4_flow_38 : decode cX4_flow 38 = .ok (.ifCond .eq 13, 3) := by decide +kernel
theorem dX4_flow_41 : decode cX4_flow 41 = .ok (.iload_n 2, 1) := by decide +kernel
theorem dX4_flow_42 : decode cX4_flow 42 = .ok (.bipush 10, 2) := by decide +kernel
theorem dX4_flow_44 : decode cX4_flow 44 = .ok (.if_icmp .eq 7, 3) := by decide +kernel
theorem dX4_flow_47 : decode cX4_flow 47 = .ok (.iconst 1, 1) := by decide +kernel
theorem dX4_flow_48 : decode cX4_flow 48 = .ok (.goto 4, 3) := by decide +kernel
theorem dX4_flow_51 : decode cX4_flow 51 = .ok (.iconst 0, 1) := by decide +kernel
theorem dX4_flow_52 : decode cX4_flow 52 = .ok (.bastore, 1) := by decide +kernel
theorem dX4_flow_53 : decode cX4_flow 53 = .ok (.aload_n 0, 1) := by decide +kernel
theorem dX4_flow_54 : decode cX4_flow 54 = .ok (.getfield 33, 3) := by decide +kernel
theorem dX4_flow_57 : decode cX4_flow 57 = .ok (.iconst 1, 1) := by decide +kernel
theorem dX4_flow_58 : decode cX4_flow 58 = .ok (.iload_n 2, 1) := by decide +kernel
theorem dX4_flow_59 : decode cX4_flow 59 = .ok (.bipush 9, 2) := by decide +kernel
theorem dX4_flow_61 : decode cX4_flow 61 = .ok (.if_icmp .eq 9, 3) := by decide +kernel
theorem dX4_flow_64 : decode cX4_flow 64 = .ok (.iload_n 2, 1) := by decide +kernel
theorem dX4_flow_65 : decode cX4_flow 65 = .ok (.bipush 10, 2) := by decide +kernel
theorem dX4_flow_67 : decode cX4_flow 67 = .ok (.if_icmp .ne 7, 3) := by decide +kernel
theorem dX4_flow_70 : decode cX4_flow 70 = .ok (.iconst 1, 1) := by decide +kernel
theorem dX4_flow_71 : decode cX4_flow 71 = .ok (.goto 4, 3) := by decide +kernel
theorem dX4_flow_74 : decode cX4_flow 74 = .ok (.iconst 0, 1) := by decide +kernel
theorem dX4_flow_75 : decode cX4_flow 75 = .ok (.bastore, 1) := by decide +kernel
theorem dX4_flow_76 : decode cX4_flow 76 = .ok (.iconst 0, 1) := by decide +kernel
theorem dX4_flow_77 : decode cX4_flow 77 = .ok (.istore 5, 2) := by decide +kernel
theorem dX4_flow_79 : decode cX4_flow 79 = .ok (.iload 5, 2) := by decide +kernel
theorem dX4_flow_81 : decode cX4_flow 81 = .ok (.iconst 4, 1) := by decide +kernel
theorem dX4_flow_82 : decode cX4_flow 82 = .ok (.if_icmp .ge 77, 3) := by decide +kernel
theorem dX4_flow_85 : decode cX4_flow 85 = .ok (.aload_n 0, 1) := by decide +kernel
theorem dX4_flow_86 : decode cX4_flow 86 = .ok (.getfield 36, 3) := by decide +kernel
theorem dX4_flow_89 : decode cX4_flow 89 = .ok (.iload 5, 2) := by decide +kernel
theorem dX4_flow_91 : decode cX4_flow 91 = .ok (.aload_n 0, 1) := by decide +kernel
theorem dX4_flow_92 : decode cX4_flow 92 = .ok (.getfield 17, 3) := by decide +kernel
theorem dX4_flow_95 : decode cX4_flow 95 = .ok (.iconst 4, 1) := by decide +kernel
theorem dX4_flow_96 : decode cX4_flow 96 = .ok (.iload_n 1, 1) := by decide +kernel
theorem dX4_flow_97 : decode cX4_flow 97 = .ok (.imul, 1) := by decide +kernel
theorem dX4_flow_98 : decode cX4_flow 98 = .ok (.iload 5, 2) := by decide +kernel
theorem dX4_flow_100 : decode cX4_flow 100 = .ok (.iadd, 1) := by decide +kernel
theorem dX4_flow_101 : decode cX4_flow 101 = .ok (.laload, 1) := by decide +kernel
theorem dX4_flow_102 : decode cX4_flow 102 = .ok (.lastore, 1) := by decide +kernel
theorem dX4_flow_103 : decode cX4_flow 103 = .ok (.aload_n 0, 1) := by decide +kernel
theorem dX4_flow_104 : decode cX4_flow 104 = .ok (.getfield 39, 3) := by decide +kernel
theorem dX4_flow_107 : decode cX4_flow 107 = .ok (.iload 5, 2) := by decide +kernel
theorem dX4_flow_109 : decode cX4_flow 109 = .ok (.aload_n 0, 1) := by decide +kernel
theorem dX4_flow_110 : decode cX4_flow 110 = .ok (.getfield 21, 3) := by decide +kernel
theorem dX4_flow_113 : decode cX4_flow 113 = .ok (.iconst 4, 1) := by decide +kernel
theorem dX4_flow_114 : decode cX4_flow 114 = .ok (.iload_n 1, 1) := by decide +kernel
theorem dX4_flow_115 : decode cX4_flow 115 = .ok (.imul, 1) := by decide +kernel
theorem dX4_flow_116 : decode cX4_flow 116 = .ok (.iload 5, 2) := by decide +kernel
theorem dX4_flow_118 : decode cX4_flow 118 = .ok (.iadd, 1) := by decide +kernel
theorem dX4_flow_119 : decode cX4_flow 119 = .ok (.laload, 1) := by decide +kernel
theorem dX4_flow_120 : decode cX4_flow 120 = .ok (.lastore, 1) := by decide +kernel
theorem dX4_flow_121 : decode cX4_flow 121 = .ok (.aload_n 0, 1) := by decide +kernel
theorem dX4_flow_122 : decode cX4_flow 122 = .ok (.getfield 36, 3) := by decide +kernel
theorem dX4_flow_125 : decode cX4_flow 125 = .ok (.iconst 4, 1) := by decide +kernel
theorem dX4_flow_126 : decode cX4_flow 126 = .ok (.iload 5, 2) := by decide +kernel
theorem dX4_flow_128 : decode cX4_flow 128 = .ok (.iadd, 1) := by decide +kernel
theorem dX4_flow_129 : decode cX4_flow 129 = .ok (.aload_n 0, 1) := by decide +kernel
theorem dX4_flow_130 : decode cX4_flow 130 = .ok (.getfield 36, 3) := by decide +kernel
theorem dX4_flow_133 : decode cX4_flow 133 = .ok (.iload 5, 2) := by decide +kernel
theorem dX4_flow_135 : decode cX4_flow 135 = .ok (.laload, 1) := by decide +kernel
theorem dX4_flow_136 : decode cX4_flow 136 = .ok (.lastore, 1) := by decide +kernel
theorem dX4_flow_137 : decode cX4_flow 137 = .ok (.aload_n 0, 1) := by decide +kernel
theorem dX4_flow_138 : decode cX4_flow 138 = .ok (.getfield 39, 3) := by decide +kernel
theorem dX4_flow_141 : decode cX4_flow 141 = .ok (.iconst 4, 1) := by decide +kernel
theorem dX4_flow_142 : decode cX4_flow 142 = .ok (.iload 5, 2) := by decide +kernel
theorem dX4_flow_144 : decode cX4_flow 144 = .ok (.iadd, 1) := by decide +kernel
theorem dX4_flow_145 : decode cX4_flow 145 = .ok (.aload_n 0, 1) := by decide +kernel
theorem dX4_flow_146 : decode cX4_flow 146 = .ok (.getfield 39, 3) := by decide +kernel
theorem dX4_flow_149 : decode cX4_flow 149 = .ok (.iload 5, 2) := by decide +kernel
theorem dX4_flow_151 : decode cX4_flow 151 = .ok (.laload, 1) := by decide +kernel
theorem dX4_flow_152 : decode cX4_flow 152 = .ok (.lastore, 1) := by decide +kernel
theorem dX4_flow_153 : decode cX4_flow 153 = .ok (.iinc 5 1, 3) := by decide +kernel
theorem dX4_flow_156 : decode cX4_flow 156 = .ok (.goto (-77), 3) := by decide +kernel
theorem dX4_flow_159 : decode cX4_flow 159 = .ok (.iload_n 2, 1) := by decide +kernel
theorem dX4_flow_160 : decode cX4_flow 160 = .ok (.iconst 1, 1) := by decide +kernel
theorem dX4_flow_161 : decode cX4_flow 161 = .ok (.if_icmp .ne 14, 3) := by decide +kernel
theorem dX4_flow_164 : decode cX4_flow 164 = .ok (.aload_n 0, 1) := by decide +kernel
theorem dX4_flow_165 : decode cX4_flow 165 = .ok (.iload_n 3, 1) := by decide +kernel
theorem dX4_flow_166 : decode cX4_flow 166 = .ok (.iload 4, 2) := by decide +kernel
theorem dX4_flow_168 : decode cX4_flow 168 = .ok (.i2l, 1) := by decide +kernel
theorem dX4_flow_169 : decode cX4_flow 169 = .ok (.iload 4, 2) := by decide +kernel
theorem dX4_flow_171 : decode cX4_flow 171 = .ok (.i2l, 1) := by decide +kernel
theorem dX4_flow_172 : decode cX4_flow 172 = .ok (.invokevirtual 89, 3) := by decide +kernel
theorem dX4_flow_175 : decode cX4_flow 175 = .ok (.iload_n 2, 1) := by decide +kernel
theorem dX4_flow_176 : decode cX4_flow 176 = .ok (.iconst 2, 1) := by decide +kernel
theorem dX4_flow_177 : decode cX4_flow 177 = .ok (.if_icmp .ne 30, 3) := by decide +kernel
theorem dX4_flow_180 : decode cX4_flow 180 = .ok (.aload_n 0, 1) := by decide +kernel
theorem dX4_flow_181 : decode cX4_flow 181 = .ok (.iload_n 3, 1) := by decide +kernel
theorem dX4_flow_182 : decode cX4_flow 182 = .ok (.aload_n 0, 1) := by decide +kernel
theorem dX4_flow_183 : decode cX4_flow 183 = .ok (.getfield 17, 3) := by decide +kernel
theorem dX4_flow_186 : decode cX4_flow 186 = .ok (.iconst 4, 1) := by decide +kernel
theorem dX4_flow_187 : decode cX4_flow 187 = .ok (.iload_n 1, 1) := by decide +kernel
theorem dX4_flow_188 : decode cX4_flow 188 = .ok (.imul, 1) := by decide +kernel
theorem dX4_flow_189 : decode cX4_flow 189 = .ok (.iload 4, 2) := by decide +kernel
theorem dX4_flow_191 : decode cX4_flow 191 = .ok (.iadd, 1) := by decide +kernel
theorem dX4_flow_192 : decode cX4_flow 192 = .ok (.laload, 1) := by decide +kernel
theorem dX4_flow_193 : decode cX4_flow 193 = .ok (.aload_n 0, 1) := by decide +kernel
theorem dX4_flow_194 : decode cX4_flow 194 = .ok (.getfield 21, 3) := by decide +kernel
theorem dX4_flow_197 : decode cX4_flow 197 = .ok (.iconst 4, 1) := by decide +kernel
theorem dX4_flow_198 : decode cX4_flow 198 = .ok (.iload_n 1, 1) := by decide +kernel
theorem dX4_flow_199 : decode cX4_flow 199 = .ok (.imul, 1) := by decide +kernel
theorem dX4_flow_200 : decode cX4_flow 200 = .ok (.iload 4, 2) := by decide +kernel
theorem dX4_flow_202 : decode cX4_flow 202 = .ok (.iadd, 1) := by decide +kernel
theorem dX4_flow_203 : decode cX4_flow 203 = .ok (.laload, 1) := by decide +kernel
theorem dX4_flow_204 : decode cX4_flow 204 = .ok (.invokevirtual 89, 3) := by decide +kernel
theorem dX4_flow_207 : decode cX4_flow 207 = .ok (.iload_n 2, 1) := by decide +kernel
theorem dX4_flow_208 : decode cX4_flow 208 = .ok (.iconst 3, 1) := by decide +kernel
theorem dX4_flow_209 : decode cX4_flow 209 = .ok (.if_icmp .lt 28, 3) := by decide +kernel
theorem dX4_flow_212 : decode cX4_flow 212 = .ok (.iload_n 2, 1) := by decide +kernel
theorem dX4_flow_213 : decode cX4_flow 213 = .ok (.bipush 6, 2) := by decide +kernel
theorem dX4_flow_215 : decode cX4_flow 215 = .ok (.if_icmp .gt 22, 3) := by decide +kernel
theorem dX4_flow_218 : decode cX4_flow 218 = .ok (.aload_n 0, 1) := by decide +kernel
theorem dX4_flow_219 : decode cX4_flow 219 = .ok (.iload_n 2, 1) := by decide +kernel
theorem dX4_flow_220 : decode cX4_flow 220 = .ok (.iload_n 1, 1) := by decide +kernel
theorem dX4_flow_221 : decode cX4_flow 221 = .ok (.iload_n 3, 1) := by decide +kernel
theorem dX4_flow_222 : decode cX4_flow 222 = .ok (.iload 4, 2) := by decide +kernel
theorem dX4_flow_224 : decode cX4_flow 224 = .ok (.aload_n 0, 1) := by decide +kernel
theorem dX4_flow_225 : decode cX4_flow 225 = .ok (.getfield 7, 3) := by decide +kernel
theorem dX4_flow_228 : decode cX4_flow 228 = .ok (.iconst 4, 1) := by decide +kernel
theorem dX4_flow_229 : decode cX4_flow 229 = .ok (.iload_n 1, 1) := by decide +kernel
theorem dX4_flow_230 : decode cX4_flow 230 = .ok (.imul, 1) := by decide +kernel
theorem dX4_flow_231 : decode cX4_flow 231 = .ok (.iconst 3, 1) := by decide +kernel
theorem dX4_flow_232 : decode cX4_flow 232 = .ok (.iadd, 1) := by decide +kernel
theorem dX4_flow_233 : decode cX4_flow 233 = .ok (.iaload, 1) := by decide +kernel
theorem dX4_flow_234 : decode cX4_flow 234 = .ok (.invokevirtual 92, 3) := by decide +kernel
theorem dX4_flow_237 : decode cX4_flow 237 = .ok (.iload_n 2, 1) := by decide +kernel
theorem dX4_flow_238 : decode cX4_flow 238 = .ok (.bipush 7, 2) := by decide +kernel
theorem dX4_flow_240 : decode cX4_flow 240 = .ok (.if_icmp .eq 9, 3) := by decide +kernel
theorem dX4_flow_243 : decode cX4_flow 243 = .ok (.iload_n 2, 1) := by decide +kernel
theorem dX4_flow_244 : decode cX4_flow 244 = .ok (.bipush 8, 2) := by decide +kernel
theorem dX4_flow_246 : decode cX4_flow 246 = .ok (.if_icmp .ne 44, 3) := by decide +kernel
theorem dX4_flow_249 : decode cX4_flow 249 = .ok (.aload_n 0, 1) := by decide +kernel
theorem dX4_flow_250 : decode cX4_flow 250 = .ok (.getfield 21, 3) := by decide +kernel
theorem dX4_flow_253 : decode cX4_flow 253 = .ok (.iconst 4, 1) := by decide +kernel
theorem dX4_flow_254 : decode cX4_flow 254 = .ok (.iload_n 1, 1) := by decide +kernel
theorem dX4_flow_255 : decode cX4_flow 255 = .ok (.imul, 1) := by decide +kernel
theorem dX4_flow_256 : decode cX4_flow 256 = .ok (.iload 4, 2) := by decide +kernel
theorem dX4_flow_258 : decode cX4_flow 258 = .ok (.iadd, 1) := by decide +kernel
theorem dX4_flow_259 : decode cX4_flow 259 = .ok (.laload, 1) := by decide +kernel
theorem dX4_flow_260 : decode cX4_flow 260 = .ok (.lconst 0, 1) := by decide +kernel
theorem dX4_flow_261 : decode cX4_flow 261 = .ok (.lcmp, 1) := by decide +kernel
theorem dX4_flow_262 : decode cX4_flow 262 = .ok (.ifCond .lt 21, 3) := by decide +kernel
theorem dX4_flow_265 : decode cX4_flow 265 = .ok (.aload_n 0, 1) := by decide +kernel
theorem dX4_flow_266 : decode cX4_flow 266 = .ok (.getfield 17, 3) := by decide +kernel
theorem dX4_flow_269 : decode cX4_flow 269 = .ok (.iconst 4, 1) := by decide +kernel
theorem dX4_flow_270 : decode cX4_flow 270 = .ok (.iload_n 1, 1) := by decide +kernel
theorem dX4_flow_271 : decode cX4_flow 271 = .ok (.imul, 1) := by decide +kernel
theorem dX4_flow_272 : decode cX4_flow 272 = .ok (.iload 4, 2) := by decide +kernel
theorem dX4_flow_274 : decode cX4_flow 274 = .ok (.iadd, 1) := by decide +kernel
theorem dX4_flow_275 : decode cX4_flow 275 = .ok (.laload, 1) := by decide +kernel
theorem dX4_flow_276 : decode cX4_flow 276 = .ok (.ldc2_w 96, 3) := by decide +kernel
theorem dX4_flow_279 : decode cX4_flow 279 = .ok (.lcmp, 1) := by decide +kernel
theorem dX4_flow_280 : decode cX4_flow 280 = .ok (.ifCond .le 10, 3) := by decide +kernel
theorem dX4_flow_283 : decode cX4_flow 283 = .ok (.aload_n 0, 1) := by decide +kernel
theorem dX4_flow_284 : decode cX4_flow 284 = .ok (.getfield 33, 3) := by decide +kernel
theorem dX4_flow_287 : decode cX4_flow 287 = .ok (.iconst 0, 1) := by decide +kernel
theorem dX4_flow_288 : decode cX4_flow 288 = .ok (.iconst 0, 1) := by decide +kernel
theorem dX4_flow_289 : decode cX4_flow 289 = .ok (.bastore, 1) := by decide +kernel
theorem dX4_flow_290 : decode cX4_flow 290 = .ok (.iload_n 2, 1) := by decide +kernel
theorem dX4_flow_291 : decode cX4_flow 291 = .ok (.bipush 7, 2) := by decide +kernel
theorem dX4_flow_293 : decode cX4_flow 293 = .ok (.if_icmp .eq 9, 3) := by decide +kernel
theorem dX4_flow_296 : decode cX4_flow 296 = .ok (.iload_n 2, 1) := by decide +kernel
theorem dX4_flow_297 : decode cX4_flow 297 = .ok (.bipush 11, 2) := by decide +kernel
theorem dX4_flow_299 : decode cX4_flow 299 = .ok (.if_icmp .ne 14, 3) := by decide +kernel
theorem dX4_flow_302 : decode cX4_flow 302 = .ok (.aload_n 0, 1) := by decide +kernel
theorem dX4_flow_303 : decode cX4_flow 303 = .ok (.iload_n 3, 1) := by decide +kernel
theorem dX4_flow_304 : decode cX4_flow 304 = .ok (.ldc2_w 66, 3) := by decide +kernel
theorem dX4_flow_307 : decode cX4_flow 307 = .ok (.ldc2_w 68, 3) := by decide +kernel
theorem dX4_flow_310 : decode cX4_flow 310 = .ok (.invokevirtual 89, 3) := by decide +kernel
theorem dX4_flow_313 : decode cX4_flow 313 = .ok (.iload_n 2, 1) := by decide +kernel
theorem dX4_flow_314 : decode cX4_flow 314 = .ok (.bipush 9, 2) := by decide +kernel
theorem dX4_flow_316 : decode cX4_flow 316 = .ok (.if_icmp .ne 11, 3) := by decide +kernel
theorem dX4_flow_319 : decode cX4_flow 319 = .ok (.aload_n 0, 1) := by decide +kernel
theorem dX4_flow_320 : decode cX4_flow 320 = .ok (.iload_n 1, 1) := by decide +kernel
theorem dX4_flow_321 : decode cX4_flow 321 = .ok (.iload_n 3, 1) := by decide +kernel
theorem dX4_flow_322 : decode cX4_flow 322 = .ok (.iload 4, 2) := by decide +kernel
theorem dX4_flow_324 : decode cX4_flow 324 = .ok (.invokevirtual 98, 3) := by decide +kernel
theorem dX4_flow_327 : decode cX4_flow 327 = .ok (.return_, 1) := by decide +kernel
theorem dX4_arrive_0 : decode cX4_arrive 0 = .ok (.aload_n 0, 1) := by decide +kernel
theorem dX4_arrive_1 : decode cX4_arrive 1 = .ok (.getfield 13, 3) := by decide +kernel
theorem dX4_arrive_4 : decode cX4_arrive 4 = .ok (.iload_n 2, 1) := by decide +kernel
theorem dX4_arrive_5 : decode cX4_arrive 5 = .ok (.baload, 1) := by decide +kernel
theorem dX4_arrive_6 : decode cX4_arrive 6 = .ok (.ifCond .ne 7, 3) := by decide +kernel
theorem dX4_arrive_9 : decode cX4_arrive 9 = .ok (.iconst 1, 1) := by decide +kernel
theorem dX4_arrive_10 : decode cX4_arrive 10 = .ok (.goto 4, 3) := by decide +kernel
theorem dX4_arrive_13 : decode cX4_arrive 13 = .ok (.iconst 0, 1) := by decide +kernel
theorem dX4_arrive_14 : decode cX4_arrive 14 = .ok (.istore 4, 2) := by decide +kernel
theorem dX4_arrive_16 : decode cX4_arrive 16 = .ok (.iconst 0, 1) := by decide +kernel
theorem dX4_arrive_17 : decode cX4_arrive 17 = .ok (.istore 5, 2) := by decide +kernel
theorem dX4_arrive_19 : decode cX4_arrive 19 = .ok (.iload 5, 2) := by decide +kernel
theorem dX4_arrive_21 : decode cX4_arrive 21 = .ok (.iconst 4, 1) := by decide +kernel
theorem dX4_arrive_22 : decode cX4_arrive 22 = .ok (.if_icmp .ge 189, 3) := by decide +kernel
theorem dX4_arrive_25 : decode cX4_arrive 25 = .ok (.aload_n 0, 1) := by decide +kernel
theorem dX4_arrive_26 : decode cX4_arrive 26 = .ok (.getfield 13, 3) := by decide +kernel
theorem dX4_arrive_29 : decode cX4_arrive 29 = .ok (.iload_n 2, 1) := by decide +kernel
theorem dX4_arrive_30 : decode cX4_arrive 30 = .ok (.baload, 1) := by decide +kernel
theorem dX4_arrive_31 : decode cX4_arrive 31 = .ok (.ifCond .ne 50, 3) := by decide +kernel
theorem dX4_arrive_34 : decode cX4_arrive 34 = .ok (.aload_n 0, 1) := by decide +kernel
theorem dX4_arrive_35 : decode cX4_arrive 35 = .ok (.getfield 17, 3) := by decide +kernel
theorem dX4_arrive_38 : decode cX4_arrive 38 = .ok (.iconst 4, 1) := by decide +kernel
theorem dX4_arrive_39 : decode cX4_arrive 39 = .ok (.iload_n 2, 1) := by decide +kernel
theorem dX4_arrive_40 : decode cX4_arrive 40 = .ok (.imul, 1) := by decide +kernel
theorem dX4_arrive_41 : decode cX4_arrive 41 = .ok (.iload 5, 2) := by decide +kernel
theorem dX4_arrive_43 : decode cX4_arrive 43 = .ok (.iadd, 1) := by decide +kernel
theorem dX4_arrive_44 : decode cX4_arrive 44 = .ok (.aload_n 0, 1) := by decide +kernel
theorem dX4_arrive_45 : decode cX4_arrive 45 = .ok (.getfield 36, 3) := by decide +kernel
theorem dX4_arrive_48 : decode cX4_arrive 48 = .ok (.iconst 4, 1) := by decide +kernel
theorem dX4_arrive_49 : decode cX4_arrive 49 = .ok (.iload_n 3, 1) := by decide +kernel
theorem dX4_arrive_50 : decode cX4_arrive 50 = .ok (.imul, 1) := by decide +kernel
theorem dX4_arrive_51 : decode cX4_arrive 51 = .ok (.iload 5, 2) := by decide +kernel
theorem dX4_arrive_53 : decode cX4_arrive 53 = .ok (.iadd, 1) := by decide +kernel
theorem dX4_arrive_54 : decode cX4_arrive 54 = .ok (.laload, 1) := by decide +kernel
theorem dX4_arrive_55 : decode cX4_arrive 55 = .ok (.lastore, 1) := by decide +kernel
theorem dX4_arrive_56 : decode cX4_arrive 56 = .ok (.aload_n 0, 1) := by decide +kernel
theorem dX4_arrive_57 : decode cX4_arrive 57 = .ok (.getfield 21, 3) := by decide +kernel
theorem dX4_arrive_60 : decode cX4_arrive 60 = .ok (.iconst 4, 1) := by decide +kernel
theorem dX4_arrive_61 : decode cX4_arrive 61 = .ok (.iload_n 2, 1) := by decide +kernel
theorem dX4_arrive_62 : decode cX4_arrive 62 = .ok (.imul, 1) := by decide +kernel
theorem dX4_arrive_63 : decode cX4_arrive 63 = .ok (.iload 5, 2) := by decide +kernel
theorem dX4_arrive_65 : decode cX4_arrive 65 = .ok (.iadd, 1) := by decide +kernel
theorem dX4_arrive_66 : decode cX4_arrive 66 = .ok (.aload_n 0, 1) := by decide +kernel
theorem dX4_arrive_67 : decode cX4_arrive 67 = .ok (.getfield 39, 3) := by decide +kernel
theorem dX4_arrive_70 : decode cX4_arrive 70 = .ok (.iconst 4, 1) := by decide +kernel
theorem dX4_arrive_71 : decode cX4_arrive 71 = .ok (.iload_n 3, 1) := by decide +kernel
theorem dX4_arrive_72 : decode cX4_arrive 72 = .ok (.imul, 1) := by decide +kernel
theorem dX4_arrive_73 : decode cX4_arrive 73 = .ok (.iload 5, 2) := by decide +kernel
theorem dX4_arrive_75 : decode cX4_arrive 75 = .ok (.iadd, 1) := by decide +kernel
theorem dX4_arrive_76 : decode cX4_arrive 76 = .ok (.laload, 1) := by decide +kernel
theorem dX4_arrive_77 : decode cX4_arrive 77 = .ok (.lastore, 1) := by decide +kernel
theorem dX4_arrive_78 : decode cX4_arrive 78 = .ok (.goto 127, 3) := by decide +kernel
theorem dX4_arrive_81 : decode cX4_arrive 81 = .ok (.aload_n 0, 1) := by decide +kernel
theorem dX4_arrive_82 : decode cX4_arrive 82 = .ok (.getfield 36, 3) := by decide +kernel
theorem dX4_arrive_85 : decode cX4_arrive 85 = .ok (.iconst 4, 1) := by decide +kernel
theorem dX4_arrive_86 : decode cX4_arrive 86 = .ok (.iload_n 3, 1) := by decide +kernel
theorem dX4_arrive_87 : decode cX4_arrive 87 = .ok (.imul, 1) := by decide +kernel
theorem dX4_arrive_88 : decode cX4_arrive 88 = .ok (.iload 5, 2) := by decide +kernel
theorem dX4_arrive_90 : decode cX4_arrive 90 = .ok (.iadd, 1) := by decide +kernel
theorem dX4_arrive_91 : decode cX4_arrive 91 = .ok (.laload, 1) := by decide +kernel
theorem dX4_arrive_92 : decode cX4_arrive 92 = .ok (.aload_n 0, 1) := by decide +kernel
theorem dX4_arrive_93 : decode cX4_arrive 93 = .ok (.getfield 17, 3) := by decide +kernel
theorem dX4_arrive_96 : decode cX4_arrive 96 = .ok (.iconst 4, 1) := by decide +kernel
theorem dX4_arrive_97 : decode cX4_arrive 97 = .ok (.iload_n 2, 1) := by decide +kernel
theorem dX4_arrive_98 : decode cX4_arrive 98 = .ok (.imul, 1) := by decide +kernel
theorem dX4_arrive_99 : decode cX4_arrive 99 = .ok (.iload 5, 2) := by decide +kernel
theorem dX4_arrive_101 : decode cX4_arrive 101 = .ok (.iadd, 1) := by decide +kernel
theorem dX4_arrive_102 : decode cX4_arrive 102 = .ok (.laload, 1) := by decide +kernel
theorem dX4_arrive_103 : decode cX4_arrive 103 = .ok (.lcmp, 1) := by decide +kernel
theorem dX4_arrive_104 : decode cX4_arrive 104 = .ok (.ifCond .ge 39, 3) := by decide +kernel
theorem dX4_arrive_107 : decode cX4_arrive 107 = .ok (.aload_n 0, 1) := by decide +kernel
theorem dX4_arrive_108 : decode cX4_arrive 108 = .ok (.getfield 17, 3) := by decide +kernel
theorem dX4_arrive_111 : decode cX4_arrive 111 = .ok (.iconst 4, 1) := by decide +kernel
theorem dX4_arrive_112 : decode cX4_arrive 112 = .ok (.iload_n 2, 1) := by decide +kernel
theorem dX4_arrive_113 : decode cX4_arrive 113 = .ok (.imul, 1) := by decide +kernel
theorem dX4_arrive_114 : decode cX4_arrive 114 = .ok (.iload 5, 2) := by decide +kernel
theorem dX4_arrive_116 : decode cX4_arrive 116 = .ok (.iadd, 1) := by decide +kernel
theorem dX4_arrive_117 : decode cX4_arrive 117 = .ok (.iload_n 2, 1) := by decide +kernel
theorem dX4_arrive_118 : decode cX4_arrive 118 = .ok (.iload_n 1, 1) := by decide +kernel
theorem dX4_arrive_119 : decode cX4_arrive 119 = .ok (.if_icmp .gt 9, 3) := by decide +kernel
theorem dX4_arrive_122 : decode cX4_arrive 122 = .ok (.ldc2_w 66, 3) := by decide +kernel
theorem dX4_arrive_125 : decode cX4_arrive 125 = .ok (.goto 14, 3) := by decide +kernel
theorem dX4_arrive_128 : decode cX4_arrive 128 = .ok (.aload_n 0, 1) := by decide +kernel
theorem dX4_arrive_129 : decode cX4_arrive 129 = .ok (.getfield 36, 3) := by decide +kernel
theorem dX4_arrive_132 : decode cX4_arrive 132 = .ok (.iconst 4, 1) := by decide +kernel
theorem dX4_arrive_133 : decode cX4_arrive 133 = .ok (.iload_n 3, 1) := by decide +kernel
theorem dX4_arrive_134 : decode cX4_arrive 134 = .ok (.imul, 1) := by decide +kernel
theorem dX4_arrive_135 : decode cX4_arrive 135 = .ok (.iload 5, 2) := by decide +kernel
theorem dX4_arrive_137 : decode cX4_arrive 137 = .ok (.iadd, 1) := by decide +kernel
theorem dX4_arrive_138 : decode cX4_arrive 138 = .ok (.laload, 1) := by decide +kernel
theorem dX4_arrive_139 : decode cX4_arrive 139 = .ok (.lastore, 1) := by decide +kernel
theorem dX4_arrive_140 : decode cX4_arrive 140 = .ok (.iconst 1, 1) := by decide +kernel
theorem dX4_arrive_141 : decode cX4_arrive 141 = .ok (.istore 4, 2) := by decide +kernel
theorem dX4_arrive_143 : decode cX4_arrive 143 = .ok (.aload_n 0, 1) := by decide +kernel
theorem dX4_arrive_144 : decode cX4_arrive 144 = .ok (.getfield 39, 3) := by decide +kernel
theorem dX4_arrive_147 : decode cX4_arrive 147 = .ok (.iconst 4, 1) := by decide +kernel
theorem dX4_arrive_148 : decode cX4_arrive 148 = .ok (.iload_n 3, 1) := by decide +kernel
theorem dX4_arrive_149 : decode cX4_arrive 149 = .ok (.imul, 1) := by decide +kernel
theorem dX4_arrive_150 : decode cX4_arrive 150 = .ok (.iload 5, 2) := by decide +kernel
theorem dX4_arrive_152 : decode cX4_arrive 152 = .ok (.iadd, 1) := by decide +kernel
theorem dX4_arrive_153 : decode cX4_arrive 153 = .ok (.laload, 1) := by decide +kernel
theorem dX4_arrive_154 : decode cX4_arrive 154 = .ok (.aload_n 0, 1) := by decide +kernel
theorem dX4_arrive_155 : decode cX4_arrive 155 = .ok (.getfield 21, 3) := by decide +kernel
theorem dX4_arrive_158 : decode cX4_arrive 158 = .ok (.iconst 4, 1) := by decide +kernel
theorem dX4_arrive_159 : decode cX4_arrive 159 = .ok (.iload_n 2, 1) := by decide +kernel
theorem dX4_arrive_160 : decode cX4_arrive 160 = .ok (.imul, 1) := by decide +kernel
theorem dX4_arrive_161 : decode cX4_arrive 161 = .ok (.iload 5, 2) := by decide +kernel
theorem dX4_arrive_163 : decode cX4_arrive 163 = .ok (.iadd, 1) := by decide +kernel
theorem dX4_arrive_164 : decode cX4_arrive 164 = .ok (.laload, 1) := by decide +kernel
theorem dX4_arrive_165 : decode cX4_arrive 165 = .ok (.lcmp, 1) := by decide +kernel
theorem dX4_arrive_166 : decode cX4_arrive 166 = .ok (.ifCond .le 39, 3) := by decide +kernel
theorem dX4_arrive_169 : decode cX4_arrive 169 = .ok (.aload_n 0, 1) := by decide +kernel
theorem dX4_arrive_170 : decode cX4_arrive 170 = .ok (.getfield 21, 3) := by decide +kernel
theorem dX4_arrive_173 : decode cX4_arrive 173 = .ok (.iconst 4, 1) := by decide +kernel
theorem dX4_arrive_174 : decode cX4_arrive 174 = .ok (.iload_n 2, 1) := by decide +kernel
theorem dX4_arrive_175 : decode cX4_arrive 175 = .ok (.imul, 1) := by decide +kernel
theorem dX4_arrive_176 : decode cX4_arrive 176 = .ok (.iload 5, 2) := by decide +kernel
theorem dX4_arrive_178 : decode cX4_arrive 178 = .ok (.iadd, 1) := by decide +kernel
theorem dX4_arrive_179 : decode cX4_arrive 179 = .ok (.iload_n 2, 1) := by decide +kernel
theorem dX4_arrive_180 : decode cX4_arrive 180 = .ok (.iload_n 1, 1) := by decide +kernel
theorem dX4_arrive_181 : decode cX4_arrive 181 = .ok (.if_icmp .gt 9, 3) := by decide +kernel
theorem dX4_arrive_184 : decode cX4_arrive 184 = .ok (.ldc2_w 68, 3) := by decide +kernel
theorem dX4_arrive_187 : decode cX4_arrive 187 = .ok (.goto 14, 3) := by decide +kernel
theorem dX4_arrive_190 : decode cX4_arrive 190 = .ok (.aload_n 0, 1) := by decide +kernel
theorem dX4_arrive_191 : decode cX4_arrive 191 = .ok (.getfield 39, 3) := by decide +kernel
theorem dX4_arrive_194 : decode cX4_arrive 194 = .ok (.iconst 4, 1) := by decide +kernel
theorem dX4_arrive_195 : decode cX4_arrive 195 = .ok (.iload_n 3, 1) := by decide +kernel
theorem dX4_arrive_196 : decode cX4_arrive 196 = .ok (.imul, 1) := by decide +kernel
theorem dX4_arrive_197 : decode cX4_arrive 197 = .ok (.iload 5, 2) := by decide +kernel
theorem dX4_arrive_199 : decode cX4_arrive 199 = .ok (.iadd, 1) := by decide +kernel
theorem dX4_arrive_200 : decode cX4_arrive 200 = .ok (.laload, 1) := by decide +kernel
theorem dX4_arrive_201 : decode cX4_arrive 201 = .ok (.lastore, 1) := by decide +kernel
theorem dX4_arrive_202 : decode cX4_arrive 202 = .ok (.iconst 1, 1) := by decide +kernel
theorem dX4_arrive_203 : decode cX4_arrive 203 = .ok (.istore 4, 2) := by decide +kernel
theorem dX4_arrive_205 : decode cX4_arrive 205 = .ok (.iinc 5 1, 3) := by decide +kernel
theorem dX4_arrive_208 : decode cX4_arrive 208 = .ok (.goto (-189), 3) := by decide +kernel
theorem dX4_arrive_211 : decode cX4_arrive 211 = .ok (.aload_n 0, 1) := by decide +kernel
theorem dX4_arrive_212 : decode cX4_arrive 212 = .ok (.getfield 13, 3) := by decide +kernel
theorem dX4_arrive_215 : decode cX4_arrive 215 = .ok (.iload_n 2, 1) := by decide +kernel
theorem dX4_arrive_216 : decode cX4_arrive 216 = .ok (.iconst 1, 1) := by decide +kernel
theorem dX4_arrive_217 : decode cX4_arrive 217 = .ok (.bastore, 1) := by decide +kernel
theorem dX4_arrive_218 : decode cX4_arrive 218 = .ok (.iload 4, 2) := by decide +kernel
theorem dX4_arrive_220 : decode cX4_arrive 220 = .ok (.ireturn, 1) := by decide +kernel
theorem dX4_target_0 : decode cX4_target 0 = .ok (.iload_n 2, 1) := by decide +kernel
theorem dX4_target_1 : decode cX4_target 1 = .ok (.ifCond .ne 9, 3) := by decide +kernel
theorem dX4_target_4 : decode cX4_target 4 = .ok (.iload_n 1, 1) := by decide +kernel
theorem dX4_target_5 : decode cX4_target 5 = .ok (.iconst 1, 1) := by decide +kernel
theorem dX4_target_6 : decode cX4_target 6 = .ok (.iadd, 1) := by decide +kernel
theorem dX4_target_7 : decode cX4_target 7 = .ok (.goto 13, 3) := by decide +kernel
theorem dX4_target_10 : decode cX4_target 10 = .ok (.aload_n 0, 1) := by decide +kernel
theorem dX4_target_11 : decode cX4_target 11 = .ok (.getfield 7, 3) := by decide +kernel
theorem dX4_target_14 : decode cX4_target 14 = .ok (.iconst 4, 1) := by decide +kernel
theorem dX4_target_15 : decode cX4_target 15 = .ok (.iload_n 1, 1) := by decide +kernel
