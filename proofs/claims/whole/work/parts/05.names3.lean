theorem dX8_markedTrees_32 : decode cX8_markedTrees 32 = .ok (.iinc 1 1, 3) := by decide +kernel
theorem dX8_markedTrees_35 : decode cX8_markedTrees 35 = .ok (.iinc 2 1, 3) := by decide +kernel
theorem dX8_markedTrees_38 : decode cX8_markedTrees 38 = .ok (.goto (-34), 3) := by decide +kernel
theorem dX8_markedTrees_41 : decode cX8_markedTrees 41 = .ok (.iload_n 1, 1) := by decide +kernel
theorem dX8_markedTrees_42 : decode cX8_markedTrees 42 = .ok (.ireturn, 1) := by decide +kernel
theorem dX9_init_0 : decode cX9_init 0 = .ok (.aload_n 0, 1) := by decide +kernel
theorem dX9_init_1 : decode cX9_init 1 = .ok (.invokespecial 1, 3) := by decide +kernel
theorem dX9_init_4 : decode cX9_init 4 = .ok (.aload_n 0, 1) := by decide +kernel
theorem dX9_init_5 : decode cX9_init 5 = .ok (.bipush 40, 2) := by decide +kernel
theorem dX9_init_7 : decode cX9_init 7 = .ok (.newarray .int, 2) := by decide +kernel
theorem dX9_init_9 : decode cX9_init 9 = .ok (.putfield 9, 3) := by decide +kernel
theorem dX9_init_12 : decode cX9_init 12 = .ok (.aload_n 0, 1) := by decide +kernel
theorem dX9_init_13 : decode cX9_init 13 = .ok (.bipush 40, 2) := by decide +kernel
theorem dX9_init_15 : decode cX9_init 15 = .ok (.newarray .int, 2) := by decide +kernel
theorem dX9_init_17 : decode cX9_init 17 = .ok (.putfield 13, 3) := by decide +kernel
theorem dX9_init_20 : decode cX9_init 20 = .ok (.aload_n 0, 1) := by decide +kernel
theorem dX9_init_21 : decode cX9_init 21 = .ok (.bipush 40, 2) := by decide +kernel
theorem dX9_init_23 : decode cX9_init 23 = .ok (.newarray .int, 2) := by decide +kernel
theorem dX9_init_25 : decode cX9_init 25 = .ok (.putfield 16, 3) := by decide +kernel
theorem dX9_init_28 : decode cX9_init 28 = .ok (.aload_n 0, 1) := by decide +kernel
theorem dX9_init_29 : decode cX9_init 29 = .ok (.bipush 40, 2) := by decide +kernel
theorem dX9_init_31 : decode cX9_init 31 = .ok (.newarray .int, 2) := by decide +kernel
theorem dX9_init_33 : decode cX9_init 33 = .ok (.putfield 19, 3) := by decide +kernel
theorem dX9_init_36 : decode cX9_init 36 = .ok (.aload_n 0, 1) := by decide +kernel
theorem dX9_init_37 : decode cX9_init 37 = .ok (.bipush 40, 2) := by decide +kernel
theorem dX9_init_39 : decode cX9_init 39 = .ok (.newarray .int, 2) := by decide +kernel
theorem dX9_init_41 : decode cX9_init 41 = .ok (.putfield 22, 3) := by decide +kernel
theorem dX9_init_44 : decode cX9_init 44 = .ok (.aload_n 0, 1) := by decide +kernel
theorem dX9_init_45 : decode cX9_init 45 = .ok (.bipush 40, 2) := by decide +kernel
theorem dX9_init_47 : decode cX9_init 47 = .ok (.newarray .boolean, 2) := by decide +kernel
theorem dX9_init_49 : decode cX9_init 49 = .ok (.putfield 25, 3) := by decide +kernel
theorem dX9_init_52 : decode cX9_init 52 = .ok (.aload_n 0, 1) := by decide +kernel
theorem dX9_init_53 : decode cX9_init 53 = .ok (.bipush 40, 2) := by decide +kernel
theorem dX9_init_55 : decode cX9_init 55 = .ok (.newarray .int, 2) := by decide +kernel
theorem dX9_init_57 : decode cX9_init 57 = .ok (.putfield 29, 3) := by decide +kernel
theorem dX9_init_60 : decode cX9_init 60 = .ok (.aload_n 0, 1) := by decide +kernel
theorem dX9_init_61 : decode cX9_init 61 = .ok (.bipush 40, 2) := by decide +kernel
theorem dX9_init_63 : decode cX9_init 63 = .ok (.newarray .int, 2) := by decide +kernel
theorem dX9_init_65 : decode cX9_init 65 = .ok (.putfield 32, 3) := by decide +kernel
theorem dX9_init_68 : decode cX9_init 68 = .ok (.aload_n 0, 1) := by decide +kernel
theorem dX9_init_69 : decode cX9_init 69 = .ok (.bipush 40, 2) := by decide +kernel
theorem dX9_init_71 : decode cX9_init 71 = .ok (.newarray .int, 2) := by decide +kernel
theorem dX9_init_73 : decode cX9_init 73 = .ok (.putfield 35, 3) := by decide +kernel
theorem dX9_init_76 : decode cX9_init 76 = .ok (.aload_n 0, 1) := by decide +kernel
theorem dX9_init_77 : decode cX9_init 77 = .ok (.bipush 40, 2) := by decide +kernel
theorem dX9_init_79 : decode cX9_init 79 = .ok (.newarray .int, 2) := by decide +kernel
theorem dX9_init_81 : decode cX9_init 81 = .ok (.putfield 38, 3) := by decide +kernel
theorem dX9_init_84 : decode cX9_init 84 = .ok (.aload_n 0, 1) := by decide +kernel
theorem dX9_init_85 : decode cX9_init 85 = .ok (.bipush 6, 2) := by decide +kernel
theorem dX9_init_87 : decode cX9_init 87 = .ok (.newarray .int, 2) := by decide +kernel
theorem dX9_init_89 : decode cX9_init 89 = .ok (.dup, 1) := by decide +kernel
theorem dX9_init_90 : decode cX9_init 90 = .ok (.iconst 0, 1) := by decide +kernel
theorem dX9_init_91 : decode cX9_init 91 = .ok (.bipush 9, 2) := by decide +kernel
theorem dX9_init_93 : decode cX9_init 93 = .ok (.iastore, 1) := by decide +kernel
theorem dX9_init_94 : decode cX9_init 94 = .ok (.dup, 1) := by decide +kernel
theorem dX9_init_95 : decode cX9_init 95 = .ok (.iconst 1, 1) := by decide +kernel
theorem dX9_init_96 : decode cX9_init 96 = .ok (.bipush 70, 2) := by decide +kernel
theorem dX9_init_98 : decode cX9_init 98 = .ok (.iastore, 1) := by decide +kernel
theorem dX9_init_99 : decode cX9_init 99 = .ok (.dup, 1) := by decide +kernel
theorem dX9_init_100 : decode cX9_init 100 = .ok (.iconst 2, 1) := by decide +kernel
theorem dX9_init_101 : decode cX9_init 101 = .ok (.sipush 250, 3) := by decide +kernel
theorem dX9_init_104 : decode cX9_init 104 = .ok (.iastore, 1) := by decide +kernel
theorem dX9_init_105 : decode cX9_init 105 = .ok (.dup, 1) := by decide +kernel
theorem dX9_init_106 : decode cX9_init 106 = .ok (.iconst 3, 1) := by decide +kernel
theorem dX9_init_107 : decode cX9_init 107 = .ok (.sipush 200, 3) := by decide +kernel
theorem dX9_init_110 : decode cX9_init 110 = .ok (.iastore, 1) := by decide +kernel
theorem dX9_init_111 : decode cX9_init 111 = .ok (.dup, 1) := by decide +kernel
theorem dX9_init_112 : decode cX9_init 112 = .ok (.iconst 4, 1) := by decide +kernel
theorem dX9_init_113 : decode cX9_init 113 = .ok (.iconst 5, 1) := by decide +kernel
theorem dX9_init_114 : decode cX9_init 114 = .ok (.iastore, 1) := by decide +kernel
theorem dX9_init_115 : decode cX9_init 115 = .ok (.dup, 1) := by decide +kernel
theorem dX9_init_116 : decode cX9_init 116 = .ok (.iconst 5, 1) := by decide +kernel
theorem dX9_init_117 : decode cX9_init 117 = .ok (.sipush 270, 3) := by decide +kernel
theorem dX9_init_120 : decode cX9_init 120 = .ok (.iastore, 1) := by decide +kernel
theorem dX9_init_121 : decode cX9_init 121 = .ok (.putfield 41, 3) := by decide +kernel
theorem dX9_init_124 : decode cX9_init 124 = .ok (.aload_n 0, 1) := by decide +kernel
theorem dX9_init_125 : decode cX9_init 125 = .ok (.bipush 6, 2) := by decide +kernel
theorem dX9_init_127 : decode cX9_init 127 = .ok (.newarray .int, 2) := by decide +kernel
theorem dX9_init_129 : decode cX9_init 129 = .ok (.putfield 44, 3) := by decide +kernel
theorem dX9_init_132 : decode cX9_init 132 = .ok (.aload_n 0, 1) := by decide +kernel
theorem dX9_init_133 : decode cX9_init 133 = .ok (.sipush 1200, 3) := by decide +kernel
theorem dX9_init_136 : decode cX9_init 136 = .ok (.newarray .int, 2) := by decide +kernel
theorem dX9_init_138 : decode cX9_init 138 = .ok (.putfield 47, 3) := by decide +kernel
theorem dX9_init_141 : decode cX9_init 141 = .ok (.aload_n 0, 1) := by decide +kernel
theorem dX9_init_142 : decode cX9_init 142 = .ok (.bipush 40, 2) := by decide +kernel
theorem dX9_init_144 : decode cX9_init 144 = .ok (.newarray .int, 2) := by decide +kernel
theorem dX9_init_146 : decode cX9_init 146 = .ok (.putfield 50, 3) := by decide +kernel
theorem dX9_init_149 : decode cX9_init 149 = .ok (.aload_n 0, 1) := by decide +kernel
theorem dX9_init_150 : decode cX9_init 150 = .ok (.sipush 320, 3) := by decide +kernel
theorem dX9_init_153 : decode cX9_init 153 = .ok (.newarray .int, 2) := by decide +kernel
theorem dX9_init_155 : decode cX9_init 155 = .ok (.putfield 53, 3) := by decide +kernel
theorem dX9_init_158 : decode cX9_init 158 = .ok (.aload_n 0, 1) := by decide +kernel
theorem dX9_init_159 : decode cX9_init 159 = .ok (.bipush 40, 2) := by decide +kernel
theorem dX9_init_161 : decode cX9_init 161 = .ok (.newarray .int, 2) := by decide +kernel
theorem dX9_init_163 : decode cX9_init 163 = .ok (.putfield 56, 3) := by decide +kernel
theorem dX9_init_166 : decode cX9_init 166 = .ok (.aload_n 0, 1) := by decide +kernel
theorem dX9_init_167 : decode cX9_init 167 = .ok (.bipush 40, 2) := by decide +kernel
theorem dX9_init_169 : decode cX9_init 169 = .ok (.newarray .int, 2) := by decide +kernel
theorem dX9_init_171 : decode cX9_init 171 = .ok (.putfield 59, 3) := by decide +kernel
theorem dX9_init_174 : decode cX9_init 174 = .ok (.aload_n 0, 1) := by decide +kernel
theorem dX9_init_175 : decode cX9_init 175 = .ok (.sipush 400, 3) := by decide +kernel
theorem dX9_init_178 : decode cX9_init 178 = .ok (.newarray .byte, 2) := by decide +kernel
theorem dX9_init_180 : decode cX9_init 180 = .ok (.putfield 62, 3) := by decide +kernel
theorem dX9_init_183 : decode cX9_init 183 = .ok (.aload_n 0, 1) := by decide +kernel
theorem dX9_init_184 : decode cX9_init 184 = .ok (.iconst 5, 1) := by decide +kernel
theorem dX9_init_185 : decode cX9_init 185 = .ok (.newarray .int, 2) := by decide +kernel
theorem dX9_init_187 : decode cX9_init 187 = .ok (.putfield 66, 3) := by decide +kernel
theorem dX9_init_190 : decode cX9_init 190 = .ok (.aload_n 0, 1) := by decide +kernel
theorem dX9_init_191 : decode cX9_init 191 = .ok (.iconst (-1), 1) := by decide +kernel
theorem dX9_init_192 : decode cX9_init 192 = .ok (.putfield 69, 3) := by decide +kernel
theorem dX9_init_195 : decode cX9_init 195 = .ok (.aload_n 0, 1) := by decide +kernel
theorem dX9_init_196 : decode cX9_init 196 = .ok (.iconst 1, 1) := by decide +kernel
theorem dX9_init_197 : decode cX9_init 197 = .ok (.putfield 73, 3) := by decide +kernel
theorem dX9_init_200 : decode cX9_init 200 = .ok (.aload_n 0, 1) := by decide +kernel
theorem dX9_init_201 : decode cX9_init 201 = .ok (.bipush 60, 2) := by decide +kernel
theorem dX9_init_203 : decode cX9_init 203 = .ok (.newarray .boolean, 2) := by decide +kernel
theorem dX9_init_205 : decode cX9_init 205 = .ok (.putfield 76, 3) := by decide +kernel
theorem dX9_init_208 : decode cX9_init 208 = .ok (.aload_n 0, 1) := by decide +kernel
theorem dX9_init_209 : decode cX9_init 209 = .ok (.bipush 6, 2) := by decide +kernel
theorem dX9_init_211 : decode cX9_init 211 = .ok (.newarray .int, 2) := by decide +kernel
theorem dX9_init_213 : decode cX9_init 213 = .ok (.putfield 79, 3) := by decide +kernel
theorem dX9_init_216 : decode cX9_init 216 = .ok (.aload_n 0, 1) := by decide +kernel
theorem dX9_init_217 : decode cX9_init 217 = .ok (.bipush 6, 2) := by decide +kernel
theorem dX9_init_219 : decode cX9_init 219 = .ok (.newarray .int, 2) := by decide +kernel
theorem dX9_init_221 : decode cX9_init 221 = .ok (.putfield 82, 3) := by decide +kernel
theorem dX9_init_224 : decode cX9_init 224 = .ok (.aload_n 0, 1) := by decide +kernel
theorem dX9_init_225 : decode cX9_init 225 = .ok (.bipush 6, 2) := by decide +kernel
theorem dX9_init_227 : decode cX9_init 227 = .ok (.newarray .int, 2) := by decide +kernel
theorem dX9_init_229 : decode cX9_init 229 = .ok (.putfield 85, 3) := by decide +kernel
theorem dX9_init_232 : decode cX9_init 232 = .ok (.aload_n 0, 1) := by decide +kernel
theorem dX9_init_233 : decode cX9_init 233 = .ok (.bipush 61, 2) := by decide +kernel
theorem dX9_init_235 : decode cX9_init 235 = .ok (.newarray .int, 2) := by decide +kernel
theorem dX9_init_237 : decode cX9_init 237 = .ok (.putfield 88, 3) := by decide +kernel
theorem dX9_init_240 : decode cX9_init 240 = .ok (.aload_n 0, 1) := by decide +kernel
theorem dX9_init_241 : decode cX9_init 241 = .ok (.bipush 61, 2) := by decide +kernel
theorem dX9_init_243 : decode cX9_init 243 = .ok (.newarray .int, 2) := by decide +kernel
theorem dX9_init_245 : decode cX9_init 245 = .ok (.putfield 91, 3) := by decide +kernel
theorem dX9_init_248 : decode cX9_init 248 = .ok (.aload_n 0, 1) := by decide +kernel
theorem dX9_init_249 : decode cX9_init 249 = .ok (.bipush 6, 2) := by decide +kernel
theorem dX9_init_251 : decode cX9_init 251 = .ok (.newarray .int, 2) := by decide +kernel
theorem dX9_init_253 : decode cX9_init 253 = .ok (.putfield 94, 3) := by decide +kernel
theorem dX9_init_256 : decode cX9_init 256 = .ok (.aload_n 0, 1) := by decide +kernel
theorem dX9_init_257 : decode cX9_init 257 = .ok (.bipush 6, 2) := by decide +kernel
theorem dX9_init_259 : decode cX9_init 259 = .ok (.newarray .int, 2) := by decide +kernel
theorem dX9_init_261 : decode cX9_init 261 = .ok (.putfield 97, 3) := by decide +kernel
theorem dX9_init_264 : decode cX9_init 264 = .ok (.aload_n 0, 1) := by decide +kernel
theorem dX9_init_265 : decode cX9_init 265 = .ok (.bipush 9, 2) := by decide +kernel
theorem dX9_init_267 : decode cX9_init 267 = .ok (.newarray .int, 2) := by decide +kernel
theorem dX9_init_269 : decode cX9_init 269 = .ok (.putfield 100, 3) := by decide +kernel
theorem dX9_init_272 : decode cX9_init 272 = .ok (.aload_n 0, 1) := by decide +kernel
theorem dX9_init_273 : decode cX9_init 273 = .ok (.bipush 6, 2) := by decide +kernel
theorem dX9_init_275 : decode cX9_init 275 = .ok (.newarray .int, 2) := by decide +kernel
theorem dX9_init_277 : decode cX9_init 277 = .ok (.putfield 103, 3) := by decide +kernel
theorem dX9_init_280 : decode cX9_init 280 = .ok (.return_, 1) := by decide +kernel
theorem dX9_thrown_0 : decode cX9_thrown 0 = .ok (.aload_n 0, 1) := by decide +kernel
theorem dX9_thrown_1 : decode cX9_thrown 1 = .ok (.getfield 106, 3) := by decide +kernel
theorem dX9_thrown_4 : decode cX9_thrown 4 = .ok (.ireturn, 1) := by decide +kernel
theorem dX9_throwsIf_0 : decode cX9_throwsIf 0 = .ok (.iload_n 1, 1) := by decide +kernel
theorem dX9_throwsIf_1 : decode cX9_throwsIf 1 = .ok (.ifCond .eq 8, 3) := by decide +kernel
theorem dX9_throwsIf_4 : decode cX9_throwsIf 4 = .ok (.aload_n 0, 1) := by decide +kernel
theorem dX9_throwsIf_5 : decode cX9_throwsIf 5 = .ok (.iload_n 2, 1) := by decide +kernel
theorem dX9_throwsIf_6 : decode cX9_throwsIf 6 = .ok (.putfield 106, 3) := by decide +kernel
theorem dX9_throwsIf_9 : decode cX9_throwsIf 9 = .ok (.iload_n 1, 1) := by decide +kernel
theorem dX9_throwsIf_10 : decode cX9_throwsIf 10 = .ok (.ireturn, 1) := by decide +kernel
theorem dX9_in_0 : decode cX9_in 0 = .ok (.iload_n 0, 1) := by decide +kernel
theorem dX9_in_1 : decode cX9_in 1 = .ok (.iload_n 1, 1) := by decide +kernel
theorem dX9_in_2 : decode cX9_in 2 = .ok (.if_icmp .lt 12, 3) := by decide +kernel
theorem dX9_in_5 : decode cX9_in 5 = .ok (.iload_n 0, 1) := by decide +kernel
theorem dX9_in_6 : decode cX9_in 6 = .ok (.iload_n 2, 1) := by decide +kernel
theorem dX9_in_7 : decode cX9_in 7 = .ok (.if_icmp .gt 7, 3) := by decide +kernel
theorem dX9_in_10 : decode cX9_in 10 = .ok (.iconst 1, 1) := by decide +kernel
theorem dX9_in_11 : decode cX9_in 11 = .ok (.goto 4, 3) := by decide +kernel
theorem dX9_in_14 : decode cX9_in 14 = .ok (.iconst 0, 1) := by decide +kernel
theorem dX9_in_15 : decode cX9_in 15 = .ok (.ireturn, 1) := by decide +kernel
set_option maxRecDepth 20000 in
theorem ggX9_noTree_X9_in : GoodIn wsX9_noTree wsX9_in := goodIn_r _ [5] (by decide +kernel) (by decide +kernel)
set_option maxRecDepth 20000 in
theorem gX9_noTree_X9_in : GoodIn wsX9_noTree (va_wsS RX9 112 yX9_in wsX9_in) := goodIn_app (goodIn_of _ (by decide +kernel)) ggX9_noTree_X9_in
theorem dX9_noTree_0 : decode cX9_noTree 0 = .ok (.iload_n 1, 1) := by decide +kernel
theorem dX9_noTree_1 : decode cX9_noTree 1 = .ok (.iconst 0, 1) := by decide +kernel
theorem dX9_noTree_2 : decode cX9_noTree 2 = .ok (.aload_n 0, 1) := by decide +kernel
theorem dX9_noTree_3 : decode cX9_noTree 3 = .ok (.getfield 109, 3) := by decide +kernel
theorem dX9_noTree_6 : decode cX9_noTree 6 = .ok (.iconst 1, 1) := by decide +kernel
theorem dX9_noTree_7 : decode cX9_noTree 7 = .ok (.isub, 1) := by decide +kernel
theorem dX9_noTree_8 : decode cX9_noTree 8 = .ok (.invokestatic 112, 3) := by decide +kernel
theorem dX9_noTree_11 : decode cX9_noTree 11 = .ok (.ifCond .ne 7, 3) := by decide +kernel
theorem dX9_noTree_14 : decode cX9_noTree 14 = .ok (.iconst 1, 1) := by decide +kernel
theorem dX9_noTree_15 : decode cX9_noTree 15 = .ok (.goto 4, 3) := by decide +kernel
theorem dX9_noTree_18 : decode cX9_noTree 18 = .ok (.iconst 0, 1) := by decide +kernel
theorem dX9_noTree_19 : decode cX9_noTree 19 = .ok (.ireturn, 1) := by decide +kernel
set_option maxRecDepth 20000 in
theorem ggX9_noLot_X9_in : GoodIn wsX9_noLot wsX9_in := goodIn_r _ [5] (by decide +kernel) (by decide +kernel)
set_option maxRecDepth 20000 in
theorem gX9_noLot_X9_in : GoodIn wsX9_noLot (va_wsS RX9 112 yX9_in wsX9_in) := goodIn_app (goodIn_of _ (by decide +kernel)) ggX9_noLot_X9_in
theorem dX9_noLot_0 : decode cX9_noLot 0 = .ok (.iload_n 1, 1) := by decide +kernel
theorem dX9_noLot_1 : decode cX9_noLot 1 = .ok (.iconst 0, 1) := by decide +kernel
theorem dX9_noLot_2 : decode cX9_noLot 2 = .ok (.aload_n 0, 1) := by decide +kernel
theorem dX9_noLot_3 : decode cX9_noLot 3 = .ok (.getfield 116, 3) := by decide +kernel
theorem dX9_noLot_6 : decode cX9_noLot 6 = .ok (.iconst 1, 1) := by decide +kernel
theorem dX9_noLot_7 : decode cX9_noLot 7 = .ok (.isub, 1) := by decide +kernel
theorem dX9_noLot_8 : decode cX9_noLot 8 = .ok (.invokestatic 112, 3) := by decide +kernel
theorem dX9_noLot_11 : decode cX9_noLot 11 = .ok (.ifCond .ne 7, 3) := by decide +kernel
theorem dX9_noLot_14 : decode cX9_noLot 14 = .ok (.iconst 1, 1) := by decide +kernel
theorem dX9_noLot_15 : decode cX9_noLot 15 = .ok (.goto 4, 3) := by decide +kernel
theorem dX9_noLot_18 : decode cX9_noLot 18 = .ok (.iconst 0, 1) := by decide +kernel
theorem dX9_noLot_19 : decode cX9_noLot 19 = .ok (.ireturn, 1) := by decide +kernel
set_option maxRecDepth 20000 in
theorem ggX9_tree_X9_in : GoodIn wsX9_tree wsX9_in := goodIn_r _ [9] (by decide +kernel) (by decide +kernel)
set_option maxRecDepth 20000 in
theorem gX9_tree_X9_in : GoodIn wsX9_tree (va_wsS RX9 112 yX9_in wsX9_in) := goodIn_app (goodIn_of _ (by decide +kernel)) ggX9_tree_X9_in
set_option maxRecDepth 20000 in
theorem ggX9_tree_X9_throwsIf : GoodIn wsX9_tree wsX9_throwsIf := goodIn_r _ [13, 1, 14, 15, 16, 17, 18, 19, 20, 21, 22, 23, 24, 25, 26, 27, 28, 29, 30, 31, 32, 33, 34, 35, 36, 37, 38, 39, 40, 41, 42, 43, 44, 45, 46, 47, 48, 49, 50, 51, 52, 53, 54, 55] (by decide +kernel) (by decide +kernel)
set_option maxRecDepth 20000 in
theorem gX9_tree_X9_throwsIf : GoodIn wsX9_tree (wsV RX9 119 RX9 yX9_throwsIf wsX9_throwsIf) := goodIn_app (goodIn_of _ (by decide +kernel)) ggX9_tree_X9_throwsIf
theorem dX9_tree_0 : decode cX9_tree 0 = .ok (.aload_n 0, 1) := by decide +kernel
theorem dX9_tree_1 : decode cX9_tree 1 = .ok (.iconst 0, 1) := by decide +kernel
theorem dX9_tree_2 : decode cX9_tree 2 = .ok (.putfield 106, 3) := by decide +kernel
theorem dX9_tree_5 : decode cX9_tree 5 = .ok (.aload_n 0, 1) := by decide +kernel
theorem dX9_tree_6 : decode cX9_tree 6 = .ok (.iload_n 1, 1) := by decide +kernel
theorem dX9_tree_7 : decode cX9_tree 7 = .ok (.bipush 20, 2) := by decide +kernel
theorem dX9_tree_9 : decode cX9_tree 9 = .ok (.sipush 600, 3) := by decide +kernel
theorem dX9_tree_12 : decode cX9_tree 12 = .ok (.invokestatic 112, 3) := by decide +kernel
theorem dX9_tree_15 : decode cX9_tree 15 = .ok (.ifCond .ne 7, 3) := by decide +kernel
theorem dX9_tree_18 : decode cX9_tree 18 = .ok (.iconst 1, 1) := by decide +kernel
theorem dX9_tree_19 : decode cX9_tree 19 = .ok (.goto 4, 3) := by decide +kernel
theorem dX9_tree_22 : decode cX9_tree 22 = .ok (.iconst 0, 1) := by decide +kernel
theorem dX9_tree_23 : decode cX9_tree 23 = .ok (.iconst 1, 1) := by decide +kernel
theorem dX9_tree_24 : decode cX9_tree 24 = .ok (.invokevirtual 119, 3) := by decide +kernel
theorem dX9_tree_27 : decode cX9_tree 27 = .ok (.ifCond .ne 25, 3) := by decide +kernel
theorem dX9_tree_30 : decode cX9_tree 30 = .ok (.aload_n 0, 1) := by decide +kernel
theorem dX9_tree_31 : decode cX9_tree 31 = .ok (.aload_n 0, 1) := by decide +kernel
theorem dX9_tree_32 : decode cX9_tree 32 = .ok (.getfield 109, 3) := by decide +kernel
theorem dX9_tree_35 : decode cX9_tree 35 = .ok (.bipush 40, 2) := by decide +kernel
theorem dX9_tree_37 : decode cX9_tree 37 = .ok (.if_icmp .ne 7, 3) := by decide +kernel
theorem dX9_tree_40 : decode cX9_tree 40 = .ok (.iconst 1, 1) := by decide +kernel
theorem dX9_tree_41 : decode cX9_tree 41 = .ok (.goto 4, 3) := by decide +kernel
theorem dX9_tree_44 : decode cX9_tree 44 = .ok (.iconst 0, 1) := by decide +kernel
theorem dX9_tree_45 : decode cX9_tree 45 = .ok (.iconst 2, 1) := by decide +kernel
theorem dX9_tree_46 : decode cX9_tree 46 = .ok (.invokevirtual 119, 3) := by decide +kernel
theorem dX9_tree_49 : decode cX9_tree 49 = .ok (.ifCond .eq 5, 3) := by decide +kernel
theorem dX9_tree_52 : decode cX9_tree 52 = .ok (.iconst 0, 1) := by decide +kernel
theorem dX9_tree_53 : decode cX9_tree 53 = .ok (.ireturn, 1) := by decide +kernel
theorem dX9_tree_54 : decode cX9_tree 54 = .ok (.aload_n 0, 1) := by decide +kernel
theorem dX9_tree_55 : decode cX9_tree 55 = .ok (.getfield 9, 3) := by decide +kernel
theorem dX9_tree_58 : decode cX9_tree 58 = .ok (.aload_n 0, 1) := by decide +kernel
theorem dX9_tree_59 : decode cX9_tree 59 = .ok (.getfield 109, 3) := by decide +kernel
theorem dX9_tree_62 : decode cX9_tree 62 = .ok (.iload_n 1, 1) := by decide +kernel
theorem dX9_tree_63 : decode cX9_tree 63 = .ok (.iastore, 1) := by decide +kernel
theorem dX9_tree_64 : decode cX9_tree 64 = .ok (.aload_n 0, 1) := by decide +kernel
theorem dX9_tree_65 : decode cX9_tree 65 = .ok (.getfield 16, 3) := by decide +kernel
theorem dX9_tree_68 : decode cX9_tree 68 = .ok (.aload_n 0, 1) := by decide +kernel
theorem dX9_tree_69 : decode cX9_tree 69 = .ok (.getfield 109, 3) := by decide +kernel
theorem dX9_tree_72 : decode cX9_tree 72 = .ok (.iconst (-1), 1) := by decide +kernel
theorem dX9_tree_73 : decode cX9_tree 73 = .ok (.iastore, 1) := by decide +kernel
theorem dX9_tree_74 : decode cX9_tree 74 = .ok (.aload_n 0, 1) := by decide +kernel
theorem dX9_tree_75 : decode cX9_tree 75 = .ok (.getfield 22, 3) := by decide +kernel
theorem dX9_tree_78 : decode cX9_tree 78 = .ok (.aload_n 0, 1) := by decide +kernel
theorem dX9_tree_79 : decode cX9_tree 79 = .ok (.getfield 109, 3) := by decide +kernel
theorem dX9_tree_82 : decode cX9_tree 82 = .ok (.iconst (-1), 1) := by decide +kernel
theorem dX9_tree_83 : decode cX9_tree 83 = .ok (.iastore, 1) := by decide +kernel
theorem dX9_tree_84 : decode cX9_tree 84 = .ok (.aload_n 0, 1) := by decide +kernel
theorem dX9_tree_85 : decode cX9_tree 85 = .ok (.dup, 1) := by decide +kernel
theorem dX9_tree_86 : decode cX9_tree 86 = .ok (.getfield 109, 3) := by decide +kernel
theorem dX9_tree_89 : decode cX9_tree 89 = .ok (.iconst 1, 1) := by decide +kernel
theorem dX9_tree_90 : decode cX9_tree 90 = .ok (.iadd, 1) := by decide +kernel
theorem dX9_tree_91 : decode cX9_tree 91 = .ok (.putfield 109, 3) := by decide +kernel
theorem dX9_tree_94 : decode cX9_tree 94 = .ok (.aload_n 0, 1) := by decide +kernel
theorem dX9_tree_95 : decode cX9_tree 95 = .ok (.getfield 109, 3) := by decide +kernel
theorem dX9_tree_98 : decode cX9_tree 98 = .ok (.iconst 1, 1) := by decide +kernel
theorem dX9_tree_99 : decode cX9_tree 99 = .ok (.isub, 1) := by decide +kernel
theorem dX9_tree_100 : decode cX9_tree 100 = .ok (.ireturn, 1) := by decide +kernel
theorem dX9_grows_0 : decode cX9_grows 0 = .ok (.aload_n 0, 1) := by decide +kernel
theorem dX9_grows_1 : decode cX9_grows 1 = .ok (.getfield 9, 3) := by decide +kernel
theorem dX9_grows_4 : decode cX9_grows 4 = .ok (.iload_n 1, 1) := by decide +kernel
theorem dX9_grows_5 : decode cX9_grows 5 = .ok (.sipush 600, 3) := by decide +kernel
theorem dX9_grows_8 : decode cX9_grows 8 = .ok (.aload_n 0, 1) := by decide +kernel
theorem dX9_grows_9 : decode cX9_grows 9 = .ok (.getfield 9, 3) := by decide +kernel
theorem dX9_grows_12 : decode cX9_grows 12 = .ok (.iload_n 1, 1) := by decide +kernel
theorem dX9_grows_13 : decode cX9_grows 13 = .ok (.iaload, 1) := by decide +kernel
theorem dX9_grows_14 : decode cX9_grows 14 = .ok (.iconst 1, 1) := by decide +kernel
theorem dX9_grows_15 : decode cX9_grows 15 = .ok (.iadd, 1) := by decide +kernel
theorem dX9_grows_16 : decode cX9_grows 16 = .ok (.iload_n 2, 1) := by decide +kernel
theorem dX9_grows_17 : decode cX9_grows 17 = .ok (.bipush 100, 2) := by decide +kernel
theorem dX9_grows_19 : decode cX9_grows 19 = .ok (.idiv, 1) := by decide +kernel
theorem dX9_grows_20 : decode cX9_grows 20 = .ok (.iadd, 1) := by decide +kernel
theorem dX9_grows_21 : decode cX9_grows 21 = .ok (.invokestatic 123, 3) := by decide +kernel
theorem dX9_grows_24 : decode cX9_grows 24 = .ok (.iastore, 1) := by decide +kernel
theorem dX9_grows_25 : decode cX9_grows 25 = .ok (.aload_n 0, 1) := by decide +kernel
theorem dX9_grows_26 : decode cX9_grows 26 = .ok (.getfield 16, 3) := by decide +kernel
theorem dX9_grows_29 : decode cX9_grows 29 = .ok (.iload_n 1, 1) := by decide +kernel
theorem dX9_grows_30 : decode cX9_grows 30 = .ok (.iaload, 1) := by decide +kernel
theorem dX9_grows_31 : decode cX9_grows 31 = .ok (.ifCond .ge 8, 3) := by decide +kernel
theorem dX9_grows_34 : decode cX9_grows 34 = .ok (.bipush 20, 2) := by decide +kernel
theorem dX9_grows_36 : decode cX9_grows 36 = .ok (.goto 14, 3) := by decide +kernel
theorem dX9_grows_39 : decode cX9_grows 39 = .ok (.aload_n 0, 1) := by decide +kernel
theorem dX9_grows_40 : decode cX9_grows 40 = .ok (.getfield 129, 3) := by decide +kernel
theorem dX9_grows_43 : decode cX9_grows 43 = .ok (.aload_n 0, 1) := by decide +kernel
theorem dX9_grows_44 : decode cX9_grows 44 = .ok (.getfield 16, 3) := by decide +kernel
theorem dX9_grows_47 : decode cX9_grows 47 = .ok (.iload_n 1, 1) := by decide +kernel
theorem dX9_grows_48 : decode cX9_grows 48 = .ok (.iaload, 1) := by decide +kernel
theorem dX9_grows_49 : decode cX9_grows 49 = .ok (.isub, 1) := by decide +kernel
theorem dX9_grows_50 : decode cX9_grows 50 = .ok (.istore_n 3, 1) := by decide +kernel
theorem dX9_grows_51 : decode cX9_grows 51 = .ok (.bipush 10, 2) := by decide +kernel
theorem dX9_grows_53 : decode cX9_grows 53 = .ok (.bipush 40, 2) := by decide +kernel
theorem dX9_grows_55 : decode cX9_grows 55 = .ok (.iconst 2, 1) := by decide +kernel
theorem dX9_grows_56 : decode cX9_grows 56 = .ok (.iload_n 3, 1) := by decide +kernel
theorem dX9_grows_57 : decode cX9_grows 57 = .ok (.imul, 1) := by decide +kernel
theorem dX9_grows_58 : decode cX9_grows 58 = .ok (.isub, 1) := by decide +kernel
theorem dX9_grows_59 : decode cX9_grows 59 = .ok (.invokestatic 132, 3) := by decide +kernel
theorem dX9_grows_62 : decode cX9_grows 62 = .ok (.bipush 50, 2) := by decide +kernel
theorem dX9_grows_64 : decode cX9_grows 64 = .ok (.iload_n 2, 1) := by decide +kernel
theorem dX9_grows_65 : decode cX9_grows 65 = .ok (.iadd, 1) := by decide +kernel
theorem dX9_grows_66 : decode cX9_grows 66 = .ok (.imul, 1) := by decide +kernel
theorem dX9_grows_67 : decode cX9_grows 67 = .ok (.bipush 100, 2) := by decide +kernel
theorem dX9_grows_69 : decode cX9_grows 69 = .ok (.idiv, 1) := by decide +kernel
theorem dX9_grows_70 : decode cX9_grows 70 = .ok (.istore 4, 2) := by decide +kernel
theorem dX9_grows_72 : decode cX9_grows 72 = .ok (.aload_n 0, 1) := by decide +kernel
theorem dX9_grows_73 : decode cX9_grows 73 = .ok (.getfield 29, 3) := by decide +kernel
theorem dX9_grows_76 : decode cX9_grows 76 = .ok (.iload_n 1, 1) := by decide +kernel
theorem dX9_grows_77 : decode cX9_grows 77 = .ok (.dup2, 1) := by decide +kernel
theorem dX9_grows_78 : decode cX9_grows 78 = .ok (.iaload, 1) := by decide +kernel
theorem dX9_grows_79 : decode cX9_grows 79 = .ok (.iload 4, 2) := by decide +kernel
theorem dX9_grows_81 : decode cX9_grows 81 = .ok (.iadd, 1) := by decide +kernel
theorem dX9_grows_82 : decode cX9_grows 82 = .ok (.iastore, 1) := by decide +kernel
theorem dX9_grows_83 : decode cX9_grows 83 = .ok (.aload_n 0, 1) := by decide +kernel
theorem dX9_grows_84 : decode cX9_grows 84 = .ok (.getfield 13, 3) := by decide +kernel
theorem dX9_grows_87 : decode cX9_grows 87 = .ok (.iload_n 1, 1) := by decide +kernel
theorem dX9_grows_88 : decode cX9_grows 88 = .ok (.dup2, 1) := by decide +kernel
theorem dX9_grows_89 : decode cX9_grows 89 = .ok (.iaload, 1) := by decide +kernel
theorem dX9_grows_90 : decode cX9_grows 90 = .ok (.iload 4, 2) := by decide +kernel
theorem dX9_grows_92 : decode cX9_grows 92 = .ok (.iadd, 1) := by decide +kernel
theorem dX9_grows_93 : decode cX9_grows 93 = .ok (.iastore, 1) := by decide +kernel
theorem dX9_grows_94 : decode cX9_grows 94 = .ok (.aload_n 0, 1) := by decide +kernel
theorem dX9_grows_95 : decode cX9_grows 95 = .ok (.getfield 13, 3) := by decide +kernel
theorem dX9_grows_98 : decode cX9_grows 98 = .ok (.iload_n 1, 1) := by decide +kernel
theorem dX9_grows_99 : decode cX9_grows 99 = .ok (.iaload, 1) := by decide +kernel
theorem dX9_grows_100 : decode cX9_grows 100 = .ok (.sipush 3000, 3) := by decide +kernel
theorem dX9_grows_103 : decode cX9_grows 103 = .ok (.if_icmp .gt 4, 3) := by decide +kernel
theorem dX9_grows_106 : decode cX9_grows 106 = .ok (.return_, 1) := by decide +kernel
theorem dX9_grows_107 : decode cX9_grows 107 = .ok (.aload_n 0, 1) := by decide +kernel
theorem dX9_grows_108 : decode cX9_grows 108 = .ok (.getfield 38, 3) := by decide +kernel
theorem dX9_grows_111 : decode cX9_grows 111 = .ok (.iload_n 1, 1) := by decide +kernel
theorem dX9_grows_112 : decode cX9_grows 112 = .ok (.dup2, 1) := by decide +kernel
theorem dX9_grows_113 : decode cX9_grows 113 = .ok (.iaload, 1) := by decide +kernel
theorem dX9_grows_114 : decode cX9_grows 114 = .ok (.aload_n 0, 1) := by decide +kernel
theorem dX9_grows_115 : decode cX9_grows 115 = .ok (.getfield 13, 3) := by decide +kernel
theorem dX9_grows_118 : decode cX9_grows 118 = .ok (.iload_n 1, 1) := by decide +kernel
theorem dX9_grows_119 : decode cX9_grows 119 = .ok (.iaload, 1) := by decide +kernel
theorem dX9_grows_120 : decode cX9_grows 120 = .ok (.sipush 3000, 3) := by decide +kernel
theorem dX9_grows_123 : decode cX9_grows 123 = .ok (.isub, 1) := by decide +kernel
theorem dX9_grows_124 : decode cX9_grows 124 = .ok (.iadd, 1) := by decide +kernel
theorem dX9_grows_125 : decode cX9_grows 125 = .ok (.iastore, 1) := by decide +kernel
theorem dX9_grows_126 : decode cX9_grows 126 = .ok (.aload_n 0, 1) := by decide +kernel
theorem dX9_grows_127 : decode cX9_grows 127 = .ok (.getfield 13, 3) := by decide +kernel
theorem dX9_grows_130 : decode cX9_grows 130 = .ok (.iload_n 1, 1) := by decide +kernel
theorem dX9_grows_131 : decode cX9_grows 131 = .ok (.sipush 3000, 3) := by decide +kernel
theorem dX9_grows_134 : decode cX9_grows 134 = .ok (.iastore, 1) := by decide +kernel
theorem dX9_grows_135 : decode cX9_grows 135 = .ok (.return_, 1) := by decide +kernel
set_option maxRecDepth 20000 in
theorem ggX9_years_X9_in : GoodIn wsX9_years wsX9_in := goodIn_r _ [7] (by decide +kernel) (by decide +kernel)
set_option maxRecDepth 20000 in
theorem gX9_years_X9_in : GoodIn wsX9_years (va_wsS RX9 112 yX9_in wsX9_in) := goodIn_app (goodIn_of _ (by decide +kernel)) ggX9_years_X9_in
set_option maxRecDepth 20000 in
theorem ggX9_years_X9_throwsIf : GoodIn wsX9_years wsX9_throwsIf := goodIn_r _ [11, 1, 28, 29, 30, 31, 32, 33, 34, 35, 36, 37, 38, 39, 40, 41, 42, 43, 44, 45, 46, 47, 48, 49, 50, 51, 52, 53, 54, 55, 56, 57, 58, 59, 60, 61, 62, 63, 64, 65, 66, 67, 68, 69] (by decide +kernel) (by decide +kernel)
set_option maxRecDepth 20000 in
theorem gX9_years_X9_throwsIf : GoodIn wsX9_years (wsV RX9 119 RX9 yX9_throwsIf wsX9_throwsIf) := goodIn_app (goodIn_of _ (by decide +kernel)) ggX9_years_X9_throwsIf
set_option maxRecDepth 20000 in
theorem ggX9_years_X9_grows : GoodIn wsX9_years wsX9_grows := goodIn_r _ [15, 16, 17, 18, 19, 20, 21, 2, 22, 23, 24, 25, 26, 27, 28, 29, 30, 31, 32, 33, 34, 35, 36, 37, 38, 39, 40, 41, 42, 43, 44, 45, 46, 47, 48, 49, 50, 51, 52, 53, 54, 55, 56, 57, 58, 59, 60, 61, 62, 63, 64, 65, 66, 67, 68, 69] (by decide +kernel) (by decide +kernel)
set_option maxRecDepth 20000 in
theorem gX9_years_X9_grows : GoodIn wsX9_years (wsV RX9 135 RX9 yX9_grows wsX9_grows) := goodIn_app (goodIn_of _ (by decide +kernel)) ggX9_years_X9_grows
theorem dX9_years_0 : decode cX9_years 0 = .ok (.aload_n 0, 1) := by decide +kernel
theorem dX9_years_1 : decode cX9_years 1 = .ok (.iconst 0, 1) := by decide +kernel
theorem dX9_years_2 : decode cX9_years 2 = .ok (.putfield 106, 3) := by decide +kernel
theorem dX9_years_5 : decode cX9_years 5 = .ok (.aload_n 0, 1) := by decide +kernel
theorem dX9_years_6 : decode cX9_years 6 = .ok (.iload_n 1, 1) := by decide +kernel
theorem dX9_years_7 : decode cX9_years 7 = .ok (.iconst 0, 1) := by decide +kernel
theorem dX9_years_8 : decode cX9_years 8 = .ok (.bipush 50, 2) := by decide +kernel
theorem dX9_years_10 : decode cX9_years 10 = .ok (.invokestatic 112, 3) := by decide +kernel
theorem dX9_years_13 : decode cX9_years 13 = .ok (.ifCond .eq 14, 3) := by decide +kernel
theorem dX9_years_16 : decode cX9_years 16 = .ok (.iload_n 2, 1) := by decide +kernel
theorem dX9_years_17 : decode cX9_years 17 = .ok (.iconst 0, 1) := by decide +kernel
theorem dX9_years_18 : decode cX9_years 18 = .ok (.sipush 200, 3) := by decide +kernel
theorem dX9_years_21 : decode cX9_years 21 = .ok (.invokestatic 112, 3) := by decide +kernel
theorem dX9_years_24 : decode cX9_years 24 = .ok (.ifCond .ne 7, 3) := by decide +kernel
theorem dX9_years_27 : decode cX9_years 27 = .ok (.iconst 1, 1) := by decide +kernel
theorem dX9_years_28 : decode cX9_years 28 = .ok (.goto 4, 3) := by decide +kernel
theorem dX9_years_31 : decode cX9_years 31 = .ok (.iconst 0, 1) := by decide +kernel
theorem dX9_years_32 : decode cX9_years 32 = .ok (.iconst 1, 1) := by decide +kernel
theorem dX9_years_33 : decode cX9_years 33 = .ok (.invokevirtual 119, 3) := by decide +kernel
theorem dX9_years_36 : decode cX9_years 36 = .ok (.ifCond .eq 5, 3) := by decide +kernel
theorem dX9_years_39 : decode cX9_years 39 = .ok (.iconst 0, 1) := by decide +kernel
theorem dX9_years_40 : decode cX9_years 40 = .ok (.ireturn, 1) := by decide +kernel
theorem dX9_years_41 : decode cX9_years 41 = .ok (.iconst 0, 1) := by decide +kernel
theorem dX9_years_42 : decode cX9_years 42 = .ok (.istore_n 3, 1) := by decide +kernel
theorem dX9_years_43 : decode cX9_years 43 = .ok (.iload_n 3, 1) := by decide +kernel
theorem dX9_years_44 : decode cX9_years 44 = .ok (.iload_n 1, 1) := by decide +kernel
theorem dX9_years_45 : decode cX9_years 45 = .ok (.if_icmp .ge 44, 3) := by decide +kernel
theorem dX9_years_48 : decode cX9_years 48 = .ok (.aload_n 0, 1) := by decide +kernel
theorem dX9_years_49 : decode cX9_years 49 = .ok (.dup, 1) := by decide +kernel
theorem dX9_years_50 : decode cX9_years 50 = .ok (.getfield 129, 3) := by decide +kernel
theorem dX9_years_53 : decode cX9_years 53 = .ok (.iconst 1, 1) := by decide +kernel
theorem dX9_years_54 : decode cX9_years 54 = .ok (.iadd, 1) := by decide +kernel
theorem dX9_years_55 : decode cX9_years 55 = .ok (.putfield 129, 3) := by decide +kernel
theorem dX9_years_58 : decode cX9_years 58 = .ok (.iconst 0, 1) := by decide +kernel
theorem dX9_years_59 : decode cX9_years 59 = .ok (.istore 4, 2) := by decide +kernel
theorem dX9_years_61 : decode cX9_years 61 = .ok (.iload 4, 2) := by decide +kernel
theorem dX9_years_63 : decode cX9_years 63 = .ok (.aload_n 0, 1) := by decide +kernel
theorem dX9_years_64 : decode cX9_years 64 = .ok (.getfield 109, 3) := by decide +kernel
theorem dX9_years_67 : decode cX9_years 67 = .ok (.if_icmp .ge 16, 3) := by decide +kernel
theorem dX9_years_70 : decode cX9_years 70 = .ok (.aload_n 0, 1) := by decide +kernel
theorem dX9_years_71 : decode cX9_years 71 = .ok (.iload 4, 2) := by decide +kernel
theorem dX9_years_73 : decode cX9_years 73 = .ok (.iload_n 2, 1) := by decide +kernel
theorem dX9_years_74 : decode cX9_years 74 = .ok (.invokevirtual 135, 3) := by decide +kernel
theorem dX9_years_77 : decode cX9_years 77 = .ok (.iinc 4 1, 3) := by decide +kernel
theorem dX9_years_80 : decode cX9_years 80 = .ok (.goto (-19), 3) := by decide +kernel
theorem dX9_years_83 : decode cX9_years 83 = .ok (.iinc 3 1, 3) := by decide +kernel
theorem dX9_years_86 : decode cX9_years 86 = .ok (.goto (-43), 3) := by decide +kernel
theorem dX9_years_89 : decode cX9_years 89 = .ok (.aload_n 0, 1) := by decide +kernel
theorem dX9_years_90 : decode cX9_years 90 = .ok (.getfield 129, 3) := by decide +kernel
theorem dX9_years_93 : decode cX9_years 93 = .ok (.ireturn, 1) := by decide +kernel
set_option maxRecDepth 20000 in
theorem ggX9_mark_X9_noTree : GoodIn wsX9_mark wsX9_noTree := goodIn_r _ [7, 8, 9, 10, 6, 11, 16, 17, 18, 19, 20, 21, 22, 23, 24, 25, 26, 27, 28, 29, 30, 31, 32, 33, 34, 35, 36, 37, 38, 39, 40, 41, 42, 43, 44, 45, 46, 47, 48, 49, 50, 51, 52, 53, 54, 55, 56, 57] (by decide +kernel) (by decide +kernel)
set_option maxRecDepth 20000 in
theorem gX9_mark_X9_noTree : GoodIn wsX9_mark (wsV RX9 139 RX9 yX9_noTree wsX9_noTree) := goodIn_app (goodIn_of _ (by decide +kernel)) ggX9_mark_X9_noTree
set_option maxRecDepth 20000 in
theorem ggX9_mark_X9_throwsIf : GoodIn wsX9_mark wsX9_throwsIf := goodIn_r _ [15, 1, 16, 17, 18, 19, 20, 21, 22, 23, 24, 25, 26, 27, 28, 29, 30, 31, 32, 33, 34, 35, 36, 37, 38, 39, 40, 41, 42, 43, 44, 45, 46, 47, 48, 49, 50, 51, 52, 53, 54, 55, 56, 57] (by decide +kernel) (by decide +kernel)
set_option maxRecDepth 20000 in
theorem gX9_mark_X9_throwsIf : GoodIn wsX9_mark (wsV RX9 119 RX9 yX9_throwsIf wsX9_throwsIf) := goodIn_app (goodIn_of _ (by decide +kernel)) ggX9_mark_X9_throwsIf
theorem dX9_mark_0 : decode cX9_mark 0 = .ok (.aload_n 0, 1) := by decide +kernel
theorem dX9_mark_1 : decode cX9_mark 1 = .ok (.iconst 0, 1) := by decide +kernel
theorem dX9_mark_2 : decode cX9_mark 2 = .ok (.putfield 106, 3) := by decide +kernel
theorem dX9_mark_5 : decode cX9_mark 5 = .ok (.aload_n 0, 1) := by decide +kernel
theorem dX9_mark_6 : decode cX9_mark 6 = .ok (.aload_n 0, 1) := by decide +kernel
theorem dX9_mark_7 : decode cX9_mark 7 = .ok (.iload_n 1, 1) := by decide +kernel
theorem dX9_mark_8 : decode cX9_mark 8 = .ok (.invokevirtual 139, 3) := by decide +kernel
theorem dX9_mark_11 : decode cX9_mark 11 = .ok (.iconst 1, 1) := by decide +kernel
theorem dX9_mark_12 : decode cX9_mark 12 = .ok (.invokevirtual 119, 3) := by decide +kernel
theorem dX9_mark_15 : decode cX9_mark 15 = .ok (.ifCond .eq 5, 3) := by decide +kernel
theorem dX9_mark_18 : decode cX9_mark 18 = .ok (.iconst 0, 1) := by decide +kernel
theorem dX9_mark_19 : decode cX9_mark 19 = .ok (.ireturn, 1) := by decide +kernel
theorem dX9_mark_20 : decode cX9_mark 20 = .ok (.aload_n 0, 1) := by decide +kernel
theorem dX9_mark_21 : decode cX9_mark 21 = .ok (.getfield 25, 3) := by decide +kernel
theorem dX9_mark_24 : decode cX9_mark 24 = .ok (.iload_n 1, 1) := by decide +kernel
theorem dX9_mark_25 : decode cX9_mark 25 = .ok (.baload, 1) := by decide +kernel
theorem dX9_mark_26 : decode cX9_mark 26 = .ok (.istore_n 2, 1) := by decide +kernel
theorem dX9_mark_27 : decode cX9_mark 27 = .ok (.aload_n 0, 1) := by decide +kernel
theorem dX9_mark_28 : decode cX9_mark 28 = .ok (.getfield 25, 3) := by decide +kernel
theorem dX9_mark_31 : decode cX9_mark 31 = .ok (.iload_n 1, 1) := by decide +kernel
theorem dX9_mark_32 : decode cX9_mark 32 = .ok (.iconst 1, 1) := by decide +kernel
theorem dX9_mark_33 : decode cX9_mark 33 = .ok (.bastore, 1) := by decide +kernel
theorem dX9_mark_34 : decode cX9_mark 34 = .ok (.iload_n 2, 1) := by decide +kernel
theorem dX9_mark_35 : decode cX9_mark 35 = .ok (.ifCond .ne 7, 3) := by decide +kernel
theorem dX9_mark_38 : decode cX9_mark 38 = .ok (.iconst 1, 1) := by decide +kernel
theorem dX9_mark_39 : decode cX9_mark 39 = .ok (.goto 4, 3) := by decide +kernel
theorem dX9_mark_42 : decode cX9_mark 42 = .ok (.iconst 0, 1) := by decide +kernel
theorem dX9_mark_43 : decode cX9_mark 43 = .ok (.ireturn, 1) := by decide +kernel
theorem dX9_against_0 : decode cX9_against 0 = .ok (.aload_n 0, 1) := by decide +kernel
theorem dX9_against_1 : decode cX9_against 1 = .ok (.getfield 25, 3) := by decide +kernel
theorem dX9_against_4 : decode cX9_against 4 = .ok (.iload_n 1, 1) := by decide +kernel
theorem dX9_against_5 : decode cX9_against 5 = .ok (.baload, 1) := by decide +kernel
theorem dX9_against_6 : decode cX9_against 6 = .ok (.ifCond .ne 5, 3) := by decide +kernel
theorem dX9_against_9 : decode cX9_against 9 = .ok (.iconst 1, 1) := by decide +kernel
theorem dX9_against_10 : decode cX9_against 10 = .ok (.ireturn, 1) := by decide +kernel
theorem dX9_against_11 : decode cX9_against 11 = .ok (.aload_n 0, 1) := by decide +kernel
theorem dX9_against_12 : decode cX9_against 12 = .ok (.getfield 129, 3) := by decide +kernel
theorem dX9_against_15 : decode cX9_against 15 = .ok (.aload_n 0, 1) := by decide +kernel
theorem dX9_against_16 : decode cX9_against 16 = .ok (.getfield 22, 3) := by decide +kernel
theorem dX9_against_19 : decode cX9_against 19 = .ok (.iload_n 1, 1) := by decide +kernel
theorem dX9_against_20 : decode cX9_against 20 = .ok (.iaload, 1) := by decide +kernel
theorem dX9_against_21 : decode cX9_against 21 = .ok (.if_icmp .gt 5, 3) := by decide +kernel
theorem dX9_against_24 : decode cX9_against 24 = .ok (.iconst 2, 1) := by decide +kernel
theorem dX9_against_25 : decode cX9_against 25 = .ok (.ireturn, 1) := by decide +kernel
theorem dX9_against_26 : decode cX9_against 26 = .ok (.aload_n 0, 1) := by decide +kernel
theorem dX9_against_27 : decode cX9_against 27 = .ok (.getfield 16, 3) := by decide +kernel
theorem dX9_against_30 : decode cX9_against 30 = .ok (.iload_n 1, 1) := by decide +kernel
theorem dX9_against_31 : decode cX9_against 31 = .ok (.iaload, 1) := by decide +kernel
theorem dX9_against_32 : decode cX9_against 32 = .ok (.ifCond .lt 25, 3) := by decide +kernel
theorem dX9_against_35 : decode cX9_against 35 = .ok (.aload_n 0, 1) := by decide +kernel
theorem dX9_against_36 : decode cX9_against 36 = .ok (.getfield 129, 3) := by decide +kernel
theorem dX9_against_39 : decode cX9_against 39 = .ok (.aload_n 0, 1) := by decide +kernel
theorem dX9_against_40 : decode cX9_against 40 = .ok (.getfield 16, 3) := by decide +kernel
theorem dX9_against_43 : decode cX9_against 43 = .ok (.iload_n 1, 1) := by decide +kernel
theorem dX9_against_44 : decode cX9_against 44 = .ok (.iaload, 1) := by decide +kernel
theorem dX9_against_45 : decode cX9_against 45 = .ok (.isub, 1) := by decide +kernel
theorem dX9_against_46 : decode cX9_against 46 = .ok (.aload_n 0, 1) := by decide +kernel
theorem dX9_against_47 : decode cX9_against 47 = .ok (.getfield 41, 3) := by decide +kernel
theorem dX9_against_50 : decode cX9_against 50 = .ok (.iconst 0, 1) := by decide +kernel
theorem dX9_against_51 : decode cX9_against 51 = .ok (.iaload, 1) := by decide +kernel
theorem dX9_against_52 : decode cX9_against 52 = .ok (.if_icmp .ge 5, 3) := by decide +kernel
theorem dX9_against_55 : decode cX9_against 55 = .ok (.iconst 3, 1) := by decide +kernel
theorem dX9_against_56 : decode cX9_against 56 = .ok (.ireturn, 1) := by decide +kernel
theorem dX9_against_57 : decode cX9_against 57 = .ok (.aload_n 0, 1) := by decide +kernel
theorem dX9_against_58 : decode cX9_against 58 = .ok (.getfield 9, 3) := by decide +kernel
theorem dX9_against_61 : decode cX9_against 61 = .ok (.iload_n 1, 1) := by decide +kernel
theorem dX9_against_62 : decode cX9_against 62 = .ok (.iaload, 1) := by decide +kernel
theorem dX9_against_63 : decode cX9_against 63 = .ok (.aload_n 0, 1) := by decide +kernel
theorem dX9_against_64 : decode cX9_against 64 = .ok (.getfield 41, 3) := by decide +kernel
theorem dX9_against_67 : decode cX9_against 67 = .ok (.iconst 1, 1) := by decide +kernel
theorem dX9_against_68 : decode cX9_against 68 = .ok (.iaload, 1) := by decide +kernel
theorem dX9_against_69 : decode cX9_against 69 = .ok (.if_icmp .ge 5, 3) := by decide +kernel
theorem dX9_against_72 : decode cX9_against 72 = .ok (.iconst 4, 1) := by decide +kernel
theorem dX9_against_73 : decode cX9_against 73 = .ok (.ireturn, 1) := by decide +kernel
theorem dX9_against_74 : decode cX9_against 74 = .ok (.aload_n 0, 1) := by decide +kernel
theorem dX9_against_75 : decode cX9_against 75 = .ok (.getfield 13, 3) := by decide +kernel
theorem dX9_against_78 : decode cX9_against 78 = .ok (.iload_n 1, 1) := by decide +kernel
theorem dX9_against_79 : decode cX9_against 79 = .ok (.iaload, 1) := by decide +kernel
theorem dX9_against_80 : decode cX9_against 80 = .ok (.aload_n 0, 1) := by decide +kernel
theorem dX9_against_81 : decode cX9_against 81 = .ok (.getfield 41, 3) := by decide +kernel
theorem dX9_against_84 : decode cX9_against 84 = .ok (.iconst 5, 1) := by decide +kernel
theorem dX9_against_85 : decode cX9_against 85 = .ok (.iaload, 1) := by decide +kernel
theorem dX9_against_86 : decode cX9_against 86 = .ok (.if_icmp .ge 5, 3) := by decide +kernel
theorem dX9_against_89 : decode cX9_against 89 = .ok (.iconst 5, 1) := by decide +kernel
theorem dX9_against_90 : decode cX9_against 90 = .ok (.ireturn, 1) := by decide +kernel
theorem dX9_against_91 : decode cX9_against 91 = .ok (.iload_n 2, 1) := by decide +kernel
theorem dX9_against_92 : decode cX9_against 92 = .ok (.aload_n 0, 1) := by decide +kernel
theorem dX9_against_93 : decode cX9_against 93 = .ok (.getfield 9, 3) := by decide +kernel
theorem dX9_against_96 : decode cX9_against 96 = .ok (.iload_n 1, 1) := by decide +kernel
theorem dX9_against_97 : decode cX9_against 97 = .ok (.iaload, 1) := by decide +kernel
theorem dX9_against_98 : decode cX9_against 98 = .ok (.aload_n 0, 1) := by decide +kernel
theorem dX9_against_99 : decode cX9_against 99 = .ok (.getfield 16, 3) := by decide +kernel
theorem dX9_against_102 : decode cX9_against 102 = .ok (.iload_n 1, 1) := by decide +kernel
theorem dX9_against_103 : decode cX9_against 103 = .ok (.iaload, 1) := by decide +kernel
theorem dX9_against_104 : decode cX9_against 104 = .ok (.ifCond .ge 12, 3) := by decide +kernel
theorem dX9_against_107 : decode cX9_against 107 = .ok (.aload_n 0, 1) := by decide +kernel
theorem dX9_against_108 : decode cX9_against 108 = .ok (.getfield 41, 3) := by decide +kernel
theorem dX9_against_111 : decode cX9_against 111 = .ok (.iconst 3, 1) := by decide +kernel
theorem dX9_against_112 : decode cX9_against 112 = .ok (.iaload, 1) := by decide +kernel
theorem dX9_against_113 : decode cX9_against 113 = .ok (.goto 9, 3) := by decide +kernel
theorem dX9_against_116 : decode cX9_against 116 = .ok (.aload_n 0, 1) := by decide +kernel
theorem dX9_against_117 : decode cX9_against 117 = .ok (.getfield 41, 3) := by decide +kernel
theorem dX9_against_120 : decode cX9_against 120 = .ok (.iconst 2, 1) := by decide +kernel
theorem dX9_against_121 : decode cX9_against 121 = .ok (.iaload, 1) := by decide +kernel
theorem dX9_against_122 : decode cX9_against 122 = .ok (.imul, 1) := by decide +kernel
theorem dX9_against_123 : decode cX9_against 123 = .ok (.bipush 100, 2) := by decide +kernel
theorem dX9_against_125 : decode cX9_against 125 = .ok (.idiv, 1) := by decide +kernel
theorem dX9_against_126 : decode cX9_against 126 = .ok (.if_icmp .le 6, 3) := by decide +kernel
theorem dX9_against_129 : decode cX9_against 129 = .ok (.bipush 6, 2) := by decide +kernel
theorem dX9_against_131 : decode cX9_against 131 = .ok (.ireturn, 1) := by decide +kernel
theorem dX9_against_132 : decode cX9_against 132 = .ok (.aload_n 0, 1) := by decide +kernel
theorem dX9_against_133 : decode cX9_against 133 = .ok (.getfield 143, 3) := by decide +kernel
theorem dX9_against_136 : decode cX9_against 136 = .ok (.sipush 200, 3) := by decide +kernel
theorem dX9_against_139 : decode cX9_against 139 = .ok (.if_icmp .ne 8, 3) := by decide +kernel
theorem dX9_against_142 : decode cX9_against 142 = .ok (.bipush 7, 2) := by decide +kernel
theorem dX9_against_144 : decode cX9_against 144 = .ok (.goto 4, 3) := by decide +kernel
theorem dX9_against_147 : decode cX9_against 147 = .ok (.iconst 0, 1) := by decide +kernel
theorem dX9_against_148 : decode cX9_against 148 = .ok (.ireturn, 1) := by decide +kernel
set_option maxRecDepth 20000 in
theorem ggX9_strip_X9_noTree : GoodIn wsX9_strip wsX9_noTree := goodIn_r _ [15, 16, 17, 18, 14, 19, 30, 31, 32, 33, 34, 35, 36, 37, 38, 39, 40, 41, 42, 43, 44, 45, 46, 47, 48, 49, 50, 51, 52, 53, 54, 55, 56, 57, 58, 59, 60, 61, 62, 63, 64, 65, 66, 67, 68, 69, 70, 71] (by decide +kernel) (by decide +kernel)
set_option maxRecDepth 20000 in
theorem gX9_strip_X9_noTree : GoodIn wsX9_strip (wsV RX9 139 RX9 yX9_noTree wsX9_noTree) := goodIn_app (goodIn_of _ (by decide +kernel)) ggX9_strip_X9_noTree
set_option maxRecDepth 20000 in
theorem ggX9_strip_X9_throwsIf : GoodIn wsX9_strip wsX9_throwsIf := goodIn_r _ [23, 1, 30, 31, 32, 33, 34, 35, 36, 37, 38, 39, 40, 41, 42, 43, 44, 45, 46, 47, 48, 49, 50, 51, 52, 53, 54, 55, 56, 57, 58, 59, 60, 61, 62, 63, 64, 65, 66, 67, 68, 69, 70, 71] (by decide +kernel) (by decide +kernel)
set_option maxRecDepth 20000 in
theorem gX9_strip_X9_throwsIf : GoodIn wsX9_strip (wsV RX9 119 RX9 yX9_throwsIf wsX9_throwsIf) := goodIn_app (goodIn_of _ (by decide +kernel)) ggX9_strip_X9_throwsIf
set_option maxRecDepth 20000 in
theorem ggX9_strip_X9_in : GoodIn wsX9_strip wsX9_in := goodIn_r _ [19] (by decide +kernel) (by decide +kernel)
set_option maxRecDepth 20000 in
theorem gX9_strip_X9_in : GoodIn wsX9_strip (va_wsS RX9 112 yX9_in wsX9_in) := goodIn_app (goodIn_of _ (by decide +kernel)) ggX9_strip_X9_in
set_option maxRecDepth 20000 in
theorem ggX9_strip_X9_against : GoodIn wsX9_strip wsX9_against := goodIn_r _ [27, 10, 4, 28, 8, 29, 5, 6, 2, 30, 31, 32, 33, 34, 35, 36, 37, 38, 39, 40, 41, 42, 43, 44, 45, 46, 47, 48, 49, 50, 51, 52, 53, 54, 55, 56, 57, 58, 59, 60, 61, 62, 63, 64, 65, 66, 67, 68, 69, 70, 71] (by decide +kernel) (by decide +kernel)
set_option maxRecDepth 20000 in
theorem gX9_strip_X9_against : GoodIn wsX9_strip (wsV RX9 146 RX9 yX9_against wsX9_against) := goodIn_app (goodIn_of _ (by decide +kernel)) ggX9_strip_X9_against
theorem dX9_strip_0 : decode cX9_strip 0 = .ok (.aload_n 0, 1) := by decide +kernel
theorem dX9_strip_1 : decode cX9_strip 1 = .ok (.iconst 0, 1) := by decide +kernel
theorem dX9_strip_2 : decode cX9_strip 2 = .ok (.putfield 106, 3) := by decide +kernel
theorem dX9_strip_5 : decode cX9_strip 5 = .ok (.aload_n 0, 1) := by decide +kernel
theorem dX9_strip_6 : decode cX9_strip 6 = .ok (.aload_n 0, 1) := by decide +kernel
theorem dX9_strip_7 : decode cX9_strip 7 = .ok (.iload_n 1, 1) := by decide +kernel
theorem dX9_strip_8 : decode cX9_strip 8 = .ok (.invokevirtual 139, 3) := by decide +kernel
theorem dX9_strip_11 : decode cX9_strip 11 = .ok (.iconst 1, 1) := by decide +kernel
theorem dX9_strip_12 : decode cX9_strip 12 = .ok (.invokevirtual 119, 3) := by decide +kernel
theorem dX9_strip_15 : decode cX9_strip 15 = .ok (.ifCond .ne 27, 3) := by decide +kernel
theorem dX9_strip_18 : decode cX9_strip 18 = .ok (.aload_n 0, 1) := by decide +kernel
theorem dX9_strip_19 : decode cX9_strip 19 = .ok (.iload_n 2, 1) := by decide +kernel
theorem dX9_strip_20 : decode cX9_strip 20 = .ok (.iconst 1, 1) := by decide +kernel
theorem dX9_strip_21 : decode cX9_strip 21 = .ok (.sipush 3000, 3) := by decide +kernel
theorem dX9_strip_24 : decode cX9_strip 24 = .ok (.invokestatic 112, 3) := by decide +kernel
theorem dX9_strip_27 : decode cX9_strip 27 = .ok (.ifCond .ne 7, 3) := by decide +kernel
theorem dX9_strip_30 : decode cX9_strip 30 = .ok (.iconst 1, 1) := by decide +kernel
theorem dX9_strip_31 : decode cX9_strip 31 = .ok (.goto 4, 3) := by decide +kernel
theorem dX9_strip_34 : decode cX9_strip 34 = .ok (.iconst 0, 1) := by decide +kernel
theorem dX9_strip_35 : decode cX9_strip 35 = .ok (.iconst 2, 1) := by decide +kernel
theorem dX9_strip_36 : decode cX9_strip 36 = .ok (.invokevirtual 119, 3) := by decide +kernel
theorem dX9_strip_39 : decode cX9_strip 39 = .ok (.ifCond .eq 5, 3) := by decide +kernel
theorem dX9_strip_42 : decode cX9_strip 42 = .ok (.iconst 0, 1) := by decide +kernel
theorem dX9_strip_43 : decode cX9_strip 43 = .ok (.ireturn, 1) := by decide +kernel
theorem dX9_strip_44 : decode cX9_strip 44 = .ok (.aload_n 0, 1) := by decide +kernel
theorem dX9_strip_45 : decode cX9_strip 45 = .ok (.iload_n 1, 1) := by decide +kernel
theorem dX9_strip_46 : decode cX9_strip 46 = .ok (.iload_n 2, 1) := by decide +kernel
theorem dX9_strip_47 : decode cX9_strip 47 = .ok (.invokevirtual 146, 3) := by decide +kernel
theorem dX9_strip_50 : decode cX9_strip 50 = .ok (.istore_n 3, 1) := by decide +kernel
theorem dX9_strip_51 : decode cX9_strip 51 = .ok (.iload_n 3, 1) := by decide +kernel
theorem dX9_strip_52 : decode cX9_strip 52 = .ok (.ifCond .le 6, 3) := by decide +kernel
theorem dX9_strip_55 : decode cX9_strip 55 = .ok (.iload_n 3, 1) := by decide +kernel
theorem dX9_strip_56 : decode cX9_strip 56 = .ok (.ineg, 1) := by decide +kernel
theorem dX9_strip_57 : decode cX9_strip 57 = .ok (.ireturn, 1) := by decide +kernel
theorem dX9_strip_58 : decode cX9_strip 58 = .ok (.bipush 6, 2) := by decide +kernel
theorem dX9_strip_60 : decode cX9_strip 60 = .ok (.aload_n 0, 1) := by decide +kernel
theorem dX9_strip_61 : decode cX9_strip 61 = .ok (.getfield 143, 3) := by decide +kernel
theorem dX9_strip_64 : decode cX9_strip 64 = .ok (.imul, 1) := by decide +kernel
theorem dX9_strip_65 : decode cX9_strip 65 = .ok (.istore 4, 2) := by decide +kernel
theorem dX9_strip_67 : decode cX9_strip 67 = .ok (.aload_n 0, 1) := by decide +kernel
theorem dX9_strip_68 : decode cX9_strip 68 = .ok (.getfield 47, 3) := by decide +kernel
theorem dX9_strip_71 : decode cX9_strip 71 = .ok (.iload 4, 2) := by decide +kernel
theorem dX9_strip_73 : decode cX9_strip 73 = .ok (.iload_n 1, 1) := by decide +kernel
theorem dX9_strip_74 : decode cX9_strip 74 = .ok (.iastore, 1) := by decide +kernel
theorem dX9_strip_75 : decode cX9_strip 75 = .ok (.aload_n 0, 1) := by decide +kernel
theorem dX9_strip_76 : decode cX9_strip 76 = .ok (.getfield 47, 3) := by decide +kernel
theorem dX9_strip_79 : decode cX9_strip 79 = .ok (.iload 4, 2) := by decide +kernel
theorem dX9_strip_81 : decode cX9_strip 81 = .ok (.iconst 1, 1) := by decide +kernel
theorem dX9_strip_82 : decode cX9_strip 82 = .ok (.iadd, 1) := by decide +kernel
theorem dX9_strip_83 : decode cX9_strip 83 = .ok (.aload_n 0, 1) := by decide +kernel
theorem dX9_strip_84 : decode cX9_strip 84 = .ok (.getfield 129, 3) := by decide +kernel
theorem dX9_strip_87 : decode cX9_strip 87 = .ok (.iastore, 1) := by decide +kernel
theorem dX9_strip_88 : decode cX9_strip 88 = .ok (.aload_n 0, 1) := by decide +kernel
theorem dX9_strip_89 : decode cX9_strip 89 = .ok (.getfield 47, 3) := by decide +kernel
theorem dX9_strip_92 : decode cX9_strip 92 = .ok (.iload 4, 2) := by decide +kernel
theorem dX9_strip_94 : decode cX9_strip 94 = .ok (.iconst 2, 1) := by decide +kernel
theorem dX9_strip_95 : decode cX9_strip 95 = .ok (.iadd, 1) := by decide +kernel
theorem dX9_strip_96 : decode cX9_strip 96 = .ok (.iload_n 2, 1) := by decide +kernel
theorem dX9_strip_97 : decode cX9_strip 97 = .ok (.iastore, 1) := by decide +kernel
theorem dX9_strip_98 : decode cX9_strip 98 = .ok (.aload_n 0, 1) := by decide +kernel
theorem dX9_strip_99 : decode cX9_strip 99 = .ok (.getfield 47, 3) := by decide +kernel
theorem dX9_strip_102 : decode cX9_strip 102 = .ok (.iload 4, 2) := by decide +kernel
theorem dX9_strip_104 : decode cX9_strip 104 = .ok (.iconst 3, 1) := by decide +kernel
theorem dX9_strip_105 : decode cX9_strip 105 = .ok (.iadd, 1) := by decide +kernel
theorem dX9_strip_106 : decode cX9_strip 106 = .ok (.aload_n 0, 1) := by decide +kernel
theorem dX9_strip_107 : decode cX9_strip 107 = .ok (.getfield 9, 3) := by decide +kernel
theorem dX9_strip_110 : decode cX9_strip 110 = .ok (.iload_n 1, 1) := by decide +kernel
theorem dX9_strip_111 : decode cX9_strip 111 = .ok (.iaload, 1) := by decide +kernel
theorem dX9_strip_112 : decode cX9_strip 112 = .ok (.iastore, 1) := by decide +kernel
theorem dX9_strip_113 : decode cX9_strip 113 = .ok (.aload_n 0, 1) := by decide +kernel
theorem dX9_strip_114 : decode cX9_strip 114 = .ok (.getfield 47, 3) := by decide +kernel
theorem dX9_strip_117 : decode cX9_strip 117 = .ok (.iload 4, 2) := by decide +kernel
theorem dX9_strip_119 : decode cX9_strip 119 = .ok (.iconst 4, 1) := by decide +kernel
theorem dX9_strip_120 : decode cX9_strip 120 = .ok (.iadd, 1) := by decide +kernel
theorem dX9_strip_121 : decode cX9_strip 121 = .ok (.aload_n 0, 1) := by decide +kernel
theorem dX9_strip_122 : decode cX9_strip 122 = .ok (.getfield 13, 3) := by decide +kernel
theorem dX9_strip_125 : decode cX9_strip 125 = .ok (.iload_n 1, 1) := by decide +kernel
theorem dX9_strip_126 : decode cX9_strip 126 = .ok (.iaload, 1) := by decide +kernel
theorem dX9_strip_127 : decode cX9_strip 127 = .ok (.iastore, 1) := by decide +kernel
theorem dX9_strip_128 : decode cX9_strip 128 = .ok (.aload_n 0, 1) := by decide +kernel
theorem dX9_strip_129 : decode cX9_strip 129 = .ok (.getfield 47, 3) := by decide +kernel
theorem dX9_strip_132 : decode cX9_strip 132 = .ok (.iload 4, 2) := by decide +kernel
theorem dX9_strip_134 : decode cX9_strip 134 = .ok (.iconst 5, 1) := by decide +kernel
theorem dX9_strip_135 : decode cX9_strip 135 = .ok (.iadd, 1) := by decide +kernel
theorem dX9_strip_136 : decode cX9_strip 136 = .ok (.iconst (-1), 1) := by decide +kernel
theorem dX9_strip_137 : decode cX9_strip 137 = .ok (.iastore, 1) := by decide +kernel
theorem dX9_strip_138 : decode cX9_strip 138 = .ok (.aload_n 0, 1) := by decide +kernel
theorem dX9_strip_139 : decode cX9_strip 139 = .ok (.dup, 1) := by decide +kernel
theorem dX9_strip_140 : decode cX9_strip 140 = .ok (.getfield 143, 3) := by decide +kernel
theorem dX9_strip_143 : decode cX9_strip 143 = .ok (.iconst 1, 1) := by decide +kernel
theorem dX9_strip_144 : decode cX9_strip 144 = .ok (.iadd, 1) := by decide +kernel
theorem dX9_strip_145 : decode cX9_strip 145 = .ok (.putfield 143, 3) := by decide +kernel
theorem dX9_strip_148 : decode cX9_strip 148 = .ok (.aload_n 0, 1) := by decide +kernel
theorem dX9_strip_149 : decode cX9_strip 149 = .ok (.getfield 32, 3) := by decide +kernel
theorem dX9_strip_152 : decode cX9_strip 152 = .ok (.iload_n 1, 1) := by decide +kernel
theorem dX9_strip_153 : decode cX9_strip 153 = .ok (.dup2, 1) := by decide +kernel
theorem dX9_strip_154 : decode cX9_strip 154 = .ok (.iaload, 1) := by decide +kernel
theorem dX9_strip_155 : decode cX9_strip 155 = .ok (.aload_n 0, 1) := by decide +kernel
theorem dX9_strip_156 : decode cX9_strip 156 = .ok (.getfield 13, 3) := by decide +kernel
theorem dX9_strip_159 : decode cX9_strip 159 = .ok (.iload_n 1, 1) := by decide +kernel
theorem dX9_strip_160 : decode cX9_strip 160 = .ok (.iaload, 1) := by decide +kernel
theorem dX9_strip_161 : decode cX9_strip 161 = .ok (.iadd, 1) := by decide +kernel
theorem dX9_strip_162 : decode cX9_strip 162 = .ok (.iastore, 1) := by decide +kernel
theorem dX9_strip_163 : decode cX9_strip 163 = .ok (.aload_n 0, 1) := by decide +kernel
theorem dX9_strip_164 : decode cX9_strip 164 = .ok (.getfield 13, 3) := by decide +kernel
theorem dX9_strip_167 : decode cX9_strip 167 = .ok (.iload_n 1, 1) := by decide +kernel
theorem dX9_strip_168 : decode cX9_strip 168 = .ok (.iconst 0, 1) := by decide +kernel
theorem dX9_strip_169 : decode cX9_strip 169 = .ok (.iastore, 1) := by decide +kernel
theorem dX9_strip_170 : decode cX9_strip 170 = .ok (.aload_n 0, 1) := by decide +kernel
theorem dX9_strip_171 : decode cX9_strip 171 = .ok (.getfield 16, 3) := by decide +kernel
theorem dX9_strip_174 : decode cX9_strip 174 = .ok (.iload_n 1, 1) := by decide +kernel
theorem dX9_strip_175 : decode cX9_strip 175 = .ok (.aload_n 0, 1) := by decide +kernel
theorem dX9_strip_176 : decode cX9_strip 176 = .ok (.getfield 129, 3) := by decide +kernel
theorem dX9_strip_179 : decode cX9_strip 179 = .ok (.iastore, 1) := by decide +kernel
theorem dX9_strip_180 : decode cX9_strip 180 = .ok (.aload_n 0, 1) := by decide +kernel
theorem dX9_strip_181 : decode cX9_strip 181 = .ok (.getfield 19, 3) := by decide +kernel
theorem dX9_strip_184 : decode cX9_strip 184 = .ok (.iload_n 1, 1) := by decide +kernel
theorem dX9_strip_185 : decode cX9_strip 185 = .ok (.iload_n 2, 1) := by decide +kernel
theorem dX9_strip_186 : decode cX9_strip 186 = .ok (.iastore, 1) := by decide +kernel
theorem dX9_strip_187 : decode cX9_strip 187 = .ok (.aload_n 0, 1) := by decide +kernel
theorem dX9_strip_188 : decode cX9_strip 188 = .ok (.getfield 25, 3) := by decide +kernel
theorem dX9_strip_191 : decode cX9_strip 191 = .ok (.iload_n 1, 1) := by decide +kernel
theorem dX9_strip_192 : decode cX9_strip 192 = .ok (.iconst 0, 1) := by decide +kernel
theorem dX9_strip_193 : decode cX9_strip 193 = .ok (.bastore, 1) := by decide +kernel
theorem dX9_strip_194 : decode cX9_strip 194 = .ok (.aload_n 0, 1) := by decide +kernel
theorem dX9_strip_195 : decode cX9_strip 195 = .ok (.getfield 143, 3) := by decide +kernel
theorem dX9_strip_198 : decode cX9_strip 198 = .ok (.iconst 1, 1) := by decide +kernel
theorem dX9_strip_199 : decode cX9_strip 199 = .ok (.isub, 1) := by decide +kernel
theorem dX9_strip_200 : decode cX9_strip 200 = .ok (.ireturn, 1) := by decide +kernel
set_option maxRecDepth 20000 in
theorem ggX9_wound_X9_noTree : GoodIn wsX9_wound wsX9_noTree := goodIn_r _ [9, 10, 11, 12, 8, 13, 18, 19, 20, 21, 22, 23, 24, 25, 26, 27, 28, 29, 30, 31, 32, 33, 34, 35, 36, 37, 38, 39, 40, 41, 42, 43, 44, 45, 46, 47, 48, 49, 50, 51, 52, 53, 54, 55, 56, 57, 58, 59] (by decide +kernel) (by decide +kernel)
set_option maxRecDepth 20000 in
theorem gX9_wound_X9_noTree : GoodIn wsX9_wound (wsV RX9 139 RX9 yX9_noTree wsX9_noTree) := goodIn_app (goodIn_of _ (by decide +kernel)) ggX9_wound_X9_noTree
set_option maxRecDepth 20000 in
theorem ggX9_wound_X9_throwsIf : GoodIn wsX9_wound wsX9_throwsIf := goodIn_r _ [17, 1, 18, 19, 20, 21, 22, 23, 24, 25, 26, 27, 28, 29, 30, 31, 32, 33, 34, 35, 36, 37, 38, 39, 40, 41, 42, 43, 44, 45, 46, 47, 48, 49, 50, 51, 52, 53, 54, 55, 56, 57, 58, 59] (by decide +kernel) (by decide +kernel)
set_option maxRecDepth 20000 in
theorem gX9_wound_X9_throwsIf : GoodIn wsX9_wound (wsV RX9 119 RX9 yX9_throwsIf wsX9_throwsIf) := goodIn_app (goodIn_of _ (by decide +kernel)) ggX9_wound_X9_throwsIf
theorem dX9_wound_0 : decode cX9_wound 0 = .ok (.aload_n 0, 1) := by decide +kernel
theorem dX9_wound_1 : decode cX9_wound 1 = .ok (.iconst 0, 1) := by decide +kernel
theorem dX9_wound_2 : decode cX9_wound 2 = .ok (.putfield 106, 3) := by decide +kernel
theorem dX9_wound_5 : decode cX9_wound 5 = .ok (.aload_n 0, 1) := by decide +kernel
theorem dX9_wound_6 : decode cX9_wound 6 = .ok (.aload_n 0, 1) := by decide +kernel
theorem dX9_wound_7 : decode cX9_wound 7 = .ok (.iload_n 1, 1) := by decide +kernel
theorem dX9_wound_8 : decode cX9_wound 8 = .ok (.invokevirtual 139, 3) := by decide +kernel
theorem dX9_wound_11 : decode cX9_wound 11 = .ok (.iconst 1, 1) := by decide +kernel
theorem dX9_wound_12 : decode cX9_wound 12 = .ok (.invokevirtual 119, 3) := by decide +kernel
theorem dX9_wound_15 : decode cX9_wound 15 = .ok (.ifCond .eq 5, 3) := by decide +kernel
theorem dX9_wound_18 : decode cX9_wound 18 = .ok (.iconst 0, 1) := by decide +kernel
theorem dX9_wound_19 : decode cX9_wound 19 = .ok (.ireturn, 1) := by decide +kernel
theorem dX9_wound_20 : decode cX9_wound 20 = .ok (.aload_n 0, 1) := by decide +kernel
theorem dX9_wound_21 : decode cX9_wound 21 = .ok (.getfield 22, 3) := by decide +kernel
theorem dX9_wound_24 : decode cX9_wound 24 = .ok (.iload_n 1, 1) := by decide +kernel
theorem dX9_wound_25 : decode cX9_wound 25 = .ok (.aload_n 0, 1) := by decide +kernel
theorem dX9_wound_26 : decode cX9_wound 26 = .ok (.getfield 129, 3) := by decide +kernel
theorem dX9_wound_29 : decode cX9_wound 29 = .ok (.aload_n 0, 1) := by decide +kernel
theorem dX9_wound_30 : decode cX9_wound 30 = .ok (.getfield 41, 3) := by decide +kernel
theorem dX9_wound_33 : decode cX9_wound 33 = .ok (.iconst 4, 1) := by decide +kernel
theorem dX9_wound_34 : decode cX9_wound 34 = .ok (.iaload, 1) := by decide +kernel
theorem dX9_wound_35 : decode cX9_wound 35 = .ok (.iadd, 1) := by decide +kernel
theorem dX9_wound_36 : decode cX9_wound 36 = .ok (.iastore, 1) := by decide +kernel
theorem dX9_wound_37 : decode cX9_wound 37 = .ok (.aload_n 0, 1) := by decide +kernel
theorem dX9_wound_38 : decode cX9_wound 38 = .ok (.getfield 22, 3) := by decide +kernel
theorem dX9_wound_41 : decode cX9_wound 41 = .ok (.iload_n 1, 1) := by decide +kernel
theorem dX9_wound_42 : decode cX9_wound 42 = .ok (.iaload, 1) := by decide +kernel
theorem dX9_wound_43 : decode cX9_wound 43 = .ok (.ireturn, 1) := by decide +kernel
set_option maxRecDepth 20000 in
theorem ggX9_fire_X9_noTree : GoodIn wsX9_fire wsX9_noTree := goodIn_r _ [12, 13, 14, 15, 11, 16, 21, 22, 23, 24, 25, 26, 27, 28, 29, 30, 31, 32, 33, 34, 35, 36, 37, 38, 39, 40, 41, 42, 43, 44, 45, 46, 47, 48, 49, 50, 51, 52, 53, 54, 55, 56, 57, 58, 59, 60, 61, 62] (by decide +kernel) (by decide +kernel)
set_option maxRecDepth 20000 in
theorem gX9_fire_X9_noTree : GoodIn wsX9_fire (wsV RX9 139 RX9 yX9_noTree wsX9_noTree) := goodIn_app (goodIn_of _ (by decide +kernel)) ggX9_fire_X9_noTree
set_option maxRecDepth 20000 in
theorem ggX9_fire_X9_throwsIf : GoodIn wsX9_fire wsX9_throwsIf := goodIn_r _ [20, 1, 21, 22, 23, 24, 25, 26, 27, 28, 29, 30, 31, 32, 33, 34, 35, 36, 37, 38, 39, 40, 41, 42, 43, 44, 45, 46, 47, 48, 49, 50, 51, 52, 53, 54, 55, 56, 57, 58, 59, 60, 61, 62] (by decide +kernel) (by decide +kernel)
set_option maxRecDepth 20000 in
theorem gX9_fire_X9_throwsIf : GoodIn wsX9_fire (wsV RX9 119 RX9 yX9_throwsIf wsX9_throwsIf) := goodIn_app (goodIn_of _ (by decide +kernel)) ggX9_fire_X9_throwsIf
theorem dX9_fire_0 : decode cX9_fire 0 = .ok (.aload_n 0, 1) := by decide +kernel
theorem dX9_fire_1 : decode cX9_fire 1 = .ok (.iconst 0, 1) := by decide +kernel
theorem dX9_fire_2 : decode cX9_fire 2 = .ok (.putfield 106, 3) := by decide +kernel
theorem dX9_fire_5 : decode cX9_fire 5 = .ok (.aload_n 0, 1) := by decide +kernel
theorem dX9_fire_6 : decode cX9_fire 6 = .ok (.aload_n 0, 1) := by decide +kernel
theorem dX9_fire_7 : decode cX9_fire 7 = .ok (.iload_n 1, 1) := by decide +kernel
theorem dX9_fire_8 : decode cX9_fire 8 = .ok (.invokevirtual 139, 3) := by decide +kernel
theorem dX9_fire_11 : decode cX9_fire 11 = .ok (.iconst 1, 1) := by decide +kernel
theorem dX9_fire_12 : decode cX9_fire 12 = .ok (.invokevirtual 119, 3) := by decide +kernel
theorem dX9_fire_15 : decode cX9_fire 15 = .ok (.ifCond .eq 5, 3) := by decide +kernel
theorem dX9_fire_18 : decode cX9_fire 18 = .ok (.iconst 0, 1) := by decide +kernel
theorem dX9_fire_19 : decode cX9_fire 19 = .ok (.ireturn, 1) := by decide +kernel
theorem dX9_fire_20 : decode cX9_fire 20 = .ok (.aload_n 0, 1) := by decide +kernel
theorem dX9_fire_21 : decode cX9_fire 21 = .ok (.getfield 13, 3) := by decide +kernel
theorem dX9_fire_24 : decode cX9_fire 24 = .ok (.iload_n 1, 1) := by decide +kernel
theorem dX9_fire_25 : decode cX9_fire 25 = .ok (.iaload, 1) := by decide +kernel
theorem dX9_fire_26 : decode cX9_fire 26 = .ok (.istore_n 2, 1) := by decide +kernel
theorem dX9_fire_27 : decode cX9_fire 27 = .ok (.aload_n 0, 1) := by decide +kernel
theorem dX9_fire_28 : decode cX9_fire 28 = .ok (.getfield 35, 3) := by decide +kernel
theorem dX9_fire_31 : decode cX9_fire 31 = .ok (.iload_n 1, 1) := by decide +kernel
theorem dX9_fire_32 : decode cX9_fire 32 = .ok (.dup2, 1) := by decide +kernel
theorem dX9_fire_33 : decode cX9_fire 33 = .ok (.iaload, 1) := by decide +kernel
theorem dX9_fire_34 : decode cX9_fire 34 = .ok (.iload_n 2, 1) := by decide +kernel
theorem dX9_fire_35 : decode cX9_fire 35 = .ok (.iadd, 1) := by decide +kernel
theorem dX9_fire_36 : decode cX9_fire 36 = .ok (.iastore, 1) := by decide +kernel
theorem dX9_fire_37 : decode cX9_fire 37 = .ok (.aload_n 0, 1) := by decide +kernel
theorem dX9_fire_38 : decode cX9_fire 38 = .ok (.getfield 13, 3) := by decide +kernel
theorem dX9_fire_41 : decode cX9_fire 41 = .ok (.iload_n 1, 1) := by decide +kernel
theorem dX9_fire_42 : decode cX9_fire 42 = .ok (.iconst 0, 1) := by decide +kernel
theorem dX9_fire_43 : decode cX9_fire 43 = .ok (.iastore, 1) := by decide +kernel
theorem dX9_fire_44 : decode cX9_fire 44 = .ok (.aload_n 0, 1) := by decide +kernel
theorem dX9_fire_45 : decode cX9_fire 45 = .ok (.getfield 16, 3) := by decide +kernel
theorem dX9_fire_48 : decode cX9_fire 48 = .ok (.iload_n 1, 1) := by decide +kernel
theorem dX9_fire_49 : decode cX9_fire 49 = .ok (.aload_n 0, 1) := by decide +kernel
theorem dX9_fire_50 : decode cX9_fire 50 = .ok (.getfield 129, 3) := by decide +kernel
theorem dX9_fire_53 : decode cX9_fire 53 = .ok (.iastore, 1) := by decide +kernel
theorem dX9_fire_54 : decode cX9_fire 54 = .ok (.aload_n 0, 1) := by decide +kernel
theorem dX9_fire_55 : decode cX9_fire 55 = .ok (.getfield 19, 3) := by decide +kernel
theorem dX9_fire_58 : decode cX9_fire 58 = .ok (.iload_n 1, 1) := by decide +kernel
theorem dX9_fire_59 : decode cX9_fire 59 = .ok (.iconst 0, 1) := by decide +kernel
theorem dX9_fire_60 : decode cX9_fire 60 = .ok (.iastore, 1) := by decide +kernel
theorem dX9_fire_61 : decode cX9_fire 61 = .ok (.aload_n 0, 1) := by decide +kernel
theorem dX9_fire_62 : decode cX9_fire 62 = .ok (.getfield 25, 3) := by decide +kernel
theorem dX9_fire_65 : decode cX9_fire 65 = .ok (.iload_n 1, 1) := by decide +kernel
theorem dX9_fire_66 : decode cX9_fire 66 = .ok (.iconst 0, 1) := by decide +kernel
theorem dX9_fire_67 : decode cX9_fire 67 = .ok (.bastore, 1) := by decide +kernel
theorem dX9_fire_68 : decode cX9_fire 68 = .ok (.iload_n 2, 1) := by decide +kernel
theorem dX9_fire_69 : decode cX9_fire 69 = .ok (.ireturn, 1) := by decide +kernel
set_option maxRecDepth 20000 in
theorem ggX9_look_X9_noTree : GoodIn wsX9_look wsX9_noTree := goodIn_r _ [16, 17, 18, 19, 15, 20, 25, 26, 27, 28, 29, 30, 31, 32, 33, 34, 35, 36, 37, 38, 39, 40, 41, 42, 43, 44, 45, 46, 47, 48, 49, 50, 51, 52, 53, 54, 55, 56, 57, 58, 59, 60, 61, 62, 63, 64, 65, 66] (by decide +kernel) (by decide +kernel)
set_option maxRecDepth 20000 in
theorem gX9_look_X9_noTree : GoodIn wsX9_look (wsV RX9 139 RX9 yX9_noTree wsX9_noTree) := goodIn_app (goodIn_of _ (by decide +kernel)) ggX9_look_X9_noTree
set_option maxRecDepth 20000 in
theorem ggX9_look_X9_throwsIf : GoodIn wsX9_look wsX9_throwsIf := goodIn_r _ [24, 1, 25, 26, 27, 28, 29, 30, 31, 32, 33, 34, 35, 36, 37, 38, 39, 40, 41, 42, 43, 44, 45, 46, 47, 48, 49, 50, 51, 52, 53, 54, 55, 56, 57, 58, 59, 60, 61, 62, 63, 64, 65, 66] (by decide +kernel) (by decide +kernel)
set_option maxRecDepth 20000 in
theorem gX9_look_X9_throwsIf : GoodIn wsX9_look (wsV RX9 119 RX9 yX9_throwsIf wsX9_throwsIf) := goodIn_app (goodIn_of _ (by decide +kernel)) ggX9_look_X9_throwsIf
theorem dX9_look_0 : decode cX9_look 0 = .ok (.aload_n 0, 1) := by decide +kernel
theorem dX9_look_1 : decode cX9_look 1 = .ok (.iconst 0, 1) := by decide +kernel
theorem dX9_look_2 : decode cX9_look 2 = .ok (.putfield 106, 3) := by decide +kernel
theorem dX9_look_5 : decode cX9_look 5 = .ok (.aload_n 0, 1) := by decide +kernel
theorem dX9_look_6 : decode cX9_look 6 = .ok (.aload_n 0, 1) := by decide +kernel
theorem dX9_look_7 : decode cX9_look 7 = .ok (.iload_n 1, 1) := by decide +kernel
theorem dX9_look_8 : decode cX9_look 8 = .ok (.invokevirtual 139, 3) := by decide +kernel
theorem dX9_look_11 : decode cX9_look 11 = .ok (.iconst 1, 1) := by decide +kernel
theorem dX9_look_12 : decode cX9_look 12 = .ok (.invokevirtual 119, 3) := by decide +kernel
theorem dX9_look_15 : decode cX9_look 15 = .ok (.ifCond .eq 5, 3) := by decide +kernel
theorem dX9_look_18 : decode cX9_look 18 = .ok (.iconst 0, 1) := by decide +kernel
theorem dX9_look_19 : decode cX9_look 19 = .ok (.ireturn, 1) := by decide +kernel
theorem dX9_look_20 : decode cX9_look 20 = .ok (.iload_n 2, 1) := by decide +kernel
theorem dX9_look_21 : decode cX9_look 21 = .ok (.tableswitch 133 0 9 #[55, 62, 69, 76, 83, 90, 105, 112, 119, 126], 55) := by decide +kernel
theorem dX9_look_76 : decode cX9_look 76 = .ok (.aload_n 0, 1) := by decide +kernel
theorem dX9_look_77 : decode cX9_look 77 = .ok (.getfield 9, 3) := by decide +kernel
theorem dX9_look_80 : decode cX9_look 80 = .ok (.iload_n 1, 1) := by decide +kernel
theorem dX9_look_81 : decode cX9_look 81 = .ok (.iaload, 1) := by decide +kernel
theorem dX9_look_82 : decode cX9_look 82 = .ok (.ireturn, 1) := by decide +kernel
theorem dX9_look_83 : decode cX9_look 83 = .ok (.aload_n 0, 1) := by decide +kernel
theorem dX9_look_84 : decode cX9_look 84 = .ok (.getfield 13, 3) := by decide +kernel
theorem dX9_look_87 : decode cX9_look 87 = .ok (.iload_n 1, 1) := by decide +kernel
theorem dX9_look_88 : decode cX9_look 88 = .ok (.iaload, 1) := by decide +kernel
theorem dX9_look_89 : decode cX9_look 89 = .ok (.ireturn, 1) := by decide +kernel
theorem dX9_look_90 : decode cX9_look 90 = .ok (.aload_n 0, 1) := by decide +kernel
theorem dX9_look_91 : decode cX9_look 91 = .ok (.getfield 16, 3) := by decide +kernel
theorem dX9_look_94 : decode cX9_look 94 = .ok (.iload_n 1, 1) := by decide +kernel
theorem dX9_look_95 : decode cX9_look 95 = .ok (.iaload, 1) := by decide +kernel
theorem dX9_look_96 : decode cX9_look 96 = .ok (.ireturn, 1) := by decide +kernel
theorem dX9_look_97 : decode cX9_look 97 = .ok (.aload_n 0, 1) := by decide +kernel
theorem dX9_look_98 : decode cX9_look 98 = .ok (.getfield 19, 3) := by decide +kernel
theorem dX9_look_101 : decode cX9_look 101 = .ok (.iload_n 1, 1) := by decide +kernel
theorem dX9_look_102 : decode cX9_look 102 = .ok (.iaload, 1) := by decide +kernel
theorem dX9_look_103 : decode cX9_look 103 = .ok (.ireturn, 1) := by decide +kernel
theorem dX9_look_104 : decode cX9_look 104 = .ok (.aload_n 0, 1) := by decide +kernel
theorem dX9_look_105 : decode cX9_look 105 = .ok (.getfield 22, 3) := by decide +kernel
theorem dX9_look_108 : decode cX9_look 108 = .ok (.iload_n 1, 1) := by decide +kernel
theorem dX9_look_109 : decode cX9_look 109 = .ok (.iaload, 1) := by decide +kernel
theorem dX9_look_110 : decode cX9_look 110 = .ok (.ireturn, 1) := by decide +kernel
theorem dX9_look_111 : decode cX9_look 111 = .ok (.aload_n 0, 1) := by decide +kernel
theorem dX9_look_112 : decode cX9_look 112 = .ok (.getfield 25, 3) := by decide +kernel
theorem dX9_look_115 : decode cX9_look 115 = .ok (.iload_n 1, 1) := by decide +kernel
theorem dX9_look_116 : decode cX9_look 116 = .ok (.baload, 1) := by decide +kernel
theorem dX9_look_117 : decode cX9_look 117 = .ok (.ifCond .eq 7, 3) := by decide +kernel
theorem dX9_look_120 : decode cX9_look 120 = .ok (.iconst 1, 1) := by decide +kernel
theorem dX9_look_121 : decode cX9_look 121 = .ok (.goto 4, 3) := by decide +kernel
theorem dX9_look_124 : decode cX9_look 124 = .ok (.iconst 0, 1) := by decide +kernel
theorem dX9_look_125 : decode cX9_look 125 = .ok (.ireturn, 1) := by decide +kernel
theorem dX9_look_126 : decode cX9_look 126 = .ok (.aload_n 0, 1) := by decide +kernel
theorem dX9_look_127 : decode cX9_look 127 = .ok (.getfield 29, 3) := by decide +kernel
theorem dX9_look_130 : decode cX9_look 130 = .ok (.iload_n 1, 1) := by decide +kernel
theorem dX9_look_131 : decode cX9_look 131 = .ok (.iaload, 1) := by decide +kernel
theorem dX9_look_132 : decode cX9_look 132 = .ok (.ireturn, 1) := by decide +kernel
theorem dX9_look_133 : decode cX9_look 133 = .ok (.aload_n 0, 1) := by decide +kernel
theorem dX9_look_134 : decode cX9_look 134 = .ok (.getfield 32, 3) := by decide +kernel
theorem dX9_look_137 : decode cX9_look 137 = .ok (.iload_n 1, 1) := by decide +kernel
theorem dX9_look_138 : decode cX9_look 138 = .ok (.iaload, 1) := by decide +kernel
theorem dX9_look_139 : decode cX9_look 139 = .ok (.ireturn, 1) := by decide +kernel
theorem dX9_look_140 : decode cX9_look 140 = .ok (.aload_n 0, 1) := by decide +kernel
theorem dX9_look_141 : decode cX9_look 141 = .ok (.getfield 35, 3) := by decide +kernel
theorem dX9_look_144 : decode cX9_look 144 = .ok (.iload_n 1, 1) := by decide +kernel
theorem dX9_look_145 : decode cX9_look 145 = .ok (.iaload, 1) := by decide +kernel
theorem dX9_look_146 : decode cX9_look 146 = .ok (.ireturn, 1) := by decide +kernel
theorem dX9_look_147 : decode cX9_look 147 = .ok (.aload_n 0, 1) := by decide +kernel
theorem dX9_look_148 : decode cX9_look 148 = .ok (.getfield 38, 3) := by decide +kernel
theorem dX9_look_151 : decode cX9_look 151 = .ok (.iload_n 1, 1) := by decide +kernel
theorem dX9_look_152 : decode cX9_look 152 = .ok (.iaload, 1) := by decide +kernel
theorem dX9_look_153 : decode cX9_look 153 = .ok (.ireturn, 1) := by decide +kernel
theorem dX9_look_154 : decode cX9_look 154 = .ok (.aload_n 0, 1) := by decide +kernel
theorem dX9_look_155 : decode cX9_look 155 = .ok (.iconst 2, 1) := by decide +kernel
theorem dX9_look_156 : decode cX9_look 156 = .ok (.putfield 106, 3) := by decide +kernel
theorem dX9_look_159 : decode cX9_look 159 = .ok (.iconst 0, 1) := by decide +kernel
theorem dX9_look_160 : decode cX9_look 160 = .ok (.ireturn, 1) := by decide +kernel
theorem dX9_feed_0 : decode cX9_feed 0 = .ok (.aload_n 0, 1) := by decide +kernel
theorem dX9_feed_1 : decode cX9_feed 1 = .ok (.iconst 0, 1) := by decide +kernel
theorem dX9_feed_2 : decode cX9_feed 2 = .ok (.putfield 106, 3) := by decide +kernel
theorem dX9_feed_5 : decode cX9_feed 5 = .ok (.aload_n 0, 1) := by decide +kernel
theorem dX9_feed_6 : decode cX9_feed 6 = .ok (.getfield 149, 3) := by decide +kernel
theorem dX9_feed_9 : decode cX9_feed 9 = .ok (.bipush 20, 2) := by decide +kernel
theorem dX9_feed_11 : decode cX9_feed 11 = .ok (.iadd, 1) := by decide +kernel
theorem dX9_feed_12 : decode cX9_feed 12 = .ok (.sipush 400, 3) := by decide +kernel
theorem dX9_feed_15 : decode cX9_feed 15 = .ok (.if_icmp .le 5, 3) := by decide +kernel
theorem dX9_feed_18 : decode cX9_feed 18 = .ok (.iconst (-1), 1) := by decide +kernel
theorem dX9_feed_19 : decode cX9_feed 19 = .ok (.ireturn, 1) := by decide +kernel
theorem dX9_feed_20 : decode cX9_feed 20 = .ok (.aload_n 0, 1) := by decide +kernel
theorem dX9_feed_21 : decode cX9_feed 21 = .ok (.getfield 66, 3) := by decide +kernel
theorem dX9_feed_24 : decode cX9_feed 24 = .ok (.iconst 0, 1) := by decide +kernel
theorem dX9_feed_25 : decode cX9_feed 25 = .ok (.iload_n 1, 1) := by decide +kernel
theorem dX9_feed_26 : decode cX9_feed 26 = .ok (.iastore, 1) := by decide +kernel
theorem dX9_feed_27 : decode cX9_feed 27 = .ok (.aload_n 0, 1) := by decide +kernel
theorem dX9_feed_28 : decode cX9_feed 28 = .ok (.getfield 66, 3) := by decide +kernel
theorem dX9_feed_31 : decode cX9_feed 31 = .ok (.iconst 1, 1) := by decide +kernel
theorem dX9_feed_32 : decode cX9_feed 32 = .ok (.iload_n 2, 1) := by decide +kernel
theorem dX9_feed_33 : decode cX9_feed 33 = .ok (.iastore, 1) := by decide +kernel
theorem dX9_feed_34 : decode cX9_feed 34 = .ok (.aload_n 0, 1) := by decide +kernel
theorem dX9_feed_35 : decode cX9_feed 35 = .ok (.getfield 66, 3) := by decide +kernel
theorem dX9_feed_38 : decode cX9_feed 38 = .ok (.iconst 2, 1) := by decide +kernel
theorem dX9_feed_39 : decode cX9_feed 39 = .ok (.iload_n 3, 1) := by decide +kernel
theorem dX9_feed_40 : decode cX9_feed 40 = .ok (.iastore, 1) := by decide +kernel
theorem dX9_feed_41 : decode cX9_feed 41 = .ok (.aload_n 0, 1) := by decide +kernel
theorem dX9_feed_42 : decode cX9_feed 42 = .ok (.getfield 66, 3) := by decide +kernel
theorem dX9_feed_45 : decode cX9_feed 45 = .ok (.iconst 3, 1) := by decide +kernel
theorem dX9_feed_46 : decode cX9_feed 46 = .ok (.iload 4, 2) := by decide +kernel
theorem dX9_feed_48 : decode cX9_feed 48 = .ok (.iastore, 1) := by decide +kernel
theorem dX9_feed_49 : decode cX9_feed 49 = .ok (.aload_n 0, 1) := by decide +kernel
theorem dX9_feed_50 : decode cX9_feed 50 = .ok (.getfield 66, 3) := by decide +kernel
theorem dX9_feed_53 : decode cX9_feed 53 = .ok (.iconst 4, 1) := by decide +kernel
theorem dX9_feed_54 : decode cX9_feed 54 = .ok (.iload 5, 2) := by decide +kernel
theorem dX9_feed_56 : decode cX9_feed 56 = .ok (.iastore, 1) := by decide +kernel
theorem dX9_feed_57 : decode cX9_feed 57 = .ok (.iconst 0, 1) := by decide +kernel
theorem dX9_feed_58 : decode cX9_feed 58 = .ok (.istore 6, 2) := by decide +kernel
theorem dX9_feed_60 : decode cX9_feed 60 = .ok (.iload 6, 2) := by decide +kernel
theorem dX9_feed_62 : decode cX9_feed 62 = .ok (.bipush 20, 2) := by decide +kernel
theorem dX9_feed_64 : decode cX9_feed 64 = .ok (.if_icmp .ge 42, 3) := by decide +kernel
theorem dX9_feed_67 : decode cX9_feed 67 = .ok (.aload_n 0, 1) := by decide +kernel
theorem dX9_feed_68 : decode cX9_feed 68 = .ok (.getfield 62, 3) := by decide +kernel
theorem dX9_feed_71 : decode cX9_feed 71 = .ok (.aload_n 0, 1) := by decide +kernel
theorem dX9_feed_72 : decode cX9_feed 72 = .ok (.getfield 149, 3) := by decide +kernel
theorem dX9_feed_75 : decode cX9_feed 75 = .ok (.iload 6, 2) := by decide +kernel
theorem dX9_feed_77 : decode cX9_feed 77 = .ok (.iadd, 1) := by decide +kernel
theorem dX9_feed_78 : decode cX9_feed 78 = .ok (.aload_n 0, 1) := by decide +kernel
theorem dX9_feed_79 : decode cX9_feed 79 = .ok (.getfield 66, 3) := by decide +kernel
theorem dX9_feed_82 : decode cX9_feed 82 = .ok (.iload 6, 2) := by decide +kernel
theorem dX9_feed_84 : decode cX9_feed 84 = .ok (.iconst 4, 1) := by decide +kernel
theorem dX9_feed_85 : decode cX9_feed 85 = .ok (.idiv, 1) := by decide +kernel
theorem dX9_feed_86 : decode cX9_feed 86 = .ok (.iaload, 1) := by decide +kernel
theorem dX9_feed_87 : decode cX9_feed 87 = .ok (.bipush 24, 2) := by decide +kernel
theorem dX9_feed_89 : decode cX9_feed 89 = .ok (.bipush 8, 2) := by decide +kernel
theorem dX9_feed_91 : decode cX9_feed 91 = .ok (.iload 6, 2) := by decide +kernel
theorem dX9_feed_93 : decode cX9_feed 93 = .ok (.iconst 4, 1) := by decide +kernel
theorem dX9_feed_94 : decode cX9_feed 94 = .ok (.irem, 1) := by decide +kernel
theorem dX9_feed_95 : decode cX9_feed 95 = .ok (.imul, 1) := by decide +kernel
theorem dX9_feed_96 : decode cX9_feed 96 = .ok (.isub, 1) := by decide +kernel
theorem dX9_feed_97 : decode cX9_feed 97 = .ok (.ishr, 1) := by decide +kernel
theorem dX9_feed_98 : decode cX9_feed 98 = .ok (.i2b, 1) := by decide +kernel
theorem dX9_feed_99 : decode cX9_feed 99 = .ok (.bastore, 1) := by decide +kernel
theorem dX9_feed_100 : decode cX9_feed 100 = .ok (.iinc 6 1, 3) := by decide +kernel
theorem dX9_feed_103 : decode cX9_feed 103 = .ok (.goto (-43), 3) := by decide +kernel
theorem dX9_feed_106 : decode cX9_feed 106 = .ok (.aload_n 0, 1) := by decide +kernel
theorem dX9_feed_107 : decode cX9_feed 107 = .ok (.dup, 1) := by decide +kernel
theorem dX9_feed_108 : decode cX9_feed 108 = .ok (.getfield 149, 3) := by decide +kernel
theorem dX9_feed_111 : decode cX9_feed 111 = .ok (.bipush 20, 2) := by decide +kernel
theorem dX9_feed_113 : decode cX9_feed 113 = .ok (.iadd, 1) := by decide +kernel
theorem dX9_feed_114 : decode cX9_feed 114 = .ok (.putfield 149, 3) := by decide +kernel
theorem dX9_feed_117 : decode cX9_feed 117 = .ok (.aload_n 0, 1) := by decide +kernel
theorem dX9_feed_118 : decode cX9_feed 118 = .ok (.getfield 149, 3) := by decide +kernel
theorem dX9_feed_121 : decode cX9_feed 121 = .ok (.ireturn, 1) := by decide +kernel
theorem dX9_end_0 : decode cX9_end 0 = .ok (.aload_n 0, 1) := by decide +kernel
theorem dX9_end_1 : decode cX9_end 1 = .ok (.iconst 0, 1) := by decide +kernel
theorem dX9_end_2 : decode cX9_end 2 = .ok (.putfield 106, 3) := by decide +kernel
theorem dX9_end_5 : decode cX9_end 5 = .ok (.iload_n 1, 1) := by decide +kernel
theorem dX9_end_6 : decode cX9_end 6 = .ok (.ifCond .lt 11, 3) := by decide +kernel
theorem dX9_end_9 : decode cX9_end 9 = .ok (.iload_n 1, 1) := by decide +kernel
theorem dX9_end_10 : decode cX9_end 10 = .ok (.aload_n 0, 1) := by decide +kernel
theorem dX9_end_11 : decode cX9_end 11 = .ok (.getfield 149, 3) := by decide +kernel
theorem dX9_end_14 : decode cX9_end 14 = .ok (.if_icmp .le 5, 3) := by decide +kernel
theorem dX9_end_17 : decode cX9_end 17 = .ok (.iconst 0, 1) := by decide +kernel
theorem dX9_end_18 : decode cX9_end 18 = .ok (.ireturn, 1) := by decide +kernel
theorem dX9_end_19 : decode cX9_end 19 = .ok (.aload_n 0, 1) := by decide +kernel
theorem dX9_end_20 : decode cX9_end 20 = .ok (.iload_n 1, 1) := by decide +kernel
theorem dX9_end_21 : decode cX9_end 21 = .ok (.putfield 149, 3) := by decide +kernel
theorem dX9_end_24 : decode cX9_end 24 = .ok (.iconst 1, 1) := by decide +kernel
theorem dX9_end_25 : decode cX9_end 25 = .ok (.ireturn, 1) := by decide +kernel
theorem dX9_isAt_0 : decode cX9_isAt 0 = .ok (.aload_n 0, 1) := by decide +kernel
theorem dX9_isAt_1 : decode cX9_isAt 1 = .ok (.getfield 152, 3) := by decide +kernel
theorem dX9_isAt_4 : decode cX9_isAt 4 = .ok (.aload_n 0, 1) := by decide +kernel
theorem dX9_isAt_5 : decode cX9_isAt 5 = .ok (.getfield 155, 3) := by decide +kernel
theorem dX9_isAt_8 : decode cX9_isAt 8 = .ok (.if_icmp .ge 33, 3) := by decide +kernel
theorem dX9_isAt_11 : decode cX9_isAt 11 = .ok (.aload_n 0, 1) := by decide +kernel
theorem dX9_isAt_12 : decode cX9_isAt 12 = .ok (.getfield 62, 3) := by decide +kernel
theorem dX9_isAt_15 : decode cX9_isAt 15 = .ok (.aload_n 0, 1) := by decide +kernel
theorem dX9_isAt_16 : decode cX9_isAt 16 = .ok (.getfield 152, 3) := by decide +kernel
theorem dX9_isAt_19 : decode cX9_isAt 19 = .ok (.baload, 1) := by decide +kernel
theorem dX9_isAt_20 : decode cX9_isAt 20 = .ok (.iload_n 1, 1) := by decide +kernel
theorem dX9_isAt_21 : decode cX9_isAt 21 = .ok (.if_icmp .lt 20, 3) := by decide +kernel
theorem dX9_isAt_24 : decode cX9_isAt 24 = .ok (.aload_n 0, 1) := by decide +kernel
theorem dX9_isAt_25 : decode cX9_isAt 25 = .ok (.getfield 62, 3) := by decide +kernel
theorem dX9_isAt_28 : decode cX9_isAt 28 = .ok (.aload_n 0, 1) := by decide +kernel
theorem dX9_isAt_29 : decode cX9_isAt 29 = .ok (.getfield 152, 3) := by decide +kernel
theorem dX9_isAt_32 : decode cX9_isAt 32 = .ok (.baload, 1) := by decide +kernel
theorem dX9_isAt_33 : decode cX9_isAt 33 = .ok (.iload_n 2, 1) := by decide +kernel
theorem dX9_isAt_34 : decode cX9_isAt 34 = .ok (.if_icmp .gt 7, 3) := by decide +kernel
theorem dX9_isAt_37 : decode cX9_isAt 37 = .ok (.iconst 1, 1) := by decide +kernel
theorem dX9_isAt_38 : decode cX9_isAt 38 = .ok (.goto 4, 3) := by decide +kernel
theorem dX9_isAt_41 : decode cX9_isAt 41 = .ok (.iconst 0, 1) := by decide +kernel
theorem dX9_isAt_42 : decode cX9_isAt 42 = .ok (.ireturn, 1) := by decide +kernel
set_option maxRecDepth 20000 in
theorem ggX9_blanks_X9_isAt : GoodIn wsX9_blanks wsX9_isAt := goodIn_r _ [7, 1, 8, 9, 10, 11, 12, 13, 14, 15, 16, 17, 18, 19, 20, 21, 22, 23, 24, 25, 26, 27, 28, 29, 30, 31, 32, 33, 34, 35, 36, 37, 38, 39, 40, 41, 42, 43, 44, 45, 46, 47, 48, 49, 50, 51] (by decide +kernel) (by decide +kernel)
set_option maxRecDepth 20000 in
theorem gX9_blanks_X9_isAt : GoodIn wsX9_blanks (wsV RX9 158 RX9 yX9_isAt wsX9_isAt) := goodIn_app (goodIn_of _ (by decide +kernel)) ggX9_blanks_X9_isAt
theorem dX9_blanks_0 : decode cX9_blanks 0 = .ok (.aload_n 0, 1) := by decide +kernel
theorem dX9_blanks_1 : decode cX9_blanks 1 = .ok (.bipush 32, 2) := by decide +kernel
theorem dX9_blanks_3 : decode cX9_blanks 3 = .ok (.bipush 32, 2) := by decide +kernel
theorem dX9_blanks_5 : decode cX9_blanks 5 = .ok (.invokevirtual 158, 3) := by decide +kernel
theorem dX9_blanks_8 : decode cX9_blanks 8 = .ok (.ifCond .eq 16, 3) := by decide +kernel
theorem dX9_blanks_11 : decode cX9_blanks 11 = .ok (.aload_n 0, 1) := by decide +kernel
theorem dX9_blanks_12 : decode cX9_blanks 12 = .ok (.dup, 1) := by decide +kernel
theorem dX9_blanks_13 : decode cX9_blanks 13 = .ok (.getfield 152, 3) := by decide +kernel
theorem dX9_blanks_16 : decode cX9_blanks 16 = .ok (.iconst 1, 1) := by decide +kernel
theorem dX9_blanks_17 : decode cX9_blanks 17 = .ok (.iadd, 1) := by decide +kernel
theorem dX9_blanks_18 : decode cX9_blanks 18 = .ok (.putfield 152, 3) := by decide +kernel
theorem dX9_blanks_21 : decode cX9_blanks 21 = .ok (.goto (-21), 3) := by decide +kernel
theorem dX9_blanks_24 : decode cX9_blanks 24 = .ok (.aload_n 0, 1) := by decide +kernel
theorem dX9_blanks_25 : decode cX9_blanks 25 = .ok (.aload_n 0, 1) := by decide +kernel
theorem dX9_blanks_26 : decode cX9_blanks 26 = .ok (.getfield 152, 3) := by decide +kernel
theorem dX9_blanks_29 : decode cX9_blanks 29 = .ok (.putfield 162, 3) := by decide +kernel
theorem dX9_blanks_32 : decode cX9_blanks 32 = .ok (.return_, 1) := by decide +kernel
theorem dX9_word_0 : decode cX9_word 0 = .ok (.iload_n 0, 1) := by decide +kernel
theorem dX9_word_1 : decode cX9_word 1 = .ok (.tableswitch 50 0 4 #[35, 38, 41, 44, 47], 35) := by decide +kernel
theorem dX9_word_36 : decode cX9_word 36 = .ok (.ldc 165, 2) := by decide +kernel
theorem dX9_word_38 : decode cX9_word 38 = .ok (.areturn, 1) := by decide +kernel
theorem dX9_word_39 : decode cX9_word 39 = .ok (.ldc 167, 2) := by decide +kernel
theorem dX9_word_41 : decode cX9_word 41 = .ok (.areturn, 1) := by decide +kernel
theorem dX9_word_42 : decode cX9_word 42 = .ok (.ldc 168, 2) := by decide +kernel
theorem dX9_word_44 : decode cX9_word 44 = .ok (.areturn, 1) := by decide +kernel
theorem dX9_word_45 : decode cX9_word 45 = .ok (.ldc 170, 2) := by decide +kernel
theorem dX9_word_47 : decode cX9_word 47 = .ok (.areturn, 1) := by decide +kernel
theorem dX9_word_48 : decode cX9_word 48 = .ok (.ldc 172, 2) := by decide +kernel
theorem dX9_word_50 : decode cX9_word 50 = .ok (.areturn, 1) := by decide +kernel
theorem dX9_word_51 : decode cX9_word 51 = .ok (.ldc 174, 2) := by decide +kernel
theorem dX9_word_53 : decode cX9_word 53 = .ok (.areturn, 1) := by decide +kernel
set_option maxRecDepth 20000 in
theorem ggX9_isWord_J0_length_8abf5 : GoodIn wsX9_isWord wsJ0_length_8abf5 := goodIn_r _ [8, 9, 10, 11, 12, 7, 13, 14, 15] (by decide +kernel) (by decide +kernel)
set_option maxRecDepth 20000 in
theorem gX9_isWord_J0_length_8abf5 : GoodIn wsX9_isWord (wsV RX9 176 RJ0 yJ0_length_8abf5 wsJ0_length_8abf5) := goodIn_app (goodIn_of _ (by decide +kernel)) ggX9_isWord_J0_length_8abf5
set_option maxRecDepth 20000 in
theorem ggX9_isWord_J0_charAt_5068e : GoodIn wsX9_isWord wsJ0_charAt_5068e := goodIn_r _ [19, 9, 20, 21, 22, 7, 23, 14, 15, 24, 25, 26, 27, 28, 29, 30, 31, 32, 33, 34, 35, 36, 37, 38, 39, 40, 41, 42, 43, 44, 45, 46, 47, 48, 49, 50, 51, 52] (by decide +kernel) (by decide +kernel)
set_option maxRecDepth 20000 in
theorem gX9_isWord_J0_charAt_5068e : GoodIn wsX9_isWord (wsV RX9 182 RJ0 yJ0_charAt_5068e wsJ0_charAt_5068e) := goodIn_app (goodIn_of _ (by decide +kernel)) ggX9_isWord_J0_charAt_5068e
theorem dX9_isWord_0 : decode cX9_isWord 0 = .ok (.aload_n 0, 1) := by decide +kernel
theorem dX9_isWord_1 : decode cX9_isWord 1 = .ok (.getfield 152, 3) := by decide +kernel
theorem dX9_isWord_4 : decode cX9_isWord 4 = .ok (.aload_n 0, 1) := by decide +kernel
theorem dX9_isWord_5 : decode cX9_isWord 5 = .ok (.getfield 162, 3) := by decide +kernel
theorem dX9_isWord_8 : decode cX9_isWord 8 = .ok (.isub, 1) := by decide +kernel
theorem dX9_isWord_9 : decode cX9_isWord 9 = .ok (.aload_n 1, 1) := by decide +kernel
theorem dX9_isWord_10 : decode cX9_isWord 10 = .ok (.invokevirtual 176, 3) := by decide +kernel
theorem dX9_isWord_13 : decode cX9_isWord 13 = .ok (.if_icmp .ne 7, 3) := by decide +kernel
theorem dX9_isWord_16 : decode cX9_isWord 16 = .ok (.iconst 1, 1) := by decide +kernel
theorem dX9_isWord_17 : decode cX9_isWord 17 = .ok (.goto 4, 3) := by decide +kernel
theorem dX9_isWord_20 : decode cX9_isWord 20 = .ok (.iconst 0, 1) := by decide +kernel
theorem dX9_isWord_21 : decode cX9_isWord 21 = .ok (.istore_n 2, 1) := by decide +kernel
theorem dX9_isWord_22 : decode cX9_isWord 22 = .ok (.iconst 0, 1) := by decide +kernel
theorem dX9_isWord_23 : decode cX9_isWord 23 = .ok (.istore_n 3, 1) := by decide +kernel
theorem dX9_isWord_24 : decode cX9_isWord 24 = .ok (.iload_n 2, 1) := by decide +kernel
theorem dX9_isWord_25 : decode cX9_isWord 25 = .ok (.ifCond .eq 42, 3) := by decide +kernel
theorem dX9_isWord_28 : decode cX9_isWord 28 = .ok (.iload_n 3, 1) := by decide +kernel
theorem dX9_isWord_29 : decode cX9_isWord 29 = .ok (.aload_n 1, 1) := by decide +kernel
theorem dX9_isWord_30 : decode cX9_isWord 30 = .ok (.invokevirtual 176, 3) := by decide +kernel
theorem dX9_isWord_33 : decode cX9_isWord 33 = .ok (.if_icmp .ge 34, 3) := by decide +kernel
theorem dX9_isWord_36 : decode cX9_isWord 36 = .ok (.aload_n 0, 1) := by decide +kernel
theorem dX9_isWord_37 : decode cX9_isWord 37 = .ok (.getfield 62, 3) := by decide +kernel
theorem dX9_isWord_40 : decode cX9_isWord 40 = .ok (.aload_n 0, 1) := by decide +kernel
theorem dX9_isWord_41 : decode cX9_isWord 41 = .ok (.getfield 162, 3) := by decide +kernel
theorem dX9_isWord_44 : decode cX9_isWord 44 = .ok (.iload_n 3, 1) := by decide +kernel
theorem dX9_isWord_45 : decode cX9_isWord 45 = .ok (.iadd, 1) := by decide +kernel
theorem dX9_isWord_46 : decode cX9_isWord 46 = .ok (.baload, 1) := by decide +kernel
theorem dX9_isWord_47 : decode cX9_isWord 47 = .ok (.aload_n 1, 1) := by decide +kernel
theorem dX9_isWord_48 : decode cX9_isWord 48 = .ok (.iload_n 3, 1) := by decide +kernel
theorem dX9_isWord_49 : decode cX9_isWord 49 = .ok (.invokevirtual 182, 3) := by decide +kernel
theorem dX9_isWord_52 : decode cX9_isWord 52 = .ok (.if_icmp .ne 7, 3) := by decide +kernel
theorem dX9_isWord_55 : decode cX9_isWord 55 = .ok (.iconst 1, 1) := by decide +kernel
theorem dX9_isWord_56 : decode cX9_isWord 56 = .ok (.goto 4, 3) := by decide +kernel
theorem dX9_isWord_59 : decode cX9_isWord 59 = .ok (.iconst 0, 1) := by decide +kernel
theorem dX9_isWord_60 : decode cX9_isWord 60 = .ok (.istore_n 2, 1) := by decide +kernel
theorem dX9_isWord_61 : decode cX9_isWord 61 = .ok (.iinc 3 1, 3) := by decide +kernel
theorem dX9_isWord_64 : decode cX9_isWord 64 = .ok (.goto (-40), 3) := by decide +kernel
theorem dX9_isWord_67 : decode cX9_isWord 67 = .ok (.iload_n 2, 1) := by decide +kernel
theorem dX9_isWord_68 : decode cX9_isWord 68 = .ok (.ireturn, 1) := by decide +kernel
set_option maxRecDepth 20000 in
theorem ggX9_readClause_X9_blanks : GoodIn wsX9_readClause wsX9_blanks := goodIn_r _ [10, 1, 2, 11, 12, 13, 9, 14, 15, 3, 72, 73, 74, 75, 76, 77, 78, 79, 80, 81, 82, 83, 84, 85, 86, 87, 88, 89, 90, 91, 92, 93, 94, 95, 96, 97, 98, 99, 100, 101, 102, 103, 104, 105, 106, 107, 108, 109, 110, 111, 112, 113] (by decide +kernel) (by decide +kernel)
set_option maxRecDepth 20000 in
theorem gX9_readClause_X9_blanks : GoodIn wsX9_readClause (wsV RX9 186 RX9 yX9_blanks wsX9_blanks) := goodIn_app (goodIn_of _ (by decide +kernel)) ggX9_readClause_X9_blanks
set_option maxRecDepth 20000 in
theorem ggX9_readClause_X9_isAt : GoodIn wsX9_readClause wsX9_isAt := goodIn_r _ [14, 1, 15, 3, 72, 73, 74, 75, 76, 77, 78, 79, 80, 81, 82, 83, 84, 85, 86, 87, 88, 89, 90, 91, 92, 93, 94, 95, 96, 97, 98, 99, 100, 101, 102, 103, 104, 105, 106, 107, 108, 109, 110, 111, 112, 113] (by decide +kernel) (by decide +kernel)
set_option maxRecDepth 20000 in
theorem gX9_readClause_X9_isAt : GoodIn wsX9_readClause (wsV RX9 158 RX9 yX9_isAt wsX9_isAt) := goodIn_app (goodIn_of _ (by decide +kernel)) ggX9_readClause_X9_isAt
set_option maxRecDepth 20000 in
theorem ggX9_readClause_X9_word : GoodIn wsX9_readClause wsX9_word := goodIn_r _ [18] (by decide +kernel) (by decide +kernel)
set_option maxRecDepth 20000 in
theorem gX9_readClause_X9_word : GoodIn wsX9_readClause (va_wsS RX9 189 yX9_word wsX9_word) := goodIn_app (goodIn_of _ (by decide +kernel)) ggX9_readClause_X9_word
set_option maxRecDepth 20000 in
theorem ggX9_readClause_X9_isWord : GoodIn wsX9_readClause wsX9_isWord := goodIn_r _ [22, 1, 2, 3, 23, 24, 25, 26, 27, 28, 29, 30, 31, 32, 33, 34, 35, 36, 37, 38, 39, 40, 41, 42, 43, 44, 45, 46, 47, 48, 49, 50, 51, 52, 53, 54, 55, 56, 57, 58, 59, 60, 61, 62, 63, 64, 65, 66, 67, 68, 69, 70, 71, 72, 73, 74, 75, 76, 77, 78, 79, 80, 81, 82, 83, 84, 85, 86, 87, 88, 89, 90, 91, 92, 93, 94, 95, 96, 97, 98, 99, 100, 101, 102, 103, 104, 105, 106, 107, 108, 109, 110, 111, 112, 113] (by decide +kernel) (by decide +kernel)
set_option maxRecDepth 20000 in
theorem gX9_readClause_X9_isWord : GoodIn wsX9_readClause (wsV RX9 193 RX9 yX9_isWord wsX9_isWord) := goodIn_app (goodIn_of _ (by decide +kernel)) ggX9_readClause_X9_isWord
theorem dX9_readClause_0 : decode cX9_readClause 0 = .ok (.aload_n 0, 1) := by decide +kernel
theorem dX9_readClause_1 : decode cX9_readClause 1 = .ok (.invokevirtual 186, 3) := by decide +kernel
theorem dX9_readClause_4 : decode cX9_readClause 4 = .ok (.aload_n 0, 1) := by decide +kernel
theorem dX9_readClause_5 : decode cX9_readClause 5 = .ok (.bipush 97, 2) := by decide +kernel
theorem dX9_readClause_7 : decode cX9_readClause 7 = .ok (.bipush 122, 2) := by decide +kernel
theorem dX9_readClause_9 : decode cX9_readClause 9 = .ok (.invokevirtual 158, 3) := by decide +kernel
theorem dX9_readClause_12 : decode cX9_readClause 12 = .ok (.ifCond .eq 16, 3) := by decide +kernel
theorem dX9_readClause_15 : decode cX9_readClause 15 = .ok (.aload_n 0, 1) := by decide +kernel
theorem dX9_readClause_16 : decode cX9_readClause 16 = .ok (.dup, 1) := by decide +kernel
theorem dX9_readClause_17 : decode cX9_readClause 17 = .ok (.getfield 152, 3) := by decide +kernel
theorem dX9_readClause_20 : decode cX9_readClause 20 = .ok (.iconst 1, 1) := by decide +kernel
theorem dX9_readClause_21 : decode cX9_readClause 21 = .ok (.iadd, 1) := by decide +kernel
theorem dX9_readClause_22 : decode cX9_readClause 22 = .ok (.putfield 152, 3) := by decide +kernel
theorem dX9_readClause_25 : decode cX9_readClause 25 = .ok (.goto (-21), 3) := by decide +kernel
theorem dX9_readClause_28 : decode cX9_readClause 28 = .ok (.iconst (-1), 1) := by decide +kernel
theorem dX9_readClause_29 : decode cX9_readClause 29 = .ok (.istore_n 1, 1) := by decide +kernel
theorem dX9_readClause_30 : decode cX9_readClause 30 = .ok (.iconst 0, 1) := by decide +kernel
theorem dX9_readClause_31 : decode cX9_readClause 31 = .ok (.istore_n 2, 1) := by decide +kernel
theorem dX9_readClause_32 : decode cX9_readClause 32 = .ok (.iload_n 2, 1) := by decide +kernel
theorem dX9_readClause_33 : decode cX9_readClause 33 = .ok (.bipush 6, 2) := by decide +kernel
theorem dX9_readClause_35 : decode cX9_readClause 35 = .ok (.if_icmp .ge 22, 3) := by decide +kernel
theorem dX9_readClause_38 : decode cX9_readClause 38 = .ok (.aload_n 0, 1) := by decide +kernel
theorem dX9_readClause_39 : decode cX9_readClause 39 = .ok (.iload_n 2, 1) := by decide +kernel
theorem dX9_readClause_40 : decode cX9_readClause 40 = .ok (.invokestatic 189, 3) := by decide +kernel
theorem dX9_readClause_43 : decode cX9_readClause 43 = .ok (.invokevirtual 193, 3) := by decide +kernel
theorem dX9_readClause_46 : decode cX9_readClause 46 = .ok (.ifCond .eq 5, 3) := by decide +kernel
theorem dX9_readClause_49 : decode cX9_readClause 49 = .ok (.iload_n 2, 1) := by decide +kernel
theorem dX9_readClause_50 : decode cX9_readClause 50 = .ok (.istore_n 1, 1) := by decide +kernel
theorem dX9_readClause_51 : decode cX9_readClause 51 = .ok (.iinc 2 1, 3) := by decide +kernel
theorem dX9_readClause_54 : decode cX9_readClause 54 = .ok (.goto (-22), 3) := by decide +kernel
theorem dX9_readClause_57 : decode cX9_readClause 57 = .ok (.iload_n 1, 1) := by decide +kernel
theorem dX9_readClause_58 : decode cX9_readClause 58 = .ok (.ifCond .ge 5, 3) := by decide +kernel
theorem dX9_readClause_61 : decode cX9_readClause 61 = .ok (.iconst 0, 1) := by decide +kernel
theorem dX9_readClause_62 : decode cX9_readClause 62 = .ok (.ireturn, 1) := by decide +kernel
theorem dX9_readClause_63 : decode cX9_readClause 63 = .ok (.aload_n 0, 1) := by decide +kernel
theorem dX9_readClause_64 : decode cX9_readClause 64 = .ok (.invokevirtual 186, 3) := by decide +kernel
theorem dX9_readClause_67 : decode cX9_readClause 67 = .ok (.iconst 0, 1) := by decide +kernel
theorem dX9_readClause_68 : decode cX9_readClause 68 = .ok (.istore_n 2, 1) := by decide +kernel
theorem dX9_readClause_69 : decode cX9_readClause 69 = .ok (.aload_n 0, 1) := by decide +kernel
theorem dX9_readClause_70 : decode cX9_readClause 70 = .ok (.bipush 48, 2) := by decide +kernel
theorem dX9_readClause_72 : decode cX9_readClause 72 = .ok (.bipush 57, 2) := by decide +kernel
theorem dX9_readClause_74 : decode cX9_readClause 74 = .ok (.invokevirtual 158, 3) := by decide +kernel
theorem dX9_readClause_77 : decode cX9_readClause 77 = .ok (.ifCond .eq 51, 3) := by decide +kernel
theorem dX9_readClause_80 : decode cX9_readClause 80 = .ok (.aload_n 0, 1) := by decide +kernel
theorem dX9_readClause_81 : decode cX9_readClause 81 = .ok (.getfield 152, 3) := by decide +kernel
theorem dX9_readClause_84 : decode cX9_readClause 84 = .ok (.aload_n 0, 1) := by decide +kernel
theorem dX9_readClause_85 : decode cX9_readClause 85 = .ok (.getfield 162, 3) := by decide +kernel
theorem dX9_readClause_88 : decode cX9_readClause 88 = .ok (.isub, 1) := by decide +kernel
theorem dX9_readClause_89 : decode cX9_readClause 89 = .ok (.iconst 4, 1) := by decide +kernel
theorem dX9_readClause_90 : decode cX9_readClause 90 = .ok (.if_icmp .ge 23, 3) := by decide +kernel
theorem dX9_readClause_93 : decode cX9_readClause 93 = .ok (.bipush 10, 2) := by decide +kernel
theorem dX9_readClause_95 : decode cX9_readClause 95 = .ok (.iload_n 2, 1) := by decide +kernel
theorem dX9_readClause_96 : decode cX9_readClause 96 = .ok (.imul, 1) := by decide +kernel
theorem dX9_readClause_97 : decode cX9_readClause 97 = .ok (.aload_n 0, 1) := by decide +kernel
theorem dX9_readClause_98 : decode cX9_readClause 98 = .ok (.getfield 62, 3) := by decide +kernel
theorem dX9_readClause_101 : decode cX9_readClause 101 = .ok (.aload_n 0, 1) := by decide +kernel
theorem dX9_readClause_102 : decode cX9_readClause 102 = .ok (.getfield 152, 3) := by decide +kernel
theorem dX9_readClause_105 : decode cX9_readClause 105 = .ok (.baload, 1) := by decide +kernel
theorem dX9_readClause_106 : decode cX9_readClause 106 = .ok (.iadd, 1) := by decide +kernel
theorem dX9_readClause_107 : decode cX9_readClause 107 = .ok (.bipush 48, 2) := by decide +kernel
theorem dX9_readClause_109 : decode cX9_readClause 109 = .ok (.isub, 1) := by decide +kernel
theorem dX9_readClause_110 : decode cX9_readClause 110 = .ok (.goto 4, 3) := by decide +kernel
theorem dX9_readClause_113 : decode cX9_readClause 113 = .ok (.iload_n 2, 1) := by decide +kernel
theorem dX9_readClause_114 : decode cX9_readClause 114 = .ok (.istore_n 2, 1) := by decide +kernel
theorem dX9_readClause_115 : decode cX9_readClause 115 = .ok (.aload_n 0, 1) := by decide +kernel
theorem dX9_readClause_116 : decode cX9_readClause 116 = .ok (.dup, 1) := by decide +kernel
theorem dX9_readClause_117 : decode cX9_readClause 117 = .ok (.getfield 152, 3) := by decide +kernel
theorem dX9_readClause_120 : decode cX9_readClause 120 = .ok (.iconst 1, 1) := by decide +kernel
theorem dX9_readClause_121 : decode cX9_readClause 121 = .ok (.iadd, 1) := by decide +kernel
theorem dX9_readClause_122 : decode cX9_readClause 122 = .ok (.putfield 152, 3) := by decide +kernel
theorem dX9_readClause_125 : decode cX9_readClause 125 = .ok (.goto (-56), 3) := by decide +kernel
theorem dX9_readClause_128 : decode cX9_readClause 128 = .ok (.aload_n 0, 1) := by decide +kernel
theorem dX9_readClause_129 : decode cX9_readClause 129 = .ok (.getfield 152, 3) := by decide +kernel
theorem dX9_readClause_132 : decode cX9_readClause 132 = .ok (.aload_n 0, 1) := by decide +kernel
theorem dX9_readClause_133 : decode cX9_readClause 133 = .ok (.getfield 162, 3) := by decide +kernel
theorem dX9_readClause_136 : decode cX9_readClause 136 = .ok (.if_icmp .eq 25, 3) := by decide +kernel
theorem dX9_readClause_139 : decode cX9_readClause 139 = .ok (.aload_n 0, 1) := by decide +kernel
theorem dX9_readClause_140 : decode cX9_readClause 140 = .ok (.getfield 152, 3) := by decide +kernel
theorem dX9_readClause_143 : decode cX9_readClause 143 = .ok (.aload_n 0, 1) := by decide +kernel
theorem dX9_readClause_144 : decode cX9_readClause 144 = .ok (.getfield 162, 3) := by decide +kernel
theorem dX9_readClause_147 : decode cX9_readClause 147 = .ok (.isub, 1) := by decide +kernel
theorem dX9_readClause_148 : decode cX9_readClause 148 = .ok (.iconst 4, 1) := by decide +kernel
theorem dX9_readClause_149 : decode cX9_readClause 149 = .ok (.if_icmp .gt 12, 3) := by decide +kernel
theorem dX9_readClause_152 : decode cX9_readClause 152 = .ok (.iload_n 2, 1) := by decide +kernel
theorem dX9_readClause_153 : decode cX9_readClause 153 = .ok (.getstatic 197, 3) := by decide +kernel
theorem dX9_readClause_156 : decode cX9_readClause 156 = .ok (.iload_n 1, 1) := by decide +kernel
theorem dX9_readClause_157 : decode cX9_readClause 157 = .ok (.iaload, 1) := by decide +kernel
theorem dX9_readClause_158 : decode cX9_readClause 158 = .ok (.if_icmp .le 5, 3) := by decide +kernel
theorem dX9_readClause_161 : decode cX9_readClause 161 = .ok (.iconst 0, 1) := by decide +kernel
theorem dX9_readClause_162 : decode cX9_readClause 162 = .ok (.ireturn, 1) := by decide +kernel
theorem dX9_readClause_163 : decode cX9_readClause 163 = .ok (.aload_n 0, 1) := by decide +kernel
theorem dX9_readClause_164 : decode cX9_readClause 164 = .ok (.getfield 44, 3) := by decide +kernel
theorem dX9_readClause_167 : decode cX9_readClause 167 = .ok (.iload_n 1, 1) := by decide +kernel
theorem dX9_readClause_168 : decode cX9_readClause 168 = .ok (.iload_n 2, 1) := by decide +kernel
theorem dX9_readClause_169 : decode cX9_readClause 169 = .ok (.iastore, 1) := by decide +kernel
theorem dX9_readClause_170 : decode cX9_readClause 170 = .ok (.iconst 1, 1) := by decide +kernel
theorem dX9_readClause_171 : decode cX9_readClause 171 = .ok (.ireturn, 1) := by decide +kernel
set_option maxRecDepth 20000 in
theorem ggX9_law_X9_readClause : GoodIn wsX9_law wsX9_readClause := goodIn_r _ [13, 4, 7, 14, 15, 5, 16, 17, 18, 12, 19, 20, 21, 22, 23, 3, 24, 25, 26, 27, 28, 29, 30, 31, 32, 33, 34, 35, 36, 37, 38, 39, 40, 41, 42, 43, 44, 45, 46, 47, 48, 49, 50, 51, 52, 53, 54, 55, 56, 57, 58, 59, 60, 61, 62, 63, 64, 65, 66, 67, 68, 69, 70, 71, 72, 73, 74, 75, 76, 77, 78, 79, 84, 85, 86, 87, 88, 89, 90, 91, 92, 93, 94, 95, 96, 97, 98, 99, 100, 101, 102, 103, 104, 105, 106, 107, 108, 109, 110, 111, 112, 113, 114, 115, 116, 117, 118, 119, 120, 121, 122, 123, 124, 125] (by decide +kernel) (by decide +kernel)
set_option maxRecDepth 20000 in
theorem gX9_law_X9_readClause : GoodIn wsX9_law (wsV RX9 200 RX9 yX9_readClause wsX9_readClause) := goodIn_app (goodIn_of _ (by decide +kernel)) ggX9_law_X9_readClause
set_option maxRecDepth 20000 in
theorem ggX9_law_X9_blanks : GoodIn wsX9_law wsX9_blanks := goodIn_r _ [19, 4, 7, 20, 21, 22, 12, 23, 3, 14, 84, 85, 86, 87, 88, 89, 90, 91, 92, 93, 94, 95, 96, 97, 98, 99, 100, 101, 102, 103, 104, 105, 106, 107, 108, 109, 110, 111, 112, 113, 114, 115, 116, 117, 118, 119, 120, 121, 122, 123, 124, 125] (by decide +kernel) (by decide +kernel)
set_option maxRecDepth 20000 in
theorem gX9_law_X9_blanks : GoodIn wsX9_law (wsV RX9 186 RX9 yX9_blanks wsX9_blanks) := goodIn_app (goodIn_of _ (by decide +kernel)) ggX9_law_X9_blanks
set_option maxRecDepth 20000 in
theorem ggX9_law_X9_isAt : GoodIn wsX9_law wsX9_isAt := goodIn_r _ [23, 4, 3, 14, 84, 85, 86, 87, 88, 89, 90, 91, 92, 93, 94, 95, 96, 97, 98, 99, 100, 101, 102, 103, 104, 105, 106, 107, 108, 109, 110, 111, 112, 113, 114, 115, 116, 117, 118, 119, 120, 121, 122, 123, 124, 125] (by decide +kernel) (by decide +kernel)
set_option maxRecDepth 20000 in
theorem gX9_law_X9_isAt : GoodIn wsX9_law (wsV RX9 158 RX9 yX9_isAt wsX9_isAt) := goodIn_app (goodIn_of _ (by decide +kernel)) ggX9_law_X9_isAt
set_option maxRecDepth 20000 in
theorem ggX9_law_X9_throwsIf : GoodIn wsX9_law wsX9_throwsIf := goodIn_r _ [83, 1, 84, 85, 86, 87, 88, 89, 90, 91, 92, 93, 94, 95, 96, 97, 98, 99, 100, 101, 102, 103, 104, 105, 106, 107, 108, 109, 110, 111, 112, 113, 114, 115, 116, 117, 118, 119, 120, 121, 122, 123, 124, 125] (by decide +kernel) (by decide +kernel)
set_option maxRecDepth 20000 in
theorem gX9_law_X9_throwsIf : GoodIn wsX9_law (wsV RX9 119 RX9 yX9_throwsIf wsX9_throwsIf) := goodIn_app (goodIn_of _ (by decide +kernel)) ggX9_law_X9_throwsIf
theorem dX9_law_0 : decode cX9_law 0 = .ok (.aload_n 0, 1) := by decide +kernel
theorem dX9_law_1 : decode cX9_law 1 = .ok (.iconst 0, 1) := by decide +kernel
theorem dX9_law_2 : decode cX9_law 2 = .ok (.putfield 106, 3) := by decide +kernel
theorem dX9_law_5 : decode cX9_law 5 = .ok (.aload_n 0, 1) := by decide +kernel
theorem dX9_law_6 : decode cX9_law 6 = .ok (.aload_n 0, 1) := by decide +kernel
theorem dX9_law_7 : decode cX9_law 7 = .ok (.getfield 149, 3) := by decide +kernel
theorem dX9_law_10 : decode cX9_law 10 = .ok (.putfield 155, 3) := by decide +kernel
theorem dX9_law_13 : decode cX9_law 13 = .ok (.aload_n 0, 1) := by decide +kernel
theorem dX9_law_14 : decode cX9_law 14 = .ok (.iconst 0, 1) := by decide +kernel
theorem dX9_law_15 : decode cX9_law 15 = .ok (.putfield 149, 3) := by decide +kernel
theorem dX9_law_18 : decode cX9_law 18 = .ok (.aload_n 0, 1) := by decide +kernel
theorem dX9_law_19 : decode cX9_law 19 = .ok (.iconst 0, 1) := by decide +kernel
theorem dX9_law_20 : decode cX9_law 20 = .ok (.putfield 152, 3) := by decide +kernel
theorem dX9_law_23 : decode cX9_law 23 = .ok (.iconst 0, 1) := by decide +kernel
theorem dX9_law_24 : decode cX9_law 24 = .ok (.istore_n 1, 1) := by decide +kernel
theorem dX9_law_25 : decode cX9_law 25 = .ok (.iload_n 1, 1) := by decide +kernel
theorem dX9_law_26 : decode cX9_law 26 = .ok (.bipush 6, 2) := by decide +kernel
theorem dX9_law_28 : decode cX9_law 28 = .ok (.if_icmp .ge 21, 3) := by decide +kernel
theorem dX9_law_31 : decode cX9_law 31 = .ok (.aload_n 0, 1) := by decide +kernel
theorem dX9_law_32 : decode cX9_law 32 = .ok (.getfield 44, 3) := by decide +kernel
theorem dX9_law_35 : decode cX9_law 35 = .ok (.iload_n 1, 1) := by decide +kernel
theorem dX9_law_36 : decode cX9_law 36 = .ok (.aload_n 0, 1) := by decide +kernel
theorem dX9_law_37 : decode cX9_law 37 = .ok (.getfield 41, 3) := by decide +kernel
theorem dX9_law_40 : decode cX9_law 40 = .ok (.iload_n 1, 1) := by decide +kernel
theorem dX9_law_41 : decode cX9_law 41 = .ok (.iaload, 1) := by decide +kernel
theorem dX9_law_42 : decode cX9_law 42 = .ok (.iastore, 1) := by decide +kernel
theorem dX9_law_43 : decode cX9_law 43 = .ok (.iinc 1 1, 3) := by decide +kernel
theorem dX9_law_46 : decode cX9_law 46 = .ok (.goto (-21), 3) := by decide +kernel
theorem dX9_law_49 : decode cX9_law 49 = .ok (.iconst 0, 1) := by decide +kernel
theorem dX9_law_50 : decode cX9_law 50 = .ok (.istore_n 1, 1) := by decide +kernel
theorem dX9_law_51 : decode cX9_law 51 = .ok (.aload_n 0, 1) := by decide +kernel
theorem dX9_law_52 : decode cX9_law 52 = .ok (.invokevirtual 200, 3) := by decide +kernel
theorem dX9_law_55 : decode cX9_law 55 = .ok (.istore_n 2, 1) := by decide +kernel
theorem dX9_law_56 : decode cX9_law 56 = .ok (.iload_n 2, 1) := by decide +kernel
theorem dX9_law_57 : decode cX9_law 57 = .ok (.ifCond .eq 58, 3) := by decide +kernel
theorem dX9_law_60 : decode cX9_law 60 = .ok (.iinc 1 1, 3) := by decide +kernel
theorem dX9_law_63 : decode cX9_law 63 = .ok (.aload_n 0, 1) := by decide +kernel
theorem dX9_law_64 : decode cX9_law 64 = .ok (.invokevirtual 186, 3) := by decide +kernel
theorem dX9_law_67 : decode cX9_law 67 = .ok (.aload_n 0, 1) := by decide +kernel
theorem dX9_law_68 : decode cX9_law 68 = .ok (.getfield 152, 3) := by decide +kernel
theorem dX9_law_71 : decode cX9_law 71 = .ok (.aload_n 0, 1) := by decide +kernel
theorem dX9_law_72 : decode cX9_law 72 = .ok (.getfield 155, 3) := by decide +kernel
theorem dX9_law_75 : decode cX9_law 75 = .ok (.if_icmp .ne 6, 3) := by decide +kernel
theorem dX9_law_78 : decode cX9_law 78 = .ok (.goto 37, 3) := by decide +kernel
theorem dX9_law_81 : decode cX9_law 81 = .ok (.aload_n 0, 1) := by decide +kernel
theorem dX9_law_82 : decode cX9_law 82 = .ok (.bipush 59, 2) := by decide +kernel
theorem dX9_law_84 : decode cX9_law 84 = .ok (.bipush 59, 2) := by decide +kernel
theorem dX9_law_86 : decode cX9_law 86 = .ok (.invokevirtual 158, 3) := by decide +kernel
theorem dX9_law_89 : decode cX9_law 89 = .ok (.istore_n 2, 1) := by decide +kernel
theorem dX9_law_90 : decode cX9_law 90 = .ok (.iload_n 2, 1) := by decide +kernel
theorem dX9_law_91 : decode cX9_law 91 = .ok (.ifCond .ne 6, 3) := by decide +kernel
theorem dX9_law_94 : decode cX9_law 94 = .ok (.goto 21, 3) := by decide +kernel
theorem dX9_law_97 : decode cX9_law 97 = .ok (.aload_n 0, 1) := by decide +kernel
theorem dX9_law_98 : decode cX9_law 98 = .ok (.dup, 1) := by decide +kernel
theorem dX9_law_99 : decode cX9_law 99 = .ok (.getfield 152, 3) := by decide +kernel
theorem dX9_law_102 : decode cX9_law 102 = .ok (.iconst 1, 1) := by decide +kernel
theorem dX9_law_103 : decode cX9_law 103 = .ok (.iadd, 1) := by decide +kernel
theorem dX9_law_104 : decode cX9_law 104 = .ok (.putfield 152, 3) := by decide +kernel
theorem dX9_law_107 : decode cX9_law 107 = .ok (.aload_n 0, 1) := by decide +kernel
theorem dX9_law_108 : decode cX9_law 108 = .ok (.invokevirtual 200, 3) := by decide +kernel
theorem dX9_law_111 : decode cX9_law 111 = .ok (.istore_n 2, 1) := by decide +kernel
theorem dX9_law_112 : decode cX9_law 112 = .ok (.goto (-56), 3) := by decide +kernel
theorem dX9_law_115 : decode cX9_law 115 = .ok (.aload_n 0, 1) := by decide +kernel
theorem dX9_law_116 : decode cX9_law 116 = .ok (.iload_n 2, 1) := by decide +kernel
theorem dX9_law_117 : decode cX9_law 117 = .ok (.ifCond .eq 7, 3) := by decide +kernel
theorem dX9_law_120 : decode cX9_law 120 = .ok (.iconst (-1), 1) := by decide +kernel
theorem dX9_law_121 : decode cX9_law 121 = .ok (.goto 7, 3) := by decide +kernel
theorem dX9_law_124 : decode cX9_law 124 = .ok (.aload_n 0, 1) := by decide +kernel
theorem dX9_law_125 : decode cX9_law 125 = .ok (.getfield 162, 3) := by decide +kernel
theorem dX9_law_128 : decode cX9_law 128 = .ok (.putfield 69, 3) := by decide +kernel
theorem dX9_law_131 : decode cX9_law 131 = .ok (.aload_n 0, 1) := by decide +kernel
theorem dX9_law_132 : decode cX9_law 132 = .ok (.iload_n 2, 1) := by decide +kernel
theorem dX9_law_133 : decode cX9_law 133 = .ok (.ifCond .ne 7, 3) := by decide +kernel
theorem dX9_law_136 : decode cX9_law 136 = .ok (.iconst 1, 1) := by decide +kernel
theorem dX9_law_137 : decode cX9_law 137 = .ok (.goto 4, 3) := by decide +kernel
theorem dX9_law_140 : decode cX9_law 140 = .ok (.iconst 0, 1) := by decide +kernel
theorem dX9_law_141 : decode cX9_law 141 = .ok (.iconst 1, 1) := by decide +kernel
theorem dX9_law_142 : decode cX9_law 142 = .ok (.invokevirtual 119, 3) := by decide +kernel
theorem dX9_law_145 : decode cX9_law 145 = .ok (.ifCond .eq 5, 3) := by decide +kernel
theorem dX9_law_148 : decode cX9_law 148 = .ok (.iconst 0, 1) := by decide +kernel
theorem dX9_law_149 : decode cX9_law 149 = .ok (.ireturn, 1) := by decide +kernel
theorem dX9_law_150 : decode cX9_law 150 = .ok (.iconst 0, 1) := by decide +kernel
theorem dX9_law_151 : decode cX9_law 151 = .ok (.istore_n 3, 1) := by decide +kernel
theorem dX9_law_152 : decode cX9_law 152 = .ok (.iload_n 3, 1) := by decide +kernel
theorem dX9_law_153 : decode cX9_law 153 = .ok (.bipush 6, 2) := by decide +kernel
theorem dX9_law_155 : decode cX9_law 155 = .ok (.if_icmp .ge 21, 3) := by decide +kernel
theorem dX9_law_158 : decode cX9_law 158 = .ok (.aload_n 0, 1) := by decide +kernel
theorem dX9_law_159 : decode cX9_law 159 = .ok (.getfield 41, 3) := by decide +kernel
theorem dX9_law_162 : decode cX9_law 162 = .ok (.iload_n 3, 1) := by decide +kernel
theorem dX9_law_163 : decode cX9_law 163 = .ok (.aload_n 0, 1) := by decide +kernel
theorem dX9_law_164 : decode cX9_law 164 = .ok (.getfield 44, 3) := by decide +kernel
theorem dX9_law_167 : decode cX9_law 167 = .ok (.iload_n 3, 1) := by decide +kernel
theorem dX9_law_168 : decode cX9_law 168 = .ok (.iaload, 1) := by decide +kernel
theorem dX9_law_169 : decode cX9_law 169 = .ok (.iastore, 1) := by decide +kernel
theorem dX9_law_170 : decode cX9_law 170 = .ok (.iinc 3 1, 3) := by decide +kernel
theorem dX9_law_173 : decode cX9_law 173 = .ok (.goto (-21), 3) := by decide +kernel
theorem dX9_law_176 : decode cX9_law 176 = .ok (.iload_n 1, 1) := by decide +kernel
theorem dX9_law_177 : decode cX9_law 177 = .ok (.ireturn, 1) := by decide +kernel
theorem dX9_fault_0 : decode cX9_fault 0 = .ok (.aload_n 0, 1) := by decide +kernel
theorem dX9_fault_1 : decode cX9_fault 1 = .ok (.iconst 0, 1) := by decide +kernel
theorem dX9_fault_2 : decode cX9_fault 2 = .ok (.putfield 106, 3) := by decide +kernel
theorem dX9_fault_5 : decode cX9_fault 5 = .ok (.aload_n 0, 1) := by decide +kernel
theorem dX9_fault_6 : decode cX9_fault 6 = .ok (.getfield 69, 3) := by decide +kernel
theorem dX9_fault_9 : decode cX9_fault 9 = .ok (.ireturn, 1) := by decide +kernel
set_option maxRecDepth 20000 in
theorem ggX9_says_X9_in : GoodIn wsX9_says wsX9_in := goodIn_r _ [6] (by decide +kernel) (by decide +kernel)
set_option maxRecDepth 20000 in
theorem gX9_says_X9_in : GoodIn wsX9_says (va_wsS RX9 112 yX9_in wsX9_in) := goodIn_app (goodIn_of _ (by decide +kernel)) ggX9_says_X9_in
set_option maxRecDepth 20000 in
theorem ggX9_says_X9_throwsIf : GoodIn wsX9_says wsX9_throwsIf := goodIn_r _ [10, 1, 11, 12, 13, 14, 15, 16, 17, 18, 19, 20, 21, 22, 23, 24, 25, 26, 27, 28, 29, 30, 31, 32, 33, 34, 35, 36, 37, 38, 39, 40, 41, 42, 43, 44, 45, 46, 47, 48, 49, 50, 51, 52] (by decide +kernel) (by decide +kernel)
set_option maxRecDepth 20000 in
theorem gX9_says_X9_throwsIf : GoodIn wsX9_says (wsV RX9 119 RX9 yX9_throwsIf wsX9_throwsIf) := goodIn_app (goodIn_of _ (by decide +kernel)) ggX9_says_X9_throwsIf
theorem dX9_says_0 : decode cX9_says 0 = .ok (.aload_n 0, 1) := by decide +kernel
theorem dX9_says_1 : decode cX9_says 1 = .ok (.iconst 0, 1) := by decide +kernel
theorem dX9_says_2 : decode cX9_says 2 = .ok (.putfield 106, 3) := by decide +kernel
theorem dX9_says_5 : decode cX9_says 5 = .ok (.aload_n 0, 1) := by decide +kernel
theorem dX9_says_6 : decode cX9_says 6 = .ok (.iload_n 1, 1) := by decide +kernel
theorem dX9_says_7 : decode cX9_says 7 = .ok (.iconst 0, 1) := by decide +kernel
theorem dX9_says_8 : decode cX9_says 8 = .ok (.iconst 5, 1) := by decide +kernel
theorem dX9_says_9 : decode cX9_says 9 = .ok (.invokestatic 112, 3) := by decide +kernel
theorem dX9_says_12 : decode cX9_says 12 = .ok (.ifCond .ne 7, 3) := by decide +kernel
theorem dX9_says_15 : decode cX9_says 15 = .ok (.iconst 1, 1) := by decide +kernel
theorem dX9_says_16 : decode cX9_says 16 = .ok (.goto 4, 3) := by decide +kernel
theorem dX9_says_19 : decode cX9_says 19 = .ok (.iconst 0, 1) := by decide +kernel
theorem dX9_says_20 : decode cX9_says 20 = .ok (.iconst 1, 1) := by decide +kernel
theorem dX9_says_21 : decode cX9_says 21 = .ok (.invokevirtual 119, 3) := by decide +kernel
theorem dX9_says_24 : decode cX9_says 24 = .ok (.ifCond .eq 7, 3) := by decide +kernel
theorem dX9_says_27 : decode cX9_says 27 = .ok (.iconst 0, 1) := by decide +kernel
theorem dX9_says_28 : decode cX9_says 28 = .ok (.goto 9, 3) := by decide +kernel
theorem dX9_says_31 : decode cX9_says 31 = .ok (.aload_n 0, 1) := by decide +kernel
theorem dX9_says_32 : decode cX9_says 32 = .ok (.getfield 41, 3) := by decide +kernel
theorem dX9_says_35 : decode cX9_says 35 = .ok (.iload_n 1, 1) := by decide +kernel
theorem dX9_says_36 : decode cX9_says 36 = .ok (.iaload, 1) := by decide +kernel
theorem dX9_says_37 : decode cX9_says 37 = .ok (.ireturn, 1) := by decide +kernel
set_option maxRecDepth 20000 in
theorem ggX9_noPlank_X9_in : GoodIn wsX9_noPlank wsX9_in := goodIn_r _ [5] (by decide +kernel) (by decide +kernel)
set_option maxRecDepth 20000 in
theorem gX9_noPlank_X9_in : GoodIn wsX9_noPlank (va_wsS RX9 112 yX9_in wsX9_in) := goodIn_app (goodIn_of _ (by decide +kernel)) ggX9_noPlank_X9_in
theorem dX9_noPlank_0 : decode cX9_noPlank 0 = .ok (.iload_n 1, 1) := by decide +kernel
theorem dX9_noPlank_1 : decode cX9_noPlank 1 = .ok (.iconst 0, 1) := by decide +kernel
theorem dX9_noPlank_2 : decode cX9_noPlank 2 = .ok (.aload_n 0, 1) := by decide +kernel
theorem dX9_noPlank_3 : decode cX9_noPlank 3 = .ok (.getfield 143, 3) := by decide +kernel
theorem dX9_noPlank_6 : decode cX9_noPlank 6 = .ok (.iconst 1, 1) := by decide +kernel
theorem dX9_noPlank_7 : decode cX9_noPlank 7 = .ok (.isub, 1) := by decide +kernel
theorem dX9_noPlank_8 : decode cX9_noPlank 8 = .ok (.invokestatic 112, 3) := by decide +kernel
theorem dX9_noPlank_11 : decode cX9_noPlank 11 = .ok (.ifCond .ne 7, 3) := by decide +kernel
theorem dX9_noPlank_14 : decode cX9_noPlank 14 = .ok (.iconst 1, 1) := by decide +kernel
theorem dX9_noPlank_15 : decode cX9_noPlank 15 = .ok (.goto 4, 3) := by decide +kernel
theorem dX9_noPlank_18 : decode cX9_noPlank 18 = .ok (.iconst 0, 1) := by decide +kernel
theorem dX9_noPlank_19 : decode cX9_noPlank 19 = .ok (.ireturn, 1) := by decide +kernel
set_option maxRecDepth 20000 in
theorem ggX9_plank_X9_noPlank : GoodIn wsX9_plank wsX9_noPlank := goodIn_r _ [7, 8, 9, 10, 6, 11, 16, 17, 18, 19, 20, 21, 22, 23, 24, 25, 26, 27, 28, 29, 30, 31, 32, 33, 34, 35, 36, 37, 38, 39, 40, 41, 42, 43, 44, 45, 46, 47, 48, 49, 50, 51, 52, 53, 54, 55, 56, 57] (by decide +kernel) (by decide +kernel)
set_option maxRecDepth 20000 in
theorem gX9_plank_X9_noPlank : GoodIn wsX9_plank (wsV RX9 204 RX9 yX9_noPlank wsX9_noPlank) := goodIn_app (goodIn_of _ (by decide +kernel)) ggX9_plank_X9_noPlank
set_option maxRecDepth 20000 in
theorem ggX9_plank_X9_throwsIf : GoodIn wsX9_plank wsX9_throwsIf := goodIn_r _ [15, 1, 16, 17, 18, 19, 20, 21, 22, 23, 24, 25, 26, 27, 28, 29, 30, 31, 32, 33, 34, 35, 36, 37, 38, 39, 40, 41, 42, 43, 44, 45, 46, 47, 48, 49, 50, 51, 52, 53, 54, 55, 56, 57] (by decide +kernel) (by decide +kernel)
set_option maxRecDepth 20000 in
theorem gX9_plank_X9_throwsIf : GoodIn wsX9_plank (wsV RX9 119 RX9 yX9_throwsIf wsX9_throwsIf) := goodIn_app (goodIn_of _ (by decide +kernel)) ggX9_plank_X9_throwsIf
set_option maxRecDepth 20000 in
theorem ggX9_plank_X9_in : GoodIn wsX9_plank wsX9_in := goodIn_r _ [11] (by decide +kernel) (by decide +kernel)
set_option maxRecDepth 20000 in
theorem gX9_plank_X9_in : GoodIn wsX9_plank (va_wsS RX9 112 yX9_in wsX9_in) := goodIn_app (goodIn_of _ (by decide +kernel)) ggX9_plank_X9_in
theorem dX9_plank_0 : decode cX9_plank 0 = .ok (.aload_n 0, 1) := by decide +kernel
theorem dX9_plank_1 : decode cX9_plank 1 = .ok (.iconst 0, 1) := by decide +kernel
theorem dX9_plank_2 : decode cX9_plank 2 = .ok (.putfield 106, 3) := by decide +kernel
theorem dX9_plank_5 : decode cX9_plank 5 = .ok (.aload_n 0, 1) := by decide +kernel
theorem dX9_plank_6 : decode cX9_plank 6 = .ok (.aload_n 0, 1) := by decide +kernel
theorem dX9_plank_7 : decode cX9_plank 7 = .ok (.iload_n 1, 1) := by decide +kernel
theorem dX9_plank_8 : decode cX9_plank 8 = .ok (.invokevirtual 204, 3) := by decide +kernel
theorem dX9_plank_11 : decode cX9_plank 11 = .ok (.iconst 1, 1) := by decide +kernel
theorem dX9_plank_12 : decode cX9_plank 12 = .ok (.invokevirtual 119, 3) := by decide +kernel
theorem dX9_plank_15 : decode cX9_plank 15 = .ok (.ifCond .ne 25, 3) := by decide +kernel
theorem dX9_plank_18 : decode cX9_plank 18 = .ok (.aload_n 0, 1) := by decide +kernel
theorem dX9_plank_19 : decode cX9_plank 19 = .ok (.iload_n 2, 1) := by decide +kernel
theorem dX9_plank_20 : decode cX9_plank 20 = .ok (.iconst 0, 1) := by decide +kernel
theorem dX9_plank_21 : decode cX9_plank 21 = .ok (.iconst 5, 1) := by decide +kernel
theorem dX9_plank_22 : decode cX9_plank 22 = .ok (.invokestatic 112, 3) := by decide +kernel
theorem dX9_plank_25 : decode cX9_plank 25 = .ok (.ifCond .ne 7, 3) := by decide +kernel
theorem dX9_plank_28 : decode cX9_plank 28 = .ok (.iconst 1, 1) := by decide +kernel
theorem dX9_plank_29 : decode cX9_plank 29 = .ok (.goto 4, 3) := by decide +kernel
theorem dX9_plank_32 : decode cX9_plank 32 = .ok (.iconst 0, 1) := by decide +kernel
theorem dX9_plank_33 : decode cX9_plank 33 = .ok (.iconst 2, 1) := by decide +kernel
theorem dX9_plank_34 : decode cX9_plank 34 = .ok (.invokevirtual 119, 3) := by decide +kernel
theorem dX9_plank_37 : decode cX9_plank 37 = .ok (.ifCond .eq 7, 3) := by decide +kernel
theorem dX9_plank_40 : decode cX9_plank 40 = .ok (.iconst 0, 1) := by decide +kernel
theorem dX9_plank_41 : decode cX9_plank 41 = .ok (.goto 14, 3) := by decide +kernel
theorem dX9_plank_44 : decode cX9_plank 44 = .ok (.aload_n 0, 1) := by decide +kernel
theorem dX9_plank_45 : decode cX9_plank 45 = .ok (.getfield 47, 3) := by decide +kernel
theorem dX9_plank_48 : decode cX9_plank 48 = .ok (.bipush 6, 2) := by decide +kernel
theorem dX9_plank_50 : decode cX9_plank 50 = .ok (.iload_n 1, 1) := by decide +kernel
theorem dX9_plank_51 : decode cX9_plank 51 = .ok (.imul, 1) := by decide +kernel
theorem dX9_plank_52 : decode cX9_plank 52 = .ok (.iload_n 2, 1) := by decide +kernel
theorem dX9_plank_53 : decode cX9_plank 53 = .ok (.iadd, 1) := by decide +kernel
theorem dX9_plank_54 : decode cX9_plank 54 = .ok (.iaload, 1) := by decide +kernel
theorem dX9_plank_55 : decode cX9_plank 55 = .ok (.ireturn, 1) := by decide +kernel
set_option maxRecDepth 20000 in
theorem ggX9_lot_X9_in : GoodIn wsX9_lot wsX9_in := goodIn_r _ [11] (by decide +kernel) (by decide +kernel)
set_option maxRecDepth 20000 in
theorem gX9_lot_X9_in : GoodIn wsX9_lot (va_wsS RX9 112 yX9_in wsX9_in) := goodIn_app (goodIn_of _ (by decide +kernel)) ggX9_lot_X9_in
set_option maxRecDepth 20000 in
theorem ggX9_lot_X9_throwsIf : GoodIn wsX9_lot wsX9_throwsIf := goodIn_r _ [15, 1, 16, 17, 18, 19, 20, 21, 22, 23, 24, 25, 26, 27, 28, 29, 30, 31, 32, 33, 34, 35, 36, 37, 38, 39, 40, 41, 42, 43, 44, 45, 46, 47, 48, 49, 50, 51, 52, 53, 54, 55, 56, 57] (by decide +kernel) (by decide +kernel)
set_option maxRecDepth 20000 in
theorem gX9_lot_X9_throwsIf : GoodIn wsX9_lot (wsV RX9 119 RX9 yX9_throwsIf wsX9_throwsIf) := goodIn_app (goodIn_of _ (by decide +kernel)) ggX9_lot_X9_throwsIf
theorem dX9_lot_0 : decode cX9_lot 0 = .ok (.aload_n 0, 1) := by decide +kernel
theorem dX9_lot_1 : decode cX9_lot 1 = .ok (.iconst 0, 1) := by decide +kernel
theorem dX9_lot_2 : decode cX9_lot 2 = .ok (.putfield 106, 3) := by decide +kernel
theorem dX9_lot_5 : decode cX9_lot 5 = .ok (.aload_n 0, 1) := by decide +kernel
theorem dX9_lot_6 : decode cX9_lot 6 = .ok (.iload_n 1, 1) := by decide +kernel
theorem dX9_lot_7 : decode cX9_lot 7 = .ok (.iconst 0, 1) := by decide +kernel
theorem dX9_lot_8 : decode cX9_lot 8 = .ok (.ldc 207, 2) := by decide +kernel
theorem dX9_lot_10 : decode cX9_lot 10 = .ok (.invokestatic 112, 3) := by decide +kernel
theorem dX9_lot_13 : decode cX9_lot 13 = .ok (.ifCond .ne 7, 3) := by decide +kernel
theorem dX9_lot_16 : decode cX9_lot 16 = .ok (.iconst 1, 1) := by decide +kernel
theorem dX9_lot_17 : decode cX9_lot 17 = .ok (.goto 4, 3) := by decide +kernel
theorem dX9_lot_20 : decode cX9_lot 20 = .ok (.iconst 0, 1) := by decide +kernel
theorem dX9_lot_21 : decode cX9_lot 21 = .ok (.iconst 1, 1) := by decide +kernel
theorem dX9_lot_22 : decode cX9_lot 22 = .ok (.invokevirtual 119, 3) := by decide +kernel
theorem dX9_lot_25 : decode cX9_lot 25 = .ok (.ifCond .ne 25, 3) := by decide +kernel
theorem dX9_lot_28 : decode cX9_lot 28 = .ok (.aload_n 0, 1) := by decide +kernel
theorem dX9_lot_29 : decode cX9_lot 29 = .ok (.aload_n 0, 1) := by decide +kernel
theorem dX9_lot_30 : decode cX9_lot 30 = .ok (.getfield 116, 3) := by decide +kernel
theorem dX9_lot_33 : decode cX9_lot 33 = .ok (.bipush 40, 2) := by decide +kernel
theorem dX9_lot_35 : decode cX9_lot 35 = .ok (.if_icmp .ne 7, 3) := by decide +kernel
theorem dX9_lot_38 : decode cX9_lot 38 = .ok (.iconst 1, 1) := by decide +kernel
theorem dX9_lot_39 : decode cX9_lot 39 = .ok (.goto 4, 3) := by decide +kernel
theorem dX9_lot_42 : decode cX9_lot 42 = .ok (.iconst 0, 1) := by decide +kernel
theorem dX9_lot_43 : decode cX9_lot 43 = .ok (.iconst 2, 1) := by decide +kernel
theorem dX9_lot_44 : decode cX9_lot 44 = .ok (.invokevirtual 119, 3) := by decide +kernel
theorem dX9_lot_47 : decode cX9_lot 47 = .ok (.ifCond .eq 5, 3) := by decide +kernel
theorem dX9_lot_50 : decode cX9_lot 50 = .ok (.iconst 0, 1) := by decide +kernel
theorem dX9_lot_51 : decode cX9_lot 51 = .ok (.ireturn, 1) := by decide +kernel
theorem dX9_lot_52 : decode cX9_lot 52 = .ok (.aload_n 0, 1) := by decide +kernel
theorem dX9_lot_53 : decode cX9_lot 53 = .ok (.getfield 50, 3) := by decide +kernel
theorem dX9_lot_56 : decode cX9_lot 56 = .ok (.aload_n 0, 1) := by decide +kernel
theorem dX9_lot_57 : decode cX9_lot 57 = .ok (.getfield 116, 3) := by decide +kernel
theorem dX9_lot_60 : decode cX9_lot 60 = .ok (.iload_n 1, 1) := by decide +kernel
theorem dX9_lot_61 : decode cX9_lot 61 = .ok (.iastore, 1) := by decide +kernel
theorem dX9_lot_62 : decode cX9_lot 62 = .ok (.aload_n 0, 1) := by decide +kernel
theorem dX9_lot_63 : decode cX9_lot 63 = .ok (.getfield 56, 3) := by decide +kernel
theorem dX9_lot_66 : decode cX9_lot 66 = .ok (.aload_n 0, 1) := by decide +kernel
theorem dX9_lot_67 : decode cX9_lot 67 = .ok (.getfield 116, 3) := by decide +kernel
theorem dX9_lot_70 : decode cX9_lot 70 = .ok (.iconst (-1), 1) := by decide +kernel
theorem dX9_lot_71 : decode cX9_lot 71 = .ok (.iastore, 1) := by decide +kernel
theorem dX9_lot_72 : decode cX9_lot 72 = .ok (.aload_n 0, 1) := by decide +kernel
theorem dX9_lot_73 : decode cX9_lot 73 = .ok (.getfield 59, 3) := by decide +kernel
theorem dX9_lot_76 : decode cX9_lot 76 = .ok (.aload_n 0, 1) := by decide +kernel
theorem dX9_lot_77 : decode cX9_lot 77 = .ok (.getfield 116, 3) := by decide +kernel
theorem dX9_lot_80 : decode cX9_lot 80 = .ok (.iconst (-1), 1) := by decide +kernel
theorem dX9_lot_81 : decode cX9_lot 81 = .ok (.iastore, 1) := by decide +kernel
theorem dX9_lot_82 : decode cX9_lot 82 = .ok (.iconst 0, 1) := by decide +kernel
theorem dX9_lot_83 : decode cX9_lot 83 = .ok (.istore_n 2, 1) := by decide +kernel
theorem dX9_lot_84 : decode cX9_lot 84 = .ok (.iload_n 2, 1) := by decide +kernel
theorem dX9_lot_85 : decode cX9_lot 85 = .ok (.bipush 8, 2) := by decide +kernel
theorem dX9_lot_87 : decode cX9_lot 87 = .ok (.if_icmp .ge 24, 3) := by decide +kernel
theorem dX9_lot_90 : decode cX9_lot 90 = .ok (.aload_n 0, 1) := by decide +kernel
theorem dX9_lot_91 : decode cX9_lot 91 = .ok (.getfield 53, 3) := by decide +kernel
theorem dX9_lot_94 : decode cX9_lot 94 = .ok (.bipush 8, 2) := by decide +kernel
theorem dX9_lot_96 : decode cX9_lot 96 = .ok (.aload_n 0, 1) := by decide +kernel
theorem dX9_lot_97 : decode cX9_lot 97 = .ok (.getfield 116, 3) := by decide +kernel
theorem dX9_lot_100 : decode cX9_lot 100 = .ok (.imul, 1) := by decide +kernel
theorem dX9_lot_101 : decode cX9_lot 101 = .ok (.iload_n 2, 1) := by decide +kernel
theorem dX9_lot_102 : decode cX9_lot 102 = .ok (.iadd, 1) := by decide +kernel
theorem dX9_lot_103 : decode cX9_lot 103 = .ok (.iconst (-1), 1) := by decide +kernel
theorem dX9_lot_104 : decode cX9_lot 104 = .ok (.iastore, 1) := by decide +kernel
theorem dX9_lot_105 : decode cX9_lot 105 = .ok (.iinc 2 1, 3) := by decide +kernel
theorem dX9_lot_108 : decode cX9_lot 108 = .ok (.goto (-24), 3) := by decide +kernel
theorem dX9_lot_111 : decode cX9_lot 111 = .ok (.aload_n 0, 1) := by decide +kernel
theorem dX9_lot_112 : decode cX9_lot 112 = .ok (.dup, 1) := by decide +kernel
theorem dX9_lot_113 : decode cX9_lot 113 = .ok (.getfield 116, 3) := by decide +kernel
theorem dX9_lot_116 : decode cX9_lot 116 = .ok (.iconst 1, 1) := by decide +kernel
theorem dX9_lot_117 : decode cX9_lot 117 = .ok (.iadd, 1) := by decide +kernel
theorem dX9_lot_118 : decode cX9_lot 118 = .ok (.putfield 116, 3) := by decide +kernel
theorem dX9_lot_121 : decode cX9_lot 121 = .ok (.aload_n 0, 1) := by decide +kernel
theorem dX9_lot_122 : decode cX9_lot 122 = .ok (.getfield 116, 3) := by decide +kernel
theorem dX9_lot_125 : decode cX9_lot 125 = .ok (.iconst 1, 1) := by decide +kernel
theorem dX9_lot_126 : decode cX9_lot 126 = .ok (.isub, 1) := by decide +kernel
theorem dX9_lot_127 : decode cX9_lot 127 = .ok (.ireturn, 1) := by decide +kernel
set_option maxRecDepth 20000 in
theorem ggX9_put_X9_noLot : GoodIn wsX9_put wsX9_noLot := goodIn_r _ [8, 9, 10, 11, 7, 12, 22, 23, 24, 25, 26, 27, 28, 29, 30, 31, 32, 33, 34, 35, 36, 37, 38, 39, 40, 41, 42, 43, 44, 45, 46, 47, 48, 49, 50, 51, 52, 53, 54, 55, 56, 57, 58, 59, 60, 61, 62, 63] (by decide +kernel) (by decide +kernel)
set_option maxRecDepth 20000 in
theorem gX9_put_X9_noLot : GoodIn wsX9_put (wsV RX9 208 RX9 yX9_noLot wsX9_noLot) := goodIn_app (goodIn_of _ (by decide +kernel)) ggX9_put_X9_noLot
set_option maxRecDepth 20000 in
theorem ggX9_put_X9_noPlank : GoodIn wsX9_put wsX9_noPlank := goodIn_r _ [16, 17, 10, 11, 7, 12, 22, 23, 24, 25, 26, 27, 28, 29, 30, 31, 32, 33, 34, 35, 36, 37, 38, 39, 40, 41, 42, 43, 44, 45, 46, 47, 48, 49, 50, 51, 52, 53, 54, 55, 56, 57, 58, 59, 60, 61, 62, 63] (by decide +kernel) (by decide +kernel)
set_option maxRecDepth 20000 in
theorem gX9_put_X9_noPlank : GoodIn wsX9_put (wsV RX9 204 RX9 yX9_noPlank wsX9_noPlank) := goodIn_app (goodIn_of _ (by decide +kernel)) ggX9_put_X9_noPlank
set_option maxRecDepth 20000 in
theorem ggX9_put_X9_throwsIf : GoodIn wsX9_put wsX9_throwsIf := goodIn_r _ [21, 1, 22, 23, 24, 25, 26, 27, 28, 29, 30, 31, 32, 33, 34, 35, 36, 37, 38, 39, 40, 41, 42, 43, 44, 45, 46, 47, 48, 49, 50, 51, 52, 53, 54, 55, 56, 57, 58, 59, 60, 61, 62, 63] (by decide +kernel) (by decide +kernel)
set_option maxRecDepth 20000 in
theorem gX9_put_X9_throwsIf : GoodIn wsX9_put (wsV RX9 119 RX9 yX9_throwsIf wsX9_throwsIf) := goodIn_app (goodIn_of _ (by decide +kernel)) ggX9_put_X9_throwsIf
theorem dX9_put_0 : decode cX9_put 0 = .ok (.aload_n 0, 1) := by decide +kernel
theorem dX9_put_1 : decode cX9_put 1 = .ok (.iconst 0, 1) := by decide +kernel
theorem dX9_put_2 : decode cX9_put 2 = .ok (.putfield 106, 3) := by decide +kernel
theorem dX9_put_5 : decode cX9_put 5 = .ok (.aload_n 0, 1) := by decide +kernel
theorem dX9_put_6 : decode cX9_put 6 = .ok (.aload_n 0, 1) := by decide +kernel
theorem dX9_put_7 : decode cX9_put 7 = .ok (.iload_n 1, 1) := by decide +kernel
theorem dX9_put_8 : decode cX9_put 8 = .ok (.invokevirtual 208, 3) := by decide +kernel
theorem dX9_put_11 : decode cX9_put 11 = .ok (.ifCond .ne 11, 3) := by decide +kernel
theorem dX9_put_14 : decode cX9_put 14 = .ok (.aload_n 0, 1) := by decide +kernel
theorem dX9_put_15 : decode cX9_put 15 = .ok (.iload_n 2, 1) := by decide +kernel
theorem dX9_put_16 : decode cX9_put 16 = .ok (.invokevirtual 204, 3) := by decide +kernel
theorem dX9_put_19 : decode cX9_put 19 = .ok (.ifCond .eq 7, 3) := by decide +kernel
theorem dX9_put_22 : decode cX9_put 22 = .ok (.iconst 1, 1) := by decide +kernel
theorem dX9_put_23 : decode cX9_put 23 = .ok (.goto 4, 3) := by decide +kernel
theorem dX9_put_26 : decode cX9_put 26 = .ok (.iconst 0, 1) := by decide +kernel
theorem dX9_put_27 : decode cX9_put 27 = .ok (.iconst 1, 1) := by decide +kernel
theorem dX9_put_28 : decode cX9_put 28 = .ok (.invokevirtual 119, 3) := by decide +kernel
theorem dX9_put_31 : decode cX9_put 31 = .ok (.ifCond .ne 26, 3) := by decide +kernel
theorem dX9_put_34 : decode cX9_put 34 = .ok (.aload_n 0, 1) := by decide +kernel
theorem dX9_put_35 : decode cX9_put 35 = .ok (.getfield 47, 3) := by decide +kernel
theorem dX9_put_38 : decode cX9_put 38 = .ok (.bipush 6, 2) := by decide +kernel
theorem dX9_put_40 : decode cX9_put 40 = .ok (.iload_n 2, 1) := by decide +kernel
theorem dX9_put_41 : decode cX9_put 41 = .ok (.imul, 1) := by decide +kernel
theorem dX9_put_42 : decode cX9_put 42 = .ok (.iconst 5, 1) := by decide +kernel
theorem dX9_put_43 : decode cX9_put 43 = .ok (.iadd, 1) := by decide +kernel
theorem dX9_put_44 : decode cX9_put 44 = .ok (.iaload, 1) := by decide +kernel
theorem dX9_put_45 : decode cX9_put 45 = .ok (.ifCond .ge 12, 3) := by decide +kernel
theorem dX9_put_48 : decode cX9_put 48 = .ok (.aload_n 0, 1) := by decide +kernel
theorem dX9_put_49 : decode cX9_put 49 = .ok (.getfield 56, 3) := by decide +kernel
theorem dX9_put_52 : decode cX9_put 52 = .ok (.iload_n 1, 1) := by decide +kernel
theorem dX9_put_53 : decode cX9_put 53 = .ok (.iaload, 1) := by decide +kernel
theorem dX9_put_54 : decode cX9_put 54 = .ok (.ifCond .lt 5, 3) := by decide +kernel
theorem dX9_put_57 : decode cX9_put 57 = .ok (.iconst 0, 1) := by decide +kernel
theorem dX9_put_58 : decode cX9_put 58 = .ok (.ireturn, 1) := by decide +kernel
theorem dX9_put_59 : decode cX9_put 59 = .ok (.aload_n 0, 1) := by decide +kernel
theorem dX9_put_60 : decode cX9_put 60 = .ok (.getfield 47, 3) := by decide +kernel
theorem dX9_put_63 : decode cX9_put 63 = .ok (.bipush 6, 2) := by decide +kernel
theorem dX9_put_65 : decode cX9_put 65 = .ok (.iload_n 2, 1) := by decide +kernel
theorem dX9_put_66 : decode cX9_put 66 = .ok (.imul, 1) := by decide +kernel
theorem dX9_put_67 : decode cX9_put 67 = .ok (.iconst 5, 1) := by decide +kernel
theorem dX9_put_68 : decode cX9_put 68 = .ok (.iadd, 1) := by decide +kernel
theorem dX9_put_69 : decode cX9_put 69 = .ok (.iload_n 1, 1) := by decide +kernel
theorem dX9_put_70 : decode cX9_put 70 = .ok (.iastore, 1) := by decide +kernel
theorem dX9_put_71 : decode cX9_put 71 = .ok (.iconst 1, 1) := by decide +kernel
theorem dX9_put_72 : decode cX9_put 72 = .ok (.ireturn, 1) := by decide +kernel
set_option maxRecDepth 20000 in
theorem ggX9_bid_X9_noLot : GoodIn wsX9_bid wsX9_noLot := goodIn_r _ [10, 11, 12, 13, 9, 14, 19, 20, 21, 22, 23, 24, 25, 26, 27, 28, 29, 30, 31, 32, 33, 34, 35, 36, 37, 38, 39, 40, 41, 42, 43, 44, 45, 46, 47, 48, 49, 50, 51, 52, 53, 54, 55, 56, 57, 58, 59, 60] (by decide +kernel) (by decide +kernel)
set_option maxRecDepth 20000 in
theorem gX9_bid_X9_noLot : GoodIn wsX9_bid (wsV RX9 208 RX9 yX9_noLot wsX9_noLot) := goodIn_app (goodIn_of _ (by decide +kernel)) ggX9_bid_X9_noLot
set_option maxRecDepth 20000 in
theorem ggX9_bid_X9_throwsIf : GoodIn wsX9_bid wsX9_throwsIf := goodIn_r _ [18, 1, 19, 20, 21, 22, 23, 24, 25, 26, 27, 28, 29, 30, 31, 32, 33, 34, 35, 36, 37, 38, 39, 40, 41, 42, 43, 44, 45, 46, 47, 48, 49, 50, 51, 52, 53, 54, 55, 56, 57, 58, 59, 60] (by decide +kernel) (by decide +kernel)
set_option maxRecDepth 20000 in
theorem gX9_bid_X9_throwsIf : GoodIn wsX9_bid (wsV RX9 119 RX9 yX9_throwsIf wsX9_throwsIf) := goodIn_app (goodIn_of _ (by decide +kernel)) ggX9_bid_X9_throwsIf
set_option maxRecDepth 20000 in
theorem ggX9_bid_X9_in : GoodIn wsX9_bid wsX9_in := goodIn_r _ [14] (by decide +kernel) (by decide +kernel)
set_option maxRecDepth 20000 in
theorem gX9_bid_X9_in : GoodIn wsX9_bid (va_wsS RX9 112 yX9_in wsX9_in) := goodIn_app (goodIn_of _ (by decide +kernel)) ggX9_bid_X9_in
theorem dX9_bid_0 : decode cX9_bid 0 = .ok (.aload_n 0, 1) := by decide +kernel
theorem dX9_bid_1 : decode cX9_bid 1 = .ok (.iconst 0, 1) := by decide +kernel
theorem dX9_bid_2 : decode cX9_bid 2 = .ok (.putfield 106, 3) := by decide +kernel
theorem dX9_bid_5 : decode cX9_bid 5 = .ok (.aload_n 0, 1) := by decide +kernel
theorem dX9_bid_6 : decode cX9_bid 6 = .ok (.aload_n 0, 1) := by decide +kernel
theorem dX9_bid_7 : decode cX9_bid 7 = .ok (.iload_n 1, 1) := by decide +kernel
theorem dX9_bid_8 : decode cX9_bid 8 = .ok (.invokevirtual 208, 3) := by decide +kernel
theorem dX9_bid_11 : decode cX9_bid 11 = .ok (.iconst 1, 1) := by decide +kernel
theorem dX9_bid_12 : decode cX9_bid 12 = .ok (.invokevirtual 119, 3) := by decide +kernel
theorem dX9_bid_15 : decode cX9_bid 15 = .ok (.ifCond .ne 55, 3) := by decide +kernel
theorem dX9_bid_18 : decode cX9_bid 18 = .ok (.aload_n 0, 1) := by decide +kernel
theorem dX9_bid_19 : decode cX9_bid 19 = .ok (.iload_n 2, 1) := by decide +kernel
theorem dX9_bid_20 : decode cX9_bid 20 = .ok (.iconst 0, 1) := by decide +kernel
theorem dX9_bid_21 : decode cX9_bid 21 = .ok (.bipush 7, 2) := by decide +kernel
theorem dX9_bid_23 : decode cX9_bid 23 = .ok (.invokestatic 112, 3) := by decide +kernel
theorem dX9_bid_26 : decode cX9_bid 26 = .ok (.ifCond .eq 13, 3) := by decide +kernel
theorem dX9_bid_29 : decode cX9_bid 29 = .ok (.iload_n 3, 1) := by decide +kernel
theorem dX9_bid_30 : decode cX9_bid 30 = .ok (.iconst 0, 1) := by decide +kernel
theorem dX9_bid_31 : decode cX9_bid 31 = .ok (.ldc 207, 2) := by decide +kernel
theorem dX9_bid_33 : decode cX9_bid 33 = .ok (.invokestatic 112, 3) := by decide +kernel
theorem dX9_bid_36 : decode cX9_bid 36 = .ok (.ifCond .ne 7, 3) := by decide +kernel
theorem dX9_bid_39 : decode cX9_bid 39 = .ok (.iconst 1, 1) := by decide +kernel
theorem dX9_bid_40 : decode cX9_bid 40 = .ok (.goto 4, 3) := by decide +kernel
theorem dX9_bid_43 : decode cX9_bid 43 = .ok (.iconst 0, 1) := by decide +kernel
theorem dX9_bid_44 : decode cX9_bid 44 = .ok (.iconst 2, 1) := by decide +kernel
theorem dX9_bid_45 : decode cX9_bid 45 = .ok (.invokevirtual 119, 3) := by decide +kernel
theorem dX9_bid_48 : decode cX9_bid 48 = .ok (.ifCond .ne 22, 3) := by decide +kernel
theorem dX9_bid_51 : decode cX9_bid 51 = .ok (.iload_n 3, 1) := by decide +kernel
theorem dX9_bid_52 : decode cX9_bid 52 = .ok (.aload_n 0, 1) := by decide +kernel
theorem dX9_bid_53 : decode cX9_bid 53 = .ok (.getfield 50, 3) := by decide +kernel
theorem dX9_bid_56 : decode cX9_bid 56 = .ok (.iload_n 1, 1) := by decide +kernel
theorem dX9_bid_57 : decode cX9_bid 57 = .ok (.iaload, 1) := by decide +kernel
theorem dX9_bid_58 : decode cX9_bid 58 = .ok (.if_icmp .lt 12, 3) := by decide +kernel
theorem dX9_bid_61 : decode cX9_bid 61 = .ok (.aload_n 0, 1) := by decide +kernel
theorem dX9_bid_62 : decode cX9_bid 62 = .ok (.getfield 56, 3) := by decide +kernel
theorem dX9_bid_65 : decode cX9_bid 65 = .ok (.iload_n 1, 1) := by decide +kernel
theorem dX9_bid_66 : decode cX9_bid 66 = .ok (.iaload, 1) := by decide +kernel
theorem dX9_bid_67 : decode cX9_bid 67 = .ok (.ifCond .lt 5, 3) := by decide +kernel
theorem dX9_bid_70 : decode cX9_bid 70 = .ok (.iconst 0, 1) := by decide +kernel
theorem dX9_bid_71 : decode cX9_bid 71 = .ok (.ireturn, 1) := by decide +kernel
theorem dX9_bid_72 : decode cX9_bid 72 = .ok (.aload_n 0, 1) := by decide +kernel
theorem dX9_bid_73 : decode cX9_bid 73 = .ok (.getfield 53, 3) := by decide +kernel
theorem dX9_bid_76 : decode cX9_bid 76 = .ok (.bipush 8, 2) := by decide +kernel
theorem dX9_bid_78 : decode cX9_bid 78 = .ok (.iload_n 1, 1) := by decide +kernel
theorem dX9_bid_79 : decode cX9_bid 79 = .ok (.imul, 1) := by decide +kernel
theorem dX9_bid_80 : decode cX9_bid 80 = .ok (.iload_n 2, 1) := by decide +kernel
theorem dX9_bid_81 : decode cX9_bid 81 = .ok (.iadd, 1) := by decide +kernel
theorem dX9_bid_82 : decode cX9_bid 82 = .ok (.iload_n 3, 1) := by decide +kernel
theorem dX9_bid_83 : decode cX9_bid 83 = .ok (.iastore, 1) := by decide +kernel
theorem dX9_bid_84 : decode cX9_bid 84 = .ok (.iconst 1, 1) := by decide +kernel
theorem dX9_bid_85 : decode cX9_bid 85 = .ok (.ireturn, 1) := by decide +kernel
set_option maxRecDepth 20000 in
theorem ggX9_sell_X9_noLot : GoodIn wsX9_sell wsX9_noLot := goodIn_r _ [14, 15, 16, 17, 13, 18, 23, 24, 25, 26, 27, 28, 29, 30, 31, 32, 33, 34, 35, 36, 37, 38, 39, 40, 41, 42, 43, 44, 45, 46, 47, 48, 49, 50, 51, 52, 53, 54, 55, 56, 57, 58, 59, 60, 61, 62, 63, 64] (by decide +kernel) (by decide +kernel)
set_option maxRecDepth 20000 in
theorem gX9_sell_X9_noLot : GoodIn wsX9_sell (wsV RX9 208 RX9 yX9_noLot wsX9_noLot) := goodIn_app (goodIn_of _ (by decide +kernel)) ggX9_sell_X9_noLot
set_option maxRecDepth 20000 in
theorem ggX9_sell_X9_throwsIf : GoodIn wsX9_sell wsX9_throwsIf := goodIn_r _ [22, 1, 23, 24, 25, 26, 27, 28, 29, 30, 31, 32, 33, 34, 35, 36, 37, 38, 39, 40, 41, 42, 43, 44, 45, 46, 47, 48, 49, 50, 51, 52, 53, 54, 55, 56, 57, 58, 59, 60, 61, 62, 63, 64] (by decide +kernel) (by decide +kernel)
set_option maxRecDepth 20000 in
theorem gX9_sell_X9_throwsIf : GoodIn wsX9_sell (wsV RX9 119 RX9 yX9_throwsIf wsX9_throwsIf) := goodIn_app (goodIn_of _ (by decide +kernel)) ggX9_sell_X9_throwsIf
theorem dX9_sell_0 : decode cX9_sell 0 = .ok (.aload_n 0, 1) := by decide +kernel
theorem dX9_sell_1 : decode cX9_sell 1 = .ok (.iconst 0, 1) := by decide +kernel
theorem dX9_sell_2 : decode cX9_sell 2 = .ok (.putfield 106, 3) := by decide +kernel
theorem dX9_sell_5 : decode cX9_sell 5 = .ok (.aload_n 0, 1) := by decide +kernel
theorem dX9_sell_6 : decode cX9_sell 6 = .ok (.aload_n 0, 1) := by decide +kernel
theorem dX9_sell_7 : decode cX9_sell 7 = .ok (.iload_n 1, 1) := by decide +kernel
theorem dX9_sell_8 : decode cX9_sell 8 = .ok (.invokevirtual 208, 3) := by decide +kernel
theorem dX9_sell_11 : decode cX9_sell 11 = .ok (.iconst 1, 1) := by decide +kernel
theorem dX9_sell_12 : decode cX9_sell 12 = .ok (.invokevirtual 119, 3) := by decide +kernel
theorem dX9_sell_15 : decode cX9_sell 15 = .ok (.ifCond .eq 5, 3) := by decide +kernel
theorem dX9_sell_18 : decode cX9_sell 18 = .ok (.iconst 0, 1) := by decide +kernel
theorem dX9_sell_19 : decode cX9_sell 19 = .ok (.ireturn, 1) := by decide +kernel
theorem dX9_sell_20 : decode cX9_sell 20 = .ok (.aload_n 0, 1) := by decide +kernel
theorem dX9_sell_21 : decode cX9_sell 21 = .ok (.getfield 56, 3) := by decide +kernel
theorem dX9_sell_24 : decode cX9_sell 24 = .ok (.iload_n 1, 1) := by decide +kernel
theorem dX9_sell_25 : decode cX9_sell 25 = .ok (.iaload, 1) := by decide +kernel
theorem dX9_sell_26 : decode cX9_sell 26 = .ok (.ifCond .lt 5, 3) := by decide +kernel
theorem dX9_sell_29 : decode cX9_sell 29 = .ok (.iconst (-1), 1) := by decide +kernel
theorem dX9_sell_30 : decode cX9_sell 30 = .ok (.ireturn, 1) := by decide +kernel
theorem dX9_sell_31 : decode cX9_sell 31 = .ok (.iconst (-1), 1) := by decide +kernel
theorem dX9_sell_32 : decode cX9_sell 32 = .ok (.istore_n 2, 1) := by decide +kernel
theorem dX9_sell_33 : decode cX9_sell 33 = .ok (.iconst 0, 1) := by decide +kernel
theorem dX9_sell_34 : decode cX9_sell 34 = .ok (.istore_n 3, 1) := by decide +kernel
theorem dX9_sell_35 : decode cX9_sell 35 = .ok (.iload_n 3, 1) := by decide +kernel
theorem dX9_sell_36 : decode cX9_sell 36 = .ok (.bipush 8, 2) := by decide +kernel
theorem dX9_sell_38 : decode cX9_sell 38 = .ok (.if_icmp .ge 54, 3) := by decide +kernel
theorem dX9_sell_41 : decode cX9_sell 41 = .ok (.aload_n 0, 1) := by decide +kernel
theorem dX9_sell_42 : decode cX9_sell 42 = .ok (.getfield 53, 3) := by decide +kernel
theorem dX9_sell_45 : decode cX9_sell 45 = .ok (.bipush 8, 2) := by decide +kernel
theorem dX9_sell_47 : decode cX9_sell 47 = .ok (.iload_n 1, 1) := by decide +kernel
theorem dX9_sell_48 : decode cX9_sell 48 = .ok (.imul, 1) := by decide +kernel
theorem dX9_sell_49 : decode cX9_sell 49 = .ok (.iload_n 3, 1) := by decide +kernel
theorem dX9_sell_50 : decode cX9_sell 50 = .ok (.iadd, 1) := by decide +kernel
theorem dX9_sell_51 : decode cX9_sell 51 = .ok (.iaload, 1) := by decide +kernel
theorem dX9_sell_52 : decode cX9_sell 52 = .ok (.ifCond .lt 34, 3) := by decide +kernel
theorem dX9_sell_55 : decode cX9_sell 55 = .ok (.iload_n 2, 1) := by decide +kernel
theorem dX9_sell_56 : decode cX9_sell 56 = .ok (.ifCond .lt 28, 3) := by decide +kernel
theorem dX9_sell_59 : decode cX9_sell 59 = .ok (.aload_n 0, 1) := by decide +kernel
theorem dX9_sell_60 : decode cX9_sell 60 = .ok (.getfield 53, 3) := by decide +kernel
theorem dX9_sell_63 : decode cX9_sell 63 = .ok (.bipush 8, 2) := by decide +kernel
theorem dX9_sell_65 : decode cX9_sell 65 = .ok (.iload_n 1, 1) := by decide +kernel
theorem dX9_sell_66 : decode cX9_sell 66 = .ok (.imul, 1) := by decide +kernel
theorem dX9_sell_67 : decode cX9_sell 67 = .ok (.iload_n 3, 1) := by decide +kernel
theorem dX9_sell_68 : decode cX9_sell 68 = .ok (.iadd, 1) := by decide +kernel
theorem dX9_sell_69 : decode cX9_sell 69 = .ok (.iaload, 1) := by decide +kernel
theorem dX9_sell_70 : decode cX9_sell 70 = .ok (.aload_n 0, 1) := by decide +kernel
theorem dX9_sell_71 : decode cX9_sell 71 = .ok (.getfield 53, 3) := by decide +kernel
theorem dX9_sell_74 : decode cX9_sell 74 = .ok (.bipush 8, 2) := by decide +kernel
theorem dX9_sell_76 : decode cX9_sell 76 = .ok (.iload_n 1, 1) := by decide +kernel
theorem dX9_sell_77 : decode cX9_sell 77 = .ok (.imul, 1) := by decide +kernel
theorem dX9_sell_78 : decode cX9_sell 78 = .ok (.iload_n 2, 1) := by decide +kernel
theorem dX9_sell_79 : decode cX9_sell 79 = .ok (.iadd, 1) := by decide +kernel
theorem dX9_sell_80 : decode cX9_sell 80 = .ok (.iaload, 1) := by decide +kernel
theorem dX9_sell_81 : decode cX9_sell 81 = .ok (.if_icmp .le 5, 3) := by decide +kernel
theorem dX9_sell_84 : decode cX9_sell 84 = .ok (.iload_n 3, 1) := by decide +kernel
theorem dX9_sell_85 : decode cX9_sell 85 = .ok (.istore_n 2, 1) := by decide +kernel
theorem dX9_sell_86 : decode cX9_sell 86 = .ok (.iinc 3 1, 3) := by decide +kernel
theorem dX9_sell_89 : decode cX9_sell 89 = .ok (.goto (-54), 3) := by decide +kernel
theorem dX9_sell_92 : decode cX9_sell 92 = .ok (.iload_n 2, 1) := by decide +kernel
theorem dX9_sell_93 : decode cX9_sell 93 = .ok (.ifCond .ge 5, 3) := by decide +kernel
theorem dX9_sell_96 : decode cX9_sell 96 = .ok (.iconst (-1), 1) := by decide +kernel
theorem dX9_sell_97 : decode cX9_sell 97 = .ok (.ireturn, 1) := by decide +kernel
theorem dX9_sell_98 : decode cX9_sell 98 = .ok (.aload_n 0, 1) := by decide +kernel
theorem dX9_sell_99 : decode cX9_sell 99 = .ok (.getfield 50, 3) := by decide +kernel
theorem dX9_sell_102 : decode cX9_sell 102 = .ok (.iload_n 1, 1) := by decide +kernel
theorem dX9_sell_103 : decode cX9_sell 103 = .ok (.iaload, 1) := by decide +kernel
theorem dX9_sell_104 : decode cX9_sell 104 = .ok (.istore_n 3, 1) := by decide +kernel
theorem dX9_sell_105 : decode cX9_sell 105 = .ok (.iconst 0, 1) := by decide +kernel
theorem dX9_sell_106 : decode cX9_sell 106 = .ok (.istore 4, 2) := by decide +kernel
theorem dX9_sell_108 : decode cX9_sell 108 = .ok (.iload 4, 2) := by decide +kernel
theorem dX9_sell_110 : decode cX9_sell 110 = .ok (.bipush 8, 2) := by decide +kernel
theorem dX9_sell_112 : decode cX9_sell 112 = .ok (.if_icmp .ge 32, 3) := by decide +kernel
theorem dX9_sell_115 : decode cX9_sell 115 = .ok (.iload 4, 2) := by decide +kernel
theorem dX9_sell_117 : decode cX9_sell 117 = .ok (.iload_n 2, 1) := by decide +kernel
theorem dX9_sell_118 : decode cX9_sell 118 = .ok (.if_icmp .eq 20, 3) := by decide +kernel
theorem dX9_sell_121 : decode cX9_sell 121 = .ok (.iload_n 3, 1) := by decide +kernel
theorem dX9_sell_122 : decode cX9_sell 122 = .ok (.aload_n 0, 1) := by decide +kernel
theorem dX9_sell_123 : decode cX9_sell 123 = .ok (.getfield 53, 3) := by decide +kernel
theorem dX9_sell_126 : decode cX9_sell 126 = .ok (.bipush 8, 2) := by decide +kernel
theorem dX9_sell_128 : decode cX9_sell 128 = .ok (.iload_n 1, 1) := by decide +kernel
theorem dX9_sell_129 : decode cX9_sell 129 = .ok (.imul, 1) := by decide +kernel
theorem dX9_sell_130 : decode cX9_sell 130 = .ok (.iload 4, 2) := by decide +kernel
theorem dX9_sell_132 : decode cX9_sell 132 = .ok (.iadd, 1) := by decide +kernel
theorem dX9_sell_133 : decode cX9_sell 133 = .ok (.iaload, 1) := by decide +kernel
theorem dX9_sell_134 : decode cX9_sell 134 = .ok (.invokestatic 132, 3) := by decide +kernel
theorem dX9_sell_137 : decode cX9_sell 137 = .ok (.istore_n 3, 1) := by decide +kernel
theorem dX9_sell_138 : decode cX9_sell 138 = .ok (.iinc 4 1, 3) := by decide +kernel
theorem dX9_sell_141 : decode cX9_sell 141 = .ok (.goto (-33), 3) := by decide +kernel
theorem dX9_sell_144 : decode cX9_sell 144 = .ok (.aload_n 0, 1) := by decide +kernel
theorem dX9_sell_145 : decode cX9_sell 145 = .ok (.getfield 56, 3) := by decide +kernel
theorem dX9_sell_148 : decode cX9_sell 148 = .ok (.iload_n 1, 1) := by decide +kernel
theorem dX9_sell_149 : decode cX9_sell 149 = .ok (.iload_n 2, 1) := by decide +kernel
theorem dX9_sell_150 : decode cX9_sell 150 = .ok (.iastore, 1) := by decide +kernel
theorem dX9_sell_151 : decode cX9_sell 151 = .ok (.aload_n 0, 1) := by decide +kernel
theorem dX9_sell_152 : decode cX9_sell 152 = .ok (.getfield 59, 3) := by decide +kernel
theorem dX9_sell_155 : decode cX9_sell 155 = .ok (.iload_n 1, 1) := by decide +kernel
theorem dX9_sell_156 : decode cX9_sell 156 = .ok (.iload_n 3, 1) := by decide +kernel
theorem dX9_sell_157 : decode cX9_sell 157 = .ok (.iastore, 1) := by decide +kernel
theorem dX9_sell_158 : decode cX9_sell 158 = .ok (.iload_n 2, 1) := by decide +kernel
theorem dX9_sell_159 : decode cX9_sell 159 = .ok (.ireturn, 1) := by decide +kernel
set_option maxRecDepth 20000 in
theorem ggX9_offer_X9_noLot : GoodIn wsX9_offer wsX9_noLot := goodIn_r _ [12, 13, 14, 15, 11, 16, 21, 22, 23, 24, 25, 26, 27, 28, 29, 30, 31, 32, 33, 34, 35, 36, 37, 38, 39, 40, 41, 42, 43, 44, 45, 46, 47, 48, 49, 50, 51, 52, 53, 54, 55, 56, 57, 58, 59, 60, 61, 62] (by decide +kernel) (by decide +kernel)
set_option maxRecDepth 20000 in
theorem gX9_offer_X9_noLot : GoodIn wsX9_offer (wsV RX9 208 RX9 yX9_noLot wsX9_noLot) := goodIn_app (goodIn_of _ (by decide +kernel)) ggX9_offer_X9_noLot
set_option maxRecDepth 20000 in
theorem ggX9_offer_X9_throwsIf : GoodIn wsX9_offer wsX9_throwsIf := goodIn_r _ [20, 1, 21, 22, 23, 24, 25, 26, 27, 28, 29, 30, 31, 32, 33, 34, 35, 36, 37, 38, 39, 40, 41, 42, 43, 44, 45, 46, 47, 48, 49, 50, 51, 52, 53, 54, 55, 56, 57, 58, 59, 60, 61, 62] (by decide +kernel) (by decide +kernel)
set_option maxRecDepth 20000 in
theorem gX9_offer_X9_throwsIf : GoodIn wsX9_offer (wsV RX9 119 RX9 yX9_throwsIf wsX9_throwsIf) := goodIn_app (goodIn_of _ (by decide +kernel)) ggX9_offer_X9_throwsIf
theorem dX9_offer_0 : decode cX9_offer 0 = .ok (.aload_n 0, 1) := by decide +kernel
theorem dX9_offer_1 : decode cX9_offer 1 = .ok (.iconst 0, 1) := by decide +kernel
theorem dX9_offer_2 : decode cX9_offer 2 = .ok (.putfield 106, 3) := by decide +kernel
theorem dX9_offer_5 : decode cX9_offer 5 = .ok (.aload_n 0, 1) := by decide +kernel
theorem dX9_offer_6 : decode cX9_offer 6 = .ok (.aload_n 0, 1) := by decide +kernel
theorem dX9_offer_7 : decode cX9_offer 7 = .ok (.iload_n 1, 1) := by decide +kernel
theorem dX9_offer_8 : decode cX9_offer 8 = .ok (.invokevirtual 208, 3) := by decide +kernel
theorem dX9_offer_11 : decode cX9_offer 11 = .ok (.iconst 1, 1) := by decide +kernel
theorem dX9_offer_12 : decode cX9_offer 12 = .ok (.invokevirtual 119, 3) := by decide +kernel
theorem dX9_offer_15 : decode cX9_offer 15 = .ok (.ifCond .eq 5, 3) := by decide +kernel
theorem dX9_offer_18 : decode cX9_offer 18 = .ok (.iconst 0, 1) := by decide +kernel
theorem dX9_offer_19 : decode cX9_offer 19 = .ok (.ireturn, 1) := by decide +kernel
theorem dX9_offer_20 : decode cX9_offer 20 = .ok (.iconst 0, 1) := by decide +kernel
theorem dX9_offer_21 : decode cX9_offer 21 = .ok (.istore_n 3, 1) := by decide +kernel
theorem dX9_offer_22 : decode cX9_offer 22 = .ok (.lconst 0, 1) := by decide +kernel
theorem dX9_offer_23 : decode cX9_offer 23 = .ok (.lstore 4, 2) := by decide +kernel
theorem dX9_offer_25 : decode cX9_offer 25 = .ok (.iconst 0, 1) := by decide +kernel
theorem dX9_offer_26 : decode cX9_offer 26 = .ok (.istore 6, 2) := by decide +kernel
theorem dX9_offer_28 : decode cX9_offer 28 = .ok (.iload 6, 2) := by decide +kernel
theorem dX9_offer_30 : decode cX9_offer 30 = .ok (.aload_n 0, 1) := by decide +kernel
theorem dX9_offer_31 : decode cX9_offer 31 = .ok (.getfield 143, 3) := by decide +kernel
theorem dX9_offer_34 : decode cX9_offer 34 = .ok (.if_icmp .ge 76, 3) := by decide +kernel
theorem dX9_offer_37 : decode cX9_offer 37 = .ok (.bipush 6, 2) := by decide +kernel
theorem dX9_offer_39 : decode cX9_offer 39 = .ok (.iload 6, 2) := by decide +kernel
theorem dX9_offer_41 : decode cX9_offer 41 = .ok (.imul, 1) := by decide +kernel
theorem dX9_offer_42 : decode cX9_offer 42 = .ok (.istore 7, 2) := by decide +kernel
theorem dX9_offer_44 : decode cX9_offer 44 = .ok (.aload_n 0, 1) := by decide +kernel
theorem dX9_offer_45 : decode cX9_offer 45 = .ok (.getfield 47, 3) := by decide +kernel
theorem dX9_offer_48 : decode cX9_offer 48 = .ok (.iload 7, 2) := by decide +kernel
theorem dX9_offer_50 : decode cX9_offer 50 = .ok (.iconst 5, 1) := by decide +kernel
theorem dX9_offer_51 : decode cX9_offer 51 = .ok (.iadd, 1) := by decide +kernel
theorem dX9_offer_52 : decode cX9_offer 52 = .ok (.iaload, 1) := by decide +kernel
theorem dX9_offer_53 : decode cX9_offer 53 = .ok (.iload_n 1, 1) := by decide +kernel
theorem dX9_offer_54 : decode cX9_offer 54 = .ok (.if_icmp .eq 6, 3) := by decide +kernel
theorem dX9_offer_57 : decode cX9_offer 57 = .ok (.goto 47, 3) := by decide +kernel
theorem dX9_offer_60 : decode cX9_offer 60 = .ok (.iinc 3 1, 3) := by decide +kernel
theorem dX9_offer_63 : decode cX9_offer 63 = .ok (.lload 4, 2) := by decide +kernel
theorem dX9_offer_65 : decode cX9_offer 65 = .ok (.aload_n 0, 1) := by decide +kernel
theorem dX9_offer_66 : decode cX9_offer 66 = .ok (.getfield 47, 3) := by decide +kernel
theorem dX9_offer_69 : decode cX9_offer 69 = .ok (.iload 7, 2) := by decide +kernel
theorem dX9_offer_71 : decode cX9_offer 71 = .ok (.iconst 2, 1) := by decide +kernel
theorem dX9_offer_72 : decode cX9_offer 72 = .ok (.iadd, 1) := by decide +kernel
theorem dX9_offer_73 : decode cX9_offer 73 = .ok (.iaload, 1) := by decide +kernel
theorem dX9_offer_74 : decode cX9_offer 74 = .ok (.i2l, 1) := by decide +kernel
theorem dX9_offer_75 : decode cX9_offer 75 = .ok (.aload_n 0, 1) := by decide +kernel
theorem dX9_offer_76 : decode cX9_offer 76 = .ok (.getfield 47, 3) := by decide +kernel
theorem dX9_offer_79 : decode cX9_offer 79 = .ok (.iload 7, 2) := by decide +kernel
theorem dX9_offer_81 : decode cX9_offer 81 = .ok (.iconst 3, 1) := by decide +kernel
theorem dX9_offer_82 : decode cX9_offer 82 = .ok (.iadd, 1) := by decide +kernel
theorem dX9_offer_83 : decode cX9_offer 83 = .ok (.iaload, 1) := by decide +kernel
theorem dX9_offer_84 : decode cX9_offer 84 = .ok (.i2l, 1) := by decide +kernel
theorem dX9_offer_85 : decode cX9_offer 85 = .ok (.lmul, 1) := by decide +kernel
theorem dX9_offer_86 : decode cX9_offer 86 = .ok (.aload_n 0, 1) := by decide +kernel
theorem dX9_offer_87 : decode cX9_offer 87 = .ok (.getfield 47, 3) := by decide +kernel
theorem dX9_offer_90 : decode cX9_offer 90 = .ok (.iload 7, 2) := by decide +kernel
theorem dX9_offer_92 : decode cX9_offer 92 = .ok (.iconst 4, 1) := by decide +kernel
theorem dX9_offer_93 : decode cX9_offer 93 = .ok (.iadd, 1) := by decide +kernel
theorem dX9_offer_94 : decode cX9_offer 94 = .ok (.iaload, 1) := by decide +kernel
theorem dX9_offer_95 : decode cX9_offer 95 = .ok (.i2l, 1) := by decide +kernel
theorem dX9_offer_96 : decode cX9_offer 96 = .ok (.lmul, 1) := by decide +kernel
theorem dX9_offer_97 : decode cX9_offer 97 = .ok (.ldc2_w 211, 3) := by decide +kernel
theorem dX9_offer_100 : decode cX9_offer 100 = .ok (.ldiv, 1) := by decide +kernel
theorem dX9_offer_101 : decode cX9_offer 101 = .ok (.ladd, 1) := by decide +kernel
theorem dX9_offer_102 : decode cX9_offer 102 = .ok (.lstore 4, 2) := by decide +kernel
theorem dX9_offer_104 : decode cX9_offer 104 = .ok (.iinc 6 1, 3) := by decide +kernel
theorem dX9_offer_107 : decode cX9_offer 107 = .ok (.goto (-79), 3) := by decide +kernel
theorem dX9_offer_110 : decode cX9_offer 110 = .ok (.iload_n 2, 1) := by decide +kernel
theorem dX9_offer_111 : decode cX9_offer 111 = .ok (.tableswitch 60 0 4 #[33, 40, 42, 46, 53], 33) := by decide +kernel
theorem dX9_offer_144 : decode cX9_offer 144 = .ok (.aload_n 0, 1) := by decide +kernel
theorem dX9_offer_145 : decode cX9_offer 145 = .ok (.getfield 50, 3) := by decide +kernel
theorem dX9_offer_148 : decode cX9_offer 148 = .ok (.iload_n 1, 1) := by decide +kernel
theorem dX9_offer_149 : decode cX9_offer 149 = .ok (.iaload, 1) := by decide +kernel
theorem dX9_offer_150 : decode cX9_offer 150 = .ok (.ireturn, 1) := by decide +kernel
theorem dX9_offer_151 : decode cX9_offer 151 = .ok (.iload_n 3, 1) := by decide +kernel
theorem dX9_offer_152 : decode cX9_offer 152 = .ok (.ireturn, 1) := by decide +kernel
theorem dX9_offer_153 : decode cX9_offer 153 = .ok (.lload 4, 2) := by decide +kernel
theorem dX9_offer_155 : decode cX9_offer 155 = .ok (.l2i, 1) := by decide +kernel
theorem dX9_offer_156 : decode cX9_offer 156 = .ok (.ireturn, 1) := by decide +kernel
theorem dX9_offer_157 : decode cX9_offer 157 = .ok (.aload_n 0, 1) := by decide +kernel
theorem dX9_offer_158 : decode cX9_offer 158 = .ok (.getfield 56, 3) := by decide +kernel
theorem dX9_offer_161 : decode cX9_offer 161 = .ok (.iload_n 1, 1) := by decide +kernel
theorem dX9_offer_162 : decode cX9_offer 162 = .ok (.iaload, 1) := by decide +kernel
theorem dX9_offer_163 : decode cX9_offer 163 = .ok (.ireturn, 1) := by decide +kernel
theorem dX9_offer_164 : decode cX9_offer 164 = .ok (.aload_n 0, 1) := by decide +kernel
theorem dX9_offer_165 : decode cX9_offer 165 = .ok (.getfield 59, 3) := by decide +kernel
theorem dX9_offer_168 : decode cX9_offer 168 = .ok (.iload_n 1, 1) := by decide +kernel
theorem dX9_offer_169 : decode cX9_offer 169 = .ok (.iaload, 1) := by decide +kernel
theorem dX9_offer_170 : decode cX9_offer 170 = .ok (.ireturn, 1) := by decide +kernel
theorem dX9_offer_171 : decode cX9_offer 171 = .ok (.aload_n 0, 1) := by decide +kernel
theorem dX9_offer_172 : decode cX9_offer 172 = .ok (.iconst 2, 1) := by decide +kernel
theorem dX9_offer_173 : decode cX9_offer 173 = .ok (.putfield 106, 3) := by decide +kernel
theorem dX9_offer_176 : decode cX9_offer 176 = .ok (.iconst 0, 1) := by decide +kernel
theorem dX9_offer_177 : decode cX9_offer 177 = .ok (.ireturn, 1) := by decide +kernel
set_option maxRecDepth 20000 in
theorem ggX9_lay_X9_in : GoodIn wsX9_lay wsX9_in := goodIn_r _ [7] (by decide +kernel) (by decide +kernel)
set_option maxRecDepth 20000 in
theorem gX9_lay_X9_in : GoodIn wsX9_lay (va_wsS RX9 112 yX9_in wsX9_in) := goodIn_app (goodIn_of _ (by decide +kernel)) ggX9_lay_X9_in
set_option maxRecDepth 20000 in
theorem ggX9_lay_X9_throwsIf : GoodIn wsX9_lay wsX9_throwsIf := goodIn_r _ [11, 1, 12, 13, 14, 15, 16, 17, 18, 19, 20, 21, 22, 23, 24, 25, 26, 27, 28, 29, 30, 31, 32, 33, 34, 35, 36, 37, 38, 39, 40, 41, 42, 43, 44, 45, 46, 47, 48, 49, 50, 51, 52, 53] (by decide +kernel) (by decide +kernel)
set_option maxRecDepth 20000 in
theorem gX9_lay_X9_throwsIf : GoodIn wsX9_lay (wsV RX9 119 RX9 yX9_throwsIf wsX9_throwsIf) := goodIn_app (goodIn_of _ (by decide +kernel)) ggX9_lay_X9_throwsIf
theorem dX9_lay_0 : decode cX9_lay 0 = .ok (.aload_n 0, 1) := by decide +kernel
theorem dX9_lay_1 : decode cX9_lay 1 = .ok (.iconst 0, 1) := by decide +kernel
theorem dX9_lay_2 : decode cX9_lay 2 = .ok (.putfield 106, 3) := by decide +kernel
theorem dX9_lay_5 : decode cX9_lay 5 = .ok (.aload_n 0, 1) := by decide +kernel
theorem dX9_lay_6 : decode cX9_lay 6 = .ok (.iload_n 1, 1) := by decide +kernel
theorem dX9_lay_7 : decode cX9_lay 7 = .ok (.iconst 1, 1) := by decide +kernel
theorem dX9_lay_8 : decode cX9_lay 8 = .ok (.bipush 60, 2) := by decide +kernel
theorem dX9_lay_10 : decode cX9_lay 10 = .ok (.invokestatic 112, 3) := by decide +kernel
theorem dX9_lay_13 : decode cX9_lay 13 = .ok (.ifCond .ne 7, 3) := by decide +kernel
theorem dX9_lay_16 : decode cX9_lay 16 = .ok (.iconst 1, 1) := by decide +kernel
theorem dX9_lay_17 : decode cX9_lay 17 = .ok (.goto 4, 3) := by decide +kernel
theorem dX9_lay_20 : decode cX9_lay 20 = .ok (.iconst 0, 1) := by decide +kernel
theorem dX9_lay_21 : decode cX9_lay 21 = .ok (.iconst 1, 1) := by decide +kernel
theorem dX9_lay_22 : decode cX9_lay 22 = .ok (.invokevirtual 119, 3) := by decide +kernel
theorem dX9_lay_25 : decode cX9_lay 25 = .ok (.ifCond .eq 4, 3) := by decide +kernel
theorem dX9_lay_28 : decode cX9_lay 28 = .ok (.return_, 1) := by decide +kernel
theorem dX9_lay_29 : decode cX9_lay 29 = .ok (.aload_n 0, 1) := by decide +kernel
theorem dX9_lay_30 : decode cX9_lay 30 = .ok (.iload_n 1, 1) := by decide +kernel
theorem dX9_lay_31 : decode cX9_lay 31 = .ok (.putfield 73, 3) := by decide +kernel
theorem dX9_lay_34 : decode cX9_lay 34 = .ok (.iconst 0, 1) := by decide +kernel
theorem dX9_lay_35 : decode cX9_lay 35 = .ok (.istore 4, 2) := by decide +kernel
theorem dX9_lay_37 : decode cX9_lay 37 = .ok (.iload 4, 2) := by decide +kernel
theorem dX9_lay_39 : decode cX9_lay 39 = .ok (.bipush 60, 2) := by decide +kernel
theorem dX9_lay_41 : decode cX9_lay 41 = .ok (.if_icmp .ge 57, 3) := by decide +kernel
theorem dX9_lay_44 : decode cX9_lay 44 = .ok (.aload_n 0, 1) := by decide +kernel
theorem dX9_lay_45 : decode cX9_lay 45 = .ok (.getfield 76, 3) := by decide +kernel
theorem dX9_lay_48 : decode cX9_lay 48 = .ok (.iload 4, 2) := by decide +kernel
theorem dX9_lay_50 : decode cX9_lay 50 = .ok (.iload 4, 2) := by decide +kernel
theorem dX9_lay_52 : decode cX9_lay 52 = .ok (.aload_n 0, 1) := by decide +kernel
theorem dX9_lay_53 : decode cX9_lay 53 = .ok (.getfield 73, 3) := by decide +kernel
theorem dX9_lay_56 : decode cX9_lay 56 = .ok (.if_icmp .ge 34, 3) := by decide +kernel
theorem dX9_lay_59 : decode cX9_lay 59 = .ok (.iload 4, 2) := by decide +kernel
theorem dX9_lay_61 : decode cX9_lay 61 = .ok (.bipush 30, 2) := by decide +kernel
theorem dX9_lay_63 : decode cX9_lay 63 = .ok (.if_icmp .ge 10, 3) := by decide +kernel
theorem dX9_lay_66 : decode cX9_lay 66 = .ok (.iload_n 2, 1) := by decide +kernel
theorem dX9_lay_67 : decode cX9_lay 67 = .ok (.iload 4, 2) := by decide +kernel
theorem dX9_lay_69 : decode cX9_lay 69 = .ok (.ishr, 1) := by decide +kernel
theorem dX9_lay_70 : decode cX9_lay 70 = .ok (.goto 10, 3) := by decide +kernel
theorem dX9_lay_73 : decode cX9_lay 73 = .ok (.iload_n 3, 1) := by decide +kernel
theorem dX9_lay_74 : decode cX9_lay 74 = .ok (.iload 4, 2) := by decide +kernel
theorem dX9_lay_76 : decode cX9_lay 76 = .ok (.bipush 30, 2) := by decide +kernel
theorem dX9_lay_78 : decode cX9_lay 78 = .ok (.isub, 1) := by decide +kernel
theorem dX9_lay_79 : decode cX9_lay 79 = .ok (.ishr, 1) := by decide +kernel
theorem dX9_lay_80 : decode cX9_lay 80 = .ok (.iconst 1, 1) := by decide +kernel
theorem dX9_lay_81 : decode cX9_lay 81 = .ok (.iand, 1) := by decide +kernel
theorem dX9_lay_82 : decode cX9_lay 82 = .ok (.iconst 1, 1) := by decide +kernel
theorem dX9_lay_83 : decode cX9_lay 83 = .ok (.if_icmp .ne 7, 3) := by decide +kernel
theorem dX9_lay_86 : decode cX9_lay 86 = .ok (.iconst 1, 1) := by decide +kernel
theorem dX9_lay_87 : decode cX9_lay 87 = .ok (.goto 4, 3) := by decide +kernel
theorem dX9_lay_90 : decode cX9_lay 90 = .ok (.iconst 0, 1) := by decide +kernel
theorem dX9_lay_91 : decode cX9_lay 91 = .ok (.bastore, 1) := by decide +kernel
theorem dX9_lay_92 : decode cX9_lay 92 = .ok (.iinc 4 1, 3) := by decide +kernel
theorem dX9_lay_95 : decode cX9_lay 95 = .ok (.goto (-58), 3) := by decide +kernel
theorem dX9_lay_98 : decode cX9_lay 98 = .ok (.return_, 1) := by decide +kernel
set_option maxRecDepth 20000 in
theorem ggX9_sort_X9_in : GoodIn wsX9_sort wsX9_in := goodIn_r _ [9] (by decide +kernel) (by decide +kernel)
set_option maxRecDepth 20000 in
theorem gX9_sort_X9_in : GoodIn wsX9_sort (va_wsS RX9 112 yX9_in wsX9_in) := goodIn_app (goodIn_of _ (by decide +kernel)) ggX9_sort_X9_in
set_option maxRecDepth 20000 in
theorem ggX9_sort_X9_throwsIf : GoodIn wsX9_sort wsX9_throwsIf := goodIn_r _ [13, 1, 14, 15, 16, 17, 18, 19, 20, 21, 22, 23, 24, 25, 26, 27, 28, 29, 30, 31, 32, 33, 34, 35, 36, 37, 38, 39, 40, 41, 42, 43, 44, 45, 46, 47, 48, 49, 50, 51, 52, 53, 54, 55] (by decide +kernel) (by decide +kernel)
set_option maxRecDepth 20000 in
theorem gX9_sort_X9_throwsIf : GoodIn wsX9_sort (wsV RX9 119 RX9 yX9_throwsIf wsX9_throwsIf) := goodIn_app (goodIn_of _ (by decide +kernel)) ggX9_sort_X9_throwsIf
theorem dX9_sort_0 : decode cX9_sort 0 = .ok (.aload_n 0, 1) := by decide +kernel
theorem dX9_sort_1 : decode cX9_sort 1 = .ok (.iconst 0, 1) := by decide +kernel
theorem dX9_sort_2 : decode cX9_sort 2 = .ok (.putfield 106, 3) := by decide +kernel
theorem dX9_sort_5 : decode cX9_sort 5 = .ok (.aload_n 0, 1) := by decide +kernel
theorem dX9_sort_6 : decode cX9_sort 6 = .ok (.iload_n 1, 1) := by decide +kernel
theorem dX9_sort_7 : decode cX9_sort 7 = .ok (.iconst 1, 1) := by decide +kernel
theorem dX9_sort_8 : decode cX9_sort 8 = .ok (.bipush 12, 2) := by decide +kernel
theorem dX9_sort_10 : decode cX9_sort 10 = .ok (.invokestatic 112, 3) := by decide +kernel
theorem dX9_sort_13 : decode cX9_sort 13 = .ok (.ifCond .eq 24, 3) := by decide +kernel
theorem dX9_sort_16 : decode cX9_sort 16 = .ok (.iload_n 2, 1) := by decide +kernel
theorem dX9_sort_17 : decode cX9_sort 17 = .ok (.iconst 0, 1) := by decide +kernel
theorem dX9_sort_18 : decode cX9_sort 18 = .ok (.sipush 1000, 3) := by decide +kernel
theorem dX9_sort_21 : decode cX9_sort 21 = .ok (.invokestatic 112, 3) := by decide +kernel
theorem dX9_sort_24 : decode cX9_sort 24 = .ok (.ifCond .eq 13, 3) := by decide +kernel
theorem dX9_sort_27 : decode cX9_sort 27 = .ok (.iload_n 3, 1) := by decide +kernel
theorem dX9_sort_28 : decode cX9_sort 28 = .ok (.iconst 0, 1) := by decide +kernel
theorem dX9_sort_29 : decode cX9_sort 29 = .ok (.bipush 12, 2) := by decide +kernel
theorem dX9_sort_31 : decode cX9_sort 31 = .ok (.invokestatic 112, 3) := by decide +kernel
theorem dX9_sort_34 : decode cX9_sort 34 = .ok (.ifCond .ne 7, 3) := by decide +kernel
theorem dX9_sort_37 : decode cX9_sort 37 = .ok (.iconst 1, 1) := by decide +kernel
theorem dX9_sort_38 : decode cX9_sort 38 = .ok (.goto 4, 3) := by decide +kernel
theorem dX9_sort_41 : decode cX9_sort 41 = .ok (.iconst 0, 1) := by decide +kernel
theorem dX9_sort_42 : decode cX9_sort 42 = .ok (.iconst 1, 1) := by decide +kernel
theorem dX9_sort_43 : decode cX9_sort 43 = .ok (.invokevirtual 119, 3) := by decide +kernel
theorem dX9_sort_46 : decode cX9_sort 46 = .ok (.ifCond .eq 5, 3) := by decide +kernel
theorem dX9_sort_49 : decode cX9_sort 49 = .ok (.iconst 0, 1) := by decide +kernel
theorem dX9_sort_50 : decode cX9_sort 50 = .ok (.ireturn, 1) := by decide +kernel
theorem dX9_sort_51 : decode cX9_sort 51 = .ok (.aload_n 0, 1) := by decide +kernel
theorem dX9_sort_52 : decode cX9_sort 52 = .ok (.getfield 213, 3) := by decide +kernel
theorem dX9_sort_55 : decode cX9_sort 55 = .ok (.bipush 6, 2) := by decide +kernel
theorem dX9_sort_57 : decode cX9_sort 57 = .ok (.if_icmp .ne 5, 3) := by decide +kernel
theorem dX9_sort_60 : decode cX9_sort 60 = .ok (.iconst (-1), 1) := by decide +kernel
theorem dX9_sort_61 : decode cX9_sort 61 = .ok (.ireturn, 1) := by decide +kernel
theorem dX9_sort_62 : decode cX9_sort 62 = .ok (.aload_n 0, 1) := by decide +kernel
theorem dX9_sort_63 : decode cX9_sort 63 = .ok (.getfield 79, 3) := by decide +kernel
theorem dX9_sort_66 : decode cX9_sort 66 = .ok (.aload_n 0, 1) := by decide +kernel
theorem dX9_sort_67 : decode cX9_sort 67 = .ok (.getfield 213, 3) := by decide +kernel
theorem dX9_sort_70 : decode cX9_sort 70 = .ok (.iload_n 1, 1) := by decide +kernel
theorem dX9_sort_71 : decode cX9_sort 71 = .ok (.iastore, 1) := by decide +kernel
theorem dX9_sort_72 : decode cX9_sort 72 = .ok (.aload_n 0, 1) := by decide +kernel
theorem dX9_sort_73 : decode cX9_sort 73 = .ok (.getfield 82, 3) := by decide +kernel
theorem dX9_sort_76 : decode cX9_sort 76 = .ok (.aload_n 0, 1) := by decide +kernel
theorem dX9_sort_77 : decode cX9_sort 77 = .ok (.getfield 213, 3) := by decide +kernel
theorem dX9_sort_80 : decode cX9_sort 80 = .ok (.iload_n 2, 1) := by decide +kernel
theorem dX9_sort_81 : decode cX9_sort 81 = .ok (.iastore, 1) := by decide +kernel
theorem dX9_sort_82 : decode cX9_sort 82 = .ok (.aload_n 0, 1) := by decide +kernel
theorem dX9_sort_83 : decode cX9_sort 83 = .ok (.getfield 85, 3) := by decide +kernel
theorem dX9_sort_86 : decode cX9_sort 86 = .ok (.aload_n 0, 1) := by decide +kernel
theorem dX9_sort_87 : decode cX9_sort 87 = .ok (.getfield 213, 3) := by decide +kernel
theorem dX9_sort_90 : decode cX9_sort 90 = .ok (.iload_n 3, 1) := by decide +kernel
theorem dX9_sort_91 : decode cX9_sort 91 = .ok (.iastore, 1) := by decide +kernel
theorem dX9_sort_92 : decode cX9_sort 92 = .ok (.aload_n 0, 1) := by decide +kernel
theorem dX9_sort_93 : decode cX9_sort 93 = .ok (.dup, 1) := by decide +kernel
theorem dX9_sort_94 : decode cX9_sort 94 = .ok (.getfield 213, 3) := by decide +kernel
theorem dX9_sort_97 : decode cX9_sort 97 = .ok (.iconst 1, 1) := by decide +kernel
theorem dX9_sort_98 : decode cX9_sort 98 = .ok (.iadd, 1) := by decide +kernel
theorem dX9_sort_99 : decode cX9_sort 99 = .ok (.putfield 213, 3) := by decide +kernel
theorem dX9_sort_102 : decode cX9_sort 102 = .ok (.aload_n 0, 1) := by decide +kernel
theorem dX9_sort_103 : decode cX9_sort 103 = .ok (.getfield 213, 3) := by decide +kernel
theorem dX9_sort_106 : decode cX9_sort 106 = .ok (.iconst 1, 1) := by decide +kernel
theorem dX9_sort_107 : decode cX9_sort 107 = .ok (.isub, 1) := by decide +kernel
theorem dX9_sort_108 : decode cX9_sort 108 = .ok (.ireturn, 1) := by decide +kernel
theorem dX9_unsort_0 : decode cX9_unsort 0 = .ok (.aload_n 0, 1) := by decide +kernel
theorem dX9_unsort_1 : decode cX9_unsort 1 = .ok (.iconst 0, 1) := by decide +kernel
theorem dX9_unsort_2 : decode cX9_unsort 2 = .ok (.putfield 106, 3) := by decide +kernel
theorem dX9_unsort_5 : decode cX9_unsort 5 = .ok (.aload_n 0, 1) := by decide +kernel
theorem dX9_unsort_6 : decode cX9_unsort 6 = .ok (.getfield 213, 3) := by decide +kernel
theorem dX9_unsort_9 : decode cX9_unsort 9 = .ok (.istore_n 1, 1) := by decide +kernel
theorem dX9_unsort_10 : decode cX9_unsort 10 = .ok (.aload_n 0, 1) := by decide +kernel
theorem dX9_unsort_11 : decode cX9_unsort 11 = .ok (.iconst 0, 1) := by decide +kernel
theorem dX9_unsort_12 : decode cX9_unsort 12 = .ok (.putfield 213, 3) := by decide +kernel
theorem dX9_unsort_15 : decode cX9_unsort 15 = .ok (.iload_n 1, 1) := by decide +kernel
theorem dX9_unsort_16 : decode cX9_unsort 16 = .ok (.ireturn, 1) := by decide +kernel
theorem dX9_fits_0 : decode cX9_fits 0 = .ok (.iload_n 2, 1) := by decide +kernel
theorem dX9_fits_1 : decode cX9_fits 1 = .ok (.aload_n 0, 1) := by decide +kernel
theorem dX9_fits_2 : decode cX9_fits 2 = .ok (.getfield 79, 3) := by decide +kernel
theorem dX9_fits_5 : decode cX9_fits 5 = .ok (.iload_n 1, 1) := by decide +kernel
theorem dX9_fits_6 : decode cX9_fits 6 = .ok (.iaload, 1) := by decide +kernel
theorem dX9_fits_7 : decode cX9_fits 7 = .ok (.iadd, 1) := by decide +kernel
theorem dX9_fits_8 : decode cX9_fits 8 = .ok (.aload_n 0, 1) := by decide +kernel
theorem dX9_fits_9 : decode cX9_fits 9 = .ok (.getfield 73, 3) := by decide +kernel
theorem dX9_fits_12 : decode cX9_fits 12 = .ok (.if_icmp .le 5, 3) := by decide +kernel
theorem dX9_fits_15 : decode cX9_fits 15 = .ok (.iconst 0, 1) := by decide +kernel
theorem dX9_fits_16 : decode cX9_fits 16 = .ok (.ireturn, 1) := by decide +kernel
theorem dX9_fits_17 : decode cX9_fits 17 = .ok (.iconst 0, 1) := by decide +kernel
theorem dX9_fits_18 : decode cX9_fits 18 = .ok (.istore_n 3, 1) := by decide +kernel
theorem dX9_fits_19 : decode cX9_fits 19 = .ok (.iload_n 2, 1) := by decide +kernel
theorem dX9_fits_20 : decode cX9_fits 20 = .ok (.istore 4, 2) := by decide +kernel
theorem dX9_fits_22 : decode cX9_fits 22 = .ok (.iload 4, 2) := by decide +kernel
theorem dX9_fits_24 : decode cX9_fits 24 = .ok (.iload_n 2, 1) := by decide +kernel
theorem dX9_fits_25 : decode cX9_fits 25 = .ok (.aload_n 0, 1) := by decide +kernel
theorem dX9_fits_26 : decode cX9_fits 26 = .ok (.getfield 79, 3) := by decide +kernel
theorem dX9_fits_29 : decode cX9_fits 29 = .ok (.iload_n 1, 1) := by decide +kernel
theorem dX9_fits_30 : decode cX9_fits 30 = .ok (.iaload, 1) := by decide +kernel
theorem dX9_fits_31 : decode cX9_fits 31 = .ok (.iadd, 1) := by decide +kernel
theorem dX9_fits_32 : decode cX9_fits 32 = .ok (.if_icmp .ge 27, 3) := by decide +kernel
theorem dX9_fits_35 : decode cX9_fits 35 = .ok (.iload_n 3, 1) := by decide +kernel
theorem dX9_fits_36 : decode cX9_fits 36 = .ok (.aload_n 0, 1) := by decide +kernel
theorem dX9_fits_37 : decode cX9_fits 37 = .ok (.getfield 76, 3) := by decide +kernel
theorem dX9_fits_40 : decode cX9_fits 40 = .ok (.iload 4, 2) := by decide +kernel
theorem dX9_fits_42 : decode cX9_fits 42 = .ok (.baload, 1) := by decide +kernel
theorem dX9_fits_43 : decode cX9_fits 43 = .ok (.ifCond .eq 7, 3) := by decide +kernel
theorem dX9_fits_46 : decode cX9_fits 46 = .ok (.iconst 1, 1) := by decide +kernel
theorem dX9_fits_47 : decode cX9_fits 47 = .ok (.goto 4, 3) := by decide +kernel
theorem dX9_fits_50 : decode cX9_fits 50 = .ok (.iconst 0, 1) := by decide +kernel
theorem dX9_fits_51 : decode cX9_fits 51 = .ok (.iadd, 1) := by decide +kernel
theorem dX9_fits_52 : decode cX9_fits 52 = .ok (.istore_n 3, 1) := by decide +kernel
theorem dX9_fits_53 : decode cX9_fits 53 = .ok (.iinc 4 1, 3) := by decide +kernel
theorem dX9_fits_56 : decode cX9_fits 56 = .ok (.goto (-34), 3) := by decide +kernel
theorem dX9_fits_59 : decode cX9_fits 59 = .ok (.iload_n 3, 1) := by decide +kernel
theorem dX9_fits_60 : decode cX9_fits 60 = .ok (.aload_n 0, 1) := by decide +kernel
theorem dX9_fits_61 : decode cX9_fits 61 = .ok (.getfield 85, 3) := by decide +kernel
theorem dX9_fits_64 : decode cX9_fits 64 = .ok (.iload_n 1, 1) := by decide +kernel
theorem dX9_fits_65 : decode cX9_fits 65 = .ok (.iaload, 1) := by decide +kernel
theorem dX9_fits_66 : decode cX9_fits 66 = .ok (.if_icmp .gt 7, 3) := by decide +kernel
theorem dX9_fits_69 : decode cX9_fits 69 = .ok (.iconst 1, 1) := by decide +kernel
theorem dX9_fits_70 : decode cX9_fits 70 = .ok (.goto 4, 3) := by decide +kernel
theorem dX9_fits_73 : decode cX9_fits 73 = .ok (.iconst 0, 1) := by decide +kernel
theorem dX9_fits_74 : decode cX9_fits 74 = .ok (.ireturn, 1) := by decide +kernel
set_option maxRecDepth 20000 in
theorem ggX9_punch_X9_fits : GoodIn wsX9_punch wsX9_fits := goodIn_r _ [12, 7, 3, 13, 14, 15, 16, 17, 18, 19, 20, 21, 22, 23, 24, 25, 26, 27, 28, 29, 30, 31, 32, 33, 34, 35, 36, 37, 38, 39, 40, 41, 42, 43, 44, 45, 46, 47, 48, 49, 50, 51, 52, 53, 54, 55, 56] (by decide +kernel) (by decide +kernel)
set_option maxRecDepth 20000 in
theorem gX9_punch_X9_fits : GoodIn wsX9_punch (wsV RX9 216 RX9 yX9_fits wsX9_fits) := goodIn_app (goodIn_of _ (by decide +kernel)) ggX9_punch_X9_fits
theorem dX9_punch_0 : decode cX9_punch 0 = .ok (.aload_n 0, 1) := by decide +kernel
theorem dX9_punch_1 : decode cX9_punch 1 = .ok (.iconst 0, 1) := by decide +kernel
theorem dX9_punch_2 : decode cX9_punch 2 = .ok (.putfield 106, 3) := by decide +kernel
theorem dX9_punch_5 : decode cX9_punch 5 = .ok (.aload_n 0, 1) := by decide +kernel
theorem dX9_punch_6 : decode cX9_punch 6 = .ok (.getfield 88, 3) := by decide +kernel
theorem dX9_punch_9 : decode cX9_punch 9 = .ok (.aload_n 0, 1) := by decide +kernel
theorem dX9_punch_10 : decode cX9_punch 10 = .ok (.getfield 73, 3) := by decide +kernel
theorem dX9_punch_13 : decode cX9_punch 13 = .ok (.iconst 0, 1) := by decide +kernel
theorem dX9_punch_14 : decode cX9_punch 14 = .ok (.iastore, 1) := by decide +kernel
theorem dX9_punch_15 : decode cX9_punch 15 = .ok (.aload_n 0, 1) := by decide +kernel
theorem dX9_punch_16 : decode cX9_punch 16 = .ok (.getfield 91, 3) := by decide +kernel
theorem dX9_punch_19 : decode cX9_punch 19 = .ok (.aload_n 0, 1) := by decide +kernel
theorem dX9_punch_20 : decode cX9_punch 20 = .ok (.getfield 73, 3) := by decide +kernel
theorem dX9_punch_23 : decode cX9_punch 23 = .ok (.iconst 0, 1) := by decide +kernel
theorem dX9_punch_24 : decode cX9_punch 24 = .ok (.iastore, 1) := by decide +kernel
theorem dX9_punch_25 : decode cX9_punch 25 = .ok (.aload_n 0, 1) := by decide +kernel
theorem dX9_punch_26 : decode cX9_punch 26 = .ok (.getfield 73, 3) := by decide +kernel
theorem dX9_punch_29 : decode cX9_punch 29 = .ok (.iconst 1, 1) := by decide +kernel
theorem dX9_punch_30 : decode cX9_punch 30 = .ok (.isub, 1) := by decide +kernel
theorem dX9_punch_31 : decode cX9_punch 31 = .ok (.istore_n 2, 1) := by decide +kernel
theorem dX9_punch_32 : decode cX9_punch 32 = .ok (.iload_n 2, 1) := by decide +kernel
theorem dX9_punch_33 : decode cX9_punch 33 = .ok (.ifCond .lt 156, 3) := by decide +kernel
theorem dX9_punch_36 : decode cX9_punch 36 = .ok (.aload_n 0, 1) := by decide +kernel
theorem dX9_punch_37 : decode cX9_punch 37 = .ok (.getfield 88, 3) := by decide +kernel
theorem dX9_punch_40 : decode cX9_punch 40 = .ok (.iload_n 2, 1) := by decide +kernel
theorem dX9_punch_41 : decode cX9_punch 41 = .ok (.aload_n 0, 1) := by decide +kernel
theorem dX9_punch_42 : decode cX9_punch 42 = .ok (.getfield 88, 3) := by decide +kernel
theorem dX9_punch_45 : decode cX9_punch 45 = .ok (.iload_n 2, 1) := by decide +kernel
theorem dX9_punch_46 : decode cX9_punch 46 = .ok (.iconst 1, 1) := by decide +kernel
theorem dX9_punch_47 : decode cX9_punch 47 = .ok (.iadd, 1) := by decide +kernel
theorem dX9_punch_48 : decode cX9_punch 48 = .ok (.iaload, 1) := by decide +kernel
theorem dX9_punch_49 : decode cX9_punch 49 = .ok (.iastore, 1) := by decide +kernel
theorem dX9_punch_50 : decode cX9_punch 50 = .ok (.aload_n 0, 1) := by decide +kernel
theorem dX9_punch_51 : decode cX9_punch 51 = .ok (.getfield 91, 3) := by decide +kernel
theorem dX9_punch_54 : decode cX9_punch 54 = .ok (.iload_n 2, 1) := by decide +kernel
theorem dX9_punch_55 : decode cX9_punch 55 = .ok (.aload_n 0, 1) := by decide +kernel
theorem dX9_punch_56 : decode cX9_punch 56 = .ok (.getfield 91, 3) := by decide +kernel
theorem dX9_punch_59 : decode cX9_punch 59 = .ok (.iload_n 2, 1) := by decide +kernel
theorem dX9_punch_60 : decode cX9_punch 60 = .ok (.iconst 1, 1) := by decide +kernel
theorem dX9_punch_61 : decode cX9_punch 61 = .ok (.iadd, 1) := by decide +kernel
theorem dX9_punch_62 : decode cX9_punch 62 = .ok (.iaload, 1) := by decide +kernel
theorem dX9_punch_63 : decode cX9_punch 63 = .ok (.iastore, 1) := by decide +kernel
theorem dX9_punch_64 : decode cX9_punch 64 = .ok (.iconst 0, 1) := by decide +kernel
theorem dX9_punch_65 : decode cX9_punch 65 = .ok (.istore_n 3, 1) := by decide +kernel
theorem dX9_punch_66 : decode cX9_punch 66 = .ok (.iload_n 3, 1) := by decide +kernel
theorem dX9_punch_67 : decode cX9_punch 67 = .ok (.aload_n 0, 1) := by decide +kernel
theorem dX9_punch_68 : decode cX9_punch 68 = .ok (.getfield 213, 3) := by decide +kernel
theorem dX9_punch_71 : decode cX9_punch 71 = .ok (.if_icmp .ge 112, 3) := by decide +kernel
theorem dX9_punch_74 : decode cX9_punch 74 = .ok (.aload_n 0, 1) := by decide +kernel
theorem dX9_punch_75 : decode cX9_punch 75 = .ok (.iload_n 3, 1) := by decide +kernel
theorem dX9_punch_76 : decode cX9_punch 76 = .ok (.iload_n 2, 1) := by decide +kernel
theorem dX9_punch_77 : decode cX9_punch 77 = .ok (.invokevirtual 216, 3) := by decide +kernel
theorem dX9_punch_80 : decode cX9_punch 80 = .ok (.ifCond .ne 6, 3) := by decide +kernel
theorem dX9_punch_83 : decode cX9_punch 83 = .ok (.goto 94, 3) := by decide +kernel
theorem dX9_punch_86 : decode cX9_punch 86 = .ok (.aload_n 0, 1) := by decide +kernel
theorem dX9_punch_87 : decode cX9_punch 87 = .ok (.getfield 82, 3) := by decide +kernel
theorem dX9_punch_90 : decode cX9_punch 90 = .ok (.iload_n 3, 1) := by decide +kernel
theorem dX9_punch_91 : decode cX9_punch 91 = .ok (.iaload, 1) := by decide +kernel
theorem dX9_punch_92 : decode cX9_punch 92 = .ok (.aload_n 0, 1) := by decide +kernel
theorem dX9_punch_93 : decode cX9_punch 93 = .ok (.getfield 88, 3) := by decide +kernel
theorem dX9_punch_96 : decode cX9_punch 96 = .ok (.iload_n 2, 1) := by decide +kernel
theorem dX9_punch_97 : decode cX9_punch 97 = .ok (.aload_n 0, 1) := by decide +kernel
theorem dX9_punch_98 : decode cX9_punch 98 = .ok (.getfield 79, 3) := by decide +kernel
theorem dX9_punch_101 : decode cX9_punch 101 = .ok (.iload_n 3, 1) := by decide +kernel
theorem dX9_punch_102 : decode cX9_punch 102 = .ok (.iaload, 1) := by decide +kernel
theorem dX9_punch_103 : decode cX9_punch 103 = .ok (.iadd, 1) := by decide +kernel
theorem dX9_punch_104 : decode cX9_punch 104 = .ok (.iaload, 1) := by decide +kernel
theorem dX9_punch_105 : decode cX9_punch 105 = .ok (.iadd, 1) := by decide +kernel
theorem dX9_punch_106 : decode cX9_punch 106 = .ok (.istore 4, 2) := by decide +kernel
theorem dX9_punch_108 : decode cX9_punch 108 = .ok (.iconst 1, 1) := by decide +kernel
theorem dX9_punch_109 : decode cX9_punch 109 = .ok (.aload_n 0, 1) := by decide +kernel
theorem dX9_punch_110 : decode cX9_punch 110 = .ok (.getfield 91, 3) := by decide +kernel
theorem dX9_punch_113 : decode cX9_punch 113 = .ok (.iload_n 2, 1) := by decide +kernel
theorem dX9_punch_114 : decode cX9_punch 114 = .ok (.aload_n 0, 1) := by decide +kernel
theorem dX9_punch_115 : decode cX9_punch 115 = .ok (.getfield 79, 3) := by decide +kernel
theorem dX9_punch_118 : decode cX9_punch 118 = .ok (.iload_n 3, 1) := by decide +kernel
theorem dX9_punch_119 : decode cX9_punch 119 = .ok (.iaload, 1) := by decide +kernel
theorem dX9_punch_120 : decode cX9_punch 120 = .ok (.iadd, 1) := by decide +kernel
theorem dX9_punch_121 : decode cX9_punch 121 = .ok (.iaload, 1) := by decide +kernel
theorem dX9_punch_122 : decode cX9_punch 122 = .ok (.iadd, 1) := by decide +kernel
theorem dX9_punch_123 : decode cX9_punch 123 = .ok (.istore 5, 2) := by decide +kernel
theorem dX9_punch_125 : decode cX9_punch 125 = .ok (.iload 4, 2) := by decide +kernel
theorem dX9_punch_127 : decode cX9_punch 127 = .ok (.aload_n 0, 1) := by decide +kernel
theorem dX9_punch_128 : decode cX9_punch 128 = .ok (.getfield 88, 3) := by decide +kernel
theorem dX9_punch_131 : decode cX9_punch 131 = .ok (.iload_n 2, 1) := by decide +kernel
theorem dX9_punch_132 : decode cX9_punch 132 = .ok (.iaload, 1) := by decide +kernel
theorem dX9_punch_133 : decode cX9_punch 133 = .ok (.if_icmp .lt 44, 3) := by decide +kernel
theorem dX9_punch_136 : decode cX9_punch 136 = .ok (.iload 4, 2) := by decide +kernel
theorem dX9_punch_138 : decode cX9_punch 138 = .ok (.aload_n 0, 1) := by decide +kernel
theorem dX9_punch_139 : decode cX9_punch 139 = .ok (.getfield 88, 3) := by decide +kernel
theorem dX9_punch_142 : decode cX9_punch 142 = .ok (.iload_n 2, 1) := by decide +kernel
theorem dX9_punch_143 : decode cX9_punch 143 = .ok (.iaload, 1) := by decide +kernel
theorem dX9_punch_144 : decode cX9_punch 144 = .ok (.if_icmp .ne 17, 3) := by decide +kernel
theorem dX9_punch_147 : decode cX9_punch 147 = .ok (.iload 5, 2) := by decide +kernel
theorem dX9_punch_149 : decode cX9_punch 149 = .ok (.aload_n 0, 1) := by decide +kernel
theorem dX9_punch_150 : decode cX9_punch 150 = .ok (.getfield 91, 3) := by decide +kernel
theorem dX9_punch_153 : decode cX9_punch 153 = .ok (.iload_n 2, 1) := by decide +kernel
theorem dX9_punch_154 : decode cX9_punch 154 = .ok (.iaload, 1) := by decide +kernel
theorem dX9_punch_155 : decode cX9_punch 155 = .ok (.if_icmp .lt 6, 3) := by decide +kernel
theorem dX9_punch_158 : decode cX9_punch 158 = .ok (.goto 19, 3) := by decide +kernel
theorem dX9_punch_161 : decode cX9_punch 161 = .ok (.aload_n 0, 1) := by decide +kernel
theorem dX9_punch_162 : decode cX9_punch 162 = .ok (.getfield 88, 3) := by decide +kernel
theorem dX9_punch_165 : decode cX9_punch 165 = .ok (.iload_n 2, 1) := by decide +kernel
theorem dX9_punch_166 : decode cX9_punch 166 = .ok (.iload 4, 2) := by decide +kernel
theorem dX9_punch_168 : decode cX9_punch 168 = .ok (.iastore, 1) := by decide +kernel
theorem dX9_punch_169 : decode cX9_punch 169 = .ok (.aload_n 0, 1) := by decide +kernel
theorem dX9_punch_170 : decode cX9_punch 170 = .ok (.getfield 91, 3) := by decide +kernel
theorem dX9_punch_173 : decode cX9_punch 173 = .ok (.iload_n 2, 1) := by decide +kernel
theorem dX9_punch_174 : decode cX9_punch 174 = .ok (.iload 5, 2) := by decide +kernel
theorem dX9_punch_176 : decode cX9_punch 176 = .ok (.iastore, 1) := by decide +kernel
theorem dX9_punch_177 : decode cX9_punch 177 = .ok (.iinc 3 1, 3) := by decide +kernel
theorem dX9_punch_180 : decode cX9_punch 180 = .ok (.goto (-114), 3) := by decide +kernel
theorem dX9_punch_183 : decode cX9_punch 183 = .ok (.iinc 2 (-1), 3) := by decide +kernel
theorem dX9_punch_186 : decode cX9_punch 186 = .ok (.goto (-154), 3) := by decide +kernel
theorem dX9_punch_189 : decode cX9_punch 189 = .ok (.iload_n 1, 1) := by decide +kernel
theorem dX9_punch_190 : decode cX9_punch 190 = .ok (.ifCond .eq 12, 3) := by decide +kernel
theorem dX9_punch_193 : decode cX9_punch 193 = .ok (.aload_n 0, 1) := by decide +kernel
theorem dX9_punch_194 : decode cX9_punch 194 = .ok (.getfield 91, 3) := by decide +kernel
theorem dX9_punch_197 : decode cX9_punch 197 = .ok (.iconst 0, 1) := by decide +kernel
theorem dX9_punch_198 : decode cX9_punch 198 = .ok (.iaload, 1) := by decide +kernel
theorem dX9_punch_199 : decode cX9_punch 199 = .ok (.goto 9, 3) := by decide +kernel
theorem dX9_punch_202 : decode cX9_punch 202 = .ok (.aload_n 0, 1) := by decide +kernel
theorem dX9_punch_203 : decode cX9_punch 203 = .ok (.getfield 88, 3) := by decide +kernel
theorem dX9_punch_206 : decode cX9_punch 206 = .ok (.iconst 0, 1) := by decide +kernel
theorem dX9_punch_207 : decode cX9_punch 207 = .ok (.iaload, 1) := by decide +kernel
theorem dX9_punch_208 : decode cX9_punch 208 = .ok (.ireturn, 1) := by decide +kernel
set_option maxRecDepth 20000 in
theorem ggX9_stand_X9_in : GoodIn wsX9_stand wsX9_in := goodIn_r _ [9] (by decide +kernel) (by decide +kernel)
set_option maxRecDepth 20000 in
theorem gX9_stand_X9_in : GoodIn wsX9_stand (va_wsS RX9 112 yX9_in wsX9_in) := goodIn_app (goodIn_of _ (by decide +kernel)) ggX9_stand_X9_in
set_option maxRecDepth 20000 in
theorem ggX9_stand_X9_throwsIf : GoodIn wsX9_stand wsX9_throwsIf := goodIn_r _ [13, 1, 14, 15, 16, 17, 18, 19, 20, 21, 22, 23, 24, 25, 26, 27, 28, 29, 30, 31, 32, 33, 34, 35, 36, 37, 38, 39, 40, 41, 42, 43, 44, 45, 46, 47, 48, 49, 50, 51, 52, 53, 54, 55] (by decide +kernel) (by decide +kernel)
set_option maxRecDepth 20000 in
theorem gX9_stand_X9_throwsIf : GoodIn wsX9_stand (wsV RX9 119 RX9 yX9_throwsIf wsX9_throwsIf) := goodIn_app (goodIn_of _ (by decide +kernel)) ggX9_stand_X9_throwsIf
theorem dX9_stand_0 : decode cX9_stand 0 = .ok (.aload_n 0, 1) := by decide +kernel
theorem dX9_stand_1 : decode cX9_stand 1 = .ok (.iconst 0, 1) := by decide +kernel
theorem dX9_stand_2 : decode cX9_stand 2 = .ok (.putfield 106, 3) := by decide +kernel
theorem dX9_stand_5 : decode cX9_stand 5 = .ok (.aload_n 0, 1) := by decide +kernel
theorem dX9_stand_6 : decode cX9_stand 6 = .ok (.iload_n 1, 1) := by decide +kernel
theorem dX9_stand_7 : decode cX9_stand 7 = .ok (.iconst 0, 1) := by decide +kernel
theorem dX9_stand_8 : decode cX9_stand 8 = .ok (.ldc 207, 2) := by decide +kernel
theorem dX9_stand_10 : decode cX9_stand 10 = .ok (.invokestatic 112, 3) := by decide +kernel
theorem dX9_stand_13 : decode cX9_stand 13 = .ok (.ifCond .eq 14, 3) := by decide +kernel
theorem dX9_stand_16 : decode cX9_stand 16 = .ok (.iload_n 2, 1) := by decide +kernel
theorem dX9_stand_17 : decode cX9_stand 17 = .ok (.iconst 1, 1) := by decide +kernel
theorem dX9_stand_18 : decode cX9_stand 18 = .ok (.sipush 511, 3) := by decide +kernel
theorem dX9_stand_21 : decode cX9_stand 21 = .ok (.invokestatic 112, 3) := by decide +kernel
theorem dX9_stand_24 : decode cX9_stand 24 = .ok (.ifCond .ne 7, 3) := by decide +kernel
theorem dX9_stand_27 : decode cX9_stand 27 = .ok (.iconst 1, 1) := by decide +kernel
theorem dX9_stand_28 : decode cX9_stand 28 = .ok (.goto 4, 3) := by decide +kernel
theorem dX9_stand_31 : decode cX9_stand 31 = .ok (.iconst 0, 1) := by decide +kernel
theorem dX9_stand_32 : decode cX9_stand 32 = .ok (.iconst 1, 1) := by decide +kernel
theorem dX9_stand_33 : decode cX9_stand 33 = .ok (.invokevirtual 119, 3) := by decide +kernel
theorem dX9_stand_36 : decode cX9_stand 36 = .ok (.ifCond .eq 5, 3) := by decide +kernel
theorem dX9_stand_39 : decode cX9_stand 39 = .ok (.iconst 0, 1) := by decide +kernel
theorem dX9_stand_40 : decode cX9_stand 40 = .ok (.ireturn, 1) := by decide +kernel
theorem dX9_stand_41 : decode cX9_stand 41 = .ok (.aload_n 0, 1) := by decide +kernel
theorem dX9_stand_42 : decode cX9_stand 42 = .ok (.getfield 219, 3) := by decide +kernel
theorem dX9_stand_45 : decode cX9_stand 45 = .ok (.bipush 6, 2) := by decide +kernel
theorem dX9_stand_47 : decode cX9_stand 47 = .ok (.if_icmp .ne 5, 3) := by decide +kernel
theorem dX9_stand_50 : decode cX9_stand 50 = .ok (.iconst (-1), 1) := by decide +kernel
theorem dX9_stand_51 : decode cX9_stand 51 = .ok (.ireturn, 1) := by decide +kernel
theorem dX9_stand_52 : decode cX9_stand 52 = .ok (.aload_n 0, 1) := by decide +kernel
theorem dX9_stand_53 : decode cX9_stand 53 = .ok (.getfield 94, 3) := by decide +kernel
theorem dX9_stand_56 : decode cX9_stand 56 = .ok (.aload_n 0, 1) := by decide +kernel
theorem dX9_stand_57 : decode cX9_stand 57 = .ok (.getfield 219, 3) := by decide +kernel
theorem dX9_stand_60 : decode cX9_stand 60 = .ok (.iload_n 1, 1) := by decide +kernel
theorem dX9_stand_61 : decode cX9_stand 61 = .ok (.iastore, 1) := by decide +kernel
theorem dX9_stand_62 : decode cX9_stand 62 = .ok (.aload_n 0, 1) := by decide +kernel
theorem dX9_stand_63 : decode cX9_stand 63 = .ok (.getfield 97, 3) := by decide +kernel
theorem dX9_stand_66 : decode cX9_stand 66 = .ok (.aload_n 0, 1) := by decide +kernel
theorem dX9_stand_67 : decode cX9_stand 67 = .ok (.getfield 219, 3) := by decide +kernel
theorem dX9_stand_70 : decode cX9_stand 70 = .ok (.iload_n 2, 1) := by decide +kernel
theorem dX9_stand_71 : decode cX9_stand 71 = .ok (.iastore, 1) := by decide +kernel
theorem dX9_stand_72 : decode cX9_stand 72 = .ok (.aload_n 0, 1) := by decide +kernel
theorem dX9_stand_73 : decode cX9_stand 73 = .ok (.dup, 1) := by decide +kernel
theorem dX9_stand_74 : decode cX9_stand 74 = .ok (.getfield 219, 3) := by decide +kernel
theorem dX9_stand_77 : decode cX9_stand 77 = .ok (.iconst 1, 1) := by decide +kernel
theorem dX9_stand_78 : decode cX9_stand 78 = .ok (.iadd, 1) := by decide +kernel
theorem dX9_stand_79 : decode cX9_stand 79 = .ok (.putfield 219, 3) := by decide +kernel
theorem dX9_stand_82 : decode cX9_stand 82 = .ok (.aload_n 0, 1) := by decide +kernel
theorem dX9_stand_83 : decode cX9_stand 83 = .ok (.getfield 219, 3) := by decide +kernel
theorem dX9_stand_86 : decode cX9_stand 86 = .ok (.iconst 1, 1) := by decide +kernel
theorem dX9_stand_87 : decode cX9_stand 87 = .ok (.isub, 1) := by decide +kernel
theorem dX9_stand_88 : decode cX9_stand 88 = .ok (.ireturn, 1) := by decide +kernel
set_option maxRecDepth 20000 in
theorem ggX9_lays_X9_lays : GoodIn wsX9_lays wsX9_lays := goodIn_r _ [0, 1, 2, 3, 4, 5, 6, 7, 8, 9, 10, 11, 12, 13, 14, 15, 16, 17, 18, 19, 20, 21, 22, 23, 24, 25, 26, 27, 28, 29, 30, 31, 32, 33, 34, 35, 36, 37, 38, 39, 40, 41, 42, 43, 44, 45, 46, 47, 48, 49, 50, 51] (by decide +kernel) (by decide +kernel)
set_option maxRecDepth 20000 in
theorem gX9_lays_X9_lays : GoodIn wsX9_lays (wsV RX9 222 RX9 yX9_lays wsX9_lays) := goodIn_app (goodIn_of _ (by decide +kernel)) ggX9_lays_X9_lays
theorem dX9_lays_0 : decode cX9_lays 0 = .ok (.iload_n 1, 1) := by decide +kernel
theorem dX9_lays_1 : decode cX9_lays 1 = .ok (.aload_n 0, 1) := by decide +kernel
theorem dX9_lays_2 : decode cX9_lays 2 = .ok (.getfield 219, 3) := by decide +kernel
theorem dX9_lays_5 : decode cX9_lays 5 = .ok (.if_icmp .ne 5, 3) := by decide +kernel
theorem dX9_lays_8 : decode cX9_lays 8 = .ok (.iconst 1, 1) := by decide +kernel
theorem dX9_lays_9 : decode cX9_lays 9 = .ok (.ireturn, 1) := by decide +kernel
theorem dX9_lays_10 : decode cX9_lays 10 = .ok (.iconst 0, 1) := by decide +kernel
theorem dX9_lays_11 : decode cX9_lays 11 = .ok (.istore_n 3, 1) := by decide +kernel
theorem dX9_lays_12 : decode cX9_lays 12 = .ok (.iload_n 3, 1) := by decide +kernel
theorem dX9_lays_13 : decode cX9_lays 13 = .ok (.bipush 9, 2) := by decide +kernel
theorem dX9_lays_15 : decode cX9_lays 15 = .ok (.if_icmp .ge 96, 3) := by decide +kernel
theorem dX9_lays_18 : decode cX9_lays 18 = .ok (.aload_n 0, 1) := by decide +kernel
theorem dX9_lays_19 : decode cX9_lays 19 = .ok (.getfield 97, 3) := by decide +kernel
theorem dX9_lays_22 : decode cX9_lays 22 = .ok (.iload_n 1, 1) := by decide +kernel
theorem dX9_lays_23 : decode cX9_lays 23 = .ok (.iaload, 1) := by decide +kernel
theorem dX9_lays_24 : decode cX9_lays 24 = .ok (.iload_n 3, 1) := by decide +kernel
theorem dX9_lays_25 : decode cX9_lays 25 = .ok (.ishr, 1) := by decide +kernel
theorem dX9_lays_26 : decode cX9_lays 26 = .ok (.iconst 1, 1) := by decide +kernel
theorem dX9_lays_27 : decode cX9_lays 27 = .ok (.iand, 1) := by decide +kernel
theorem dX9_lays_28 : decode cX9_lays 28 = .ok (.ifCond .eq 77, 3) := by decide +kernel
theorem dX9_lays_31 : decode cX9_lays 31 = .ok (.aload_n 0, 1) := by decide +kernel
theorem dX9_lays_32 : decode cX9_lays 32 = .ok (.getfield 100, 3) := by decide +kernel
theorem dX9_lays_35 : decode cX9_lays 35 = .ok (.iload_n 3, 1) := by decide +kernel
theorem dX9_lays_36 : decode cX9_lays 36 = .ok (.iaload, 1) := by decide +kernel
theorem dX9_lays_37 : decode cX9_lays 37 = .ok (.aload_n 0, 1) := by decide +kernel
theorem dX9_lays_38 : decode cX9_lays 38 = .ok (.getfield 94, 3) := by decide +kernel
theorem dX9_lays_41 : decode cX9_lays 41 = .ok (.iload_n 1, 1) := by decide +kernel
theorem dX9_lays_42 : decode cX9_lays 42 = .ok (.iaload, 1) := by decide +kernel
theorem dX9_lays_43 : decode cX9_lays 43 = .ok (.iadd, 1) := by decide +kernel
theorem dX9_lays_44 : decode cX9_lays 44 = .ok (.iload_n 2, 1) := by decide +kernel
theorem dX9_lays_45 : decode cX9_lays 45 = .ok (.if_icmp .le 6, 3) := by decide +kernel
theorem dX9_lays_48 : decode cX9_lays 48 = .ok (.goto 57, 3) := by decide +kernel
theorem dX9_lays_51 : decode cX9_lays 51 = .ok (.aload_n 0, 1) := by decide +kernel
theorem dX9_lays_52 : decode cX9_lays 52 = .ok (.getfield 100, 3) := by decide +kernel
theorem dX9_lays_55 : decode cX9_lays 55 = .ok (.iload_n 3, 1) := by decide +kernel
theorem dX9_lays_56 : decode cX9_lays 56 = .ok (.dup2, 1) := by decide +kernel
theorem dX9_lays_57 : decode cX9_lays 57 = .ok (.iaload, 1) := by decide +kernel
theorem dX9_lays_58 : decode cX9_lays 58 = .ok (.aload_n 0, 1) := by decide +kernel
theorem dX9_lays_59 : decode cX9_lays 59 = .ok (.getfield 94, 3) := by decide +kernel
theorem dX9_lays_62 : decode cX9_lays 62 = .ok (.iload_n 1, 1) := by decide +kernel
theorem dX9_lays_63 : decode cX9_lays 63 = .ok (.iaload, 1) := by decide +kernel
theorem dX9_lays_64 : decode cX9_lays 64 = .ok (.iadd, 1) := by decide +kernel
theorem dX9_lays_65 : decode cX9_lays 65 = .ok (.iastore, 1) := by decide +kernel
theorem dX9_lays_66 : decode cX9_lays 66 = .ok (.aload_n 0, 1) := by decide +kernel
theorem dX9_lays_67 : decode cX9_lays 67 = .ok (.getfield 103, 3) := by decide +kernel
theorem dX9_lays_70 : decode cX9_lays 70 = .ok (.iload_n 1, 1) := by decide +kernel
theorem dX9_lays_71 : decode cX9_lays 71 = .ok (.iload_n 3, 1) := by decide +kernel
theorem dX9_lays_72 : decode cX9_lays 72 = .ok (.iastore, 1) := by decide +kernel
theorem dX9_lays_73 : decode cX9_lays 73 = .ok (.aload_n 0, 1) := by decide +kernel
theorem dX9_lays_74 : decode cX9_lays 74 = .ok (.iload_n 1, 1) := by decide +kernel
theorem dX9_lays_75 : decode cX9_lays 75 = .ok (.iconst 1, 1) := by decide +kernel
theorem dX9_lays_76 : decode cX9_lays 76 = .ok (.iadd, 1) := by decide +kernel
theorem dX9_lays_77 : decode cX9_lays 77 = .ok (.iload_n 2, 1) := by decide +kernel
theorem dX9_lays_78 : decode cX9_lays 78 = .ok (.invokevirtual 222, 3) := by decide +kernel
theorem dX9_lays_81 : decode cX9_lays 81 = .ok (.istore 4, 2) := by decide +kernel
theorem dX9_lays_83 : decode cX9_lays 83 = .ok (.aload_n 0, 1) := by decide +kernel
theorem dX9_lays_84 : decode cX9_lays 84 = .ok (.getfield 100, 3) := by decide +kernel
theorem dX9_lays_87 : decode cX9_lays 87 = .ok (.iload_n 3, 1) := by decide +kernel
theorem dX9_lays_88 : decode cX9_lays 88 = .ok (.dup2, 1) := by decide +kernel
theorem dX9_lays_89 : decode cX9_lays 89 = .ok (.iaload, 1) := by decide +kernel
theorem dX9_lays_90 : decode cX9_lays 90 = .ok (.aload_n 0, 1) := by decide +kernel
theorem dX9_lays_91 : decode cX9_lays 91 = .ok (.getfield 94, 3) := by decide +kernel
theorem dX9_lays_94 : decode cX9_lays 94 = .ok (.iload_n 1, 1) := by decide +kernel
theorem dX9_lays_95 : decode cX9_lays 95 = .ok (.iaload, 1) := by decide +kernel
theorem dX9_lays_96 : decode cX9_lays 96 = .ok (.isub, 1) := by decide +kernel
theorem dX9_lays_97 : decode cX9_lays 97 = .ok (.iastore, 1) := by decide +kernel
theorem dX9_lays_98 : decode cX9_lays 98 = .ok (.iload 4, 2) := by decide +kernel
theorem dX9_lays_100 : decode cX9_lays 100 = .ok (.ifCond .eq 5, 3) := by decide +kernel
theorem dX9_lays_103 : decode cX9_lays 103 = .ok (.iconst 1, 1) := by decide +kernel
theorem dX9_lays_104 : decode cX9_lays 104 = .ok (.ireturn, 1) := by decide +kernel
theorem dX9_lays_105 : decode cX9_lays 105 = .ok (.iinc 3 1, 3) := by decide +kernel
theorem dX9_lays_108 : decode cX9_lays 108 = .ok (.goto (-96), 3) := by decide +kernel
theorem dX9_lays_111 : decode cX9_lays 111 = .ok (.iconst 0, 1) := by decide +kernel
theorem dX9_lays_112 : decode cX9_lays 112 = .ok (.ireturn, 1) := by decide +kernel
theorem dX9_heaviest_0 : decode cX9_heaviest 0 = .ok (.iconst 0, 1) := by decide +kernel
theorem dX9_heaviest_1 : decode cX9_heaviest 1 = .ok (.istore_n 1, 1) := by decide +kernel
theorem dX9_heaviest_2 : decode cX9_heaviest 2 = .ok (.iconst 0, 1) := by decide +kernel
theorem dX9_heaviest_3 : decode cX9_heaviest 3 = .ok (.istore_n 2, 1) := by decide +kernel
theorem dX9_heaviest_4 : decode cX9_heaviest 4 = .ok (.iload_n 2, 1) := by decide +kernel
theorem dX9_heaviest_5 : decode cX9_heaviest 5 = .ok (.bipush 9, 2) := by decide +kernel
theorem dX9_heaviest_7 : decode cX9_heaviest 7 = .ok (.if_icmp .ge 60, 3) := by decide +kernel
theorem dX9_heaviest_10 : decode cX9_heaviest 10 = .ok (.iconst 0, 1) := by decide +kernel
theorem dX9_heaviest_11 : decode cX9_heaviest 11 = .ok (.istore_n 3, 1) := by decide +kernel
theorem dX9_heaviest_12 : decode cX9_heaviest 12 = .ok (.iconst 0, 1) := by decide +kernel
theorem dX9_heaviest_13 : decode cX9_heaviest 13 = .ok (.istore 4, 2) := by decide +kernel
theorem dX9_heaviest_15 : decode cX9_heaviest 15 = .ok (.iload 4, 2) := by decide +kernel
theorem dX9_heaviest_17 : decode cX9_heaviest 17 = .ok (.aload_n 0, 1) := by decide +kernel
theorem dX9_heaviest_18 : decode cX9_heaviest 18 = .ok (.getfield 219, 3) := by decide +kernel
theorem dX9_heaviest_21 : decode cX9_heaviest 21 = .ok (.if_icmp .ge 34, 3) := by decide +kernel
theorem dX9_heaviest_24 : decode cX9_heaviest 24 = .ok (.iload_n 3, 1) := by decide +kernel
theorem dX9_heaviest_25 : decode cX9_heaviest 25 = .ok (.aload_n 0, 1) := by decide +kernel
theorem dX9_heaviest_26 : decode cX9_heaviest 26 = .ok (.getfield 103, 3) := by decide +kernel
theorem dX9_heaviest_29 : decode cX9_heaviest 29 = .ok (.iload 4, 2) := by decide +kernel
theorem dX9_heaviest_31 : decode cX9_heaviest 31 = .ok (.iaload, 1) := by decide +kernel
theorem dX9_heaviest_32 : decode cX9_heaviest 32 = .ok (.iload_n 2, 1) := by decide +kernel
theorem dX9_heaviest_33 : decode cX9_heaviest 33 = .ok (.if_icmp .ne 13, 3) := by decide +kernel
theorem dX9_heaviest_36 : decode cX9_heaviest 36 = .ok (.aload_n 0, 1) := by decide +kernel
theorem dX9_heaviest_37 : decode cX9_heaviest 37 = .ok (.getfield 94, 3) := by decide +kernel
theorem dX9_heaviest_40 : decode cX9_heaviest 40 = .ok (.iload 4, 2) := by decide +kernel
theorem dX9_heaviest_42 : decode cX9_heaviest 42 = .ok (.iaload, 1) := by decide +kernel
theorem dX9_heaviest_43 : decode cX9_heaviest 43 = .ok (.goto 4, 3) := by decide +kernel
theorem dX9_heaviest_46 : decode cX9_heaviest 46 = .ok (.iconst 0, 1) := by decide +kernel
theorem dX9_heaviest_47 : decode cX9_heaviest 47 = .ok (.iadd, 1) := by decide +kernel
theorem dX9_heaviest_48 : decode cX9_heaviest 48 = .ok (.istore_n 3, 1) := by decide +kernel
theorem dX9_heaviest_49 : decode cX9_heaviest 49 = .ok (.iinc 4 1, 3) := by decide +kernel
theorem dX9_heaviest_52 : decode cX9_heaviest 52 = .ok (.goto (-37), 3) := by decide +kernel
theorem dX9_heaviest_55 : decode cX9_heaviest 55 = .ok (.iload_n 1, 1) := by decide +kernel
theorem dX9_heaviest_56 : decode cX9_heaviest 56 = .ok (.iload_n 3, 1) := by decide +kernel
theorem dX9_heaviest_57 : decode cX9_heaviest 57 = .ok (.invokestatic 132, 3) := by decide +kernel
theorem dX9_heaviest_60 : decode cX9_heaviest 60 = .ok (.istore_n 1, 1) := by decide +kernel
theorem dX9_heaviest_61 : decode cX9_heaviest 61 = .ok (.iinc 2 1, 3) := by decide +kernel
theorem dX9_heaviest_64 : decode cX9_heaviest 64 = .ok (.goto (-60), 3) := by decide +kernel
theorem dX9_heaviest_67 : decode cX9_heaviest 67 = .ok (.iload_n 1, 1) := by decide +kernel
theorem dX9_heaviest_68 : decode cX9_heaviest 68 = .ok (.ireturn, 1) := by decide +kernel
set_option maxRecDepth 20000 in
theorem ggX9_even_X9_lays : GoodIn wsX9_even wsX9_lays := goodIn_r _ [8, 2, 9, 10, 11, 12, 4, 5, 6, 7, 21, 22, 23, 24, 25, 26, 27, 28, 29, 30, 31, 32, 33, 34, 35, 36, 37, 38, 39, 40, 41, 42, 43, 44, 45, 46, 47, 48, 49, 50, 51, 52, 53, 54, 55, 56, 57, 58, 59, 60, 61, 62] (by decide +kernel) (by decide +kernel)
set_option maxRecDepth 20000 in
theorem gX9_even_X9_lays : GoodIn wsX9_even (wsV RX9 222 RX9 yX9_lays wsX9_lays) := goodIn_app (goodIn_of _ (by decide +kernel)) ggX9_even_X9_lays
set_option maxRecDepth 20000 in
theorem ggX9_even_X9_heaviest : GoodIn wsX9_even wsX9_heaviest := goodIn_r _ [16, 2, 12, 11, 17, 18, 19, 20, 21, 22, 23, 24, 25, 26, 27, 28, 29, 30, 31, 32, 33, 34, 35, 36, 37, 38, 39, 40, 41, 42, 43, 44, 45, 46, 47, 48, 49, 50, 51, 52, 53, 54, 55, 56, 57, 58, 59, 60, 61, 62] (by decide +kernel) (by decide +kernel)
set_option maxRecDepth 20000 in
theorem gX9_even_X9_heaviest : GoodIn wsX9_even (wsV RX9 226 RX9 yX9_heaviest wsX9_heaviest) := goodIn_app (goodIn_of _ (by decide +kernel)) ggX9_even_X9_heaviest
theorem dX9_even_0 : decode cX9_even 0 = .ok (.aload_n 0, 1) := by decide +kernel
theorem dX9_even_1 : decode cX9_even 1 = .ok (.iconst 0, 1) := by decide +kernel
theorem dX9_even_2 : decode cX9_even 2 = .ok (.putfield 106, 3) := by decide +kernel
theorem dX9_even_5 : decode cX9_even 5 = .ok (.aload_n 0, 1) := by decide +kernel
theorem dX9_even_6 : decode cX9_even 6 = .ok (.getfield 219, 3) := by decide +kernel
theorem dX9_even_9 : decode cX9_even 9 = .ok (.ifCond .ne 5, 3) := by decide +kernel
theorem dX9_even_12 : decode cX9_even 12 = .ok (.iconst 0, 1) := by decide +kernel
theorem dX9_even_13 : decode cX9_even 13 = .ok (.ireturn, 1) := by decide +kernel
theorem dX9_even_14 : decode cX9_even 14 = .ok (.ldc 225, 2) := by decide +kernel
theorem dX9_even_16 : decode cX9_even 16 = .ok (.istore_n 1, 1) := by decide +kernel
theorem dX9_even_17 : decode cX9_even 17 = .ok (.iload_n 1, 1) := by decide +kernel
theorem dX9_even_18 : decode cX9_even 18 = .ok (.ifCond .lt 22, 3) := by decide +kernel
theorem dX9_even_21 : decode cX9_even 21 = .ok (.aload_n 0, 1) := by decide +kernel
theorem dX9_even_22 : decode cX9_even 22 = .ok (.iconst 0, 1) := by decide +kernel
theorem dX9_even_23 : decode cX9_even 23 = .ok (.iload_n 1, 1) := by decide +kernel
theorem dX9_even_24 : decode cX9_even 24 = .ok (.invokevirtual 222, 3) := by decide +kernel
theorem dX9_even_27 : decode cX9_even 27 = .ok (.ifCond .eq 13, 3) := by decide +kernel
theorem dX9_even_30 : decode cX9_even 30 = .ok (.aload_n 0, 1) := by decide +kernel
theorem dX9_even_31 : decode cX9_even 31 = .ok (.invokevirtual 226, 3) := by decide +kernel
theorem dX9_even_34 : decode cX9_even 34 = .ok (.iconst 1, 1) := by decide +kernel
theorem dX9_even_35 : decode cX9_even 35 = .ok (.isub, 1) := by decide +kernel
theorem dX9_even_36 : decode cX9_even 36 = .ok (.istore_n 1, 1) := by decide +kernel
theorem dX9_even_37 : decode cX9_even 37 = .ok (.goto (-20), 3) := by decide +kernel
theorem dX9_even_40 : decode cX9_even 40 = .ok (.aload_n 0, 1) := by decide +kernel
theorem dX9_even_41 : decode cX9_even 41 = .ok (.iconst 0, 1) := by decide +kernel
theorem dX9_even_42 : decode cX9_even 42 = .ok (.iload_n 1, 1) := by decide +kernel
theorem dX9_even_43 : decode cX9_even 43 = .ok (.iconst 1, 1) := by decide +kernel
theorem dX9_even_44 : decode cX9_even 44 = .ok (.iadd, 1) := by decide +kernel
theorem dX9_even_45 : decode cX9_even 45 = .ok (.invokevirtual 222, 3) := by decide +kernel
theorem dX9_even_48 : decode cX9_even 48 = .ok (.istore_n 2, 1) := by decide +kernel
theorem dX9_even_49 : decode cX9_even 49 = .ok (.iload_n 1, 1) := by decide +kernel
theorem dX9_even_50 : decode cX9_even 50 = .ok (.iconst 1, 1) := by decide +kernel
theorem dX9_even_51 : decode cX9_even 51 = .ok (.iadd, 1) := by decide +kernel
theorem dX9_even_52 : decode cX9_even 52 = .ok (.ireturn, 1) := by decide +kernel
set_option maxRecDepth 20000 in
theorem ggX9_plan_X9_in : GoodIn wsX9_plan wsX9_in := goodIn_r _ [6] (by decide +kernel) (by decide +kernel)
set_option maxRecDepth 20000 in
theorem gX9_plan_X9_in : GoodIn wsX9_plan (va_wsS RX9 112 yX9_in wsX9_in) := goodIn_app (goodIn_of _ (by decide +kernel)) ggX9_plan_X9_in
set_option maxRecDepth 20000 in
theorem ggX9_plan_X9_throwsIf : GoodIn wsX9_plan wsX9_throwsIf := goodIn_r _ [10, 11, 32, 33, 34, 35, 36, 37, 38, 39, 40, 41, 42, 43, 44, 45, 46, 47, 48, 49, 50, 51, 52, 53, 54, 55, 56, 57, 58, 59, 60, 61, 62, 63, 64, 65, 66, 67, 68, 69, 70, 71, 72, 73] (by decide +kernel) (by decide +kernel)
set_option maxRecDepth 20000 in
theorem gX9_plan_X9_throwsIf : GoodIn wsX9_plan (wsV RX9 119 RX9 yX9_throwsIf wsX9_throwsIf) := goodIn_app (goodIn_of _ (by decide +kernel)) ggX9_plan_X9_throwsIf
set_option maxRecDepth 20000 in
theorem ggX9_plan_X9_even : GoodIn wsX9_plan wsX9_even := goodIn_r _ [15, 11, 1, 16, 17, 18, 19, 5, 20, 21, 22, 23, 2, 24, 25, 26, 27, 28, 29, 30, 31, 32, 33, 34, 35, 36, 37, 38, 39, 40, 41, 42, 43, 44, 45, 46, 47, 48, 49, 50, 51, 52, 53, 54, 55, 56, 57, 58, 59, 60, 61, 62, 63, 64, 65, 66, 67, 68, 69, 70, 71, 72, 73] (by decide +kernel) (by decide +kernel)
set_option maxRecDepth 20000 in
theorem gX9_plan_X9_even : GoodIn wsX9_plan (wsV RX9 229 RX9 yX9_even wsX9_even) := goodIn_app (goodIn_of _ (by decide +kernel)) ggX9_plan_X9_even
theorem dX9_plan_0 : decode cX9_plan 0 = .ok (.aload_n 0, 1) := by decide +kernel
theorem dX9_plan_1 : decode cX9_plan 1 = .ok (.iload_n 1, 1) := by decide +kernel
theorem dX9_plan_2 : decode cX9_plan 2 = .ok (.iconst 0, 1) := by decide +kernel
theorem dX9_plan_3 : decode cX9_plan 3 = .ok (.aload_n 0, 1) := by decide +kernel
theorem dX9_plan_4 : decode cX9_plan 4 = .ok (.getfield 219, 3) := by decide +kernel
theorem dX9_plan_7 : decode cX9_plan 7 = .ok (.iconst 1, 1) := by decide +kernel
theorem dX9_plan_8 : decode cX9_plan 8 = .ok (.isub, 1) := by decide +kernel
theorem dX9_plan_9 : decode cX9_plan 9 = .ok (.invokestatic 112, 3) := by decide +kernel
theorem dX9_plan_12 : decode cX9_plan 12 = .ok (.ifCond .ne 7, 3) := by decide +kernel
theorem dX9_plan_15 : decode cX9_plan 15 = .ok (.iconst 1, 1) := by decide +kernel
theorem dX9_plan_16 : decode cX9_plan 16 = .ok (.goto 4, 3) := by decide +kernel
theorem dX9_plan_19 : decode cX9_plan 19 = .ok (.iconst 0, 1) := by decide +kernel
theorem dX9_plan_20 : decode cX9_plan 20 = .ok (.iconst 1, 1) := by decide +kernel
theorem dX9_plan_21 : decode cX9_plan 21 = .ok (.invokevirtual 119, 3) := by decide +kernel
theorem dX9_plan_24 : decode cX9_plan 24 = .ok (.ifCond .eq 5, 3) := by decide +kernel
theorem dX9_plan_27 : decode cX9_plan 27 = .ok (.iconst 0, 1) := by decide +kernel
theorem dX9_plan_28 : decode cX9_plan 28 = .ok (.ireturn, 1) := by decide +kernel
theorem dX9_plan_29 : decode cX9_plan 29 = .ok (.aload_n 0, 1) := by decide +kernel
theorem dX9_plan_30 : decode cX9_plan 30 = .ok (.invokevirtual 229, 3) := by decide +kernel
theorem dX9_plan_33 : decode cX9_plan 33 = .ok (.istore_n 2, 1) := by decide +kernel
theorem dX9_plan_34 : decode cX9_plan 34 = .ok (.aload_n 0, 1) := by decide +kernel
theorem dX9_plan_35 : decode cX9_plan 35 = .ok (.getfield 103, 3) := by decide +kernel
theorem dX9_plan_38 : decode cX9_plan 38 = .ok (.iload_n 1, 1) := by decide +kernel
theorem dX9_plan_39 : decode cX9_plan 39 = .ok (.iaload, 1) := by decide +kernel
theorem dX9_plan_40 : decode cX9_plan 40 = .ok (.ireturn, 1) := by decide +kernel
theorem dX9_count_0 : decode cX9_count 0 = .ok (.aload_n 0, 1) := by decide +kernel
theorem dX9_count_1 : decode cX9_count 1 = .ok (.iconst 0, 1) := by decide +kernel
theorem dX9_count_2 : decode cX9_count 2 = .ok (.putfield 106, 3) := by decide +kernel
theorem dX9_count_5 : decode cX9_count 5 = .ok (.iconst 0, 1) := by decide +kernel
theorem dX9_count_6 : decode cX9_count 6 = .ok (.istore_n 2, 1) := by decide +kernel
theorem dX9_count_7 : decode cX9_count 7 = .ok (.iload_n 1, 1) := by decide +kernel
theorem dX9_count_8 : decode cX9_count 8 = .ok (.tableswitch 240 0 10 #[60, 65, 70, 75, 80, 115, 155, 160, 195, 200, 205], 60) := by decide +kernel
theorem dX9_count_68 : decode cX9_count 68 = .ok (.aload_n 0, 1) := by decide +kernel
theorem dX9_count_69 : decode cX9_count 69 = .ok (.getfield 129, 3) := by decide +kernel
theorem dX9_count_72 : decode cX9_count 72 = .ok (.ireturn, 1) := by decide +kernel
theorem dX9_count_73 : decode cX9_count 73 = .ok (.aload_n 0, 1) := by decide +kernel
theorem dX9_count_74 : decode cX9_count 74 = .ok (.getfield 109, 3) := by decide +kernel
theorem dX9_count_77 : decode cX9_count 77 = .ok (.ireturn, 1) := by decide +kernel
theorem dX9_count_78 : decode cX9_count 78 = .ok (.aload_n 0, 1) := by decide +kernel
theorem dX9_count_79 : decode cX9_count 79 = .ok (.getfield 143, 3) := by decide +kernel
theorem dX9_count_82 : decode cX9_count 82 = .ok (.ireturn, 1) := by decide +kernel
theorem dX9_count_83 : decode cX9_count 83 = .ok (.aload_n 0, 1) := by decide +kernel
theorem dX9_count_84 : decode cX9_count 84 = .ok (.getfield 116, 3) := by decide +kernel
theorem dX9_count_87 : decode cX9_count 87 = .ok (.ireturn, 1) := by decide +kernel
theorem dX9_count_88 : decode cX9_count 88 = .ok (.iconst 0, 1) := by decide +kernel
theorem dX9_count_89 : decode cX9_count 89 = .ok (.istore_n 3, 1) := by decide +kernel
theorem dX9_count_90 : decode cX9_count 90 = .ok (.iload_n 3, 1) := by decide +kernel
theorem dX9_count_91 : decode cX9_count 91 = .ok (.aload_n 0, 1) := by decide +kernel
theorem dX9_count_92 : decode cX9_count 92 = .ok (.getfield 116, 3) := by decide +kernel
theorem dX9_count_95 : decode cX9_count 95 = .ok (.if_icmp .ge 26, 3) := by decide +kernel
theorem dX9_count_98 : decode cX9_count 98 = .ok (.iload_n 2, 1) := by decide +kernel
theorem dX9_count_99 : decode cX9_count 99 = .ok (.aload_n 0, 1) := by decide +kernel
theorem dX9_count_100 : decode cX9_count 100 = .ok (.getfield 56, 3) := by decide +kernel
theorem dX9_count_103 : decode cX9_count 103 = .ok (.iload_n 3, 1) := by decide +kernel
theorem dX9_count_104 : decode cX9_count 104 = .ok (.iaload, 1) := by decide +kernel
theorem dX9_count_105 : decode cX9_count 105 = .ok (.ifCond .lt 7, 3) := by decide +kernel
theorem dX9_count_108 : decode cX9_count 108 = .ok (.iconst 1, 1) := by decide +kernel
theorem dX9_count_109 : decode cX9_count 109 = .ok (.goto 4, 3) := by decide +kernel
theorem dX9_count_112 : decode cX9_count 112 = .ok (.iconst 0, 1) := by decide +kernel
theorem dX9_count_113 : decode cX9_count 113 = .ok (.iadd, 1) := by decide +kernel
theorem dX9_count_114 : decode cX9_count 114 = .ok (.istore_n 2, 1) := by decide +kernel
theorem dX9_count_115 : decode cX9_count 115 = .ok (.iinc 3 1, 3) := by decide +kernel
theorem dX9_count_118 : decode cX9_count 118 = .ok (.goto (-28), 3) := by decide +kernel
theorem dX9_count_121 : decode cX9_count 121 = .ok (.iload_n 2, 1) := by decide +kernel
theorem dX9_count_122 : decode cX9_count 122 = .ok (.ireturn, 1) := by decide +kernel
theorem dX9_count_123 : decode cX9_count 123 = .ok (.iconst 0, 1) := by decide +kernel
theorem dX9_count_124 : decode cX9_count 124 = .ok (.istore_n 3, 1) := by decide +kernel
theorem dX9_count_125 : decode cX9_count 125 = .ok (.iload_n 3, 1) := by decide +kernel
theorem dX9_count_126 : decode cX9_count 126 = .ok (.aload_n 0, 1) := by decide +kernel
theorem dX9_count_127 : decode cX9_count 127 = .ok (.getfield 116, 3) := by decide +kernel
theorem dX9_count_130 : decode cX9_count 130 = .ok (.if_icmp .ge 31, 3) := by decide +kernel
theorem dX9_count_133 : decode cX9_count 133 = .ok (.iload_n 2, 1) := by decide +kernel
theorem dX9_count_134 : decode cX9_count 134 = .ok (.aload_n 0, 1) := by decide +kernel
theorem dX9_count_135 : decode cX9_count 135 = .ok (.getfield 56, 3) := by decide +kernel
theorem dX9_count_138 : decode cX9_count 138 = .ok (.iload_n 3, 1) := by decide +kernel
theorem dX9_count_139 : decode cX9_count 139 = .ok (.iaload, 1) := by decide +kernel
theorem dX9_count_140 : decode cX9_count 140 = .ok (.ifCond .lt 12, 3) := by decide +kernel
theorem dX9_count_143 : decode cX9_count 143 = .ok (.aload_n 0, 1) := by decide +kernel
theorem dX9_count_144 : decode cX9_count 144 = .ok (.getfield 59, 3) := by decide +kernel
theorem dX9_count_147 : decode cX9_count 147 = .ok (.iload_n 3, 1) := by decide +kernel
theorem dX9_count_148 : decode cX9_count 148 = .ok (.iaload, 1) := by decide +kernel
theorem dX9_count_149 : decode cX9_count 149 = .ok (.goto 4, 3) := by decide +kernel
theorem dX9_count_152 : decode cX9_count 152 = .ok (.iconst 0, 1) := by decide +kernel
theorem dX9_count_153 : decode cX9_count 153 = .ok (.iadd, 1) := by decide +kernel
theorem dX9_count_154 : decode cX9_count 154 = .ok (.istore_n 2, 1) := by decide +kernel
theorem dX9_count_155 : decode cX9_count 155 = .ok (.iinc 3 1, 3) := by decide +kernel
theorem dX9_count_158 : decode cX9_count 158 = .ok (.goto (-33), 3) := by decide +kernel
theorem dX9_count_161 : decode cX9_count 161 = .ok (.iload_n 2, 1) := by decide +kernel
theorem dX9_count_162 : decode cX9_count 162 = .ok (.ireturn, 1) := by decide +kernel
theorem dX9_count_163 : decode cX9_count 163 = .ok (.aload_n 0, 1) := by decide +kernel
theorem dX9_count_164 : decode cX9_count 164 = .ok (.getfield 73, 3) := by decide +kernel
theorem dX9_count_167 : decode cX9_count 167 = .ok (.ireturn, 1) := by decide +kernel
theorem dX9_count_168 : decode cX9_count 168 = .ok (.iconst 0, 1) := by decide +kernel
theorem dX9_count_169 : decode cX9_count 169 = .ok (.istore_n 3, 1) := by decide +kernel
theorem dX9_count_170 : decode cX9_count 170 = .ok (.iload_n 3, 1) := by decide +kernel
theorem dX9_count_171 : decode cX9_count 171 = .ok (.aload_n 0, 1) := by decide +kernel
theorem dX9_count_172 : decode cX9_count 172 = .ok (.getfield 73, 3) := by decide +kernel
theorem dX9_count_175 : decode cX9_count 175 = .ok (.if_icmp .ge 26, 3) := by decide +kernel
theorem dX9_count_178 : decode cX9_count 178 = .ok (.iload_n 2, 1) := by decide +kernel
theorem dX9_count_179 : decode cX9_count 179 = .ok (.aload_n 0, 1) := by decide +kernel
theorem dX9_count_180 : decode cX9_count 180 = .ok (.getfield 76, 3) := by decide +kernel
theorem dX9_count_183 : decode cX9_count 183 = .ok (.iload_n 3, 1) := by decide +kernel
theorem dX9_count_184 : decode cX9_count 184 = .ok (.baload, 1) := by decide +kernel
theorem dX9_count_185 : decode cX9_count 185 = .ok (.ifCond .eq 7, 3) := by decide +kernel
theorem dX9_count_188 : decode cX9_count 188 = .ok (.iconst 1, 1) := by decide +kernel
theorem dX9_count_189 : decode cX9_count 189 = .ok (.goto 4, 3) := by decide +kernel
theorem dX9_count_192 : decode cX9_count 192 = .ok (.iconst 0, 1) := by decide +kernel
theorem dX9_count_193 : decode cX9_count 193 = .ok (.iadd, 1) := by decide +kernel
theorem dX9_count_194 : decode cX9_count 194 = .ok (.istore_n 2, 1) := by decide +kernel
theorem dX9_count_195 : decode cX9_count 195 = .ok (.iinc 3 1, 3) := by decide +kernel
theorem dX9_count_198 : decode cX9_count 198 = .ok (.goto (-28), 3) := by decide +kernel
theorem dX9_count_201 : decode cX9_count 201 = .ok (.iload_n 2, 1) := by decide +kernel
theorem dX9_count_202 : decode cX9_count 202 = .ok (.ireturn, 1) := by decide +kernel
theorem dX9_count_203 : decode cX9_count 203 = .ok (.aload_n 0, 1) := by decide +kernel
theorem dX9_count_204 : decode cX9_count 204 = .ok (.getfield 213, 3) := by decide +kernel
theorem dX9_count_207 : decode cX9_count 207 = .ok (.ireturn, 1) := by decide +kernel
theorem dX9_count_208 : decode cX9_count 208 = .ok (.aload_n 0, 1) := by decide +kernel
theorem dX9_count_209 : decode cX9_count 209 = .ok (.getfield 219, 3) := by decide +kernel
theorem dX9_count_212 : decode cX9_count 212 = .ok (.ireturn, 1) := by decide +kernel
theorem dX9_count_213 : decode cX9_count 213 = .ok (.iconst 0, 1) := by decide +kernel
theorem dX9_count_214 : decode cX9_count 214 = .ok (.istore_n 3, 1) := by decide +kernel
theorem dX9_count_215 : decode cX9_count 215 = .ok (.iload_n 3, 1) := by decide +kernel
theorem dX9_count_216 : decode cX9_count 216 = .ok (.aload_n 0, 1) := by decide +kernel
theorem dX9_count_217 : decode cX9_count 217 = .ok (.getfield 109, 3) := by decide +kernel
theorem dX9_count_220 : decode cX9_count 220 = .ok (.if_icmp .ge 26, 3) := by decide +kernel
theorem dX9_count_223 : decode cX9_count 223 = .ok (.iload_n 2, 1) := by decide +kernel
theorem dX9_count_224 : decode cX9_count 224 = .ok (.aload_n 0, 1) := by decide +kernel
theorem dX9_count_225 : decode cX9_count 225 = .ok (.getfield 25, 3) := by decide +kernel
theorem dX9_count_228 : decode cX9_count 228 = .ok (.iload_n 3, 1) := by decide +kernel
theorem dX9_count_229 : decode cX9_count 229 = .ok (.baload, 1) := by decide +kernel
theorem dX9_count_230 : decode cX9_count 230 = .ok (.ifCond .eq 7, 3) := by decide +kernel
theorem dX9_count_233 : decode cX9_count 233 = .ok (.iconst 1, 1) := by decide +kernel
theorem dX9_count_234 : decode cX9_count 234 = .ok (.goto 4, 3) := by decide +kernel
theorem dX9_count_237 : decode cX9_count 237 = .ok (.iconst 0, 1) := by decide +kernel
theorem dX9_count_238 : decode cX9_count 238 = .ok (.iadd, 1) := by decide +kernel
theorem dX9_count_239 : decode cX9_count 239 = .ok (.istore_n 2, 1) := by decide +kernel
theorem dX9_count_240 : decode cX9_count 240 = .ok (.iinc 3 1, 3) := by decide +kernel
theorem dX9_count_243 : decode cX9_count 243 = .ok (.goto (-28), 3) := by decide +kernel
theorem dX9_count_246 : decode cX9_count 246 = .ok (.iload_n 2, 1) := by decide +kernel
theorem dX9_count_247 : decode cX9_count 247 = .ok (.ireturn, 1) := by decide +kernel
theorem dX9_count_248 : decode cX9_count 248 = .ok (.iconst (-1), 1) := by decide +kernel
theorem dX9_count_249 : decode cX9_count 249 = .ok (.ireturn, 1) := by decide +kernel
theorem dJ13_bitCount_95d88_0 : decode cJ13_bitCount_95d88 0 = .ok (.lload_n 0, 1) := by decide +kernel
theorem dJ13_bitCount_95d88_1 : decode cJ13_bitCount_95d88 1 = .ok (.lload_n 0, 1) := by decide +kernel
theorem dJ13_bitCount_95d88_2 : decode cJ13_bitCount_95d88 2 = .ok (.iconst 1, 1) := by decide +kernel
theorem dJ13_bitCount_95d88_3 : decode cJ13_bitCount_95d88 3 = .ok (.lushr, 1) := by decide +kernel
theorem dJ13_bitCount_95d88_4 : decode cJ13_bitCount_95d88 4 = .ok (.ldc2_w 314, 3) := by decide +kernel
theorem dJ13_bitCount_95d88_7 : decode cJ13_bitCount_95d88 7 = .ok (.land, 1) := by decide +kernel
theorem dJ13_bitCount_95d88_8 : decode cJ13_bitCount_95d88 8 = .ok (.lsub, 1) := by decide +kernel
theorem dJ13_bitCount_95d88_9 : decode cJ13_bitCount_95d88 9 = .ok (.lstore_n 0, 1) := by decide +kernel
theorem dJ13_bitCount_95d88_10 : decode cJ13_bitCount_95d88 10 = .ok (.lload_n 0, 1) := by decide +kernel
theorem dJ13_bitCount_95d88_11 : decode cJ13_bitCount_95d88 11 = .ok (.ldc2_w 316, 3) := by decide +kernel
theorem dJ13_bitCount_95d88_14 : decode cJ13_bitCount_95d88 14 = .ok (.land, 1) := by decide +kernel
theorem dJ13_bitCount_95d88_15 : decode cJ13_bitCount_95d88 15 = .ok (.lload_n 0, 1) := by decide +kernel
theorem dJ13_bitCount_95d88_16 : decode cJ13_bitCount_95d88 16 = .ok (.iconst 2, 1) := by decide +kernel
theorem dJ13_bitCount_95d88_17 : decode cJ13_bitCount_95d88 17 = .ok (.lushr, 1) := by decide +kernel
theorem dJ13_bitCount_95d88_18 : decode cJ13_bitCount_95d88 18 = .ok (.ldc2_w 316, 3) := by decide +kernel
theorem dJ13_bitCount_95d88_21 : decode cJ13_bitCount_95d88 21 = .ok (.land, 1) := by decide +kernel
theorem dJ13_bitCount_95d88_22 : decode cJ13_bitCount_95d88 22 = .ok (.ladd, 1) := by decide +kernel
theorem dJ13_bitCount_95d88_23 : decode cJ13_bitCount_95d88 23 = .ok (.lstore_n 0, 1) := by decide +kernel
theorem dJ13_bitCount_95d88_24 : decode cJ13_bitCount_95d88 24 = .ok (.lload_n 0, 1) := by decide +kernel
theorem dJ13_bitCount_95d88_25 : decode cJ13_bitCount_95d88 25 = .ok (.lload_n 0, 1) := by decide +kernel
theorem dJ13_bitCount_95d88_26 : decode cJ13_bitCount_95d88 26 = .ok (.iconst 4, 1) := by decide +kernel
theorem dJ13_bitCount_95d88_27 : decode cJ13_bitCount_95d88 27 = .ok (.lushr, 1) := by decide +kernel
theorem dJ13_bitCount_95d88_28 : decode cJ13_bitCount_95d88 28 = .ok (.ladd, 1) := by decide +kernel
theorem dJ13_bitCount_95d88_29 : decode cJ13_bitCount_95d88 29 = .ok (.ldc2_w 318, 3) := by decide +kernel
theorem dJ13_bitCount_95d88_32 : decode cJ13_bitCount_95d88 32 = .ok (.land, 1) := by decide +kernel
theorem dJ13_bitCount_95d88_33 : decode cJ13_bitCount_95d88 33 = .ok (.lstore_n 0, 1) := by decide +kernel
theorem dJ13_bitCount_95d88_34 : decode cJ13_bitCount_95d88 34 = .ok (.lload_n 0, 1) := by decide +kernel
theorem dJ13_bitCount_95d88_35 : decode cJ13_bitCount_95d88 35 = .ok (.lload_n 0, 1) := by decide +kernel
theorem dJ13_bitCount_95d88_36 : decode cJ13_bitCount_95d88 36 = .ok (.bipush 8, 2) := by decide +kernel
theorem dJ13_bitCount_95d88_38 : decode cJ13_bitCount_95d88 38 = .ok (.lushr, 1) := by decide +kernel
theorem dJ13_bitCount_95d88_39 : decode cJ13_bitCount_95d88 39 = .ok (.ladd, 1) := by decide +kernel
theorem dJ13_bitCount_95d88_40 : decode cJ13_bitCount_95d88 40 = .ok (.lstore_n 0, 1) := by decide +kernel
theorem dJ13_bitCount_95d88_41 : decode cJ13_bitCount_95d88 41 = .ok (.lload_n 0, 1) := by decide +kernel
theorem dJ13_bitCount_95d88_42 : decode cJ13_bitCount_95d88 42 = .ok (.lload_n 0, 1) := by decide +kernel
theorem dJ13_bitCount_95d88_43 : decode cJ13_bitCount_95d88 43 = .ok (.bipush 16, 2) := by decide +kernel
theorem dJ13_bitCount_95d88_45 : decode cJ13_bitCount_95d88 45 = .ok (.lushr, 1) := by decide +kernel
theorem dJ13_bitCount_95d88_46 : decode cJ13_bitCount_95d88 46 = .ok (.ladd, 1) := by decide +kernel
theorem dJ13_bitCount_95d88_47 : decode cJ13_bitCount_95d88 47 = .ok (.lstore_n 0, 1) := by decide +kernel
theorem dJ13_bitCount_95d88_48 : decode cJ13_bitCount_95d88 48 = .ok (.lload_n 0, 1) := by decide +kernel
theorem dJ13_bitCount_95d88_49 : decode cJ13_bitCount_95d88 49 = .ok (.lload_n 0, 1) := by decide +kernel
theorem dJ13_bitCount_95d88_50 : decode cJ13_bitCount_95d88 50 = .ok (.bipush 32, 2) := by decide +kernel
theorem dJ13_bitCount_95d88_52 : decode cJ13_bitCount_95d88 52 = .ok (.lushr, 1) := by decide +kernel
theorem dJ13_bitCount_95d88_53 : decode cJ13_bitCount_95d88 53 = .ok (.ladd, 1) := by decide +kernel
theorem dJ13_bitCount_95d88_54 : decode cJ13_bitCount_95d88 54 = .ok (.lstore_n 0, 1) := by decide +kernel
theorem dJ13_bitCount_95d88_55 : decode cJ13_bitCount_95d88 55 = .ok (.lload_n 0, 1) := by decide +kernel
theorem dJ13_bitCount_95d88_56 : decode cJ13_bitCount_95d88 56 = .ok (.l2i, 1) := by decide +kernel
theorem dJ13_bitCount_95d88_57 : decode cJ13_bitCount_95d88 57 = .ok (.bipush 127, 2) := by decide +kernel
theorem dJ13_bitCount_95d88_59 : decode cJ13_bitCount_95d88 59 = .ok (.iand, 1) := by decide +kernel
theorem dJ13_bitCount_95d88_60 : decode cJ13_bitCount_95d88 60 = .ok (.ireturn, 1) := by decide +kernel
theorem dJ9_max_7cf53_0 : decode cJ9_max_7cf53 0 = .ok (.iload_n 0, 1) := by decide +kernel
theorem dJ9_max_7cf53_1 : decode cJ9_max_7cf53 1 = .ok (.iload_n 1, 1) := by decide +kernel
theorem dJ9_max_7cf53_2 : decode cJ9_max_7cf53 2 = .ok (.if_icmp .lt 7, 3) := by decide +kernel
theorem dJ9_max_7cf53_5 : decode cJ9_max_7cf53 5 = .ok (.iload_n 0, 1) := by decide +kernel
theorem dJ9_max_7cf53_6 : decode cJ9_max_7cf53 6 = .ok (.goto 4, 3) := by decide +kernel
theorem dJ9_max_7cf53_9 : decode cJ9_max_7cf53 9 = .ok (.iload_n 1, 1) := by decide +kernel
theorem dJ9_max_7cf53_10 : decode cJ9_max_7cf53 10 = .ok (.ireturn, 1) := by decide +kernel
theorem dJ9_min_7cf53_0 : decode cJ9_min_7cf53 0 = .ok (.iload_n 0, 1) := by decide +kernel
theorem dJ9_min_7cf53_1 : decode cJ9_min_7cf53 1 = .ok (.iload_n 1, 1) := by decide +kernel
theorem dJ9_min_7cf53_2 : decode cJ9_min_7cf53 2 = .ok (.if_icmp .gt 7, 3) := by decide +kernel
theorem dJ9_min_7cf53_5 : decode cJ9_min_7cf53 5 = .ok (.iload_n 0, 1) := by decide +kernel
theorem dJ9_min_7cf53_6 : decode cJ9_min_7cf53 6 = .ok (.goto 4, 3) := by decide +kernel
theorem dJ9_min_7cf53_9 : decode cJ9_min_7cf53 9 = .ok (.iload_n 1, 1) := by decide +kernel
theorem dJ9_min_7cf53_10 : decode cJ9_min_7cf53 10 = .ok (.ireturn, 1) := by decide +kernel
set_option maxRecDepth 20000 in
theorem ggJ0_length_8abf5_J0_coder_7d493 : GoodIn wsJ0_length_8abf5 wsJ0_coder_7d493 := goodIn_r _ [6, 7, 8] (by decide +kernel) (by decide +kernel)
set_option maxRecDepth 20000 in
theorem gJ0_length_8abf5_J0_coder_7d493 : GoodIn wsJ0_length_8abf5 (wsV RJ0 335 RJ0 yJ0_coder_7d493 wsJ0_coder_7d493) := goodIn_app (goodIn_of _ (by decide +kernel)) ggJ0_length_8abf5_J0_coder_7d493
theorem dJ0_length_8abf5_0 : decode cJ0_length_8abf5 0 = .ok (.aload_n 0, 1) := by decide +kernel
theorem dJ0_length_8abf5_1 : decode cJ0_length_8abf5 1 = .ok (.getfield 9, 3) := by decide +kernel
theorem dJ0_length_8abf5_4 : decode cJ0_length_8abf5 4 = .ok (.arraylength, 1) := by decide +kernel
theorem dJ0_length_8abf5_5 : decode cJ0_length_8abf5 5 = .ok (.aload_n 0, 1) := by decide +kernel
theorem dJ0_length_8abf5_6 : decode cJ0_length_8abf5 6 = .ok (.invokevirtual 335, 3) := by decide +kernel
theorem dJ0_length_8abf5_9 : decode cJ0_length_8abf5 9 = .ok (.ishr, 1) := by decide +kernel
theorem dJ0_length_8abf5_10 : decode cJ0_length_8abf5 10 = .ok (.ireturn, 1) := by decide +kernel
set_option maxRecDepth 20000 in
theorem ggJ0_charAt_5068e_J0_isLatin1_aae02 : GoodIn wsJ0_charAt_5068e wsJ0_isLatin1_aae02 := goodIn_r _ [6, 7, 8] (by decide +kernel) (by decide +kernel)
set_option maxRecDepth 20000 in
theorem gJ0_charAt_5068e_J0_isLatin1_aae02 : GoodIn wsJ0_charAt_5068e (wsV RJ0 492 RJ0 yJ0_isLatin1_aae02 wsJ0_isLatin1_aae02) := goodIn_app (goodIn_of _ (by decide +kernel)) ggJ0_charAt_5068e_J0_isLatin1_aae02
set_option maxRecDepth 20000 in
theorem ggJ0_charAt_5068e_J1_charAt_3b067 : GoodIn wsJ0_charAt_5068e wsJ1_charAt_3b067 := goodIn_r _ [12, 13, 14, 5, 15, 16, 17, 18, 19, 20] (by decide +kernel) (by decide +kernel)
set_option maxRecDepth 20000 in
theorem gJ0_charAt_5068e_J1_charAt_3b067 : GoodIn wsJ0_charAt_5068e (va_wsS RJ0 495 yJ1_charAt_3b067 wsJ1_charAt_3b067) := goodIn_app (goodIn_of _ (by decide +kernel)) ggJ0_charAt_5068e_J1_charAt_3b067
set_option maxRecDepth 20000 in
theorem ggJ0_charAt_5068e_J2_charAt_3b067 : GoodIn wsJ0_charAt_5068e wsJ2_charAt_3b067 := goodIn_r _ [24, 25, 26, 23, 27, 28, 29, 30, 31, 14, 5, 15, 16, 17, 18, 19, 20, 32, 33, 34, 35, 36, 37] (by decide +kernel) (by decide +kernel)
set_option maxRecDepth 20000 in
theorem gJ0_charAt_5068e_J2_charAt_3b067 : GoodIn wsJ0_charAt_5068e (va_wsS RJ0 498 yJ2_charAt_3b067 wsJ2_charAt_3b067) := goodIn_app (goodIn_of _ (by decide +kernel)) ggJ0_charAt_5068e_J2_charAt_3b067
theorem dJ0_charAt_5068e_0 : decode cJ0_charAt_5068e 0 = .ok (.aload_n 0, 1) := by decide +kernel
theorem dJ0_charAt_5068e_1 : decode cJ0_charAt_5068e 1 = .ok (.invokevirtual 492, 3) := by decide +kernel
theorem dJ0_charAt_5068e_4 : decode cJ0_charAt_5068e 4 = .ok (.ifCond .eq 12, 3) := by decide +kernel
theorem dJ0_charAt_5068e_7 : decode cJ0_charAt_5068e 7 = .ok (.aload_n 0, 1) := by decide +kernel
theorem dJ0_charAt_5068e_8 : decode cJ0_charAt_5068e 8 = .ok (.getfield 9, 3) := by decide +kernel
theorem dJ0_charAt_5068e_11 : decode cJ0_charAt_5068e 11 = .ok (.iload_n 1, 1) := by decide +kernel
theorem dJ0_charAt_5068e_12 : decode cJ0_charAt_5068e 12 = .ok (.invokestatic 495, 3) := by decide +kernel
theorem dJ0_charAt_5068e_15 : decode cJ0_charAt_5068e 15 = .ok (.ireturn, 1) := by decide +kernel
theorem dJ0_charAt_5068e_16 : decode cJ0_charAt_5068e 16 = .ok (.aload_n 0, 1) := by decide +kernel
theorem dJ0_charAt_5068e_17 : decode cJ0_charAt_5068e 17 = .ok (.getfield 9, 3) := by decide +kernel
theorem dJ0_charAt_5068e_20 : decode cJ0_charAt_5068e 20 = .ok (.iload_n 1, 1) := by decide +kernel
theorem dJ0_charAt_5068e_21 : decode cJ0_charAt_5068e 21 = .ok (.invokestatic 498, 3) := by decide +kernel
theorem dJ0_charAt_5068e_24 : decode cJ0_charAt_5068e 24 = .ok (.ireturn, 1) := by decide +kernel
theorem dJ0_coder_7d493_0 : decode cJ0_coder_7d493 0 = .ok (.getstatic 38, 3) := by decide +kernel
theorem dJ0_coder_7d493_3 : decode cJ0_coder_7d493 3 = .ok (.ifCond .eq 10, 3) := by decide +kernel
theorem dJ0_coder_7d493_6 : decode cJ0_coder_7d493 6 = .ok (.aload_n 0, 1) := by decide +kernel
theorem dJ0_coder_7d493_7 : decode cJ0_coder_7d493 7 = .ok (.getfield 15, 3) := by decide +kernel
theorem dJ0_coder_7d493_10 : decode cJ0_coder_7d493 10 = .ok (.goto 4, 3) := by decide +kernel
theorem dJ0_coder_7d493_13 : decode cJ0_coder_7d493 13 = .ok (.iconst 1, 1) := by decide +kernel
theorem dJ0_coder_7d493_14 : decode cJ0_coder_7d493 14 = .ok (.ireturn, 1) := by decide +kernel
theorem dJ0_isLatin1_aae02_0 : decode cJ0_isLatin1_aae02 0 = .ok (.getstatic 38, 3) := by decide +kernel
theorem dJ0_isLatin1_aae02_3 : decode cJ0_isLatin1_aae02 3 = .ok (.ifCond .eq 14, 3) := by decide +kernel
theorem dJ0_isLatin1_aae02_6 : decode cJ0_isLatin1_aae02 6 = .ok (.aload_n 0, 1) := by decide +kernel
theorem dJ0_isLatin1_aae02_7 : decode cJ0_isLatin1_aae02 7 = .ok (.getfield 15, 3) := by decide +kernel
theorem dJ0_isLatin1_aae02_10 : decode cJ0_isLatin1_aae02 10 = .ok (.ifCond .ne 7, 3) := by decide +kernel
theorem dJ0_isLatin1_aae02_13 : decode cJ0_isLatin1_aae02 13 = .ok (.iconst 1, 1) := by decide +kernel
theorem dJ0_isLatin1_aae02_14 : decode cJ0_isLatin1_aae02 14 = .ok (.goto 4, 3) := by decide +kernel
theorem dJ0_isLatin1_aae02_17 : decode cJ0_isLatin1_aae02 17 = .ok (.iconst 0, 1) := by decide +kernel
theorem dJ0_isLatin1_aae02_18 : decode cJ0_isLatin1_aae02 18 = .ok (.ireturn, 1) := by decide +kernel
set_option maxRecDepth 20000 in
theorem ggJ0_checkIndex_df160_J3_checkIndex_8e157 : GoodIn wsJ0_checkIndex_df160 wsJ3_checkIndex_8e157 := goodIn_r _ [5] (by decide +kernel) (by decide +kernel)
set_option maxRecDepth 20000 in
theorem gJ0_checkIndex_df160_J3_checkIndex_8e157 : GoodIn wsJ0_checkIndex_df160 (va_wsS RJ0 1059 yJ3_checkIndex_8e157 wsJ3_checkIndex_8e157) := goodIn_app (goodIn_of _ (by decide +kernel)) ggJ0_checkIndex_df160_J3_checkIndex_8e157
theorem dJ0_checkIndex_df160_0 : decode cJ0_checkIndex_df160 0 = .ok (.iload_n 0, 1) := by decide +kernel
theorem dJ0_checkIndex_df160_1 : decode cJ0_checkIndex_df160 1 = .ok (.iload_n 1, 1) := by decide +kernel
theorem dJ0_checkIndex_df160_2 : decode cJ0_checkIndex_df160 2 = .ok (.getstatic 1053, 3) := by decide +kernel
theorem dJ0_checkIndex_df160_5 : decode cJ0_checkIndex_df160 5 = .ok (.invokestatic 1059, 3) := by decide +kernel
theorem dJ0_checkIndex_df160_8 : decode cJ0_checkIndex_df160 8 = .ok (.pop, 1) := by decide +kernel
theorem dJ0_checkIndex_df160_9 : decode cJ0_checkIndex_df160 9 = .ok (.return_, 1) := by decide +kernel
set_option maxRecDepth 20000 in
theorem ggJ1_charAt_3b067_J0_checkIndex_df160 : GoodIn wsJ1_charAt_3b067 wsJ0_checkIndex_df160 := goodIn_r _ [4, 5, 6, 7, 8, 9] (by decide +kernel) (by decide +kernel)
set_option maxRecDepth 20000 in
theorem gJ1_charAt_3b067_J0_checkIndex_df160 : GoodIn wsJ1_charAt_3b067 (va_wsS RJ1 9 yJ0_checkIndex_df160 wsJ0_checkIndex_df160) := goodIn_app (goodIn_of _ (by decide +kernel)) ggJ1_charAt_3b067_J0_checkIndex_df160
theorem dJ1_charAt_3b067_0 : decode cJ1_charAt_3b067 0 = .ok (.iload_n 1, 1) := by decide +kernel
theorem dJ1_charAt_3b067_1 : decode cJ1_charAt_3b067 1 = .ok (.aload_n 0, 1) := by decide +kernel
theorem dJ1_charAt_3b067_2 : decode cJ1_charAt_3b067 2 = .ok (.arraylength, 1) := by decide +kernel
theorem dJ1_charAt_3b067_3 : decode cJ1_charAt_3b067 3 = .ok (.invokestatic 9, 3) := by decide +kernel
theorem dJ1_charAt_3b067_6 : decode cJ1_charAt_3b067 6 = .ok (.aload_n 0, 1) := by decide +kernel
theorem dJ1_charAt_3b067_7 : decode cJ1_charAt_3b067 7 = .ok (.iload_n 1, 1) := by decide +kernel
theorem dJ1_charAt_3b067_8 : decode cJ1_charAt_3b067 8 = .ok (.baload, 1) := by decide +kernel
theorem dJ1_charAt_3b067_9 : decode cJ1_charAt_3b067 9 = .ok (.sipush 255, 3) := by decide +kernel
theorem dJ1_charAt_3b067_12 : decode cJ1_charAt_3b067 12 = .ok (.iand, 1) := by decide +kernel
theorem dJ1_charAt_3b067_13 : decode cJ1_charAt_3b067 13 = .ok (.i2c, 1) := by decide +kernel
theorem dJ1_charAt_3b067_14 : decode cJ1_charAt_3b067 14 = .ok (.ireturn, 1) := by decide +kernel
set_option maxRecDepth 20000 in
theorem ggJ2_getChar_3b067_J2_length_9d52b : GoodIn wsJ2_getChar_3b067 wsJ2_length_9d52b := goodIn_r _ [7] (by decide +kernel) (by decide +kernel)
set_option maxRecDepth 20000 in
theorem gJ2_getChar_3b067_J2_length_9d52b : GoodIn wsJ2_getChar_3b067 (va_wsS RJ2 48 yJ2_length_9d52b wsJ2_length_9d52b) := goodIn_app (goodIn_of _ (by decide +kernel)) ggJ2_getChar_3b067_J2_length_9d52b
theorem dJ2_getChar_3b067_0 : decode cJ2_getChar_3b067 0 = .ok (.getstatic 44, 3) := by decide +kernel
theorem dJ2_getChar_3b067_3 : decode cJ2_getChar_3b067 3 = .ok (.ifCond .ne 25, 3) := by decide +kernel
theorem dJ2_getChar_3b067_6 : decode cJ2_getChar_3b067 6 = .ok (.iload_n 1, 1) := by decide +kernel
theorem dJ2_getChar_3b067_7 : decode cJ2_getChar_3b067 7 = .ok (.ifCond .lt 11, 3) := by decide +kernel
theorem dJ2_getChar_3b067_10 : decode cJ2_getChar_3b067 10 = .ok (.iload_n 1, 1) := by decide +kernel
theorem dJ2_getChar_3b067_11 : decode cJ2_getChar_3b067 11 = .ok (.aload_n 0, 1) := by decide +kernel
theorem dJ2_getChar_3b067_12 : decode cJ2_getChar_3b067 12 = .ok (.invokestatic 48, 3) := by decide +kernel
theorem dJ2_getChar_3b067_15 : decode cJ2_getChar_3b067 15 = .ok (.if_icmp .lt 13, 3) := by decide +kernel
theorem dJ2_getChar_3b067_18 : decode cJ2_getChar_3b067 18 = .ok (.new 52, 3) := by decide +kernel
theorem dJ2_getChar_3b067_21 : decode cJ2_getChar_3b067 21 = .ok (.dup, 1) := by decide +kernel
theorem dJ2_getChar_3b067_22 : decode cJ2_getChar_3b067 22 = .ok (.ldc 54, 2) := by decide +kernel
theorem dJ2_getChar_3b067_24 : decode cJ2_getChar_3b067 24 = .ok (.invokespecial 56, 3) := by decide +kernel
theorem dJ2_getChar_3b067_27 : decode cJ2_getChar_3b067 27 = .ok (.athrow, 1) := by decide +kernel
theorem dJ2_getChar_3b067_28 : decode cJ2_getChar_3b067 28 = .ok (.iload_n 1, 1) := by decide +kernel
theorem dJ2_getChar_3b067_29 : decode cJ2_getChar_3b067 29 = .ok (.iconst 1, 1) := by decide +kernel
theorem dJ2_getChar_3b067_30 : decode cJ2_getChar_3b067 30 = .ok (.ishl, 1) := by decide +kernel
theorem dJ2_getChar_3b067_31 : decode cJ2_getChar_3b067 31 = .ok (.istore_n 1, 1) := by decide +kernel
theorem dJ2_getChar_3b067_32 : decode cJ2_getChar_3b067 32 = .ok (.aload_n 0, 1) := by decide +kernel
theorem dJ2_getChar_3b067_33 : decode cJ2_getChar_3b067 33 = .ok (.iload_n 1, 1) := by decide +kernel
theorem dJ2_getChar_3b067_34 : decode cJ2_getChar_3b067 34 = .ok (.iinc 1 1, 3) := by decide +kernel
theorem dJ2_getChar_3b067_37 : decode cJ2_getChar_3b067 37 = .ok (.baload, 1) := by decide +kernel
theorem dJ2_getChar_3b067_38 : decode cJ2_getChar_3b067 38 = .ok (.sipush 255, 3) := by decide +kernel
theorem dJ2_getChar_3b067_41 : decode cJ2_getChar_3b067 41 = .ok (.iand, 1) := by decide +kernel
theorem dJ2_getChar_3b067_42 : decode cJ2_getChar_3b067 42 = .ok (.getstatic 59, 3) := by decide +kernel
theorem dJ2_getChar_3b067_45 : decode cJ2_getChar_3b067 45 = .ok (.ishl, 1) := by decide +kernel
theorem dJ2_getChar_3b067_46 : decode cJ2_getChar_3b067 46 = .ok (.aload_n 0, 1) := by decide +kernel
theorem dJ2_getChar_3b067_47 : decode cJ2_getChar_3b067 47 = .ok (.iload_n 1, 1) := by decide +kernel
theorem dJ2_getChar_3b067_48 : decode cJ2_getChar_3b067 48 = .ok (.baload, 1) := by decide +kernel
theorem dJ2_getChar_3b067_49 : decode cJ2_getChar_3b067 49 = .ok (.sipush 255, 3) := by decide +kernel
theorem dJ2_getChar_3b067_52 : decode cJ2_getChar_3b067 52 = .ok (.iand, 1) := by decide +kernel
theorem dJ2_getChar_3b067_53 : decode cJ2_getChar_3b067 53 = .ok (.getstatic 63, 3) := by decide +kernel
theorem dJ2_getChar_3b067_56 : decode cJ2_getChar_3b067 56 = .ok (.ishl, 1) := by decide +kernel
theorem dJ2_getChar_3b067_57 : decode cJ2_getChar_3b067 57 = .ok (.ior, 1) := by decide +kernel
theorem dJ2_getChar_3b067_58 : decode cJ2_getChar_3b067 58 = .ok (.i2c, 1) := by decide +kernel
theorem dJ2_getChar_3b067_59 : decode cJ2_getChar_3b067 59 = .ok (.ireturn, 1) := by decide +kernel
theorem dJ2_length_9d52b_0 : decode cJ2_length_9d52b 0 = .ok (.aload_n 0, 1) := by decide +kernel
theorem dJ2_length_9d52b_1 : decode cJ2_length_9d52b 1 = .ok (.arraylength, 1) := by decide +kernel
theorem dJ2_length_9d52b_2 : decode cJ2_length_9d52b 2 = .ok (.iconst 1, 1) := by decide +kernel
theorem dJ2_length_9d52b_3 : decode cJ2_length_9d52b 3 = .ok (.ishr, 1) := by decide +kernel
theorem dJ2_length_9d52b_4 : decode cJ2_length_9d52b 4 = .ok (.ireturn, 1) := by decide +kernel
set_option maxRecDepth 20000 in
theorem ggJ2_charAt_3b067_J2_checkIndex_2214a : GoodIn wsJ2_charAt_3b067 wsJ2_checkIndex_2214a := goodIn_r _ [4, 5, 6, 3, 7, 8, 9, 10, 11, 12, 13, 14, 15, 16] (by decide +kernel) (by decide +kernel)
set_option maxRecDepth 20000 in
theorem gJ2_charAt_3b067_J2_checkIndex_2214a : GoodIn wsJ2_charAt_3b067 (va_wsS RJ2 67 yJ2_checkIndex_2214a wsJ2_checkIndex_2214a) := goodIn_app (goodIn_of _ (by decide +kernel)) ggJ2_charAt_3b067_J2_checkIndex_2214a
set_option maxRecDepth 20000 in
theorem ggJ2_charAt_3b067_J2_getChar_3b067 : GoodIn wsJ2_charAt_3b067 wsJ2_getChar_3b067 := goodIn_r _ [19, 20, 21, 22, 5, 6, 3, 7] (by decide +kernel) (by decide +kernel)
set_option maxRecDepth 20000 in
theorem gJ2_charAt_3b067_J2_getChar_3b067 : GoodIn wsJ2_charAt_3b067 (va_wsS RJ2 71 yJ2_getChar_3b067 wsJ2_getChar_3b067) := goodIn_app (goodIn_of _ (by decide +kernel)) ggJ2_charAt_3b067_J2_getChar_3b067
theorem dJ2_charAt_3b067_0 : decode cJ2_charAt_3b067 0 = .ok (.iload_n 1, 1) := by decide +kernel
theorem dJ2_charAt_3b067_1 : decode cJ2_charAt_3b067 1 = .ok (.aload_n 0, 1) := by decide +kernel
theorem dJ2_charAt_3b067_2 : decode cJ2_charAt_3b067 2 = .ok (.invokestatic 67, 3) := by decide +kernel
theorem dJ2_charAt_3b067_5 : decode cJ2_charAt_3b067 5 = .ok (.aload_n 0, 1) := by decide +kernel
theorem dJ2_charAt_3b067_6 : decode cJ2_charAt_3b067 6 = .ok (.iload_n 1, 1) := by decide +kernel
theorem dJ2_charAt_3b067_7 : decode cJ2_charAt_3b067 7 = .ok (.invokestatic 71, 3) := by decide +kernel
theorem dJ2_charAt_3b067_10 : decode cJ2_charAt_3b067 10 = .ok (.ireturn, 1) := by decide +kernel
set_option maxRecDepth 20000 in
theorem ggJ2_checkIndex_2214a_J2_length_9d52b : GoodIn wsJ2_checkIndex_2214a wsJ2_length_9d52b := goodIn_r _ [4] (by decide +kernel) (by decide +kernel)
set_option maxRecDepth 20000 in
theorem gJ2_checkIndex_2214a_J2_length_9d52b : GoodIn wsJ2_checkIndex_2214a (va_wsS RJ2 48 yJ2_length_9d52b wsJ2_length_9d52b) := goodIn_app (goodIn_of _ (by decide +kernel)) ggJ2_checkIndex_2214a_J2_length_9d52b
set_option maxRecDepth 20000 in
theorem ggJ2_checkIndex_2214a_J0_checkIndex_df160 : GoodIn wsJ2_checkIndex_2214a wsJ0_checkIndex_df160 := goodIn_r _ [8, 9, 10, 11, 12, 13] (by decide +kernel) (by decide +kernel)
set_option maxRecDepth 20000 in
theorem gJ2_checkIndex_2214a_J0_checkIndex_df160 : GoodIn wsJ2_checkIndex_2214a (va_wsS RJ2 414 yJ0_checkIndex_df160 wsJ0_checkIndex_df160) := goodIn_app (goodIn_of _ (by decide +kernel)) ggJ2_checkIndex_2214a_J0_checkIndex_df160
theorem dJ2_checkIndex_2214a_0 : decode cJ2_checkIndex_2214a 0 = .ok (.iload_n 0, 1) := by decide +kernel
theorem dJ2_checkIndex_2214a_1 : decode cJ2_checkIndex_2214a 1 = .ok (.aload_n 1, 1) := by decide +kernel
theorem dJ2_checkIndex_2214a_2 : decode cJ2_checkIndex_2214a 2 = .ok (.invokestatic 48, 3) := by decide +kernel
theorem dJ2_checkIndex_2214a_5 : decode cJ2_checkIndex_2214a 5 = .ok (.invokestatic 414, 3) := by decide +kernel
theorem dJ2_checkIndex_2214a_8 : decode cJ2_checkIndex_2214a 8 = .ok (.return_, 1) := by decide +kernel
theorem dJxa1e45_init_da8c8_0 : decode cJxa1e45_init_da8c8 0 = .ok (.aload_n 0, 1) := by decide +kernel
theorem dJxa1e45_init_da8c8_1 : decode cJxa1e45_init_da8c8 1 = .ok (.invokespecial 1, 3) := by decide +kernel
theorem dJxa1e45_init_da8c8_4 : decode cJxa1e45_init_da8c8 4 = .ok (.return_, 1) := by decide +kernel
set_option maxRecDepth 20000 in
theorem ggJxc12de_init_da8c8_Jxa1e45_init_da8c8 : GoodIn wsJxc12de_init_da8c8 wsJxa1e45_init_da8c8 := goodIn_r _ [5, 6, 7, 8] (by decide +kernel) (by decide +kernel)
set_option maxRecDepth 20000 in
theorem gJxc12de_init_da8c8_Jxa1e45_init_da8c8 : GoodIn wsJxc12de_init_da8c8 (wsJxa1e45_init_da8c8) := ggJxc12de_init_da8c8_Jxa1e45_init_da8c8
theorem dJxc12de_init_da8c8_0 : decode cJxc12de_init_da8c8 0 = .ok (.aload_n 0, 1) := by decide +kernel
theorem dJxc12de_init_da8c8_1 : decode cJxc12de_init_da8c8 1 = .ok (.invokespecial 1, 3) := by decide +kernel
theorem dJxc12de_init_da8c8_4 : decode cJxc12de_init_da8c8 4 = .ok (.aload_n 0, 1) := by decide +kernel
theorem dJxc12de_init_da8c8_5 : decode cJxc12de_init_da8c8 5 = .ok (.iconst 0, 1) := by decide +kernel
theorem dJxc12de_init_da8c8_6 : decode cJxc12de_init_da8c8 6 = .ok (.putfield 7, 3) := by decide +kernel
theorem dJxc12de_init_da8c8_9 : decode cJxc12de_init_da8c8 9 = .ok (.return_, 1) := by decide +kernel
set_option maxRecDepth 20000 in
theorem ggJx4a65c_init_da8c8_Jxc12de_init_da8c8 : GoodIn wsJx4a65c_init_da8c8 wsJxc12de_init_da8c8 := goodIn_r _ [6, 7, 8, 9, 10, 11, 12, 13, 14, 15, 16, 17] (by decide +kernel) (by decide +kernel)
set_option maxRecDepth 20000 in
theorem gJx4a65c_init_da8c8_Jxc12de_init_da8c8 : GoodIn wsJx4a65c_init_da8c8 (wsJxc12de_init_da8c8) := ggJx4a65c_init_da8c8_Jxc12de_init_da8c8
theorem dJx4a65c_init_da8c8_0 : decode cJx4a65c_init_da8c8 0 = .ok (.aload_n 0, 1) := by decide +kernel
theorem dJx4a65c_init_da8c8_1 : decode cJx4a65c_init_da8c8 1 = .ok (.invokespecial 1, 3) := by decide +kernel
theorem dJx4a65c_init_da8c8_4 : decode cJx4a65c_init_da8c8 4 = .ok (.aload_n 0, 1) := by decide +kernel
theorem dJx4a65c_init_da8c8_5 : decode cJx4a65c_init_da8c8 5 = .ok (.getstatic 39, 3) := by decide +kernel
theorem dJx4a65c_init_da8c8_8 : decode cJx4a65c_init_da8c8 8 = .ok (.putfield 9, 3) := by decide +kernel
theorem dJx4a65c_init_da8c8_11 : decode cJx4a65c_init_da8c8 11 = .ok (.return_, 1) := by decide +kernel
set_option maxRecDepth 20000 in
theorem ggJx4a65c_grow_92f84_J8_newLength_cabcc : GoodIn wsJx4a65c_grow_92f84 wsJ8_newLength_cabcc := goodIn_r _ [11, 12, 4, 5, 6, 13, 14, 15, 10, 16] (by decide +kernel) (by decide +kernel)
set_option maxRecDepth 20000 in
theorem gJx4a65c_grow_92f84_J8_newLength_cabcc : GoodIn wsJx4a65c_grow_92f84 (va_wsS RJx4a65c 73 yJ8_newLength_cabcc wsJ8_newLength_cabcc) := goodIn_app (goodIn_of _ (by decide +kernel)) ggJx4a65c_grow_92f84_J8_newLength_cabcc
set_option maxRecDepth 20000 in
theorem ggJx4a65c_grow_92f84_J7_copyOf_1904c : GoodIn wsJx4a65c_grow_92f84 wsJ7_copyOf_1904c := goodIn_r _ [20, 21, 22, 23, 24, 25, 26, 19, 27, 28, 29, 30, 31, 5, 32, 33, 34, 35, 36] (by decide +kernel) (by decide +kernel)
set_option maxRecDepth 20000 in
theorem gJx4a65c_grow_92f84_J7_copyOf_1904c : GoodIn wsJx4a65c_grow_92f84 (va_wsS RJx4a65c 66 yJ7_copyOf_1904c wsJ7_copyOf_1904c) := goodIn_app (goodIn_of _ (by decide +kernel)) ggJx4a65c_grow_92f84_J7_copyOf_1904c
theorem dJx4a65c_grow_92f84_0 : decode cJx4a65c_grow_92f84 0 = .ok (.aload_n 0, 1) := by decide +kernel
theorem dJx4a65c_grow_92f84_1 : decode cJx4a65c_grow_92f84 1 = .ok (.getfield 9, 3) := by decide +kernel
theorem dJx4a65c_grow_92f84_4 : decode cJx4a65c_grow_92f84 4 = .ok (.arraylength, 1) := by decide +kernel
theorem dJx4a65c_grow_92f84_5 : decode cJx4a65c_grow_92f84 5 = .ok (.istore_n 2, 1) := by decide +kernel
theorem dJx4a65c_grow_92f84_6 : decode cJx4a65c_grow_92f84 6 = .ok (.iload_n 2, 1) := by decide +kernel
theorem dJx4a65c_grow_92f84_7 : decode cJx4a65c_grow_92f84 7 = .ok (.ifCond .gt 13, 3) := by decide +kernel
theorem dJx4a65c_grow_92f84_10 : decode cJx4a65c_grow_92f84 10 = .ok (.aload_n 0, 1) := by decide +kernel
theorem dJx4a65c_grow_92f84_11 : decode cJx4a65c_grow_92f84 11 = .ok (.getfield 9, 3) := by decide +kernel
theorem dJx4a65c_grow_92f84_14 : decode cJx4a65c_grow_92f84 14 = .ok (.getstatic 39, 3) := by decide +kernel
theorem dJx4a65c_grow_92f84_17 : decode cJx4a65c_grow_92f84 17 = .ok (.if_acmp .eq 28, 3) := by decide +kernel
theorem dJx4a65c_grow_92f84_20 : decode cJx4a65c_grow_92f84 20 = .ok (.iload_n 2, 1) := by decide +kernel
theorem dJx4a65c_grow_92f84_21 : decode cJx4a65c_grow_92f84 21 = .ok (.iload_n 1, 1) := by decide +kernel
theorem dJx4a65c_grow_92f84_22 : decode cJx4a65c_grow_92f84 22 = .ok (.iload_n 2, 1) := by decide +kernel
theorem dJx4a65c_grow_92f84_23 : decode cJx4a65c_grow_92f84 23 = .ok (.isub, 1) := by decide +kernel
theorem dJx4a65c_grow_92f84_24 : decode cJx4a65c_grow_92f84 24 = .ok (.iload_n 2, 1) := by decide +kernel
theorem dJx4a65c_grow_92f84_25 : decode cJx4a65c_grow_92f84 25 = .ok (.iconst 1, 1) := by decide +kernel
theorem dJx4a65c_grow_92f84_26 : decode cJx4a65c_grow_92f84 26 = .ok (.ishr, 1) := by decide +kernel
theorem dJx4a65c_grow_92f84_27 : decode cJx4a65c_grow_92f84 27 = .ok (.invokestatic 73, 3) := by decide +kernel
theorem dJx4a65c_grow_92f84_30 : decode cJx4a65c_grow_92f84 30 = .ok (.istore_n 3, 1) := by decide +kernel
theorem dJx4a65c_grow_92f84_31 : decode cJx4a65c_grow_92f84 31 = .ok (.aload_n 0, 1) := by decide +kernel
theorem dJx4a65c_grow_92f84_32 : decode cJx4a65c_grow_92f84 32 = .ok (.aload_n 0, 1) := by decide +kernel
theorem dJx4a65c_grow_92f84_33 : decode cJx4a65c_grow_92f84 33 = .ok (.getfield 9, 3) := by decide +kernel
theorem dJx4a65c_grow_92f84_36 : decode cJx4a65c_grow_92f84 36 = .ok (.iload_n 3, 1) := by decide +kernel
theorem dJx4a65c_grow_92f84_37 : decode cJx4a65c_grow_92f84 37 = .ok (.invokestatic 66, 3) := by decide +kernel
theorem dJx4a65c_grow_92f84_40 : decode cJx4a65c_grow_92f84 40 = .ok (.dup_x1, 1) := by decide +kernel
theorem dJx4a65c_grow_92f84_41 : decode cJx4a65c_grow_92f84 41 = .ok (.putfield 9, 3) := by decide +kernel
theorem dJx4a65c_grow_92f84_44 : decode cJx4a65c_grow_92f84 44 = .ok (.areturn, 1) := by decide +kernel
theorem dJx4a65c_grow_92f84_45 : decode cJx4a65c_grow_92f84 45 = .ok (.aload_n 0, 1) := by decide +kernel
theorem dJx4a65c_grow_92f84_46 : decode cJx4a65c_grow_92f84 46 = .ok (.bipush 10, 2) := by decide +kernel
theorem dJx4a65c_grow_92f84_48 : decode cJx4a65c_grow_92f84 48 = .ok (.iload_n 1, 1) := by decide +kernel
theorem dJx4a65c_grow_92f84_49 : decode cJx4a65c_grow_92f84 49 = .ok (.invokestatic 79, 3) := by decide +kernel
theorem dJx4a65c_grow_92f84_52 : decode cJx4a65c_grow_92f84 52 = .ok (.anewarray 7, 3) := by decide +kernel
theorem dJx4a65c_grow_92f84_55 : decode cJx4a65c_grow_92f84 55 = .ok (.dup_x1, 1) := by decide +kernel
theorem dJx4a65c_grow_92f84_56 : decode cJx4a65c_grow_92f84 56 = .ok (.putfield 9, 3) := by decide +kernel
theorem dJx4a65c_grow_92f84_59 : decode cJx4a65c_grow_92f84 59 = .ok (.areturn, 1) := by decide +kernel
set_option maxRecDepth 20000 in
theorem ggJx4a65c_grow_d5877_Jx4a65c_grow_92f84 : GoodIn wsJx4a65c_grow_d5877 wsJx4a65c_grow_92f84 := goodIn_r _ [6, 7, 8, 9, 10, 11, 12, 13, 14, 15, 16, 17, 18, 19, 20, 21, 22, 23, 24, 25, 26, 27, 28, 29, 30, 31, 32, 33, 34, 35, 36, 37, 38, 39, 40, 41, 42, 43, 44, 45] (by decide +kernel) (by decide +kernel)
set_option maxRecDepth 20000 in
theorem gJx4a65c_grow_d5877_Jx4a65c_grow_92f84 : GoodIn wsJx4a65c_grow_d5877 (wsV RJx4a65c 69 RJx4a65c yJx4a65c_grow_92f84 wsJx4a65c_grow_92f84) := goodIn_app (goodIn_of _ (by decide +kernel)) ggJx4a65c_grow_d5877_Jx4a65c_grow_92f84
theorem dJx4a65c_grow_d5877_0 : decode cJx4a65c_grow_d5877 0 = .ok (.aload_n 0, 1) := by decide +kernel
theorem dJx4a65c_grow_d5877_1 : decode cJx4a65c_grow_d5877 1 = .ok (.aload_n 0, 1) := by decide +kernel
theorem dJx4a65c_grow_d5877_2 : decode cJx4a65c_grow_d5877 2 = .ok (.getfield 48, 3) := by decide +kernel
theorem dJx4a65c_grow_d5877_5 : decode cJx4a65c_grow_d5877 5 = .ok (.iconst 1, 1) := by decide +kernel
theorem dJx4a65c_grow_d5877_6 : decode cJx4a65c_grow_d5877 6 = .ok (.iadd, 1) := by decide +kernel
theorem dJx4a65c_grow_d5877_7 : decode cJx4a65c_grow_d5877 7 = .ok (.invokevirtual 69, 3) := by decide +kernel
theorem dJx4a65c_grow_d5877_10 : decode cJx4a65c_grow_d5877 10 = .ok (.areturn, 1) := by decide +kernel
theorem dJx4a65c_size_8abf5_0 : decode cJx4a65c_size_8abf5 0 = .ok (.aload_n 0, 1) := by decide +kernel
theorem dJx4a65c_size_8abf5_1 : decode cJx4a65c_size_8abf5 1 = .ok (.getfield 48, 3) := by decide +kernel
theorem dJx4a65c_size_8abf5_4 : decode cJx4a65c_size_8abf5 4 = .ok (.ireturn, 1) := by decide +kernel
theorem dJx4a65c_elementData_915e3_0 : decode cJx4a65c_elementData_915e3 0 = .ok (.aload_n 0, 1) := by decide +kernel
theorem dJx4a65c_elementData_915e3_1 : decode cJx4a65c_elementData_915e3 1 = .ok (.getfield 9, 3) := by decide +kernel
theorem dJx4a65c_elementData_915e3_4 : decode cJx4a65c_elementData_915e3 4 = .ok (.iload_n 1, 1) := by decide +kernel
theorem dJx4a65c_elementData_915e3_5 : decode cJx4a65c_elementData_915e3 5 = .ok (.aaload, 1) := by decide +kernel
theorem dJx4a65c_elementData_915e3_6 : decode cJx4a65c_elementData_915e3 6 = .ok (.areturn, 1) := by decide +kernel
set_option maxRecDepth 20000 in
theorem ggJx4a65c_get_915e3_J15_checkIndex_7cf53 : GoodIn wsJx4a65c_get_915e3 wsJ15_checkIndex_7cf53 := goodIn_r _ [5, 6, 7, 8, 9] (by decide +kernel) (by decide +kernel)
set_option maxRecDepth 20000 in
theorem gJx4a65c_get_915e3_J15_checkIndex_7cf53 : GoodIn wsJx4a65c_get_915e3 (va_wsS RJx4a65c 118 yJ15_checkIndex_7cf53 wsJ15_checkIndex_7cf53) := goodIn_app (goodIn_of _ (by decide +kernel)) ggJx4a65c_get_915e3_J15_checkIndex_7cf53
set_option maxRecDepth 20000 in
theorem ggJx4a65c_get_915e3_Jx4a65c_elementData_915e3 : GoodIn wsJx4a65c_get_915e3 wsJx4a65c_elementData_915e3 := goodIn_r _ [14, 15, 16, 17, 18] (by decide +kernel) (by decide +kernel)
set_option maxRecDepth 20000 in
theorem gJx4a65c_get_915e3_Jx4a65c_elementData_915e3 : GoodIn wsJx4a65c_get_915e3 (wsV RJx4a65c 123 RJx4a65c yJx4a65c_elementData_915e3 wsJx4a65c_elementData_915e3) := goodIn_app (goodIn_of _ (by decide +kernel)) ggJx4a65c_get_915e3_Jx4a65c_elementData_915e3
theorem dJx4a65c_get_915e3_0 : decode cJx4a65c_get_915e3 0 = .ok (.iload_n 1, 1) := by decide +kernel
theorem dJx4a65c_get_915e3_1 : decode cJx4a65c_get_915e3 1 = .ok (.aload_n 0, 1) := by decide +kernel
theorem dJx4a65c_get_915e3_2 : decode cJx4a65c_get_915e3 2 = .ok (.getfield 48, 3) := by decide +kernel
theorem dJx4a65c_get_915e3_5 : decode cJx4a65c_get_915e3 5 = .ok (.invokestatic 118, 3) := by decide +kernel
theorem dJx4a65c_get_915e3_8 : decode cJx4a65c_get_915e3 8 = .ok (.pop, 1) := by decide +kernel
theorem dJx4a65c_get_915e3_9 : decode cJx4a65c_get_915e3 9 = .ok (.aload_n 0, 1) := by decide +kernel
theorem dJx4a65c_get_915e3_10 : decode cJx4a65c_get_915e3 10 = .ok (.iload_n 1, 1) := by decide +kernel
theorem dJx4a65c_get_915e3_11 : decode cJx4a65c_get_915e3 11 = .ok (.invokevirtual 123, 3) := by decide +kernel
theorem dJx4a65c_get_915e3_14 : decode cJx4a65c_get_915e3 14 = .ok (.areturn, 1) := by decide +kernel
set_option maxRecDepth 20000 in
theorem ggJx4a65c_add_72be8_Jx4a65c_grow_d5877 : GoodIn wsJx4a65c_add_72be8 wsJx4a65c_grow_d5877 := goodIn_r _ [6, 1, 7, 8, 9, 5, 10, 11, 12, 13, 14, 15, 16, 17, 18, 19, 20, 21, 22, 23, 24, 25, 26, 27, 28, 29, 30, 31, 32, 33, 34, 35, 36, 37, 38, 39, 40, 41, 42, 43, 44, 45, 46, 47, 48, 49] (by decide +kernel) (by decide +kernel)
set_option maxRecDepth 20000 in
theorem gJx4a65c_add_72be8_Jx4a65c_grow_d5877 : GoodIn wsJx4a65c_add_72be8 (wsV RJx4a65c 129 RJx4a65c yJx4a65c_grow_d5877 wsJx4a65c_grow_d5877) := goodIn_app (goodIn_of _ (by decide +kernel)) ggJx4a65c_add_72be8_Jx4a65c_grow_d5877
theorem dJx4a65c_add_72be8_0 : decode cJx4a65c_add_72be8 0 = .ok (.iload_n 3, 1) := by decide +kernel
theorem dJx4a65c_add_72be8_1 : decode cJx4a65c_add_72be8 1 = .ok (.aload_n 2, 1) := by decide +kernel
theorem dJx4a65c_add_72be8_2 : decode cJx4a65c_add_72be8 2 = .ok (.arraylength, 1) := by decide +kernel
theorem dJx4a65c_add_72be8_3 : decode cJx4a65c_add_72be8 3 = .ok (.if_icmp .ne 8, 3) := by decide +kernel
theorem dJx4a65c_add_72be8_6 : decode cJx4a65c_add_72be8 6 = .ok (.aload_n 0, 1) := by decide +kernel
theorem dJx4a65c_add_72be8_7 : decode cJx4a65c_add_72be8 7 = .ok (.invokevirtual 129, 3) := by decide +kernel
theorem dJx4a65c_add_72be8_10 : decode cJx4a65c_add_72be8 10 = .ok (.astore_n 2, 1) := by decide +kernel
theorem dJx4a65c_add_72be8_11 : decode cJx4a65c_add_72be8 11 = .ok (.aload_n 2, 1) := by decide +kernel
theorem dJx4a65c_add_72be8_12 : decode cJx4a65c_add_72be8 12 = .ok (.iload_n 3, 1) := by decide +kernel
theorem dJx4a65c_add_72be8_13 : decode cJx4a65c_add_72be8 13 = .ok (.aload_n 1, 1) := by decide +kernel
theorem dJx4a65c_add_72be8_14 : decode cJx4a65c_add_72be8 14 = .ok (.aastore, 1) := by decide +kernel
theorem dJx4a65c_add_72be8_15 : decode cJx4a65c_add_72be8 15 = .ok (.aload_n 0, 1) := by decide +kernel
theorem dJx4a65c_add_72be8_16 : decode cJx4a65c_add_72be8 16 = .ok (.iload_n 3, 1) := by decide +kernel
theorem dJx4a65c_add_72be8_17 : decode cJx4a65c_add_72be8 17 = .ok (.iconst 1, 1) := by decide +kernel
theorem dJx4a65c_add_72be8_18 : decode cJx4a65c_add_72be8 18 = .ok (.iadd, 1) := by decide +kernel
theorem dJx4a65c_add_72be8_19 : decode cJx4a65c_add_72be8 19 = .ok (.putfield 48, 3) := by decide +kernel
theorem dJx4a65c_add_72be8_22 : decode cJx4a65c_add_72be8 22 = .ok (.return_, 1) := by decide +kernel
set_option maxRecDepth 20000 in
theorem ggJx4a65c_add_9ea2d_Jx4a65c_add_72be8 : GoodIn wsJx4a65c_add_9ea2d wsJx4a65c_add_72be8 := goodIn_r _ [9, 4, 10, 11, 12, 8, 13, 14, 15, 16, 17, 3, 18, 19, 20, 21, 22, 23, 24, 25, 26, 27, 28, 29, 30, 31, 32, 33, 34, 35, 36, 37, 38, 39, 40, 41, 42, 43, 44, 45, 46, 47, 48, 49, 50, 51, 52, 53, 54, 55] (by decide +kernel) (by decide +kernel)
set_option maxRecDepth 20000 in
theorem gJx4a65c_add_9ea2d_Jx4a65c_add_72be8 : GoodIn wsJx4a65c_add_9ea2d (wsV RJx4a65c 131 RJx4a65c yJx4a65c_add_72be8 wsJx4a65c_add_72be8) := goodIn_app (goodIn_of _ (by decide +kernel)) ggJx4a65c_add_9ea2d_Jx4a65c_add_72be8
theorem dJx4a65c_add_9ea2d_0 : decode cJx4a65c_add_9ea2d 0 = .ok (.aload_n 0, 1) := by decide +kernel
theorem dJx4a65c_add_9ea2d_1 : decode cJx4a65c_add_9ea2d 1 = .ok (.dup, 1) := by decide +kernel
theorem dJx4a65c_add_9ea2d_2 : decode cJx4a65c_add_9ea2d 2 = .ok (.getfield 63, 3) := by decide +kernel
theorem dJx4a65c_add_9ea2d_5 : decode cJx4a65c_add_9ea2d 5 = .ok (.iconst 1, 1) := by decide +kernel
theorem dJx4a65c_add_9ea2d_6 : decode cJx4a65c_add_9ea2d 6 = .ok (.iadd, 1) := by decide +kernel
theorem dJx4a65c_add_9ea2d_7 : decode cJx4a65c_add_9ea2d 7 = .ok (.putfield 63, 3) := by decide +kernel
theorem dJx4a65c_add_9ea2d_10 : decode cJx4a65c_add_9ea2d 10 = .ok (.aload_n 0, 1) := by decide +kernel
theorem dJx4a65c_add_9ea2d_11 : decode cJx4a65c_add_9ea2d 11 = .ok (.aload_n 1, 1) := by decide +kernel
theorem dJx4a65c_add_9ea2d_12 : decode cJx4a65c_add_9ea2d 12 = .ok (.aload_n 0, 1) := by decide +kernel
theorem dJx4a65c_add_9ea2d_13 : decode cJx4a65c_add_9ea2d 13 = .ok (.getfield 9, 3) := by decide +kernel
theorem dJx4a65c_add_9ea2d_16 : decode cJx4a65c_add_9ea2d 16 = .ok (.aload_n 0, 1) := by decide +kernel
theorem dJx4a65c_add_9ea2d_17 : decode cJx4a65c_add_9ea2d 17 = .ok (.getfield 48, 3) := by decide +kernel
theorem dJx4a65c_add_9ea2d_20 : decode cJx4a65c_add_9ea2d 20 = .ok (.invokevirtual 131, 3) := by decide +kernel
theorem dJx4a65c_add_9ea2d_23 : decode cJx4a65c_add_9ea2d 23 = .ok (.iconst 1, 1) := by decide +kernel
theorem dJx4a65c_add_9ea2d_24 : decode cJx4a65c_add_9ea2d 24 = .ok (.ireturn, 1) := by decide +kernel
set_option maxRecDepth 20000 in
theorem ggJ7_copyOf_1904c_J7_copyOf_6403c : GoodIn wsJ7_copyOf_1904c wsJ7_copyOf_6403c := goodIn_r _ [8, 9, 10, 11, 12, 13, 14, 15, 16, 17, 18] (by decide +kernel) (by decide +kernel)
