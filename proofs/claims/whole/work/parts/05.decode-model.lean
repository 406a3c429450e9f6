theorem dX7_init_0 : decode cX7_init 0 = .ok (.aload_n 0, 1) := by decide +kernel
theorem dX7_init_1 : decode cX7_init 1 = .ok (.invokespecial 1, 3) := by decide +kernel
theorem dX7_init_4 : decode cX7_init 4 = .ok (.aload_n 0, 1) := by decide +kernel
theorem dX7_init_5 : decode cX7_init 5 = .ok (.bipush 20, 2) := by decide +kernel
theorem dX7_init_7 : decode cX7_init 7 = .ok (.newarray .int, 2) := by decide +kernel
theorem dX7_init_9 : decode cX7_init 9 = .ok (.putfield 7, 3) := by decide +kernel
theorem dX7_init_12 : decode cX7_init 12 = .ok (.aload_n 0, 1) := by decide +kernel
theorem dX7_init_13 : decode cX7_init 13 = .ok (.bipush 6, 2) := by decide +kernel
theorem dX7_init_15 : decode cX7_init 15 = .ok (.newarray .boolean, 2) := by decide +kernel
theorem dX7_init_17 : decode cX7_init 17 = .ok (.putfield 13, 3) := by decide +kernel
theorem dX7_init_20 : decode cX7_init 20 = .ok (.aload_n 0, 1) := by decide +kernel
theorem dX7_init_21 : decode cX7_init 21 = .ok (.sipush 200, 3) := by decide +kernel
theorem dX7_init_24 : decode cX7_init 24 = .ok (.newarray .int, 2) := by decide +kernel
theorem dX7_init_26 : decode cX7_init 26 = .ok (.putfield 17, 3) := by decide +kernel
theorem dX7_init_29 : decode cX7_init 29 = .ok (.aload_n 0, 1) := by decide +kernel
theorem dX7_init_30 : decode cX7_init 30 = .ok (.sipush 200, 3) := by decide +kernel
theorem dX7_init_33 : decode cX7_init 33 = .ok (.newarray .int, 2) := by decide +kernel
theorem dX7_init_35 : decode cX7_init 35 = .ok (.putfield 20, 3) := by decide +kernel
theorem dX7_init_38 : decode cX7_init 38 = .ok (.aload_n 0, 1) := by decide +kernel
theorem dX7_init_39 : decode cX7_init 39 = .ok (.sipush 200, 3) := by decide +kernel
theorem dX7_init_42 : decode cX7_init 42 = .ok (.newarray .int, 2) := by decide +kernel
theorem dX7_init_44 : decode cX7_init 44 = .ok (.putfield 23, 3) := by decide +kernel
theorem dX7_init_47 : decode cX7_init 47 = .ok (.aload_n 0, 1) := by decide +kernel
theorem dX7_init_48 : decode cX7_init 48 = .ok (.sipush 200, 3) := by decide +kernel
theorem dX7_init_51 : decode cX7_init 51 = .ok (.newarray .int, 2) := by decide +kernel
theorem dX7_init_53 : decode cX7_init 53 = .ok (.putfield 26, 3) := by decide +kernel
theorem dX7_init_56 : decode cX7_init 56 = .ok (.aload_n 0, 1) := by decide +kernel
theorem dX7_init_57 : decode cX7_init 57 = .ok (.sipush 200, 3) := by decide +kernel
theorem dX7_init_60 : decode cX7_init 60 = .ok (.newarray .int, 2) := by decide +kernel
theorem dX7_init_62 : decode cX7_init 62 = .ok (.putfield 29, 3) := by decide +kernel
theorem dX7_init_65 : decode cX7_init 65 = .ok (.aload_n 0, 1) := by decide +kernel
theorem dX7_init_66 : decode cX7_init 66 = .ok (.sipush 200, 3) := by decide +kernel
theorem dX7_init_69 : decode cX7_init 69 = .ok (.newarray .int, 2) := by decide +kernel
theorem dX7_init_71 : decode cX7_init 71 = .ok (.putfield 32, 3) := by decide +kernel
theorem dX7_init_74 : decode cX7_init 74 = .ok (.aload_n 0, 1) := by decide +kernel
theorem dX7_init_75 : decode cX7_init 75 = .ok (.bipush 60, 2) := by decide +kernel
theorem dX7_init_77 : decode cX7_init 77 = .ok (.newarray .int, 2) := by decide +kernel
theorem dX7_init_79 : decode cX7_init 79 = .ok (.putfield 35, 3) := by decide +kernel
theorem dX7_init_82 : decode cX7_init 82 = .ok (.aload_n 0, 1) := by decide +kernel
theorem dX7_init_83 : decode cX7_init 83 = .ok (.bipush 60, 2) := by decide +kernel
theorem dX7_init_85 : decode cX7_init 85 = .ok (.newarray .int, 2) := by decide +kernel
theorem dX7_init_87 : decode cX7_init 87 = .ok (.putfield 38, 3) := by decide +kernel
theorem dX7_init_90 : decode cX7_init 90 = .ok (.aload_n 0, 1) := by decide +kernel
theorem dX7_init_91 : decode cX7_init 91 = .ok (.bipush 60, 2) := by decide +kernel
theorem dX7_init_93 : decode cX7_init 93 = .ok (.newarray .int, 2) := by decide +kernel
theorem dX7_init_95 : decode cX7_init 95 = .ok (.putfield 41, 3) := by decide +kernel
theorem dX7_init_98 : decode cX7_init 98 = .ok (.aload_n 0, 1) := by decide +kernel
theorem dX7_init_99 : decode cX7_init 99 = .ok (.bipush 60, 2) := by decide +kernel
theorem dX7_init_101 : decode cX7_init 101 = .ok (.newarray .int, 2) := by decide +kernel
theorem dX7_init_103 : decode cX7_init 103 = .ok (.putfield 44, 3) := by decide +kernel
theorem dX7_init_106 : decode cX7_init 106 = .ok (.aload_n 0, 1) := by decide +kernel
theorem dX7_init_107 : decode cX7_init 107 = .ok (.bipush 60, 2) := by decide +kernel
theorem dX7_init_109 : decode cX7_init 109 = .ok (.newarray .int, 2) := by decide +kernel
theorem dX7_init_111 : decode cX7_init 111 = .ok (.putfield 47, 3) := by decide +kernel
theorem dX7_init_114 : decode cX7_init 114 = .ok (.aload_n 0, 1) := by decide +kernel
theorem dX7_init_115 : decode cX7_init 115 = .ok (.bipush 60, 2) := by decide +kernel
theorem dX7_init_117 : decode cX7_init 117 = .ok (.newarray .int, 2) := by decide +kernel
theorem dX7_init_119 : decode cX7_init 119 = .ok (.putfield 50, 3) := by decide +kernel
theorem dX7_init_122 : decode cX7_init 122 = .ok (.aload_n 0, 1) := by decide +kernel
theorem dX7_init_123 : decode cX7_init 123 = .ok (.bipush 60, 2) := by decide +kernel
theorem dX7_init_125 : decode cX7_init 125 = .ok (.newarray .int, 2) := by decide +kernel
theorem dX7_init_127 : decode cX7_init 127 = .ok (.putfield 53, 3) := by decide +kernel
theorem dX7_init_130 : decode cX7_init 130 = .ok (.aload_n 0, 1) := by decide +kernel
theorem dX7_init_131 : decode cX7_init 131 = .ok (.sipush 4000, 3) := by decide +kernel
theorem dX7_init_134 : decode cX7_init 134 = .ok (.newarray .int, 2) := by decide +kernel
theorem dX7_init_136 : decode cX7_init 136 = .ok (.putfield 56, 3) := by decide +kernel
theorem dX7_init_139 : decode cX7_init 139 = .ok (.aload_n 0, 1) := by decide +kernel
theorem dX7_init_140 : decode cX7_init 140 = .ok (.sipush 4000, 3) := by decide +kernel
theorem dX7_init_143 : decode cX7_init 143 = .ok (.newarray .int, 2) := by decide +kernel
theorem dX7_init_145 : decode cX7_init 145 = .ok (.putfield 59, 3) := by decide +kernel
theorem dX7_init_148 : decode cX7_init 148 = .ok (.aload_n 0, 1) := by decide +kernel
theorem dX7_init_149 : decode cX7_init 149 = .ok (.sipush 4000, 3) := by decide +kernel
theorem dX7_init_152 : decode cX7_init 152 = .ok (.newarray .int, 2) := by decide +kernel
theorem dX7_init_154 : decode cX7_init 154 = .ok (.putfield 62, 3) := by decide +kernel
theorem dX7_init_157 : decode cX7_init 157 = .ok (.aload_n 0, 1) := by decide +kernel
theorem dX7_init_158 : decode cX7_init 158 = .ok (.bipush 6, 2) := by decide +kernel
theorem dX7_init_160 : decode cX7_init 160 = .ok (.newarray .int, 2) := by decide +kernel
theorem dX7_init_162 : decode cX7_init 162 = .ok (.putfield 65, 3) := by decide +kernel
theorem dX7_init_165 : decode cX7_init 165 = .ok (.aload_n 0, 1) := by decide +kernel
theorem dX7_init_166 : decode cX7_init 166 = .ok (.bipush 6, 2) := by decide +kernel
theorem dX7_init_168 : decode cX7_init 168 = .ok (.newarray .int, 2) := by decide +kernel
theorem dX7_init_170 : decode cX7_init 170 = .ok (.putfield 68, 3) := by decide +kernel
theorem dX7_init_173 : decode cX7_init 173 = .ok (.aload_n 0, 1) := by decide +kernel
theorem dX7_init_174 : decode cX7_init 174 = .ok (.bipush 6, 2) := by decide +kernel
theorem dX7_init_176 : decode cX7_init 176 = .ok (.newarray .boolean, 2) := by decide +kernel
theorem dX7_init_178 : decode cX7_init 178 = .ok (.putfield 71, 3) := by decide +kernel
theorem dX7_init_181 : decode cX7_init 181 = .ok (.aload_n 0, 1) := by decide +kernel
theorem dX7_init_182 : decode cX7_init 182 = .ok (.bipush 6, 2) := by decide +kernel
theorem dX7_init_184 : decode cX7_init 184 = .ok (.newarray .int, 2) := by decide +kernel
theorem dX7_init_186 : decode cX7_init 186 = .ok (.putfield 74, 3) := by decide +kernel
theorem dX7_init_189 : decode cX7_init 189 = .ok (.aload_n 0, 1) := by decide +kernel
theorem dX7_init_190 : decode cX7_init 190 = .ok (.bipush 8, 2) := by decide +kernel
theorem dX7_init_192 : decode cX7_init 192 = .ok (.newarray .int, 2) := by decide +kernel
theorem dX7_init_194 : decode cX7_init 194 = .ok (.putfield 77, 3) := by decide +kernel
theorem dX7_init_197 : decode cX7_init 197 = .ok (.iconst 0, 1) := by decide +kernel
theorem dX7_init_198 : decode cX7_init 198 = .ok (.istore_n 1, 1) := by decide +kernel
theorem dX7_init_199 : decode cX7_init 199 = .ok (.iload_n 1, 1) := by decide +kernel
theorem dX7_init_200 : decode cX7_init 200 = .ok (.bipush 20, 2) := by decide +kernel
theorem dX7_init_202 : decode cX7_init 202 = .ok (.if_icmp .ge 16, 3) := by decide +kernel
theorem dX7_init_205 : decode cX7_init 205 = .ok (.aload_n 0, 1) := by decide +kernel
theorem dX7_init_206 : decode cX7_init 206 = .ok (.getfield 7, 3) := by decide +kernel
theorem dX7_init_209 : decode cX7_init 209 = .ok (.iload_n 1, 1) := by decide +kernel
theorem dX7_init_210 : decode cX7_init 210 = .ok (.iconst (-1), 1) := by decide +kernel
theorem dX7_init_211 : decode cX7_init 211 = .ok (.iastore, 1) := by decide +kernel
theorem dX7_init_212 : decode cX7_init 212 = .ok (.iinc 1 1, 3) := by decide +kernel
theorem dX7_init_215 : decode cX7_init 215 = .ok (.goto (-16), 3) := by decide +kernel
theorem dX7_init_218 : decode cX7_init 218 = .ok (.iconst 0, 1) := by decide +kernel
theorem dX7_init_219 : decode cX7_init 219 = .ok (.istore_n 1, 1) := by decide +kernel
theorem dX7_init_220 : decode cX7_init 220 = .ok (.iload_n 1, 1) := by decide +kernel
theorem dX7_init_221 : decode cX7_init 221 = .ok (.sipush 200, 3) := by decide +kernel
theorem dX7_init_224 : decode cX7_init 224 = .ok (.if_icmp .ge 50, 3) := by decide +kernel
theorem dX7_init_227 : decode cX7_init 227 = .ok (.aload_n 0, 1) := by decide +kernel
theorem dX7_init_228 : decode cX7_init 228 = .ok (.getfield 17, 3) := by decide +kernel
theorem dX7_init_231 : decode cX7_init 231 = .ok (.iload_n 1, 1) := by decide +kernel
theorem dX7_init_232 : decode cX7_init 232 = .ok (.iconst (-1), 1) := by decide +kernel
theorem dX7_init_233 : decode cX7_init 233 = .ok (.iastore, 1) := by decide +kernel
theorem dX7_init_234 : decode cX7_init 234 = .ok (.aload_n 0, 1) := by decide +kernel
theorem dX7_init_235 : decode cX7_init 235 = .ok (.getfield 32, 3) := by decide +kernel
theorem dX7_init_238 : decode cX7_init 238 = .ok (.iload_n 1, 1) := by decide +kernel
theorem dX7_init_239 : decode cX7_init 239 = .ok (.iconst (-1), 1) := by decide +kernel
theorem dX7_init_240 : decode cX7_init 240 = .ok (.iastore, 1) := by decide +kernel
theorem dX7_init_241 : decode cX7_init 241 = .ok (.aload_n 0, 1) := by decide +kernel
theorem dX7_init_242 : decode cX7_init 242 = .ok (.getfield 23, 3) := by decide +kernel
theorem dX7_init_245 : decode cX7_init 245 = .ok (.iload_n 1, 1) := by decide +kernel
theorem dX7_init_246 : decode cX7_init 246 = .ok (.sipush (-1000), 3) := by decide +kernel
theorem dX7_init_249 : decode cX7_init 249 = .ok (.iastore, 1) := by decide +kernel
theorem dX7_init_250 : decode cX7_init 250 = .ok (.aload_n 0, 1) := by decide +kernel
theorem dX7_init_251 : decode cX7_init 251 = .ok (.getfield 26, 3) := by decide +kernel
theorem dX7_init_254 : decode cX7_init 254 = .ok (.iload_n 1, 1) := by decide +kernel
theorem dX7_init_255 : decode cX7_init 255 = .ok (.sipush (-1000), 3) := by decide +kernel
theorem dX7_init_258 : decode cX7_init 258 = .ok (.iastore, 1) := by decide +kernel
theorem dX7_init_259 : decode cX7_init 259 = .ok (.aload_n 0, 1) := by decide +kernel
theorem dX7_init_260 : decode cX7_init 260 = .ok (.getfield 29, 3) := by decide +kernel
theorem dX7_init_263 : decode cX7_init 263 = .ok (.iload_n 1, 1) := by decide +kernel
theorem dX7_init_264 : decode cX7_init 264 = .ok (.sipush (-1000), 3) := by decide +kernel
theorem dX7_init_267 : decode cX7_init 267 = .ok (.iastore, 1) := by decide +kernel
theorem dX7_init_268 : decode cX7_init 268 = .ok (.iinc 1 1, 3) := by decide +kernel
theorem dX7_init_271 : decode cX7_init 271 = .ok (.goto (-51), 3) := by decide +kernel
theorem dX7_init_274 : decode cX7_init 274 = .ok (.return_, 1) := by decide +kernel
theorem dX7_thrown_0 : decode cX7_thrown 0 = .ok (.aload_n 0, 1) := by decide +kernel
theorem dX7_thrown_1 : decode cX7_thrown 1 = .ok (.getfield 80, 3) := by decide +kernel
theorem dX7_thrown_4 : decode cX7_thrown 4 = .ok (.ireturn, 1) := by decide +kernel
theorem dX7_in_0 : decode cX7_in 0 = .ok (.iload_n 0, 1) := by decide +kernel
theorem dX7_in_1 : decode cX7_in 1 = .ok (.iload_n 1, 1) := by decide +kernel
theorem dX7_in_2 : decode cX7_in 2 = .ok (.if_icmp .lt 12, 3) := by decide +kernel
theorem dX7_in_5 : decode cX7_in 5 = .ok (.iload_n 0, 1) := by decide +kernel
theorem dX7_in_6 : decode cX7_in 6 = .ok (.iload_n 2, 1) := by decide +kernel
theorem dX7_in_7 : decode cX7_in 7 = .ok (.if_icmp .gt 7, 3) := by decide +kernel
theorem dX7_in_10 : decode cX7_in 10 = .ok (.iconst 1, 1) := by decide +kernel
theorem dX7_in_11 : decode cX7_in 11 = .ok (.goto 4, 3) := by decide +kernel
theorem dX7_in_14 : decode cX7_in 14 = .ok (.iconst 0, 1) := by decide +kernel
theorem dX7_in_15 : decode cX7_in 15 = .ok (.ireturn, 1) := by decide +kernel
theorem dX7_isFirm_0 : decode cX7_isFirm 0 = .ok (.iload_n 0, 1) := by decide +kernel
theorem dX7_isFirm_1 : decode cX7_isFirm 1 = .ok (.iconst 0, 1) := by decide +kernel
theorem dX7_isFirm_2 : decode cX7_isFirm 2 = .ok (.iconst 5, 1) := by decide +kernel
theorem dX7_isFirm_3 : decode cX7_isFirm 3 = .ok (.invokestatic 84, 3) := by decide +kernel
theorem dX7_isFirm_6 : decode cX7_isFirm 6 = .ok (.ireturn, 1) := by decide +kernel
theorem dX7_isNumber_0 : decode cX7_isNumber 0 = .ok (.iload_n 0, 1) := by decide +kernel
theorem dX7_isNumber_1 : decode cX7_isNumber 1 = .ok (.iconst 0, 1) := by decide +kernel
theorem dX7_isNumber_2 : decode cX7_isNumber 2 = .ok (.sipush 199, 3) := by decide +kernel
theorem dX7_isNumber_5 : decode cX7_isNumber 5 = .ok (.invokestatic 84, 3) := by decide +kernel
theorem dX7_isNumber_8 : decode cX7_isNumber 8 = .ok (.ireturn, 1) := by decide +kernel
theorem dX7_isBlock_0 : decode cX7_isBlock 0 = .ok (.iload_n 0, 1) := by decide +kernel
theorem dX7_isBlock_1 : decode cX7_isBlock 1 = .ok (.iconst 0, 1) := by decide +kernel
theorem dX7_isBlock_2 : decode cX7_isBlock 2 = .ok (.bipush 19, 2) := by decide +kernel
theorem dX7_isBlock_4 : decode cX7_isBlock 4 = .ok (.invokestatic 84, 3) := by decide +kernel
theorem dX7_isBlock_7 : decode cX7_isBlock 7 = .ok (.ireturn, 1) := by decide +kernel
theorem dX7_isOrder_0 : decode cX7_isOrder 0 = .ok (.iload_n 1, 1) := by decide +kernel
theorem dX7_isOrder_1 : decode cX7_isOrder 1 = .ok (.iconst 0, 1) := by decide +kernel
theorem dX7_isOrder_2 : decode cX7_isOrder 2 = .ok (.aload_n 0, 1) := by decide +kernel
theorem dX7_isOrder_3 : decode cX7_isOrder 3 = .ok (.getfield 88, 3) := by decide +kernel
theorem dX7_isOrder_6 : decode cX7_isOrder 6 = .ok (.iconst 1, 1) := by decide +kernel
theorem dX7_isOrder_7 : decode cX7_isOrder 7 = .ok (.isub, 1) := by decide +kernel
theorem dX7_isOrder_8 : decode cX7_isOrder 8 = .ok (.invokestatic 84, 3) := by decide +kernel
theorem dX7_isOrder_11 : decode cX7_isOrder 11 = .ok (.ireturn, 1) := by decide +kernel
theorem dX7_isSecret_0 : decode cX7_isSecret 0 = .ok (.iload_n 0, 1) := by decide +kernel
theorem dX7_isSecret_1 : decode cX7_isSecret 1 = .ok (.iconst 0, 1) := by decide +kernel
theorem dX7_isSecret_2 : decode cX7_isSecret 2 = .ok (.bipush 99, 2) := by decide +kernel
theorem dX7_isSecret_4 : decode cX7_isSecret 4 = .ok (.invokestatic 84, 3) := by decide +kernel
theorem dX7_isSecret_7 : decode cX7_isSecret 7 = .ok (.ireturn, 1) := by decide +kernel
theorem dX7_holderOf_0 : decode cX7_holderOf 0 = .ok (.aload_n 0, 1) := by decide +kernel
theorem dX7_holderOf_1 : decode cX7_holderOf 1 = .ok (.getfield 7, 3) := by decide +kernel
theorem dX7_holderOf_4 : decode cX7_holderOf 4 = .ok (.iload_n 1, 1) := by decide +kernel
theorem dX7_holderOf_5 : decode cX7_holderOf 5 = .ok (.bipush 10, 2) := by decide +kernel
theorem dX7_holderOf_7 : decode cX7_holderOf 7 = .ok (.idiv, 1) := by decide +kernel
theorem dX7_holderOf_8 : decode cX7_holderOf 8 = .ok (.iaload, 1) := by decide +kernel
theorem dX7_holderOf_9 : decode cX7_holderOf 9 = .ok (.ireturn, 1) := by decide +kernel
theorem dX7_isQuarantined_0 : decode cX7_isQuarantined 0 = .ok (.aload_n 0, 1) := by decide +kernel
theorem dX7_isQuarantined_1 : decode cX7_isQuarantined 1 = .ok (.getfield 91, 3) := by decide +kernel
theorem dX7_isQuarantined_4 : decode cX7_isQuarantined 4 = .ok (.aload_n 0, 1) := by decide +kernel
theorem dX7_isQuarantined_5 : decode cX7_isQuarantined 5 = .ok (.getfield 23, 3) := by decide +kernel
theorem dX7_isQuarantined_8 : decode cX7_isQuarantined 8 = .ok (.iload_n 1, 1) := by decide +kernel
theorem dX7_isQuarantined_9 : decode cX7_isQuarantined 9 = .ok (.iaload, 1) := by decide +kernel
theorem dX7_isQuarantined_10 : decode cX7_isQuarantined 10 = .ok (.isub, 1) := by decide +kernel
theorem dX7_isQuarantined_11 : decode cX7_isQuarantined 11 = .ok (.bipush 100, 2) := by decide +kernel
theorem dX7_isQuarantined_13 : decode cX7_isQuarantined 13 = .ok (.if_icmp .ge 7, 3) := by decide +kernel
theorem dX7_isQuarantined_16 : decode cX7_isQuarantined 16 = .ok (.iconst 1, 1) := by decide +kernel
theorem dX7_isQuarantined_17 : decode cX7_isQuarantined 17 = .ok (.goto 4, 3) := by decide +kernel
theorem dX7_isQuarantined_20 : decode cX7_isQuarantined 20 = .ok (.iconst 0, 1) := by decide +kernel
theorem dX7_isQuarantined_21 : decode cX7_isQuarantined 21 = .ok (.ireturn, 1) := by decide +kernel
theorem dX7_isSilent_0 : decode cX7_isSilent 0 = .ok (.aload_n 0, 1) := by decide +kernel
theorem dX7_isSilent_1 : decode cX7_isSilent 1 = .ok (.getfield 91, 3) := by decide +kernel
theorem dX7_isSilent_4 : decode cX7_isSilent 4 = .ok (.aload_n 0, 1) := by decide +kernel
theorem dX7_isSilent_5 : decode cX7_isSilent 5 = .ok (.getfield 26, 3) := by decide +kernel
theorem dX7_isSilent_8 : decode cX7_isSilent 8 = .ok (.iload_n 1, 1) := by decide +kernel
theorem dX7_isSilent_9 : decode cX7_isSilent 9 = .ok (.iaload, 1) := by decide +kernel
theorem dX7_isSilent_10 : decode cX7_isSilent 10 = .ok (.isub, 1) := by decide +kernel
theorem dX7_isSilent_11 : decode cX7_isSilent 11 = .ok (.bipush 50, 2) := by decide +kernel
theorem dX7_isSilent_13 : decode cX7_isSilent 13 = .ok (.if_icmp .ge 7, 3) := by decide +kernel
theorem dX7_isSilent_16 : decode cX7_isSilent 16 = .ok (.iconst 1, 1) := by decide +kernel
theorem dX7_isSilent_17 : decode cX7_isSilent 17 = .ok (.goto 4, 3) := by decide +kernel
theorem dX7_isSilent_20 : decode cX7_isSilent 20 = .ok (.iconst 0, 1) := by decide +kernel
theorem dX7_isSilent_21 : decode cX7_isSilent 21 = .ok (.ireturn, 1) := by decide +kernel
theorem dX7_isCalledBack_0 : decode cX7_isCalledBack 0 = .ok (.aload_n 0, 1) := by decide +kernel
theorem dX7_isCalledBack_1 : decode cX7_isCalledBack 1 = .ok (.getfield 91, 3) := by decide +kernel
theorem dX7_isCalledBack_4 : decode cX7_isCalledBack 4 = .ok (.aload_n 0, 1) := by decide +kernel
theorem dX7_isCalledBack_5 : decode cX7_isCalledBack 5 = .ok (.getfield 29, 3) := by decide +kernel
theorem dX7_isCalledBack_8 : decode cX7_isCalledBack 8 = .ok (.iload_n 1, 1) := by decide +kernel
theorem dX7_isCalledBack_9 : decode cX7_isCalledBack 9 = .ok (.iaload, 1) := by decide +kernel
theorem dX7_isCalledBack_10 : decode cX7_isCalledBack 10 = .ok (.isub, 1) := by decide +kernel
theorem dX7_isCalledBack_11 : decode cX7_isCalledBack 11 = .ok (.bipush 30, 2) := by decide +kernel
theorem dX7_isCalledBack_13 : decode cX7_isCalledBack 13 = .ok (.if_icmp .gt 7, 3) := by decide +kernel
theorem dX7_isCalledBack_16 : decode cX7_isCalledBack 16 = .ok (.iconst 1, 1) := by decide +kernel
theorem dX7_isCalledBack_17 : decode cX7_isCalledBack 17 = .ok (.goto 4, 3) := by decide +kernel
theorem dX7_isCalledBack_20 : decode cX7_isCalledBack 20 = .ok (.iconst 0, 1) := by decide +kernel
theorem dX7_isCalledBack_21 : decode cX7_isCalledBack 21 = .ok (.ireturn, 1) := by decide +kernel
theorem dX7_blocksOf_0 : decode cX7_blocksOf 0 = .ok (.iconst 0, 1) := by decide +kernel
theorem dX7_blocksOf_1 : decode cX7_blocksOf 1 = .ok (.istore_n 2, 1) := by decide +kernel
theorem dX7_blocksOf_2 : decode cX7_blocksOf 2 = .ok (.iconst 0, 1) := by decide +kernel
theorem dX7_blocksOf_3 : decode cX7_blocksOf 3 = .ok (.istore_n 3, 1) := by decide +kernel
theorem dX7_blocksOf_4 : decode cX7_blocksOf 4 = .ok (.iload_n 3, 1) := by decide +kernel
theorem dX7_blocksOf_5 : decode cX7_blocksOf 5 = .ok (.bipush 20, 2) := by decide +kernel
theorem dX7_blocksOf_7 : decode cX7_blocksOf 7 = .ok (.if_icmp .ge 27, 3) := by decide +kernel
theorem dX7_blocksOf_10 : decode cX7_blocksOf 10 = .ok (.iload_n 2, 1) := by decide +kernel
theorem dX7_blocksOf_11 : decode cX7_blocksOf 11 = .ok (.aload_n 0, 1) := by decide +kernel
theorem dX7_blocksOf_12 : decode cX7_blocksOf 12 = .ok (.getfield 7, 3) := by decide +kernel
theorem dX7_blocksOf_15 : decode cX7_blocksOf 15 = .ok (.iload_n 3, 1) := by decide +kernel
theorem dX7_blocksOf_16 : decode cX7_blocksOf 16 = .ok (.iaload, 1) := by decide +kernel
theorem dX7_blocksOf_17 : decode cX7_blocksOf 17 = .ok (.iload_n 1, 1) := by decide +kernel
theorem dX7_blocksOf_18 : decode cX7_blocksOf 18 = .ok (.if_icmp .ne 7, 3) := by decide +kernel
theorem dX7_blocksOf_21 : decode cX7_blocksOf 21 = .ok (.iconst 1, 1) := by decide +kernel
theorem dX7_blocksOf_22 : decode cX7_blocksOf 22 = .ok (.goto 4, 3) := by decide +kernel
theorem dX7_blocksOf_25 : decode cX7_blocksOf 25 = .ok (.iconst 0, 1) := by decide +kernel
theorem dX7_blocksOf_26 : decode cX7_blocksOf 26 = .ok (.iadd, 1) := by decide +kernel
theorem dX7_blocksOf_27 : decode cX7_blocksOf 27 = .ok (.istore_n 2, 1) := by decide +kernel
theorem dX7_blocksOf_28 : decode cX7_blocksOf 28 = .ok (.iinc 3 1, 3) := by decide +kernel
theorem dX7_blocksOf_31 : decode cX7_blocksOf 31 = .ok (.goto (-27), 3) := by decide +kernel
theorem dX7_blocksOf_34 : decode cX7_blocksOf 34 = .ok (.iload_n 2, 1) := by decide +kernel
theorem dX7_blocksOf_35 : decode cX7_blocksOf 35 = .ok (.ireturn, 1) := by decide +kernel
theorem dX7_give_0 : decode cX7_give 0 = .ok (.aload_n 0, 1) := by decide +kernel
theorem dX7_give_1 : decode cX7_give 1 = .ok (.iload_n 1, 1) := by decide +kernel
theorem dX7_give_2 : decode cX7_give 2 = .ok (.invokestatic 94, 3) := by decide +kernel
theorem dX7_give_5 : decode cX7_give 5 = .ok (.ifCond .eq 10, 3) := by decide +kernel
theorem dX7_give_8 : decode cX7_give 8 = .ok (.iload_n 2, 1) := by decide +kernel
theorem dX7_give_9 : decode cX7_give 9 = .ok (.invokestatic 98, 3) := by decide +kernel
theorem dX7_give_12 : decode cX7_give 12 = .ok (.ifCond .ne 7, 3) := by decide +kernel
theorem dX7_give_15 : decode cX7_give 15 = .ok (.iconst 1, 1) := by decide +kernel
theorem dX7_give_16 : decode cX7_give 16 = .ok (.goto 27, 3) := by decide +kernel
theorem dX7_give_19 : decode cX7_give 19 = .ok (.aload_n 0, 1) := by decide +kernel
theorem dX7_give_20 : decode cX7_give 20 = .ok (.getfield 7, 3) := by decide +kernel
theorem dX7_give_23 : decode cX7_give 23 = .ok (.iload_n 1, 1) := by decide +kernel
theorem dX7_give_24 : decode cX7_give 24 = .ok (.iaload, 1) := by decide +kernel
theorem dX7_give_25 : decode cX7_give 25 = .ok (.iconst (-1), 1) := by decide +kernel
theorem dX7_give_26 : decode cX7_give 26 = .ok (.if_icmp .ne 12, 3) := by decide +kernel
theorem dX7_give_29 : decode cX7_give 29 = .ok (.aload_n 0, 1) := by decide +kernel
theorem dX7_give_30 : decode cX7_give 30 = .ok (.getfield 13, 3) := by decide +kernel
theorem dX7_give_33 : decode cX7_give 33 = .ok (.iload_n 2, 1) := by decide +kernel
theorem dX7_give_34 : decode cX7_give 34 = .ok (.baload, 1) := by decide +kernel
theorem dX7_give_35 : decode cX7_give 35 = .ok (.ifCond .eq 7, 3) := by decide +kernel
theorem dX7_give_38 : decode cX7_give 38 = .ok (.iconst 2, 1) := by decide +kernel
theorem dX7_give_39 : decode cX7_give 39 = .ok (.goto 4, 3) := by decide +kernel
theorem dX7_give_42 : decode cX7_give 42 = .ok (.iconst 0, 1) := by decide +kernel
theorem dX7_give_43 : decode cX7_give 43 = .ok (.putfield 80, 3) := by decide +kernel
theorem dX7_give_46 : decode cX7_give 46 = .ok (.aload_n 0, 1) := by decide +kernel
theorem dX7_give_47 : decode cX7_give 47 = .ok (.getfield 80, 3) := by decide +kernel
theorem dX7_give_50 : decode cX7_give 50 = .ok (.ifCond .le 5, 3) := by decide +kernel
theorem dX7_give_53 : decode cX7_give 53 = .ok (.iconst 0, 1) := by decide +kernel
theorem dX7_give_54 : decode cX7_give 54 = .ok (.ireturn, 1) := by decide +kernel
theorem dX7_give_55 : decode cX7_give 55 = .ok (.aload_n 0, 1) := by decide +kernel
theorem dX7_give_56 : decode cX7_give 56 = .ok (.getfield 7, 3) := by decide +kernel
theorem dX7_give_59 : decode cX7_give 59 = .ok (.iload_n 1, 1) := by decide +kernel
theorem dX7_give_60 : decode cX7_give 60 = .ok (.iload_n 2, 1) := by decide +kernel
theorem dX7_give_61 : decode cX7_give 61 = .ok (.iastore, 1) := by decide +kernel
theorem dX7_give_62 : decode cX7_give 62 = .ok (.aload_n 0, 1) := by decide +kernel
theorem dX7_give_63 : decode cX7_give 63 = .ok (.iload_n 2, 1) := by decide +kernel
theorem dX7_give_64 : decode cX7_give 64 = .ok (.invokevirtual 101, 3) := by decide +kernel
theorem dX7_give_67 : decode cX7_give 67 = .ok (.ireturn, 1) := by decide +kernel
theorem dX7_giveBack_0 : decode cX7_giveBack 0 = .ok (.aload_n 0, 1) := by decide +kernel
theorem dX7_giveBack_1 : decode cX7_giveBack 1 = .ok (.iload_n 1, 1) := by decide +kernel
theorem dX7_giveBack_2 : decode cX7_giveBack 2 = .ok (.invokestatic 94, 3) := by decide +kernel
theorem dX7_giveBack_5 : decode cX7_giveBack 5 = .ok (.ifCond .ne 7, 3) := by decide +kernel
theorem dX7_giveBack_8 : decode cX7_giveBack 8 = .ok (.iconst 1, 1) := by decide +kernel
theorem dX7_giveBack_9 : decode cX7_giveBack 9 = .ok (.goto 18, 3) := by decide +kernel
theorem dX7_giveBack_12 : decode cX7_giveBack 12 = .ok (.aload_n 0, 1) := by decide +kernel
theorem dX7_giveBack_13 : decode cX7_giveBack 13 = .ok (.getfield 7, 3) := by decide +kernel
theorem dX7_giveBack_16 : decode cX7_giveBack 16 = .ok (.iload_n 1, 1) := by decide +kernel
theorem dX7_giveBack_17 : decode cX7_giveBack 17 = .ok (.iaload, 1) := by decide +kernel
theorem dX7_giveBack_18 : decode cX7_giveBack 18 = .ok (.iconst (-1), 1) := by decide +kernel
theorem dX7_giveBack_19 : decode cX7_giveBack 19 = .ok (.if_icmp .ne 7, 3) := by decide +kernel
theorem dX7_giveBack_22 : decode cX7_giveBack 22 = .ok (.iconst 2, 1) := by decide +kernel
theorem dX7_giveBack_23 : decode cX7_giveBack 23 = .ok (.goto 4, 3) := by decide +kernel
theorem dX7_giveBack_26 : decode cX7_giveBack 26 = .ok (.iconst 0, 1) := by decide +kernel
theorem dX7_giveBack_27 : decode cX7_giveBack 27 = .ok (.putfield 80, 3) := by decide +kernel
theorem dX7_giveBack_30 : decode cX7_giveBack 30 = .ok (.bipush 10, 2) := by decide +kernel
theorem dX7_giveBack_32 : decode cX7_giveBack 32 = .ok (.iload_n 1, 1) := by decide +kernel
theorem dX7_giveBack_33 : decode cX7_giveBack 33 = .ok (.imul, 1) := by decide +kernel
theorem dX7_giveBack_34 : decode cX7_giveBack 34 = .ok (.istore_n 2, 1) := by decide +kernel
theorem dX7_giveBack_35 : decode cX7_giveBack 35 = .ok (.aload_n 0, 1) := by decide +kernel
theorem dX7_giveBack_36 : decode cX7_giveBack 36 = .ok (.getfield 80, 3) := by decide +kernel
theorem dX7_giveBack_39 : decode cX7_giveBack 39 = .ok (.ifCond .ne 47, 3) := by decide +kernel
theorem dX7_giveBack_42 : decode cX7_giveBack 42 = .ok (.iload_n 2, 1) := by decide +kernel
theorem dX7_giveBack_43 : decode cX7_giveBack 43 = .ok (.bipush 10, 2) := by decide +kernel
theorem dX7_giveBack_45 : decode cX7_giveBack 45 = .ok (.iload_n 1, 1) := by decide +kernel
theorem dX7_giveBack_46 : decode cX7_giveBack 46 = .ok (.imul, 1) := by decide +kernel
theorem dX7_giveBack_47 : decode cX7_giveBack 47 = .ok (.bipush 10, 2) := by decide +kernel
theorem dX7_giveBack_49 : decode cX7_giveBack 49 = .ok (.iadd, 1) := by decide +kernel
theorem dX7_giveBack_50 : decode cX7_giveBack 50 = .ok (.if_icmp .ge 36, 3) := by decide +kernel
theorem dX7_giveBack_53 : decode cX7_giveBack 53 = .ok (.aload_n 0, 1) := by decide +kernel
theorem dX7_giveBack_54 : decode cX7_giveBack 54 = .ok (.aload_n 0, 1) := by decide +kernel
theorem dX7_giveBack_55 : decode cX7_giveBack 55 = .ok (.getfield 17, 3) := by decide +kernel
theorem dX7_giveBack_58 : decode cX7_giveBack 58 = .ok (.iload_n 2, 1) := by decide +kernel
theorem dX7_giveBack_59 : decode cX7_giveBack 59 = .ok (.iaload, 1) := by decide +kernel
theorem dX7_giveBack_60 : decode cX7_giveBack 60 = .ok (.iconst (-1), 1) := by decide +kernel
theorem dX7_giveBack_61 : decode cX7_giveBack 61 = .ok (.if_icmp .ne 11, 3) := by decide +kernel
theorem dX7_giveBack_64 : decode cX7_giveBack 64 = .ok (.aload_n 0, 1) := by decide +kernel
theorem dX7_giveBack_65 : decode cX7_giveBack 65 = .ok (.iload_n 2, 1) := by decide +kernel
theorem dX7_giveBack_66 : decode cX7_giveBack 66 = .ok (.invokevirtual 105, 3) := by decide +kernel
theorem dX7_giveBack_69 : decode cX7_giveBack 69 = .ok (.ifCond .eq 7, 3) := by decide +kernel
theorem dX7_giveBack_72 : decode cX7_giveBack 72 = .ok (.iconst 2, 1) := by decide +kernel
theorem dX7_giveBack_73 : decode cX7_giveBack 73 = .ok (.goto 4, 3) := by decide +kernel
theorem dX7_giveBack_76 : decode cX7_giveBack 76 = .ok (.iconst 0, 1) := by decide +kernel
theorem dX7_giveBack_77 : decode cX7_giveBack 77 = .ok (.putfield 80, 3) := by decide +kernel
theorem dX7_giveBack_80 : decode cX7_giveBack 80 = .ok (.iinc 2 1, 3) := by decide +kernel
theorem dX7_giveBack_83 : decode cX7_giveBack 83 = .ok (.goto (-48), 3) := by decide +kernel
theorem dX7_giveBack_86 : decode cX7_giveBack 86 = .ok (.aload_n 0, 1) := by decide +kernel
theorem dX7_giveBack_87 : decode cX7_giveBack 87 = .ok (.getfield 80, 3) := by decide +kernel
theorem dX7_giveBack_90 : decode cX7_giveBack 90 = .ok (.ifCond .le 5, 3) := by decide +kernel
theorem dX7_giveBack_93 : decode cX7_giveBack 93 = .ok (.iconst 0, 1) := by decide +kernel
theorem dX7_giveBack_94 : decode cX7_giveBack 94 = .ok (.ireturn, 1) := by decide +kernel
theorem dX7_giveBack_95 : decode cX7_giveBack 95 = .ok (.aload_n 0, 1) := by decide +kernel
theorem dX7_giveBack_96 : decode cX7_giveBack 96 = .ok (.getfield 7, 3) := by decide +kernel
theorem dX7_giveBack_99 : decode cX7_giveBack 99 = .ok (.iload_n 1, 1) := by decide +kernel
theorem dX7_giveBack_100 : decode cX7_giveBack 100 = .ok (.iaload, 1) := by decide +kernel
theorem dX7_giveBack_101 : decode cX7_giveBack 101 = .ok (.istore_n 2, 1) := by decide +kernel
theorem dX7_giveBack_102 : decode cX7_giveBack 102 = .ok (.aload_n 0, 1) := by decide +kernel
theorem dX7_giveBack_103 : decode cX7_giveBack 103 = .ok (.getfield 7, 3) := by decide +kernel
theorem dX7_giveBack_106 : decode cX7_giveBack 106 = .ok (.iload_n 1, 1) := by decide +kernel
theorem dX7_giveBack_107 : decode cX7_giveBack 107 = .ok (.iconst (-1), 1) := by decide +kernel
theorem dX7_giveBack_108 : decode cX7_giveBack 108 = .ok (.iastore, 1) := by decide +kernel
theorem dX7_giveBack_109 : decode cX7_giveBack 109 = .ok (.iload_n 2, 1) := by decide +kernel
theorem dX7_giveBack_110 : decode cX7_giveBack 110 = .ok (.ireturn, 1) := by decide +kernel
theorem dX7_assign_0 : decode cX7_assign 0 = .ok (.aload_n 0, 1) := by decide +kernel
theorem dX7_assign_1 : decode cX7_assign 1 = .ok (.iload_n 1, 1) := by decide +kernel
theorem dX7_assign_2 : decode cX7_assign 2 = .ok (.invokestatic 108, 3) := by decide +kernel
theorem dX7_assign_5 : decode cX7_assign 5 = .ok (.ifCond .ne 7, 3) := by decide +kernel
theorem dX7_assign_8 : decode cX7_assign 8 = .ok (.iconst 1, 1) := by decide +kernel
theorem dX7_assign_9 : decode cX7_assign 9 = .ok (.goto 46, 3) := by decide +kernel
theorem dX7_assign_12 : decode cX7_assign 12 = .ok (.iload_n 2, 1) := by decide +kernel
theorem dX7_assign_13 : decode cX7_assign 13 = .ok (.invokestatic 111, 3) := by decide +kernel
theorem dX7_assign_16 : decode cX7_assign 16 = .ok (.ifCond .ne 7, 3) := by decide +kernel
theorem dX7_assign_19 : decode cX7_assign 19 = .ok (.iconst 2, 1) := by decide +kernel
theorem dX7_assign_20 : decode cX7_assign 20 = .ok (.goto 35, 3) := by decide +kernel
theorem dX7_assign_23 : decode cX7_assign 23 = .ok (.aload_n 0, 1) := by decide +kernel
theorem dX7_assign_24 : decode cX7_assign 24 = .ok (.iload_n 1, 1) := by decide +kernel
theorem dX7_assign_25 : decode cX7_assign 25 = .ok (.invokevirtual 114, 3) := by decide +kernel
theorem dX7_assign_28 : decode cX7_assign 28 = .ok (.iconst (-1), 1) := by decide +kernel
theorem dX7_assign_29 : decode cX7_assign 29 = .ok (.if_icmp .eq 21, 3) := by decide +kernel
theorem dX7_assign_32 : decode cX7_assign 32 = .ok (.aload_n 0, 1) := by decide +kernel
theorem dX7_assign_33 : decode cX7_assign 33 = .ok (.getfield 17, 3) := by decide +kernel
theorem dX7_assign_36 : decode cX7_assign 36 = .ok (.iload_n 1, 1) := by decide +kernel
theorem dX7_assign_37 : decode cX7_assign 37 = .ok (.iaload, 1) := by decide +kernel
theorem dX7_assign_38 : decode cX7_assign 38 = .ok (.iconst (-1), 1) := by decide +kernel
theorem dX7_assign_39 : decode cX7_assign 39 = .ok (.if_icmp .ne 11, 3) := by decide +kernel
theorem dX7_assign_42 : decode cX7_assign 42 = .ok (.aload_n 0, 1) := by decide +kernel
theorem dX7_assign_43 : decode cX7_assign 43 = .ok (.iload_n 1, 1) := by decide +kernel
theorem dX7_assign_44 : decode cX7_assign 44 = .ok (.invokevirtual 105, 3) := by decide +kernel
theorem dX7_assign_47 : decode cX7_assign 47 = .ok (.ifCond .eq 7, 3) := by decide +kernel
theorem dX7_assign_50 : decode cX7_assign 50 = .ok (.iconst 3, 1) := by decide +kernel
theorem dX7_assign_51 : decode cX7_assign 51 = .ok (.goto 4, 3) := by decide +kernel
theorem dX7_assign_54 : decode cX7_assign 54 = .ok (.iconst 0, 1) := by decide +kernel
theorem dX7_assign_55 : decode cX7_assign 55 = .ok (.putfield 80, 3) := by decide +kernel
theorem dX7_assign_58 : decode cX7_assign 58 = .ok (.aload_n 0, 1) := by decide +kernel
theorem dX7_assign_59 : decode cX7_assign 59 = .ok (.getfield 80, 3) := by decide +kernel
theorem dX7_assign_62 : decode cX7_assign 62 = .ok (.ifCond .le 5, 3) := by decide +kernel
theorem dX7_assign_65 : decode cX7_assign 65 = .ok (.iconst 0, 1) := by decide +kernel
theorem dX7_assign_66 : decode cX7_assign 66 = .ok (.ireturn, 1) := by decide +kernel
theorem dX7_assign_67 : decode cX7_assign 67 = .ok (.aload_n 0, 1) := by decide +kernel
theorem dX7_assign_68 : decode cX7_assign 68 = .ok (.getfield 17, 3) := by decide +kernel
theorem dX7_assign_71 : decode cX7_assign 71 = .ok (.iload_n 1, 1) := by decide +kernel
theorem dX7_assign_72 : decode cX7_assign 72 = .ok (.aload_n 0, 1) := by decide +kernel
theorem dX7_assign_73 : decode cX7_assign 73 = .ok (.iload_n 1, 1) := by decide +kernel
theorem dX7_assign_74 : decode cX7_assign 74 = .ok (.invokevirtual 114, 3) := by decide +kernel
theorem dX7_assign_77 : decode cX7_assign 77 = .ok (.iastore, 1) := by decide +kernel
theorem dX7_assign_78 : decode cX7_assign 78 = .ok (.aload_n 0, 1) := by decide +kernel
theorem dX7_assign_79 : decode cX7_assign 79 = .ok (.getfield 32, 3) := by decide +kernel
theorem dX7_assign_82 : decode cX7_assign 82 = .ok (.iload_n 1, 1) := by decide +kernel
theorem dX7_assign_83 : decode cX7_assign 83 = .ok (.iconst (-1), 1) := by decide +kernel
theorem dX7_assign_84 : decode cX7_assign 84 = .ok (.iastore, 1) := by decide +kernel
theorem dX7_assign_85 : decode cX7_assign 85 = .ok (.aload_n 0, 1) := by decide +kernel
theorem dX7_assign_86 : decode cX7_assign 86 = .ok (.getfield 20, 3) := by decide +kernel
theorem dX7_assign_89 : decode cX7_assign 89 = .ok (.iload_n 1, 1) := by decide +kernel
theorem dX7_assign_90 : decode cX7_assign 90 = .ok (.iload_n 2, 1) := by decide +kernel
theorem dX7_assign_91 : decode cX7_assign 91 = .ok (.iastore, 1) := by decide +kernel
theorem dX7_assign_92 : decode cX7_assign 92 = .ok (.aload_n 0, 1) := by decide +kernel
theorem dX7_assign_93 : decode cX7_assign 93 = .ok (.getfield 17, 3) := by decide +kernel
theorem dX7_assign_96 : decode cX7_assign 96 = .ok (.iload_n 1, 1) := by decide +kernel
theorem dX7_assign_97 : decode cX7_assign 97 = .ok (.iaload, 1) := by decide +kernel
theorem dX7_assign_98 : decode cX7_assign 98 = .ok (.ireturn, 1) := by decide +kernel
theorem dX7_changes_0 : decode cX7_changes 0 = .ok (.aload_n 0, 1) := by decide +kernel
theorem dX7_changes_1 : decode cX7_changes 1 = .ok (.getfield 56, 3) := by decide +kernel
theorem dX7_changes_4 : decode cX7_changes 4 = .ok (.aload_n 0, 1) := by decide +kernel
theorem dX7_changes_5 : decode cX7_changes 5 = .ok (.getfield 117, 3) := by decide +kernel
theorem dX7_changes_8 : decode cX7_changes 8 = .ok (.aload_n 0, 1) := by decide +kernel
theorem dX7_changes_9 : decode cX7_changes 9 = .ok (.getfield 91, 3) := by decide +kernel
theorem dX7_changes_12 : decode cX7_changes 12 = .ok (.iastore, 1) := by decide +kernel
theorem dX7_changes_13 : decode cX7_changes 13 = .ok (.aload_n 0, 1) := by decide +kernel
theorem dX7_changes_14 : decode cX7_changes 14 = .ok (.getfield 59, 3) := by decide +kernel
theorem dX7_changes_17 : decode cX7_changes 17 = .ok (.aload_n 0, 1) := by decide +kernel
theorem dX7_changes_18 : decode cX7_changes 18 = .ok (.getfield 117, 3) := by decide +kernel
theorem dX7_changes_21 : decode cX7_changes 21 = .ok (.iload_n 1, 1) := by decide +kernel
theorem dX7_changes_22 : decode cX7_changes 22 = .ok (.iastore, 1) := by decide +kernel
theorem dX7_changes_23 : decode cX7_changes 23 = .ok (.aload_n 0, 1) := by decide +kernel
theorem dX7_changes_24 : decode cX7_changes 24 = .ok (.getfield 62, 3) := by decide +kernel
theorem dX7_changes_27 : decode cX7_changes 27 = .ok (.aload_n 0, 1) := by decide +kernel
theorem dX7_changes_28 : decode cX7_changes 28 = .ok (.getfield 117, 3) := by decide +kernel
theorem dX7_changes_31 : decode cX7_changes 31 = .ok (.iload_n 2, 1) := by decide +kernel
theorem dX7_changes_32 : decode cX7_changes 32 = .ok (.iastore, 1) := by decide +kernel
theorem dX7_changes_33 : decode cX7_changes 33 = .ok (.aload_n 0, 1) := by decide +kernel
theorem dX7_changes_34 : decode cX7_changes 34 = .ok (.dup, 1) := by decide +kernel
theorem dX7_changes_35 : decode cX7_changes 35 = .ok (.getfield 117, 3) := by decide +kernel
theorem dX7_changes_38 : decode cX7_changes 38 = .ok (.iconst 1, 1) := by decide +kernel
theorem dX7_changes_39 : decode cX7_changes 39 = .ok (.iadd, 1) := by decide +kernel
theorem dX7_changes_40 : decode cX7_changes 40 = .ok (.putfield 117, 3) := by decide +kernel
theorem dX7_changes_43 : decode cX7_changes 43 = .ok (.return_, 1) := by decide +kernel
theorem dX7_waitingFor_0 : decode cX7_waitingFor 0 = .ok (.iconst (-1), 1) := by decide +kernel
theorem dX7_waitingFor_1 : decode cX7_waitingFor 1 = .ok (.istore_n 2, 1) := by decide +kernel
theorem dX7_waitingFor_2 : decode cX7_waitingFor 2 = .ok (.iconst 0, 1) := by decide +kernel
theorem dX7_waitingFor_3 : decode cX7_waitingFor 3 = .ok (.istore_n 3, 1) := by decide +kernel
theorem dX7_waitingFor_4 : decode cX7_waitingFor 4 = .ok (.iload_n 3, 1) := by decide +kernel
theorem dX7_waitingFor_5 : decode cX7_waitingFor 5 = .ok (.aload_n 0, 1) := by decide +kernel
theorem dX7_waitingFor_6 : decode cX7_waitingFor 6 = .ok (.getfield 88, 3) := by decide +kernel
theorem dX7_waitingFor_9 : decode cX7_waitingFor 9 = .ok (.if_icmp .ge 35, 3) := by decide +kernel
theorem dX7_waitingFor_12 : decode cX7_waitingFor 12 = .ok (.aload_n 0, 1) := by decide +kernel
theorem dX7_waitingFor_13 : decode cX7_waitingFor 13 = .ok (.getfield 35, 3) := by decide +kernel
theorem dX7_waitingFor_16 : decode cX7_waitingFor 16 = .ok (.iload_n 3, 1) := by decide +kernel
theorem dX7_waitingFor_17 : decode cX7_waitingFor 17 = .ok (.iaload, 1) := by decide +kernel
theorem dX7_waitingFor_18 : decode cX7_waitingFor 18 = .ok (.iconst 1, 1) := by decide +kernel
theorem dX7_waitingFor_19 : decode cX7_waitingFor 19 = .ok (.if_icmp .ne 17, 3) := by decide +kernel
theorem dX7_waitingFor_22 : decode cX7_waitingFor 22 = .ok (.aload_n 0, 1) := by decide +kernel
theorem dX7_waitingFor_23 : decode cX7_waitingFor 23 = .ok (.getfield 41, 3) := by decide +kernel
theorem dX7_waitingFor_26 : decode cX7_waitingFor 26 = .ok (.iload_n 3, 1) := by decide +kernel
theorem dX7_waitingFor_27 : decode cX7_waitingFor 27 = .ok (.iaload, 1) := by decide +kernel
theorem dX7_waitingFor_28 : decode cX7_waitingFor 28 = .ok (.iload_n 1, 1) := by decide +kernel
theorem dX7_waitingFor_29 : decode cX7_waitingFor 29 = .ok (.if_icmp .ne 7, 3) := by decide +kernel
theorem dX7_waitingFor_32 : decode cX7_waitingFor 32 = .ok (.iload_n 3, 1) := by decide +kernel
theorem dX7_waitingFor_33 : decode cX7_waitingFor 33 = .ok (.goto 4, 3) := by decide +kernel
theorem dX7_waitingFor_36 : decode cX7_waitingFor 36 = .ok (.iload_n 2, 1) := by decide +kernel
theorem dX7_waitingFor_37 : decode cX7_waitingFor 37 = .ok (.istore_n 2, 1) := by decide +kernel
theorem dX7_waitingFor_38 : decode cX7_waitingFor 38 = .ok (.iinc 3 1, 3) := by decide +kernel
theorem dX7_waitingFor_41 : decode cX7_waitingFor 41 = .ok (.goto (-37), 3) := by decide +kernel
theorem dX7_waitingFor_44 : decode cX7_waitingFor 44 = .ok (.iload_n 2, 1) := by decide +kernel
theorem dX7_waitingFor_45 : decode cX7_waitingFor 45 = .ok (.ireturn, 1) := by decide +kernel
theorem dX7_asksNumber_0 : decode cX7_asksNumber 0 = .ok (.aload_n 0, 1) := by decide +kernel
theorem dX7_asksNumber_1 : decode cX7_asksNumber 1 = .ok (.iload_n 1, 1) := by decide +kernel
theorem dX7_asksNumber_2 : decode cX7_asksNumber 2 = .ok (.invokestatic 108, 3) := by decide +kernel
theorem dX7_asksNumber_5 : decode cX7_asksNumber 5 = .ok (.ifCond .ne 7, 3) := by decide +kernel
theorem dX7_asksNumber_8 : decode cX7_asksNumber 8 = .ok (.iconst 1, 1) := by decide +kernel
theorem dX7_asksNumber_9 : decode cX7_asksNumber 9 = .ok (.goto 4, 3) := by decide +kernel
theorem dX7_asksNumber_12 : decode cX7_asksNumber 12 = .ok (.iconst 0, 1) := by decide +kernel
theorem dX7_asksNumber_13 : decode cX7_asksNumber 13 = .ok (.putfield 80, 3) := by decide +kernel
theorem dX7_asksNumber_16 : decode cX7_asksNumber 16 = .ok (.aload_n 0, 1) := by decide +kernel
theorem dX7_asksNumber_17 : decode cX7_asksNumber 17 = .ok (.getfield 80, 3) := by decide +kernel
theorem dX7_asksNumber_20 : decode cX7_asksNumber 20 = .ok (.ifCond .ne 7, 3) := by decide +kernel
theorem dX7_asksNumber_23 : decode cX7_asksNumber 23 = .ok (.iconst 1, 1) := by decide +kernel
theorem dX7_asksNumber_24 : decode cX7_asksNumber 24 = .ok (.goto 4, 3) := by decide +kernel
theorem dX7_asksNumber_27 : decode cX7_asksNumber 27 = .ok (.iconst 0, 1) := by decide +kernel
theorem dX7_asksNumber_28 : decode cX7_asksNumber 28 = .ok (.ireturn, 1) := by decide +kernel
theorem dX7_end_0 : decode cX7_end 0 = .ok (.aload_n 0, 1) := by decide +kernel
theorem dX7_end_1 : decode cX7_end 1 = .ok (.iload_n 1, 1) := by decide +kernel
theorem dX7_end_2 : decode cX7_end 2 = .ok (.invokestatic 108, 3) := by decide +kernel
theorem dX7_end_5 : decode cX7_end 5 = .ok (.ifCond .ne 7, 3) := by decide +kernel
theorem dX7_end_8 : decode cX7_end 8 = .ok (.iconst 1, 1) := by decide +kernel
theorem dX7_end_9 : decode cX7_end 9 = .ok (.goto 18, 3) := by decide +kernel
theorem dX7_end_12 : decode cX7_end 12 = .ok (.aload_n 0, 1) := by decide +kernel
theorem dX7_end_13 : decode cX7_end 13 = .ok (.getfield 17, 3) := by decide +kernel
theorem dX7_end_16 : decode cX7_end 16 = .ok (.iload_n 1, 1) := by decide +kernel
theorem dX7_end_17 : decode cX7_end 17 = .ok (.iaload, 1) := by decide +kernel
theorem dX7_end_18 : decode cX7_end 18 = .ok (.iconst (-1), 1) := by decide +kernel
theorem dX7_end_19 : decode cX7_end 19 = .ok (.if_icmp .ne 7, 3) := by decide +kernel
theorem dX7_end_22 : decode cX7_end 22 = .ok (.iconst 2, 1) := by decide +kernel
theorem dX7_end_23 : decode cX7_end 23 = .ok (.goto 4, 3) := by decide +kernel
theorem dX7_end_26 : decode cX7_end 26 = .ok (.iconst 0, 1) := by decide +kernel
theorem dX7_end_27 : decode cX7_end 27 = .ok (.putfield 80, 3) := by decide +kernel
theorem dX7_end_30 : decode cX7_end 30 = .ok (.aload_n 0, 1) := by decide +kernel
theorem dX7_end_31 : decode cX7_end 31 = .ok (.getfield 80, 3) := by decide +kernel
theorem dX7_end_34 : decode cX7_end 34 = .ok (.ifCond .le 5, 3) := by decide +kernel
theorem dX7_end_37 : decode cX7_end 37 = .ok (.iconst 0, 1) := by decide +kernel
theorem dX7_end_38 : decode cX7_end 38 = .ok (.ireturn, 1) := by decide +kernel
theorem dX7_end_39 : decode cX7_end 39 = .ok (.aload_n 0, 1) := by decide +kernel
theorem dX7_end_40 : decode cX7_end 40 = .ok (.getfield 17, 3) := by decide +kernel
theorem dX7_end_43 : decode cX7_end 43 = .ok (.iload_n 1, 1) := by decide +kernel
theorem dX7_end_44 : decode cX7_end 44 = .ok (.iaload, 1) := by decide +kernel
theorem dX7_end_45 : decode cX7_end 45 = .ok (.istore_n 2, 1) := by decide +kernel
theorem dX7_end_46 : decode cX7_end 46 = .ok (.iload_n 2, 1) := by decide +kernel
theorem dX7_end_47 : decode cX7_end 47 = .ok (.aload_n 0, 1) := by decide +kernel
theorem dX7_end_48 : decode cX7_end 48 = .ok (.iload_n 1, 1) := by decide +kernel
theorem dX7_end_49 : decode cX7_end 49 = .ok (.invokevirtual 114, 3) := by decide +kernel
theorem dX7_end_52 : decode cX7_end 52 = .ok (.if_icmp .eq 10, 3) := by decide +kernel
theorem dX7_end_55 : decode cX7_end 55 = .ok (.aload_n 0, 1) := by decide +kernel
theorem dX7_end_56 : decode cX7_end 56 = .ok (.iload_n 1, 1) := by decide +kernel
theorem dX7_end_57 : decode cX7_end 57 = .ok (.bipush 6, 2) := by decide +kernel
theorem dX7_end_59 : decode cX7_end 59 = .ok (.invokevirtual 120, 3) := by decide +kernel
theorem dX7_end_62 : decode cX7_end 62 = .ok (.aload_n 0, 1) := by decide +kernel
theorem dX7_end_63 : decode cX7_end 63 = .ok (.getfield 17, 3) := by decide +kernel
theorem dX7_end_66 : decode cX7_end 66 = .ok (.iload_n 1, 1) := by decide +kernel
theorem dX7_end_67 : decode cX7_end 67 = .ok (.iconst (-1), 1) := by decide +kernel
theorem dX7_end_68 : decode cX7_end 68 = .ok (.iastore, 1) := by decide +kernel
theorem dX7_end_69 : decode cX7_end 69 = .ok (.aload_n 0, 1) := by decide +kernel
theorem dX7_end_70 : decode cX7_end 70 = .ok (.getfield 23, 3) := by decide +kernel
theorem dX7_end_73 : decode cX7_end 73 = .ok (.iload_n 1, 1) := by decide +kernel
theorem dX7_end_74 : decode cX7_end 74 = .ok (.aload_n 0, 1) := by decide +kernel
theorem dX7_end_75 : decode cX7_end 75 = .ok (.getfield 91, 3) := by decide +kernel
theorem dX7_end_78 : decode cX7_end 78 = .ok (.iastore, 1) := by decide +kernel
theorem dX7_end_79 : decode cX7_end 79 = .ok (.aload_n 0, 1) := by decide +kernel
theorem dX7_end_80 : decode cX7_end 80 = .ok (.getfield 26, 3) := by decide +kernel
theorem dX7_end_83 : decode cX7_end 83 = .ok (.iload_n 1, 1) := by decide +kernel
theorem dX7_end_84 : decode cX7_end 84 = .ok (.sipush (-1000), 3) := by decide +kernel
theorem dX7_end_87 : decode cX7_end 87 = .ok (.iastore, 1) := by decide +kernel
theorem dX7_end_88 : decode cX7_end 88 = .ok (.aload_n 0, 1) := by decide +kernel
theorem dX7_end_89 : decode cX7_end 89 = .ok (.getfield 29, 3) := by decide +kernel
theorem dX7_end_92 : decode cX7_end 92 = .ok (.iload_n 1, 1) := by decide +kernel
theorem dX7_end_93 : decode cX7_end 93 = .ok (.sipush (-1000), 3) := by decide +kernel
theorem dX7_end_96 : decode cX7_end 96 = .ok (.iastore, 1) := by decide +kernel
theorem dX7_end_97 : decode cX7_end 97 = .ok (.aload_n 0, 1) := by decide +kernel
theorem dX7_end_98 : decode cX7_end 98 = .ok (.iload_n 1, 1) := by decide +kernel
theorem dX7_end_99 : decode cX7_end 99 = .ok (.invokevirtual 123, 3) := by decide +kernel
theorem dX7_end_102 : decode cX7_end 102 = .ok (.istore_n 3, 1) := by decide +kernel
theorem dX7_end_103 : decode cX7_end 103 = .ok (.iload_n 3, 1) := by decide +kernel
theorem dX7_end_104 : decode cX7_end 104 = .ok (.iconst (-1), 1) := by decide +kernel
theorem dX7_end_105 : decode cX7_end 105 = .ok (.if_icmp .eq 10, 3) := by decide +kernel
theorem dX7_end_108 : decode cX7_end 108 = .ok (.aload_n 0, 1) := by decide +kernel
theorem dX7_end_109 : decode cX7_end 109 = .ok (.getfield 35, 3) := by decide +kernel
theorem dX7_end_112 : decode cX7_end 112 = .ok (.iload_n 3, 1) := by decide +kernel
theorem dX7_end_113 : decode cX7_end 113 = .ok (.iconst 3, 1) := by decide +kernel
theorem dX7_end_114 : decode cX7_end 114 = .ok (.iastore, 1) := by decide +kernel
theorem dX7_end_115 : decode cX7_end 115 = .ok (.iload_n 2, 1) := by decide +kernel
theorem dX7_end_116 : decode cX7_end 116 = .ok (.ireturn, 1) := by decide +kernel
theorem dX7_swap_0 : decode cX7_swap 0 = .ok (.aload_n 0, 1) := by decide +kernel
theorem dX7_swap_1 : decode cX7_swap 1 = .ok (.iload_n 1, 1) := by decide +kernel
theorem dX7_swap_2 : decode cX7_swap 2 = .ok (.invokestatic 108, 3) := by decide +kernel
theorem dX7_swap_5 : decode cX7_swap 5 = .ok (.ifCond .ne 7, 3) := by decide +kernel
theorem dX7_swap_8 : decode cX7_swap 8 = .ok (.iconst 1, 1) := by decide +kernel
theorem dX7_swap_9 : decode cX7_swap 9 = .ok (.goto 29, 3) := by decide +kernel
theorem dX7_swap_12 : decode cX7_swap 12 = .ok (.iload_n 2, 1) := by decide +kernel
theorem dX7_swap_13 : decode cX7_swap 13 = .ok (.invokestatic 111, 3) := by decide +kernel
theorem dX7_swap_16 : decode cX7_swap 16 = .ok (.ifCond .ne 7, 3) := by decide +kernel
theorem dX7_swap_19 : decode cX7_swap 19 = .ok (.iconst 2, 1) := by decide +kernel
theorem dX7_swap_20 : decode cX7_swap 20 = .ok (.goto 18, 3) := by decide +kernel
theorem dX7_swap_23 : decode cX7_swap 23 = .ok (.aload_n 0, 1) := by decide +kernel
theorem dX7_swap_24 : decode cX7_swap 24 = .ok (.getfield 17, 3) := by decide +kernel
theorem dX7_swap_27 : decode cX7_swap 27 = .ok (.iload_n 1, 1) := by decide +kernel
theorem dX7_swap_28 : decode cX7_swap 28 = .ok (.iaload, 1) := by decide +kernel
theorem dX7_swap_29 : decode cX7_swap 29 = .ok (.iconst (-1), 1) := by decide +kernel
theorem dX7_swap_30 : decode cX7_swap 30 = .ok (.if_icmp .ne 7, 3) := by decide +kernel
theorem dX7_swap_33 : decode cX7_swap 33 = .ok (.iconst 3, 1) := by decide +kernel
theorem dX7_swap_34 : decode cX7_swap 34 = .ok (.goto 4, 3) := by decide +kernel
theorem dX7_swap_37 : decode cX7_swap 37 = .ok (.iconst 0, 1) := by decide +kernel
theorem dX7_swap_38 : decode cX7_swap 38 = .ok (.putfield 80, 3) := by decide +kernel
theorem dX7_swap_41 : decode cX7_swap 41 = .ok (.aload_n 0, 1) := by decide +kernel
theorem dX7_swap_42 : decode cX7_swap 42 = .ok (.getfield 80, 3) := by decide +kernel
theorem dX7_swap_45 : decode cX7_swap 45 = .ok (.ifCond .le 5, 3) := by decide +kernel
theorem dX7_swap_48 : decode cX7_swap 48 = .ok (.iconst 0, 1) := by decide +kernel
theorem dX7_swap_49 : decode cX7_swap 49 = .ok (.ireturn, 1) := by decide +kernel
theorem dX7_swap_50 : decode cX7_swap 50 = .ok (.aload_n 0, 1) := by decide +kernel
theorem dX7_swap_51 : decode cX7_swap 51 = .ok (.getfield 20, 3) := by decide +kernel
theorem dX7_swap_54 : decode cX7_swap 54 = .ok (.iload_n 1, 1) := by decide +kernel
theorem dX7_swap_55 : decode cX7_swap 55 = .ok (.iaload, 1) := by decide +kernel
theorem dX7_swap_56 : decode cX7_swap 56 = .ok (.istore_n 3, 1) := by decide +kernel
theorem dX7_swap_57 : decode cX7_swap 57 = .ok (.aload_n 0, 1) := by decide +kernel
theorem dX7_swap_58 : decode cX7_swap 58 = .ok (.getfield 20, 3) := by decide +kernel
theorem dX7_swap_61 : decode cX7_swap 61 = .ok (.iload_n 1, 1) := by decide +kernel
theorem dX7_swap_62 : decode cX7_swap 62 = .ok (.iload_n 2, 1) := by decide +kernel
theorem dX7_swap_63 : decode cX7_swap 63 = .ok (.iastore, 1) := by decide +kernel
theorem dX7_swap_64 : decode cX7_swap 64 = .ok (.aload_n 0, 1) := by decide +kernel
theorem dX7_swap_65 : decode cX7_swap 65 = .ok (.getfield 26, 3) := by decide +kernel
theorem dX7_swap_68 : decode cX7_swap 68 = .ok (.iload_n 1, 1) := by decide +kernel
theorem dX7_swap_69 : decode cX7_swap 69 = .ok (.aload_n 0, 1) := by decide +kernel
theorem dX7_swap_70 : decode cX7_swap 70 = .ok (.getfield 91, 3) := by decide +kernel
theorem dX7_swap_73 : decode cX7_swap 73 = .ok (.iastore, 1) := by decide +kernel
theorem dX7_swap_74 : decode cX7_swap 74 = .ok (.iload_n 3, 1) := by decide +kernel
theorem dX7_swap_75 : decode cX7_swap 75 = .ok (.ireturn, 1) := by decide +kernel
theorem dX7_emergency_0 : decode cX7_emergency 0 = .ok (.aload_n 0, 1) := by decide +kernel
theorem dX7_emergency_1 : decode cX7_emergency 1 = .ok (.iload_n 1, 1) := by decide +kernel
theorem dX7_emergency_2 : decode cX7_emergency 2 = .ok (.invokestatic 108, 3) := by decide +kernel
theorem dX7_emergency_5 : decode cX7_emergency 5 = .ok (.ifCond .ne 7, 3) := by decide +kernel
theorem dX7_emergency_8 : decode cX7_emergency 8 = .ok (.iconst 1, 1) := by decide +kernel
theorem dX7_emergency_9 : decode cX7_emergency 9 = .ok (.goto 18, 3) := by decide +kernel
theorem dX7_emergency_12 : decode cX7_emergency 12 = .ok (.aload_n 0, 1) := by decide +kernel
theorem dX7_emergency_13 : decode cX7_emergency 13 = .ok (.getfield 17, 3) := by decide +kernel
theorem dX7_emergency_16 : decode cX7_emergency 16 = .ok (.iload_n 1, 1) := by decide +kernel
theorem dX7_emergency_17 : decode cX7_emergency 17 = .ok (.iaload, 1) := by decide +kernel
theorem dX7_emergency_18 : decode cX7_emergency 18 = .ok (.iconst (-1), 1) := by decide +kernel
theorem dX7_emergency_19 : decode cX7_emergency 19 = .ok (.if_icmp .ne 7, 3) := by decide +kernel
theorem dX7_emergency_22 : decode cX7_emergency 22 = .ok (.iconst 2, 1) := by decide +kernel
theorem dX7_emergency_23 : decode cX7_emergency 23 = .ok (.goto 4, 3) := by decide +kernel
theorem dX7_emergency_26 : decode cX7_emergency 26 = .ok (.iconst 0, 1) := by decide +kernel
theorem dX7_emergency_27 : decode cX7_emergency 27 = .ok (.putfield 80, 3) := by decide +kernel
theorem dX7_emergency_30 : decode cX7_emergency 30 = .ok (.aload_n 0, 1) := by decide +kernel
theorem dX7_emergency_31 : decode cX7_emergency 31 = .ok (.getfield 80, 3) := by decide +kernel
theorem dX7_emergency_34 : decode cX7_emergency 34 = .ok (.ifCond .le 5, 3) := by decide +kernel
theorem dX7_emergency_37 : decode cX7_emergency 37 = .ok (.iconst 0, 1) := by decide +kernel
theorem dX7_emergency_38 : decode cX7_emergency 38 = .ok (.ireturn, 1) := by decide +kernel
theorem dX7_emergency_39 : decode cX7_emergency 39 = .ok (.aload_n 0, 1) := by decide +kernel
theorem dX7_emergency_40 : decode cX7_emergency 40 = .ok (.getfield 29, 3) := by decide +kernel
theorem dX7_emergency_43 : decode cX7_emergency 43 = .ok (.iload_n 1, 1) := by decide +kernel
theorem dX7_emergency_44 : decode cX7_emergency 44 = .ok (.aload_n 0, 1) := by decide +kernel
theorem dX7_emergency_45 : decode cX7_emergency 45 = .ok (.getfield 91, 3) := by decide +kernel
theorem dX7_emergency_48 : decode cX7_emergency 48 = .ok (.iastore, 1) := by decide +kernel
theorem dX7_emergency_49 : decode cX7_emergency 49 = .ok (.aload_n 0, 1) := by decide +kernel
theorem dX7_emergency_50 : decode cX7_emergency 50 = .ok (.getfield 91, 3) := by decide +kernel
theorem dX7_emergency_53 : decode cX7_emergency 53 = .ok (.bipush 30, 2) := by decide +kernel
theorem dX7_emergency_55 : decode cX7_emergency 55 = .ok (.iadd, 1) := by decide +kernel
theorem dX7_emergency_56 : decode cX7_emergency 56 = .ok (.ireturn, 1) := by decide +kernel
theorem dX7_comesTo_0 : decode cX7_comesTo 0 = .ok (.aload_n 0, 1) := by decide +kernel
theorem dX7_comesTo_1 : decode cX7_comesTo 1 = .ok (.getfield 17, 3) := by decide +kernel
theorem dX7_comesTo_4 : decode cX7_comesTo 4 = .ok (.iload_n 1, 1) := by decide +kernel
theorem dX7_comesTo_5 : decode cX7_comesTo 5 = .ok (.iload_n 2, 1) := by decide +kernel
theorem dX7_comesTo_6 : decode cX7_comesTo 6 = .ok (.iastore, 1) := by decide +kernel
theorem dX7_comesTo_7 : decode cX7_comesTo 7 = .ok (.aload_n 0, 1) := by decide +kernel
theorem dX7_comesTo_8 : decode cX7_comesTo 8 = .ok (.getfield 32, 3) := by decide +kernel
theorem dX7_comesTo_11 : decode cX7_comesTo 11 = .ok (.iload_n 1, 1) := by decide +kernel
theorem dX7_comesTo_12 : decode cX7_comesTo 12 = .ok (.iload_n 3, 1) := by decide +kernel
theorem dX7_comesTo_13 : decode cX7_comesTo 13 = .ok (.iastore, 1) := by decide +kernel
theorem dX7_comesTo_14 : decode cX7_comesTo 14 = .ok (.aload_n 0, 1) := by decide +kernel
theorem dX7_comesTo_15 : decode cX7_comesTo 15 = .ok (.iload_n 1, 1) := by decide +kernel
theorem dX7_comesTo_16 : decode cX7_comesTo 16 = .ok (.iload_n 2, 1) := by decide +kernel
theorem dX7_comesTo_17 : decode cX7_comesTo 17 = .ok (.aload_n 0, 1) := by decide +kernel
theorem dX7_comesTo_18 : decode cX7_comesTo 18 = .ok (.iload_n 1, 1) := by decide +kernel
theorem dX7_comesTo_19 : decode cX7_comesTo 19 = .ok (.invokevirtual 114, 3) := by decide +kernel
theorem dX7_comesTo_22 : decode cX7_comesTo 22 = .ok (.if_icmp .ne 8, 3) := by decide +kernel
theorem dX7_comesTo_25 : decode cX7_comesTo 25 = .ok (.bipush 6, 2) := by decide +kernel
theorem dX7_comesTo_27 : decode cX7_comesTo 27 = .ok (.goto 4, 3) := by decide +kernel
theorem dX7_comesTo_30 : decode cX7_comesTo 30 = .ok (.iload_n 2, 1) := by decide +kernel
theorem dX7_comesTo_31 : decode cX7_comesTo 31 = .ok (.invokevirtual 120, 3) := by decide +kernel
theorem dX7_comesTo_34 : decode cX7_comesTo 34 = .ok (.return_, 1) := by decide +kernel
theorem dX7_endFirm_0 : decode cX7_endFirm 0 = .ok (.aload_n 0, 1) := by decide +kernel
theorem dX7_endFirm_1 : decode cX7_endFirm 1 = .ok (.iload_n 1, 1) := by decide +kernel
theorem dX7_endFirm_2 : decode cX7_endFirm 2 = .ok (.invokestatic 98, 3) := by decide +kernel
theorem dX7_endFirm_5 : decode cX7_endFirm 5 = .ok (.ifCond .eq 10, 3) := by decide +kernel
theorem dX7_endFirm_8 : decode cX7_endFirm 8 = .ok (.iload_n 2, 1) := by decide +kernel
theorem dX7_endFirm_9 : decode cX7_endFirm 9 = .ok (.invokestatic 98, 3) := by decide +kernel
theorem dX7_endFirm_12 : decode cX7_endFirm 12 = .ok (.ifCond .ne 7, 3) := by decide +kernel
theorem dX7_endFirm_15 : decode cX7_endFirm 15 = .ok (.iconst 1, 1) := by decide +kernel
theorem dX7_endFirm_16 : decode cX7_endFirm 16 = .ok (.goto 35, 3) := by decide +kernel
theorem dX7_endFirm_19 : decode cX7_endFirm 19 = .ok (.iload_n 1, 1) := by decide +kernel
theorem dX7_endFirm_20 : decode cX7_endFirm 20 = .ok (.iload_n 2, 1) := by decide +kernel
theorem dX7_endFirm_21 : decode cX7_endFirm 21 = .ok (.if_icmp .ne 7, 3) := by decide +kernel
theorem dX7_endFirm_24 : decode cX7_endFirm 24 = .ok (.iconst 2, 1) := by decide +kernel
theorem dX7_endFirm_25 : decode cX7_endFirm 25 = .ok (.goto 26, 3) := by decide +kernel
theorem dX7_endFirm_28 : decode cX7_endFirm 28 = .ok (.aload_n 0, 1) := by decide +kernel
theorem dX7_endFirm_29 : decode cX7_endFirm 29 = .ok (.getfield 13, 3) := by decide +kernel
theorem dX7_endFirm_32 : decode cX7_endFirm 32 = .ok (.iload_n 1, 1) := by decide +kernel
theorem dX7_endFirm_33 : decode cX7_endFirm 33 = .ok (.baload, 1) := by decide +kernel
theorem dX7_endFirm_34 : decode cX7_endFirm 34 = .ok (.ifCond .ne 12, 3) := by decide +kernel
theorem dX7_endFirm_37 : decode cX7_endFirm 37 = .ok (.aload_n 0, 1) := by decide +kernel
theorem dX7_endFirm_38 : decode cX7_endFirm 38 = .ok (.getfield 13, 3) := by decide +kernel
theorem dX7_endFirm_41 : decode cX7_endFirm 41 = .ok (.iload_n 2, 1) := by decide +kernel
theorem dX7_endFirm_42 : decode cX7_endFirm 42 = .ok (.baload, 1) := by decide +kernel
theorem dX7_endFirm_43 : decode cX7_endFirm 43 = .ok (.ifCond .eq 7, 3) := by decide +kernel
theorem dX7_endFirm_46 : decode cX7_endFirm 46 = .ok (.iconst 3, 1) := by decide +kernel
theorem dX7_endFirm_47 : decode cX7_endFirm 47 = .ok (.goto 4, 3) := by decide +kernel
theorem dX7_endFirm_50 : decode cX7_endFirm 50 = .ok (.iconst 0, 1) := by decide +kernel
theorem dX7_endFirm_51 : decode cX7_endFirm 51 = .ok (.putfield 80, 3) := by decide +kernel
theorem dX7_endFirm_54 : decode cX7_endFirm 54 = .ok (.aload_n 0, 1) := by decide +kernel
theorem dX7_endFirm_55 : decode cX7_endFirm 55 = .ok (.getfield 80, 3) := by decide +kernel
theorem dX7_endFirm_58 : decode cX7_endFirm 58 = .ok (.ifCond .le 5, 3) := by decide +kernel
theorem dX7_endFirm_61 : decode cX7_endFirm 61 = .ok (.iconst 0, 1) := by decide +kernel
theorem dX7_endFirm_62 : decode cX7_endFirm 62 = .ok (.ireturn, 1) := by decide +kernel
theorem dX7_endFirm_63 : decode cX7_endFirm 63 = .ok (.aload_n 0, 1) := by decide +kernel
theorem dX7_endFirm_64 : decode cX7_endFirm 64 = .ok (.getfield 13, 3) := by decide +kernel
theorem dX7_endFirm_67 : decode cX7_endFirm 67 = .ok (.iload_n 1, 1) := by decide +kernel
theorem dX7_endFirm_68 : decode cX7_endFirm 68 = .ok (.iconst 1, 1) := by decide +kernel
theorem dX7_endFirm_69 : decode cX7_endFirm 69 = .ok (.bastore, 1) := by decide +kernel
theorem dX7_endFirm_70 : decode cX7_endFirm 70 = .ok (.iconst 0, 1) := by decide +kernel
theorem dX7_endFirm_71 : decode cX7_endFirm 71 = .ok (.istore_n 3, 1) := by decide +kernel
theorem dX7_endFirm_72 : decode cX7_endFirm 72 = .ok (.iconst 0, 1) := by decide +kernel
theorem dX7_endFirm_73 : decode cX7_endFirm 73 = .ok (.istore 4, 2) := by decide +kernel
theorem dX7_endFirm_75 : decode cX7_endFirm 75 = .ok (.iload 4, 2) := by decide +kernel
theorem dX7_endFirm_77 : decode cX7_endFirm 77 = .ok (.sipush 200, 3) := by decide +kernel
theorem dX7_endFirm_80 : decode cX7_endFirm 80 = .ok (.if_icmp .ge 137, 3) := by decide +kernel
theorem dX7_endFirm_83 : decode cX7_endFirm 83 = .ok (.aload_n 0, 1) := by decide +kernel
theorem dX7_endFirm_84 : decode cX7_endFirm 84 = .ok (.iload 4, 2) := by decide +kernel
theorem dX7_endFirm_86 : decode cX7_endFirm 86 = .ok (.invokevirtual 114, 3) := by decide +kernel
theorem dX7_endFirm_89 : decode cX7_endFirm 89 = .ok (.istore 5, 2) := by decide +kernel
theorem dX7_endFirm_91 : decode cX7_endFirm 91 = .ok (.aload_n 0, 1) := by decide +kernel
theorem dX7_endFirm_92 : decode cX7_endFirm 92 = .ok (.getfield 17, 3) := by decide +kernel
theorem dX7_endFirm_95 : decode cX7_endFirm 95 = .ok (.iload 4, 2) := by decide +kernel
theorem dX7_endFirm_97 : decode cX7_endFirm 97 = .ok (.iaload, 1) := by decide +kernel
theorem dX7_endFirm_98 : decode cX7_endFirm 98 = .ok (.iload 5, 2) := by decide +kernel
theorem dX7_endFirm_100 : decode cX7_endFirm 100 = .ok (.if_icmp .ne 7, 3) := by decide +kernel
theorem dX7_endFirm_103 : decode cX7_endFirm 103 = .ok (.iconst 1, 1) := by decide +kernel
theorem dX7_endFirm_104 : decode cX7_endFirm 104 = .ok (.goto 4, 3) := by decide +kernel
theorem dX7_endFirm_107 : decode cX7_endFirm 107 = .ok (.iconst 0, 1) := by decide +kernel
theorem dX7_endFirm_108 : decode cX7_endFirm 108 = .ok (.istore 6, 2) := by decide +kernel
theorem dX7_endFirm_110 : decode cX7_endFirm 110 = .ok (.iload 5, 2) := by decide +kernel
theorem dX7_endFirm_112 : decode cX7_endFirm 112 = .ok (.iload_n 1, 1) := by decide +kernel
theorem dX7_endFirm_113 : decode cX7_endFirm 113 = .ok (.if_icmp .ne 7, 3) := by decide +kernel
theorem dX7_endFirm_116 : decode cX7_endFirm 116 = .ok (.iload_n 2, 1) := by decide +kernel
theorem dX7_endFirm_117 : decode cX7_endFirm 117 = .ok (.goto 5, 3) := by decide +kernel
theorem dX7_endFirm_120 : decode cX7_endFirm 120 = .ok (.iload 5, 2) := by decide +kernel
theorem dX7_endFirm_122 : decode cX7_endFirm 122 = .ok (.istore 7, 2) := by decide +kernel
theorem dX7_endFirm_124 : decode cX7_endFirm 124 = .ok (.aload_n 0, 1) := by decide +kernel
theorem dX7_endFirm_125 : decode cX7_endFirm 125 = .ok (.getfield 17, 3) := by decide +kernel
theorem dX7_endFirm_128 : decode cX7_endFirm 128 = .ok (.iload 4, 2) := by decide +kernel
theorem dX7_endFirm_130 : decode cX7_endFirm 130 = .ok (.iaload, 1) := by decide +kernel
theorem dX7_endFirm_131 : decode cX7_endFirm 131 = .ok (.iload_n 1, 1) := by decide +kernel
theorem dX7_endFirm_132 : decode cX7_endFirm 132 = .ok (.if_icmp .ne 54, 3) := by decide +kernel
theorem dX7_endFirm_135 : decode cX7_endFirm 135 = .ok (.iinc 3 1, 3) := by decide +kernel
theorem dX7_endFirm_138 : decode cX7_endFirm 138 = .ok (.aload_n 0, 1) := by decide +kernel
theorem dX7_endFirm_139 : decode cX7_endFirm 139 = .ok (.getfield 17, 3) := by decide +kernel
theorem dX7_endFirm_142 : decode cX7_endFirm 142 = .ok (.iload 4, 2) := by decide +kernel
theorem dX7_endFirm_144 : decode cX7_endFirm 144 = .ok (.iload_n 2, 1) := by decide +kernel
theorem dX7_endFirm_145 : decode cX7_endFirm 145 = .ok (.iastore, 1) := by decide +kernel
theorem dX7_endFirm_146 : decode cX7_endFirm 146 = .ok (.aload_n 0, 1) := by decide +kernel
theorem dX7_endFirm_147 : decode cX7_endFirm 147 = .ok (.getfield 32, 3) := by decide +kernel
theorem dX7_endFirm_150 : decode cX7_endFirm 150 = .ok (.iload 4, 2) := by decide +kernel
theorem dX7_endFirm_152 : decode cX7_endFirm 152 = .ok (.iconst (-1), 1) := by decide +kernel
theorem dX7_endFirm_153 : decode cX7_endFirm 153 = .ok (.iastore, 1) := by decide +kernel
theorem dX7_endFirm_154 : decode cX7_endFirm 154 = .ok (.iload 7, 2) := by decide +kernel
theorem dX7_endFirm_156 : decode cX7_endFirm 156 = .ok (.iload_n 2, 1) := by decide +kernel
theorem dX7_endFirm_157 : decode cX7_endFirm 157 = .ok (.if_icmp .ne 8, 3) := by decide +kernel
theorem dX7_endFirm_160 : decode cX7_endFirm 160 = .ok (.iload 6, 2) := by decide +kernel
theorem dX7_endFirm_162 : decode cX7_endFirm 162 = .ok (.ifCond .ne 49, 3) := by decide +kernel
theorem dX7_endFirm_165 : decode cX7_endFirm 165 = .ok (.aload_n 0, 1) := by decide +kernel
theorem dX7_endFirm_166 : decode cX7_endFirm 166 = .ok (.iload 4, 2) := by decide +kernel
theorem dX7_endFirm_168 : decode cX7_endFirm 168 = .ok (.iload 7, 2) := by decide +kernel
theorem dX7_endFirm_170 : decode cX7_endFirm 170 = .ok (.iload_n 2, 1) := by decide +kernel
theorem dX7_endFirm_171 : decode cX7_endFirm 171 = .ok (.if_icmp .ne 8, 3) := by decide +kernel
theorem dX7_endFirm_174 : decode cX7_endFirm 174 = .ok (.bipush 6, 2) := by decide +kernel
theorem dX7_endFirm_176 : decode cX7_endFirm 176 = .ok (.goto 4, 3) := by decide +kernel
theorem dX7_endFirm_179 : decode cX7_endFirm 179 = .ok (.iload_n 2, 1) := by decide +kernel
theorem dX7_endFirm_180 : decode cX7_endFirm 180 = .ok (.invokevirtual 120, 3) := by decide +kernel
theorem dX7_endFirm_183 : decode cX7_endFirm 183 = .ok (.goto 28, 3) := by decide +kernel
theorem dX7_endFirm_186 : decode cX7_endFirm 186 = .ok (.aload_n 0, 1) := by decide +kernel
theorem dX7_endFirm_187 : decode cX7_endFirm 187 = .ok (.getfield 17, 3) := by decide +kernel
theorem dX7_endFirm_190 : decode cX7_endFirm 190 = .ok (.iload 4, 2) := by decide +kernel
theorem dX7_endFirm_192 : decode cX7_endFirm 192 = .ok (.iaload, 1) := by decide +kernel
theorem dX7_endFirm_193 : decode cX7_endFirm 193 = .ok (.iload_n 2, 1) := by decide +kernel
theorem dX7_endFirm_194 : decode cX7_endFirm 194 = .ok (.if_icmp .ne 17, 3) := by decide +kernel
theorem dX7_endFirm_197 : decode cX7_endFirm 197 = .ok (.iload 5, 2) := by decide +kernel
theorem dX7_endFirm_199 : decode cX7_endFirm 199 = .ok (.iload_n 1, 1) := by decide +kernel
theorem dX7_endFirm_200 : decode cX7_endFirm 200 = .ok (.if_icmp .ne 11, 3) := by decide +kernel
theorem dX7_endFirm_203 : decode cX7_endFirm 203 = .ok (.aload_n 0, 1) := by decide +kernel
theorem dX7_endFirm_204 : decode cX7_endFirm 204 = .ok (.iload 4, 2) := by decide +kernel
theorem dX7_endFirm_206 : decode cX7_endFirm 206 = .ok (.bipush 6, 2) := by decide +kernel
theorem dX7_endFirm_208 : decode cX7_endFirm 208 = .ok (.invokevirtual 120, 3) := by decide +kernel
theorem dX7_endFirm_211 : decode cX7_endFirm 211 = .ok (.iinc 4 1, 3) := by decide +kernel
theorem dX7_endFirm_214 : decode cX7_endFirm 214 = .ok (.goto (-139), 3) := by decide +kernel
theorem dX7_endFirm_217 : decode cX7_endFirm 217 = .ok (.iconst 0, 1) := by decide +kernel
theorem dX7_endFirm_218 : decode cX7_endFirm 218 = .ok (.istore 4, 2) := by decide +kernel
theorem dX7_endFirm_220 : decode cX7_endFirm 220 = .ok (.iload 4, 2) := by decide +kernel
theorem dX7_endFirm_222 : decode cX7_endFirm 222 = .ok (.bipush 20, 2) := by decide +kernel
theorem dX7_endFirm_224 : decode cX7_endFirm 224 = .ok (.if_icmp .ge 38, 3) := by decide +kernel
theorem dX7_endFirm_227 : decode cX7_endFirm 227 = .ok (.aload_n 0, 1) := by decide +kernel
theorem dX7_endFirm_228 : decode cX7_endFirm 228 = .ok (.getfield 7, 3) := by decide +kernel
theorem dX7_endFirm_231 : decode cX7_endFirm 231 = .ok (.iload 4, 2) := by decide +kernel
theorem dX7_endFirm_233 : decode cX7_endFirm 233 = .ok (.aload_n 0, 1) := by decide +kernel
theorem dX7_endFirm_234 : decode cX7_endFirm 234 = .ok (.getfield 7, 3) := by decide +kernel
theorem dX7_endFirm_237 : decode cX7_endFirm 237 = .ok (.iload 4, 2) := by decide +kernel
theorem dX7_endFirm_239 : decode cX7_endFirm 239 = .ok (.iaload, 1) := by decide +kernel
theorem dX7_endFirm_240 : decode cX7_endFirm 240 = .ok (.iload_n 1, 1) := by decide +kernel
theorem dX7_endFirm_241 : decode cX7_endFirm 241 = .ok (.if_icmp .ne 7, 3) := by decide +kernel
theorem dX7_endFirm_244 : decode cX7_endFirm 244 = .ok (.iload_n 2, 1) := by decide +kernel
theorem dX7_endFirm_245 : decode cX7_endFirm 245 = .ok (.goto 10, 3) := by decide +kernel
theorem dX7_endFirm_248 : decode cX7_endFirm 248 = .ok (.aload_n 0, 1) := by decide +kernel
theorem dX7_endFirm_249 : decode cX7_endFirm 249 = .ok (.getfield 7, 3) := by decide +kernel
theorem dX7_endFirm_252 : decode cX7_endFirm 252 = .ok (.iload 4, 2) := by decide +kernel
theorem dX7_endFirm_254 : decode cX7_endFirm 254 = .ok (.iaload, 1) := by decide +kernel
theorem dX7_endFirm_255 : decode cX7_endFirm 255 = .ok (.iastore, 1) := by decide +kernel
theorem dX7_endFirm_256 : decode cX7_endFirm 256 = .ok (.iinc 4 1, 3) := by decide +kernel
theorem dX7_endFirm_259 : decode cX7_endFirm 259 = .ok (.goto (-39), 3) := by decide +kernel
theorem dX7_endFirm_262 : decode cX7_endFirm 262 = .ok (.iconst 0, 1) := by decide +kernel
theorem dX7_endFirm_263 : decode cX7_endFirm 263 = .ok (.istore 4, 2) := by decide +kernel
theorem dX7_endFirm_265 : decode cX7_endFirm 265 = .ok (.iload 4, 2) := by decide +kernel
theorem dX7_endFirm_267 : decode cX7_endFirm 267 = .ok (.aload_n 0, 1) := by decide +kernel
theorem dX7_endFirm_268 : decode cX7_endFirm 268 = .ok (.getfield 88, 3) := by decide +kernel
theorem dX7_endFirm_271 : decode cX7_endFirm 271 = .ok (.if_icmp .ge 49, 3) := by decide +kernel
theorem dX7_endFirm_274 : decode cX7_endFirm 274 = .ok (.aload_n 0, 1) := by decide +kernel
theorem dX7_endFirm_275 : decode cX7_endFirm 275 = .ok (.getfield 35, 3) := by decide +kernel
theorem dX7_endFirm_278 : decode cX7_endFirm 278 = .ok (.iload 4, 2) := by decide +kernel
theorem dX7_endFirm_280 : decode cX7_endFirm 280 = .ok (.aload_n 0, 1) := by decide +kernel
theorem dX7_endFirm_281 : decode cX7_endFirm 281 = .ok (.getfield 35, 3) := by decide +kernel
theorem dX7_endFirm_284 : decode cX7_endFirm 284 = .ok (.iload 4, 2) := by decide +kernel
theorem dX7_endFirm_286 : decode cX7_endFirm 286 = .ok (.iaload, 1) := by decide +kernel
theorem dX7_endFirm_287 : decode cX7_endFirm 287 = .ok (.iconst 1, 1) := by decide +kernel
theorem dX7_endFirm_288 : decode cX7_endFirm 288 = .ok (.if_icmp .ne 18, 3) := by decide +kernel
theorem dX7_endFirm_291 : decode cX7_endFirm 291 = .ok (.aload_n 0, 1) := by decide +kernel
theorem dX7_endFirm_292 : decode cX7_endFirm 292 = .ok (.getfield 44, 3) := by decide +kernel
theorem dX7_endFirm_295 : decode cX7_endFirm 295 = .ok (.iload 4, 2) := by decide +kernel
theorem dX7_endFirm_297 : decode cX7_endFirm 297 = .ok (.iaload, 1) := by decide +kernel
theorem dX7_endFirm_298 : decode cX7_endFirm 298 = .ok (.iload_n 1, 1) := by decide +kernel
theorem dX7_endFirm_299 : decode cX7_endFirm 299 = .ok (.if_icmp .ne 7, 3) := by decide +kernel
theorem dX7_endFirm_302 : decode cX7_endFirm 302 = .ok (.iconst 3, 1) := by decide +kernel
theorem dX7_endFirm_303 : decode cX7_endFirm 303 = .ok (.goto 10, 3) := by decide +kernel
theorem dX7_endFirm_306 : decode cX7_endFirm 306 = .ok (.aload_n 0, 1) := by decide +kernel
theorem dX7_endFirm_307 : decode cX7_endFirm 307 = .ok (.getfield 35, 3) := by decide +kernel
theorem dX7_endFirm_310 : decode cX7_endFirm 310 = .ok (.iload 4, 2) := by decide +kernel
theorem dX7_endFirm_312 : decode cX7_endFirm 312 = .ok (.iaload, 1) := by decide +kernel
theorem dX7_endFirm_313 : decode cX7_endFirm 313 = .ok (.iastore, 1) := by decide +kernel
theorem dX7_endFirm_314 : decode cX7_endFirm 314 = .ok (.iinc 4 1, 3) := by decide +kernel
theorem dX7_endFirm_317 : decode cX7_endFirm 317 = .ok (.goto (-52), 3) := by decide +kernel
theorem dX7_endFirm_320 : decode cX7_endFirm 320 = .ok (.iload_n 3, 1) := by decide +kernel
theorem dX7_endFirm_321 : decode cX7_endFirm 321 = .ok (.ireturn, 1) := by decide +kernel
theorem dX7_isWindow_0 : decode cX7_isWindow 0 = .ok (.iload_n 0, 1) := by decide +kernel
theorem dX7_isWindow_1 : decode cX7_isWindow 1 = .ok (.bipush 100, 2) := by decide +kernel
theorem dX7_isWindow_3 : decode cX7_isWindow 3 = .ok (.irem, 1) := by decide +kernel
theorem dX7_isWindow_4 : decode cX7_isWindow 4 = .ok (.bipush 20, 2) := by decide +kernel
theorem dX7_isWindow_6 : decode cX7_isWindow 6 = .ok (.if_icmp .ge 7, 3) := by decide +kernel
theorem dX7_isWindow_9 : decode cX7_isWindow 9 = .ok (.iconst 1, 1) := by decide +kernel
theorem dX7_isWindow_10 : decode cX7_isWindow 10 = .ok (.goto 4, 3) := by decide +kernel
theorem dX7_isWindow_13 : decode cX7_isWindow 13 = .ok (.iconst 0, 1) := by decide +kernel
theorem dX7_isWindow_14 : decode cX7_isWindow 14 = .ok (.ireturn, 1) := by decide +kernel
theorem dX7_waitingAt_0 : decode cX7_waitingAt 0 = .ok (.iconst 0, 1) := by decide +kernel
theorem dX7_waitingAt_1 : decode cX7_waitingAt 1 = .ok (.istore_n 2, 1) := by decide +kernel
theorem dX7_waitingAt_2 : decode cX7_waitingAt 2 = .ok (.iconst 0, 1) := by decide +kernel
theorem dX7_waitingAt_3 : decode cX7_waitingAt 3 = .ok (.istore_n 3, 1) := by decide +kernel
theorem dX7_waitingAt_4 : decode cX7_waitingAt 4 = .ok (.iload_n 3, 1) := by decide +kernel
theorem dX7_waitingAt_5 : decode cX7_waitingAt 5 = .ok (.aload_n 0, 1) := by decide +kernel
theorem dX7_waitingAt_6 : decode cX7_waitingAt 6 = .ok (.getfield 88, 3) := by decide +kernel
theorem dX7_waitingAt_9 : decode cX7_waitingAt 9 = .ok (.if_icmp .ge 37, 3) := by decide +kernel
theorem dX7_waitingAt_12 : decode cX7_waitingAt 12 = .ok (.iload_n 2, 1) := by decide +kernel
theorem dX7_waitingAt_13 : decode cX7_waitingAt 13 = .ok (.aload_n 0, 1) := by decide +kernel
theorem dX7_waitingAt_14 : decode cX7_waitingAt 14 = .ok (.getfield 35, 3) := by decide +kernel
theorem dX7_waitingAt_17 : decode cX7_waitingAt 17 = .ok (.iload_n 3, 1) := by decide +kernel
theorem dX7_waitingAt_18 : decode cX7_waitingAt 18 = .ok (.iaload, 1) := by decide +kernel
theorem dX7_waitingAt_19 : decode cX7_waitingAt 19 = .ok (.iconst 1, 1) := by decide +kernel
theorem dX7_waitingAt_20 : decode cX7_waitingAt 20 = .ok (.if_icmp .ne 17, 3) := by decide +kernel
theorem dX7_waitingAt_23 : decode cX7_waitingAt 23 = .ok (.aload_n 0, 1) := by decide +kernel
theorem dX7_waitingAt_24 : decode cX7_waitingAt 24 = .ok (.getfield 50, 3) := by decide +kernel
theorem dX7_waitingAt_27 : decode cX7_waitingAt 27 = .ok (.iload_n 3, 1) := by decide +kernel
theorem dX7_waitingAt_28 : decode cX7_waitingAt 28 = .ok (.iaload, 1) := by decide +kernel
theorem dX7_waitingAt_29 : decode cX7_waitingAt 29 = .ok (.iload_n 1, 1) := by decide +kernel
theorem dX7_waitingAt_30 : decode cX7_waitingAt 30 = .ok (.if_icmp .ne 7, 3) := by decide +kernel
theorem dX7_waitingAt_33 : decode cX7_waitingAt 33 = .ok (.iconst 1, 1) := by decide +kernel
theorem dX7_waitingAt_34 : decode cX7_waitingAt 34 = .ok (.goto 4, 3) := by decide +kernel
theorem dX7_waitingAt_37 : decode cX7_waitingAt 37 = .ok (.iconst 0, 1) := by decide +kernel
theorem dX7_waitingAt_38 : decode cX7_waitingAt 38 = .ok (.iadd, 1) := by decide +kernel
theorem dX7_waitingAt_39 : decode cX7_waitingAt 39 = .ok (.istore_n 2, 1) := by decide +kernel
theorem dX7_waitingAt_40 : decode cX7_waitingAt 40 = .ok (.iinc 3 1, 3) := by decide +kernel
theorem dX7_waitingAt_43 : decode cX7_waitingAt 43 = .ok (.goto (-39), 3) := by decide +kernel
theorem dX7_waitingAt_46 : decode cX7_waitingAt 46 = .ok (.iload_n 2, 1) := by decide +kernel
theorem dX7_waitingAt_47 : decode cX7_waitingAt 47 = .ok (.ireturn, 1) := by decide +kernel
theorem dX7_reason_0 : decode cX7_reason 0 = .ok (.aload_n 0, 1) := by decide +kernel
theorem dX7_reason_1 : decode cX7_reason 1 = .ok (.getfield 17, 3) := by decide +kernel
theorem dX7_reason_4 : decode cX7_reason 4 = .ok (.iload_n 2, 1) := by decide +kernel
theorem dX7_reason_5 : decode cX7_reason 5 = .ok (.iaload, 1) := by decide +kernel
theorem dX7_reason_6 : decode cX7_reason 6 = .ok (.iconst (-1), 1) := by decide +kernel
theorem dX7_reason_7 : decode cX7_reason 7 = .ok (.if_icmp .ne 5, 3) := by decide +kernel
theorem dX7_reason_10 : decode cX7_reason 10 = .ok (.iconst 1, 1) := by decide +kernel
theorem dX7_reason_11 : decode cX7_reason 11 = .ok (.ireturn, 1) := by decide +kernel
theorem dX7_reason_12 : decode cX7_reason 12 = .ok (.aload_n 0, 1) := by decide +kernel
theorem dX7_reason_13 : decode cX7_reason 13 = .ok (.getfield 17, 3) := by decide +kernel
theorem dX7_reason_16 : decode cX7_reason 16 = .ok (.iload_n 2, 1) := by decide +kernel
theorem dX7_reason_17 : decode cX7_reason 17 = .ok (.iaload, 1) := by decide +kernel
theorem dX7_reason_18 : decode cX7_reason 18 = .ok (.iload_n 1, 1) := by decide +kernel
theorem dX7_reason_19 : decode cX7_reason 19 = .ok (.if_icmp .ne 5, 3) := by decide +kernel
theorem dX7_reason_22 : decode cX7_reason 22 = .ok (.iconst 2, 1) := by decide +kernel
theorem dX7_reason_23 : decode cX7_reason 23 = .ok (.ireturn, 1) := by decide +kernel
theorem dX7_reason_24 : decode cX7_reason 24 = .ok (.aload_n 0, 1) := by decide +kernel
theorem dX7_reason_25 : decode cX7_reason 25 = .ok (.getfield 20, 3) := by decide +kernel
theorem dX7_reason_28 : decode cX7_reason 28 = .ok (.iload_n 2, 1) := by decide +kernel
theorem dX7_reason_29 : decode cX7_reason 29 = .ok (.iaload, 1) := by decide +kernel
theorem dX7_reason_30 : decode cX7_reason 30 = .ok (.iload_n 3, 1) := by decide +kernel
theorem dX7_reason_31 : decode cX7_reason 31 = .ok (.if_icmp .eq 5, 3) := by decide +kernel
theorem dX7_reason_34 : decode cX7_reason 34 = .ok (.iconst 3, 1) := by decide +kernel
theorem dX7_reason_35 : decode cX7_reason 35 = .ok (.ireturn, 1) := by decide +kernel
theorem dX7_reason_36 : decode cX7_reason 36 = .ok (.aload_n 0, 1) := by decide +kernel
theorem dX7_reason_37 : decode cX7_reason 37 = .ok (.iload_n 2, 1) := by decide +kernel
theorem dX7_reason_38 : decode cX7_reason 38 = .ok (.invokevirtual 123, 3) := by decide +kernel
theorem dX7_reason_41 : decode cX7_reason 41 = .ok (.iconst (-1), 1) := by decide +kernel
theorem dX7_reason_42 : decode cX7_reason 42 = .ok (.if_icmp .eq 5, 3) := by decide +kernel
theorem dX7_reason_45 : decode cX7_reason 45 = .ok (.iconst 4, 1) := by decide +kernel
theorem dX7_reason_46 : decode cX7_reason 46 = .ok (.ireturn, 1) := by decide +kernel
theorem dX7_reason_47 : decode cX7_reason 47 = .ok (.aload_n 0, 1) := by decide +kernel
theorem dX7_reason_48 : decode cX7_reason 48 = .ok (.iload_n 2, 1) := by decide +kernel
theorem dX7_reason_49 : decode cX7_reason 49 = .ok (.invokevirtual 126, 3) := by decide +kernel
theorem dX7_reason_52 : decode cX7_reason 52 = .ok (.ifCond .eq 7, 3) := by decide +kernel
theorem dX7_reason_55 : decode cX7_reason 55 = .ok (.iconst 5, 1) := by decide +kernel
theorem dX7_reason_56 : decode cX7_reason 56 = .ok (.goto 32, 3) := by decide +kernel
theorem dX7_reason_59 : decode cX7_reason 59 = .ok (.iload 4, 2) := by decide +kernel
theorem dX7_reason_61 : decode cX7_reason 61 = .ok (.invokestatic 129, 3) := by decide +kernel
theorem dX7_reason_64 : decode cX7_reason 64 = .ok (.ifCond .ne 8, 3) := by decide +kernel
theorem dX7_reason_67 : decode cX7_reason 67 = .ok (.bipush 6, 2) := by decide +kernel
theorem dX7_reason_69 : decode cX7_reason 69 = .ok (.goto 19, 3) := by decide +kernel
theorem dX7_reason_72 : decode cX7_reason 72 = .ok (.aload_n 0, 1) := by decide +kernel
theorem dX7_reason_73 : decode cX7_reason 73 = .ok (.iload 4, 2) := by decide +kernel
theorem dX7_reason_75 : decode cX7_reason 75 = .ok (.invokevirtual 132, 3) := by decide +kernel
theorem dX7_reason_78 : decode cX7_reason 78 = .ok (.iconst 3, 1) := by decide +kernel
theorem dX7_reason_79 : decode cX7_reason 79 = .ok (.if_icmp .lt 8, 3) := by decide +kernel
theorem dX7_reason_82 : decode cX7_reason 82 = .ok (.bipush 7, 2) := by decide +kernel
theorem dX7_reason_84 : decode cX7_reason 84 = .ok (.goto 4, 3) := by decide +kernel
theorem dX7_reason_87 : decode cX7_reason 87 = .ok (.iconst 0, 1) := by decide +kernel
theorem dX7_reason_88 : decode cX7_reason 88 = .ok (.ireturn, 1) := by decide +kernel
theorem dX7_order_0 : decode cX7_order 0 = .ok (.iload_n 1, 1) := by decide +kernel
theorem dX7_order_1 : decode cX7_order 1 = .ok (.invokestatic 98, 3) := by decide +kernel
theorem dX7_order_4 : decode cX7_order 4 = .ok (.ifCond .eq 14, 3) := by decide +kernel
theorem dX7_order_7 : decode cX7_order 7 = .ok (.iload_n 2, 1) := by decide +kernel
theorem dX7_order_8 : decode cX7_order 8 = .ok (.invokestatic 108, 3) := by decide +kernel
theorem dX7_order_11 : decode cX7_order 11 = .ok (.ifCond .eq 7, 3) := by decide +kernel
theorem dX7_order_14 : decode cX7_order 14 = .ok (.iconst 1, 1) := by decide +kernel
theorem dX7_order_15 : decode cX7_order 15 = .ok (.goto 4, 3) := by decide +kernel
theorem dX7_order_18 : decode cX7_order 18 = .ok (.iconst 0, 1) := by decide +kernel
theorem dX7_order_19 : decode cX7_order 19 = .ok (.istore 5, 2) := by decide +kernel
theorem dX7_order_21 : decode cX7_order 21 = .ok (.aload_n 0, 1) := by decide +kernel
theorem dX7_order_22 : decode cX7_order 22 = .ok (.iload 5, 2) := by decide +kernel
theorem dX7_order_24 : decode cX7_order 24 = .ok (.ifCond .ne 7, 3) := by decide +kernel
theorem dX7_order_27 : decode cX7_order 27 = .ok (.iconst 1, 1) := by decide +kernel
theorem dX7_order_28 : decode cX7_order 28 = .ok (.goto 59, 3) := by decide +kernel
theorem dX7_order_31 : decode cX7_order 31 = .ok (.iload_n 3, 1) := by decide +kernel
theorem dX7_order_32 : decode cX7_order 32 = .ok (.invokestatic 111, 3) := by decide +kernel
theorem dX7_order_35 : decode cX7_order 35 = .ok (.ifCond .eq 25, 3) := by decide +kernel
theorem dX7_order_38 : decode cX7_order 38 = .ok (.iload 4, 2) := by decide +kernel
theorem dX7_order_40 : decode cX7_order 40 = .ok (.aload_n 0, 1) := by decide +kernel
theorem dX7_order_41 : decode cX7_order 41 = .ok (.getfield 91, 3) := by decide +kernel
theorem dX7_order_44 : decode cX7_order 44 = .ok (.iconst 1, 1) := by decide +kernel
theorem dX7_order_45 : decode cX7_order 45 = .ok (.iadd, 1) := by decide +kernel
theorem dX7_order_46 : decode cX7_order 46 = .ok (.aload_n 0, 1) := by decide +kernel
theorem dX7_order_47 : decode cX7_order 47 = .ok (.getfield 91, 3) := by decide +kernel
theorem dX7_order_50 : decode cX7_order 50 = .ok (.sipush 500, 3) := by decide +kernel
theorem dX7_order_53 : decode cX7_order 53 = .ok (.iadd, 1) := by decide +kernel
theorem dX7_order_54 : decode cX7_order 54 = .ok (.invokestatic 84, 3) := by decide +kernel
theorem dX7_order_57 : decode cX7_order 57 = .ok (.ifCond .ne 7, 3) := by decide +kernel
theorem dX7_order_60 : decode cX7_order 60 = .ok (.iconst 2, 1) := by decide +kernel
theorem dX7_order_61 : decode cX7_order 61 = .ok (.goto 26, 3) := by decide +kernel
theorem dX7_order_64 : decode cX7_order 64 = .ok (.aload_n 0, 1) := by decide +kernel
theorem dX7_order_65 : decode cX7_order 65 = .ok (.getfield 13, 3) := by decide +kernel
theorem dX7_order_68 : decode cX7_order 68 = .ok (.iload_n 1, 1) := by decide +kernel
theorem dX7_order_69 : decode cX7_order 69 = .ok (.baload, 1) := by decide +kernel
theorem dX7_order_70 : decode cX7_order 70 = .ok (.ifCond .ne 12, 3) := by decide +kernel
theorem dX7_order_73 : decode cX7_order 73 = .ok (.aload_n 0, 1) := by decide +kernel
theorem dX7_order_74 : decode cX7_order 74 = .ok (.getfield 88, 3) := by decide +kernel
theorem dX7_order_77 : decode cX7_order 77 = .ok (.bipush 60, 2) := by decide +kernel
theorem dX7_order_79 : decode cX7_order 79 = .ok (.if_icmp .ne 7, 3) := by decide +kernel
theorem dX7_order_82 : decode cX7_order 82 = .ok (.iconst 3, 1) := by decide +kernel
theorem dX7_order_83 : decode cX7_order 83 = .ok (.goto 4, 3) := by decide +kernel
theorem dX7_order_86 : decode cX7_order 86 = .ok (.iconst 0, 1) := by decide +kernel
theorem dX7_order_87 : decode cX7_order 87 = .ok (.putfield 80, 3) := by decide +kernel
theorem dX7_order_90 : decode cX7_order 90 = .ok (.aload_n 0, 1) := by decide +kernel
theorem dX7_order_91 : decode cX7_order 91 = .ok (.getfield 80, 3) := by decide +kernel
theorem dX7_order_94 : decode cX7_order 94 = .ok (.ifCond .le 5, 3) := by decide +kernel
theorem dX7_order_97 : decode cX7_order 97 = .ok (.iconst 0, 1) := by decide +kernel
theorem dX7_order_98 : decode cX7_order 98 = .ok (.ireturn, 1) := by decide +kernel
theorem dX7_order_99 : decode cX7_order 99 = .ok (.aload_n 0, 1) := by decide +kernel
theorem dX7_order_100 : decode cX7_order 100 = .ok (.iload_n 1, 1) := by decide +kernel
theorem dX7_order_101 : decode cX7_order 101 = .ok (.iload_n 2, 1) := by decide +kernel
theorem dX7_order_102 : decode cX7_order 102 = .ok (.iload_n 3, 1) := by decide +kernel
theorem dX7_order_103 : decode cX7_order 103 = .ok (.iload 4, 2) := by decide +kernel
theorem dX7_order_105 : decode cX7_order 105 = .ok (.invokevirtual 135, 3) := by decide +kernel
theorem dX7_order_108 : decode cX7_order 108 = .ok (.istore 6, 2) := by decide +kernel
theorem dX7_order_110 : decode cX7_order 110 = .ok (.aload_n 0, 1) := by decide +kernel
theorem dX7_order_111 : decode cX7_order 111 = .ok (.getfield 38, 3) := by decide +kernel
theorem dX7_order_114 : decode cX7_order 114 = .ok (.aload_n 0, 1) := by decide +kernel
theorem dX7_order_115 : decode cX7_order 115 = .ok (.getfield 88, 3) := by decide +kernel
theorem dX7_order_118 : decode cX7_order 118 = .ok (.iload 6, 2) := by decide +kernel
theorem dX7_order_120 : decode cX7_order 120 = .ok (.iastore, 1) := by decide +kernel
theorem dX7_order_121 : decode cX7_order 121 = .ok (.aload_n 0, 1) := by decide +kernel
theorem dX7_order_122 : decode cX7_order 122 = .ok (.getfield 35, 3) := by decide +kernel
theorem dX7_order_125 : decode cX7_order 125 = .ok (.aload_n 0, 1) := by decide +kernel
theorem dX7_order_126 : decode cX7_order 126 = .ok (.getfield 88, 3) := by decide +kernel
theorem dX7_order_129 : decode cX7_order 129 = .ok (.iload 6, 2) := by decide +kernel
theorem dX7_order_131 : decode cX7_order 131 = .ok (.ifCond .ne 7, 3) := by decide +kernel
theorem dX7_order_134 : decode cX7_order 134 = .ok (.iconst 1, 1) := by decide +kernel
theorem dX7_order_135 : decode cX7_order 135 = .ok (.goto 4, 3) := by decide +kernel
theorem dX7_order_138 : decode cX7_order 138 = .ok (.iconst 0, 1) := by decide +kernel
theorem dX7_order_139 : decode cX7_order 139 = .ok (.iastore, 1) := by decide +kernel
theorem dX7_order_140 : decode cX7_order 140 = .ok (.aload_n 0, 1) := by decide +kernel
theorem dX7_order_141 : decode cX7_order 141 = .ok (.getfield 41, 3) := by decide +kernel
theorem dX7_order_144 : decode cX7_order 144 = .ok (.aload_n 0, 1) := by decide +kernel
theorem dX7_order_145 : decode cX7_order 145 = .ok (.getfield 88, 3) := by decide +kernel
theorem dX7_order_148 : decode cX7_order 148 = .ok (.iload_n 2, 1) := by decide +kernel
theorem dX7_order_149 : decode cX7_order 149 = .ok (.iastore, 1) := by decide +kernel
theorem dX7_order_150 : decode cX7_order 150 = .ok (.aload_n 0, 1) := by decide +kernel
theorem dX7_order_151 : decode cX7_order 151 = .ok (.getfield 44, 3) := by decide +kernel
theorem dX7_order_154 : decode cX7_order 154 = .ok (.aload_n 0, 1) := by decide +kernel
theorem dX7_order_155 : decode cX7_order 155 = .ok (.getfield 88, 3) := by decide +kernel
theorem dX7_order_158 : decode cX7_order 158 = .ok (.iload_n 1, 1) := by decide +kernel
theorem dX7_order_159 : decode cX7_order 159 = .ok (.iastore, 1) := by decide +kernel
theorem dX7_order_160 : decode cX7_order 160 = .ok (.aload_n 0, 1) := by decide +kernel
theorem dX7_order_161 : decode cX7_order 161 = .ok (.getfield 47, 3) := by decide +kernel
theorem dX7_order_164 : decode cX7_order 164 = .ok (.aload_n 0, 1) := by decide +kernel
theorem dX7_order_165 : decode cX7_order 165 = .ok (.getfield 88, 3) := by decide +kernel
theorem dX7_order_168 : decode cX7_order 168 = .ok (.aload_n 0, 1) := by decide +kernel
theorem dX7_order_169 : decode cX7_order 169 = .ok (.getfield 17, 3) := by decide +kernel
theorem dX7_order_172 : decode cX7_order 172 = .ok (.iload_n 2, 1) := by decide +kernel
theorem dX7_order_173 : decode cX7_order 173 = .ok (.iaload, 1) := by decide +kernel
theorem dX7_order_174 : decode cX7_order 174 = .ok (.iastore, 1) := by decide +kernel
theorem dX7_order_175 : decode cX7_order 175 = .ok (.aload_n 0, 1) := by decide +kernel
theorem dX7_order_176 : decode cX7_order 176 = .ok (.getfield 50, 3) := by decide +kernel
theorem dX7_order_179 : decode cX7_order 179 = .ok (.aload_n 0, 1) := by decide +kernel
theorem dX7_order_180 : decode cX7_order 180 = .ok (.getfield 88, 3) := by decide +kernel
theorem dX7_order_183 : decode cX7_order 183 = .ok (.iload 4, 2) := by decide +kernel
theorem dX7_order_185 : decode cX7_order 185 = .ok (.iastore, 1) := by decide +kernel
theorem dX7_order_186 : decode cX7_order 186 = .ok (.aload_n 0, 1) := by decide +kernel
theorem dX7_order_187 : decode cX7_order 187 = .ok (.getfield 53, 3) := by decide +kernel
theorem dX7_order_190 : decode cX7_order 190 = .ok (.aload_n 0, 1) := by decide +kernel
theorem dX7_order_191 : decode cX7_order 191 = .ok (.getfield 88, 3) := by decide +kernel
theorem dX7_order_194 : decode cX7_order 194 = .ok (.iconst (-1), 1) := by decide +kernel
theorem dX7_order_195 : decode cX7_order 195 = .ok (.iastore, 1) := by decide +kernel
theorem dX7_order_196 : decode cX7_order 196 = .ok (.aload_n 0, 1) := by decide +kernel
theorem dX7_order_197 : decode cX7_order 197 = .ok (.dup, 1) := by decide +kernel
theorem dX7_order_198 : decode cX7_order 198 = .ok (.getfield 88, 3) := by decide +kernel
theorem dX7_order_201 : decode cX7_order 201 = .ok (.iconst 1, 1) := by decide +kernel
theorem dX7_order_202 : decode cX7_order 202 = .ok (.iadd, 1) := by decide +kernel
theorem dX7_order_203 : decode cX7_order 203 = .ok (.putfield 88, 3) := by decide +kernel
theorem dX7_order_206 : decode cX7_order 206 = .ok (.aload_n 0, 1) := by decide +kernel
theorem dX7_order_207 : decode cX7_order 207 = .ok (.getfield 88, 3) := by decide +kernel
theorem dX7_order_210 : decode cX7_order 210 = .ok (.iconst 1, 1) := by decide +kernel
theorem dX7_order_211 : decode cX7_order 211 = .ok (.isub, 1) := by decide +kernel
theorem dX7_order_212 : decode cX7_order 212 = .ok (.ireturn, 1) := by decide +kernel
theorem dX7_waiting_0 : decode cX7_waiting 0 = .ok (.iconst 0, 1) := by decide +kernel
theorem dX7_waiting_1 : decode cX7_waiting 1 = .ok (.istore_n 1, 1) := by decide +kernel
theorem dX7_waiting_2 : decode cX7_waiting 2 = .ok (.iconst 0, 1) := by decide +kernel
theorem dX7_waiting_3 : decode cX7_waiting 3 = .ok (.istore_n 2, 1) := by decide +kernel
theorem dX7_waiting_4 : decode cX7_waiting 4 = .ok (.iload_n 2, 1) := by decide +kernel
theorem dX7_waiting_5 : decode cX7_waiting 5 = .ok (.aload_n 0, 1) := by decide +kernel
theorem dX7_waiting_6 : decode cX7_waiting 6 = .ok (.getfield 88, 3) := by decide +kernel
theorem dX7_waiting_9 : decode cX7_waiting 9 = .ok (.if_icmp .ge 27, 3) := by decide +kernel
theorem dX7_waiting_12 : decode cX7_waiting 12 = .ok (.iload_n 1, 1) := by decide +kernel
theorem dX7_waiting_13 : decode cX7_waiting 13 = .ok (.aload_n 0, 1) := by decide +kernel
theorem dX7_waiting_14 : decode cX7_waiting 14 = .ok (.getfield 35, 3) := by decide +kernel
theorem dX7_waiting_17 : decode cX7_waiting 17 = .ok (.iload_n 2, 1) := by decide +kernel
theorem dX7_waiting_18 : decode cX7_waiting 18 = .ok (.iaload, 1) := by decide +kernel
theorem dX7_waiting_19 : decode cX7_waiting 19 = .ok (.iconst 1, 1) := by decide +kernel
theorem dX7_waiting_20 : decode cX7_waiting 20 = .ok (.if_icmp .ne 7, 3) := by decide +kernel
theorem dX7_waiting_23 : decode cX7_waiting 23 = .ok (.iconst 1, 1) := by decide +kernel
theorem dX7_waiting_24 : decode cX7_waiting 24 = .ok (.goto 4, 3) := by decide +kernel
theorem dX7_waiting_27 : decode cX7_waiting 27 = .ok (.iconst 0, 1) := by decide +kernel
theorem dX7_waiting_28 : decode cX7_waiting 28 = .ok (.iadd, 1) := by decide +kernel
theorem dX7_waiting_29 : decode cX7_waiting 29 = .ok (.istore_n 1, 1) := by decide +kernel
theorem dX7_waiting_30 : decode cX7_waiting 30 = .ok (.iinc 2 1, 3) := by decide +kernel
theorem dX7_waiting_33 : decode cX7_waiting 33 = .ok (.goto (-29), 3) := by decide +kernel
theorem dX7_waiting_36 : decode cX7_waiting 36 = .ok (.iload_n 1, 1) := by decide +kernel
theorem dX7_waiting_37 : decode cX7_waiting 37 = .ok (.ireturn, 1) := by decide +kernel
theorem dX7_cancel_0 : decode cX7_cancel 0 = .ok (.aload_n 0, 1) := by decide +kernel
theorem dX7_cancel_1 : decode cX7_cancel 1 = .ok (.aload_n 0, 1) := by decide +kernel
theorem dX7_cancel_2 : decode cX7_cancel 2 = .ok (.iload_n 1, 1) := by decide +kernel
theorem dX7_cancel_3 : decode cX7_cancel 3 = .ok (.invokevirtual 139, 3) := by decide +kernel
theorem dX7_cancel_6 : decode cX7_cancel 6 = .ok (.ifCond .ne 7, 3) := by decide +kernel
theorem dX7_cancel_9 : decode cX7_cancel 9 = .ok (.iconst 1, 1) := by decide +kernel
theorem dX7_cancel_10 : decode cX7_cancel 10 = .ok (.goto 34, 3) := by decide +kernel
theorem dX7_cancel_13 : decode cX7_cancel 13 = .ok (.aload_n 0, 1) := by decide +kernel
theorem dX7_cancel_14 : decode cX7_cancel 14 = .ok (.getfield 35, 3) := by decide +kernel
theorem dX7_cancel_17 : decode cX7_cancel 17 = .ok (.iload_n 1, 1) := by decide +kernel
theorem dX7_cancel_18 : decode cX7_cancel 18 = .ok (.iaload, 1) := by decide +kernel
theorem dX7_cancel_19 : decode cX7_cancel 19 = .ok (.iconst 1, 1) := by decide +kernel
theorem dX7_cancel_20 : decode cX7_cancel 20 = .ok (.if_icmp .ne 19, 3) := by decide +kernel
theorem dX7_cancel_23 : decode cX7_cancel 23 = .ok (.aload_n 0, 1) := by decide +kernel
theorem dX7_cancel_24 : decode cX7_cancel 24 = .ok (.getfield 50, 3) := by decide +kernel
theorem dX7_cancel_27 : decode cX7_cancel 27 = .ok (.iload_n 1, 1) := by decide +kernel
theorem dX7_cancel_28 : decode cX7_cancel 28 = .ok (.iaload, 1) := by decide +kernel
theorem dX7_cancel_29 : decode cX7_cancel 29 = .ok (.aload_n 0, 1) := by decide +kernel
theorem dX7_cancel_30 : decode cX7_cancel 30 = .ok (.getfield 91, 3) := by decide +kernel
theorem dX7_cancel_33 : decode cX7_cancel 33 = .ok (.isub, 1) := by decide +kernel
theorem dX7_cancel_34 : decode cX7_cancel 34 = .ok (.bipush 10, 2) := by decide +kernel
theorem dX7_cancel_36 : decode cX7_cancel 36 = .ok (.if_icmp .ge 7, 3) := by decide +kernel
theorem dX7_cancel_39 : decode cX7_cancel 39 = .ok (.iconst 2, 1) := by decide +kernel
theorem dX7_cancel_40 : decode cX7_cancel 40 = .ok (.goto 4, 3) := by decide +kernel
theorem dX7_cancel_43 : decode cX7_cancel 43 = .ok (.iconst 0, 1) := by decide +kernel
theorem dX7_cancel_44 : decode cX7_cancel 44 = .ok (.putfield 80, 3) := by decide +kernel
theorem dX7_cancel_47 : decode cX7_cancel 47 = .ok (.aload_n 0, 1) := by decide +kernel
theorem dX7_cancel_48 : decode cX7_cancel 48 = .ok (.getfield 80, 3) := by decide +kernel
theorem dX7_cancel_51 : decode cX7_cancel 51 = .ok (.ifCond .le 5, 3) := by decide +kernel
theorem dX7_cancel_54 : decode cX7_cancel 54 = .ok (.iconst 0, 1) := by decide +kernel
theorem dX7_cancel_55 : decode cX7_cancel 55 = .ok (.ireturn, 1) := by decide +kernel
theorem dX7_cancel_56 : decode cX7_cancel 56 = .ok (.aload_n 0, 1) := by decide +kernel
theorem dX7_cancel_57 : decode cX7_cancel 57 = .ok (.getfield 35, 3) := by decide +kernel
theorem dX7_cancel_60 : decode cX7_cancel 60 = .ok (.iload_n 1, 1) := by decide +kernel
theorem dX7_cancel_61 : decode cX7_cancel 61 = .ok (.iconst 3, 1) := by decide +kernel
theorem dX7_cancel_62 : decode cX7_cancel 62 = .ok (.iastore, 1) := by decide +kernel
theorem dX7_cancel_63 : decode cX7_cancel 63 = .ok (.aload_n 0, 1) := by decide +kernel
theorem dX7_cancel_64 : decode cX7_cancel 64 = .ok (.invokevirtual 142, 3) := by decide +kernel
theorem dX7_cancel_67 : decode cX7_cancel 67 = .ok (.ireturn, 1) := by decide +kernel
theorem dX7_pays_0 : decode cX7_pays 0 = .ok (.aload_n 0, 1) := by decide +kernel
theorem dX7_pays_1 : decode cX7_pays 1 = .ok (.getfield 74, 3) := by decide +kernel
theorem dX7_pays_4 : decode cX7_pays 4 = .ok (.iload_n 1, 1) := by decide +kernel
theorem dX7_pays_5 : decode cX7_pays 5 = .ok (.dup2, 1) := by decide +kernel
theorem dX7_pays_6 : decode cX7_pays 6 = .ok (.iaload, 1) := by decide +kernel
theorem dX7_pays_7 : decode cX7_pays 7 = .ok (.iload_n 3, 1) := by decide +kernel
theorem dX7_pays_8 : decode cX7_pays 8 = .ok (.isub, 1) := by decide +kernel
theorem dX7_pays_9 : decode cX7_pays 9 = .ok (.iastore, 1) := by decide +kernel
theorem dX7_pays_10 : decode cX7_pays 10 = .ok (.aload_n 0, 1) := by decide +kernel
theorem dX7_pays_11 : decode cX7_pays 11 = .ok (.getfield 74, 3) := by decide +kernel
theorem dX7_pays_14 : decode cX7_pays 14 = .ok (.iload_n 2, 1) := by decide +kernel
theorem dX7_pays_15 : decode cX7_pays 15 = .ok (.dup2, 1) := by decide +kernel
theorem dX7_pays_16 : decode cX7_pays 16 = .ok (.iaload, 1) := by decide +kernel
theorem dX7_pays_17 : decode cX7_pays 17 = .ok (.iload_n 3, 1) := by decide +kernel
theorem dX7_pays_18 : decode cX7_pays 18 = .ok (.iadd, 1) := by decide +kernel
theorem dX7_pays_19 : decode cX7_pays 19 = .ok (.iastore, 1) := by decide +kernel
theorem dX7_pays_20 : decode cX7_pays 20 = .ok (.return_, 1) := by decide +kernel
theorem dX7_reverse_0 : decode cX7_reverse 0 = .ok (.aload_n 0, 1) := by decide +kernel
theorem dX7_reverse_1 : decode cX7_reverse 1 = .ok (.aload_n 0, 1) := by decide +kernel
theorem dX7_reverse_2 : decode cX7_reverse 2 = .ok (.iload_n 1, 1) := by decide +kernel
theorem dX7_reverse_3 : decode cX7_reverse 3 = .ok (.invokevirtual 139, 3) := by decide +kernel
theorem dX7_reverse_6 : decode cX7_reverse 6 = .ok (.ifCond .ne 7, 3) := by decide +kernel
theorem dX7_reverse_9 : decode cX7_reverse 9 = .ok (.iconst 1, 1) := by decide +kernel
theorem dX7_reverse_10 : decode cX7_reverse 10 = .ok (.goto 4, 3) := by decide +kernel
theorem dX7_reverse_13 : decode cX7_reverse 13 = .ok (.iconst 0, 1) := by decide +kernel
theorem dX7_reverse_14 : decode cX7_reverse 14 = .ok (.putfield 80, 3) := by decide +kernel
theorem dX7_reverse_17 : decode cX7_reverse 17 = .ok (.aload_n 0, 1) := by decide +kernel
theorem dX7_reverse_18 : decode cX7_reverse 18 = .ok (.getfield 80, 3) := by decide +kernel
theorem dX7_reverse_21 : decode cX7_reverse 21 = .ok (.ifCond .ne 92, 3) := by decide +kernel
theorem dX7_reverse_24 : decode cX7_reverse 24 = .ok (.aload_n 0, 1) := by decide +kernel
theorem dX7_reverse_25 : decode cX7_reverse 25 = .ok (.getfield 35, 3) := by decide +kernel
theorem dX7_reverse_28 : decode cX7_reverse 28 = .ok (.iload_n 1, 1) := by decide +kernel
theorem dX7_reverse_29 : decode cX7_reverse 29 = .ok (.iaload, 1) := by decide +kernel
theorem dX7_reverse_30 : decode cX7_reverse 30 = .ok (.iconst 2, 1) := by decide +kernel
theorem dX7_reverse_31 : decode cX7_reverse 31 = .ok (.if_icmp .ne 38, 3) := by decide +kernel
theorem dX7_reverse_34 : decode cX7_reverse 34 = .ok (.aload_n 0, 1) := by decide +kernel
theorem dX7_reverse_35 : decode cX7_reverse 35 = .ok (.getfield 91, 3) := by decide +kernel
theorem dX7_reverse_38 : decode cX7_reverse 38 = .ok (.aload_n 0, 1) := by decide +kernel
theorem dX7_reverse_39 : decode cX7_reverse 39 = .ok (.getfield 53, 3) := by decide +kernel
theorem dX7_reverse_42 : decode cX7_reverse 42 = .ok (.iload_n 1, 1) := by decide +kernel
theorem dX7_reverse_43 : decode cX7_reverse 43 = .ok (.iaload, 1) := by decide +kernel
theorem dX7_reverse_44 : decode cX7_reverse 44 = .ok (.isub, 1) := by decide +kernel
theorem dX7_reverse_45 : decode cX7_reverse 45 = .ok (.bipush 60, 2) := by decide +kernel
theorem dX7_reverse_47 : decode cX7_reverse 47 = .ok (.if_icmp .gt 22, 3) := by decide +kernel
theorem dX7_reverse_50 : decode cX7_reverse 50 = .ok (.aload_n 0, 1) := by decide +kernel
theorem dX7_reverse_51 : decode cX7_reverse 51 = .ok (.getfield 17, 3) := by decide +kernel
theorem dX7_reverse_54 : decode cX7_reverse 54 = .ok (.aload_n 0, 1) := by decide +kernel
theorem dX7_reverse_55 : decode cX7_reverse 55 = .ok (.getfield 41, 3) := by decide +kernel
theorem dX7_reverse_58 : decode cX7_reverse 58 = .ok (.iload_n 1, 1) := by decide +kernel
theorem dX7_reverse_59 : decode cX7_reverse 59 = .ok (.iaload, 1) := by decide +kernel
theorem dX7_reverse_60 : decode cX7_reverse 60 = .ok (.iaload, 1) := by decide +kernel
theorem dX7_reverse_61 : decode cX7_reverse 61 = .ok (.iconst (-1), 1) := by decide +kernel
theorem dX7_reverse_62 : decode cX7_reverse 62 = .ok (.if_icmp .eq 7, 3) := by decide +kernel
theorem dX7_reverse_65 : decode cX7_reverse 65 = .ok (.iconst 1, 1) := by decide +kernel
theorem dX7_reverse_66 : decode cX7_reverse 66 = .ok (.goto 4, 3) := by decide +kernel
theorem dX7_reverse_69 : decode cX7_reverse 69 = .ok (.iconst 0, 1) := by decide +kernel
theorem dX7_reverse_70 : decode cX7_reverse 70 = .ok (.istore_n 2, 1) := by decide +kernel
theorem dX7_reverse_71 : decode cX7_reverse 71 = .ok (.aload_n 0, 1) := by decide +kernel
theorem dX7_reverse_72 : decode cX7_reverse 72 = .ok (.iload_n 2, 1) := by decide +kernel
theorem dX7_reverse_73 : decode cX7_reverse 73 = .ok (.ifCond .eq 36, 3) := by decide +kernel
theorem dX7_reverse_76 : decode cX7_reverse 76 = .ok (.aload_n 0, 1) := by decide +kernel
theorem dX7_reverse_77 : decode cX7_reverse 77 = .ok (.getfield 32, 3) := by decide +kernel
theorem dX7_reverse_80 : decode cX7_reverse 80 = .ok (.aload_n 0, 1) := by decide +kernel
theorem dX7_reverse_81 : decode cX7_reverse 81 = .ok (.getfield 41, 3) := by decide +kernel
theorem dX7_reverse_84 : decode cX7_reverse 84 = .ok (.iload_n 1, 1) := by decide +kernel
theorem dX7_reverse_85 : decode cX7_reverse 85 = .ok (.iaload, 1) := by decide +kernel
theorem dX7_reverse_86 : decode cX7_reverse 86 = .ok (.iaload, 1) := by decide +kernel
theorem dX7_reverse_87 : decode cX7_reverse 87 = .ok (.iload_n 1, 1) := by decide +kernel
theorem dX7_reverse_88 : decode cX7_reverse 88 = .ok (.if_icmp .ne 21, 3) := by decide +kernel
theorem dX7_reverse_91 : decode cX7_reverse 91 = .ok (.aload_n 0, 1) := by decide +kernel
theorem dX7_reverse_92 : decode cX7_reverse 92 = .ok (.getfield 13, 3) := by decide +kernel
theorem dX7_reverse_95 : decode cX7_reverse 95 = .ok (.aload_n 0, 1) := by decide +kernel
theorem dX7_reverse_96 : decode cX7_reverse 96 = .ok (.getfield 47, 3) := by decide +kernel
theorem dX7_reverse_99 : decode cX7_reverse 99 = .ok (.iload_n 1, 1) := by decide +kernel
theorem dX7_reverse_100 : decode cX7_reverse 100 = .ok (.iaload, 1) := by decide +kernel
theorem dX7_reverse_101 : decode cX7_reverse 101 = .ok (.baload, 1) := by decide +kernel
theorem dX7_reverse_102 : decode cX7_reverse 102 = .ok (.ifCond .ne 7, 3) := by decide +kernel
theorem dX7_reverse_105 : decode cX7_reverse 105 = .ok (.iconst 0, 1) := by decide +kernel
theorem dX7_reverse_106 : decode cX7_reverse 106 = .ok (.goto 4, 3) := by decide +kernel
theorem dX7_reverse_109 : decode cX7_reverse 109 = .ok (.iconst 2, 1) := by decide +kernel
theorem dX7_reverse_110 : decode cX7_reverse 110 = .ok (.putfield 80, 3) := by decide +kernel
theorem dX7_reverse_113 : decode cX7_reverse 113 = .ok (.aload_n 0, 1) := by decide +kernel
theorem dX7_reverse_114 : decode cX7_reverse 114 = .ok (.getfield 80, 3) := by decide +kernel
theorem dX7_reverse_117 : decode cX7_reverse 117 = .ok (.ifCond .le 5, 3) := by decide +kernel
theorem dX7_reverse_120 : decode cX7_reverse 120 = .ok (.iconst 0, 1) := by decide +kernel
theorem dX7_reverse_121 : decode cX7_reverse 121 = .ok (.ireturn, 1) := by decide +kernel
theorem dX7_reverse_122 : decode cX7_reverse 122 = .ok (.aload_n 0, 1) := by decide +kernel
theorem dX7_reverse_123 : decode cX7_reverse 123 = .ok (.getfield 35, 3) := by decide +kernel
theorem dX7_reverse_126 : decode cX7_reverse 126 = .ok (.iload_n 1, 1) := by decide +kernel
theorem dX7_reverse_127 : decode cX7_reverse 127 = .ok (.iconst 4, 1) := by decide +kernel
theorem dX7_reverse_128 : decode cX7_reverse 128 = .ok (.iastore, 1) := by decide +kernel
theorem dX7_reverse_129 : decode cX7_reverse 129 = .ok (.aload_n 0, 1) := by decide +kernel
theorem dX7_reverse_130 : decode cX7_reverse 130 = .ok (.aload_n 0, 1) := by decide +kernel
theorem dX7_reverse_131 : decode cX7_reverse 131 = .ok (.getfield 47, 3) := by decide +kernel
theorem dX7_reverse_134 : decode cX7_reverse 134 = .ok (.iload_n 1, 1) := by decide +kernel
theorem dX7_reverse_135 : decode cX7_reverse 135 = .ok (.iaload, 1) := by decide +kernel
theorem dX7_reverse_136 : decode cX7_reverse 136 = .ok (.aload_n 0, 1) := by decide +kernel
theorem dX7_reverse_137 : decode cX7_reverse 137 = .ok (.getfield 44, 3) := by decide +kernel
theorem dX7_reverse_140 : decode cX7_reverse 140 = .ok (.iload_n 1, 1) := by decide +kernel
theorem dX7_reverse_141 : decode cX7_reverse 141 = .ok (.iaload, 1) := by decide +kernel
theorem dX7_reverse_142 : decode cX7_reverse 142 = .ok (.iconst 5, 1) := by decide +kernel
theorem dX7_reverse_143 : decode cX7_reverse 143 = .ok (.invokevirtual 146, 3) := by decide +kernel
theorem dX7_reverse_146 : decode cX7_reverse 146 = .ok (.aload_n 0, 1) := by decide +kernel
theorem dX7_reverse_147 : decode cX7_reverse 147 = .ok (.aload_n 0, 1) := by decide +kernel
theorem dX7_reverse_148 : decode cX7_reverse 148 = .ok (.getfield 41, 3) := by decide +kernel
theorem dX7_reverse_151 : decode cX7_reverse 151 = .ok (.iload_n 1, 1) := by decide +kernel
theorem dX7_reverse_152 : decode cX7_reverse 152 = .ok (.iaload, 1) := by decide +kernel
theorem dX7_reverse_153 : decode cX7_reverse 153 = .ok (.aload_n 0, 1) := by decide +kernel
theorem dX7_reverse_154 : decode cX7_reverse 154 = .ok (.getfield 47, 3) := by decide +kernel
theorem dX7_reverse_157 : decode cX7_reverse 157 = .ok (.iload_n 1, 1) := by decide +kernel
theorem dX7_reverse_158 : decode cX7_reverse 158 = .ok (.iaload, 1) := by decide +kernel
theorem dX7_reverse_159 : decode cX7_reverse 159 = .ok (.iload_n 1, 1) := by decide +kernel
theorem dX7_reverse_160 : decode cX7_reverse 160 = .ok (.invokevirtual 150, 3) := by decide +kernel
theorem dX7_reverse_163 : decode cX7_reverse 163 = .ok (.aload_n 0, 1) := by decide +kernel
theorem dX7_reverse_164 : decode cX7_reverse 164 = .ok (.getfield 47, 3) := by decide +kernel
theorem dX7_reverse_167 : decode cX7_reverse 167 = .ok (.iload_n 1, 1) := by decide +kernel
theorem dX7_reverse_168 : decode cX7_reverse 168 = .ok (.iaload, 1) := by decide +kernel
theorem dX7_reverse_169 : decode cX7_reverse 169 = .ok (.ireturn, 1) := by decide +kernel
theorem dX7_putsOff_0 : decode cX7_putsOff 0 = .ok (.aload_n 0, 1) := by decide +kernel
theorem dX7_putsOff_1 : decode cX7_putsOff 1 = .ok (.getfield 50, 3) := by decide +kernel
theorem dX7_putsOff_4 : decode cX7_putsOff 4 = .ok (.iload_n 1, 1) := by decide +kernel
theorem dX7_putsOff_5 : decode cX7_putsOff 5 = .ok (.iaload, 1) := by decide +kernel
theorem dX7_putsOff_6 : decode cX7_putsOff 6 = .ok (.bipush 100, 2) := by decide +kernel
theorem dX7_putsOff_8 : decode cX7_putsOff 8 = .ok (.iadd, 1) := by decide +kernel
theorem dX7_putsOff_9 : decode cX7_putsOff 9 = .ok (.istore_n 2, 1) := by decide +kernel
theorem dX7_putsOff_10 : decode cX7_putsOff 10 = .ok (.aload_n 0, 1) := by decide +kernel
theorem dX7_putsOff_11 : decode cX7_putsOff 11 = .ok (.iload_n 2, 1) := by decide +kernel
theorem dX7_putsOff_12 : decode cX7_putsOff 12 = .ok (.invokevirtual 132, 3) := by decide +kernel
theorem dX7_putsOff_15 : decode cX7_putsOff 15 = .ok (.iconst 3, 1) := by decide +kernel
theorem dX7_putsOff_16 : decode cX7_putsOff 16 = .ok (.if_icmp .lt 9, 3) := by decide +kernel
theorem dX7_putsOff_19 : decode cX7_putsOff 19 = .ok (.iinc 2 100, 3) := by decide +kernel
theorem dX7_putsOff_22 : decode cX7_putsOff 22 = .ok (.goto (-12), 3) := by decide +kernel
theorem dX7_putsOff_25 : decode cX7_putsOff 25 = .ok (.aload_n 0, 1) := by decide +kernel
theorem dX7_putsOff_26 : decode cX7_putsOff 26 = .ok (.getfield 50, 3) := by decide +kernel
theorem dX7_putsOff_29 : decode cX7_putsOff 29 = .ok (.iload_n 1, 1) := by decide +kernel
theorem dX7_putsOff_30 : decode cX7_putsOff 30 = .ok (.iload_n 2, 1) := by decide +kernel
theorem dX7_putsOff_31 : decode cX7_putsOff 31 = .ok (.iastore, 1) := by decide +kernel
theorem dX7_putsOff_32 : decode cX7_putsOff 32 = .ok (.return_, 1) := by decide +kernel
theorem dX7_comes_0 : decode cX7_comes 0 = .ok (.aload_n 0, 1) := by decide +kernel
theorem dX7_comes_1 : decode cX7_comes 1 = .ok (.getfield 41, 3) := by decide +kernel
theorem dX7_comes_4 : decode cX7_comes 4 = .ok (.iload_n 1, 1) := by decide +kernel
theorem dX7_comes_5 : decode cX7_comes 5 = .ok (.iaload, 1) := by decide +kernel
theorem dX7_comes_6 : decode cX7_comes 6 = .ok (.istore_n 2, 1) := by decide +kernel
theorem dX7_comes_7 : decode cX7_comes 7 = .ok (.aload_n 0, 1) := by decide +kernel
theorem dX7_comes_8 : decode cX7_comes 8 = .ok (.iload_n 2, 1) := by decide +kernel
theorem dX7_comes_9 : decode cX7_comes 9 = .ok (.invokevirtual 153, 3) := by decide +kernel
theorem dX7_comes_12 : decode cX7_comes 12 = .ok (.ifCond .eq 10, 3) := by decide +kernel
theorem dX7_comes_15 : decode cX7_comes 15 = .ok (.aload_n 0, 1) := by decide +kernel
theorem dX7_comes_16 : decode cX7_comes 16 = .ok (.iload_n 1, 1) := by decide +kernel
theorem dX7_comes_17 : decode cX7_comes 17 = .ok (.invokevirtual 156, 3) := by decide +kernel
theorem dX7_comes_20 : decode cX7_comes 20 = .ok (.iconst 0, 1) := by decide +kernel
theorem dX7_comes_21 : decode cX7_comes 21 = .ok (.ireturn, 1) := by decide +kernel
theorem dX7_comes_22 : decode cX7_comes 22 = .ok (.aload_n 0, 1) := by decide +kernel
theorem dX7_comes_23 : decode cX7_comes 23 = .ok (.getfield 17, 3) := by decide +kernel
theorem dX7_comes_26 : decode cX7_comes 26 = .ok (.iload_n 2, 1) := by decide +kernel
theorem dX7_comes_27 : decode cX7_comes 27 = .ok (.iaload, 1) := by decide +kernel
theorem dX7_comes_28 : decode cX7_comes 28 = .ok (.aload_n 0, 1) := by decide +kernel
theorem dX7_comes_29 : decode cX7_comes 29 = .ok (.getfield 44, 3) := by decide +kernel
theorem dX7_comes_32 : decode cX7_comes 32 = .ok (.iload_n 1, 1) := by decide +kernel
theorem dX7_comes_33 : decode cX7_comes 33 = .ok (.iaload, 1) := by decide +kernel
theorem dX7_comes_34 : decode cX7_comes 34 = .ok (.if_icmp .ne 12, 3) := by decide +kernel
theorem dX7_comes_37 : decode cX7_comes 37 = .ok (.aload_n 0, 1) := by decide +kernel
theorem dX7_comes_38 : decode cX7_comes 38 = .ok (.getfield 35, 3) := by decide +kernel
theorem dX7_comes_41 : decode cX7_comes 41 = .ok (.iload_n 1, 1) := by decide +kernel
theorem dX7_comes_42 : decode cX7_comes 42 = .ok (.iconst 3, 1) := by decide +kernel
theorem dX7_comes_43 : decode cX7_comes 43 = .ok (.iastore, 1) := by decide +kernel
theorem dX7_comes_44 : decode cX7_comes 44 = .ok (.iconst 0, 1) := by decide +kernel
theorem dX7_comes_45 : decode cX7_comes 45 = .ok (.ireturn, 1) := by decide +kernel
theorem dX7_comes_46 : decode cX7_comes 46 = .ok (.aload_n 0, 1) := by decide +kernel
theorem dX7_comes_47 : decode cX7_comes 47 = .ok (.getfield 47, 3) := by decide +kernel
theorem dX7_comes_50 : decode cX7_comes 50 = .ok (.iload_n 1, 1) := by decide +kernel
theorem dX7_comes_51 : decode cX7_comes 51 = .ok (.aload_n 0, 1) := by decide +kernel
theorem dX7_comes_52 : decode cX7_comes 52 = .ok (.getfield 17, 3) := by decide +kernel
theorem dX7_comes_55 : decode cX7_comes 55 = .ok (.iload_n 2, 1) := by decide +kernel
theorem dX7_comes_56 : decode cX7_comes 56 = .ok (.iaload, 1) := by decide +kernel
theorem dX7_comes_57 : decode cX7_comes 57 = .ok (.iastore, 1) := by decide +kernel
theorem dX7_comes_58 : decode cX7_comes 58 = .ok (.aload_n 0, 1) := by decide +kernel
theorem dX7_comes_59 : decode cX7_comes 59 = .ok (.getfield 35, 3) := by decide +kernel
theorem dX7_comes_62 : decode cX7_comes 62 = .ok (.iload_n 1, 1) := by decide +kernel
theorem dX7_comes_63 : decode cX7_comes 63 = .ok (.iconst 2, 1) := by decide +kernel
theorem dX7_comes_64 : decode cX7_comes 64 = .ok (.iastore, 1) := by decide +kernel
theorem dX7_comes_65 : decode cX7_comes 65 = .ok (.aload_n 0, 1) := by decide +kernel
theorem dX7_comes_66 : decode cX7_comes 66 = .ok (.getfield 53, 3) := by decide +kernel
theorem dX7_comes_69 : decode cX7_comes 69 = .ok (.iload_n 1, 1) := by decide +kernel
theorem dX7_comes_70 : decode cX7_comes 70 = .ok (.aload_n 0, 1) := by decide +kernel
theorem dX7_comes_71 : decode cX7_comes 71 = .ok (.getfield 91, 3) := by decide +kernel
theorem dX7_comes_74 : decode cX7_comes 74 = .ok (.iastore, 1) := by decide +kernel
theorem dX7_comes_75 : decode cX7_comes 75 = .ok (.aload_n 0, 1) := by decide +kernel
theorem dX7_comes_76 : decode cX7_comes 76 = .ok (.aload_n 0, 1) := by decide +kernel
theorem dX7_comes_77 : decode cX7_comes 77 = .ok (.getfield 44, 3) := by decide +kernel
theorem dX7_comes_80 : decode cX7_comes 80 = .ok (.iload_n 1, 1) := by decide +kernel
theorem dX7_comes_81 : decode cX7_comes 81 = .ok (.iaload, 1) := by decide +kernel
theorem dX7_comes_82 : decode cX7_comes 82 = .ok (.aload_n 0, 1) := by decide +kernel
theorem dX7_comes_83 : decode cX7_comes 83 = .ok (.getfield 47, 3) := by decide +kernel
theorem dX7_comes_86 : decode cX7_comes 86 = .ok (.iload_n 1, 1) := by decide +kernel
theorem dX7_comes_87 : decode cX7_comes 87 = .ok (.iaload, 1) := by decide +kernel
theorem dX7_comes_88 : decode cX7_comes 88 = .ok (.iconst 5, 1) := by decide +kernel
theorem dX7_comes_89 : decode cX7_comes 89 = .ok (.invokevirtual 146, 3) := by decide +kernel
theorem dX7_comes_92 : decode cX7_comes 92 = .ok (.aload_n 0, 1) := by decide +kernel
theorem dX7_comes_93 : decode cX7_comes 93 = .ok (.iload_n 2, 1) := by decide +kernel
theorem dX7_comes_94 : decode cX7_comes 94 = .ok (.aload_n 0, 1) := by decide +kernel
theorem dX7_comes_95 : decode cX7_comes 95 = .ok (.getfield 44, 3) := by decide +kernel
theorem dX7_comes_98 : decode cX7_comes 98 = .ok (.iload_n 1, 1) := by decide +kernel
theorem dX7_comes_99 : decode cX7_comes 99 = .ok (.iaload, 1) := by decide +kernel
theorem dX7_comes_100 : decode cX7_comes 100 = .ok (.iload_n 1, 1) := by decide +kernel
theorem dX7_comes_101 : decode cX7_comes 101 = .ok (.invokevirtual 150, 3) := by decide +kernel
theorem dX7_comes_104 : decode cX7_comes 104 = .ok (.iconst 1, 1) := by decide +kernel
theorem dX7_comes_105 : decode cX7_comes 105 = .ok (.ireturn, 1) := by decide +kernel
theorem dX7_learns_0 : decode cX7_learns 0 = .ok (.iconst 0, 1) := by decide +kernel
theorem dX7_learns_1 : decode cX7_learns 1 = .ok (.istore_n 1, 1) := by decide +kernel
theorem dX7_learns_2 : decode cX7_learns 2 = .ok (.iload_n 1, 1) := by decide +kernel
theorem dX7_learns_3 : decode cX7_learns 3 = .ok (.bipush 6, 2) := by decide +kernel
theorem dX7_learns_5 : decode cX7_learns 5 = .ok (.if_icmp .ge 69, 3) := by decide +kernel
theorem dX7_learns_8 : decode cX7_learns 8 = .ok (.aload_n 0, 1) := by decide +kernel
theorem dX7_learns_9 : decode cX7_learns 9 = .ok (.getfield 71, 3) := by decide +kernel
theorem dX7_learns_12 : decode cX7_learns 12 = .ok (.iload_n 1, 1) := by decide +kernel
theorem dX7_learns_13 : decode cX7_learns 13 = .ok (.baload, 1) := by decide +kernel
theorem dX7_learns_14 : decode cX7_learns 14 = .ok (.ifCond .ne 54, 3) := by decide +kernel
theorem dX7_learns_17 : decode cX7_learns 17 = .ok (.aload_n 0, 1) := by decide +kernel
theorem dX7_learns_18 : decode cX7_learns 18 = .ok (.getfield 65, 3) := by decide +kernel
theorem dX7_learns_21 : decode cX7_learns 21 = .ok (.iload_n 1, 1) := by decide +kernel
theorem dX7_learns_22 : decode cX7_learns 22 = .ok (.iaload, 1) := by decide +kernel
theorem dX7_learns_23 : decode cX7_learns 23 = .ok (.aload_n 0, 1) := by decide +kernel
theorem dX7_learns_24 : decode cX7_learns 24 = .ok (.getfield 117, 3) := by decide +kernel
theorem dX7_learns_27 : decode cX7_learns 27 = .ok (.if_icmp .ge 41, 3) := by decide +kernel
theorem dX7_learns_30 : decode cX7_learns 30 = .ok (.aload_n 0, 1) := by decide +kernel
theorem dX7_learns_31 : decode cX7_learns 31 = .ok (.getfield 56, 3) := by decide +kernel
theorem dX7_learns_34 : decode cX7_learns 34 = .ok (.aload_n 0, 1) := by decide +kernel
theorem dX7_learns_35 : decode cX7_learns 35 = .ok (.getfield 65, 3) := by decide +kernel
theorem dX7_learns_38 : decode cX7_learns 38 = .ok (.iload_n 1, 1) := by decide +kernel
theorem dX7_learns_39 : decode cX7_learns 39 = .ok (.iaload, 1) := by decide +kernel
theorem dX7_learns_40 : decode cX7_learns 40 = .ok (.iaload, 1) := by decide +kernel
theorem dX7_learns_41 : decode cX7_learns 41 = .ok (.aload_n 0, 1) := by decide +kernel
theorem dX7_learns_42 : decode cX7_learns 42 = .ok (.getfield 91, 3) := by decide +kernel
theorem dX7_learns_45 : decode cX7_learns 45 = .ok (.aload_n 0, 1) := by decide +kernel
theorem dX7_learns_46 : decode cX7_learns 46 = .ok (.getfield 68, 3) := by decide +kernel
theorem dX7_learns_49 : decode cX7_learns 49 = .ok (.iload_n 1, 1) := by decide +kernel
theorem dX7_learns_50 : decode cX7_learns 50 = .ok (.iaload, 1) := by decide +kernel
theorem dX7_learns_51 : decode cX7_learns 51 = .ok (.isub, 1) := by decide +kernel
theorem dX7_learns_52 : decode cX7_learns 52 = .ok (.if_icmp .gt 16, 3) := by decide +kernel
theorem dX7_learns_55 : decode cX7_learns 55 = .ok (.aload_n 0, 1) := by decide +kernel
theorem dX7_learns_56 : decode cX7_learns 56 = .ok (.getfield 65, 3) := by decide +kernel
theorem dX7_learns_59 : decode cX7_learns 59 = .ok (.iload_n 1, 1) := by decide +kernel
theorem dX7_learns_60 : decode cX7_learns 60 = .ok (.dup2, 1) := by decide +kernel
theorem dX7_learns_61 : decode cX7_learns 61 = .ok (.iaload, 1) := by decide +kernel
theorem dX7_learns_62 : decode cX7_learns 62 = .ok (.iconst 1, 1) := by decide +kernel
theorem dX7_learns_63 : decode cX7_learns 63 = .ok (.iadd, 1) := by decide +kernel
theorem dX7_learns_64 : decode cX7_learns 64 = .ok (.iastore, 1) := by decide +kernel
theorem dX7_learns_65 : decode cX7_learns 65 = .ok (.goto (-57), 3) := by decide +kernel
theorem dX7_learns_68 : decode cX7_learns 68 = .ok (.iinc 1 1, 3) := by decide +kernel
theorem dX7_learns_71 : decode cX7_learns 71 = .ok (.goto (-69), 3) := by decide +kernel
theorem dX7_learns_74 : decode cX7_learns 74 = .ok (.return_, 1) := by decide +kernel
theorem dX7_pass_0 : decode cX7_pass 0 = .ok (.aload_n 0, 1) := by decide +kernel
theorem dX7_pass_1 : decode cX7_pass 1 = .ok (.iload_n 1, 1) := by decide +kernel
theorem dX7_pass_2 : decode cX7_pass 2 = .ok (.iconst 1, 1) := by decide +kernel
theorem dX7_pass_3 : decode cX7_pass 3 = .ok (.bipush 100, 2) := by decide +kernel
theorem dX7_pass_5 : decode cX7_pass 5 = .ok (.invokestatic 84, 3) := by decide +kernel
theorem dX7_pass_8 : decode cX7_pass 8 = .ok (.ifCond .ne 7, 3) := by decide +kernel
theorem dX7_pass_11 : decode cX7_pass 11 = .ok (.iconst 1, 1) := by decide +kernel
theorem dX7_pass_12 : decode cX7_pass 12 = .ok (.goto 20, 3) := by decide +kernel
theorem dX7_pass_15 : decode cX7_pass 15 = .ok (.aload_n 0, 1) := by decide +kernel
theorem dX7_pass_16 : decode cX7_pass 16 = .ok (.getfield 91, 3) := by decide +kernel
theorem dX7_pass_19 : decode cX7_pass 19 = .ok (.iload_n 1, 1) := by decide +kernel
theorem dX7_pass_20 : decode cX7_pass 20 = .ok (.iadd, 1) := by decide +kernel
theorem dX7_pass_21 : decode cX7_pass 21 = .ok (.sipush 9999, 3) := by decide +kernel
theorem dX7_pass_24 : decode cX7_pass 24 = .ok (.if_icmp .le 7, 3) := by decide +kernel
theorem dX7_pass_27 : decode cX7_pass 27 = .ok (.iconst 2, 1) := by decide +kernel
theorem dX7_pass_28 : decode cX7_pass 28 = .ok (.goto 4, 3) := by decide +kernel
theorem dX7_pass_31 : decode cX7_pass 31 = .ok (.iconst 0, 1) := by decide +kernel
theorem dX7_pass_32 : decode cX7_pass 32 = .ok (.putfield 80, 3) := by decide +kernel
theorem dX7_pass_35 : decode cX7_pass 35 = .ok (.iconst 0, 1) := by decide +kernel
theorem dX7_pass_36 : decode cX7_pass 36 = .ok (.istore_n 2, 1) := by decide +kernel
theorem dX7_pass_37 : decode cX7_pass 37 = .ok (.iconst 0, 1) := by decide +kernel
theorem dX7_pass_38 : decode cX7_pass 38 = .ok (.istore_n 3, 1) := by decide +kernel
theorem dX7_pass_39 : decode cX7_pass 39 = .ok (.iload_n 3, 1) := by decide +kernel
theorem dX7_pass_40 : decode cX7_pass 40 = .ok (.iload_n 1, 1) := by decide +kernel
theorem dX7_pass_41 : decode cX7_pass 41 = .ok (.if_icmp .ge 90, 3) := by decide +kernel
theorem dX7_pass_44 : decode cX7_pass 44 = .ok (.aload_n 0, 1) := by decide +kernel
theorem dX7_pass_45 : decode cX7_pass 45 = .ok (.getfield 80, 3) := by decide +kernel
theorem dX7_pass_48 : decode cX7_pass 48 = .ok (.ifCond .ne 83, 3) := by decide +kernel
theorem dX7_pass_51 : decode cX7_pass 51 = .ok (.aload_n 0, 1) := by decide +kernel
theorem dX7_pass_52 : decode cX7_pass 52 = .ok (.dup, 1) := by decide +kernel
theorem dX7_pass_53 : decode cX7_pass 53 = .ok (.getfield 91, 3) := by decide +kernel
theorem dX7_pass_56 : decode cX7_pass 56 = .ok (.iconst 1, 1) := by decide +kernel
theorem dX7_pass_57 : decode cX7_pass 57 = .ok (.iadd, 1) := by decide +kernel
theorem dX7_pass_58 : decode cX7_pass 58 = .ok (.putfield 91, 3) := by decide +kernel
theorem dX7_pass_61 : decode cX7_pass 61 = .ok (.iconst 0, 1) := by decide +kernel
theorem dX7_pass_62 : decode cX7_pass 62 = .ok (.istore 4, 2) := by decide +kernel
theorem dX7_pass_64 : decode cX7_pass 64 = .ok (.iload 4, 2) := by decide +kernel
theorem dX7_pass_66 : decode cX7_pass 66 = .ok (.aload_n 0, 1) := by decide +kernel
theorem dX7_pass_67 : decode cX7_pass 67 = .ok (.getfield 88, 3) := by decide +kernel
theorem dX7_pass_70 : decode cX7_pass 70 = .ok (.if_icmp .ge 51, 3) := by decide +kernel
theorem dX7_pass_73 : decode cX7_pass 73 = .ok (.iload_n 2, 1) := by decide +kernel
theorem dX7_pass_74 : decode cX7_pass 74 = .ok (.aload_n 0, 1) := by decide +kernel
theorem dX7_pass_75 : decode cX7_pass 75 = .ok (.getfield 35, 3) := by decide +kernel
theorem dX7_pass_78 : decode cX7_pass 78 = .ok (.iload 4, 2) := by decide +kernel
theorem dX7_pass_80 : decode cX7_pass 80 = .ok (.iaload, 1) := by decide +kernel
theorem dX7_pass_81 : decode cX7_pass 81 = .ok (.iconst 1, 1) := by decide +kernel
theorem dX7_pass_82 : decode cX7_pass 82 = .ok (.if_icmp .ne 30, 3) := by decide +kernel
theorem dX7_pass_85 : decode cX7_pass 85 = .ok (.aload_n 0, 1) := by decide +kernel
theorem dX7_pass_86 : decode cX7_pass 86 = .ok (.getfield 50, 3) := by decide +kernel
theorem dX7_pass_89 : decode cX7_pass 89 = .ok (.iload 4, 2) := by decide +kernel
theorem dX7_pass_91 : decode cX7_pass 91 = .ok (.iaload, 1) := by decide +kernel
theorem dX7_pass_92 : decode cX7_pass 92 = .ok (.aload_n 0, 1) := by decide +kernel
theorem dX7_pass_93 : decode cX7_pass 93 = .ok (.getfield 91, 3) := by decide +kernel
theorem dX7_pass_96 : decode cX7_pass 96 = .ok (.if_icmp .ne 16, 3) := by decide +kernel
theorem dX7_pass_99 : decode cX7_pass 99 = .ok (.aload_n 0, 1) := by decide +kernel
theorem dX7_pass_100 : decode cX7_pass 100 = .ok (.iload 4, 2) := by decide +kernel
theorem dX7_pass_102 : decode cX7_pass 102 = .ok (.invokevirtual 160, 3) := by decide +kernel
theorem dX7_pass_105 : decode cX7_pass 105 = .ok (.ifCond .eq 7, 3) := by decide +kernel
theorem dX7_pass_108 : decode cX7_pass 108 = .ok (.iconst 1, 1) := by decide +kernel
theorem dX7_pass_109 : decode cX7_pass 109 = .ok (.goto 4, 3) := by decide +kernel
theorem dX7_pass_112 : decode cX7_pass 112 = .ok (.iconst 0, 1) := by decide +kernel
theorem dX7_pass_113 : decode cX7_pass 113 = .ok (.iadd, 1) := by decide +kernel
theorem dX7_pass_114 : decode cX7_pass 114 = .ok (.istore_n 2, 1) := by decide +kernel
theorem dX7_pass_115 : decode cX7_pass 115 = .ok (.iinc 4 1, 3) := by decide +kernel
theorem dX7_pass_118 : decode cX7_pass 118 = .ok (.goto (-54), 3) := by decide +kernel
theorem dX7_pass_121 : decode cX7_pass 121 = .ok (.aload_n 0, 1) := by decide +kernel
theorem dX7_pass_122 : decode cX7_pass 122 = .ok (.invokevirtual 163, 3) := by decide +kernel
theorem dX7_pass_125 : decode cX7_pass 125 = .ok (.iinc 3 1, 3) := by decide +kernel
theorem dX7_pass_128 : decode cX7_pass 128 = .ok (.goto (-89), 3) := by decide +kernel
theorem dX7_pass_131 : decode cX7_pass 131 = .ok (.iload_n 2, 1) := by decide +kernel
theorem dX7_pass_132 : decode cX7_pass 132 = .ok (.ireturn, 1) := by decide +kernel
theorem dX7_setLag_0 : decode cX7_setLag 0 = .ok (.aload_n 0, 1) := by decide +kernel
theorem dX7_setLag_1 : decode cX7_setLag 1 = .ok (.iload_n 1, 1) := by decide +kernel
theorem dX7_setLag_2 : decode cX7_setLag 2 = .ok (.invokestatic 98, 3) := by decide +kernel
theorem dX7_setLag_5 : decode cX7_setLag 5 = .ok (.ifCond .ne 7, 3) := by decide +kernel
theorem dX7_setLag_8 : decode cX7_setLag 8 = .ok (.iconst 1, 1) := by decide +kernel
theorem dX7_setLag_9 : decode cX7_setLag 9 = .ok (.goto 18, 3) := by decide +kernel
theorem dX7_setLag_12 : decode cX7_setLag 12 = .ok (.iload_n 2, 1) := by decide +kernel
theorem dX7_setLag_13 : decode cX7_setLag 13 = .ok (.iconst 0, 1) := by decide +kernel
theorem dX7_setLag_14 : decode cX7_setLag 14 = .ok (.bipush 50, 2) := by decide +kernel
theorem dX7_setLag_16 : decode cX7_setLag 16 = .ok (.invokestatic 84, 3) := by decide +kernel
theorem dX7_setLag_19 : decode cX7_setLag 19 = .ok (.ifCond .eq 7, 3) := by decide +kernel
theorem dX7_setLag_22 : decode cX7_setLag 22 = .ok (.iconst 0, 1) := by decide +kernel
theorem dX7_setLag_23 : decode cX7_setLag 23 = .ok (.goto 4, 3) := by decide +kernel
theorem dX7_setLag_26 : decode cX7_setLag 26 = .ok (.iconst 2, 1) := by decide +kernel
theorem dX7_setLag_27 : decode cX7_setLag 27 = .ok (.putfield 80, 3) := by decide +kernel
theorem dX7_setLag_30 : decode cX7_setLag 30 = .ok (.aload_n 0, 1) := by decide +kernel
theorem dX7_setLag_31 : decode cX7_setLag 31 = .ok (.getfield 80, 3) := by decide +kernel
theorem dX7_setLag_34 : decode cX7_setLag 34 = .ok (.ifCond .le 5, 3) := by decide +kernel
theorem dX7_setLag_37 : decode cX7_setLag 37 = .ok (.iconst 0, 1) := by decide +kernel
theorem dX7_setLag_38 : decode cX7_setLag 38 = .ok (.ireturn, 1) := by decide +kernel
theorem dX7_setLag_39 : decode cX7_setLag 39 = .ok (.aload_n 0, 1) := by decide +kernel
theorem dX7_setLag_40 : decode cX7_setLag 40 = .ok (.getfield 68, 3) := by decide +kernel
theorem dX7_setLag_43 : decode cX7_setLag 43 = .ok (.iload_n 1, 1) := by decide +kernel
theorem dX7_setLag_44 : decode cX7_setLag 44 = .ok (.iaload, 1) := by decide +kernel
theorem dX7_setLag_45 : decode cX7_setLag 45 = .ok (.istore_n 3, 1) := by decide +kernel
theorem dX7_setLag_46 : decode cX7_setLag 46 = .ok (.aload_n 0, 1) := by decide +kernel
theorem dX7_setLag_47 : decode cX7_setLag 47 = .ok (.getfield 68, 3) := by decide +kernel
theorem dX7_setLag_50 : decode cX7_setLag 50 = .ok (.iload_n 1, 1) := by decide +kernel
theorem dX7_setLag_51 : decode cX7_setLag 51 = .ok (.iload_n 2, 1) := by decide +kernel
theorem dX7_setLag_52 : decode cX7_setLag 52 = .ok (.iastore, 1) := by decide +kernel
theorem dX7_setLag_53 : decode cX7_setLag 53 = .ok (.iload_n 3, 1) := by decide +kernel
theorem dX7_setLag_54 : decode cX7_setLag 54 = .ok (.ireturn, 1) := by decide +kernel
theorem dX7_setDown_0 : decode cX7_setDown 0 = .ok (.aload_n 0, 1) := by decide +kernel
theorem dX7_setDown_1 : decode cX7_setDown 1 = .ok (.iload_n 1, 1) := by decide +kernel
theorem dX7_setDown_2 : decode cX7_setDown 2 = .ok (.invokestatic 98, 3) := by decide +kernel
theorem dX7_setDown_5 : decode cX7_setDown 5 = .ok (.ifCond .eq 7, 3) := by decide +kernel
theorem dX7_setDown_8 : decode cX7_setDown 8 = .ok (.iconst 0, 1) := by decide +kernel
theorem dX7_setDown_9 : decode cX7_setDown 9 = .ok (.goto 4, 3) := by decide +kernel
theorem dX7_setDown_12 : decode cX7_setDown 12 = .ok (.iconst 1, 1) := by decide +kernel
theorem dX7_setDown_13 : decode cX7_setDown 13 = .ok (.putfield 80, 3) := by decide +kernel
theorem dX7_setDown_16 : decode cX7_setDown 16 = .ok (.aload_n 0, 1) := by decide +kernel
theorem dX7_setDown_17 : decode cX7_setDown 17 = .ok (.getfield 80, 3) := by decide +kernel
theorem dX7_setDown_20 : decode cX7_setDown 20 = .ok (.ifCond .le 5, 3) := by decide +kernel
theorem dX7_setDown_23 : decode cX7_setDown 23 = .ok (.iconst 0, 1) := by decide +kernel
theorem dX7_setDown_24 : decode cX7_setDown 24 = .ok (.ireturn, 1) := by decide +kernel
theorem dX7_setDown_25 : decode cX7_setDown 25 = .ok (.aload_n 0, 1) := by decide +kernel
theorem dX7_setDown_26 : decode cX7_setDown 26 = .ok (.getfield 71, 3) := by decide +kernel
theorem dX7_setDown_29 : decode cX7_setDown 29 = .ok (.iload_n 1, 1) := by decide +kernel
theorem dX7_setDown_30 : decode cX7_setDown 30 = .ok (.baload, 1) := by decide +kernel
theorem dX7_setDown_31 : decode cX7_setDown 31 = .ok (.istore_n 3, 1) := by decide +kernel
theorem dX7_setDown_32 : decode cX7_setDown 32 = .ok (.aload_n 0, 1) := by decide +kernel
theorem dX7_setDown_33 : decode cX7_setDown 33 = .ok (.getfield 71, 3) := by decide +kernel
theorem dX7_setDown_36 : decode cX7_setDown 36 = .ok (.iload_n 1, 1) := by decide +kernel
theorem dX7_setDown_37 : decode cX7_setDown 37 = .ok (.iload_n 2, 1) := by decide +kernel
theorem dX7_setDown_38 : decode cX7_setDown 38 = .ok (.bastore, 1) := by decide +kernel
theorem dX7_setDown_39 : decode cX7_setDown 39 = .ok (.iload_n 3, 1) := by decide +kernel
theorem dX7_setDown_40 : decode cX7_setDown 40 = .ok (.ireturn, 1) := by decide +kernel
theorem dX7_correct_0 : decode cX7_correct 0 = .ok (.aload_n 0, 1) := by decide +kernel
theorem dX7_correct_1 : decode cX7_correct 1 = .ok (.iload_n 1, 1) := by decide +kernel
theorem dX7_correct_2 : decode cX7_correct 2 = .ok (.invokestatic 98, 3) := by decide +kernel
theorem dX7_correct_5 : decode cX7_correct 5 = .ok (.ifCond .eq 7, 3) := by decide +kernel
theorem dX7_correct_8 : decode cX7_correct 8 = .ok (.iconst 0, 1) := by decide +kernel
theorem dX7_correct_9 : decode cX7_correct 9 = .ok (.goto 4, 3) := by decide +kernel
theorem dX7_correct_12 : decode cX7_correct 12 = .ok (.iconst 1, 1) := by decide +kernel
theorem dX7_correct_13 : decode cX7_correct 13 = .ok (.putfield 80, 3) := by decide +kernel
theorem dX7_correct_16 : decode cX7_correct 16 = .ok (.aload_n 0, 1) := by decide +kernel
theorem dX7_correct_17 : decode cX7_correct 17 = .ok (.getfield 80, 3) := by decide +kernel
theorem dX7_correct_20 : decode cX7_correct 20 = .ok (.ifCond .le 5, 3) := by decide +kernel
theorem dX7_correct_23 : decode cX7_correct 23 = .ok (.iconst 0, 1) := by decide +kernel
theorem dX7_correct_24 : decode cX7_correct 24 = .ok (.ireturn, 1) := by decide +kernel
theorem dX7_correct_25 : decode cX7_correct 25 = .ok (.aload_n 0, 1) := by decide +kernel
theorem dX7_correct_26 : decode cX7_correct 26 = .ok (.getfield 117, 3) := by decide +kernel
theorem dX7_correct_29 : decode cX7_correct 29 = .ok (.aload_n 0, 1) := by decide +kernel
theorem dX7_correct_30 : decode cX7_correct 30 = .ok (.getfield 65, 3) := by decide +kernel
theorem dX7_correct_33 : decode cX7_correct 33 = .ok (.iload_n 1, 1) := by decide +kernel
theorem dX7_correct_34 : decode cX7_correct 34 = .ok (.iaload, 1) := by decide +kernel
theorem dX7_correct_35 : decode cX7_correct 35 = .ok (.isub, 1) := by decide +kernel
theorem dX7_correct_36 : decode cX7_correct 36 = .ok (.istore_n 2, 1) := by decide +kernel
theorem dX7_correct_37 : decode cX7_correct 37 = .ok (.aload_n 0, 1) := by decide +kernel
theorem dX7_correct_38 : decode cX7_correct 38 = .ok (.getfield 65, 3) := by decide +kernel
theorem dX7_correct_41 : decode cX7_correct 41 = .ok (.iload_n 1, 1) := by decide +kernel
theorem dX7_correct_42 : decode cX7_correct 42 = .ok (.aload_n 0, 1) := by decide +kernel
theorem dX7_correct_43 : decode cX7_correct 43 = .ok (.getfield 117, 3) := by decide +kernel
theorem dX7_correct_46 : decode cX7_correct 46 = .ok (.iastore, 1) := by decide +kernel
theorem dX7_correct_47 : decode cX7_correct 47 = .ok (.iload_n 2, 1) := by decide +kernel
theorem dX7_correct_48 : decode cX7_correct 48 = .ok (.ireturn, 1) := by decide +kernel
theorem dX7_server_0 : decode cX7_server 0 = .ok (.aload_n 0, 1) := by decide +kernel
theorem dX7_server_1 : decode cX7_server 1 = .ok (.iload_n 1, 1) := by decide +kernel
theorem dX7_server_2 : decode cX7_server 2 = .ok (.invokevirtual 166, 3) := by decide +kernel
theorem dX7_server_5 : decode cX7_server 5 = .ok (.ifCond .eq 12, 3) := by decide +kernel
theorem dX7_server_8 : decode cX7_server 8 = .ok (.aload_n 0, 1) := by decide +kernel
theorem dX7_server_9 : decode cX7_server 9 = .ok (.getfield 17, 3) := by decide +kernel
theorem dX7_server_12 : decode cX7_server 12 = .ok (.iload_n 1, 1) := by decide +kernel
theorem dX7_server_13 : decode cX7_server 13 = .ok (.iaload, 1) := by decide +kernel
theorem dX7_server_14 : decode cX7_server 14 = .ok (.goto 4, 3) := by decide +kernel
theorem dX7_server_17 : decode cX7_server 17 = .ok (.iconst 0, 1) := by decide +kernel
theorem dX7_server_18 : decode cX7_server 18 = .ok (.ireturn, 1) := by decide +kernel
theorem dX7_serverAnew_0 : decode cX7_serverAnew 0 = .ok (.aload_n 0, 1) := by decide +kernel
theorem dX7_serverAnew_1 : decode cX7_serverAnew 1 = .ok (.iload_n 1, 1) := by decide +kernel
theorem dX7_serverAnew_2 : decode cX7_serverAnew 2 = .ok (.invokevirtual 166, 3) := by decide +kernel
theorem dX7_serverAnew_5 : decode cX7_serverAnew 5 = .ok (.ifCond .eq 12, 3) := by decide +kernel
theorem dX7_serverAnew_8 : decode cX7_serverAnew 8 = .ok (.aload_n 0, 1) := by decide +kernel
theorem dX7_serverAnew_9 : decode cX7_serverAnew 9 = .ok (.getfield 17, 3) := by decide +kernel
theorem dX7_serverAnew_12 : decode cX7_serverAnew 12 = .ok (.iload_n 1, 1) := by decide +kernel
theorem dX7_serverAnew_13 : decode cX7_serverAnew 13 = .ok (.iaload, 1) := by decide +kernel
theorem dX7_serverAnew_14 : decode cX7_serverAnew 14 = .ok (.goto 4, 3) := by decide +kernel
theorem dX7_serverAnew_17 : decode cX7_serverAnew 17 = .ok (.iconst 0, 1) := by decide +kernel
theorem dX7_serverAnew_18 : decode cX7_serverAnew 18 = .ok (.ireturn, 1) := by decide +kernel
theorem dX7_number_0 : decode cX7_number 0 = .ok (.aload_n 0, 1) := by decide +kernel
theorem dX7_number_1 : decode cX7_number 1 = .ok (.iload_n 1, 1) := by decide +kernel
theorem dX7_number_2 : decode cX7_number 2 = .ok (.invokestatic 108, 3) := by decide +kernel
theorem dX7_number_5 : decode cX7_number 5 = .ok (.ifCond .ne 7, 3) := by decide +kernel
theorem dX7_number_8 : decode cX7_number 8 = .ok (.iconst 1, 1) := by decide +kernel
theorem dX7_number_9 : decode cX7_number 9 = .ok (.goto 17, 3) := by decide +kernel
theorem dX7_number_12 : decode cX7_number 12 = .ok (.iload_n 2, 1) := by decide +kernel
theorem dX7_number_13 : decode cX7_number 13 = .ok (.iconst 0, 1) := by decide +kernel
theorem dX7_number_14 : decode cX7_number 14 = .ok (.iconst 4, 1) := by decide +kernel
theorem dX7_number_15 : decode cX7_number 15 = .ok (.invokestatic 84, 3) := by decide +kernel
theorem dX7_number_18 : decode cX7_number 18 = .ok (.ifCond .eq 7, 3) := by decide +kernel
theorem dX7_number_21 : decode cX7_number 21 = .ok (.iconst 0, 1) := by decide +kernel
theorem dX7_number_22 : decode cX7_number 22 = .ok (.goto 4, 3) := by decide +kernel
theorem dX7_number_25 : decode cX7_number 25 = .ok (.iconst 2, 1) := by decide +kernel
theorem dX7_number_26 : decode cX7_number 26 = .ok (.putfield 80, 3) := by decide +kernel
theorem dX7_number_29 : decode cX7_number 29 = .ok (.aload_n 0, 1) := by decide +kernel
theorem dX7_number_30 : decode cX7_number 30 = .ok (.getfield 80, 3) := by decide +kernel
theorem dX7_number_33 : decode cX7_number 33 = .ok (.ifCond .le 5, 3) := by decide +kernel
theorem dX7_number_36 : decode cX7_number 36 = .ok (.iconst 0, 1) := by decide +kernel
theorem dX7_number_37 : decode cX7_number 37 = .ok (.ireturn, 1) := by decide +kernel
theorem dX7_number_38 : decode cX7_number 38 = .ok (.iload_n 2, 1) := by decide +kernel
theorem dX7_number_39 : decode cX7_number 39 = .ok (.tableswitch 77 0 3 #[29, 35, 49, 63], 29) := by decide +kernel
theorem dX7_number_68 : decode cX7_number 68 = .ok (.aload_n 0, 1) := by decide +kernel
theorem dX7_number_69 : decode cX7_number 69 = .ok (.iload_n 1, 1) := by decide +kernel
theorem dX7_number_70 : decode cX7_number 70 = .ok (.invokevirtual 114, 3) := by decide +kernel
theorem dX7_number_73 : decode cX7_number 73 = .ok (.ireturn, 1) := by decide +kernel
theorem dX7_number_74 : decode cX7_number 74 = .ok (.aload_n 0, 1) := by decide +kernel
theorem dX7_number_75 : decode cX7_number 75 = .ok (.iload_n 1, 1) := by decide +kernel
theorem dX7_number_76 : decode cX7_number 76 = .ok (.invokevirtual 105, 3) := by decide +kernel
theorem dX7_number_79 : decode cX7_number 79 = .ok (.ifCond .eq 7, 3) := by decide +kernel
theorem dX7_number_82 : decode cX7_number 82 = .ok (.iconst 1, 1) := by decide +kernel
theorem dX7_number_83 : decode cX7_number 83 = .ok (.goto 4, 3) := by decide +kernel
theorem dX7_number_86 : decode cX7_number 86 = .ok (.iconst 0, 1) := by decide +kernel
theorem dX7_number_87 : decode cX7_number 87 = .ok (.ireturn, 1) := by decide +kernel
theorem dX7_number_88 : decode cX7_number 88 = .ok (.aload_n 0, 1) := by decide +kernel
theorem dX7_number_89 : decode cX7_number 89 = .ok (.iload_n 1, 1) := by decide +kernel
theorem dX7_number_90 : decode cX7_number 90 = .ok (.invokevirtual 126, 3) := by decide +kernel
theorem dX7_number_93 : decode cX7_number 93 = .ok (.ifCond .eq 7, 3) := by decide +kernel
theorem dX7_number_96 : decode cX7_number 96 = .ok (.iconst 1, 1) := by decide +kernel
theorem dX7_number_97 : decode cX7_number 97 = .ok (.goto 4, 3) := by decide +kernel
theorem dX7_number_100 : decode cX7_number 100 = .ok (.iconst 0, 1) := by decide +kernel
theorem dX7_number_101 : decode cX7_number 101 = .ok (.ireturn, 1) := by decide +kernel
theorem dX7_number_102 : decode cX7_number 102 = .ok (.aload_n 0, 1) := by decide +kernel
theorem dX7_number_103 : decode cX7_number 103 = .ok (.iload_n 1, 1) := by decide +kernel
theorem dX7_number_104 : decode cX7_number 104 = .ok (.invokevirtual 153, 3) := by decide +kernel
theorem dX7_number_107 : decode cX7_number 107 = .ok (.ifCond .eq 7, 3) := by decide +kernel
theorem dX7_number_110 : decode cX7_number 110 = .ok (.iconst 1, 1) := by decide +kernel
theorem dX7_number_111 : decode cX7_number 111 = .ok (.goto 4, 3) := by decide +kernel
theorem dX7_number_114 : decode cX7_number 114 = .ok (.iconst 0, 1) := by decide +kernel
theorem dX7_number_115 : decode cX7_number 115 = .ok (.ireturn, 1) := by decide +kernel
theorem dX7_number_116 : decode cX7_number 116 = .ok (.aload_n 0, 1) := by decide +kernel
theorem dX7_number_117 : decode cX7_number 117 = .ok (.iload_n 1, 1) := by decide +kernel
theorem dX7_number_118 : decode cX7_number 118 = .ok (.invokevirtual 123, 3) := by decide +kernel
theorem dX7_number_121 : decode cX7_number 121 = .ok (.ireturn, 1) := by decide +kernel
theorem dX7_of_0 : decode cX7_of 0 = .ok (.aload_n 0, 1) := by decide +kernel
theorem dX7_of_1 : decode cX7_of 1 = .ok (.aload_n 0, 1) := by decide +kernel
theorem dX7_of_2 : decode cX7_of 2 = .ok (.iload_n 1, 1) := by decide +kernel
theorem dX7_of_3 : decode cX7_of 3 = .ok (.invokevirtual 139, 3) := by decide +kernel
theorem dX7_of_6 : decode cX7_of 6 = .ok (.ifCond .ne 7, 3) := by decide +kernel
theorem dX7_of_9 : decode cX7_of 9 = .ok (.iconst 1, 1) := by decide +kernel
theorem dX7_of_10 : decode cX7_of 10 = .ok (.goto 17, 3) := by decide +kernel
theorem dX7_of_13 : decode cX7_of 13 = .ok (.iload_n 2, 1) := by decide +kernel
theorem dX7_of_14 : decode cX7_of 14 = .ok (.iconst 0, 1) := by decide +kernel
theorem dX7_of_15 : decode cX7_of 15 = .ok (.iconst 5, 1) := by decide +kernel
theorem dX7_of_16 : decode cX7_of 16 = .ok (.invokestatic 84, 3) := by decide +kernel
theorem dX7_of_19 : decode cX7_of 19 = .ok (.ifCond .eq 7, 3) := by decide +kernel
theorem dX7_of_22 : decode cX7_of 22 = .ok (.iconst 0, 1) := by decide +kernel
theorem dX7_of_23 : decode cX7_of 23 = .ok (.goto 4, 3) := by decide +kernel
theorem dX7_of_26 : decode cX7_of 26 = .ok (.iconst 2, 1) := by decide +kernel
theorem dX7_of_27 : decode cX7_of 27 = .ok (.putfield 80, 3) := by decide +kernel
theorem dX7_of_30 : decode cX7_of 30 = .ok (.aload_n 0, 1) := by decide +kernel
theorem dX7_of_31 : decode cX7_of 31 = .ok (.getfield 80, 3) := by decide +kernel
theorem dX7_of_34 : decode cX7_of 34 = .ok (.ifCond .le 5, 3) := by decide +kernel
theorem dX7_of_37 : decode cX7_of 37 = .ok (.iconst 0, 1) := by decide +kernel
theorem dX7_of_38 : decode cX7_of 38 = .ok (.ireturn, 1) := by decide +kernel
theorem dX7_of_39 : decode cX7_of 39 = .ok (.iload_n 2, 1) := by decide +kernel
theorem dX7_of_40 : decode cX7_of 40 = .ok (.tableswitch 71 0 4 #[36, 43, 50, 57, 64], 36) := by decide +kernel
theorem dX7_of_76 : decode cX7_of 76 = .ok (.aload_n 0, 1) := by decide +kernel
theorem dX7_of_77 : decode cX7_of 77 = .ok (.getfield 35, 3) := by decide +kernel
theorem dX7_of_80 : decode cX7_of 80 = .ok (.iload_n 1, 1) := by decide +kernel
theorem dX7_of_81 : decode cX7_of 81 = .ok (.iaload, 1) := by decide +kernel
theorem dX7_of_82 : decode cX7_of 82 = .ok (.ireturn, 1) := by decide +kernel
theorem dX7_of_83 : decode cX7_of 83 = .ok (.aload_n 0, 1) := by decide +kernel
theorem dX7_of_84 : decode cX7_of 84 = .ok (.getfield 38, 3) := by decide +kernel
theorem dX7_of_87 : decode cX7_of 87 = .ok (.iload_n 1, 1) := by decide +kernel
theorem dX7_of_88 : decode cX7_of 88 = .ok (.iaload, 1) := by decide +kernel
theorem dX7_of_89 : decode cX7_of 89 = .ok (.ireturn, 1) := by decide +kernel
theorem dX7_of_90 : decode cX7_of 90 = .ok (.aload_n 0, 1) := by decide +kernel
theorem dX7_of_91 : decode cX7_of 91 = .ok (.getfield 41, 3) := by decide +kernel
theorem dX7_of_94 : decode cX7_of 94 = .ok (.iload_n 1, 1) := by decide +kernel
theorem dX7_of_95 : decode cX7_of 95 = .ok (.iaload, 1) := by decide +kernel
theorem dX7_of_96 : decode cX7_of 96 = .ok (.ireturn, 1) := by decide +kernel
theorem dX7_of_97 : decode cX7_of 97 = .ok (.aload_n 0, 1) := by decide +kernel
theorem dX7_of_98 : decode cX7_of 98 = .ok (.getfield 44, 3) := by decide +kernel
theorem dX7_of_101 : decode cX7_of 101 = .ok (.iload_n 1, 1) := by decide +kernel
theorem dX7_of_102 : decode cX7_of 102 = .ok (.iaload, 1) := by decide +kernel
theorem dX7_of_103 : decode cX7_of 103 = .ok (.ireturn, 1) := by decide +kernel
theorem dX7_of_104 : decode cX7_of 104 = .ok (.aload_n 0, 1) := by decide +kernel
theorem dX7_of_105 : decode cX7_of 105 = .ok (.getfield 47, 3) := by decide +kernel
theorem dX7_of_108 : decode cX7_of 108 = .ok (.iload_n 1, 1) := by decide +kernel
theorem dX7_of_109 : decode cX7_of 109 = .ok (.iaload, 1) := by decide +kernel
theorem dX7_of_110 : decode cX7_of 110 = .ok (.ireturn, 1) := by decide +kernel
theorem dX7_of_111 : decode cX7_of 111 = .ok (.aload_n 0, 1) := by decide +kernel
theorem dX7_of_112 : decode cX7_of 112 = .ok (.getfield 50, 3) := by decide +kernel
theorem dX7_of_115 : decode cX7_of 115 = .ok (.iload_n 1, 1) := by decide +kernel
theorem dX7_of_116 : decode cX7_of 116 = .ok (.iaload, 1) := by decide +kernel
theorem dX7_of_117 : decode cX7_of 117 = .ok (.ireturn, 1) := by decide +kernel
theorem dX7_room_0 : decode cX7_room 0 = .ok (.aload_n 0, 1) := by decide +kernel
theorem dX7_room_1 : decode cX7_room 1 = .ok (.iload_n 1, 1) := by decide +kernel
theorem dX7_room_2 : decode cX7_room 2 = .ok (.iconst 0, 1) := by decide +kernel
theorem dX7_room_3 : decode cX7_room 3 = .ok (.sipush 10999, 3) := by decide +kernel
theorem dX7_room_6 : decode cX7_room 6 = .ok (.invokestatic 84, 3) := by decide +kernel
theorem dX7_room_9 : decode cX7_room 9 = .ok (.ifCond .eq 7, 3) := by decide +kernel
theorem dX7_room_12 : decode cX7_room 12 = .ok (.iconst 0, 1) := by decide +kernel
theorem dX7_room_13 : decode cX7_room 13 = .ok (.goto 4, 3) := by decide +kernel
theorem dX7_room_16 : decode cX7_room 16 = .ok (.iconst 1, 1) := by decide +kernel
theorem dX7_room_17 : decode cX7_room 17 = .ok (.putfield 80, 3) := by decide +kernel
theorem dX7_room_20 : decode cX7_room 20 = .ok (.aload_n 0, 1) := by decide +kernel
theorem dX7_room_21 : decode cX7_room 21 = .ok (.getfield 80, 3) := by decide +kernel
theorem dX7_room_24 : decode cX7_room 24 = .ok (.ifCond .gt 18, 3) := by decide +kernel
theorem dX7_room_27 : decode cX7_room 27 = .ok (.iload_n 1, 1) := by decide +kernel
theorem dX7_room_28 : decode cX7_room 28 = .ok (.invokestatic 129, 3) := by decide +kernel
theorem dX7_room_31 : decode cX7_room 31 = .ok (.ifCond .eq 11, 3) := by decide +kernel
theorem dX7_room_34 : decode cX7_room 34 = .ok (.iload_n 1, 1) := by decide +kernel
theorem dX7_room_35 : decode cX7_room 35 = .ok (.aload_n 0, 1) := by decide +kernel
theorem dX7_room_36 : decode cX7_room 36 = .ok (.getfield 91, 3) := by decide +kernel
theorem dX7_room_39 : decode cX7_room 39 = .ok (.if_icmp .gt 7, 3) := by decide +kernel
theorem dX7_room_42 : decode cX7_room 42 = .ok (.iconst 0, 1) := by decide +kernel
theorem dX7_room_43 : decode cX7_room 43 = .ok (.goto 10, 3) := by decide +kernel
theorem dX7_room_46 : decode cX7_room 46 = .ok (.iconst 3, 1) := by decide +kernel
theorem dX7_room_47 : decode cX7_room 47 = .ok (.aload_n 0, 1) := by decide +kernel
theorem dX7_room_48 : decode cX7_room 48 = .ok (.iload_n 1, 1) := by decide +kernel
theorem dX7_room_49 : decode cX7_room 49 = .ok (.invokevirtual 132, 3) := by decide +kernel
theorem dX7_room_52 : decode cX7_room 52 = .ok (.isub, 1) := by decide +kernel
theorem dX7_room_53 : decode cX7_room 53 = .ok (.ireturn, 1) := by decide +kernel
theorem dX7_servedBy_0 : decode cX7_servedBy 0 = .ok (.iconst 0, 1) := by decide +kernel
theorem dX7_servedBy_1 : decode cX7_servedBy 1 = .ok (.istore_n 2, 1) := by decide +kernel
theorem dX7_servedBy_2 : decode cX7_servedBy 2 = .ok (.iconst 0, 1) := by decide +kernel
theorem dX7_servedBy_3 : decode cX7_servedBy 3 = .ok (.istore_n 3, 1) := by decide +kernel
theorem dX7_servedBy_4 : decode cX7_servedBy 4 = .ok (.iload_n 3, 1) := by decide +kernel
theorem dX7_servedBy_5 : decode cX7_servedBy 5 = .ok (.sipush 200, 3) := by decide +kernel
theorem dX7_servedBy_8 : decode cX7_servedBy 8 = .ok (.if_icmp .ge 27, 3) := by decide +kernel
theorem dX7_servedBy_11 : decode cX7_servedBy 11 = .ok (.iload_n 2, 1) := by decide +kernel
theorem dX7_servedBy_12 : decode cX7_servedBy 12 = .ok (.aload_n 0, 1) := by decide +kernel
theorem dX7_servedBy_13 : decode cX7_servedBy 13 = .ok (.getfield 17, 3) := by decide +kernel
theorem dX7_servedBy_16 : decode cX7_servedBy 16 = .ok (.iload_n 3, 1) := by decide +kernel
theorem dX7_servedBy_17 : decode cX7_servedBy 17 = .ok (.iaload, 1) := by decide +kernel
theorem dX7_servedBy_18 : decode cX7_servedBy 18 = .ok (.iload_n 1, 1) := by decide +kernel
theorem dX7_servedBy_19 : decode cX7_servedBy 19 = .ok (.if_icmp .ne 7, 3) := by decide +kernel
theorem dX7_servedBy_22 : decode cX7_servedBy 22 = .ok (.iconst 1, 1) := by decide +kernel
theorem dX7_servedBy_23 : decode cX7_servedBy 23 = .ok (.goto 4, 3) := by decide +kernel
theorem dX7_servedBy_26 : decode cX7_servedBy 26 = .ok (.iconst 0, 1) := by decide +kernel
theorem dX7_servedBy_27 : decode cX7_servedBy 27 = .ok (.iadd, 1) := by decide +kernel
theorem dX7_servedBy_28 : decode cX7_servedBy 28 = .ok (.istore_n 2, 1) := by decide +kernel
theorem dX7_servedBy_29 : decode cX7_servedBy 29 = .ok (.iinc 3 1, 3) := by decide +kernel
theorem dX7_servedBy_32 : decode cX7_servedBy 32 = .ok (.goto (-28), 3) := by decide +kernel
theorem dX7_servedBy_35 : decode cX7_servedBy 35 = .ok (.iload_n 2, 1) := by decide +kernel
theorem dX7_servedBy_36 : decode cX7_servedBy 36 = .ok (.ireturn, 1) := by decide +kernel
theorem dX7_firm_0 : decode cX7_firm 0 = .ok (.aload_n 0, 1) := by decide +kernel
theorem dX7_firm_1 : decode cX7_firm 1 = .ok (.iload_n 1, 1) := by decide +kernel
theorem dX7_firm_2 : decode cX7_firm 2 = .ok (.invokestatic 98, 3) := by decide +kernel
theorem dX7_firm_5 : decode cX7_firm 5 = .ok (.ifCond .ne 7, 3) := by decide +kernel
theorem dX7_firm_8 : decode cX7_firm 8 = .ok (.iconst 1, 1) := by decide +kernel
theorem dX7_firm_9 : decode cX7_firm 9 = .ok (.goto 18, 3) := by decide +kernel
theorem dX7_firm_12 : decode cX7_firm 12 = .ok (.iload_n 2, 1) := by decide +kernel
theorem dX7_firm_13 : decode cX7_firm 13 = .ok (.iconst 0, 1) := by decide +kernel
theorem dX7_firm_14 : decode cX7_firm 14 = .ok (.bipush 6, 2) := by decide +kernel
theorem dX7_firm_16 : decode cX7_firm 16 = .ok (.invokestatic 84, 3) := by decide +kernel
theorem dX7_firm_19 : decode cX7_firm 19 = .ok (.ifCond .eq 7, 3) := by decide +kernel
theorem dX7_firm_22 : decode cX7_firm 22 = .ok (.iconst 0, 1) := by decide +kernel
theorem dX7_firm_23 : decode cX7_firm 23 = .ok (.goto 4, 3) := by decide +kernel
theorem dX7_firm_26 : decode cX7_firm 26 = .ok (.iconst 2, 1) := by decide +kernel
theorem dX7_firm_27 : decode cX7_firm 27 = .ok (.putfield 80, 3) := by decide +kernel
theorem dX7_firm_30 : decode cX7_firm 30 = .ok (.aload_n 0, 1) := by decide +kernel
theorem dX7_firm_31 : decode cX7_firm 31 = .ok (.getfield 80, 3) := by decide +kernel
theorem dX7_firm_34 : decode cX7_firm 34 = .ok (.ifCond .le 5, 3) := by decide +kernel
theorem dX7_firm_37 : decode cX7_firm 37 = .ok (.iconst 0, 1) := by decide +kernel
theorem dX7_firm_38 : decode cX7_firm 38 = .ok (.ireturn, 1) := by decide +kernel
theorem dX7_firm_39 : decode cX7_firm 39 = .ok (.iload_n 2, 1) := by decide +kernel
theorem dX7_firm_40 : decode cX7_firm 40 = .ok (.tableswitch 96 0 5 #[40, 55, 61, 67, 82, 89], 40) := by decide +kernel
theorem dX7_firm_80 : decode cX7_firm 80 = .ok (.aload_n 0, 1) := by decide +kernel
theorem dX7_firm_81 : decode cX7_firm 81 = .ok (.getfield 13, 3) := by decide +kernel
theorem dX7_firm_84 : decode cX7_firm 84 = .ok (.iload_n 1, 1) := by decide +kernel
theorem dX7_firm_85 : decode cX7_firm 85 = .ok (.baload, 1) := by decide +kernel
theorem dX7_firm_86 : decode cX7_firm 86 = .ok (.ifCond .eq 7, 3) := by decide +kernel
theorem dX7_firm_89 : decode cX7_firm 89 = .ok (.iconst 1, 1) := by decide +kernel
theorem dX7_firm_90 : decode cX7_firm 90 = .ok (.goto 4, 3) := by decide +kernel
theorem dX7_firm_93 : decode cX7_firm 93 = .ok (.iconst 0, 1) := by decide +kernel
theorem dX7_firm_94 : decode cX7_firm 94 = .ok (.ireturn, 1) := by decide +kernel
theorem dX7_firm_95 : decode cX7_firm 95 = .ok (.aload_n 0, 1) := by decide +kernel
theorem dX7_firm_96 : decode cX7_firm 96 = .ok (.iload_n 1, 1) := by decide +kernel
theorem dX7_firm_97 : decode cX7_firm 97 = .ok (.invokevirtual 101, 3) := by decide +kernel
theorem dX7_firm_100 : decode cX7_firm 100 = .ok (.ireturn, 1) := by decide +kernel
theorem dX7_firm_101 : decode cX7_firm 101 = .ok (.aload_n 0, 1) := by decide +kernel
theorem dX7_firm_102 : decode cX7_firm 102 = .ok (.iload_n 1, 1) := by decide +kernel
theorem dX7_firm_103 : decode cX7_firm 103 = .ok (.invokevirtual 169, 3) := by decide +kernel
theorem dX7_firm_106 : decode cX7_firm 106 = .ok (.ireturn, 1) := by decide +kernel
theorem dX7_firm_107 : decode cX7_firm 107 = .ok (.aload_n 0, 1) := by decide +kernel
theorem dX7_firm_108 : decode cX7_firm 108 = .ok (.getfield 71, 3) := by decide +kernel
theorem dX7_firm_111 : decode cX7_firm 111 = .ok (.iload_n 1, 1) := by decide +kernel
theorem dX7_firm_112 : decode cX7_firm 112 = .ok (.baload, 1) := by decide +kernel
theorem dX7_firm_113 : decode cX7_firm 113 = .ok (.ifCond .eq 7, 3) := by decide +kernel
theorem dX7_firm_116 : decode cX7_firm 116 = .ok (.iconst 1, 1) := by decide +kernel
theorem dX7_firm_117 : decode cX7_firm 117 = .ok (.goto 4, 3) := by decide +kernel
theorem dX7_firm_120 : decode cX7_firm 120 = .ok (.iconst 0, 1) := by decide +kernel
theorem dX7_firm_121 : decode cX7_firm 121 = .ok (.ireturn, 1) := by decide +kernel
theorem dX7_firm_122 : decode cX7_firm 122 = .ok (.aload_n 0, 1) := by decide +kernel
theorem dX7_firm_123 : decode cX7_firm 123 = .ok (.getfield 68, 3) := by decide +kernel
theorem dX7_firm_126 : decode cX7_firm 126 = .ok (.iload_n 1, 1) := by decide +kernel
theorem dX7_firm_127 : decode cX7_firm 127 = .ok (.iaload, 1) := by decide +kernel
theorem dX7_firm_128 : decode cX7_firm 128 = .ok (.ireturn, 1) := by decide +kernel
theorem dX7_firm_129 : decode cX7_firm 129 = .ok (.aload_n 0, 1) := by decide +kernel
theorem dX7_firm_130 : decode cX7_firm 130 = .ok (.getfield 74, 3) := by decide +kernel
theorem dX7_firm_133 : decode cX7_firm 133 = .ok (.iload_n 1, 1) := by decide +kernel
theorem dX7_firm_134 : decode cX7_firm 134 = .ok (.iaload, 1) := by decide +kernel
theorem dX7_firm_135 : decode cX7_firm 135 = .ok (.ireturn, 1) := by decide +kernel
theorem dX7_firm_136 : decode cX7_firm 136 = .ok (.aload_n 0, 1) := by decide +kernel
theorem dX7_firm_137 : decode cX7_firm 137 = .ok (.getfield 117, 3) := by decide +kernel
theorem dX7_firm_140 : decode cX7_firm 140 = .ok (.aload_n 0, 1) := by decide +kernel
theorem dX7_firm_141 : decode cX7_firm 141 = .ok (.getfield 65, 3) := by decide +kernel
theorem dX7_firm_144 : decode cX7_firm 144 = .ok (.iload_n 1, 1) := by decide +kernel
theorem dX7_firm_145 : decode cX7_firm 145 = .ok (.iaload, 1) := by decide +kernel
theorem dX7_firm_146 : decode cX7_firm 146 = .ok (.isub, 1) := by decide +kernel
theorem dX7_firm_147 : decode cX7_firm 147 = .ok (.ireturn, 1) := by decide +kernel
theorem dX7_knownBy_0 : decode cX7_knownBy 0 = .ok (.bipush 6, 2) := by decide +kernel
theorem dX7_knownBy_2 : decode cX7_knownBy 2 = .ok (.istore_n 3, 1) := by decide +kernel
theorem dX7_knownBy_3 : decode cX7_knownBy 3 = .ok (.iconst 0, 1) := by decide +kernel
theorem dX7_knownBy_4 : decode cX7_knownBy 4 = .ok (.istore 4, 2) := by decide +kernel
theorem dX7_knownBy_6 : decode cX7_knownBy 6 = .ok (.iload 4, 2) := by decide +kernel
theorem dX7_knownBy_8 : decode cX7_knownBy 8 = .ok (.aload_n 0, 1) := by decide +kernel
theorem dX7_knownBy_9 : decode cX7_knownBy 9 = .ok (.getfield 65, 3) := by decide +kernel
theorem dX7_knownBy_12 : decode cX7_knownBy 12 = .ok (.iload_n 1, 1) := by decide +kernel
theorem dX7_knownBy_13 : decode cX7_knownBy 13 = .ok (.iaload, 1) := by decide +kernel
theorem dX7_knownBy_14 : decode cX7_knownBy 14 = .ok (.if_icmp .ge 32, 3) := by decide +kernel
theorem dX7_knownBy_17 : decode cX7_knownBy 17 = .ok (.aload_n 0, 1) := by decide +kernel
theorem dX7_knownBy_18 : decode cX7_knownBy 18 = .ok (.getfield 59, 3) := by decide +kernel
theorem dX7_knownBy_21 : decode cX7_knownBy 21 = .ok (.iload 4, 2) := by decide +kernel
theorem dX7_knownBy_23 : decode cX7_knownBy 23 = .ok (.iaload, 1) := by decide +kernel
theorem dX7_knownBy_24 : decode cX7_knownBy 24 = .ok (.iload_n 2, 1) := by decide +kernel
theorem dX7_knownBy_25 : decode cX7_knownBy 25 = .ok (.if_icmp .ne 13, 3) := by decide +kernel
theorem dX7_knownBy_28 : decode cX7_knownBy 28 = .ok (.aload_n 0, 1) := by decide +kernel
theorem dX7_knownBy_29 : decode cX7_knownBy 29 = .ok (.getfield 62, 3) := by decide +kernel
theorem dX7_knownBy_32 : decode cX7_knownBy 32 = .ok (.iload 4, 2) := by decide +kernel
theorem dX7_knownBy_34 : decode cX7_knownBy 34 = .ok (.iaload, 1) := by decide +kernel
theorem dX7_knownBy_35 : decode cX7_knownBy 35 = .ok (.goto 4, 3) := by decide +kernel
theorem dX7_knownBy_38 : decode cX7_knownBy 38 = .ok (.iload_n 3, 1) := by decide +kernel
theorem dX7_knownBy_39 : decode cX7_knownBy 39 = .ok (.istore_n 3, 1) := by decide +kernel
theorem dX7_knownBy_40 : decode cX7_knownBy 40 = .ok (.iinc 4 1, 3) := by decide +kernel
theorem dX7_knownBy_43 : decode cX7_knownBy 43 = .ok (.goto (-37), 3) := by decide +kernel
theorem dX7_knownBy_46 : decode cX7_knownBy 46 = .ok (.aload_n 0, 1) := by decide +kernel
theorem dX7_knownBy_47 : decode cX7_knownBy 47 = .ok (.iload_n 2, 1) := by decide +kernel
theorem dX7_knownBy_48 : decode cX7_knownBy 48 = .ok (.invokevirtual 114, 3) := by decide +kernel
theorem dX7_knownBy_51 : decode cX7_knownBy 51 = .ok (.iconst (-1), 1) := by decide +kernel
theorem dX7_knownBy_52 : decode cX7_knownBy 52 = .ok (.if_icmp .eq 9, 3) := by decide +kernel
theorem dX7_knownBy_55 : decode cX7_knownBy 55 = .ok (.iload_n 3, 1) := by decide +kernel
theorem dX7_knownBy_56 : decode cX7_knownBy 56 = .ok (.bipush 6, 2) := by decide +kernel
theorem dX7_knownBy_58 : decode cX7_knownBy 58 = .ok (.if_icmp .ne 11, 3) := by decide +kernel
theorem dX7_knownBy_61 : decode cX7_knownBy 61 = .ok (.aload_n 0, 1) := by decide +kernel
theorem dX7_knownBy_62 : decode cX7_knownBy 62 = .ok (.iload_n 2, 1) := by decide +kernel
theorem dX7_knownBy_63 : decode cX7_knownBy 63 = .ok (.invokevirtual 114, 3) := by decide +kernel
theorem dX7_knownBy_66 : decode cX7_knownBy 66 = .ok (.goto 4, 3) := by decide +kernel
theorem dX7_knownBy_69 : decode cX7_knownBy 69 = .ok (.iload_n 3, 1) := by decide +kernel
theorem dX7_knownBy_70 : decode cX7_knownBy 70 = .ok (.ireturn, 1) := by decide +kernel
theorem dX7_known_0 : decode cX7_known 0 = .ok (.aload_n 0, 1) := by decide +kernel
theorem dX7_known_1 : decode cX7_known 1 = .ok (.iload_n 1, 1) := by decide +kernel
theorem dX7_known_2 : decode cX7_known 2 = .ok (.invokestatic 98, 3) := by decide +kernel
theorem dX7_known_5 : decode cX7_known 5 = .ok (.ifCond .eq 14, 3) := by decide +kernel
theorem dX7_known_8 : decode cX7_known 8 = .ok (.iload_n 2, 1) := by decide +kernel
theorem dX7_known_9 : decode cX7_known 9 = .ok (.invokestatic 108, 3) := by decide +kernel
theorem dX7_known_12 : decode cX7_known 12 = .ok (.ifCond .eq 7, 3) := by decide +kernel
theorem dX7_known_15 : decode cX7_known 15 = .ok (.iconst 0, 1) := by decide +kernel
theorem dX7_known_16 : decode cX7_known 16 = .ok (.goto 4, 3) := by decide +kernel
theorem dX7_known_19 : decode cX7_known 19 = .ok (.iconst 1, 1) := by decide +kernel
theorem dX7_known_20 : decode cX7_known 20 = .ok (.putfield 80, 3) := by decide +kernel
theorem dX7_known_23 : decode cX7_known 23 = .ok (.aload_n 0, 1) := by decide +kernel
theorem dX7_known_24 : decode cX7_known 24 = .ok (.getfield 80, 3) := by decide +kernel
theorem dX7_known_27 : decode cX7_known 27 = .ok (.ifCond .le 7, 3) := by decide +kernel
theorem dX7_known_30 : decode cX7_known 30 = .ok (.iconst 0, 1) := by decide +kernel
theorem dX7_known_31 : decode cX7_known 31 = .ok (.goto 9, 3) := by decide +kernel
theorem dX7_known_34 : decode cX7_known 34 = .ok (.aload_n 0, 1) := by decide +kernel
theorem dX7_known_35 : decode cX7_known 35 = .ok (.iload_n 1, 1) := by decide +kernel
theorem dX7_known_36 : decode cX7_known 36 = .ok (.iload_n 2, 1) := by decide +kernel
theorem dX7_known_37 : decode cX7_known 37 = .ok (.invokevirtual 172, 3) := by decide +kernel
theorem dX7_known_40 : decode cX7_known 40 = .ok (.ireturn, 1) := by decide +kernel
theorem dX7_audit_0 : decode cX7_audit 0 = .ok (.aload_n 0, 1) := by decide +kernel
theorem dX7_audit_1 : decode cX7_audit 1 = .ok (.iload_n 1, 1) := by decide +kernel
theorem dX7_audit_2 : decode cX7_audit 2 = .ok (.invokestatic 98, 3) := by decide +kernel
theorem dX7_audit_5 : decode cX7_audit 5 = .ok (.ifCond .eq 7, 3) := by decide +kernel
theorem dX7_audit_8 : decode cX7_audit 8 = .ok (.iconst 0, 1) := by decide +kernel
theorem dX7_audit_9 : decode cX7_audit 9 = .ok (.goto 4, 3) := by decide +kernel
theorem dX7_audit_12 : decode cX7_audit 12 = .ok (.iconst 1, 1) := by decide +kernel
theorem dX7_audit_13 : decode cX7_audit 13 = .ok (.putfield 80, 3) := by decide +kernel
theorem dX7_audit_16 : decode cX7_audit 16 = .ok (.iconst 0, 1) := by decide +kernel
theorem dX7_audit_17 : decode cX7_audit 17 = .ok (.istore_n 2, 1) := by decide +kernel
theorem dX7_audit_18 : decode cX7_audit 18 = .ok (.iconst 0, 1) := by decide +kernel
theorem dX7_audit_19 : decode cX7_audit 19 = .ok (.istore_n 3, 1) := by decide +kernel
theorem dX7_audit_20 : decode cX7_audit 20 = .ok (.iload_n 3, 1) := by decide +kernel
theorem dX7_audit_21 : decode cX7_audit 21 = .ok (.sipush 200, 3) := by decide +kernel
theorem dX7_audit_24 : decode cX7_audit 24 = .ok (.if_icmp .ge 49, 3) := by decide +kernel
theorem dX7_audit_27 : decode cX7_audit 27 = .ok (.aload_n 0, 1) := by decide +kernel
theorem dX7_audit_28 : decode cX7_audit 28 = .ok (.getfield 80, 3) := by decide +kernel
theorem dX7_audit_31 : decode cX7_audit 31 = .ok (.ifCond .ne 42, 3) := by decide +kernel
theorem dX7_audit_34 : decode cX7_audit 34 = .ok (.iload_n 2, 1) := by decide +kernel
theorem dX7_audit_35 : decode cX7_audit 35 = .ok (.aload_n 0, 1) := by decide +kernel
theorem dX7_audit_36 : decode cX7_audit 36 = .ok (.getfield 17, 3) := by decide +kernel
theorem dX7_audit_39 : decode cX7_audit 39 = .ok (.iload_n 3, 1) := by decide +kernel
theorem dX7_audit_40 : decode cX7_audit 40 = .ok (.iaload, 1) := by decide +kernel
theorem dX7_audit_41 : decode cX7_audit 41 = .ok (.iconst (-1), 1) := by decide +kernel
theorem dX7_audit_42 : decode cX7_audit 42 = .ok (.if_icmp .eq 22, 3) := by decide +kernel
theorem dX7_audit_45 : decode cX7_audit 45 = .ok (.aload_n 0, 1) := by decide +kernel
theorem dX7_audit_46 : decode cX7_audit 46 = .ok (.iload_n 1, 1) := by decide +kernel
theorem dX7_audit_47 : decode cX7_audit 47 = .ok (.iload_n 3, 1) := by decide +kernel
theorem dX7_audit_48 : decode cX7_audit 48 = .ok (.invokevirtual 172, 3) := by decide +kernel
theorem dX7_audit_51 : decode cX7_audit 51 = .ok (.aload_n 0, 1) := by decide +kernel
theorem dX7_audit_52 : decode cX7_audit 52 = .ok (.getfield 17, 3) := by decide +kernel
theorem dX7_audit_55 : decode cX7_audit 55 = .ok (.iload_n 3, 1) := by decide +kernel
theorem dX7_audit_56 : decode cX7_audit 56 = .ok (.iaload, 1) := by decide +kernel
theorem dX7_audit_57 : decode cX7_audit 57 = .ok (.if_icmp .eq 7, 3) := by decide +kernel
theorem dX7_audit_60 : decode cX7_audit 60 = .ok (.iconst 1, 1) := by decide +kernel
theorem dX7_audit_61 : decode cX7_audit 61 = .ok (.goto 4, 3) := by decide +kernel
theorem dX7_audit_64 : decode cX7_audit 64 = .ok (.iconst 0, 1) := by decide +kernel
theorem dX7_audit_65 : decode cX7_audit 65 = .ok (.iadd, 1) := by decide +kernel
theorem dX7_audit_66 : decode cX7_audit 66 = .ok (.istore_n 2, 1) := by decide +kernel
theorem dX7_audit_67 : decode cX7_audit 67 = .ok (.iinc 3 1, 3) := by decide +kernel
theorem dX7_audit_70 : decode cX7_audit 70 = .ok (.goto (-50), 3) := by decide +kernel
theorem dX7_audit_73 : decode cX7_audit 73 = .ok (.iload_n 2, 1) := by decide +kernel
theorem dX7_audit_74 : decode cX7_audit 74 = .ok (.ireturn, 1) := by decide +kernel
theorem dX7_wasHop_0 : decode cX7_wasHop 0 = .ok (.iconst 0, 1) := by decide +kernel
theorem dX7_wasHop_1 : decode cX7_wasHop 1 = .ok (.istore_n 2, 1) := by decide +kernel
theorem dX7_wasHop_2 : decode cX7_wasHop 2 = .ok (.iconst 0, 1) := by decide +kernel
theorem dX7_wasHop_3 : decode cX7_wasHop 3 = .ok (.istore_n 3, 1) := by decide +kernel
theorem dX7_wasHop_4 : decode cX7_wasHop 4 = .ok (.iload_n 3, 1) := by decide +kernel
theorem dX7_wasHop_5 : decode cX7_wasHop 5 = .ok (.aload_n 0, 1) := by decide +kernel
theorem dX7_wasHop_6 : decode cX7_wasHop 6 = .ok (.getfield 176, 3) := by decide +kernel
theorem dX7_wasHop_9 : decode cX7_wasHop 9 = .ok (.if_icmp .ge 29, 3) := by decide +kernel
theorem dX7_wasHop_12 : decode cX7_wasHop 12 = .ok (.iload_n 2, 1) := by decide +kernel
theorem dX7_wasHop_13 : decode cX7_wasHop 13 = .ok (.ifCond .ne 13, 3) := by decide +kernel
theorem dX7_wasHop_16 : decode cX7_wasHop 16 = .ok (.aload_n 0, 1) := by decide +kernel
theorem dX7_wasHop_17 : decode cX7_wasHop 17 = .ok (.getfield 77, 3) := by decide +kernel
theorem dX7_wasHop_20 : decode cX7_wasHop 20 = .ok (.iload_n 3, 1) := by decide +kernel
theorem dX7_wasHop_21 : decode cX7_wasHop 21 = .ok (.iaload, 1) := by decide +kernel
theorem dX7_wasHop_22 : decode cX7_wasHop 22 = .ok (.iload_n 1, 1) := by decide +kernel
theorem dX7_wasHop_23 : decode cX7_wasHop 23 = .ok (.if_icmp .ne 7, 3) := by decide +kernel
theorem dX7_wasHop_26 : decode cX7_wasHop 26 = .ok (.iconst 1, 1) := by decide +kernel
theorem dX7_wasHop_27 : decode cX7_wasHop 27 = .ok (.goto 4, 3) := by decide +kernel
theorem dX7_wasHop_30 : decode cX7_wasHop 30 = .ok (.iconst 0, 1) := by decide +kernel
theorem dX7_wasHop_31 : decode cX7_wasHop 31 = .ok (.istore_n 2, 1) := by decide +kernel
theorem dX7_wasHop_32 : decode cX7_wasHop 32 = .ok (.iinc 3 1, 3) := by decide +kernel
theorem dX7_wasHop_35 : decode cX7_wasHop 35 = .ok (.goto (-31), 3) := by decide +kernel
theorem dX7_wasHop_38 : decode cX7_wasHop 38 = .ok (.iload_n 2, 1) := by decide +kernel
theorem dX7_wasHop_39 : decode cX7_wasHop 39 = .ok (.ireturn, 1) := by decide +kernel
theorem dX7_hopsTo_0 : decode cX7_hopsTo 0 = .ok (.aload_n 0, 1) := by decide +kernel
theorem dX7_hopsTo_1 : decode cX7_hopsTo 1 = .ok (.getfield 77, 3) := by decide +kernel
theorem dX7_hopsTo_4 : decode cX7_hopsTo 4 = .ok (.aload_n 0, 1) := by decide +kernel
theorem dX7_hopsTo_5 : decode cX7_hopsTo 5 = .ok (.getfield 176, 3) := by decide +kernel
theorem dX7_hopsTo_8 : decode cX7_hopsTo 8 = .ok (.iload_n 1, 1) := by decide +kernel
theorem dX7_hopsTo_9 : decode cX7_hopsTo 9 = .ok (.iastore, 1) := by decide +kernel
theorem dX7_hopsTo_10 : decode cX7_hopsTo 10 = .ok (.aload_n 0, 1) := by decide +kernel
theorem dX7_hopsTo_11 : decode cX7_hopsTo 11 = .ok (.dup, 1) := by decide +kernel
theorem dX7_hopsTo_12 : decode cX7_hopsTo 12 = .ok (.getfield 176, 3) := by decide +kernel
theorem dX7_hopsTo_15 : decode cX7_hopsTo 15 = .ok (.iconst 1, 1) := by decide +kernel
theorem dX7_hopsTo_16 : decode cX7_hopsTo 16 = .ok (.iadd, 1) := by decide +kernel
theorem dX7_hopsTo_17 : decode cX7_hopsTo 17 = .ok (.putfield 176, 3) := by decide +kernel
theorem dX7_hopsTo_20 : decode cX7_hopsTo 20 = .ok (.return_, 1) := by decide +kernel
theorem dX7_goes_0 : decode cX7_goes 0 = .ok (.aload_n 0, 1) := by decide +kernel
theorem dX7_goes_1 : decode cX7_goes 1 = .ok (.iload_n 1, 1) := by decide +kernel
theorem dX7_goes_2 : decode cX7_goes 2 = .ok (.invokevirtual 114, 3) := by decide +kernel
theorem dX7_goes_5 : decode cX7_goes 5 = .ok (.istore_n 3, 1) := by decide +kernel
theorem dX7_goes_6 : decode cX7_goes 6 = .ok (.aload_n 0, 1) := by decide +kernel
theorem dX7_goes_7 : decode cX7_goes 7 = .ok (.getfield 77, 3) := by decide +kernel
theorem dX7_goes_10 : decode cX7_goes 10 = .ok (.aload_n 0, 1) := by decide +kernel
theorem dX7_goes_11 : decode cX7_goes 11 = .ok (.getfield 176, 3) := by decide +kernel
theorem dX7_goes_14 : decode cX7_goes 14 = .ok (.iconst 1, 1) := by decide +kernel
theorem dX7_goes_15 : decode cX7_goes 15 = .ok (.isub, 1) := by decide +kernel
theorem dX7_goes_16 : decode cX7_goes 16 = .ok (.iaload, 1) := by decide +kernel
theorem dX7_goes_17 : decode cX7_goes 17 = .ok (.istore 4, 2) := by decide +kernel
theorem dX7_goes_19 : decode cX7_goes 19 = .ok (.aload_n 0, 1) := by decide +kernel
theorem dX7_goes_20 : decode cX7_goes 20 = .ok (.getfield 17, 3) := by decide +kernel
theorem dX7_goes_23 : decode cX7_goes 23 = .ok (.iload_n 1, 1) := by decide +kernel
theorem dX7_goes_24 : decode cX7_goes 24 = .ok (.iaload, 1) := by decide +kernel
theorem dX7_goes_25 : decode cX7_goes 25 = .ok (.iload 4, 2) := by decide +kernel
theorem dX7_goes_27 : decode cX7_goes 27 = .ok (.if_icmp .ne 5, 3) := by decide +kernel
theorem dX7_goes_30 : decode cX7_goes 30 = .ok (.iconst 0, 1) := by decide +kernel
theorem dX7_goes_31 : decode cX7_goes 31 = .ok (.ireturn, 1) := by decide +kernel
theorem dX7_goes_32 : decode cX7_goes 32 = .ok (.aload_n 0, 1) := by decide +kernel
theorem dX7_goes_33 : decode cX7_goes 33 = .ok (.getfield 13, 3) := by decide +kernel
theorem dX7_goes_36 : decode cX7_goes 36 = .ok (.iload 4, 2) := by decide +kernel
theorem dX7_goes_38 : decode cX7_goes 38 = .ok (.baload, 1) := by decide +kernel
theorem dX7_goes_39 : decode cX7_goes 39 = .ok (.ifCond .eq 5, 3) := by decide +kernel
theorem dX7_goes_42 : decode cX7_goes 42 = .ok (.iconst 4, 1) := by decide +kernel
theorem dX7_goes_43 : decode cX7_goes 43 = .ok (.ireturn, 1) := by decide +kernel
theorem dX7_goes_44 : decode cX7_goes 44 = .ok (.iload_n 2, 1) := by decide +kernel
theorem dX7_goes_45 : decode cX7_goes 45 = .ok (.ifCond .eq 21, 3) := by decide +kernel
theorem dX7_goes_48 : decode cX7_goes 48 = .ok (.aload_n 0, 1) := by decide +kernel
theorem dX7_goes_49 : decode cX7_goes 49 = .ok (.getfield 176, 3) := by decide +kernel
theorem dX7_goes_52 : decode cX7_goes 52 = .ok (.iconst 1, 1) := by decide +kernel
theorem dX7_goes_53 : decode cX7_goes 53 = .ok (.if_icmp .ne 13, 3) := by decide +kernel
theorem dX7_goes_56 : decode cX7_goes 56 = .ok (.iload_n 3, 1) := by decide +kernel
theorem dX7_goes_57 : decode cX7_goes 57 = .ok (.iload 4, 2) := by decide +kernel
theorem dX7_goes_59 : decode cX7_goes 59 = .ok (.if_icmp .eq 7, 3) := by decide +kernel
theorem dX7_goes_62 : decode cX7_goes 62 = .ok (.iconst 1, 1) := by decide +kernel
theorem dX7_goes_63 : decode cX7_goes 63 = .ok (.goto 4, 3) := by decide +kernel
theorem dX7_goes_66 : decode cX7_goes 66 = .ok (.iconst 0, 1) := by decide +kernel
theorem dX7_goes_67 : decode cX7_goes 67 = .ok (.istore 5, 2) := by decide +kernel
theorem dX7_goes_69 : decode cX7_goes 69 = .ok (.iload_n 2, 1) := by decide +kernel
theorem dX7_goes_70 : decode cX7_goes 70 = .ok (.iconst 2, 1) := by decide +kernel
theorem dX7_goes_71 : decode cX7_goes 71 = .ok (.if_icmp .ne 21, 3) := by decide +kernel
theorem dX7_goes_74 : decode cX7_goes 74 = .ok (.aload_n 0, 1) := by decide +kernel
theorem dX7_goes_75 : decode cX7_goes 75 = .ok (.getfield 176, 3) := by decide +kernel
theorem dX7_goes_78 : decode cX7_goes 78 = .ok (.iconst 2, 1) := by decide +kernel
theorem dX7_goes_79 : decode cX7_goes 79 = .ok (.if_icmp .ne 13, 3) := by decide +kernel
theorem dX7_goes_82 : decode cX7_goes 82 = .ok (.iload_n 3, 1) := by decide +kernel
theorem dX7_goes_83 : decode cX7_goes 83 = .ok (.iload 4, 2) := by decide +kernel
theorem dX7_goes_85 : decode cX7_goes 85 = .ok (.if_icmp .ne 7, 3) := by decide +kernel
theorem dX7_goes_88 : decode cX7_goes 88 = .ok (.iconst 1, 1) := by decide +kernel
theorem dX7_goes_89 : decode cX7_goes 89 = .ok (.goto 4, 3) := by decide +kernel
theorem dX7_goes_92 : decode cX7_goes 92 = .ok (.iconst 0, 1) := by decide +kernel
theorem dX7_goes_93 : decode cX7_goes 93 = .ok (.istore 6, 2) := by decide +kernel
theorem dX7_goes_95 : decode cX7_goes 95 = .ok (.iload 5, 2) := by decide +kernel
theorem dX7_goes_97 : decode cX7_goes 97 = .ok (.ifCond .eq 7, 3) := by decide +kernel
theorem dX7_goes_100 : decode cX7_goes 100 = .ok (.iload_n 3, 1) := by decide +kernel
theorem dX7_goes_101 : decode cX7_goes 101 = .ok (.goto 24, 3) := by decide +kernel
theorem dX7_goes_104 : decode cX7_goes 104 = .ok (.aload_n 0, 1) := by decide +kernel
theorem dX7_goes_105 : decode cX7_goes 105 = .ok (.iload 6, 2) := by decide +kernel
theorem dX7_goes_107 : decode cX7_goes 107 = .ok (.ifCond .eq 12, 3) := by decide +kernel
theorem dX7_goes_110 : decode cX7_goes 110 = .ok (.aload_n 0, 1) := by decide +kernel
theorem dX7_goes_111 : decode cX7_goes 111 = .ok (.getfield 77, 3) := by decide +kernel
theorem dX7_goes_114 : decode cX7_goes 114 = .ok (.iconst 0, 1) := by decide +kernel
theorem dX7_goes_115 : decode cX7_goes 115 = .ok (.iaload, 1) := by decide +kernel
theorem dX7_goes_116 : decode cX7_goes 116 = .ok (.goto 5, 3) := by decide +kernel
theorem dX7_goes_119 : decode cX7_goes 119 = .ok (.iload 4, 2) := by decide +kernel
theorem dX7_goes_121 : decode cX7_goes 121 = .ok (.iload_n 1, 1) := by decide +kernel
theorem dX7_goes_122 : decode cX7_goes 122 = .ok (.invokevirtual 172, 3) := by decide +kernel
theorem dX7_goes_125 : decode cX7_goes 125 = .ok (.istore 7, 2) := by decide +kernel
theorem dX7_goes_127 : decode cX7_goes 127 = .ok (.iload 7, 2) := by decide +kernel
theorem dX7_goes_129 : decode cX7_goes 129 = .ok (.iload 4, 2) := by decide +kernel
theorem dX7_goes_131 : decode cX7_goes 131 = .ok (.if_icmp .eq 19, 3) := by decide +kernel
theorem dX7_goes_134 : decode cX7_goes 134 = .ok (.iload 6, 2) := by decide +kernel
theorem dX7_goes_136 : decode cX7_goes 136 = .ok (.ifCond .eq 16, 3) := by decide +kernel
theorem dX7_goes_139 : decode cX7_goes 139 = .ok (.iload 7, 2) := by decide +kernel
theorem dX7_goes_141 : decode cX7_goes 141 = .ok (.aload_n 0, 1) := by decide +kernel
theorem dX7_goes_142 : decode cX7_goes 142 = .ok (.getfield 77, 3) := by decide +kernel
theorem dX7_goes_145 : decode cX7_goes 145 = .ok (.iconst 0, 1) := by decide +kernel
theorem dX7_goes_146 : decode cX7_goes 146 = .ok (.iaload, 1) := by decide +kernel
theorem dX7_goes_147 : decode cX7_goes 147 = .ok (.if_icmp .ne 5, 3) := by decide +kernel
theorem dX7_goes_150 : decode cX7_goes 150 = .ok (.iconst 4, 1) := by decide +kernel
theorem dX7_goes_151 : decode cX7_goes 151 = .ok (.ireturn, 1) := by decide +kernel
theorem dX7_goes_152 : decode cX7_goes 152 = .ok (.aload_n 0, 1) := by decide +kernel
theorem dX7_goes_153 : decode cX7_goes 153 = .ok (.iload 7, 2) := by decide +kernel
theorem dX7_goes_155 : decode cX7_goes 155 = .ok (.invokevirtual 179, 3) := by decide +kernel
theorem dX7_goes_158 : decode cX7_goes 158 = .ok (.istore 8, 2) := by decide +kernel
theorem dX7_goes_160 : decode cX7_goes 160 = .ok (.aload_n 0, 1) := by decide +kernel
theorem dX7_goes_161 : decode cX7_goes 161 = .ok (.iload 7, 2) := by decide +kernel
theorem dX7_goes_163 : decode cX7_goes 163 = .ok (.invokevirtual 182, 3) := by decide +kernel
theorem dX7_goes_166 : decode cX7_goes 166 = .ok (.iload 8, 2) := by decide +kernel
theorem dX7_goes_168 : decode cX7_goes 168 = .ok (.ifCond .eq 5, 3) := by decide +kernel
theorem dX7_goes_171 : decode cX7_goes 171 = .ok (.iconst 3, 1) := by decide +kernel
theorem dX7_goes_172 : decode cX7_goes 172 = .ok (.ireturn, 1) := by decide +kernel
theorem dX7_goes_173 : decode cX7_goes 173 = .ok (.goto (-167), 3) := by decide +kernel
theorem dX7_callsTo_0 : decode cX7_callsTo 0 = .ok (.aload_n 0, 1) := by decide +kernel
theorem dX7_callsTo_1 : decode cX7_callsTo 1 = .ok (.iconst 0, 1) := by decide +kernel
theorem dX7_callsTo_2 : decode cX7_callsTo 2 = .ok (.putfield 176, 3) := by decide +kernel
theorem dX7_callsTo_5 : decode cX7_callsTo 5 = .ok (.aload_n 0, 1) := by decide +kernel
theorem dX7_callsTo_6 : decode cX7_callsTo 6 = .ok (.iload_n 1, 1) := by decide +kernel
theorem dX7_callsTo_7 : decode cX7_callsTo 7 = .ok (.invokevirtual 182, 3) := by decide +kernel
theorem dX7_callsTo_10 : decode cX7_callsTo 10 = .ok (.aload_n 0, 1) := by decide +kernel
theorem dX7_callsTo_11 : decode cX7_callsTo 11 = .ok (.iload_n 2, 1) := by decide +kernel
theorem dX7_callsTo_12 : decode cX7_callsTo 12 = .ok (.invokevirtual 114, 3) := by decide +kernel
theorem dX7_callsTo_15 : decode cX7_callsTo 15 = .ok (.iconst (-1), 1) := by decide +kernel
theorem dX7_callsTo_16 : decode cX7_callsTo 16 = .ok (.if_icmp .ne 5, 3) := by decide +kernel
theorem dX7_callsTo_19 : decode cX7_callsTo 19 = .ok (.iconst 1, 1) := by decide +kernel
theorem dX7_callsTo_20 : decode cX7_callsTo 20 = .ok (.ireturn, 1) := by decide +kernel
theorem dX7_callsTo_21 : decode cX7_callsTo 21 = .ok (.aload_n 0, 1) := by decide +kernel
theorem dX7_callsTo_22 : decode cX7_callsTo 22 = .ok (.getfield 17, 3) := by decide +kernel
theorem dX7_callsTo_25 : decode cX7_callsTo 25 = .ok (.iload_n 2, 1) := by decide +kernel
theorem dX7_callsTo_26 : decode cX7_callsTo 26 = .ok (.iaload, 1) := by decide +kernel
theorem dX7_callsTo_27 : decode cX7_callsTo 27 = .ok (.iconst (-1), 1) := by decide +kernel
theorem dX7_callsTo_28 : decode cX7_callsTo 28 = .ok (.if_icmp .ne 23, 3) := by decide +kernel
theorem dX7_callsTo_31 : decode cX7_callsTo 31 = .ok (.aload_n 0, 1) := by decide +kernel
theorem dX7_callsTo_32 : decode cX7_callsTo 32 = .ok (.iload_n 2, 1) := by decide +kernel
theorem dX7_callsTo_33 : decode cX7_callsTo 33 = .ok (.invokevirtual 114, 3) := by decide +kernel
theorem dX7_callsTo_36 : decode cX7_callsTo 36 = .ok (.iload_n 1, 1) := by decide +kernel
theorem dX7_callsTo_37 : decode cX7_callsTo 37 = .ok (.if_icmp .eq 12, 3) := by decide +kernel
theorem dX7_callsTo_40 : decode cX7_callsTo 40 = .ok (.aload_n 0, 1) := by decide +kernel
theorem dX7_callsTo_41 : decode cX7_callsTo 41 = .ok (.aload_n 0, 1) := by decide +kernel
theorem dX7_callsTo_42 : decode cX7_callsTo 42 = .ok (.iload_n 2, 1) := by decide +kernel
theorem dX7_callsTo_43 : decode cX7_callsTo 43 = .ok (.invokevirtual 114, 3) := by decide +kernel
theorem dX7_callsTo_46 : decode cX7_callsTo 46 = .ok (.invokevirtual 182, 3) := by decide +kernel
theorem dX7_callsTo_49 : decode cX7_callsTo 49 = .ok (.iconst 2, 1) := by decide +kernel
theorem dX7_callsTo_50 : decode cX7_callsTo 50 = .ok (.ireturn, 1) := by decide +kernel
theorem dX7_callsTo_51 : decode cX7_callsTo 51 = .ok (.aload_n 0, 1) := by decide +kernel
theorem dX7_callsTo_52 : decode cX7_callsTo 52 = .ok (.iload_n 2, 1) := by decide +kernel
theorem dX7_callsTo_53 : decode cX7_callsTo 53 = .ok (.iload_n 3, 1) := by decide +kernel
theorem dX7_callsTo_54 : decode cX7_callsTo 54 = .ok (.invokevirtual 185, 3) := by decide +kernel
theorem dX7_callsTo_57 : decode cX7_callsTo 57 = .ok (.ireturn, 1) := by decide +kernel
theorem dX7_hop_0 : decode cX7_hop 0 = .ok (.iload_n 1, 1) := by decide +kernel
theorem dX7_hop_1 : decode cX7_hop 1 = .ok (.invokestatic 98, 3) := by decide +kernel
theorem dX7_hop_4 : decode cX7_hop 4 = .ok (.ifCond .eq 19, 3) := by decide +kernel
theorem dX7_hop_7 : decode cX7_hop 7 = .ok (.iload_n 2, 1) := by decide +kernel
theorem dX7_hop_8 : decode cX7_hop 8 = .ok (.invokestatic 108, 3) := by decide +kernel
theorem dX7_hop_11 : decode cX7_hop 11 = .ok (.ifCond .eq 12, 3) := by decide +kernel
theorem dX7_hop_14 : decode cX7_hop 14 = .ok (.iload 4, 2) := by decide +kernel
theorem dX7_hop_16 : decode cX7_hop 16 = .ok (.ifCond .lt 7, 3) := by decide +kernel
theorem dX7_hop_19 : decode cX7_hop 19 = .ok (.iconst 1, 1) := by decide +kernel
theorem dX7_hop_20 : decode cX7_hop 20 = .ok (.goto 4, 3) := by decide +kernel
theorem dX7_hop_23 : decode cX7_hop 23 = .ok (.iconst 0, 1) := by decide +kernel
theorem dX7_hop_24 : decode cX7_hop 24 = .ok (.istore 5, 2) := by decide +kernel
theorem dX7_hop_26 : decode cX7_hop 26 = .ok (.aload_n 0, 1) := by decide +kernel
theorem dX7_hop_27 : decode cX7_hop 27 = .ok (.iload 5, 2) := by decide +kernel
theorem dX7_hop_29 : decode cX7_hop 29 = .ok (.ifCond .ne 7, 3) := by decide +kernel
theorem dX7_hop_32 : decode cX7_hop 32 = .ok (.iconst 1, 1) := by decide +kernel
theorem dX7_hop_33 : decode cX7_hop 33 = .ok (.goto 17, 3) := by decide +kernel
theorem dX7_hop_36 : decode cX7_hop 36 = .ok (.iload_n 3, 1) := by decide +kernel
theorem dX7_hop_37 : decode cX7_hop 37 = .ok (.iconst 0, 1) := by decide +kernel
theorem dX7_hop_38 : decode cX7_hop 38 = .ok (.iconst 2, 1) := by decide +kernel
theorem dX7_hop_39 : decode cX7_hop 39 = .ok (.invokestatic 84, 3) := by decide +kernel
theorem dX7_hop_42 : decode cX7_hop 42 = .ok (.ifCond .eq 7, 3) := by decide +kernel
theorem dX7_hop_45 : decode cX7_hop 45 = .ok (.iconst 0, 1) := by decide +kernel
theorem dX7_hop_46 : decode cX7_hop 46 = .ok (.goto 4, 3) := by decide +kernel
theorem dX7_hop_49 : decode cX7_hop 49 = .ok (.iconst 2, 1) := by decide +kernel
theorem dX7_hop_50 : decode cX7_hop 50 = .ok (.putfield 80, 3) := by decide +kernel
theorem dX7_hop_53 : decode cX7_hop 53 = .ok (.aload_n 0, 1) := by decide +kernel
theorem dX7_hop_54 : decode cX7_hop 54 = .ok (.getfield 80, 3) := by decide +kernel
theorem dX7_hop_57 : decode cX7_hop 57 = .ok (.ifCond .le 5, 3) := by decide +kernel
theorem dX7_hop_60 : decode cX7_hop 60 = .ok (.iconst 0, 1) := by decide +kernel
theorem dX7_hop_61 : decode cX7_hop 61 = .ok (.ireturn, 1) := by decide +kernel
theorem dX7_hop_62 : decode cX7_hop 62 = .ok (.aload_n 0, 1) := by decide +kernel
theorem dX7_hop_63 : decode cX7_hop 63 = .ok (.iload_n 1, 1) := by decide +kernel
theorem dX7_hop_64 : decode cX7_hop 64 = .ok (.iload_n 2, 1) := by decide +kernel
theorem dX7_hop_65 : decode cX7_hop 65 = .ok (.iload_n 3, 1) := by decide +kernel
theorem dX7_hop_66 : decode cX7_hop 66 = .ok (.invokevirtual 188, 3) := by decide +kernel
theorem dX7_hop_69 : decode cX7_hop 69 = .ok (.pop, 1) := by decide +kernel
theorem dX7_hop_70 : decode cX7_hop 70 = .ok (.iload 4, 2) := by decide +kernel
theorem dX7_hop_72 : decode cX7_hop 72 = .ok (.aload_n 0, 1) := by decide +kernel
theorem dX7_hop_73 : decode cX7_hop 73 = .ok (.getfield 176, 3) := by decide +kernel
theorem dX7_hop_76 : decode cX7_hop 76 = .ok (.if_icmp .ge 13, 3) := by decide +kernel
theorem dX7_hop_79 : decode cX7_hop 79 = .ok (.aload_n 0, 1) := by decide +kernel
theorem dX7_hop_80 : decode cX7_hop 80 = .ok (.getfield 77, 3) := by decide +kernel
theorem dX7_hop_83 : decode cX7_hop 83 = .ok (.iload 4, 2) := by decide +kernel
theorem dX7_hop_85 : decode cX7_hop 85 = .ok (.iaload, 1) := by decide +kernel
theorem dX7_hop_86 : decode cX7_hop 86 = .ok (.goto 4, 3) := by decide +kernel
theorem dX7_hop_89 : decode cX7_hop 89 = .ok (.iconst (-1), 1) := by decide +kernel
theorem dX7_hop_90 : decode cX7_hop 90 = .ok (.ireturn, 1) := by decide +kernel
theorem dX7_why_0 : decode cX7_why 0 = .ok (.aload_n 0, 1) := by decide +kernel
theorem dX7_why_1 : decode cX7_why 1 = .ok (.iload_n 1, 1) := by decide +kernel
theorem dX7_why_2 : decode cX7_why 2 = .ok (.invokestatic 98, 3) := by decide +kernel
theorem dX7_why_5 : decode cX7_why 5 = .ok (.ifCond .eq 10, 3) := by decide +kernel
theorem dX7_why_8 : decode cX7_why 8 = .ok (.iload_n 2, 1) := by decide +kernel
theorem dX7_why_9 : decode cX7_why 9 = .ok (.invokestatic 108, 3) := by decide +kernel
theorem dX7_why_12 : decode cX7_why 12 = .ok (.ifCond .ne 7, 3) := by decide +kernel
theorem dX7_why_15 : decode cX7_why 15 = .ok (.iconst 1, 1) := by decide +kernel
theorem dX7_why_16 : decode cX7_why 16 = .ok (.goto 17, 3) := by decide +kernel
theorem dX7_why_19 : decode cX7_why 19 = .ok (.iload_n 3, 1) := by decide +kernel
theorem dX7_why_20 : decode cX7_why 20 = .ok (.iconst 0, 1) := by decide +kernel
theorem dX7_why_21 : decode cX7_why 21 = .ok (.iconst 2, 1) := by decide +kernel
theorem dX7_why_22 : decode cX7_why 22 = .ok (.invokestatic 84, 3) := by decide +kernel
theorem dX7_why_25 : decode cX7_why 25 = .ok (.ifCond .eq 7, 3) := by decide +kernel
theorem dX7_why_28 : decode cX7_why 28 = .ok (.iconst 0, 1) := by decide +kernel
theorem dX7_why_29 : decode cX7_why 29 = .ok (.goto 4, 3) := by decide +kernel
theorem dX7_why_32 : decode cX7_why 32 = .ok (.iconst 2, 1) := by decide +kernel
theorem dX7_why_33 : decode cX7_why 33 = .ok (.putfield 80, 3) := by decide +kernel
theorem dX7_why_36 : decode cX7_why 36 = .ok (.aload_n 0, 1) := by decide +kernel
theorem dX7_why_37 : decode cX7_why 37 = .ok (.getfield 80, 3) := by decide +kernel
theorem dX7_why_40 : decode cX7_why 40 = .ok (.ifCond .le 7, 3) := by decide +kernel
theorem dX7_why_43 : decode cX7_why 43 = .ok (.iconst 0, 1) := by decide +kernel
theorem dX7_why_44 : decode cX7_why 44 = .ok (.goto 10, 3) := by decide +kernel
theorem dX7_why_47 : decode cX7_why 47 = .ok (.aload_n 0, 1) := by decide +kernel
theorem dX7_why_48 : decode cX7_why 48 = .ok (.iload_n 1, 1) := by decide +kernel
theorem dX7_why_49 : decode cX7_why 49 = .ok (.iload_n 2, 1) := by decide +kernel
theorem dX7_why_50 : decode cX7_why 50 = .ok (.iload_n 3, 1) := by decide +kernel
theorem dX7_why_51 : decode cX7_why 51 = .ok (.invokevirtual 188, 3) := by decide +kernel
theorem dX7_why_54 : decode cX7_why 54 = .ok (.ireturn, 1) := by decide +kernel
theorem dX7_dial_0 : decode cX7_dial 0 = .ok (.iload_n 1, 1) := by decide +kernel
theorem dX7_dial_1 : decode cX7_dial 1 = .ok (.invokestatic 108, 3) := by decide +kernel
theorem dX7_dial_4 : decode cX7_dial 4 = .ok (.ifCond .eq 14, 3) := by decide +kernel
theorem dX7_dial_7 : decode cX7_dial 7 = .ok (.iload_n 2, 1) := by decide +kernel
theorem dX7_dial_8 : decode cX7_dial 8 = .ok (.invokestatic 108, 3) := by decide +kernel
theorem dX7_dial_11 : decode cX7_dial 11 = .ok (.ifCond .eq 7, 3) := by decide +kernel
theorem dX7_dial_14 : decode cX7_dial 14 = .ok (.iconst 1, 1) := by decide +kernel
theorem dX7_dial_15 : decode cX7_dial 15 = .ok (.goto 4, 3) := by decide +kernel
theorem dX7_dial_18 : decode cX7_dial 18 = .ok (.iconst 0, 1) := by decide +kernel
theorem dX7_dial_19 : decode cX7_dial 19 = .ok (.istore 4, 2) := by decide +kernel
theorem dX7_dial_21 : decode cX7_dial 21 = .ok (.aload_n 0, 1) := by decide +kernel
theorem dX7_dial_22 : decode cX7_dial 22 = .ok (.iload 4, 2) := by decide +kernel
theorem dX7_dial_24 : decode cX7_dial 24 = .ok (.ifCond .ne 7, 3) := by decide +kernel
theorem dX7_dial_27 : decode cX7_dial 27 = .ok (.iconst 1, 1) := by decide +kernel
theorem dX7_dial_28 : decode cX7_dial 28 = .ok (.goto 31, 3) := by decide +kernel
theorem dX7_dial_31 : decode cX7_dial 31 = .ok (.iload_n 3, 1) := by decide +kernel
theorem dX7_dial_32 : decode cX7_dial 32 = .ok (.iconst 0, 1) := by decide +kernel
theorem dX7_dial_33 : decode cX7_dial 33 = .ok (.iconst 2, 1) := by decide +kernel
theorem dX7_dial_34 : decode cX7_dial 34 = .ok (.invokestatic 84, 3) := by decide +kernel
theorem dX7_dial_37 : decode cX7_dial 37 = .ok (.ifCond .ne 7, 3) := by decide +kernel
theorem dX7_dial_40 : decode cX7_dial 40 = .ok (.iconst 2, 1) := by decide +kernel
theorem dX7_dial_41 : decode cX7_dial 41 = .ok (.goto 18, 3) := by decide +kernel
theorem dX7_dial_44 : decode cX7_dial 44 = .ok (.aload_n 0, 1) := by decide +kernel
theorem dX7_dial_45 : decode cX7_dial 45 = .ok (.getfield 17, 3) := by decide +kernel
theorem dX7_dial_48 : decode cX7_dial 48 = .ok (.iload_n 1, 1) := by decide +kernel
theorem dX7_dial_49 : decode cX7_dial 49 = .ok (.iaload, 1) := by decide +kernel
theorem dX7_dial_50 : decode cX7_dial 50 = .ok (.iconst (-1), 1) := by decide +kernel
theorem dX7_dial_51 : decode cX7_dial 51 = .ok (.if_icmp .ne 7, 3) := by decide +kernel
theorem dX7_dial_54 : decode cX7_dial 54 = .ok (.iconst 3, 1) := by decide +kernel
theorem dX7_dial_55 : decode cX7_dial 55 = .ok (.goto 4, 3) := by decide +kernel
theorem dX7_dial_58 : decode cX7_dial 58 = .ok (.iconst 0, 1) := by decide +kernel
theorem dX7_dial_59 : decode cX7_dial 59 = .ok (.putfield 80, 3) := by decide +kernel
theorem dX7_dial_62 : decode cX7_dial 62 = .ok (.aload_n 0, 1) := by decide +kernel
theorem dX7_dial_63 : decode cX7_dial 63 = .ok (.getfield 80, 3) := by decide +kernel
theorem dX7_dial_66 : decode cX7_dial 66 = .ok (.ifCond .le 5, 3) := by decide +kernel
theorem dX7_dial_69 : decode cX7_dial 69 = .ok (.iconst 0, 1) := by decide +kernel
theorem dX7_dial_70 : decode cX7_dial 70 = .ok (.ireturn, 1) := by decide +kernel
theorem dX7_dial_71 : decode cX7_dial 71 = .ok (.aload_n 0, 1) := by decide +kernel
theorem dX7_dial_72 : decode cX7_dial 72 = .ok (.aload_n 0, 1) := by decide +kernel
theorem dX7_dial_73 : decode cX7_dial 73 = .ok (.getfield 17, 3) := by decide +kernel
theorem dX7_dial_76 : decode cX7_dial 76 = .ok (.iload_n 1, 1) := by decide +kernel
theorem dX7_dial_77 : decode cX7_dial 77 = .ok (.iaload, 1) := by decide +kernel
theorem dX7_dial_78 : decode cX7_dial 78 = .ok (.iload_n 2, 1) := by decide +kernel
theorem dX7_dial_79 : decode cX7_dial 79 = .ok (.iload_n 3, 1) := by decide +kernel
theorem dX7_dial_80 : decode cX7_dial 80 = .ok (.invokevirtual 188, 3) := by decide +kernel
theorem dX7_dial_83 : decode cX7_dial 83 = .ok (.istore 5, 2) := by decide +kernel
theorem dX7_dial_85 : decode cX7_dial 85 = .ok (.iconst 1, 1) := by decide +kernel
theorem dX7_dial_86 : decode cX7_dial 86 = .ok (.istore 6, 2) := by decide +kernel
theorem dX7_dial_88 : decode cX7_dial 88 = .ok (.iload 6, 2) := by decide +kernel
theorem dX7_dial_90 : decode cX7_dial 90 = .ok (.aload_n 0, 1) := by decide +kernel
theorem dX7_dial_91 : decode cX7_dial 91 = .ok (.getfield 176, 3) := by decide +kernel
theorem dX7_dial_94 : decode cX7_dial 94 = .ok (.if_icmp .ge 47, 3) := by decide +kernel
theorem dX7_dial_97 : decode cX7_dial 97 = .ok (.iload 5, 2) := by decide +kernel
theorem dX7_dial_99 : decode cX7_dial 99 = .ok (.ifCond .ne 42, 3) := by decide +kernel
theorem dX7_dial_102 : decode cX7_dial 102 = .ok (.aload_n 0, 1) := by decide +kernel
theorem dX7_dial_103 : decode cX7_dial 103 = .ok (.aload_n 0, 1) := by decide +kernel
theorem dX7_dial_104 : decode cX7_dial 104 = .ok (.getfield 77, 3) := by decide +kernel
theorem dX7_dial_107 : decode cX7_dial 107 = .ok (.iconst 0, 1) := by decide +kernel
theorem dX7_dial_108 : decode cX7_dial 108 = .ok (.iaload, 1) := by decide +kernel
theorem dX7_dial_109 : decode cX7_dial 109 = .ok (.aload_n 0, 1) := by decide +kernel
theorem dX7_dial_110 : decode cX7_dial 110 = .ok (.getfield 77, 3) := by decide +kernel
theorem dX7_dial_113 : decode cX7_dial 113 = .ok (.iload 6, 2) := by decide +kernel
theorem dX7_dial_115 : decode cX7_dial 115 = .ok (.iaload, 1) := by decide +kernel
theorem dX7_dial_116 : decode cX7_dial 116 = .ok (.iload 6, 2) := by decide +kernel
theorem dX7_dial_118 : decode cX7_dial 118 = .ok (.aload_n 0, 1) := by decide +kernel
theorem dX7_dial_119 : decode cX7_dial 119 = .ok (.getfield 176, 3) := by decide +kernel
theorem dX7_dial_122 : decode cX7_dial 122 = .ok (.iconst 1, 1) := by decide +kernel
theorem dX7_dial_123 : decode cX7_dial 123 = .ok (.isub, 1) := by decide +kernel
theorem dX7_dial_124 : decode cX7_dial 124 = .ok (.if_icmp .ne 7, 3) := by decide +kernel
theorem dX7_dial_127 : decode cX7_dial 127 = .ok (.iconst 3, 1) := by decide +kernel
theorem dX7_dial_128 : decode cX7_dial 128 = .ok (.goto 4, 3) := by decide +kernel
theorem dX7_dial_131 : decode cX7_dial 131 = .ok (.iconst 1, 1) := by decide +kernel
theorem dX7_dial_132 : decode cX7_dial 132 = .ok (.invokevirtual 146, 3) := by decide +kernel
theorem dX7_dial_135 : decode cX7_dial 135 = .ok (.iinc 6 1, 3) := by decide +kernel
theorem dX7_dial_138 : decode cX7_dial 138 = .ok (.goto (-50), 3) := by decide +kernel
theorem dX7_dial_141 : decode cX7_dial 141 = .ok (.iload 5, 2) := by decide +kernel
theorem dX7_dial_143 : decode cX7_dial 143 = .ok (.ireturn, 1) := by decide +kernel
theorem dX7_minute_0 : decode cX7_minute 0 = .ok (.aload_n 0, 1) := by decide +kernel
theorem dX7_minute_1 : decode cX7_minute 1 = .ok (.iconst 0, 1) := by decide +kernel
theorem dX7_minute_2 : decode cX7_minute 2 = .ok (.putfield 80, 3) := by decide +kernel
theorem dX7_minute_5 : decode cX7_minute 5 = .ok (.aload_n 0, 1) := by decide +kernel
theorem dX7_minute_6 : decode cX7_minute 6 = .ok (.getfield 91, 3) := by decide +kernel
theorem dX7_minute_9 : decode cX7_minute 9 = .ok (.ireturn, 1) := by decide +kernel
