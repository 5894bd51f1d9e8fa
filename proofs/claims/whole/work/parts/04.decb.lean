theorem dX6_init_0 : decode cX6_init 0 = .ok (.aload_n 0, 1) := by decide +kernel
theorem dX6_init_1 : decode cX6_init 1 = .ok (.invokespecial 1, 3) := by decide +kernel
theorem dX6_init_4 : decode cX6_init 4 = .ok (.aload_n 0, 1) := by decide +kernel
theorem dX6_init_5 : decode cX6_init 5 = .ok (.sipush 145, 3) := by decide +kernel
theorem dX6_init_8 : decode cX6_init 8 = .ok (.newarray .int, 2) := by decide +kernel
theorem dX6_init_10 : decode cX6_init 10 = .ok (.putfield 7, 3) := by decide +kernel
theorem dX6_init_13 : decode cX6_init 13 = .ok (.aload_n 0, 1) := by decide +kernel
theorem dX6_init_14 : decode cX6_init 14 = .ok (.sipush 1160, 3) := by decide +kernel
theorem dX6_init_17 : decode cX6_init 17 = .ok (.newarray .int, 2) := by decide +kernel
theorem dX6_init_19 : decode cX6_init 19 = .ok (.putfield 13, 3) := by decide +kernel
theorem dX6_init_22 : decode cX6_init 22 = .ok (.aload_n 0, 1) := by decide +kernel
theorem dX6_init_23 : decode cX6_init 23 = .ok (.iconst 3, 1) := by decide +kernel
theorem dX6_init_24 : decode cX6_init 24 = .ok (.newarray .int, 2) := by decide +kernel
theorem dX6_init_26 : decode cX6_init 26 = .ok (.dup, 1) := by decide +kernel
theorem dX6_init_27 : decode cX6_init 27 = .ok (.iconst 0, 1) := by decide +kernel
theorem dX6_init_28 : decode cX6_init 28 = .ok (.iconst 2, 1) := by decide +kernel
theorem dX6_init_29 : decode cX6_init 29 = .ok (.iastore, 1) := by decide +kernel
theorem dX6_init_30 : decode cX6_init 30 = .ok (.dup, 1) := by decide +kernel
theorem dX6_init_31 : decode cX6_init 31 = .ok (.iconst 1, 1) := by decide +kernel
theorem dX6_init_32 : decode cX6_init 32 = .ok (.bipush 12, 2) := by decide +kernel
theorem dX6_init_34 : decode cX6_init 34 = .ok (.iastore, 1) := by decide +kernel
theorem dX6_init_35 : decode cX6_init 35 = .ok (.dup, 1) := by decide +kernel
theorem dX6_init_36 : decode cX6_init 36 = .ok (.iconst 2, 1) := by decide +kernel
theorem dX6_init_37 : decode cX6_init 37 = .ok (.iconst 0, 1) := by decide +kernel
theorem dX6_init_38 : decode cX6_init 38 = .ok (.iastore, 1) := by decide +kernel
theorem dX6_init_39 : decode cX6_init 39 = .ok (.putfield 16, 3) := by decide +kernel
theorem dX6_init_42 : decode cX6_init 42 = .ok (.aload_n 0, 1) := by decide +kernel
theorem dX6_init_43 : decode cX6_init 43 = .ok (.iconst 3, 1) := by decide +kernel
theorem dX6_init_44 : decode cX6_init 44 = .ok (.newarray .int, 2) := by decide +kernel
theorem dX6_init_46 : decode cX6_init 46 = .ok (.putfield 19, 3) := by decide +kernel
theorem dX6_init_49 : decode cX6_init 49 = .ok (.aload_n 0, 1) := by decide +kernel
theorem dX6_init_50 : decode cX6_init 50 = .ok (.bipush 120, 2) := by decide +kernel
theorem dX6_init_52 : decode cX6_init 52 = .ok (.newarray .int, 2) := by decide +kernel
theorem dX6_init_54 : decode cX6_init 54 = .ok (.putfield 22, 3) := by decide +kernel
theorem dX6_init_57 : decode cX6_init 57 = .ok (.aload_n 0, 1) := by decide +kernel
theorem dX6_init_58 : decode cX6_init 58 = .ok (.iconst 4, 1) := by decide +kernel
theorem dX6_init_59 : decode cX6_init 59 = .ok (.newarray .int, 2) := by decide +kernel
theorem dX6_init_61 : decode cX6_init 61 = .ok (.putfield 25, 3) := by decide +kernel
theorem dX6_init_64 : decode cX6_init 64 = .ok (.aload_n 0, 1) := by decide +kernel
theorem dX6_init_65 : decode cX6_init 65 = .ok (.bipush 24, 2) := by decide +kernel
theorem dX6_init_67 : decode cX6_init 67 = .ok (.newarray .char, 2) := by decide +kernel
theorem dX6_init_69 : decode cX6_init 69 = .ok (.dup, 1) := by decide +kernel
theorem dX6_init_70 : decode cX6_init 70 = .ok (.iconst 0, 1) := by decide +kernel
theorem dX6_init_71 : decode cX6_init 71 = .ok (.bipush 111, 2) := by decide +kernel
theorem dX6_init_73 : decode cX6_init 73 = .ok (.castore, 1) := by decide +kernel
theorem dX6_init_74 : decode cX6_init 74 = .ok (.dup, 1) := by decide +kernel
theorem dX6_init_75 : decode cX6_init 75 = .ok (.iconst 1, 1) := by decide +kernel
theorem dX6_init_76 : decode cX6_init 76 = .ok (.bipush 110, 2) := by decide +kernel
theorem dX6_init_78 : decode cX6_init 78 = .ok (.castore, 1) := by decide +kernel
theorem dX6_init_79 : decode cX6_init 79 = .ok (.dup, 1) := by decide +kernel
theorem dX6_init_80 : decode cX6_init 80 = .ok (.iconst 2, 1) := by decide +kernel
theorem dX6_init_81 : decode cX6_init 81 = .ok (.bipush 32, 2) := by decide +kernel
theorem dX6_init_83 : decode cX6_init 83 = .ok (.castore, 1) := by decide +kernel
theorem dX6_init_84 : decode cX6_init 84 = .ok (.dup, 1) := by decide +kernel
theorem dX6_init_85 : decode cX6_init 85 = .ok (.iconst 3, 1) := by decide +kernel
theorem dX6_init_86 : decode cX6_init 86 = .ok (.bipush 111, 2) := by decide +kernel
theorem dX6_init_88 : decode cX6_init 88 = .ok (.castore, 1) := by decide +kernel
theorem dX6_init_89 : decode cX6_init 89 = .ok (.dup, 1) := by decide +kernel
theorem dX6_init_90 : decode cX6_init 90 = .ok (.iconst 4, 1) := by decide +kernel
theorem dX6_init_91 : decode cX6_init 91 = .ok (.bipush 102, 2) := by decide +kernel
theorem dX6_init_93 : decode cX6_init 93 = .ok (.castore, 1) := by decide +kernel
theorem dX6_init_94 : decode cX6_init 94 = .ok (.dup, 1) := by decide +kernel
theorem dX6_init_95 : decode cX6_init 95 = .ok (.iconst 5, 1) := by decide +kernel
theorem dX6_init_96 : decode cX6_init 96 = .ok (.bipush 102, 2) := by decide +kernel
theorem dX6_init_98 : decode cX6_init 98 = .ok (.castore, 1) := by decide +kernel
theorem dX6_init_99 : decode cX6_init 99 = .ok (.dup, 1) := by decide +kernel
theorem dX6_init_100 : decode cX6_init 100 = .ok (.bipush 6, 2) := by decide +kernel
theorem dX6_init_102 : decode cX6_init 102 = .ok (.bipush 32, 2) := by decide +kernel
theorem dX6_init_104 : decode cX6_init 104 = .ok (.castore, 1) := by decide +kernel
theorem dX6_init_105 : decode cX6_init 105 = .ok (.dup, 1) := by decide +kernel
theorem dX6_init_106 : decode cX6_init 106 = .ok (.bipush 7, 2) := by decide +kernel
theorem dX6_init_108 : decode cX6_init 108 = .ok (.bipush 112, 2) := by decide +kernel
theorem dX6_init_110 : decode cX6_init 110 = .ok (.castore, 1) := by decide +kernel
theorem dX6_init_111 : decode cX6_init 111 = .ok (.dup, 1) := by decide +kernel
theorem dX6_init_112 : decode cX6_init 112 = .ok (.bipush 8, 2) := by decide +kernel
theorem dX6_init_114 : decode cX6_init 114 = .ok (.bipush 117, 2) := by decide +kernel
theorem dX6_init_116 : decode cX6_init 116 = .ok (.castore, 1) := by decide +kernel
theorem dX6_init_117 : decode cX6_init 117 = .ok (.dup, 1) := by decide +kernel
theorem dX6_init_118 : decode cX6_init 118 = .ok (.bipush 9, 2) := by decide +kernel
theorem dX6_init_120 : decode cX6_init 120 = .ok (.bipush 116, 2) := by decide +kernel
theorem dX6_init_122 : decode cX6_init 122 = .ok (.castore, 1) := by decide +kernel
theorem dX6_init_123 : decode cX6_init 123 = .ok (.dup, 1) := by decide +kernel
theorem dX6_init_124 : decode cX6_init 124 = .ok (.bipush 10, 2) := by decide +kernel
theorem dX6_init_126 : decode cX6_init 126 = .ok (.bipush 32, 2) := by decide +kernel
theorem dX6_init_128 : decode cX6_init 128 = .ok (.castore, 1) := by decide +kernel
theorem dX6_init_129 : decode cX6_init 129 = .ok (.dup, 1) := by decide +kernel
theorem dX6_init_130 : decode cX6_init 130 = .ok (.bipush 11, 2) := by decide +kernel
theorem dX6_init_132 : decode cX6_init 132 = .ok (.bipush 110, 2) := by decide +kernel
theorem dX6_init_134 : decode cX6_init 134 = .ok (.castore, 1) := by decide +kernel
theorem dX6_init_135 : decode cX6_init 135 = .ok (.dup, 1) := by decide +kernel
theorem dX6_init_136 : decode cX6_init 136 = .ok (.bipush 12, 2) := by decide +kernel
theorem dX6_init_138 : decode cX6_init 138 = .ok (.bipush 97, 2) := by decide +kernel
theorem dX6_init_140 : decode cX6_init 140 = .ok (.castore, 1) := by decide +kernel
theorem dX6_init_141 : decode cX6_init 141 = .ok (.dup, 1) := by decide +kernel
theorem dX6_init_142 : decode cX6_init 142 = .ok (.bipush 13, 2) := by decide +kernel
theorem dX6_init_144 : decode cX6_init 144 = .ok (.bipush 109, 2) := by decide +kernel
theorem dX6_init_146 : decode cX6_init 146 = .ok (.castore, 1) := by decide +kernel
theorem dX6_init_147 : decode cX6_init 147 = .ok (.dup, 1) := by decide +kernel
theorem dX6_init_148 : decode cX6_init 148 = .ok (.bipush 14, 2) := by decide +kernel
theorem dX6_init_150 : decode cX6_init 150 = .ok (.bipush 101, 2) := by decide +kernel
theorem dX6_init_152 : decode cX6_init 152 = .ok (.castore, 1) := by decide +kernel
theorem dX6_init_153 : decode cX6_init 153 = .ok (.dup, 1) := by decide +kernel
theorem dX6_init_154 : decode cX6_init 154 = .ok (.bipush 15, 2) := by decide +kernel
theorem dX6_init_156 : decode cX6_init 156 = .ok (.bipush 115, 2) := by decide +kernel
theorem dX6_init_158 : decode cX6_init 158 = .ok (.castore, 1) := by decide +kernel
theorem dX6_init_159 : decode cX6_init 159 = .ok (.dup, 1) := by decide +kernel
theorem dX6_init_160 : decode cX6_init 160 = .ok (.bipush 16, 2) := by decide +kernel
theorem dX6_init_162 : decode cX6_init 162 = .ok (.bipush 32, 2) := by decide +kernel
theorem dX6_init_164 : decode cX6_init 164 = .ok (.castore, 1) := by decide +kernel
theorem dX6_init_165 : decode cX6_init 165 = .ok (.dup, 1) := by decide +kernel
theorem dX6_init_166 : decode cX6_init 166 = .ok (.bipush 17, 2) := by decide +kernel
theorem dX6_init_168 : decode cX6_init 168 = .ok (.bipush 118, 2) := by decide +kernel
theorem dX6_init_170 : decode cX6_init 170 = .ok (.castore, 1) := by decide +kernel
theorem dX6_init_171 : decode cX6_init 171 = .ok (.dup, 1) := by decide +kernel
theorem dX6_init_172 : decode cX6_init 172 = .ok (.bipush 18, 2) := by decide +kernel
theorem dX6_init_174 : decode cX6_init 174 = .ok (.bipush 111, 2) := by decide +kernel
theorem dX6_init_176 : decode cX6_init 176 = .ok (.castore, 1) := by decide +kernel
theorem dX6_init_177 : decode cX6_init 177 = .ok (.dup, 1) := by decide +kernel
theorem dX6_init_178 : decode cX6_init 178 = .ok (.bipush 19, 2) := by decide +kernel
theorem dX6_init_180 : decode cX6_init 180 = .ok (.bipush 116, 2) := by decide +kernel
theorem dX6_init_182 : decode cX6_init 182 = .ok (.castore, 1) := by decide +kernel
theorem dX6_init_183 : decode cX6_init 183 = .ok (.dup, 1) := by decide +kernel
theorem dX6_init_184 : decode cX6_init 184 = .ok (.bipush 20, 2) := by decide +kernel
theorem dX6_init_186 : decode cX6_init 186 = .ok (.bipush 101, 2) := by decide +kernel
theorem dX6_init_188 : decode cX6_init 188 = .ok (.castore, 1) := by decide +kernel
theorem dX6_init_189 : decode cX6_init 189 = .ok (.dup, 1) := by decide +kernel
theorem dX6_init_190 : decode cX6_init 190 = .ok (.bipush 21, 2) := by decide +kernel
theorem dX6_init_192 : decode cX6_init 192 = .ok (.bipush 114, 2) := by decide +kernel
theorem dX6_init_194 : decode cX6_init 194 = .ok (.castore, 1) := by decide +kernel
theorem dX6_init_195 : decode cX6_init 195 = .ok (.dup, 1) := by decide +kernel
theorem dX6_init_196 : decode cX6_init 196 = .ok (.bipush 22, 2) := by decide +kernel
theorem dX6_init_198 : decode cX6_init 198 = .ok (.bipush 115, 2) := by decide +kernel
theorem dX6_init_200 : decode cX6_init 200 = .ok (.castore, 1) := by decide +kernel
theorem dX6_init_201 : decode cX6_init 201 = .ok (.dup, 1) := by decide +kernel
theorem dX6_init_202 : decode cX6_init 202 = .ok (.bipush 23, 2) := by decide +kernel
theorem dX6_init_204 : decode cX6_init 204 = .ok (.bipush 32, 2) := by decide +kernel
theorem dX6_init_206 : decode cX6_init 206 = .ok (.castore, 1) := by decide +kernel
theorem dX6_init_207 : decode cX6_init 207 = .ok (.putfield 28, 3) := by decide +kernel
theorem dX6_init_210 : decode cX6_init 210 = .ok (.aload_n 0, 1) := by decide +kernel
theorem dX6_init_211 : decode cX6_init 211 = .ok (.bipush 24, 2) := by decide +kernel
theorem dX6_init_213 : decode cX6_init 213 = .ok (.newarray .int, 2) := by decide +kernel
theorem dX6_init_215 : decode cX6_init 215 = .ok (.putfield 32, 3) := by decide +kernel
theorem dX6_init_218 : decode cX6_init 218 = .ok (.aload_n 0, 1) := by decide +kernel
theorem dX6_init_219 : decode cX6_init 219 = .ok (.bipush 24, 2) := by decide +kernel
theorem dX6_init_221 : decode cX6_init 221 = .ok (.newarray .int, 2) := by decide +kernel
theorem dX6_init_223 : decode cX6_init 223 = .ok (.putfield 35, 3) := by decide +kernel
theorem dX6_init_226 : decode cX6_init 226 = .ok (.aload_n 0, 1) := by decide +kernel
theorem dX6_init_227 : decode cX6_init 227 = .ok (.bipush 24, 2) := by decide +kernel
theorem dX6_init_229 : decode cX6_init 229 = .ok (.newarray .int, 2) := by decide +kernel
theorem dX6_init_231 : decode cX6_init 231 = .ok (.putfield 38, 3) := by decide +kernel
theorem dX6_init_234 : decode cX6_init 234 = .ok (.aload_n 0, 1) := by decide +kernel
theorem dX6_init_235 : decode cX6_init 235 = .ok (.bipush 24, 2) := by decide +kernel
theorem dX6_init_237 : decode cX6_init 237 = .ok (.newarray .int, 2) := by decide +kernel
theorem dX6_init_239 : decode cX6_init 239 = .ok (.putfield 41, 3) := by decide +kernel
theorem dX6_init_242 : decode cX6_init 242 = .ok (.aload_n 0, 1) := by decide +kernel
theorem dX6_init_243 : decode cX6_init 243 = .ok (.iconst 4, 1) := by decide +kernel
theorem dX6_init_244 : decode cX6_init 244 = .ok (.newarray .int, 2) := by decide +kernel
theorem dX6_init_246 : decode cX6_init 246 = .ok (.putfield 44, 3) := by decide +kernel
theorem dX6_init_249 : decode cX6_init 249 = .ok (.aload_n 0, 1) := by decide +kernel
theorem dX6_init_250 : decode cX6_init 250 = .ok (.iconst 4, 1) := by decide +kernel
theorem dX6_init_251 : decode cX6_init 251 = .ok (.newarray .int, 2) := by decide +kernel
theorem dX6_init_253 : decode cX6_init 253 = .ok (.putfield 47, 3) := by decide +kernel
theorem dX6_init_256 : decode cX6_init 256 = .ok (.aload_n 0, 1) := by decide +kernel
theorem dX6_init_257 : decode cX6_init 257 = .ok (.bipush 12, 2) := by decide +kernel
theorem dX6_init_259 : decode cX6_init 259 = .ok (.newarray .int, 2) := by decide +kernel
theorem dX6_init_261 : decode cX6_init 261 = .ok (.putfield 50, 3) := by decide +kernel
theorem dX6_init_264 : decode cX6_init 264 = .ok (.iconst 0, 1) := by decide +kernel
theorem dX6_init_265 : decode cX6_init 265 = .ok (.istore_n 1, 1) := by decide +kernel
theorem dX6_init_266 : decode cX6_init 266 = .ok (.iload_n 1, 1) := by decide +kernel
theorem dX6_init_267 : decode cX6_init 267 = .ok (.bipush 24, 2) := by decide +kernel
theorem dX6_init_269 : decode cX6_init 269 = .ok (.if_icmp .ge 16, 3) := by decide +kernel
theorem dX6_init_272 : decode cX6_init 272 = .ok (.aload_n 0, 1) := by decide +kernel
theorem dX6_init_273 : decode cX6_init 273 = .ok (.getfield 7, 3) := by decide +kernel
theorem dX6_init_276 : decode cX6_init 276 = .ok (.iload_n 1, 1) := by decide +kernel
theorem dX6_init_277 : decode cX6_init 277 = .ok (.iconst 1, 1) := by decide +kernel
theorem dX6_init_278 : decode cX6_init 278 = .ok (.iastore, 1) := by decide +kernel
theorem dX6_init_279 : decode cX6_init 279 = .ok (.iinc 1 1, 3) := by decide +kernel
theorem dX6_init_282 : decode cX6_init 282 = .ok (.goto (-16), 3) := by decide +kernel
theorem dX6_init_285 : decode cX6_init 285 = .ok (.bipush 120, 2) := by decide +kernel
theorem dX6_init_287 : decode cX6_init 287 = .ok (.istore_n 1, 1) := by decide +kernel
theorem dX6_init_288 : decode cX6_init 288 = .ok (.iload_n 1, 1) := by decide +kernel
theorem dX6_init_289 : decode cX6_init 289 = .ok (.sipush 144, 3) := by decide +kernel
theorem dX6_init_292 : decode cX6_init 292 = .ok (.if_icmp .ge 16, 3) := by decide +kernel
theorem dX6_init_295 : decode cX6_init 295 = .ok (.aload_n 0, 1) := by decide +kernel
theorem dX6_init_296 : decode cX6_init 296 = .ok (.getfield 7, 3) := by decide +kernel
theorem dX6_init_299 : decode cX6_init 299 = .ok (.iload_n 1, 1) := by decide +kernel
theorem dX6_init_300 : decode cX6_init 300 = .ok (.iconst 2, 1) := by decide +kernel
theorem dX6_init_301 : decode cX6_init 301 = .ok (.iastore, 1) := by decide +kernel
theorem dX6_init_302 : decode cX6_init 302 = .ok (.iinc 1 1, 3) := by decide +kernel
theorem dX6_init_305 : decode cX6_init 305 = .ok (.goto (-17), 3) := by decide +kernel
theorem dX6_init_308 : decode cX6_init 308 = .ok (.aload_n 0, 1) := by decide +kernel
theorem dX6_init_309 : decode cX6_init 309 = .ok (.getfield 7, 3) := by decide +kernel
theorem dX6_init_312 : decode cX6_init 312 = .ok (.sipush 144, 3) := by decide +kernel
theorem dX6_init_315 : decode cX6_init 315 = .ok (.iconst 1, 1) := by decide +kernel
theorem dX6_init_316 : decode cX6_init 316 = .ok (.iastore, 1) := by decide +kernel
theorem dX6_init_317 : decode cX6_init 317 = .ok (.return_, 1) := by decide +kernel
theorem dX6_in_0 : decode cX6_in 0 = .ok (.iload_n 0, 1) := by decide +kernel
theorem dX6_in_1 : decode cX6_in 1 = .ok (.iload_n 1, 1) := by decide +kernel
theorem dX6_in_2 : decode cX6_in 2 = .ok (.if_icmp .lt 12, 3) := by decide +kernel
theorem dX6_in_5 : decode cX6_in 5 = .ok (.iload_n 0, 1) := by decide +kernel
theorem dX6_in_6 : decode cX6_in 6 = .ok (.iload_n 2, 1) := by decide +kernel
theorem dX6_in_7 : decode cX6_in 7 = .ok (.if_icmp .gt 7, 3) := by decide +kernel
theorem dX6_in_10 : decode cX6_in 10 = .ok (.iconst 1, 1) := by decide +kernel
theorem dX6_in_11 : decode cX6_in 11 = .ok (.goto 4, 3) := by decide +kernel
theorem dX6_in_14 : decode cX6_in 14 = .ok (.iconst 0, 1) := by decide +kernel
theorem dX6_in_15 : decode cX6_in 15 = .ok (.ireturn, 1) := by decide +kernel
theorem dX6_refuses_0 : decode cX6_refuses 0 = .ok (.aload_n 0, 1) := by decide +kernel
theorem dX6_refuses_1 : decode cX6_refuses 1 = .ok (.getfield 19, 3) := by decide +kernel
theorem dX6_refuses_4 : decode cX6_refuses 4 = .ok (.bipush (-2), 2) := by decide +kernel
theorem dX6_refuses_6 : decode cX6_refuses 6 = .ok (.iload_n 1, 1) := by decide +kernel
theorem dX6_refuses_7 : decode cX6_refuses 7 = .ok (.isub, 1) := by decide +kernel
theorem dX6_refuses_8 : decode cX6_refuses 8 = .ok (.dup2, 1) := by decide +kernel
theorem dX6_refuses_9 : decode cX6_refuses 9 = .ok (.iaload, 1) := by decide +kernel
theorem dX6_refuses_10 : decode cX6_refuses 10 = .ok (.iconst 1, 1) := by decide +kernel
theorem dX6_refuses_11 : decode cX6_refuses 11 = .ok (.iadd, 1) := by decide +kernel
theorem dX6_refuses_12 : decode cX6_refuses 12 = .ok (.iastore, 1) := by decide +kernel
theorem dX6_refuses_13 : decode cX6_refuses 13 = .ok (.iload_n 1, 1) := by decide +kernel
theorem dX6_refuses_14 : decode cX6_refuses 14 = .ok (.ireturn, 1) := by decide +kernel
theorem dX6_isBlock_0 : decode cX6_isBlock 0 = .ok (.iload_n 0, 1) := by decide +kernel
theorem dX6_isBlock_1 : decode cX6_isBlock 1 = .ok (.iconst 0, 1) := by decide +kernel
theorem dX6_isBlock_2 : decode cX6_isBlock 2 = .ok (.bipush 23, 2) := by decide +kernel
theorem dX6_isBlock_4 : decode cX6_isBlock 4 = .ok (.invokestatic 53, 3) := by decide +kernel
theorem dX6_isBlock_7 : decode cX6_isBlock 7 = .ok (.ireturn, 1) := by decide +kernel
theorem dX6_isLayer_0 : decode cX6_isLayer 0 = .ok (.iload_n 0, 1) := by decide +kernel
theorem dX6_isLayer_1 : decode cX6_isLayer 1 = .ok (.iconst 0, 1) := by decide +kernel
theorem dX6_isLayer_2 : decode cX6_isLayer 2 = .ok (.iconst 3, 1) := by decide +kernel
theorem dX6_isLayer_3 : decode cX6_isLayer 3 = .ok (.invokestatic 53, 3) := by decide +kernel
theorem dX6_isLayer_6 : decode cX6_isLayer 6 = .ok (.ireturn, 1) := by decide +kernel
theorem dX6_isDistrict_0 : decode cX6_isDistrict 0 = .ok (.iload_n 0, 1) := by decide +kernel
theorem dX6_isDistrict_1 : decode cX6_isDistrict 1 = .ok (.iconst 0, 1) := by decide +kernel
theorem dX6_isDistrict_2 : decode cX6_isDistrict 2 = .ok (.iconst 5, 1) := by decide +kernel
theorem dX6_isDistrict_3 : decode cX6_isDistrict 3 = .ok (.invokestatic 53, 3) := by decide +kernel
theorem dX6_isDistrict_6 : decode cX6_isDistrict 6 = .ok (.ireturn, 1) := by decide +kernel
theorem dX6_district_0 : decode cX6_district 0 = .ok (.aload_n 0, 1) := by decide +kernel
theorem dX6_district_1 : decode cX6_district 1 = .ok (.getfield 7, 3) := by decide +kernel
theorem dX6_district_4 : decode cX6_district 4 = .ok (.bipush 24, 2) := by decide +kernel
theorem dX6_district_6 : decode cX6_district 6 = .ok (.bipush 24, 2) := by decide +kernel
theorem dX6_district_8 : decode cX6_district 8 = .ok (.iload_n 1, 1) := by decide +kernel
theorem dX6_district_9 : decode cX6_district 9 = .ok (.imul, 1) := by decide +kernel
theorem dX6_district_10 : decode cX6_district 10 = .ok (.iadd, 1) := by decide +kernel
theorem dX6_district_11 : decode cX6_district 11 = .ok (.iload_n 2, 1) := by decide +kernel
theorem dX6_district_12 : decode cX6_district 12 = .ok (.iadd, 1) := by decide +kernel
theorem dX6_district_13 : decode cX6_district 13 = .ok (.iaload, 1) := by decide +kernel
theorem dX6_district_14 : decode cX6_district 14 = .ok (.ireturn, 1) := by decide +kernel
theorem dX6_namesOf_0 : decode cX6_namesOf 0 = .ok (.aload_n 0, 1) := by decide +kernel
theorem dX6_namesOf_1 : decode cX6_namesOf 1 = .ok (.getfield 7, 3) := by decide +kernel
theorem dX6_namesOf_4 : decode cX6_namesOf 4 = .ok (.bipush 120, 2) := by decide +kernel
theorem dX6_namesOf_6 : decode cX6_namesOf 6 = .ok (.bipush 6, 2) := by decide +kernel
theorem dX6_namesOf_8 : decode cX6_namesOf 8 = .ok (.iload_n 1, 1) := by decide +kernel
theorem dX6_namesOf_9 : decode cX6_namesOf 9 = .ok (.imul, 1) := by decide +kernel
theorem dX6_namesOf_10 : decode cX6_namesOf 10 = .ok (.iadd, 1) := by decide +kernel
theorem dX6_namesOf_11 : decode cX6_namesOf 11 = .ok (.iload_n 2, 1) := by decide +kernel
theorem dX6_namesOf_12 : decode cX6_namesOf 12 = .ok (.iadd, 1) := by decide +kernel
theorem dX6_namesOf_13 : decode cX6_namesOf 13 = .ok (.iaload, 1) := by decide +kernel
theorem dX6_namesOf_14 : decode cX6_namesOf 14 = .ok (.ireturn, 1) := by decide +kernel
theorem dX6_isOn_0 : decode cX6_isOn 0 = .ok (.aload_n 0, 1) := by decide +kernel
theorem dX6_isOn_1 : decode cX6_isOn 1 = .ok (.getfield 7, 3) := by decide +kernel
theorem dX6_isOn_4 : decode cX6_isOn 4 = .ok (.sipush 144, 3) := by decide +kernel
theorem dX6_isOn_7 : decode cX6_isOn 7 = .ok (.iaload, 1) := by decide +kernel
theorem dX6_isOn_8 : decode cX6_isOn 8 = .ok (.iload_n 1, 1) := by decide +kernel
theorem dX6_isOn_9 : decode cX6_isOn 9 = .ok (.ishr, 1) := by decide +kernel
theorem dX6_isOn_10 : decode cX6_isOn 10 = .ok (.iconst 1, 1) := by decide +kernel
theorem dX6_isOn_11 : decode cX6_isOn 11 = .ok (.iand, 1) := by decide +kernel
theorem dX6_isOn_12 : decode cX6_isOn 12 = .ok (.iconst 1, 1) := by decide +kernel
theorem dX6_isOn_13 : decode cX6_isOn 13 = .ok (.if_icmp .ne 7, 3) := by decide +kernel
theorem dX6_isOn_16 : decode cX6_isOn 16 = .ok (.iconst 1, 1) := by decide +kernel
theorem dX6_isOn_17 : decode cX6_isOn 17 = .ok (.goto 4, 3) := by decide +kernel
theorem dX6_isOn_20 : decode cX6_isOn 20 = .ok (.iconst 0, 1) := by decide +kernel
theorem dX6_isOn_21 : decode cX6_isOn 21 = .ok (.ireturn, 1) := by decide +kernel
theorem dX6_keeps_0 : decode cX6_keeps 0 = .ok (.aload_n 0, 1) := by decide +kernel
theorem dX6_keeps_1 : decode cX6_keeps 1 = .ok (.getfield 57, 3) := by decide +kernel
theorem dX6_keeps_4 : decode cX6_keeps 4 = .ok (.bipush 8, 2) := by decide +kernel
theorem dX6_keeps_6 : decode cX6_keeps 6 = .ok (.if_icmp .ne 44, 3) := by decide +kernel
theorem dX6_keeps_9 : decode cX6_keeps 9 = .ok (.iconst 0, 1) := by decide +kernel
theorem dX6_keeps_10 : decode cX6_keeps 10 = .ok (.istore_n 1, 1) := by decide +kernel
theorem dX6_keeps_11 : decode cX6_keeps 11 = .ok (.iload_n 1, 1) := by decide +kernel
theorem dX6_keeps_12 : decode cX6_keeps 12 = .ok (.sipush 1015, 3) := by decide +kernel
theorem dX6_keeps_15 : decode cX6_keeps 15 = .ok (.if_icmp .ge 25, 3) := by decide +kernel
theorem dX6_keeps_18 : decode cX6_keeps 18 = .ok (.aload_n 0, 1) := by decide +kernel
theorem dX6_keeps_19 : decode cX6_keeps 19 = .ok (.getfield 13, 3) := by decide +kernel
theorem dX6_keeps_22 : decode cX6_keeps 22 = .ok (.iload_n 1, 1) := by decide +kernel
theorem dX6_keeps_23 : decode cX6_keeps 23 = .ok (.aload_n 0, 1) := by decide +kernel
theorem dX6_keeps_24 : decode cX6_keeps 24 = .ok (.getfield 13, 3) := by decide +kernel
theorem dX6_keeps_27 : decode cX6_keeps 27 = .ok (.iload_n 1, 1) := by decide +kernel
theorem dX6_keeps_28 : decode cX6_keeps 28 = .ok (.sipush 145, 3) := by decide +kernel
theorem dX6_keeps_31 : decode cX6_keeps 31 = .ok (.iadd, 1) := by decide +kernel
theorem dX6_keeps_32 : decode cX6_keeps 32 = .ok (.iaload, 1) := by decide +kernel
theorem dX6_keeps_33 : decode cX6_keeps 33 = .ok (.iastore, 1) := by decide +kernel
theorem dX6_keeps_34 : decode cX6_keeps 34 = .ok (.iinc 1 1, 3) := by decide +kernel
theorem dX6_keeps_37 : decode cX6_keeps 37 = .ok (.goto (-26), 3) := by decide +kernel
theorem dX6_keeps_40 : decode cX6_keeps 40 = .ok (.aload_n 0, 1) := by decide +kernel
theorem dX6_keeps_41 : decode cX6_keeps 41 = .ok (.dup, 1) := by decide +kernel
theorem dX6_keeps_42 : decode cX6_keeps 42 = .ok (.getfield 57, 3) := by decide +kernel
theorem dX6_keeps_45 : decode cX6_keeps 45 = .ok (.iconst 1, 1) := by decide +kernel
theorem dX6_keeps_46 : decode cX6_keeps 46 = .ok (.isub, 1) := by decide +kernel
theorem dX6_keeps_47 : decode cX6_keeps 47 = .ok (.putfield 57, 3) := by decide +kernel
theorem dX6_keeps_50 : decode cX6_keeps 50 = .ok (.iconst 0, 1) := by decide +kernel
theorem dX6_keeps_51 : decode cX6_keeps 51 = .ok (.istore_n 1, 1) := by decide +kernel
theorem dX6_keeps_52 : decode cX6_keeps 52 = .ok (.iload_n 1, 1) := by decide +kernel
theorem dX6_keeps_53 : decode cX6_keeps 53 = .ok (.sipush 145, 3) := by decide +kernel
theorem dX6_keeps_56 : decode cX6_keeps 56 = .ok (.if_icmp .ge 30, 3) := by decide +kernel
theorem dX6_keeps_59 : decode cX6_keeps 59 = .ok (.aload_n 0, 1) := by decide +kernel
theorem dX6_keeps_60 : decode cX6_keeps 60 = .ok (.getfield 13, 3) := by decide +kernel
theorem dX6_keeps_63 : decode cX6_keeps 63 = .ok (.sipush 145, 3) := by decide +kernel
theorem dX6_keeps_66 : decode cX6_keeps 66 = .ok (.aload_n 0, 1) := by decide +kernel
theorem dX6_keeps_67 : decode cX6_keeps 67 = .ok (.getfield 57, 3) := by decide +kernel
theorem dX6_keeps_70 : decode cX6_keeps 70 = .ok (.imul, 1) := by decide +kernel
theorem dX6_keeps_71 : decode cX6_keeps 71 = .ok (.iload_n 1, 1) := by decide +kernel
theorem dX6_keeps_72 : decode cX6_keeps 72 = .ok (.iadd, 1) := by decide +kernel
theorem dX6_keeps_73 : decode cX6_keeps 73 = .ok (.aload_n 0, 1) := by decide +kernel
theorem dX6_keeps_74 : decode cX6_keeps 74 = .ok (.getfield 7, 3) := by decide +kernel
theorem dX6_keeps_77 : decode cX6_keeps 77 = .ok (.iload_n 1, 1) := by decide +kernel
theorem dX6_keeps_78 : decode cX6_keeps 78 = .ok (.iaload, 1) := by decide +kernel
theorem dX6_keeps_79 : decode cX6_keeps 79 = .ok (.iastore, 1) := by decide +kernel
theorem dX6_keeps_80 : decode cX6_keeps 80 = .ok (.iinc 1 1, 3) := by decide +kernel
theorem dX6_keeps_83 : decode cX6_keeps 83 = .ok (.goto (-31), 3) := by decide +kernel
theorem dX6_keeps_86 : decode cX6_keeps 86 = .ok (.aload_n 0, 1) := by decide +kernel
theorem dX6_keeps_87 : decode cX6_keeps 87 = .ok (.dup, 1) := by decide +kernel
theorem dX6_keeps_88 : decode cX6_keeps 88 = .ok (.getfield 57, 3) := by decide +kernel
theorem dX6_keeps_91 : decode cX6_keeps 91 = .ok (.iconst 1, 1) := by decide +kernel
theorem dX6_keeps_92 : decode cX6_keeps 92 = .ok (.iadd, 1) := by decide +kernel
theorem dX6_keeps_93 : decode cX6_keeps 93 = .ok (.putfield 57, 3) := by decide +kernel
theorem dX6_keeps_96 : decode cX6_keeps 96 = .ok (.return_, 1) := by decide +kernel
theorem dX6_turns_0 : decode cX6_turns 0 = .ok (.aload_n 0, 1) := by decide +kernel
theorem dX6_turns_1 : decode cX6_turns 1 = .ok (.iload_n 1, 1) := by decide +kernel
theorem dX6_turns_2 : decode cX6_turns 2 = .ok (.invokevirtual 61, 3) := by decide +kernel
theorem dX6_turns_5 : decode cX6_turns 5 = .ok (.ifCond .eq 7, 3) := by decide +kernel
theorem dX6_turns_8 : decode cX6_turns 8 = .ok (.iconst 1, 1) := by decide +kernel
theorem dX6_turns_9 : decode cX6_turns 9 = .ok (.goto 4, 3) := by decide +kernel
theorem dX6_turns_12 : decode cX6_turns 12 = .ok (.iconst 0, 1) := by decide +kernel
theorem dX6_turns_13 : decode cX6_turns 13 = .ok (.istore_n 3, 1) := by decide +kernel
theorem dX6_turns_14 : decode cX6_turns 14 = .ok (.aload_n 0, 1) := by decide +kernel
theorem dX6_turns_15 : decode cX6_turns 15 = .ok (.getfield 7, 3) := by decide +kernel
theorem dX6_turns_18 : decode cX6_turns 18 = .ok (.sipush 144, 3) := by decide +kernel
theorem dX6_turns_21 : decode cX6_turns 21 = .ok (.aload_n 0, 1) := by decide +kernel
theorem dX6_turns_22 : decode cX6_turns 22 = .ok (.getfield 7, 3) := by decide +kernel
theorem dX6_turns_25 : decode cX6_turns 25 = .ok (.sipush 144, 3) := by decide +kernel
theorem dX6_turns_28 : decode cX6_turns 28 = .ok (.iaload, 1) := by decide +kernel
theorem dX6_turns_29 : decode cX6_turns 29 = .ok (.iconst 1, 1) := by decide +kernel
theorem dX6_turns_30 : decode cX6_turns 30 = .ok (.iload_n 1, 1) := by decide +kernel
theorem dX6_turns_31 : decode cX6_turns 31 = .ok (.ishl, 1) := by decide +kernel
theorem dX6_turns_32 : decode cX6_turns 32 = .ok (.iconst (-1), 1) := by decide +kernel
theorem dX6_turns_33 : decode cX6_turns 33 = .ok (.ixor, 1) := by decide +kernel
theorem dX6_turns_34 : decode cX6_turns 34 = .ok (.iand, 1) := by decide +kernel
theorem dX6_turns_35 : decode cX6_turns 35 = .ok (.iload_n 2, 1) := by decide +kernel
theorem dX6_turns_36 : decode cX6_turns 36 = .ok (.iload_n 1, 1) := by decide +kernel
theorem dX6_turns_37 : decode cX6_turns 37 = .ok (.ishl, 1) := by decide +kernel
theorem dX6_turns_38 : decode cX6_turns 38 = .ok (.ior, 1) := by decide +kernel
theorem dX6_turns_39 : decode cX6_turns 39 = .ok (.iastore, 1) := by decide +kernel
theorem dX6_turns_40 : decode cX6_turns 40 = .ok (.iload_n 3, 1) := by decide +kernel
theorem dX6_turns_41 : decode cX6_turns 41 = .ok (.iload_n 2, 1) := by decide +kernel
theorem dX6_turns_42 : decode cX6_turns 42 = .ok (.if_icmp .ne 7, 3) := by decide +kernel
theorem dX6_turns_45 : decode cX6_turns 45 = .ok (.iconst 0, 1) := by decide +kernel
theorem dX6_turns_46 : decode cX6_turns 46 = .ok (.goto 4, 3) := by decide +kernel
theorem dX6_turns_49 : decode cX6_turns 49 = .ok (.iconst 1, 1) := by decide +kernel
theorem dX6_turns_50 : decode cX6_turns 50 = .ok (.ireturn, 1) := by decide +kernel
theorem dX6_on_0 : decode cX6_on 0 = .ok (.iload_n 1, 1) := by decide +kernel
theorem dX6_on_1 : decode cX6_on 1 = .ok (.invokestatic 65, 3) := by decide +kernel
theorem dX6_on_4 : decode cX6_on 4 = .ok (.ifCond .eq 12, 3) := by decide +kernel
theorem dX6_on_7 : decode cX6_on 7 = .ok (.iload_n 2, 1) := by decide +kernel
theorem dX6_on_8 : decode cX6_on 8 = .ok (.iconst 0, 1) := by decide +kernel
theorem dX6_on_9 : decode cX6_on 9 = .ok (.iconst 1, 1) := by decide +kernel
theorem dX6_on_10 : decode cX6_on 10 = .ok (.invokestatic 53, 3) := by decide +kernel
theorem dX6_on_13 : decode cX6_on 13 = .ok (.ifCond .ne 10, 3) := by decide +kernel
theorem dX6_on_16 : decode cX6_on 16 = .ok (.aload_n 0, 1) := by decide +kernel
theorem dX6_on_17 : decode cX6_on 17 = .ok (.bipush (-2), 2) := by decide +kernel
theorem dX6_on_19 : decode cX6_on 19 = .ok (.invokevirtual 68, 3) := by decide +kernel
theorem dX6_on_22 : decode cX6_on 22 = .ok (.ireturn, 1) := by decide +kernel
theorem dX6_on_23 : decode cX6_on 23 = .ok (.aload_n 0, 1) := by decide +kernel
theorem dX6_on_24 : decode cX6_on 24 = .ok (.invokevirtual 72, 3) := by decide +kernel
theorem dX6_on_27 : decode cX6_on 27 = .ok (.aload_n 0, 1) := by decide +kernel
theorem dX6_on_28 : decode cX6_on 28 = .ok (.iload_n 1, 1) := by decide +kernel
theorem dX6_on_29 : decode cX6_on 29 = .ok (.iload_n 2, 1) := by decide +kernel
theorem dX6_on_30 : decode cX6_on 30 = .ok (.invokevirtual 75, 3) := by decide +kernel
theorem dX6_on_33 : decode cX6_on 33 = .ok (.ireturn, 1) := by decide +kernel
theorem dX6_isRectangle_0 : decode cX6_isRectangle 0 = .ok (.iload_n 0, 1) := by decide +kernel
theorem dX6_isRectangle_1 : decode cX6_isRectangle 1 = .ok (.iconst 4, 1) := by decide +kernel
theorem dX6_isRectangle_2 : decode cX6_isRectangle 2 = .ok (.idiv, 1) := by decide +kernel
theorem dX6_isRectangle_3 : decode cX6_isRectangle 3 = .ok (.iload_n 1, 1) := by decide +kernel
theorem dX6_isRectangle_4 : decode cX6_isRectangle 4 = .ok (.iconst 4, 1) := by decide +kernel
theorem dX6_isRectangle_5 : decode cX6_isRectangle 5 = .ok (.idiv, 1) := by decide +kernel
theorem dX6_isRectangle_6 : decode cX6_isRectangle 6 = .ok (.if_icmp .gt 16, 3) := by decide +kernel
theorem dX6_isRectangle_9 : decode cX6_isRectangle 9 = .ok (.iload_n 0, 1) := by decide +kernel
theorem dX6_isRectangle_10 : decode cX6_isRectangle 10 = .ok (.iconst 4, 1) := by decide +kernel
theorem dX6_isRectangle_11 : decode cX6_isRectangle 11 = .ok (.irem, 1) := by decide +kernel
theorem dX6_isRectangle_12 : decode cX6_isRectangle 12 = .ok (.iload_n 1, 1) := by decide +kernel
theorem dX6_isRectangle_13 : decode cX6_isRectangle 13 = .ok (.iconst 4, 1) := by decide +kernel
theorem dX6_isRectangle_14 : decode cX6_isRectangle 14 = .ok (.irem, 1) := by decide +kernel
theorem dX6_isRectangle_15 : decode cX6_isRectangle 15 = .ok (.if_icmp .gt 7, 3) := by decide +kernel
theorem dX6_isRectangle_18 : decode cX6_isRectangle 18 = .ok (.iconst 1, 1) := by decide +kernel
theorem dX6_isRectangle_19 : decode cX6_isRectangle 19 = .ok (.goto 4, 3) := by decide +kernel
theorem dX6_isRectangle_22 : decode cX6_isRectangle 22 = .ok (.iconst 0, 1) := by decide +kernel
theorem dX6_isRectangle_23 : decode cX6_isRectangle 23 = .ok (.ireturn, 1) := by decide +kernel
theorem dX6_lays_0 : decode cX6_lays 0 = .ok (.iconst 0, 1) := by decide +kernel
theorem dX6_lays_1 : decode cX6_lays 1 = .ok (.istore 5, 2) := by decide +kernel
theorem dX6_lays_3 : decode cX6_lays 3 = .ok (.iconst 0, 1) := by decide +kernel
theorem dX6_lays_4 : decode cX6_lays 4 = .ok (.istore 6, 2) := by decide +kernel
theorem dX6_lays_6 : decode cX6_lays 6 = .ok (.iload 6, 2) := by decide +kernel
theorem dX6_lays_8 : decode cX6_lays 8 = .ok (.bipush 24, 2) := by decide +kernel
theorem dX6_lays_10 : decode cX6_lays 10 = .ok (.if_icmp .ge 80, 3) := by decide +kernel
theorem dX6_lays_13 : decode cX6_lays 13 = .ok (.iload 6, 2) := by decide +kernel
theorem dX6_lays_15 : decode cX6_lays 15 = .ok (.iconst 4, 1) := by decide +kernel
theorem dX6_lays_16 : decode cX6_lays 16 = .ok (.idiv, 1) := by decide +kernel
theorem dX6_lays_17 : decode cX6_lays 17 = .ok (.iload_n 3, 1) := by decide +kernel
theorem dX6_lays_18 : decode cX6_lays 18 = .ok (.iconst 4, 1) := by decide +kernel
theorem dX6_lays_19 : decode cX6_lays 19 = .ok (.idiv, 1) := by decide +kernel
theorem dX6_lays_20 : decode cX6_lays 20 = .ok (.iload 4, 2) := by decide +kernel
theorem dX6_lays_22 : decode cX6_lays 22 = .ok (.iconst 4, 1) := by decide +kernel
theorem dX6_lays_23 : decode cX6_lays 23 = .ok (.idiv, 1) := by decide +kernel
theorem dX6_lays_24 : decode cX6_lays 24 = .ok (.invokestatic 53, 3) := by decide +kernel
theorem dX6_lays_27 : decode cX6_lays 27 = .ok (.ifCond .eq 57, 3) := by decide +kernel
theorem dX6_lays_30 : decode cX6_lays 30 = .ok (.iload 6, 2) := by decide +kernel
theorem dX6_lays_32 : decode cX6_lays 32 = .ok (.iconst 4, 1) := by decide +kernel
theorem dX6_lays_33 : decode cX6_lays 33 = .ok (.irem, 1) := by decide +kernel
theorem dX6_lays_34 : decode cX6_lays 34 = .ok (.iload_n 3, 1) := by decide +kernel
theorem dX6_lays_35 : decode cX6_lays 35 = .ok (.iconst 4, 1) := by decide +kernel
theorem dX6_lays_36 : decode cX6_lays 36 = .ok (.irem, 1) := by decide +kernel
theorem dX6_lays_37 : decode cX6_lays 37 = .ok (.iload 4, 2) := by decide +kernel
theorem dX6_lays_39 : decode cX6_lays 39 = .ok (.iconst 4, 1) := by decide +kernel
theorem dX6_lays_40 : decode cX6_lays 40 = .ok (.irem, 1) := by decide +kernel
theorem dX6_lays_41 : decode cX6_lays 41 = .ok (.invokestatic 53, 3) := by decide +kernel
theorem dX6_lays_44 : decode cX6_lays 44 = .ok (.ifCond .eq 40, 3) := by decide +kernel
theorem dX6_lays_47 : decode cX6_lays 47 = .ok (.iload 5, 2) := by decide +kernel
theorem dX6_lays_49 : decode cX6_lays 49 = .ok (.aload_n 0, 1) := by decide +kernel
theorem dX6_lays_50 : decode cX6_lays 50 = .ok (.iload_n 1, 1) := by decide +kernel
theorem dX6_lays_51 : decode cX6_lays 51 = .ok (.iload 6, 2) := by decide +kernel
theorem dX6_lays_53 : decode cX6_lays 53 = .ok (.invokevirtual 79, 3) := by decide +kernel
theorem dX6_lays_56 : decode cX6_lays 56 = .ok (.iload_n 2, 1) := by decide +kernel
theorem dX6_lays_57 : decode cX6_lays 57 = .ok (.if_icmp .ne 7, 3) := by decide +kernel
theorem dX6_lays_60 : decode cX6_lays 60 = .ok (.iconst 0, 1) := by decide +kernel
theorem dX6_lays_61 : decode cX6_lays 61 = .ok (.goto 4, 3) := by decide +kernel
theorem dX6_lays_64 : decode cX6_lays 64 = .ok (.iconst 1, 1) := by decide +kernel
theorem dX6_lays_65 : decode cX6_lays 65 = .ok (.iadd, 1) := by decide +kernel
theorem dX6_lays_66 : decode cX6_lays 66 = .ok (.istore 5, 2) := by decide +kernel
theorem dX6_lays_68 : decode cX6_lays 68 = .ok (.aload_n 0, 1) := by decide +kernel
theorem dX6_lays_69 : decode cX6_lays 69 = .ok (.getfield 7, 3) := by decide +kernel
theorem dX6_lays_72 : decode cX6_lays 72 = .ok (.bipush 24, 2) := by decide +kernel
theorem dX6_lays_74 : decode cX6_lays 74 = .ok (.bipush 24, 2) := by decide +kernel
theorem dX6_lays_76 : decode cX6_lays 76 = .ok (.iload_n 1, 1) := by decide +kernel
theorem dX6_lays_77 : decode cX6_lays 77 = .ok (.imul, 1) := by decide +kernel
theorem dX6_lays_78 : decode cX6_lays 78 = .ok (.iadd, 1) := by decide +kernel
theorem dX6_lays_79 : decode cX6_lays 79 = .ok (.iload 6, 2) := by decide +kernel
theorem dX6_lays_81 : decode cX6_lays 81 = .ok (.iadd, 1) := by decide +kernel
theorem dX6_lays_82 : decode cX6_lays 82 = .ok (.iload_n 2, 1) := by decide +kernel
theorem dX6_lays_83 : decode cX6_lays 83 = .ok (.iastore, 1) := by decide +kernel
theorem dX6_lays_84 : decode cX6_lays 84 = .ok (.iinc 6 1, 3) := by decide +kernel
theorem dX6_lays_87 : decode cX6_lays 87 = .ok (.goto (-81), 3) := by decide +kernel
theorem dX6_lays_90 : decode cX6_lays 90 = .ok (.iload 5, 2) := by decide +kernel
theorem dX6_lays_92 : decode cX6_lays 92 = .ok (.ireturn, 1) := by decide +kernel
theorem dX6_puts_0 : decode cX6_puts 0 = .ok (.iload_n 1, 1) := by decide +kernel
theorem dX6_puts_1 : decode cX6_puts 1 = .ok (.invokestatic 65, 3) := by decide +kernel
theorem dX6_puts_4 : decode cX6_puts 4 = .ok (.ifCond .eq 34, 3) := by decide +kernel
theorem dX6_puts_7 : decode cX6_puts 7 = .ok (.iload_n 2, 1) := by decide +kernel
theorem dX6_puts_8 : decode cX6_puts 8 = .ok (.invokestatic 82, 3) := by decide +kernel
theorem dX6_puts_11 : decode cX6_puts 11 = .ok (.ifCond .eq 27, 3) := by decide +kernel
theorem dX6_puts_14 : decode cX6_puts 14 = .ok (.iload_n 3, 1) := by decide +kernel
theorem dX6_puts_15 : decode cX6_puts 15 = .ok (.invokestatic 85, 3) := by decide +kernel
theorem dX6_puts_18 : decode cX6_puts 18 = .ok (.ifCond .eq 20, 3) := by decide +kernel
theorem dX6_puts_21 : decode cX6_puts 21 = .ok (.iload 4, 2) := by decide +kernel
theorem dX6_puts_23 : decode cX6_puts 23 = .ok (.invokestatic 85, 3) := by decide +kernel
theorem dX6_puts_26 : decode cX6_puts 26 = .ok (.ifCond .eq 12, 3) := by decide +kernel
theorem dX6_puts_29 : decode cX6_puts 29 = .ok (.iload_n 3, 1) := by decide +kernel
theorem dX6_puts_30 : decode cX6_puts 30 = .ok (.iload 4, 2) := by decide +kernel
theorem dX6_puts_32 : decode cX6_puts 32 = .ok (.invokestatic 88, 3) := by decide +kernel
theorem dX6_puts_35 : decode cX6_puts 35 = .ok (.ifCond .ne 10, 3) := by decide +kernel
theorem dX6_puts_38 : decode cX6_puts 38 = .ok (.aload_n 0, 1) := by decide +kernel
theorem dX6_puts_39 : decode cX6_puts 39 = .ok (.bipush (-2), 2) := by decide +kernel
theorem dX6_puts_41 : decode cX6_puts 41 = .ok (.invokevirtual 68, 3) := by decide +kernel
theorem dX6_puts_44 : decode cX6_puts 44 = .ok (.ireturn, 1) := by decide +kernel
theorem dX6_puts_45 : decode cX6_puts 45 = .ok (.aload_n 0, 1) := by decide +kernel
theorem dX6_puts_46 : decode cX6_puts 46 = .ok (.invokevirtual 72, 3) := by decide +kernel
theorem dX6_puts_49 : decode cX6_puts 49 = .ok (.aload_n 0, 1) := by decide +kernel
theorem dX6_puts_50 : decode cX6_puts 50 = .ok (.iload_n 1, 1) := by decide +kernel
theorem dX6_puts_51 : decode cX6_puts 51 = .ok (.iload_n 2, 1) := by decide +kernel
theorem dX6_puts_52 : decode cX6_puts 52 = .ok (.iload_n 3, 1) := by decide +kernel
theorem dX6_puts_53 : decode cX6_puts 53 = .ok (.iload 4, 2) := by decide +kernel
theorem dX6_puts_55 : decode cX6_puts 55 = .ok (.invokevirtual 92, 3) := by decide +kernel
theorem dX6_puts_58 : decode cX6_puts 58 = .ok (.ireturn, 1) := by decide +kernel
theorem dX6_becomes_0 : decode cX6_becomes 0 = .ok (.aload_n 0, 1) := by decide +kernel
theorem dX6_becomes_1 : decode cX6_becomes 1 = .ok (.getfield 7, 3) := by decide +kernel
theorem dX6_becomes_4 : decode cX6_becomes 4 = .ok (.iload_n 1, 1) := by decide +kernel
theorem dX6_becomes_5 : decode cX6_becomes 5 = .ok (.iaload, 1) := by decide +kernel
theorem dX6_becomes_6 : decode cX6_becomes 6 = .ok (.istore_n 3, 1) := by decide +kernel
theorem dX6_becomes_7 : decode cX6_becomes 7 = .ok (.aload_n 0, 1) := by decide +kernel
theorem dX6_becomes_8 : decode cX6_becomes 8 = .ok (.getfield 7, 3) := by decide +kernel
theorem dX6_becomes_11 : decode cX6_becomes 11 = .ok (.iload_n 1, 1) := by decide +kernel
theorem dX6_becomes_12 : decode cX6_becomes 12 = .ok (.iload_n 2, 1) := by decide +kernel
theorem dX6_becomes_13 : decode cX6_becomes 13 = .ok (.iastore, 1) := by decide +kernel
theorem dX6_becomes_14 : decode cX6_becomes 14 = .ok (.iload_n 3, 1) := by decide +kernel
theorem dX6_becomes_15 : decode cX6_becomes 15 = .ok (.ireturn, 1) := by decide +kernel
theorem dX6_names_0 : decode cX6_names 0 = .ok (.iload_n 1, 1) := by decide +kernel
theorem dX6_names_1 : decode cX6_names 1 = .ok (.invokestatic 65, 3) := by decide +kernel
theorem dX6_names_4 : decode cX6_names 4 = .ok (.ifCond .eq 20, 3) := by decide +kernel
theorem dX6_names_7 : decode cX6_names 7 = .ok (.iload_n 2, 1) := by decide +kernel
theorem dX6_names_8 : decode cX6_names 8 = .ok (.invokestatic 82, 3) := by decide +kernel
theorem dX6_names_11 : decode cX6_names 11 = .ok (.ifCond .eq 13, 3) := by decide +kernel
theorem dX6_names_14 : decode cX6_names 14 = .ok (.iload_n 3, 1) := by decide +kernel
theorem dX6_names_15 : decode cX6_names 15 = .ok (.iconst 1, 1) := by decide +kernel
theorem dX6_names_16 : decode cX6_names 16 = .ok (.bipush 8, 2) := by decide +kernel
theorem dX6_names_18 : decode cX6_names 18 = .ok (.invokestatic 53, 3) := by decide +kernel
theorem dX6_names_21 : decode cX6_names 21 = .ok (.ifCond .ne 10, 3) := by decide +kernel
theorem dX6_names_24 : decode cX6_names 24 = .ok (.aload_n 0, 1) := by decide +kernel
theorem dX6_names_25 : decode cX6_names 25 = .ok (.bipush (-2), 2) := by decide +kernel
theorem dX6_names_27 : decode cX6_names 27 = .ok (.invokevirtual 68, 3) := by decide +kernel
theorem dX6_names_30 : decode cX6_names 30 = .ok (.ireturn, 1) := by decide +kernel
theorem dX6_names_31 : decode cX6_names 31 = .ok (.aload_n 0, 1) := by decide +kernel
theorem dX6_names_32 : decode cX6_names 32 = .ok (.invokevirtual 72, 3) := by decide +kernel
theorem dX6_names_35 : decode cX6_names 35 = .ok (.aload_n 0, 1) := by decide +kernel
theorem dX6_names_36 : decode cX6_names 36 = .ok (.bipush 120, 2) := by decide +kernel
theorem dX6_names_38 : decode cX6_names 38 = .ok (.bipush 6, 2) := by decide +kernel
theorem dX6_names_40 : decode cX6_names 40 = .ok (.iload_n 1, 1) := by decide +kernel
theorem dX6_names_41 : decode cX6_names 41 = .ok (.imul, 1) := by decide +kernel
theorem dX6_names_42 : decode cX6_names 42 = .ok (.iadd, 1) := by decide +kernel
theorem dX6_names_43 : decode cX6_names 43 = .ok (.iload_n 2, 1) := by decide +kernel
theorem dX6_names_44 : decode cX6_names 44 = .ok (.iadd, 1) := by decide +kernel
theorem dX6_names_45 : decode cX6_names 45 = .ok (.iload_n 3, 1) := by decide +kernel
theorem dX6_names_46 : decode cX6_names 46 = .ok (.invokevirtual 96, 3) := by decide +kernel
theorem dX6_names_49 : decode cX6_names 49 = .ok (.ireturn, 1) := by decide +kernel
theorem dX6_voters_0 : decode cX6_voters 0 = .ok (.iload_n 1, 1) := by decide +kernel
theorem dX6_voters_1 : decode cX6_voters 1 = .ok (.invokestatic 85, 3) := by decide +kernel
theorem dX6_voters_4 : decode cX6_voters 4 = .ok (.ifCond .eq 13, 3) := by decide +kernel
theorem dX6_voters_7 : decode cX6_voters 7 = .ok (.iload_n 2, 1) := by decide +kernel
theorem dX6_voters_8 : decode cX6_voters 8 = .ok (.iconst 0, 1) := by decide +kernel
theorem dX6_voters_9 : decode cX6_voters 9 = .ok (.bipush 99, 2) := by decide +kernel
theorem dX6_voters_11 : decode cX6_voters 11 = .ok (.invokestatic 53, 3) := by decide +kernel
theorem dX6_voters_14 : decode cX6_voters 14 = .ok (.ifCond .ne 10, 3) := by decide +kernel
theorem dX6_voters_17 : decode cX6_voters 17 = .ok (.aload_n 0, 1) := by decide +kernel
theorem dX6_voters_18 : decode cX6_voters 18 = .ok (.bipush (-2), 2) := by decide +kernel
theorem dX6_voters_20 : decode cX6_voters 20 = .ok (.invokevirtual 68, 3) := by decide +kernel
theorem dX6_voters_23 : decode cX6_voters 23 = .ok (.ireturn, 1) := by decide +kernel
theorem dX6_voters_24 : decode cX6_voters 24 = .ok (.aload_n 0, 1) := by decide +kernel
theorem dX6_voters_25 : decode cX6_voters 25 = .ok (.invokevirtual 72, 3) := by decide +kernel
theorem dX6_voters_28 : decode cX6_voters 28 = .ok (.aload_n 0, 1) := by decide +kernel
theorem dX6_voters_29 : decode cX6_voters 29 = .ok (.iload_n 1, 1) := by decide +kernel
theorem dX6_voters_30 : decode cX6_voters 30 = .ok (.iload_n 2, 1) := by decide +kernel
theorem dX6_voters_31 : decode cX6_voters 31 = .ok (.invokevirtual 96, 3) := by decide +kernel
theorem dX6_voters_34 : decode cX6_voters 34 = .ok (.ireturn, 1) := by decide +kernel
theorem dX6_draw_0 : decode cX6_draw 0 = .ok (.iload_n 1, 1) := by decide +kernel
theorem dX6_draw_1 : decode cX6_draw 1 = .ok (.invokestatic 65, 3) := by decide +kernel
theorem dX6_draw_4 : decode cX6_draw 4 = .ok (.ifCond .eq 23, 3) := by decide +kernel
theorem dX6_draw_7 : decode cX6_draw 7 = .ok (.iload_n 2, 1) := by decide +kernel
theorem dX6_draw_8 : decode cX6_draw 8 = .ok (.iconst 0, 1) := by decide +kernel
theorem dX6_draw_9 : decode cX6_draw 9 = .ok (.ldc 99, 2) := by decide +kernel
theorem dX6_draw_11 : decode cX6_draw 11 = .ok (.invokestatic 53, 3) := by decide +kernel
theorem dX6_draw_14 : decode cX6_draw 14 = .ok (.ifCond .eq 13, 3) := by decide +kernel
theorem dX6_draw_17 : decode cX6_draw 17 = .ok (.iload_n 3, 1) := by decide +kernel
theorem dX6_draw_18 : decode cX6_draw 18 = .ok (.iconst 1, 1) := by decide +kernel
theorem dX6_draw_19 : decode cX6_draw 19 = .ok (.bipush 6, 2) := by decide +kernel
theorem dX6_draw_21 : decode cX6_draw 21 = .ok (.invokestatic 53, 3) := by decide +kernel
theorem dX6_draw_24 : decode cX6_draw 24 = .ok (.ifCond .ne 10, 3) := by decide +kernel
theorem dX6_draw_27 : decode cX6_draw 27 = .ok (.aload_n 0, 1) := by decide +kernel
theorem dX6_draw_28 : decode cX6_draw 28 = .ok (.bipush (-2), 2) := by decide +kernel
theorem dX6_draw_30 : decode cX6_draw 30 = .ok (.invokevirtual 68, 3) := by decide +kernel
theorem dX6_draw_33 : decode cX6_draw 33 = .ok (.ireturn, 1) := by decide +kernel
theorem dX6_draw_34 : decode cX6_draw 34 = .ok (.aload_n 0, 1) := by decide +kernel
theorem dX6_draw_35 : decode cX6_draw 35 = .ok (.invokevirtual 72, 3) := by decide +kernel
theorem dX6_draw_38 : decode cX6_draw 38 = .ok (.iconst 0, 1) := by decide +kernel
theorem dX6_draw_39 : decode cX6_draw 39 = .ok (.istore 4, 2) := by decide +kernel
theorem dX6_draw_41 : decode cX6_draw 41 = .ok (.iload_n 2, 1) := by decide +kernel
theorem dX6_draw_42 : decode cX6_draw 42 = .ok (.i2l, 1) := by decide +kernel
theorem dX6_draw_43 : decode cX6_draw 43 = .ok (.lstore 5, 2) := by decide +kernel
theorem dX6_draw_45 : decode cX6_draw 45 = .ok (.iconst 0, 1) := by decide +kernel
theorem dX6_draw_46 : decode cX6_draw 46 = .ok (.istore 7, 2) := by decide +kernel
theorem dX6_draw_48 : decode cX6_draw 48 = .ok (.iload 7, 2) := by decide +kernel
theorem dX6_draw_50 : decode cX6_draw 50 = .ok (.bipush 24, 2) := by decide +kernel
theorem dX6_draw_52 : decode cX6_draw 52 = .ok (.if_icmp .ge 80, 3) := by decide +kernel
theorem dX6_draw_55 : decode cX6_draw 55 = .ok (.lload 5, 2) := by decide +kernel
theorem dX6_draw_57 : decode cX6_draw 57 = .ok (.ldc2_w 100, 3) := by decide +kernel
theorem dX6_draw_60 : decode cX6_draw 60 = .ok (.lmul, 1) := by decide +kernel
theorem dX6_draw_61 : decode cX6_draw 61 = .ok (.ldc2_w 102, 3) := by decide +kernel
theorem dX6_draw_64 : decode cX6_draw 64 = .ok (.ladd, 1) := by decide +kernel
theorem dX6_draw_65 : decode cX6_draw 65 = .ok (.ldc2_w 104, 3) := by decide +kernel
theorem dX6_draw_68 : decode cX6_draw 68 = .ok (.lrem, 1) := by decide +kernel
theorem dX6_draw_69 : decode cX6_draw 69 = .ok (.lstore 5, 2) := by decide +kernel
theorem dX6_draw_71 : decode cX6_draw 71 = .ok (.aload_n 0, 1) := by decide +kernel
theorem dX6_draw_72 : decode cX6_draw 72 = .ok (.getfield 7, 3) := by decide +kernel
theorem dX6_draw_75 : decode cX6_draw 75 = .ok (.bipush 24, 2) := by decide +kernel
theorem dX6_draw_77 : decode cX6_draw 77 = .ok (.bipush 24, 2) := by decide +kernel
theorem dX6_draw_79 : decode cX6_draw 79 = .ok (.iload_n 1, 1) := by decide +kernel
theorem dX6_draw_80 : decode cX6_draw 80 = .ok (.imul, 1) := by decide +kernel
theorem dX6_draw_81 : decode cX6_draw 81 = .ok (.iadd, 1) := by decide +kernel
theorem dX6_draw_82 : decode cX6_draw 82 = .ok (.iload 7, 2) := by decide +kernel
theorem dX6_draw_84 : decode cX6_draw 84 = .ok (.iadd, 1) := by decide +kernel
theorem dX6_draw_85 : decode cX6_draw 85 = .ok (.lload 5, 2) := by decide +kernel
theorem dX6_draw_87 : decode cX6_draw 87 = .ok (.ldc2_w 106, 3) := by decide +kernel
theorem dX6_draw_90 : decode cX6_draw 90 = .ok (.ldiv, 1) := by decide +kernel
theorem dX6_draw_91 : decode cX6_draw 91 = .ok (.iload_n 3, 1) := by decide +kernel
theorem dX6_draw_92 : decode cX6_draw 92 = .ok (.i2l, 1) := by decide +kernel
theorem dX6_draw_93 : decode cX6_draw 93 = .ok (.lrem, 1) := by decide +kernel
theorem dX6_draw_94 : decode cX6_draw 94 = .ok (.l2i, 1) := by decide +kernel
theorem dX6_draw_95 : decode cX6_draw 95 = .ok (.iastore, 1) := by decide +kernel
theorem dX6_draw_96 : decode cX6_draw 96 = .ok (.aload_n 0, 1) := by decide +kernel
theorem dX6_draw_97 : decode cX6_draw 97 = .ok (.getfield 7, 3) := by decide +kernel
theorem dX6_draw_100 : decode cX6_draw 100 = .ok (.iload 7, 2) := by decide +kernel
theorem dX6_draw_102 : decode cX6_draw 102 = .ok (.lload 5, 2) := by decide +kernel
theorem dX6_draw_104 : decode cX6_draw 104 = .ok (.ldc2_w 108, 3) := by decide +kernel
theorem dX6_draw_107 : decode cX6_draw 107 = .ok (.ldiv, 1) := by decide +kernel
theorem dX6_draw_108 : decode cX6_draw 108 = .ok (.ldc2_w 110, 3) := by decide +kernel
theorem dX6_draw_111 : decode cX6_draw 111 = .ok (.lrem, 1) := by decide +kernel
theorem dX6_draw_112 : decode cX6_draw 112 = .ok (.l2i, 1) := by decide +kernel
theorem dX6_draw_113 : decode cX6_draw 113 = .ok (.iastore, 1) := by decide +kernel
theorem dX6_draw_114 : decode cX6_draw 114 = .ok (.iload 4, 2) := by decide +kernel
theorem dX6_draw_116 : decode cX6_draw 116 = .ok (.aload_n 0, 1) := by decide +kernel
theorem dX6_draw_117 : decode cX6_draw 117 = .ok (.getfield 7, 3) := by decide +kernel
theorem dX6_draw_120 : decode cX6_draw 120 = .ok (.iload 7, 2) := by decide +kernel
theorem dX6_draw_122 : decode cX6_draw 122 = .ok (.iaload, 1) := by decide +kernel
theorem dX6_draw_123 : decode cX6_draw 123 = .ok (.iadd, 1) := by decide +kernel
theorem dX6_draw_124 : decode cX6_draw 124 = .ok (.istore 4, 2) := by decide +kernel
theorem dX6_draw_126 : decode cX6_draw 126 = .ok (.iinc 7 1, 3) := by decide +kernel
theorem dX6_draw_129 : decode cX6_draw 129 = .ok (.goto (-81), 3) := by decide +kernel
theorem dX6_draw_132 : decode cX6_draw 132 = .ok (.iload 4, 2) := by decide +kernel
theorem dX6_draw_134 : decode cX6_draw 134 = .ok (.ireturn, 1) := by decide +kernel
theorem dX6_follows_0 : decode cX6_follows 0 = .ok (.iload_n 1, 1) := by decide +kernel
theorem dX6_follows_1 : decode cX6_follows 1 = .ok (.invokestatic 65, 3) := by decide +kernel
theorem dX6_follows_4 : decode cX6_follows 4 = .ok (.ifCond .eq 19, 3) := by decide +kernel
theorem dX6_follows_7 : decode cX6_follows 7 = .ok (.iload_n 2, 1) := by decide +kernel
theorem dX6_follows_8 : decode cX6_follows 8 = .ok (.iconst 0, 1) := by decide +kernel
theorem dX6_follows_9 : decode cX6_follows 9 = .ok (.iconst 3, 1) := by decide +kernel
theorem dX6_follows_10 : decode cX6_follows 10 = .ok (.invokestatic 53, 3) := by decide +kernel
theorem dX6_follows_13 : decode cX6_follows 13 = .ok (.ifCond .eq 10, 3) := by decide +kernel
theorem dX6_follows_16 : decode cX6_follows 16 = .ok (.iload_n 3, 1) := by decide +kernel
theorem dX6_follows_17 : decode cX6_follows 17 = .ok (.invokestatic 65, 3) := by decide +kernel
theorem dX6_follows_20 : decode cX6_follows 20 = .ok (.ifCond .ne 10, 3) := by decide +kernel
theorem dX6_follows_23 : decode cX6_follows 23 = .ok (.aload_n 0, 1) := by decide +kernel
theorem dX6_follows_24 : decode cX6_follows 24 = .ok (.bipush (-2), 2) := by decide +kernel
theorem dX6_follows_26 : decode cX6_follows 26 = .ok (.invokevirtual 68, 3) := by decide +kernel
theorem dX6_follows_29 : decode cX6_follows 29 = .ok (.ireturn, 1) := by decide +kernel
theorem dX6_follows_30 : decode cX6_follows 30 = .ok (.aload_n 0, 1) := by decide +kernel
theorem dX6_follows_31 : decode cX6_follows 31 = .ok (.invokevirtual 72, 3) := by decide +kernel
theorem dX6_follows_34 : decode cX6_follows 34 = .ok (.iconst 0, 1) := by decide +kernel
theorem dX6_follows_35 : decode cX6_follows 35 = .ok (.istore 4, 2) := by decide +kernel
theorem dX6_follows_37 : decode cX6_follows 37 = .ok (.iload 4, 2) := by decide +kernel
theorem dX6_follows_39 : decode cX6_follows 39 = .ok (.bipush 24, 2) := by decide +kernel
theorem dX6_follows_41 : decode cX6_follows 41 = .ok (.if_icmp .ge 110, 3) := by decide +kernel
theorem dX6_follows_44 : decode cX6_follows 44 = .ok (.aload_n 0, 1) := by decide +kernel
theorem dX6_follows_45 : decode cX6_follows 45 = .ok (.iload_n 1, 1) := by decide +kernel
theorem dX6_follows_46 : decode cX6_follows 46 = .ok (.iload 4, 2) := by decide +kernel
theorem dX6_follows_48 : decode cX6_follows 48 = .ok (.invokevirtual 79, 3) := by decide +kernel
theorem dX6_follows_51 : decode cX6_follows 51 = .ok (.istore 5, 2) := by decide +kernel
theorem dX6_follows_53 : decode cX6_follows 53 = .ok (.aload_n 0, 1) := by decide +kernel
theorem dX6_follows_54 : decode cX6_follows 54 = .ok (.iload_n 3, 1) := by decide +kernel
theorem dX6_follows_55 : decode cX6_follows 55 = .ok (.iload 4, 2) := by decide +kernel
theorem dX6_follows_57 : decode cX6_follows 57 = .ok (.invokevirtual 79, 3) := by decide +kernel
theorem dX6_follows_60 : decode cX6_follows 60 = .ok (.istore 6, 2) := by decide +kernel
theorem dX6_follows_62 : decode cX6_follows 62 = .ok (.aload_n 0, 1) := by decide +kernel
theorem dX6_follows_63 : decode cX6_follows 63 = .ok (.getfield 41, 3) := by decide +kernel
theorem dX6_follows_66 : decode cX6_follows 66 = .ok (.iload 4, 2) := by decide +kernel
theorem dX6_follows_68 : decode cX6_follows 68 = .ok (.iload_n 2, 1) := by decide +kernel
theorem dX6_follows_69 : decode cX6_follows 69 = .ok (.ifCond .ne 8, 3) := by decide +kernel
theorem dX6_follows_72 : decode cX6_follows 72 = .ok (.iload 6, 2) := by decide +kernel
theorem dX6_follows_74 : decode cX6_follows 74 = .ok (.goto 70, 3) := by decide +kernel
theorem dX6_follows_77 : decode cX6_follows 77 = .ok (.iload_n 2, 1) := by decide +kernel
theorem dX6_follows_78 : decode cX6_follows 78 = .ok (.iconst 1, 1) := by decide +kernel
theorem dX6_follows_79 : decode cX6_follows 79 = .ok (.if_icmp .ne 24, 3) := by decide +kernel
theorem dX6_follows_82 : decode cX6_follows 82 = .ok (.aload_n 0, 1) := by decide +kernel
theorem dX6_follows_83 : decode cX6_follows 83 = .ok (.iload_n 1, 1) := by decide +kernel
theorem dX6_follows_84 : decode cX6_follows 84 = .ok (.iload 4, 2) := by decide +kernel
theorem dX6_follows_86 : decode cX6_follows 86 = .ok (.iconst 4, 1) := by decide +kernel
theorem dX6_follows_87 : decode cX6_follows 87 = .ok (.idiv, 1) := by decide +kernel
theorem dX6_follows_88 : decode cX6_follows 88 = .ok (.iconst 4, 1) := by decide +kernel
theorem dX6_follows_89 : decode cX6_follows 89 = .ok (.imul, 1) := by decide +kernel
theorem dX6_follows_90 : decode cX6_follows 90 = .ok (.iconst 3, 1) := by decide +kernel
theorem dX6_follows_91 : decode cX6_follows 91 = .ok (.iadd, 1) := by decide +kernel
theorem dX6_follows_92 : decode cX6_follows 92 = .ok (.iload 4, 2) := by decide +kernel
theorem dX6_follows_94 : decode cX6_follows 94 = .ok (.iconst 4, 1) := by decide +kernel
theorem dX6_follows_95 : decode cX6_follows 95 = .ok (.irem, 1) := by decide +kernel
theorem dX6_follows_96 : decode cX6_follows 96 = .ok (.isub, 1) := by decide +kernel
theorem dX6_follows_97 : decode cX6_follows 97 = .ok (.invokevirtual 79, 3) := by decide +kernel
theorem dX6_follows_100 : decode cX6_follows 100 = .ok (.goto 44, 3) := by decide +kernel
theorem dX6_follows_103 : decode cX6_follows 103 = .ok (.iload_n 2, 1) := by decide +kernel
theorem dX6_follows_104 : decode cX6_follows 104 = .ok (.iconst 2, 1) := by decide +kernel
theorem dX6_follows_105 : decode cX6_follows 105 = .ok (.if_icmp .ne 25, 3) := by decide +kernel
theorem dX6_follows_108 : decode cX6_follows 108 = .ok (.aload_n 0, 1) := by decide +kernel
theorem dX6_follows_109 : decode cX6_follows 109 = .ok (.iload_n 1, 1) := by decide +kernel
theorem dX6_follows_110 : decode cX6_follows 110 = .ok (.bipush 20, 2) := by decide +kernel
theorem dX6_follows_112 : decode cX6_follows 112 = .ok (.iload 4, 2) := by decide +kernel
theorem dX6_follows_114 : decode cX6_follows 114 = .ok (.iconst 4, 1) := by decide +kernel
theorem dX6_follows_115 : decode cX6_follows 115 = .ok (.idiv, 1) := by decide +kernel
theorem dX6_follows_116 : decode cX6_follows 116 = .ok (.iconst 4, 1) := by decide +kernel
theorem dX6_follows_117 : decode cX6_follows 117 = .ok (.imul, 1) := by decide +kernel
theorem dX6_follows_118 : decode cX6_follows 118 = .ok (.isub, 1) := by decide +kernel
theorem dX6_follows_119 : decode cX6_follows 119 = .ok (.iload 4, 2) := by decide +kernel
theorem dX6_follows_121 : decode cX6_follows 121 = .ok (.iconst 4, 1) := by decide +kernel
theorem dX6_follows_122 : decode cX6_follows 122 = .ok (.irem, 1) := by decide +kernel
theorem dX6_follows_123 : decode cX6_follows 123 = .ok (.iadd, 1) := by decide +kernel
theorem dX6_follows_124 : decode cX6_follows 124 = .ok (.invokevirtual 79, 3) := by decide +kernel
theorem dX6_follows_127 : decode cX6_follows 127 = .ok (.goto 17, 3) := by decide +kernel
theorem dX6_follows_130 : decode cX6_follows 130 = .ok (.iload 5, 2) := by decide +kernel
theorem dX6_follows_132 : decode cX6_follows 132 = .ok (.iload 6, 2) := by decide +kernel
theorem dX6_follows_134 : decode cX6_follows 134 = .ok (.if_icmp .le 8, 3) := by decide +kernel
theorem dX6_follows_137 : decode cX6_follows 137 = .ok (.iload 5, 2) := by decide +kernel
theorem dX6_follows_139 : decode cX6_follows 139 = .ok (.goto 5, 3) := by decide +kernel
theorem dX6_follows_142 : decode cX6_follows 142 = .ok (.iload 6, 2) := by decide +kernel
theorem dX6_follows_144 : decode cX6_follows 144 = .ok (.iastore, 1) := by decide +kernel
theorem dX6_follows_145 : decode cX6_follows 145 = .ok (.iinc 4 1, 3) := by decide +kernel
theorem dX6_follows_148 : decode cX6_follows 148 = .ok (.goto (-111), 3) := by decide +kernel
theorem dX6_follows_151 : decode cX6_follows 151 = .ok (.iconst 0, 1) := by decide +kernel
theorem dX6_follows_152 : decode cX6_follows 152 = .ok (.istore 4, 2) := by decide +kernel
theorem dX6_follows_154 : decode cX6_follows 154 = .ok (.iconst 0, 1) := by decide +kernel
theorem dX6_follows_155 : decode cX6_follows 155 = .ok (.istore 5, 2) := by decide +kernel
theorem dX6_follows_157 : decode cX6_follows 157 = .ok (.iload 5, 2) := by decide +kernel
theorem dX6_follows_159 : decode cX6_follows 159 = .ok (.bipush 24, 2) := by decide +kernel
theorem dX6_follows_161 : decode cX6_follows 161 = .ok (.if_icmp .ge 58, 3) := by decide +kernel
theorem dX6_follows_164 : decode cX6_follows 164 = .ok (.iload 4, 2) := by decide +kernel
theorem dX6_follows_166 : decode cX6_follows 166 = .ok (.aload_n 0, 1) := by decide +kernel
theorem dX6_follows_167 : decode cX6_follows 167 = .ok (.iload_n 1, 1) := by decide +kernel
theorem dX6_follows_168 : decode cX6_follows 168 = .ok (.iload 5, 2) := by decide +kernel
theorem dX6_follows_170 : decode cX6_follows 170 = .ok (.invokevirtual 79, 3) := by decide +kernel
theorem dX6_follows_173 : decode cX6_follows 173 = .ok (.aload_n 0, 1) := by decide +kernel
theorem dX6_follows_174 : decode cX6_follows 174 = .ok (.getfield 41, 3) := by decide +kernel
theorem dX6_follows_177 : decode cX6_follows 177 = .ok (.iload 5, 2) := by decide +kernel
theorem dX6_follows_179 : decode cX6_follows 179 = .ok (.iaload, 1) := by decide +kernel
theorem dX6_follows_180 : decode cX6_follows 180 = .ok (.if_icmp .ne 7, 3) := by decide +kernel
theorem dX6_follows_183 : decode cX6_follows 183 = .ok (.iconst 0, 1) := by decide +kernel
theorem dX6_follows_184 : decode cX6_follows 184 = .ok (.goto 4, 3) := by decide +kernel
theorem dX6_follows_187 : decode cX6_follows 187 = .ok (.iconst 1, 1) := by decide +kernel
theorem dX6_follows_188 : decode cX6_follows 188 = .ok (.iadd, 1) := by decide +kernel
theorem dX6_follows_189 : decode cX6_follows 189 = .ok (.istore 4, 2) := by decide +kernel
theorem dX6_follows_191 : decode cX6_follows 191 = .ok (.aload_n 0, 1) := by decide +kernel
theorem dX6_follows_192 : decode cX6_follows 192 = .ok (.getfield 7, 3) := by decide +kernel
theorem dX6_follows_195 : decode cX6_follows 195 = .ok (.bipush 24, 2) := by decide +kernel
theorem dX6_follows_197 : decode cX6_follows 197 = .ok (.bipush 24, 2) := by decide +kernel
theorem dX6_follows_199 : decode cX6_follows 199 = .ok (.iload_n 1, 1) := by decide +kernel
theorem dX6_follows_200 : decode cX6_follows 200 = .ok (.imul, 1) := by decide +kernel
theorem dX6_follows_201 : decode cX6_follows 201 = .ok (.iadd, 1) := by decide +kernel
theorem dX6_follows_202 : decode cX6_follows 202 = .ok (.iload 5, 2) := by decide +kernel
theorem dX6_follows_204 : decode cX6_follows 204 = .ok (.iadd, 1) := by decide +kernel
theorem dX6_follows_205 : decode cX6_follows 205 = .ok (.aload_n 0, 1) := by decide +kernel
theorem dX6_follows_206 : decode cX6_follows 206 = .ok (.getfield 41, 3) := by decide +kernel
theorem dX6_follows_209 : decode cX6_follows 209 = .ok (.iload 5, 2) := by decide +kernel
theorem dX6_follows_211 : decode cX6_follows 211 = .ok (.iaload, 1) := by decide +kernel
theorem dX6_follows_212 : decode cX6_follows 212 = .ok (.iastore, 1) := by decide +kernel
theorem dX6_follows_213 : decode cX6_follows 213 = .ok (.iinc 5 1, 3) := by decide +kernel
theorem dX6_follows_216 : decode cX6_follows 216 = .ok (.goto (-59), 3) := by decide +kernel
theorem dX6_follows_219 : decode cX6_follows 219 = .ok (.iload 4, 2) := by decide +kernel
theorem dX6_follows_221 : decode cX6_follows 221 = .ok (.ireturn, 1) := by decide +kernel
theorem dX6_undo_0 : decode cX6_undo 0 = .ok (.aload_n 0, 1) := by decide +kernel
theorem dX6_undo_1 : decode cX6_undo 1 = .ok (.getfield 57, 3) := by decide +kernel
theorem dX6_undo_4 : decode cX6_undo 4 = .ok (.ifCond .ne 10, 3) := by decide +kernel
theorem dX6_undo_7 : decode cX6_undo 7 = .ok (.aload_n 0, 1) := by decide +kernel
theorem dX6_undo_8 : decode cX6_undo 8 = .ok (.bipush (-3), 2) := by decide +kernel
theorem dX6_undo_10 : decode cX6_undo 10 = .ok (.invokevirtual 68, 3) := by decide +kernel
theorem dX6_undo_13 : decode cX6_undo 13 = .ok (.ireturn, 1) := by decide +kernel
theorem dX6_undo_14 : decode cX6_undo 14 = .ok (.aload_n 0, 1) := by decide +kernel
theorem dX6_undo_15 : decode cX6_undo 15 = .ok (.dup, 1) := by decide +kernel
theorem dX6_undo_16 : decode cX6_undo 16 = .ok (.getfield 57, 3) := by decide +kernel
theorem dX6_undo_19 : decode cX6_undo 19 = .ok (.iconst 1, 1) := by decide +kernel
theorem dX6_undo_20 : decode cX6_undo 20 = .ok (.isub, 1) := by decide +kernel
theorem dX6_undo_21 : decode cX6_undo 21 = .ok (.putfield 57, 3) := by decide +kernel
theorem dX6_undo_24 : decode cX6_undo 24 = .ok (.iconst 0, 1) := by decide +kernel
theorem dX6_undo_25 : decode cX6_undo 25 = .ok (.istore_n 1, 1) := by decide +kernel
theorem dX6_undo_26 : decode cX6_undo 26 = .ok (.iload_n 1, 1) := by decide +kernel
theorem dX6_undo_27 : decode cX6_undo 27 = .ok (.sipush 145, 3) := by decide +kernel
theorem dX6_undo_30 : decode cX6_undo 30 = .ok (.if_icmp .ge 30, 3) := by decide +kernel
theorem dX6_undo_33 : decode cX6_undo 33 = .ok (.aload_n 0, 1) := by decide +kernel
theorem dX6_undo_34 : decode cX6_undo 34 = .ok (.getfield 7, 3) := by decide +kernel
theorem dX6_undo_37 : decode cX6_undo 37 = .ok (.iload_n 1, 1) := by decide +kernel
theorem dX6_undo_38 : decode cX6_undo 38 = .ok (.aload_n 0, 1) := by decide +kernel
theorem dX6_undo_39 : decode cX6_undo 39 = .ok (.getfield 13, 3) := by decide +kernel
theorem dX6_undo_42 : decode cX6_undo 42 = .ok (.sipush 145, 3) := by decide +kernel
theorem dX6_undo_45 : decode cX6_undo 45 = .ok (.aload_n 0, 1) := by decide +kernel
theorem dX6_undo_46 : decode cX6_undo 46 = .ok (.getfield 57, 3) := by decide +kernel
theorem dX6_undo_49 : decode cX6_undo 49 = .ok (.imul, 1) := by decide +kernel
theorem dX6_undo_50 : decode cX6_undo 50 = .ok (.iload_n 1, 1) := by decide +kernel
theorem dX6_undo_51 : decode cX6_undo 51 = .ok (.iadd, 1) := by decide +kernel
theorem dX6_undo_52 : decode cX6_undo 52 = .ok (.iaload, 1) := by decide +kernel
theorem dX6_undo_53 : decode cX6_undo 53 = .ok (.iastore, 1) := by decide +kernel
theorem dX6_undo_54 : decode cX6_undo 54 = .ok (.iinc 1 1, 3) := by decide +kernel
theorem dX6_undo_57 : decode cX6_undo 57 = .ok (.goto (-31), 3) := by decide +kernel
theorem dX6_undo_60 : decode cX6_undo 60 = .ok (.aload_n 0, 1) := by decide +kernel
theorem dX6_undo_61 : decode cX6_undo 61 = .ok (.getfield 57, 3) := by decide +kernel
theorem dX6_undo_64 : decode cX6_undo 64 = .ok (.ireturn, 1) := by decide +kernel
theorem dX6_of_0 : decode cX6_of 0 = .ok (.iload_n 1, 1) := by decide +kernel
theorem dX6_of_1 : decode cX6_of 1 = .ok (.invokestatic 85, 3) := by decide +kernel
theorem dX6_of_4 : decode cX6_of 4 = .ok (.ifCond .eq 12, 3) := by decide +kernel
theorem dX6_of_7 : decode cX6_of 7 = .ok (.iload_n 2, 1) := by decide +kernel
theorem dX6_of_8 : decode cX6_of 8 = .ok (.iconst 0, 1) := by decide +kernel
theorem dX6_of_9 : decode cX6_of 9 = .ok (.iconst 5, 1) := by decide +kernel
theorem dX6_of_10 : decode cX6_of 10 = .ok (.invokestatic 53, 3) := by decide +kernel
theorem dX6_of_13 : decode cX6_of 13 = .ok (.ifCond .ne 10, 3) := by decide +kernel
theorem dX6_of_16 : decode cX6_of 16 = .ok (.aload_n 0, 1) := by decide +kernel
theorem dX6_of_17 : decode cX6_of 17 = .ok (.bipush (-2), 2) := by decide +kernel
theorem dX6_of_19 : decode cX6_of 19 = .ok (.invokevirtual 68, 3) := by decide +kernel
theorem dX6_of_22 : decode cX6_of 22 = .ok (.ireturn, 1) := by decide +kernel
theorem dX6_of_23 : decode cX6_of 23 = .ok (.aload_n 0, 1) := by decide +kernel
theorem dX6_of_24 : decode cX6_of 24 = .ok (.invokevirtual 112, 3) := by decide +kernel
theorem dX6_of_27 : decode cX6_of 27 = .ok (.iload_n 2, 1) := by decide +kernel
theorem dX6_of_28 : decode cX6_of 28 = .ok (.ifCond .ne 12, 3) := by decide +kernel
theorem dX6_of_31 : decode cX6_of 31 = .ok (.aload_n 0, 1) := by decide +kernel
theorem dX6_of_32 : decode cX6_of 32 = .ok (.getfield 7, 3) := by decide +kernel
theorem dX6_of_35 : decode cX6_of 35 = .ok (.iload_n 1, 1) := by decide +kernel
theorem dX6_of_36 : decode cX6_of 36 = .ok (.iaload, 1) := by decide +kernel
theorem dX6_of_37 : decode cX6_of 37 = .ok (.goto 25, 3) := by decide +kernel
theorem dX6_of_40 : decode cX6_of 40 = .ok (.iload_n 2, 1) := by decide +kernel
theorem dX6_of_41 : decode cX6_of 41 = .ok (.iconst 1, 1) := by decide +kernel
theorem dX6_of_42 : decode cX6_of 42 = .ok (.if_icmp .ne 12, 3) := by decide +kernel
theorem dX6_of_45 : decode cX6_of 45 = .ok (.aload_n 0, 1) := by decide +kernel
theorem dX6_of_46 : decode cX6_of 46 = .ok (.getfield 32, 3) := by decide +kernel
theorem dX6_of_49 : decode cX6_of 49 = .ok (.iload_n 1, 1) := by decide +kernel
theorem dX6_of_50 : decode cX6_of 50 = .ok (.iaload, 1) := by decide +kernel
theorem dX6_of_51 : decode cX6_of 51 = .ok (.goto 11, 3) := by decide +kernel
theorem dX6_of_54 : decode cX6_of 54 = .ok (.aload_n 0, 1) := by decide +kernel
theorem dX6_of_55 : decode cX6_of 55 = .ok (.iload_n 2, 1) := by decide +kernel
theorem dX6_of_56 : decode cX6_of 56 = .ok (.iconst 2, 1) := by decide +kernel
theorem dX6_of_57 : decode cX6_of 57 = .ok (.isub, 1) := by decide +kernel
theorem dX6_of_58 : decode cX6_of 58 = .ok (.iload_n 1, 1) := by decide +kernel
theorem dX6_of_59 : decode cX6_of 59 = .ok (.invokevirtual 79, 3) := by decide +kernel
theorem dX6_of_62 : decode cX6_of 62 = .ok (.ireturn, 1) := by decide +kernel
theorem dX6_type_0 : decode cX6_type 0 = .ok (.iload_n 1, 1) := by decide +kernel
theorem dX6_type_1 : decode cX6_type 1 = .ok (.iconst 0, 1) := by decide +kernel
theorem dX6_type_2 : decode cX6_type 2 = .ok (.bipush 127, 2) := by decide +kernel
theorem dX6_type_4 : decode cX6_type 4 = .ok (.invokestatic 53, 3) := by decide +kernel
theorem dX6_type_7 : decode cX6_type 7 = .ok (.ifCond .ne 10, 3) := by decide +kernel
theorem dX6_type_10 : decode cX6_type 10 = .ok (.aload_n 0, 1) := by decide +kernel
theorem dX6_type_11 : decode cX6_type 11 = .ok (.bipush (-2), 2) := by decide +kernel
theorem dX6_type_13 : decode cX6_type 13 = .ok (.invokevirtual 68, 3) := by decide +kernel
theorem dX6_type_16 : decode cX6_type 16 = .ok (.ireturn, 1) := by decide +kernel
theorem dX6_type_17 : decode cX6_type 17 = .ok (.aload_n 0, 1) := by decide +kernel
theorem dX6_type_18 : decode cX6_type 18 = .ok (.getfield 115, 3) := by decide +kernel
theorem dX6_type_21 : decode cX6_type 21 = .ok (.bipush 120, 2) := by decide +kernel
theorem dX6_type_23 : decode cX6_type 23 = .ok (.if_icmp .ne 10, 3) := by decide +kernel
theorem dX6_type_26 : decode cX6_type 26 = .ok (.aload_n 0, 1) := by decide +kernel
theorem dX6_type_27 : decode cX6_type 27 = .ok (.bipush (-4), 2) := by decide +kernel
theorem dX6_type_29 : decode cX6_type 29 = .ok (.invokevirtual 68, 3) := by decide +kernel
theorem dX6_type_32 : decode cX6_type 32 = .ok (.ireturn, 1) := by decide +kernel
theorem dX6_type_33 : decode cX6_type 33 = .ok (.aload_n 0, 1) := by decide +kernel
theorem dX6_type_34 : decode cX6_type 34 = .ok (.getfield 22, 3) := by decide +kernel
theorem dX6_type_37 : decode cX6_type 37 = .ok (.aload_n 0, 1) := by decide +kernel
theorem dX6_type_38 : decode cX6_type 38 = .ok (.getfield 115, 3) := by decide +kernel
theorem dX6_type_41 : decode cX6_type 41 = .ok (.iload_n 1, 1) := by decide +kernel
theorem dX6_type_42 : decode cX6_type 42 = .ok (.iastore, 1) := by decide +kernel
theorem dX6_type_43 : decode cX6_type 43 = .ok (.aload_n 0, 1) := by decide +kernel
theorem dX6_type_44 : decode cX6_type 44 = .ok (.dup, 1) := by decide +kernel
theorem dX6_type_45 : decode cX6_type 45 = .ok (.getfield 115, 3) := by decide +kernel
theorem dX6_type_48 : decode cX6_type 48 = .ok (.iconst 1, 1) := by decide +kernel
theorem dX6_type_49 : decode cX6_type 49 = .ok (.iadd, 1) := by decide +kernel
theorem dX6_type_50 : decode cX6_type 50 = .ok (.putfield 115, 3) := by decide +kernel
theorem dX6_type_53 : decode cX6_type 53 = .ok (.aload_n 0, 1) := by decide +kernel
theorem dX6_type_54 : decode cX6_type 54 = .ok (.getfield 115, 3) := by decide +kernel
theorem dX6_type_57 : decode cX6_type 57 = .ok (.ireturn, 1) := by decide +kernel
theorem dX6_clear_0 : decode cX6_clear 0 = .ok (.aload_n 0, 1) := by decide +kernel
theorem dX6_clear_1 : decode cX6_clear 1 = .ok (.getfield 115, 3) := by decide +kernel
theorem dX6_clear_4 : decode cX6_clear 4 = .ok (.istore_n 1, 1) := by decide +kernel
theorem dX6_clear_5 : decode cX6_clear 5 = .ok (.aload_n 0, 1) := by decide +kernel
theorem dX6_clear_6 : decode cX6_clear 6 = .ok (.iconst 0, 1) := by decide +kernel
theorem dX6_clear_7 : decode cX6_clear 7 = .ok (.putfield 115, 3) := by decide +kernel
theorem dX6_clear_10 : decode cX6_clear 10 = .ok (.iload_n 1, 1) := by decide +kernel
theorem dX6_clear_11 : decode cX6_clear 11 = .ok (.ireturn, 1) := by decide +kernel
theorem dX6_byteAt_0 : decode cX6_byteAt 0 = .ok (.iload_n 1, 1) := by decide +kernel
theorem dX6_byteAt_1 : decode cX6_byteAt 1 = .ok (.aload_n 0, 1) := by decide +kernel
theorem dX6_byteAt_2 : decode cX6_byteAt 2 = .ok (.getfield 115, 3) := by decide +kernel
theorem dX6_byteAt_5 : decode cX6_byteAt 5 = .ok (.if_icmp .ge 12, 3) := by decide +kernel
theorem dX6_byteAt_8 : decode cX6_byteAt 8 = .ok (.aload_n 0, 1) := by decide +kernel
theorem dX6_byteAt_9 : decode cX6_byteAt 9 = .ok (.getfield 22, 3) := by decide +kernel
theorem dX6_byteAt_12 : decode cX6_byteAt 12 = .ok (.iload_n 1, 1) := by decide +kernel
theorem dX6_byteAt_13 : decode cX6_byteAt 13 = .ok (.iaload, 1) := by decide +kernel
theorem dX6_byteAt_14 : decode cX6_byteAt 14 = .ok (.goto 4, 3) := by decide +kernel
theorem dX6_byteAt_17 : decode cX6_byteAt 17 = .ok (.iconst (-1), 1) := by decide +kernel
theorem dX6_byteAt_18 : decode cX6_byteAt 18 = .ok (.ireturn, 1) := by decide +kernel
theorem dX6_skips_0 : decode cX6_skips 0 = .ok (.aload_n 0, 1) := by decide +kernel
theorem dX6_skips_1 : decode cX6_skips 1 = .ok (.aload_n 0, 1) := by decide +kernel
theorem dX6_skips_2 : decode cX6_skips 2 = .ok (.getfield 118, 3) := by decide +kernel
theorem dX6_skips_5 : decode cX6_skips 5 = .ok (.invokevirtual 121, 3) := by decide +kernel
theorem dX6_skips_8 : decode cX6_skips 8 = .ok (.bipush 32, 2) := by decide +kernel
theorem dX6_skips_10 : decode cX6_skips 10 = .ok (.if_icmp .ne 16, 3) := by decide +kernel
theorem dX6_skips_13 : decode cX6_skips 13 = .ok (.aload_n 0, 1) := by decide +kernel
theorem dX6_skips_14 : decode cX6_skips 14 = .ok (.dup, 1) := by decide +kernel
theorem dX6_skips_15 : decode cX6_skips 15 = .ok (.getfield 118, 3) := by decide +kernel
theorem dX6_skips_18 : decode cX6_skips 18 = .ok (.iconst 1, 1) := by decide +kernel
theorem dX6_skips_19 : decode cX6_skips 19 = .ok (.iadd, 1) := by decide +kernel
theorem dX6_skips_20 : decode cX6_skips 20 = .ok (.putfield 118, 3) := by decide +kernel
theorem dX6_skips_23 : decode cX6_skips 23 = .ok (.goto (-23), 3) := by decide +kernel
theorem dX6_skips_26 : decode cX6_skips 26 = .ok (.return_, 1) := by decide +kernel
theorem dX6_isNumber_0 : decode cX6_isNumber 0 = .ok (.aload_n 0, 1) := by decide +kernel
theorem dX6_isNumber_1 : decode cX6_isNumber 1 = .ok (.invokevirtual 124, 3) := by decide +kernel
theorem dX6_isNumber_4 : decode cX6_isNumber 4 = .ok (.aload_n 0, 1) := by decide +kernel
theorem dX6_isNumber_5 : decode cX6_isNumber 5 = .ok (.getfield 118, 3) := by decide +kernel
theorem dX6_isNumber_8 : decode cX6_isNumber 8 = .ok (.istore 4, 2) := by decide +kernel
theorem dX6_isNumber_10 : decode cX6_isNumber 10 = .ok (.iconst 0, 1) := by decide +kernel
theorem dX6_isNumber_11 : decode cX6_isNumber 11 = .ok (.istore 5, 2) := by decide +kernel
theorem dX6_isNumber_13 : decode cX6_isNumber 13 = .ok (.aload_n 0, 1) := by decide +kernel
theorem dX6_isNumber_14 : decode cX6_isNumber 14 = .ok (.iload 4, 2) := by decide +kernel
theorem dX6_isNumber_16 : decode cX6_isNumber 16 = .ok (.invokevirtual 121, 3) := by decide +kernel
theorem dX6_isNumber_19 : decode cX6_isNumber 19 = .ok (.bipush 48, 2) := by decide +kernel
theorem dX6_isNumber_21 : decode cX6_isNumber 21 = .ok (.bipush 57, 2) := by decide +kernel
theorem dX6_isNumber_23 : decode cX6_isNumber 23 = .ok (.invokestatic 53, 3) := by decide +kernel
theorem dX6_isNumber_26 : decode cX6_isNumber 26 = .ok (.ifCond .eq 38, 3) := by decide +kernel
theorem dX6_isNumber_29 : decode cX6_isNumber 29 = .ok (.iload 4, 2) := by decide +kernel
theorem dX6_isNumber_31 : decode cX6_isNumber 31 = .ok (.aload_n 0, 1) := by decide +kernel
theorem dX6_isNumber_32 : decode cX6_isNumber 32 = .ok (.getfield 118, 3) := by decide +kernel
theorem dX6_isNumber_35 : decode cX6_isNumber 35 = .ok (.isub, 1) := by decide +kernel
theorem dX6_isNumber_36 : decode cX6_isNumber 36 = .ok (.iconst 3, 1) := by decide +kernel
theorem dX6_isNumber_37 : decode cX6_isNumber 37 = .ok (.if_icmp .ge 27, 3) := by decide +kernel
theorem dX6_isNumber_40 : decode cX6_isNumber 40 = .ok (.bipush 10, 2) := by decide +kernel
theorem dX6_isNumber_42 : decode cX6_isNumber 42 = .ok (.iload 5, 2) := by decide +kernel
theorem dX6_isNumber_44 : decode cX6_isNumber 44 = .ok (.imul, 1) := by decide +kernel
theorem dX6_isNumber_45 : decode cX6_isNumber 45 = .ok (.aload_n 0, 1) := by decide +kernel
theorem dX6_isNumber_46 : decode cX6_isNumber 46 = .ok (.getfield 22, 3) := by decide +kernel
theorem dX6_isNumber_49 : decode cX6_isNumber 49 = .ok (.iload 4, 2) := by decide +kernel
theorem dX6_isNumber_51 : decode cX6_isNumber 51 = .ok (.iaload, 1) := by decide +kernel
theorem dX6_isNumber_52 : decode cX6_isNumber 52 = .ok (.iadd, 1) := by decide +kernel
theorem dX6_isNumber_53 : decode cX6_isNumber 53 = .ok (.bipush 48, 2) := by decide +kernel
theorem dX6_isNumber_55 : decode cX6_isNumber 55 = .ok (.isub, 1) := by decide +kernel
theorem dX6_isNumber_56 : decode cX6_isNumber 56 = .ok (.istore 5, 2) := by decide +kernel
theorem dX6_isNumber_58 : decode cX6_isNumber 58 = .ok (.iinc 4 1, 3) := by decide +kernel
theorem dX6_isNumber_61 : decode cX6_isNumber 61 = .ok (.goto (-48), 3) := by decide +kernel
theorem dX6_isNumber_64 : decode cX6_isNumber 64 = .ok (.iload 4, 2) := by decide +kernel
theorem dX6_isNumber_66 : decode cX6_isNumber 66 = .ok (.aload_n 0, 1) := by decide +kernel
theorem dX6_isNumber_67 : decode cX6_isNumber 67 = .ok (.getfield 118, 3) := by decide +kernel
theorem dX6_isNumber_70 : decode cX6_isNumber 70 = .ok (.if_icmp .le 28, 3) := by decide +kernel
theorem dX6_isNumber_73 : decode cX6_isNumber 73 = .ok (.iload 4, 2) := by decide +kernel
theorem dX6_isNumber_75 : decode cX6_isNumber 75 = .ok (.aload_n 0, 1) := by decide +kernel
theorem dX6_isNumber_76 : decode cX6_isNumber 76 = .ok (.getfield 118, 3) := by decide +kernel
theorem dX6_isNumber_79 : decode cX6_isNumber 79 = .ok (.isub, 1) := by decide +kernel
theorem dX6_isNumber_80 : decode cX6_isNumber 80 = .ok (.iconst 3, 1) := by decide +kernel
theorem dX6_isNumber_81 : decode cX6_isNumber 81 = .ok (.if_icmp .ge 17, 3) := by decide +kernel
theorem dX6_isNumber_84 : decode cX6_isNumber 84 = .ok (.iload 5, 2) := by decide +kernel
theorem dX6_isNumber_86 : decode cX6_isNumber 86 = .ok (.iload_n 2, 1) := by decide +kernel
theorem dX6_isNumber_87 : decode cX6_isNumber 87 = .ok (.iload_n 3, 1) := by decide +kernel
theorem dX6_isNumber_88 : decode cX6_isNumber 88 = .ok (.invokestatic 53, 3) := by decide +kernel
theorem dX6_isNumber_91 : decode cX6_isNumber 91 = .ok (.ifCond .eq 7, 3) := by decide +kernel
theorem dX6_isNumber_94 : decode cX6_isNumber 94 = .ok (.iconst 1, 1) := by decide +kernel
theorem dX6_isNumber_95 : decode cX6_isNumber 95 = .ok (.goto 4, 3) := by decide +kernel
theorem dX6_isNumber_98 : decode cX6_isNumber 98 = .ok (.iconst 0, 1) := by decide +kernel
theorem dX6_isNumber_99 : decode cX6_isNumber 99 = .ok (.istore 6, 2) := by decide +kernel
theorem dX6_isNumber_101 : decode cX6_isNumber 101 = .ok (.aload_n 0, 1) := by decide +kernel
theorem dX6_isNumber_102 : decode cX6_isNumber 102 = .ok (.getfield 25, 3) := by decide +kernel
theorem dX6_isNumber_105 : decode cX6_isNumber 105 = .ok (.iload_n 1, 1) := by decide +kernel
theorem dX6_isNumber_106 : decode cX6_isNumber 106 = .ok (.iload 5, 2) := by decide +kernel
theorem dX6_isNumber_108 : decode cX6_isNumber 108 = .ok (.iastore, 1) := by decide +kernel
theorem dX6_isNumber_109 : decode cX6_isNumber 109 = .ok (.aload_n 0, 1) := by decide +kernel
theorem dX6_isNumber_110 : decode cX6_isNumber 110 = .ok (.iload 6, 2) := by decide +kernel
theorem dX6_isNumber_112 : decode cX6_isNumber 112 = .ok (.ifCond .eq 8, 3) := by decide +kernel
theorem dX6_isNumber_115 : decode cX6_isNumber 115 = .ok (.iload 4, 2) := by decide +kernel
theorem dX6_isNumber_117 : decode cX6_isNumber 117 = .ok (.goto 7, 3) := by decide +kernel
theorem dX6_isNumber_120 : decode cX6_isNumber 120 = .ok (.aload_n 0, 1) := by decide +kernel
theorem dX6_isNumber_121 : decode cX6_isNumber 121 = .ok (.getfield 118, 3) := by decide +kernel
theorem dX6_isNumber_124 : decode cX6_isNumber 124 = .ok (.putfield 118, 3) := by decide +kernel
theorem dX6_isNumber_127 : decode cX6_isNumber 127 = .ok (.iload 6, 2) := by decide +kernel
theorem dX6_isNumber_129 : decode cX6_isNumber 129 = .ok (.ireturn, 1) := by decide +kernel
theorem dX6_isWord_0 : decode cX6_isWord 0 = .ok (.iconst 1, 1) := by decide +kernel
theorem dX6_isWord_1 : decode cX6_isWord 1 = .ok (.istore_n 3, 1) := by decide +kernel
theorem dX6_isWord_2 : decode cX6_isWord 2 = .ok (.iconst 0, 1) := by decide +kernel
theorem dX6_isWord_3 : decode cX6_isWord 3 = .ok (.istore 4, 2) := by decide +kernel
theorem dX6_isWord_5 : decode cX6_isWord 5 = .ok (.iload 4, 2) := by decide +kernel
theorem dX6_isWord_7 : decode cX6_isWord 7 = .ok (.iload_n 2, 1) := by decide +kernel
theorem dX6_isWord_8 : decode cX6_isWord 8 = .ok (.if_icmp .ge 42, 3) := by decide +kernel
theorem dX6_isWord_11 : decode cX6_isWord 11 = .ok (.iload_n 3, 1) := by decide +kernel
theorem dX6_isWord_12 : decode cX6_isWord 12 = .ok (.ifCond .eq 30, 3) := by decide +kernel
theorem dX6_isWord_15 : decode cX6_isWord 15 = .ok (.aload_n 0, 1) := by decide +kernel
theorem dX6_isWord_16 : decode cX6_isWord 16 = .ok (.aload_n 0, 1) := by decide +kernel
theorem dX6_isWord_17 : decode cX6_isWord 17 = .ok (.getfield 118, 3) := by decide +kernel
theorem dX6_isWord_20 : decode cX6_isWord 20 = .ok (.iload 4, 2) := by decide +kernel
theorem dX6_isWord_22 : decode cX6_isWord 22 = .ok (.iadd, 1) := by decide +kernel
theorem dX6_isWord_23 : decode cX6_isWord 23 = .ok (.invokevirtual 121, 3) := by decide +kernel
theorem dX6_isWord_26 : decode cX6_isWord 26 = .ok (.aload_n 0, 1) := by decide +kernel
theorem dX6_isWord_27 : decode cX6_isWord 27 = .ok (.getfield 28, 3) := by decide +kernel
theorem dX6_isWord_30 : decode cX6_isWord 30 = .ok (.iload_n 1, 1) := by decide +kernel
theorem dX6_isWord_31 : decode cX6_isWord 31 = .ok (.iload 4, 2) := by decide +kernel
theorem dX6_isWord_33 : decode cX6_isWord 33 = .ok (.iadd, 1) := by decide +kernel
theorem dX6_isWord_34 : decode cX6_isWord 34 = .ok (.caload, 1) := by decide +kernel
theorem dX6_isWord_35 : decode cX6_isWord 35 = .ok (.if_icmp .ne 7, 3) := by decide +kernel
theorem dX6_isWord_38 : decode cX6_isWord 38 = .ok (.iconst 1, 1) := by decide +kernel
theorem dX6_isWord_39 : decode cX6_isWord 39 = .ok (.goto 4, 3) := by decide +kernel
theorem dX6_isWord_42 : decode cX6_isWord 42 = .ok (.iconst 0, 1) := by decide +kernel
theorem dX6_isWord_43 : decode cX6_isWord 43 = .ok (.istore_n 3, 1) := by decide +kernel
theorem dX6_isWord_44 : decode cX6_isWord 44 = .ok (.iinc 4 1, 3) := by decide +kernel
theorem dX6_isWord_47 : decode cX6_isWord 47 = .ok (.goto (-42), 3) := by decide +kernel
theorem dX6_isWord_50 : decode cX6_isWord 50 = .ok (.iload_n 3, 1) := by decide +kernel
theorem dX6_isWord_51 : decode cX6_isWord 51 = .ok (.ifCond .eq 27, 3) := by decide +kernel
theorem dX6_isWord_54 : decode cX6_isWord 54 = .ok (.aload_n 0, 1) := by decide +kernel
theorem dX6_isWord_55 : decode cX6_isWord 55 = .ok (.aload_n 0, 1) := by decide +kernel
theorem dX6_isWord_56 : decode cX6_isWord 56 = .ok (.getfield 118, 3) := by decide +kernel
theorem dX6_isWord_59 : decode cX6_isWord 59 = .ok (.iload_n 2, 1) := by decide +kernel
theorem dX6_isWord_60 : decode cX6_isWord 60 = .ok (.iadd, 1) := by decide +kernel
theorem dX6_isWord_61 : decode cX6_isWord 61 = .ok (.invokevirtual 121, 3) := by decide +kernel
theorem dX6_isWord_64 : decode cX6_isWord 64 = .ok (.bipush 97, 2) := by decide +kernel
theorem dX6_isWord_66 : decode cX6_isWord 66 = .ok (.bipush 122, 2) := by decide +kernel
theorem dX6_isWord_68 : decode cX6_isWord 68 = .ok (.invokestatic 53, 3) := by decide +kernel
theorem dX6_isWord_71 : decode cX6_isWord 71 = .ok (.ifCond .ne 7, 3) := by decide +kernel
theorem dX6_isWord_74 : decode cX6_isWord 74 = .ok (.iconst 1, 1) := by decide +kernel
theorem dX6_isWord_75 : decode cX6_isWord 75 = .ok (.goto 4, 3) := by decide +kernel
theorem dX6_isWord_78 : decode cX6_isWord 78 = .ok (.iconst 0, 1) := by decide +kernel
theorem dX6_isWord_79 : decode cX6_isWord 79 = .ok (.ireturn, 1) := by decide +kernel
theorem dX6_word_0 : decode cX6_word 0 = .ok (.aload_n 0, 1) := by decide +kernel
theorem dX6_word_1 : decode cX6_word 1 = .ok (.invokevirtual 124, 3) := by decide +kernel
theorem dX6_word_4 : decode cX6_word 4 = .ok (.iconst 0, 1) := by decide +kernel
theorem dX6_word_5 : decode cX6_word 5 = .ok (.istore_n 1, 1) := by decide +kernel
theorem dX6_word_6 : decode cX6_word 6 = .ok (.iconst 0, 1) := by decide +kernel
theorem dX6_word_7 : decode cX6_word 7 = .ok (.istore_n 2, 1) := by decide +kernel
theorem dX6_word_8 : decode cX6_word 8 = .ok (.iload_n 2, 1) := by decide +kernel
theorem dX6_word_9 : decode cX6_word 9 = .ok (.aload_n 0, 1) := by decide +kernel
theorem dX6_word_10 : decode cX6_word 10 = .ok (.getfield 28, 3) := by decide +kernel
theorem dX6_word_13 : decode cX6_word 13 = .ok (.arraylength, 1) := by decide +kernel
theorem dX6_word_14 : decode cX6_word 14 = .ok (.if_icmp .ge 57, 3) := by decide +kernel
theorem dX6_word_17 : decode cX6_word 17 = .ok (.iconst 0, 1) := by decide +kernel
theorem dX6_word_18 : decode cX6_word 18 = .ok (.istore_n 3, 1) := by decide +kernel
theorem dX6_word_19 : decode cX6_word 19 = .ok (.aload_n 0, 1) := by decide +kernel
theorem dX6_word_20 : decode cX6_word 20 = .ok (.getfield 28, 3) := by decide +kernel
theorem dX6_word_23 : decode cX6_word 23 = .ok (.iload_n 2, 1) := by decide +kernel
theorem dX6_word_24 : decode cX6_word 24 = .ok (.iload_n 3, 1) := by decide +kernel
theorem dX6_word_25 : decode cX6_word 25 = .ok (.iadd, 1) := by decide +kernel
theorem dX6_word_26 : decode cX6_word 26 = .ok (.caload, 1) := by decide +kernel
theorem dX6_word_27 : decode cX6_word 27 = .ok (.bipush 32, 2) := by decide +kernel
theorem dX6_word_29 : decode cX6_word 29 = .ok (.if_icmp .eq 9, 3) := by decide +kernel
theorem dX6_word_32 : decode cX6_word 32 = .ok (.iinc 3 1, 3) := by decide +kernel
theorem dX6_word_35 : decode cX6_word 35 = .ok (.goto (-16), 3) := by decide +kernel
theorem dX6_word_38 : decode cX6_word 38 = .ok (.aload_n 0, 1) := by decide +kernel
theorem dX6_word_39 : decode cX6_word 39 = .ok (.iload_n 2, 1) := by decide +kernel
theorem dX6_word_40 : decode cX6_word 40 = .ok (.iload_n 3, 1) := by decide +kernel
theorem dX6_word_41 : decode cX6_word 41 = .ok (.invokevirtual 127, 3) := by decide +kernel
theorem dX6_word_44 : decode cX6_word 44 = .ok (.ifCond .eq 15, 3) := by decide +kernel
theorem dX6_word_47 : decode cX6_word 47 = .ok (.aload_n 0, 1) := by decide +kernel
theorem dX6_word_48 : decode cX6_word 48 = .ok (.dup, 1) := by decide +kernel
theorem dX6_word_49 : decode cX6_word 49 = .ok (.getfield 118, 3) := by decide +kernel
theorem dX6_word_52 : decode cX6_word 52 = .ok (.iload_n 3, 1) := by decide +kernel
theorem dX6_word_53 : decode cX6_word 53 = .ok (.iadd, 1) := by decide +kernel
theorem dX6_word_54 : decode cX6_word 54 = .ok (.putfield 118, 3) := by decide +kernel
theorem dX6_word_57 : decode cX6_word 57 = .ok (.iload_n 1, 1) := by decide +kernel
theorem dX6_word_58 : decode cX6_word 58 = .ok (.ireturn, 1) := by decide +kernel
theorem dX6_word_59 : decode cX6_word 59 = .ok (.iinc 1 1, 3) := by decide +kernel
theorem dX6_word_62 : decode cX6_word 62 = .ok (.iload_n 2, 1) := by decide +kernel
theorem dX6_word_63 : decode cX6_word 63 = .ok (.iload_n 3, 1) := by decide +kernel
theorem dX6_word_64 : decode cX6_word 64 = .ok (.iconst 1, 1) := by decide +kernel
theorem dX6_word_65 : decode cX6_word 65 = .ok (.iadd, 1) := by decide +kernel
theorem dX6_word_66 : decode cX6_word 66 = .ok (.iadd, 1) := by decide +kernel
theorem dX6_word_67 : decode cX6_word 67 = .ok (.istore_n 2, 1) := by decide +kernel
theorem dX6_word_68 : decode cX6_word 68 = .ok (.goto (-60), 3) := by decide +kernel
theorem dX6_word_71 : decode cX6_word 71 = .ok (.iconst (-1), 1) := by decide +kernel
theorem dX6_word_72 : decode cX6_word 72 = .ok (.ireturn, 1) := by decide +kernel
theorem dX6_isEnd_0 : decode cX6_isEnd 0 = .ok (.aload_n 0, 1) := by decide +kernel
theorem dX6_isEnd_1 : decode cX6_isEnd 1 = .ok (.invokevirtual 124, 3) := by decide +kernel
theorem dX6_isEnd_4 : decode cX6_isEnd 4 = .ok (.aload_n 0, 1) := by decide +kernel
theorem dX6_isEnd_5 : decode cX6_isEnd 5 = .ok (.getfield 118, 3) := by decide +kernel
theorem dX6_isEnd_8 : decode cX6_isEnd 8 = .ok (.istore_n 1, 1) := by decide +kernel
theorem dX6_isEnd_9 : decode cX6_isEnd 9 = .ok (.aload_n 0, 1) := by decide +kernel
theorem dX6_isEnd_10 : decode cX6_isEnd 10 = .ok (.iconst 3, 1) := by decide +kernel
theorem dX6_isEnd_11 : decode cX6_isEnd 11 = .ok (.iconst 0, 1) := by decide +kernel
theorem dX6_isEnd_12 : decode cX6_isEnd 12 = .ok (.bipush 23, 2) := by decide +kernel
theorem dX6_isEnd_14 : decode cX6_isEnd 14 = .ok (.invokevirtual 130, 3) := by decide +kernel
theorem dX6_isEnd_17 : decode cX6_isEnd 17 = .ok (.ifCond .eq 25, 3) := by decide +kernel
theorem dX6_isEnd_20 : decode cX6_isEnd 20 = .ok (.aload_n 0, 1) := by decide +kernel
theorem dX6_isEnd_21 : decode cX6_isEnd 21 = .ok (.getfield 25, 3) := by decide +kernel
theorem dX6_isEnd_24 : decode cX6_isEnd 24 = .ok (.iconst 2, 1) := by decide +kernel
theorem dX6_isEnd_25 : decode cX6_isEnd 25 = .ok (.iaload, 1) := by decide +kernel
theorem dX6_isEnd_26 : decode cX6_isEnd 26 = .ok (.aload_n 0, 1) := by decide +kernel
theorem dX6_isEnd_27 : decode cX6_isEnd 27 = .ok (.getfield 25, 3) := by decide +kernel
theorem dX6_isEnd_30 : decode cX6_isEnd 30 = .ok (.iconst 3, 1) := by decide +kernel
theorem dX6_isEnd_31 : decode cX6_isEnd 31 = .ok (.iaload, 1) := by decide +kernel
theorem dX6_isEnd_32 : decode cX6_isEnd 32 = .ok (.invokestatic 88, 3) := by decide +kernel
theorem dX6_isEnd_35 : decode cX6_isEnd 35 = .ok (.ifCond .eq 7, 3) := by decide +kernel
theorem dX6_isEnd_38 : decode cX6_isEnd 38 = .ok (.iconst 1, 1) := by decide +kernel
theorem dX6_isEnd_39 : decode cX6_isEnd 39 = .ok (.goto 4, 3) := by decide +kernel
theorem dX6_isEnd_42 : decode cX6_isEnd 42 = .ok (.iconst 0, 1) := by decide +kernel
theorem dX6_isEnd_43 : decode cX6_isEnd 43 = .ok (.istore_n 2, 1) := by decide +kernel
theorem dX6_isEnd_44 : decode cX6_isEnd 44 = .ok (.aload_n 0, 1) := by decide +kernel
theorem dX6_isEnd_45 : decode cX6_isEnd 45 = .ok (.iload_n 2, 1) := by decide +kernel
theorem dX6_isEnd_46 : decode cX6_isEnd 46 = .ok (.ifCond .eq 10, 3) := by decide +kernel
theorem dX6_isEnd_49 : decode cX6_isEnd 49 = .ok (.aload_n 0, 1) := by decide +kernel
theorem dX6_isEnd_50 : decode cX6_isEnd 50 = .ok (.getfield 118, 3) := by decide +kernel
theorem dX6_isEnd_53 : decode cX6_isEnd 53 = .ok (.goto 4, 3) := by decide +kernel
theorem dX6_isEnd_56 : decode cX6_isEnd 56 = .ok (.iload_n 1, 1) := by decide +kernel
theorem dX6_isEnd_57 : decode cX6_isEnd 57 = .ok (.putfield 118, 3) := by decide +kernel
theorem dX6_isEnd_60 : decode cX6_isEnd 60 = .ok (.iload_n 2, 1) := by decide +kernel
theorem dX6_isEnd_61 : decode cX6_isEnd 61 = .ok (.ireturn, 1) := by decide +kernel
theorem dX6_order_0 : decode cX6_order 0 = .ok (.aload_n 0, 1) := by decide +kernel
theorem dX6_order_1 : decode cX6_order 1 = .ok (.invokevirtual 133, 3) := by decide +kernel
theorem dX6_order_4 : decode cX6_order 4 = .ok (.istore_n 1, 1) := by decide +kernel
theorem dX6_order_5 : decode cX6_order 5 = .ok (.iload_n 1, 1) := by decide +kernel
theorem dX6_order_6 : decode cX6_order 6 = .ok (.ifCond .lt 7, 3) := by decide +kernel
theorem dX6_order_9 : decode cX6_order 9 = .ok (.iconst 1, 1) := by decide +kernel
theorem dX6_order_10 : decode cX6_order 10 = .ok (.goto 4, 3) := by decide +kernel
theorem dX6_order_13 : decode cX6_order 13 = .ok (.iconst 0, 1) := by decide +kernel
theorem dX6_order_14 : decode cX6_order 14 = .ok (.istore_n 2, 1) := by decide +kernel
theorem dX6_order_15 : decode cX6_order 15 = .ok (.iload_n 1, 1) := by decide +kernel
theorem dX6_order_16 : decode cX6_order 16 = .ok (.iconst 4, 1) := by decide +kernel
theorem dX6_order_17 : decode cX6_order 17 = .ok (.if_icmp .ne 34, 3) := by decide +kernel
theorem dX6_order_20 : decode cX6_order 20 = .ok (.aload_n 0, 1) := by decide +kernel
theorem dX6_order_21 : decode cX6_order 21 = .ok (.iconst 0, 1) := by decide +kernel
theorem dX6_order_22 : decode cX6_order 22 = .ok (.iconst 0, 1) := by decide +kernel
theorem dX6_order_23 : decode cX6_order 23 = .ok (.bipush 23, 2) := by decide +kernel
theorem dX6_order_25 : decode cX6_order 25 = .ok (.invokevirtual 130, 3) := by decide +kernel
theorem dX6_order_28 : decode cX6_order 28 = .ok (.ifCond .eq 18, 3) := by decide +kernel
theorem dX6_order_31 : decode cX6_order 31 = .ok (.aload_n 0, 1) := by decide +kernel
theorem dX6_order_32 : decode cX6_order 32 = .ok (.iconst 1, 1) := by decide +kernel
theorem dX6_order_33 : decode cX6_order 33 = .ok (.iconst 0, 1) := by decide +kernel
theorem dX6_order_34 : decode cX6_order 34 = .ok (.bipush 99, 2) := by decide +kernel
theorem dX6_order_36 : decode cX6_order 36 = .ok (.invokevirtual 130, 3) := by decide +kernel
theorem dX6_order_39 : decode cX6_order 39 = .ok (.ifCond .eq 7, 3) := by decide +kernel
theorem dX6_order_42 : decode cX6_order 42 = .ok (.iconst 1, 1) := by decide +kernel
theorem dX6_order_43 : decode cX6_order 43 = .ok (.goto 4, 3) := by decide +kernel
theorem dX6_order_46 : decode cX6_order 46 = .ok (.iconst 0, 1) := by decide +kernel
theorem dX6_order_47 : decode cX6_order 47 = .ok (.istore_n 2, 1) := by decide +kernel
theorem dX6_order_48 : decode cX6_order 48 = .ok (.goto 77, 3) := by decide +kernel
theorem dX6_order_51 : decode cX6_order 51 = .ok (.iload_n 2, 1) := by decide +kernel
theorem dX6_order_52 : decode cX6_order 52 = .ok (.ifCond .eq 73, 3) := by decide +kernel
theorem dX6_order_55 : decode cX6_order 55 = .ok (.aload_n 0, 1) := by decide +kernel
theorem dX6_order_56 : decode cX6_order 56 = .ok (.iconst 0, 1) := by decide +kernel
theorem dX6_order_57 : decode cX6_order 57 = .ok (.iconst 0, 1) := by decide +kernel
theorem dX6_order_58 : decode cX6_order 58 = .ok (.iconst 3, 1) := by decide +kernel
theorem dX6_order_59 : decode cX6_order 59 = .ok (.invokevirtual 130, 3) := by decide +kernel
theorem dX6_order_62 : decode cX6_order 62 = .ok (.ifCond .eq 61, 3) := by decide +kernel
theorem dX6_order_65 : decode cX6_order 65 = .ok (.iload_n 1, 1) := by decide +kernel
theorem dX6_order_66 : decode cX6_order 66 = .ok (.iconst 2, 1) := by decide +kernel
theorem dX6_order_67 : decode cX6_order 67 = .ok (.if_icmp .lt 13, 3) := by decide +kernel
theorem dX6_order_70 : decode cX6_order 70 = .ok (.aload_n 0, 1) := by decide +kernel
theorem dX6_order_71 : decode cX6_order 71 = .ok (.iconst 1, 1) := by decide +kernel
theorem dX6_order_72 : decode cX6_order 72 = .ok (.iconst 0, 1) := by decide +kernel
theorem dX6_order_73 : decode cX6_order 73 = .ok (.iconst 5, 1) := by decide +kernel
theorem dX6_order_74 : decode cX6_order 74 = .ok (.invokevirtual 130, 3) := by decide +kernel
theorem dX6_order_77 : decode cX6_order 77 = .ok (.ifCond .eq 46, 3) := by decide +kernel
theorem dX6_order_80 : decode cX6_order 80 = .ok (.iload_n 1, 1) := by decide +kernel
theorem dX6_order_81 : decode cX6_order 81 = .ok (.iconst 2, 1) := by decide +kernel
theorem dX6_order_82 : decode cX6_order 82 = .ok (.if_icmp .ne 21, 3) := by decide +kernel
theorem dX6_order_85 : decode cX6_order 85 = .ok (.aload_n 0, 1) := by decide +kernel
theorem dX6_order_86 : decode cX6_order 86 = .ok (.iconst 2, 1) := by decide +kernel
theorem dX6_order_87 : decode cX6_order 87 = .ok (.iconst 0, 1) := by decide +kernel
theorem dX6_order_88 : decode cX6_order 88 = .ok (.bipush 23, 2) := by decide +kernel
theorem dX6_order_90 : decode cX6_order 90 = .ok (.invokevirtual 130, 3) := by decide +kernel
theorem dX6_order_93 : decode cX6_order 93 = .ok (.ifCond .eq 30, 3) := by decide +kernel
theorem dX6_order_96 : decode cX6_order 96 = .ok (.aload_n 0, 1) := by decide +kernel
theorem dX6_order_97 : decode cX6_order 97 = .ok (.invokevirtual 137, 3) := by decide +kernel
theorem dX6_order_100 : decode cX6_order 100 = .ok (.ifCond .eq 23, 3) := by decide +kernel
theorem dX6_order_103 : decode cX6_order 103 = .ok (.iload_n 1, 1) := by decide +kernel
theorem dX6_order_104 : decode cX6_order 104 = .ok (.iconst 3, 1) := by decide +kernel
theorem dX6_order_105 : decode cX6_order 105 = .ok (.if_icmp .ne 14, 3) := by decide +kernel
theorem dX6_order_108 : decode cX6_order 108 = .ok (.aload_n 0, 1) := by decide +kernel
theorem dX6_order_109 : decode cX6_order 109 = .ok (.iconst 2, 1) := by decide +kernel
theorem dX6_order_110 : decode cX6_order 110 = .ok (.iconst 1, 1) := by decide +kernel
theorem dX6_order_111 : decode cX6_order 111 = .ok (.bipush 8, 2) := by decide +kernel
theorem dX6_order_113 : decode cX6_order 113 = .ok (.invokevirtual 130, 3) := by decide +kernel
theorem dX6_order_116 : decode cX6_order 116 = .ok (.ifCond .eq 7, 3) := by decide +kernel
theorem dX6_order_119 : decode cX6_order 119 = .ok (.iconst 1, 1) := by decide +kernel
theorem dX6_order_120 : decode cX6_order 120 = .ok (.goto 4, 3) := by decide +kernel
theorem dX6_order_123 : decode cX6_order 123 = .ok (.iconst 0, 1) := by decide +kernel
theorem dX6_order_124 : decode cX6_order 124 = .ok (.istore_n 2, 1) := by decide +kernel
theorem dX6_order_125 : decode cX6_order 125 = .ok (.iload_n 2, 1) := by decide +kernel
theorem dX6_order_126 : decode cX6_order 126 = .ok (.ifCond .ne 5, 3) := by decide +kernel
theorem dX6_order_129 : decode cX6_order 129 = .ok (.iconst (-1), 1) := by decide +kernel
theorem dX6_order_130 : decode cX6_order 130 = .ok (.ireturn, 1) := by decide +kernel
theorem dX6_order_131 : decode cX6_order 131 = .ok (.aload_n 0, 1) := by decide +kernel
theorem dX6_order_132 : decode cX6_order 132 = .ok (.invokevirtual 124, 3) := by decide +kernel
theorem dX6_order_135 : decode cX6_order 135 = .ok (.aload_n 0, 1) := by decide +kernel
theorem dX6_order_136 : decode cX6_order 136 = .ok (.aload_n 0, 1) := by decide +kernel
theorem dX6_order_137 : decode cX6_order 137 = .ok (.getfield 118, 3) := by decide +kernel
theorem dX6_order_140 : decode cX6_order 140 = .ok (.invokevirtual 121, 3) := by decide +kernel
theorem dX6_order_143 : decode cX6_order 143 = .ok (.bipush 59, 2) := by decide +kernel
theorem dX6_order_145 : decode cX6_order 145 = .ok (.if_icmp .eq 5, 3) := by decide +kernel
theorem dX6_order_148 : decode cX6_order 148 = .ok (.iconst (-1), 1) := by decide +kernel
theorem dX6_order_149 : decode cX6_order 149 = .ok (.ireturn, 1) := by decide +kernel
theorem dX6_order_150 : decode cX6_order 150 = .ok (.aload_n 0, 1) := by decide +kernel
theorem dX6_order_151 : decode cX6_order 151 = .ok (.dup, 1) := by decide +kernel
theorem dX6_order_152 : decode cX6_order 152 = .ok (.getfield 118, 3) := by decide +kernel
theorem dX6_order_155 : decode cX6_order 155 = .ok (.iconst 1, 1) := by decide +kernel
theorem dX6_order_156 : decode cX6_order 156 = .ok (.iadd, 1) := by decide +kernel
theorem dX6_order_157 : decode cX6_order 157 = .ok (.putfield 118, 3) := by decide +kernel
theorem dX6_order_160 : decode cX6_order 160 = .ok (.iload_n 1, 1) := by decide +kernel
theorem dX6_order_161 : decode cX6_order 161 = .ok (.ireturn, 1) := by decide +kernel
theorem dX6_done_0 : decode cX6_done 0 = .ok (.iload_n 1, 1) := by decide +kernel
theorem dX6_done_1 : decode cX6_done 1 = .ok (.iconst 2, 1) := by decide +kernel
theorem dX6_done_2 : decode cX6_done 2 = .ok (.if_icmp .ge 20, 3) := by decide +kernel
theorem dX6_done_5 : decode cX6_done 5 = .ok (.aload_n 0, 1) := by decide +kernel
theorem dX6_done_6 : decode cX6_done 6 = .ok (.aload_n 0, 1) := by decide +kernel
theorem dX6_done_7 : decode cX6_done 7 = .ok (.getfield 25, 3) := by decide +kernel
theorem dX6_done_10 : decode cX6_done 10 = .ok (.iconst 0, 1) := by decide +kernel
theorem dX6_done_11 : decode cX6_done 11 = .ok (.iaload, 1) := by decide +kernel
theorem dX6_done_12 : decode cX6_done 12 = .ok (.iconst 1, 1) := by decide +kernel
theorem dX6_done_13 : decode cX6_done 13 = .ok (.iload_n 1, 1) := by decide +kernel
theorem dX6_done_14 : decode cX6_done 14 = .ok (.isub, 1) := by decide +kernel
theorem dX6_done_15 : decode cX6_done 15 = .ok (.invokevirtual 75, 3) := by decide +kernel
theorem dX6_done_18 : decode cX6_done 18 = .ok (.pop, 1) := by decide +kernel
theorem dX6_done_19 : decode cX6_done 19 = .ok (.goto 98, 3) := by decide +kernel
theorem dX6_done_22 : decode cX6_done 22 = .ok (.iload_n 1, 1) := by decide +kernel
theorem dX6_done_23 : decode cX6_done 23 = .ok (.iconst 2, 1) := by decide +kernel
theorem dX6_done_24 : decode cX6_done 24 = .ok (.if_icmp .ne 35, 3) := by decide +kernel
theorem dX6_done_27 : decode cX6_done 27 = .ok (.aload_n 0, 1) := by decide +kernel
theorem dX6_done_28 : decode cX6_done 28 = .ok (.aload_n 0, 1) := by decide +kernel
theorem dX6_done_29 : decode cX6_done 29 = .ok (.getfield 25, 3) := by decide +kernel
theorem dX6_done_32 : decode cX6_done 32 = .ok (.iconst 0, 1) := by decide +kernel
theorem dX6_done_33 : decode cX6_done 33 = .ok (.iaload, 1) := by decide +kernel
theorem dX6_done_34 : decode cX6_done 34 = .ok (.aload_n 0, 1) := by decide +kernel
theorem dX6_done_35 : decode cX6_done 35 = .ok (.getfield 25, 3) := by decide +kernel
theorem dX6_done_38 : decode cX6_done 38 = .ok (.iconst 1, 1) := by decide +kernel
theorem dX6_done_39 : decode cX6_done 39 = .ok (.iaload, 1) := by decide +kernel
theorem dX6_done_40 : decode cX6_done 40 = .ok (.aload_n 0, 1) := by decide +kernel
theorem dX6_done_41 : decode cX6_done 41 = .ok (.getfield 25, 3) := by decide +kernel
theorem dX6_done_44 : decode cX6_done 44 = .ok (.iconst 2, 1) := by decide +kernel
theorem dX6_done_45 : decode cX6_done 45 = .ok (.iaload, 1) := by decide +kernel
theorem dX6_done_46 : decode cX6_done 46 = .ok (.aload_n 0, 1) := by decide +kernel
theorem dX6_done_47 : decode cX6_done 47 = .ok (.getfield 25, 3) := by decide +kernel
theorem dX6_done_50 : decode cX6_done 50 = .ok (.iconst 3, 1) := by decide +kernel
theorem dX6_done_51 : decode cX6_done 51 = .ok (.iaload, 1) := by decide +kernel
theorem dX6_done_52 : decode cX6_done 52 = .ok (.invokevirtual 92, 3) := by decide +kernel
theorem dX6_done_55 : decode cX6_done 55 = .ok (.pop, 1) := by decide +kernel
theorem dX6_done_56 : decode cX6_done 56 = .ok (.goto 61, 3) := by decide +kernel
theorem dX6_done_59 : decode cX6_done 59 = .ok (.aload_n 0, 1) := by decide +kernel
theorem dX6_done_60 : decode cX6_done 60 = .ok (.iload_n 1, 1) := by decide +kernel
theorem dX6_done_61 : decode cX6_done 61 = .ok (.iconst 4, 1) := by decide +kernel
theorem dX6_done_62 : decode cX6_done 62 = .ok (.if_icmp .ne 12, 3) := by decide +kernel
theorem dX6_done_65 : decode cX6_done 65 = .ok (.aload_n 0, 1) := by decide +kernel
theorem dX6_done_66 : decode cX6_done 66 = .ok (.getfield 25, 3) := by decide +kernel
theorem dX6_done_69 : decode cX6_done 69 = .ok (.iconst 0, 1) := by decide +kernel
theorem dX6_done_70 : decode cX6_done 70 = .ok (.iaload, 1) := by decide +kernel
theorem dX6_done_71 : decode cX6_done 71 = .ok (.goto 22, 3) := by decide +kernel
theorem dX6_done_74 : decode cX6_done 74 = .ok (.bipush 120, 2) := by decide +kernel
theorem dX6_done_76 : decode cX6_done 76 = .ok (.bipush 6, 2) := by decide +kernel
theorem dX6_done_78 : decode cX6_done 78 = .ok (.aload_n 0, 1) := by decide +kernel
theorem dX6_done_79 : decode cX6_done 79 = .ok (.getfield 25, 3) := by decide +kernel
theorem dX6_done_82 : decode cX6_done 82 = .ok (.iconst 0, 1) := by decide +kernel
theorem dX6_done_83 : decode cX6_done 83 = .ok (.iaload, 1) := by decide +kernel
theorem dX6_done_84 : decode cX6_done 84 = .ok (.imul, 1) := by decide +kernel
theorem dX6_done_85 : decode cX6_done 85 = .ok (.iadd, 1) := by decide +kernel
theorem dX6_done_86 : decode cX6_done 86 = .ok (.aload_n 0, 1) := by decide +kernel
theorem dX6_done_87 : decode cX6_done 87 = .ok (.getfield 25, 3) := by decide +kernel
theorem dX6_done_90 : decode cX6_done 90 = .ok (.iconst 1, 1) := by decide +kernel
theorem dX6_done_91 : decode cX6_done 91 = .ok (.iaload, 1) := by decide +kernel
theorem dX6_done_92 : decode cX6_done 92 = .ok (.iadd, 1) := by decide +kernel
theorem dX6_done_93 : decode cX6_done 93 = .ok (.iload_n 1, 1) := by decide +kernel
theorem dX6_done_94 : decode cX6_done 94 = .ok (.iconst 4, 1) := by decide +kernel
theorem dX6_done_95 : decode cX6_done 95 = .ok (.if_icmp .ne 12, 3) := by decide +kernel
theorem dX6_done_98 : decode cX6_done 98 = .ok (.aload_n 0, 1) := by decide +kernel
theorem dX6_done_99 : decode cX6_done 99 = .ok (.getfield 25, 3) := by decide +kernel
theorem dX6_done_102 : decode cX6_done 102 = .ok (.iconst 1, 1) := by decide +kernel
theorem dX6_done_103 : decode cX6_done 103 = .ok (.iaload, 1) := by decide +kernel
theorem dX6_done_104 : decode cX6_done 104 = .ok (.goto 9, 3) := by decide +kernel
theorem dX6_done_107 : decode cX6_done 107 = .ok (.aload_n 0, 1) := by decide +kernel
theorem dX6_done_108 : decode cX6_done 108 = .ok (.getfield 25, 3) := by decide +kernel
theorem dX6_done_111 : decode cX6_done 111 = .ok (.iconst 2, 1) := by decide +kernel
theorem dX6_done_112 : decode cX6_done 112 = .ok (.iaload, 1) := by decide +kernel
theorem dX6_done_113 : decode cX6_done 113 = .ok (.invokevirtual 96, 3) := by decide +kernel
theorem dX6_done_116 : decode cX6_done 116 = .ok (.pop, 1) := by decide +kernel
theorem dX6_done_117 : decode cX6_done 117 = .ok (.return_, 1) := by decide +kernel
theorem dX6_goesThrough_0 : decode cX6_goesThrough 0 = .ok (.iconst 0, 1) := by decide +kernel
theorem dX6_goesThrough_1 : decode cX6_goesThrough 1 = .ok (.istore_n 2, 1) := by decide +kernel
theorem dX6_goesThrough_2 : decode cX6_goesThrough 2 = .ok (.aload_n 0, 1) := by decide +kernel
theorem dX6_goesThrough_3 : decode cX6_goesThrough 3 = .ok (.iconst 0, 1) := by decide +kernel
theorem dX6_goesThrough_4 : decode cX6_goesThrough 4 = .ok (.putfield 118, 3) := by decide +kernel
theorem dX6_goesThrough_7 : decode cX6_goesThrough 7 = .ok (.aload_n 0, 1) := by decide +kernel
theorem dX6_goesThrough_8 : decode cX6_goesThrough 8 = .ok (.invokevirtual 124, 3) := by decide +kernel
theorem dX6_goesThrough_11 : decode cX6_goesThrough 11 = .ok (.aload_n 0, 1) := by decide +kernel
theorem dX6_goesThrough_12 : decode cX6_goesThrough 12 = .ok (.getfield 118, 3) := by decide +kernel
theorem dX6_goesThrough_15 : decode cX6_goesThrough 15 = .ok (.aload_n 0, 1) := by decide +kernel
theorem dX6_goesThrough_16 : decode cX6_goesThrough 16 = .ok (.getfield 115, 3) := by decide +kernel
theorem dX6_goesThrough_19 : decode cX6_goesThrough 19 = .ok (.if_icmp .lt 7, 3) := by decide +kernel
theorem dX6_goesThrough_22 : decode cX6_goesThrough 22 = .ok (.iload_n 2, 1) := by decide +kernel
theorem dX6_goesThrough_23 : decode cX6_goesThrough 23 = .ok (.ifCond .ne 33, 3) := by decide +kernel
theorem dX6_goesThrough_26 : decode cX6_goesThrough 26 = .ok (.aload_n 0, 1) := by decide +kernel
theorem dX6_goesThrough_27 : decode cX6_goesThrough 27 = .ok (.invokevirtual 141, 3) := by decide +kernel
theorem dX6_goesThrough_30 : decode cX6_goesThrough 30 = .ok (.istore_n 3, 1) := by decide +kernel
theorem dX6_goesThrough_31 : decode cX6_goesThrough 31 = .ok (.iload_n 3, 1) := by decide +kernel
theorem dX6_goesThrough_32 : decode cX6_goesThrough 32 = .ok (.ifCond .ge 5, 3) := by decide +kernel
theorem dX6_goesThrough_35 : decode cX6_goesThrough 35 = .ok (.iconst (-1), 1) := by decide +kernel
theorem dX6_goesThrough_36 : decode cX6_goesThrough 36 = .ok (.ireturn, 1) := by decide +kernel
theorem dX6_goesThrough_37 : decode cX6_goesThrough 37 = .ok (.iload_n 1, 1) := by decide +kernel
theorem dX6_goesThrough_38 : decode cX6_goesThrough 38 = .ok (.ifCond .eq 8, 3) := by decide +kernel
theorem dX6_goesThrough_41 : decode cX6_goesThrough 41 = .ok (.aload_n 0, 1) := by decide +kernel
theorem dX6_goesThrough_42 : decode cX6_goesThrough 42 = .ok (.iload_n 3, 1) := by decide +kernel
theorem dX6_goesThrough_43 : decode cX6_goesThrough 43 = .ok (.invokevirtual 144, 3) := by decide +kernel
theorem dX6_goesThrough_46 : decode cX6_goesThrough 46 = .ok (.iinc 2 1, 3) := by decide +kernel
theorem dX6_goesThrough_49 : decode cX6_goesThrough 49 = .ok (.aload_n 0, 1) := by decide +kernel
theorem dX6_goesThrough_50 : decode cX6_goesThrough 50 = .ok (.invokevirtual 124, 3) := by decide +kernel
theorem dX6_goesThrough_53 : decode cX6_goesThrough 53 = .ok (.goto (-42), 3) := by decide +kernel
theorem dX6_goesThrough_56 : decode cX6_goesThrough 56 = .ok (.iload_n 2, 1) := by decide +kernel
theorem dX6_goesThrough_57 : decode cX6_goesThrough 57 = .ok (.ireturn, 1) := by decide +kernel
theorem dX6_does_0 : decode cX6_does 0 = .ok (.aload_n 0, 1) := by decide +kernel
theorem dX6_does_1 : decode cX6_does 1 = .ok (.iconst 0, 1) := by decide +kernel
theorem dX6_does_2 : decode cX6_does 2 = .ok (.invokevirtual 148, 3) := by decide +kernel
theorem dX6_does_5 : decode cX6_does 5 = .ok (.ifCond .ge 11, 3) := by decide +kernel
theorem dX6_does_8 : decode cX6_does 8 = .ok (.bipush (-10), 2) := by decide +kernel
theorem dX6_does_10 : decode cX6_does 10 = .ok (.aload_n 0, 1) := by decide +kernel
theorem dX6_does_11 : decode cX6_does 11 = .ok (.getfield 118, 3) := by decide +kernel
theorem dX6_does_14 : decode cX6_does 14 = .ok (.isub, 1) := by decide +kernel
theorem dX6_does_15 : decode cX6_does 15 = .ok (.ireturn, 1) := by decide +kernel
theorem dX6_does_16 : decode cX6_does 16 = .ok (.aload_n 0, 1) := by decide +kernel
theorem dX6_does_17 : decode cX6_does 17 = .ok (.invokevirtual 72, 3) := by decide +kernel
theorem dX6_does_20 : decode cX6_does 20 = .ok (.aload_n 0, 1) := by decide +kernel
theorem dX6_does_21 : decode cX6_does 21 = .ok (.iconst 1, 1) := by decide +kernel
theorem dX6_does_22 : decode cX6_does 22 = .ok (.invokevirtual 148, 3) := by decide +kernel
theorem dX6_does_25 : decode cX6_does 25 = .ok (.ireturn, 1) := by decide +kernel
theorem dX6_isLike_0 : decode cX6_isLike 0 = .ok (.iconst 1, 1) := by decide +kernel
theorem dX6_isLike_1 : decode cX6_isLike 1 = .ok (.istore_n 3, 1) := by decide +kernel
theorem dX6_isLike_2 : decode cX6_isLike 2 = .ok (.iconst 0, 1) := by decide +kernel
theorem dX6_isLike_3 : decode cX6_isLike 3 = .ok (.istore 4, 2) := by decide +kernel
theorem dX6_isLike_5 : decode cX6_isLike 5 = .ok (.iload 4, 2) := by decide +kernel
theorem dX6_isLike_7 : decode cX6_isLike 7 = .ok (.iconst 4, 1) := by decide +kernel
theorem dX6_isLike_8 : decode cX6_isLike 8 = .ok (.if_icmp .ge 45, 3) := by decide +kernel
theorem dX6_isLike_11 : decode cX6_isLike 11 = .ok (.iload_n 3, 1) := by decide +kernel
theorem dX6_isLike_12 : decode cX6_isLike 12 = .ok (.ifCond .eq 33, 3) := by decide +kernel
theorem dX6_isLike_15 : decode cX6_isLike 15 = .ok (.aload_n 0, 1) := by decide +kernel
theorem dX6_isLike_16 : decode cX6_isLike 16 = .ok (.iload 4, 2) := by decide +kernel
theorem dX6_isLike_18 : decode cX6_isLike 18 = .ok (.invokevirtual 61, 3) := by decide +kernel
theorem dX6_isLike_21 : decode cX6_isLike 21 = .ok (.ifCond .eq 20, 3) := by decide +kernel
theorem dX6_isLike_24 : decode cX6_isLike 24 = .ok (.aload_n 0, 1) := by decide +kernel
theorem dX6_isLike_25 : decode cX6_isLike 25 = .ok (.iload 4, 2) := by decide +kernel
theorem dX6_isLike_27 : decode cX6_isLike 27 = .ok (.iload_n 1, 1) := by decide +kernel
theorem dX6_isLike_28 : decode cX6_isLike 28 = .ok (.invokevirtual 79, 3) := by decide +kernel
theorem dX6_isLike_31 : decode cX6_isLike 31 = .ok (.aload_n 0, 1) := by decide +kernel
theorem dX6_isLike_32 : decode cX6_isLike 32 = .ok (.iload 4, 2) := by decide +kernel
theorem dX6_isLike_34 : decode cX6_isLike 34 = .ok (.iload_n 2, 1) := by decide +kernel
theorem dX6_isLike_35 : decode cX6_isLike 35 = .ok (.invokevirtual 79, 3) := by decide +kernel
theorem dX6_isLike_38 : decode cX6_isLike 38 = .ok (.if_icmp .ne 7, 3) := by decide +kernel
theorem dX6_isLike_41 : decode cX6_isLike 41 = .ok (.iconst 1, 1) := by decide +kernel
theorem dX6_isLike_42 : decode cX6_isLike 42 = .ok (.goto 4, 3) := by decide +kernel
theorem dX6_isLike_45 : decode cX6_isLike 45 = .ok (.iconst 0, 1) := by decide +kernel
theorem dX6_isLike_46 : decode cX6_isLike 46 = .ok (.istore_n 3, 1) := by decide +kernel
theorem dX6_isLike_47 : decode cX6_isLike 47 = .ok (.iinc 4 1, 3) := by decide +kernel
theorem dX6_isLike_50 : decode cX6_isLike 50 = .ok (.goto (-45), 3) := by decide +kernel
theorem dX6_isLike_53 : decode cX6_isLike 53 = .ok (.iload_n 3, 1) := by decide +kernel
theorem dX6_isLike_54 : decode cX6_isLike 54 = .ok (.ireturn, 1) := by decide +kernel
theorem dX6_finds_0 : decode cX6_finds 0 = .ok (.aload_n 0, 1) := by decide +kernel
theorem dX6_finds_1 : decode cX6_finds 1 = .ok (.iconst 0, 1) := by decide +kernel
theorem dX6_finds_2 : decode cX6_finds 2 = .ok (.putfield 152, 3) := by decide +kernel
theorem dX6_finds_5 : decode cX6_finds 5 = .ok (.iconst 0, 1) := by decide +kernel
theorem dX6_finds_6 : decode cX6_finds 6 = .ok (.istore_n 1, 1) := by decide +kernel
theorem dX6_finds_7 : decode cX6_finds 7 = .ok (.iload_n 1, 1) := by decide +kernel
theorem dX6_finds_8 : decode cX6_finds 8 = .ok (.bipush 24, 2) := by decide +kernel
theorem dX6_finds_10 : decode cX6_finds 10 = .ok (.if_icmp .ge 101, 3) := by decide +kernel
theorem dX6_finds_13 : decode cX6_finds 13 = .ok (.aload_n 0, 1) := by decide +kernel
theorem dX6_finds_14 : decode cX6_finds 14 = .ok (.getfield 32, 3) := by decide +kernel
theorem dX6_finds_17 : decode cX6_finds 17 = .ok (.iload_n 1, 1) := by decide +kernel
theorem dX6_finds_18 : decode cX6_finds 18 = .ok (.iconst (-1), 1) := by decide +kernel
theorem dX6_finds_19 : decode cX6_finds 19 = .ok (.iastore, 1) := by decide +kernel
theorem dX6_finds_20 : decode cX6_finds 20 = .ok (.iconst 0, 1) := by decide +kernel
theorem dX6_finds_21 : decode cX6_finds 21 = .ok (.istore_n 2, 1) := by decide +kernel
theorem dX6_finds_22 : decode cX6_finds 22 = .ok (.iload_n 2, 1) := by decide +kernel
theorem dX6_finds_23 : decode cX6_finds 23 = .ok (.aload_n 0, 1) := by decide +kernel
theorem dX6_finds_24 : decode cX6_finds 24 = .ok (.getfield 152, 3) := by decide +kernel
theorem dX6_finds_27 : decode cX6_finds 27 = .ok (.if_icmp .ge 39, 3) := by decide +kernel
theorem dX6_finds_30 : decode cX6_finds 30 = .ok (.aload_n 0, 1) := by decide +kernel
theorem dX6_finds_31 : decode cX6_finds 31 = .ok (.getfield 32, 3) := by decide +kernel
theorem dX6_finds_34 : decode cX6_finds 34 = .ok (.iload_n 1, 1) := by decide +kernel
theorem dX6_finds_35 : decode cX6_finds 35 = .ok (.aload_n 0, 1) := by decide +kernel
theorem dX6_finds_36 : decode cX6_finds 36 = .ok (.iload_n 1, 1) := by decide +kernel
theorem dX6_finds_37 : decode cX6_finds 37 = .ok (.aload_n 0, 1) := by decide +kernel
theorem dX6_finds_38 : decode cX6_finds 38 = .ok (.getfield 35, 3) := by decide +kernel
theorem dX6_finds_41 : decode cX6_finds 41 = .ok (.iload_n 2, 1) := by decide +kernel
theorem dX6_finds_42 : decode cX6_finds 42 = .ok (.iaload, 1) := by decide +kernel
theorem dX6_finds_43 : decode cX6_finds 43 = .ok (.invokevirtual 155, 3) := by decide +kernel
theorem dX6_finds_46 : decode cX6_finds 46 = .ok (.ifCond .eq 7, 3) := by decide +kernel
theorem dX6_finds_49 : decode cX6_finds 49 = .ok (.iload_n 2, 1) := by decide +kernel
theorem dX6_finds_50 : decode cX6_finds 50 = .ok (.goto 9, 3) := by decide +kernel
theorem dX6_finds_53 : decode cX6_finds 53 = .ok (.aload_n 0, 1) := by decide +kernel
theorem dX6_finds_54 : decode cX6_finds 54 = .ok (.getfield 32, 3) := by decide +kernel
theorem dX6_finds_57 : decode cX6_finds 57 = .ok (.iload_n 1, 1) := by decide +kernel
theorem dX6_finds_58 : decode cX6_finds 58 = .ok (.iaload, 1) := by decide +kernel
theorem dX6_finds_59 : decode cX6_finds 59 = .ok (.iastore, 1) := by decide +kernel
theorem dX6_finds_60 : decode cX6_finds 60 = .ok (.iinc 2 1, 3) := by decide +kernel
theorem dX6_finds_63 : decode cX6_finds 63 = .ok (.goto (-41), 3) := by decide +kernel
theorem dX6_finds_66 : decode cX6_finds 66 = .ok (.aload_n 0, 1) := by decide +kernel
theorem dX6_finds_67 : decode cX6_finds 67 = .ok (.getfield 32, 3) := by decide +kernel
theorem dX6_finds_70 : decode cX6_finds 70 = .ok (.iload_n 1, 1) := by decide +kernel
theorem dX6_finds_71 : decode cX6_finds 71 = .ok (.iaload, 1) := by decide +kernel
theorem dX6_finds_72 : decode cX6_finds 72 = .ok (.ifCond .ge 33, 3) := by decide +kernel
theorem dX6_finds_75 : decode cX6_finds 75 = .ok (.aload_n 0, 1) := by decide +kernel
theorem dX6_finds_76 : decode cX6_finds 76 = .ok (.getfield 32, 3) := by decide +kernel
theorem dX6_finds_79 : decode cX6_finds 79 = .ok (.iload_n 1, 1) := by decide +kernel
theorem dX6_finds_80 : decode cX6_finds 80 = .ok (.aload_n 0, 1) := by decide +kernel
theorem dX6_finds_81 : decode cX6_finds 81 = .ok (.getfield 152, 3) := by decide +kernel
theorem dX6_finds_84 : decode cX6_finds 84 = .ok (.iastore, 1) := by decide +kernel
theorem dX6_finds_85 : decode cX6_finds 85 = .ok (.aload_n 0, 1) := by decide +kernel
theorem dX6_finds_86 : decode cX6_finds 86 = .ok (.getfield 35, 3) := by decide +kernel
theorem dX6_finds_89 : decode cX6_finds 89 = .ok (.aload_n 0, 1) := by decide +kernel
theorem dX6_finds_90 : decode cX6_finds 90 = .ok (.getfield 152, 3) := by decide +kernel
theorem dX6_finds_93 : decode cX6_finds 93 = .ok (.iload_n 1, 1) := by decide +kernel
theorem dX6_finds_94 : decode cX6_finds 94 = .ok (.iastore, 1) := by decide +kernel
theorem dX6_finds_95 : decode cX6_finds 95 = .ok (.aload_n 0, 1) := by decide +kernel
theorem dX6_finds_96 : decode cX6_finds 96 = .ok (.dup, 1) := by decide +kernel
theorem dX6_finds_97 : decode cX6_finds 97 = .ok (.getfield 152, 3) := by decide +kernel
theorem dX6_finds_100 : decode cX6_finds 100 = .ok (.iconst 1, 1) := by decide +kernel
theorem dX6_finds_101 : decode cX6_finds 101 = .ok (.iadd, 1) := by decide +kernel
theorem dX6_finds_102 : decode cX6_finds 102 = .ok (.putfield 152, 3) := by decide +kernel
theorem dX6_finds_105 : decode cX6_finds 105 = .ok (.iinc 1 1, 3) := by decide +kernel
theorem dX6_finds_108 : decode cX6_finds 108 = .ok (.goto (-101), 3) := by decide +kernel
theorem dX6_finds_111 : decode cX6_finds 111 = .ok (.return_, 1) := by decide +kernel
theorem dX6_isStyle_0 : decode cX6_isStyle 0 = .ok (.aload_n 0, 1) := by decide +kernel
theorem dX6_isStyle_1 : decode cX6_isStyle 1 = .ok (.invokevirtual 112, 3) := by decide +kernel
theorem dX6_isStyle_4 : decode cX6_isStyle 4 = .ok (.iload_n 1, 1) := by decide +kernel
theorem dX6_isStyle_5 : decode cX6_isStyle 5 = .ok (.iconst 0, 1) := by decide +kernel
theorem dX6_isStyle_6 : decode cX6_isStyle 6 = .ok (.aload_n 0, 1) := by decide +kernel
theorem dX6_isStyle_7 : decode cX6_isStyle 7 = .ok (.getfield 152, 3) := by decide +kernel
theorem dX6_isStyle_10 : decode cX6_isStyle 10 = .ok (.iconst 1, 1) := by decide +kernel
theorem dX6_isStyle_11 : decode cX6_isStyle 11 = .ok (.isub, 1) := by decide +kernel
theorem dX6_isStyle_12 : decode cX6_isStyle 12 = .ok (.invokestatic 53, 3) := by decide +kernel
theorem dX6_isStyle_15 : decode cX6_isStyle 15 = .ok (.ireturn, 1) := by decide +kernel
theorem dX6_styles_0 : decode cX6_styles 0 = .ok (.aload_n 0, 1) := by decide +kernel
theorem dX6_styles_1 : decode cX6_styles 1 = .ok (.invokevirtual 112, 3) := by decide +kernel
theorem dX6_styles_4 : decode cX6_styles 4 = .ok (.aload_n 0, 1) := by decide +kernel
theorem dX6_styles_5 : decode cX6_styles 5 = .ok (.getfield 152, 3) := by decide +kernel
theorem dX6_styles_8 : decode cX6_styles 8 = .ok (.ireturn, 1) := by decide +kernel
theorem dX6_votersOf_0 : decode cX6_votersOf 0 = .ok (.iconst 0, 1) := by decide +kernel
theorem dX6_votersOf_1 : decode cX6_votersOf 1 = .ok (.istore_n 2, 1) := by decide +kernel
theorem dX6_votersOf_2 : decode cX6_votersOf 2 = .ok (.iconst 0, 1) := by decide +kernel
theorem dX6_votersOf_3 : decode cX6_votersOf 3 = .ok (.istore_n 3, 1) := by decide +kernel
theorem dX6_votersOf_4 : decode cX6_votersOf 4 = .ok (.iload_n 3, 1) := by decide +kernel
theorem dX6_votersOf_5 : decode cX6_votersOf 5 = .ok (.bipush 24, 2) := by decide +kernel
theorem dX6_votersOf_7 : decode cX6_votersOf 7 = .ok (.if_icmp .ge 32, 3) := by decide +kernel
theorem dX6_votersOf_10 : decode cX6_votersOf 10 = .ok (.iload_n 2, 1) := by decide +kernel
theorem dX6_votersOf_11 : decode cX6_votersOf 11 = .ok (.aload_n 0, 1) := by decide +kernel
theorem dX6_votersOf_12 : decode cX6_votersOf 12 = .ok (.getfield 32, 3) := by decide +kernel
theorem dX6_votersOf_15 : decode cX6_votersOf 15 = .ok (.iload_n 3, 1) := by decide +kernel
theorem dX6_votersOf_16 : decode cX6_votersOf 16 = .ok (.iaload, 1) := by decide +kernel
theorem dX6_votersOf_17 : decode cX6_votersOf 17 = .ok (.iload_n 1, 1) := by decide +kernel
theorem dX6_votersOf_18 : decode cX6_votersOf 18 = .ok (.if_icmp .ne 12, 3) := by decide +kernel
theorem dX6_votersOf_21 : decode cX6_votersOf 21 = .ok (.aload_n 0, 1) := by decide +kernel
theorem dX6_votersOf_22 : decode cX6_votersOf 22 = .ok (.getfield 7, 3) := by decide +kernel
theorem dX6_votersOf_25 : decode cX6_votersOf 25 = .ok (.iload_n 3, 1) := by decide +kernel
theorem dX6_votersOf_26 : decode cX6_votersOf 26 = .ok (.iaload, 1) := by decide +kernel
theorem dX6_votersOf_27 : decode cX6_votersOf 27 = .ok (.goto 4, 3) := by decide +kernel
theorem dX6_votersOf_30 : decode cX6_votersOf 30 = .ok (.iconst 0, 1) := by decide +kernel
theorem dX6_votersOf_31 : decode cX6_votersOf 31 = .ok (.iadd, 1) := by decide +kernel
theorem dX6_votersOf_32 : decode cX6_votersOf 32 = .ok (.istore_n 2, 1) := by decide +kernel
theorem dX6_votersOf_33 : decode cX6_votersOf 33 = .ok (.iinc 3 1, 3) := by decide +kernel
theorem dX6_votersOf_36 : decode cX6_votersOf 36 = .ok (.goto (-32), 3) := by decide +kernel
theorem dX6_votersOf_39 : decode cX6_votersOf 39 = .ok (.iload_n 2, 1) := by decide +kernel
theorem dX6_votersOf_40 : decode cX6_votersOf 40 = .ok (.ireturn, 1) := by decide +kernel
theorem dX6_blocksOf_0 : decode cX6_blocksOf 0 = .ok (.iconst 0, 1) := by decide +kernel
theorem dX6_blocksOf_1 : decode cX6_blocksOf 1 = .ok (.istore_n 2, 1) := by decide +kernel
theorem dX6_blocksOf_2 : decode cX6_blocksOf 2 = .ok (.iconst 0, 1) := by decide +kernel
theorem dX6_blocksOf_3 : decode cX6_blocksOf 3 = .ok (.istore_n 3, 1) := by decide +kernel
theorem dX6_blocksOf_4 : decode cX6_blocksOf 4 = .ok (.iload_n 3, 1) := by decide +kernel
theorem dX6_blocksOf_5 : decode cX6_blocksOf 5 = .ok (.bipush 24, 2) := by decide +kernel
theorem dX6_blocksOf_7 : decode cX6_blocksOf 7 = .ok (.if_icmp .ge 27, 3) := by decide +kernel
theorem dX6_blocksOf_10 : decode cX6_blocksOf 10 = .ok (.iload_n 2, 1) := by decide +kernel
theorem dX6_blocksOf_11 : decode cX6_blocksOf 11 = .ok (.aload_n 0, 1) := by decide +kernel
theorem dX6_blocksOf_12 : decode cX6_blocksOf 12 = .ok (.getfield 32, 3) := by decide +kernel
theorem dX6_blocksOf_15 : decode cX6_blocksOf 15 = .ok (.iload_n 3, 1) := by decide +kernel
theorem dX6_blocksOf_16 : decode cX6_blocksOf 16 = .ok (.iaload, 1) := by decide +kernel
theorem dX6_blocksOf_17 : decode cX6_blocksOf 17 = .ok (.iload_n 1, 1) := by decide +kernel
theorem dX6_blocksOf_18 : decode cX6_blocksOf 18 = .ok (.if_icmp .ne 7, 3) := by decide +kernel
theorem dX6_blocksOf_21 : decode cX6_blocksOf 21 = .ok (.iconst 1, 1) := by decide +kernel
theorem dX6_blocksOf_22 : decode cX6_blocksOf 22 = .ok (.goto 4, 3) := by decide +kernel
theorem dX6_blocksOf_25 : decode cX6_blocksOf 25 = .ok (.iconst 0, 1) := by decide +kernel
theorem dX6_blocksOf_26 : decode cX6_blocksOf 26 = .ok (.iadd, 1) := by decide +kernel
theorem dX6_blocksOf_27 : decode cX6_blocksOf 27 = .ok (.istore_n 2, 1) := by decide +kernel
theorem dX6_blocksOf_28 : decode cX6_blocksOf 28 = .ok (.iinc 3 1, 3) := by decide +kernel
theorem dX6_blocksOf_31 : decode cX6_blocksOf 31 = .ok (.goto (-27), 3) := by decide +kernel
theorem dX6_blocksOf_34 : decode cX6_blocksOf 34 = .ok (.iload_n 2, 1) := by decide +kernel
theorem dX6_blocksOf_35 : decode cX6_blocksOf 35 = .ok (.ireturn, 1) := by decide +kernel
theorem dX6_isBeside_0 : decode cX6_isBeside 0 = .ok (.iload_n 0, 1) := by decide +kernel
theorem dX6_isBeside_1 : decode cX6_isBeside 1 = .ok (.iconst 4, 1) := by decide +kernel
theorem dX6_isBeside_2 : decode cX6_isBeside 2 = .ok (.iadd, 1) := by decide +kernel
theorem dX6_isBeside_3 : decode cX6_isBeside 3 = .ok (.iload_n 1, 1) := by decide +kernel
theorem dX6_isBeside_4 : decode cX6_isBeside 4 = .ok (.if_icmp .eq 33, 3) := by decide +kernel
theorem dX6_isBeside_7 : decode cX6_isBeside 7 = .ok (.iload_n 1, 1) := by decide +kernel
theorem dX6_isBeside_8 : decode cX6_isBeside 8 = .ok (.iconst 4, 1) := by decide +kernel
theorem dX6_isBeside_9 : decode cX6_isBeside 9 = .ok (.iadd, 1) := by decide +kernel
theorem dX6_isBeside_10 : decode cX6_isBeside 10 = .ok (.iload_n 0, 1) := by decide +kernel
theorem dX6_isBeside_11 : decode cX6_isBeside 11 = .ok (.if_icmp .eq 26, 3) := by decide +kernel
theorem dX6_isBeside_14 : decode cX6_isBeside 14 = .ok (.iload_n 0, 1) := by decide +kernel
theorem dX6_isBeside_15 : decode cX6_isBeside 15 = .ok (.iconst 4, 1) := by decide +kernel
theorem dX6_isBeside_16 : decode cX6_isBeside 16 = .ok (.idiv, 1) := by decide +kernel
theorem dX6_isBeside_17 : decode cX6_isBeside 17 = .ok (.iload_n 1, 1) := by decide +kernel
theorem dX6_isBeside_18 : decode cX6_isBeside 18 = .ok (.iconst 4, 1) := by decide +kernel
theorem dX6_isBeside_19 : decode cX6_isBeside 19 = .ok (.idiv, 1) := by decide +kernel
theorem dX6_isBeside_20 : decode cX6_isBeside 20 = .ok (.if_icmp .ne 21, 3) := by decide +kernel
theorem dX6_isBeside_23 : decode cX6_isBeside 23 = .ok (.iload_n 0, 1) := by decide +kernel
theorem dX6_isBeside_24 : decode cX6_isBeside 24 = .ok (.iconst 1, 1) := by decide +kernel
theorem dX6_isBeside_25 : decode cX6_isBeside 25 = .ok (.iadd, 1) := by decide +kernel
theorem dX6_isBeside_26 : decode cX6_isBeside 26 = .ok (.iload_n 1, 1) := by decide +kernel
theorem dX6_isBeside_27 : decode cX6_isBeside 27 = .ok (.if_icmp .eq 10, 3) := by decide +kernel
theorem dX6_isBeside_30 : decode cX6_isBeside 30 = .ok (.iload_n 1, 1) := by decide +kernel
theorem dX6_isBeside_31 : decode cX6_isBeside 31 = .ok (.iconst 1, 1) := by decide +kernel
theorem dX6_isBeside_32 : decode cX6_isBeside 32 = .ok (.iadd, 1) := by decide +kernel
theorem dX6_isBeside_33 : decode cX6_isBeside 33 = .ok (.iload_n 0, 1) := by decide +kernel
theorem dX6_isBeside_34 : decode cX6_isBeside 34 = .ok (.if_icmp .ne 7, 3) := by decide +kernel
theorem dX6_isBeside_37 : decode cX6_isBeside 37 = .ok (.iconst 1, 1) := by decide +kernel
theorem dX6_isBeside_38 : decode cX6_isBeside 38 = .ok (.goto 4, 3) := by decide +kernel
theorem dX6_isBeside_41 : decode cX6_isBeside 41 = .ok (.iconst 0, 1) := by decide +kernel
theorem dX6_isBeside_42 : decode cX6_isBeside 42 = .ok (.ireturn, 1) := by decide +kernel
theorem dX6_partsOf_0 : decode cX6_partsOf 0 = .ok (.iconst 0, 1) := by decide +kernel
theorem dX6_partsOf_1 : decode cX6_partsOf 1 = .ok (.istore_n 2, 1) := by decide +kernel
theorem dX6_partsOf_2 : decode cX6_partsOf 2 = .ok (.iconst 0, 1) := by decide +kernel
theorem dX6_partsOf_3 : decode cX6_partsOf 3 = .ok (.istore_n 3, 1) := by decide +kernel
theorem dX6_partsOf_4 : decode cX6_partsOf 4 = .ok (.iload_n 3, 1) := by decide +kernel
theorem dX6_partsOf_5 : decode cX6_partsOf 5 = .ok (.bipush 24, 2) := by decide +kernel
theorem dX6_partsOf_7 : decode cX6_partsOf 7 = .ok (.if_icmp .ge 16, 3) := by decide +kernel
theorem dX6_partsOf_10 : decode cX6_partsOf 10 = .ok (.aload_n 0, 1) := by decide +kernel
theorem dX6_partsOf_11 : decode cX6_partsOf 11 = .ok (.getfield 38, 3) := by decide +kernel
theorem dX6_partsOf_14 : decode cX6_partsOf 14 = .ok (.iload_n 3, 1) := by decide +kernel
theorem dX6_partsOf_15 : decode cX6_partsOf 15 = .ok (.iconst 0, 1) := by decide +kernel
theorem dX6_partsOf_16 : decode cX6_partsOf 16 = .ok (.iastore, 1) := by decide +kernel
theorem dX6_partsOf_17 : decode cX6_partsOf 17 = .ok (.iinc 3 1, 3) := by decide +kernel
theorem dX6_partsOf_20 : decode cX6_partsOf 20 = .ok (.goto (-16), 3) := by decide +kernel
theorem dX6_partsOf_23 : decode cX6_partsOf 23 = .ok (.iconst 0, 1) := by decide +kernel
theorem dX6_partsOf_24 : decode cX6_partsOf 24 = .ok (.istore_n 3, 1) := by decide +kernel
theorem dX6_partsOf_25 : decode cX6_partsOf 25 = .ok (.iload_n 3, 1) := by decide +kernel
theorem dX6_partsOf_26 : decode cX6_partsOf 26 = .ok (.bipush 24, 2) := by decide +kernel
theorem dX6_partsOf_28 : decode cX6_partsOf 28 = .ok (.if_icmp .ge 140, 3) := by decide +kernel
theorem dX6_partsOf_31 : decode cX6_partsOf 31 = .ok (.aload_n 0, 1) := by decide +kernel
theorem dX6_partsOf_32 : decode cX6_partsOf 32 = .ok (.getfield 32, 3) := by decide +kernel
theorem dX6_partsOf_35 : decode cX6_partsOf 35 = .ok (.iload_n 3, 1) := by decide +kernel
theorem dX6_partsOf_36 : decode cX6_partsOf 36 = .ok (.iaload, 1) := by decide +kernel
theorem dX6_partsOf_37 : decode cX6_partsOf 37 = .ok (.iload_n 1, 1) := by decide +kernel
theorem dX6_partsOf_38 : decode cX6_partsOf 38 = .ok (.if_icmp .ne 124, 3) := by decide +kernel
theorem dX6_partsOf_41 : decode cX6_partsOf 41 = .ok (.aload_n 0, 1) := by decide +kernel
theorem dX6_partsOf_42 : decode cX6_partsOf 42 = .ok (.getfield 38, 3) := by decide +kernel
theorem dX6_partsOf_45 : decode cX6_partsOf 45 = .ok (.iload_n 3, 1) := by decide +kernel
theorem dX6_partsOf_46 : decode cX6_partsOf 46 = .ok (.iaload, 1) := by decide +kernel
theorem dX6_partsOf_47 : decode cX6_partsOf 47 = .ok (.ifCond .ne 115, 3) := by decide +kernel
theorem dX6_partsOf_50 : decode cX6_partsOf 50 = .ok (.iinc 2 1, 3) := by decide +kernel
theorem dX6_partsOf_53 : decode cX6_partsOf 53 = .ok (.aload_n 0, 1) := by decide +kernel
theorem dX6_partsOf_54 : decode cX6_partsOf 54 = .ok (.getfield 38, 3) := by decide +kernel
theorem dX6_partsOf_57 : decode cX6_partsOf 57 = .ok (.iload_n 3, 1) := by decide +kernel
theorem dX6_partsOf_58 : decode cX6_partsOf 58 = .ok (.iload_n 2, 1) := by decide +kernel
theorem dX6_partsOf_59 : decode cX6_partsOf 59 = .ok (.iastore, 1) := by decide +kernel
theorem dX6_partsOf_60 : decode cX6_partsOf 60 = .ok (.iconst 0, 1) := by decide +kernel
theorem dX6_partsOf_61 : decode cX6_partsOf 61 = .ok (.istore 4, 2) := by decide +kernel
theorem dX6_partsOf_63 : decode cX6_partsOf 63 = .ok (.iload 4, 2) := by decide +kernel
theorem dX6_partsOf_65 : decode cX6_partsOf 65 = .ok (.bipush 24, 2) := by decide +kernel
theorem dX6_partsOf_67 : decode cX6_partsOf 67 = .ok (.if_icmp .ge 95, 3) := by decide +kernel
theorem dX6_partsOf_70 : decode cX6_partsOf 70 = .ok (.iconst 0, 1) := by decide +kernel
theorem dX6_partsOf_71 : decode cX6_partsOf 71 = .ok (.istore 5, 2) := by decide +kernel
theorem dX6_partsOf_73 : decode cX6_partsOf 73 = .ok (.iload 5, 2) := by decide +kernel
theorem dX6_partsOf_75 : decode cX6_partsOf 75 = .ok (.bipush 24, 2) := by decide +kernel
theorem dX6_partsOf_77 : decode cX6_partsOf 77 = .ok (.if_icmp .ge 79, 3) := by decide +kernel
theorem dX6_partsOf_80 : decode cX6_partsOf 80 = .ok (.iconst 0, 1) := by decide +kernel
theorem dX6_partsOf_81 : decode cX6_partsOf 81 = .ok (.istore 6, 2) := by decide +kernel
theorem dX6_partsOf_83 : decode cX6_partsOf 83 = .ok (.iload 6, 2) := by decide +kernel
theorem dX6_partsOf_85 : decode cX6_partsOf 85 = .ok (.bipush 24, 2) := by decide +kernel
theorem dX6_partsOf_87 : decode cX6_partsOf 87 = .ok (.if_icmp .ge 63, 3) := by decide +kernel
theorem dX6_partsOf_90 : decode cX6_partsOf 90 = .ok (.aload_n 0, 1) := by decide +kernel
theorem dX6_partsOf_91 : decode cX6_partsOf 91 = .ok (.getfield 32, 3) := by decide +kernel
theorem dX6_partsOf_94 : decode cX6_partsOf 94 = .ok (.iload 5, 2) := by decide +kernel
theorem dX6_partsOf_96 : decode cX6_partsOf 96 = .ok (.iaload, 1) := by decide +kernel
theorem dX6_partsOf_97 : decode cX6_partsOf 97 = .ok (.iload_n 1, 1) := by decide +kernel
theorem dX6_partsOf_98 : decode cX6_partsOf 98 = .ok (.if_icmp .ne 52, 3) := by decide +kernel
theorem dX6_partsOf_101 : decode cX6_partsOf 101 = .ok (.aload_n 0, 1) := by decide +kernel
theorem dX6_partsOf_102 : decode cX6_partsOf 102 = .ok (.getfield 38, 3) := by decide +kernel
theorem dX6_partsOf_105 : decode cX6_partsOf 105 = .ok (.iload 5, 2) := by decide +kernel
theorem dX6_partsOf_107 : decode cX6_partsOf 107 = .ok (.iaload, 1) := by decide +kernel
theorem dX6_partsOf_108 : decode cX6_partsOf 108 = .ok (.ifCond .ne 42, 3) := by decide +kernel
theorem dX6_partsOf_111 : decode cX6_partsOf 111 = .ok (.aload_n 0, 1) := by decide +kernel
theorem dX6_partsOf_112 : decode cX6_partsOf 112 = .ok (.getfield 38, 3) := by decide +kernel
theorem dX6_partsOf_115 : decode cX6_partsOf 115 = .ok (.iload 5, 2) := by decide +kernel
theorem dX6_partsOf_117 : decode cX6_partsOf 117 = .ok (.aload_n 0, 1) := by decide +kernel
theorem dX6_partsOf_118 : decode cX6_partsOf 118 = .ok (.getfield 38, 3) := by decide +kernel
theorem dX6_partsOf_121 : decode cX6_partsOf 121 = .ok (.iload 6, 2) := by decide +kernel
theorem dX6_partsOf_123 : decode cX6_partsOf 123 = .ok (.iaload, 1) := by decide +kernel
theorem dX6_partsOf_124 : decode cX6_partsOf 124 = .ok (.iload_n 2, 1) := by decide +kernel
theorem dX6_partsOf_125 : decode cX6_partsOf 125 = .ok (.if_icmp .ne 17, 3) := by decide +kernel
theorem dX6_partsOf_128 : decode cX6_partsOf 128 = .ok (.iload 5, 2) := by decide +kernel
theorem dX6_partsOf_130 : decode cX6_partsOf 130 = .ok (.iload 6, 2) := by decide +kernel
theorem dX6_partsOf_132 : decode cX6_partsOf 132 = .ok (.invokestatic 158, 3) := by decide +kernel
theorem dX6_partsOf_135 : decode cX6_partsOf 135 = .ok (.ifCond .eq 7, 3) := by decide +kernel
theorem dX6_partsOf_138 : decode cX6_partsOf 138 = .ok (.iload_n 2, 1) := by decide +kernel
theorem dX6_partsOf_139 : decode cX6_partsOf 139 = .ok (.goto 4, 3) := by decide +kernel
theorem dX6_partsOf_142 : decode cX6_partsOf 142 = .ok (.iconst 0, 1) := by decide +kernel
theorem dX6_partsOf_143 : decode cX6_partsOf 143 = .ok (.iastore, 1) := by decide +kernel
theorem dX6_partsOf_144 : decode cX6_partsOf 144 = .ok (.iinc 6 1, 3) := by decide +kernel
theorem dX6_partsOf_147 : decode cX6_partsOf 147 = .ok (.goto (-64), 3) := by decide +kernel
theorem dX6_partsOf_150 : decode cX6_partsOf 150 = .ok (.iinc 5 1, 3) := by decide +kernel
theorem dX6_partsOf_153 : decode cX6_partsOf 153 = .ok (.goto (-80), 3) := by decide +kernel
theorem dX6_partsOf_156 : decode cX6_partsOf 156 = .ok (.iinc 4 1, 3) := by decide +kernel
theorem dX6_partsOf_159 : decode cX6_partsOf 159 = .ok (.goto (-96), 3) := by decide +kernel
theorem dX6_partsOf_162 : decode cX6_partsOf 162 = .ok (.iinc 3 1, 3) := by decide +kernel
theorem dX6_partsOf_165 : decode cX6_partsOf 165 = .ok (.goto (-140), 3) := by decide +kernel
theorem dX6_partsOf_168 : decode cX6_partsOf 168 = .ok (.iload_n 2, 1) := by decide +kernel
theorem dX6_partsOf_169 : decode cX6_partsOf 169 = .ok (.ireturn, 1) := by decide +kernel
theorem dX6_contestsOn_0 : decode cX6_contestsOn 0 = .ok (.iconst 0, 1) := by decide +kernel
theorem dX6_contestsOn_1 : decode cX6_contestsOn 1 = .ok (.istore_n 1, 1) := by decide +kernel
theorem dX6_contestsOn_2 : decode cX6_contestsOn 2 = .ok (.iconst 0, 1) := by decide +kernel
theorem dX6_contestsOn_3 : decode cX6_contestsOn 3 = .ok (.istore_n 2, 1) := by decide +kernel
theorem dX6_contestsOn_4 : decode cX6_contestsOn 4 = .ok (.iload_n 2, 1) := by decide +kernel
theorem dX6_contestsOn_5 : decode cX6_contestsOn 5 = .ok (.iconst 4, 1) := by decide +kernel
theorem dX6_contestsOn_6 : decode cX6_contestsOn 6 = .ok (.if_icmp .ge 25, 3) := by decide +kernel
theorem dX6_contestsOn_9 : decode cX6_contestsOn 9 = .ok (.iload_n 1, 1) := by decide +kernel
theorem dX6_contestsOn_10 : decode cX6_contestsOn 10 = .ok (.aload_n 0, 1) := by decide +kernel
theorem dX6_contestsOn_11 : decode cX6_contestsOn 11 = .ok (.iload_n 2, 1) := by decide +kernel
theorem dX6_contestsOn_12 : decode cX6_contestsOn 12 = .ok (.invokevirtual 61, 3) := by decide +kernel
theorem dX6_contestsOn_15 : decode cX6_contestsOn 15 = .ok (.ifCond .eq 7, 3) := by decide +kernel
theorem dX6_contestsOn_18 : decode cX6_contestsOn 18 = .ok (.iconst 1, 1) := by decide +kernel
theorem dX6_contestsOn_19 : decode cX6_contestsOn 19 = .ok (.goto 4, 3) := by decide +kernel
theorem dX6_contestsOn_22 : decode cX6_contestsOn 22 = .ok (.iconst 0, 1) := by decide +kernel
theorem dX6_contestsOn_23 : decode cX6_contestsOn 23 = .ok (.iadd, 1) := by decide +kernel
theorem dX6_contestsOn_24 : decode cX6_contestsOn 24 = .ok (.istore_n 1, 1) := by decide +kernel
theorem dX6_contestsOn_25 : decode cX6_contestsOn 25 = .ok (.iinc 2 1, 3) := by decide +kernel
theorem dX6_contestsOn_28 : decode cX6_contestsOn 28 = .ok (.goto (-24), 3) := by decide +kernel
theorem dX6_contestsOn_31 : decode cX6_contestsOn 31 = .ok (.iload_n 1, 1) := by decide +kernel
theorem dX6_contestsOn_32 : decode cX6_contestsOn 32 = .ok (.ireturn, 1) := by decide +kernel
theorem dX6_style_0 : decode cX6_style 0 = .ok (.aload_n 0, 1) := by decide +kernel
theorem dX6_style_1 : decode cX6_style 1 = .ok (.iload_n 1, 1) := by decide +kernel
theorem dX6_style_2 : decode cX6_style 2 = .ok (.invokevirtual 161, 3) := by decide +kernel
theorem dX6_style_5 : decode cX6_style 5 = .ok (.ifCond .eq 12, 3) := by decide +kernel
theorem dX6_style_8 : decode cX6_style 8 = .ok (.iload_n 2, 1) := by decide +kernel
theorem dX6_style_9 : decode cX6_style 9 = .ok (.iconst 0, 1) := by decide +kernel
theorem dX6_style_10 : decode cX6_style 10 = .ok (.iconst 4, 1) := by decide +kernel
theorem dX6_style_11 : decode cX6_style 11 = .ok (.invokestatic 53, 3) := by decide +kernel
theorem dX6_style_14 : decode cX6_style 14 = .ok (.ifCond .ne 10, 3) := by decide +kernel
theorem dX6_style_17 : decode cX6_style 17 = .ok (.aload_n 0, 1) := by decide +kernel
theorem dX6_style_18 : decode cX6_style 18 = .ok (.bipush (-2), 2) := by decide +kernel
theorem dX6_style_20 : decode cX6_style 20 = .ok (.invokevirtual 68, 3) := by decide +kernel
theorem dX6_style_23 : decode cX6_style 23 = .ok (.ireturn, 1) := by decide +kernel
theorem dX6_style_24 : decode cX6_style 24 = .ok (.iload_n 2, 1) := by decide +kernel
theorem dX6_style_25 : decode cX6_style 25 = .ok (.tableswitch 54 0 3 #[31, 37, 43, 49], 31) := by decide +kernel
theorem dX6_style_56 : decode cX6_style 56 = .ok (.aload_n 0, 1) := by decide +kernel
theorem dX6_style_57 : decode cX6_style 57 = .ok (.iload_n 1, 1) := by decide +kernel
theorem dX6_style_58 : decode cX6_style 58 = .ok (.invokevirtual 164, 3) := by decide +kernel
theorem dX6_style_61 : decode cX6_style 61 = .ok (.ireturn, 1) := by decide +kernel
theorem dX6_style_62 : decode cX6_style 62 = .ok (.aload_n 0, 1) := by decide +kernel
theorem dX6_style_63 : decode cX6_style 63 = .ok (.iload_n 1, 1) := by decide +kernel
theorem dX6_style_64 : decode cX6_style 64 = .ok (.invokevirtual 167, 3) := by decide +kernel
theorem dX6_style_67 : decode cX6_style 67 = .ok (.ireturn, 1) := by decide +kernel
theorem dX6_style_68 : decode cX6_style 68 = .ok (.aload_n 0, 1) := by decide +kernel
theorem dX6_style_69 : decode cX6_style 69 = .ok (.iload_n 1, 1) := by decide +kernel
theorem dX6_style_70 : decode cX6_style 70 = .ok (.invokevirtual 170, 3) := by decide +kernel
theorem dX6_style_73 : decode cX6_style 73 = .ok (.ireturn, 1) := by decide +kernel
theorem dX6_style_74 : decode cX6_style 74 = .ok (.aload_n 0, 1) := by decide +kernel
theorem dX6_style_75 : decode cX6_style 75 = .ok (.invokevirtual 173, 3) := by decide +kernel
theorem dX6_style_78 : decode cX6_style 78 = .ok (.ireturn, 1) := by decide +kernel
theorem dX6_style_79 : decode cX6_style 79 = .ok (.aload_n 0, 1) := by decide +kernel
theorem dX6_style_80 : decode cX6_style 80 = .ok (.getfield 35, 3) := by decide +kernel
theorem dX6_style_83 : decode cX6_style 83 = .ok (.iload_n 1, 1) := by decide +kernel
theorem dX6_style_84 : decode cX6_style 84 = .ok (.iaload, 1) := by decide +kernel
theorem dX6_style_85 : decode cX6_style 85 = .ok (.ireturn, 1) := by decide +kernel
theorem dX6_without_0 : decode cX6_without 0 = .ok (.iload_n 1, 1) := by decide +kernel
theorem dX6_without_1 : decode cX6_without 1 = .ok (.invokestatic 65, 3) := by decide +kernel
theorem dX6_without_4 : decode cX6_without 4 = .ok (.ifCond .ne 10, 3) := by decide +kernel
theorem dX6_without_7 : decode cX6_without 7 = .ok (.aload_n 0, 1) := by decide +kernel
theorem dX6_without_8 : decode cX6_without 8 = .ok (.bipush (-2), 2) := by decide +kernel
theorem dX6_without_10 : decode cX6_without 10 = .ok (.invokevirtual 68, 3) := by decide +kernel
theorem dX6_without_13 : decode cX6_without 13 = .ok (.ireturn, 1) := by decide +kernel
theorem dX6_without_14 : decode cX6_without 14 = .ok (.aload_n 0, 1) := by decide +kernel
theorem dX6_without_15 : decode cX6_without 15 = .ok (.getfield 7, 3) := by decide +kernel
theorem dX6_without_18 : decode cX6_without 18 = .ok (.sipush 144, 3) := by decide +kernel
theorem dX6_without_21 : decode cX6_without 21 = .ok (.iaload, 1) := by decide +kernel
theorem dX6_without_22 : decode cX6_without 22 = .ok (.istore_n 2, 1) := by decide +kernel
theorem dX6_without_23 : decode cX6_without 23 = .ok (.aload_n 0, 1) := by decide +kernel
theorem dX6_without_24 : decode cX6_without 24 = .ok (.getfield 7, 3) := by decide +kernel
theorem dX6_without_27 : decode cX6_without 27 = .ok (.sipush 144, 3) := by decide +kernel
theorem dX6_without_30 : decode cX6_without 30 = .ok (.dup2, 1) := by decide +kernel
theorem dX6_without_31 : decode cX6_without 31 = .ok (.iaload, 1) := by decide +kernel
theorem dX6_without_32 : decode cX6_without 32 = .ok (.iconst 1, 1) := by decide +kernel
theorem dX6_without_33 : decode cX6_without 33 = .ok (.iload_n 1, 1) := by decide +kernel
theorem dX6_without_34 : decode cX6_without 34 = .ok (.ishl, 1) := by decide +kernel
theorem dX6_without_35 : decode cX6_without 35 = .ok (.ixor, 1) := by decide +kernel
theorem dX6_without_36 : decode cX6_without 36 = .ok (.iastore, 1) := by decide +kernel
theorem dX6_without_37 : decode cX6_without 37 = .ok (.aload_n 0, 1) := by decide +kernel
theorem dX6_without_38 : decode cX6_without 38 = .ok (.invokevirtual 112, 3) := by decide +kernel
theorem dX6_without_41 : decode cX6_without 41 = .ok (.aload_n 0, 1) := by decide +kernel
theorem dX6_without_42 : decode cX6_without 42 = .ok (.getfield 7, 3) := by decide +kernel
theorem dX6_without_45 : decode cX6_without 45 = .ok (.sipush 144, 3) := by decide +kernel
theorem dX6_without_48 : decode cX6_without 48 = .ok (.iload_n 2, 1) := by decide +kernel
theorem dX6_without_49 : decode cX6_without 49 = .ok (.iastore, 1) := by decide +kernel
theorem dX6_without_50 : decode cX6_without 50 = .ok (.aload_n 0, 1) := by decide +kernel
theorem dX6_without_51 : decode cX6_without 51 = .ok (.getfield 152, 3) := by decide +kernel
theorem dX6_without_54 : decode cX6_without 54 = .ok (.ireturn, 1) := by decide +kernel
theorem dX6_borderOf_0 : decode cX6_borderOf 0 = .ok (.aload_n 0, 1) := by decide +kernel
theorem dX6_borderOf_1 : decode cX6_borderOf 1 = .ok (.invokevirtual 112, 3) := by decide +kernel
theorem dX6_borderOf_4 : decode cX6_borderOf 4 = .ok (.iconst 0, 1) := by decide +kernel
theorem dX6_borderOf_5 : decode cX6_borderOf 5 = .ok (.istore_n 1, 1) := by decide +kernel
theorem dX6_borderOf_6 : decode cX6_borderOf 6 = .ok (.iconst 0, 1) := by decide +kernel
theorem dX6_borderOf_7 : decode cX6_borderOf 7 = .ok (.istore_n 2, 1) := by decide +kernel
theorem dX6_borderOf_8 : decode cX6_borderOf 8 = .ok (.iload_n 2, 1) := by decide +kernel
theorem dX6_borderOf_9 : decode cX6_borderOf 9 = .ok (.bipush 24, 2) := by decide +kernel
theorem dX6_borderOf_11 : decode cX6_borderOf 11 = .ok (.if_icmp .ge 56, 3) := by decide +kernel
theorem dX6_borderOf_14 : decode cX6_borderOf 14 = .ok (.iload_n 2, 1) := by decide +kernel
theorem dX6_borderOf_15 : decode cX6_borderOf 15 = .ok (.iconst 1, 1) := by decide +kernel
theorem dX6_borderOf_16 : decode cX6_borderOf 16 = .ok (.iadd, 1) := by decide +kernel
theorem dX6_borderOf_17 : decode cX6_borderOf 17 = .ok (.istore_n 3, 1) := by decide +kernel
theorem dX6_borderOf_18 : decode cX6_borderOf 18 = .ok (.iload_n 3, 1) := by decide +kernel
theorem dX6_borderOf_19 : decode cX6_borderOf 19 = .ok (.bipush 24, 2) := by decide +kernel
theorem dX6_borderOf_21 : decode cX6_borderOf 21 = .ok (.if_icmp .ge 40, 3) := by decide +kernel
theorem dX6_borderOf_24 : decode cX6_borderOf 24 = .ok (.iload_n 1, 1) := by decide +kernel
theorem dX6_borderOf_25 : decode cX6_borderOf 25 = .ok (.iload_n 2, 1) := by decide +kernel
theorem dX6_borderOf_26 : decode cX6_borderOf 26 = .ok (.iload_n 3, 1) := by decide +kernel
theorem dX6_borderOf_27 : decode cX6_borderOf 27 = .ok (.invokestatic 158, 3) := by decide +kernel
theorem dX6_borderOf_30 : decode cX6_borderOf 30 = .ok (.ifCond .eq 22, 3) := by decide +kernel
theorem dX6_borderOf_33 : decode cX6_borderOf 33 = .ok (.aload_n 0, 1) := by decide +kernel
theorem dX6_borderOf_34 : decode cX6_borderOf 34 = .ok (.getfield 32, 3) := by decide +kernel
theorem dX6_borderOf_37 : decode cX6_borderOf 37 = .ok (.iload_n 2, 1) := by decide +kernel
theorem dX6_borderOf_38 : decode cX6_borderOf 38 = .ok (.iaload, 1) := by decide +kernel
theorem dX6_borderOf_39 : decode cX6_borderOf 39 = .ok (.aload_n 0, 1) := by decide +kernel
theorem dX6_borderOf_40 : decode cX6_borderOf 40 = .ok (.getfield 32, 3) := by decide +kernel
theorem dX6_borderOf_43 : decode cX6_borderOf 43 = .ok (.iload_n 3, 1) := by decide +kernel
theorem dX6_borderOf_44 : decode cX6_borderOf 44 = .ok (.iaload, 1) := by decide +kernel
theorem dX6_borderOf_45 : decode cX6_borderOf 45 = .ok (.if_icmp .eq 7, 3) := by decide +kernel
theorem dX6_borderOf_48 : decode cX6_borderOf 48 = .ok (.iconst 1, 1) := by decide +kernel
theorem dX6_borderOf_49 : decode cX6_borderOf 49 = .ok (.goto 4, 3) := by decide +kernel
theorem dX6_borderOf_52 : decode cX6_borderOf 52 = .ok (.iconst 0, 1) := by decide +kernel
theorem dX6_borderOf_53 : decode cX6_borderOf 53 = .ok (.iadd, 1) := by decide +kernel
theorem dX6_borderOf_54 : decode cX6_borderOf 54 = .ok (.istore_n 1, 1) := by decide +kernel
theorem dX6_borderOf_55 : decode cX6_borderOf 55 = .ok (.iinc 3 1, 3) := by decide +kernel
theorem dX6_borderOf_58 : decode cX6_borderOf 58 = .ok (.goto (-40), 3) := by decide +kernel
theorem dX6_borderOf_61 : decode cX6_borderOf 61 = .ok (.iinc 2 1, 3) := by decide +kernel
theorem dX6_borderOf_64 : decode cX6_borderOf 64 = .ok (.goto (-56), 3) := by decide +kernel
theorem dX6_borderOf_67 : decode cX6_borderOf 67 = .ok (.iload_n 1, 1) := by decide +kernel
theorem dX6_borderOf_68 : decode cX6_borderOf 68 = .ok (.ireturn, 1) := by decide +kernel
theorem dX6_border_0 : decode cX6_border 0 = .ok (.aload_n 0, 1) := by decide +kernel
theorem dX6_border_1 : decode cX6_border 1 = .ok (.invokevirtual 176, 3) := by decide +kernel
theorem dX6_border_4 : decode cX6_border 4 = .ok (.ireturn, 1) := by decide +kernel
theorem dX6_beside_0 : decode cX6_beside 0 = .ok (.aload_n 0, 1) := by decide +kernel
theorem dX6_beside_1 : decode cX6_beside 1 = .ok (.iload_n 1, 1) := by decide +kernel
theorem dX6_beside_2 : decode cX6_beside 2 = .ok (.invokevirtual 161, 3) := by decide +kernel
theorem dX6_beside_5 : decode cX6_beside 5 = .ok (.ifCond .eq 16, 3) := by decide +kernel
theorem dX6_beside_8 : decode cX6_beside 8 = .ok (.aload_n 0, 1) := by decide +kernel
theorem dX6_beside_9 : decode cX6_beside 9 = .ok (.iload_n 2, 1) := by decide +kernel
theorem dX6_beside_10 : decode cX6_beside 10 = .ok (.invokevirtual 161, 3) := by decide +kernel
theorem dX6_beside_13 : decode cX6_beside 13 = .ok (.ifCond .eq 8, 3) := by decide +kernel
theorem dX6_beside_16 : decode cX6_beside 16 = .ok (.iload_n 1, 1) := by decide +kernel
theorem dX6_beside_17 : decode cX6_beside 17 = .ok (.iload_n 2, 1) := by decide +kernel
theorem dX6_beside_18 : decode cX6_beside 18 = .ok (.if_icmp .ne 10, 3) := by decide +kernel
theorem dX6_beside_21 : decode cX6_beside 21 = .ok (.aload_n 0, 1) := by decide +kernel
theorem dX6_beside_22 : decode cX6_beside 22 = .ok (.bipush (-2), 2) := by decide +kernel
theorem dX6_beside_24 : decode cX6_beside 24 = .ok (.invokevirtual 68, 3) := by decide +kernel
theorem dX6_beside_27 : decode cX6_beside 27 = .ok (.ireturn, 1) := by decide +kernel
theorem dX6_beside_28 : decode cX6_beside 28 = .ok (.iconst 0, 1) := by decide +kernel
theorem dX6_beside_29 : decode cX6_beside 29 = .ok (.istore_n 3, 1) := by decide +kernel
theorem dX6_beside_30 : decode cX6_beside 30 = .ok (.iconst 0, 1) := by decide +kernel
theorem dX6_beside_31 : decode cX6_beside 31 = .ok (.istore 4, 2) := by decide +kernel
theorem dX6_beside_33 : decode cX6_beside 33 = .ok (.iload 4, 2) := by decide +kernel
theorem dX6_beside_35 : decode cX6_beside 35 = .ok (.bipush 24, 2) := by decide +kernel
theorem dX6_beside_37 : decode cX6_beside 37 = .ok (.if_icmp .ge 65, 3) := by decide +kernel
theorem dX6_beside_40 : decode cX6_beside 40 = .ok (.iconst 0, 1) := by decide +kernel
theorem dX6_beside_41 : decode cX6_beside 41 = .ok (.istore 5, 2) := by decide +kernel
theorem dX6_beside_43 : decode cX6_beside 43 = .ok (.iload 5, 2) := by decide +kernel
theorem dX6_beside_45 : decode cX6_beside 45 = .ok (.bipush 24, 2) := by decide +kernel
theorem dX6_beside_47 : decode cX6_beside 47 = .ok (.if_icmp .ge 49, 3) := by decide +kernel
theorem dX6_beside_50 : decode cX6_beside 50 = .ok (.iload_n 3, 1) := by decide +kernel
theorem dX6_beside_51 : decode cX6_beside 51 = .ok (.iload 4, 2) := by decide +kernel
theorem dX6_beside_53 : decode cX6_beside 53 = .ok (.iload 5, 2) := by decide +kernel
theorem dX6_beside_55 : decode cX6_beside 55 = .ok (.invokestatic 158, 3) := by decide +kernel
theorem dX6_beside_58 : decode cX6_beside 58 = .ok (.ifCond .eq 29, 3) := by decide +kernel
theorem dX6_beside_61 : decode cX6_beside 61 = .ok (.aload_n 0, 1) := by decide +kernel
theorem dX6_beside_62 : decode cX6_beside 62 = .ok (.getfield 32, 3) := by decide +kernel
theorem dX6_beside_65 : decode cX6_beside 65 = .ok (.iload 4, 2) := by decide +kernel
theorem dX6_beside_67 : decode cX6_beside 67 = .ok (.iaload, 1) := by decide +kernel
theorem dX6_beside_68 : decode cX6_beside 68 = .ok (.iload_n 1, 1) := by decide +kernel
theorem dX6_beside_69 : decode cX6_beside 69 = .ok (.if_icmp .ne 18, 3) := by decide +kernel
theorem dX6_beside_72 : decode cX6_beside 72 = .ok (.aload_n 0, 1) := by decide +kernel
theorem dX6_beside_73 : decode cX6_beside 73 = .ok (.getfield 32, 3) := by decide +kernel
theorem dX6_beside_76 : decode cX6_beside 76 = .ok (.iload 5, 2) := by decide +kernel
theorem dX6_beside_78 : decode cX6_beside 78 = .ok (.iaload, 1) := by decide +kernel
theorem dX6_beside_79 : decode cX6_beside 79 = .ok (.iload_n 2, 1) := by decide +kernel
theorem dX6_beside_80 : decode cX6_beside 80 = .ok (.if_icmp .ne 7, 3) := by decide +kernel
theorem dX6_beside_83 : decode cX6_beside 83 = .ok (.iconst 1, 1) := by decide +kernel
theorem dX6_beside_84 : decode cX6_beside 84 = .ok (.goto 4, 3) := by decide +kernel
theorem dX6_beside_87 : decode cX6_beside 87 = .ok (.iconst 0, 1) := by decide +kernel
theorem dX6_beside_88 : decode cX6_beside 88 = .ok (.iadd, 1) := by decide +kernel
theorem dX6_beside_89 : decode cX6_beside 89 = .ok (.istore_n 3, 1) := by decide +kernel
theorem dX6_beside_90 : decode cX6_beside 90 = .ok (.iinc 5 1, 3) := by decide +kernel
theorem dX6_beside_93 : decode cX6_beside 93 = .ok (.goto (-50), 3) := by decide +kernel
theorem dX6_beside_96 : decode cX6_beside 96 = .ok (.iinc 4 1, 3) := by decide +kernel
theorem dX6_beside_99 : decode cX6_beside 99 = .ok (.goto (-66), 3) := by decide +kernel
theorem dX6_beside_102 : decode cX6_beside 102 = .ok (.iload_n 3, 1) := by decide +kernel
theorem dX6_beside_103 : decode cX6_beside 103 = .ok (.ireturn, 1) := by decide +kernel
theorem dX6_unlike_0 : decode cX6_unlike 0 = .ok (.aload_n 0, 1) := by decide +kernel
theorem dX6_unlike_1 : decode cX6_unlike 1 = .ok (.iload_n 1, 1) := by decide +kernel
theorem dX6_unlike_2 : decode cX6_unlike 2 = .ok (.invokevirtual 161, 3) := by decide +kernel
theorem dX6_unlike_5 : decode cX6_unlike 5 = .ok (.ifCond .eq 11, 3) := by decide +kernel
theorem dX6_unlike_8 : decode cX6_unlike 8 = .ok (.aload_n 0, 1) := by decide +kernel
theorem dX6_unlike_9 : decode cX6_unlike 9 = .ok (.iload_n 2, 1) := by decide +kernel
theorem dX6_unlike_10 : decode cX6_unlike 10 = .ok (.invokevirtual 161, 3) := by decide +kernel
theorem dX6_unlike_13 : decode cX6_unlike 13 = .ok (.ifCond .ne 10, 3) := by decide +kernel
theorem dX6_unlike_16 : decode cX6_unlike 16 = .ok (.aload_n 0, 1) := by decide +kernel
theorem dX6_unlike_17 : decode cX6_unlike 17 = .ok (.bipush (-2), 2) := by decide +kernel
theorem dX6_unlike_19 : decode cX6_unlike 19 = .ok (.invokevirtual 68, 3) := by decide +kernel
theorem dX6_unlike_22 : decode cX6_unlike 22 = .ok (.ireturn, 1) := by decide +kernel
theorem dX6_unlike_23 : decode cX6_unlike 23 = .ok (.iconst 0, 1) := by decide +kernel
theorem dX6_unlike_24 : decode cX6_unlike 24 = .ok (.istore_n 3, 1) := by decide +kernel
theorem dX6_unlike_25 : decode cX6_unlike 25 = .ok (.iconst 0, 1) := by decide +kernel
theorem dX6_unlike_26 : decode cX6_unlike 26 = .ok (.istore 4, 2) := by decide +kernel
theorem dX6_unlike_28 : decode cX6_unlike 28 = .ok (.iload 4, 2) := by decide +kernel
theorem dX6_unlike_30 : decode cX6_unlike 30 = .ok (.iconst 4, 1) := by decide +kernel
theorem dX6_unlike_31 : decode cX6_unlike 31 = .ok (.if_icmp .ge 53, 3) := by decide +kernel
theorem dX6_unlike_34 : decode cX6_unlike 34 = .ok (.iload_n 3, 1) := by decide +kernel
theorem dX6_unlike_35 : decode cX6_unlike 35 = .ok (.aload_n 0, 1) := by decide +kernel
theorem dX6_unlike_36 : decode cX6_unlike 36 = .ok (.iload 4, 2) := by decide +kernel
theorem dX6_unlike_38 : decode cX6_unlike 38 = .ok (.invokevirtual 61, 3) := by decide +kernel
theorem dX6_unlike_41 : decode cX6_unlike 41 = .ok (.ifCond .eq 34, 3) := by decide +kernel
theorem dX6_unlike_44 : decode cX6_unlike 44 = .ok (.aload_n 0, 1) := by decide +kernel
theorem dX6_unlike_45 : decode cX6_unlike 45 = .ok (.iload 4, 2) := by decide +kernel
theorem dX6_unlike_47 : decode cX6_unlike 47 = .ok (.aload_n 0, 1) := by decide +kernel
theorem dX6_unlike_48 : decode cX6_unlike 48 = .ok (.getfield 35, 3) := by decide +kernel
theorem dX6_unlike_51 : decode cX6_unlike 51 = .ok (.iload_n 1, 1) := by decide +kernel
theorem dX6_unlike_52 : decode cX6_unlike 52 = .ok (.iaload, 1) := by decide +kernel
theorem dX6_unlike_53 : decode cX6_unlike 53 = .ok (.invokevirtual 79, 3) := by decide +kernel
theorem dX6_unlike_56 : decode cX6_unlike 56 = .ok (.aload_n 0, 1) := by decide +kernel
theorem dX6_unlike_57 : decode cX6_unlike 57 = .ok (.iload 4, 2) := by decide +kernel
theorem dX6_unlike_59 : decode cX6_unlike 59 = .ok (.aload_n 0, 1) := by decide +kernel
theorem dX6_unlike_60 : decode cX6_unlike 60 = .ok (.getfield 35, 3) := by decide +kernel
theorem dX6_unlike_63 : decode cX6_unlike 63 = .ok (.iload_n 2, 1) := by decide +kernel
theorem dX6_unlike_64 : decode cX6_unlike 64 = .ok (.iaload, 1) := by decide +kernel
theorem dX6_unlike_65 : decode cX6_unlike 65 = .ok (.invokevirtual 79, 3) := by decide +kernel
theorem dX6_unlike_68 : decode cX6_unlike 68 = .ok (.if_icmp .eq 7, 3) := by decide +kernel
theorem dX6_unlike_71 : decode cX6_unlike 71 = .ok (.iconst 1, 1) := by decide +kernel
theorem dX6_unlike_72 : decode cX6_unlike 72 = .ok (.goto 4, 3) := by decide +kernel
theorem dX6_unlike_75 : decode cX6_unlike 75 = .ok (.iconst 0, 1) := by decide +kernel
theorem dX6_unlike_76 : decode cX6_unlike 76 = .ok (.iadd, 1) := by decide +kernel
theorem dX6_unlike_77 : decode cX6_unlike 77 = .ok (.istore_n 3, 1) := by decide +kernel
theorem dX6_unlike_78 : decode cX6_unlike 78 = .ok (.iinc 4 1, 3) := by decide +kernel
theorem dX6_unlike_81 : decode cX6_unlike 81 = .ok (.goto (-53), 3) := by decide +kernel
theorem dX6_unlike_84 : decode cX6_unlike 84 = .ok (.iload_n 3, 1) := by decide +kernel
theorem dX6_unlike_85 : decode cX6_unlike 85 = .ok (.ireturn, 1) := by decide +kernel
theorem dX6_odd_0 : decode cX6_odd 0 = .ok (.iload_n 1, 1) := by decide +kernel
theorem dX6_odd_1 : decode cX6_odd 1 = .ok (.iconst 0, 1) := by decide +kernel
theorem dX6_odd_2 : decode cX6_odd 2 = .ok (.iconst 1, 1) := by decide +kernel
theorem dX6_odd_3 : decode cX6_odd 3 = .ok (.invokestatic 53, 3) := by decide +kernel
theorem dX6_odd_6 : decode cX6_odd 6 = .ok (.ifCond .ne 10, 3) := by decide +kernel
theorem dX6_odd_9 : decode cX6_odd 9 = .ok (.aload_n 0, 1) := by decide +kernel
theorem dX6_odd_10 : decode cX6_odd 10 = .ok (.bipush (-2), 2) := by decide +kernel
theorem dX6_odd_12 : decode cX6_odd 12 = .ok (.invokevirtual 68, 3) := by decide +kernel
theorem dX6_odd_15 : decode cX6_odd 15 = .ok (.ireturn, 1) := by decide +kernel
theorem dX6_odd_16 : decode cX6_odd 16 = .ok (.aload_n 0, 1) := by decide +kernel
theorem dX6_odd_17 : decode cX6_odd 17 = .ok (.invokevirtual 112, 3) := by decide +kernel
theorem dX6_odd_20 : decode cX6_odd 20 = .ok (.iconst 0, 1) := by decide +kernel
theorem dX6_odd_21 : decode cX6_odd 21 = .ok (.istore_n 2, 1) := by decide +kernel
theorem dX6_odd_22 : decode cX6_odd 22 = .ok (.iconst 1, 1) := by decide +kernel
theorem dX6_odd_23 : decode cX6_odd 23 = .ok (.istore_n 3, 1) := by decide +kernel
theorem dX6_odd_24 : decode cX6_odd 24 = .ok (.iload_n 3, 1) := by decide +kernel
theorem dX6_odd_25 : decode cX6_odd 25 = .ok (.aload_n 0, 1) := by decide +kernel
theorem dX6_odd_26 : decode cX6_odd 26 = .ok (.getfield 152, 3) := by decide +kernel
theorem dX6_odd_29 : decode cX6_odd 29 = .ok (.if_icmp .ge 65, 3) := by decide +kernel
theorem dX6_odd_32 : decode cX6_odd 32 = .ok (.iload_n 1, 1) := by decide +kernel
theorem dX6_odd_33 : decode cX6_odd 33 = .ok (.ifCond .ne 24, 3) := by decide +kernel
theorem dX6_odd_36 : decode cX6_odd 36 = .ok (.aload_n 0, 1) := by decide +kernel
theorem dX6_odd_37 : decode cX6_odd 37 = .ok (.iload_n 3, 1) := by decide +kernel
theorem dX6_odd_38 : decode cX6_odd 38 = .ok (.invokevirtual 167, 3) := by decide +kernel
theorem dX6_odd_41 : decode cX6_odd 41 = .ok (.aload_n 0, 1) := by decide +kernel
theorem dX6_odd_42 : decode cX6_odd 42 = .ok (.iload_n 2, 1) := by decide +kernel
theorem dX6_odd_43 : decode cX6_odd 43 = .ok (.invokevirtual 167, 3) := by decide +kernel
theorem dX6_odd_46 : decode cX6_odd 46 = .ok (.if_icmp .ge 7, 3) := by decide +kernel
theorem dX6_odd_49 : decode cX6_odd 49 = .ok (.iconst 1, 1) := by decide +kernel
theorem dX6_odd_50 : decode cX6_odd 50 = .ok (.goto 25, 3) := by decide +kernel
theorem dX6_odd_53 : decode cX6_odd 53 = .ok (.iconst 0, 1) := by decide +kernel
theorem dX6_odd_54 : decode cX6_odd 54 = .ok (.goto 21, 3) := by decide +kernel
theorem dX6_odd_57 : decode cX6_odd 57 = .ok (.aload_n 0, 1) := by decide +kernel
theorem dX6_odd_58 : decode cX6_odd 58 = .ok (.iload_n 3, 1) := by decide +kernel
theorem dX6_odd_59 : decode cX6_odd 59 = .ok (.invokevirtual 170, 3) := by decide +kernel
theorem dX6_odd_62 : decode cX6_odd 62 = .ok (.aload_n 0, 1) := by decide +kernel
theorem dX6_odd_63 : decode cX6_odd 63 = .ok (.iload_n 2, 1) := by decide +kernel
theorem dX6_odd_64 : decode cX6_odd 64 = .ok (.invokevirtual 170, 3) := by decide +kernel
theorem dX6_odd_67 : decode cX6_odd 67 = .ok (.if_icmp .le 7, 3) := by decide +kernel
theorem dX6_odd_70 : decode cX6_odd 70 = .ok (.iconst 1, 1) := by decide +kernel
theorem dX6_odd_71 : decode cX6_odd 71 = .ok (.goto 4, 3) := by decide +kernel
theorem dX6_odd_74 : decode cX6_odd 74 = .ok (.iconst 0, 1) := by decide +kernel
theorem dX6_odd_75 : decode cX6_odd 75 = .ok (.istore 4, 2) := by decide +kernel
theorem dX6_odd_77 : decode cX6_odd 77 = .ok (.iload 4, 2) := by decide +kernel
theorem dX6_odd_79 : decode cX6_odd 79 = .ok (.ifCond .eq 7, 3) := by decide +kernel
theorem dX6_odd_82 : decode cX6_odd 82 = .ok (.iload_n 3, 1) := by decide +kernel
theorem dX6_odd_83 : decode cX6_odd 83 = .ok (.goto 4, 3) := by decide +kernel
theorem dX6_odd_86 : decode cX6_odd 86 = .ok (.iload_n 2, 1) := by decide +kernel
theorem dX6_odd_87 : decode cX6_odd 87 = .ok (.istore_n 2, 1) := by decide +kernel
theorem dX6_odd_88 : decode cX6_odd 88 = .ok (.iinc 3 1, 3) := by decide +kernel
theorem dX6_odd_91 : decode cX6_odd 91 = .ok (.goto (-67), 3) := by decide +kernel
theorem dX6_odd_94 : decode cX6_odd 94 = .ok (.iload_n 2, 1) := by decide +kernel
theorem dX6_odd_95 : decode cX6_odd 95 = .ok (.ireturn, 1) := by decide +kernel
theorem dX6_paper_0 : decode cX6_paper 0 = .ok (.iload_n 1, 1) := by decide +kernel
theorem dX6_paper_1 : decode cX6_paper 1 = .ok (.ifCond .ne 12, 3) := by decide +kernel
theorem dX6_paper_4 : decode cX6_paper 4 = .ok (.iload_n 2, 1) := by decide +kernel
theorem dX6_paper_5 : decode cX6_paper 5 = .ok (.iconst 1, 1) := by decide +kernel
theorem dX6_paper_6 : decode cX6_paper 6 = .ok (.iconst 3, 1) := by decide +kernel
theorem dX6_paper_7 : decode cX6_paper 7 = .ok (.invokestatic 53, 3) := by decide +kernel
theorem dX6_paper_10 : decode cX6_paper 10 = .ok (.goto 37, 3) := by decide +kernel
theorem dX6_paper_13 : decode cX6_paper 13 = .ok (.iload_n 1, 1) := by decide +kernel
theorem dX6_paper_14 : decode cX6_paper 14 = .ok (.iconst 1, 1) := by decide +kernel
theorem dX6_paper_15 : decode cX6_paper 15 = .ok (.if_icmp .ne 13, 3) := by decide +kernel
theorem dX6_paper_18 : decode cX6_paper 18 = .ok (.iload_n 2, 1) := by decide +kernel
theorem dX6_paper_19 : decode cX6_paper 19 = .ok (.iconst 4, 1) := by decide +kernel
theorem dX6_paper_20 : decode cX6_paper 20 = .ok (.bipush 30, 2) := by decide +kernel
theorem dX6_paper_22 : decode cX6_paper 22 = .ok (.invokestatic 53, 3) := by decide +kernel
theorem dX6_paper_25 : decode cX6_paper 25 = .ok (.goto 22, 3) := by decide +kernel
theorem dX6_paper_28 : decode cX6_paper 28 = .ok (.iload_n 1, 1) := by decide +kernel
theorem dX6_paper_29 : decode cX6_paper 29 = .ok (.iconst 2, 1) := by decide +kernel
theorem dX6_paper_30 : decode cX6_paper 30 = .ok (.if_icmp .ne 16, 3) := by decide +kernel
theorem dX6_paper_33 : decode cX6_paper 33 = .ok (.iload_n 2, 1) := by decide +kernel
theorem dX6_paper_34 : decode cX6_paper 34 = .ok (.iconst 0, 1) := by decide +kernel
theorem dX6_paper_35 : decode cX6_paper 35 = .ok (.iconst 3, 1) := by decide +kernel
theorem dX6_paper_36 : decode cX6_paper 36 = .ok (.invokestatic 53, 3) := by decide +kernel
theorem dX6_paper_39 : decode cX6_paper 39 = .ok (.ifCond .eq 7, 3) := by decide +kernel
theorem dX6_paper_42 : decode cX6_paper 42 = .ok (.iconst 1, 1) := by decide +kernel
theorem dX6_paper_43 : decode cX6_paper 43 = .ok (.goto 4, 3) := by decide +kernel
theorem dX6_paper_46 : decode cX6_paper 46 = .ok (.iconst 0, 1) := by decide +kernel
theorem dX6_paper_47 : decode cX6_paper 47 = .ok (.istore_n 3, 1) := by decide +kernel
theorem dX6_paper_48 : decode cX6_paper 48 = .ok (.iload_n 3, 1) := by decide +kernel
theorem dX6_paper_49 : decode cX6_paper 49 = .ok (.ifCond .ne 10, 3) := by decide +kernel
theorem dX6_paper_52 : decode cX6_paper 52 = .ok (.aload_n 0, 1) := by decide +kernel
theorem dX6_paper_53 : decode cX6_paper 53 = .ok (.bipush (-2), 2) := by decide +kernel
theorem dX6_paper_55 : decode cX6_paper 55 = .ok (.invokevirtual 68, 3) := by decide +kernel
theorem dX6_paper_58 : decode cX6_paper 58 = .ok (.ireturn, 1) := by decide +kernel
theorem dX6_paper_59 : decode cX6_paper 59 = .ok (.aload_n 0, 1) := by decide +kernel
theorem dX6_paper_60 : decode cX6_paper 60 = .ok (.getfield 16, 3) := by decide +kernel
theorem dX6_paper_63 : decode cX6_paper 63 = .ok (.iload_n 1, 1) := by decide +kernel
theorem dX6_paper_64 : decode cX6_paper 64 = .ok (.iaload, 1) := by decide +kernel
theorem dX6_paper_65 : decode cX6_paper 65 = .ok (.istore 4, 2) := by decide +kernel
theorem dX6_paper_67 : decode cX6_paper 67 = .ok (.aload_n 0, 1) := by decide +kernel
theorem dX6_paper_68 : decode cX6_paper 68 = .ok (.getfield 16, 3) := by decide +kernel
theorem dX6_paper_71 : decode cX6_paper 71 = .ok (.iload_n 1, 1) := by decide +kernel
theorem dX6_paper_72 : decode cX6_paper 72 = .ok (.iload_n 2, 1) := by decide +kernel
theorem dX6_paper_73 : decode cX6_paper 73 = .ok (.iastore, 1) := by decide +kernel
theorem dX6_paper_74 : decode cX6_paper 74 = .ok (.iload 4, 2) := by decide +kernel
theorem dX6_paper_76 : decode cX6_paper 76 = .ok (.ireturn, 1) := by decide +kernel
theorem dX6_heightOf_0 : decode cX6_heightOf 0 = .ok (.iconst 2, 1) := by decide +kernel
theorem dX6_heightOf_1 : decode cX6_heightOf 1 = .ok (.aload_n 0, 1) := by decide +kernel
theorem dX6_heightOf_2 : decode cX6_heightOf 2 = .ok (.iload_n 2, 1) := by decide +kernel
theorem dX6_heightOf_3 : decode cX6_heightOf 3 = .ok (.aload_n 0, 1) := by decide +kernel
theorem dX6_heightOf_4 : decode cX6_heightOf 4 = .ok (.iload_n 2, 1) := by decide +kernel
theorem dX6_heightOf_5 : decode cX6_heightOf 5 = .ok (.aload_n 0, 1) := by decide +kernel
theorem dX6_heightOf_6 : decode cX6_heightOf 6 = .ok (.getfield 35, 3) := by decide +kernel
theorem dX6_heightOf_9 : decode cX6_heightOf 9 = .ok (.iload_n 1, 1) := by decide +kernel
theorem dX6_heightOf_10 : decode cX6_heightOf 10 = .ok (.iaload, 1) := by decide +kernel
theorem dX6_heightOf_11 : decode cX6_heightOf 11 = .ok (.invokevirtual 79, 3) := by decide +kernel
theorem dX6_heightOf_14 : decode cX6_heightOf 14 = .ok (.invokevirtual 179, 3) := by decide +kernel
theorem dX6_heightOf_17 : decode cX6_heightOf 17 = .ok (.iadd, 1) := by decide +kernel
theorem dX6_heightOf_18 : decode cX6_heightOf 18 = .ok (.ireturn, 1) := by decide +kernel
theorem dX6_begins_0 : decode cX6_begins 0 = .ok (.iconst 0, 1) := by decide +kernel
theorem dX6_begins_1 : decode cX6_begins 1 = .ok (.istore_n 1, 1) := by decide +kernel
theorem dX6_begins_2 : decode cX6_begins 2 = .ok (.iload_n 1, 1) := by decide +kernel
theorem dX6_begins_3 : decode cX6_begins 3 = .ok (.aload_n 0, 1) := by decide +kernel
theorem dX6_begins_4 : decode cX6_begins 4 = .ok (.getfield 16, 3) := by decide +kernel
theorem dX6_begins_7 : decode cX6_begins 7 = .ok (.iconst 0, 1) := by decide +kernel
theorem dX6_begins_8 : decode cX6_begins 8 = .ok (.iaload, 1) := by decide +kernel
theorem dX6_begins_9 : decode cX6_begins 9 = .ok (.if_icmp .ge 33, 3) := by decide +kernel
theorem dX6_begins_12 : decode cX6_begins 12 = .ok (.aload_n 0, 1) := by decide +kernel
theorem dX6_begins_13 : decode cX6_begins 13 = .ok (.getfield 50, 3) := by decide +kernel
theorem dX6_begins_16 : decode cX6_begins 16 = .ok (.aload_n 0, 1) := by decide +kernel
theorem dX6_begins_17 : decode cX6_begins 17 = .ok (.getfield 16, 3) := by decide +kernel
theorem dX6_begins_20 : decode cX6_begins 20 = .ok (.iconst 0, 1) := by decide +kernel
theorem dX6_begins_21 : decode cX6_begins 21 = .ok (.iaload, 1) := by decide +kernel
theorem dX6_begins_22 : decode cX6_begins 22 = .ok (.aload_n 0, 1) := by decide +kernel
theorem dX6_begins_23 : decode cX6_begins 23 = .ok (.getfield 182, 3) := by decide +kernel
theorem dX6_begins_26 : decode cX6_begins 26 = .ok (.imul, 1) := by decide +kernel
theorem dX6_begins_27 : decode cX6_begins 27 = .ok (.iload_n 1, 1) := by decide +kernel
theorem dX6_begins_28 : decode cX6_begins 28 = .ok (.iadd, 1) := by decide +kernel
theorem dX6_begins_29 : decode cX6_begins 29 = .ok (.aload_n 0, 1) := by decide +kernel
theorem dX6_begins_30 : decode cX6_begins 30 = .ok (.getfield 16, 3) := by decide +kernel
theorem dX6_begins_33 : decode cX6_begins 33 = .ok (.iconst 1, 1) := by decide +kernel
theorem dX6_begins_34 : decode cX6_begins 34 = .ok (.iaload, 1) := by decide +kernel
theorem dX6_begins_35 : decode cX6_begins 35 = .ok (.iastore, 1) := by decide +kernel
theorem dX6_begins_36 : decode cX6_begins 36 = .ok (.iinc 1 1, 3) := by decide +kernel
theorem dX6_begins_39 : decode cX6_begins 39 = .ok (.goto (-37), 3) := by decide +kernel
theorem dX6_begins_42 : decode cX6_begins 42 = .ok (.aload_n 0, 1) := by decide +kernel
theorem dX6_begins_43 : decode cX6_begins 43 = .ok (.dup, 1) := by decide +kernel
theorem dX6_begins_44 : decode cX6_begins 44 = .ok (.getfield 182, 3) := by decide +kernel
theorem dX6_begins_47 : decode cX6_begins 47 = .ok (.iconst 1, 1) := by decide +kernel
theorem dX6_begins_48 : decode cX6_begins 48 = .ok (.iadd, 1) := by decide +kernel
theorem dX6_begins_49 : decode cX6_begins 49 = .ok (.putfield 182, 3) := by decide +kernel
theorem dX6_begins_52 : decode cX6_begins 52 = .ok (.return_, 1) := by decide +kernel
theorem dX6_columnBy_0 : decode cX6_columnBy 0 = .ok (.aload_n 0, 1) := by decide +kernel
theorem dX6_columnBy_1 : decode cX6_columnBy 1 = .ok (.getfield 16, 3) := by decide +kernel
theorem dX6_columnBy_4 : decode cX6_columnBy 4 = .ok (.iconst 0, 1) := by decide +kernel
theorem dX6_columnBy_5 : decode cX6_columnBy 5 = .ok (.iaload, 1) := by decide +kernel
theorem dX6_columnBy_6 : decode cX6_columnBy 6 = .ok (.aload_n 0, 1) := by decide +kernel
theorem dX6_columnBy_7 : decode cX6_columnBy 7 = .ok (.getfield 182, 3) := by decide +kernel
theorem dX6_columnBy_10 : decode cX6_columnBy 10 = .ok (.imul, 1) := by decide +kernel
theorem dX6_columnBy_11 : decode cX6_columnBy 11 = .ok (.istore 4, 2) := by decide +kernel
theorem dX6_columnBy_13 : decode cX6_columnBy 13 = .ok (.iload_n 1, 1) := by decide +kernel
theorem dX6_columnBy_14 : decode cX6_columnBy 14 = .ok (.ifCond .ne 62, 3) := by decide +kernel
theorem dX6_columnBy_17 : decode cX6_columnBy 17 = .ok (.iload_n 3, 1) := by decide +kernel
theorem dX6_columnBy_18 : decode cX6_columnBy 18 = .ok (.iconst 1, 1) := by decide +kernel
theorem dX6_columnBy_19 : decode cX6_columnBy 19 = .ok (.iadd, 1) := by decide +kernel
theorem dX6_columnBy_20 : decode cX6_columnBy 20 = .ok (.aload_n 0, 1) := by decide +kernel
theorem dX6_columnBy_21 : decode cX6_columnBy 21 = .ok (.getfield 16, 3) := by decide +kernel
theorem dX6_columnBy_24 : decode cX6_columnBy 24 = .ok (.iconst 0, 1) := by decide +kernel
theorem dX6_columnBy_25 : decode cX6_columnBy 25 = .ok (.iaload, 1) := by decide +kernel
theorem dX6_columnBy_26 : decode cX6_columnBy 26 = .ok (.irem, 1) := by decide +kernel
theorem dX6_columnBy_27 : decode cX6_columnBy 27 = .ok (.ifCond .eq 7, 3) := by decide +kernel
theorem dX6_columnBy_30 : decode cX6_columnBy 30 = .ok (.iconst 1, 1) := by decide +kernel
theorem dX6_columnBy_31 : decode cX6_columnBy 31 = .ok (.goto 4, 3) := by decide +kernel
theorem dX6_columnBy_34 : decode cX6_columnBy 34 = .ok (.iconst 0, 1) := by decide +kernel
theorem dX6_columnBy_35 : decode cX6_columnBy 35 = .ok (.istore 5, 2) := by decide +kernel
theorem dX6_columnBy_37 : decode cX6_columnBy 37 = .ok (.aload_n 0, 1) := by decide +kernel
theorem dX6_columnBy_38 : decode cX6_columnBy 38 = .ok (.getfield 50, 3) := by decide +kernel
theorem dX6_columnBy_41 : decode cX6_columnBy 41 = .ok (.iload_n 3, 1) := by decide +kernel
theorem dX6_columnBy_42 : decode cX6_columnBy 42 = .ok (.iaload, 1) := by decide +kernel
theorem dX6_columnBy_43 : decode cX6_columnBy 43 = .ok (.iload_n 2, 1) := by decide +kernel
theorem dX6_columnBy_44 : decode cX6_columnBy 44 = .ok (.if_icmp .lt 7, 3) := by decide +kernel
theorem dX6_columnBy_47 : decode cX6_columnBy 47 = .ok (.iload_n 3, 1) := by decide +kernel
theorem dX6_columnBy_48 : decode cX6_columnBy 48 = .ok (.goto 27, 3) := by decide +kernel
theorem dX6_columnBy_51 : decode cX6_columnBy 51 = .ok (.iload 5, 2) := by decide +kernel
theorem dX6_columnBy_53 : decode cX6_columnBy 53 = .ok (.ifCond .eq 21, 3) := by decide +kernel
theorem dX6_columnBy_56 : decode cX6_columnBy 56 = .ok (.aload_n 0, 1) := by decide +kernel
theorem dX6_columnBy_57 : decode cX6_columnBy 57 = .ok (.getfield 50, 3) := by decide +kernel
theorem dX6_columnBy_60 : decode cX6_columnBy 60 = .ok (.iload_n 3, 1) := by decide +kernel
theorem dX6_columnBy_61 : decode cX6_columnBy 61 = .ok (.iconst 1, 1) := by decide +kernel
theorem dX6_columnBy_62 : decode cX6_columnBy 62 = .ok (.iadd, 1) := by decide +kernel
theorem dX6_columnBy_63 : decode cX6_columnBy 63 = .ok (.iaload, 1) := by decide +kernel
theorem dX6_columnBy_64 : decode cX6_columnBy 64 = .ok (.iload_n 2, 1) := by decide +kernel
theorem dX6_columnBy_65 : decode cX6_columnBy 65 = .ok (.if_icmp .lt 9, 3) := by decide +kernel
theorem dX6_columnBy_68 : decode cX6_columnBy 68 = .ok (.iload_n 3, 1) := by decide +kernel
theorem dX6_columnBy_69 : decode cX6_columnBy 69 = .ok (.iconst 1, 1) := by decide +kernel
theorem dX6_columnBy_70 : decode cX6_columnBy 70 = .ok (.iadd, 1) := by decide +kernel
theorem dX6_columnBy_71 : decode cX6_columnBy 71 = .ok (.goto 4, 3) := by decide +kernel
theorem dX6_columnBy_74 : decode cX6_columnBy 74 = .ok (.iconst (-1), 1) := by decide +kernel
theorem dX6_columnBy_75 : decode cX6_columnBy 75 = .ok (.ireturn, 1) := by decide +kernel
theorem dX6_columnBy_76 : decode cX6_columnBy 76 = .ok (.iconst (-1), 1) := by decide +kernel
theorem dX6_columnBy_77 : decode cX6_columnBy 77 = .ok (.istore 5, 2) := by decide +kernel
theorem dX6_columnBy_79 : decode cX6_columnBy 79 = .ok (.iconst 0, 1) := by decide +kernel
theorem dX6_columnBy_80 : decode cX6_columnBy 80 = .ok (.istore 6, 2) := by decide +kernel
theorem dX6_columnBy_82 : decode cX6_columnBy 82 = .ok (.iload 6, 2) := by decide +kernel
theorem dX6_columnBy_84 : decode cX6_columnBy 84 = .ok (.iload 4, 2) := by decide +kernel
theorem dX6_columnBy_86 : decode cX6_columnBy 86 = .ok (.if_icmp .ge 90, 3) := by decide +kernel
theorem dX6_columnBy_89 : decode cX6_columnBy 89 = .ok (.aload_n 0, 1) := by decide +kernel
theorem dX6_columnBy_90 : decode cX6_columnBy 90 = .ok (.getfield 50, 3) := by decide +kernel
theorem dX6_columnBy_93 : decode cX6_columnBy 93 = .ok (.iload 6, 2) := by decide +kernel
theorem dX6_columnBy_95 : decode cX6_columnBy 95 = .ok (.iaload, 1) := by decide +kernel
theorem dX6_columnBy_96 : decode cX6_columnBy 96 = .ok (.iload_n 2, 1) := by decide +kernel
theorem dX6_columnBy_97 : decode cX6_columnBy 97 = .ok (.if_icmp .lt 73, 3) := by decide +kernel
theorem dX6_columnBy_100 : decode cX6_columnBy 100 = .ok (.iload 5, 2) := by decide +kernel
theorem dX6_columnBy_102 : decode cX6_columnBy 102 = .ok (.ifCond .lt 47, 3) := by decide +kernel
theorem dX6_columnBy_105 : decode cX6_columnBy 105 = .ok (.iload_n 1, 1) := by decide +kernel
theorem dX6_columnBy_106 : decode cX6_columnBy 106 = .ok (.iconst 2, 1) := by decide +kernel
theorem dX6_columnBy_107 : decode cX6_columnBy 107 = .ok (.if_icmp .ne 20, 3) := by decide +kernel
theorem dX6_columnBy_110 : decode cX6_columnBy 110 = .ok (.aload_n 0, 1) := by decide +kernel
theorem dX6_columnBy_111 : decode cX6_columnBy 111 = .ok (.getfield 50, 3) := by decide +kernel
theorem dX6_columnBy_114 : decode cX6_columnBy 114 = .ok (.iload 6, 2) := by decide +kernel
theorem dX6_columnBy_116 : decode cX6_columnBy 116 = .ok (.iaload, 1) := by decide +kernel
theorem dX6_columnBy_117 : decode cX6_columnBy 117 = .ok (.aload_n 0, 1) := by decide +kernel
theorem dX6_columnBy_118 : decode cX6_columnBy 118 = .ok (.getfield 50, 3) := by decide +kernel
theorem dX6_columnBy_121 : decode cX6_columnBy 121 = .ok (.iload 5, 2) := by decide +kernel
theorem dX6_columnBy_123 : decode cX6_columnBy 123 = .ok (.iaload, 1) := by decide +kernel
theorem dX6_columnBy_124 : decode cX6_columnBy 124 = .ok (.if_icmp .lt 25, 3) := by decide +kernel
theorem dX6_columnBy_127 : decode cX6_columnBy 127 = .ok (.iload_n 1, 1) := by decide +kernel
theorem dX6_columnBy_128 : decode cX6_columnBy 128 = .ok (.iconst 3, 1) := by decide +kernel
theorem dX6_columnBy_129 : decode cX6_columnBy 129 = .ok (.if_icmp .ne 24, 3) := by decide +kernel
theorem dX6_columnBy_132 : decode cX6_columnBy 132 = .ok (.aload_n 0, 1) := by decide +kernel
theorem dX6_columnBy_133 : decode cX6_columnBy 133 = .ok (.getfield 50, 3) := by decide +kernel
theorem dX6_columnBy_136 : decode cX6_columnBy 136 = .ok (.iload 6, 2) := by decide +kernel
theorem dX6_columnBy_138 : decode cX6_columnBy 138 = .ok (.iaload, 1) := by decide +kernel
theorem dX6_columnBy_139 : decode cX6_columnBy 139 = .ok (.aload_n 0, 1) := by decide +kernel
theorem dX6_columnBy_140 : decode cX6_columnBy 140 = .ok (.getfield 50, 3) := by decide +kernel
theorem dX6_columnBy_143 : decode cX6_columnBy 143 = .ok (.iload 5, 2) := by decide +kernel
theorem dX6_columnBy_145 : decode cX6_columnBy 145 = .ok (.iaload, 1) := by decide +kernel
theorem dX6_columnBy_146 : decode cX6_columnBy 146 = .ok (.if_icmp .le 7, 3) := by decide +kernel
theorem dX6_columnBy_149 : decode cX6_columnBy 149 = .ok (.iconst 1, 1) := by decide +kernel
theorem dX6_columnBy_150 : decode cX6_columnBy 150 = .ok (.goto 4, 3) := by decide +kernel
theorem dX6_columnBy_153 : decode cX6_columnBy 153 = .ok (.iconst 0, 1) := by decide +kernel
theorem dX6_columnBy_154 : decode cX6_columnBy 154 = .ok (.istore 7, 2) := by decide +kernel
theorem dX6_columnBy_156 : decode cX6_columnBy 156 = .ok (.iload 7, 2) := by decide +kernel
theorem dX6_columnBy_158 : decode cX6_columnBy 158 = .ok (.ifCond .eq 8, 3) := by decide +kernel
theorem dX6_columnBy_161 : decode cX6_columnBy 161 = .ok (.iload 6, 2) := by decide +kernel
theorem dX6_columnBy_163 : decode cX6_columnBy 163 = .ok (.goto 5, 3) := by decide +kernel
theorem dX6_columnBy_166 : decode cX6_columnBy 166 = .ok (.iload 5, 2) := by decide +kernel
theorem dX6_columnBy_168 : decode cX6_columnBy 168 = .ok (.istore 5, 2) := by decide +kernel
theorem dX6_columnBy_170 : decode cX6_columnBy 170 = .ok (.iinc 6 1, 3) := by decide +kernel
theorem dX6_columnBy_173 : decode cX6_columnBy 173 = .ok (.goto (-91), 3) := by decide +kernel
theorem dX6_columnBy_176 : decode cX6_columnBy 176 = .ok (.iload 5, 2) := by decide +kernel
theorem dX6_columnBy_178 : decode cX6_columnBy 178 = .ok (.ireturn, 1) := by decide +kernel
theorem dX6_prints_0 : decode cX6_prints 0 = .ok (.aload_n 0, 1) := by decide +kernel
theorem dX6_prints_1 : decode cX6_prints 1 = .ok (.iconst 0, 1) := by decide +kernel
theorem dX6_prints_2 : decode cX6_prints 2 = .ok (.putfield 185, 3) := by decide +kernel
theorem dX6_prints_5 : decode cX6_prints 5 = .ok (.aload_n 0, 1) := by decide +kernel
theorem dX6_prints_6 : decode cX6_prints 6 = .ok (.iconst 0, 1) := by decide +kernel
theorem dX6_prints_7 : decode cX6_prints 7 = .ok (.putfield 182, 3) := by decide +kernel
theorem dX6_prints_10 : decode cX6_prints 10 = .ok (.aload_n 0, 1) := by decide +kernel
theorem dX6_prints_11 : decode cX6_prints 11 = .ok (.invokevirtual 188, 3) := by decide +kernel
theorem dX6_prints_14 : decode cX6_prints 14 = .ok (.iconst 0, 1) := by decide +kernel
theorem dX6_prints_15 : decode cX6_prints 15 = .ok (.istore_n 3, 1) := by decide +kernel
theorem dX6_prints_16 : decode cX6_prints 16 = .ok (.iconst 0, 1) := by decide +kernel
theorem dX6_prints_17 : decode cX6_prints 17 = .ok (.istore 4, 2) := by decide +kernel
theorem dX6_prints_19 : decode cX6_prints 19 = .ok (.iconst 0, 1) := by decide +kernel
theorem dX6_prints_20 : decode cX6_prints 20 = .ok (.istore 5, 2) := by decide +kernel
theorem dX6_prints_22 : decode cX6_prints 22 = .ok (.iload 5, 2) := by decide +kernel
theorem dX6_prints_24 : decode cX6_prints 24 = .ok (.iconst 4, 1) := by decide +kernel
theorem dX6_prints_25 : decode cX6_prints 25 = .ok (.if_icmp .ge 144, 3) := by decide +kernel
theorem dX6_prints_28 : decode cX6_prints 28 = .ok (.aload_n 0, 1) := by decide +kernel
theorem dX6_prints_29 : decode cX6_prints 29 = .ok (.iload 5, 2) := by decide +kernel
theorem dX6_prints_31 : decode cX6_prints 31 = .ok (.invokevirtual 61, 3) := by decide +kernel
theorem dX6_prints_34 : decode cX6_prints 34 = .ok (.ifCond .eq 129, 3) := by decide +kernel
theorem dX6_prints_37 : decode cX6_prints 37 = .ok (.aload_n 0, 1) := by decide +kernel
theorem dX6_prints_38 : decode cX6_prints 38 = .ok (.iload_n 1, 1) := by decide +kernel
theorem dX6_prints_39 : decode cX6_prints 39 = .ok (.iload 5, 2) := by decide +kernel
theorem dX6_prints_41 : decode cX6_prints 41 = .ok (.invokevirtual 191, 3) := by decide +kernel
theorem dX6_prints_44 : decode cX6_prints 44 = .ok (.istore 6, 2) := by decide +kernel
theorem dX6_prints_46 : decode cX6_prints 46 = .ok (.iload 4, 2) := by decide +kernel
theorem dX6_prints_48 : decode cX6_prints 48 = .ok (.ifCond .ne 14, 3) := by decide +kernel
theorem dX6_prints_51 : decode cX6_prints 51 = .ok (.iload 6, 2) := by decide +kernel
theorem dX6_prints_53 : decode cX6_prints 53 = .ok (.aload_n 0, 1) := by decide +kernel
theorem dX6_prints_54 : decode cX6_prints 54 = .ok (.getfield 16, 3) := by decide +kernel
theorem dX6_prints_57 : decode cX6_prints 57 = .ok (.iconst 1, 1) := by decide +kernel
theorem dX6_prints_58 : decode cX6_prints 58 = .ok (.iaload, 1) := by decide +kernel
theorem dX6_prints_59 : decode cX6_prints 59 = .ok (.if_icmp .le 7, 3) := by decide +kernel
theorem dX6_prints_62 : decode cX6_prints 62 = .ok (.iconst 1, 1) := by decide +kernel
theorem dX6_prints_63 : decode cX6_prints 63 = .ok (.goto 4, 3) := by decide +kernel
theorem dX6_prints_66 : decode cX6_prints 66 = .ok (.iconst 0, 1) := by decide +kernel
theorem dX6_prints_67 : decode cX6_prints 67 = .ok (.istore 4, 2) := by decide +kernel
theorem dX6_prints_69 : decode cX6_prints 69 = .ok (.aload_n 0, 1) := by decide +kernel
theorem dX6_prints_70 : decode cX6_prints 70 = .ok (.getfield 44, 3) := by decide +kernel
theorem dX6_prints_73 : decode cX6_prints 73 = .ok (.aload_n 0, 1) := by decide +kernel
theorem dX6_prints_74 : decode cX6_prints 74 = .ok (.getfield 185, 3) := by decide +kernel
theorem dX6_prints_77 : decode cX6_prints 77 = .ok (.iload 5, 2) := by decide +kernel
theorem dX6_prints_79 : decode cX6_prints 79 = .ok (.iastore, 1) := by decide +kernel
theorem dX6_prints_80 : decode cX6_prints 80 = .ok (.aload_n 0, 1) := by decide +kernel
theorem dX6_prints_81 : decode cX6_prints 81 = .ok (.getfield 47, 3) := by decide +kernel
theorem dX6_prints_84 : decode cX6_prints 84 = .ok (.aload_n 0, 1) := by decide +kernel
theorem dX6_prints_85 : decode cX6_prints 85 = .ok (.getfield 185, 3) := by decide +kernel
theorem dX6_prints_88 : decode cX6_prints 88 = .ok (.iconst (-1), 1) := by decide +kernel
theorem dX6_prints_89 : decode cX6_prints 89 = .ok (.iastore, 1) := by decide +kernel
theorem dX6_prints_90 : decode cX6_prints 90 = .ok (.iload 4, 2) := by decide +kernel
theorem dX6_prints_92 : decode cX6_prints 92 = .ok (.ifCond .ne 61, 3) := by decide +kernel
theorem dX6_prints_95 : decode cX6_prints 95 = .ok (.aload_n 0, 1) := by decide +kernel
theorem dX6_prints_96 : decode cX6_prints 96 = .ok (.iload_n 2, 1) := by decide +kernel
theorem dX6_prints_97 : decode cX6_prints 97 = .ok (.iload 6, 2) := by decide +kernel
theorem dX6_prints_99 : decode cX6_prints 99 = .ok (.iload_n 3, 1) := by decide +kernel
theorem dX6_prints_100 : decode cX6_prints 100 = .ok (.invokevirtual 194, 3) := by decide +kernel
theorem dX6_prints_103 : decode cX6_prints 103 = .ok (.istore 7, 2) := by decide +kernel
theorem dX6_prints_105 : decode cX6_prints 105 = .ok (.iload 7, 2) := by decide +kernel
theorem dX6_prints_107 : decode cX6_prints 107 = .ok (.ifCond .ge 20, 3) := by decide +kernel
theorem dX6_prints_110 : decode cX6_prints 110 = .ok (.aload_n 0, 1) := by decide +kernel
theorem dX6_prints_111 : decode cX6_prints 111 = .ok (.getfield 16, 3) := by decide +kernel
theorem dX6_prints_114 : decode cX6_prints 114 = .ok (.iconst 0, 1) := by decide +kernel
theorem dX6_prints_115 : decode cX6_prints 115 = .ok (.iaload, 1) := by decide +kernel
theorem dX6_prints_116 : decode cX6_prints 116 = .ok (.aload_n 0, 1) := by decide +kernel
theorem dX6_prints_117 : decode cX6_prints 117 = .ok (.getfield 182, 3) := by decide +kernel
theorem dX6_prints_120 : decode cX6_prints 120 = .ok (.imul, 1) := by decide +kernel
theorem dX6_prints_121 : decode cX6_prints 121 = .ok (.istore 7, 2) := by decide +kernel
theorem dX6_prints_123 : decode cX6_prints 123 = .ok (.aload_n 0, 1) := by decide +kernel
theorem dX6_prints_124 : decode cX6_prints 124 = .ok (.invokevirtual 188, 3) := by decide +kernel
theorem dX6_prints_127 : decode cX6_prints 127 = .ok (.aload_n 0, 1) := by decide +kernel
theorem dX6_prints_128 : decode cX6_prints 128 = .ok (.getfield 50, 3) := by decide +kernel
theorem dX6_prints_131 : decode cX6_prints 131 = .ok (.iload 7, 2) := by decide +kernel
theorem dX6_prints_133 : decode cX6_prints 133 = .ok (.dup2, 1) := by decide +kernel
theorem dX6_prints_134 : decode cX6_prints 134 = .ok (.iaload, 1) := by decide +kernel
theorem dX6_prints_135 : decode cX6_prints 135 = .ok (.iload 6, 2) := by decide +kernel
theorem dX6_prints_137 : decode cX6_prints 137 = .ok (.isub, 1) := by decide +kernel
theorem dX6_prints_138 : decode cX6_prints 138 = .ok (.iastore, 1) := by decide +kernel
theorem dX6_prints_139 : decode cX6_prints 139 = .ok (.aload_n 0, 1) := by decide +kernel
theorem dX6_prints_140 : decode cX6_prints 140 = .ok (.getfield 47, 3) := by decide +kernel
theorem dX6_prints_143 : decode cX6_prints 143 = .ok (.aload_n 0, 1) := by decide +kernel
theorem dX6_prints_144 : decode cX6_prints 144 = .ok (.getfield 185, 3) := by decide +kernel
theorem dX6_prints_147 : decode cX6_prints 147 = .ok (.iload 7, 2) := by decide +kernel
theorem dX6_prints_149 : decode cX6_prints 149 = .ok (.iastore, 1) := by decide +kernel
theorem dX6_prints_150 : decode cX6_prints 150 = .ok (.iload 7, 2) := by decide +kernel
theorem dX6_prints_152 : decode cX6_prints 152 = .ok (.istore_n 3, 1) := by decide +kernel
theorem dX6_prints_153 : decode cX6_prints 153 = .ok (.aload_n 0, 1) := by decide +kernel
theorem dX6_prints_154 : decode cX6_prints 154 = .ok (.dup, 1) := by decide +kernel
theorem dX6_prints_155 : decode cX6_prints 155 = .ok (.getfield 185, 3) := by decide +kernel
theorem dX6_prints_158 : decode cX6_prints 158 = .ok (.iconst 1, 1) := by decide +kernel
theorem dX6_prints_159 : decode cX6_prints 159 = .ok (.iadd, 1) := by decide +kernel
theorem dX6_prints_160 : decode cX6_prints 160 = .ok (.putfield 185, 3) := by decide +kernel
theorem dX6_prints_163 : decode cX6_prints 163 = .ok (.iinc 5 1, 3) := by decide +kernel
theorem dX6_prints_166 : decode cX6_prints 166 = .ok (.goto (-144), 3) := by decide +kernel
theorem dX6_prints_169 : decode cX6_prints 169 = .ok (.iconst 0, 1) := by decide +kernel
theorem dX6_prints_170 : decode cX6_prints 170 = .ok (.istore 5, 2) := by decide +kernel
theorem dX6_prints_172 : decode cX6_prints 172 = .ok (.iload 5, 2) := by decide +kernel
theorem dX6_prints_174 : decode cX6_prints 174 = .ok (.aload_n 0, 1) := by decide +kernel
theorem dX6_prints_175 : decode cX6_prints 175 = .ok (.getfield 185, 3) := by decide +kernel
theorem dX6_prints_178 : decode cX6_prints 178 = .ok (.if_icmp .ge 22, 3) := by decide +kernel
theorem dX6_prints_181 : decode cX6_prints 181 = .ok (.iload 4, 2) := by decide +kernel
theorem dX6_prints_183 : decode cX6_prints 183 = .ok (.ifCond .eq 17, 3) := by decide +kernel
theorem dX6_prints_186 : decode cX6_prints 186 = .ok (.aload_n 0, 1) := by decide +kernel
theorem dX6_prints_187 : decode cX6_prints 187 = .ok (.getfield 47, 3) := by decide +kernel
theorem dX6_prints_190 : decode cX6_prints 190 = .ok (.iload 5, 2) := by decide +kernel
theorem dX6_prints_192 : decode cX6_prints 192 = .ok (.iconst (-1), 1) := by decide +kernel
theorem dX6_prints_193 : decode cX6_prints 193 = .ok (.iastore, 1) := by decide +kernel
theorem dX6_prints_194 : decode cX6_prints 194 = .ok (.iinc 5 1, 3) := by decide +kernel
theorem dX6_prints_197 : decode cX6_prints 197 = .ok (.goto (-25), 3) := by decide +kernel
theorem dX6_prints_200 : decode cX6_prints 200 = .ok (.iload 4, 2) := by decide +kernel
theorem dX6_prints_202 : decode cX6_prints 202 = .ok (.ifCond .eq 7, 3) := by decide +kernel
theorem dX6_prints_205 : decode cX6_prints 205 = .ok (.iconst 0, 1) := by decide +kernel
theorem dX6_prints_206 : decode cX6_prints 206 = .ok (.goto 7, 3) := by decide +kernel
theorem dX6_prints_209 : decode cX6_prints 209 = .ok (.aload_n 0, 1) := by decide +kernel
theorem dX6_prints_210 : decode cX6_prints 210 = .ok (.getfield 182, 3) := by decide +kernel
theorem dX6_prints_213 : decode cX6_prints 213 = .ok (.ireturn, 1) := by decide +kernel
theorem dX6_faces_0 : decode cX6_faces 0 = .ok (.aload_n 0, 1) := by decide +kernel
theorem dX6_faces_1 : decode cX6_faces 1 = .ok (.iload_n 1, 1) := by decide +kernel
theorem dX6_faces_2 : decode cX6_faces 2 = .ok (.invokevirtual 161, 3) := by decide +kernel
theorem dX6_faces_5 : decode cX6_faces 5 = .ok (.ifCond .eq 17, 3) := by decide +kernel
theorem dX6_faces_8 : decode cX6_faces 8 = .ok (.aload_n 0, 1) := by decide +kernel
theorem dX6_faces_9 : decode cX6_faces 9 = .ok (.iload_n 1, 1) := by decide +kernel
theorem dX6_faces_10 : decode cX6_faces 10 = .ok (.aload_n 0, 1) := by decide +kernel
theorem dX6_faces_11 : decode cX6_faces 11 = .ok (.getfield 16, 3) := by decide +kernel
theorem dX6_faces_14 : decode cX6_faces 14 = .ok (.iconst 2, 1) := by decide +kernel
theorem dX6_faces_15 : decode cX6_faces 15 = .ok (.iaload, 1) := by decide +kernel
theorem dX6_faces_16 : decode cX6_faces 16 = .ok (.invokevirtual 198, 3) := by decide +kernel
theorem dX6_faces_19 : decode cX6_faces 19 = .ok (.goto 9, 3) := by decide +kernel
theorem dX6_faces_22 : decode cX6_faces 22 = .ok (.aload_n 0, 1) := by decide +kernel
theorem dX6_faces_23 : decode cX6_faces 23 = .ok (.bipush (-2), 2) := by decide +kernel
theorem dX6_faces_25 : decode cX6_faces 25 = .ok (.invokevirtual 68, 3) := by decide +kernel
theorem dX6_faces_28 : decode cX6_faces 28 = .ok (.ireturn, 1) := by decide +kernel
theorem dX6_contest_0 : decode cX6_contest 0 = .ok (.aload_n 0, 1) := by decide +kernel
theorem dX6_contest_1 : decode cX6_contest 1 = .ok (.iload_n 1, 1) := by decide +kernel
theorem dX6_contest_2 : decode cX6_contest 2 = .ok (.invokevirtual 161, 3) := by decide +kernel
theorem dX6_contest_5 : decode cX6_contest 5 = .ok (.ifCond .eq 16, 3) := by decide +kernel
theorem dX6_contest_8 : decode cX6_contest 8 = .ok (.iload_n 2, 1) := by decide +kernel
theorem dX6_contest_9 : decode cX6_contest 9 = .ok (.ifCond .lt 12, 3) := by decide +kernel
theorem dX6_contest_12 : decode cX6_contest 12 = .ok (.iload_n 3, 1) := by decide +kernel
theorem dX6_contest_13 : decode cX6_contest 13 = .ok (.iconst 0, 1) := by decide +kernel
theorem dX6_contest_14 : decode cX6_contest 14 = .ok (.iconst 3, 1) := by decide +kernel
theorem dX6_contest_15 : decode cX6_contest 15 = .ok (.invokestatic 53, 3) := by decide +kernel
theorem dX6_contest_18 : decode cX6_contest 18 = .ok (.ifCond .ne 10, 3) := by decide +kernel
theorem dX6_contest_21 : decode cX6_contest 21 = .ok (.aload_n 0, 1) := by decide +kernel
theorem dX6_contest_22 : decode cX6_contest 22 = .ok (.bipush (-2), 2) := by decide +kernel
theorem dX6_contest_24 : decode cX6_contest 24 = .ok (.invokevirtual 68, 3) := by decide +kernel
theorem dX6_contest_27 : decode cX6_contest 27 = .ok (.ireturn, 1) := by decide +kernel
theorem dX6_contest_28 : decode cX6_contest 28 = .ok (.aload_n 0, 1) := by decide +kernel
theorem dX6_contest_29 : decode cX6_contest 29 = .ok (.iload_n 1, 1) := by decide +kernel
theorem dX6_contest_30 : decode cX6_contest 30 = .ok (.aload_n 0, 1) := by decide +kernel
theorem dX6_contest_31 : decode cX6_contest 31 = .ok (.getfield 16, 3) := by decide +kernel
theorem dX6_contest_34 : decode cX6_contest 34 = .ok (.iconst 2, 1) := by decide +kernel
theorem dX6_contest_35 : decode cX6_contest 35 = .ok (.iaload, 1) := by decide +kernel
theorem dX6_contest_36 : decode cX6_contest 36 = .ok (.invokevirtual 198, 3) := by decide +kernel
theorem dX6_contest_39 : decode cX6_contest 39 = .ok (.pop, 1) := by decide +kernel
theorem dX6_contest_40 : decode cX6_contest 40 = .ok (.iload_n 2, 1) := by decide +kernel
theorem dX6_contest_41 : decode cX6_contest 41 = .ok (.aload_n 0, 1) := by decide +kernel
theorem dX6_contest_42 : decode cX6_contest 42 = .ok (.getfield 185, 3) := by decide +kernel
theorem dX6_contest_45 : decode cX6_contest 45 = .ok (.if_icmp .lt 5, 3) := by decide +kernel
theorem dX6_contest_48 : decode cX6_contest 48 = .ok (.iconst (-1), 1) := by decide +kernel
theorem dX6_contest_49 : decode cX6_contest 49 = .ok (.ireturn, 1) := by decide +kernel
theorem dX6_contest_50 : decode cX6_contest 50 = .ok (.aload_n 0, 1) := by decide +kernel
theorem dX6_contest_51 : decode cX6_contest 51 = .ok (.getfield 44, 3) := by decide +kernel
theorem dX6_contest_54 : decode cX6_contest 54 = .ok (.iload_n 2, 1) := by decide +kernel
theorem dX6_contest_55 : decode cX6_contest 55 = .ok (.iaload, 1) := by decide +kernel
theorem dX6_contest_56 : decode cX6_contest 56 = .ok (.istore 4, 2) := by decide +kernel
theorem dX6_contest_58 : decode cX6_contest 58 = .ok (.iload_n 3, 1) := by decide +kernel
theorem dX6_contest_59 : decode cX6_contest 59 = .ok (.ifCond .ne 8, 3) := by decide +kernel
theorem dX6_contest_62 : decode cX6_contest 62 = .ok (.iload 4, 2) := by decide +kernel
theorem dX6_contest_64 : decode cX6_contest 64 = .ok (.goto 44, 3) := by decide +kernel
theorem dX6_contest_67 : decode cX6_contest 67 = .ok (.iload_n 3, 1) := by decide +kernel
theorem dX6_contest_68 : decode cX6_contest 68 = .ok (.iconst 1, 1) := by decide +kernel
theorem dX6_contest_69 : decode cX6_contest 69 = .ok (.if_icmp .ne 18, 3) := by decide +kernel
theorem dX6_contest_72 : decode cX6_contest 72 = .ok (.aload_n 0, 1) := by decide +kernel
theorem dX6_contest_73 : decode cX6_contest 73 = .ok (.iload 4, 2) := by decide +kernel
theorem dX6_contest_75 : decode cX6_contest 75 = .ok (.aload_n 0, 1) := by decide +kernel
theorem dX6_contest_76 : decode cX6_contest 76 = .ok (.getfield 35, 3) := by decide +kernel
theorem dX6_contest_79 : decode cX6_contest 79 = .ok (.iload_n 1, 1) := by decide +kernel
theorem dX6_contest_80 : decode cX6_contest 80 = .ok (.iaload, 1) := by decide +kernel
theorem dX6_contest_81 : decode cX6_contest 81 = .ok (.invokevirtual 79, 3) := by decide +kernel
theorem dX6_contest_84 : decode cX6_contest 84 = .ok (.goto 24, 3) := by decide +kernel
theorem dX6_contest_87 : decode cX6_contest 87 = .ok (.iload_n 3, 1) := by decide +kernel
theorem dX6_contest_88 : decode cX6_contest 88 = .ok (.iconst 2, 1) := by decide +kernel
theorem dX6_contest_89 : decode cX6_contest 89 = .ok (.if_icmp .ne 13, 3) := by decide +kernel
theorem dX6_contest_92 : decode cX6_contest 92 = .ok (.aload_n 0, 1) := by decide +kernel
theorem dX6_contest_93 : decode cX6_contest 93 = .ok (.iload_n 1, 1) := by decide +kernel
theorem dX6_contest_94 : decode cX6_contest 94 = .ok (.iload 4, 2) := by decide +kernel
theorem dX6_contest_96 : decode cX6_contest 96 = .ok (.invokevirtual 191, 3) := by decide +kernel
theorem dX6_contest_99 : decode cX6_contest 99 = .ok (.goto 9, 3) := by decide +kernel
theorem dX6_contest_102 : decode cX6_contest 102 = .ok (.aload_n 0, 1) := by decide +kernel
theorem dX6_contest_103 : decode cX6_contest 103 = .ok (.getfield 47, 3) := by decide +kernel
theorem dX6_contest_106 : decode cX6_contest 106 = .ok (.iload_n 2, 1) := by decide +kernel
theorem dX6_contest_107 : decode cX6_contest 107 = .ok (.iaload, 1) := by decide +kernel
theorem dX6_contest_108 : decode cX6_contest 108 = .ok (.ireturn, 1) := by decide +kernel
theorem dX6_facesBy_0 : decode cX6_facesBy 0 = .ok (.iconst 0, 1) := by decide +kernel
theorem dX6_facesBy_1 : decode cX6_facesBy 1 = .ok (.istore_n 3, 1) := by decide +kernel
theorem dX6_facesBy_2 : decode cX6_facesBy 2 = .ok (.iconst 0, 1) := by decide +kernel
theorem dX6_facesBy_3 : decode cX6_facesBy 3 = .ok (.istore 4, 2) := by decide +kernel
theorem dX6_facesBy_5 : decode cX6_facesBy 5 = .ok (.iconst 0, 1) := by decide +kernel
theorem dX6_facesBy_6 : decode cX6_facesBy 6 = .ok (.istore 5, 2) := by decide +kernel
theorem dX6_facesBy_8 : decode cX6_facesBy 8 = .ok (.iload 5, 2) := by decide +kernel
theorem dX6_facesBy_10 : decode cX6_facesBy 10 = .ok (.aload_n 0, 1) := by decide +kernel
theorem dX6_facesBy_11 : decode cX6_facesBy 11 = .ok (.getfield 152, 3) := by decide +kernel
theorem dX6_facesBy_14 : decode cX6_facesBy 14 = .ok (.if_icmp .ge 47, 3) := by decide +kernel
theorem dX6_facesBy_17 : decode cX6_facesBy 17 = .ok (.aload_n 0, 1) := by decide +kernel
theorem dX6_facesBy_18 : decode cX6_facesBy 18 = .ok (.iload 5, 2) := by decide +kernel
theorem dX6_facesBy_20 : decode cX6_facesBy 20 = .ok (.iload_n 1, 1) := by decide +kernel
theorem dX6_facesBy_21 : decode cX6_facesBy 21 = .ok (.invokevirtual 198, 3) := by decide +kernel
theorem dX6_facesBy_24 : decode cX6_facesBy 24 = .ok (.istore 6, 2) := by decide +kernel
theorem dX6_facesBy_26 : decode cX6_facesBy 26 = .ok (.iload 4, 2) := by decide +kernel
theorem dX6_facesBy_28 : decode cX6_facesBy 28 = .ok (.ifCond .ne 8, 3) := by decide +kernel
theorem dX6_facesBy_31 : decode cX6_facesBy 31 = .ok (.iload 6, 2) := by decide +kernel
theorem dX6_facesBy_33 : decode cX6_facesBy 33 = .ok (.ifCond .ne 7, 3) := by decide +kernel
theorem dX6_facesBy_36 : decode cX6_facesBy 36 = .ok (.iconst 1, 1) := by decide +kernel
theorem dX6_facesBy_37 : decode cX6_facesBy 37 = .ok (.goto 4, 3) := by decide +kernel
theorem dX6_facesBy_40 : decode cX6_facesBy 40 = .ok (.iconst 0, 1) := by decide +kernel
theorem dX6_facesBy_41 : decode cX6_facesBy 41 = .ok (.istore 4, 2) := by decide +kernel
theorem dX6_facesBy_43 : decode cX6_facesBy 43 = .ok (.iload_n 3, 1) := by decide +kernel
theorem dX6_facesBy_44 : decode cX6_facesBy 44 = .ok (.iload 6, 2) := by decide +kernel
theorem dX6_facesBy_46 : decode cX6_facesBy 46 = .ok (.aload_n 0, 1) := by decide +kernel
theorem dX6_facesBy_47 : decode cX6_facesBy 47 = .ok (.iload 5, 2) := by decide +kernel
theorem dX6_facesBy_49 : decode cX6_facesBy 49 = .ok (.invokevirtual 167, 3) := by decide +kernel
theorem dX6_facesBy_52 : decode cX6_facesBy 52 = .ok (.imul, 1) := by decide +kernel
theorem dX6_facesBy_53 : decode cX6_facesBy 53 = .ok (.iadd, 1) := by decide +kernel
theorem dX6_facesBy_54 : decode cX6_facesBy 54 = .ok (.istore_n 3, 1) := by decide +kernel
theorem dX6_facesBy_55 : decode cX6_facesBy 55 = .ok (.iinc 5 1, 3) := by decide +kernel
theorem dX6_facesBy_58 : decode cX6_facesBy 58 = .ok (.goto (-50), 3) := by decide +kernel
theorem dX6_facesBy_61 : decode cX6_facesBy 61 = .ok (.iload 4, 2) := by decide +kernel
theorem dX6_facesBy_63 : decode cX6_facesBy 63 = .ok (.ifCond .eq 11, 3) := by decide +kernel
theorem dX6_facesBy_66 : decode cX6_facesBy 66 = .ok (.iload_n 2, 1) := by decide +kernel
theorem dX6_facesBy_67 : decode cX6_facesBy 67 = .ok (.ifCond .ne 7, 3) := by decide +kernel
theorem dX6_facesBy_70 : decode cX6_facesBy 70 = .ok (.iconst (-1), 1) := by decide +kernel
theorem dX6_facesBy_71 : decode cX6_facesBy 71 = .ok (.goto 4, 3) := by decide +kernel
theorem dX6_facesBy_74 : decode cX6_facesBy 74 = .ok (.iload_n 3, 1) := by decide +kernel
theorem dX6_facesBy_75 : decode cX6_facesBy 75 = .ok (.ireturn, 1) := by decide +kernel
theorem dX6_room_0 : decode cX6_room 0 = .ok (.aload_n 0, 1) := by decide +kernel
theorem dX6_room_1 : decode cX6_room 1 = .ok (.iload_n 1, 1) := by decide +kernel
theorem dX6_room_2 : decode cX6_room 2 = .ok (.invokevirtual 161, 3) := by decide +kernel
theorem dX6_room_5 : decode cX6_room 5 = .ok (.ifCond .eq 12, 3) := by decide +kernel
theorem dX6_room_8 : decode cX6_room 8 = .ok (.iload_n 2, 1) := by decide +kernel
theorem dX6_room_9 : decode cX6_room 9 = .ok (.iconst 0, 1) := by decide +kernel
theorem dX6_room_10 : decode cX6_room 10 = .ok (.iconst 1, 1) := by decide +kernel
theorem dX6_room_11 : decode cX6_room 11 = .ok (.invokestatic 53, 3) := by decide +kernel
theorem dX6_room_14 : decode cX6_room 14 = .ok (.ifCond .ne 10, 3) := by decide +kernel
theorem dX6_room_17 : decode cX6_room 17 = .ok (.aload_n 0, 1) := by decide +kernel
theorem dX6_room_18 : decode cX6_room 18 = .ok (.bipush (-2), 2) := by decide +kernel
theorem dX6_room_20 : decode cX6_room 20 = .ok (.invokevirtual 68, 3) := by decide +kernel
theorem dX6_room_23 : decode cX6_room 23 = .ok (.ireturn, 1) := by decide +kernel
theorem dX6_room_24 : decode cX6_room 24 = .ok (.iload_n 2, 1) := by decide +kernel
theorem dX6_room_25 : decode cX6_room 25 = .ok (.iconst 1, 1) := by decide +kernel
theorem dX6_room_26 : decode cX6_room 26 = .ok (.if_icmp .ne 15, 3) := by decide +kernel
theorem dX6_room_29 : decode cX6_room 29 = .ok (.aload_n 0, 1) := by decide +kernel
theorem dX6_room_30 : decode cX6_room 30 = .ok (.aload_n 0, 1) := by decide +kernel
theorem dX6_room_31 : decode cX6_room 31 = .ok (.getfield 16, 3) := by decide +kernel
theorem dX6_room_34 : decode cX6_room 34 = .ok (.iconst 2, 1) := by decide +kernel
theorem dX6_room_35 : decode cX6_room 35 = .ok (.iaload, 1) := by decide +kernel
theorem dX6_room_36 : decode cX6_room 36 = .ok (.iconst 1, 1) := by decide +kernel
theorem dX6_room_37 : decode cX6_room 37 = .ok (.invokevirtual 201, 3) := by decide +kernel
theorem dX6_room_40 : decode cX6_room 40 = .ok (.ireturn, 1) := by decide +kernel
theorem dX6_room_41 : decode cX6_room 41 = .ok (.aload_n 0, 1) := by decide +kernel
theorem dX6_room_42 : decode cX6_room 42 = .ok (.iload_n 1, 1) := by decide +kernel
theorem dX6_room_43 : decode cX6_room 43 = .ok (.aload_n 0, 1) := by decide +kernel
theorem dX6_room_44 : decode cX6_room 44 = .ok (.getfield 16, 3) := by decide +kernel
theorem dX6_room_47 : decode cX6_room 47 = .ok (.iconst 2, 1) := by decide +kernel
theorem dX6_room_48 : decode cX6_room 48 = .ok (.iaload, 1) := by decide +kernel
theorem dX6_room_49 : decode cX6_room 49 = .ok (.invokevirtual 198, 3) := by decide +kernel
theorem dX6_room_52 : decode cX6_room 52 = .ok (.ifCond .ne 5, 3) := by decide +kernel
theorem dX6_room_55 : decode cX6_room 55 = .ok (.iconst (-1), 1) := by decide +kernel
theorem dX6_room_56 : decode cX6_room 56 = .ok (.ireturn, 1) := by decide +kernel
theorem dX6_room_57 : decode cX6_room 57 = .ok (.iconst 0, 1) := by decide +kernel
theorem dX6_room_58 : decode cX6_room 58 = .ok (.istore_n 3, 1) := by decide +kernel
theorem dX6_room_59 : decode cX6_room 59 = .ok (.iconst 0, 1) := by decide +kernel
theorem dX6_room_60 : decode cX6_room 60 = .ok (.istore 4, 2) := by decide +kernel
theorem dX6_room_62 : decode cX6_room 62 = .ok (.iload 4, 2) := by decide +kernel
theorem dX6_room_64 : decode cX6_room 64 = .ok (.aload_n 0, 1) := by decide +kernel
theorem dX6_room_65 : decode cX6_room 65 = .ok (.getfield 16, 3) := by decide +kernel
theorem dX6_room_68 : decode cX6_room 68 = .ok (.iconst 0, 1) := by decide +kernel
theorem dX6_room_69 : decode cX6_room 69 = .ok (.iaload, 1) := by decide +kernel
theorem dX6_room_70 : decode cX6_room 70 = .ok (.aload_n 0, 1) := by decide +kernel
theorem dX6_room_71 : decode cX6_room 71 = .ok (.getfield 182, 3) := by decide +kernel
theorem dX6_room_74 : decode cX6_room 74 = .ok (.imul, 1) := by decide +kernel
theorem dX6_room_75 : decode cX6_room 75 = .ok (.if_icmp .ge 19, 3) := by decide +kernel
theorem dX6_room_78 : decode cX6_room 78 = .ok (.iload_n 3, 1) := by decide +kernel
theorem dX6_room_79 : decode cX6_room 79 = .ok (.aload_n 0, 1) := by decide +kernel
theorem dX6_room_80 : decode cX6_room 80 = .ok (.getfield 50, 3) := by decide +kernel
theorem dX6_room_83 : decode cX6_room 83 = .ok (.iload 4, 2) := by decide +kernel
theorem dX6_room_85 : decode cX6_room 85 = .ok (.iaload, 1) := by decide +kernel
theorem dX6_room_86 : decode cX6_room 86 = .ok (.iadd, 1) := by decide +kernel
theorem dX6_room_87 : decode cX6_room 87 = .ok (.istore_n 3, 1) := by decide +kernel
theorem dX6_room_88 : decode cX6_room 88 = .ok (.iinc 4 1, 3) := by decide +kernel
theorem dX6_room_91 : decode cX6_room 91 = .ok (.goto (-29), 3) := by decide +kernel
theorem dX6_room_94 : decode cX6_room 94 = .ok (.iload_n 3, 1) := by decide +kernel
theorem dX6_room_95 : decode cX6_room 95 = .ok (.ireturn, 1) := by decide +kernel
theorem dX6_rule_0 : decode cX6_rule 0 = .ok (.iload_n 1, 1) := by decide +kernel
theorem dX6_rule_1 : decode cX6_rule 1 = .ok (.iconst 0, 1) := by decide +kernel
theorem dX6_rule_2 : decode cX6_rule 2 = .ok (.iconst 1, 1) := by decide +kernel
theorem dX6_rule_3 : decode cX6_rule 3 = .ok (.invokestatic 53, 3) := by decide +kernel
theorem dX6_rule_6 : decode cX6_rule 6 = .ok (.ifCond .ne 10, 3) := by decide +kernel
theorem dX6_rule_9 : decode cX6_rule 9 = .ok (.aload_n 0, 1) := by decide +kernel
theorem dX6_rule_10 : decode cX6_rule 10 = .ok (.bipush (-2), 2) := by decide +kernel
theorem dX6_rule_12 : decode cX6_rule 12 = .ok (.invokevirtual 68, 3) := by decide +kernel
theorem dX6_rule_15 : decode cX6_rule 15 = .ok (.ireturn, 1) := by decide +kernel
theorem dX6_rule_16 : decode cX6_rule 16 = .ok (.aload_n 0, 1) := by decide +kernel
theorem dX6_rule_17 : decode cX6_rule 17 = .ok (.invokevirtual 112, 3) := by decide +kernel
theorem dX6_rule_20 : decode cX6_rule 20 = .ok (.iconst 0, 1) := by decide +kernel
theorem dX6_rule_21 : decode cX6_rule 21 = .ok (.istore_n 2, 1) := by decide +kernel
theorem dX6_rule_22 : decode cX6_rule 22 = .ok (.aload_n 0, 1) := by decide +kernel
theorem dX6_rule_23 : decode cX6_rule 23 = .ok (.iconst 0, 1) := by decide +kernel
theorem dX6_rule_24 : decode cX6_rule 24 = .ok (.iconst 0, 1) := by decide +kernel
theorem dX6_rule_25 : decode cX6_rule 25 = .ok (.invokevirtual 201, 3) := by decide +kernel
theorem dX6_rule_28 : decode cX6_rule 28 = .ok (.istore_n 3, 1) := by decide +kernel
theorem dX6_rule_29 : decode cX6_rule 29 = .ok (.iload_n 3, 1) := by decide +kernel
theorem dX6_rule_30 : decode cX6_rule 30 = .ok (.ifCond .ge 10, 3) := by decide +kernel
theorem dX6_rule_33 : decode cX6_rule 33 = .ok (.aload_n 0, 1) := by decide +kernel
theorem dX6_rule_34 : decode cX6_rule 34 = .ok (.bipush (-3), 2) := by decide +kernel
theorem dX6_rule_36 : decode cX6_rule 36 = .ok (.invokevirtual 68, 3) := by decide +kernel
theorem dX6_rule_39 : decode cX6_rule 39 = .ok (.ireturn, 1) := by decide +kernel
theorem dX6_rule_40 : decode cX6_rule 40 = .ok (.iconst 1, 1) := by decide +kernel
theorem dX6_rule_41 : decode cX6_rule 41 = .ok (.istore 4, 2) := by decide +kernel
theorem dX6_rule_43 : decode cX6_rule 43 = .ok (.iload 4, 2) := by decide +kernel
theorem dX6_rule_45 : decode cX6_rule 45 = .ok (.iconst 4, 1) := by decide +kernel
theorem dX6_rule_46 : decode cX6_rule 46 = .ok (.if_icmp .ge 44, 3) := by decide +kernel
theorem dX6_rule_49 : decode cX6_rule 49 = .ok (.aload_n 0, 1) := by decide +kernel
theorem dX6_rule_50 : decode cX6_rule 50 = .ok (.iload 4, 2) := by decide +kernel
theorem dX6_rule_52 : decode cX6_rule 52 = .ok (.iconst 0, 1) := by decide +kernel
theorem dX6_rule_53 : decode cX6_rule 53 = .ok (.invokevirtual 201, 3) := by decide +kernel
theorem dX6_rule_56 : decode cX6_rule 56 = .ok (.istore 5, 2) := by decide +kernel
theorem dX6_rule_58 : decode cX6_rule 58 = .ok (.iload 5, 2) := by decide +kernel
theorem dX6_rule_60 : decode cX6_rule 60 = .ok (.iload_n 3, 1) := by decide +kernel
theorem dX6_rule_61 : decode cX6_rule 61 = .ok (.if_icmp .ge 8, 3) := by decide +kernel
theorem dX6_rule_64 : decode cX6_rule 64 = .ok (.iload 4, 2) := by decide +kernel
theorem dX6_rule_66 : decode cX6_rule 66 = .ok (.goto 4, 3) := by decide +kernel
theorem dX6_rule_69 : decode cX6_rule 69 = .ok (.iload_n 2, 1) := by decide +kernel
theorem dX6_rule_70 : decode cX6_rule 70 = .ok (.istore_n 2, 1) := by decide +kernel
theorem dX6_rule_71 : decode cX6_rule 71 = .ok (.iload 5, 2) := by decide +kernel
theorem dX6_rule_73 : decode cX6_rule 73 = .ok (.iload_n 3, 1) := by decide +kernel
theorem dX6_rule_74 : decode cX6_rule 74 = .ok (.if_icmp .ge 8, 3) := by decide +kernel
theorem dX6_rule_77 : decode cX6_rule 77 = .ok (.iload 5, 2) := by decide +kernel
theorem dX6_rule_79 : decode cX6_rule 79 = .ok (.goto 4, 3) := by decide +kernel
theorem dX6_rule_82 : decode cX6_rule 82 = .ok (.iload_n 3, 1) := by decide +kernel
theorem dX6_rule_83 : decode cX6_rule 83 = .ok (.istore_n 3, 1) := by decide +kernel
theorem dX6_rule_84 : decode cX6_rule 84 = .ok (.iinc 4 1, 3) := by decide +kernel
theorem dX6_rule_87 : decode cX6_rule 87 = .ok (.goto (-44), 3) := by decide +kernel
theorem dX6_rule_90 : decode cX6_rule 90 = .ok (.iload_n 1, 1) := by decide +kernel
theorem dX6_rule_91 : decode cX6_rule 91 = .ok (.ifCond .ne 7, 3) := by decide +kernel
theorem dX6_rule_94 : decode cX6_rule 94 = .ok (.iload_n 2, 1) := by decide +kernel
theorem dX6_rule_95 : decode cX6_rule 95 = .ok (.goto 4, 3) := by decide +kernel
theorem dX6_rule_98 : decode cX6_rule 98 = .ok (.iload_n 3, 1) := by decide +kernel
theorem dX6_rule_99 : decode cX6_rule 99 = .ok (.ireturn, 1) := by decide +kernel
theorem dX6_rank_0 : decode cX6_rank 0 = .ok (.iconst 0, 1) := by decide +kernel
theorem dX6_rank_1 : decode cX6_rank 1 = .ok (.istore_n 3, 1) := by decide +kernel
theorem dX6_rank_2 : decode cX6_rank 2 = .ok (.iconst 0, 1) := by decide +kernel
theorem dX6_rank_3 : decode cX6_rank 3 = .ok (.istore 4, 2) := by decide +kernel
theorem dX6_rank_5 : decode cX6_rank 5 = .ok (.iload 4, 2) := by decide +kernel
theorem dX6_rank_7 : decode cX6_rank 7 = .ok (.iload_n 1, 1) := by decide +kernel
theorem dX6_rank_8 : decode cX6_rank 8 = .ok (.if_icmp .ge 33, 3) := by decide +kernel
theorem dX6_rank_11 : decode cX6_rank 11 = .ok (.iload_n 3, 1) := by decide +kernel
theorem dX6_rank_12 : decode cX6_rank 12 = .ok (.aload_n 0, 1) := by decide +kernel
theorem dX6_rank_13 : decode cX6_rank 13 = .ok (.iload_n 2, 1) := by decide +kernel
theorem dX6_rank_14 : decode cX6_rank 14 = .ok (.iload 4, 2) := by decide +kernel
theorem dX6_rank_16 : decode cX6_rank 16 = .ok (.invokevirtual 79, 3) := by decide +kernel
theorem dX6_rank_19 : decode cX6_rank 19 = .ok (.aload_n 0, 1) := by decide +kernel
theorem dX6_rank_20 : decode cX6_rank 20 = .ok (.iload_n 2, 1) := by decide +kernel
theorem dX6_rank_21 : decode cX6_rank 21 = .ok (.iload_n 1, 1) := by decide +kernel
theorem dX6_rank_22 : decode cX6_rank 22 = .ok (.invokevirtual 79, 3) := by decide +kernel
theorem dX6_rank_25 : decode cX6_rank 25 = .ok (.if_icmp .ne 7, 3) := by decide +kernel
theorem dX6_rank_28 : decode cX6_rank 28 = .ok (.iconst 1, 1) := by decide +kernel
theorem dX6_rank_29 : decode cX6_rank 29 = .ok (.goto 4, 3) := by decide +kernel
theorem dX6_rank_32 : decode cX6_rank 32 = .ok (.iconst 0, 1) := by decide +kernel
theorem dX6_rank_33 : decode cX6_rank 33 = .ok (.iadd, 1) := by decide +kernel
theorem dX6_rank_34 : decode cX6_rank 34 = .ok (.istore_n 3, 1) := by decide +kernel
theorem dX6_rank_35 : decode cX6_rank 35 = .ok (.iinc 4 1, 3) := by decide +kernel
theorem dX6_rank_38 : decode cX6_rank 38 = .ok (.goto (-33), 3) := by decide +kernel
theorem dX6_rank_41 : decode cX6_rank 41 = .ok (.iload_n 3, 1) := by decide +kernel
theorem dX6_rank_42 : decode cX6_rank 42 = .ok (.ireturn, 1) := by decide +kernel
theorem dX6_leader_0 : decode cX6_leader 0 = .ok (.aload_n 0, 1) := by decide +kernel
theorem dX6_leader_1 : decode cX6_leader 1 = .ok (.iload_n 1, 1) := by decide +kernel
theorem dX6_leader_2 : decode cX6_leader 2 = .ok (.iload_n 2, 1) := by decide +kernel
theorem dX6_leader_3 : decode cX6_leader 3 = .ok (.invokevirtual 205, 3) := by decide +kernel
theorem dX6_leader_6 : decode cX6_leader 6 = .ok (.aload_n 0, 1) := by decide +kernel
theorem dX6_leader_7 : decode cX6_leader 7 = .ok (.iload_n 2, 1) := by decide +kernel
theorem dX6_leader_8 : decode cX6_leader 8 = .ok (.aload_n 0, 1) := by decide +kernel
theorem dX6_leader_9 : decode cX6_leader 9 = .ok (.iload_n 2, 1) := by decide +kernel
theorem dX6_leader_10 : decode cX6_leader 10 = .ok (.iload_n 1, 1) := by decide +kernel
theorem dX6_leader_11 : decode cX6_leader 11 = .ok (.invokevirtual 79, 3) := by decide +kernel
theorem dX6_leader_14 : decode cX6_leader 14 = .ok (.invokevirtual 179, 3) := by decide +kernel
theorem dX6_leader_17 : decode cX6_leader 17 = .ok (.irem, 1) := by decide +kernel
theorem dX6_leader_18 : decode cX6_leader 18 = .ok (.ireturn, 1) := by decide +kernel
theorem dX6_leads_0 : decode cX6_leads 0 = .ok (.iload_n 1, 1) := by decide +kernel
theorem dX6_leads_1 : decode cX6_leads 1 = .ok (.invokestatic 85, 3) := by decide +kernel
theorem dX6_leads_4 : decode cX6_leads 4 = .ok (.ifCond .eq 10, 3) := by decide +kernel
theorem dX6_leads_7 : decode cX6_leads 7 = .ok (.iload_n 2, 1) := by decide +kernel
theorem dX6_leads_8 : decode cX6_leads 8 = .ok (.invokestatic 65, 3) := by decide +kernel
theorem dX6_leads_11 : decode cX6_leads 11 = .ok (.ifCond .ne 10, 3) := by decide +kernel
theorem dX6_leads_14 : decode cX6_leads 14 = .ok (.aload_n 0, 1) := by decide +kernel
theorem dX6_leads_15 : decode cX6_leads 15 = .ok (.bipush (-2), 2) := by decide +kernel
theorem dX6_leads_17 : decode cX6_leads 17 = .ok (.invokevirtual 68, 3) := by decide +kernel
theorem dX6_leads_20 : decode cX6_leads 20 = .ok (.ireturn, 1) := by decide +kernel
theorem dX6_leads_21 : decode cX6_leads 21 = .ok (.aload_n 0, 1) := by decide +kernel
theorem dX6_leads_22 : decode cX6_leads 22 = .ok (.iload_n 2, 1) := by decide +kernel
theorem dX6_leads_23 : decode cX6_leads 23 = .ok (.invokevirtual 61, 3) := by decide +kernel
theorem dX6_leads_26 : decode cX6_leads 26 = .ok (.ifCond .eq 12, 3) := by decide +kernel
theorem dX6_leads_29 : decode cX6_leads 29 = .ok (.aload_n 0, 1) := by decide +kernel
theorem dX6_leads_30 : decode cX6_leads 30 = .ok (.iload_n 1, 1) := by decide +kernel
theorem dX6_leads_31 : decode cX6_leads 31 = .ok (.iload_n 2, 1) := by decide +kernel
theorem dX6_leads_32 : decode cX6_leads 32 = .ok (.invokevirtual 208, 3) := by decide +kernel
theorem dX6_leads_35 : decode cX6_leads 35 = .ok (.goto 4, 3) := by decide +kernel
theorem dX6_leads_38 : decode cX6_leads 38 = .ok (.iconst (-1), 1) := by decide +kernel
theorem dX6_leads_39 : decode cX6_leads 39 = .ok (.ireturn, 1) := by decide +kernel
theorem dX6_leadOf_0 : decode cX6_leadOf 0 = .ok (.iconst 0, 1) := by decide +kernel
theorem dX6_leadOf_1 : decode cX6_leadOf 1 = .ok (.istore 5, 2) := by decide +kernel
theorem dX6_leadOf_3 : decode cX6_leadOf 3 = .ok (.iconst 0, 1) := by decide +kernel
theorem dX6_leadOf_4 : decode cX6_leadOf 4 = .ok (.istore 6, 2) := by decide +kernel
theorem dX6_leadOf_6 : decode cX6_leadOf 6 = .ok (.iload 6, 2) := by decide +kernel
theorem dX6_leadOf_8 : decode cX6_leadOf 8 = .ok (.bipush 24, 2) := by decide +kernel
theorem dX6_leadOf_10 : decode cX6_leadOf 10 = .ok (.if_icmp .ge 56, 3) := by decide +kernel
theorem dX6_leadOf_13 : decode cX6_leadOf 13 = .ok (.iload 5, 2) := by decide +kernel
theorem dX6_leadOf_15 : decode cX6_leadOf 15 = .ok (.aload_n 0, 1) := by decide +kernel
theorem dX6_leadOf_16 : decode cX6_leadOf 16 = .ok (.iload_n 1, 1) := by decide +kernel
theorem dX6_leadOf_17 : decode cX6_leadOf 17 = .ok (.iload 6, 2) := by decide +kernel
theorem dX6_leadOf_19 : decode cX6_leadOf 19 = .ok (.invokevirtual 79, 3) := by decide +kernel
theorem dX6_leadOf_22 : decode cX6_leadOf 22 = .ok (.iload_n 2, 1) := by decide +kernel
theorem dX6_leadOf_23 : decode cX6_leadOf 23 = .ok (.if_icmp .ne 33, 3) := by decide +kernel
theorem dX6_leadOf_26 : decode cX6_leadOf 26 = .ok (.aload_n 0, 1) := by decide +kernel
theorem dX6_leadOf_27 : decode cX6_leadOf 27 = .ok (.iload 6, 2) := by decide +kernel
theorem dX6_leadOf_29 : decode cX6_leadOf 29 = .ok (.iload_n 1, 1) := by decide +kernel
theorem dX6_leadOf_30 : decode cX6_leadOf 30 = .ok (.invokevirtual 208, 3) := by decide +kernel
theorem dX6_leadOf_33 : decode cX6_leadOf 33 = .ok (.iload_n 3, 1) := by decide +kernel
theorem dX6_leadOf_34 : decode cX6_leadOf 34 = .ok (.if_icmp .ne 22, 3) := by decide +kernel
theorem dX6_leadOf_37 : decode cX6_leadOf 37 = .ok (.iload 4, 2) := by decide +kernel
theorem dX6_leadOf_39 : decode cX6_leadOf 39 = .ok (.ifCond .eq 7, 3) := by decide +kernel
theorem dX6_leadOf_42 : decode cX6_leadOf 42 = .ok (.iconst 1, 1) := by decide +kernel
theorem dX6_leadOf_43 : decode cX6_leadOf 43 = .ok (.goto 14, 3) := by decide +kernel
theorem dX6_leadOf_46 : decode cX6_leadOf 46 = .ok (.aload_n 0, 1) := by decide +kernel
theorem dX6_leadOf_47 : decode cX6_leadOf 47 = .ok (.getfield 7, 3) := by decide +kernel
theorem dX6_leadOf_50 : decode cX6_leadOf 50 = .ok (.iload 6, 2) := by decide +kernel
theorem dX6_leadOf_52 : decode cX6_leadOf 52 = .ok (.iaload, 1) := by decide +kernel
theorem dX6_leadOf_53 : decode cX6_leadOf 53 = .ok (.goto 4, 3) := by decide +kernel
theorem dX6_leadOf_56 : decode cX6_leadOf 56 = .ok (.iconst 0, 1) := by decide +kernel
theorem dX6_leadOf_57 : decode cX6_leadOf 57 = .ok (.iadd, 1) := by decide +kernel
theorem dX6_leadOf_58 : decode cX6_leadOf 58 = .ok (.istore 5, 2) := by decide +kernel
theorem dX6_leadOf_60 : decode cX6_leadOf 60 = .ok (.iinc 6 1, 3) := by decide +kernel
theorem dX6_leadOf_63 : decode cX6_leadOf 63 = .ok (.goto (-57), 3) := by decide +kernel
theorem dX6_leadOf_66 : decode cX6_leadOf 66 = .ok (.iload 5, 2) := by decide +kernel
theorem dX6_leadOf_68 : decode cX6_leadOf 68 = .ok (.ireturn, 1) := by decide +kernel
theorem dX6_lead_0 : decode cX6_lead 0 = .ok (.iload_n 1, 1) := by decide +kernel
theorem dX6_lead_1 : decode cX6_lead 1 = .ok (.invokestatic 65, 3) := by decide +kernel
theorem dX6_lead_4 : decode cX6_lead 4 = .ok (.ifCond .eq 20, 3) := by decide +kernel
theorem dX6_lead_7 : decode cX6_lead 7 = .ok (.iload_n 2, 1) := by decide +kernel
theorem dX6_lead_8 : decode cX6_lead 8 = .ok (.invokestatic 82, 3) := by decide +kernel
theorem dX6_lead_11 : decode cX6_lead 11 = .ok (.ifCond .eq 13, 3) := by decide +kernel
theorem dX6_lead_14 : decode cX6_lead 14 = .ok (.iload_n 3, 1) := by decide +kernel
theorem dX6_lead_15 : decode cX6_lead 15 = .ok (.iconst 0, 1) := by decide +kernel
theorem dX6_lead_16 : decode cX6_lead 16 = .ok (.bipush 7, 2) := by decide +kernel
theorem dX6_lead_18 : decode cX6_lead 18 = .ok (.invokestatic 53, 3) := by decide +kernel
theorem dX6_lead_21 : decode cX6_lead 21 = .ok (.ifCond .ne 10, 3) := by decide +kernel
theorem dX6_lead_24 : decode cX6_lead 24 = .ok (.aload_n 0, 1) := by decide +kernel
theorem dX6_lead_25 : decode cX6_lead 25 = .ok (.bipush (-2), 2) := by decide +kernel
theorem dX6_lead_27 : decode cX6_lead 27 = .ok (.invokevirtual 68, 3) := by decide +kernel
theorem dX6_lead_30 : decode cX6_lead 30 = .ok (.ireturn, 1) := by decide +kernel
theorem dX6_lead_31 : decode cX6_lead 31 = .ok (.iload_n 3, 1) := by decide +kernel
theorem dX6_lead_32 : decode cX6_lead 32 = .ok (.aload_n 0, 1) := by decide +kernel
theorem dX6_lead_33 : decode cX6_lead 33 = .ok (.iload_n 1, 1) := by decide +kernel
theorem dX6_lead_34 : decode cX6_lead 34 = .ok (.iload_n 2, 1) := by decide +kernel
theorem dX6_lead_35 : decode cX6_lead 35 = .ok (.invokevirtual 179, 3) := by decide +kernel
theorem dX6_lead_38 : decode cX6_lead 38 = .ok (.if_icmp .ge 14, 3) := by decide +kernel
theorem dX6_lead_41 : decode cX6_lead 41 = .ok (.aload_n 0, 1) := by decide +kernel
theorem dX6_lead_42 : decode cX6_lead 42 = .ok (.iload_n 1, 1) := by decide +kernel
theorem dX6_lead_43 : decode cX6_lead 43 = .ok (.iload_n 2, 1) := by decide +kernel
theorem dX6_lead_44 : decode cX6_lead 44 = .ok (.iload_n 3, 1) := by decide +kernel
theorem dX6_lead_45 : decode cX6_lead 45 = .ok (.iconst 0, 1) := by decide +kernel
theorem dX6_lead_46 : decode cX6_lead 46 = .ok (.invokevirtual 211, 3) := by decide +kernel
theorem dX6_lead_49 : decode cX6_lead 49 = .ok (.goto 4, 3) := by decide +kernel
theorem dX6_lead_52 : decode cX6_lead 52 = .ok (.iconst (-1), 1) := by decide +kernel
theorem dX6_lead_53 : decode cX6_lead 53 = .ok (.ireturn, 1) := by decide +kernel
theorem dX6_fair_0 : decode cX6_fair 0 = .ok (.iload_n 1, 1) := by decide +kernel
theorem dX6_fair_1 : decode cX6_fair 1 = .ok (.invokestatic 65, 3) := by decide +kernel
theorem dX6_fair_4 : decode cX6_fair 4 = .ok (.ifCond .eq 19, 3) := by decide +kernel
theorem dX6_fair_7 : decode cX6_fair 7 = .ok (.iload_n 2, 1) := by decide +kernel
theorem dX6_fair_8 : decode cX6_fair 8 = .ok (.invokestatic 82, 3) := by decide +kernel
theorem dX6_fair_11 : decode cX6_fair 11 = .ok (.ifCond .eq 12, 3) := by decide +kernel
theorem dX6_fair_14 : decode cX6_fair 14 = .ok (.iload_n 3, 1) := by decide +kernel
theorem dX6_fair_15 : decode cX6_fair 15 = .ok (.iconst 0, 1) := by decide +kernel
theorem dX6_fair_16 : decode cX6_fair 16 = .ok (.iconst 1, 1) := by decide +kernel
theorem dX6_fair_17 : decode cX6_fair 17 = .ok (.invokestatic 53, 3) := by decide +kernel
theorem dX6_fair_20 : decode cX6_fair 20 = .ok (.ifCond .ne 10, 3) := by decide +kernel
theorem dX6_fair_23 : decode cX6_fair 23 = .ok (.aload_n 0, 1) := by decide +kernel
theorem dX6_fair_24 : decode cX6_fair 24 = .ok (.bipush (-2), 2) := by decide +kernel
theorem dX6_fair_26 : decode cX6_fair 26 = .ok (.invokevirtual 68, 3) := by decide +kernel
theorem dX6_fair_29 : decode cX6_fair 29 = .ok (.ireturn, 1) := by decide +kernel
theorem dX6_fair_30 : decode cX6_fair 30 = .ok (.iconst 0, 1) := by decide +kernel
theorem dX6_fair_31 : decode cX6_fair 31 = .ok (.istore 4, 2) := by decide +kernel
theorem dX6_fair_33 : decode cX6_fair 33 = .ok (.ldc 215, 2) := by decide +kernel
theorem dX6_fair_35 : decode cX6_fair 35 = .ok (.istore 5, 2) := by decide +kernel
theorem dX6_fair_37 : decode cX6_fair 37 = .ok (.iconst 0, 1) := by decide +kernel
theorem dX6_fair_38 : decode cX6_fair 38 = .ok (.istore 6, 2) := by decide +kernel
theorem dX6_fair_40 : decode cX6_fair 40 = .ok (.iload 6, 2) := by decide +kernel
theorem dX6_fair_42 : decode cX6_fair 42 = .ok (.aload_n 0, 1) := by decide +kernel
theorem dX6_fair_43 : decode cX6_fair 43 = .ok (.iload_n 1, 1) := by decide +kernel
theorem dX6_fair_44 : decode cX6_fair 44 = .ok (.iload_n 2, 1) := by decide +kernel
theorem dX6_fair_45 : decode cX6_fair 45 = .ok (.invokevirtual 179, 3) := by decide +kernel
theorem dX6_fair_48 : decode cX6_fair 48 = .ok (.if_icmp .ge 60, 3) := by decide +kernel
theorem dX6_fair_51 : decode cX6_fair 51 = .ok (.aload_n 0, 1) := by decide +kernel
theorem dX6_fair_52 : decode cX6_fair 52 = .ok (.iload_n 1, 1) := by decide +kernel
theorem dX6_fair_53 : decode cX6_fair 53 = .ok (.iload_n 2, 1) := by decide +kernel
theorem dX6_fair_54 : decode cX6_fair 54 = .ok (.iload 6, 2) := by decide +kernel
theorem dX6_fair_56 : decode cX6_fair 56 = .ok (.iload_n 3, 1) := by decide +kernel
theorem dX6_fair_57 : decode cX6_fair 57 = .ok (.ifCond .ne 7, 3) := by decide +kernel
theorem dX6_fair_60 : decode cX6_fair 60 = .ok (.iconst 1, 1) := by decide +kernel
theorem dX6_fair_61 : decode cX6_fair 61 = .ok (.goto 4, 3) := by decide +kernel
theorem dX6_fair_64 : decode cX6_fair 64 = .ok (.iconst 0, 1) := by decide +kernel
theorem dX6_fair_65 : decode cX6_fair 65 = .ok (.invokevirtual 211, 3) := by decide +kernel
theorem dX6_fair_68 : decode cX6_fair 68 = .ok (.istore 7, 2) := by decide +kernel
theorem dX6_fair_70 : decode cX6_fair 70 = .ok (.iload 7, 2) := by decide +kernel
theorem dX6_fair_72 : decode cX6_fair 72 = .ok (.iload 4, 2) := by decide +kernel
theorem dX6_fair_74 : decode cX6_fair 74 = .ok (.if_icmp .le 8, 3) := by decide +kernel
theorem dX6_fair_77 : decode cX6_fair 77 = .ok (.iload 7, 2) := by decide +kernel
theorem dX6_fair_79 : decode cX6_fair 79 = .ok (.goto 5, 3) := by decide +kernel
theorem dX6_fair_82 : decode cX6_fair 82 = .ok (.iload 4, 2) := by decide +kernel
theorem dX6_fair_84 : decode cX6_fair 84 = .ok (.istore 4, 2) := by decide +kernel
theorem dX6_fair_86 : decode cX6_fair 86 = .ok (.iload 7, 2) := by decide +kernel
theorem dX6_fair_88 : decode cX6_fair 88 = .ok (.iload 5, 2) := by decide +kernel
theorem dX6_fair_90 : decode cX6_fair 90 = .ok (.if_icmp .ge 8, 3) := by decide +kernel
theorem dX6_fair_93 : decode cX6_fair 93 = .ok (.iload 7, 2) := by decide +kernel
theorem dX6_fair_95 : decode cX6_fair 95 = .ok (.goto 5, 3) := by decide +kernel
theorem dX6_fair_98 : decode cX6_fair 98 = .ok (.iload 5, 2) := by decide +kernel
theorem dX6_fair_100 : decode cX6_fair 100 = .ok (.istore 5, 2) := by decide +kernel
theorem dX6_fair_102 : decode cX6_fair 102 = .ok (.iinc 6 1, 3) := by decide +kernel
theorem dX6_fair_105 : decode cX6_fair 105 = .ok (.goto (-65), 3) := by decide +kernel
theorem dX6_fair_108 : decode cX6_fair 108 = .ok (.iload 4, 2) := by decide +kernel
theorem dX6_fair_110 : decode cX6_fair 110 = .ok (.iload 5, 2) := by decide +kernel
theorem dX6_fair_112 : decode cX6_fair 112 = .ok (.isub, 1) := by decide +kernel
theorem dX6_fair_113 : decode cX6_fair 113 = .ok (.ireturn, 1) := by decide +kernel
theorem dX6_place_0 : decode cX6_place 0 = .ok (.iload_n 1, 1) := by decide +kernel
theorem dX6_place_1 : decode cX6_place 1 = .ok (.invokestatic 85, 3) := by decide +kernel
theorem dX6_place_4 : decode cX6_place 4 = .ok (.ifCond .eq 20, 3) := by decide +kernel
theorem dX6_place_7 : decode cX6_place 7 = .ok (.iload_n 2, 1) := by decide +kernel
theorem dX6_place_8 : decode cX6_place 8 = .ok (.invokestatic 65, 3) := by decide +kernel
theorem dX6_place_11 : decode cX6_place 11 = .ok (.ifCond .eq 13, 3) := by decide +kernel
theorem dX6_place_14 : decode cX6_place 14 = .ok (.iload_n 3, 1) := by decide +kernel
theorem dX6_place_15 : decode cX6_place 15 = .ok (.iconst 0, 1) := by decide +kernel
theorem dX6_place_16 : decode cX6_place 16 = .ok (.bipush 7, 2) := by decide +kernel
theorem dX6_place_18 : decode cX6_place 18 = .ok (.invokestatic 53, 3) := by decide +kernel
theorem dX6_place_21 : decode cX6_place 21 = .ok (.ifCond .ne 10, 3) := by decide +kernel
theorem dX6_place_24 : decode cX6_place 24 = .ok (.aload_n 0, 1) := by decide +kernel
theorem dX6_place_25 : decode cX6_place 25 = .ok (.bipush (-2), 2) := by decide +kernel
theorem dX6_place_27 : decode cX6_place 27 = .ok (.invokevirtual 68, 3) := by decide +kernel
theorem dX6_place_30 : decode cX6_place 30 = .ok (.ireturn, 1) := by decide +kernel
theorem dX6_place_31 : decode cX6_place 31 = .ok (.aload_n 0, 1) := by decide +kernel
theorem dX6_place_32 : decode cX6_place 32 = .ok (.iload_n 2, 1) := by decide +kernel
theorem dX6_place_33 : decode cX6_place 33 = .ok (.aload_n 0, 1) := by decide +kernel
theorem dX6_place_34 : decode cX6_place 34 = .ok (.iload_n 2, 1) := by decide +kernel
theorem dX6_place_35 : decode cX6_place 35 = .ok (.iload_n 1, 1) := by decide +kernel
theorem dX6_place_36 : decode cX6_place 36 = .ok (.invokevirtual 79, 3) := by decide +kernel
theorem dX6_place_39 : decode cX6_place 39 = .ok (.invokevirtual 179, 3) := by decide +kernel
theorem dX6_place_42 : decode cX6_place 42 = .ok (.istore 4, 2) := by decide +kernel
theorem dX6_place_44 : decode cX6_place 44 = .ok (.aload_n 0, 1) := by decide +kernel
theorem dX6_place_45 : decode cX6_place 45 = .ok (.iload_n 2, 1) := by decide +kernel
theorem dX6_place_46 : decode cX6_place 46 = .ok (.invokevirtual 61, 3) := by decide +kernel
theorem dX6_place_49 : decode cX6_place 49 = .ok (.ifCond .eq 26, 3) := by decide +kernel
theorem dX6_place_52 : decode cX6_place 52 = .ok (.iload_n 3, 1) := by decide +kernel
theorem dX6_place_53 : decode cX6_place 53 = .ok (.iload 4, 2) := by decide +kernel
theorem dX6_place_55 : decode cX6_place 55 = .ok (.if_icmp .ge 20, 3) := by decide +kernel
theorem dX6_place_58 : decode cX6_place 58 = .ok (.iload_n 3, 1) := by decide +kernel
theorem dX6_place_59 : decode cX6_place 59 = .ok (.iload 4, 2) := by decide +kernel
theorem dX6_place_61 : decode cX6_place 61 = .ok (.iadd, 1) := by decide +kernel
theorem dX6_place_62 : decode cX6_place 62 = .ok (.aload_n 0, 1) := by decide +kernel
theorem dX6_place_63 : decode cX6_place 63 = .ok (.iload_n 1, 1) := by decide +kernel
theorem dX6_place_64 : decode cX6_place 64 = .ok (.iload_n 2, 1) := by decide +kernel
theorem dX6_place_65 : decode cX6_place 65 = .ok (.invokevirtual 208, 3) := by decide +kernel
theorem dX6_place_68 : decode cX6_place 68 = .ok (.isub, 1) := by decide +kernel
theorem dX6_place_69 : decode cX6_place 69 = .ok (.iload 4, 2) := by decide +kernel
theorem dX6_place_71 : decode cX6_place 71 = .ok (.irem, 1) := by decide +kernel
theorem dX6_place_72 : decode cX6_place 72 = .ok (.goto 4, 3) := by decide +kernel
theorem dX6_place_75 : decode cX6_place 75 = .ok (.iconst (-1), 1) := by decide +kernel
theorem dX6_place_76 : decode cX6_place 76 = .ok (.ireturn, 1) := by decide +kernel
theorem dX6_toldOf_0 : decode cX6_toldOf 0 = .ok (.iload_n 1, 1) := by decide +kernel
theorem dX6_toldOf_1 : decode cX6_toldOf 1 = .ok (.tableswitch 77 0 8 #[51, 51, 51, 58, 77, 77, 77, 63, 72], 51) := by decide +kernel
theorem dX6_toldOf_52 : decode cX6_toldOf 52 = .ok (.aload_n 0, 1) := by decide +kernel
theorem dX6_toldOf_53 : decode cX6_toldOf 53 = .ok (.getfield 19, 3) := by decide +kernel
theorem dX6_toldOf_56 : decode cX6_toldOf 56 = .ok (.iload_n 1, 1) := by decide +kernel
theorem dX6_toldOf_57 : decode cX6_toldOf 57 = .ok (.iaload, 1) := by decide +kernel
theorem dX6_toldOf_58 : decode cX6_toldOf 58 = .ok (.ireturn, 1) := by decide +kernel
theorem dX6_toldOf_59 : decode cX6_toldOf 59 = .ok (.aload_n 0, 1) := by decide +kernel
theorem dX6_toldOf_60 : decode cX6_toldOf 60 = .ok (.getfield 115, 3) := by decide +kernel
theorem dX6_toldOf_63 : decode cX6_toldOf 63 = .ok (.ireturn, 1) := by decide +kernel
theorem dX6_toldOf_64 : decode cX6_toldOf 64 = .ok (.aload_n 0, 1) := by decide +kernel
theorem dX6_toldOf_65 : decode cX6_toldOf 65 = .ok (.getfield 7, 3) := by decide +kernel
theorem dX6_toldOf_68 : decode cX6_toldOf 68 = .ok (.sipush 144, 3) := by decide +kernel
theorem dX6_toldOf_71 : decode cX6_toldOf 71 = .ok (.iaload, 1) := by decide +kernel
theorem dX6_toldOf_72 : decode cX6_toldOf 72 = .ok (.ireturn, 1) := by decide +kernel
theorem dX6_toldOf_73 : decode cX6_toldOf 73 = .ok (.aload_n 0, 1) := by decide +kernel
theorem dX6_toldOf_74 : decode cX6_toldOf 74 = .ok (.getfield 57, 3) := by decide +kernel
theorem dX6_toldOf_77 : decode cX6_toldOf 77 = .ok (.ireturn, 1) := by decide +kernel
theorem dX6_toldOf_78 : decode cX6_toldOf 78 = .ok (.aload_n 0, 1) := by decide +kernel
theorem dX6_toldOf_79 : decode cX6_toldOf 79 = .ok (.getfield 16, 3) := by decide +kernel
theorem dX6_toldOf_82 : decode cX6_toldOf 82 = .ok (.iload_n 1, 1) := by decide +kernel
theorem dX6_toldOf_83 : decode cX6_toldOf 83 = .ok (.iconst 4, 1) := by decide +kernel
theorem dX6_toldOf_84 : decode cX6_toldOf 84 = .ok (.isub, 1) := by decide +kernel
theorem dX6_toldOf_85 : decode cX6_toldOf 85 = .ok (.iaload, 1) := by decide +kernel
theorem dX6_toldOf_86 : decode cX6_toldOf 86 = .ok (.ireturn, 1) := by decide +kernel
theorem dX6_told_0 : decode cX6_told 0 = .ok (.iload_n 1, 1) := by decide +kernel
theorem dX6_told_1 : decode cX6_told 1 = .ok (.iconst 0, 1) := by decide +kernel
theorem dX6_told_2 : decode cX6_told 2 = .ok (.bipush 8, 2) := by decide +kernel
theorem dX6_told_4 : decode cX6_told 4 = .ok (.invokestatic 53, 3) := by decide +kernel
theorem dX6_told_7 : decode cX6_told 7 = .ok (.ifCond .eq 11, 3) := by decide +kernel
theorem dX6_told_10 : decode cX6_told 10 = .ok (.aload_n 0, 1) := by decide +kernel
theorem dX6_told_11 : decode cX6_told 11 = .ok (.iload_n 1, 1) := by decide +kernel
theorem dX6_told_12 : decode cX6_told 12 = .ok (.invokevirtual 216, 3) := by decide +kernel
theorem dX6_told_15 : decode cX6_told 15 = .ok (.goto 9, 3) := by decide +kernel
theorem dX6_told_18 : decode cX6_told 18 = .ok (.aload_n 0, 1) := by decide +kernel
theorem dX6_told_19 : decode cX6_told 19 = .ok (.bipush (-2), 2) := by decide +kernel
theorem dX6_told_21 : decode cX6_told 21 = .ok (.invokevirtual 68, 3) := by decide +kernel
theorem dX6_told_24 : decode cX6_told 24 = .ok (.ireturn, 1) := by decide +kernel
theorem dX6_digest_0 : decode cX6_digest 0 = .ok (.ldc2_w 219, 3) := by decide +kernel
theorem dX6_digest_3 : decode cX6_digest 3 = .ok (.lstore_n 1, 1) := by decide +kernel
theorem dX6_digest_4 : decode cX6_digest 4 = .ok (.iconst 0, 1) := by decide +kernel
theorem dX6_digest_5 : decode cX6_digest 5 = .ok (.istore_n 3, 1) := by decide +kernel
theorem dX6_digest_6 : decode cX6_digest 6 = .ok (.iload_n 3, 1) := by decide +kernel
theorem dX6_digest_7 : decode cX6_digest 7 = .ok (.bipush 9, 2) := by decide +kernel
theorem dX6_digest_9 : decode cX6_digest 9 = .ok (.if_icmp .ge 22, 3) := by decide +kernel
theorem dX6_digest_12 : decode cX6_digest 12 = .ok (.ldc2_w 221, 3) := by decide +kernel
theorem dX6_digest_15 : decode cX6_digest 15 = .ok (.lload_n 1, 1) := by decide +kernel
theorem dX6_digest_16 : decode cX6_digest 16 = .ok (.lmul, 1) := by decide +kernel
theorem dX6_digest_17 : decode cX6_digest 17 = .ok (.aload_n 0, 1) := by decide +kernel
theorem dX6_digest_18 : decode cX6_digest 18 = .ok (.iload_n 3, 1) := by decide +kernel
theorem dX6_digest_19 : decode cX6_digest 19 = .ok (.invokevirtual 216, 3) := by decide +kernel
theorem dX6_digest_22 : decode cX6_digest 22 = .ok (.i2l, 1) := by decide +kernel
theorem dX6_digest_23 : decode cX6_digest 23 = .ok (.ladd, 1) := by decide +kernel
theorem dX6_digest_24 : decode cX6_digest 24 = .ok (.lstore_n 1, 1) := by decide +kernel
theorem dX6_digest_25 : decode cX6_digest 25 = .ok (.iinc 3 1, 3) := by decide +kernel
theorem dX6_digest_28 : decode cX6_digest 28 = .ok (.goto (-22), 3) := by decide +kernel
theorem dX6_digest_31 : decode cX6_digest 31 = .ok (.iconst 0, 1) := by decide +kernel
theorem dX6_digest_32 : decode cX6_digest 32 = .ok (.istore_n 3, 1) := by decide +kernel
theorem dX6_digest_33 : decode cX6_digest 33 = .ok (.iload_n 3, 1) := by decide +kernel
theorem dX6_digest_34 : decode cX6_digest 34 = .ok (.bipush 24, 2) := by decide +kernel
theorem dX6_digest_36 : decode cX6_digest 36 = .ok (.if_icmp .ge 53, 3) := by decide +kernel
theorem dX6_digest_39 : decode cX6_digest 39 = .ok (.ldc2_w 221, 3) := by decide +kernel
theorem dX6_digest_42 : decode cX6_digest 42 = .ok (.lload_n 1, 1) := by decide +kernel
theorem dX6_digest_43 : decode cX6_digest 43 = .ok (.lmul, 1) := by decide +kernel
theorem dX6_digest_44 : decode cX6_digest 44 = .ok (.aload_n 0, 1) := by decide +kernel
theorem dX6_digest_45 : decode cX6_digest 45 = .ok (.getfield 7, 3) := by decide +kernel
theorem dX6_digest_48 : decode cX6_digest 48 = .ok (.iload_n 3, 1) := by decide +kernel
theorem dX6_digest_49 : decode cX6_digest 49 = .ok (.iaload, 1) := by decide +kernel
theorem dX6_digest_50 : decode cX6_digest 50 = .ok (.i2l, 1) := by decide +kernel
theorem dX6_digest_51 : decode cX6_digest 51 = .ok (.ladd, 1) := by decide +kernel
theorem dX6_digest_52 : decode cX6_digest 52 = .ok (.lstore_n 1, 1) := by decide +kernel
theorem dX6_digest_53 : decode cX6_digest 53 = .ok (.iconst 0, 1) := by decide +kernel
theorem dX6_digest_54 : decode cX6_digest 54 = .ok (.istore 4, 2) := by decide +kernel
theorem dX6_digest_56 : decode cX6_digest 56 = .ok (.iload 4, 2) := by decide +kernel
theorem dX6_digest_58 : decode cX6_digest 58 = .ok (.iconst 4, 1) := by decide +kernel
theorem dX6_digest_59 : decode cX6_digest 59 = .ok (.if_icmp .ge 24, 3) := by decide +kernel
theorem dX6_digest_62 : decode cX6_digest 62 = .ok (.ldc2_w 221, 3) := by decide +kernel
theorem dX6_digest_65 : decode cX6_digest 65 = .ok (.lload_n 1, 1) := by decide +kernel
theorem dX6_digest_66 : decode cX6_digest 66 = .ok (.lmul, 1) := by decide +kernel
theorem dX6_digest_67 : decode cX6_digest 67 = .ok (.aload_n 0, 1) := by decide +kernel
theorem dX6_digest_68 : decode cX6_digest 68 = .ok (.iload 4, 2) := by decide +kernel
theorem dX6_digest_70 : decode cX6_digest 70 = .ok (.iload_n 3, 1) := by decide +kernel
theorem dX6_digest_71 : decode cX6_digest 71 = .ok (.invokevirtual 79, 3) := by decide +kernel
theorem dX6_digest_74 : decode cX6_digest 74 = .ok (.i2l, 1) := by decide +kernel
theorem dX6_digest_75 : decode cX6_digest 75 = .ok (.ladd, 1) := by decide +kernel
theorem dX6_digest_76 : decode cX6_digest 76 = .ok (.lstore_n 1, 1) := by decide +kernel
theorem dX6_digest_77 : decode cX6_digest 77 = .ok (.iinc 4 1, 3) := by decide +kernel
theorem dX6_digest_80 : decode cX6_digest 80 = .ok (.goto (-24), 3) := by decide +kernel
theorem dX6_digest_83 : decode cX6_digest 83 = .ok (.iinc 3 1, 3) := by decide +kernel
theorem dX6_digest_86 : decode cX6_digest 86 = .ok (.goto (-53), 3) := by decide +kernel
theorem dX6_digest_89 : decode cX6_digest 89 = .ok (.bipush 120, 2) := by decide +kernel
theorem dX6_digest_91 : decode cX6_digest 91 = .ok (.istore_n 3, 1) := by decide +kernel
theorem dX6_digest_92 : decode cX6_digest 92 = .ok (.iload_n 3, 1) := by decide +kernel
theorem dX6_digest_93 : decode cX6_digest 93 = .ok (.sipush 144, 3) := by decide +kernel
theorem dX6_digest_96 : decode cX6_digest 96 = .ok (.if_icmp .ge 23, 3) := by decide +kernel
theorem dX6_digest_99 : decode cX6_digest 99 = .ok (.ldc2_w 221, 3) := by decide +kernel
theorem dX6_digest_102 : decode cX6_digest 102 = .ok (.lload_n 1, 1) := by decide +kernel
theorem dX6_digest_103 : decode cX6_digest 103 = .ok (.lmul, 1) := by decide +kernel
theorem dX6_digest_104 : decode cX6_digest 104 = .ok (.aload_n 0, 1) := by decide +kernel
theorem dX6_digest_105 : decode cX6_digest 105 = .ok (.getfield 7, 3) := by decide +kernel
theorem dX6_digest_108 : decode cX6_digest 108 = .ok (.iload_n 3, 1) := by decide +kernel
theorem dX6_digest_109 : decode cX6_digest 109 = .ok (.iaload, 1) := by decide +kernel
theorem dX6_digest_110 : decode cX6_digest 110 = .ok (.i2l, 1) := by decide +kernel
theorem dX6_digest_111 : decode cX6_digest 111 = .ok (.ladd, 1) := by decide +kernel
theorem dX6_digest_112 : decode cX6_digest 112 = .ok (.lstore_n 1, 1) := by decide +kernel
theorem dX6_digest_113 : decode cX6_digest 113 = .ok (.iinc 3 1, 3) := by decide +kernel
theorem dX6_digest_116 : decode cX6_digest 116 = .ok (.goto (-24), 3) := by decide +kernel
theorem dX6_digest_119 : decode cX6_digest 119 = .ok (.aload_n 0, 1) := by decide +kernel
theorem dX6_digest_120 : decode cX6_digest 120 = .ok (.invokevirtual 176, 3) := by decide +kernel
theorem dX6_digest_123 : decode cX6_digest 123 = .ok (.istore_n 3, 1) := by decide +kernel
theorem dX6_digest_124 : decode cX6_digest 124 = .ok (.ldc2_w 221, 3) := by decide +kernel
theorem dX6_digest_127 : decode cX6_digest 127 = .ok (.lload_n 1, 1) := by decide +kernel
theorem dX6_digest_128 : decode cX6_digest 128 = .ok (.lmul, 1) := by decide +kernel
theorem dX6_digest_129 : decode cX6_digest 129 = .ok (.aload_n 0, 1) := by decide +kernel
theorem dX6_digest_130 : decode cX6_digest 130 = .ok (.getfield 152, 3) := by decide +kernel
theorem dX6_digest_133 : decode cX6_digest 133 = .ok (.i2l, 1) := by decide +kernel
theorem dX6_digest_134 : decode cX6_digest 134 = .ok (.ladd, 1) := by decide +kernel
theorem dX6_digest_135 : decode cX6_digest 135 = .ok (.lstore_n 1, 1) := by decide +kernel
theorem dX6_digest_136 : decode cX6_digest 136 = .ok (.ldc2_w 221, 3) := by decide +kernel
theorem dX6_digest_139 : decode cX6_digest 139 = .ok (.lload_n 1, 1) := by decide +kernel
theorem dX6_digest_140 : decode cX6_digest 140 = .ok (.lmul, 1) := by decide +kernel
theorem dX6_digest_141 : decode cX6_digest 141 = .ok (.iload_n 3, 1) := by decide +kernel
theorem dX6_digest_142 : decode cX6_digest 142 = .ok (.i2l, 1) := by decide +kernel
theorem dX6_digest_143 : decode cX6_digest 143 = .ok (.ladd, 1) := by decide +kernel
theorem dX6_digest_144 : decode cX6_digest 144 = .ok (.lstore_n 1, 1) := by decide +kernel
theorem dX6_digest_145 : decode cX6_digest 145 = .ok (.iconst 0, 1) := by decide +kernel
theorem dX6_digest_146 : decode cX6_digest 146 = .ok (.istore 4, 2) := by decide +kernel
theorem dX6_digest_148 : decode cX6_digest 148 = .ok (.iload 4, 2) := by decide +kernel
theorem dX6_digest_150 : decode cX6_digest 150 = .ok (.aload_n 0, 1) := by decide +kernel
theorem dX6_digest_151 : decode cX6_digest 151 = .ok (.getfield 152, 3) := by decide +kernel
theorem dX6_digest_154 : decode cX6_digest 154 = .ok (.if_icmp .ge 29, 3) := by decide +kernel
theorem dX6_digest_157 : decode cX6_digest 157 = .ok (.ldc2_w 221, 3) := by decide +kernel
theorem dX6_digest_160 : decode cX6_digest 160 = .ok (.lload_n 1, 1) := by decide +kernel
theorem dX6_digest_161 : decode cX6_digest 161 = .ok (.lmul, 1) := by decide +kernel
theorem dX6_digest_162 : decode cX6_digest 162 = .ok (.aload_n 0, 1) := by decide +kernel
theorem dX6_digest_163 : decode cX6_digest 163 = .ok (.iload 4, 2) := by decide +kernel
theorem dX6_digest_165 : decode cX6_digest 165 = .ok (.aload_n 0, 1) := by decide +kernel
theorem dX6_digest_166 : decode cX6_digest 166 = .ok (.getfield 16, 3) := by decide +kernel
theorem dX6_digest_169 : decode cX6_digest 169 = .ok (.iconst 2, 1) := by decide +kernel
theorem dX6_digest_170 : decode cX6_digest 170 = .ok (.iaload, 1) := by decide +kernel
theorem dX6_digest_171 : decode cX6_digest 171 = .ok (.invokevirtual 198, 3) := by decide +kernel
theorem dX6_digest_174 : decode cX6_digest 174 = .ok (.i2l, 1) := by decide +kernel
theorem dX6_digest_175 : decode cX6_digest 175 = .ok (.ladd, 1) := by decide +kernel
theorem dX6_digest_176 : decode cX6_digest 176 = .ok (.lstore_n 1, 1) := by decide +kernel
theorem dX6_digest_177 : decode cX6_digest 177 = .ok (.iinc 4 1, 3) := by decide +kernel
theorem dX6_digest_180 : decode cX6_digest 180 = .ok (.goto (-32), 3) := by decide +kernel
theorem dX6_digest_183 : decode cX6_digest 183 = .ok (.lload_n 1, 1) := by decide +kernel
theorem dX6_digest_184 : decode cX6_digest 184 = .ok (.lreturn, 1) := by decide +kernel
