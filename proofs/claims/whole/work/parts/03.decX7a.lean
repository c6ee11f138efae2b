theorem dX7_init_0 : decode cX7_init 0 = .ok (.aload_n 0, 1) := by decide +kernel
theorem dX7_init_1 : decode cX7_init 1 = .ok (.invokespecial 1, 3) := by decide +kernel
theorem dX7_init_4 : decode cX7_init 4 = .ok (.aload_n 0, 1) := by decide +kernel
theorem dX7_init_5 : decode cX7_init 5 = .ok (.sipush 252, 3) := by decide +kernel
theorem dX7_init_8 : decode cX7_init 8 = .ok (.newarray .int, 2) := by decide +kernel
theorem dX7_init_10 : decode cX7_init 10 = .ok (.putfield 7, 3) := by decide +kernel
theorem dX7_init_13 : decode cX7_init 13 = .ok (.aload_n 0, 1) := by decide +kernel
theorem dX7_init_14 : decode cX7_init 14 = .ok (.bipush 42, 2) := by decide +kernel
theorem dX7_init_16 : decode cX7_init 16 = .ok (.newarray .int, 2) := by decide +kernel
theorem dX7_init_18 : decode cX7_init 18 = .ok (.putfield 13, 3) := by decide +kernel
theorem dX7_init_21 : decode cX7_init 21 = .ok (.aload_n 0, 1) := by decide +kernel
theorem dX7_init_22 : decode cX7_init 22 = .ok (.sipush 160, 3) := by decide +kernel
theorem dX7_init_25 : decode cX7_init 25 = .ok (.newarray .int, 2) := by decide +kernel
theorem dX7_init_27 : decode cX7_init 27 = .ok (.putfield 16, 3) := by decide +kernel
theorem dX7_init_30 : decode cX7_init 30 = .ok (.aload_n 0, 1) := by decide +kernel
theorem dX7_init_31 : decode cX7_init 31 = .ok (.bipush 6, 2) := by decide +kernel
theorem dX7_init_33 : decode cX7_init 33 = .ok (.newarray .int, 2) := by decide +kernel
theorem dX7_init_35 : decode cX7_init 35 = .ok (.dup, 1) := by decide +kernel
theorem dX7_init_36 : decode cX7_init 36 = .ok (.iconst 0, 1) := by decide +kernel
theorem dX7_init_37 : decode cX7_init 37 = .ok (.iconst 0, 1) := by decide +kernel
theorem dX7_init_38 : decode cX7_init 38 = .ok (.iastore, 1) := by decide +kernel
theorem dX7_init_39 : decode cX7_init 39 = .ok (.dup, 1) := by decide +kernel
theorem dX7_init_40 : decode cX7_init 40 = .ok (.iconst 1, 1) := by decide +kernel
theorem dX7_init_41 : decode cX7_init 41 = .ok (.iconst 5, 1) := by decide +kernel
theorem dX7_init_42 : decode cX7_init 42 = .ok (.iastore, 1) := by decide +kernel
theorem dX7_init_43 : decode cX7_init 43 = .ok (.dup, 1) := by decide +kernel
theorem dX7_init_44 : decode cX7_init 44 = .ok (.iconst 2, 1) := by decide +kernel
theorem dX7_init_45 : decode cX7_init 45 = .ok (.bipush 10, 2) := by decide +kernel
theorem dX7_init_47 : decode cX7_init 47 = .ok (.iastore, 1) := by decide +kernel
theorem dX7_init_48 : decode cX7_init 48 = .ok (.dup, 1) := by decide +kernel
theorem dX7_init_49 : decode cX7_init 49 = .ok (.iconst 3, 1) := by decide +kernel
theorem dX7_init_50 : decode cX7_init 50 = .ok (.bipush 14, 2) := by decide +kernel
theorem dX7_init_52 : decode cX7_init 52 = .ok (.iastore, 1) := by decide +kernel
theorem dX7_init_53 : decode cX7_init 53 = .ok (.dup, 1) := by decide +kernel
theorem dX7_init_54 : decode cX7_init 54 = .ok (.iconst 4, 1) := by decide +kernel
theorem dX7_init_55 : decode cX7_init 55 = .ok (.bipush 22, 2) := by decide +kernel
theorem dX7_init_57 : decode cX7_init 57 = .ok (.iastore, 1) := by decide +kernel
theorem dX7_init_58 : decode cX7_init 58 = .ok (.dup, 1) := by decide +kernel
theorem dX7_init_59 : decode cX7_init 59 = .ok (.iconst 5, 1) := by decide +kernel
theorem dX7_init_60 : decode cX7_init 60 = .ok (.bipush 26, 2) := by decide +kernel
theorem dX7_init_62 : decode cX7_init 62 = .ok (.iastore, 1) := by decide +kernel
theorem dX7_init_63 : decode cX7_init 63 = .ok (.putfield 19, 3) := by decide +kernel
theorem dX7_init_66 : decode cX7_init 66 = .ok (.aload_n 0, 1) := by decide +kernel
theorem dX7_init_67 : decode cX7_init 67 = .ok (.bipush 26, 2) := by decide +kernel
theorem dX7_init_69 : decode cX7_init 69 = .ok (.newarray .int, 2) := by decide +kernel
theorem dX7_init_71 : decode cX7_init 71 = .ok (.dup, 1) := by decide +kernel
theorem dX7_init_72 : decode cX7_init 72 = .ok (.iconst 0, 1) := by decide +kernel
theorem dX7_init_73 : decode cX7_init 73 = .ok (.bipush 112, 2) := by decide +kernel
theorem dX7_init_75 : decode cX7_init 75 = .ok (.iastore, 1) := by decide +kernel
theorem dX7_init_76 : decode cX7_init 76 = .ok (.dup, 1) := by decide +kernel
theorem dX7_init_77 : decode cX7_init 77 = .ok (.iconst 1, 1) := by decide +kernel
theorem dX7_init_78 : decode cX7_init 78 = .ok (.bipush 108, 2) := by decide +kernel
theorem dX7_init_80 : decode cX7_init 80 = .ok (.iastore, 1) := by decide +kernel
theorem dX7_init_81 : decode cX7_init 81 = .ok (.dup, 1) := by decide +kernel
theorem dX7_init_82 : decode cX7_init 82 = .ok (.iconst 2, 1) := by decide +kernel
theorem dX7_init_83 : decode cX7_init 83 = .ok (.bipush 97, 2) := by decide +kernel
theorem dX7_init_85 : decode cX7_init 85 = .ok (.iastore, 1) := by decide +kernel
theorem dX7_init_86 : decode cX7_init 86 = .ok (.dup, 1) := by decide +kernel
theorem dX7_init_87 : decode cX7_init 87 = .ok (.iconst 3, 1) := by decide +kernel
theorem dX7_init_88 : decode cX7_init 88 = .ok (.bipush 105, 2) := by decide +kernel
theorem dX7_init_90 : decode cX7_init 90 = .ok (.iastore, 1) := by decide +kernel
theorem dX7_init_91 : decode cX7_init 91 = .ok (.dup, 1) := by decide +kernel
theorem dX7_init_92 : decode cX7_init 92 = .ok (.iconst 4, 1) := by decide +kernel
theorem dX7_init_93 : decode cX7_init 93 = .ok (.bipush 110, 2) := by decide +kernel
theorem dX7_init_95 : decode cX7_init 95 = .ok (.iastore, 1) := by decide +kernel
theorem dX7_init_96 : decode cX7_init 96 = .ok (.dup, 1) := by decide +kernel
theorem dX7_init_97 : decode cX7_init 97 = .ok (.iconst 5, 1) := by decide +kernel
theorem dX7_init_98 : decode cX7_init 98 = .ok (.bipush 112, 2) := by decide +kernel
theorem dX7_init_100 : decode cX7_init 100 = .ok (.iastore, 1) := by decide +kernel
theorem dX7_init_101 : decode cX7_init 101 = .ok (.dup, 1) := by decide +kernel
theorem dX7_init_102 : decode cX7_init 102 = .ok (.bipush 6, 2) := by decide +kernel
theorem dX7_init_104 : decode cX7_init 104 = .ok (.bipush 114, 2) := by decide +kernel
theorem dX7_init_106 : decode cX7_init 106 = .ok (.iastore, 1) := by decide +kernel
theorem dX7_init_107 : decode cX7_init 107 = .ok (.dup, 1) := by decide +kernel
theorem dX7_init_108 : decode cX7_init 108 = .ok (.bipush 7, 2) := by decide +kernel
theorem dX7_init_110 : decode cX7_init 110 = .ok (.bipush 111, 2) := by decide +kernel
theorem dX7_init_112 : decode cX7_init 112 = .ok (.iastore, 1) := by decide +kernel
theorem dX7_init_113 : decode cX7_init 113 = .ok (.dup, 1) := by decide +kernel
theorem dX7_init_114 : decode cX7_init 114 = .ok (.bipush 8, 2) := by decide +kernel
theorem dX7_init_116 : decode cX7_init 116 = .ok (.bipush 117, 2) := by decide +kernel
theorem dX7_init_118 : decode cX7_init 118 = .ok (.iastore, 1) := by decide +kernel
theorem dX7_init_119 : decode cX7_init 119 = .ok (.dup, 1) := by decide +kernel
theorem dX7_init_120 : decode cX7_init 120 = .ok (.bipush 9, 2) := by decide +kernel
theorem dX7_init_122 : decode cX7_init 122 = .ok (.bipush 100, 2) := by decide +kernel
theorem dX7_init_124 : decode cX7_init 124 = .ok (.iastore, 1) := by decide +kernel
theorem dX7_init_125 : decode cX7_init 125 = .ok (.dup, 1) := by decide +kernel
theorem dX7_init_126 : decode cX7_init 126 = .ok (.bipush 10, 2) := by decide +kernel
theorem dX7_init_128 : decode cX7_init 128 = .ok (.bipush 119, 2) := by decide +kernel
theorem dX7_init_130 : decode cX7_init 130 = .ok (.iastore, 1) := by decide +kernel
theorem dX7_init_131 : decode cX7_init 131 = .ok (.dup, 1) := by decide +kernel
theorem dX7_init_132 : decode cX7_init 132 = .ok (.bipush 11, 2) := by decide +kernel
theorem dX7_init_134 : decode cX7_init 134 = .ok (.bipush 105, 2) := by decide +kernel
theorem dX7_init_136 : decode cX7_init 136 = .ok (.iastore, 1) := by decide +kernel
theorem dX7_init_137 : decode cX7_init 137 = .ok (.dup, 1) := by decide +kernel
theorem dX7_init_138 : decode cX7_init 138 = .ok (.bipush 12, 2) := by decide +kernel
theorem dX7_init_140 : decode cX7_init 140 = .ok (.bipush 115, 2) := by decide +kernel
theorem dX7_init_142 : decode cX7_init 142 = .ok (.iastore, 1) := by decide +kernel
theorem dX7_init_143 : decode cX7_init 143 = .ok (.dup, 1) := by decide +kernel
theorem dX7_init_144 : decode cX7_init 144 = .ok (.bipush 13, 2) := by decide +kernel
theorem dX7_init_146 : decode cX7_init 146 = .ok (.bipush 101, 2) := by decide +kernel
theorem dX7_init_148 : decode cX7_init 148 = .ok (.iastore, 1) := by decide +kernel
theorem dX7_init_149 : decode cX7_init 149 = .ok (.dup, 1) := by decide +kernel
theorem dX7_init_150 : decode cX7_init 150 = .ok (.bipush 14, 2) := by decide +kernel
theorem dX7_init_152 : decode cX7_init 152 = .ok (.bipush 99, 2) := by decide +kernel
theorem dX7_init_154 : decode cX7_init 154 = .ok (.iastore, 1) := by decide +kernel
theorem dX7_init_155 : decode cX7_init 155 = .ok (.dup, 1) := by decide +kernel
theorem dX7_init_156 : decode cX7_init 156 = .ok (.bipush 15, 2) := by decide +kernel
theorem dX7_init_158 : decode cX7_init 158 = .ok (.bipush 97, 2) := by decide +kernel
theorem dX7_init_160 : decode cX7_init 160 = .ok (.iastore, 1) := by decide +kernel
theorem dX7_init_161 : decode cX7_init 161 = .ok (.dup, 1) := by decide +kernel
theorem dX7_init_162 : decode cX7_init 162 = .ok (.bipush 16, 2) := by decide +kernel
theorem dX7_init_164 : decode cX7_init 164 = .ok (.bipush 114, 2) := by decide +kernel
theorem dX7_init_166 : decode cX7_init 166 = .ok (.iastore, 1) := by decide +kernel
theorem dX7_init_167 : decode cX7_init 167 = .ok (.dup, 1) := by decide +kernel
theorem dX7_init_168 : decode cX7_init 168 = .ok (.bipush 17, 2) := by decide +kernel
theorem dX7_init_170 : decode cX7_init 170 = .ok (.bipush 101, 2) := by decide +kernel
theorem dX7_init_172 : decode cX7_init 172 = .ok (.iastore, 1) := by decide +kernel
theorem dX7_init_173 : decode cX7_init 173 = .ok (.dup, 1) := by decide +kernel
theorem dX7_init_174 : decode cX7_init 174 = .ok (.bipush 18, 2) := by decide +kernel
theorem dX7_init_176 : decode cX7_init 176 = .ok (.bipush 108, 2) := by decide +kernel
theorem dX7_init_178 : decode cX7_init 178 = .ok (.iastore, 1) := by decide +kernel
theorem dX7_init_179 : decode cX7_init 179 = .ok (.dup, 1) := by decide +kernel
theorem dX7_init_180 : decode cX7_init 180 = .ok (.bipush 19, 2) := by decide +kernel
theorem dX7_init_182 : decode cX7_init 182 = .ok (.bipush 101, 2) := by decide +kernel
theorem dX7_init_184 : decode cX7_init 184 = .ok (.iastore, 1) := by decide +kernel
theorem dX7_init_185 : decode cX7_init 185 = .ok (.dup, 1) := by decide +kernel
theorem dX7_init_186 : decode cX7_init 186 = .ok (.bipush 20, 2) := by decide +kernel
theorem dX7_init_188 : decode cX7_init 188 = .ok (.bipush 115, 2) := by decide +kernel
theorem dX7_init_190 : decode cX7_init 190 = .ok (.iastore, 1) := by decide +kernel
theorem dX7_init_191 : decode cX7_init 191 = .ok (.dup, 1) := by decide +kernel
theorem dX7_init_192 : decode cX7_init 192 = .ok (.bipush 21, 2) := by decide +kernel
theorem dX7_init_194 : decode cX7_init 194 = .ok (.bipush 115, 2) := by decide +kernel
theorem dX7_init_196 : decode cX7_init 196 = .ok (.iastore, 1) := by decide +kernel
theorem dX7_init_197 : decode cX7_init 197 = .ok (.dup, 1) := by decide +kernel
theorem dX7_init_198 : decode cX7_init 198 = .ok (.bipush 22, 2) := by decide +kernel
theorem dX7_init_200 : decode cX7_init 200 = .ok (.bipush 103, 2) := by decide +kernel
theorem dX7_init_202 : decode cX7_init 202 = .ok (.iastore, 1) := by decide +kernel
theorem dX7_init_203 : decode cX7_init 203 = .ok (.dup, 1) := by decide +kernel
theorem dX7_init_204 : decode cX7_init 204 = .ok (.bipush 23, 2) := by decide +kernel
theorem dX7_init_206 : decode cX7_init 206 = .ok (.bipush 97, 2) := by decide +kernel
theorem dX7_init_208 : decode cX7_init 208 = .ok (.iastore, 1) := by decide +kernel
theorem dX7_init_209 : decode cX7_init 209 = .ok (.dup, 1) := by decide +kernel
theorem dX7_init_210 : decode cX7_init 210 = .ok (.bipush 24, 2) := by decide +kernel
theorem dX7_init_212 : decode cX7_init 212 = .ok (.bipush 109, 2) := by decide +kernel
theorem dX7_init_214 : decode cX7_init 214 = .ok (.iastore, 1) := by decide +kernel
theorem dX7_init_215 : decode cX7_init 215 = .ok (.dup, 1) := by decide +kernel
theorem dX7_init_216 : decode cX7_init 216 = .ok (.bipush 25, 2) := by decide +kernel
theorem dX7_init_218 : decode cX7_init 218 = .ok (.bipush 101, 2) := by decide +kernel
theorem dX7_init_220 : decode cX7_init 220 = .ok (.iastore, 1) := by decide +kernel
theorem dX7_init_221 : decode cX7_init 221 = .ok (.putfield 22, 3) := by decide +kernel
theorem dX7_init_224 : decode cX7_init 224 = .ok (.aload_n 0, 1) := by decide +kernel
theorem dX7_init_225 : decode cX7_init 225 = .ok (.bipush (-4), 2) := by decide +kernel
theorem dX7_init_227 : decode cX7_init 227 = .ok (.putfield 25, 3) := by decide +kernel
theorem dX7_init_230 : decode cX7_init 230 = .ok (.aload_n 0, 1) := by decide +kernel
theorem dX7_init_231 : decode cX7_init 231 = .ok (.iconst 5, 1) := by decide +kernel
theorem dX7_init_232 : decode cX7_init 232 = .ok (.newarray .int, 2) := by decide +kernel
theorem dX7_init_234 : decode cX7_init 234 = .ok (.putfield 29, 3) := by decide +kernel
theorem dX7_init_237 : decode cX7_init 237 = .ok (.aload_n 0, 1) := by decide +kernel
theorem dX7_init_238 : decode cX7_init 238 = .ok (.bipush 12, 2) := by decide +kernel
theorem dX7_init_240 : decode cX7_init 240 = .ok (.newarray .int, 2) := by decide +kernel
theorem dX7_init_242 : decode cX7_init 242 = .ok (.putfield 32, 3) := by decide +kernel
theorem dX7_init_245 : decode cX7_init 245 = .ok (.aload_n 0, 1) := by decide +kernel
theorem dX7_init_246 : decode cX7_init 246 = .ok (.sipush 441, 3) := by decide +kernel
theorem dX7_init_249 : decode cX7_init 249 = .ok (.newarray .int, 2) := by decide +kernel
theorem dX7_init_251 : decode cX7_init 251 = .ok (.putfield 35, 3) := by decide +kernel
theorem dX7_init_254 : decode cX7_init 254 = .ok (.aload_n 0, 1) := by decide +kernel
theorem dX7_init_255 : decode cX7_init 255 = .ok (.iconst 2, 1) := by decide +kernel
theorem dX7_init_256 : decode cX7_init 256 = .ok (.newarray .boolean, 2) := by decide +kernel
theorem dX7_init_258 : decode cX7_init 258 = .ok (.putfield 38, 3) := by decide +kernel
theorem dX7_init_261 : decode cX7_init 261 = .ok (.aload_n 0, 1) := by decide +kernel
theorem dX7_init_262 : decode cX7_init 262 = .ok (.iconst 4, 1) := by decide +kernel
theorem dX7_init_263 : decode cX7_init 263 = .ok (.newarray .int, 2) := by decide +kernel
theorem dX7_init_265 : decode cX7_init 265 = .ok (.dup, 1) := by decide +kernel
theorem dX7_init_266 : decode cX7_init 266 = .ok (.iconst 0, 1) := by decide +kernel
theorem dX7_init_267 : decode cX7_init 267 = .ok (.bipush (-4), 2) := by decide +kernel
theorem dX7_init_269 : decode cX7_init 269 = .ok (.iastore, 1) := by decide +kernel
theorem dX7_init_270 : decode cX7_init 270 = .ok (.dup, 1) := by decide +kernel
theorem dX7_init_271 : decode cX7_init 271 = .ok (.iconst 1, 1) := by decide +kernel
theorem dX7_init_272 : decode cX7_init 272 = .ok (.bipush (-4), 2) := by decide +kernel
theorem dX7_init_274 : decode cX7_init 274 = .ok (.iastore, 1) := by decide +kernel
theorem dX7_init_275 : decode cX7_init 275 = .ok (.dup, 1) := by decide +kernel
theorem dX7_init_276 : decode cX7_init 276 = .ok (.iconst 2, 1) := by decide +kernel
theorem dX7_init_277 : decode cX7_init 277 = .ok (.bipush (-4), 2) := by decide +kernel
theorem dX7_init_279 : decode cX7_init 279 = .ok (.iastore, 1) := by decide +kernel
theorem dX7_init_280 : decode cX7_init 280 = .ok (.dup, 1) := by decide +kernel
theorem dX7_init_281 : decode cX7_init 281 = .ok (.iconst 3, 1) := by decide +kernel
theorem dX7_init_282 : decode cX7_init 282 = .ok (.bipush (-4), 2) := by decide +kernel
theorem dX7_init_284 : decode cX7_init 284 = .ok (.iastore, 1) := by decide +kernel
theorem dX7_init_285 : decode cX7_init 285 = .ok (.putfield 42, 3) := by decide +kernel
theorem dX7_init_288 : decode cX7_init 288 = .ok (.aload_n 0, 1) := by decide +kernel
theorem dX7_init_289 : decode cX7_init 289 = .ok (.iconst 4, 1) := by decide +kernel
theorem dX7_init_290 : decode cX7_init 290 = .ok (.newarray .int, 2) := by decide +kernel
theorem dX7_init_292 : decode cX7_init 292 = .ok (.putfield 45, 3) := by decide +kernel
theorem dX7_init_295 : decode cX7_init 295 = .ok (.aload_n 0, 1) := by decide +kernel
theorem dX7_init_296 : decode cX7_init 296 = .ok (.sipush 160, 3) := by decide +kernel
theorem dX7_init_299 : decode cX7_init 299 = .ok (.newarray .int, 2) := by decide +kernel
theorem dX7_init_301 : decode cX7_init 301 = .ok (.putfield 48, 3) := by decide +kernel
theorem dX7_init_304 : decode cX7_init 304 = .ok (.return_, 1) := by decide +kernel
theorem dX7_in_0 : decode cX7_in 0 = .ok (.lload_n 0, 1) := by decide +kernel
theorem dX7_in_1 : decode cX7_in 1 = .ok (.lload_n 2, 1) := by decide +kernel
theorem dX7_in_2 : decode cX7_in 2 = .ok (.lcmp, 1) := by decide +kernel
theorem dX7_in_3 : decode cX7_in 3 = .ok (.ifCond .lt 14, 3) := by decide +kernel
theorem dX7_in_6 : decode cX7_in 6 = .ok (.lload_n 0, 1) := by decide +kernel
theorem dX7_in_7 : decode cX7_in 7 = .ok (.lload 4, 2) := by decide +kernel
theorem dX7_in_9 : decode cX7_in 9 = .ok (.lcmp, 1) := by decide +kernel
theorem dX7_in_10 : decode cX7_in 10 = .ok (.ifCond .gt 7, 3) := by decide +kernel
theorem dX7_in_13 : decode cX7_in 13 = .ok (.iconst 1, 1) := by decide +kernel
theorem dX7_in_14 : decode cX7_in 14 = .ok (.goto 4, 3) := by decide +kernel
theorem dX7_in_17 : decode cX7_in 17 = .ok (.iconst 0, 1) := by decide +kernel
theorem dX7_in_18 : decode cX7_in 18 = .ok (.ireturn, 1) := by decide +kernel
theorem dX7_feed_0 : decode cX7_feed 0 = .ok (.iload_n 1, 1) := by decide +kernel
theorem dX7_feed_1 : decode cX7_feed 1 = .ok (.i2l, 1) := by decide +kernel
theorem dX7_feed_2 : decode cX7_feed 2 = .ok (.lconst 0, 1) := by decide +kernel
theorem dX7_feed_3 : decode cX7_feed 3 = .ok (.ldc2_w 51, 3) := by decide +kernel
theorem dX7_feed_6 : decode cX7_feed 6 = .ok (.invokestatic 53, 3) := by decide +kernel
theorem dX7_feed_9 : decode cX7_feed 9 = .ok (.ifCond .ne 5, 3) := by decide +kernel
theorem dX7_feed_12 : decode cX7_feed 12 = .ok (.iconst (-1), 1) := by decide +kernel
theorem dX7_feed_13 : decode cX7_feed 13 = .ok (.ireturn, 1) := by decide +kernel
theorem dX7_feed_14 : decode cX7_feed 14 = .ok (.aload_n 0, 1) := by decide +kernel
theorem dX7_feed_15 : decode cX7_feed 15 = .ok (.getfield 57, 3) := by decide +kernel
theorem dX7_feed_18 : decode cX7_feed 18 = .ok (.sipush 160, 3) := by decide +kernel
theorem dX7_feed_21 : decode cX7_feed 21 = .ok (.if_icmp .ne 6, 3) := by decide +kernel
theorem dX7_feed_24 : decode cX7_feed 24 = .ok (.bipush (-3), 2) := by decide +kernel
theorem dX7_feed_26 : decode cX7_feed 26 = .ok (.ireturn, 1) := by decide +kernel
theorem dX7_feed_27 : decode cX7_feed 27 = .ok (.aload_n 0, 1) := by decide +kernel
theorem dX7_feed_28 : decode cX7_feed 28 = .ok (.getfield 16, 3) := by decide +kernel
theorem dX7_feed_31 : decode cX7_feed 31 = .ok (.aload_n 0, 1) := by decide +kernel
theorem dX7_feed_32 : decode cX7_feed 32 = .ok (.getfield 57, 3) := by decide +kernel
theorem dX7_feed_35 : decode cX7_feed 35 = .ok (.iload_n 1, 1) := by decide +kernel
theorem dX7_feed_36 : decode cX7_feed 36 = .ok (.iastore, 1) := by decide +kernel
theorem dX7_feed_37 : decode cX7_feed 37 = .ok (.aload_n 0, 1) := by decide +kernel
theorem dX7_feed_38 : decode cX7_feed 38 = .ok (.dup, 1) := by decide +kernel
theorem dX7_feed_39 : decode cX7_feed 39 = .ok (.getfield 57, 3) := by decide +kernel
theorem dX7_feed_42 : decode cX7_feed 42 = .ok (.iconst 1, 1) := by decide +kernel
theorem dX7_feed_43 : decode cX7_feed 43 = .ok (.iadd, 1) := by decide +kernel
theorem dX7_feed_44 : decode cX7_feed 44 = .ok (.putfield 57, 3) := by decide +kernel
theorem dX7_feed_47 : decode cX7_feed 47 = .ok (.aload_n 0, 1) := by decide +kernel
theorem dX7_feed_48 : decode cX7_feed 48 = .ok (.getfield 57, 3) := by decide +kernel
theorem dX7_feed_51 : decode cX7_feed 51 = .ok (.ireturn, 1) := by decide +kernel
theorem dX7_end_0 : decode cX7_end 0 = .ok (.iload_n 1, 1) := by decide +kernel
theorem dX7_end_1 : decode cX7_end 1 = .ok (.i2l, 1) := by decide +kernel
theorem dX7_end_2 : decode cX7_end 2 = .ok (.lconst 0, 1) := by decide +kernel
theorem dX7_end_3 : decode cX7_end 3 = .ok (.aload_n 0, 1) := by decide +kernel
theorem dX7_end_4 : decode cX7_end 4 = .ok (.getfield 57, 3) := by decide +kernel
theorem dX7_end_7 : decode cX7_end 7 = .ok (.i2l, 1) := by decide +kernel
theorem dX7_end_8 : decode cX7_end 8 = .ok (.invokestatic 53, 3) := by decide +kernel
theorem dX7_end_11 : decode cX7_end 11 = .ok (.ifCond .ne 5, 3) := by decide +kernel
theorem dX7_end_14 : decode cX7_end 14 = .ok (.iconst (-1), 1) := by decide +kernel
theorem dX7_end_15 : decode cX7_end 15 = .ok (.ireturn, 1) := by decide +kernel
theorem dX7_end_16 : decode cX7_end 16 = .ok (.aload_n 0, 1) := by decide +kernel
theorem dX7_end_17 : decode cX7_end 17 = .ok (.getfield 57, 3) := by decide +kernel
theorem dX7_end_20 : decode cX7_end 20 = .ok (.istore_n 2, 1) := by decide +kernel
theorem dX7_end_21 : decode cX7_end 21 = .ok (.aload_n 0, 1) := by decide +kernel
theorem dX7_end_22 : decode cX7_end 22 = .ok (.iload_n 1, 1) := by decide +kernel
theorem dX7_end_23 : decode cX7_end 23 = .ok (.putfield 57, 3) := by decide +kernel
theorem dX7_end_26 : decode cX7_end 26 = .ok (.iload_n 2, 1) := by decide +kernel
theorem dX7_end_27 : decode cX7_end 27 = .ok (.ireturn, 1) := by decide +kernel
theorem dX7_byteAt_0 : decode cX7_byteAt 0 = .ok (.iload_n 1, 1) := by decide +kernel
theorem dX7_byteAt_1 : decode cX7_byteAt 1 = .ok (.aload_n 0, 1) := by decide +kernel
theorem dX7_byteAt_2 : decode cX7_byteAt 2 = .ok (.getfield 57, 3) := by decide +kernel
theorem dX7_byteAt_5 : decode cX7_byteAt 5 = .ok (.if_icmp .ge 12, 3) := by decide +kernel
theorem dX7_byteAt_8 : decode cX7_byteAt 8 = .ok (.aload_n 0, 1) := by decide +kernel
theorem dX7_byteAt_9 : decode cX7_byteAt 9 = .ok (.getfield 16, 3) := by decide +kernel
theorem dX7_byteAt_12 : decode cX7_byteAt 12 = .ok (.iload_n 1, 1) := by decide +kernel
theorem dX7_byteAt_13 : decode cX7_byteAt 13 = .ok (.iaload, 1) := by decide +kernel
theorem dX7_byteAt_14 : decode cX7_byteAt 14 = .ok (.goto 5, 3) := by decide +kernel
theorem dX7_byteAt_17 : decode cX7_byteAt 17 = .ok (.bipush (-4), 2) := by decide +kernel
theorem dX7_byteAt_19 : decode cX7_byteAt 19 = .ok (.ireturn, 1) := by decide +kernel
theorem dX7_fails_0 : decode cX7_fails 0 = .ok (.aload_n 0, 1) := by decide +kernel
theorem dX7_fails_1 : decode cX7_fails 1 = .ok (.getfield 60, 3) := by decide +kernel
theorem dX7_fails_4 : decode cX7_fails 4 = .ok (.ifCond .ne 16, 3) := by decide +kernel
theorem dX7_fails_7 : decode cX7_fails 7 = .ok (.aload_n 0, 1) := by decide +kernel
theorem dX7_fails_8 : decode cX7_fails 8 = .ok (.iload_n 1, 1) := by decide +kernel
theorem dX7_fails_9 : decode cX7_fails 9 = .ok (.putfield 60, 3) := by decide +kernel
theorem dX7_fails_12 : decode cX7_fails 12 = .ok (.aload_n 0, 1) := by decide +kernel
theorem dX7_fails_13 : decode cX7_fails 13 = .ok (.aload_n 0, 1) := by decide +kernel
theorem dX7_fails_14 : decode cX7_fails 14 = .ok (.getfield 63, 3) := by decide +kernel
theorem dX7_fails_17 : decode cX7_fails 17 = .ok (.putfield 66, 3) := by decide +kernel
theorem dX7_fails_20 : decode cX7_fails 20 = .ok (.return_, 1) := by decide +kernel
theorem dX7_nameHere_0 : decode cX7_nameHere 0 = .ok (.iconst 0, 1) := by decide +kernel
theorem dX7_nameHere_1 : decode cX7_nameHere 1 = .ok (.istore_n 1, 1) := by decide +kernel
theorem dX7_nameHere_2 : decode cX7_nameHere 2 = .ok (.iload_n 1, 1) := by decide +kernel
theorem dX7_nameHere_3 : decode cX7_nameHere 3 = .ok (.iconst 5, 1) := by decide +kernel
theorem dX7_nameHere_4 : decode cX7_nameHere 4 = .ok (.if_icmp .ge 113, 3) := by decide +kernel
theorem dX7_nameHere_7 : decode cX7_nameHere 7 = .ok (.aload_n 0, 1) := by decide +kernel
theorem dX7_nameHere_8 : decode cX7_nameHere 8 = .ok (.getfield 69, 3) := by decide +kernel
theorem dX7_nameHere_11 : decode cX7_nameHere 11 = .ok (.iconst 1, 1) := by decide +kernel
theorem dX7_nameHere_12 : decode cX7_nameHere 12 = .ok (.if_icmp .ne 105, 3) := by decide +kernel
theorem dX7_nameHere_15 : decode cX7_nameHere 15 = .ok (.aload_n 0, 1) := by decide +kernel
theorem dX7_nameHere_16 : decode cX7_nameHere 16 = .ok (.getfield 72, 3) := by decide +kernel
theorem dX7_nameHere_19 : decode cX7_nameHere 19 = .ok (.aload_n 0, 1) := by decide +kernel
theorem dX7_nameHere_20 : decode cX7_nameHere 20 = .ok (.getfield 63, 3) := by decide +kernel
theorem dX7_nameHere_23 : decode cX7_nameHere 23 = .ok (.isub, 1) := by decide +kernel
theorem dX7_nameHere_24 : decode cX7_nameHere 24 = .ok (.aload_n 0, 1) := by decide +kernel
theorem dX7_nameHere_25 : decode cX7_nameHere 25 = .ok (.getfield 19, 3) := by decide +kernel
theorem dX7_nameHere_28 : decode cX7_nameHere 28 = .ok (.iload_n 1, 1) := by decide +kernel
theorem dX7_nameHere_29 : decode cX7_nameHere 29 = .ok (.iconst 1, 1) := by decide +kernel
theorem dX7_nameHere_30 : decode cX7_nameHere 30 = .ok (.iadd, 1) := by decide +kernel
theorem dX7_nameHere_31 : decode cX7_nameHere 31 = .ok (.iaload, 1) := by decide +kernel
theorem dX7_nameHere_32 : decode cX7_nameHere 32 = .ok (.aload_n 0, 1) := by decide +kernel
theorem dX7_nameHere_33 : decode cX7_nameHere 33 = .ok (.getfield 19, 3) := by decide +kernel
theorem dX7_nameHere_36 : decode cX7_nameHere 36 = .ok (.iload_n 1, 1) := by decide +kernel
theorem dX7_nameHere_37 : decode cX7_nameHere 37 = .ok (.iaload, 1) := by decide +kernel
theorem dX7_nameHere_38 : decode cX7_nameHere 38 = .ok (.isub, 1) := by decide +kernel
theorem dX7_nameHere_39 : decode cX7_nameHere 39 = .ok (.if_icmp .ne 7, 3) := by decide +kernel
theorem dX7_nameHere_42 : decode cX7_nameHere 42 = .ok (.iconst 1, 1) := by decide +kernel
theorem dX7_nameHere_43 : decode cX7_nameHere 43 = .ok (.goto 4, 3) := by decide +kernel
theorem dX7_nameHere_46 : decode cX7_nameHere 46 = .ok (.iconst 0, 1) := by decide +kernel
theorem dX7_nameHere_47 : decode cX7_nameHere 47 = .ok (.istore_n 2, 1) := by decide +kernel
theorem dX7_nameHere_48 : decode cX7_nameHere 48 = .ok (.iconst 0, 1) := by decide +kernel
theorem dX7_nameHere_49 : decode cX7_nameHere 49 = .ok (.istore_n 3, 1) := by decide +kernel
theorem dX7_nameHere_50 : decode cX7_nameHere 50 = .ok (.iload_n 2, 1) := by decide +kernel
theorem dX7_nameHere_51 : decode cX7_nameHere 51 = .ok (.ifCond .eq 54, 3) := by decide +kernel
theorem dX7_nameHere_54 : decode cX7_nameHere 54 = .ok (.iload_n 3, 1) := by decide +kernel
theorem dX7_nameHere_55 : decode cX7_nameHere 55 = .ok (.aload_n 0, 1) := by decide +kernel
theorem dX7_nameHere_56 : decode cX7_nameHere 56 = .ok (.getfield 72, 3) := by decide +kernel
theorem dX7_nameHere_59 : decode cX7_nameHere 59 = .ok (.aload_n 0, 1) := by decide +kernel
theorem dX7_nameHere_60 : decode cX7_nameHere 60 = .ok (.getfield 63, 3) := by decide +kernel
theorem dX7_nameHere_63 : decode cX7_nameHere 63 = .ok (.isub, 1) := by decide +kernel
theorem dX7_nameHere_64 : decode cX7_nameHere 64 = .ok (.if_icmp .ge 41, 3) := by decide +kernel
theorem dX7_nameHere_67 : decode cX7_nameHere 67 = .ok (.aload_n 0, 1) := by decide +kernel
theorem dX7_nameHere_68 : decode cX7_nameHere 68 = .ok (.aload_n 0, 1) := by decide +kernel
theorem dX7_nameHere_69 : decode cX7_nameHere 69 = .ok (.getfield 63, 3) := by decide +kernel
theorem dX7_nameHere_72 : decode cX7_nameHere 72 = .ok (.iload_n 3, 1) := by decide +kernel
theorem dX7_nameHere_73 : decode cX7_nameHere 73 = .ok (.iadd, 1) := by decide +kernel
theorem dX7_nameHere_74 : decode cX7_nameHere 74 = .ok (.invokevirtual 75, 3) := by decide +kernel
theorem dX7_nameHere_77 : decode cX7_nameHere 77 = .ok (.aload_n 0, 1) := by decide +kernel
theorem dX7_nameHere_78 : decode cX7_nameHere 78 = .ok (.getfield 22, 3) := by decide +kernel
theorem dX7_nameHere_81 : decode cX7_nameHere 81 = .ok (.aload_n 0, 1) := by decide +kernel
theorem dX7_nameHere_82 : decode cX7_nameHere 82 = .ok (.getfield 19, 3) := by decide +kernel
theorem dX7_nameHere_85 : decode cX7_nameHere 85 = .ok (.iload_n 1, 1) := by decide +kernel
theorem dX7_nameHere_86 : decode cX7_nameHere 86 = .ok (.iaload, 1) := by decide +kernel
theorem dX7_nameHere_87 : decode cX7_nameHere 87 = .ok (.iload_n 3, 1) := by decide +kernel
theorem dX7_nameHere_88 : decode cX7_nameHere 88 = .ok (.iadd, 1) := by decide +kernel
theorem dX7_nameHere_89 : decode cX7_nameHere 89 = .ok (.iaload, 1) := by decide +kernel
theorem dX7_nameHere_90 : decode cX7_nameHere 90 = .ok (.if_icmp .ne 7, 3) := by decide +kernel
theorem dX7_nameHere_93 : decode cX7_nameHere 93 = .ok (.iconst 1, 1) := by decide +kernel
theorem dX7_nameHere_94 : decode cX7_nameHere 94 = .ok (.goto 4, 3) := by decide +kernel
theorem dX7_nameHere_97 : decode cX7_nameHere 97 = .ok (.iconst 0, 1) := by decide +kernel
theorem dX7_nameHere_98 : decode cX7_nameHere 98 = .ok (.istore_n 2, 1) := by decide +kernel
theorem dX7_nameHere_99 : decode cX7_nameHere 99 = .ok (.iinc 3 1, 3) := by decide +kernel
theorem dX7_nameHere_102 : decode cX7_nameHere 102 = .ok (.goto (-52), 3) := by decide +kernel
theorem dX7_nameHere_105 : decode cX7_nameHere 105 = .ok (.iload_n 2, 1) := by decide +kernel
theorem dX7_nameHere_106 : decode cX7_nameHere 106 = .ok (.ifCond .eq 5, 3) := by decide +kernel
theorem dX7_nameHere_109 : decode cX7_nameHere 109 = .ok (.iload_n 1, 1) := by decide +kernel
theorem dX7_nameHere_110 : decode cX7_nameHere 110 = .ok (.ireturn, 1) := by decide +kernel
theorem dX7_nameHere_111 : decode cX7_nameHere 111 = .ok (.iinc 1 1, 3) := by decide +kernel
theorem dX7_nameHere_114 : decode cX7_nameHere 114 = .ok (.goto (-112), 3) := by decide +kernel
theorem dX7_nameHere_117 : decode cX7_nameHere 117 = .ok (.bipush (-4), 2) := by decide +kernel
theorem dX7_nameHere_119 : decode cX7_nameHere 119 = .ok (.ireturn, 1) := by decide +kernel
theorem dX7_step_0 : decode cX7_step 0 = .ok (.aload_n 0, 1) := by decide +kernel
theorem dX7_step_1 : decode cX7_step 1 = .ok (.getfield 60, 3) := by decide +kernel
theorem dX7_step_4 : decode cX7_step 4 = .ok (.ifCond .le 4, 3) := by decide +kernel
theorem dX7_step_7 : decode cX7_step 7 = .ok (.return_, 1) := by decide +kernel
theorem dX7_step_8 : decode cX7_step 8 = .ok (.aload_n 0, 1) := by decide +kernel
theorem dX7_step_9 : decode cX7_step 9 = .ok (.aload_n 0, 1) := by decide +kernel
theorem dX7_step_10 : decode cX7_step 10 = .ok (.getfield 72, 3) := by decide +kernel
theorem dX7_step_13 : decode cX7_step 13 = .ok (.invokevirtual 75, 3) := by decide +kernel
theorem dX7_step_16 : decode cX7_step 16 = .ok (.bipush 32, 2) := by decide +kernel
theorem dX7_step_18 : decode cX7_step 18 = .ok (.if_icmp .ne 16, 3) := by decide +kernel
theorem dX7_step_21 : decode cX7_step 21 = .ok (.aload_n 0, 1) := by decide +kernel
theorem dX7_step_22 : decode cX7_step 22 = .ok (.dup, 1) := by decide +kernel
theorem dX7_step_23 : decode cX7_step 23 = .ok (.getfield 72, 3) := by decide +kernel
theorem dX7_step_26 : decode cX7_step 26 = .ok (.iconst 1, 1) := by decide +kernel
theorem dX7_step_27 : decode cX7_step 27 = .ok (.iadd, 1) := by decide +kernel
theorem dX7_step_28 : decode cX7_step 28 = .ok (.putfield 72, 3) := by decide +kernel
theorem dX7_step_31 : decode cX7_step 31 = .ok (.goto (-23), 3) := by decide +kernel
theorem dX7_step_34 : decode cX7_step 34 = .ok (.aload_n 0, 1) := by decide +kernel
theorem dX7_step_35 : decode cX7_step 35 = .ok (.aload_n 0, 1) := by decide +kernel
theorem dX7_step_36 : decode cX7_step 36 = .ok (.getfield 72, 3) := by decide +kernel
theorem dX7_step_39 : decode cX7_step 39 = .ok (.putfield 63, 3) := by decide +kernel
theorem dX7_step_42 : decode cX7_step 42 = .ok (.aload_n 0, 1) := by decide +kernel
theorem dX7_step_43 : decode cX7_step 43 = .ok (.aload_n 0, 1) := by decide +kernel
theorem dX7_step_44 : decode cX7_step 44 = .ok (.getfield 72, 3) := by decide +kernel
theorem dX7_step_47 : decode cX7_step 47 = .ok (.invokevirtual 75, 3) := by decide +kernel
theorem dX7_step_50 : decode cX7_step 50 = .ok (.istore_n 1, 1) := by decide +kernel
theorem dX7_step_51 : decode cX7_step 51 = .ok (.aload_n 0, 1) := by decide +kernel
theorem dX7_step_52 : decode cX7_step 52 = .ok (.iconst 0, 1) := by decide +kernel
theorem dX7_step_53 : decode cX7_step 53 = .ok (.putfield 79, 3) := by decide +kernel
theorem dX7_step_56 : decode cX7_step 56 = .ok (.iload_n 1, 1) := by decide +kernel
theorem dX7_step_57 : decode cX7_step 57 = .ok (.bipush (-4), 2) := by decide +kernel
theorem dX7_step_59 : decode cX7_step 59 = .ok (.if_icmp .ne 11, 3) := by decide +kernel
theorem dX7_step_62 : decode cX7_step 62 = .ok (.aload_n 0, 1) := by decide +kernel
theorem dX7_step_63 : decode cX7_step 63 = .ok (.iconst 0, 1) := by decide +kernel
theorem dX7_step_64 : decode cX7_step 64 = .ok (.putfield 69, 3) := by decide +kernel
theorem dX7_step_67 : decode cX7_step 67 = .ok (.goto 202, 3) := by decide +kernel
theorem dX7_step_70 : decode cX7_step 70 = .ok (.iload_n 1, 1) := by decide +kernel
theorem dX7_step_71 : decode cX7_step 71 = .ok (.i2l, 1) := by decide +kernel
theorem dX7_step_72 : decode cX7_step 72 = .ok (.ldc2_w 82, 3) := by decide +kernel
theorem dX7_step_75 : decode cX7_step 75 = .ok (.ldc2_w 84, 3) := by decide +kernel
theorem dX7_step_78 : decode cX7_step 78 = .ok (.invokestatic 53, 3) := by decide +kernel
theorem dX7_step_81 : decode cX7_step 81 = .ok (.ifCond .eq 45, 3) := by decide +kernel
theorem dX7_step_84 : decode cX7_step 84 = .ok (.aload_n 0, 1) := by decide +kernel
theorem dX7_step_85 : decode cX7_step 85 = .ok (.aload_n 0, 1) := by decide +kernel
theorem dX7_step_86 : decode cX7_step 86 = .ok (.getfield 72, 3) := by decide +kernel
theorem dX7_step_89 : decode cX7_step 89 = .ok (.invokevirtual 75, 3) := by decide +kernel
theorem dX7_step_92 : decode cX7_step 92 = .ok (.i2l, 1) := by decide +kernel
theorem dX7_step_93 : decode cX7_step 93 = .ok (.ldc2_w 82, 3) := by decide +kernel
theorem dX7_step_96 : decode cX7_step 96 = .ok (.ldc2_w 84, 3) := by decide +kernel
theorem dX7_step_99 : decode cX7_step 99 = .ok (.invokestatic 53, 3) := by decide +kernel
theorem dX7_step_102 : decode cX7_step 102 = .ok (.ifCond .eq 16, 3) := by decide +kernel
theorem dX7_step_105 : decode cX7_step 105 = .ok (.aload_n 0, 1) := by decide +kernel
theorem dX7_step_106 : decode cX7_step 106 = .ok (.dup, 1) := by decide +kernel
theorem dX7_step_107 : decode cX7_step 107 = .ok (.getfield 72, 3) := by decide +kernel
theorem dX7_step_110 : decode cX7_step 110 = .ok (.iconst 1, 1) := by decide +kernel
theorem dX7_step_111 : decode cX7_step 111 = .ok (.iadd, 1) := by decide +kernel
theorem dX7_step_112 : decode cX7_step 112 = .ok (.putfield 72, 3) := by decide +kernel
theorem dX7_step_115 : decode cX7_step 115 = .ok (.goto (-31), 3) := by decide +kernel
theorem dX7_step_118 : decode cX7_step 118 = .ok (.aload_n 0, 1) := by decide +kernel
theorem dX7_step_119 : decode cX7_step 119 = .ok (.iconst 1, 1) := by decide +kernel
theorem dX7_step_120 : decode cX7_step 120 = .ok (.putfield 69, 3) := by decide +kernel
theorem dX7_step_123 : decode cX7_step 123 = .ok (.goto 146, 3) := by decide +kernel
theorem dX7_step_126 : decode cX7_step 126 = .ok (.iload_n 1, 1) := by decide +kernel
theorem dX7_step_127 : decode cX7_step 127 = .ok (.i2l, 1) := by decide +kernel
theorem dX7_step_128 : decode cX7_step 128 = .ok (.ldc2_w 86, 3) := by decide +kernel
theorem dX7_step_131 : decode cX7_step 131 = .ok (.ldc2_w 88, 3) := by decide +kernel
theorem dX7_step_134 : decode cX7_step 134 = .ok (.invokestatic 53, 3) := by decide +kernel
theorem dX7_step_137 : decode cX7_step 137 = .ok (.ifCond .eq 106, 3) := by decide +kernel
theorem dX7_step_140 : decode cX7_step 140 = .ok (.aload_n 0, 1) := by decide +kernel
theorem dX7_step_141 : decode cX7_step 141 = .ok (.aload_n 0, 1) := by decide +kernel
theorem dX7_step_142 : decode cX7_step 142 = .ok (.getfield 72, 3) := by decide +kernel
theorem dX7_step_145 : decode cX7_step 145 = .ok (.invokevirtual 75, 3) := by decide +kernel
theorem dX7_step_148 : decode cX7_step 148 = .ok (.i2l, 1) := by decide +kernel
theorem dX7_step_149 : decode cX7_step 149 = .ok (.ldc2_w 86, 3) := by decide +kernel
theorem dX7_step_152 : decode cX7_step 152 = .ok (.ldc2_w 88, 3) := by decide +kernel
theorem dX7_step_155 : decode cX7_step 155 = .ok (.invokestatic 53, 3) := by decide +kernel
theorem dX7_step_158 : decode cX7_step 158 = .ok (.ifCond .eq 59, 3) := by decide +kernel
theorem dX7_step_161 : decode cX7_step 161 = .ok (.aload_n 0, 1) := by decide +kernel
theorem dX7_step_162 : decode cX7_step 162 = .ok (.aload_n 0, 1) := by decide +kernel
theorem dX7_step_163 : decode cX7_step 163 = .ok (.getfield 72, 3) := by decide +kernel
theorem dX7_step_166 : decode cX7_step 166 = .ok (.aload_n 0, 1) := by decide +kernel
theorem dX7_step_167 : decode cX7_step 167 = .ok (.getfield 63, 3) := by decide +kernel
theorem dX7_step_170 : decode cX7_step 170 = .ok (.isub, 1) := by decide +kernel
theorem dX7_step_171 : decode cX7_step 171 = .ok (.iconst 2, 1) := by decide +kernel
theorem dX7_step_172 : decode cX7_step 172 = .ok (.if_icmp .ge 25, 3) := by decide +kernel
theorem dX7_step_175 : decode cX7_step 175 = .ok (.bipush 10, 2) := by decide +kernel
theorem dX7_step_177 : decode cX7_step 177 = .ok (.aload_n 0, 1) := by decide +kernel
theorem dX7_step_178 : decode cX7_step 178 = .ok (.getfield 79, 3) := by decide +kernel
theorem dX7_step_181 : decode cX7_step 181 = .ok (.imul, 1) := by decide +kernel
theorem dX7_step_182 : decode cX7_step 182 = .ok (.aload_n 0, 1) := by decide +kernel
theorem dX7_step_183 : decode cX7_step 183 = .ok (.aload_n 0, 1) := by decide +kernel
theorem dX7_step_184 : decode cX7_step 184 = .ok (.getfield 72, 3) := by decide +kernel
theorem dX7_step_187 : decode cX7_step 187 = .ok (.invokevirtual 75, 3) := by decide +kernel
theorem dX7_step_190 : decode cX7_step 190 = .ok (.iadd, 1) := by decide +kernel
theorem dX7_step_191 : decode cX7_step 191 = .ok (.bipush 48, 2) := by decide +kernel
theorem dX7_step_193 : decode cX7_step 193 = .ok (.isub, 1) := by decide +kernel
theorem dX7_step_194 : decode cX7_step 194 = .ok (.goto 7, 3) := by decide +kernel
theorem dX7_step_197 : decode cX7_step 197 = .ok (.aload_n 0, 1) := by decide +kernel
theorem dX7_step_198 : decode cX7_step 198 = .ok (.getfield 79, 3) := by decide +kernel
theorem dX7_step_201 : decode cX7_step 201 = .ok (.putfield 79, 3) := by decide +kernel
theorem dX7_step_204 : decode cX7_step 204 = .ok (.aload_n 0, 1) := by decide +kernel
theorem dX7_step_205 : decode cX7_step 205 = .ok (.dup, 1) := by decide +kernel
theorem dX7_step_206 : decode cX7_step 206 = .ok (.getfield 72, 3) := by decide +kernel
theorem dX7_step_209 : decode cX7_step 209 = .ok (.iconst 1, 1) := by decide +kernel
theorem dX7_step_210 : decode cX7_step 210 = .ok (.iadd, 1) := by decide +kernel
theorem dX7_step_211 : decode cX7_step 211 = .ok (.putfield 72, 3) := by decide +kernel
theorem dX7_step_214 : decode cX7_step 214 = .ok (.goto (-74), 3) := by decide +kernel
theorem dX7_step_217 : decode cX7_step 217 = .ok (.aload_n 0, 1) := by decide +kernel
theorem dX7_step_218 : decode cX7_step 218 = .ok (.iconst 2, 1) := by decide +kernel
theorem dX7_step_219 : decode cX7_step 219 = .ok (.putfield 69, 3) := by decide +kernel
theorem dX7_step_222 : decode cX7_step 222 = .ok (.aload_n 0, 1) := by decide +kernel
theorem dX7_step_223 : decode cX7_step 223 = .ok (.getfield 72, 3) := by decide +kernel
theorem dX7_step_226 : decode cX7_step 226 = .ok (.aload_n 0, 1) := by decide +kernel
theorem dX7_step_227 : decode cX7_step 227 = .ok (.getfield 63, 3) := by decide +kernel
theorem dX7_step_230 : decode cX7_step 230 = .ok (.isub, 1) := by decide +kernel
theorem dX7_step_231 : decode cX7_step 231 = .ok (.iconst 2, 1) := by decide +kernel
theorem dX7_step_232 : decode cX7_step 232 = .ok (.if_icmp .le 37, 3) := by decide +kernel
theorem dX7_step_235 : decode cX7_step 235 = .ok (.aload_n 0, 1) := by decide +kernel
theorem dX7_step_236 : decode cX7_step 236 = .ok (.iconst 1, 1) := by decide +kernel
theorem dX7_step_237 : decode cX7_step 237 = .ok (.invokevirtual 90, 3) := by decide +kernel
theorem dX7_step_240 : decode cX7_step 240 = .ok (.goto 29, 3) := by decide +kernel
theorem dX7_step_243 : decode cX7_step 243 = .ok (.aload_n 0, 1) := by decide +kernel
theorem dX7_step_244 : decode cX7_step 244 = .ok (.iconst 3, 1) := by decide +kernel
theorem dX7_step_245 : decode cX7_step 245 = .ok (.putfield 69, 3) := by decide +kernel
theorem dX7_step_248 : decode cX7_step 248 = .ok (.aload_n 0, 1) := by decide +kernel
theorem dX7_step_249 : decode cX7_step 249 = .ok (.dup, 1) := by decide +kernel
theorem dX7_step_250 : decode cX7_step 250 = .ok (.getfield 72, 3) := by decide +kernel
theorem dX7_step_253 : decode cX7_step 253 = .ok (.iconst 1, 1) := by decide +kernel
theorem dX7_step_254 : decode cX7_step 254 = .ok (.iadd, 1) := by decide +kernel
theorem dX7_step_255 : decode cX7_step 255 = .ok (.putfield 72, 3) := by decide +kernel
theorem dX7_step_258 : decode cX7_step 258 = .ok (.iload_n 1, 1) := by decide +kernel
theorem dX7_step_259 : decode cX7_step 259 = .ok (.bipush 59, 2) := by decide +kernel
theorem dX7_step_261 : decode cX7_step 261 = .ok (.if_icmp .eq 8, 3) := by decide +kernel
theorem dX7_step_264 : decode cX7_step 264 = .ok (.aload_n 0, 1) := by decide +kernel
theorem dX7_step_265 : decode cX7_step 265 = .ok (.iconst 1, 1) := by decide +kernel
theorem dX7_step_266 : decode cX7_step 266 = .ok (.invokevirtual 90, 3) := by decide +kernel
theorem dX7_step_269 : decode cX7_step 269 = .ok (.return_, 1) := by decide +kernel
theorem dX7_number_0 : decode cX7_number 0 = .ok (.aload_n 0, 1) := by decide +kernel
theorem dX7_number_1 : decode cX7_number 1 = .ok (.getfield 60, 3) := by decide +kernel
theorem dX7_number_4 : decode cX7_number 4 = .ok (.ifCond .ne 16, 3) := by decide +kernel
theorem dX7_number_7 : decode cX7_number 7 = .ok (.aload_n 0, 1) := by decide +kernel
theorem dX7_number_8 : decode cX7_number 8 = .ok (.getfield 69, 3) := by decide +kernel
theorem dX7_number_11 : decode cX7_number 11 = .ok (.iconst 2, 1) := by decide +kernel
theorem dX7_number_12 : decode cX7_number 12 = .ok (.if_icmp .eq 8, 3) := by decide +kernel
theorem dX7_number_15 : decode cX7_number 15 = .ok (.aload_n 0, 1) := by decide +kernel
theorem dX7_number_16 : decode cX7_number 16 = .ok (.iconst 2, 1) := by decide +kernel
theorem dX7_number_17 : decode cX7_number 17 = .ok (.invokevirtual 90, 3) := by decide +kernel
theorem dX7_number_20 : decode cX7_number 20 = .ok (.aload_n 0, 1) := by decide +kernel
theorem dX7_number_21 : decode cX7_number 21 = .ok (.getfield 60, 3) := by decide +kernel
theorem dX7_number_24 : decode cX7_number 24 = .ok (.ifCond .ne 23, 3) := by decide +kernel
theorem dX7_number_27 : decode cX7_number 27 = .ok (.aload_n 0, 1) := by decide +kernel
theorem dX7_number_28 : decode cX7_number 28 = .ok (.getfield 79, 3) := by decide +kernel
theorem dX7_number_31 : decode cX7_number 31 = .ok (.i2l, 1) := by decide +kernel
theorem dX7_number_32 : decode cX7_number 32 = .ok (.iload_n 1, 1) := by decide +kernel
theorem dX7_number_33 : decode cX7_number 33 = .ok (.i2l, 1) := by decide +kernel
theorem dX7_number_34 : decode cX7_number 34 = .ok (.iload_n 2, 1) := by decide +kernel
theorem dX7_number_35 : decode cX7_number 35 = .ok (.i2l, 1) := by decide +kernel
theorem dX7_number_36 : decode cX7_number 36 = .ok (.invokestatic 53, 3) := by decide +kernel
theorem dX7_number_39 : decode cX7_number 39 = .ok (.ifCond .ne 8, 3) := by decide +kernel
theorem dX7_number_42 : decode cX7_number 42 = .ok (.aload_n 0, 1) := by decide +kernel
theorem dX7_number_43 : decode cX7_number 43 = .ok (.iconst 3, 1) := by decide +kernel
theorem dX7_number_44 : decode cX7_number 44 = .ok (.invokevirtual 90, 3) := by decide +kernel
theorem dX7_number_47 : decode cX7_number 47 = .ok (.aload_n 0, 1) := by decide +kernel
theorem dX7_number_48 : decode cX7_number 48 = .ok (.getfield 60, 3) := by decide +kernel
theorem dX7_number_51 : decode cX7_number 51 = .ok (.ifCond .ne 10, 3) := by decide +kernel
theorem dX7_number_54 : decode cX7_number 54 = .ok (.aload_n 0, 1) := by decide +kernel
theorem dX7_number_55 : decode cX7_number 55 = .ok (.getfield 79, 3) := by decide +kernel
theorem dX7_number_58 : decode cX7_number 58 = .ok (.goto 4, 3) := by decide +kernel
theorem dX7_number_61 : decode cX7_number 61 = .ok (.iload_n 1, 1) := by decide +kernel
theorem dX7_number_62 : decode cX7_number 62 = .ok (.istore_n 3, 1) := by decide +kernel
theorem dX7_number_63 : decode cX7_number 63 = .ok (.aload_n 0, 1) := by decide +kernel
theorem dX7_number_64 : decode cX7_number 64 = .ok (.invokevirtual 94, 3) := by decide +kernel
theorem dX7_number_67 : decode cX7_number 67 = .ok (.iload_n 3, 1) := by decide +kernel
theorem dX7_number_68 : decode cX7_number 68 = .ok (.ireturn, 1) := by decide +kernel
theorem dX7_townHere_0 : decode cX7_townHere 0 = .ok (.aload_n 0, 1) := by decide +kernel
theorem dX7_townHere_1 : decode cX7_townHere 1 = .ok (.iconst 0, 1) := by decide +kernel
theorem dX7_townHere_2 : decode cX7_townHere 2 = .ok (.iconst 4, 1) := by decide +kernel
theorem dX7_townHere_3 : decode cX7_townHere 3 = .ok (.invokevirtual 97, 3) := by decide +kernel
theorem dX7_townHere_6 : decode cX7_townHere 6 = .ok (.istore_n 1, 1) := by decide +kernel
theorem dX7_townHere_7 : decode cX7_townHere 7 = .ok (.aload_n 0, 1) := by decide +kernel
theorem dX7_townHere_8 : decode cX7_townHere 8 = .ok (.iload_n 1, 1) := by decide +kernel
theorem dX7_townHere_9 : decode cX7_townHere 9 = .ok (.aload_n 0, 1) := by decide +kernel
theorem dX7_townHere_10 : decode cX7_townHere 10 = .ok (.getfield 101, 3) := by decide +kernel
theorem dX7_townHere_13 : decode cX7_townHere 13 = .ok (.if_icmp .le 7, 3) := by decide +kernel
theorem dX7_townHere_16 : decode cX7_townHere 16 = .ok (.iload_n 1, 1) := by decide +kernel
theorem dX7_townHere_17 : decode cX7_townHere 17 = .ok (.goto 7, 3) := by decide +kernel
theorem dX7_townHere_20 : decode cX7_townHere 20 = .ok (.aload_n 0, 1) := by decide +kernel
theorem dX7_townHere_21 : decode cX7_townHere 21 = .ok (.getfield 101, 3) := by decide +kernel
theorem dX7_townHere_24 : decode cX7_townHere 24 = .ok (.putfield 101, 3) := by decide +kernel
theorem dX7_townHere_27 : decode cX7_townHere 27 = .ok (.iload_n 1, 1) := by decide +kernel
theorem dX7_townHere_28 : decode cX7_townHere 28 = .ok (.ireturn, 1) := by decide +kernel
theorem dX7_readMore_0 : decode cX7_readMore 0 = .ok (.iload_n 1, 1) := by decide +kernel
theorem dX7_readMore_1 : decode cX7_readMore 1 = .ok (.iconst 3, 1) := by decide +kernel
theorem dX7_readMore_2 : decode cX7_readMore 2 = .ok (.if_icmp .gt 42, 3) := by decide +kernel
theorem dX7_readMore_5 : decode cX7_readMore 5 = .ok (.aload_n 0, 1) := by decide +kernel
theorem dX7_readMore_6 : decode cX7_readMore 6 = .ok (.getfield 13, 3) := by decide +kernel
theorem dX7_readMore_9 : decode cX7_readMore 9 = .ok (.aload_n 0, 1) := by decide +kernel
theorem dX7_readMore_10 : decode cX7_readMore 10 = .ok (.getfield 104, 3) := by decide +kernel
theorem dX7_readMore_13 : decode cX7_readMore 13 = .ok (.iload_n 1, 1) := by decide +kernel
theorem dX7_readMore_14 : decode cX7_readMore 14 = .ok (.iastore, 1) := by decide +kernel
theorem dX7_readMore_15 : decode cX7_readMore 15 = .ok (.aload_n 0, 1) := by decide +kernel
theorem dX7_readMore_16 : decode cX7_readMore 16 = .ok (.getfield 13, 3) := by decide +kernel
theorem dX7_readMore_19 : decode cX7_readMore 19 = .ok (.iconst 5, 1) := by decide +kernel
theorem dX7_readMore_20 : decode cX7_readMore 20 = .ok (.aload_n 0, 1) := by decide +kernel
theorem dX7_readMore_21 : decode cX7_readMore 21 = .ok (.getfield 104, 3) := by decide +kernel
theorem dX7_readMore_24 : decode cX7_readMore 24 = .ok (.iadd, 1) := by decide +kernel
theorem dX7_readMore_25 : decode cX7_readMore 25 = .ok (.aload_n 0, 1) := by decide +kernel
theorem dX7_readMore_26 : decode cX7_readMore 26 = .ok (.iconst 0, 1) := by decide +kernel
theorem dX7_readMore_27 : decode cX7_readMore 27 = .ok (.bipush 20, 2) := by decide +kernel
theorem dX7_readMore_29 : decode cX7_readMore 29 = .ok (.invokevirtual 97, 3) := by decide +kernel
theorem dX7_readMore_32 : decode cX7_readMore 32 = .ok (.iastore, 1) := by decide +kernel
theorem dX7_readMore_33 : decode cX7_readMore 33 = .ok (.aload_n 0, 1) := by decide +kernel
theorem dX7_readMore_34 : decode cX7_readMore 34 = .ok (.dup, 1) := by decide +kernel
theorem dX7_readMore_35 : decode cX7_readMore 35 = .ok (.getfield 104, 3) := by decide +kernel
theorem dX7_readMore_38 : decode cX7_readMore 38 = .ok (.iconst 1, 1) := by decide +kernel
theorem dX7_readMore_39 : decode cX7_readMore 39 = .ok (.iadd, 1) := by decide +kernel
theorem dX7_readMore_40 : decode cX7_readMore 40 = .ok (.putfield 104, 3) := by decide +kernel
theorem dX7_readMore_43 : decode cX7_readMore 43 = .ok (.return_, 1) := by decide +kernel
theorem dX7_readMore_44 : decode cX7_readMore 44 = .ok (.aload_n 0, 1) := by decide +kernel
theorem dX7_readMore_45 : decode cX7_readMore 45 = .ok (.getfield 13, 3) := by decide +kernel
theorem dX7_readMore_48 : decode cX7_readMore 48 = .ok (.bipush 40, 2) := by decide +kernel
theorem dX7_readMore_50 : decode cX7_readMore 50 = .ok (.iaload, 1) := by decide +kernel
theorem dX7_readMore_51 : decode cX7_readMore 51 = .ok (.istore_n 2, 1) := by decide +kernel
theorem dX7_readMore_52 : decode cX7_readMore 52 = .ok (.aload_n 0, 1) := by decide +kernel
theorem dX7_readMore_53 : decode cX7_readMore 53 = .ok (.invokevirtual 107, 3) := by decide +kernel
theorem dX7_readMore_56 : decode cX7_readMore 56 = .ok (.istore_n 3, 1) := by decide +kernel
theorem dX7_readMore_57 : decode cX7_readMore 57 = .ok (.aload_n 0, 1) := by decide +kernel
theorem dX7_readMore_58 : decode cX7_readMore 58 = .ok (.getfield 60, 3) := by decide +kernel
theorem dX7_readMore_61 : decode cX7_readMore 61 = .ok (.ifCond .ne 24, 3) := by decide +kernel
theorem dX7_readMore_64 : decode cX7_readMore 64 = .ok (.aload_n 0, 1) := by decide +kernel
theorem dX7_readMore_65 : decode cX7_readMore 65 = .ok (.getfield 69, 3) := by decide +kernel
theorem dX7_readMore_68 : decode cX7_readMore 68 = .ok (.iconst 2, 1) := by decide +kernel
theorem dX7_readMore_69 : decode cX7_readMore 69 = .ok (.if_icmp .ne 16, 3) := by decide +kernel
theorem dX7_readMore_72 : decode cX7_readMore 72 = .ok (.aload_n 0, 1) := by decide +kernel
theorem dX7_readMore_73 : decode cX7_readMore 73 = .ok (.getfield 79, 3) := by decide +kernel
theorem dX7_readMore_76 : decode cX7_readMore 76 = .ok (.iload_n 3, 1) := by decide +kernel
theorem dX7_readMore_77 : decode cX7_readMore 77 = .ok (.if_icmp .ne 8, 3) := by decide +kernel
theorem dX7_readMore_80 : decode cX7_readMore 80 = .ok (.aload_n 0, 1) := by decide +kernel
theorem dX7_readMore_81 : decode cX7_readMore 81 = .ok (.iconst 3, 1) := by decide +kernel
theorem dX7_readMore_82 : decode cX7_readMore 82 = .ok (.invokevirtual 90, 3) := by decide +kernel
theorem dX7_readMore_85 : decode cX7_readMore 85 = .ok (.aload_n 0, 1) := by decide +kernel
theorem dX7_readMore_86 : decode cX7_readMore 86 = .ok (.getfield 13, 3) := by decide +kernel
theorem dX7_readMore_89 : decode cX7_readMore 89 = .ok (.bipush 20, 2) := by decide +kernel
theorem dX7_readMore_91 : decode cX7_readMore 91 = .ok (.iload_n 2, 1) := by decide +kernel
theorem dX7_readMore_92 : decode cX7_readMore 92 = .ok (.iadd, 1) := by decide +kernel
theorem dX7_readMore_93 : decode cX7_readMore 93 = .ok (.iload_n 3, 1) := by decide +kernel
theorem dX7_readMore_94 : decode cX7_readMore 94 = .ok (.iastore, 1) := by decide +kernel
theorem dX7_readMore_95 : decode cX7_readMore 95 = .ok (.aload_n 0, 1) := by decide +kernel
theorem dX7_readMore_96 : decode cX7_readMore 96 = .ok (.getfield 13, 3) := by decide +kernel
theorem dX7_readMore_99 : decode cX7_readMore 99 = .ok (.bipush 30, 2) := by decide +kernel
theorem dX7_readMore_101 : decode cX7_readMore 101 = .ok (.iload_n 2, 1) := by decide +kernel
theorem dX7_readMore_102 : decode cX7_readMore 102 = .ok (.iadd, 1) := by decide +kernel
theorem dX7_readMore_103 : decode cX7_readMore 103 = .ok (.aload_n 0, 1) := by decide +kernel
theorem dX7_readMore_104 : decode cX7_readMore 104 = .ok (.invokevirtual 107, 3) := by decide +kernel
theorem dX7_readMore_107 : decode cX7_readMore 107 = .ok (.iastore, 1) := by decide +kernel
theorem dX7_readMore_108 : decode cX7_readMore 108 = .ok (.aload_n 0, 1) := by decide +kernel
theorem dX7_readMore_109 : decode cX7_readMore 109 = .ok (.getfield 13, 3) := by decide +kernel
theorem dX7_readMore_112 : decode cX7_readMore 112 = .ok (.bipush 40, 2) := by decide +kernel
theorem dX7_readMore_114 : decode cX7_readMore 114 = .ok (.dup2, 1) := by decide +kernel
theorem dX7_readMore_115 : decode cX7_readMore 115 = .ok (.iaload, 1) := by decide +kernel
theorem dX7_readMore_116 : decode cX7_readMore 116 = .ok (.iconst 1, 1) := by decide +kernel
theorem dX7_readMore_117 : decode cX7_readMore 117 = .ok (.iadd, 1) := by decide +kernel
theorem dX7_readMore_118 : decode cX7_readMore 118 = .ok (.iastore, 1) := by decide +kernel
theorem dX7_readMore_119 : decode cX7_readMore 119 = .ok (.return_, 1) := by decide +kernel
theorem dX7_readLine_0 : decode cX7_readLine 0 = .ok (.aload_n 0, 1) := by decide +kernel
theorem dX7_readLine_1 : decode cX7_readLine 1 = .ok (.invokevirtual 111, 3) := by decide +kernel
theorem dX7_readLine_4 : decode cX7_readLine 4 = .ok (.istore_n 1, 1) := by decide +kernel
theorem dX7_readLine_5 : decode cX7_readLine 5 = .ok (.iload_n 1, 1) := by decide +kernel
theorem dX7_readLine_6 : decode cX7_readLine 6 = .ok (.i2l, 1) := by decide +kernel
theorem dX7_readLine_7 : decode cX7_readLine 7 = .ok (.lconst 0, 1) := by decide +kernel
theorem dX7_readLine_8 : decode cX7_readLine 8 = .ok (.ldc2_w 114, 3) := by decide +kernel
theorem dX7_readLine_11 : decode cX7_readLine 11 = .ok (.invokestatic 53, 3) := by decide +kernel
theorem dX7_readLine_14 : decode cX7_readLine 14 = .ok (.ifCond .ne 9, 3) := by decide +kernel
theorem dX7_readLine_17 : decode cX7_readLine 17 = .ok (.aload_n 0, 1) := by decide +kernel
theorem dX7_readLine_18 : decode cX7_readLine 18 = .ok (.iconst 2, 1) := by decide +kernel
theorem dX7_readLine_19 : decode cX7_readLine 19 = .ok (.invokevirtual 90, 3) := by decide +kernel
theorem dX7_readLine_22 : decode cX7_readLine 22 = .ok (.return_, 1) := by decide +kernel
theorem dX7_readLine_23 : decode cX7_readLine 23 = .ok (.iload_n 1, 1) := by decide +kernel
theorem dX7_readLine_24 : decode cX7_readLine 24 = .ok (.iconst 3, 1) := by decide +kernel
theorem dX7_readLine_25 : decode cX7_readLine 25 = .ok (.if_icmp .gt 11, 3) := by decide +kernel
theorem dX7_readLine_28 : decode cX7_readLine 28 = .ok (.aload_n 0, 1) := by decide +kernel
theorem dX7_readLine_29 : decode cX7_readLine 29 = .ok (.getfield 104, 3) := by decide +kernel
theorem dX7_readLine_32 : decode cX7_readLine 32 = .ok (.iconst 5, 1) := by decide +kernel
theorem dX7_readLine_33 : decode cX7_readLine 33 = .ok (.if_icmp .eq 20, 3) := by decide +kernel
theorem dX7_readLine_36 : decode cX7_readLine 36 = .ok (.iload_n 1, 1) := by decide +kernel
theorem dX7_readLine_37 : decode cX7_readLine 37 = .ok (.iconst 4, 1) := by decide +kernel
theorem dX7_readLine_38 : decode cX7_readLine 38 = .ok (.if_icmp .ne 20, 3) := by decide +kernel
theorem dX7_readLine_41 : decode cX7_readLine 41 = .ok (.aload_n 0, 1) := by decide +kernel
theorem dX7_readLine_42 : decode cX7_readLine 42 = .ok (.getfield 13, 3) := by decide +kernel
theorem dX7_readLine_45 : decode cX7_readLine 45 = .ok (.bipush 40, 2) := by decide +kernel
theorem dX7_readLine_47 : decode cX7_readLine 47 = .ok (.iaload, 1) := by decide +kernel
theorem dX7_readLine_48 : decode cX7_readLine 48 = .ok (.bipush 10, 2) := by decide +kernel
theorem dX7_readLine_50 : decode cX7_readLine 50 = .ok (.if_icmp .ne 8, 3) := by decide +kernel
theorem dX7_readLine_53 : decode cX7_readLine 53 = .ok (.aload_n 0, 1) := by decide +kernel
theorem dX7_readLine_54 : decode cX7_readLine 54 = .ok (.iconst 5, 1) := by decide +kernel
theorem dX7_readLine_55 : decode cX7_readLine 55 = .ok (.invokevirtual 90, 3) := by decide +kernel
theorem dX7_readLine_58 : decode cX7_readLine 58 = .ok (.aload_n 0, 1) := by decide +kernel
theorem dX7_readLine_59 : decode cX7_readLine 59 = .ok (.invokevirtual 94, 3) := by decide +kernel
theorem dX7_readLine_62 : decode cX7_readLine 62 = .ok (.aload_n 0, 1) := by decide +kernel
theorem dX7_readLine_63 : decode cX7_readLine 63 = .ok (.getfield 60, 3) := by decide +kernel
theorem dX7_readLine_66 : decode cX7_readLine 66 = .ok (.ifCond .le 4, 3) := by decide +kernel
theorem dX7_readLine_69 : decode cX7_readLine 69 = .ok (.return_, 1) := by decide +kernel
theorem dX7_readLine_70 : decode cX7_readLine 70 = .ok (.aload_n 0, 1) := by decide +kernel
theorem dX7_readLine_71 : decode cX7_readLine 71 = .ok (.iload_n 1, 1) := by decide +kernel
theorem dX7_readLine_72 : decode cX7_readLine 72 = .ok (.invokevirtual 116, 3) := by decide +kernel
theorem dX7_readLine_75 : decode cX7_readLine 75 = .ok (.aload_n 0, 1) := by decide +kernel
theorem dX7_readLine_76 : decode cX7_readLine 76 = .ok (.getfield 60, 3) := by decide +kernel
theorem dX7_readLine_79 : decode cX7_readLine 79 = .ok (.ifCond .ne 16, 3) := by decide +kernel
theorem dX7_readLine_82 : decode cX7_readLine 82 = .ok (.aload_n 0, 1) := by decide +kernel
theorem dX7_readLine_83 : decode cX7_readLine 83 = .ok (.getfield 69, 3) := by decide +kernel
theorem dX7_readLine_86 : decode cX7_readLine 86 = .ok (.iconst 3, 1) := by decide +kernel
theorem dX7_readLine_87 : decode cX7_readLine 87 = .ok (.if_icmp .eq 8, 3) := by decide +kernel
theorem dX7_readLine_90 : decode cX7_readLine 90 = .ok (.aload_n 0, 1) := by decide +kernel
theorem dX7_readLine_91 : decode cX7_readLine 91 = .ok (.iconst 2, 1) := by decide +kernel
theorem dX7_readLine_92 : decode cX7_readLine 92 = .ok (.invokevirtual 90, 3) := by decide +kernel
theorem dX7_readLine_95 : decode cX7_readLine 95 = .ok (.aload_n 0, 1) := by decide +kernel
theorem dX7_readLine_96 : decode cX7_readLine 96 = .ok (.invokevirtual 94, 3) := by decide +kernel
theorem dX7_readLine_99 : decode cX7_readLine 99 = .ok (.return_, 1) := by decide +kernel
theorem dX7_text_0 : decode cX7_text 0 = .ok (.aload_n 0, 1) := by decide +kernel
theorem dX7_text_1 : decode cX7_text 1 = .ok (.iconst 0, 1) := by decide +kernel
theorem dX7_text_2 : decode cX7_text 2 = .ok (.putfield 60, 3) := by decide +kernel
theorem dX7_text_5 : decode cX7_text 5 = .ok (.aload_n 0, 1) := by decide +kernel
theorem dX7_text_6 : decode cX7_text 6 = .ok (.iconst 0, 1) := by decide +kernel
theorem dX7_text_7 : decode cX7_text 7 = .ok (.putfield 72, 3) := by decide +kernel
theorem dX7_text_10 : decode cX7_text 10 = .ok (.aload_n 0, 1) := by decide +kernel
theorem dX7_text_11 : decode cX7_text 11 = .ok (.iconst 0, 1) := by decide +kernel
theorem dX7_text_12 : decode cX7_text 12 = .ok (.putfield 104, 3) := by decide +kernel
theorem dX7_text_15 : decode cX7_text 15 = .ok (.aload_n 0, 1) := by decide +kernel
theorem dX7_text_16 : decode cX7_text 16 = .ok (.iconst (-1), 1) := by decide +kernel
theorem dX7_text_17 : decode cX7_text 17 = .ok (.putfield 101, 3) := by decide +kernel
theorem dX7_text_20 : decode cX7_text 20 = .ok (.iconst 0, 1) := by decide +kernel
theorem dX7_text_21 : decode cX7_text 21 = .ok (.istore_n 1, 1) := by decide +kernel
theorem dX7_text_22 : decode cX7_text 22 = .ok (.iconst 0, 1) := by decide +kernel
theorem dX7_text_23 : decode cX7_text 23 = .ok (.istore_n 2, 1) := by decide +kernel
theorem dX7_text_24 : decode cX7_text 24 = .ok (.iload_n 2, 1) := by decide +kernel
theorem dX7_text_25 : decode cX7_text 25 = .ok (.bipush 42, 2) := by decide +kernel
theorem dX7_text_27 : decode cX7_text 27 = .ok (.if_icmp .ge 16, 3) := by decide +kernel
theorem dX7_text_30 : decode cX7_text 30 = .ok (.aload_n 0, 1) := by decide +kernel
theorem dX7_text_31 : decode cX7_text 31 = .ok (.getfield 13, 3) := by decide +kernel
theorem dX7_text_34 : decode cX7_text 34 = .ok (.iload_n 2, 1) := by decide +kernel
theorem dX7_text_35 : decode cX7_text 35 = .ok (.iconst 0, 1) := by decide +kernel
theorem dX7_text_36 : decode cX7_text 36 = .ok (.iastore, 1) := by decide +kernel
theorem dX7_text_37 : decode cX7_text 37 = .ok (.iinc 2 1, 3) := by decide +kernel
theorem dX7_text_40 : decode cX7_text 40 = .ok (.goto (-16), 3) := by decide +kernel
theorem dX7_text_43 : decode cX7_text 43 = .ok (.aload_n 0, 1) := by decide +kernel
theorem dX7_text_44 : decode cX7_text 44 = .ok (.invokevirtual 94, 3) := by decide +kernel
theorem dX7_text_47 : decode cX7_text 47 = .ok (.aload_n 0, 1) := by decide +kernel
theorem dX7_text_48 : decode cX7_text 48 = .ok (.getfield 60, 3) := by decide +kernel
theorem dX7_text_51 : decode cX7_text 51 = .ok (.ifCond .ne 20, 3) := by decide +kernel
theorem dX7_text_54 : decode cX7_text 54 = .ok (.aload_n 0, 1) := by decide +kernel
theorem dX7_text_55 : decode cX7_text 55 = .ok (.getfield 69, 3) := by decide +kernel
theorem dX7_text_58 : decode cX7_text 58 = .ok (.ifCond .eq 13, 3) := by decide +kernel
theorem dX7_text_61 : decode cX7_text 61 = .ok (.aload_n 0, 1) := by decide +kernel
theorem dX7_text_62 : decode cX7_text 62 = .ok (.invokevirtual 119, 3) := by decide +kernel
theorem dX7_text_65 : decode cX7_text 65 = .ok (.iinc 1 1, 3) := by decide +kernel
theorem dX7_text_68 : decode cX7_text 68 = .ok (.goto (-21), 3) := by decide +kernel
theorem dX7_text_71 : decode cX7_text 71 = .ok (.aload_n 0, 1) := by decide +kernel
theorem dX7_text_72 : decode cX7_text 72 = .ok (.getfield 60, 3) := by decide +kernel
theorem dX7_text_75 : decode cX7_text 75 = .ok (.ifCond .ne 20, 3) := by decide +kernel
theorem dX7_text_78 : decode cX7_text 78 = .ok (.aload_n 0, 1) := by decide +kernel
theorem dX7_text_79 : decode cX7_text 79 = .ok (.getfield 101, 3) := by decide +kernel
theorem dX7_text_82 : decode cX7_text 82 = .ok (.aload_n 0, 1) := by decide +kernel
theorem dX7_text_83 : decode cX7_text 83 = .ok (.getfield 104, 3) := by decide +kernel
theorem dX7_text_86 : decode cX7_text 86 = .ok (.if_icmp .lt 9, 3) := by decide +kernel
theorem dX7_text_89 : decode cX7_text 89 = .ok (.aload_n 0, 1) := by decide +kernel
theorem dX7_text_90 : decode cX7_text 90 = .ok (.bipush 6, 2) := by decide +kernel
theorem dX7_text_92 : decode cX7_text 92 = .ok (.invokevirtual 90, 3) := by decide +kernel
theorem dX7_text_95 : decode cX7_text 95 = .ok (.aload_n 0, 1) := by decide +kernel
theorem dX7_text_96 : decode cX7_text 96 = .ok (.iconst 0, 1) := by decide +kernel
theorem dX7_text_97 : decode cX7_text 97 = .ok (.putfield 57, 3) := by decide +kernel
theorem dX7_text_100 : decode cX7_text 100 = .ok (.aload_n 0, 1) := by decide +kernel
theorem dX7_text_101 : decode cX7_text 101 = .ok (.aload_n 0, 1) := by decide +kernel
theorem dX7_text_102 : decode cX7_text 102 = .ok (.getfield 60, 3) := by decide +kernel
theorem dX7_text_105 : decode cX7_text 105 = .ok (.putfield 122, 3) := by decide +kernel
theorem dX7_text_108 : decode cX7_text 108 = .ok (.aload_n 0, 1) := by decide +kernel
theorem dX7_text_109 : decode cX7_text 109 = .ok (.getfield 60, 3) := by decide +kernel
theorem dX7_text_112 : decode cX7_text 112 = .ok (.ifCond .le 11, 3) := by decide +kernel
theorem dX7_text_115 : decode cX7_text 115 = .ok (.bipush (-10), 2) := by decide +kernel
theorem dX7_text_117 : decode cX7_text 117 = .ok (.aload_n 0, 1) := by decide +kernel
theorem dX7_text_118 : decode cX7_text 118 = .ok (.getfield 66, 3) := by decide +kernel
theorem dX7_text_121 : decode cX7_text 121 = .ok (.isub, 1) := by decide +kernel
theorem dX7_text_122 : decode cX7_text 122 = .ok (.ireturn, 1) := by decide +kernel
theorem dX7_text_123 : decode cX7_text 123 = .ok (.iconst 0, 1) := by decide +kernel
theorem dX7_text_124 : decode cX7_text 124 = .ok (.istore_n 2, 1) := by decide +kernel
theorem dX7_text_125 : decode cX7_text 125 = .ok (.iload_n 2, 1) := by decide +kernel
theorem dX7_text_126 : decode cX7_text 126 = .ok (.bipush 42, 2) := by decide +kernel
theorem dX7_text_128 : decode cX7_text 128 = .ok (.if_icmp .ge 21, 3) := by decide +kernel
theorem dX7_text_131 : decode cX7_text 131 = .ok (.aload_n 0, 1) := by decide +kernel
theorem dX7_text_132 : decode cX7_text 132 = .ok (.getfield 7, 3) := by decide +kernel
theorem dX7_text_135 : decode cX7_text 135 = .ok (.iload_n 2, 1) := by decide +kernel
theorem dX7_text_136 : decode cX7_text 136 = .ok (.aload_n 0, 1) := by decide +kernel
theorem dX7_text_137 : decode cX7_text 137 = .ok (.getfield 13, 3) := by decide +kernel
theorem dX7_text_140 : decode cX7_text 140 = .ok (.iload_n 2, 1) := by decide +kernel
theorem dX7_text_141 : decode cX7_text 141 = .ok (.iaload, 1) := by decide +kernel
theorem dX7_text_142 : decode cX7_text 142 = .ok (.iastore, 1) := by decide +kernel
theorem dX7_text_143 : decode cX7_text 143 = .ok (.iinc 2 1, 3) := by decide +kernel
theorem dX7_text_146 : decode cX7_text 146 = .ok (.goto (-21), 3) := by decide +kernel
theorem dX7_text_149 : decode cX7_text 149 = .ok (.aload_n 0, 1) := by decide +kernel
theorem dX7_text_150 : decode cX7_text 150 = .ok (.aload_n 0, 1) := by decide +kernel
theorem dX7_text_151 : decode cX7_text 151 = .ok (.getfield 104, 3) := by decide +kernel
theorem dX7_text_154 : decode cX7_text 154 = .ok (.putfield 125, 3) := by decide +kernel
theorem dX7_text_157 : decode cX7_text 157 = .ok (.aload_n 0, 1) := by decide +kernel
theorem dX7_text_158 : decode cX7_text 158 = .ok (.iconst 0, 1) := by decide +kernel
theorem dX7_text_159 : decode cX7_text 159 = .ok (.putfield 128, 3) := by decide +kernel
theorem dX7_text_162 : decode cX7_text 162 = .ok (.aload_n 0, 1) := by decide +kernel
theorem dX7_text_163 : decode cX7_text 163 = .ok (.getfield 38, 3) := by decide +kernel
theorem dX7_text_166 : decode cX7_text 166 = .ok (.iconst 0, 1) := by decide +kernel
theorem dX7_text_167 : decode cX7_text 167 = .ok (.iconst 0, 1) := by decide +kernel
theorem dX7_text_168 : decode cX7_text 168 = .ok (.bastore, 1) := by decide +kernel
theorem dX7_text_169 : decode cX7_text 169 = .ok (.aload_n 0, 1) := by decide +kernel
theorem dX7_text_170 : decode cX7_text 170 = .ok (.getfield 38, 3) := by decide +kernel
theorem dX7_text_173 : decode cX7_text 173 = .ok (.iconst 1, 1) := by decide +kernel
theorem dX7_text_174 : decode cX7_text 174 = .ok (.iconst 0, 1) := by decide +kernel
theorem dX7_text_175 : decode cX7_text 175 = .ok (.bastore, 1) := by decide +kernel
theorem dX7_text_176 : decode cX7_text 176 = .ok (.iload_n 1, 1) := by decide +kernel
theorem dX7_text_177 : decode cX7_text 177 = .ok (.ireturn, 1) := by decide +kernel
theorem dX7_fault_0 : decode cX7_fault 0 = .ok (.aload_n 0, 1) := by decide +kernel
theorem dX7_fault_1 : decode cX7_fault 1 = .ok (.getfield 122, 3) := by decide +kernel
theorem dX7_fault_4 : decode cX7_fault 4 = .ok (.ireturn, 1) := by decide +kernel
theorem dX7_isTown_0 : decode cX7_isTown 0 = .ok (.iload_n 1, 1) := by decide +kernel
theorem dX7_isTown_1 : decode cX7_isTown 1 = .ok (.i2l, 1) := by decide +kernel
theorem dX7_isTown_2 : decode cX7_isTown 2 = .ok (.lconst 0, 1) := by decide +kernel
theorem dX7_isTown_3 : decode cX7_isTown 3 = .ok (.aload_n 0, 1) := by decide +kernel
theorem dX7_isTown_4 : decode cX7_isTown 4 = .ok (.getfield 125, 3) := by decide +kernel
theorem dX7_isTown_7 : decode cX7_isTown 7 = .ok (.iconst 1, 1) := by decide +kernel
theorem dX7_isTown_8 : decode cX7_isTown 8 = .ok (.isub, 1) := by decide +kernel
theorem dX7_isTown_9 : decode cX7_isTown 9 = .ok (.i2l, 1) := by decide +kernel
theorem dX7_isTown_10 : decode cX7_isTown 10 = .ok (.invokestatic 53, 3) := by decide +kernel
theorem dX7_isTown_13 : decode cX7_isTown 13 = .ok (.ireturn, 1) := by decide +kernel
theorem dX7_isPair_0 : decode cX7_isPair 0 = .ok (.aload_n 0, 1) := by decide +kernel
theorem dX7_isPair_1 : decode cX7_isPair 1 = .ok (.iload_n 1, 1) := by decide +kernel
theorem dX7_isPair_2 : decode cX7_isPair 2 = .ok (.invokevirtual 131, 3) := by decide +kernel
theorem dX7_isPair_5 : decode cX7_isPair 5 = .ok (.ifCond .eq 20, 3) := by decide +kernel
theorem dX7_isPair_8 : decode cX7_isPair 8 = .ok (.aload_n 0, 1) := by decide +kernel
theorem dX7_isPair_9 : decode cX7_isPair 9 = .ok (.iload_n 2, 1) := by decide +kernel
theorem dX7_isPair_10 : decode cX7_isPair 10 = .ok (.invokevirtual 131, 3) := by decide +kernel
theorem dX7_isPair_13 : decode cX7_isPair 13 = .ok (.ifCond .eq 12, 3) := by decide +kernel
theorem dX7_isPair_16 : decode cX7_isPair 16 = .ok (.iload_n 1, 1) := by decide +kernel
theorem dX7_isPair_17 : decode cX7_isPair 17 = .ok (.iload_n 2, 1) := by decide +kernel
theorem dX7_isPair_18 : decode cX7_isPair 18 = .ok (.if_icmp .eq 7, 3) := by decide +kernel
theorem dX7_isPair_21 : decode cX7_isPair 21 = .ok (.iconst 1, 1) := by decide +kernel
theorem dX7_isPair_22 : decode cX7_isPair 22 = .ok (.goto 4, 3) := by decide +kernel
theorem dX7_isPair_25 : decode cX7_isPair 25 = .ok (.iconst 0, 1) := by decide +kernel
theorem dX7_isPair_26 : decode cX7_isPair 26 = .ok (.ireturn, 1) := by decide +kernel
theorem dX7_isFixture_0 : decode cX7_isFixture 0 = .ok (.iload_n 1, 1) := by decide +kernel
theorem dX7_isFixture_1 : decode cX7_isFixture 1 = .ok (.i2l, 1) := by decide +kernel
theorem dX7_isFixture_2 : decode cX7_isFixture 2 = .ok (.lconst 0, 1) := by decide +kernel
theorem dX7_isFixture_3 : decode cX7_isFixture 3 = .ok (.aload_n 0, 1) := by decide +kernel
theorem dX7_isFixture_4 : decode cX7_isFixture 4 = .ok (.getfield 7, 3) := by decide +kernel
theorem dX7_isFixture_7 : decode cX7_isFixture 7 = .ok (.bipush 40, 2) := by decide +kernel
theorem dX7_isFixture_9 : decode cX7_isFixture 9 = .ok (.iaload, 1) := by decide +kernel
theorem dX7_isFixture_10 : decode cX7_isFixture 10 = .ok (.iconst 1, 1) := by decide +kernel
theorem dX7_isFixture_11 : decode cX7_isFixture 11 = .ok (.isub, 1) := by decide +kernel
theorem dX7_isFixture_12 : decode cX7_isFixture 12 = .ok (.i2l, 1) := by decide +kernel
theorem dX7_isFixture_13 : decode cX7_isFixture 13 = .ok (.invokestatic 53, 3) := by decide +kernel
theorem dX7_isFixture_16 : decode cX7_isFixture 16 = .ok (.ireturn, 1) := by decide +kernel
theorem dX7_playsOn_0 : decode cX7_playsOn 0 = .ok (.aload_n 0, 1) := by decide +kernel
theorem dX7_playsOn_1 : decode cX7_playsOn 1 = .ok (.getfield 7, 3) := by decide +kernel
theorem dX7_playsOn_4 : decode cX7_playsOn 4 = .ok (.iload_n 1, 1) := by decide +kernel
theorem dX7_playsOn_5 : decode cX7_playsOn 5 = .ok (.iload_n 2, 1) := by decide +kernel
theorem dX7_playsOn_6 : decode cX7_playsOn 6 = .ok (.iadd, 1) := by decide +kernel
theorem dX7_playsOn_7 : decode cX7_playsOn 7 = .ok (.iaload, 1) := by decide +kernel
theorem dX7_playsOn_8 : decode cX7_playsOn 8 = .ok (.istore_n 3, 1) := by decide +kernel
theorem dX7_playsOn_9 : decode cX7_playsOn 9 = .ok (.aload_n 0, 1) := by decide +kernel
theorem dX7_playsOn_10 : decode cX7_playsOn 10 = .ok (.getfield 7, 3) := by decide +kernel
theorem dX7_playsOn_13 : decode cX7_playsOn 13 = .ok (.iload_n 1, 1) := by decide +kernel
theorem dX7_playsOn_14 : decode cX7_playsOn 14 = .ok (.iconst 5, 1) := by decide +kernel
theorem dX7_playsOn_15 : decode cX7_playsOn 15 = .ok (.iadd, 1) := by decide +kernel
theorem dX7_playsOn_16 : decode cX7_playsOn 16 = .ok (.iload_n 2, 1) := by decide +kernel
theorem dX7_playsOn_17 : decode cX7_playsOn 17 = .ok (.iadd, 1) := by decide +kernel
theorem dX7_playsOn_18 : decode cX7_playsOn 18 = .ok (.iaload, 1) := by decide +kernel
theorem dX7_playsOn_19 : decode cX7_playsOn 19 = .ok (.istore 4, 2) := by decide +kernel
theorem dX7_playsOn_21 : decode cX7_playsOn 21 = .ok (.aload_n 0, 1) := by decide +kernel
theorem dX7_playsOn_22 : decode cX7_playsOn 22 = .ok (.getfield 7, 3) := by decide +kernel
theorem dX7_playsOn_25 : decode cX7_playsOn 25 = .ok (.iload_n 1, 1) := by decide +kernel
theorem dX7_playsOn_26 : decode cX7_playsOn 26 = .ok (.bipush 10, 2) := by decide +kernel
theorem dX7_playsOn_28 : decode cX7_playsOn 28 = .ok (.iadd, 1) := by decide +kernel
theorem dX7_playsOn_29 : decode cX7_playsOn 29 = .ok (.iload_n 2, 1) := by decide +kernel
theorem dX7_playsOn_30 : decode cX7_playsOn 30 = .ok (.iadd, 1) := by decide +kernel
theorem dX7_playsOn_31 : decode cX7_playsOn 31 = .ok (.iaload, 1) := by decide +kernel
theorem dX7_playsOn_32 : decode cX7_playsOn 32 = .ok (.ifCond .ne 10, 3) := by decide +kernel
theorem dX7_playsOn_35 : decode cX7_playsOn 35 = .ok (.iload 4, 2) := by decide +kernel
theorem dX7_playsOn_37 : decode cX7_playsOn 37 = .ok (.iconst 2, 1) := by decide +kernel
theorem dX7_playsOn_38 : decode cX7_playsOn 38 = .ok (.idiv, 1) := by decide +kernel
theorem dX7_playsOn_39 : decode cX7_playsOn 39 = .ok (.goto 5, 3) := by decide +kernel
theorem dX7_playsOn_42 : decode cX7_playsOn 42 = .ok (.iload 4, 2) := by decide +kernel
theorem dX7_playsOn_44 : decode cX7_playsOn 44 = .ok (.istore 5, 2) := by decide +kernel
theorem dX7_playsOn_46 : decode cX7_playsOn 46 = .ok (.iload_n 3, 1) := by decide +kernel
theorem dX7_playsOn_47 : decode cX7_playsOn 47 = .ok (.ifCond .ne 8, 3) := by decide +kernel
theorem dX7_playsOn_50 : decode cX7_playsOn 50 = .ok (.iload 4, 2) := by decide +kernel
theorem dX7_playsOn_52 : decode cX7_playsOn 52 = .ok (.goto 39, 3) := by decide +kernel
theorem dX7_playsOn_55 : decode cX7_playsOn 55 = .ok (.iload_n 3, 1) := by decide +kernel
theorem dX7_playsOn_56 : decode cX7_playsOn 56 = .ok (.iconst 1, 1) := by decide +kernel
theorem dX7_playsOn_57 : decode cX7_playsOn 57 = .ok (.if_icmp .ne 10, 3) := by decide +kernel
theorem dX7_playsOn_60 : decode cX7_playsOn 60 = .ok (.iload 4, 2) := by decide +kernel
theorem dX7_playsOn_62 : decode cX7_playsOn 62 = .ok (.iconst 3, 1) := by decide +kernel
theorem dX7_playsOn_63 : decode cX7_playsOn 63 = .ok (.iadd, 1) := by decide +kernel
theorem dX7_playsOn_64 : decode cX7_playsOn 64 = .ok (.goto 27, 3) := by decide +kernel
theorem dX7_playsOn_67 : decode cX7_playsOn 67 = .ok (.iload_n 3, 1) := by decide +kernel
theorem dX7_playsOn_68 : decode cX7_playsOn 68 = .ok (.iconst 2, 1) := by decide +kernel
theorem dX7_playsOn_69 : decode cX7_playsOn 69 = .ok (.if_icmp .ne 8, 3) := by decide +kernel
theorem dX7_playsOn_72 : decode cX7_playsOn 72 = .ok (.iload 5, 2) := by decide +kernel
theorem dX7_playsOn_74 : decode cX7_playsOn 74 = .ok (.goto 17, 3) := by decide +kernel
theorem dX7_playsOn_77 : decode cX7_playsOn 77 = .ok (.iload 5, 2) := by decide +kernel
theorem dX7_playsOn_79 : decode cX7_playsOn 79 = .ok (.iconst 2, 1) := by decide +kernel
theorem dX7_playsOn_80 : decode cX7_playsOn 80 = .ok (.if_icmp .le 10, 3) := by decide +kernel
theorem dX7_playsOn_83 : decode cX7_playsOn 83 = .ok (.iload 5, 2) := by decide +kernel
theorem dX7_playsOn_85 : decode cX7_playsOn 85 = .ok (.iconst 2, 1) := by decide +kernel
theorem dX7_playsOn_86 : decode cX7_playsOn 86 = .ok (.isub, 1) := by decide +kernel
theorem dX7_playsOn_87 : decode cX7_playsOn 87 = .ok (.goto 4, 3) := by decide +kernel
theorem dX7_playsOn_90 : decode cX7_playsOn 90 = .ok (.iconst 0, 1) := by decide +kernel
theorem dX7_playsOn_91 : decode cX7_playsOn 91 = .ok (.ireturn, 1) := by decide +kernel
theorem dX7_gameOn_0 : decode cX7_gameOn 0 = .ok (.aload_n 0, 1) := by decide +kernel
theorem dX7_gameOn_1 : decode cX7_gameOn 1 = .ok (.iload_n 1, 1) := by decide +kernel
theorem dX7_gameOn_2 : decode cX7_gameOn 2 = .ok (.iload_n 2, 1) := by decide +kernel
theorem dX7_gameOn_3 : decode cX7_gameOn 3 = .ok (.invokevirtual 135, 3) := by decide +kernel
theorem dX7_gameOn_6 : decode cX7_gameOn 6 = .ok (.istore 4, 2) := by decide +kernel
theorem dX7_gameOn_8 : decode cX7_gameOn 8 = .ok (.aload_n 0, 1) := by decide +kernel
theorem dX7_gameOn_9 : decode cX7_gameOn 9 = .ok (.iload_n 1, 1) := by decide +kernel
theorem dX7_gameOn_10 : decode cX7_gameOn 10 = .ok (.iload_n 3, 1) := by decide +kernel
theorem dX7_gameOn_11 : decode cX7_gameOn 11 = .ok (.invokevirtual 135, 3) := by decide +kernel
theorem dX7_gameOn_14 : decode cX7_gameOn 14 = .ok (.istore 5, 2) := by decide +kernel
theorem dX7_gameOn_16 : decode cX7_gameOn 16 = .ok (.iload 4, 2) := by decide +kernel
theorem dX7_gameOn_18 : decode cX7_gameOn 18 = .ok (.iload 5, 2) := by decide +kernel
theorem dX7_gameOn_20 : decode cX7_gameOn 20 = .ok (.if_icmp .ge 7, 3) := by decide +kernel
theorem dX7_gameOn_23 : decode cX7_gameOn 23 = .ok (.iload_n 2, 1) := by decide +kernel
theorem dX7_gameOn_24 : decode cX7_gameOn 24 = .ok (.goto 16, 3) := by decide +kernel
theorem dX7_gameOn_27 : decode cX7_gameOn 27 = .ok (.iload 5, 2) := by decide +kernel
theorem dX7_gameOn_29 : decode cX7_gameOn 29 = .ok (.iload 4, 2) := by decide +kernel
theorem dX7_gameOn_31 : decode cX7_gameOn 31 = .ok (.if_icmp .ge 7, 3) := by decide +kernel
theorem dX7_gameOn_34 : decode cX7_gameOn 34 = .ok (.iload_n 3, 1) := by decide +kernel
theorem dX7_gameOn_35 : decode cX7_gameOn 35 = .ok (.goto 5, 3) := by decide +kernel
theorem dX7_gameOn_38 : decode cX7_gameOn 38 = .ok (.bipush (-4), 2) := by decide +kernel
theorem dX7_gameOn_40 : decode cX7_gameOn 40 = .ok (.ireturn, 1) := by decide +kernel
theorem dX7_playedOn_0 : decode cX7_playedOn 0 = .ok (.aload_n 0, 1) := by decide +kernel
theorem dX7_playedOn_1 : decode cX7_playedOn 1 = .ok (.aload_n 0, 1) := by decide +kernel
theorem dX7_playedOn_2 : decode cX7_playedOn 2 = .ok (.iload_n 1, 1) := by decide +kernel
theorem dX7_playedOn_3 : decode cX7_playedOn 3 = .ok (.iload_n 2, 1) := by decide +kernel
theorem dX7_playedOn_4 : decode cX7_playedOn 4 = .ok (.iload_n 3, 1) := by decide +kernel
theorem dX7_playedOn_5 : decode cX7_playedOn 5 = .ok (.invokevirtual 138, 3) := by decide +kernel
theorem dX7_playedOn_8 : decode cX7_playedOn 8 = .ok (.putfield 142, 3) := by decide +kernel
theorem dX7_playedOn_11 : decode cX7_playedOn 11 = .ok (.aload_n 0, 1) := by decide +kernel
theorem dX7_playedOn_12 : decode cX7_playedOn 12 = .ok (.getfield 142, 3) := by decide +kernel
theorem dX7_playedOn_15 : decode cX7_playedOn 15 = .ok (.bipush (-4), 2) := by decide +kernel
theorem dX7_playedOn_17 : decode cX7_playedOn 17 = .ok (.if_icmp .ne 14, 3) := by decide +kernel
theorem dX7_playedOn_20 : decode cX7_playedOn 20 = .ok (.aload_n 0, 1) := by decide +kernel
theorem dX7_playedOn_21 : decode cX7_playedOn 21 = .ok (.dup, 1) := by decide +kernel
theorem dX7_playedOn_22 : decode cX7_playedOn 22 = .ok (.getfield 145, 3) := by decide +kernel
theorem dX7_playedOn_25 : decode cX7_playedOn 25 = .ok (.iconst 1, 1) := by decide +kernel
theorem dX7_playedOn_26 : decode cX7_playedOn 26 = .ok (.iadd, 1) := by decide +kernel
theorem dX7_playedOn_27 : decode cX7_playedOn 27 = .ok (.putfield 145, 3) := by decide +kernel
theorem dX7_playedOn_30 : decode cX7_playedOn 30 = .ok (.return_, 1) := by decide +kernel
theorem dX7_playedOn_31 : decode cX7_playedOn 31 = .ok (.aload_n 0, 1) := by decide +kernel
theorem dX7_playedOn_32 : decode cX7_playedOn 32 = .ok (.getfield 142, 3) := by decide +kernel
theorem dX7_playedOn_35 : decode cX7_playedOn 35 = .ok (.iload_n 2, 1) := by decide +kernel
theorem dX7_playedOn_36 : decode cX7_playedOn 36 = .ok (.if_icmp .ne 7, 3) := by decide +kernel
theorem dX7_playedOn_39 : decode cX7_playedOn 39 = .ok (.iload_n 3, 1) := by decide +kernel
theorem dX7_playedOn_40 : decode cX7_playedOn 40 = .ok (.goto 4, 3) := by decide +kernel
theorem dX7_playedOn_43 : decode cX7_playedOn 43 = .ok (.iload_n 2, 1) := by decide +kernel
theorem dX7_playedOn_44 : decode cX7_playedOn 44 = .ok (.istore 4, 2) := by decide +kernel
theorem dX7_playedOn_46 : decode cX7_playedOn 46 = .ok (.aload_n 0, 1) := by decide +kernel
theorem dX7_playedOn_47 : decode cX7_playedOn 47 = .ok (.getfield 7, 3) := by decide +kernel
theorem dX7_playedOn_50 : decode cX7_playedOn 50 = .ok (.iload_n 1, 1) := by decide +kernel
theorem dX7_playedOn_51 : decode cX7_playedOn 51 = .ok (.aload_n 0, 1) := by decide +kernel
theorem dX7_playedOn_52 : decode cX7_playedOn 52 = .ok (.getfield 142, 3) := by decide +kernel
theorem dX7_playedOn_55 : decode cX7_playedOn 55 = .ok (.iadd, 1) := by decide +kernel
theorem dX7_playedOn_56 : decode cX7_playedOn 56 = .ok (.iaload, 1) := by decide +kernel
theorem dX7_playedOn_57 : decode cX7_playedOn 57 = .ok (.istore 5, 2) := by decide +kernel
theorem dX7_playedOn_59 : decode cX7_playedOn 59 = .ok (.aload_n 0, 1) := by decide +kernel
theorem dX7_playedOn_60 : decode cX7_playedOn 60 = .ok (.getfield 7, 3) := by decide +kernel
theorem dX7_playedOn_63 : decode cX7_playedOn 63 = .ok (.iload_n 1, 1) := by decide +kernel
theorem dX7_playedOn_64 : decode cX7_playedOn 64 = .ok (.iconst 5, 1) := by decide +kernel
theorem dX7_playedOn_65 : decode cX7_playedOn 65 = .ok (.iadd, 1) := by decide +kernel
theorem dX7_playedOn_66 : decode cX7_playedOn 66 = .ok (.aload_n 0, 1) := by decide +kernel
theorem dX7_playedOn_67 : decode cX7_playedOn 67 = .ok (.getfield 142, 3) := by decide +kernel
theorem dX7_playedOn_70 : decode cX7_playedOn 70 = .ok (.iadd, 1) := by decide +kernel
theorem dX7_playedOn_71 : decode cX7_playedOn 71 = .ok (.iaload, 1) := by decide +kernel
theorem dX7_playedOn_72 : decode cX7_playedOn 72 = .ok (.iload 5, 2) := by decide +kernel
theorem dX7_playedOn_74 : decode cX7_playedOn 74 = .ok (.iconst 1, 1) := by decide +kernel
theorem dX7_playedOn_75 : decode cX7_playedOn 75 = .ok (.if_icmp .ne 7, 3) := by decide +kernel
theorem dX7_playedOn_78 : decode cX7_playedOn 78 = .ok (.iconst 2, 1) := by decide +kernel
theorem dX7_playedOn_79 : decode cX7_playedOn 79 = .ok (.goto 14, 3) := by decide +kernel
theorem dX7_playedOn_82 : decode cX7_playedOn 82 = .ok (.iload 5, 2) := by decide +kernel
theorem dX7_playedOn_84 : decode cX7_playedOn 84 = .ok (.iconst 3, 1) := by decide +kernel
theorem dX7_playedOn_85 : decode cX7_playedOn 85 = .ok (.if_icmp .ne 7, 3) := by decide +kernel
theorem dX7_playedOn_88 : decode cX7_playedOn 88 = .ok (.iconst 0, 1) := by decide +kernel
theorem dX7_playedOn_89 : decode cX7_playedOn 89 = .ok (.goto 4, 3) := by decide +kernel
theorem dX7_playedOn_92 : decode cX7_playedOn 92 = .ok (.iconst 1, 1) := by decide +kernel
theorem dX7_playedOn_93 : decode cX7_playedOn 93 = .ok (.iadd, 1) := by decide +kernel
theorem dX7_playedOn_94 : decode cX7_playedOn 94 = .ok (.istore 6, 2) := by decide +kernel
theorem dX7_playedOn_96 : decode cX7_playedOn 96 = .ok (.aload_n 0, 1) := by decide +kernel
theorem dX7_playedOn_97 : decode cX7_playedOn 97 = .ok (.getfield 7, 3) := by decide +kernel
theorem dX7_playedOn_100 : decode cX7_playedOn 100 = .ok (.iload_n 1, 1) := by decide +kernel
theorem dX7_playedOn_101 : decode cX7_playedOn 101 = .ok (.bipush 10, 2) := by decide +kernel
theorem dX7_playedOn_103 : decode cX7_playedOn 103 = .ok (.iadd, 1) := by decide +kernel
theorem dX7_playedOn_104 : decode cX7_playedOn 104 = .ok (.aload_n 0, 1) := by decide +kernel
theorem dX7_playedOn_105 : decode cX7_playedOn 105 = .ok (.getfield 142, 3) := by decide +kernel
theorem dX7_playedOn_108 : decode cX7_playedOn 108 = .ok (.iadd, 1) := by decide +kernel
theorem dX7_playedOn_109 : decode cX7_playedOn 109 = .ok (.dup2, 1) := by decide +kernel
theorem dX7_playedOn_110 : decode cX7_playedOn 110 = .ok (.iaload, 1) := by decide +kernel
theorem dX7_playedOn_111 : decode cX7_playedOn 111 = .ok (.aload_n 0, 1) := by decide +kernel
theorem dX7_playedOn_112 : decode cX7_playedOn 112 = .ok (.getfield 7, 3) := by decide +kernel
theorem dX7_playedOn_115 : decode cX7_playedOn 115 = .ok (.iload_n 1, 1) := by decide +kernel
theorem dX7_playedOn_116 : decode cX7_playedOn 116 = .ok (.bipush 10, 2) := by decide +kernel
theorem dX7_playedOn_118 : decode cX7_playedOn 118 = .ok (.iadd, 1) := by decide +kernel
theorem dX7_playedOn_119 : decode cX7_playedOn 119 = .ok (.aload_n 0, 1) := by decide +kernel
theorem dX7_playedOn_120 : decode cX7_playedOn 120 = .ok (.getfield 142, 3) := by decide +kernel
theorem dX7_playedOn_123 : decode cX7_playedOn 123 = .ok (.iadd, 1) := by decide +kernel
theorem dX7_playedOn_124 : decode cX7_playedOn 124 = .ok (.iaload, 1) := by decide +kernel
theorem dX7_playedOn_125 : decode cX7_playedOn 125 = .ok (.bipush 99, 2) := by decide +kernel
theorem dX7_playedOn_127 : decode cX7_playedOn 127 = .ok (.if_icmp .ge 7, 3) := by decide +kernel
theorem dX7_playedOn_130 : decode cX7_playedOn 130 = .ok (.iconst 1, 1) := by decide +kernel
theorem dX7_playedOn_131 : decode cX7_playedOn 131 = .ok (.goto 4, 3) := by decide +kernel
theorem dX7_playedOn_134 : decode cX7_playedOn 134 = .ok (.iconst 0, 1) := by decide +kernel
theorem dX7_playedOn_135 : decode cX7_playedOn 135 = .ok (.iadd, 1) := by decide +kernel
theorem dX7_playedOn_136 : decode cX7_playedOn 136 = .ok (.iastore, 1) := by decide +kernel
theorem dX7_playedOn_137 : decode cX7_playedOn 137 = .ok (.aload_n 0, 1) := by decide +kernel
theorem dX7_playedOn_138 : decode cX7_playedOn 138 = .ok (.getfield 7, 3) := by decide +kernel
theorem dX7_playedOn_141 : decode cX7_playedOn 141 = .ok (.iload_n 1, 1) := by decide +kernel
theorem dX7_playedOn_142 : decode cX7_playedOn 142 = .ok (.iconst 5, 1) := by decide +kernel
theorem dX7_playedOn_143 : decode cX7_playedOn 143 = .ok (.iadd, 1) := by decide +kernel
theorem dX7_playedOn_144 : decode cX7_playedOn 144 = .ok (.aload_n 0, 1) := by decide +kernel
theorem dX7_playedOn_145 : decode cX7_playedOn 145 = .ok (.getfield 142, 3) := by decide +kernel
theorem dX7_playedOn_148 : decode cX7_playedOn 148 = .ok (.iadd, 1) := by decide +kernel
theorem dX7_playedOn_149 : decode cX7_playedOn 149 = .ok (.iload 6, 2) := by decide +kernel
theorem dX7_playedOn_151 : decode cX7_playedOn 151 = .ok (.bipush 20, 2) := by decide +kernel
theorem dX7_playedOn_153 : decode cX7_playedOn 153 = .ok (.if_icmp .le 8, 3) := by decide +kernel
theorem dX7_playedOn_156 : decode cX7_playedOn 156 = .ok (.bipush 20, 2) := by decide +kernel
theorem dX7_playedOn_158 : decode cX7_playedOn 158 = .ok (.goto 5, 3) := by decide +kernel
theorem dX7_playedOn_161 : decode cX7_playedOn 161 = .ok (.iload 6, 2) := by decide +kernel
theorem dX7_playedOn_163 : decode cX7_playedOn 163 = .ok (.iastore, 1) := by decide +kernel
theorem dX7_playedOn_164 : decode cX7_playedOn 164 = .ok (.aload_n 0, 1) := by decide +kernel
theorem dX7_playedOn_165 : decode cX7_playedOn 165 = .ok (.getfield 7, 3) := by decide +kernel
theorem dX7_playedOn_168 : decode cX7_playedOn 168 = .ok (.iload_n 1, 1) := by decide +kernel
theorem dX7_playedOn_169 : decode cX7_playedOn 169 = .ok (.iconst 5, 1) := by decide +kernel
theorem dX7_playedOn_170 : decode cX7_playedOn 170 = .ok (.iadd, 1) := by decide +kernel
theorem dX7_playedOn_171 : decode cX7_playedOn 171 = .ok (.iload 4, 2) := by decide +kernel
theorem dX7_playedOn_173 : decode cX7_playedOn 173 = .ok (.iadd, 1) := by decide +kernel
theorem dX7_playedOn_174 : decode cX7_playedOn 174 = .ok (.dup2, 1) := by decide +kernel
theorem dX7_playedOn_175 : decode cX7_playedOn 175 = .ok (.iaload, 1) := by decide +kernel
theorem dX7_playedOn_176 : decode cX7_playedOn 176 = .ok (.aload_n 0, 1) := by decide +kernel
theorem dX7_playedOn_177 : decode cX7_playedOn 177 = .ok (.getfield 7, 3) := by decide +kernel
theorem dX7_playedOn_180 : decode cX7_playedOn 180 = .ok (.iload_n 1, 1) := by decide +kernel
theorem dX7_playedOn_181 : decode cX7_playedOn 181 = .ok (.iconst 5, 1) := by decide +kernel
theorem dX7_playedOn_182 : decode cX7_playedOn 182 = .ok (.iadd, 1) := by decide +kernel
theorem dX7_playedOn_183 : decode cX7_playedOn 183 = .ok (.iload 4, 2) := by decide +kernel
theorem dX7_playedOn_185 : decode cX7_playedOn 185 = .ok (.iadd, 1) := by decide +kernel
theorem dX7_playedOn_186 : decode cX7_playedOn 186 = .ok (.iaload, 1) := by decide +kernel
theorem dX7_playedOn_187 : decode cX7_playedOn 187 = .ok (.ifCond .le 7, 3) := by decide +kernel
theorem dX7_playedOn_190 : decode cX7_playedOn 190 = .ok (.iconst 1, 1) := by decide +kernel
theorem dX7_playedOn_191 : decode cX7_playedOn 191 = .ok (.goto 4, 3) := by decide +kernel
theorem dX7_playedOn_194 : decode cX7_playedOn 194 = .ok (.iconst 0, 1) := by decide +kernel
theorem dX7_playedOn_195 : decode cX7_playedOn 195 = .ok (.isub, 1) := by decide +kernel
theorem dX7_playedOn_196 : decode cX7_playedOn 196 = .ok (.iastore, 1) := by decide +kernel
theorem dX7_playedOn_197 : decode cX7_playedOn 197 = .ok (.aload_n 0, 1) := by decide +kernel
theorem dX7_playedOn_198 : decode cX7_playedOn 198 = .ok (.dup, 1) := by decide +kernel
theorem dX7_playedOn_199 : decode cX7_playedOn 199 = .ok (.getfield 148, 3) := by decide +kernel
theorem dX7_playedOn_202 : decode cX7_playedOn 202 = .ok (.iconst 1, 1) := by decide +kernel
theorem dX7_playedOn_203 : decode cX7_playedOn 203 = .ok (.iadd, 1) := by decide +kernel
theorem dX7_playedOn_204 : decode cX7_playedOn 204 = .ok (.putfield 148, 3) := by decide +kernel
theorem dX7_playedOn_207 : decode cX7_playedOn 207 = .ok (.return_, 1) := by decide +kernel
theorem dX7_placeOn_0 : decode cX7_placeOn 0 = .ok (.aload_n 0, 1) := by decide +kernel
theorem dX7_placeOn_1 : decode cX7_placeOn 1 = .ok (.getfield 7, 3) := by decide +kernel
theorem dX7_placeOn_4 : decode cX7_placeOn 4 = .ok (.iload_n 1, 1) := by decide +kernel
theorem dX7_placeOn_5 : decode cX7_placeOn 5 = .ok (.bipush 40, 2) := by decide +kernel
theorem dX7_placeOn_7 : decode cX7_placeOn 7 = .ok (.iadd, 1) := by decide +kernel
theorem dX7_placeOn_8 : decode cX7_placeOn 8 = .ok (.iaload, 1) := by decide +kernel
theorem dX7_placeOn_9 : decode cX7_placeOn 9 = .ok (.ifCond .ne 8, 3) := by decide +kernel
theorem dX7_placeOn_12 : decode cX7_placeOn 12 = .ok (.bipush (-4), 2) := by decide +kernel
theorem dX7_placeOn_14 : decode cX7_placeOn 14 = .ok (.goto 22, 3) := by decide +kernel
theorem dX7_placeOn_17 : decode cX7_placeOn 17 = .ok (.aload_n 0, 1) := by decide +kernel
theorem dX7_placeOn_18 : decode cX7_placeOn 18 = .ok (.getfield 7, 3) := by decide +kernel
theorem dX7_placeOn_21 : decode cX7_placeOn 21 = .ok (.iload_n 1, 1) := by decide +kernel
theorem dX7_placeOn_22 : decode cX7_placeOn 22 = .ok (.bipush 41, 2) := by decide +kernel
theorem dX7_placeOn_24 : decode cX7_placeOn 24 = .ok (.iadd, 1) := by decide +kernel
theorem dX7_placeOn_25 : decode cX7_placeOn 25 = .ok (.iaload, 1) := by decide +kernel
theorem dX7_placeOn_26 : decode cX7_placeOn 26 = .ok (.aload_n 0, 1) := by decide +kernel
theorem dX7_placeOn_27 : decode cX7_placeOn 27 = .ok (.getfield 7, 3) := by decide +kernel
theorem dX7_placeOn_30 : decode cX7_placeOn 30 = .ok (.iload_n 1, 1) := by decide +kernel
theorem dX7_placeOn_31 : decode cX7_placeOn 31 = .ok (.bipush 40, 2) := by decide +kernel
theorem dX7_placeOn_33 : decode cX7_placeOn 33 = .ok (.iadd, 1) := by decide +kernel
theorem dX7_placeOn_34 : decode cX7_placeOn 34 = .ok (.iaload, 1) := by decide +kernel
theorem dX7_placeOn_35 : decode cX7_placeOn 35 = .ok (.irem, 1) := by decide +kernel
theorem dX7_placeOn_36 : decode cX7_placeOn 36 = .ok (.ireturn, 1) := by decide +kernel
theorem dX7_yearsEnd_0 : decode cX7_yearsEnd 0 = .ok (.iconst 0, 1) := by decide +kernel
theorem dX7_yearsEnd_1 : decode cX7_yearsEnd 1 = .ok (.istore_n 2, 1) := by decide +kernel
theorem dX7_yearsEnd_2 : decode cX7_yearsEnd 2 = .ok (.iload_n 2, 1) := by decide +kernel
theorem dX7_yearsEnd_3 : decode cX7_yearsEnd 3 = .ok (.aload_n 0, 1) := by decide +kernel
theorem dX7_yearsEnd_4 : decode cX7_yearsEnd 4 = .ok (.getfield 125, 3) := by decide +kernel
theorem dX7_yearsEnd_7 : decode cX7_yearsEnd 7 = .ok (.if_icmp .ge 80, 3) := by decide +kernel
theorem dX7_yearsEnd_10 : decode cX7_yearsEnd 10 = .ok (.aload_n 0, 1) := by decide +kernel
theorem dX7_yearsEnd_11 : decode cX7_yearsEnd 11 = .ok (.getfield 7, 3) := by decide +kernel
theorem dX7_yearsEnd_14 : decode cX7_yearsEnd 14 = .ok (.iload_n 1, 1) := by decide +kernel
theorem dX7_yearsEnd_15 : decode cX7_yearsEnd 15 = .ok (.bipush 10, 2) := by decide +kernel
theorem dX7_yearsEnd_17 : decode cX7_yearsEnd 17 = .ok (.iadd, 1) := by decide +kernel
theorem dX7_yearsEnd_18 : decode cX7_yearsEnd 18 = .ok (.iload_n 2, 1) := by decide +kernel
theorem dX7_yearsEnd_19 : decode cX7_yearsEnd 19 = .ok (.iadd, 1) := by decide +kernel
theorem dX7_yearsEnd_20 : decode cX7_yearsEnd 20 = .ok (.iaload, 1) := by decide +kernel
theorem dX7_yearsEnd_21 : decode cX7_yearsEnd 21 = .ok (.ifCond .ne 23, 3) := by decide +kernel
theorem dX7_yearsEnd_24 : decode cX7_yearsEnd 24 = .ok (.aload_n 0, 1) := by decide +kernel
theorem dX7_yearsEnd_25 : decode cX7_yearsEnd 25 = .ok (.getfield 7, 3) := by decide +kernel
theorem dX7_yearsEnd_28 : decode cX7_yearsEnd 28 = .ok (.iload_n 1, 1) := by decide +kernel
theorem dX7_yearsEnd_29 : decode cX7_yearsEnd 29 = .ok (.bipush 15, 2) := by decide +kernel
theorem dX7_yearsEnd_31 : decode cX7_yearsEnd 31 = .ok (.iadd, 1) := by decide +kernel
theorem dX7_yearsEnd_32 : decode cX7_yearsEnd 32 = .ok (.iload_n 2, 1) := by decide +kernel
theorem dX7_yearsEnd_33 : decode cX7_yearsEnd 33 = .ok (.iadd, 1) := by decide +kernel
theorem dX7_yearsEnd_34 : decode cX7_yearsEnd 34 = .ok (.iaload, 1) := by decide +kernel
theorem dX7_yearsEnd_35 : decode cX7_yearsEnd 35 = .ok (.bipush 99, 2) := by decide +kernel
theorem dX7_yearsEnd_37 : decode cX7_yearsEnd 37 = .ok (.if_icmp .ge 7, 3) := by decide +kernel
theorem dX7_yearsEnd_40 : decode cX7_yearsEnd 40 = .ok (.iconst 1, 1) := by decide +kernel
theorem dX7_yearsEnd_41 : decode cX7_yearsEnd 41 = .ok (.goto 4, 3) := by decide +kernel
theorem dX7_yearsEnd_44 : decode cX7_yearsEnd 44 = .ok (.iconst 0, 1) := by decide +kernel
theorem dX7_yearsEnd_45 : decode cX7_yearsEnd 45 = .ok (.istore_n 3, 1) := by decide +kernel
theorem dX7_yearsEnd_46 : decode cX7_yearsEnd 46 = .ok (.aload_n 0, 1) := by decide +kernel
theorem dX7_yearsEnd_47 : decode cX7_yearsEnd 47 = .ok (.getfield 7, 3) := by decide +kernel
theorem dX7_yearsEnd_50 : decode cX7_yearsEnd 50 = .ok (.iload_n 1, 1) := by decide +kernel
theorem dX7_yearsEnd_51 : decode cX7_yearsEnd 51 = .ok (.bipush 15, 2) := by decide +kernel
theorem dX7_yearsEnd_53 : decode cX7_yearsEnd 53 = .ok (.iadd, 1) := by decide +kernel
theorem dX7_yearsEnd_54 : decode cX7_yearsEnd 54 = .ok (.iload_n 2, 1) := by decide +kernel
theorem dX7_yearsEnd_55 : decode cX7_yearsEnd 55 = .ok (.iadd, 1) := by decide +kernel
theorem dX7_yearsEnd_56 : decode cX7_yearsEnd 56 = .ok (.dup2, 1) := by decide +kernel
theorem dX7_yearsEnd_57 : decode cX7_yearsEnd 57 = .ok (.iaload, 1) := by decide +kernel
theorem dX7_yearsEnd_58 : decode cX7_yearsEnd 58 = .ok (.iload_n 3, 1) := by decide +kernel
theorem dX7_yearsEnd_59 : decode cX7_yearsEnd 59 = .ok (.ifCond .eq 7, 3) := by decide +kernel
theorem dX7_yearsEnd_62 : decode cX7_yearsEnd 62 = .ok (.iconst 1, 1) := by decide +kernel
theorem dX7_yearsEnd_63 : decode cX7_yearsEnd 63 = .ok (.goto 4, 3) := by decide +kernel
theorem dX7_yearsEnd_66 : decode cX7_yearsEnd 66 = .ok (.iconst 0, 1) := by decide +kernel
theorem dX7_yearsEnd_67 : decode cX7_yearsEnd 67 = .ok (.iadd, 1) := by decide +kernel
theorem dX7_yearsEnd_68 : decode cX7_yearsEnd 68 = .ok (.iastore, 1) := by decide +kernel
theorem dX7_yearsEnd_69 : decode cX7_yearsEnd 69 = .ok (.aload_n 0, 1) := by decide +kernel
theorem dX7_yearsEnd_70 : decode cX7_yearsEnd 70 = .ok (.getfield 7, 3) := by decide +kernel
theorem dX7_yearsEnd_73 : decode cX7_yearsEnd 73 = .ok (.iload_n 1, 1) := by decide +kernel
theorem dX7_yearsEnd_74 : decode cX7_yearsEnd 74 = .ok (.bipush 10, 2) := by decide +kernel
theorem dX7_yearsEnd_76 : decode cX7_yearsEnd 76 = .ok (.iadd, 1) := by decide +kernel
theorem dX7_yearsEnd_77 : decode cX7_yearsEnd 77 = .ok (.iload_n 2, 1) := by decide +kernel
theorem dX7_yearsEnd_78 : decode cX7_yearsEnd 78 = .ok (.iadd, 1) := by decide +kernel
theorem dX7_yearsEnd_79 : decode cX7_yearsEnd 79 = .ok (.iconst 0, 1) := by decide +kernel
theorem dX7_yearsEnd_80 : decode cX7_yearsEnd 80 = .ok (.iastore, 1) := by decide +kernel
theorem dX7_yearsEnd_81 : decode cX7_yearsEnd 81 = .ok (.iinc 2 1, 3) := by decide +kernel
theorem dX7_yearsEnd_84 : decode cX7_yearsEnd 84 = .ok (.goto (-82), 3) := by decide +kernel
theorem dX7_yearsEnd_87 : decode cX7_yearsEnd 87 = .ok (.return_, 1) := by decide +kernel
theorem dX7_weekOn_0 : decode cX7_weekOn 0 = .ok (.aload_n 0, 1) := by decide +kernel
theorem dX7_weekOn_1 : decode cX7_weekOn 1 = .ok (.iload_n 1, 1) := by decide +kernel
theorem dX7_weekOn_2 : decode cX7_weekOn 2 = .ok (.invokevirtual 151, 3) := by decide +kernel
theorem dX7_weekOn_5 : decode cX7_weekOn 5 = .ok (.istore_n 3, 1) := by decide +kernel
theorem dX7_weekOn_6 : decode cX7_weekOn 6 = .ok (.aload_n 0, 1) := by decide +kernel
theorem dX7_weekOn_7 : decode cX7_weekOn 7 = .ok (.bipush (-4), 2) := by decide +kernel
theorem dX7_weekOn_9 : decode cX7_weekOn 9 = .ok (.putfield 142, 3) := by decide +kernel
theorem dX7_weekOn_12 : decode cX7_weekOn 12 = .ok (.iload_n 3, 1) := by decide +kernel
theorem dX7_weekOn_13 : decode cX7_weekOn 13 = .ok (.bipush (-4), 2) := by decide +kernel
theorem dX7_weekOn_15 : decode cX7_weekOn 15 = .ok (.if_icmp .eq 42, 3) := by decide +kernel
theorem dX7_weekOn_18 : decode cX7_weekOn 18 = .ok (.iload_n 3, 1) := by decide +kernel
theorem dX7_weekOn_19 : decode cX7_weekOn 19 = .ok (.aload_n 0, 1) := by decide +kernel
theorem dX7_weekOn_20 : decode cX7_weekOn 20 = .ok (.getfield 25, 3) := by decide +kernel
theorem dX7_weekOn_23 : decode cX7_weekOn 23 = .ok (.if_icmp .eq 34, 3) := by decide +kernel
theorem dX7_weekOn_26 : decode cX7_weekOn 26 = .ok (.iload_n 2, 1) := by decide +kernel
theorem dX7_weekOn_27 : decode cX7_weekOn 27 = .ok (.ifCond .ne 30, 3) := by decide +kernel
theorem dX7_weekOn_30 : decode cX7_weekOn 30 = .ok (.aload_n 0, 1) := by decide +kernel
theorem dX7_weekOn_31 : decode cX7_weekOn 31 = .ok (.iload_n 1, 1) := by decide +kernel
theorem dX7_weekOn_32 : decode cX7_weekOn 32 = .ok (.aload_n 0, 1) := by decide +kernel
theorem dX7_weekOn_33 : decode cX7_weekOn 33 = .ok (.getfield 7, 3) := by decide +kernel
theorem dX7_weekOn_36 : decode cX7_weekOn 36 = .ok (.iload_n 1, 1) := by decide +kernel
theorem dX7_weekOn_37 : decode cX7_weekOn 37 = .ok (.bipush 20, 2) := by decide +kernel
theorem dX7_weekOn_39 : decode cX7_weekOn 39 = .ok (.iadd, 1) := by decide +kernel
theorem dX7_weekOn_40 : decode cX7_weekOn 40 = .ok (.iload_n 3, 1) := by decide +kernel
theorem dX7_weekOn_41 : decode cX7_weekOn 41 = .ok (.iadd, 1) := by decide +kernel
theorem dX7_weekOn_42 : decode cX7_weekOn 42 = .ok (.iaload, 1) := by decide +kernel
theorem dX7_weekOn_43 : decode cX7_weekOn 43 = .ok (.aload_n 0, 1) := by decide +kernel
theorem dX7_weekOn_44 : decode cX7_weekOn 44 = .ok (.getfield 7, 3) := by decide +kernel
theorem dX7_weekOn_47 : decode cX7_weekOn 47 = .ok (.iload_n 1, 1) := by decide +kernel
theorem dX7_weekOn_48 : decode cX7_weekOn 48 = .ok (.bipush 30, 2) := by decide +kernel
theorem dX7_weekOn_50 : decode cX7_weekOn 50 = .ok (.iadd, 1) := by decide +kernel
theorem dX7_weekOn_51 : decode cX7_weekOn 51 = .ok (.iload_n 3, 1) := by decide +kernel
theorem dX7_weekOn_52 : decode cX7_weekOn 52 = .ok (.iadd, 1) := by decide +kernel
theorem dX7_weekOn_53 : decode cX7_weekOn 53 = .ok (.iaload, 1) := by decide +kernel
theorem dX7_weekOn_54 : decode cX7_weekOn 54 = .ok (.invokevirtual 154, 3) := by decide +kernel
theorem dX7_weekOn_57 : decode cX7_weekOn 57 = .ok (.iload_n 3, 1) := by decide +kernel
theorem dX7_weekOn_58 : decode cX7_weekOn 58 = .ok (.bipush (-4), 2) := by decide +kernel
theorem dX7_weekOn_60 : decode cX7_weekOn 60 = .ok (.if_icmp .eq 23, 3) := by decide +kernel
theorem dX7_weekOn_63 : decode cX7_weekOn 63 = .ok (.iload_n 3, 1) := by decide +kernel
theorem dX7_weekOn_64 : decode cX7_weekOn 64 = .ok (.aload_n 0, 1) := by decide +kernel
theorem dX7_weekOn_65 : decode cX7_weekOn 65 = .ok (.getfield 7, 3) := by decide +kernel
theorem dX7_weekOn_68 : decode cX7_weekOn 68 = .ok (.iload_n 1, 1) := by decide +kernel
theorem dX7_weekOn_69 : decode cX7_weekOn 69 = .ok (.bipush 40, 2) := by decide +kernel
theorem dX7_weekOn_71 : decode cX7_weekOn 71 = .ok (.iadd, 1) := by decide +kernel
theorem dX7_weekOn_72 : decode cX7_weekOn 72 = .ok (.iaload, 1) := by decide +kernel
theorem dX7_weekOn_73 : decode cX7_weekOn 73 = .ok (.iconst 1, 1) := by decide +kernel
theorem dX7_weekOn_74 : decode cX7_weekOn 74 = .ok (.isub, 1) := by decide +kernel
theorem dX7_weekOn_75 : decode cX7_weekOn 75 = .ok (.if_icmp .ne 8, 3) := by decide +kernel
theorem dX7_weekOn_78 : decode cX7_weekOn 78 = .ok (.aload_n 0, 1) := by decide +kernel
theorem dX7_weekOn_79 : decode cX7_weekOn 79 = .ok (.iload_n 1, 1) := by decide +kernel
theorem dX7_weekOn_80 : decode cX7_weekOn 80 = .ok (.invokevirtual 158, 3) := by decide +kernel
theorem dX7_weekOn_83 : decode cX7_weekOn 83 = .ok (.aload_n 0, 1) := by decide +kernel
theorem dX7_weekOn_84 : decode cX7_weekOn 84 = .ok (.getfield 7, 3) := by decide +kernel
theorem dX7_weekOn_87 : decode cX7_weekOn 87 = .ok (.iload_n 1, 1) := by decide +kernel
theorem dX7_weekOn_88 : decode cX7_weekOn 88 = .ok (.bipush 41, 2) := by decide +kernel
theorem dX7_weekOn_90 : decode cX7_weekOn 90 = .ok (.iadd, 1) := by decide +kernel
theorem dX7_weekOn_91 : decode cX7_weekOn 91 = .ok (.dup2, 1) := by decide +kernel
theorem dX7_weekOn_92 : decode cX7_weekOn 92 = .ok (.iaload, 1) := by decide +kernel
theorem dX7_weekOn_93 : decode cX7_weekOn 93 = .ok (.iconst 1, 1) := by decide +kernel
theorem dX7_weekOn_94 : decode cX7_weekOn 94 = .ok (.iadd, 1) := by decide +kernel
theorem dX7_weekOn_95 : decode cX7_weekOn 95 = .ok (.iastore, 1) := by decide +kernel
theorem dX7_weekOn_96 : decode cX7_weekOn 96 = .ok (.return_, 1) := by decide +kernel
theorem dX7_owedOn_0 : decode cX7_owedOn 0 = .ok (.iconst 0, 1) := by decide +kernel
theorem dX7_owedOn_1 : decode cX7_owedOn 1 = .ok (.istore_n 2, 1) := by decide +kernel
theorem dX7_owedOn_2 : decode cX7_owedOn 2 = .ok (.iconst 0, 1) := by decide +kernel
theorem dX7_owedOn_3 : decode cX7_owedOn 3 = .ok (.istore_n 3, 1) := by decide +kernel
theorem dX7_owedOn_4 : decode cX7_owedOn 4 = .ok (.iload_n 3, 1) := by decide +kernel
theorem dX7_owedOn_5 : decode cX7_owedOn 5 = .ok (.aload_n 0, 1) := by decide +kernel
theorem dX7_owedOn_6 : decode cX7_owedOn 6 = .ok (.getfield 125, 3) := by decide +kernel
theorem dX7_owedOn_9 : decode cX7_owedOn 9 = .ok (.if_icmp .ge 23, 3) := by decide +kernel
theorem dX7_owedOn_12 : decode cX7_owedOn 12 = .ok (.iload_n 2, 1) := by decide +kernel
theorem dX7_owedOn_13 : decode cX7_owedOn 13 = .ok (.aload_n 0, 1) := by decide +kernel
theorem dX7_owedOn_14 : decode cX7_owedOn 14 = .ok (.getfield 7, 3) := by decide +kernel
theorem dX7_owedOn_17 : decode cX7_owedOn 17 = .ok (.iload_n 1, 1) := by decide +kernel
theorem dX7_owedOn_18 : decode cX7_owedOn 18 = .ok (.bipush 15, 2) := by decide +kernel
theorem dX7_owedOn_20 : decode cX7_owedOn 20 = .ok (.iadd, 1) := by decide +kernel
theorem dX7_owedOn_21 : decode cX7_owedOn 21 = .ok (.iload_n 3, 1) := by decide +kernel
theorem dX7_owedOn_22 : decode cX7_owedOn 22 = .ok (.iadd, 1) := by decide +kernel
theorem dX7_owedOn_23 : decode cX7_owedOn 23 = .ok (.iaload, 1) := by decide +kernel
theorem dX7_owedOn_24 : decode cX7_owedOn 24 = .ok (.iadd, 1) := by decide +kernel
theorem dX7_owedOn_25 : decode cX7_owedOn 25 = .ok (.istore_n 2, 1) := by decide +kernel
theorem dX7_owedOn_26 : decode cX7_owedOn 26 = .ok (.iinc 3 1, 3) := by decide +kernel
theorem dX7_owedOn_29 : decode cX7_owedOn 29 = .ok (.goto (-25), 3) := by decide +kernel
theorem dX7_owedOn_32 : decode cX7_owedOn 32 = .ok (.iload_n 2, 1) := by decide +kernel
theorem dX7_owedOn_33 : decode cX7_owedOn 33 = .ok (.ireturn, 1) := by decide +kernel
theorem dX7_losersOn_0 : decode cX7_losersOn 0 = .ok (.iconst 0, 1) := by decide +kernel
theorem dX7_losersOn_1 : decode cX7_losersOn 1 = .ok (.istore_n 2, 1) := by decide +kernel
theorem dX7_losersOn_2 : decode cX7_losersOn 2 = .ok (.iconst 0, 1) := by decide +kernel
theorem dX7_losersOn_3 : decode cX7_losersOn 3 = .ok (.istore_n 3, 1) := by decide +kernel
theorem dX7_losersOn_4 : decode cX7_losersOn 4 = .ok (.iload_n 3, 1) := by decide +kernel
theorem dX7_losersOn_5 : decode cX7_losersOn 5 = .ok (.aload_n 0, 1) := by decide +kernel
theorem dX7_losersOn_6 : decode cX7_losersOn 6 = .ok (.getfield 125, 3) := by decide +kernel
theorem dX7_losersOn_9 : decode cX7_losersOn 9 = .ok (.if_icmp .ge 33, 3) := by decide +kernel
theorem dX7_losersOn_12 : decode cX7_losersOn 12 = .ok (.iload_n 2, 1) := by decide +kernel
theorem dX7_losersOn_13 : decode cX7_losersOn 13 = .ok (.aload_n 0, 1) := by decide +kernel
theorem dX7_losersOn_14 : decode cX7_losersOn 14 = .ok (.getfield 7, 3) := by decide +kernel
theorem dX7_losersOn_17 : decode cX7_losersOn 17 = .ok (.iload_n 1, 1) := by decide +kernel
theorem dX7_losersOn_18 : decode cX7_losersOn 18 = .ok (.bipush 10, 2) := by decide +kernel
theorem dX7_losersOn_20 : decode cX7_losersOn 20 = .ok (.iadd, 1) := by decide +kernel
theorem dX7_losersOn_21 : decode cX7_losersOn 21 = .ok (.iload_n 3, 1) := by decide +kernel
theorem dX7_losersOn_22 : decode cX7_losersOn 22 = .ok (.iadd, 1) := by decide +kernel
theorem dX7_losersOn_23 : decode cX7_losersOn 23 = .ok (.iaload, 1) := by decide +kernel
theorem dX7_losersOn_24 : decode cX7_losersOn 24 = .ok (.ifCond .le 9, 3) := by decide +kernel
theorem dX7_losersOn_27 : decode cX7_losersOn 27 = .ok (.iconst 1, 1) := by decide +kernel
theorem dX7_losersOn_28 : decode cX7_losersOn 28 = .ok (.iload_n 3, 1) := by decide +kernel
theorem dX7_losersOn_29 : decode cX7_losersOn 29 = .ok (.ishl, 1) := by decide +kernel
theorem dX7_losersOn_30 : decode cX7_losersOn 30 = .ok (.goto 4, 3) := by decide +kernel
theorem dX7_losersOn_33 : decode cX7_losersOn 33 = .ok (.iconst 0, 1) := by decide +kernel
theorem dX7_losersOn_34 : decode cX7_losersOn 34 = .ok (.ior, 1) := by decide +kernel
theorem dX7_losersOn_35 : decode cX7_losersOn 35 = .ok (.istore_n 2, 1) := by decide +kernel
theorem dX7_losersOn_36 : decode cX7_losersOn 36 = .ok (.iinc 3 1, 3) := by decide +kernel
theorem dX7_losersOn_39 : decode cX7_losersOn 39 = .ok (.goto (-35), 3) := by decide +kernel
theorem dX7_losersOn_42 : decode cX7_losersOn 42 = .ok (.iload_n 2, 1) := by decide +kernel
theorem dX7_losersOn_43 : decode cX7_losersOn 43 = .ok (.ireturn, 1) := by decide +kernel
theorem dX7_rule_0 : decode cX7_rule 0 = .ok (.iload_n 1, 1) := by decide +kernel
theorem dX7_rule_1 : decode cX7_rule 1 = .ok (.tableswitch 78 0 5 #[39, 44, 52, 60, 66, 72], 39) := by decide +kernel
theorem dX7_rule_40 : decode cX7_rule 40 = .ok (.aload_n 0, 1) := by decide +kernel
theorem dX7_rule_41 : decode cX7_rule 41 = .ok (.getfield 125, 3) := by decide +kernel
theorem dX7_rule_44 : decode cX7_rule 44 = .ok (.ireturn, 1) := by decide +kernel
theorem dX7_rule_45 : decode cX7_rule 45 = .ok (.aload_n 0, 1) := by decide +kernel
theorem dX7_rule_46 : decode cX7_rule 46 = .ok (.getfield 7, 3) := by decide +kernel
theorem dX7_rule_49 : decode cX7_rule 49 = .ok (.bipush 40, 2) := by decide +kernel
theorem dX7_rule_51 : decode cX7_rule 51 = .ok (.iaload, 1) := by decide +kernel
theorem dX7_rule_52 : decode cX7_rule 52 = .ok (.ireturn, 1) := by decide +kernel
theorem dX7_rule_53 : decode cX7_rule 53 = .ok (.aload_n 0, 1) := by decide +kernel
theorem dX7_rule_54 : decode cX7_rule 54 = .ok (.getfield 7, 3) := by decide +kernel
theorem dX7_rule_57 : decode cX7_rule 57 = .ok (.bipush 41, 2) := by decide +kernel
theorem dX7_rule_59 : decode cX7_rule 59 = .ok (.iaload, 1) := by decide +kernel
theorem dX7_rule_60 : decode cX7_rule 60 = .ok (.ireturn, 1) := by decide +kernel
theorem dX7_rule_61 : decode cX7_rule 61 = .ok (.aload_n 0, 1) := by decide +kernel
theorem dX7_rule_62 : decode cX7_rule 62 = .ok (.iconst 0, 1) := by decide +kernel
theorem dX7_rule_63 : decode cX7_rule 63 = .ok (.invokevirtual 151, 3) := by decide +kernel
theorem dX7_rule_66 : decode cX7_rule 66 = .ok (.ireturn, 1) := by decide +kernel
theorem dX7_rule_67 : decode cX7_rule 67 = .ok (.aload_n 0, 1) := by decide +kernel
theorem dX7_rule_68 : decode cX7_rule 68 = .ok (.iconst 0, 1) := by decide +kernel
theorem dX7_rule_69 : decode cX7_rule 69 = .ok (.invokevirtual 161, 3) := by decide +kernel
theorem dX7_rule_72 : decode cX7_rule 72 = .ok (.ireturn, 1) := by decide +kernel
theorem dX7_rule_73 : decode cX7_rule 73 = .ok (.aload_n 0, 1) := by decide +kernel
theorem dX7_rule_74 : decode cX7_rule 74 = .ok (.iconst 0, 1) := by decide +kernel
theorem dX7_rule_75 : decode cX7_rule 75 = .ok (.invokevirtual 164, 3) := by decide +kernel
theorem dX7_rule_78 : decode cX7_rule 78 = .ok (.ireturn, 1) := by decide +kernel
theorem dX7_rule_79 : decode cX7_rule 79 = .ok (.iconst (-1), 1) := by decide +kernel
theorem dX7_rule_80 : decode cX7_rule 80 = .ok (.ireturn, 1) := by decide +kernel
theorem dX7_town_0 : decode cX7_town 0 = .ok (.aload_n 0, 1) := by decide +kernel
theorem dX7_town_1 : decode cX7_town 1 = .ok (.iload_n 1, 1) := by decide +kernel
theorem dX7_town_2 : decode cX7_town 2 = .ok (.invokevirtual 131, 3) := by decide +kernel
theorem dX7_town_5 : decode cX7_town 5 = .ok (.ifCond .eq 15, 3) := by decide +kernel
theorem dX7_town_8 : decode cX7_town 8 = .ok (.iload_n 2, 1) := by decide +kernel
theorem dX7_town_9 : decode cX7_town 9 = .ok (.i2l, 1) := by decide +kernel
theorem dX7_town_10 : decode cX7_town 10 = .ok (.lconst 0, 1) := by decide +kernel
theorem dX7_town_11 : decode cX7_town 11 = .ok (.ldc2_w 114, 3) := by decide +kernel
theorem dX7_town_14 : decode cX7_town 14 = .ok (.invokestatic 53, 3) := by decide +kernel
theorem dX7_town_17 : decode cX7_town 17 = .ok (.ifCond .ne 5, 3) := by decide +kernel
theorem dX7_town_20 : decode cX7_town 20 = .ok (.iconst (-1), 1) := by decide +kernel
theorem dX7_town_21 : decode cX7_town 21 = .ok (.ireturn, 1) := by decide +kernel
theorem dX7_town_22 : decode cX7_town 22 = .ok (.iload_n 2, 1) := by decide +kernel
theorem dX7_town_23 : decode cX7_town 23 = .ok (.iconst 4, 1) := by decide +kernel
theorem dX7_town_24 : decode cX7_town 24 = .ok (.if_icmp .ge 16, 3) := by decide +kernel
theorem dX7_town_27 : decode cX7_town 27 = .ok (.aload_n 0, 1) := by decide +kernel
theorem dX7_town_28 : decode cX7_town 28 = .ok (.getfield 7, 3) := by decide +kernel
theorem dX7_town_31 : decode cX7_town 31 = .ok (.iconst 5, 1) := by decide +kernel
theorem dX7_town_32 : decode cX7_town 32 = .ok (.iload_n 2, 1) := by decide +kernel
theorem dX7_town_33 : decode cX7_town 33 = .ok (.imul, 1) := by decide +kernel
theorem dX7_town_34 : decode cX7_town 34 = .ok (.iload_n 1, 1) := by decide +kernel
theorem dX7_town_35 : decode cX7_town 35 = .ok (.iadd, 1) := by decide +kernel
theorem dX7_town_36 : decode cX7_town 36 = .ok (.iaload, 1) := by decide +kernel
theorem dX7_town_37 : decode cX7_town 37 = .ok (.goto 9, 3) := by decide +kernel
theorem dX7_town_40 : decode cX7_town 40 = .ok (.aload_n 0, 1) := by decide +kernel
theorem dX7_town_41 : decode cX7_town 41 = .ok (.iconst 0, 1) := by decide +kernel
theorem dX7_town_42 : decode cX7_town 42 = .ok (.iload_n 1, 1) := by decide +kernel
theorem dX7_town_43 : decode cX7_town 43 = .ok (.invokevirtual 135, 3) := by decide +kernel
theorem dX7_town_46 : decode cX7_town 46 = .ok (.ireturn, 1) := by decide +kernel
theorem dX7_fixture_0 : decode cX7_fixture 0 = .ok (.aload_n 0, 1) := by decide +kernel
theorem dX7_fixture_1 : decode cX7_fixture 1 = .ok (.iload_n 1, 1) := by decide +kernel
theorem dX7_fixture_2 : decode cX7_fixture 2 = .ok (.invokevirtual 167, 3) := by decide +kernel
theorem dX7_fixture_5 : decode cX7_fixture 5 = .ok (.ifCond .eq 30, 3) := by decide +kernel
theorem dX7_fixture_8 : decode cX7_fixture 8 = .ok (.iload_n 2, 1) := by decide +kernel
theorem dX7_fixture_9 : decode cX7_fixture 9 = .ok (.i2l, 1) := by decide +kernel
theorem dX7_fixture_10 : decode cX7_fixture 10 = .ok (.lconst 0, 1) := by decide +kernel
theorem dX7_fixture_11 : decode cX7_fixture 11 = .ok (.lconst 1, 1) := by decide +kernel
theorem dX7_fixture_12 : decode cX7_fixture 12 = .ok (.invokestatic 53, 3) := by decide +kernel
theorem dX7_fixture_15 : decode cX7_fixture 15 = .ok (.ifCond .eq 20, 3) := by decide +kernel
theorem dX7_fixture_18 : decode cX7_fixture 18 = .ok (.aload_n 0, 1) := by decide +kernel
theorem dX7_fixture_19 : decode cX7_fixture 19 = .ok (.getfield 7, 3) := by decide +kernel
theorem dX7_fixture_22 : decode cX7_fixture 22 = .ok (.bipush 20, 2) := by decide +kernel
theorem dX7_fixture_24 : decode cX7_fixture 24 = .ok (.bipush 10, 2) := by decide +kernel
theorem dX7_fixture_26 : decode cX7_fixture 26 = .ok (.iload_n 2, 1) := by decide +kernel
theorem dX7_fixture_27 : decode cX7_fixture 27 = .ok (.imul, 1) := by decide +kernel
theorem dX7_fixture_28 : decode cX7_fixture 28 = .ok (.iadd, 1) := by decide +kernel
theorem dX7_fixture_29 : decode cX7_fixture 29 = .ok (.iload_n 1, 1) := by decide +kernel
theorem dX7_fixture_30 : decode cX7_fixture 30 = .ok (.iadd, 1) := by decide +kernel
theorem dX7_fixture_31 : decode cX7_fixture 31 = .ok (.iaload, 1) := by decide +kernel
theorem dX7_fixture_32 : decode cX7_fixture 32 = .ok (.goto 4, 3) := by decide +kernel
theorem dX7_fixture_35 : decode cX7_fixture 35 = .ok (.iconst (-1), 1) := by decide +kernel
theorem dX7_fixture_36 : decode cX7_fixture 36 = .ok (.ireturn, 1) := by decide +kernel
theorem dX7_game_0 : decode cX7_game 0 = .ok (.aload_n 0, 1) := by decide +kernel
theorem dX7_game_1 : decode cX7_game 1 = .ok (.iload_n 1, 1) := by decide +kernel
theorem dX7_game_2 : decode cX7_game 2 = .ok (.iload_n 2, 1) := by decide +kernel
theorem dX7_game_3 : decode cX7_game 3 = .ok (.invokevirtual 170, 3) := by decide +kernel
theorem dX7_game_6 : decode cX7_game 6 = .ok (.ifCond .eq 13, 3) := by decide +kernel
theorem dX7_game_9 : decode cX7_game 9 = .ok (.aload_n 0, 1) := by decide +kernel
theorem dX7_game_10 : decode cX7_game 10 = .ok (.iconst 0, 1) := by decide +kernel
theorem dX7_game_11 : decode cX7_game 11 = .ok (.iload_n 1, 1) := by decide +kernel
theorem dX7_game_12 : decode cX7_game 12 = .ok (.iload_n 2, 1) := by decide +kernel
theorem dX7_game_13 : decode cX7_game 13 = .ok (.invokevirtual 138, 3) := by decide +kernel
theorem dX7_game_16 : decode cX7_game 16 = .ok (.goto 4, 3) := by decide +kernel
theorem dX7_game_19 : decode cX7_game 19 = .ok (.iconst (-1), 1) := by decide +kernel
theorem dX7_game_20 : decode cX7_game 20 = .ok (.ireturn, 1) := by decide +kernel
theorem dX7_puts_0 : decode cX7_puts 0 = .ok (.iload_n 1, 1) := by decide +kernel
theorem dX7_puts_1 : decode cX7_puts 1 = .ok (.ifCond .ne 5, 3) := by decide +kernel
theorem dX7_puts_4 : decode cX7_puts 4 = .ok (.iconst (-1), 1) := by decide +kernel
theorem dX7_puts_5 : decode cX7_puts 5 = .ok (.ireturn, 1) := by decide +kernel
theorem dX7_puts_6 : decode cX7_puts 6 = .ok (.aload_n 0, 1) := by decide +kernel
theorem dX7_puts_7 : decode cX7_puts 7 = .ok (.getfield 7, 3) := by decide +kernel
theorem dX7_puts_10 : decode cX7_puts 10 = .ok (.iload_n 2, 1) := by decide +kernel
theorem dX7_puts_11 : decode cX7_puts 11 = .ok (.iaload, 1) := by decide +kernel
theorem dX7_puts_12 : decode cX7_puts 12 = .ok (.istore 4, 2) := by decide +kernel
theorem dX7_puts_14 : decode cX7_puts 14 = .ok (.aload_n 0, 1) := by decide +kernel
theorem dX7_puts_15 : decode cX7_puts 15 = .ok (.getfield 7, 3) := by decide +kernel
theorem dX7_puts_18 : decode cX7_puts 18 = .ok (.iload_n 2, 1) := by decide +kernel
theorem dX7_puts_19 : decode cX7_puts 19 = .ok (.iload_n 3, 1) := by decide +kernel
theorem dX7_puts_20 : decode cX7_puts 20 = .ok (.iastore, 1) := by decide +kernel
theorem dX7_puts_21 : decode cX7_puts 21 = .ok (.iload 4, 2) := by decide +kernel
theorem dX7_puts_23 : decode cX7_puts 23 = .ok (.ireturn, 1) := by decide +kernel
theorem dX7_alter_0 : decode cX7_alter 0 = .ok (.iload_n 2, 1) := by decide +kernel
theorem dX7_alter_1 : decode cX7_alter 1 = .ok (.ifCond .ne 7, 3) := by decide +kernel
theorem dX7_alter_4 : decode cX7_alter 4 = .ok (.iconst 3, 1) := by decide +kernel
theorem dX7_alter_5 : decode cX7_alter 5 = .ok (.goto 15, 3) := by decide +kernel
theorem dX7_alter_8 : decode cX7_alter 8 = .ok (.iload_n 2, 1) := by decide +kernel
theorem dX7_alter_9 : decode cX7_alter 9 = .ok (.iconst 1, 1) := by decide +kernel
theorem dX7_alter_10 : decode cX7_alter 10 = .ok (.if_icmp .ne 8, 3) := by decide +kernel
theorem dX7_alter_13 : decode cX7_alter 13 = .ok (.bipush 20, 2) := by decide +kernel
theorem dX7_alter_15 : decode cX7_alter 15 = .ok (.goto 5, 3) := by decide +kernel
theorem dX7_alter_18 : decode cX7_alter 18 = .ok (.bipush 99, 2) := by decide +kernel
theorem dX7_alter_20 : decode cX7_alter 20 = .ok (.istore 4, 2) := by decide +kernel
theorem dX7_alter_22 : decode cX7_alter 22 = .ok (.aload_n 0, 1) := by decide +kernel
theorem dX7_alter_23 : decode cX7_alter 23 = .ok (.aload_n 0, 1) := by decide +kernel
theorem dX7_alter_24 : decode cX7_alter 24 = .ok (.iload_n 1, 1) := by decide +kernel
theorem dX7_alter_25 : decode cX7_alter 25 = .ok (.invokevirtual 131, 3) := by decide +kernel
theorem dX7_alter_28 : decode cX7_alter 28 = .ok (.ifCond .eq 31, 3) := by decide +kernel
theorem dX7_alter_31 : decode cX7_alter 31 = .ok (.iload_n 2, 1) := by decide +kernel
theorem dX7_alter_32 : decode cX7_alter 32 = .ok (.i2l, 1) := by decide +kernel
theorem dX7_alter_33 : decode cX7_alter 33 = .ok (.lconst 0, 1) := by decide +kernel
theorem dX7_alter_34 : decode cX7_alter 34 = .ok (.ldc2_w 174, 3) := by decide +kernel
theorem dX7_alter_37 : decode cX7_alter 37 = .ok (.invokestatic 53, 3) := by decide +kernel
theorem dX7_alter_40 : decode cX7_alter 40 = .ok (.ifCond .eq 19, 3) := by decide +kernel
theorem dX7_alter_43 : decode cX7_alter 43 = .ok (.iload_n 3, 1) := by decide +kernel
theorem dX7_alter_44 : decode cX7_alter 44 = .ok (.i2l, 1) := by decide +kernel
theorem dX7_alter_45 : decode cX7_alter 45 = .ok (.lconst 0, 1) := by decide +kernel
theorem dX7_alter_46 : decode cX7_alter 46 = .ok (.iload 4, 2) := by decide +kernel
theorem dX7_alter_48 : decode cX7_alter 48 = .ok (.i2l, 1) := by decide +kernel
theorem dX7_alter_49 : decode cX7_alter 49 = .ok (.invokestatic 53, 3) := by decide +kernel
theorem dX7_alter_52 : decode cX7_alter 52 = .ok (.ifCond .eq 7, 3) := by decide +kernel
theorem dX7_alter_55 : decode cX7_alter 55 = .ok (.iconst 1, 1) := by decide +kernel
theorem dX7_alter_56 : decode cX7_alter 56 = .ok (.goto 4, 3) := by decide +kernel
theorem dX7_alter_59 : decode cX7_alter 59 = .ok (.iconst 0, 1) := by decide +kernel
theorem dX7_alter_60 : decode cX7_alter 60 = .ok (.iconst 5, 1) := by decide +kernel
theorem dX7_alter_61 : decode cX7_alter 61 = .ok (.iload_n 2, 1) := by decide +kernel
theorem dX7_alter_62 : decode cX7_alter 62 = .ok (.imul, 1) := by decide +kernel
theorem dX7_alter_63 : decode cX7_alter 63 = .ok (.iload_n 1, 1) := by decide +kernel
theorem dX7_alter_64 : decode cX7_alter 64 = .ok (.iadd, 1) := by decide +kernel
theorem dX7_alter_65 : decode cX7_alter 65 = .ok (.iload_n 3, 1) := by decide +kernel
theorem dX7_alter_66 : decode cX7_alter 66 = .ok (.invokevirtual 176, 3) := by decide +kernel
theorem dX7_alter_69 : decode cX7_alter 69 = .ok (.ireturn, 1) := by decide +kernel
theorem dX7_lendsOn_0 : decode cX7_lendsOn 0 = .ok (.aload_n 0, 1) := by decide +kernel
theorem dX7_lendsOn_1 : decode cX7_lendsOn 1 = .ok (.getfield 7, 3) := by decide +kernel
theorem dX7_lendsOn_4 : decode cX7_lendsOn 4 = .ok (.iload_n 1, 1) := by decide +kernel
theorem dX7_lendsOn_5 : decode cX7_lendsOn 5 = .ok (.iconst 5, 1) := by decide +kernel
theorem dX7_lendsOn_6 : decode cX7_lendsOn 6 = .ok (.iadd, 1) := by decide +kernel
theorem dX7_lendsOn_7 : decode cX7_lendsOn 7 = .ok (.iload_n 2, 1) := by decide +kernel
theorem dX7_lendsOn_8 : decode cX7_lendsOn 8 = .ok (.iadd, 1) := by decide +kernel
theorem dX7_lendsOn_9 : decode cX7_lendsOn 9 = .ok (.iaload, 1) := by decide +kernel
theorem dX7_lendsOn_10 : decode cX7_lendsOn 10 = .ok (.iload 4, 2) := by decide +kernel
theorem dX7_lendsOn_12 : decode cX7_lendsOn 12 = .ok (.if_icmp .ge 6, 3) := by decide +kernel
theorem dX7_lendsOn_15 : decode cX7_lendsOn 15 = .ok (.bipush (-2), 2) := by decide +kernel
theorem dX7_lendsOn_17 : decode cX7_lendsOn 17 = .ok (.ireturn, 1) := by decide +kernel
theorem dX7_lendsOn_18 : decode cX7_lendsOn 18 = .ok (.aload_n 0, 1) := by decide +kernel
theorem dX7_lendsOn_19 : decode cX7_lendsOn 19 = .ok (.getfield 7, 3) := by decide +kernel
theorem dX7_lendsOn_22 : decode cX7_lendsOn 22 = .ok (.iload_n 1, 1) := by decide +kernel
theorem dX7_lendsOn_23 : decode cX7_lendsOn 23 = .ok (.iconst 5, 1) := by decide +kernel
theorem dX7_lendsOn_24 : decode cX7_lendsOn 24 = .ok (.iadd, 1) := by decide +kernel
theorem dX7_lendsOn_25 : decode cX7_lendsOn 25 = .ok (.iload_n 3, 1) := by decide +kernel
theorem dX7_lendsOn_26 : decode cX7_lendsOn 26 = .ok (.iadd, 1) := by decide +kernel
theorem dX7_lendsOn_27 : decode cX7_lendsOn 27 = .ok (.iaload, 1) := by decide +kernel
theorem dX7_lendsOn_28 : decode cX7_lendsOn 28 = .ok (.iload 4, 2) := by decide +kernel
theorem dX7_lendsOn_30 : decode cX7_lendsOn 30 = .ok (.iadd, 1) := by decide +kernel
theorem dX7_lendsOn_31 : decode cX7_lendsOn 31 = .ok (.bipush 20, 2) := by decide +kernel
theorem dX7_lendsOn_33 : decode cX7_lendsOn 33 = .ok (.if_icmp .le 6, 3) := by decide +kernel
theorem dX7_lendsOn_36 : decode cX7_lendsOn 36 = .ok (.bipush (-3), 2) := by decide +kernel
theorem dX7_lendsOn_38 : decode cX7_lendsOn 38 = .ok (.ireturn, 1) := by decide +kernel
theorem dX7_lendsOn_39 : decode cX7_lendsOn 39 = .ok (.aload_n 0, 1) := by decide +kernel
theorem dX7_lendsOn_40 : decode cX7_lendsOn 40 = .ok (.getfield 7, 3) := by decide +kernel
theorem dX7_lendsOn_43 : decode cX7_lendsOn 43 = .ok (.iload_n 1, 1) := by decide +kernel
theorem dX7_lendsOn_44 : decode cX7_lendsOn 44 = .ok (.iconst 5, 1) := by decide +kernel
theorem dX7_lendsOn_45 : decode cX7_lendsOn 45 = .ok (.iadd, 1) := by decide +kernel
theorem dX7_lendsOn_46 : decode cX7_lendsOn 46 = .ok (.iload_n 2, 1) := by decide +kernel
theorem dX7_lendsOn_47 : decode cX7_lendsOn 47 = .ok (.iadd, 1) := by decide +kernel
theorem dX7_lendsOn_48 : decode cX7_lendsOn 48 = .ok (.dup2, 1) := by decide +kernel
theorem dX7_lendsOn_49 : decode cX7_lendsOn 49 = .ok (.iaload, 1) := by decide +kernel
theorem dX7_lendsOn_50 : decode cX7_lendsOn 50 = .ok (.iload 4, 2) := by decide +kernel
theorem dX7_lendsOn_52 : decode cX7_lendsOn 52 = .ok (.isub, 1) := by decide +kernel
theorem dX7_lendsOn_53 : decode cX7_lendsOn 53 = .ok (.iastore, 1) := by decide +kernel
theorem dX7_lendsOn_54 : decode cX7_lendsOn 54 = .ok (.aload_n 0, 1) := by decide +kernel
theorem dX7_lendsOn_55 : decode cX7_lendsOn 55 = .ok (.getfield 7, 3) := by decide +kernel
theorem dX7_lendsOn_58 : decode cX7_lendsOn 58 = .ok (.iload_n 1, 1) := by decide +kernel
theorem dX7_lendsOn_59 : decode cX7_lendsOn 59 = .ok (.iconst 5, 1) := by decide +kernel
theorem dX7_lendsOn_60 : decode cX7_lendsOn 60 = .ok (.iadd, 1) := by decide +kernel
theorem dX7_lendsOn_61 : decode cX7_lendsOn 61 = .ok (.iload_n 3, 1) := by decide +kernel
theorem dX7_lendsOn_62 : decode cX7_lendsOn 62 = .ok (.iadd, 1) := by decide +kernel
theorem dX7_lendsOn_63 : decode cX7_lendsOn 63 = .ok (.dup2, 1) := by decide +kernel
theorem dX7_lendsOn_64 : decode cX7_lendsOn 64 = .ok (.iaload, 1) := by decide +kernel
theorem dX7_lendsOn_65 : decode cX7_lendsOn 65 = .ok (.iload 4, 2) := by decide +kernel
theorem dX7_lendsOn_67 : decode cX7_lendsOn 67 = .ok (.iadd, 1) := by decide +kernel
theorem dX7_lendsOn_68 : decode cX7_lendsOn 68 = .ok (.iastore, 1) := by decide +kernel
theorem dX7_lendsOn_69 : decode cX7_lendsOn 69 = .ok (.aload_n 0, 1) := by decide +kernel
theorem dX7_lendsOn_70 : decode cX7_lendsOn 70 = .ok (.getfield 7, 3) := by decide +kernel
theorem dX7_lendsOn_73 : decode cX7_lendsOn 73 = .ok (.iload_n 1, 1) := by decide +kernel
theorem dX7_lendsOn_74 : decode cX7_lendsOn 74 = .ok (.iconst 5, 1) := by decide +kernel
theorem dX7_lendsOn_75 : decode cX7_lendsOn 75 = .ok (.iadd, 1) := by decide +kernel
theorem dX7_lendsOn_76 : decode cX7_lendsOn 76 = .ok (.iload_n 2, 1) := by decide +kernel
theorem dX7_lendsOn_77 : decode cX7_lendsOn 77 = .ok (.iadd, 1) := by decide +kernel
theorem dX7_lendsOn_78 : decode cX7_lendsOn 78 = .ok (.iaload, 1) := by decide +kernel
theorem dX7_lendsOn_79 : decode cX7_lendsOn 79 = .ok (.ireturn, 1) := by decide +kernel
theorem dX7_lend_0 : decode cX7_lend 0 = .ok (.aload_n 0, 1) := by decide +kernel
theorem dX7_lend_1 : decode cX7_lend 1 = .ok (.iload_n 1, 1) := by decide +kernel
theorem dX7_lend_2 : decode cX7_lend 2 = .ok (.iload_n 2, 1) := by decide +kernel
theorem dX7_lend_3 : decode cX7_lend 3 = .ok (.invokevirtual 170, 3) := by decide +kernel
theorem dX7_lend_6 : decode cX7_lend 6 = .ok (.ifCond .eq 26, 3) := by decide +kernel
theorem dX7_lend_9 : decode cX7_lend 9 = .ok (.iload_n 3, 1) := by decide +kernel
theorem dX7_lend_10 : decode cX7_lend 10 = .ok (.i2l, 1) := by decide +kernel
theorem dX7_lend_11 : decode cX7_lend 11 = .ok (.lconst 0, 1) := by decide +kernel
theorem dX7_lend_12 : decode cX7_lend 12 = .ok (.ldc2_w 180, 3) := by decide +kernel
theorem dX7_lend_15 : decode cX7_lend 15 = .ok (.invokestatic 53, 3) := by decide +kernel
theorem dX7_lend_18 : decode cX7_lend 18 = .ok (.ifCond .eq 14, 3) := by decide +kernel
theorem dX7_lend_21 : decode cX7_lend 21 = .ok (.aload_n 0, 1) := by decide +kernel
theorem dX7_lend_22 : decode cX7_lend 22 = .ok (.iconst 0, 1) := by decide +kernel
theorem dX7_lend_23 : decode cX7_lend 23 = .ok (.iload_n 1, 1) := by decide +kernel
theorem dX7_lend_24 : decode cX7_lend 24 = .ok (.iload_n 2, 1) := by decide +kernel
theorem dX7_lend_25 : decode cX7_lend 25 = .ok (.iload_n 3, 1) := by decide +kernel
theorem dX7_lend_26 : decode cX7_lend 26 = .ok (.invokevirtual 182, 3) := by decide +kernel
theorem dX7_lend_29 : decode cX7_lend 29 = .ok (.goto 4, 3) := by decide +kernel
theorem dX7_lend_32 : decode cX7_lend 32 = .ok (.iconst (-1), 1) := by decide +kernel
theorem dX7_lend_33 : decode cX7_lend 33 = .ok (.ireturn, 1) := by decide +kernel
theorem dX7_books_0 : decode cX7_books 0 = .ok (.aload_n 0, 1) := by decide +kernel
theorem dX7_books_1 : decode cX7_books 1 = .ok (.iload_n 1, 1) := by decide +kernel
theorem dX7_books_2 : decode cX7_books 2 = .ok (.iload_n 2, 1) := by decide +kernel
theorem dX7_books_3 : decode cX7_books 3 = .ok (.invokevirtual 170, 3) := by decide +kernel
theorem dX7_books_6 : decode cX7_books 6 = .ok (.ifCond .ne 5, 3) := by decide +kernel
theorem dX7_books_9 : decode cX7_books 9 = .ok (.iconst (-1), 1) := by decide +kernel
theorem dX7_books_10 : decode cX7_books 10 = .ok (.ireturn, 1) := by decide +kernel
theorem dX7_books_11 : decode cX7_books 11 = .ok (.aload_n 0, 1) := by decide +kernel
theorem dX7_books_12 : decode cX7_books 12 = .ok (.getfield 7, 3) := by decide +kernel
theorem dX7_books_15 : decode cX7_books 15 = .ok (.bipush 40, 2) := by decide +kernel
theorem dX7_books_17 : decode cX7_books 17 = .ok (.iaload, 1) := by decide +kernel
theorem dX7_books_18 : decode cX7_books 18 = .ok (.istore_n 3, 1) := by decide +kernel
theorem dX7_books_19 : decode cX7_books 19 = .ok (.iload_n 3, 1) := by decide +kernel
theorem dX7_books_20 : decode cX7_books 20 = .ok (.bipush 10, 2) := by decide +kernel
theorem dX7_books_22 : decode cX7_books 22 = .ok (.if_icmp .ne 6, 3) := by decide +kernel
theorem dX7_books_25 : decode cX7_books 25 = .ok (.bipush (-3), 2) := by decide +kernel
theorem dX7_books_27 : decode cX7_books 27 = .ok (.ireturn, 1) := by decide +kernel
theorem dX7_books_28 : decode cX7_books 28 = .ok (.aload_n 0, 1) := by decide +kernel
theorem dX7_books_29 : decode cX7_books 29 = .ok (.getfield 7, 3) := by decide +kernel
theorem dX7_books_32 : decode cX7_books 32 = .ok (.bipush 20, 2) := by decide +kernel
theorem dX7_books_34 : decode cX7_books 34 = .ok (.iload_n 3, 1) := by decide +kernel
theorem dX7_books_35 : decode cX7_books 35 = .ok (.iadd, 1) := by decide +kernel
theorem dX7_books_36 : decode cX7_books 36 = .ok (.iload_n 1, 1) := by decide +kernel
theorem dX7_books_37 : decode cX7_books 37 = .ok (.iastore, 1) := by decide +kernel
theorem dX7_books_38 : decode cX7_books 38 = .ok (.aload_n 0, 1) := by decide +kernel
theorem dX7_books_39 : decode cX7_books 39 = .ok (.getfield 7, 3) := by decide +kernel
theorem dX7_books_42 : decode cX7_books 42 = .ok (.bipush 30, 2) := by decide +kernel
theorem dX7_books_44 : decode cX7_books 44 = .ok (.iload_n 3, 1) := by decide +kernel
theorem dX7_books_45 : decode cX7_books 45 = .ok (.iadd, 1) := by decide +kernel
theorem dX7_books_46 : decode cX7_books 46 = .ok (.iload_n 2, 1) := by decide +kernel
theorem dX7_books_47 : decode cX7_books 47 = .ok (.iastore, 1) := by decide +kernel
theorem dX7_books_48 : decode cX7_books 48 = .ok (.aload_n 0, 1) := by decide +kernel
theorem dX7_books_49 : decode cX7_books 49 = .ok (.getfield 7, 3) := by decide +kernel
theorem dX7_books_52 : decode cX7_books 52 = .ok (.bipush 40, 2) := by decide +kernel
theorem dX7_books_54 : decode cX7_books 54 = .ok (.dup2, 1) := by decide +kernel
theorem dX7_books_55 : decode cX7_books 55 = .ok (.iaload, 1) := by decide +kernel
theorem dX7_books_56 : decode cX7_books 56 = .ok (.iconst 1, 1) := by decide +kernel
theorem dX7_books_57 : decode cX7_books 57 = .ok (.iadd, 1) := by decide +kernel
theorem dX7_books_58 : decode cX7_books 58 = .ok (.iastore, 1) := by decide +kernel
theorem dX7_books_59 : decode cX7_books 59 = .ok (.aload_n 0, 1) := by decide +kernel
theorem dX7_books_60 : decode cX7_books 60 = .ok (.getfield 7, 3) := by decide +kernel
theorem dX7_books_63 : decode cX7_books 63 = .ok (.bipush 40, 2) := by decide +kernel
theorem dX7_books_65 : decode cX7_books 65 = .ok (.iaload, 1) := by decide +kernel
theorem dX7_books_66 : decode cX7_books 66 = .ok (.ireturn, 1) := by decide +kernel
theorem dX7_book_0 : decode cX7_book 0 = .ok (.aload_n 0, 1) := by decide +kernel
theorem dX7_book_1 : decode cX7_book 1 = .ok (.iload_n 1, 1) := by decide +kernel
theorem dX7_book_2 : decode cX7_book 2 = .ok (.iload_n 2, 1) := by decide +kernel
theorem dX7_book_3 : decode cX7_book 3 = .ok (.invokevirtual 186, 3) := by decide +kernel
theorem dX7_book_6 : decode cX7_book 6 = .ok (.ireturn, 1) := by decide +kernel
theorem dX7_strike_0 : decode cX7_strike 0 = .ok (.aload_n 0, 1) := by decide +kernel
theorem dX7_strike_1 : decode cX7_strike 1 = .ok (.iload_n 1, 1) := by decide +kernel
theorem dX7_strike_2 : decode cX7_strike 2 = .ok (.i2l, 1) := by decide +kernel
theorem dX7_strike_3 : decode cX7_strike 3 = .ok (.lconst 0, 1) := by decide +kernel
theorem dX7_strike_4 : decode cX7_strike 4 = .ok (.aload_n 0, 1) := by decide +kernel
theorem dX7_strike_5 : decode cX7_strike 5 = .ok (.getfield 7, 3) := by decide +kernel
theorem dX7_strike_8 : decode cX7_strike 8 = .ok (.bipush 40, 2) := by decide +kernel
theorem dX7_strike_10 : decode cX7_strike 10 = .ok (.iaload, 1) := by decide +kernel
theorem dX7_strike_11 : decode cX7_strike 11 = .ok (.i2l, 1) := by decide +kernel
theorem dX7_strike_12 : decode cX7_strike 12 = .ok (.invokestatic 53, 3) := by decide +kernel
theorem dX7_strike_15 : decode cX7_strike 15 = .ok (.bipush 40, 2) := by decide +kernel
theorem dX7_strike_17 : decode cX7_strike 17 = .ok (.iload_n 1, 1) := by decide +kernel
theorem dX7_strike_18 : decode cX7_strike 18 = .ok (.invokevirtual 176, 3) := by decide +kernel
theorem dX7_strike_21 : decode cX7_strike 21 = .ok (.ireturn, 1) := by decide +kernel
theorem dX7_weeks_0 : decode cX7_weeks 0 = .ok (.iload_n 1, 1) := by decide +kernel
theorem dX7_weeks_1 : decode cX7_weeks 1 = .ok (.i2l, 1) := by decide +kernel
theorem dX7_weeks_2 : decode cX7_weeks 2 = .ok (.lconst 0, 1) := by decide +kernel
theorem dX7_weeks_3 : decode cX7_weeks 3 = .ok (.ldc2_w 189, 3) := by decide +kernel
theorem dX7_weeks_6 : decode cX7_weeks 6 = .ok (.invokestatic 53, 3) := by decide +kernel
theorem dX7_weeks_9 : decode cX7_weeks 9 = .ok (.ifCond .ne 5, 3) := by decide +kernel
theorem dX7_weeks_12 : decode cX7_weeks 12 = .ok (.iconst (-1), 1) := by decide +kernel
theorem dX7_weeks_13 : decode cX7_weeks 13 = .ok (.ireturn, 1) := by decide +kernel
theorem dX7_weeks_14 : decode cX7_weeks 14 = .ok (.aload_n 0, 1) := by decide +kernel
theorem dX7_weeks_15 : decode cX7_weeks 15 = .ok (.getfield 7, 3) := by decide +kernel
theorem dX7_weeks_18 : decode cX7_weeks 18 = .ok (.bipush 41, 2) := by decide +kernel
theorem dX7_weeks_20 : decode cX7_weeks 20 = .ok (.iaload, 1) := by decide +kernel
theorem dX7_weeks_21 : decode cX7_weeks 21 = .ok (.iload_n 1, 1) := by decide +kernel
theorem dX7_weeks_22 : decode cX7_weeks 22 = .ok (.iadd, 1) := by decide +kernel
theorem dX7_weeks_23 : decode cX7_weeks 23 = .ok (.sipush 999, 3) := by decide +kernel
theorem dX7_weeks_26 : decode cX7_weeks 26 = .ok (.if_icmp .le 6, 3) := by decide +kernel
theorem dX7_weeks_29 : decode cX7_weeks 29 = .ok (.bipush (-3), 2) := by decide +kernel
theorem dX7_weeks_31 : decode cX7_weeks 31 = .ok (.ireturn, 1) := by decide +kernel
theorem dX7_weeks_32 : decode cX7_weeks 32 = .ok (.aload_n 0, 1) := by decide +kernel
theorem dX7_weeks_33 : decode cX7_weeks 33 = .ok (.iconst 0, 1) := by decide +kernel
theorem dX7_weeks_34 : decode cX7_weeks 34 = .ok (.putfield 148, 3) := by decide +kernel
theorem dX7_weeks_37 : decode cX7_weeks 37 = .ok (.iconst 0, 1) := by decide +kernel
theorem dX7_weeks_38 : decode cX7_weeks 38 = .ok (.istore_n 2, 1) := by decide +kernel
theorem dX7_weeks_39 : decode cX7_weeks 39 = .ok (.iload_n 2, 1) := by decide +kernel
theorem dX7_weeks_40 : decode cX7_weeks 40 = .ok (.iload_n 1, 1) := by decide +kernel
theorem dX7_weeks_41 : decode cX7_weeks 41 = .ok (.if_icmp .ge 15, 3) := by decide +kernel
theorem dX7_weeks_44 : decode cX7_weeks 44 = .ok (.aload_n 0, 1) := by decide +kernel
theorem dX7_weeks_45 : decode cX7_weeks 45 = .ok (.iconst 0, 1) := by decide +kernel
theorem dX7_weeks_46 : decode cX7_weeks 46 = .ok (.iconst 0, 1) := by decide +kernel
theorem dX7_weeks_47 : decode cX7_weeks 47 = .ok (.invokevirtual 191, 3) := by decide +kernel
theorem dX7_weeks_50 : decode cX7_weeks 50 = .ok (.iinc 2 1, 3) := by decide +kernel
theorem dX7_weeks_53 : decode cX7_weeks 53 = .ok (.goto (-14), 3) := by decide +kernel
theorem dX7_weeks_56 : decode cX7_weeks 56 = .ok (.aload_n 0, 1) := by decide +kernel
theorem dX7_weeks_57 : decode cX7_weeks 57 = .ok (.getfield 148, 3) := by decide +kernel
theorem dX7_weeks_60 : decode cX7_weeks 60 = .ok (.ireturn, 1) := by decide +kernel
theorem dX7_copies_0 : decode cX7_copies 0 = .ok (.iconst 0, 1) := by decide +kernel
theorem dX7_copies_1 : decode cX7_copies 1 = .ok (.istore_n 3, 1) := by decide +kernel
theorem dX7_copies_2 : decode cX7_copies 2 = .ok (.iload_n 3, 1) := by decide +kernel
theorem dX7_copies_3 : decode cX7_copies 3 = .ok (.bipush 42, 2) := by decide +kernel
theorem dX7_copies_5 : decode cX7_copies 5 = .ok (.if_icmp .ge 25, 3) := by decide +kernel
theorem dX7_copies_8 : decode cX7_copies 8 = .ok (.aload_n 0, 1) := by decide +kernel
theorem dX7_copies_9 : decode cX7_copies 9 = .ok (.getfield 7, 3) := by decide +kernel
theorem dX7_copies_12 : decode cX7_copies 12 = .ok (.iload_n 2, 1) := by decide +kernel
theorem dX7_copies_13 : decode cX7_copies 13 = .ok (.iload_n 3, 1) := by decide +kernel
theorem dX7_copies_14 : decode cX7_copies 14 = .ok (.iadd, 1) := by decide +kernel
theorem dX7_copies_15 : decode cX7_copies 15 = .ok (.aload_n 0, 1) := by decide +kernel
theorem dX7_copies_16 : decode cX7_copies 16 = .ok (.getfield 7, 3) := by decide +kernel
theorem dX7_copies_19 : decode cX7_copies 19 = .ok (.iload_n 1, 1) := by decide +kernel
theorem dX7_copies_20 : decode cX7_copies 20 = .ok (.iload_n 3, 1) := by decide +kernel
theorem dX7_copies_21 : decode cX7_copies 21 = .ok (.iadd, 1) := by decide +kernel
theorem dX7_copies_22 : decode cX7_copies 22 = .ok (.iaload, 1) := by decide +kernel
theorem dX7_copies_23 : decode cX7_copies 23 = .ok (.iastore, 1) := by decide +kernel
theorem dX7_copies_24 : decode cX7_copies 24 = .ok (.iinc 3 1, 3) := by decide +kernel
theorem dX7_copies_27 : decode cX7_copies 27 = .ok (.goto (-25), 3) := by decide +kernel
theorem dX7_copies_30 : decode cX7_copies 30 = .ok (.return_, 1) := by decide +kernel
theorem dX7_weeksGo_0 : decode cX7_weeksGo 0 = .ok (.aload_n 0, 1) := by decide +kernel
theorem dX7_weeksGo_1 : decode cX7_weeksGo 1 = .ok (.iload_n 1, 1) := by decide +kernel
theorem dX7_weeksGo_2 : decode cX7_weeksGo 2 = .ok (.sipush 168, 3) := by decide +kernel
theorem dX7_weeksGo_5 : decode cX7_weeksGo 5 = .ok (.invokevirtual 195, 3) := by decide +kernel
theorem dX7_weeksGo_8 : decode cX7_weeksGo 8 = .ok (.aload_n 0, 1) := by decide +kernel
theorem dX7_weeksGo_9 : decode cX7_weeksGo 9 = .ok (.iconst 0, 1) := by decide +kernel
theorem dX7_weeksGo_10 : decode cX7_weeksGo 10 = .ok (.putfield 148, 3) := by decide +kernel
theorem dX7_weeksGo_13 : decode cX7_weeksGo 13 = .ok (.aload_n 0, 1) := by decide +kernel
theorem dX7_weeksGo_14 : decode cX7_weeksGo 14 = .ok (.iconst 0, 1) := by decide +kernel
theorem dX7_weeksGo_15 : decode cX7_weeksGo 15 = .ok (.putfield 145, 3) := by decide +kernel
theorem dX7_weeksGo_18 : decode cX7_weeksGo 18 = .ok (.iconst 0, 1) := by decide +kernel
theorem dX7_weeksGo_19 : decode cX7_weeksGo 19 = .ok (.istore_n 3, 1) := by decide +kernel
theorem dX7_weeksGo_20 : decode cX7_weeksGo 20 = .ok (.iload_n 3, 1) := by decide +kernel
theorem dX7_weeksGo_21 : decode cX7_weeksGo 21 = .ok (.iload_n 2, 1) := by decide +kernel
theorem dX7_weeksGo_22 : decode cX7_weeksGo 22 = .ok (.if_icmp .ge 17, 3) := by decide +kernel
theorem dX7_weeksGo_25 : decode cX7_weeksGo 25 = .ok (.aload_n 0, 1) := by decide +kernel
theorem dX7_weeksGo_26 : decode cX7_weeksGo 26 = .ok (.sipush 168, 3) := by decide +kernel
theorem dX7_weeksGo_29 : decode cX7_weeksGo 29 = .ok (.iconst 0, 1) := by decide +kernel
theorem dX7_weeksGo_30 : decode cX7_weeksGo 30 = .ok (.invokevirtual 191, 3) := by decide +kernel
theorem dX7_weeksGo_33 : decode cX7_weeksGo 33 = .ok (.iinc 3 1, 3) := by decide +kernel
theorem dX7_weeksGo_36 : decode cX7_weeksGo 36 = .ok (.goto (-16), 3) := by decide +kernel
theorem dX7_weeksGo_39 : decode cX7_weeksGo 39 = .ok (.aload_n 0, 1) := by decide +kernel
theorem dX7_weeksGo_40 : decode cX7_weeksGo 40 = .ok (.sipush 168, 3) := by decide +kernel
theorem dX7_weeksGo_43 : decode cX7_weeksGo 43 = .ok (.invokevirtual 164, 3) := by decide +kernel
theorem dX7_weeksGo_46 : decode cX7_weeksGo 46 = .ok (.ireturn, 1) := by decide +kernel
theorem dX7_runs_0 : decode cX7_runs 0 = .ok (.iload_n 1, 1) := by decide +kernel
theorem dX7_runs_1 : decode cX7_runs 1 = .ok (.i2l, 1) := by decide +kernel
theorem dX7_runs_2 : decode cX7_runs 2 = .ok (.lconst 0, 1) := by decide +kernel
theorem dX7_runs_3 : decode cX7_runs 3 = .ok (.ldc2_w 199, 3) := by decide +kernel
theorem dX7_runs_6 : decode cX7_runs 6 = .ok (.invokestatic 53, 3) := by decide +kernel
theorem dX7_runs_9 : decode cX7_runs 9 = .ok (.ifCond .eq 15, 3) := by decide +kernel
theorem dX7_runs_12 : decode cX7_runs 12 = .ok (.iload_n 2, 1) := by decide +kernel
theorem dX7_runs_13 : decode cX7_runs 13 = .ok (.i2l, 1) := by decide +kernel
theorem dX7_runs_14 : decode cX7_runs 14 = .ok (.lconst 0, 1) := by decide +kernel
theorem dX7_runs_15 : decode cX7_runs 15 = .ok (.ldc2_w 174, 3) := by decide +kernel
theorem dX7_runs_18 : decode cX7_runs 18 = .ok (.invokestatic 53, 3) := by decide +kernel
theorem dX7_runs_21 : decode cX7_runs 21 = .ok (.ifCond .ne 5, 3) := by decide +kernel
theorem dX7_runs_24 : decode cX7_runs 24 = .ok (.iconst (-1), 1) := by decide +kernel
theorem dX7_runs_25 : decode cX7_runs 25 = .ok (.ireturn, 1) := by decide +kernel
theorem dX7_runs_26 : decode cX7_runs 26 = .ok (.aload_n 0, 1) := by decide +kernel
theorem dX7_runs_27 : decode cX7_runs 27 = .ok (.iconst 0, 1) := by decide +kernel
theorem dX7_runs_28 : decode cX7_runs 28 = .ok (.iload_n 1, 1) := by decide +kernel
theorem dX7_runs_29 : decode cX7_runs 29 = .ok (.invokevirtual 201, 3) := by decide +kernel
theorem dX7_runs_32 : decode cX7_runs 32 = .ok (.istore_n 3, 1) := by decide +kernel
theorem dX7_runs_33 : decode cX7_runs 33 = .ok (.iload_n 2, 1) := by decide +kernel
theorem dX7_runs_34 : decode cX7_runs 34 = .ok (.ifCond .ne 10, 3) := by decide +kernel
theorem dX7_runs_37 : decode cX7_runs 37 = .ok (.aload_n 0, 1) := by decide +kernel
theorem dX7_runs_38 : decode cX7_runs 38 = .ok (.getfield 148, 3) := by decide +kernel
theorem dX7_runs_41 : decode cX7_runs 41 = .ok (.goto 31, 3) := by decide +kernel
theorem dX7_runs_44 : decode cX7_runs 44 = .ok (.iload_n 2, 1) := by decide +kernel
theorem dX7_runs_45 : decode cX7_runs 45 = .ok (.iconst 1, 1) := by decide +kernel
theorem dX7_runs_46 : decode cX7_runs 46 = .ok (.if_icmp .ne 10, 3) := by decide +kernel
theorem dX7_runs_49 : decode cX7_runs 49 = .ok (.aload_n 0, 1) := by decide +kernel
theorem dX7_runs_50 : decode cX7_runs 50 = .ok (.getfield 145, 3) := by decide +kernel
