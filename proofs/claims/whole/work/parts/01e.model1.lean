theorem dX2_init_0 : decode cX2_init 0 = .ok (.aload_n 0, 1) := by decide +kernel
theorem dX2_init_1 : decode cX2_init 1 = .ok (.invokespecial 1, 3) := by decide +kernel
theorem dX2_init_4 : decode cX2_init 4 = .ok (.aload_n 0, 1) := by decide +kernel
theorem dX2_init_5 : decode cX2_init 5 = .ok (.bipush 110, 2) := by decide +kernel
theorem dX2_init_7 : decode cX2_init 7 = .ok (.newarray .int, 2) := by decide +kernel
theorem dX2_init_9 : decode cX2_init 9 = .ok (.putfield 7, 3) := by decide +kernel
theorem dX2_init_12 : decode cX2_init 12 = .ok (.aload_n 0, 1) := by decide +kernel
theorem dX2_init_13 : decode cX2_init 13 = .ok (.bipush 110, 2) := by decide +kernel
theorem dX2_init_15 : decode cX2_init 15 = .ok (.newarray .int, 2) := by decide +kernel
theorem dX2_init_17 : decode cX2_init 17 = .ok (.putfield 13, 3) := by decide +kernel
theorem dX2_init_20 : decode cX2_init 20 = .ok (.aload_n 0, 1) := by decide +kernel
theorem dX2_init_21 : decode cX2_init 21 = .ok (.bipush 110, 2) := by decide +kernel
theorem dX2_init_23 : decode cX2_init 23 = .ok (.newarray .int, 2) := by decide +kernel
theorem dX2_init_25 : decode cX2_init 25 = .ok (.putfield 16, 3) := by decide +kernel
theorem dX2_init_28 : decode cX2_init 28 = .ok (.aload_n 0, 1) := by decide +kernel
theorem dX2_init_29 : decode cX2_init 29 = .ok (.sipush 1100, 3) := by decide +kernel
theorem dX2_init_32 : decode cX2_init 32 = .ok (.newarray .long, 2) := by decide +kernel
theorem dX2_init_34 : decode cX2_init 34 = .ok (.putfield 19, 3) := by decide +kernel
theorem dX2_init_37 : decode cX2_init 37 = .ok (.aload_n 0, 1) := by decide +kernel
theorem dX2_init_38 : decode cX2_init 38 = .ok (.sipush 1100, 3) := by decide +kernel
theorem dX2_init_41 : decode cX2_init 41 = .ok (.newarray .int, 2) := by decide +kernel
theorem dX2_init_43 : decode cX2_init 43 = .ok (.putfield 23, 3) := by decide +kernel
theorem dX2_init_46 : decode cX2_init 46 = .ok (.aload_n 0, 1) := by decide +kernel
theorem dX2_init_47 : decode cX2_init 47 = .ok (.bipush 19, 2) := by decide +kernel
theorem dX2_init_49 : decode cX2_init 49 = .ok (.newarray .int, 2) := by decide +kernel
theorem dX2_init_51 : decode cX2_init 51 = .ok (.dup, 1) := by decide +kernel
theorem dX2_init_52 : decode cX2_init 52 = .ok (.iconst 0, 1) := by decide +kernel
theorem dX2_init_53 : decode cX2_init 53 = .ok (.iconst 1, 1) := by decide +kernel
theorem dX2_init_54 : decode cX2_init 54 = .ok (.iastore, 1) := by decide +kernel
theorem dX2_init_55 : decode cX2_init 55 = .ok (.dup, 1) := by decide +kernel
theorem dX2_init_56 : decode cX2_init 56 = .ok (.iconst 1, 1) := by decide +kernel
theorem dX2_init_57 : decode cX2_init 57 = .ok (.iconst 3, 1) := by decide +kernel
theorem dX2_init_58 : decode cX2_init 58 = .ok (.iastore, 1) := by decide +kernel
theorem dX2_init_59 : decode cX2_init 59 = .ok (.dup, 1) := by decide +kernel
theorem dX2_init_60 : decode cX2_init 60 = .ok (.iconst 2, 1) := by decide +kernel
theorem dX2_init_61 : decode cX2_init 61 = .ok (.ldc 26, 2) := by decide +kernel
theorem dX2_init_63 : decode cX2_init 63 = .ok (.iastore, 1) := by decide +kernel
theorem dX2_init_64 : decode cX2_init 64 = .ok (.dup, 1) := by decide +kernel
theorem dX2_init_65 : decode cX2_init 65 = .ok (.iconst 3, 1) := by decide +kernel
theorem dX2_init_66 : decode cX2_init 66 = .ok (.bipush 9, 2) := by decide +kernel
theorem dX2_init_68 : decode cX2_init 68 = .ok (.iastore, 1) := by decide +kernel
theorem dX2_init_69 : decode cX2_init 69 = .ok (.dup, 1) := by decide +kernel
theorem dX2_init_70 : decode cX2_init 70 = .ok (.iconst 4, 1) := by decide +kernel
theorem dX2_init_71 : decode cX2_init 71 = .ok (.ldc 27, 2) := by decide +kernel
theorem dX2_init_73 : decode cX2_init 73 = .ok (.iastore, 1) := by decide +kernel
theorem dX2_init_74 : decode cX2_init 74 = .ok (.dup, 1) := by decide +kernel
theorem dX2_init_75 : decode cX2_init 75 = .ok (.iconst 5, 1) := by decide +kernel
theorem dX2_init_76 : decode cX2_init 76 = .ok (.bipush 32, 2) := by decide +kernel
theorem dX2_init_78 : decode cX2_init 78 = .ok (.iastore, 1) := by decide +kernel
theorem dX2_init_79 : decode cX2_init 79 = .ok (.dup, 1) := by decide +kernel
theorem dX2_init_80 : decode cX2_init 80 = .ok (.bipush 6, 2) := by decide +kernel
theorem dX2_init_82 : decode cX2_init 82 = .ok (.bipush 64, 2) := by decide +kernel
theorem dX2_init_84 : decode cX2_init 84 = .ok (.iastore, 1) := by decide +kernel
theorem dX2_init_85 : decode cX2_init 85 = .ok (.dup, 1) := by decide +kernel
theorem dX2_init_86 : decode cX2_init 86 = .ok (.bipush 7, 2) := by decide +kernel
theorem dX2_init_88 : decode cX2_init 88 = .ok (.sipush 128, 3) := by decide +kernel
theorem dX2_init_91 : decode cX2_init 91 = .ok (.iastore, 1) := by decide +kernel
theorem dX2_init_92 : decode cX2_init 92 = .ok (.dup, 1) := by decide +kernel
theorem dX2_init_93 : decode cX2_init 93 = .ok (.bipush 8, 2) := by decide +kernel
theorem dX2_init_95 : decode cX2_init 95 = .ok (.sipush 256, 3) := by decide +kernel
theorem dX2_init_98 : decode cX2_init 98 = .ok (.iastore, 1) := by decide +kernel
theorem dX2_init_99 : decode cX2_init 99 = .ok (.dup, 1) := by decide +kernel
theorem dX2_init_100 : decode cX2_init 100 = .ok (.bipush 9, 2) := by decide +kernel
theorem dX2_init_102 : decode cX2_init 102 = .ok (.sipush 512, 3) := by decide +kernel
theorem dX2_init_105 : decode cX2_init 105 = .ok (.iastore, 1) := by decide +kernel
theorem dX2_init_106 : decode cX2_init 106 = .ok (.dup, 1) := by decide +kernel
theorem dX2_init_107 : decode cX2_init 107 = .ok (.bipush 10, 2) := by decide +kernel
theorem dX2_init_109 : decode cX2_init 109 = .ok (.sipush 1024, 3) := by decide +kernel
theorem dX2_init_112 : decode cX2_init 112 = .ok (.iastore, 1) := by decide +kernel
theorem dX2_init_113 : decode cX2_init 113 = .ok (.dup, 1) := by decide +kernel
theorem dX2_init_114 : decode cX2_init 114 = .ok (.bipush 11, 2) := by decide +kernel
theorem dX2_init_116 : decode cX2_init 116 = .ok (.sipush 3072, 3) := by decide +kernel
theorem dX2_init_119 : decode cX2_init 119 = .ok (.iastore, 1) := by decide +kernel
theorem dX2_init_120 : decode cX2_init 120 = .ok (.dup, 1) := by decide +kernel
theorem dX2_init_121 : decode cX2_init 121 = .ok (.bipush 12, 2) := by decide +kernel
theorem dX2_init_123 : decode cX2_init 123 = .ok (.sipush 23552, 3) := by decide +kernel
theorem dX2_init_126 : decode cX2_init 126 = .ok (.iastore, 1) := by decide +kernel
theorem dX2_init_127 : decode cX2_init 127 = .ok (.dup, 1) := by decide +kernel
theorem dX2_init_128 : decode cX2_init 128 = .ok (.bipush 13, 2) := by decide +kernel
theorem dX2_init_130 : decode cX2_init 130 = .ok (.sipush 9216, 3) := by decide +kernel
theorem dX2_init_133 : decode cX2_init 133 = .ok (.iastore, 1) := by decide +kernel
theorem dX2_init_134 : decode cX2_init 134 = .ok (.dup, 1) := by decide +kernel
theorem dX2_init_135 : decode cX2_init 135 = .ok (.bipush 14, 2) := by decide +kernel
theorem dX2_init_137 : decode cX2_init 137 = .ok (.sipush 16384, 3) := by decide +kernel
theorem dX2_init_140 : decode cX2_init 140 = .ok (.iastore, 1) := by decide +kernel
theorem dX2_init_141 : decode cX2_init 141 = .ok (.dup, 1) := by decide +kernel
theorem dX2_init_142 : decode cX2_init 142 = .ok (.bipush 15, 2) := by decide +kernel
theorem dX2_init_144 : decode cX2_init 144 = .ok (.ldc 28, 2) := by decide +kernel
theorem dX2_init_146 : decode cX2_init 146 = .ok (.iastore, 1) := by decide +kernel
theorem dX2_init_147 : decode cX2_init 147 = .ok (.dup, 1) := by decide +kernel
theorem dX2_init_148 : decode cX2_init 148 = .ok (.bipush 16, 2) := by decide +kernel
theorem dX2_init_150 : decode cX2_init 150 = .ok (.ldc 29, 2) := by decide +kernel
theorem dX2_init_152 : decode cX2_init 152 = .ok (.iastore, 1) := by decide +kernel
theorem dX2_init_153 : decode cX2_init 153 = .ok (.dup, 1) := by decide +kernel
theorem dX2_init_154 : decode cX2_init 154 = .ok (.bipush 17, 2) := by decide +kernel
theorem dX2_init_156 : decode cX2_init 156 = .ok (.ldc 30, 2) := by decide +kernel
theorem dX2_init_158 : decode cX2_init 158 = .ok (.iastore, 1) := by decide +kernel
theorem dX2_init_159 : decode cX2_init 159 = .ok (.dup, 1) := by decide +kernel
theorem dX2_init_160 : decode cX2_init 160 = .ok (.bipush 18, 2) := by decide +kernel
theorem dX2_init_162 : decode cX2_init 162 = .ok (.ldc 31, 2) := by decide +kernel
theorem dX2_init_164 : decode cX2_init 164 = .ok (.iastore, 1) := by decide +kernel
theorem dX2_init_165 : decode cX2_init 165 = .ok (.putfield 32, 3) := by decide +kernel
theorem dX2_init_168 : decode cX2_init 168 = .ok (.aload_n 0, 1) := by decide +kernel
theorem dX2_init_169 : decode cX2_init 169 = .ok (.bipush 18, 2) := by decide +kernel
theorem dX2_init_171 : decode cX2_init 171 = .ok (.newarray .int, 2) := by decide +kernel
theorem dX2_init_173 : decode cX2_init 173 = .ok (.dup, 1) := by decide +kernel
theorem dX2_init_174 : decode cX2_init 174 = .ok (.iconst 0, 1) := by decide +kernel
theorem dX2_init_175 : decode cX2_init 175 = .ok (.iconst 0, 1) := by decide +kernel
theorem dX2_init_176 : decode cX2_init 176 = .ok (.iastore, 1) := by decide +kernel
theorem dX2_init_177 : decode cX2_init 177 = .ok (.dup, 1) := by decide +kernel
theorem dX2_init_178 : decode cX2_init 178 = .ok (.iconst 1, 1) := by decide +kernel
theorem dX2_init_179 : decode cX2_init 179 = .ok (.iconst 0, 1) := by decide +kernel
theorem dX2_init_180 : decode cX2_init 180 = .ok (.iastore, 1) := by decide +kernel
theorem dX2_init_181 : decode cX2_init 181 = .ok (.dup, 1) := by decide +kernel
theorem dX2_init_182 : decode cX2_init 182 = .ok (.iconst 2, 1) := by decide +kernel
theorem dX2_init_183 : decode cX2_init 183 = .ok (.iconst 0, 1) := by decide +kernel
theorem dX2_init_184 : decode cX2_init 184 = .ok (.iastore, 1) := by decide +kernel
theorem dX2_init_185 : decode cX2_init 185 = .ok (.dup, 1) := by decide +kernel
theorem dX2_init_186 : decode cX2_init 186 = .ok (.iconst 3, 1) := by decide +kernel
theorem dX2_init_187 : decode cX2_init 187 = .ok (.iconst 0, 1) := by decide +kernel
theorem dX2_init_188 : decode cX2_init 188 = .ok (.iastore, 1) := by decide +kernel
theorem dX2_init_189 : decode cX2_init 189 = .ok (.dup, 1) := by decide +kernel
theorem dX2_init_190 : decode cX2_init 190 = .ok (.iconst 4, 1) := by decide +kernel
theorem dX2_init_191 : decode cX2_init 191 = .ok (.iconst 0, 1) := by decide +kernel
theorem dX2_init_192 : decode cX2_init 192 = .ok (.iastore, 1) := by decide +kernel
theorem dX2_init_193 : decode cX2_init 193 = .ok (.dup, 1) := by decide +kernel
theorem dX2_init_194 : decode cX2_init 194 = .ok (.iconst 5, 1) := by decide +kernel
theorem dX2_init_195 : decode cX2_init 195 = .ok (.iconst 0, 1) := by decide +kernel
theorem dX2_init_196 : decode cX2_init 196 = .ok (.iastore, 1) := by decide +kernel
theorem dX2_init_197 : decode cX2_init 197 = .ok (.dup, 1) := by decide +kernel
theorem dX2_init_198 : decode cX2_init 198 = .ok (.bipush 6, 2) := by decide +kernel
theorem dX2_init_200 : decode cX2_init 200 = .ok (.iconst 0, 1) := by decide +kernel
theorem dX2_init_201 : decode cX2_init 201 = .ok (.iastore, 1) := by decide +kernel
theorem dX2_init_202 : decode cX2_init 202 = .ok (.dup, 1) := by decide +kernel
theorem dX2_init_203 : decode cX2_init 203 = .ok (.bipush 7, 2) := by decide +kernel
theorem dX2_init_205 : decode cX2_init 205 = .ok (.iconst 0, 1) := by decide +kernel
theorem dX2_init_206 : decode cX2_init 206 = .ok (.iastore, 1) := by decide +kernel
theorem dX2_init_207 : decode cX2_init 207 = .ok (.dup, 1) := by decide +kernel
theorem dX2_init_208 : decode cX2_init 208 = .ok (.bipush 8, 2) := by decide +kernel
theorem dX2_init_210 : decode cX2_init 210 = .ok (.iconst 0, 1) := by decide +kernel
theorem dX2_init_211 : decode cX2_init 211 = .ok (.iastore, 1) := by decide +kernel
theorem dX2_init_212 : decode cX2_init 212 = .ok (.dup, 1) := by decide +kernel
theorem dX2_init_213 : decode cX2_init 213 = .ok (.bipush 9, 2) := by decide +kernel
theorem dX2_init_215 : decode cX2_init 215 = .ok (.bipush 6, 2) := by decide +kernel
theorem dX2_init_217 : decode cX2_init 217 = .ok (.iastore, 1) := by decide +kernel
theorem dX2_init_218 : decode cX2_init 218 = .ok (.dup, 1) := by decide +kernel
theorem dX2_init_219 : decode cX2_init 219 = .ok (.bipush 10, 2) := by decide +kernel
theorem dX2_init_221 : decode cX2_init 221 = .ok (.iconst 0, 1) := by decide +kernel
theorem dX2_init_222 : decode cX2_init 222 = .ok (.iastore, 1) := by decide +kernel
theorem dX2_init_223 : decode cX2_init 223 = .ok (.dup, 1) := by decide +kernel
theorem dX2_init_224 : decode cX2_init 224 = .ok (.bipush 11, 2) := by decide +kernel
theorem dX2_init_226 : decode cX2_init 226 = .ok (.iconst 1, 1) := by decide +kernel
theorem dX2_init_227 : decode cX2_init 227 = .ok (.iastore, 1) := by decide +kernel
theorem dX2_init_228 : decode cX2_init 228 = .ok (.dup, 1) := by decide +kernel
theorem dX2_init_229 : decode cX2_init 229 = .ok (.bipush 12, 2) := by decide +kernel
theorem dX2_init_231 : decode cX2_init 231 = .ok (.iconst 2, 1) := by decide +kernel
theorem dX2_init_232 : decode cX2_init 232 = .ok (.iastore, 1) := by decide +kernel
theorem dX2_init_233 : decode cX2_init 233 = .ok (.dup, 1) := by decide +kernel
theorem dX2_init_234 : decode cX2_init 234 = .ok (.bipush 13, 2) := by decide +kernel
theorem dX2_init_236 : decode cX2_init 236 = .ok (.iconst 3, 1) := by decide +kernel
theorem dX2_init_237 : decode cX2_init 237 = .ok (.iastore, 1) := by decide +kernel
theorem dX2_init_238 : decode cX2_init 238 = .ok (.dup, 1) := by decide +kernel
theorem dX2_init_239 : decode cX2_init 239 = .ok (.bipush 14, 2) := by decide +kernel
theorem dX2_init_241 : decode cX2_init 241 = .ok (.bipush 19, 2) := by decide +kernel
theorem dX2_init_243 : decode cX2_init 243 = .ok (.iastore, 1) := by decide +kernel
theorem dX2_init_244 : decode cX2_init 244 = .ok (.dup, 1) := by decide +kernel
theorem dX2_init_245 : decode cX2_init 245 = .ok (.bipush 15, 2) := by decide +kernel
theorem dX2_init_247 : decode cX2_init 247 = .ok (.bipush 11, 2) := by decide +kernel
theorem dX2_init_249 : decode cX2_init 249 = .ok (.iastore, 1) := by decide +kernel
theorem dX2_init_250 : decode cX2_init 250 = .ok (.dup, 1) := by decide +kernel
theorem dX2_init_251 : decode cX2_init 251 = .ok (.bipush 16, 2) := by decide +kernel
theorem dX2_init_253 : decode cX2_init 253 = .ok (.bipush 14, 2) := by decide +kernel
theorem dX2_init_255 : decode cX2_init 255 = .ok (.iastore, 1) := by decide +kernel
theorem dX2_init_256 : decode cX2_init 256 = .ok (.dup, 1) := by decide +kernel
theorem dX2_init_257 : decode cX2_init 257 = .ok (.bipush 17, 2) := by decide +kernel
theorem dX2_init_259 : decode cX2_init 259 = .ok (.bipush 15, 2) := by decide +kernel
theorem dX2_init_261 : decode cX2_init 261 = .ok (.iastore, 1) := by decide +kernel
theorem dX2_init_262 : decode cX2_init 262 = .ok (.putfield 35, 3) := by decide +kernel
theorem dX2_init_265 : decode cX2_init 265 = .ok (.aload_n 0, 1) := by decide +kernel
theorem dX2_init_266 : decode cX2_init 266 = .ok (.bipush 8, 2) := by decide +kernel
theorem dX2_init_268 : decode cX2_init 268 = .ok (.newarray .int, 2) := by decide +kernel
theorem dX2_init_270 : decode cX2_init 270 = .ok (.putfield 38, 3) := by decide +kernel
theorem dX2_init_273 : decode cX2_init 273 = .ok (.aload_n 0, 1) := by decide +kernel
theorem dX2_init_274 : decode cX2_init 274 = .ok (.bipush 8, 2) := by decide +kernel
theorem dX2_init_276 : decode cX2_init 276 = .ok (.newarray .int, 2) := by decide +kernel
theorem dX2_init_278 : decode cX2_init 278 = .ok (.putfield 41, 3) := by decide +kernel
theorem dX2_init_281 : decode cX2_init 281 = .ok (.aload_n 0, 1) := by decide +kernel
theorem dX2_init_282 : decode cX2_init 282 = .ok (.bipush 8, 2) := by decide +kernel
theorem dX2_init_284 : decode cX2_init 284 = .ok (.newarray .int, 2) := by decide +kernel
theorem dX2_init_286 : decode cX2_init 286 = .ok (.putfield 44, 3) := by decide +kernel
theorem dX2_init_289 : decode cX2_init 289 = .ok (.aload_n 0, 1) := by decide +kernel
theorem dX2_init_290 : decode cX2_init 290 = .ok (.bipush 64, 2) := by decide +kernel
theorem dX2_init_292 : decode cX2_init 292 = .ok (.newarray .int, 2) := by decide +kernel
theorem dX2_init_294 : decode cX2_init 294 = .ok (.putfield 47, 3) := by decide +kernel
theorem dX2_init_297 : decode cX2_init 297 = .ok (.aload_n 0, 1) := by decide +kernel
theorem dX2_init_298 : decode cX2_init 298 = .ok (.bipush 64, 2) := by decide +kernel
theorem dX2_init_300 : decode cX2_init 300 = .ok (.newarray .int, 2) := by decide +kernel
theorem dX2_init_302 : decode cX2_init 302 = .ok (.putfield 50, 3) := by decide +kernel
theorem dX2_init_305 : decode cX2_init 305 = .ok (.aload_n 0, 1) := by decide +kernel
theorem dX2_init_306 : decode cX2_init 306 = .ok (.bipush 64, 2) := by decide +kernel
theorem dX2_init_308 : decode cX2_init 308 = .ok (.newarray .int, 2) := by decide +kernel
theorem dX2_init_310 : decode cX2_init 310 = .ok (.putfield 53, 3) := by decide +kernel
theorem dX2_init_313 : decode cX2_init 313 = .ok (.aload_n 0, 1) := by decide +kernel
theorem dX2_init_314 : decode cX2_init 314 = .ok (.bipush 6, 2) := by decide +kernel
theorem dX2_init_316 : decode cX2_init 316 = .ok (.newarray .int, 2) := by decide +kernel
theorem dX2_init_318 : decode cX2_init 318 = .ok (.putfield 56, 3) := by decide +kernel
theorem dX2_init_321 : decode cX2_init 321 = .ok (.return_, 1) := by decide +kernel
theorem dX2_thrown_0 : decode cX2_thrown 0 = .ok (.aload_n 0, 1) := by decide +kernel
theorem dX2_thrown_1 : decode cX2_thrown 1 = .ok (.getfield 59, 3) := by decide +kernel
theorem dX2_thrown_4 : decode cX2_thrown 4 = .ok (.ireturn, 1) := by decide +kernel
theorem dX2_in_0 : decode cX2_in 0 = .ok (.lload_n 0, 1) := by decide +kernel
theorem dX2_in_1 : decode cX2_in 1 = .ok (.lload_n 2, 1) := by decide +kernel
theorem dX2_in_2 : decode cX2_in 2 = .ok (.lcmp, 1) := by decide +kernel
theorem dX2_in_3 : decode cX2_in 3 = .ok (.ifCond .lt 14, 3) := by decide +kernel
theorem dX2_in_6 : decode cX2_in 6 = .ok (.lload_n 0, 1) := by decide +kernel
theorem dX2_in_7 : decode cX2_in 7 = .ok (.lload 4, 2) := by decide +kernel
theorem dX2_in_9 : decode cX2_in 9 = .ok (.lcmp, 1) := by decide +kernel
theorem dX2_in_10 : decode cX2_in 10 = .ok (.ifCond .gt 7, 3) := by decide +kernel
theorem dX2_in_13 : decode cX2_in 13 = .ok (.iconst 1, 1) := by decide +kernel
theorem dX2_in_14 : decode cX2_in 14 = .ok (.goto 4, 3) := by decide +kernel
theorem dX2_in_17 : decode cX2_in 17 = .ok (.iconst 0, 1) := by decide +kernel
theorem dX2_in_18 : decode cX2_in 18 = .ok (.ireturn, 1) := by decide +kernel
set_option maxRecDepth 20000 in
theorem ggX2_isThing_X2_in : GoodIn wsX2_isThing wsX2_in := goodIn_r _ [5] (by decide +kernel) (by decide +kernel)
set_option maxRecDepth 20000 in
theorem gX2_isThing_X2_in : GoodIn wsX2_isThing (va_wsS RX2 66 yX2_in wsX2_in) := goodIn_app (goodIn_of _ (by decide +kernel)) ggX2_isThing_X2_in
theorem dX2_isThing_0 : decode cX2_isThing 0 = .ok (.iload_n 1, 1) := by decide +kernel
theorem dX2_isThing_1 : decode cX2_isThing 1 = .ok (.i2l, 1) := by decide +kernel
theorem dX2_isThing_2 : decode cX2_isThing 2 = .ok (.lconst 0, 1) := by decide +kernel
theorem dX2_isThing_3 : decode cX2_isThing 3 = .ok (.aload_n 0, 1) := by decide +kernel
theorem dX2_isThing_4 : decode cX2_isThing 4 = .ok (.getfield 63, 3) := by decide +kernel
theorem dX2_isThing_7 : decode cX2_isThing 7 = .ok (.iconst 1, 1) := by decide +kernel
theorem dX2_isThing_8 : decode cX2_isThing 8 = .ok (.isub, 1) := by decide +kernel
theorem dX2_isThing_9 : decode cX2_isThing 9 = .ok (.i2l, 1) := by decide +kernel
theorem dX2_isThing_10 : decode cX2_isThing 10 = .ok (.invokestatic 66, 3) := by decide +kernel
theorem dX2_isThing_13 : decode cX2_isThing 13 = .ok (.ireturn, 1) := by decide +kernel
set_option maxRecDepth 20000 in
theorem ggX2_isCase_X2_isThing : GoodIn wsX2_isCase wsX2_isThing := goodIn_r _ [6, 7, 8, 9, 5, 10, 11, 12, 13, 14, 15, 16, 17, 18, 19, 20, 21, 22, 23, 24, 25, 26, 27] (by decide +kernel) (by decide +kernel)
set_option maxRecDepth 20000 in
theorem gX2_isCase_X2_isThing : GoodIn wsX2_isCase (wsV RX2 70 RX2 yX2_isThing wsX2_isThing) := goodIn_app (goodIn_of _ (by decide +kernel)) ggX2_isCase_X2_isThing
theorem dX2_isCase_0 : decode cX2_isCase 0 = .ok (.aload_n 0, 1) := by decide +kernel
theorem dX2_isCase_1 : decode cX2_isCase 1 = .ok (.iload_n 1, 1) := by decide +kernel
theorem dX2_isCase_2 : decode cX2_isCase 2 = .ok (.invokevirtual 70, 3) := by decide +kernel
theorem dX2_isCase_5 : decode cX2_isCase 5 = .ok (.ifCond .eq 18, 3) := by decide +kernel
theorem dX2_isCase_8 : decode cX2_isCase 8 = .ok (.aload_n 0, 1) := by decide +kernel
theorem dX2_isCase_9 : decode cX2_isCase 9 = .ok (.getfield 7, 3) := by decide +kernel
theorem dX2_isCase_12 : decode cX2_isCase 12 = .ok (.iload_n 1, 1) := by decide +kernel
theorem dX2_isCase_13 : decode cX2_isCase 13 = .ok (.iaload, 1) := by decide +kernel
theorem dX2_isCase_14 : decode cX2_isCase 14 = .ok (.bipush 18, 2) := by decide +kernel
theorem dX2_isCase_16 : decode cX2_isCase 16 = .ok (.if_icmp .ne 7, 3) := by decide +kernel
theorem dX2_isCase_19 : decode cX2_isCase 19 = .ok (.iconst 1, 1) := by decide +kernel
theorem dX2_isCase_20 : decode cX2_isCase 20 = .ok (.goto 4, 3) := by decide +kernel
theorem dX2_isCase_23 : decode cX2_isCase 23 = .ok (.iconst 0, 1) := by decide +kernel
theorem dX2_isCase_24 : decode cX2_isCase 24 = .ok (.ireturn, 1) := by decide +kernel
set_option maxRecDepth 20000 in
theorem ggX2_isLoan_X2_in : GoodIn wsX2_isLoan wsX2_in := goodIn_r _ [5] (by decide +kernel) (by decide +kernel)
set_option maxRecDepth 20000 in
theorem gX2_isLoan_X2_in : GoodIn wsX2_isLoan (va_wsS RX2 66 yX2_in wsX2_in) := goodIn_app (goodIn_of _ (by decide +kernel)) ggX2_isLoan_X2_in
theorem dX2_isLoan_0 : decode cX2_isLoan 0 = .ok (.iload_n 1, 1) := by decide +kernel
theorem dX2_isLoan_1 : decode cX2_isLoan 1 = .ok (.i2l, 1) := by decide +kernel
theorem dX2_isLoan_2 : decode cX2_isLoan 2 = .ok (.lconst 0, 1) := by decide +kernel
theorem dX2_isLoan_3 : decode cX2_isLoan 3 = .ok (.aload_n 0, 1) := by decide +kernel
theorem dX2_isLoan_4 : decode cX2_isLoan 4 = .ok (.getfield 74, 3) := by decide +kernel
theorem dX2_isLoan_7 : decode cX2_isLoan 7 = .ok (.iconst 1, 1) := by decide +kernel
theorem dX2_isLoan_8 : decode cX2_isLoan 8 = .ok (.isub, 1) := by decide +kernel
theorem dX2_isLoan_9 : decode cX2_isLoan 9 = .ok (.i2l, 1) := by decide +kernel
theorem dX2_isLoan_10 : decode cX2_isLoan 10 = .ok (.invokestatic 66, 3) := by decide +kernel
theorem dX2_isLoan_13 : decode cX2_isLoan 13 = .ok (.ireturn, 1) := by decide +kernel
theorem dX2_isOf_0 : decode cX2_isOf 0 = .ok (.iload_n 2, 1) := by decide +kernel
theorem dX2_isOf_1 : decode cX2_isOf 1 = .ok (.bipush 20, 2) := by decide +kernel
theorem dX2_isOf_3 : decode cX2_isOf 3 = .ok (.if_icmp .eq 22, 3) := by decide +kernel
theorem dX2_isOf_6 : decode cX2_isOf 6 = .ok (.aload_n 0, 1) := by decide +kernel
theorem dX2_isOf_7 : decode cX2_isOf 7 = .ok (.getfield 32, 3) := by decide +kernel
theorem dX2_isOf_10 : decode cX2_isOf 10 = .ok (.aload_n 0, 1) := by decide +kernel
theorem dX2_isOf_11 : decode cX2_isOf 11 = .ok (.getfield 7, 3) := by decide +kernel
theorem dX2_isOf_14 : decode cX2_isOf 14 = .ok (.iload_n 1, 1) := by decide +kernel
theorem dX2_isOf_15 : decode cX2_isOf 15 = .ok (.iaload, 1) := by decide +kernel
theorem dX2_isOf_16 : decode cX2_isOf 16 = .ok (.iaload, 1) := by decide +kernel
theorem dX2_isOf_17 : decode cX2_isOf 17 = .ok (.iload_n 2, 1) := by decide +kernel
theorem dX2_isOf_18 : decode cX2_isOf 18 = .ok (.ishr, 1) := by decide +kernel
theorem dX2_isOf_19 : decode cX2_isOf 19 = .ok (.iconst 1, 1) := by decide +kernel
theorem dX2_isOf_20 : decode cX2_isOf 20 = .ok (.iand, 1) := by decide +kernel
theorem dX2_isOf_21 : decode cX2_isOf 21 = .ok (.iconst 1, 1) := by decide +kernel
theorem dX2_isOf_22 : decode cX2_isOf 22 = .ok (.if_icmp .ne 7, 3) := by decide +kernel
theorem dX2_isOf_25 : decode cX2_isOf 25 = .ok (.iconst 1, 1) := by decide +kernel
theorem dX2_isOf_26 : decode cX2_isOf 26 = .ok (.goto 4, 3) := by decide +kernel
theorem dX2_isOf_29 : decode cX2_isOf 29 = .ok (.iconst 0, 1) := by decide +kernel
theorem dX2_isOf_30 : decode cX2_isOf 30 = .ok (.ireturn, 1) := by decide +kernel
theorem dX2_found_0 : decode cX2_found 0 = .ok (.aload_n 0, 1) := by decide +kernel
theorem dX2_found_1 : decode cX2_found 1 = .ok (.getfield 56, 3) := by decide +kernel
theorem dX2_found_4 : decode cX2_found 4 = .ok (.iload_n 1, 1) := by decide +kernel
theorem dX2_found_5 : decode cX2_found 5 = .ok (.dup2, 1) := by decide +kernel
theorem dX2_found_6 : decode cX2_found 6 = .ok (.iaload, 1) := by decide +kernel
theorem dX2_found_7 : decode cX2_found 7 = .ok (.iconst 1, 1) := by decide +kernel
theorem dX2_found_8 : decode cX2_found 8 = .ok (.iadd, 1) := by decide +kernel
theorem dX2_found_9 : decode cX2_found 9 = .ok (.iastore, 1) := by decide +kernel
theorem dX2_found_10 : decode cX2_found 10 = .ok (.bipush (-30), 2) := by decide +kernel
theorem dX2_found_12 : decode cX2_found 12 = .ok (.iload_n 1, 1) := by decide +kernel
theorem dX2_found_13 : decode cX2_found 13 = .ok (.isub, 1) := by decide +kernel
theorem dX2_found_14 : decode cX2_found 14 = .ok (.ireturn, 1) := by decide +kernel
theorem dX2_told_0 : decode cX2_told 0 = .ok (.iload_n 0, 1) := by decide +kernel
theorem dX2_told_1 : decode cX2_told 1 = .ok (.ifCond .ge 8, 3) := by decide +kernel
theorem dX2_told_4 : decode cX2_told 4 = .ok (.bipush (-5), 2) := by decide +kernel
theorem dX2_told_6 : decode cX2_told 6 = .ok (.goto 4, 3) := by decide +kernel
theorem dX2_told_9 : decode cX2_told 9 = .ok (.iload_n 0, 1) := by decide +kernel
theorem dX2_told_10 : decode cX2_told 10 = .ok (.ireturn, 1) := by decide +kernel
theorem dX2_adds_0 : decode cX2_adds 0 = .ok (.aload_n 0, 1) := by decide +kernel
theorem dX2_adds_1 : decode cX2_adds 1 = .ok (.getfield 7, 3) := by decide +kernel
theorem dX2_adds_4 : decode cX2_adds 4 = .ok (.aload_n 0, 1) := by decide +kernel
theorem dX2_adds_5 : decode cX2_adds 5 = .ok (.getfield 63, 3) := by decide +kernel
theorem dX2_adds_8 : decode cX2_adds 8 = .ok (.iload_n 1, 1) := by decide +kernel
theorem dX2_adds_9 : decode cX2_adds 9 = .ok (.iastore, 1) := by decide +kernel
theorem dX2_adds_10 : decode cX2_adds 10 = .ok (.aload_n 0, 1) := by decide +kernel
theorem dX2_adds_11 : decode cX2_adds 11 = .ok (.getfield 13, 3) := by decide +kernel
theorem dX2_adds_14 : decode cX2_adds 14 = .ok (.aload_n 0, 1) := by decide +kernel
theorem dX2_adds_15 : decode cX2_adds 15 = .ok (.getfield 63, 3) := by decide +kernel
theorem dX2_adds_18 : decode cX2_adds 18 = .ok (.iload_n 2, 1) := by decide +kernel
theorem dX2_adds_19 : decode cX2_adds 19 = .ok (.iastore, 1) := by decide +kernel
theorem dX2_adds_20 : decode cX2_adds 20 = .ok (.aload_n 0, 1) := by decide +kernel
theorem dX2_adds_21 : decode cX2_adds 21 = .ok (.getfield 16, 3) := by decide +kernel
theorem dX2_adds_24 : decode cX2_adds 24 = .ok (.aload_n 0, 1) := by decide +kernel
theorem dX2_adds_25 : decode cX2_adds 25 = .ok (.getfield 63, 3) := by decide +kernel
theorem dX2_adds_28 : decode cX2_adds 28 = .ok (.iload_n 3, 1) := by decide +kernel
theorem dX2_adds_29 : decode cX2_adds 29 = .ok (.iastore, 1) := by decide +kernel
theorem dX2_adds_30 : decode cX2_adds 30 = .ok (.iconst 0, 1) := by decide +kernel
theorem dX2_adds_31 : decode cX2_adds 31 = .ok (.istore 4, 2) := by decide +kernel
theorem dX2_adds_33 : decode cX2_adds 33 = .ok (.iload 4, 2) := by decide +kernel
theorem dX2_adds_35 : decode cX2_adds 35 = .ok (.bipush 10, 2) := by decide +kernel
theorem dX2_adds_37 : decode cX2_adds 37 = .ok (.if_icmp .ge 41, 3) := by decide +kernel
theorem dX2_adds_40 : decode cX2_adds 40 = .ok (.aload_n 0, 1) := by decide +kernel
theorem dX2_adds_41 : decode cX2_adds 41 = .ok (.getfield 19, 3) := by decide +kernel
theorem dX2_adds_44 : decode cX2_adds 44 = .ok (.bipush 10, 2) := by decide +kernel
theorem dX2_adds_46 : decode cX2_adds 46 = .ok (.aload_n 0, 1) := by decide +kernel
theorem dX2_adds_47 : decode cX2_adds 47 = .ok (.getfield 63, 3) := by decide +kernel
theorem dX2_adds_50 : decode cX2_adds 50 = .ok (.imul, 1) := by decide +kernel
theorem dX2_adds_51 : decode cX2_adds 51 = .ok (.iload 4, 2) := by decide +kernel
theorem dX2_adds_53 : decode cX2_adds 53 = .ok (.iadd, 1) := by decide +kernel
theorem dX2_adds_54 : decode cX2_adds 54 = .ok (.lconst 0, 1) := by decide +kernel
theorem dX2_adds_55 : decode cX2_adds 55 = .ok (.lastore, 1) := by decide +kernel
theorem dX2_adds_56 : decode cX2_adds 56 = .ok (.aload_n 0, 1) := by decide +kernel
theorem dX2_adds_57 : decode cX2_adds 57 = .ok (.getfield 23, 3) := by decide +kernel
theorem dX2_adds_60 : decode cX2_adds 60 = .ok (.bipush 10, 2) := by decide +kernel
theorem dX2_adds_62 : decode cX2_adds 62 = .ok (.aload_n 0, 1) := by decide +kernel
theorem dX2_adds_63 : decode cX2_adds 63 = .ok (.getfield 63, 3) := by decide +kernel
theorem dX2_adds_66 : decode cX2_adds 66 = .ok (.imul, 1) := by decide +kernel
theorem dX2_adds_67 : decode cX2_adds 67 = .ok (.iload 4, 2) := by decide +kernel
theorem dX2_adds_69 : decode cX2_adds 69 = .ok (.iadd, 1) := by decide +kernel
theorem dX2_adds_70 : decode cX2_adds 70 = .ok (.iconst (-1), 1) := by decide +kernel
theorem dX2_adds_71 : decode cX2_adds 71 = .ok (.iastore, 1) := by decide +kernel
theorem dX2_adds_72 : decode cX2_adds 72 = .ok (.iinc 4 1, 3) := by decide +kernel
theorem dX2_adds_75 : decode cX2_adds 75 = .ok (.goto (-42), 3) := by decide +kernel
theorem dX2_adds_78 : decode cX2_adds 78 = .ok (.aload_n 0, 1) := by decide +kernel
theorem dX2_adds_79 : decode cX2_adds 79 = .ok (.dup, 1) := by decide +kernel
theorem dX2_adds_80 : decode cX2_adds 80 = .ok (.getfield 63, 3) := by decide +kernel
theorem dX2_adds_83 : decode cX2_adds 83 = .ok (.iconst 1, 1) := by decide +kernel
theorem dX2_adds_84 : decode cX2_adds 84 = .ok (.iadd, 1) := by decide +kernel
theorem dX2_adds_85 : decode cX2_adds 85 = .ok (.putfield 63, 3) := by decide +kernel
theorem dX2_adds_88 : decode cX2_adds 88 = .ok (.aload_n 0, 1) := by decide +kernel
theorem dX2_adds_89 : decode cX2_adds 89 = .ok (.getfield 63, 3) := by decide +kernel
theorem dX2_adds_92 : decode cX2_adds 92 = .ok (.iconst 1, 1) := by decide +kernel
theorem dX2_adds_93 : decode cX2_adds 93 = .ok (.isub, 1) := by decide +kernel
theorem dX2_adds_94 : decode cX2_adds 94 = .ok (.ireturn, 1) := by decide +kernel
set_option maxRecDepth 20000 in
theorem ggX2_thing_X2_in : GoodIn wsX2_thing wsX2_in := goodIn_r _ [8] (by decide +kernel) (by decide +kernel)
set_option maxRecDepth 20000 in
theorem gX2_thing_X2_in : GoodIn wsX2_thing (va_wsS RX2 66 yX2_in wsX2_in) := goodIn_app (goodIn_of _ (by decide +kernel)) ggX2_thing_X2_in
set_option maxRecDepth 20000 in
theorem ggX2_thing_X2_adds : GoodIn wsX2_thing wsX2_adds := goodIn_ca (goodIn_r _ [12, 13, 4, 14, 15, 16, 17, 18, 19, 20, 21, 22, 23, 24, 25, 26, 27, 28, 29, 30, 31, 32, 33, 34] (by decide +kernel) (by decide +kernel)) (goodIn_sub (fun _ h => List.mem_cons_of_mem _ (List.mem_append_right _ h)) (by decide +kernel))
set_option maxRecDepth 20000 in
theorem gX2_thing_X2_adds : GoodIn wsX2_thing (wsV RX2 81 RX2 yX2_adds wsX2_adds) := goodIn_app (goodIn_of _ (by decide +kernel)) ggX2_thing_X2_adds
theorem dX2_thing_0 : decode cX2_thing 0 = .ok (.aload_n 0, 1) := by decide +kernel
theorem dX2_thing_1 : decode cX2_thing 1 = .ok (.iconst 0, 1) := by decide +kernel
theorem dX2_thing_2 : decode cX2_thing 2 = .ok (.putfield 59, 3) := by decide +kernel
theorem dX2_thing_5 : decode cX2_thing 5 = .ok (.iload_n 1, 1) := by decide +kernel
theorem dX2_thing_6 : decode cX2_thing 6 = .ok (.i2l, 1) := by decide +kernel
theorem dX2_thing_7 : decode cX2_thing 7 = .ok (.lconst 0, 1) := by decide +kernel
theorem dX2_thing_8 : decode cX2_thing 8 = .ok (.ldc2_w 77, 3) := by decide +kernel
theorem dX2_thing_11 : decode cX2_thing 11 = .ok (.invokestatic 66, 3) := by decide +kernel
theorem dX2_thing_14 : decode cX2_thing 14 = .ok (.ifCond .eq 15, 3) := by decide +kernel
theorem dX2_thing_17 : decode cX2_thing 17 = .ok (.iload_n 2, 1) := by decide +kernel
theorem dX2_thing_18 : decode cX2_thing 18 = .ok (.i2l, 1) := by decide +kernel
theorem dX2_thing_19 : decode cX2_thing 19 = .ok (.lconst 0, 1) := by decide +kernel
theorem dX2_thing_20 : decode cX2_thing 20 = .ok (.ldc2_w 79, 3) := by decide +kernel
theorem dX2_thing_23 : decode cX2_thing 23 = .ok (.invokestatic 66, 3) := by decide +kernel
theorem dX2_thing_26 : decode cX2_thing 26 = .ok (.ifCond .ne 6, 3) := by decide +kernel
theorem dX2_thing_29 : decode cX2_thing 29 = .ok (.bipush (-2), 2) := by decide +kernel
theorem dX2_thing_31 : decode cX2_thing 31 = .ok (.ireturn, 1) := by decide +kernel
theorem dX2_thing_32 : decode cX2_thing 32 = .ok (.aload_n 0, 1) := by decide +kernel
theorem dX2_thing_33 : decode cX2_thing 33 = .ok (.getfield 63, 3) := by decide +kernel
theorem dX2_thing_36 : decode cX2_thing 36 = .ok (.bipush 110, 2) := by decide +kernel
theorem dX2_thing_38 : decode cX2_thing 38 = .ok (.if_icmp .ne 8, 3) := by decide +kernel
theorem dX2_thing_41 : decode cX2_thing 41 = .ok (.bipush (-4), 2) := by decide +kernel
theorem dX2_thing_43 : decode cX2_thing 43 = .ok (.goto 10, 3) := by decide +kernel
theorem dX2_thing_46 : decode cX2_thing 46 = .ok (.aload_n 0, 1) := by decide +kernel
theorem dX2_thing_47 : decode cX2_thing 47 = .ok (.iload_n 1, 1) := by decide +kernel
theorem dX2_thing_48 : decode cX2_thing 48 = .ok (.iload_n 2, 1) := by decide +kernel
theorem dX2_thing_49 : decode cX2_thing 49 = .ok (.iconst 0, 1) := by decide +kernel
theorem dX2_thing_50 : decode cX2_thing 50 = .ok (.invokevirtual 81, 3) := by decide +kernel
theorem dX2_thing_53 : decode cX2_thing 53 = .ok (.ireturn, 1) := by decide +kernel
set_option maxRecDepth 20000 in
theorem ggX2_row_X2_in : GoodIn wsX2_row wsX2_in := goodIn_r _ [8] (by decide +kernel) (by decide +kernel)
set_option maxRecDepth 20000 in
theorem gX2_row_X2_in : GoodIn wsX2_row (va_wsS RX2 66 yX2_in wsX2_in) := goodIn_app (goodIn_of _ (by decide +kernel)) ggX2_row_X2_in
set_option maxRecDepth 20000 in
theorem ggX2_row_X2_found : GoodIn wsX2_row wsX2_found := goodIn_ca (goodIn_r _ [12, 13, 23, 24, 25, 26, 27, 28, 29, 30, 31, 32, 33, 34, 35, 36, 37, 38, 39] (by decide +kernel) (by decide +kernel)) (goodIn_sub (fun _ h => List.mem_cons_of_mem _ (List.mem_append_right _ h)) (by decide +kernel))
set_option maxRecDepth 20000 in
theorem gX2_row_X2_found : GoodIn wsX2_row (wsV RX2 89 RX2 yX2_found wsX2_found) := goodIn_app (goodIn_of _ (by decide +kernel)) ggX2_row_X2_found
set_option maxRecDepth 20000 in
theorem ggX2_row_X2_adds : GoodIn wsX2_row wsX2_adds := goodIn_ca (goodIn_r _ [17, 18, 4, 19, 20, 21, 22, 23, 24, 25, 26, 27, 28, 29, 30, 31, 32, 33, 34, 35, 36, 37, 38, 39] (by decide +kernel) (by decide +kernel)) (goodIn_sub (fun _ h => List.mem_cons_of_mem _ (List.mem_append_right _ h)) (by decide +kernel))
set_option maxRecDepth 20000 in
theorem gX2_row_X2_adds : GoodIn wsX2_row (wsV RX2 81 RX2 yX2_adds wsX2_adds) := goodIn_app (goodIn_of _ (by decide +kernel)) ggX2_row_X2_adds
theorem dX2_row_0 : decode cX2_row 0 = .ok (.aload_n 0, 1) := by decide +kernel
theorem dX2_row_1 : decode cX2_row 1 = .ok (.iconst 0, 1) := by decide +kernel
theorem dX2_row_2 : decode cX2_row 2 = .ok (.putfield 59, 3) := by decide +kernel
theorem dX2_row_5 : decode cX2_row 5 = .ok (.iload_n 1, 1) := by decide +kernel
theorem dX2_row_6 : decode cX2_row 6 = .ok (.i2l, 1) := by decide +kernel
theorem dX2_row_7 : decode cX2_row 7 = .ok (.ldc2_w 85, 3) := by decide +kernel
theorem dX2_row_10 : decode cX2_row 10 = .ok (.ldc2_w 87, 3) := by decide +kernel
theorem dX2_row_13 : decode cX2_row 13 = .ok (.invokestatic 66, 3) := by decide +kernel
theorem dX2_row_16 : decode cX2_row 16 = .ok (.ifCond .eq 9, 3) := by decide +kernel
theorem dX2_row_19 : decode cX2_row 19 = .ok (.iload_n 2, 1) := by decide +kernel
theorem dX2_row_20 : decode cX2_row 20 = .ok (.bipush 10, 2) := by decide +kernel
theorem dX2_row_22 : decode cX2_row 22 = .ok (.if_icmp .le 6, 3) := by decide +kernel
theorem dX2_row_25 : decode cX2_row 25 = .ok (.bipush (-2), 2) := by decide +kernel
theorem dX2_row_27 : decode cX2_row 27 = .ok (.ireturn, 1) := by decide +kernel
theorem dX2_row_28 : decode cX2_row 28 = .ok (.aload_n 0, 1) := by decide +kernel
theorem dX2_row_29 : decode cX2_row 29 = .ok (.getfield 63, 3) := by decide +kernel
theorem dX2_row_32 : decode cX2_row 32 = .ok (.bipush 110, 2) := by decide +kernel
theorem dX2_row_34 : decode cX2_row 34 = .ok (.if_icmp .ne 6, 3) := by decide +kernel
theorem dX2_row_37 : decode cX2_row 37 = .ok (.bipush (-4), 2) := by decide +kernel
theorem dX2_row_39 : decode cX2_row 39 = .ok (.ireturn, 1) := by decide +kernel
theorem dX2_row_40 : decode cX2_row 40 = .ok (.iload_n 2, 1) := by decide +kernel
theorem dX2_row_41 : decode cX2_row 41 = .ok (.ifCond .ge 11, 3) := by decide +kernel
theorem dX2_row_44 : decode cX2_row 44 = .ok (.aload_n 0, 1) := by decide +kernel
theorem dX2_row_45 : decode cX2_row 45 = .ok (.iconst 5, 1) := by decide +kernel
theorem dX2_row_46 : decode cX2_row 46 = .ok (.invokevirtual 89, 3) := by decide +kernel
theorem dX2_row_49 : decode cX2_row 49 = .ok (.goto 10, 3) := by decide +kernel
theorem dX2_row_52 : decode cX2_row 52 = .ok (.aload_n 0, 1) := by decide +kernel
theorem dX2_row_53 : decode cX2_row 53 = .ok (.iload_n 1, 1) := by decide +kernel
theorem dX2_row_54 : decode cX2_row 54 = .ok (.iconst 0, 1) := by decide +kernel
theorem dX2_row_55 : decode cX2_row 55 = .ok (.iload_n 2, 1) := by decide +kernel
theorem dX2_row_56 : decode cX2_row 56 = .ok (.invokevirtual 81, 3) := by decide +kernel
theorem dX2_row_59 : decode cX2_row 59 = .ok (.ireturn, 1) := by decide +kernel
set_option maxRecDepth 20000 in
theorem ggX2_makeCase_X2_adds : GoodIn wsX2_makeCase wsX2_adds := goodIn_ca (goodIn_r _ [7, 8, 2, 9, 10, 11, 12, 13, 14, 15, 16, 17, 18, 19, 20, 21, 22, 23, 24, 25, 26, 27, 28, 29] (by decide +kernel) (by decide +kernel)) (goodIn_sub (fun _ h => List.mem_cons_of_mem _ (List.mem_append_right _ h)) (by decide +kernel))
set_option maxRecDepth 20000 in
theorem gX2_makeCase_X2_adds : GoodIn wsX2_makeCase (wsV RX2 81 RX2 yX2_adds wsX2_adds) := goodIn_app (goodIn_of _ (by decide +kernel)) ggX2_makeCase_X2_adds
theorem dX2_makeCase_0 : decode cX2_makeCase 0 = .ok (.aload_n 0, 1) := by decide +kernel
theorem dX2_makeCase_1 : decode cX2_makeCase 1 = .ok (.iconst 0, 1) := by decide +kernel
theorem dX2_makeCase_2 : decode cX2_makeCase 2 = .ok (.putfield 59, 3) := by decide +kernel
theorem dX2_makeCase_5 : decode cX2_makeCase 5 = .ok (.aload_n 0, 1) := by decide +kernel
theorem dX2_makeCase_6 : decode cX2_makeCase 6 = .ok (.getfield 63, 3) := by decide +kernel
theorem dX2_makeCase_9 : decode cX2_makeCase 9 = .ok (.bipush 110, 2) := by decide +kernel
theorem dX2_makeCase_11 : decode cX2_makeCase 11 = .ok (.if_icmp .ne 8, 3) := by decide +kernel
theorem dX2_makeCase_14 : decode cX2_makeCase 14 = .ok (.bipush (-4), 2) := by decide +kernel
theorem dX2_makeCase_16 : decode cX2_makeCase 16 = .ok (.goto 11, 3) := by decide +kernel
theorem dX2_makeCase_19 : decode cX2_makeCase 19 = .ok (.aload_n 0, 1) := by decide +kernel
theorem dX2_makeCase_20 : decode cX2_makeCase 20 = .ok (.bipush 18, 2) := by decide +kernel
theorem dX2_makeCase_22 : decode cX2_makeCase 22 = .ok (.iconst 0, 1) := by decide +kernel
theorem dX2_makeCase_23 : decode cX2_makeCase 23 = .ok (.iconst 0, 1) := by decide +kernel
theorem dX2_makeCase_24 : decode cX2_makeCase 24 = .ok (.invokevirtual 81, 3) := by decide +kernel
theorem dX2_makeCase_27 : decode cX2_makeCase 27 = .ok (.ireturn, 1) := by decide +kernel
set_option maxRecDepth 20000 in
theorem ggX2_is_X2_isThing : GoodIn wsX2_is wsX2_isThing := goodIn_r _ [7, 8, 9, 10, 6, 11, 18, 19, 20, 21, 22, 23, 24, 25, 26, 27, 28, 29, 30, 31, 32, 33, 34] (by decide +kernel) (by decide +kernel)
set_option maxRecDepth 20000 in
theorem gX2_is_X2_isThing : GoodIn wsX2_is (wsV RX2 70 RX2 yX2_isThing wsX2_isThing) := goodIn_app (goodIn_of _ (by decide +kernel)) ggX2_is_X2_isThing
set_option maxRecDepth 20000 in
theorem ggX2_is_X2_in : GoodIn wsX2_is wsX2_in := goodIn_r _ [11] (by decide +kernel) (by decide +kernel)
set_option maxRecDepth 20000 in
theorem gX2_is_X2_in : GoodIn wsX2_is (va_wsS RX2 66 yX2_in wsX2_in) := goodIn_app (goodIn_of _ (by decide +kernel)) ggX2_is_X2_in
set_option maxRecDepth 20000 in
theorem ggX2_is_X2_isOf : GoodIn wsX2_is wsX2_isOf := goodIn_ca (goodIn_r _ [15, 16, 17, 18, 19, 20, 21, 22, 23, 24, 25, 26, 27, 28, 29, 30, 31, 32, 33, 34] (by decide +kernel) (by decide +kernel)) (goodIn_sub (fun _ h => List.mem_cons_of_mem _ (List.mem_append_right _ h)) (by decide +kernel))
set_option maxRecDepth 20000 in
theorem gX2_is_X2_isOf : GoodIn wsX2_is (wsV RX2 95 RX2 yX2_isOf wsX2_isOf) := goodIn_app (goodIn_of _ (by decide +kernel)) ggX2_is_X2_isOf
theorem dX2_is_0 : decode cX2_is 0 = .ok (.aload_n 0, 1) := by decide +kernel
theorem dX2_is_1 : decode cX2_is 1 = .ok (.iconst 0, 1) := by decide +kernel
theorem dX2_is_2 : decode cX2_is 2 = .ok (.putfield 59, 3) := by decide +kernel
theorem dX2_is_5 : decode cX2_is 5 = .ok (.aload_n 0, 1) := by decide +kernel
theorem dX2_is_6 : decode cX2_is 6 = .ok (.iload_n 1, 1) := by decide +kernel
theorem dX2_is_7 : decode cX2_is 7 = .ok (.invokevirtual 70, 3) := by decide +kernel
theorem dX2_is_10 : decode cX2_is 10 = .ok (.ifCond .ne 7, 3) := by decide +kernel
theorem dX2_is_13 : decode cX2_is 13 = .ok (.iconst (-1), 1) := by decide +kernel
theorem dX2_is_14 : decode cX2_is 14 = .ok (.goto 34, 3) := by decide +kernel
theorem dX2_is_17 : decode cX2_is 17 = .ok (.iload_n 2, 1) := by decide +kernel
theorem dX2_is_18 : decode cX2_is 18 = .ok (.i2l, 1) := by decide +kernel
theorem dX2_is_19 : decode cX2_is 19 = .ok (.lconst 0, 1) := by decide +kernel
theorem dX2_is_20 : decode cX2_is 20 = .ok (.ldc2_w 93, 3) := by decide +kernel
theorem dX2_is_23 : decode cX2_is 23 = .ok (.invokestatic 66, 3) := by decide +kernel
theorem dX2_is_26 : decode cX2_is 26 = .ok (.ifCond .ne 8, 3) := by decide +kernel
theorem dX2_is_29 : decode cX2_is 29 = .ok (.bipush (-2), 2) := by decide +kernel
theorem dX2_is_31 : decode cX2_is 31 = .ok (.goto 17, 3) := by decide +kernel
theorem dX2_is_34 : decode cX2_is 34 = .ok (.aload_n 0, 1) := by decide +kernel
theorem dX2_is_35 : decode cX2_is 35 = .ok (.iload_n 1, 1) := by decide +kernel
theorem dX2_is_36 : decode cX2_is 36 = .ok (.iload_n 2, 1) := by decide +kernel
theorem dX2_is_37 : decode cX2_is 37 = .ok (.invokevirtual 95, 3) := by decide +kernel
theorem dX2_is_40 : decode cX2_is 40 = .ok (.ifCond .eq 7, 3) := by decide +kernel
theorem dX2_is_43 : decode cX2_is 43 = .ok (.iconst 1, 1) := by decide +kernel
theorem dX2_is_44 : decode cX2_is 44 = .ok (.goto 4, 3) := by decide +kernel
theorem dX2_is_47 : decode cX2_is 47 = .ok (.iconst 0, 1) := by decide +kernel
theorem dX2_is_48 : decode cX2_is 48 = .ok (.ireturn, 1) := by decide +kernel
set_option maxRecDepth 20000 in
theorem ggX2_kinds_X2_isThing : GoodIn wsX2_kinds wsX2_isThing := goodIn_r _ [6, 7, 8, 9, 5, 10, 17, 18, 19, 20, 21, 22, 23, 24, 25, 26, 27, 28, 29, 30, 31, 32, 33] (by decide +kernel) (by decide +kernel)
set_option maxRecDepth 20000 in
theorem gX2_kinds_X2_isThing : GoodIn wsX2_kinds (wsV RX2 70 RX2 yX2_isThing wsX2_isThing) := goodIn_app (goodIn_of _ (by decide +kernel)) ggX2_kinds_X2_isThing
set_option maxRecDepth 20000 in
theorem ggX2_kinds_X2_isOf : GoodIn wsX2_kinds wsX2_isOf := goodIn_ca (goodIn_r _ [14, 15, 16, 17, 18, 19, 20, 21, 22, 23, 24, 25, 26, 27, 28, 29, 30, 31, 32, 33] (by decide +kernel) (by decide +kernel)) (goodIn_sub (fun _ h => List.mem_cons_of_mem _ (List.mem_append_right _ h)) (by decide +kernel))
set_option maxRecDepth 20000 in
theorem gX2_kinds_X2_isOf : GoodIn wsX2_kinds (wsV RX2 95 RX2 yX2_isOf wsX2_isOf) := goodIn_app (goodIn_of _ (by decide +kernel)) ggX2_kinds_X2_isOf
theorem dX2_kinds_0 : decode cX2_kinds 0 = .ok (.aload_n 0, 1) := by decide +kernel
theorem dX2_kinds_1 : decode cX2_kinds 1 = .ok (.iconst 0, 1) := by decide +kernel
theorem dX2_kinds_2 : decode cX2_kinds 2 = .ok (.putfield 59, 3) := by decide +kernel
theorem dX2_kinds_5 : decode cX2_kinds 5 = .ok (.aload_n 0, 1) := by decide +kernel
theorem dX2_kinds_6 : decode cX2_kinds 6 = .ok (.iload_n 1, 1) := by decide +kernel
theorem dX2_kinds_7 : decode cX2_kinds 7 = .ok (.invokevirtual 70, 3) := by decide +kernel
theorem dX2_kinds_10 : decode cX2_kinds 10 = .ok (.ifCond .ne 5, 3) := by decide +kernel
theorem dX2_kinds_13 : decode cX2_kinds 13 = .ok (.iconst (-1), 1) := by decide +kernel
theorem dX2_kinds_14 : decode cX2_kinds 14 = .ok (.ireturn, 1) := by decide +kernel
theorem dX2_kinds_15 : decode cX2_kinds 15 = .ok (.iconst 0, 1) := by decide +kernel
theorem dX2_kinds_16 : decode cX2_kinds 16 = .ok (.istore_n 2, 1) := by decide +kernel
theorem dX2_kinds_17 : decode cX2_kinds 17 = .ok (.iconst 0, 1) := by decide +kernel
theorem dX2_kinds_18 : decode cX2_kinds 18 = .ok (.istore_n 3, 1) := by decide +kernel
theorem dX2_kinds_19 : decode cX2_kinds 19 = .ok (.iload_n 3, 1) := by decide +kernel
theorem dX2_kinds_20 : decode cX2_kinds 20 = .ok (.bipush 20, 2) := by decide +kernel
theorem dX2_kinds_22 : decode cX2_kinds 22 = .ok (.if_icmp .ge 26, 3) := by decide +kernel
theorem dX2_kinds_25 : decode cX2_kinds 25 = .ok (.iload_n 2, 1) := by decide +kernel
theorem dX2_kinds_26 : decode cX2_kinds 26 = .ok (.aload_n 0, 1) := by decide +kernel
theorem dX2_kinds_27 : decode cX2_kinds 27 = .ok (.iload_n 1, 1) := by decide +kernel
theorem dX2_kinds_28 : decode cX2_kinds 28 = .ok (.iload_n 3, 1) := by decide +kernel
theorem dX2_kinds_29 : decode cX2_kinds 29 = .ok (.invokevirtual 95, 3) := by decide +kernel
theorem dX2_kinds_32 : decode cX2_kinds 32 = .ok (.ifCond .eq 7, 3) := by decide +kernel
theorem dX2_kinds_35 : decode cX2_kinds 35 = .ok (.iconst 1, 1) := by decide +kernel
theorem dX2_kinds_36 : decode cX2_kinds 36 = .ok (.goto 4, 3) := by decide +kernel
theorem dX2_kinds_39 : decode cX2_kinds 39 = .ok (.iconst 0, 1) := by decide +kernel
theorem dX2_kinds_40 : decode cX2_kinds 40 = .ok (.iadd, 1) := by decide +kernel
theorem dX2_kinds_41 : decode cX2_kinds 41 = .ok (.istore_n 2, 1) := by decide +kernel
theorem dX2_kinds_42 : decode cX2_kinds 42 = .ok (.iinc 3 1, 3) := by decide +kernel
theorem dX2_kinds_45 : decode cX2_kinds 45 = .ok (.goto (-26), 3) := by decide +kernel
theorem dX2_kinds_48 : decode cX2_kinds 48 = .ok (.iload_n 2, 1) := by decide +kernel
theorem dX2_kinds_49 : decode cX2_kinds 49 = .ok (.ireturn, 1) := by decide +kernel
theorem dX2_worthOf_0 : decode cX2_worthOf 0 = .ok (.aload_n 0, 1) := by decide +kernel
theorem dX2_worthOf_1 : decode cX2_worthOf 1 = .ok (.getfield 13, 3) := by decide +kernel
theorem dX2_worthOf_4 : decode cX2_worthOf 4 = .ok (.iload_n 1, 1) := by decide +kernel
theorem dX2_worthOf_5 : decode cX2_worthOf 5 = .ok (.iaload, 1) := by decide +kernel
theorem dX2_worthOf_6 : decode cX2_worthOf 6 = .ok (.iconst 1, 1) := by decide +kernel
theorem dX2_worthOf_7 : decode cX2_worthOf 7 = .ok (.iadd, 1) := by decide +kernel
theorem dX2_worthOf_8 : decode cX2_worthOf 8 = .ok (.istore_n 2, 1) := by decide +kernel
theorem dX2_worthOf_9 : decode cX2_worthOf 9 = .ok (.aload_n 0, 1) := by decide +kernel
theorem dX2_worthOf_10 : decode cX2_worthOf 10 = .ok (.getfield 7, 3) := by decide +kernel
theorem dX2_worthOf_13 : decode cX2_worthOf 13 = .ok (.iload_n 1, 1) := by decide +kernel
theorem dX2_worthOf_14 : decode cX2_worthOf 14 = .ok (.iaload, 1) := by decide +kernel
theorem dX2_worthOf_15 : decode cX2_worthOf 15 = .ok (.iconst 1, 1) := by decide +kernel
theorem dX2_worthOf_16 : decode cX2_worthOf 16 = .ok (.if_icmp .ne 9, 3) := by decide +kernel
theorem dX2_worthOf_19 : decode cX2_worthOf 19 = .ok (.iconst 2, 1) := by decide +kernel
theorem dX2_worthOf_20 : decode cX2_worthOf 20 = .ok (.iload_n 2, 1) := by decide +kernel
theorem dX2_worthOf_21 : decode cX2_worthOf 21 = .ok (.imul, 1) := by decide +kernel
theorem dX2_worthOf_22 : decode cX2_worthOf 22 = .ok (.goto 23, 3) := by decide +kernel
theorem dX2_worthOf_25 : decode cX2_worthOf 25 = .ok (.aload_n 0, 1) := by decide +kernel
theorem dX2_worthOf_26 : decode cX2_worthOf 26 = .ok (.getfield 7, 3) := by decide +kernel
theorem dX2_worthOf_29 : decode cX2_worthOf 29 = .ok (.iload_n 1, 1) := by decide +kernel
theorem dX2_worthOf_30 : decode cX2_worthOf 30 = .ok (.iaload, 1) := by decide +kernel
theorem dX2_worthOf_31 : decode cX2_worthOf 31 = .ok (.iconst 2, 1) := by decide +kernel
theorem dX2_worthOf_32 : decode cX2_worthOf 32 = .ok (.if_icmp .ne 12, 3) := by decide +kernel
theorem dX2_worthOf_35 : decode cX2_worthOf 35 = .ok (.iconst 2, 1) := by decide +kernel
theorem dX2_worthOf_36 : decode cX2_worthOf 36 = .ok (.iload_n 2, 1) := by decide +kernel
theorem dX2_worthOf_37 : decode cX2_worthOf 37 = .ok (.imul, 1) := by decide +kernel
theorem dX2_worthOf_38 : decode cX2_worthOf 38 = .ok (.bipush 100, 2) := by decide +kernel
theorem dX2_worthOf_40 : decode cX2_worthOf 40 = .ok (.iadd, 1) := by decide +kernel
theorem dX2_worthOf_41 : decode cX2_worthOf 41 = .ok (.goto 4, 3) := by decide +kernel
theorem dX2_worthOf_44 : decode cX2_worthOf 44 = .ok (.iload_n 2, 1) := by decide +kernel
theorem dX2_worthOf_45 : decode cX2_worthOf 45 = .ok (.ireturn, 1) := by decide +kernel
set_option maxRecDepth 20000 in
theorem ggX2_worth_X2_isThing : GoodIn wsX2_worth wsX2_isThing := goodIn_r _ [7, 8, 9, 10, 6, 11, 28, 29, 30, 31, 32, 33, 34, 35, 36, 37, 38, 39, 40, 41, 42, 43, 44] (by decide +kernel) (by decide +kernel)
set_option maxRecDepth 20000 in
theorem gX2_worth_X2_isThing : GoodIn wsX2_worth (wsV RX2 70 RX2 yX2_isThing wsX2_isThing) := goodIn_app (goodIn_of _ (by decide +kernel)) ggX2_worth_X2_isThing
set_option maxRecDepth 20000 in
theorem ggX2_worth_X2_in : GoodIn wsX2_worth wsX2_in := goodIn_r _ [11] (by decide +kernel) (by decide +kernel)
set_option maxRecDepth 20000 in
theorem gX2_worth_X2_in : GoodIn wsX2_worth (va_wsS RX2 66 yX2_in wsX2_in) := goodIn_app (goodIn_of _ (by decide +kernel)) ggX2_worth_X2_in
set_option maxRecDepth 20000 in
theorem ggX2_worth_X2_isOf : GoodIn wsX2_worth wsX2_isOf := goodIn_ca (goodIn_r _ [15, 16, 17, 28, 29, 30, 31, 32, 33, 34, 35, 36, 37, 38, 39, 40, 41, 42, 43, 44] (by decide +kernel) (by decide +kernel)) (goodIn_sub (fun _ h => List.mem_cons_of_mem _ (List.mem_append_right _ h)) (by decide +kernel))
set_option maxRecDepth 20000 in
theorem gX2_worth_X2_isOf : GoodIn wsX2_worth (wsV RX2 95 RX2 yX2_isOf wsX2_isOf) := goodIn_app (goodIn_of _ (by decide +kernel)) ggX2_worth_X2_isOf
set_option maxRecDepth 20000 in
theorem ggX2_worth_X2_worthOf : GoodIn wsX2_worth wsX2_worthOf := goodIn_ca (goodIn_r _ [21, 22, 17, 28, 29, 30, 31, 32, 33, 34, 35, 36, 37, 38, 39, 40, 41, 42, 43, 44] (by decide +kernel) (by decide +kernel)) (goodIn_sub (fun _ h => List.mem_cons_of_mem _ (List.mem_append_right _ h)) (by decide +kernel))
set_option maxRecDepth 20000 in
theorem gX2_worth_X2_worthOf : GoodIn wsX2_worth (wsV RX2 101 RX2 yX2_worthOf wsX2_worthOf) := goodIn_app (goodIn_of _ (by decide +kernel)) ggX2_worth_X2_worthOf
set_option maxRecDepth 20000 in
theorem ggX2_worth_X2_found : GoodIn wsX2_worth wsX2_found := goodIn_ca (goodIn_r _ [26, 27, 28, 29, 30, 31, 32, 33, 34, 35, 36, 37, 38, 39, 40, 41, 42, 43, 44] (by decide +kernel) (by decide +kernel)) (goodIn_sub (fun _ h => List.mem_cons_of_mem _ (List.mem_append_right _ h)) (by decide +kernel))
set_option maxRecDepth 20000 in
theorem gX2_worth_X2_found : GoodIn wsX2_worth (wsV RX2 89 RX2 yX2_found wsX2_found) := goodIn_app (goodIn_of _ (by decide +kernel)) ggX2_worth_X2_found
theorem dX2_worth_0 : decode cX2_worth 0 = .ok (.aload_n 0, 1) := by decide +kernel
theorem dX2_worth_1 : decode cX2_worth 1 = .ok (.iconst 0, 1) := by decide +kernel
theorem dX2_worth_2 : decode cX2_worth 2 = .ok (.putfield 59, 3) := by decide +kernel
theorem dX2_worth_5 : decode cX2_worth 5 = .ok (.aload_n 0, 1) := by decide +kernel
theorem dX2_worth_6 : decode cX2_worth 6 = .ok (.iload_n 1, 1) := by decide +kernel
theorem dX2_worth_7 : decode cX2_worth 7 = .ok (.invokevirtual 70, 3) := by decide +kernel
theorem dX2_worth_10 : decode cX2_worth 10 = .ok (.ifCond .ne 5, 3) := by decide +kernel
theorem dX2_worth_13 : decode cX2_worth 13 = .ok (.iconst (-1), 1) := by decide +kernel
theorem dX2_worth_14 : decode cX2_worth 14 = .ok (.ireturn, 1) := by decide +kernel
theorem dX2_worth_15 : decode cX2_worth 15 = .ok (.iload_n 2, 1) := by decide +kernel
theorem dX2_worth_16 : decode cX2_worth 16 = .ok (.i2l, 1) := by decide +kernel
theorem dX2_worth_17 : decode cX2_worth 17 = .ok (.lconst 0, 1) := by decide +kernel
theorem dX2_worth_18 : decode cX2_worth 18 = .ok (.ldc2_w 99, 3) := by decide +kernel
theorem dX2_worth_21 : decode cX2_worth 21 = .ok (.invokestatic 66, 3) := by decide +kernel
theorem dX2_worth_24 : decode cX2_worth 24 = .ok (.ifCond .ne 6, 3) := by decide +kernel
theorem dX2_worth_27 : decode cX2_worth 27 = .ok (.bipush (-2), 2) := by decide +kernel
theorem dX2_worth_29 : decode cX2_worth 29 = .ok (.ireturn, 1) := by decide +kernel
theorem dX2_worth_30 : decode cX2_worth 30 = .ok (.aload_n 0, 1) := by decide +kernel
theorem dX2_worth_31 : decode cX2_worth 31 = .ok (.iload_n 1, 1) := by decide +kernel
theorem dX2_worth_32 : decode cX2_worth 32 = .ok (.iload_n 2, 1) := by decide +kernel
theorem dX2_worth_33 : decode cX2_worth 33 = .ok (.invokevirtual 95, 3) := by decide +kernel
theorem dX2_worth_36 : decode cX2_worth 36 = .ok (.ifCond .eq 11, 3) := by decide +kernel
theorem dX2_worth_39 : decode cX2_worth 39 = .ok (.aload_n 0, 1) := by decide +kernel
theorem dX2_worth_40 : decode cX2_worth 40 = .ok (.iload_n 1, 1) := by decide +kernel
theorem dX2_worth_41 : decode cX2_worth 41 = .ok (.invokevirtual 101, 3) := by decide +kernel
theorem dX2_worth_44 : decode cX2_worth 44 = .ok (.goto 8, 3) := by decide +kernel
theorem dX2_worth_47 : decode cX2_worth 47 = .ok (.aload_n 0, 1) := by decide +kernel
theorem dX2_worth_48 : decode cX2_worth 48 = .ok (.iconst 1, 1) := by decide +kernel
theorem dX2_worth_49 : decode cX2_worth 49 = .ok (.invokevirtual 89, 3) := by decide +kernel
theorem dX2_worth_52 : decode cX2_worth 52 = .ok (.ireturn, 1) := by decide +kernel
set_option maxRecDepth 20000 in
theorem ggX2_date_X2_isThing : GoodIn wsX2_date wsX2_isThing := goodIn_r _ [8, 9, 10, 11, 7, 12, 23, 24, 25, 26, 27, 28, 29, 30, 31, 32, 33, 34, 35, 36, 37, 38, 39] (by decide +kernel) (by decide +kernel)
set_option maxRecDepth 20000 in
theorem gX2_date_X2_isThing : GoodIn wsX2_date (wsV RX2 70 RX2 yX2_isThing wsX2_isThing) := goodIn_app (goodIn_of _ (by decide +kernel)) ggX2_date_X2_isThing
set_option maxRecDepth 20000 in
theorem ggX2_date_X2_isOf : GoodIn wsX2_date wsX2_isOf := goodIn_ca (goodIn_r _ [16, 17, 2, 23, 24, 25, 26, 27, 28, 29, 30, 31, 32, 33, 34, 35, 36, 37, 38, 39] (by decide +kernel) (by decide +kernel)) (goodIn_sub (fun _ h => List.mem_cons_of_mem _ (List.mem_append_right _ h)) (by decide +kernel))
set_option maxRecDepth 20000 in
theorem gX2_date_X2_isOf : GoodIn wsX2_date (wsV RX2 95 RX2 yX2_isOf wsX2_isOf) := goodIn_app (goodIn_of _ (by decide +kernel)) ggX2_date_X2_isOf
set_option maxRecDepth 20000 in
theorem ggX2_date_X2_found : GoodIn wsX2_date wsX2_found := goodIn_ca (goodIn_r _ [21, 22, 23, 24, 25, 26, 27, 28, 29, 30, 31, 32, 33, 34, 35, 36, 37, 38, 39] (by decide +kernel) (by decide +kernel)) (goodIn_sub (fun _ h => List.mem_cons_of_mem _ (List.mem_append_right _ h)) (by decide +kernel))
set_option maxRecDepth 20000 in
theorem gX2_date_X2_found : GoodIn wsX2_date (wsV RX2 89 RX2 yX2_found wsX2_found) := goodIn_app (goodIn_of _ (by decide +kernel)) ggX2_date_X2_found
theorem dX2_date_0 : decode cX2_date 0 = .ok (.aload_n 0, 1) := by decide +kernel
theorem dX2_date_1 : decode cX2_date 1 = .ok (.iconst 0, 1) := by decide +kernel
theorem dX2_date_2 : decode cX2_date 2 = .ok (.putfield 59, 3) := by decide +kernel
theorem dX2_date_5 : decode cX2_date 5 = .ok (.aload_n 0, 1) := by decide +kernel
theorem dX2_date_6 : decode cX2_date 6 = .ok (.iload_n 1, 1) := by decide +kernel
theorem dX2_date_7 : decode cX2_date 7 = .ok (.invokevirtual 70, 3) := by decide +kernel
theorem dX2_date_10 : decode cX2_date 10 = .ok (.ifCond .ne 5, 3) := by decide +kernel
theorem dX2_date_13 : decode cX2_date 13 = .ok (.iconst (-1), 1) := by decide +kernel
theorem dX2_date_14 : decode cX2_date 14 = .ok (.ireturn, 1) := by decide +kernel
theorem dX2_date_15 : decode cX2_date 15 = .ok (.aload_n 0, 1) := by decide +kernel
theorem dX2_date_16 : decode cX2_date 16 = .ok (.iload_n 1, 1) := by decide +kernel
theorem dX2_date_17 : decode cX2_date 17 = .ok (.bipush 19, 2) := by decide +kernel
theorem dX2_date_19 : decode cX2_date 19 = .ok (.invokevirtual 95, 3) := by decide +kernel
theorem dX2_date_22 : decode cX2_date 22 = .ok (.ifCond .ne 11, 3) := by decide +kernel
theorem dX2_date_25 : decode cX2_date 25 = .ok (.aload_n 0, 1) := by decide +kernel
theorem dX2_date_26 : decode cX2_date 26 = .ok (.iconst 1, 1) := by decide +kernel
theorem dX2_date_27 : decode cX2_date 27 = .ok (.invokevirtual 89, 3) := by decide +kernel
theorem dX2_date_30 : decode cX2_date 30 = .ok (.goto 32, 3) := by decide +kernel
theorem dX2_date_33 : decode cX2_date 33 = .ok (.aload_n 0, 1) := by decide +kernel
theorem dX2_date_34 : decode cX2_date 34 = .ok (.getfield 7, 3) := by decide +kernel
theorem dX2_date_37 : decode cX2_date 37 = .ok (.iload_n 1, 1) := by decide +kernel
theorem dX2_date_38 : decode cX2_date 38 = .ok (.iaload, 1) := by decide +kernel
theorem dX2_date_39 : decode cX2_date 39 = .ok (.iconst 2, 1) := by decide +kernel
theorem dX2_date_40 : decode cX2_date 40 = .ok (.if_icmp .ne 14, 3) := by decide +kernel
theorem dX2_date_43 : decode cX2_date 43 = .ok (.aload_n 0, 1) := by decide +kernel
theorem dX2_date_44 : decode cX2_date 44 = .ok (.getfield 13, 3) := by decide +kernel
theorem dX2_date_47 : decode cX2_date 47 = .ok (.iload_n 1, 1) := by decide +kernel
theorem dX2_date_48 : decode cX2_date 48 = .ok (.iaload, 1) := by decide +kernel
theorem dX2_date_49 : decode cX2_date 49 = .ok (.iconst 1, 1) := by decide +kernel
theorem dX2_date_50 : decode cX2_date 50 = .ok (.iadd, 1) := by decide +kernel
theorem dX2_date_51 : decode cX2_date 51 = .ok (.goto 11, 3) := by decide +kernel
theorem dX2_date_54 : decode cX2_date 54 = .ok (.aload_n 0, 1) := by decide +kernel
theorem dX2_date_55 : decode cX2_date 55 = .ok (.getfield 13, 3) := by decide +kernel
theorem dX2_date_58 : decode cX2_date 58 = .ok (.iload_n 1, 1) := by decide +kernel
theorem dX2_date_59 : decode cX2_date 59 = .ok (.iaload, 1) := by decide +kernel
theorem dX2_date_60 : decode cX2_date 60 = .ok (.iconst 1, 1) := by decide +kernel
theorem dX2_date_61 : decode cX2_date 61 = .ok (.isub, 1) := by decide +kernel
theorem dX2_date_62 : decode cX2_date 62 = .ok (.ireturn, 1) := by decide +kernel
set_option maxRecDepth 20000 in
theorem ggX2_refusal_X2_isThing : GoodIn wsX2_refusal wsX2_isThing := goodIn_r _ [5, 6, 7, 8, 4, 9, 10, 11, 12, 13, 14, 15, 16, 17, 18, 19, 20, 21, 22, 23, 24, 25, 26] (by decide +kernel) (by decide +kernel)
set_option maxRecDepth 20000 in
theorem gX2_refusal_X2_isThing : GoodIn wsX2_refusal (wsV RX2 70 RX2 yX2_isThing wsX2_isThing) := goodIn_app (goodIn_of _ (by decide +kernel)) ggX2_refusal_X2_isThing
set_option maxRecDepth 20000 in
theorem ggX2_refusal_X2_in : GoodIn wsX2_refusal wsX2_in := goodIn_r _ [9] (by decide +kernel) (by decide +kernel)
set_option maxRecDepth 20000 in
theorem gX2_refusal_X2_in : GoodIn wsX2_refusal (va_wsS RX2 66 yX2_in wsX2_in) := goodIn_app (goodIn_of _ (by decide +kernel)) ggX2_refusal_X2_in
theorem dX2_refusal_0 : decode cX2_refusal 0 = .ok (.aload_n 0, 1) := by decide +kernel
theorem dX2_refusal_1 : decode cX2_refusal 1 = .ok (.iload_n 1, 1) := by decide +kernel
theorem dX2_refusal_2 : decode cX2_refusal 2 = .ok (.invokevirtual 70, 3) := by decide +kernel
theorem dX2_refusal_5 : decode cX2_refusal 5 = .ok (.ifCond .ne 7, 3) := by decide +kernel
theorem dX2_refusal_8 : decode cX2_refusal 8 = .ok (.iconst (-1), 1) := by decide +kernel
theorem dX2_refusal_9 : decode cX2_refusal 9 = .ok (.goto 22, 3) := by decide +kernel
theorem dX2_refusal_12 : decode cX2_refusal 12 = .ok (.iload_n 2, 1) := by decide +kernel
theorem dX2_refusal_13 : decode cX2_refusal 13 = .ok (.i2l, 1) := by decide +kernel
theorem dX2_refusal_14 : decode cX2_refusal 14 = .ok (.iload_n 3, 1) := by decide +kernel
theorem dX2_refusal_15 : decode cX2_refusal 15 = .ok (.i2l, 1) := by decide +kernel
theorem dX2_refusal_16 : decode cX2_refusal 16 = .ok (.iload 4, 2) := by decide +kernel
theorem dX2_refusal_18 : decode cX2_refusal 18 = .ok (.i2l, 1) := by decide +kernel
theorem dX2_refusal_19 : decode cX2_refusal 19 = .ok (.invokestatic 66, 3) := by decide +kernel
theorem dX2_refusal_22 : decode cX2_refusal 22 = .ok (.ifCond .ne 8, 3) := by decide +kernel
theorem dX2_refusal_25 : decode cX2_refusal 25 = .ok (.bipush (-2), 2) := by decide +kernel
theorem dX2_refusal_27 : decode cX2_refusal 27 = .ok (.goto 4, 3) := by decide +kernel
theorem dX2_refusal_30 : decode cX2_refusal 30 = .ok (.iconst 0, 1) := by decide +kernel
theorem dX2_refusal_31 : decode cX2_refusal 31 = .ok (.ireturn, 1) := by decide +kernel
set_option maxRecDepth 20000 in
theorem ggX2_size_X2_refusal : GoodIn wsX2_size wsX2_refusal := goodIn_r _ [7, 8, 9, 10, 6, 11, 12, 13, 14, 15, 27, 28, 29, 30, 31, 32, 33, 34, 35, 36, 37, 38, 39, 40, 41, 42, 43] (by decide +kernel) (by decide +kernel)
set_option maxRecDepth 20000 in
theorem gX2_size_X2_refusal : GoodIn wsX2_size (wsV RX2 104 RX2 yX2_refusal wsX2_refusal) := goodIn_app (goodIn_of _ (by decide +kernel)) ggX2_size_X2_refusal
set_option maxRecDepth 20000 in
theorem ggX2_size_X2_isOf : GoodIn wsX2_size wsX2_isOf := goodIn_ca (goodIn_r _ [19, 20, 21, 27, 28, 29, 30, 31, 32, 33, 34, 35, 36, 37, 38, 39, 40, 41, 42, 43] (by decide +kernel) (by decide +kernel)) (goodIn_sub (fun _ h => List.mem_cons_of_mem _ (List.mem_append_right _ h)) (by decide +kernel))
set_option maxRecDepth 20000 in
theorem gX2_size_X2_isOf : GoodIn wsX2_size (wsV RX2 95 RX2 yX2_isOf wsX2_isOf) := goodIn_app (goodIn_of _ (by decide +kernel)) ggX2_size_X2_isOf
set_option maxRecDepth 20000 in
theorem ggX2_size_X2_found : GoodIn wsX2_size wsX2_found := goodIn_ca (goodIn_r _ [25, 26, 27, 28, 29, 30, 31, 32, 33, 34, 35, 36, 37, 38, 39, 40, 41, 42, 43] (by decide +kernel) (by decide +kernel)) (goodIn_sub (fun _ h => List.mem_cons_of_mem _ (List.mem_append_right _ h)) (by decide +kernel))
set_option maxRecDepth 20000 in
theorem gX2_size_X2_found : GoodIn wsX2_size (wsV RX2 89 RX2 yX2_found wsX2_found) := goodIn_app (goodIn_of _ (by decide +kernel)) ggX2_size_X2_found
theorem dX2_size_0 : decode cX2_size 0 = .ok (.aload_n 0, 1) := by decide +kernel
theorem dX2_size_1 : decode cX2_size 1 = .ok (.iconst 0, 1) := by decide +kernel
theorem dX2_size_2 : decode cX2_size 2 = .ok (.putfield 59, 3) := by decide +kernel
theorem dX2_size_5 : decode cX2_size 5 = .ok (.aload_n 0, 1) := by decide +kernel
theorem dX2_size_6 : decode cX2_size 6 = .ok (.iload_n 1, 1) := by decide +kernel
theorem dX2_size_7 : decode cX2_size 7 = .ok (.iload_n 2, 1) := by decide +kernel
theorem dX2_size_8 : decode cX2_size 8 = .ok (.iconst 5, 1) := by decide +kernel
theorem dX2_size_9 : decode cX2_size 9 = .ok (.bipush 17, 2) := by decide +kernel
theorem dX2_size_11 : decode cX2_size 11 = .ok (.invokevirtual 104, 3) := by decide +kernel
theorem dX2_size_14 : decode cX2_size 14 = .ok (.istore_n 3, 1) := by decide +kernel
theorem dX2_size_15 : decode cX2_size 15 = .ok (.iload_n 3, 1) := by decide +kernel
theorem dX2_size_16 : decode cX2_size 16 = .ok (.ifCond .ge 7, 3) := by decide +kernel
theorem dX2_size_19 : decode cX2_size 19 = .ok (.iload_n 3, 1) := by decide +kernel
theorem dX2_size_20 : decode cX2_size 20 = .ok (.goto 26, 3) := by decide +kernel
theorem dX2_size_23 : decode cX2_size 23 = .ok (.aload_n 0, 1) := by decide +kernel
theorem dX2_size_24 : decode cX2_size 24 = .ok (.iload_n 1, 1) := by decide +kernel
theorem dX2_size_25 : decode cX2_size 25 = .ok (.iload_n 2, 1) := by decide +kernel
theorem dX2_size_26 : decode cX2_size 26 = .ok (.invokevirtual 95, 3) := by decide +kernel
theorem dX2_size_29 : decode cX2_size 29 = .ok (.ifCond .eq 12, 3) := by decide +kernel
theorem dX2_size_32 : decode cX2_size 32 = .ok (.aload_n 0, 1) := by decide +kernel
theorem dX2_size_33 : decode cX2_size 33 = .ok (.getfield 16, 3) := by decide +kernel
theorem dX2_size_36 : decode cX2_size 36 = .ok (.iload_n 1, 1) := by decide +kernel
theorem dX2_size_37 : decode cX2_size 37 = .ok (.iaload, 1) := by decide +kernel
theorem dX2_size_38 : decode cX2_size 38 = .ok (.goto 8, 3) := by decide +kernel
theorem dX2_size_41 : decode cX2_size 41 = .ok (.aload_n 0, 1) := by decide +kernel
theorem dX2_size_42 : decode cX2_size 42 = .ok (.iconst 1, 1) := by decide +kernel
theorem dX2_size_43 : decode cX2_size 43 = .ok (.invokevirtual 89, 3) := by decide +kernel
theorem dX2_size_46 : decode cX2_size 46 = .ok (.ireturn, 1) := by decide +kernel
theorem dX2_low_0 : decode cX2_low 0 = .ok (.iload_n 0, 1) := by decide +kernel
theorem dX2_low_1 : decode cX2_low 1 = .ok (.iconst 5, 1) := by decide +kernel
theorem dX2_low_2 : decode cX2_low 2 = .ok (.if_icmp .ne 11, 3) := by decide +kernel
theorem dX2_low_5 : decode cX2_low 5 = .ok (.lload_n 1, 1) := by decide +kernel
theorem dX2_low_6 : decode cX2_low 6 = .ok (.ldc2_w 108, 3) := by decide +kernel
theorem dX2_low_9 : decode cX2_low 9 = .ok (.land, 1) := by decide +kernel
theorem dX2_low_10 : decode cX2_low 10 = .ok (.goto 32, 3) := by decide +kernel
theorem dX2_low_13 : decode cX2_low 13 = .ok (.iload_n 0, 1) := by decide +kernel
theorem dX2_low_14 : decode cX2_low 14 = .ok (.bipush 6, 2) := by decide +kernel
theorem dX2_low_16 : decode cX2_low 16 = .ok (.if_icmp .ne 13, 3) := by decide +kernel
theorem dX2_low_19 : decode cX2_low 19 = .ok (.lload_n 1, 1) := by decide +kernel
theorem dX2_low_20 : decode cX2_low 20 = .ok (.bipush 48, 2) := by decide +kernel
theorem dX2_low_22 : decode cX2_low 22 = .ok (.lshl, 1) := by decide +kernel
theorem dX2_low_23 : decode cX2_low 23 = .ok (.bipush 48, 2) := by decide +kernel
theorem dX2_low_25 : decode cX2_low 25 = .ok (.lshr, 1) := by decide +kernel
theorem dX2_low_26 : decode cX2_low 26 = .ok (.goto 16, 3) := by decide +kernel
theorem dX2_low_29 : decode cX2_low 29 = .ok (.iload_n 0, 1) := by decide +kernel
theorem dX2_low_30 : decode cX2_low 30 = .ok (.bipush 7, 2) := by decide +kernel
theorem dX2_low_32 : decode cX2_low 32 = .ok (.if_icmp .ne 9, 3) := by decide +kernel
theorem dX2_low_35 : decode cX2_low 35 = .ok (.lload_n 1, 1) := by decide +kernel
theorem dX2_low_36 : decode cX2_low 36 = .ok (.lconst 1, 1) := by decide +kernel
theorem dX2_low_37 : decode cX2_low 37 = .ok (.land, 1) := by decide +kernel
theorem dX2_low_38 : decode cX2_low 38 = .ok (.goto 4, 3) := by decide +kernel
theorem dX2_low_41 : decode cX2_low 41 = .ok (.lload_n 1, 1) := by decide +kernel
theorem dX2_low_42 : decode cX2_low 42 = .ok (.lreturn, 1) := by decide +kernel
set_option maxRecDepth 20000 in
theorem ggX2_write_X2_refusal : GoodIn wsX2_write wsX2_refusal := goodIn_r _ [10, 11, 12, 13, 9, 14, 15, 16, 17, 18, 34, 35, 36, 37, 38, 39, 40, 41, 42, 43, 44, 45, 46, 47, 48, 49, 50] (by decide +kernel) (by decide +kernel)
set_option maxRecDepth 20000 in
theorem gX2_write_X2_refusal : GoodIn wsX2_write (wsV RX2 104 RX2 yX2_refusal wsX2_refusal) := goodIn_app (goodIn_of _ (by decide +kernel)) ggX2_write_X2_refusal
set_option maxRecDepth 20000 in
theorem ggX2_write_X2_in : GoodIn wsX2_write wsX2_in := goodIn_r _ [18] (by decide +kernel) (by decide +kernel)
set_option maxRecDepth 20000 in
theorem gX2_write_X2_in : GoodIn wsX2_write (va_wsS RX2 66 yX2_in wsX2_in) := goodIn_app (goodIn_of _ (by decide +kernel)) ggX2_write_X2_in
set_option maxRecDepth 20000 in
theorem ggX2_write_X2_isOf : GoodIn wsX2_write wsX2_isOf := goodIn_ca (goodIn_r _ [22, 23, 24, 34, 35, 36, 37, 38, 39, 40, 41, 42, 43, 44, 45, 46, 47, 48, 49, 50] (by decide +kernel) (by decide +kernel)) (goodIn_sub (fun _ h => List.mem_cons_of_mem _ (List.mem_append_right _ h)) (by decide +kernel))
set_option maxRecDepth 20000 in
theorem gX2_write_X2_isOf : GoodIn wsX2_write (wsV RX2 95 RX2 yX2_isOf wsX2_isOf) := goodIn_app (goodIn_of _ (by decide +kernel)) ggX2_write_X2_isOf
set_option maxRecDepth 20000 in
theorem ggX2_write_X2_found : GoodIn wsX2_write wsX2_found := goodIn_ca (goodIn_r _ [28, 29, 34, 35, 36, 37, 38, 39, 40, 41, 42, 43, 44, 45, 46, 47, 48, 49, 50] (by decide +kernel) (by decide +kernel)) (goodIn_sub (fun _ h => List.mem_cons_of_mem _ (List.mem_append_right _ h)) (by decide +kernel))
set_option maxRecDepth 20000 in
theorem gX2_write_X2_found : GoodIn wsX2_write (wsV RX2 89 RX2 yX2_found wsX2_found) := goodIn_app (goodIn_of _ (by decide +kernel)) ggX2_write_X2_found
set_option maxRecDepth 20000 in
theorem ggX2_write_X2_low : GoodIn wsX2_write wsX2_low := goodIn_r _ [32, 33] (by decide +kernel) (by decide +kernel)
set_option maxRecDepth 20000 in
theorem gX2_write_X2_low : GoodIn wsX2_write (va_wsS RX2 114 yX2_low wsX2_low) := goodIn_app (goodIn_of _ (by decide +kernel)) ggX2_write_X2_low
theorem dX2_write_0 : decode cX2_write 0 = .ok (.aload_n 0, 1) := by decide +kernel
theorem dX2_write_1 : decode cX2_write 1 = .ok (.iconst 0, 1) := by decide +kernel
theorem dX2_write_2 : decode cX2_write 2 = .ok (.putfield 59, 3) := by decide +kernel
theorem dX2_write_5 : decode cX2_write 5 = .ok (.aload_n 0, 1) := by decide +kernel
theorem dX2_write_6 : decode cX2_write 6 = .ok (.iload_n 1, 1) := by decide +kernel
theorem dX2_write_7 : decode cX2_write 7 = .ok (.iload_n 2, 1) := by decide +kernel
theorem dX2_write_8 : decode cX2_write 8 = .ok (.iconst 5, 1) := by decide +kernel
theorem dX2_write_9 : decode cX2_write 9 = .ok (.bipush 8, 2) := by decide +kernel
theorem dX2_write_11 : decode cX2_write 11 = .ok (.invokevirtual 104, 3) := by decide +kernel
theorem dX2_write_14 : decode cX2_write 14 = .ok (.istore 6, 2) := by decide +kernel
theorem dX2_write_16 : decode cX2_write 16 = .ok (.iload 6, 2) := by decide +kernel
theorem dX2_write_18 : decode cX2_write 18 = .ok (.ifCond .ge 6, 3) := by decide +kernel
theorem dX2_write_21 : decode cX2_write 21 = .ok (.iload 6, 2) := by decide +kernel
theorem dX2_write_23 : decode cX2_write 23 = .ok (.ireturn, 1) := by decide +kernel
theorem dX2_write_24 : decode cX2_write 24 = .ok (.iload_n 2, 1) := by decide +kernel
theorem dX2_write_25 : decode cX2_write 25 = .ok (.bipush 8, 2) := by decide +kernel
theorem dX2_write_27 : decode cX2_write 27 = .ok (.if_icmp .ne 20, 3) := by decide +kernel
theorem dX2_write_30 : decode cX2_write 30 = .ok (.lload 4, 2) := by decide +kernel
theorem dX2_write_32 : decode cX2_write 32 = .ok (.ldc2_w 110, 3) := by decide +kernel
theorem dX2_write_35 : decode cX2_write 35 = .ok (.ldc2_w 112, 3) := by decide +kernel
theorem dX2_write_38 : decode cX2_write 38 = .ok (.invokestatic 66, 3) := by decide +kernel
theorem dX2_write_41 : decode cX2_write 41 = .ok (.ifCond .ne 6, 3) := by decide +kernel
theorem dX2_write_44 : decode cX2_write 44 = .ok (.bipush (-2), 2) := by decide +kernel
theorem dX2_write_46 : decode cX2_write 46 = .ok (.ireturn, 1) := by decide +kernel
theorem dX2_write_47 : decode cX2_write 47 = .ok (.aload_n 0, 1) := by decide +kernel
theorem dX2_write_48 : decode cX2_write 48 = .ok (.iload_n 1, 1) := by decide +kernel
theorem dX2_write_49 : decode cX2_write 49 = .ok (.iload_n 2, 1) := by decide +kernel
theorem dX2_write_50 : decode cX2_write 50 = .ok (.invokevirtual 95, 3) := by decide +kernel
theorem dX2_write_53 : decode cX2_write 53 = .ok (.ifCond .ne 9, 3) := by decide +kernel
theorem dX2_write_56 : decode cX2_write 56 = .ok (.aload_n 0, 1) := by decide +kernel
theorem dX2_write_57 : decode cX2_write 57 = .ok (.iconst 1, 1) := by decide +kernel
theorem dX2_write_58 : decode cX2_write 58 = .ok (.invokevirtual 89, 3) := by decide +kernel
theorem dX2_write_61 : decode cX2_write 61 = .ok (.ireturn, 1) := by decide +kernel
theorem dX2_write_62 : decode cX2_write 62 = .ok (.iload_n 3, 1) := by decide +kernel
theorem dX2_write_63 : decode cX2_write 63 = .ok (.i2l, 1) := by decide +kernel
theorem dX2_write_64 : decode cX2_write 64 = .ok (.lconst 0, 1) := by decide +kernel
theorem dX2_write_65 : decode cX2_write 65 = .ok (.aload_n 0, 1) := by decide +kernel
theorem dX2_write_66 : decode cX2_write 66 = .ok (.getfield 16, 3) := by decide +kernel
theorem dX2_write_69 : decode cX2_write 69 = .ok (.iload_n 1, 1) := by decide +kernel
theorem dX2_write_70 : decode cX2_write 70 = .ok (.iaload, 1) := by decide +kernel
theorem dX2_write_71 : decode cX2_write 71 = .ok (.iconst 1, 1) := by decide +kernel
theorem dX2_write_72 : decode cX2_write 72 = .ok (.isub, 1) := by decide +kernel
theorem dX2_write_73 : decode cX2_write 73 = .ok (.i2l, 1) := by decide +kernel
theorem dX2_write_74 : decode cX2_write 74 = .ok (.invokestatic 66, 3) := by decide +kernel
theorem dX2_write_77 : decode cX2_write 77 = .ok (.ifCond .ne 9, 3) := by decide +kernel
theorem dX2_write_80 : decode cX2_write 80 = .ok (.aload_n 0, 1) := by decide +kernel
theorem dX2_write_81 : decode cX2_write 81 = .ok (.iconst 3, 1) := by decide +kernel
theorem dX2_write_82 : decode cX2_write 82 = .ok (.invokevirtual 89, 3) := by decide +kernel
theorem dX2_write_85 : decode cX2_write 85 = .ok (.ireturn, 1) := by decide +kernel
theorem dX2_write_86 : decode cX2_write 86 = .ok (.aload_n 0, 1) := by decide +kernel
theorem dX2_write_87 : decode cX2_write 87 = .ok (.getfield 19, 3) := by decide +kernel
theorem dX2_write_90 : decode cX2_write 90 = .ok (.bipush 10, 2) := by decide +kernel
theorem dX2_write_92 : decode cX2_write 92 = .ok (.iload_n 1, 1) := by decide +kernel
theorem dX2_write_93 : decode cX2_write 93 = .ok (.imul, 1) := by decide +kernel
theorem dX2_write_94 : decode cX2_write 94 = .ok (.iload_n 3, 1) := by decide +kernel
theorem dX2_write_95 : decode cX2_write 95 = .ok (.iadd, 1) := by decide +kernel
theorem dX2_write_96 : decode cX2_write 96 = .ok (.iload_n 2, 1) := by decide +kernel
theorem dX2_write_97 : decode cX2_write 97 = .ok (.lload 4, 2) := by decide +kernel
theorem dX2_write_99 : decode cX2_write 99 = .ok (.invokestatic 114, 3) := by decide +kernel
theorem dX2_write_102 : decode cX2_write 102 = .ok (.lastore, 1) := by decide +kernel
theorem dX2_write_103 : decode cX2_write 103 = .ok (.iconst 1, 1) := by decide +kernel
theorem dX2_write_104 : decode cX2_write 104 = .ok (.ireturn, 1) := by decide +kernel
set_option maxRecDepth 20000 in
theorem ggX2_read_X2_refusal : GoodIn wsX2_read wsX2_refusal := goodIn_r _ [8, 9, 10, 11, 7, 12, 13, 14, 15, 16, 23, 24, 25, 26, 27, 28, 29, 30, 31, 32, 33, 34, 35, 36, 37, 38, 39] (by decide +kernel) (by decide +kernel)
set_option maxRecDepth 20000 in
theorem gX2_read_X2_refusal : GoodIn wsX2_read (wsV RX2 104 RX2 yX2_refusal wsX2_refusal) := goodIn_app (goodIn_of _ (by decide +kernel)) ggX2_read_X2_refusal
set_option maxRecDepth 20000 in
theorem ggX2_read_X2_isOf : GoodIn wsX2_read wsX2_isOf := goodIn_ca (goodIn_r _ [20, 21, 22, 23, 24, 25, 26, 27, 28, 29, 30, 31, 32, 33, 34, 35, 36, 37, 38, 39] (by decide +kernel) (by decide +kernel)) (goodIn_sub (fun _ h => List.mem_cons_of_mem _ (List.mem_append_right _ h)) (by decide +kernel))
set_option maxRecDepth 20000 in
theorem gX2_read_X2_isOf : GoodIn wsX2_read (wsV RX2 95 RX2 yX2_isOf wsX2_isOf) := goodIn_app (goodIn_of _ (by decide +kernel)) ggX2_read_X2_isOf
set_option maxRecDepth 20000 in
theorem ggX2_read_X2_in : GoodIn wsX2_read wsX2_in := goodIn_r _ [16] (by decide +kernel) (by decide +kernel)
set_option maxRecDepth 20000 in
theorem gX2_read_X2_in : GoodIn wsX2_read (va_wsS RX2 66 yX2_in wsX2_in) := goodIn_app (goodIn_of _ (by decide +kernel)) ggX2_read_X2_in
theorem dX2_read_0 : decode cX2_read 0 = .ok (.aload_n 0, 1) := by decide +kernel
theorem dX2_read_1 : decode cX2_read 1 = .ok (.iconst 0, 1) := by decide +kernel
theorem dX2_read_2 : decode cX2_read 2 = .ok (.putfield 59, 3) := by decide +kernel
theorem dX2_read_5 : decode cX2_read 5 = .ok (.aload_n 0, 1) := by decide +kernel
theorem dX2_read_6 : decode cX2_read 6 = .ok (.iload_n 1, 1) := by decide +kernel
theorem dX2_read_7 : decode cX2_read 7 = .ok (.iload_n 2, 1) := by decide +kernel
theorem dX2_read_8 : decode cX2_read 8 = .ok (.iconst 5, 1) := by decide +kernel
theorem dX2_read_9 : decode cX2_read 9 = .ok (.bipush 8, 2) := by decide +kernel
theorem dX2_read_11 : decode cX2_read 11 = .ok (.invokevirtual 104, 3) := by decide +kernel
theorem dX2_read_14 : decode cX2_read 14 = .ok (.ifCond .ge 5, 3) := by decide +kernel
theorem dX2_read_17 : decode cX2_read 17 = .ok (.lconst 0, 1) := by decide +kernel
theorem dX2_read_18 : decode cX2_read 18 = .ok (.lreturn, 1) := by decide +kernel
theorem dX2_read_19 : decode cX2_read 19 = .ok (.aload_n 0, 1) := by decide +kernel
theorem dX2_read_20 : decode cX2_read 20 = .ok (.aload_n 0, 1) := by decide +kernel
theorem dX2_read_21 : decode cX2_read 21 = .ok (.iload_n 1, 1) := by decide +kernel
theorem dX2_read_22 : decode cX2_read 22 = .ok (.iload_n 2, 1) := by decide +kernel
theorem dX2_read_23 : decode cX2_read 23 = .ok (.invokevirtual 95, 3) := by decide +kernel
theorem dX2_read_26 : decode cX2_read 26 = .ok (.ifCond .ne 7, 3) := by decide +kernel
theorem dX2_read_29 : decode cX2_read 29 = .ok (.iconst 1, 1) := by decide +kernel
theorem dX2_read_30 : decode cX2_read 30 = .ok (.goto 26, 3) := by decide +kernel
theorem dX2_read_33 : decode cX2_read 33 = .ok (.iload_n 3, 1) := by decide +kernel
theorem dX2_read_34 : decode cX2_read 34 = .ok (.i2l, 1) := by decide +kernel
theorem dX2_read_35 : decode cX2_read 35 = .ok (.lconst 0, 1) := by decide +kernel
theorem dX2_read_36 : decode cX2_read 36 = .ok (.aload_n 0, 1) := by decide +kernel
theorem dX2_read_37 : decode cX2_read 37 = .ok (.getfield 16, 3) := by decide +kernel
theorem dX2_read_40 : decode cX2_read 40 = .ok (.iload_n 1, 1) := by decide +kernel
theorem dX2_read_41 : decode cX2_read 41 = .ok (.iaload, 1) := by decide +kernel
theorem dX2_read_42 : decode cX2_read 42 = .ok (.iconst 1, 1) := by decide +kernel
theorem dX2_read_43 : decode cX2_read 43 = .ok (.isub, 1) := by decide +kernel
theorem dX2_read_44 : decode cX2_read 44 = .ok (.i2l, 1) := by decide +kernel
theorem dX2_read_45 : decode cX2_read 45 = .ok (.invokestatic 66, 3) := by decide +kernel
theorem dX2_read_48 : decode cX2_read 48 = .ok (.ifCond .ne 7, 3) := by decide +kernel
theorem dX2_read_51 : decode cX2_read 51 = .ok (.iconst 2, 1) := by decide +kernel
theorem dX2_read_52 : decode cX2_read 52 = .ok (.goto 4, 3) := by decide +kernel
theorem dX2_read_55 : decode cX2_read 55 = .ok (.iconst 0, 1) := by decide +kernel
theorem dX2_read_56 : decode cX2_read 56 = .ok (.putfield 59, 3) := by decide +kernel
theorem dX2_read_59 : decode cX2_read 59 = .ok (.aload_n 0, 1) := by decide +kernel
theorem dX2_read_60 : decode cX2_read 60 = .ok (.getfield 59, 3) := by decide +kernel
theorem dX2_read_63 : decode cX2_read 63 = .ok (.ifCond .le 7, 3) := by decide +kernel
theorem dX2_read_66 : decode cX2_read 66 = .ok (.lconst 0, 1) := by decide +kernel
theorem dX2_read_67 : decode cX2_read 67 = .ok (.goto 14, 3) := by decide +kernel
theorem dX2_read_70 : decode cX2_read 70 = .ok (.aload_n 0, 1) := by decide +kernel
theorem dX2_read_71 : decode cX2_read 71 = .ok (.getfield 19, 3) := by decide +kernel
theorem dX2_read_74 : decode cX2_read 74 = .ok (.bipush 10, 2) := by decide +kernel
theorem dX2_read_76 : decode cX2_read 76 = .ok (.iload_n 1, 1) := by decide +kernel
theorem dX2_read_77 : decode cX2_read 77 = .ok (.imul, 1) := by decide +kernel
theorem dX2_read_78 : decode cX2_read 78 = .ok (.iload_n 3, 1) := by decide +kernel
theorem dX2_read_79 : decode cX2_read 79 = .ok (.iadd, 1) := by decide +kernel
theorem dX2_read_80 : decode cX2_read 80 = .ok (.laload, 1) := by decide +kernel
theorem dX2_read_81 : decode cX2_read 81 = .ok (.lreturn, 1) := by decide +kernel
set_option maxRecDepth 20000 in
theorem ggX2_hang_X2_isThing : GoodIn wsX2_hang wsX2_isThing := goodIn_r _ [12, 13, 14, 15, 11, 16, 27, 28, 29, 30, 31, 32, 33, 34, 35, 36, 37, 38, 39, 40, 41, 42, 43] (by decide +kernel) (by decide +kernel)
set_option maxRecDepth 20000 in
theorem gX2_hang_X2_isThing : GoodIn wsX2_hang (wsV RX2 70 RX2 yX2_isThing wsX2_isThing) := goodIn_app (goodIn_of _ (by decide +kernel)) ggX2_hang_X2_isThing
set_option maxRecDepth 20000 in
theorem ggX2_hang_X2_in : GoodIn wsX2_hang wsX2_in := goodIn_r _ [16] (by decide +kernel) (by decide +kernel)
set_option maxRecDepth 20000 in
theorem gX2_hang_X2_in : GoodIn wsX2_hang (va_wsS RX2 66 yX2_in wsX2_in) := goodIn_app (goodIn_of _ (by decide +kernel)) ggX2_hang_X2_in
set_option maxRecDepth 20000 in
theorem ggX2_hang_X2_isOf : GoodIn wsX2_hang wsX2_isOf := goodIn_ca (goodIn_r _ [20, 21, 6, 27, 28, 29, 30, 31, 32, 33, 34, 35, 36, 37, 38, 39, 40, 41, 42, 43] (by decide +kernel) (by decide +kernel)) (goodIn_sub (fun _ h => List.mem_cons_of_mem _ (List.mem_append_right _ h)) (by decide +kernel))
set_option maxRecDepth 20000 in
theorem gX2_hang_X2_isOf : GoodIn wsX2_hang (wsV RX2 95 RX2 yX2_isOf wsX2_isOf) := goodIn_app (goodIn_of _ (by decide +kernel)) ggX2_hang_X2_isOf
set_option maxRecDepth 20000 in
theorem ggX2_hang_X2_found : GoodIn wsX2_hang wsX2_found := goodIn_ca (goodIn_r _ [25, 26, 27, 28, 29, 30, 31, 32, 33, 34, 35, 36, 37, 38, 39, 40, 41, 42, 43] (by decide +kernel) (by decide +kernel)) (goodIn_sub (fun _ h => List.mem_cons_of_mem _ (List.mem_append_right _ h)) (by decide +kernel))
set_option maxRecDepth 20000 in
theorem gX2_hang_X2_found : GoodIn wsX2_hang (wsV RX2 89 RX2 yX2_found wsX2_found) := goodIn_app (goodIn_of _ (by decide +kernel)) ggX2_hang_X2_found
theorem dX2_hang_0 : decode cX2_hang 0 = .ok (.aload_n 0, 1) := by decide +kernel
theorem dX2_hang_1 : decode cX2_hang 1 = .ok (.iconst 0, 1) := by decide +kernel
theorem dX2_hang_2 : decode cX2_hang 2 = .ok (.putfield 59, 3) := by decide +kernel
theorem dX2_hang_5 : decode cX2_hang 5 = .ok (.aload_n 0, 1) := by decide +kernel
theorem dX2_hang_6 : decode cX2_hang 6 = .ok (.iload_n 1, 1) := by decide +kernel
theorem dX2_hang_7 : decode cX2_hang 7 = .ok (.invokevirtual 70, 3) := by decide +kernel
theorem dX2_hang_10 : decode cX2_hang 10 = .ok (.ifCond .eq 19, 3) := by decide +kernel
theorem dX2_hang_13 : decode cX2_hang 13 = .ok (.iload 4, 2) := by decide +kernel
theorem dX2_hang_15 : decode cX2_hang 15 = .ok (.bipush (-5), 2) := by decide +kernel
theorem dX2_hang_17 : decode cX2_hang 17 = .ok (.if_icmp .eq 14, 3) := by decide +kernel
theorem dX2_hang_20 : decode cX2_hang 20 = .ok (.aload_n 0, 1) := by decide +kernel
theorem dX2_hang_21 : decode cX2_hang 21 = .ok (.iload 4, 2) := by decide +kernel
theorem dX2_hang_23 : decode cX2_hang 23 = .ok (.invokevirtual 70, 3) := by decide +kernel
theorem dX2_hang_26 : decode cX2_hang 26 = .ok (.ifCond .ne 5, 3) := by decide +kernel
theorem dX2_hang_29 : decode cX2_hang 29 = .ok (.iconst (-1), 1) := by decide +kernel
theorem dX2_hang_30 : decode cX2_hang 30 = .ok (.ireturn, 1) := by decide +kernel
theorem dX2_hang_31 : decode cX2_hang 31 = .ok (.iload_n 2, 1) := by decide +kernel
theorem dX2_hang_32 : decode cX2_hang 32 = .ok (.i2l, 1) := by decide +kernel
theorem dX2_hang_33 : decode cX2_hang 33 = .ok (.ldc2_w 118, 3) := by decide +kernel
theorem dX2_hang_36 : decode cX2_hang 36 = .ok (.ldc2_w 87, 3) := by decide +kernel
theorem dX2_hang_39 : decode cX2_hang 39 = .ok (.invokestatic 66, 3) := by decide +kernel
theorem dX2_hang_42 : decode cX2_hang 42 = .ok (.ifCond .ne 6, 3) := by decide +kernel
theorem dX2_hang_45 : decode cX2_hang 45 = .ok (.bipush (-2), 2) := by decide +kernel
theorem dX2_hang_47 : decode cX2_hang 47 = .ok (.ireturn, 1) := by decide +kernel
theorem dX2_hang_48 : decode cX2_hang 48 = .ok (.aload_n 0, 1) := by decide +kernel
theorem dX2_hang_49 : decode cX2_hang 49 = .ok (.iload_n 1, 1) := by decide +kernel
theorem dX2_hang_50 : decode cX2_hang 50 = .ok (.iload_n 2, 1) := by decide +kernel
theorem dX2_hang_51 : decode cX2_hang 51 = .ok (.invokevirtual 95, 3) := by decide +kernel
theorem dX2_hang_54 : decode cX2_hang 54 = .ok (.ifCond .eq 25, 3) := by decide +kernel
theorem dX2_hang_57 : decode cX2_hang 57 = .ok (.iload 4, 2) := by decide +kernel
theorem dX2_hang_59 : decode cX2_hang 59 = .ok (.bipush (-5), 2) := by decide +kernel
theorem dX2_hang_61 : decode cX2_hang 61 = .ok (.if_icmp .eq 24, 3) := by decide +kernel
theorem dX2_hang_64 : decode cX2_hang 64 = .ok (.aload_n 0, 1) := by decide +kernel
theorem dX2_hang_65 : decode cX2_hang 65 = .ok (.iload 4, 2) := by decide +kernel
theorem dX2_hang_67 : decode cX2_hang 67 = .ok (.aload_n 0, 1) := by decide +kernel
theorem dX2_hang_68 : decode cX2_hang 68 = .ok (.getfield 35, 3) := by decide +kernel
theorem dX2_hang_71 : decode cX2_hang 71 = .ok (.iload_n 2, 1) := by decide +kernel
theorem dX2_hang_72 : decode cX2_hang 72 = .ok (.iaload, 1) := by decide +kernel
theorem dX2_hang_73 : decode cX2_hang 73 = .ok (.invokevirtual 95, 3) := by decide +kernel
theorem dX2_hang_76 : decode cX2_hang 76 = .ok (.ifCond .ne 9, 3) := by decide +kernel
theorem dX2_hang_79 : decode cX2_hang 79 = .ok (.aload_n 0, 1) := by decide +kernel
theorem dX2_hang_80 : decode cX2_hang 80 = .ok (.iconst 1, 1) := by decide +kernel
theorem dX2_hang_81 : decode cX2_hang 81 = .ok (.invokevirtual 89, 3) := by decide +kernel
theorem dX2_hang_84 : decode cX2_hang 84 = .ok (.ireturn, 1) := by decide +kernel
theorem dX2_hang_85 : decode cX2_hang 85 = .ok (.iload_n 3, 1) := by decide +kernel
theorem dX2_hang_86 : decode cX2_hang 86 = .ok (.i2l, 1) := by decide +kernel
theorem dX2_hang_87 : decode cX2_hang 87 = .ok (.lconst 0, 1) := by decide +kernel
theorem dX2_hang_88 : decode cX2_hang 88 = .ok (.aload_n 0, 1) := by decide +kernel
theorem dX2_hang_89 : decode cX2_hang 89 = .ok (.getfield 16, 3) := by decide +kernel
theorem dX2_hang_92 : decode cX2_hang 92 = .ok (.iload_n 1, 1) := by decide +kernel
theorem dX2_hang_93 : decode cX2_hang 93 = .ok (.iaload, 1) := by decide +kernel
theorem dX2_hang_94 : decode cX2_hang 94 = .ok (.iconst 1, 1) := by decide +kernel
theorem dX2_hang_95 : decode cX2_hang 95 = .ok (.isub, 1) := by decide +kernel
theorem dX2_hang_96 : decode cX2_hang 96 = .ok (.i2l, 1) := by decide +kernel
theorem dX2_hang_97 : decode cX2_hang 97 = .ok (.invokestatic 66, 3) := by decide +kernel
theorem dX2_hang_100 : decode cX2_hang 100 = .ok (.ifCond .ne 9, 3) := by decide +kernel
theorem dX2_hang_103 : decode cX2_hang 103 = .ok (.aload_n 0, 1) := by decide +kernel
theorem dX2_hang_104 : decode cX2_hang 104 = .ok (.iconst 3, 1) := by decide +kernel
theorem dX2_hang_105 : decode cX2_hang 105 = .ok (.invokevirtual 89, 3) := by decide +kernel
theorem dX2_hang_108 : decode cX2_hang 108 = .ok (.ireturn, 1) := by decide +kernel
theorem dX2_hang_109 : decode cX2_hang 109 = .ok (.iload 4, 2) := by decide +kernel
theorem dX2_hang_111 : decode cX2_hang 111 = .ok (.bipush (-5), 2) := by decide +kernel
theorem dX2_hang_113 : decode cX2_hang 113 = .ok (.if_icmp .eq 29, 3) := by decide +kernel
theorem dX2_hang_116 : decode cX2_hang 116 = .ok (.aload_n 0, 1) := by decide +kernel
theorem dX2_hang_117 : decode cX2_hang 117 = .ok (.iload 4, 2) := by decide +kernel
theorem dX2_hang_119 : decode cX2_hang 119 = .ok (.aload_n 0, 1) := by decide +kernel
theorem dX2_hang_120 : decode cX2_hang 120 = .ok (.getfield 35, 3) := by decide +kernel
theorem dX2_hang_123 : decode cX2_hang 123 = .ok (.aload_n 0, 1) := by decide +kernel
theorem dX2_hang_124 : decode cX2_hang 124 = .ok (.getfield 7, 3) := by decide +kernel
theorem dX2_hang_127 : decode cX2_hang 127 = .ok (.iload_n 1, 1) := by decide +kernel
theorem dX2_hang_128 : decode cX2_hang 128 = .ok (.iaload, 1) := by decide +kernel
theorem dX2_hang_129 : decode cX2_hang 129 = .ok (.iaload, 1) := by decide +kernel
theorem dX2_hang_130 : decode cX2_hang 130 = .ok (.invokevirtual 95, 3) := by decide +kernel
theorem dX2_hang_133 : decode cX2_hang 133 = .ok (.ifCond .ne 9, 3) := by decide +kernel
theorem dX2_hang_136 : decode cX2_hang 136 = .ok (.aload_n 0, 1) := by decide +kernel
theorem dX2_hang_137 : decode cX2_hang 137 = .ok (.iconst 4, 1) := by decide +kernel
theorem dX2_hang_138 : decode cX2_hang 138 = .ok (.invokevirtual 89, 3) := by decide +kernel
theorem dX2_hang_141 : decode cX2_hang 141 = .ok (.ireturn, 1) := by decide +kernel
theorem dX2_hang_142 : decode cX2_hang 142 = .ok (.aload_n 0, 1) := by decide +kernel
theorem dX2_hang_143 : decode cX2_hang 143 = .ok (.getfield 23, 3) := by decide +kernel
theorem dX2_hang_146 : decode cX2_hang 146 = .ok (.bipush 10, 2) := by decide +kernel
theorem dX2_hang_148 : decode cX2_hang 148 = .ok (.iload_n 1, 1) := by decide +kernel
theorem dX2_hang_149 : decode cX2_hang 149 = .ok (.imul, 1) := by decide +kernel
theorem dX2_hang_150 : decode cX2_hang 150 = .ok (.iload_n 3, 1) := by decide +kernel
theorem dX2_hang_151 : decode cX2_hang 151 = .ok (.iadd, 1) := by decide +kernel
theorem dX2_hang_152 : decode cX2_hang 152 = .ok (.iload 4, 2) := by decide +kernel
theorem dX2_hang_154 : decode cX2_hang 154 = .ok (.bipush (-5), 2) := by decide +kernel
theorem dX2_hang_156 : decode cX2_hang 156 = .ok (.if_icmp .ne 7, 3) := by decide +kernel
theorem dX2_hang_159 : decode cX2_hang 159 = .ok (.iconst (-1), 1) := by decide +kernel
theorem dX2_hang_160 : decode cX2_hang 160 = .ok (.goto 5, 3) := by decide +kernel
theorem dX2_hang_163 : decode cX2_hang 163 = .ok (.iload 4, 2) := by decide +kernel
theorem dX2_hang_165 : decode cX2_hang 165 = .ok (.iastore, 1) := by decide +kernel
theorem dX2_hang_166 : decode cX2_hang 166 = .ok (.iconst 1, 1) := by decide +kernel
theorem dX2_hang_167 : decode cX2_hang 167 = .ok (.ireturn, 1) := by decide +kernel
set_option maxRecDepth 20000 in
theorem ggX2_at_X2_refusal : GoodIn wsX2_at wsX2_refusal := goodIn_r _ [8, 9, 10, 11, 7, 12, 13, 14, 15, 16, 31, 32, 33, 34, 35, 36, 37, 38, 39, 40, 41, 42, 43, 44, 45, 46, 47] (by decide +kernel) (by decide +kernel)
set_option maxRecDepth 20000 in
theorem gX2_at_X2_refusal : GoodIn wsX2_at (wsV RX2 104 RX2 yX2_refusal wsX2_refusal) := goodIn_app (goodIn_of _ (by decide +kernel)) ggX2_at_X2_refusal
set_option maxRecDepth 20000 in
theorem ggX2_at_X2_isOf : GoodIn wsX2_at wsX2_isOf := goodIn_ca (goodIn_r _ [20, 21, 22, 31, 32, 33, 34, 35, 36, 37, 38, 39, 40, 41, 42, 43, 44, 45, 46, 47] (by decide +kernel) (by decide +kernel)) (goodIn_sub (fun _ h => List.mem_cons_of_mem _ (List.mem_append_right _ h)) (by decide +kernel))
set_option maxRecDepth 20000 in
theorem gX2_at_X2_isOf : GoodIn wsX2_at (wsV RX2 95 RX2 yX2_isOf wsX2_isOf) := goodIn_app (goodIn_of _ (by decide +kernel)) ggX2_at_X2_isOf
set_option maxRecDepth 20000 in
theorem ggX2_at_X2_found : GoodIn wsX2_at wsX2_found := goodIn_ca (goodIn_r _ [26, 27, 31, 32, 33, 34, 35, 36, 37, 38, 39, 40, 41, 42, 43, 44, 45, 46, 47] (by decide +kernel) (by decide +kernel)) (goodIn_sub (fun _ h => List.mem_cons_of_mem _ (List.mem_append_right _ h)) (by decide +kernel))
set_option maxRecDepth 20000 in
theorem gX2_at_X2_found : GoodIn wsX2_at (wsV RX2 89 RX2 yX2_found wsX2_found) := goodIn_app (goodIn_of _ (by decide +kernel)) ggX2_at_X2_found
set_option maxRecDepth 20000 in
theorem ggX2_at_X2_in : GoodIn wsX2_at wsX2_in := goodIn_r _ [16] (by decide +kernel) (by decide +kernel)
set_option maxRecDepth 20000 in
theorem gX2_at_X2_in : GoodIn wsX2_at (va_wsS RX2 66 yX2_in wsX2_in) := goodIn_app (goodIn_of _ (by decide +kernel)) ggX2_at_X2_in
set_option maxRecDepth 20000 in
theorem ggX2_at_X2_told : GoodIn wsX2_at wsX2_told := goodIn_r _ [30] (by decide +kernel) (by decide +kernel)
set_option maxRecDepth 20000 in
theorem gX2_at_X2_told : GoodIn wsX2_at (va_wsS RX2 120 yX2_told wsX2_told) := goodIn_app (goodIn_of _ (by decide +kernel)) ggX2_at_X2_told
theorem dX2_at_0 : decode cX2_at 0 = .ok (.aload_n 0, 1) := by decide +kernel
theorem dX2_at_1 : decode cX2_at 1 = .ok (.iconst 0, 1) := by decide +kernel
theorem dX2_at_2 : decode cX2_at 2 = .ok (.putfield 59, 3) := by decide +kernel
theorem dX2_at_5 : decode cX2_at 5 = .ok (.aload_n 0, 1) := by decide +kernel
theorem dX2_at_6 : decode cX2_at 6 = .ok (.iload_n 1, 1) := by decide +kernel
