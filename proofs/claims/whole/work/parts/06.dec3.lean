theorem dX7_init_0 : decode cX7_init 0 = .ok (.aload_n 0, 1) := by decide +kernel
theorem dX7_init_1 : decode cX7_init 1 = .ok (.invokespecial 1, 3) := by decide +kernel
theorem dX7_init_4 : decode cX7_init 4 = .ok (.aload_n 0, 1) := by decide +kernel
theorem dX7_init_5 : decode cX7_init 5 = .ok (.bipush 114, 2) := by decide +kernel
theorem dX7_init_7 : decode cX7_init 7 = .ok (.newarray .int, 2) := by decide +kernel
theorem dX7_init_9 : decode cX7_init 9 = .ok (.putfield 9, 3) := by decide +kernel
theorem dX7_init_12 : decode cX7_init 12 = .ok (.aload_n 0, 1) := by decide +kernel
theorem dX7_init_13 : decode cX7_init 13 = .ok (.bipush 114, 2) := by decide +kernel
theorem dX7_init_15 : decode cX7_init 15 = .ok (.newarray .int, 2) := by decide +kernel
theorem dX7_init_17 : decode cX7_init 17 = .ok (.putfield 13, 3) := by decide +kernel
theorem dX7_init_20 : decode cX7_init 20 = .ok (.aload_n 0, 1) := by decide +kernel
theorem dX7_init_21 : decode cX7_init 21 = .ok (.bipush 114, 2) := by decide +kernel
theorem dX7_init_23 : decode cX7_init 23 = .ok (.newarray .int, 2) := by decide +kernel
theorem dX7_init_25 : decode cX7_init 25 = .ok (.putfield 16, 3) := by decide +kernel
theorem dX7_init_28 : decode cX7_init 28 = .ok (.aload_n 0, 1) := by decide +kernel
theorem dX7_init_29 : decode cX7_init 29 = .ok (.bipush 7, 2) := by decide +kernel
theorem dX7_init_31 : decode cX7_init 31 = .ok (.newarray .int, 2) := by decide +kernel
theorem dX7_init_33 : decode cX7_init 33 = .ok (.putfield 19, 3) := by decide +kernel
theorem dX7_init_36 : decode cX7_init 36 = .ok (.aload_n 0, 1) := by decide +kernel
theorem dX7_init_37 : decode cX7_init 37 = .ok (.bipush 8, 2) := by decide +kernel
theorem dX7_init_39 : decode cX7_init 39 = .ok (.newarray .int, 2) := by decide +kernel
theorem dX7_init_41 : decode cX7_init 41 = .ok (.putfield 22, 3) := by decide +kernel
theorem dX7_init_44 : decode cX7_init 44 = .ok (.aload_n 0, 1) := by decide +kernel
theorem dX7_init_45 : decode cX7_init 45 = .ok (.iconst 5, 1) := by decide +kernel
theorem dX7_init_46 : decode cX7_init 46 = .ok (.newarray .int, 2) := by decide +kernel
theorem dX7_init_48 : decode cX7_init 48 = .ok (.putfield 25, 3) := by decide +kernel
theorem dX7_init_51 : decode cX7_init 51 = .ok (.aload_n 0, 1) := by decide +kernel
theorem dX7_init_52 : decode cX7_init 52 = .ok (.iconst 5, 1) := by decide +kernel
theorem dX7_init_53 : decode cX7_init 53 = .ok (.newarray .int, 2) := by decide +kernel
theorem dX7_init_55 : decode cX7_init 55 = .ok (.putfield 28, 3) := by decide +kernel
theorem dX7_init_58 : decode cX7_init 58 = .ok (.aload_n 0, 1) := by decide +kernel
theorem dX7_init_59 : decode cX7_init 59 = .ok (.bipush 120, 2) := by decide +kernel
theorem dX7_init_61 : decode cX7_init 61 = .ok (.newarray .int, 2) := by decide +kernel
theorem dX7_init_63 : decode cX7_init 63 = .ok (.putfield 31, 3) := by decide +kernel
theorem dX7_init_66 : decode cX7_init 66 = .ok (.aload_n 0, 1) := by decide +kernel
theorem dX7_init_67 : decode cX7_init 67 = .ok (.bipush 56, 2) := by decide +kernel
theorem dX7_init_69 : decode cX7_init 69 = .ok (.newarray .char, 2) := by decide +kernel
theorem dX7_init_71 : decode cX7_init 71 = .ok (.dup, 1) := by decide +kernel
theorem dX7_init_72 : decode cX7_init 72 = .ok (.iconst 0, 1) := by decide +kernel
theorem dX7_init_73 : decode cX7_init 73 = .ok (.bipush 98, 2) := by decide +kernel
theorem dX7_init_75 : decode cX7_init 75 = .ok (.castore, 1) := by decide +kernel
theorem dX7_init_76 : decode cX7_init 76 = .ok (.dup, 1) := by decide +kernel
theorem dX7_init_77 : decode cX7_init 77 = .ok (.iconst 1, 1) := by decide +kernel
theorem dX7_init_78 : decode cX7_init 78 = .ok (.bipush 105, 2) := by decide +kernel
theorem dX7_init_80 : decode cX7_init 80 = .ok (.castore, 1) := by decide +kernel
theorem dX7_init_81 : decode cX7_init 81 = .ok (.dup, 1) := by decide +kernel
theorem dX7_init_82 : decode cX7_init 82 = .ok (.iconst 2, 1) := by decide +kernel
theorem dX7_init_83 : decode cX7_init 83 = .ok (.bipush 114, 2) := by decide +kernel
theorem dX7_init_85 : decode cX7_init 85 = .ok (.castore, 1) := by decide +kernel
theorem dX7_init_86 : decode cX7_init 86 = .ok (.dup, 1) := by decide +kernel
theorem dX7_init_87 : decode cX7_init 87 = .ok (.iconst 3, 1) := by decide +kernel
theorem dX7_init_88 : decode cX7_init 88 = .ok (.bipush 100, 2) := by decide +kernel
theorem dX7_init_90 : decode cX7_init 90 = .ok (.castore, 1) := by decide +kernel
theorem dX7_init_91 : decode cX7_init 91 = .ok (.dup, 1) := by decide +kernel
theorem dX7_init_92 : decode cX7_init 92 = .ok (.iconst 4, 1) := by decide +kernel
theorem dX7_init_93 : decode cX7_init 93 = .ok (.bipush 32, 2) := by decide +kernel
theorem dX7_init_95 : decode cX7_init 95 = .ok (.castore, 1) := by decide +kernel
theorem dX7_init_96 : decode cX7_init 96 = .ok (.dup, 1) := by decide +kernel
theorem dX7_init_97 : decode cX7_init 97 = .ok (.iconst 5, 1) := by decide +kernel
theorem dX7_init_98 : decode cX7_init 98 = .ok (.bipush 32, 2) := by decide +kernel
theorem dX7_init_100 : decode cX7_init 100 = .ok (.castore, 1) := by decide +kernel
theorem dX7_init_101 : decode cX7_init 101 = .ok (.dup, 1) := by decide +kernel
theorem dX7_init_102 : decode cX7_init 102 = .ok (.bipush 6, 2) := by decide +kernel
theorem dX7_init_104 : decode cX7_init 104 = .ok (.bipush 32, 2) := by decide +kernel
theorem dX7_init_106 : decode cX7_init 106 = .ok (.castore, 1) := by decide +kernel
theorem dX7_init_107 : decode cX7_init 107 = .ok (.dup, 1) := by decide +kernel
theorem dX7_init_108 : decode cX7_init 108 = .ok (.bipush 7, 2) := by decide +kernel
theorem dX7_init_110 : decode cX7_init 110 = .ok (.bipush 32, 2) := by decide +kernel
theorem dX7_init_112 : decode cX7_init 112 = .ok (.castore, 1) := by decide +kernel
theorem dX7_init_113 : decode cX7_init 113 = .ok (.dup, 1) := by decide +kernel
theorem dX7_init_114 : decode cX7_init 114 = .ok (.bipush 8, 2) := by decide +kernel
theorem dX7_init_116 : decode cX7_init 116 = .ok (.bipush 115, 2) := by decide +kernel
theorem dX7_init_118 : decode cX7_init 118 = .ok (.castore, 1) := by decide +kernel
theorem dX7_init_119 : decode cX7_init 119 = .ok (.dup, 1) := by decide +kernel
theorem dX7_init_120 : decode cX7_init 120 = .ok (.bipush 9, 2) := by decide +kernel
theorem dX7_init_122 : decode cX7_init 122 = .ok (.bipush 119, 2) := by decide +kernel
theorem dX7_init_124 : decode cX7_init 124 = .ok (.castore, 1) := by decide +kernel
theorem dX7_init_125 : decode cX7_init 125 = .ok (.dup, 1) := by decide +kernel
theorem dX7_init_126 : decode cX7_init 126 = .ok (.bipush 10, 2) := by decide +kernel
theorem dX7_init_128 : decode cX7_init 128 = .ok (.bipush 97, 2) := by decide +kernel
theorem dX7_init_130 : decode cX7_init 130 = .ok (.castore, 1) := by decide +kernel
theorem dX7_init_131 : decode cX7_init 131 = .ok (.dup, 1) := by decide +kernel
theorem dX7_init_132 : decode cX7_init 132 = .ok (.bipush 11, 2) := by decide +kernel
theorem dX7_init_134 : decode cX7_init 134 = .ok (.bipush 110, 2) := by decide +kernel
theorem dX7_init_136 : decode cX7_init 136 = .ok (.castore, 1) := by decide +kernel
theorem dX7_init_137 : decode cX7_init 137 = .ok (.dup, 1) := by decide +kernel
theorem dX7_init_138 : decode cX7_init 138 = .ok (.bipush 12, 2) := by decide +kernel
theorem dX7_init_140 : decode cX7_init 140 = .ok (.bipush 32, 2) := by decide +kernel
theorem dX7_init_142 : decode cX7_init 142 = .ok (.castore, 1) := by decide +kernel
theorem dX7_init_143 : decode cX7_init 143 = .ok (.dup, 1) := by decide +kernel
theorem dX7_init_144 : decode cX7_init 144 = .ok (.bipush 13, 2) := by decide +kernel
theorem dX7_init_146 : decode cX7_init 146 = .ok (.bipush 32, 2) := by decide +kernel
theorem dX7_init_148 : decode cX7_init 148 = .ok (.castore, 1) := by decide +kernel
theorem dX7_init_149 : decode cX7_init 149 = .ok (.dup, 1) := by decide +kernel
theorem dX7_init_150 : decode cX7_init 150 = .ok (.bipush 14, 2) := by decide +kernel
theorem dX7_init_152 : decode cX7_init 152 = .ok (.bipush 32, 2) := by decide +kernel
theorem dX7_init_154 : decode cX7_init 154 = .ok (.castore, 1) := by decide +kernel
theorem dX7_init_155 : decode cX7_init 155 = .ok (.dup, 1) := by decide +kernel
theorem dX7_init_156 : decode cX7_init 156 = .ok (.bipush 15, 2) := by decide +kernel
theorem dX7_init_158 : decode cX7_init 158 = .ok (.bipush 32, 2) := by decide +kernel
theorem dX7_init_160 : decode cX7_init 160 = .ok (.castore, 1) := by decide +kernel
theorem dX7_init_161 : decode cX7_init 161 = .ok (.dup, 1) := by decide +kernel
theorem dX7_init_162 : decode cX7_init 162 = .ok (.bipush 16, 2) := by decide +kernel
theorem dX7_init_164 : decode cX7_init 164 = .ok (.bipush 99, 2) := by decide +kernel
theorem dX7_init_166 : decode cX7_init 166 = .ok (.castore, 1) := by decide +kernel
theorem dX7_init_167 : decode cX7_init 167 = .ok (.dup, 1) := by decide +kernel
theorem dX7_init_168 : decode cX7_init 168 = .ok (.bipush 17, 2) := by decide +kernel
theorem dX7_init_170 : decode cX7_init 170 = .ok (.bipush 114, 2) := by decide +kernel
theorem dX7_init_172 : decode cX7_init 172 = .ok (.castore, 1) := by decide +kernel
theorem dX7_init_173 : decode cX7_init 173 = .ok (.dup, 1) := by decide +kernel
theorem dX7_init_174 : decode cX7_init 174 = .ok (.bipush 18, 2) := by decide +kernel
theorem dX7_init_176 : decode cX7_init 176 = .ok (.bipush 111, 2) := by decide +kernel
theorem dX7_init_178 : decode cX7_init 178 = .ok (.castore, 1) := by decide +kernel
theorem dX7_init_179 : decode cX7_init 179 = .ok (.dup, 1) := by decide +kernel
theorem dX7_init_180 : decode cX7_init 180 = .ok (.bipush 19, 2) := by decide +kernel
theorem dX7_init_182 : decode cX7_init 182 = .ok (.bipush 119, 2) := by decide +kernel
theorem dX7_init_184 : decode cX7_init 184 = .ok (.castore, 1) := by decide +kernel
theorem dX7_init_185 : decode cX7_init 185 = .ok (.dup, 1) := by decide +kernel
theorem dX7_init_186 : decode cX7_init 186 = .ok (.bipush 20, 2) := by decide +kernel
theorem dX7_init_188 : decode cX7_init 188 = .ok (.bipush 32, 2) := by decide +kernel
theorem dX7_init_190 : decode cX7_init 190 = .ok (.castore, 1) := by decide +kernel
theorem dX7_init_191 : decode cX7_init 191 = .ok (.dup, 1) := by decide +kernel
theorem dX7_init_192 : decode cX7_init 192 = .ok (.bipush 21, 2) := by decide +kernel
theorem dX7_init_194 : decode cX7_init 194 = .ok (.bipush 32, 2) := by decide +kernel
theorem dX7_init_196 : decode cX7_init 196 = .ok (.castore, 1) := by decide +kernel
theorem dX7_init_197 : decode cX7_init 197 = .ok (.dup, 1) := by decide +kernel
theorem dX7_init_198 : decode cX7_init 198 = .ok (.bipush 22, 2) := by decide +kernel
theorem dX7_init_200 : decode cX7_init 200 = .ok (.bipush 32, 2) := by decide +kernel
theorem dX7_init_202 : decode cX7_init 202 = .ok (.castore, 1) := by decide +kernel
theorem dX7_init_203 : decode cX7_init 203 = .ok (.dup, 1) := by decide +kernel
theorem dX7_init_204 : decode cX7_init 204 = .ok (.bipush 23, 2) := by decide +kernel
theorem dX7_init_206 : decode cX7_init 206 = .ok (.bipush 32, 2) := by decide +kernel
theorem dX7_init_208 : decode cX7_init 208 = .ok (.castore, 1) := by decide +kernel
theorem dX7_init_209 : decode cX7_init 209 = .ok (.dup, 1) := by decide +kernel
theorem dX7_init_210 : decode cX7_init 210 = .ok (.bipush 24, 2) := by decide +kernel
theorem dX7_init_212 : decode cX7_init 212 = .ok (.bipush 114, 2) := by decide +kernel
theorem dX7_init_214 : decode cX7_init 214 = .ok (.castore, 1) := by decide +kernel
theorem dX7_init_215 : decode cX7_init 215 = .ok (.dup, 1) := by decide +kernel
theorem dX7_init_216 : decode cX7_init 216 = .ok (.bipush 25, 2) := by decide +kernel
theorem dX7_init_218 : decode cX7_init 218 = .ok (.bipush 97, 2) := by decide +kernel
theorem dX7_init_220 : decode cX7_init 220 = .ok (.castore, 1) := by decide +kernel
theorem dX7_init_221 : decode cX7_init 221 = .ok (.dup, 1) := by decide +kernel
theorem dX7_init_222 : decode cX7_init 222 = .ok (.bipush 26, 2) := by decide +kernel
theorem dX7_init_224 : decode cX7_init 224 = .ok (.bipush 118, 2) := by decide +kernel
theorem dX7_init_226 : decode cX7_init 226 = .ok (.castore, 1) := by decide +kernel
theorem dX7_init_227 : decode cX7_init 227 = .ok (.dup, 1) := by decide +kernel
theorem dX7_init_228 : decode cX7_init 228 = .ok (.bipush 27, 2) := by decide +kernel
theorem dX7_init_230 : decode cX7_init 230 = .ok (.bipush 101, 2) := by decide +kernel
theorem dX7_init_232 : decode cX7_init 232 = .ok (.castore, 1) := by decide +kernel
theorem dX7_init_233 : decode cX7_init 233 = .ok (.dup, 1) := by decide +kernel
theorem dX7_init_234 : decode cX7_init 234 = .ok (.bipush 28, 2) := by decide +kernel
theorem dX7_init_236 : decode cX7_init 236 = .ok (.bipush 110, 2) := by decide +kernel
theorem dX7_init_238 : decode cX7_init 238 = .ok (.castore, 1) := by decide +kernel
theorem dX7_init_239 : decode cX7_init 239 = .ok (.dup, 1) := by decide +kernel
theorem dX7_init_240 : decode cX7_init 240 = .ok (.bipush 29, 2) := by decide +kernel
theorem dX7_init_242 : decode cX7_init 242 = .ok (.bipush 32, 2) := by decide +kernel
theorem dX7_init_244 : decode cX7_init 244 = .ok (.castore, 1) := by decide +kernel
theorem dX7_init_245 : decode cX7_init 245 = .ok (.dup, 1) := by decide +kernel
theorem dX7_init_246 : decode cX7_init 246 = .ok (.bipush 30, 2) := by decide +kernel
theorem dX7_init_248 : decode cX7_init 248 = .ok (.bipush 32, 2) := by decide +kernel
theorem dX7_init_250 : decode cX7_init 250 = .ok (.castore, 1) := by decide +kernel
theorem dX7_init_251 : decode cX7_init 251 = .ok (.dup, 1) := by decide +kernel
theorem dX7_init_252 : decode cX7_init 252 = .ok (.bipush 31, 2) := by decide +kernel
theorem dX7_init_254 : decode cX7_init 254 = .ok (.bipush 32, 2) := by decide +kernel
theorem dX7_init_256 : decode cX7_init 256 = .ok (.castore, 1) := by decide +kernel
theorem dX7_init_257 : decode cX7_init 257 = .ok (.dup, 1) := by decide +kernel
theorem dX7_init_258 : decode cX7_init 258 = .ok (.bipush 32, 2) := by decide +kernel
theorem dX7_init_260 : decode cX7_init 260 = .ok (.bipush 116, 2) := by decide +kernel
theorem dX7_init_262 : decode cX7_init 262 = .ok (.castore, 1) := by decide +kernel
theorem dX7_init_263 : decode cX7_init 263 = .ok (.dup, 1) := by decide +kernel
theorem dX7_init_264 : decode cX7_init 264 = .ok (.bipush 33, 2) := by decide +kernel
theorem dX7_init_266 : decode cX7_init 266 = .ok (.bipush 101, 2) := by decide +kernel
theorem dX7_init_268 : decode cX7_init 268 = .ok (.castore, 1) := by decide +kernel
theorem dX7_init_269 : decode cX7_init 269 = .ok (.dup, 1) := by decide +kernel
theorem dX7_init_270 : decode cX7_init 270 = .ok (.bipush 34, 2) := by decide +kernel
theorem dX7_init_272 : decode cX7_init 272 = .ok (.bipush 114, 2) := by decide +kernel
theorem dX7_init_274 : decode cX7_init 274 = .ok (.castore, 1) := by decide +kernel
theorem dX7_init_275 : decode cX7_init 275 = .ok (.dup, 1) := by decide +kernel
theorem dX7_init_276 : decode cX7_init 276 = .ok (.bipush 35, 2) := by decide +kernel
theorem dX7_init_278 : decode cX7_init 278 = .ok (.bipush 110, 2) := by decide +kernel
theorem dX7_init_280 : decode cX7_init 280 = .ok (.castore, 1) := by decide +kernel
theorem dX7_init_281 : decode cX7_init 281 = .ok (.dup, 1) := by decide +kernel
theorem dX7_init_282 : decode cX7_init 282 = .ok (.bipush 36, 2) := by decide +kernel
theorem dX7_init_284 : decode cX7_init 284 = .ok (.bipush 32, 2) := by decide +kernel
theorem dX7_init_286 : decode cX7_init 286 = .ok (.castore, 1) := by decide +kernel
theorem dX7_init_287 : decode cX7_init 287 = .ok (.dup, 1) := by decide +kernel
theorem dX7_init_288 : decode cX7_init 288 = .ok (.bipush 37, 2) := by decide +kernel
theorem dX7_init_290 : decode cX7_init 290 = .ok (.bipush 32, 2) := by decide +kernel
theorem dX7_init_292 : decode cX7_init 292 = .ok (.castore, 1) := by decide +kernel
theorem dX7_init_293 : decode cX7_init 293 = .ok (.dup, 1) := by decide +kernel
theorem dX7_init_294 : decode cX7_init 294 = .ok (.bipush 38, 2) := by decide +kernel
theorem dX7_init_296 : decode cX7_init 296 = .ok (.bipush 32, 2) := by decide +kernel
theorem dX7_init_298 : decode cX7_init 298 = .ok (.castore, 1) := by decide +kernel
theorem dX7_init_299 : decode cX7_init 299 = .ok (.dup, 1) := by decide +kernel
theorem dX7_init_300 : decode cX7_init 300 = .ok (.bipush 39, 2) := by decide +kernel
theorem dX7_init_302 : decode cX7_init 302 = .ok (.bipush 32, 2) := by decide +kernel
theorem dX7_init_304 : decode cX7_init 304 = .ok (.castore, 1) := by decide +kernel
theorem dX7_init_305 : decode cX7_init 305 = .ok (.dup, 1) := by decide +kernel
theorem dX7_init_306 : decode cX7_init 306 = .ok (.bipush 40, 2) := by decide +kernel
theorem dX7_init_308 : decode cX7_init 308 = .ok (.bipush 119, 2) := by decide +kernel
theorem dX7_init_310 : decode cX7_init 310 = .ok (.castore, 1) := by decide +kernel
theorem dX7_init_311 : decode cX7_init 311 = .ok (.dup, 1) := by decide +kernel
theorem dX7_init_312 : decode cX7_init 312 = .ok (.bipush 41, 2) := by decide +kernel
theorem dX7_init_314 : decode cX7_init 314 = .ok (.bipush 114, 2) := by decide +kernel
theorem dX7_init_316 : decode cX7_init 316 = .ok (.castore, 1) := by decide +kernel
theorem dX7_init_317 : decode cX7_init 317 = .ok (.dup, 1) := by decide +kernel
theorem dX7_init_318 : decode cX7_init 318 = .ok (.bipush 42, 2) := by decide +kernel
theorem dX7_init_320 : decode cX7_init 320 = .ok (.bipush 101, 2) := by decide +kernel
theorem dX7_init_322 : decode cX7_init 322 = .ok (.castore, 1) := by decide +kernel
theorem dX7_init_323 : decode cX7_init 323 = .ok (.dup, 1) := by decide +kernel
theorem dX7_init_324 : decode cX7_init 324 = .ok (.bipush 43, 2) := by decide +kernel
theorem dX7_init_326 : decode cX7_init 326 = .ok (.bipush 110, 2) := by decide +kernel
theorem dX7_init_328 : decode cX7_init 328 = .ok (.castore, 1) := by decide +kernel
theorem dX7_init_329 : decode cX7_init 329 = .ok (.dup, 1) := by decide +kernel
theorem dX7_init_330 : decode cX7_init 330 = .ok (.bipush 44, 2) := by decide +kernel
theorem dX7_init_332 : decode cX7_init 332 = .ok (.bipush 32, 2) := by decide +kernel
theorem dX7_init_334 : decode cX7_init 334 = .ok (.castore, 1) := by decide +kernel
theorem dX7_init_335 : decode cX7_init 335 = .ok (.dup, 1) := by decide +kernel
theorem dX7_init_336 : decode cX7_init 336 = .ok (.bipush 45, 2) := by decide +kernel
theorem dX7_init_338 : decode cX7_init 338 = .ok (.bipush 32, 2) := by decide +kernel
theorem dX7_init_340 : decode cX7_init 340 = .ok (.castore, 1) := by decide +kernel
theorem dX7_init_341 : decode cX7_init 341 = .ok (.dup, 1) := by decide +kernel
theorem dX7_init_342 : decode cX7_init 342 = .ok (.bipush 46, 2) := by decide +kernel
theorem dX7_init_344 : decode cX7_init 344 = .ok (.bipush 32, 2) := by decide +kernel
theorem dX7_init_346 : decode cX7_init 346 = .ok (.castore, 1) := by decide +kernel
theorem dX7_init_347 : decode cX7_init 347 = .ok (.dup, 1) := by decide +kernel
theorem dX7_init_348 : decode cX7_init 348 = .ok (.bipush 47, 2) := by decide +kernel
theorem dX7_init_350 : decode cX7_init 350 = .ok (.bipush 32, 2) := by decide +kernel
theorem dX7_init_352 : decode cX7_init 352 = .ok (.castore, 1) := by decide +kernel
theorem dX7_init_353 : decode cX7_init 353 = .ok (.dup, 1) := by decide +kernel
theorem dX7_init_354 : decode cX7_init 354 = .ok (.bipush 48, 2) := by decide +kernel
theorem dX7_init_356 : decode cX7_init 356 = .ok (.bipush 103, 2) := by decide +kernel
theorem dX7_init_358 : decode cX7_init 358 = .ok (.castore, 1) := by decide +kernel
theorem dX7_init_359 : decode cX7_init 359 = .ok (.dup, 1) := by decide +kernel
theorem dX7_init_360 : decode cX7_init 360 = .ok (.bipush 49, 2) := by decide +kernel
theorem dX7_init_362 : decode cX7_init 362 = .ok (.bipush 117, 2) := by decide +kernel
theorem dX7_init_364 : decode cX7_init 364 = .ok (.castore, 1) := by decide +kernel
theorem dX7_init_365 : decode cX7_init 365 = .ok (.dup, 1) := by decide +kernel
theorem dX7_init_366 : decode cX7_init 366 = .ok (.bipush 50, 2) := by decide +kernel
theorem dX7_init_368 : decode cX7_init 368 = .ok (.bipush 108, 2) := by decide +kernel
theorem dX7_init_370 : decode cX7_init 370 = .ok (.castore, 1) := by decide +kernel
theorem dX7_init_371 : decode cX7_init 371 = .ok (.dup, 1) := by decide +kernel
theorem dX7_init_372 : decode cX7_init 372 = .ok (.bipush 51, 2) := by decide +kernel
theorem dX7_init_374 : decode cX7_init 374 = .ok (.bipush 108, 2) := by decide +kernel
theorem dX7_init_376 : decode cX7_init 376 = .ok (.castore, 1) := by decide +kernel
theorem dX7_init_377 : decode cX7_init 377 = .ok (.dup, 1) := by decide +kernel
theorem dX7_init_378 : decode cX7_init 378 = .ok (.bipush 52, 2) := by decide +kernel
theorem dX7_init_380 : decode cX7_init 380 = .ok (.bipush 32, 2) := by decide +kernel
theorem dX7_init_382 : decode cX7_init 382 = .ok (.castore, 1) := by decide +kernel
theorem dX7_init_383 : decode cX7_init 383 = .ok (.dup, 1) := by decide +kernel
theorem dX7_init_384 : decode cX7_init 384 = .ok (.bipush 53, 2) := by decide +kernel
theorem dX7_init_386 : decode cX7_init 386 = .ok (.bipush 32, 2) := by decide +kernel
theorem dX7_init_388 : decode cX7_init 388 = .ok (.castore, 1) := by decide +kernel
theorem dX7_init_389 : decode cX7_init 389 = .ok (.dup, 1) := by decide +kernel
theorem dX7_init_390 : decode cX7_init 390 = .ok (.bipush 54, 2) := by decide +kernel
theorem dX7_init_392 : decode cX7_init 392 = .ok (.bipush 32, 2) := by decide +kernel
theorem dX7_init_394 : decode cX7_init 394 = .ok (.castore, 1) := by decide +kernel
theorem dX7_init_395 : decode cX7_init 395 = .ok (.dup, 1) := by decide +kernel
theorem dX7_init_396 : decode cX7_init 396 = .ok (.bipush 55, 2) := by decide +kernel
theorem dX7_init_398 : decode cX7_init 398 = .ok (.bipush 32, 2) := by decide +kernel
theorem dX7_init_400 : decode cX7_init 400 = .ok (.castore, 1) := by decide +kernel
theorem dX7_init_401 : decode cX7_init 401 = .ok (.putfield 34, 3) := by decide +kernel
theorem dX7_init_404 : decode cX7_init 404 = .ok (.aload_n 0, 1) := by decide +kernel
theorem dX7_init_405 : decode cX7_init 405 = .ok (.bipush 24, 2) := by decide +kernel
theorem dX7_init_407 : decode cX7_init 407 = .ok (.newarray .char, 2) := by decide +kernel
theorem dX7_init_409 : decode cX7_init 409 = .ok (.dup, 1) := by decide +kernel
theorem dX7_init_410 : decode cX7_init 410 = .ok (.iconst 0, 1) := by decide +kernel
theorem dX7_init_411 : decode cX7_init 411 = .ok (.bipush 104, 2) := by decide +kernel
theorem dX7_init_413 : decode cX7_init 413 = .ok (.castore, 1) := by decide +kernel
theorem dX7_init_414 : decode cX7_init 414 = .ok (.dup, 1) := by decide +kernel
theorem dX7_init_415 : decode cX7_init 415 = .ok (.iconst 1, 1) := by decide +kernel
theorem dX7_init_416 : decode cX7_init 416 = .ok (.bipush 97, 2) := by decide +kernel
theorem dX7_init_418 : decode cX7_init 418 = .ok (.castore, 1) := by decide +kernel
theorem dX7_init_419 : decode cX7_init 419 = .ok (.dup, 1) := by decide +kernel
theorem dX7_init_420 : decode cX7_init 420 = .ok (.iconst 2, 1) := by decide +kernel
theorem dX7_init_421 : decode cX7_init 421 = .ok (.bipush 115, 2) := by decide +kernel
theorem dX7_init_423 : decode cX7_init 423 = .ok (.castore, 1) := by decide +kernel
theorem dX7_init_424 : decode cX7_init 424 = .ok (.dup, 1) := by decide +kernel
theorem dX7_init_425 : decode cX7_init 425 = .ok (.iconst 3, 1) := by decide +kernel
theorem dX7_init_426 : decode cX7_init 426 = .ok (.bipush 32, 2) := by decide +kernel
theorem dX7_init_428 : decode cX7_init 428 = .ok (.castore, 1) := by decide +kernel
theorem dX7_init_429 : decode cX7_init 429 = .ok (.dup, 1) := by decide +kernel
theorem dX7_init_430 : decode cX7_init 430 = .ok (.iconst 4, 1) := by decide +kernel
theorem dX7_init_431 : decode cX7_init 431 = .ok (.bipush 32, 2) := by decide +kernel
theorem dX7_init_433 : decode cX7_init 433 = .ok (.castore, 1) := by decide +kernel
theorem dX7_init_434 : decode cX7_init 434 = .ok (.dup, 1) := by decide +kernel
theorem dX7_init_435 : decode cX7_init 435 = .ok (.iconst 5, 1) := by decide +kernel
theorem dX7_init_436 : decode cX7_init 436 = .ok (.bipush 32, 2) := by decide +kernel
theorem dX7_init_438 : decode cX7_init 438 = .ok (.castore, 1) := by decide +kernel
theorem dX7_init_439 : decode cX7_init 439 = .ok (.dup, 1) := by decide +kernel
theorem dX7_init_440 : decode cX7_init 440 = .ok (.bipush 6, 2) := by decide +kernel
theorem dX7_init_442 : decode cX7_init 442 = .ok (.bipush 32, 2) := by decide +kernel
theorem dX7_init_444 : decode cX7_init 444 = .ok (.castore, 1) := by decide +kernel
theorem dX7_init_445 : decode cX7_init 445 = .ok (.dup, 1) := by decide +kernel
theorem dX7_init_446 : decode cX7_init 446 = .ok (.bipush 7, 2) := by decide +kernel
theorem dX7_init_448 : decode cX7_init 448 = .ok (.bipush 32, 2) := by decide +kernel
theorem dX7_init_450 : decode cX7_init 450 = .ok (.castore, 1) := by decide +kernel
theorem dX7_init_451 : decode cX7_init 451 = .ok (.dup, 1) := by decide +kernel
theorem dX7_init_452 : decode cX7_init 452 = .ok (.bipush 8, 2) := by decide +kernel
theorem dX7_init_454 : decode cX7_init 454 = .ok (.bipush 107, 2) := by decide +kernel
theorem dX7_init_456 : decode cX7_init 456 = .ok (.castore, 1) := by decide +kernel
theorem dX7_init_457 : decode cX7_init 457 = .ok (.dup, 1) := by decide +kernel
theorem dX7_init_458 : decode cX7_init 458 = .ok (.bipush 9, 2) := by decide +kernel
theorem dX7_init_460 : decode cX7_init 460 = .ok (.bipush 101, 2) := by decide +kernel
theorem dX7_init_462 : decode cX7_init 462 = .ok (.castore, 1) := by decide +kernel
theorem dX7_init_463 : decode cX7_init 463 = .ok (.dup, 1) := by decide +kernel
theorem dX7_init_464 : decode cX7_init 464 = .ok (.bipush 10, 2) := by decide +kernel
theorem dX7_init_466 : decode cX7_init 466 = .ok (.bipush 101, 2) := by decide +kernel
theorem dX7_init_468 : decode cX7_init 468 = .ok (.castore, 1) := by decide +kernel
theorem dX7_init_469 : decode cX7_init 469 = .ok (.dup, 1) := by decide +kernel
theorem dX7_init_470 : decode cX7_init 470 = .ok (.bipush 11, 2) := by decide +kernel
theorem dX7_init_472 : decode cX7_init 472 = .ok (.bipush 112, 2) := by decide +kernel
theorem dX7_init_474 : decode cX7_init 474 = .ok (.castore, 1) := by decide +kernel
theorem dX7_init_475 : decode cX7_init 475 = .ok (.dup, 1) := by decide +kernel
theorem dX7_init_476 : decode cX7_init 476 = .ok (.bipush 12, 2) := by decide +kernel
theorem dX7_init_478 : decode cX7_init 478 = .ok (.bipush 115, 2) := by decide +kernel
theorem dX7_init_480 : decode cX7_init 480 = .ok (.castore, 1) := by decide +kernel
theorem dX7_init_481 : decode cX7_init 481 = .ok (.dup, 1) := by decide +kernel
theorem dX7_init_482 : decode cX7_init 482 = .ok (.bipush 13, 2) := by decide +kernel
theorem dX7_init_484 : decode cX7_init 484 = .ok (.bipush 32, 2) := by decide +kernel
theorem dX7_init_486 : decode cX7_init 486 = .ok (.castore, 1) := by decide +kernel
theorem dX7_init_487 : decode cX7_init 487 = .ok (.dup, 1) := by decide +kernel
theorem dX7_init_488 : decode cX7_init 488 = .ok (.bipush 14, 2) := by decide +kernel
theorem dX7_init_490 : decode cX7_init 490 = .ok (.bipush 32, 2) := by decide +kernel
theorem dX7_init_492 : decode cX7_init 492 = .ok (.castore, 1) := by decide +kernel
theorem dX7_init_493 : decode cX7_init 493 = .ok (.dup, 1) := by decide +kernel
theorem dX7_init_494 : decode cX7_init 494 = .ok (.bipush 15, 2) := by decide +kernel
theorem dX7_init_496 : decode cX7_init 496 = .ok (.bipush 32, 2) := by decide +kernel
theorem dX7_init_498 : decode cX7_init 498 = .ok (.castore, 1) := by decide +kernel
theorem dX7_init_499 : decode cX7_init 499 = .ok (.dup, 1) := by decide +kernel
theorem dX7_init_500 : decode cX7_init 500 = .ok (.bipush 16, 2) := by decide +kernel
theorem dX7_init_502 : decode cX7_init 502 = .ok (.bipush 103, 2) := by decide +kernel
theorem dX7_init_504 : decode cX7_init 504 = .ok (.castore, 1) := by decide +kernel
theorem dX7_init_505 : decode cX7_init 505 = .ok (.dup, 1) := by decide +kernel
theorem dX7_init_506 : decode cX7_init 506 = .ok (.bipush 17, 2) := by decide +kernel
theorem dX7_init_508 : decode cX7_init 508 = .ok (.bipush 114, 2) := by decide +kernel
theorem dX7_init_510 : decode cX7_init 510 = .ok (.castore, 1) := by decide +kernel
theorem dX7_init_511 : decode cX7_init 511 = .ok (.dup, 1) := by decide +kernel
theorem dX7_init_512 : decode cX7_init 512 = .ok (.bipush 18, 2) := by decide +kernel
theorem dX7_init_514 : decode cX7_init 514 = .ok (.bipush 111, 2) := by decide +kernel
theorem dX7_init_516 : decode cX7_init 516 = .ok (.castore, 1) := by decide +kernel
theorem dX7_init_517 : decode cX7_init 517 = .ok (.dup, 1) := by decide +kernel
theorem dX7_init_518 : decode cX7_init 518 = .ok (.bipush 19, 2) := by decide +kernel
theorem dX7_init_520 : decode cX7_init 520 = .ok (.bipush 119, 2) := by decide +kernel
theorem dX7_init_522 : decode cX7_init 522 = .ok (.castore, 1) := by decide +kernel
theorem dX7_init_523 : decode cX7_init 523 = .ok (.dup, 1) := by decide +kernel
theorem dX7_init_524 : decode cX7_init 524 = .ok (.bipush 20, 2) := by decide +kernel
theorem dX7_init_526 : decode cX7_init 526 = .ok (.bipush 115, 2) := by decide +kernel
theorem dX7_init_528 : decode cX7_init 528 = .ok (.castore, 1) := by decide +kernel
theorem dX7_init_529 : decode cX7_init 529 = .ok (.dup, 1) := by decide +kernel
theorem dX7_init_530 : decode cX7_init 530 = .ok (.bipush 21, 2) := by decide +kernel
theorem dX7_init_532 : decode cX7_init 532 = .ok (.bipush 32, 2) := by decide +kernel
theorem dX7_init_534 : decode cX7_init 534 = .ok (.castore, 1) := by decide +kernel
theorem dX7_init_535 : decode cX7_init 535 = .ok (.dup, 1) := by decide +kernel
theorem dX7_init_536 : decode cX7_init 536 = .ok (.bipush 22, 2) := by decide +kernel
theorem dX7_init_538 : decode cX7_init 538 = .ok (.bipush 32, 2) := by decide +kernel
theorem dX7_init_540 : decode cX7_init 540 = .ok (.castore, 1) := by decide +kernel
theorem dX7_init_541 : decode cX7_init 541 = .ok (.dup, 1) := by decide +kernel
theorem dX7_init_542 : decode cX7_init 542 = .ok (.bipush 23, 2) := by decide +kernel
theorem dX7_init_544 : decode cX7_init 544 = .ok (.bipush 32, 2) := by decide +kernel
theorem dX7_init_546 : decode cX7_init 546 = .ok (.castore, 1) := by decide +kernel
theorem dX7_init_547 : decode cX7_init 547 = .ok (.putfield 38, 3) := by decide +kernel
theorem dX7_init_550 : decode cX7_init 550 = .ok (.aload_n 0, 1) := by decide +kernel
theorem dX7_init_551 : decode cX7_init 551 = .ok (.bipush 16, 2) := by decide +kernel
theorem dX7_init_553 : decode cX7_init 553 = .ok (.newarray .char, 2) := by decide +kernel
theorem dX7_init_555 : decode cX7_init 555 = .ok (.dup, 1) := by decide +kernel
theorem dX7_init_556 : decode cX7_init 556 = .ok (.iconst 0, 1) := by decide +kernel
theorem dX7_init_557 : decode cX7_init 557 = .ok (.bipush 109, 2) := by decide +kernel
theorem dX7_init_559 : decode cX7_init 559 = .ok (.castore, 1) := by decide +kernel
theorem dX7_init_560 : decode cX7_init 560 = .ok (.dup, 1) := by decide +kernel
theorem dX7_init_561 : decode cX7_init 561 = .ok (.iconst 1, 1) := by decide +kernel
theorem dX7_init_562 : decode cX7_init 562 = .ok (.bipush 111, 2) := by decide +kernel
theorem dX7_init_564 : decode cX7_init 564 = .ok (.castore, 1) := by decide +kernel
theorem dX7_init_565 : decode cX7_init 565 = .ok (.dup, 1) := by decide +kernel
theorem dX7_init_566 : decode cX7_init 566 = .ok (.iconst 2, 1) := by decide +kernel
theorem dX7_init_567 : decode cX7_init 567 = .ok (.bipush 116, 2) := by decide +kernel
theorem dX7_init_569 : decode cX7_init 569 = .ok (.castore, 1) := by decide +kernel
theorem dX7_init_570 : decode cX7_init 570 = .ok (.dup, 1) := by decide +kernel
theorem dX7_init_571 : decode cX7_init 571 = .ok (.iconst 3, 1) := by decide +kernel
theorem dX7_init_572 : decode cX7_init 572 = .ok (.bipush 105, 2) := by decide +kernel
theorem dX7_init_574 : decode cX7_init 574 = .ok (.castore, 1) := by decide +kernel
theorem dX7_init_575 : decode cX7_init 575 = .ok (.dup, 1) := by decide +kernel
theorem dX7_init_576 : decode cX7_init 576 = .ok (.iconst 4, 1) := by decide +kernel
theorem dX7_init_577 : decode cX7_init 577 = .ok (.bipush 111, 2) := by decide +kernel
theorem dX7_init_579 : decode cX7_init 579 = .ok (.castore, 1) := by decide +kernel
theorem dX7_init_580 : decode cX7_init 580 = .ok (.dup, 1) := by decide +kernel
theorem dX7_init_581 : decode cX7_init 581 = .ok (.iconst 5, 1) := by decide +kernel
theorem dX7_init_582 : decode cX7_init 582 = .ok (.bipush 110, 2) := by decide +kernel
theorem dX7_init_584 : decode cX7_init 584 = .ok (.castore, 1) := by decide +kernel
theorem dX7_init_585 : decode cX7_init 585 = .ok (.dup, 1) := by decide +kernel
theorem dX7_init_586 : decode cX7_init 586 = .ok (.bipush 6, 2) := by decide +kernel
theorem dX7_init_588 : decode cX7_init 588 = .ok (.bipush 32, 2) := by decide +kernel
theorem dX7_init_590 : decode cX7_init 590 = .ok (.castore, 1) := by decide +kernel
theorem dX7_init_591 : decode cX7_init 591 = .ok (.dup, 1) := by decide +kernel
theorem dX7_init_592 : decode cX7_init 592 = .ok (.bipush 7, 2) := by decide +kernel
theorem dX7_init_594 : decode cX7_init 594 = .ok (.bipush 32, 2) := by decide +kernel
theorem dX7_init_596 : decode cX7_init 596 = .ok (.castore, 1) := by decide +kernel
theorem dX7_init_597 : decode cX7_init 597 = .ok (.dup, 1) := by decide +kernel
theorem dX7_init_598 : decode cX7_init 598 = .ok (.bipush 8, 2) := by decide +kernel
theorem dX7_init_600 : decode cX7_init 600 = .ok (.bipush 115, 2) := by decide +kernel
theorem dX7_init_602 : decode cX7_init 602 = .ok (.castore, 1) := by decide +kernel
theorem dX7_init_603 : decode cX7_init 603 = .ok (.dup, 1) := by decide +kernel
theorem dX7_init_604 : decode cX7_init 604 = .ok (.bipush 9, 2) := by decide +kernel
theorem dX7_init_606 : decode cX7_init 606 = .ok (.bipush 101, 2) := by decide +kernel
theorem dX7_init_608 : decode cX7_init 608 = .ok (.castore, 1) := by decide +kernel
theorem dX7_init_609 : decode cX7_init 609 = .ok (.dup, 1) := by decide +kernel
theorem dX7_init_610 : decode cX7_init 610 = .ok (.bipush 10, 2) := by decide +kernel
theorem dX7_init_612 : decode cX7_init 612 = .ok (.bipush 97, 2) := by decide +kernel
theorem dX7_init_614 : decode cX7_init 614 = .ok (.castore, 1) := by decide +kernel
theorem dX7_init_615 : decode cX7_init 615 = .ok (.dup, 1) := by decide +kernel
theorem dX7_init_616 : decode cX7_init 616 = .ok (.bipush 11, 2) := by decide +kernel
theorem dX7_init_618 : decode cX7_init 618 = .ok (.bipush 115, 2) := by decide +kernel
theorem dX7_init_620 : decode cX7_init 620 = .ok (.castore, 1) := by decide +kernel
theorem dX7_init_621 : decode cX7_init 621 = .ok (.dup, 1) := by decide +kernel
theorem dX7_init_622 : decode cX7_init 622 = .ok (.bipush 12, 2) := by decide +kernel
theorem dX7_init_624 : decode cX7_init 624 = .ok (.bipush 111, 2) := by decide +kernel
theorem dX7_init_626 : decode cX7_init 626 = .ok (.castore, 1) := by decide +kernel
theorem dX7_init_627 : decode cX7_init 627 = .ok (.dup, 1) := by decide +kernel
theorem dX7_init_628 : decode cX7_init 628 = .ok (.bipush 13, 2) := by decide +kernel
theorem dX7_init_630 : decode cX7_init 630 = .ok (.bipush 110, 2) := by decide +kernel
theorem dX7_init_632 : decode cX7_init 632 = .ok (.castore, 1) := by decide +kernel
theorem dX7_init_633 : decode cX7_init 633 = .ok (.dup, 1) := by decide +kernel
theorem dX7_init_634 : decode cX7_init 634 = .ok (.bipush 14, 2) := by decide +kernel
theorem dX7_init_636 : decode cX7_init 636 = .ok (.bipush 32, 2) := by decide +kernel
theorem dX7_init_638 : decode cX7_init 638 = .ok (.castore, 1) := by decide +kernel
theorem dX7_init_639 : decode cX7_init 639 = .ok (.dup, 1) := by decide +kernel
theorem dX7_init_640 : decode cX7_init 640 = .ok (.bipush 15, 2) := by decide +kernel
theorem dX7_init_642 : decode cX7_init 642 = .ok (.bipush 32, 2) := by decide +kernel
theorem dX7_init_644 : decode cX7_init 644 = .ok (.castore, 1) := by decide +kernel
theorem dX7_init_645 : decode cX7_init 645 = .ok (.putfield 41, 3) := by decide +kernel
theorem dX7_init_648 : decode cX7_init 648 = .ok (.aload_n 0, 1) := by decide +kernel
theorem dX7_init_649 : decode cX7_init 649 = .ok (.bipush 24, 2) := by decide +kernel
theorem dX7_init_651 : decode cX7_init 651 = .ok (.newarray .char, 2) := by decide +kernel
theorem dX7_init_653 : decode cX7_init 653 = .ok (.dup, 1) := by decide +kernel
theorem dX7_init_654 : decode cX7_init 654 = .ok (.iconst 0, 1) := by decide +kernel
theorem dX7_init_655 : decode cX7_init 655 = .ok (.bipush 113, 2) := by decide +kernel
theorem dX7_init_657 : decode cX7_init 657 = .ok (.castore, 1) := by decide +kernel
theorem dX7_init_658 : decode cX7_init 658 = .ok (.dup, 1) := by decide +kernel
theorem dX7_init_659 : decode cX7_init 659 = .ok (.iconst 1, 1) := by decide +kernel
theorem dX7_init_660 : decode cX7_init 660 = .ok (.bipush 117, 2) := by decide +kernel
theorem dX7_init_662 : decode cX7_init 662 = .ok (.castore, 1) := by decide +kernel
theorem dX7_init_663 : decode cX7_init 663 = .ok (.dup, 1) := by decide +kernel
theorem dX7_init_664 : decode cX7_init 664 = .ok (.iconst 2, 1) := by decide +kernel
theorem dX7_init_665 : decode cX7_init 665 = .ok (.bipush 111, 2) := by decide +kernel
theorem dX7_init_667 : decode cX7_init 667 = .ok (.castore, 1) := by decide +kernel
theorem dX7_init_668 : decode cX7_init 668 = .ok (.dup, 1) := by decide +kernel
theorem dX7_init_669 : decode cX7_init 669 = .ok (.iconst 3, 1) := by decide +kernel
theorem dX7_init_670 : decode cX7_init 670 = .ok (.bipush 114, 2) := by decide +kernel
theorem dX7_init_672 : decode cX7_init 672 = .ok (.castore, 1) := by decide +kernel
theorem dX7_init_673 : decode cX7_init 673 = .ok (.dup, 1) := by decide +kernel
theorem dX7_init_674 : decode cX7_init 674 = .ok (.iconst 4, 1) := by decide +kernel
theorem dX7_init_675 : decode cX7_init 675 = .ok (.bipush 117, 2) := by decide +kernel
theorem dX7_init_677 : decode cX7_init 677 = .ok (.castore, 1) := by decide +kernel
theorem dX7_init_678 : decode cX7_init 678 = .ok (.dup, 1) := by decide +kernel
theorem dX7_init_679 : decode cX7_init 679 = .ok (.iconst 5, 1) := by decide +kernel
theorem dX7_init_680 : decode cX7_init 680 = .ok (.bipush 109, 2) := by decide +kernel
theorem dX7_init_682 : decode cX7_init 682 = .ok (.castore, 1) := by decide +kernel
theorem dX7_init_683 : decode cX7_init 683 = .ok (.dup, 1) := by decide +kernel
theorem dX7_init_684 : decode cX7_init 684 = .ok (.bipush 6, 2) := by decide +kernel
theorem dX7_init_686 : decode cX7_init 686 = .ok (.bipush 32, 2) := by decide +kernel
theorem dX7_init_688 : decode cX7_init 688 = .ok (.castore, 1) := by decide +kernel
theorem dX7_init_689 : decode cX7_init 689 = .ok (.dup, 1) := by decide +kernel
theorem dX7_init_690 : decode cX7_init 690 = .ok (.bipush 7, 2) := by decide +kernel
theorem dX7_init_692 : decode cX7_init 692 = .ok (.bipush 32, 2) := by decide +kernel
theorem dX7_init_694 : decode cX7_init 694 = .ok (.castore, 1) := by decide +kernel
theorem dX7_init_695 : decode cX7_init 695 = .ok (.dup, 1) := by decide +kernel
theorem dX7_init_696 : decode cX7_init 696 = .ok (.bipush 8, 2) := by decide +kernel
theorem dX7_init_698 : decode cX7_init 698 = .ok (.bipush 119, 2) := by decide +kernel
theorem dX7_init_700 : decode cX7_init 700 = .ok (.castore, 1) := by decide +kernel
theorem dX7_init_701 : decode cX7_init 701 = .ok (.dup, 1) := by decide +kernel
theorem dX7_init_702 : decode cX7_init 702 = .ok (.bipush 9, 2) := by decide +kernel
theorem dX7_init_704 : decode cX7_init 704 = .ok (.bipush 97, 2) := by decide +kernel
theorem dX7_init_706 : decode cX7_init 706 = .ok (.castore, 1) := by decide +kernel
theorem dX7_init_707 : decode cX7_init 707 = .ok (.dup, 1) := by decide +kernel
theorem dX7_init_708 : decode cX7_init 708 = .ok (.bipush 10, 2) := by decide +kernel
theorem dX7_init_710 : decode cX7_init 710 = .ok (.bipush 110, 2) := by decide +kernel
theorem dX7_init_712 : decode cX7_init 712 = .ok (.castore, 1) := by decide +kernel
theorem dX7_init_713 : decode cX7_init 713 = .ok (.dup, 1) := by decide +kernel
theorem dX7_init_714 : decode cX7_init 714 = .ok (.bipush 11, 2) := by decide +kernel
theorem dX7_init_716 : decode cX7_init 716 = .ok (.bipush 116, 2) := by decide +kernel
theorem dX7_init_718 : decode cX7_init 718 = .ok (.castore, 1) := by decide +kernel
theorem dX7_init_719 : decode cX7_init 719 = .ok (.dup, 1) := by decide +kernel
theorem dX7_init_720 : decode cX7_init 720 = .ok (.bipush 12, 2) := by decide +kernel
theorem dX7_init_722 : decode cX7_init 722 = .ok (.bipush 115, 2) := by decide +kernel
theorem dX7_init_724 : decode cX7_init 724 = .ok (.castore, 1) := by decide +kernel
theorem dX7_init_725 : decode cX7_init 725 = .ok (.dup, 1) := by decide +kernel
theorem dX7_init_726 : decode cX7_init 726 = .ok (.bipush 13, 2) := by decide +kernel
theorem dX7_init_728 : decode cX7_init 728 = .ok (.bipush 32, 2) := by decide +kernel
theorem dX7_init_730 : decode cX7_init 730 = .ok (.castore, 1) := by decide +kernel
theorem dX7_init_731 : decode cX7_init 731 = .ok (.dup, 1) := by decide +kernel
theorem dX7_init_732 : decode cX7_init 732 = .ok (.bipush 14, 2) := by decide +kernel
theorem dX7_init_734 : decode cX7_init 734 = .ok (.bipush 32, 2) := by decide +kernel
theorem dX7_init_736 : decode cX7_init 736 = .ok (.castore, 1) := by decide +kernel
theorem dX7_init_737 : decode cX7_init 737 = .ok (.dup, 1) := by decide +kernel
theorem dX7_init_738 : decode cX7_init 738 = .ok (.bipush 15, 2) := by decide +kernel
theorem dX7_init_740 : decode cX7_init 740 = .ok (.bipush 32, 2) := by decide +kernel
theorem dX7_init_742 : decode cX7_init 742 = .ok (.castore, 1) := by decide +kernel
theorem dX7_init_743 : decode cX7_init 743 = .ok (.dup, 1) := by decide +kernel
theorem dX7_init_744 : decode cX7_init 744 = .ok (.bipush 16, 2) := by decide +kernel
theorem dX7_init_746 : decode cX7_init 746 = .ok (.bipush 101, 2) := by decide +kernel
theorem dX7_init_748 : decode cX7_init 748 = .ok (.castore, 1) := by decide +kernel
theorem dX7_init_749 : decode cX7_init 749 = .ok (.dup, 1) := by decide +kernel
theorem dX7_init_750 : decode cX7_init 750 = .ok (.bipush 17, 2) := by decide +kernel
theorem dX7_init_752 : decode cX7_init 752 = .ok (.bipush 102, 2) := by decide +kernel
theorem dX7_init_754 : decode cX7_init 754 = .ok (.castore, 1) := by decide +kernel
theorem dX7_init_755 : decode cX7_init 755 = .ok (.dup, 1) := by decide +kernel
theorem dX7_init_756 : decode cX7_init 756 = .ok (.bipush 18, 2) := by decide +kernel
theorem dX7_init_758 : decode cX7_init 758 = .ok (.bipush 102, 2) := by decide +kernel
theorem dX7_init_760 : decode cX7_init 760 = .ok (.castore, 1) := by decide +kernel
theorem dX7_init_761 : decode cX7_init 761 = .ok (.dup, 1) := by decide +kernel
theorem dX7_init_762 : decode cX7_init 762 = .ok (.bipush 19, 2) := by decide +kernel
theorem dX7_init_764 : decode cX7_init 764 = .ok (.bipush 101, 2) := by decide +kernel
theorem dX7_init_766 : decode cX7_init 766 = .ok (.castore, 1) := by decide +kernel
theorem dX7_init_767 : decode cX7_init 767 = .ok (.dup, 1) := by decide +kernel
theorem dX7_init_768 : decode cX7_init 768 = .ok (.bipush 20, 2) := by decide +kernel
theorem dX7_init_770 : decode cX7_init 770 = .ok (.bipush 99, 2) := by decide +kernel
theorem dX7_init_772 : decode cX7_init 772 = .ok (.castore, 1) := by decide +kernel
theorem dX7_init_773 : decode cX7_init 773 = .ok (.dup, 1) := by decide +kernel
theorem dX7_init_774 : decode cX7_init 774 = .ok (.bipush 21, 2) := by decide +kernel
theorem dX7_init_776 : decode cX7_init 776 = .ok (.bipush 116, 2) := by decide +kernel
theorem dX7_init_778 : decode cX7_init 778 = .ok (.castore, 1) := by decide +kernel
theorem dX7_init_779 : decode cX7_init 779 = .ok (.dup, 1) := by decide +kernel
theorem dX7_init_780 : decode cX7_init 780 = .ok (.bipush 22, 2) := by decide +kernel
theorem dX7_init_782 : decode cX7_init 782 = .ok (.bipush 32, 2) := by decide +kernel
theorem dX7_init_784 : decode cX7_init 784 = .ok (.castore, 1) := by decide +kernel
theorem dX7_init_785 : decode cX7_init 785 = .ok (.dup, 1) := by decide +kernel
theorem dX7_init_786 : decode cX7_init 786 = .ok (.bipush 23, 2) := by decide +kernel
theorem dX7_init_788 : decode cX7_init 788 = .ok (.bipush 32, 2) := by decide +kernel
theorem dX7_init_790 : decode cX7_init 790 = .ok (.castore, 1) := by decide +kernel
theorem dX7_init_791 : decode cX7_init 791 = .ok (.putfield 44, 3) := by decide +kernel
theorem dX7_init_794 : decode cX7_init 794 = .ok (.aload_n 0, 1) := by decide +kernel
theorem dX7_init_795 : decode cX7_init 795 = .ok (.iconst 4, 1) := by decide +kernel
theorem dX7_init_796 : decode cX7_init 796 = .ok (.newarray .int, 2) := by decide +kernel
theorem dX7_init_798 : decode cX7_init 798 = .ok (.putfield 47, 3) := by decide +kernel
theorem dX7_init_801 : decode cX7_init 801 = .ok (.aload_n 0, 1) := by decide +kernel
theorem dX7_init_802 : decode cX7_init 802 = .ok (.iconst 4, 1) := by decide +kernel
theorem dX7_init_803 : decode cX7_init 803 = .ok (.newarray .int, 2) := by decide +kernel
theorem dX7_init_805 : decode cX7_init 805 = .ok (.putfield 50, 3) := by decide +kernel
theorem dX7_init_808 : decode cX7_init 808 = .ok (.aload_n 0, 1) := by decide +kernel
theorem dX7_init_809 : decode cX7_init 809 = .ok (.sipush 160, 3) := by decide +kernel
theorem dX7_init_812 : decode cX7_init 812 = .ok (.newarray .int, 2) := by decide +kernel
theorem dX7_init_814 : decode cX7_init 814 = .ok (.putfield 53, 3) := by decide +kernel
theorem dX7_init_817 : decode cX7_init 817 = .ok (.aload_n 0, 1) := by decide +kernel
theorem dX7_init_818 : decode cX7_init 818 = .ok (.bipush 40, 2) := by decide +kernel
theorem dX7_init_820 : decode cX7_init 820 = .ok (.newarray .int, 2) := by decide +kernel
theorem dX7_init_822 : decode cX7_init 822 = .ok (.putfield 56, 3) := by decide +kernel
theorem dX7_init_825 : decode cX7_init 825 = .ok (.aload_n 0, 1) := by decide +kernel
theorem dX7_init_826 : decode cX7_init 826 = .ok (.getfield 9, 3) := by decide +kernel
theorem dX7_init_829 : decode cX7_init 829 = .ok (.iconst 3, 1) := by decide +kernel
theorem dX7_init_830 : decode cX7_init 830 = .ok (.iconst 1, 1) := by decide +kernel
theorem dX7_init_831 : decode cX7_init 831 = .ok (.iastore, 1) := by decide +kernel
theorem dX7_init_832 : decode cX7_init 832 = .ok (.iconst 0, 1) := by decide +kernel
theorem dX7_init_833 : decode cX7_init 833 = .ok (.istore_n 1, 1) := by decide +kernel
theorem dX7_init_834 : decode cX7_init 834 = .ok (.iload_n 1, 1) := by decide +kernel
theorem dX7_init_835 : decode cX7_init 835 = .ok (.bipush 10, 2) := by decide +kernel
theorem dX7_init_837 : decode cX7_init 837 = .ok (.if_icmp .ge 19, 3) := by decide +kernel
theorem dX7_init_840 : decode cX7_init 840 = .ok (.aload_n 0, 1) := by decide +kernel
theorem dX7_init_841 : decode cX7_init 841 = .ok (.getfield 9, 3) := by decide +kernel
theorem dX7_init_844 : decode cX7_init 844 = .ok (.bipush 104, 2) := by decide +kernel
theorem dX7_init_846 : decode cX7_init 846 = .ok (.iload_n 1, 1) := by decide +kernel
theorem dX7_init_847 : decode cX7_init 847 = .ok (.iadd, 1) := by decide +kernel
theorem dX7_init_848 : decode cX7_init 848 = .ok (.iconst (-1), 1) := by decide +kernel
theorem dX7_init_849 : decode cX7_init 849 = .ok (.iastore, 1) := by decide +kernel
theorem dX7_init_850 : decode cX7_init 850 = .ok (.iinc 1 1, 3) := by decide +kernel
theorem dX7_init_853 : decode cX7_init 853 = .ok (.goto (-19), 3) := by decide +kernel
theorem dX7_init_856 : decode cX7_init 856 = .ok (.return_, 1) := by decide +kernel
theorem dX7_no_0 : decode cX7_no 0 = .ok (.aload_n 0, 1) := by decide +kernel
theorem dX7_no_1 : decode cX7_no 1 = .ok (.getfield 19, 3) := by decide +kernel
theorem dX7_no_4 : decode cX7_no 4 = .ok (.iload_n 1, 1) := by decide +kernel
theorem dX7_no_5 : decode cX7_no 5 = .ok (.dup2, 1) := by decide +kernel
theorem dX7_no_6 : decode cX7_no 6 = .ok (.iaload, 1) := by decide +kernel
theorem dX7_no_7 : decode cX7_no 7 = .ok (.iconst 1, 1) := by decide +kernel
theorem dX7_no_8 : decode cX7_no 8 = .ok (.iadd, 1) := by decide +kernel
theorem dX7_no_9 : decode cX7_no 9 = .ok (.iastore, 1) := by decide +kernel
theorem dX7_no_10 : decode cX7_no 10 = .ok (.ldc 59, 2) := by decide +kernel
theorem dX7_no_12 : decode cX7_no 12 = .ok (.iload_n 1, 1) := by decide +kernel
theorem dX7_no_13 : decode cX7_no 13 = .ok (.isub, 1) := by decide +kernel
theorem dX7_no_14 : decode cX7_no 14 = .ok (.ireturn, 1) := by decide +kernel
theorem dX7_in1_0 : decode cX7_in1 0 = .ok (.iload_n 0, 1) := by decide +kernel
theorem dX7_in1_1 : decode cX7_in1 1 = .ok (.iload_n 1, 1) := by decide +kernel
theorem dX7_in1_2 : decode cX7_in1 2 = .ok (.if_icmp .lt 12, 3) := by decide +kernel
theorem dX7_in1_5 : decode cX7_in1 5 = .ok (.iload_n 0, 1) := by decide +kernel
theorem dX7_in1_6 : decode cX7_in1 6 = .ok (.iload_n 2, 1) := by decide +kernel
theorem dX7_in1_7 : decode cX7_in1 7 = .ok (.if_icmp .gt 7, 3) := by decide +kernel
theorem dX7_in1_10 : decode cX7_in1 10 = .ok (.iconst 1, 1) := by decide +kernel
theorem dX7_in1_11 : decode cX7_in1 11 = .ok (.goto 4, 3) := by decide +kernel
theorem dX7_in1_14 : decode cX7_in1 14 = .ok (.iconst 0, 1) := by decide +kernel
theorem dX7_in1_15 : decode cX7_in1 15 = .ok (.ireturn, 1) := by decide +kernel
theorem dX7_less_0 : decode cX7_less 0 = .ok (.iload_n 0, 1) := by decide +kernel
theorem dX7_less_1 : decode cX7_less 1 = .ok (.iload_n 1, 1) := by decide +kernel
theorem dX7_less_2 : decode cX7_less 2 = .ok (.if_icmp .ge 7, 3) := by decide +kernel
theorem dX7_less_5 : decode cX7_less 5 = .ok (.iload_n 0, 1) := by decide +kernel
theorem dX7_less_6 : decode cX7_less 6 = .ok (.goto 4, 3) := by decide +kernel
theorem dX7_less_9 : decode cX7_less 9 = .ok (.iload_n 1, 1) := by decide +kernel
theorem dX7_less_10 : decode cX7_less 10 = .ok (.ireturn, 1) := by decide +kernel
theorem dX7_bits_0 : decode cX7_bits 0 = .ok (.iconst 0, 1) := by decide +kernel
theorem dX7_bits_1 : decode cX7_bits 1 = .ok (.istore_n 1, 1) := by decide +kernel
theorem dX7_bits_2 : decode cX7_bits 2 = .ok (.iload_n 0, 1) := by decide +kernel
theorem dX7_bits_3 : decode cX7_bits 3 = .ok (.istore_n 2, 1) := by decide +kernel
theorem dX7_bits_4 : decode cX7_bits 4 = .ok (.iload_n 2, 1) := by decide +kernel
theorem dX7_bits_5 : decode cX7_bits 5 = .ok (.ifCond .eq 15, 3) := by decide +kernel
theorem dX7_bits_8 : decode cX7_bits 8 = .ok (.iinc 1 1, 3) := by decide +kernel
theorem dX7_bits_11 : decode cX7_bits 11 = .ok (.iload_n 2, 1) := by decide +kernel
theorem dX7_bits_12 : decode cX7_bits 12 = .ok (.iload_n 2, 1) := by decide +kernel
theorem dX7_bits_13 : decode cX7_bits 13 = .ok (.iconst 1, 1) := by decide +kernel
theorem dX7_bits_14 : decode cX7_bits 14 = .ok (.isub, 1) := by decide +kernel
theorem dX7_bits_15 : decode cX7_bits 15 = .ok (.iand, 1) := by decide +kernel
theorem dX7_bits_16 : decode cX7_bits 16 = .ok (.istore_n 2, 1) := by decide +kernel
theorem dX7_bits_17 : decode cX7_bits 17 = .ok (.goto (-13), 3) := by decide +kernel
theorem dX7_bits_20 : decode cX7_bits 20 = .ok (.iload_n 1, 1) := by decide +kernel
theorem dX7_bits_21 : decode cX7_bits 21 = .ok (.ireturn, 1) := by decide +kernel
theorem dX7_isIn_0 : decode cX7_isIn 0 = .ok (.iload_n 0, 1) := by decide +kernel
theorem dX7_isIn_1 : decode cX7_isIn 1 = .ok (.iload_n 1, 1) := by decide +kernel
theorem dX7_isIn_2 : decode cX7_isIn 2 = .ok (.ishr, 1) := by decide +kernel
theorem dX7_isIn_3 : decode cX7_isIn 3 = .ok (.iconst 1, 1) := by decide +kernel
theorem dX7_isIn_4 : decode cX7_isIn 4 = .ok (.iand, 1) := by decide +kernel
theorem dX7_isIn_5 : decode cX7_isIn 5 = .ok (.iconst 1, 1) := by decide +kernel
theorem dX7_isIn_6 : decode cX7_isIn 6 = .ok (.if_icmp .ne 7, 3) := by decide +kernel
theorem dX7_isIn_9 : decode cX7_isIn 9 = .ok (.iconst 1, 1) := by decide +kernel
theorem dX7_isIn_10 : decode cX7_isIn 10 = .ok (.goto 4, 3) := by decide +kernel
theorem dX7_isIn_13 : decode cX7_isIn 13 = .ok (.iconst 0, 1) := by decide +kernel
theorem dX7_isIn_14 : decode cX7_isIn 14 = .ok (.ireturn, 1) := by decide +kernel
theorem dX7_isBird_0 : decode cX7_isBird 0 = .ok (.iload_n 1, 1) := by decide +kernel
theorem dX7_isBird_1 : decode cX7_isBird 1 = .ok (.iconst 0, 1) := by decide +kernel
theorem dX7_isBird_2 : decode cX7_isBird 2 = .ok (.aload_n 0, 1) := by decide +kernel
theorem dX7_isBird_3 : decode cX7_isBird 3 = .ok (.getfield 9, 3) := by decide +kernel
theorem dX7_isBird_6 : decode cX7_isBird 6 = .ok (.iconst 1, 1) := by decide +kernel
theorem dX7_isBird_7 : decode cX7_isBird 7 = .ok (.iaload, 1) := by decide +kernel
theorem dX7_isBird_8 : decode cX7_isBird 8 = .ok (.iconst 1, 1) := by decide +kernel
theorem dX7_isBird_9 : decode cX7_isBird 9 = .ok (.isub, 1) := by decide +kernel
theorem dX7_isBird_10 : decode cX7_isBird 10 = .ok (.invokestatic 60, 3) := by decide +kernel
theorem dX7_isBird_13 : decode cX7_isBird 13 = .ok (.ireturn, 1) := by decide +kernel
theorem dX7_isMotion_0 : decode cX7_isMotion 0 = .ok (.iload_n 1, 1) := by decide +kernel
theorem dX7_isMotion_1 : decode cX7_isMotion 1 = .ok (.iconst 0, 1) := by decide +kernel
theorem dX7_isMotion_2 : decode cX7_isMotion 2 = .ok (.aload_n 0, 1) := by decide +kernel
theorem dX7_isMotion_3 : decode cX7_isMotion 3 = .ok (.getfield 9, 3) := by decide +kernel
theorem dX7_isMotion_6 : decode cX7_isMotion 6 = .ok (.iconst 2, 1) := by decide +kernel
theorem dX7_isMotion_7 : decode cX7_isMotion 7 = .ok (.iaload, 1) := by decide +kernel
theorem dX7_isMotion_8 : decode cX7_isMotion 8 = .ok (.iconst 1, 1) := by decide +kernel
theorem dX7_isMotion_9 : decode cX7_isMotion 9 = .ok (.isub, 1) := by decide +kernel
theorem dX7_isMotion_10 : decode cX7_isMotion 10 = .ok (.invokestatic 60, 3) := by decide +kernel
theorem dX7_isMotion_13 : decode cX7_isMotion 13 = .ok (.ireturn, 1) := by decide +kernel
theorem dX7_get_0 : decode cX7_get 0 = .ok (.aload_n 0, 1) := by decide +kernel
theorem dX7_get_1 : decode cX7_get 1 = .ok (.getfield 9, 3) := by decide +kernel
theorem dX7_get_4 : decode cX7_get 4 = .ok (.bipush 8, 2) := by decide +kernel
theorem dX7_get_6 : decode cX7_get 6 = .ok (.bipush 7, 2) := by decide +kernel
theorem dX7_get_8 : decode cX7_get 8 = .ok (.iload_n 1, 1) := by decide +kernel
theorem dX7_get_9 : decode cX7_get 9 = .ok (.imul, 1) := by decide +kernel
theorem dX7_get_10 : decode cX7_get 10 = .ok (.iadd, 1) := by decide +kernel
theorem dX7_get_11 : decode cX7_get 11 = .ok (.iload_n 2, 1) := by decide +kernel
theorem dX7_get_12 : decode cX7_get 12 = .ok (.iadd, 1) := by decide +kernel
theorem dX7_get_13 : decode cX7_get 13 = .ok (.iaload, 1) := by decide +kernel
theorem dX7_get_14 : decode cX7_get 14 = .ok (.ireturn, 1) := by decide +kernel
theorem dX7_puts_0 : decode cX7_puts 0 = .ok (.aload_n 0, 1) := by decide +kernel
theorem dX7_puts_1 : decode cX7_puts 1 = .ok (.getfield 9, 3) := by decide +kernel
theorem dX7_puts_4 : decode cX7_puts 4 = .ok (.bipush 8, 2) := by decide +kernel
theorem dX7_puts_6 : decode cX7_puts 6 = .ok (.bipush 7, 2) := by decide +kernel
theorem dX7_puts_8 : decode cX7_puts 8 = .ok (.iload_n 1, 1) := by decide +kernel
theorem dX7_puts_9 : decode cX7_puts 9 = .ok (.imul, 1) := by decide +kernel
theorem dX7_puts_10 : decode cX7_puts 10 = .ok (.iadd, 1) := by decide +kernel
theorem dX7_puts_11 : decode cX7_puts 11 = .ok (.iload_n 2, 1) := by decide +kernel
theorem dX7_puts_12 : decode cX7_puts 12 = .ok (.iadd, 1) := by decide +kernel
theorem dX7_puts_13 : decode cX7_puts 13 = .ok (.iload_n 3, 1) := by decide +kernel
theorem dX7_puts_14 : decode cX7_puts 14 = .ok (.iastore, 1) := by decide +kernel
theorem dX7_puts_15 : decode cX7_puts 15 = .ok (.return_, 1) := by decide +kernel
theorem dX7_of1_0 : decode cX7_of1 0 = .ok (.aload_n 0, 1) := by decide +kernel
theorem dX7_of1_1 : decode cX7_of1 1 = .ok (.getfield 9, 3) := by decide +kernel
theorem dX7_of1_4 : decode cX7_of1 4 = .ok (.bipush 64, 2) := by decide +kernel
theorem dX7_of1_6 : decode cX7_of1 6 = .ok (.iconst 5, 1) := by decide +kernel
theorem dX7_of1_7 : decode cX7_of1 7 = .ok (.iload_n 1, 1) := by decide +kernel
theorem dX7_of1_8 : decode cX7_of1 8 = .ok (.imul, 1) := by decide +kernel
theorem dX7_of1_9 : decode cX7_of1 9 = .ok (.iadd, 1) := by decide +kernel
theorem dX7_of1_10 : decode cX7_of1 10 = .ok (.iload_n 2, 1) := by decide +kernel
theorem dX7_of1_11 : decode cX7_of1 11 = .ok (.iadd, 1) := by decide +kernel
theorem dX7_of1_12 : decode cX7_of1 12 = .ok (.iaload, 1) := by decide +kernel
theorem dX7_of1_13 : decode cX7_of1 13 = .ok (.ireturn, 1) := by decide +kernel
theorem dX7_puts1_0 : decode cX7_puts1 0 = .ok (.aload_n 0, 1) := by decide +kernel
theorem dX7_puts1_1 : decode cX7_puts1 1 = .ok (.getfield 9, 3) := by decide +kernel
theorem dX7_puts1_4 : decode cX7_puts1 4 = .ok (.bipush 64, 2) := by decide +kernel
theorem dX7_puts1_6 : decode cX7_puts1 6 = .ok (.iconst 5, 1) := by decide +kernel
theorem dX7_puts1_7 : decode cX7_puts1 7 = .ok (.iload_n 1, 1) := by decide +kernel
theorem dX7_puts1_8 : decode cX7_puts1 8 = .ok (.imul, 1) := by decide +kernel
theorem dX7_puts1_9 : decode cX7_puts1 9 = .ok (.iadd, 1) := by decide +kernel
theorem dX7_puts1_10 : decode cX7_puts1 10 = .ok (.iload_n 2, 1) := by decide +kernel
theorem dX7_puts1_11 : decode cX7_puts1 11 = .ok (.iadd, 1) := by decide +kernel
theorem dX7_puts1_12 : decode cX7_puts1 12 = .ok (.iload_n 3, 1) := by decide +kernel
theorem dX7_puts1_13 : decode cX7_puts1 13 = .ok (.iastore, 1) := by decide +kernel
theorem dX7_puts1_14 : decode cX7_puts1 14 = .ok (.return_, 1) := by decide +kernel
theorem dX7_allBirds_0 : decode cX7_allBirds 0 = .ok (.iconst 1, 1) := by decide +kernel
theorem dX7_allBirds_1 : decode cX7_allBirds 1 = .ok (.aload_n 0, 1) := by decide +kernel
theorem dX7_allBirds_2 : decode cX7_allBirds 2 = .ok (.getfield 9, 3) := by decide +kernel
theorem dX7_allBirds_5 : decode cX7_allBirds 5 = .ok (.iconst 1, 1) := by decide +kernel
theorem dX7_allBirds_6 : decode cX7_allBirds 6 = .ok (.iaload, 1) := by decide +kernel
theorem dX7_allBirds_7 : decode cX7_allBirds 7 = .ok (.ishl, 1) := by decide +kernel
theorem dX7_allBirds_8 : decode cX7_allBirds 8 = .ok (.iconst 1, 1) := by decide +kernel
theorem dX7_allBirds_9 : decode cX7_allBirds 9 = .ok (.isub, 1) := by decide +kernel
theorem dX7_allBirds_10 : decode cX7_allBirds 10 = .ok (.ireturn, 1) := by decide +kernel
theorem dX7_setsAside_0 : decode cX7_setsAside 0 = .ok (.iconst 0, 1) := by decide +kernel
theorem dX7_setsAside_1 : decode cX7_setsAside 1 = .ok (.istore_n 1, 1) := by decide +kernel
theorem dX7_setsAside_2 : decode cX7_setsAside 2 = .ok (.iload_n 1, 1) := by decide +kernel
theorem dX7_setsAside_3 : decode cX7_setsAside 3 = .ok (.bipush 114, 2) := by decide +kernel
theorem dX7_setsAside_5 : decode cX7_setsAside 5 = .ok (.if_icmp .ge 21, 3) := by decide +kernel
theorem dX7_setsAside_8 : decode cX7_setsAside 8 = .ok (.aload_n 0, 1) := by decide +kernel
theorem dX7_setsAside_9 : decode cX7_setsAside 9 = .ok (.getfield 16, 3) := by decide +kernel
theorem dX7_setsAside_12 : decode cX7_setsAside 12 = .ok (.iload_n 1, 1) := by decide +kernel
theorem dX7_setsAside_13 : decode cX7_setsAside 13 = .ok (.aload_n 0, 1) := by decide +kernel
theorem dX7_setsAside_14 : decode cX7_setsAside 14 = .ok (.getfield 9, 3) := by decide +kernel
theorem dX7_setsAside_17 : decode cX7_setsAside 17 = .ok (.iload_n 1, 1) := by decide +kernel
theorem dX7_setsAside_18 : decode cX7_setsAside 18 = .ok (.iaload, 1) := by decide +kernel
theorem dX7_setsAside_19 : decode cX7_setsAside 19 = .ok (.iastore, 1) := by decide +kernel
theorem dX7_setsAside_20 : decode cX7_setsAside 20 = .ok (.iinc 1 1, 3) := by decide +kernel
theorem dX7_setsAside_23 : decode cX7_setsAside 23 = .ok (.goto (-21), 3) := by decide +kernel
theorem dX7_setsAside_26 : decode cX7_setsAside 26 = .ok (.return_, 1) := by decide +kernel
theorem dX7_laysBack_0 : decode cX7_laysBack 0 = .ok (.iconst 0, 1) := by decide +kernel
theorem dX7_laysBack_1 : decode cX7_laysBack 1 = .ok (.istore_n 1, 1) := by decide +kernel
theorem dX7_laysBack_2 : decode cX7_laysBack 2 = .ok (.iload_n 1, 1) := by decide +kernel
theorem dX7_laysBack_3 : decode cX7_laysBack 3 = .ok (.bipush 114, 2) := by decide +kernel
theorem dX7_laysBack_5 : decode cX7_laysBack 5 = .ok (.if_icmp .ge 21, 3) := by decide +kernel
theorem dX7_laysBack_8 : decode cX7_laysBack 8 = .ok (.aload_n 0, 1) := by decide +kernel
theorem dX7_laysBack_9 : decode cX7_laysBack 9 = .ok (.getfield 9, 3) := by decide +kernel
theorem dX7_laysBack_12 : decode cX7_laysBack 12 = .ok (.iload_n 1, 1) := by decide +kernel
theorem dX7_laysBack_13 : decode cX7_laysBack 13 = .ok (.aload_n 0, 1) := by decide +kernel
theorem dX7_laysBack_14 : decode cX7_laysBack 14 = .ok (.getfield 16, 3) := by decide +kernel
theorem dX7_laysBack_17 : decode cX7_laysBack 17 = .ok (.iload_n 1, 1) := by decide +kernel
theorem dX7_laysBack_18 : decode cX7_laysBack 18 = .ok (.iaload, 1) := by decide +kernel
theorem dX7_laysBack_19 : decode cX7_laysBack 19 = .ok (.iastore, 1) := by decide +kernel
theorem dX7_laysBack_20 : decode cX7_laysBack 20 = .ok (.iinc 1 1, 3) := by decide +kernel
theorem dX7_laysBack_23 : decode cX7_laysBack 23 = .ok (.goto (-21), 3) := by decide +kernel
theorem dX7_laysBack_26 : decode cX7_laysBack 26 = .ok (.return_, 1) := by decide +kernel
theorem dX7_feathers_0 : decode cX7_feathers 0 = .ok (.aload_n 0, 1) := by decide +kernel
theorem dX7_feathers_1 : decode cX7_feathers 1 = .ok (.iload_n 1, 1) := by decide +kernel
theorem dX7_feathers_2 : decode cX7_feathers 2 = .ok (.iconst 3, 1) := by decide +kernel
theorem dX7_feathers_3 : decode cX7_feathers 3 = .ok (.invokevirtual 64, 3) := by decide +kernel
theorem dX7_feathers_6 : decode cX7_feathers 6 = .ok (.aload_n 0, 1) := by decide +kernel
theorem dX7_feathers_7 : decode cX7_feathers 7 = .ok (.iload_n 1, 1) := by decide +kernel
theorem dX7_feathers_8 : decode cX7_feathers 8 = .ok (.iconst 4, 1) := by decide +kernel
theorem dX7_feathers_9 : decode cX7_feathers 9 = .ok (.invokevirtual 64, 3) := by decide +kernel
theorem dX7_feathers_12 : decode cX7_feathers 12 = .ok (.iadd, 1) := by decide +kernel
theorem dX7_feathers_13 : decode cX7_feathers 13 = .ok (.aload_n 0, 1) := by decide +kernel
theorem dX7_feathers_14 : decode cX7_feathers 14 = .ok (.iload_n 1, 1) := by decide +kernel
theorem dX7_feathers_15 : decode cX7_feathers 15 = .ok (.iconst 5, 1) := by decide +kernel
theorem dX7_feathers_16 : decode cX7_feathers 16 = .ok (.invokevirtual 64, 3) := by decide +kernel
theorem dX7_feathers_19 : decode cX7_feathers 19 = .ok (.iadd, 1) := by decide +kernel
theorem dX7_feathers_20 : decode cX7_feathers 20 = .ok (.aload_n 0, 1) := by decide +kernel
theorem dX7_feathers_21 : decode cX7_feathers 21 = .ok (.iload_n 1, 1) := by decide +kernel
theorem dX7_feathers_22 : decode cX7_feathers 22 = .ok (.bipush 6, 2) := by decide +kernel
theorem dX7_feathers_24 : decode cX7_feathers 24 = .ok (.invokevirtual 64, 3) := by decide +kernel
theorem dX7_feathers_27 : decode cX7_feathers 27 = .ok (.iadd, 1) := by decide +kernel
theorem dX7_feathers_28 : decode cX7_feathers 28 = .ok (.ireturn, 1) := by decide +kernel
theorem dX7_allFeathers_0 : decode cX7_allFeathers 0 = .ok (.iconst 0, 1) := by decide +kernel
theorem dX7_allFeathers_1 : decode cX7_allFeathers 1 = .ok (.istore_n 1, 1) := by decide +kernel
theorem dX7_allFeathers_2 : decode cX7_allFeathers 2 = .ok (.iconst 0, 1) := by decide +kernel
theorem dX7_allFeathers_3 : decode cX7_allFeathers 3 = .ok (.istore_n 2, 1) := by decide +kernel
theorem dX7_allFeathers_4 : decode cX7_allFeathers 4 = .ok (.iload_n 2, 1) := by decide +kernel
theorem dX7_allFeathers_5 : decode cX7_allFeathers 5 = .ok (.aload_n 0, 1) := by decide +kernel
theorem dX7_allFeathers_6 : decode cX7_allFeathers 6 = .ok (.getfield 9, 3) := by decide +kernel
theorem dX7_allFeathers_9 : decode cX7_allFeathers 9 = .ok (.iconst 1, 1) := by decide +kernel
theorem dX7_allFeathers_10 : decode cX7_allFeathers 10 = .ok (.iaload, 1) := by decide +kernel
theorem dX7_allFeathers_11 : decode cX7_allFeathers 11 = .ok (.if_icmp .ge 17, 3) := by decide +kernel
theorem dX7_allFeathers_14 : decode cX7_allFeathers 14 = .ok (.iload_n 1, 1) := by decide +kernel
theorem dX7_allFeathers_15 : decode cX7_allFeathers 15 = .ok (.aload_n 0, 1) := by decide +kernel
theorem dX7_allFeathers_16 : decode cX7_allFeathers 16 = .ok (.iload_n 2, 1) := by decide +kernel
theorem dX7_allFeathers_17 : decode cX7_allFeathers 17 = .ok (.invokevirtual 68, 3) := by decide +kernel
theorem dX7_allFeathers_20 : decode cX7_allFeathers 20 = .ok (.iadd, 1) := by decide +kernel
theorem dX7_allFeathers_21 : decode cX7_allFeathers 21 = .ok (.istore_n 1, 1) := by decide +kernel
theorem dX7_allFeathers_22 : decode cX7_allFeathers 22 = .ok (.iinc 2 1, 3) := by decide +kernel
theorem dX7_allFeathers_25 : decode cX7_allFeathers 25 = .ok (.goto (-21), 3) := by decide +kernel
theorem dX7_allFeathers_28 : decode cX7_allFeathers 28 = .ok (.iload_n 1, 1) := by decide +kernel
theorem dX7_allFeathers_29 : decode cX7_allFeathers 29 = .ok (.ireturn, 1) := by decide +kernel
theorem dX7_doesFly_0 : decode cX7_doesFly 0 = .ok (.aload_n 0, 1) := by decide +kernel
theorem dX7_doesFly_1 : decode cX7_doesFly 1 = .ok (.iload_n 1, 1) := by decide +kernel
theorem dX7_doesFly_2 : decode cX7_doesFly 2 = .ok (.invokevirtual 68, 3) := by decide +kernel
theorem dX7_doesFly_5 : decode cX7_doesFly 5 = .ok (.aload_n 0, 1) := by decide +kernel
theorem dX7_doesFly_6 : decode cX7_doesFly 6 = .ok (.iload_n 1, 1) := by decide +kernel
theorem dX7_doesFly_7 : decode cX7_doesFly 7 = .ok (.iconst 1, 1) := by decide +kernel
theorem dX7_doesFly_8 : decode cX7_doesFly 8 = .ok (.invokevirtual 64, 3) := by decide +kernel
theorem dX7_doesFly_11 : decode cX7_doesFly 11 = .ok (.if_icmp .lt 7, 3) := by decide +kernel
theorem dX7_doesFly_14 : decode cX7_doesFly 14 = .ok (.iconst 1, 1) := by decide +kernel
theorem dX7_doesFly_15 : decode cX7_doesFly 15 = .ok (.goto 4, 3) := by decide +kernel
theorem dX7_doesFly_18 : decode cX7_doesFly 18 = .ok (.iconst 0, 1) := by decide +kernel
theorem dX7_doesFly_19 : decode cX7_doesFly 19 = .ok (.ireturn, 1) := by decide +kernel
theorem dX7_flying_0 : decode cX7_flying 0 = .ok (.iconst 0, 1) := by decide +kernel
theorem dX7_flying_1 : decode cX7_flying 1 = .ok (.istore_n 1, 1) := by decide +kernel
theorem dX7_flying_2 : decode cX7_flying 2 = .ok (.iconst 0, 1) := by decide +kernel
theorem dX7_flying_3 : decode cX7_flying 3 = .ok (.istore_n 2, 1) := by decide +kernel
theorem dX7_flying_4 : decode cX7_flying 4 = .ok (.iload_n 2, 1) := by decide +kernel
theorem dX7_flying_5 : decode cX7_flying 5 = .ok (.aload_n 0, 1) := by decide +kernel
theorem dX7_flying_6 : decode cX7_flying 6 = .ok (.getfield 9, 3) := by decide +kernel
theorem dX7_flying_9 : decode cX7_flying 9 = .ok (.iconst 1, 1) := by decide +kernel
theorem dX7_flying_10 : decode cX7_flying 10 = .ok (.iaload, 1) := by decide +kernel
theorem dX7_flying_11 : decode cX7_flying 11 = .ok (.if_icmp .ge 27, 3) := by decide +kernel
theorem dX7_flying_14 : decode cX7_flying 14 = .ok (.iload_n 1, 1) := by decide +kernel
theorem dX7_flying_15 : decode cX7_flying 15 = .ok (.aload_n 0, 1) := by decide +kernel
theorem dX7_flying_16 : decode cX7_flying 16 = .ok (.iload_n 2, 1) := by decide +kernel
theorem dX7_flying_17 : decode cX7_flying 17 = .ok (.invokevirtual 72, 3) := by decide +kernel
theorem dX7_flying_20 : decode cX7_flying 20 = .ok (.ifCond .eq 9, 3) := by decide +kernel
theorem dX7_flying_23 : decode cX7_flying 23 = .ok (.iconst 1, 1) := by decide +kernel
theorem dX7_flying_24 : decode cX7_flying 24 = .ok (.iload_n 2, 1) := by decide +kernel
theorem dX7_flying_25 : decode cX7_flying 25 = .ok (.ishl, 1) := by decide +kernel
theorem dX7_flying_26 : decode cX7_flying 26 = .ok (.goto 4, 3) := by decide +kernel
theorem dX7_flying_29 : decode cX7_flying 29 = .ok (.iconst 0, 1) := by decide +kernel
theorem dX7_flying_30 : decode cX7_flying 30 = .ok (.ior, 1) := by decide +kernel
theorem dX7_flying_31 : decode cX7_flying 31 = .ok (.istore_n 1, 1) := by decide +kernel
theorem dX7_flying_32 : decode cX7_flying 32 = .ok (.iinc 2 1, 3) := by decide +kernel
theorem dX7_flying_35 : decode cX7_flying 35 = .ok (.goto (-31), 3) := by decide +kernel
theorem dX7_flying_38 : decode cX7_flying 38 = .ok (.iload_n 1, 1) := by decide +kernel
theorem dX7_flying_39 : decode cX7_flying 39 = .ok (.ireturn, 1) := by decide +kernel
theorem dX7_crowsBeside_0 : decode cX7_crowsBeside 0 = .ok (.iconst 0, 1) := by decide +kernel
theorem dX7_crowsBeside_1 : decode cX7_crowsBeside 1 = .ok (.istore_n 3, 1) := by decide +kernel
theorem dX7_crowsBeside_2 : decode cX7_crowsBeside 2 = .ok (.iconst 0, 1) := by decide +kernel
theorem dX7_crowsBeside_3 : decode cX7_crowsBeside 3 = .ok (.istore 4, 2) := by decide +kernel
theorem dX7_crowsBeside_5 : decode cX7_crowsBeside 5 = .ok (.iload 4, 2) := by decide +kernel
theorem dX7_crowsBeside_7 : decode cX7_crowsBeside 7 = .ok (.aload_n 0, 1) := by decide +kernel
theorem dX7_crowsBeside_8 : decode cX7_crowsBeside 8 = .ok (.getfield 9, 3) := by decide +kernel
theorem dX7_crowsBeside_11 : decode cX7_crowsBeside 11 = .ok (.iconst 1, 1) := by decide +kernel
theorem dX7_crowsBeside_12 : decode cX7_crowsBeside 12 = .ok (.iaload, 1) := by decide +kernel
theorem dX7_crowsBeside_13 : decode cX7_crowsBeside 13 = .ok (.if_icmp .ge 52, 3) := by decide +kernel
theorem dX7_crowsBeside_16 : decode cX7_crowsBeside 16 = .ok (.iload_n 3, 1) := by decide +kernel
theorem dX7_crowsBeside_17 : decode cX7_crowsBeside 17 = .ok (.iload 4, 2) := by decide +kernel
theorem dX7_crowsBeside_19 : decode cX7_crowsBeside 19 = .ok (.iload_n 1, 1) := by decide +kernel
theorem dX7_crowsBeside_20 : decode cX7_crowsBeside 20 = .ok (.if_icmp .eq 36, 3) := by decide +kernel
theorem dX7_crowsBeside_23 : decode cX7_crowsBeside 23 = .ok (.aload_n 0, 1) := by decide +kernel
theorem dX7_crowsBeside_24 : decode cX7_crowsBeside 24 = .ok (.iload 4, 2) := by decide +kernel
theorem dX7_crowsBeside_26 : decode cX7_crowsBeside 26 = .ok (.iconst 0, 1) := by decide +kernel
theorem dX7_crowsBeside_27 : decode cX7_crowsBeside 27 = .ok (.invokevirtual 64, 3) := by decide +kernel
theorem dX7_crowsBeside_30 : decode cX7_crowsBeside 30 = .ok (.iconst 2, 1) := by decide +kernel
theorem dX7_crowsBeside_31 : decode cX7_crowsBeside 31 = .ok (.iconst 4, 1) := by decide +kernel
theorem dX7_crowsBeside_32 : decode cX7_crowsBeside 32 = .ok (.invokestatic 60, 3) := by decide +kernel
theorem dX7_crowsBeside_35 : decode cX7_crowsBeside 35 = .ok (.ifCond .eq 21, 3) := by decide +kernel
theorem dX7_crowsBeside_38 : decode cX7_crowsBeside 38 = .ok (.iload_n 2, 1) := by decide +kernel
theorem dX7_crowsBeside_39 : decode cX7_crowsBeside 39 = .ok (.iload 4, 2) := by decide +kernel
theorem dX7_crowsBeside_41 : decode cX7_crowsBeside 41 = .ok (.invokestatic 76, 3) := by decide +kernel
theorem dX7_crowsBeside_44 : decode cX7_crowsBeside 44 = .ok (.iload_n 2, 1) := by decide +kernel
theorem dX7_crowsBeside_45 : decode cX7_crowsBeside 45 = .ok (.iload_n 1, 1) := by decide +kernel
theorem dX7_crowsBeside_46 : decode cX7_crowsBeside 46 = .ok (.invokestatic 76, 3) := by decide +kernel
theorem dX7_crowsBeside_49 : decode cX7_crowsBeside 49 = .ok (.if_icmp .ne 7, 3) := by decide +kernel
theorem dX7_crowsBeside_52 : decode cX7_crowsBeside 52 = .ok (.iconst 1, 1) := by decide +kernel
theorem dX7_crowsBeside_53 : decode cX7_crowsBeside 53 = .ok (.goto 4, 3) := by decide +kernel
theorem dX7_crowsBeside_56 : decode cX7_crowsBeside 56 = .ok (.iconst 0, 1) := by decide +kernel
theorem dX7_crowsBeside_57 : decode cX7_crowsBeside 57 = .ok (.iadd, 1) := by decide +kernel
theorem dX7_crowsBeside_58 : decode cX7_crowsBeside 58 = .ok (.istore_n 3, 1) := by decide +kernel
theorem dX7_crowsBeside_59 : decode cX7_crowsBeside 59 = .ok (.iinc 4 1, 3) := by decide +kernel
theorem dX7_crowsBeside_62 : decode cX7_crowsBeside 62 = .ok (.goto (-57), 3) := by decide +kernel
theorem dX7_crowsBeside_65 : decode cX7_crowsBeside 65 = .ok (.iload_n 3, 1) := by decide +kernel
theorem dX7_crowsBeside_66 : decode cX7_crowsBeside 66 = .ok (.ireturn, 1) := by decide +kernel
theorem dX7_dropsBy_0 : decode cX7_dropsBy 0 = .ok (.aload_n 0, 1) := by decide +kernel
theorem dX7_dropsBy_1 : decode cX7_dropsBy 1 = .ok (.iload_n 2, 1) := by decide +kernel
theorem dX7_dropsBy_2 : decode cX7_dropsBy 2 = .ok (.iconst 0, 1) := by decide +kernel
theorem dX7_dropsBy_3 : decode cX7_dropsBy 3 = .ok (.invokevirtual 80, 3) := by decide +kernel
theorem dX7_dropsBy_6 : decode cX7_dropsBy 6 = .ok (.istore 4, 2) := by decide +kernel
theorem dX7_dropsBy_8 : decode cX7_dropsBy 8 = .ok (.iconst 1, 1) := by decide +kernel
theorem dX7_dropsBy_9 : decode cX7_dropsBy 9 = .ok (.aload_n 0, 1) := by decide +kernel
theorem dX7_dropsBy_10 : decode cX7_dropsBy 10 = .ok (.iload_n 1, 1) := by decide +kernel
theorem dX7_dropsBy_11 : decode cX7_dropsBy 11 = .ok (.iload_n 3, 1) := by decide +kernel
theorem dX7_dropsBy_12 : decode cX7_dropsBy 12 = .ok (.invokevirtual 83, 3) := by decide +kernel
theorem dX7_dropsBy_15 : decode cX7_dropsBy 15 = .ok (.iadd, 1) := by decide +kernel
theorem dX7_dropsBy_16 : decode cX7_dropsBy 16 = .ok (.istore 5, 2) := by decide +kernel
theorem dX7_dropsBy_18 : decode cX7_dropsBy 18 = .ok (.aload_n 0, 1) := by decide +kernel
theorem dX7_dropsBy_19 : decode cX7_dropsBy 19 = .ok (.iload_n 1, 1) := by decide +kernel
theorem dX7_dropsBy_20 : decode cX7_dropsBy 20 = .ok (.invokevirtual 68, 3) := by decide +kernel
theorem dX7_dropsBy_23 : decode cX7_dropsBy 23 = .ok (.iconst 1, 1) := by decide +kernel
theorem dX7_dropsBy_24 : decode cX7_dropsBy 24 = .ok (.isub, 1) := by decide +kernel
theorem dX7_dropsBy_25 : decode cX7_dropsBy 25 = .ok (.aload_n 0, 1) := by decide +kernel
theorem dX7_dropsBy_26 : decode cX7_dropsBy 26 = .ok (.iload_n 1, 1) := by decide +kernel
theorem dX7_dropsBy_27 : decode cX7_dropsBy 27 = .ok (.iconst 1, 1) := by decide +kernel
theorem dX7_dropsBy_28 : decode cX7_dropsBy 28 = .ok (.invokevirtual 64, 3) := by decide +kernel
theorem dX7_dropsBy_31 : decode cX7_dropsBy 31 = .ok (.if_icmp .lt 7, 3) := by decide +kernel
theorem dX7_dropsBy_34 : decode cX7_dropsBy 34 = .ok (.iconst 1, 1) := by decide +kernel
theorem dX7_dropsBy_35 : decode cX7_dropsBy 35 = .ok (.goto 4, 3) := by decide +kernel
theorem dX7_dropsBy_38 : decode cX7_dropsBy 38 = .ok (.iconst 0, 1) := by decide +kernel
theorem dX7_dropsBy_39 : decode cX7_dropsBy 39 = .ok (.istore 6, 2) := by decide +kernel
theorem dX7_dropsBy_41 : decode cX7_dropsBy 41 = .ok (.iconst 1, 1) := by decide +kernel
theorem dX7_dropsBy_42 : decode cX7_dropsBy 42 = .ok (.istore 7, 2) := by decide +kernel
theorem dX7_dropsBy_44 : decode cX7_dropsBy 44 = .ok (.aload_n 0, 1) := by decide +kernel
theorem dX7_dropsBy_45 : decode cX7_dropsBy 45 = .ok (.iload_n 1, 1) := by decide +kernel
theorem dX7_dropsBy_46 : decode cX7_dropsBy 46 = .ok (.iconst 0, 1) := by decide +kernel
theorem dX7_dropsBy_47 : decode cX7_dropsBy 47 = .ok (.invokevirtual 64, 3) := by decide +kernel
theorem dX7_dropsBy_50 : decode cX7_dropsBy 50 = .ok (.tableswitch 104 1 6 #[38, 53, 60, 69, 80, 87], 38) := by decide +kernel
theorem dX7_dropsBy_88 : decode cX7_dropsBy 88 = .ok (.iload 4, 2) := by decide +kernel
theorem dX7_dropsBy_90 : decode cX7_dropsBy 90 = .ok (.ifCond .ne 7, 3) := by decide +kernel
theorem dX7_dropsBy_93 : decode cX7_dropsBy 93 = .ok (.iconst 1, 1) := by decide +kernel
theorem dX7_dropsBy_94 : decode cX7_dropsBy 94 = .ok (.goto 4, 3) := by decide +kernel
theorem dX7_dropsBy_97 : decode cX7_dropsBy 97 = .ok (.iconst 0, 1) := by decide +kernel
theorem dX7_dropsBy_98 : decode cX7_dropsBy 98 = .ok (.istore 7, 2) := by decide +kernel
theorem dX7_dropsBy_100 : decode cX7_dropsBy 100 = .ok (.goto 54, 3) := by decide +kernel
theorem dX7_dropsBy_103 : decode cX7_dropsBy 103 = .ok (.iload 5, 2) := by decide +kernel
theorem dX7_dropsBy_105 : decode cX7_dropsBy 105 = .ok (.istore 7, 2) := by decide +kernel
theorem dX7_dropsBy_107 : decode cX7_dropsBy 107 = .ok (.goto 47, 3) := by decide +kernel
theorem dX7_dropsBy_110 : decode cX7_dropsBy 110 = .ok (.iconst 2, 1) := by decide +kernel
theorem dX7_dropsBy_111 : decode cX7_dropsBy 111 = .ok (.iload 5, 2) := by decide +kernel
theorem dX7_dropsBy_113 : decode cX7_dropsBy 113 = .ok (.imul, 1) := by decide +kernel
theorem dX7_dropsBy_114 : decode cX7_dropsBy 114 = .ok (.istore 7, 2) := by decide +kernel
theorem dX7_dropsBy_116 : decode cX7_dropsBy 116 = .ok (.goto 38, 3) := by decide +kernel
theorem dX7_dropsBy_119 : decode cX7_dropsBy 119 = .ok (.iconst 2, 1) := by decide +kernel
theorem dX7_dropsBy_120 : decode cX7_dropsBy 120 = .ok (.iload 5, 2) := by decide +kernel
theorem dX7_dropsBy_122 : decode cX7_dropsBy 122 = .ok (.imul, 1) := by decide +kernel
theorem dX7_dropsBy_123 : decode cX7_dropsBy 123 = .ok (.iconst 1, 1) := by decide +kernel
theorem dX7_dropsBy_124 : decode cX7_dropsBy 124 = .ok (.iadd, 1) := by decide +kernel
theorem dX7_dropsBy_125 : decode cX7_dropsBy 125 = .ok (.istore 7, 2) := by decide +kernel
theorem dX7_dropsBy_127 : decode cX7_dropsBy 127 = .ok (.goto 27, 3) := by decide +kernel
theorem dX7_dropsBy_130 : decode cX7_dropsBy 130 = .ok (.iload 6, 2) := by decide +kernel
theorem dX7_dropsBy_132 : decode cX7_dropsBy 132 = .ok (.istore 7, 2) := by decide +kernel
theorem dX7_dropsBy_134 : decode cX7_dropsBy 134 = .ok (.goto 20, 3) := by decide +kernel
theorem dX7_dropsBy_137 : decode cX7_dropsBy 137 = .ok (.iload 6, 2) := by decide +kernel
theorem dX7_dropsBy_139 : decode cX7_dropsBy 139 = .ok (.iload_n 3, 1) := by decide +kernel
theorem dX7_dropsBy_140 : decode cX7_dropsBy 140 = .ok (.ifCond .ne 7, 3) := by decide +kernel
theorem dX7_dropsBy_143 : decode cX7_dropsBy 143 = .ok (.iconst 1, 1) := by decide +kernel
theorem dX7_dropsBy_144 : decode cX7_dropsBy 144 = .ok (.goto 4, 3) := by decide +kernel
theorem dX7_dropsBy_147 : decode cX7_dropsBy 147 = .ok (.iconst 0, 1) := by decide +kernel
theorem dX7_dropsBy_148 : decode cX7_dropsBy 148 = .ok (.iadd, 1) := by decide +kernel
theorem dX7_dropsBy_149 : decode cX7_dropsBy 149 = .ok (.istore 7, 2) := by decide +kernel
theorem dX7_dropsBy_151 : decode cX7_dropsBy 151 = .ok (.goto 3, 3) := by decide +kernel
theorem dX7_dropsBy_154 : decode cX7_dropsBy 154 = .ok (.iload 7, 2) := by decide +kernel
theorem dX7_dropsBy_156 : decode cX7_dropsBy 156 = .ok (.aload_n 0, 1) := by decide +kernel
theorem dX7_dropsBy_157 : decode cX7_dropsBy 157 = .ok (.iload_n 1, 1) := by decide +kernel
theorem dX7_dropsBy_158 : decode cX7_dropsBy 158 = .ok (.iconst 3, 1) := by decide +kernel
theorem dX7_dropsBy_159 : decode cX7_dropsBy 159 = .ok (.iload 4, 2) := by decide +kernel
theorem dX7_dropsBy_161 : decode cX7_dropsBy 161 = .ok (.iadd, 1) := by decide +kernel
theorem dX7_dropsBy_162 : decode cX7_dropsBy 162 = .ok (.invokevirtual 64, 3) := by decide +kernel
theorem dX7_dropsBy_165 : decode cX7_dropsBy 165 = .ok (.invokestatic 86, 3) := by decide +kernel
theorem dX7_dropsBy_168 : decode cX7_dropsBy 168 = .ok (.ireturn, 1) := by decide +kernel
theorem dX7_sideBy_0 : decode cX7_sideBy 0 = .ok (.iconst 0, 1) := by decide +kernel
theorem dX7_sideBy_1 : decode cX7_sideBy 1 = .ok (.istore 4, 2) := by decide +kernel
theorem dX7_sideBy_3 : decode cX7_sideBy 3 = .ok (.iconst 0, 1) := by decide +kernel
theorem dX7_sideBy_4 : decode cX7_sideBy 4 = .ok (.istore 5, 2) := by decide +kernel
theorem dX7_sideBy_6 : decode cX7_sideBy 6 = .ok (.iload 5, 2) := by decide +kernel
theorem dX7_sideBy_8 : decode cX7_sideBy 8 = .ok (.aload_n 0, 1) := by decide +kernel
theorem dX7_sideBy_9 : decode cX7_sideBy 9 = .ok (.getfield 9, 3) := by decide +kernel
theorem dX7_sideBy_12 : decode cX7_sideBy 12 = .ok (.iconst 1, 1) := by decide +kernel
theorem dX7_sideBy_13 : decode cX7_sideBy 13 = .ok (.iaload, 1) := by decide +kernel
theorem dX7_sideBy_14 : decode cX7_sideBy 14 = .ok (.if_icmp .ge 36, 3) := by decide +kernel
theorem dX7_sideBy_17 : decode cX7_sideBy 17 = .ok (.iload 4, 2) := by decide +kernel
theorem dX7_sideBy_19 : decode cX7_sideBy 19 = .ok (.iload_n 2, 1) := by decide +kernel
theorem dX7_sideBy_20 : decode cX7_sideBy 20 = .ok (.iload 5, 2) := by decide +kernel
theorem dX7_sideBy_22 : decode cX7_sideBy 22 = .ok (.invokestatic 76, 3) := by decide +kernel
theorem dX7_sideBy_25 : decode cX7_sideBy 25 = .ok (.iload_n 3, 1) := by decide +kernel
theorem dX7_sideBy_26 : decode cX7_sideBy 26 = .ok (.if_icmp .ne 14, 3) := by decide +kernel
theorem dX7_sideBy_29 : decode cX7_sideBy 29 = .ok (.aload_n 0, 1) := by decide +kernel
theorem dX7_sideBy_30 : decode cX7_sideBy 30 = .ok (.iload 5, 2) := by decide +kernel
theorem dX7_sideBy_32 : decode cX7_sideBy 32 = .ok (.iload_n 1, 1) := by decide +kernel
theorem dX7_sideBy_33 : decode cX7_sideBy 33 = .ok (.iload_n 2, 1) := by decide +kernel
theorem dX7_sideBy_34 : decode cX7_sideBy 34 = .ok (.invokevirtual 89, 3) := by decide +kernel
theorem dX7_sideBy_37 : decode cX7_sideBy 37 = .ok (.goto 4, 3) := by decide +kernel
theorem dX7_sideBy_40 : decode cX7_sideBy 40 = .ok (.iconst 0, 1) := by decide +kernel
theorem dX7_sideBy_41 : decode cX7_sideBy 41 = .ok (.iadd, 1) := by decide +kernel
theorem dX7_sideBy_42 : decode cX7_sideBy 42 = .ok (.istore 4, 2) := by decide +kernel
theorem dX7_sideBy_44 : decode cX7_sideBy 44 = .ok (.iinc 5 1, 3) := by decide +kernel
theorem dX7_sideBy_47 : decode cX7_sideBy 47 = .ok (.goto (-41), 3) := by decide +kernel
theorem dX7_sideBy_50 : decode cX7_sideBy 50 = .ok (.iload 4, 2) := by decide +kernel
theorem dX7_sideBy_52 : decode cX7_sideBy 52 = .ok (.ireturn, 1) := by decide +kernel
theorem dX7_passesBy_0 : decode cX7_passesBy 0 = .ok (.aload_n 0, 1) := by decide +kernel
theorem dX7_passesBy_1 : decode cX7_passesBy 1 = .ok (.iload_n 1, 1) := by decide +kernel
theorem dX7_passesBy_2 : decode cX7_passesBy 2 = .ok (.iload_n 2, 1) := by decide +kernel
theorem dX7_passesBy_3 : decode cX7_passesBy 3 = .ok (.iconst 1, 1) := by decide +kernel
theorem dX7_passesBy_4 : decode cX7_passesBy 4 = .ok (.invokevirtual 93, 3) := by decide +kernel
theorem dX7_passesBy_7 : decode cX7_passesBy 7 = .ok (.istore_n 3, 1) := by decide +kernel
theorem dX7_passesBy_8 : decode cX7_passesBy 8 = .ok (.aload_n 0, 1) := by decide +kernel
theorem dX7_passesBy_9 : decode cX7_passesBy 9 = .ok (.iload_n 1, 1) := by decide +kernel
theorem dX7_passesBy_10 : decode cX7_passesBy 10 = .ok (.iload_n 2, 1) := by decide +kernel
theorem dX7_passesBy_11 : decode cX7_passesBy 11 = .ok (.iconst 0, 1) := by decide +kernel
theorem dX7_passesBy_12 : decode cX7_passesBy 12 = .ok (.invokevirtual 93, 3) := by decide +kernel
theorem dX7_passesBy_15 : decode cX7_passesBy 15 = .ok (.istore 4, 2) := by decide +kernel
theorem dX7_passesBy_17 : decode cX7_passesBy 17 = .ok (.iload_n 3, 1) := by decide +kernel
theorem dX7_passesBy_18 : decode cX7_passesBy 18 = .ok (.iload 4, 2) := by decide +kernel
theorem dX7_passesBy_20 : decode cX7_passesBy 20 = .ok (.if_icmp .le 20, 3) := by decide +kernel
theorem dX7_passesBy_23 : decode cX7_passesBy 23 = .ok (.iload_n 3, 1) := by decide +kernel
theorem dX7_passesBy_24 : decode cX7_passesBy 24 = .ok (.iload 4, 2) := by decide +kernel
theorem dX7_passesBy_26 : decode cX7_passesBy 26 = .ok (.iadd, 1) := by decide +kernel
theorem dX7_passesBy_27 : decode cX7_passesBy 27 = .ok (.aload_n 0, 1) := by decide +kernel
theorem dX7_passesBy_28 : decode cX7_passesBy 28 = .ok (.iload_n 1, 1) := by decide +kernel
theorem dX7_passesBy_29 : decode cX7_passesBy 29 = .ok (.iconst 1, 1) := by decide +kernel
theorem dX7_passesBy_30 : decode cX7_passesBy 30 = .ok (.invokevirtual 80, 3) := by decide +kernel
theorem dX7_passesBy_33 : decode cX7_passesBy 33 = .ok (.if_icmp .lt 7, 3) := by decide +kernel
theorem dX7_passesBy_36 : decode cX7_passesBy 36 = .ok (.iconst 1, 1) := by decide +kernel
theorem dX7_passesBy_37 : decode cX7_passesBy 37 = .ok (.goto 4, 3) := by decide +kernel
theorem dX7_passesBy_40 : decode cX7_passesBy 40 = .ok (.iconst 0, 1) := by decide +kernel
theorem dX7_passesBy_41 : decode cX7_passesBy 41 = .ok (.ireturn, 1) := by decide +kernel
theorem dX7_passesNow_0 : decode cX7_passesNow 0 = .ok (.aload_n 0, 1) := by decide +kernel
theorem dX7_passesNow_1 : decode cX7_passesNow 1 = .ok (.iload_n 1, 1) := by decide +kernel
theorem dX7_passesNow_2 : decode cX7_passesNow 2 = .ok (.aload_n 0, 1) := by decide +kernel
theorem dX7_passesNow_3 : decode cX7_passesNow 3 = .ok (.iload_n 1, 1) := by decide +kernel
theorem dX7_passesNow_4 : decode cX7_passesNow 4 = .ok (.iconst 2, 1) := by decide +kernel
theorem dX7_passesNow_5 : decode cX7_passesNow 5 = .ok (.invokevirtual 80, 3) := by decide +kernel
theorem dX7_passesNow_8 : decode cX7_passesNow 8 = .ok (.invokevirtual 97, 3) := by decide +kernel
theorem dX7_passesNow_11 : decode cX7_passesNow 11 = .ok (.ireturn, 1) := by decide +kernel
theorem dX7_droppedAll_0 : decode cX7_droppedAll 0 = .ok (.aload_n 0, 1) := by decide +kernel
theorem dX7_droppedAll_1 : decode cX7_droppedAll 1 = .ok (.iload_n 1, 1) := by decide +kernel
theorem dX7_droppedAll_2 : decode cX7_droppedAll 2 = .ok (.aload_n 0, 1) := by decide +kernel
theorem dX7_droppedAll_3 : decode cX7_droppedAll 3 = .ok (.iload_n 1, 1) := by decide +kernel
theorem dX7_droppedAll_4 : decode cX7_droppedAll 4 = .ok (.iconst 2, 1) := by decide +kernel
theorem dX7_droppedAll_5 : decode cX7_droppedAll 5 = .ok (.invokevirtual 80, 3) := by decide +kernel
theorem dX7_droppedAll_8 : decode cX7_droppedAll 8 = .ok (.iconst 1, 1) := by decide +kernel
theorem dX7_droppedAll_9 : decode cX7_droppedAll 9 = .ok (.invokevirtual 93, 3) := by decide +kernel
theorem dX7_droppedAll_12 : decode cX7_droppedAll 12 = .ok (.aload_n 0, 1) := by decide +kernel
theorem dX7_droppedAll_13 : decode cX7_droppedAll 13 = .ok (.iload_n 1, 1) := by decide +kernel
theorem dX7_droppedAll_14 : decode cX7_droppedAll 14 = .ok (.aload_n 0, 1) := by decide +kernel
theorem dX7_droppedAll_15 : decode cX7_droppedAll 15 = .ok (.iload_n 1, 1) := by decide +kernel
theorem dX7_droppedAll_16 : decode cX7_droppedAll 16 = .ok (.iconst 2, 1) := by decide +kernel
theorem dX7_droppedAll_17 : decode cX7_droppedAll 17 = .ok (.invokevirtual 80, 3) := by decide +kernel
theorem dX7_droppedAll_20 : decode cX7_droppedAll 20 = .ok (.iconst 0, 1) := by decide +kernel
theorem dX7_droppedAll_21 : decode cX7_droppedAll 21 = .ok (.invokevirtual 93, 3) := by decide +kernel
theorem dX7_droppedAll_24 : decode cX7_droppedAll 24 = .ok (.iadd, 1) := by decide +kernel
theorem dX7_droppedAll_25 : decode cX7_droppedAll 25 = .ok (.ireturn, 1) := by decide +kernel
theorem dX7_comesEffect_0 : decode cX7_comesEffect 0 = .ok (.iconst 0, 1) := by decide +kernel
theorem dX7_comesEffect_1 : decode cX7_comesEffect 1 = .ok (.istore_n 2, 1) := by decide +kernel
theorem dX7_comesEffect_2 : decode cX7_comesEffect 2 = .ok (.iload_n 2, 1) := by decide +kernel
theorem dX7_comesEffect_3 : decode cX7_comesEffect 3 = .ok (.aload_n 0, 1) := by decide +kernel
theorem dX7_comesEffect_4 : decode cX7_comesEffect 4 = .ok (.getfield 9, 3) := by decide +kernel
theorem dX7_comesEffect_7 : decode cX7_comesEffect 7 = .ok (.iconst 1, 1) := by decide +kernel
theorem dX7_comesEffect_8 : decode cX7_comesEffect 8 = .ok (.iaload, 1) := by decide +kernel
theorem dX7_comesEffect_9 : decode cX7_comesEffect 9 = .ok (.if_icmp .ge 104, 3) := by decide +kernel
theorem dX7_comesEffect_12 : decode cX7_comesEffect 12 = .ok (.aload_n 0, 1) := by decide +kernel
theorem dX7_comesEffect_13 : decode cX7_comesEffect 13 = .ok (.iload_n 2, 1) := by decide +kernel
theorem dX7_comesEffect_14 : decode cX7_comesEffect 14 = .ok (.iconst 2, 1) := by decide +kernel
theorem dX7_comesEffect_15 : decode cX7_comesEffect 15 = .ok (.invokevirtual 64, 3) := by decide +kernel
theorem dX7_comesEffect_18 : decode cX7_comesEffect 18 = .ok (.istore_n 3, 1) := by decide +kernel
theorem dX7_comesEffect_19 : decode cX7_comesEffect 19 = .ok (.aload_n 0, 1) := by decide +kernel
theorem dX7_comesEffect_20 : decode cX7_comesEffect 20 = .ok (.iload_n 2, 1) := by decide +kernel
theorem dX7_comesEffect_21 : decode cX7_comesEffect 21 = .ok (.iconst 1, 1) := by decide +kernel
theorem dX7_comesEffect_22 : decode cX7_comesEffect 22 = .ok (.invokevirtual 64, 3) := by decide +kernel
theorem dX7_comesEffect_25 : decode cX7_comesEffect 25 = .ok (.istore 4, 2) := by decide +kernel
theorem dX7_comesEffect_27 : decode cX7_comesEffect 27 = .ok (.aload_n 0, 1) := by decide +kernel
theorem dX7_comesEffect_28 : decode cX7_comesEffect 28 = .ok (.iload_n 2, 1) := by decide +kernel
theorem dX7_comesEffect_29 : decode cX7_comesEffect 29 = .ok (.iconst 2, 1) := by decide +kernel
theorem dX7_comesEffect_30 : decode cX7_comesEffect 30 = .ok (.iload_n 1, 1) := by decide +kernel
theorem dX7_comesEffect_31 : decode cX7_comesEffect 31 = .ok (.iconst 1, 1) := by decide +kernel
theorem dX7_comesEffect_32 : decode cX7_comesEffect 32 = .ok (.if_icmp .ne 14, 3) := by decide +kernel
theorem dX7_comesEffect_35 : decode cX7_comesEffect 35 = .ok (.bipush 9, 2) := by decide +kernel
theorem dX7_comesEffect_37 : decode cX7_comesEffect 37 = .ok (.iload_n 3, 1) := by decide +kernel
theorem dX7_comesEffect_38 : decode cX7_comesEffect 38 = .ok (.iconst 1, 1) := by decide +kernel
theorem dX7_comesEffect_39 : decode cX7_comesEffect 39 = .ok (.iadd, 1) := by decide +kernel
theorem dX7_comesEffect_40 : decode cX7_comesEffect 40 = .ok (.invokestatic 86, 3) := by decide +kernel
theorem dX7_comesEffect_43 : decode cX7_comesEffect 43 = .ok (.goto 19, 3) := by decide +kernel
theorem dX7_comesEffect_46 : decode cX7_comesEffect 46 = .ok (.iload_n 1, 1) := by decide +kernel
theorem dX7_comesEffect_47 : decode cX7_comesEffect 47 = .ok (.iconst 2, 1) := by decide +kernel
theorem dX7_comesEffect_48 : decode cX7_comesEffect 48 = .ok (.if_icmp .ne 13, 3) := by decide +kernel
theorem dX7_comesEffect_51 : decode cX7_comesEffect 51 = .ok (.iload_n 3, 1) := by decide +kernel
theorem dX7_comesEffect_52 : decode cX7_comesEffect 52 = .ok (.ifCond .le 9, 3) := by decide +kernel
theorem dX7_comesEffect_55 : decode cX7_comesEffect 55 = .ok (.iload_n 3, 1) := by decide +kernel
theorem dX7_comesEffect_56 : decode cX7_comesEffect 56 = .ok (.iconst 1, 1) := by decide +kernel
theorem dX7_comesEffect_57 : decode cX7_comesEffect 57 = .ok (.isub, 1) := by decide +kernel
theorem dX7_comesEffect_58 : decode cX7_comesEffect 58 = .ok (.goto 4, 3) := by decide +kernel
theorem dX7_comesEffect_61 : decode cX7_comesEffect 61 = .ok (.iload_n 3, 1) := by decide +kernel
theorem dX7_comesEffect_62 : decode cX7_comesEffect 62 = .ok (.invokevirtual 100, 3) := by decide +kernel
theorem dX7_comesEffect_65 : decode cX7_comesEffect 65 = .ok (.aload_n 0, 1) := by decide +kernel
theorem dX7_comesEffect_66 : decode cX7_comesEffect 66 = .ok (.iload_n 2, 1) := by decide +kernel
theorem dX7_comesEffect_67 : decode cX7_comesEffect 67 = .ok (.iconst 1, 1) := by decide +kernel
theorem dX7_comesEffect_68 : decode cX7_comesEffect 68 = .ok (.iload_n 1, 1) := by decide +kernel
theorem dX7_comesEffect_69 : decode cX7_comesEffect 69 = .ok (.iconst 3, 1) := by decide +kernel
theorem dX7_comesEffect_70 : decode cX7_comesEffect 70 = .ok (.if_icmp .ne 15, 3) := by decide +kernel
theorem dX7_comesEffect_73 : decode cX7_comesEffect 73 = .ok (.bipush 99, 2) := by decide +kernel
theorem dX7_comesEffect_75 : decode cX7_comesEffect 75 = .ok (.iload 4, 2) := by decide +kernel
theorem dX7_comesEffect_77 : decode cX7_comesEffect 77 = .ok (.iconst 1, 1) := by decide +kernel
theorem dX7_comesEffect_78 : decode cX7_comesEffect 78 = .ok (.iadd, 1) := by decide +kernel
theorem dX7_comesEffect_79 : decode cX7_comesEffect 79 = .ok (.invokestatic 86, 3) := by decide +kernel
theorem dX7_comesEffect_82 : decode cX7_comesEffect 82 = .ok (.goto 22, 3) := by decide +kernel
theorem dX7_comesEffect_85 : decode cX7_comesEffect 85 = .ok (.iload_n 1, 1) := by decide +kernel
theorem dX7_comesEffect_86 : decode cX7_comesEffect 86 = .ok (.iconst 4, 1) := by decide +kernel
theorem dX7_comesEffect_87 : decode cX7_comesEffect 87 = .ok (.if_icmp .ne 15, 3) := by decide +kernel
theorem dX7_comesEffect_90 : decode cX7_comesEffect 90 = .ok (.iload 4, 2) := by decide +kernel
theorem dX7_comesEffect_92 : decode cX7_comesEffect 92 = .ok (.ifCond .le 10, 3) := by decide +kernel
theorem dX7_comesEffect_95 : decode cX7_comesEffect 95 = .ok (.iload 4, 2) := by decide +kernel
theorem dX7_comesEffect_97 : decode cX7_comesEffect 97 = .ok (.iconst 1, 1) := by decide +kernel
theorem dX7_comesEffect_98 : decode cX7_comesEffect 98 = .ok (.isub, 1) := by decide +kernel
theorem dX7_comesEffect_99 : decode cX7_comesEffect 99 = .ok (.goto 5, 3) := by decide +kernel
theorem dX7_comesEffect_102 : decode cX7_comesEffect 102 = .ok (.iload 4, 2) := by decide +kernel
theorem dX7_comesEffect_104 : decode cX7_comesEffect 104 = .ok (.invokevirtual 100, 3) := by decide +kernel
theorem dX7_comesEffect_107 : decode cX7_comesEffect 107 = .ok (.iinc 2 1, 3) := by decide +kernel
theorem dX7_comesEffect_110 : decode cX7_comesEffect 110 = .ok (.goto (-108), 3) := by decide +kernel
theorem dX7_comesEffect_113 : decode cX7_comesEffect 113 = .ok (.return_, 1) := by decide +kernel
theorem dX7_votes_0 : decode cX7_votes 0 = .ok (.aload_n 0, 1) := by decide +kernel
theorem dX7_votes_1 : decode cX7_votes 1 = .ok (.iload_n 1, 1) := by decide +kernel
theorem dX7_votes_2 : decode cX7_votes 2 = .ok (.invokevirtual 104, 3) := by decide +kernel
theorem dX7_votes_5 : decode cX7_votes 5 = .ok (.istore_n 2, 1) := by decide +kernel
theorem dX7_votes_6 : decode cX7_votes 6 = .ok (.aload_n 0, 1) := by decide +kernel
theorem dX7_votes_7 : decode cX7_votes 7 = .ok (.iload_n 1, 1) := by decide +kernel
theorem dX7_votes_8 : decode cX7_votes 8 = .ok (.iconst 0, 1) := by decide +kernel
theorem dX7_votes_9 : decode cX7_votes 9 = .ok (.invokevirtual 80, 3) := by decide +kernel
theorem dX7_votes_12 : decode cX7_votes 12 = .ok (.istore_n 3, 1) := by decide +kernel
theorem dX7_votes_13 : decode cX7_votes 13 = .ok (.iconst 0, 1) := by decide +kernel
theorem dX7_votes_14 : decode cX7_votes 14 = .ok (.istore 4, 2) := by decide +kernel
theorem dX7_votes_16 : decode cX7_votes 16 = .ok (.iload 4, 2) := by decide +kernel
theorem dX7_votes_18 : decode cX7_votes 18 = .ok (.aload_n 0, 1) := by decide +kernel
theorem dX7_votes_19 : decode cX7_votes 19 = .ok (.getfield 9, 3) := by decide +kernel
theorem dX7_votes_22 : decode cX7_votes 22 = .ok (.iconst 1, 1) := by decide +kernel
theorem dX7_votes_23 : decode cX7_votes 23 = .ok (.iaload, 1) := by decide +kernel
theorem dX7_votes_24 : decode cX7_votes 24 = .ok (.if_icmp .ge 29, 3) := by decide +kernel
theorem dX7_votes_27 : decode cX7_votes 27 = .ok (.aload_n 0, 1) := by decide +kernel
theorem dX7_votes_28 : decode cX7_votes 28 = .ok (.getfield 22, 3) := by decide +kernel
theorem dX7_votes_31 : decode cX7_votes 31 = .ok (.iload 4, 2) := by decide +kernel
theorem dX7_votes_33 : decode cX7_votes 33 = .ok (.aload_n 0, 1) := by decide +kernel
theorem dX7_votes_34 : decode cX7_votes 34 = .ok (.iload 4, 2) := by decide +kernel
theorem dX7_votes_36 : decode cX7_votes 36 = .ok (.iload_n 1, 1) := by decide +kernel
theorem dX7_votes_37 : decode cX7_votes 37 = .ok (.aload_n 0, 1) := by decide +kernel
theorem dX7_votes_38 : decode cX7_votes 38 = .ok (.iload_n 1, 1) := by decide +kernel
theorem dX7_votes_39 : decode cX7_votes 39 = .ok (.iconst 2, 1) := by decide +kernel
theorem dX7_votes_40 : decode cX7_votes 40 = .ok (.invokevirtual 80, 3) := by decide +kernel
theorem dX7_votes_43 : decode cX7_votes 43 = .ok (.invokevirtual 89, 3) := by decide +kernel
theorem dX7_votes_46 : decode cX7_votes 46 = .ok (.iastore, 1) := by decide +kernel
theorem dX7_votes_47 : decode cX7_votes 47 = .ok (.iinc 4 1, 3) := by decide +kernel
theorem dX7_votes_50 : decode cX7_votes 50 = .ok (.goto (-34), 3) := by decide +kernel
theorem dX7_votes_53 : decode cX7_votes 53 = .ok (.iconst 0, 1) := by decide +kernel
theorem dX7_votes_54 : decode cX7_votes 54 = .ok (.istore 4, 2) := by decide +kernel
theorem dX7_votes_56 : decode cX7_votes 56 = .ok (.iload 4, 2) := by decide +kernel
theorem dX7_votes_58 : decode cX7_votes 58 = .ok (.aload_n 0, 1) := by decide +kernel
theorem dX7_votes_59 : decode cX7_votes 59 = .ok (.getfield 9, 3) := by decide +kernel
theorem dX7_votes_62 : decode cX7_votes 62 = .ok (.iconst 1, 1) := by decide +kernel
theorem dX7_votes_63 : decode cX7_votes 63 = .ok (.iaload, 1) := by decide +kernel
theorem dX7_votes_64 : decode cX7_votes 64 = .ok (.if_icmp .ge 65, 3) := by decide +kernel
theorem dX7_votes_67 : decode cX7_votes 67 = .ok (.aload_n 0, 1) := by decide +kernel
theorem dX7_votes_68 : decode cX7_votes 68 = .ok (.iload 4, 2) := by decide +kernel
theorem dX7_votes_70 : decode cX7_votes 70 = .ok (.iconst 3, 1) := by decide +kernel
theorem dX7_votes_71 : decode cX7_votes 71 = .ok (.iload_n 3, 1) := by decide +kernel
theorem dX7_votes_72 : decode cX7_votes 72 = .ok (.iadd, 1) := by decide +kernel
theorem dX7_votes_73 : decode cX7_votes 73 = .ok (.aload_n 0, 1) := by decide +kernel
theorem dX7_votes_74 : decode cX7_votes 74 = .ok (.iload 4, 2) := by decide +kernel
theorem dX7_votes_76 : decode cX7_votes 76 = .ok (.iconst 3, 1) := by decide +kernel
theorem dX7_votes_77 : decode cX7_votes 77 = .ok (.iload_n 3, 1) := by decide +kernel
theorem dX7_votes_78 : decode cX7_votes 78 = .ok (.iadd, 1) := by decide +kernel
theorem dX7_votes_79 : decode cX7_votes 79 = .ok (.invokevirtual 64, 3) := by decide +kernel
theorem dX7_votes_82 : decode cX7_votes 82 = .ok (.aload_n 0, 1) := by decide +kernel
theorem dX7_votes_83 : decode cX7_votes 83 = .ok (.getfield 22, 3) := by decide +kernel
theorem dX7_votes_86 : decode cX7_votes 86 = .ok (.iload 4, 2) := by decide +kernel
theorem dX7_votes_88 : decode cX7_votes 88 = .ok (.iaload, 1) := by decide +kernel
theorem dX7_votes_89 : decode cX7_votes 89 = .ok (.isub, 1) := by decide +kernel
theorem dX7_votes_90 : decode cX7_votes 90 = .ok (.invokevirtual 100, 3) := by decide +kernel
theorem dX7_votes_93 : decode cX7_votes 93 = .ok (.aload_n 0, 1) := by decide +kernel
theorem dX7_votes_94 : decode cX7_votes 94 = .ok (.getfield 9, 3) := by decide +kernel
theorem dX7_votes_97 : decode cX7_votes 97 = .ok (.iconst 4, 1) := by decide +kernel
theorem dX7_votes_98 : decode cX7_votes 98 = .ok (.iload_n 3, 1) := by decide +kernel
theorem dX7_votes_99 : decode cX7_votes 99 = .ok (.iadd, 1) := by decide +kernel
theorem dX7_votes_100 : decode cX7_votes 100 = .ok (.sipush 9999, 3) := by decide +kernel
theorem dX7_votes_103 : decode cX7_votes 103 = .ok (.aload_n 0, 1) := by decide +kernel
theorem dX7_votes_104 : decode cX7_votes 104 = .ok (.getfield 9, 3) := by decide +kernel
theorem dX7_votes_107 : decode cX7_votes 107 = .ok (.iconst 4, 1) := by decide +kernel
theorem dX7_votes_108 : decode cX7_votes 108 = .ok (.iload_n 3, 1) := by decide +kernel
theorem dX7_votes_109 : decode cX7_votes 109 = .ok (.iadd, 1) := by decide +kernel
theorem dX7_votes_110 : decode cX7_votes 110 = .ok (.iaload, 1) := by decide +kernel
theorem dX7_votes_111 : decode cX7_votes 111 = .ok (.aload_n 0, 1) := by decide +kernel
theorem dX7_votes_112 : decode cX7_votes 112 = .ok (.getfield 22, 3) := by decide +kernel
theorem dX7_votes_115 : decode cX7_votes 115 = .ok (.iload 4, 2) := by decide +kernel
theorem dX7_votes_117 : decode cX7_votes 117 = .ok (.iaload, 1) := by decide +kernel
theorem dX7_votes_118 : decode cX7_votes 118 = .ok (.iadd, 1) := by decide +kernel
theorem dX7_votes_119 : decode cX7_votes 119 = .ok (.invokestatic 86, 3) := by decide +kernel
theorem dX7_votes_122 : decode cX7_votes 122 = .ok (.iastore, 1) := by decide +kernel
theorem dX7_votes_123 : decode cX7_votes 123 = .ok (.iinc 4 1, 3) := by decide +kernel
theorem dX7_votes_126 : decode cX7_votes 126 = .ok (.goto (-70), 3) := by decide +kernel
theorem dX7_votes_129 : decode cX7_votes 129 = .ok (.iload_n 2, 1) := by decide +kernel
theorem dX7_votes_130 : decode cX7_votes 130 = .ok (.ifCond .eq 29, 3) := by decide +kernel
theorem dX7_votes_133 : decode cX7_votes 133 = .ok (.aload_n 0, 1) := by decide +kernel
theorem dX7_votes_134 : decode cX7_votes 134 = .ok (.iload_n 1, 1) := by decide +kernel
theorem dX7_votes_135 : decode cX7_votes 135 = .ok (.iconst 4, 1) := by decide +kernel
theorem dX7_votes_136 : decode cX7_votes 136 = .ok (.invokevirtual 80, 3) := by decide +kernel
theorem dX7_votes_139 : decode cX7_votes 139 = .ok (.ifCond .ne 20, 3) := by decide +kernel
theorem dX7_votes_142 : decode cX7_votes 142 = .ok (.aload_n 0, 1) := by decide +kernel
theorem dX7_votes_143 : decode cX7_votes 143 = .ok (.iload_n 1, 1) := by decide +kernel
theorem dX7_votes_144 : decode cX7_votes 144 = .ok (.iconst 4, 1) := by decide +kernel
theorem dX7_votes_145 : decode cX7_votes 145 = .ok (.iconst 1, 1) := by decide +kernel
theorem dX7_votes_146 : decode cX7_votes 146 = .ok (.invokevirtual 107, 3) := by decide +kernel
theorem dX7_votes_149 : decode cX7_votes 149 = .ok (.aload_n 0, 1) := by decide +kernel
theorem dX7_votes_150 : decode cX7_votes 150 = .ok (.aload_n 0, 1) := by decide +kernel
theorem dX7_votes_151 : decode cX7_votes 151 = .ok (.iload_n 1, 1) := by decide +kernel
theorem dX7_votes_152 : decode cX7_votes 152 = .ok (.iconst 3, 1) := by decide +kernel
theorem dX7_votes_153 : decode cX7_votes 153 = .ok (.invokevirtual 80, 3) := by decide +kernel
theorem dX7_votes_156 : decode cX7_votes 156 = .ok (.invokevirtual 110, 3) := by decide +kernel
theorem dX7_votes_159 : decode cX7_votes 159 = .ok (.iload_n 2, 1) := by decide +kernel
theorem dX7_votes_160 : decode cX7_votes 160 = .ok (.ireturn, 1) := by decide +kernel
theorem dX7_goesSeason_0 : decode cX7_goesSeason 0 = .ok (.iconst 3, 1) := by decide +kernel
theorem dX7_goesSeason_1 : decode cX7_goesSeason 1 = .ok (.aload_n 0, 1) := by decide +kernel
theorem dX7_goesSeason_2 : decode cX7_goesSeason 2 = .ok (.getfield 9, 3) := by decide +kernel
theorem dX7_goesSeason_5 : decode cX7_goesSeason 5 = .ok (.iconst 0, 1) := by decide +kernel
theorem dX7_goesSeason_6 : decode cX7_goesSeason 6 = .ok (.iaload, 1) := by decide +kernel
theorem dX7_goesSeason_7 : decode cX7_goesSeason 7 = .ok (.iconst 4, 1) := by decide +kernel
theorem dX7_goesSeason_8 : decode cX7_goesSeason 8 = .ok (.irem, 1) := by decide +kernel
theorem dX7_goesSeason_9 : decode cX7_goesSeason 9 = .ok (.iadd, 1) := by decide +kernel
theorem dX7_goesSeason_10 : decode cX7_goesSeason 10 = .ok (.istore_n 1, 1) := by decide +kernel
theorem dX7_goesSeason_11 : decode cX7_goesSeason 11 = .ok (.iconst 0, 1) := by decide +kernel
theorem dX7_goesSeason_12 : decode cX7_goesSeason 12 = .ok (.istore_n 2, 1) := by decide +kernel
theorem dX7_goesSeason_13 : decode cX7_goesSeason 13 = .ok (.iload_n 2, 1) := by decide +kernel
theorem dX7_goesSeason_14 : decode cX7_goesSeason 14 = .ok (.aload_n 0, 1) := by decide +kernel
theorem dX7_goesSeason_15 : decode cX7_goesSeason 15 = .ok (.getfield 9, 3) := by decide +kernel
theorem dX7_goesSeason_18 : decode cX7_goesSeason 18 = .ok (.iconst 1, 1) := by decide +kernel
theorem dX7_goesSeason_19 : decode cX7_goesSeason 19 = .ok (.iaload, 1) := by decide +kernel
theorem dX7_goesSeason_20 : decode cX7_goesSeason 20 = .ok (.if_icmp .ge 33, 3) := by decide +kernel
theorem dX7_goesSeason_23 : decode cX7_goesSeason 23 = .ok (.aload_n 0, 1) := by decide +kernel
theorem dX7_goesSeason_24 : decode cX7_goesSeason 24 = .ok (.iload_n 2, 1) := by decide +kernel
theorem dX7_goesSeason_25 : decode cX7_goesSeason 25 = .ok (.iload_n 1, 1) := by decide +kernel
theorem dX7_goesSeason_26 : decode cX7_goesSeason 26 = .ok (.bipush 99, 2) := by decide +kernel
theorem dX7_goesSeason_28 : decode cX7_goesSeason 28 = .ok (.aload_n 0, 1) := by decide +kernel
theorem dX7_goesSeason_29 : decode cX7_goesSeason 29 = .ok (.iload_n 2, 1) := by decide +kernel
theorem dX7_goesSeason_30 : decode cX7_goesSeason 30 = .ok (.iload_n 1, 1) := by decide +kernel
theorem dX7_goesSeason_31 : decode cX7_goesSeason 31 = .ok (.invokevirtual 64, 3) := by decide +kernel
theorem dX7_goesSeason_34 : decode cX7_goesSeason 34 = .ok (.aload_n 0, 1) := by decide +kernel
theorem dX7_goesSeason_35 : decode cX7_goesSeason 35 = .ok (.iload_n 2, 1) := by decide +kernel
theorem dX7_goesSeason_36 : decode cX7_goesSeason 36 = .ok (.iconst 2, 1) := by decide +kernel
theorem dX7_goesSeason_37 : decode cX7_goesSeason 37 = .ok (.invokevirtual 64, 3) := by decide +kernel
theorem dX7_goesSeason_40 : decode cX7_goesSeason 40 = .ok (.iadd, 1) := by decide +kernel
theorem dX7_goesSeason_41 : decode cX7_goesSeason 41 = .ok (.invokestatic 86, 3) := by decide +kernel
theorem dX7_goesSeason_44 : decode cX7_goesSeason 44 = .ok (.invokevirtual 100, 3) := by decide +kernel
theorem dX7_goesSeason_47 : decode cX7_goesSeason 47 = .ok (.iinc 2 1, 3) := by decide +kernel
theorem dX7_goesSeason_50 : decode cX7_goesSeason 50 = .ok (.goto (-37), 3) := by decide +kernel
theorem dX7_goesSeason_53 : decode cX7_goesSeason 53 = .ok (.aload_n 0, 1) := by decide +kernel
theorem dX7_goesSeason_54 : decode cX7_goesSeason 54 = .ok (.getfield 9, 3) := by decide +kernel
theorem dX7_goesSeason_57 : decode cX7_goesSeason 57 = .ok (.iconst 0, 1) := by decide +kernel
theorem dX7_goesSeason_58 : decode cX7_goesSeason 58 = .ok (.dup2, 1) := by decide +kernel
theorem dX7_goesSeason_59 : decode cX7_goesSeason 59 = .ok (.iaload, 1) := by decide +kernel
theorem dX7_goesSeason_60 : decode cX7_goesSeason 60 = .ok (.iconst 1, 1) := by decide +kernel
theorem dX7_goesSeason_61 : decode cX7_goesSeason 61 = .ok (.iadd, 1) := by decide +kernel
theorem dX7_goesSeason_62 : decode cX7_goesSeason 62 = .ok (.iastore, 1) := by decide +kernel
theorem dX7_goesSeason_63 : decode cX7_goesSeason 63 = .ok (.return_, 1) := by decide +kernel
theorem dX7_addsBird_0 : decode cX7_addsBird 0 = .ok (.aload_n 0, 1) := by decide +kernel
theorem dX7_addsBird_1 : decode cX7_addsBird 1 = .ok (.getfield 9, 3) := by decide +kernel
theorem dX7_addsBird_4 : decode cX7_addsBird 4 = .ok (.iconst 1, 1) := by decide +kernel
theorem dX7_addsBird_5 : decode cX7_addsBird 5 = .ok (.iaload, 1) := by decide +kernel
theorem dX7_addsBird_6 : decode cX7_addsBird 6 = .ok (.istore_n 2, 1) := by decide +kernel
theorem dX7_addsBird_7 : decode cX7_addsBird 7 = .ok (.iconst 0, 1) := by decide +kernel
theorem dX7_addsBird_8 : decode cX7_addsBird 8 = .ok (.istore_n 3, 1) := by decide +kernel
theorem dX7_addsBird_9 : decode cX7_addsBird 9 = .ok (.iload_n 3, 1) := by decide +kernel
theorem dX7_addsBird_10 : decode cX7_addsBird 10 = .ok (.bipush 7, 2) := by decide +kernel
theorem dX7_addsBird_12 : decode cX7_addsBird 12 = .ok (.if_icmp .ge 16, 3) := by decide +kernel
theorem dX7_addsBird_15 : decode cX7_addsBird 15 = .ok (.aload_n 0, 1) := by decide +kernel
theorem dX7_addsBird_16 : decode cX7_addsBird 16 = .ok (.iload_n 2, 1) := by decide +kernel
theorem dX7_addsBird_17 : decode cX7_addsBird 17 = .ok (.iload_n 3, 1) := by decide +kernel
theorem dX7_addsBird_18 : decode cX7_addsBird 18 = .ok (.iconst 0, 1) := by decide +kernel
theorem dX7_addsBird_19 : decode cX7_addsBird 19 = .ok (.invokevirtual 100, 3) := by decide +kernel
theorem dX7_addsBird_22 : decode cX7_addsBird 22 = .ok (.iinc 3 1, 3) := by decide +kernel
theorem dX7_addsBird_25 : decode cX7_addsBird 25 = .ok (.goto (-16), 3) := by decide +kernel
theorem dX7_addsBird_28 : decode cX7_addsBird 28 = .ok (.aload_n 0, 1) := by decide +kernel
theorem dX7_addsBird_29 : decode cX7_addsBird 29 = .ok (.iload_n 2, 1) := by decide +kernel
theorem dX7_addsBird_30 : decode cX7_addsBird 30 = .ok (.iconst 0, 1) := by decide +kernel
theorem dX7_addsBird_31 : decode cX7_addsBird 31 = .ok (.iload_n 1, 1) := by decide +kernel
theorem dX7_addsBird_32 : decode cX7_addsBird 32 = .ok (.invokevirtual 100, 3) := by decide +kernel
theorem dX7_addsBird_35 : decode cX7_addsBird 35 = .ok (.aload_n 0, 1) := by decide +kernel
theorem dX7_addsBird_36 : decode cX7_addsBird 36 = .ok (.iload_n 2, 1) := by decide +kernel
theorem dX7_addsBird_37 : decode cX7_addsBird 37 = .ok (.iconst 1, 1) := by decide +kernel
theorem dX7_addsBird_38 : decode cX7_addsBird 38 = .ok (.iconst 2, 1) := by decide +kernel
theorem dX7_addsBird_39 : decode cX7_addsBird 39 = .ok (.invokevirtual 100, 3) := by decide +kernel
theorem dX7_addsBird_42 : decode cX7_addsBird 42 = .ok (.aload_n 0, 1) := by decide +kernel
theorem dX7_addsBird_43 : decode cX7_addsBird 43 = .ok (.iload_n 2, 1) := by decide +kernel
theorem dX7_addsBird_44 : decode cX7_addsBird 44 = .ok (.iconst 2, 1) := by decide +kernel
theorem dX7_addsBird_45 : decode cX7_addsBird 45 = .ok (.iconst 1, 1) := by decide +kernel
theorem dX7_addsBird_46 : decode cX7_addsBird 46 = .ok (.invokevirtual 100, 3) := by decide +kernel
theorem dX7_addsBird_49 : decode cX7_addsBird 49 = .ok (.aload_n 0, 1) := by decide +kernel
theorem dX7_addsBird_50 : decode cX7_addsBird 50 = .ok (.getfield 9, 3) := by decide +kernel
theorem dX7_addsBird_53 : decode cX7_addsBird 53 = .ok (.iconst 1, 1) := by decide +kernel
theorem dX7_addsBird_54 : decode cX7_addsBird 54 = .ok (.dup2, 1) := by decide +kernel
theorem dX7_addsBird_55 : decode cX7_addsBird 55 = .ok (.iaload, 1) := by decide +kernel
theorem dX7_addsBird_56 : decode cX7_addsBird 56 = .ok (.iconst 1, 1) := by decide +kernel
theorem dX7_addsBird_57 : decode cX7_addsBird 57 = .ok (.iadd, 1) := by decide +kernel
theorem dX7_addsBird_58 : decode cX7_addsBird 58 = .ok (.iastore, 1) := by decide +kernel
theorem dX7_addsBird_59 : decode cX7_addsBird 59 = .ok (.return_, 1) := by decide +kernel
theorem dX7_addsMotion_0 : decode cX7_addsMotion 0 = .ok (.aload_n 0, 1) := by decide +kernel
theorem dX7_addsMotion_1 : decode cX7_addsMotion 1 = .ok (.getfield 9, 3) := by decide +kernel
theorem dX7_addsMotion_4 : decode cX7_addsMotion 4 = .ok (.iconst 2, 1) := by decide +kernel
theorem dX7_addsMotion_5 : decode cX7_addsMotion 5 = .ok (.iaload, 1) := by decide +kernel
theorem dX7_addsMotion_6 : decode cX7_addsMotion 6 = .ok (.istore_n 2, 1) := by decide +kernel
theorem dX7_addsMotion_7 : decode cX7_addsMotion 7 = .ok (.iconst 0, 1) := by decide +kernel
theorem dX7_addsMotion_8 : decode cX7_addsMotion 8 = .ok (.istore_n 3, 1) := by decide +kernel
theorem dX7_addsMotion_9 : decode cX7_addsMotion 9 = .ok (.iload_n 3, 1) := by decide +kernel
theorem dX7_addsMotion_10 : decode cX7_addsMotion 10 = .ok (.iconst 5, 1) := by decide +kernel
theorem dX7_addsMotion_11 : decode cX7_addsMotion 11 = .ok (.if_icmp .ge 16, 3) := by decide +kernel
theorem dX7_addsMotion_14 : decode cX7_addsMotion 14 = .ok (.aload_n 0, 1) := by decide +kernel
theorem dX7_addsMotion_15 : decode cX7_addsMotion 15 = .ok (.iload_n 2, 1) := by decide +kernel
theorem dX7_addsMotion_16 : decode cX7_addsMotion 16 = .ok (.iload_n 3, 1) := by decide +kernel
theorem dX7_addsMotion_17 : decode cX7_addsMotion 17 = .ok (.iconst 0, 1) := by decide +kernel
theorem dX7_addsMotion_18 : decode cX7_addsMotion 18 = .ok (.invokevirtual 107, 3) := by decide +kernel
theorem dX7_addsMotion_21 : decode cX7_addsMotion 21 = .ok (.iinc 3 1, 3) := by decide +kernel
theorem dX7_addsMotion_24 : decode cX7_addsMotion 24 = .ok (.goto (-15), 3) := by decide +kernel
theorem dX7_addsMotion_27 : decode cX7_addsMotion 27 = .ok (.aload_n 0, 1) := by decide +kernel
theorem dX7_addsMotion_28 : decode cX7_addsMotion 28 = .ok (.iload_n 2, 1) := by decide +kernel
theorem dX7_addsMotion_29 : decode cX7_addsMotion 29 = .ok (.iconst 0, 1) := by decide +kernel
theorem dX7_addsMotion_30 : decode cX7_addsMotion 30 = .ok (.iload_n 1, 1) := by decide +kernel
theorem dX7_addsMotion_31 : decode cX7_addsMotion 31 = .ok (.invokevirtual 107, 3) := by decide +kernel
theorem dX7_addsMotion_34 : decode cX7_addsMotion 34 = .ok (.aload_n 0, 1) := by decide +kernel
theorem dX7_addsMotion_35 : decode cX7_addsMotion 35 = .ok (.iload_n 2, 1) := by decide +kernel
theorem dX7_addsMotion_36 : decode cX7_addsMotion 36 = .ok (.iconst 1, 1) := by decide +kernel
theorem dX7_addsMotion_37 : decode cX7_addsMotion 37 = .ok (.iconst 1, 1) := by decide +kernel
theorem dX7_addsMotion_38 : decode cX7_addsMotion 38 = .ok (.invokevirtual 107, 3) := by decide +kernel
theorem dX7_addsMotion_41 : decode cX7_addsMotion 41 = .ok (.aload_n 0, 1) := by decide +kernel
theorem dX7_addsMotion_42 : decode cX7_addsMotion 42 = .ok (.getfield 9, 3) := by decide +kernel
theorem dX7_addsMotion_45 : decode cX7_addsMotion 45 = .ok (.iconst 2, 1) := by decide +kernel
theorem dX7_addsMotion_46 : decode cX7_addsMotion 46 = .ok (.dup2, 1) := by decide +kernel
theorem dX7_addsMotion_47 : decode cX7_addsMotion 47 = .ok (.iaload, 1) := by decide +kernel
theorem dX7_addsMotion_48 : decode cX7_addsMotion 48 = .ok (.iconst 1, 1) := by decide +kernel
theorem dX7_addsMotion_49 : decode cX7_addsMotion 49 = .ok (.iadd, 1) := by decide +kernel
theorem dX7_addsMotion_50 : decode cX7_addsMotion 50 = .ok (.iastore, 1) := by decide +kernel
theorem dX7_addsMotion_51 : decode cX7_addsMotion 51 = .ok (.return_, 1) := by decide +kernel
theorem dX7_bird_0 : decode cX7_bird 0 = .ok (.iload_n 1, 1) := by decide +kernel
theorem dX7_bird_1 : decode cX7_bird 1 = .ok (.iconst 0, 1) := by decide +kernel
theorem dX7_bird_2 : decode cX7_bird 2 = .ok (.bipush 6, 2) := by decide +kernel
theorem dX7_bird_4 : decode cX7_bird 4 = .ok (.invokestatic 60, 3) := by decide +kernel
theorem dX7_bird_7 : decode cX7_bird 7 = .ok (.ifCond .ne 9, 3) := by decide +kernel
theorem dX7_bird_10 : decode cX7_bird 10 = .ok (.aload_n 0, 1) := by decide +kernel
theorem dX7_bird_11 : decode cX7_bird 11 = .ok (.iconst 0, 1) := by decide +kernel
theorem dX7_bird_12 : decode cX7_bird 12 = .ok (.invokevirtual 114, 3) := by decide +kernel
theorem dX7_bird_15 : decode cX7_bird 15 = .ok (.ireturn, 1) := by decide +kernel
theorem dX7_bird_16 : decode cX7_bird 16 = .ok (.aload_n 0, 1) := by decide +kernel
theorem dX7_bird_17 : decode cX7_bird 17 = .ok (.getfield 9, 3) := by decide +kernel
theorem dX7_bird_20 : decode cX7_bird 20 = .ok (.iconst 1, 1) := by decide +kernel
theorem dX7_bird_21 : decode cX7_bird 21 = .ok (.iaload, 1) := by decide +kernel
theorem dX7_bird_22 : decode cX7_bird 22 = .ok (.bipush 8, 2) := by decide +kernel
theorem dX7_bird_24 : decode cX7_bird 24 = .ok (.if_icmp .ne 9, 3) := by decide +kernel
theorem dX7_bird_27 : decode cX7_bird 27 = .ok (.aload_n 0, 1) := by decide +kernel
theorem dX7_bird_28 : decode cX7_bird 28 = .ok (.iconst 1, 1) := by decide +kernel
theorem dX7_bird_29 : decode cX7_bird 29 = .ok (.invokevirtual 114, 3) := by decide +kernel
theorem dX7_bird_32 : decode cX7_bird 32 = .ok (.ireturn, 1) := by decide +kernel
theorem dX7_bird_33 : decode cX7_bird 33 = .ok (.aload_n 0, 1) := by decide +kernel
theorem dX7_bird_34 : decode cX7_bird 34 = .ok (.iload_n 1, 1) := by decide +kernel
theorem dX7_bird_35 : decode cX7_bird 35 = .ok (.invokevirtual 117, 3) := by decide +kernel
theorem dX7_bird_38 : decode cX7_bird 38 = .ok (.aload_n 0, 1) := by decide +kernel
theorem dX7_bird_39 : decode cX7_bird 39 = .ok (.getfield 9, 3) := by decide +kernel
theorem dX7_bird_42 : decode cX7_bird 42 = .ok (.iconst 1, 1) := by decide +kernel
theorem dX7_bird_43 : decode cX7_bird 43 = .ok (.iaload, 1) := by decide +kernel
theorem dX7_bird_44 : decode cX7_bird 44 = .ok (.iconst 1, 1) := by decide +kernel
theorem dX7_bird_45 : decode cX7_bird 45 = .ok (.isub, 1) := by decide +kernel
theorem dX7_bird_46 : decode cX7_bird 46 = .ok (.ireturn, 1) := by decide +kernel
theorem dX7_of_0 : decode cX7_of 0 = .ok (.aload_n 0, 1) := by decide +kernel
theorem dX7_of_1 : decode cX7_of 1 = .ok (.iload_n 1, 1) := by decide +kernel
theorem dX7_of_2 : decode cX7_of 2 = .ok (.invokevirtual 120, 3) := by decide +kernel
theorem dX7_of_5 : decode cX7_of 5 = .ok (.ifCond .eq 13, 3) := by decide +kernel
theorem dX7_of_8 : decode cX7_of 8 = .ok (.iload_n 2, 1) := by decide +kernel
theorem dX7_of_9 : decode cX7_of 9 = .ok (.iconst 0, 1) := by decide +kernel
theorem dX7_of_10 : decode cX7_of 10 = .ok (.bipush 8, 2) := by decide +kernel
theorem dX7_of_12 : decode cX7_of 12 = .ok (.invokestatic 60, 3) := by decide +kernel
theorem dX7_of_15 : decode cX7_of 15 = .ok (.ifCond .ne 9, 3) := by decide +kernel
theorem dX7_of_18 : decode cX7_of 18 = .ok (.aload_n 0, 1) := by decide +kernel
theorem dX7_of_19 : decode cX7_of 19 = .ok (.iconst 0, 1) := by decide +kernel
theorem dX7_of_20 : decode cX7_of 20 = .ok (.invokevirtual 114, 3) := by decide +kernel
theorem dX7_of_23 : decode cX7_of 23 = .ok (.ireturn, 1) := by decide +kernel
theorem dX7_of_24 : decode cX7_of 24 = .ok (.iload_n 2, 1) := by decide +kernel
theorem dX7_of_25 : decode cX7_of 25 = .ok (.bipush 7, 2) := by decide +kernel
theorem dX7_of_27 : decode cX7_of 27 = .ok (.if_icmp .ge 12, 3) := by decide +kernel
theorem dX7_of_30 : decode cX7_of 30 = .ok (.aload_n 0, 1) := by decide +kernel
theorem dX7_of_31 : decode cX7_of 31 = .ok (.iload_n 1, 1) := by decide +kernel
theorem dX7_of_32 : decode cX7_of 32 = .ok (.iload_n 2, 1) := by decide +kernel
theorem dX7_of_33 : decode cX7_of 33 = .ok (.invokevirtual 64, 3) := by decide +kernel
theorem dX7_of_36 : decode cX7_of 36 = .ok (.goto 30, 3) := by decide +kernel
theorem dX7_of_39 : decode cX7_of 39 = .ok (.iload_n 2, 1) := by decide +kernel
theorem dX7_of_40 : decode cX7_of 40 = .ok (.bipush 7, 2) := by decide +kernel
theorem dX7_of_42 : decode cX7_of 42 = .ok (.if_icmp .ne 11, 3) := by decide +kernel
theorem dX7_of_45 : decode cX7_of 45 = .ok (.aload_n 0, 1) := by decide +kernel
theorem dX7_of_46 : decode cX7_of 46 = .ok (.iload_n 1, 1) := by decide +kernel
theorem dX7_of_47 : decode cX7_of 47 = .ok (.invokevirtual 68, 3) := by decide +kernel
theorem dX7_of_50 : decode cX7_of 50 = .ok (.goto 16, 3) := by decide +kernel
theorem dX7_of_53 : decode cX7_of 53 = .ok (.aload_n 0, 1) := by decide +kernel
theorem dX7_of_54 : decode cX7_of 54 = .ok (.iload_n 1, 1) := by decide +kernel
theorem dX7_of_55 : decode cX7_of 55 = .ok (.invokevirtual 72, 3) := by decide +kernel
theorem dX7_of_58 : decode cX7_of 58 = .ok (.ifCond .eq 7, 3) := by decide +kernel
theorem dX7_of_61 : decode cX7_of 61 = .ok (.iconst 1, 1) := by decide +kernel
theorem dX7_of_62 : decode cX7_of 62 = .ok (.goto 4, 3) := by decide +kernel
theorem dX7_of_65 : decode cX7_of 65 = .ok (.iconst 0, 1) := by decide +kernel
theorem dX7_of_66 : decode cX7_of 66 = .ok (.ireturn, 1) := by decide +kernel
theorem dX7_change_0 : decode cX7_change 0 = .ok (.aload_n 0, 1) := by decide +kernel
theorem dX7_change_1 : decode cX7_change 1 = .ok (.iload_n 1, 1) := by decide +kernel
theorem dX7_change_2 : decode cX7_change 2 = .ok (.invokevirtual 120, 3) := by decide +kernel
theorem dX7_change_5 : decode cX7_change 5 = .ok (.ifCond .eq 42, 3) := by decide +kernel
theorem dX7_change_8 : decode cX7_change 8 = .ok (.iload_n 2, 1) := by decide +kernel
theorem dX7_change_9 : decode cX7_change 9 = .ok (.iconst 0, 1) := by decide +kernel
theorem dX7_change_10 : decode cX7_change 10 = .ok (.bipush 6, 2) := by decide +kernel
theorem dX7_change_12 : decode cX7_change 12 = .ok (.invokestatic 60, 3) := by decide +kernel
theorem dX7_change_15 : decode cX7_change 15 = .ok (.ifCond .eq 32, 3) := by decide +kernel
theorem dX7_change_18 : decode cX7_change 18 = .ok (.iload_n 3, 1) := by decide +kernel
theorem dX7_change_19 : decode cX7_change 19 = .ok (.iconst 0, 1) := by decide +kernel
theorem dX7_change_20 : decode cX7_change 20 = .ok (.iload_n 2, 1) := by decide +kernel
theorem dX7_change_21 : decode cX7_change 21 = .ok (.ifCond .ne 8, 3) := by decide +kernel
theorem dX7_change_24 : decode cX7_change 24 = .ok (.bipush 6, 2) := by decide +kernel
theorem dX7_change_26 : decode cX7_change 26 = .ok (.goto 15, 3) := by decide +kernel
theorem dX7_change_29 : decode cX7_change 29 = .ok (.iload_n 2, 1) := by decide +kernel
theorem dX7_change_30 : decode cX7_change 30 = .ok (.iconst 2, 1) := by decide +kernel
theorem dX7_change_31 : decode cX7_change 31 = .ok (.if_icmp .ne 8, 3) := by decide +kernel
theorem dX7_change_34 : decode cX7_change 34 = .ok (.bipush 9, 2) := by decide +kernel
theorem dX7_change_36 : decode cX7_change 36 = .ok (.goto 5, 3) := by decide +kernel
theorem dX7_change_39 : decode cX7_change 39 = .ok (.bipush 99, 2) := by decide +kernel
theorem dX7_change_41 : decode cX7_change 41 = .ok (.invokestatic 60, 3) := by decide +kernel
theorem dX7_change_44 : decode cX7_change 44 = .ok (.ifCond .ne 9, 3) := by decide +kernel
theorem dX7_change_47 : decode cX7_change 47 = .ok (.aload_n 0, 1) := by decide +kernel
theorem dX7_change_48 : decode cX7_change 48 = .ok (.iconst 0, 1) := by decide +kernel
theorem dX7_change_49 : decode cX7_change 49 = .ok (.invokevirtual 114, 3) := by decide +kernel
theorem dX7_change_52 : decode cX7_change 52 = .ok (.ireturn, 1) := by decide +kernel
theorem dX7_change_53 : decode cX7_change 53 = .ok (.aload_n 0, 1) := by decide +kernel
theorem dX7_change_54 : decode cX7_change 54 = .ok (.iload_n 1, 1) := by decide +kernel
theorem dX7_change_55 : decode cX7_change 55 = .ok (.iload_n 2, 1) := by decide +kernel
theorem dX7_change_56 : decode cX7_change 56 = .ok (.invokevirtual 64, 3) := by decide +kernel
theorem dX7_change_59 : decode cX7_change 59 = .ok (.istore 4, 2) := by decide +kernel
theorem dX7_change_61 : decode cX7_change 61 = .ok (.aload_n 0, 1) := by decide +kernel
theorem dX7_change_62 : decode cX7_change 62 = .ok (.iload_n 1, 1) := by decide +kernel
theorem dX7_change_63 : decode cX7_change 63 = .ok (.iload_n 2, 1) := by decide +kernel
theorem dX7_change_64 : decode cX7_change 64 = .ok (.iload_n 3, 1) := by decide +kernel
theorem dX7_change_65 : decode cX7_change 65 = .ok (.invokevirtual 100, 3) := by decide +kernel
theorem dX7_change_68 : decode cX7_change 68 = .ok (.iload 4, 2) := by decide +kernel
theorem dX7_change_70 : decode cX7_change 70 = .ok (.ireturn, 1) := by decide +kernel
theorem dX7_motion_0 : decode cX7_motion 0 = .ok (.iload_n 1, 1) := by decide +kernel
theorem dX7_motion_1 : decode cX7_motion 1 = .ok (.iconst 0, 1) := by decide +kernel
theorem dX7_motion_2 : decode cX7_motion 2 = .ok (.iconst 3, 1) := by decide +kernel
theorem dX7_motion_3 : decode cX7_motion 3 = .ok (.invokestatic 60, 3) := by decide +kernel
theorem dX7_motion_6 : decode cX7_motion 6 = .ok (.ifCond .ne 9, 3) := by decide +kernel
theorem dX7_motion_9 : decode cX7_motion 9 = .ok (.aload_n 0, 1) := by decide +kernel
theorem dX7_motion_10 : decode cX7_motion 10 = .ok (.iconst 0, 1) := by decide +kernel
theorem dX7_motion_11 : decode cX7_motion 11 = .ok (.invokevirtual 114, 3) := by decide +kernel
theorem dX7_motion_14 : decode cX7_motion 14 = .ok (.ireturn, 1) := by decide +kernel
theorem dX7_motion_15 : decode cX7_motion 15 = .ok (.aload_n 0, 1) := by decide +kernel
theorem dX7_motion_16 : decode cX7_motion 16 = .ok (.getfield 9, 3) := by decide +kernel
theorem dX7_motion_19 : decode cX7_motion 19 = .ok (.iconst 2, 1) := by decide +kernel
theorem dX7_motion_20 : decode cX7_motion 20 = .ok (.iaload, 1) := by decide +kernel
theorem dX7_motion_21 : decode cX7_motion 21 = .ok (.bipush 8, 2) := by decide +kernel
theorem dX7_motion_23 : decode cX7_motion 23 = .ok (.if_icmp .ne 9, 3) := by decide +kernel
theorem dX7_motion_26 : decode cX7_motion 26 = .ok (.aload_n 0, 1) := by decide +kernel
theorem dX7_motion_27 : decode cX7_motion 27 = .ok (.iconst 1, 1) := by decide +kernel
theorem dX7_motion_28 : decode cX7_motion 28 = .ok (.invokevirtual 114, 3) := by decide +kernel
theorem dX7_motion_31 : decode cX7_motion 31 = .ok (.ireturn, 1) := by decide +kernel
theorem dX7_motion_32 : decode cX7_motion 32 = .ok (.aload_n 0, 1) := by decide +kernel
theorem dX7_motion_33 : decode cX7_motion 33 = .ok (.iload_n 1, 1) := by decide +kernel
theorem dX7_motion_34 : decode cX7_motion 34 = .ok (.invokevirtual 123, 3) := by decide +kernel
theorem dX7_motion_37 : decode cX7_motion 37 = .ok (.aload_n 0, 1) := by decide +kernel
theorem dX7_motion_38 : decode cX7_motion 38 = .ok (.getfield 9, 3) := by decide +kernel
theorem dX7_motion_41 : decode cX7_motion 41 = .ok (.iconst 2, 1) := by decide +kernel
theorem dX7_motion_42 : decode cX7_motion 42 = .ok (.iaload, 1) := by decide +kernel
theorem dX7_motion_43 : decode cX7_motion 43 = .ok (.iconst 1, 1) := by decide +kernel
theorem dX7_motion_44 : decode cX7_motion 44 = .ok (.isub, 1) := by decide +kernel
theorem dX7_motion_45 : decode cX7_motion 45 = .ok (.ireturn, 1) := by decide +kernel
theorem dX7_told_0 : decode cX7_told 0 = .ok (.aload_n 0, 1) := by decide +kernel
theorem dX7_told_1 : decode cX7_told 1 = .ok (.iload_n 1, 1) := by decide +kernel
theorem dX7_told_2 : decode cX7_told 2 = .ok (.invokevirtual 126, 3) := by decide +kernel
theorem dX7_told_5 : decode cX7_told 5 = .ok (.ifCond .eq 21, 3) := by decide +kernel
theorem dX7_told_8 : decode cX7_told 8 = .ok (.iload_n 2, 1) := by decide +kernel
theorem dX7_told_9 : decode cX7_told 9 = .ok (.iconst 0, 1) := by decide +kernel
theorem dX7_told_10 : decode cX7_told 10 = .ok (.iconst 4, 1) := by decide +kernel
theorem dX7_told_11 : decode cX7_told 11 = .ok (.invokestatic 60, 3) := by decide +kernel
theorem dX7_told_14 : decode cX7_told 14 = .ok (.ifCond .eq 12, 3) := by decide +kernel
theorem dX7_told_17 : decode cX7_told 17 = .ok (.aload_n 0, 1) := by decide +kernel
theorem dX7_told_18 : decode cX7_told 18 = .ok (.iload_n 1, 1) := by decide +kernel
theorem dX7_told_19 : decode cX7_told 19 = .ok (.iload_n 2, 1) := by decide +kernel
theorem dX7_told_20 : decode cX7_told 20 = .ok (.invokevirtual 80, 3) := by decide +kernel
theorem dX7_told_23 : decode cX7_told 23 = .ok (.goto 8, 3) := by decide +kernel
theorem dX7_told_26 : decode cX7_told 26 = .ok (.aload_n 0, 1) := by decide +kernel
theorem dX7_told_27 : decode cX7_told 27 = .ok (.iconst 0, 1) := by decide +kernel
theorem dX7_told_28 : decode cX7_told 28 = .ok (.invokevirtual 114, 3) := by decide +kernel
theorem dX7_told_31 : decode cX7_told 31 = .ok (.ireturn, 1) := by decide +kernel
theorem dX7_greatest_0 : decode cX7_greatest 0 = .ok (.iload_n 1, 1) := by decide +kernel
theorem dX7_greatest_1 : decode cX7_greatest 1 = .ok (.ifCond .ne 7, 3) := by decide +kernel
theorem dX7_greatest_4 : decode cX7_greatest 4 = .ok (.iconst 3, 1) := by decide +kernel
theorem dX7_greatest_5 : decode cX7_greatest 5 = .ok (.goto 35, 3) := by decide +kernel
theorem dX7_greatest_8 : decode cX7_greatest 8 = .ok (.iload_n 1, 1) := by decide +kernel
theorem dX7_greatest_9 : decode cX7_greatest 9 = .ok (.iconst 1, 1) := by decide +kernel
theorem dX7_greatest_10 : decode cX7_greatest 10 = .ok (.if_icmp .ne 8, 3) := by decide +kernel
theorem dX7_greatest_13 : decode cX7_greatest 13 = .ok (.bipush 99, 2) := by decide +kernel
theorem dX7_greatest_15 : decode cX7_greatest 15 = .ok (.goto 25, 3) := by decide +kernel
theorem dX7_greatest_18 : decode cX7_greatest 18 = .ok (.iload_n 1, 1) := by decide +kernel
theorem dX7_greatest_19 : decode cX7_greatest 19 = .ok (.iconst 2, 1) := by decide +kernel
theorem dX7_greatest_20 : decode cX7_greatest 20 = .ok (.if_icmp .ne 10, 3) := by decide +kernel
theorem dX7_greatest_23 : decode cX7_greatest 23 = .ok (.aload_n 0, 1) := by decide +kernel
theorem dX7_greatest_24 : decode cX7_greatest 24 = .ok (.invokevirtual 129, 3) := by decide +kernel
theorem dX7_greatest_27 : decode cX7_greatest 27 = .ok (.goto 13, 3) := by decide +kernel
theorem dX7_greatest_30 : decode cX7_greatest 30 = .ok (.iload_n 1, 1) := by decide +kernel
theorem dX7_greatest_31 : decode cX7_greatest 31 = .ok (.iconst 3, 1) := by decide +kernel
theorem dX7_greatest_32 : decode cX7_greatest 32 = .ok (.if_icmp .ne 7, 3) := by decide +kernel
theorem dX7_greatest_35 : decode cX7_greatest 35 = .ok (.iconst 4, 1) := by decide +kernel
theorem dX7_greatest_36 : decode cX7_greatest 36 = .ok (.goto 4, 3) := by decide +kernel
theorem dX7_greatest_39 : decode cX7_greatest 39 = .ok (.iconst 1, 1) := by decide +kernel
theorem dX7_greatest_40 : decode cX7_greatest 40 = .ok (.ireturn, 1) := by decide +kernel
theorem dX7_tell_0 : decode cX7_tell 0 = .ok (.aload_n 0, 1) := by decide +kernel
theorem dX7_tell_1 : decode cX7_tell 1 = .ok (.iload_n 1, 1) := by decide +kernel
theorem dX7_tell_2 : decode cX7_tell 2 = .ok (.invokevirtual 126, 3) := by decide +kernel
theorem dX7_tell_5 : decode cX7_tell 5 = .ok (.ifCond .eq 25, 3) := by decide +kernel
theorem dX7_tell_8 : decode cX7_tell 8 = .ok (.iload_n 2, 1) := by decide +kernel
theorem dX7_tell_9 : decode cX7_tell 9 = .ok (.iconst 0, 1) := by decide +kernel
theorem dX7_tell_10 : decode cX7_tell 10 = .ok (.iconst 4, 1) := by decide +kernel
theorem dX7_tell_11 : decode cX7_tell 11 = .ok (.invokestatic 60, 3) := by decide +kernel
theorem dX7_tell_14 : decode cX7_tell 14 = .ok (.ifCond .eq 16, 3) := by decide +kernel
theorem dX7_tell_17 : decode cX7_tell 17 = .ok (.iload_n 3, 1) := by decide +kernel
theorem dX7_tell_18 : decode cX7_tell 18 = .ok (.iconst 0, 1) := by decide +kernel
theorem dX7_tell_19 : decode cX7_tell 19 = .ok (.aload_n 0, 1) := by decide +kernel
theorem dX7_tell_20 : decode cX7_tell 20 = .ok (.iload_n 2, 1) := by decide +kernel
theorem dX7_tell_21 : decode cX7_tell 21 = .ok (.invokevirtual 133, 3) := by decide +kernel
theorem dX7_tell_24 : decode cX7_tell 24 = .ok (.invokestatic 60, 3) := by decide +kernel
theorem dX7_tell_27 : decode cX7_tell 27 = .ok (.ifCond .ne 9, 3) := by decide +kernel
theorem dX7_tell_30 : decode cX7_tell 30 = .ok (.aload_n 0, 1) := by decide +kernel
theorem dX7_tell_31 : decode cX7_tell 31 = .ok (.iconst 0, 1) := by decide +kernel
theorem dX7_tell_32 : decode cX7_tell 32 = .ok (.invokevirtual 114, 3) := by decide +kernel
theorem dX7_tell_35 : decode cX7_tell 35 = .ok (.ireturn, 1) := by decide +kernel
theorem dX7_tell_36 : decode cX7_tell 36 = .ok (.aload_n 0, 1) := by decide +kernel
theorem dX7_tell_37 : decode cX7_tell 37 = .ok (.iload_n 1, 1) := by decide +kernel
theorem dX7_tell_38 : decode cX7_tell 38 = .ok (.iload_n 2, 1) := by decide +kernel
theorem dX7_tell_39 : decode cX7_tell 39 = .ok (.invokevirtual 80, 3) := by decide +kernel
theorem dX7_tell_42 : decode cX7_tell 42 = .ok (.istore 4, 2) := by decide +kernel
theorem dX7_tell_44 : decode cX7_tell 44 = .ok (.aload_n 0, 1) := by decide +kernel
theorem dX7_tell_45 : decode cX7_tell 45 = .ok (.iload_n 1, 1) := by decide +kernel
theorem dX7_tell_46 : decode cX7_tell 46 = .ok (.iload_n 2, 1) := by decide +kernel
theorem dX7_tell_47 : decode cX7_tell 47 = .ok (.iload_n 3, 1) := by decide +kernel
theorem dX7_tell_48 : decode cX7_tell 48 = .ok (.invokevirtual 107, 3) := by decide +kernel
theorem dX7_tell_51 : decode cX7_tell 51 = .ok (.iload 4, 2) := by decide +kernel
theorem dX7_tell_53 : decode cX7_tell 53 = .ok (.ireturn, 1) := by decide +kernel
theorem dX7_drops_0 : decode cX7_drops 0 = .ok (.aload_n 0, 1) := by decide +kernel
theorem dX7_drops_1 : decode cX7_drops 1 = .ok (.iload_n 1, 1) := by decide +kernel
theorem dX7_drops_2 : decode cX7_drops 2 = .ok (.invokevirtual 120, 3) := by decide +kernel
theorem dX7_drops_5 : decode cX7_drops 5 = .ok (.ifCond .eq 26, 3) := by decide +kernel
theorem dX7_drops_8 : decode cX7_drops 8 = .ok (.aload_n 0, 1) := by decide +kernel
theorem dX7_drops_9 : decode cX7_drops 9 = .ok (.iload_n 2, 1) := by decide +kernel
theorem dX7_drops_10 : decode cX7_drops 10 = .ok (.invokevirtual 126, 3) := by decide +kernel
theorem dX7_drops_13 : decode cX7_drops 13 = .ok (.ifCond .eq 18, 3) := by decide +kernel
theorem dX7_drops_16 : decode cX7_drops 16 = .ok (.aload_n 0, 1) := by decide +kernel
theorem dX7_drops_17 : decode cX7_drops 17 = .ok (.iload_n 1, 1) := by decide +kernel
theorem dX7_drops_18 : decode cX7_drops 18 = .ok (.iload_n 2, 1) := by decide +kernel
theorem dX7_drops_19 : decode cX7_drops 19 = .ok (.aload_n 0, 1) := by decide +kernel
theorem dX7_drops_20 : decode cX7_drops 20 = .ok (.iload_n 2, 1) := by decide +kernel
theorem dX7_drops_21 : decode cX7_drops 21 = .ok (.iconst 2, 1) := by decide +kernel
theorem dX7_drops_22 : decode cX7_drops 22 = .ok (.invokevirtual 80, 3) := by decide +kernel
theorem dX7_drops_25 : decode cX7_drops 25 = .ok (.invokevirtual 89, 3) := by decide +kernel
theorem dX7_drops_28 : decode cX7_drops 28 = .ok (.goto 8, 3) := by decide +kernel
theorem dX7_drops_31 : decode cX7_drops 31 = .ok (.aload_n 0, 1) := by decide +kernel
theorem dX7_drops_32 : decode cX7_drops 32 = .ok (.iconst 0, 1) := by decide +kernel
theorem dX7_drops_33 : decode cX7_drops 33 = .ok (.invokevirtual 114, 3) := by decide +kernel
theorem dX7_drops_36 : decode cX7_drops 36 = .ok (.ireturn, 1) := by decide +kernel
theorem dX7_side_0 : decode cX7_side 0 = .ok (.aload_n 0, 1) := by decide +kernel
theorem dX7_side_1 : decode cX7_side 1 = .ok (.iload_n 1, 1) := by decide +kernel
theorem dX7_side_2 : decode cX7_side 2 = .ok (.invokevirtual 126, 3) := by decide +kernel
theorem dX7_side_5 : decode cX7_side 5 = .ok (.ifCond .eq 36, 3) := by decide +kernel
theorem dX7_side_8 : decode cX7_side 8 = .ok (.iload_n 2, 1) := by decide +kernel
theorem dX7_side_9 : decode cX7_side 9 = .ok (.iconst 0, 1) := by decide +kernel
theorem dX7_side_10 : decode cX7_side 10 = .ok (.iconst 1, 1) := by decide +kernel
theorem dX7_side_11 : decode cX7_side 11 = .ok (.invokestatic 60, 3) := by decide +kernel
theorem dX7_side_14 : decode cX7_side 14 = .ok (.ifCond .eq 27, 3) := by decide +kernel
theorem dX7_side_17 : decode cX7_side 17 = .ok (.aload_n 0, 1) := by decide +kernel
theorem dX7_side_18 : decode cX7_side 18 = .ok (.iload_n 1, 1) := by decide +kernel
theorem dX7_side_19 : decode cX7_side 19 = .ok (.aload_n 0, 1) := by decide +kernel
theorem dX7_side_20 : decode cX7_side 20 = .ok (.iload_n 1, 1) := by decide +kernel
theorem dX7_side_21 : decode cX7_side 21 = .ok (.iconst 2, 1) := by decide +kernel
theorem dX7_side_22 : decode cX7_side 22 = .ok (.invokevirtual 80, 3) := by decide +kernel
theorem dX7_side_25 : decode cX7_side 25 = .ok (.iload_n 2, 1) := by decide +kernel
theorem dX7_side_26 : decode cX7_side 26 = .ok (.iconst 1, 1) := by decide +kernel
theorem dX7_side_27 : decode cX7_side 27 = .ok (.if_icmp .ne 7, 3) := by decide +kernel
theorem dX7_side_30 : decode cX7_side 30 = .ok (.iconst 1, 1) := by decide +kernel
theorem dX7_side_31 : decode cX7_side 31 = .ok (.goto 4, 3) := by decide +kernel
theorem dX7_side_34 : decode cX7_side 34 = .ok (.iconst 0, 1) := by decide +kernel
theorem dX7_side_35 : decode cX7_side 35 = .ok (.invokevirtual 93, 3) := by decide +kernel
theorem dX7_side_38 : decode cX7_side 38 = .ok (.goto 8, 3) := by decide +kernel
theorem dX7_side_41 : decode cX7_side 41 = .ok (.aload_n 0, 1) := by decide +kernel
theorem dX7_side_42 : decode cX7_side 42 = .ok (.iconst 0, 1) := by decide +kernel
theorem dX7_side_43 : decode cX7_side 43 = .ok (.invokevirtual 114, 3) := by decide +kernel
theorem dX7_side_46 : decode cX7_side 46 = .ok (.ireturn, 1) := by decide +kernel
theorem dX7_passes_0 : decode cX7_passes 0 = .ok (.aload_n 0, 1) := by decide +kernel
theorem dX7_passes_1 : decode cX7_passes 1 = .ok (.iload_n 1, 1) := by decide +kernel
theorem dX7_passes_2 : decode cX7_passes 2 = .ok (.invokevirtual 126, 3) := by decide +kernel
theorem dX7_passes_5 : decode cX7_passes 5 = .ok (.ifCond .eq 19, 3) := by decide +kernel
theorem dX7_passes_8 : decode cX7_passes 8 = .ok (.aload_n 0, 1) := by decide +kernel
theorem dX7_passes_9 : decode cX7_passes 9 = .ok (.iload_n 1, 1) := by decide +kernel
theorem dX7_passes_10 : decode cX7_passes 10 = .ok (.invokevirtual 104, 3) := by decide +kernel
theorem dX7_passes_13 : decode cX7_passes 13 = .ok (.ifCond .eq 7, 3) := by decide +kernel
theorem dX7_passes_16 : decode cX7_passes 16 = .ok (.iconst 1, 1) := by decide +kernel
theorem dX7_passes_17 : decode cX7_passes 17 = .ok (.goto 12, 3) := by decide +kernel
theorem dX7_passes_20 : decode cX7_passes 20 = .ok (.iconst 0, 1) := by decide +kernel
theorem dX7_passes_21 : decode cX7_passes 21 = .ok (.goto 8, 3) := by decide +kernel
theorem dX7_passes_24 : decode cX7_passes 24 = .ok (.aload_n 0, 1) := by decide +kernel
theorem dX7_passes_25 : decode cX7_passes 25 = .ok (.iconst 0, 1) := by decide +kernel
theorem dX7_passes_26 : decode cX7_passes 26 = .ok (.invokevirtual 114, 3) := by decide +kernel
theorem dX7_passes_29 : decode cX7_passes 29 = .ok (.ireturn, 1) := by decide +kernel
theorem dX7_vote_0 : decode cX7_vote 0 = .ok (.aload_n 0, 1) := by decide +kernel
theorem dX7_vote_1 : decode cX7_vote 1 = .ok (.iload_n 1, 1) := by decide +kernel
theorem dX7_vote_2 : decode cX7_vote 2 = .ok (.invokevirtual 126, 3) := by decide +kernel
theorem dX7_vote_5 : decode cX7_vote 5 = .ok (.ifCond .eq 19, 3) := by decide +kernel
theorem dX7_vote_8 : decode cX7_vote 8 = .ok (.aload_n 0, 1) := by decide +kernel
theorem dX7_vote_9 : decode cX7_vote 9 = .ok (.iload_n 1, 1) := by decide +kernel
theorem dX7_vote_10 : decode cX7_vote 10 = .ok (.invokevirtual 136, 3) := by decide +kernel
theorem dX7_vote_13 : decode cX7_vote 13 = .ok (.ifCond .eq 7, 3) := by decide +kernel
theorem dX7_vote_16 : decode cX7_vote 16 = .ok (.iconst 1, 1) := by decide +kernel
theorem dX7_vote_17 : decode cX7_vote 17 = .ok (.goto 12, 3) := by decide +kernel
theorem dX7_vote_20 : decode cX7_vote 20 = .ok (.iconst 0, 1) := by decide +kernel
theorem dX7_vote_21 : decode cX7_vote 21 = .ok (.goto 8, 3) := by decide +kernel
theorem dX7_vote_24 : decode cX7_vote 24 = .ok (.aload_n 0, 1) := by decide +kernel
theorem dX7_vote_25 : decode cX7_vote 25 = .ok (.iconst 0, 1) := by decide +kernel
theorem dX7_vote_26 : decode cX7_vote 26 = .ok (.invokevirtual 114, 3) := by decide +kernel
theorem dX7_vote_29 : decode cX7_vote 29 = .ok (.ireturn, 1) := by decide +kernel
theorem dX7_seasons_0 : decode cX7_seasons 0 = .ok (.iload_n 1, 1) := by decide +kernel
theorem dX7_seasons_1 : decode cX7_seasons 1 = .ok (.iconst 1, 1) := by decide +kernel
theorem dX7_seasons_2 : decode cX7_seasons 2 = .ok (.bipush 40, 2) := by decide +kernel
theorem dX7_seasons_4 : decode cX7_seasons 4 = .ok (.invokestatic 60, 3) := by decide +kernel
theorem dX7_seasons_7 : decode cX7_seasons 7 = .ok (.ifCond .ne 9, 3) := by decide +kernel
theorem dX7_seasons_10 : decode cX7_seasons 10 = .ok (.aload_n 0, 1) := by decide +kernel
theorem dX7_seasons_11 : decode cX7_seasons 11 = .ok (.iconst 0, 1) := by decide +kernel
theorem dX7_seasons_12 : decode cX7_seasons 12 = .ok (.invokevirtual 114, 3) := by decide +kernel
theorem dX7_seasons_15 : decode cX7_seasons 15 = .ok (.ireturn, 1) := by decide +kernel
theorem dX7_seasons_16 : decode cX7_seasons 16 = .ok (.aload_n 0, 1) := by decide +kernel
theorem dX7_seasons_17 : decode cX7_seasons 17 = .ok (.getfield 9, 3) := by decide +kernel
theorem dX7_seasons_20 : decode cX7_seasons 20 = .ok (.iconst 0, 1) := by decide +kernel
theorem dX7_seasons_21 : decode cX7_seasons 21 = .ok (.iaload, 1) := by decide +kernel
theorem dX7_seasons_22 : decode cX7_seasons 22 = .ok (.iload_n 1, 1) := by decide +kernel
theorem dX7_seasons_23 : decode cX7_seasons 23 = .ok (.iadd, 1) := by decide +kernel
theorem dX7_seasons_24 : decode cX7_seasons 24 = .ok (.ldc 139, 2) := by decide +kernel
theorem dX7_seasons_26 : decode cX7_seasons 26 = .ok (.if_icmp .le 9, 3) := by decide +kernel
theorem dX7_seasons_29 : decode cX7_seasons 29 = .ok (.aload_n 0, 1) := by decide +kernel
theorem dX7_seasons_30 : decode cX7_seasons 30 = .ok (.iconst 4, 1) := by decide +kernel
theorem dX7_seasons_31 : decode cX7_seasons 31 = .ok (.invokevirtual 114, 3) := by decide +kernel
theorem dX7_seasons_34 : decode cX7_seasons 34 = .ok (.ireturn, 1) := by decide +kernel
theorem dX7_seasons_35 : decode cX7_seasons 35 = .ok (.iconst 0, 1) := by decide +kernel
theorem dX7_seasons_36 : decode cX7_seasons 36 = .ok (.istore_n 2, 1) := by decide +kernel
theorem dX7_seasons_37 : decode cX7_seasons 37 = .ok (.iload_n 2, 1) := by decide +kernel
theorem dX7_seasons_38 : decode cX7_seasons 38 = .ok (.iload_n 1, 1) := by decide +kernel
theorem dX7_seasons_39 : decode cX7_seasons 39 = .ok (.if_icmp .ge 13, 3) := by decide +kernel
theorem dX7_seasons_42 : decode cX7_seasons 42 = .ok (.aload_n 0, 1) := by decide +kernel
theorem dX7_seasons_43 : decode cX7_seasons 43 = .ok (.invokevirtual 140, 3) := by decide +kernel
theorem dX7_seasons_46 : decode cX7_seasons 46 = .ok (.iinc 2 1, 3) := by decide +kernel
theorem dX7_seasons_49 : decode cX7_seasons 49 = .ok (.goto (-12), 3) := by decide +kernel
theorem dX7_seasons_52 : decode cX7_seasons 52 = .ok (.aload_n 0, 1) := by decide +kernel
theorem dX7_seasons_53 : decode cX7_seasons 53 = .ok (.invokevirtual 143, 3) := by decide +kernel
theorem dX7_seasons_56 : decode cX7_seasons 56 = .ok (.ireturn, 1) := by decide +kernel
theorem dX7_laws_0 : decode cX7_laws 0 = .ok (.iconst 0, 1) := by decide +kernel
theorem dX7_laws_1 : decode cX7_laws 1 = .ok (.istore_n 1, 1) := by decide +kernel
theorem dX7_laws_2 : decode cX7_laws 2 = .ok (.iconst 0, 1) := by decide +kernel
theorem dX7_laws_3 : decode cX7_laws 3 = .ok (.istore_n 2, 1) := by decide +kernel
theorem dX7_laws_4 : decode cX7_laws 4 = .ok (.iload_n 2, 1) := by decide +kernel
theorem dX7_laws_5 : decode cX7_laws 5 = .ok (.aload_n 0, 1) := by decide +kernel
theorem dX7_laws_6 : decode cX7_laws 6 = .ok (.getfield 9, 3) := by decide +kernel
theorem dX7_laws_9 : decode cX7_laws 9 = .ok (.iconst 2, 1) := by decide +kernel
theorem dX7_laws_10 : decode cX7_laws 10 = .ok (.iaload, 1) := by decide +kernel
theorem dX7_laws_11 : decode cX7_laws 11 = .ok (.if_icmp .ge 20, 3) := by decide +kernel
theorem dX7_laws_14 : decode cX7_laws 14 = .ok (.iload_n 1, 1) := by decide +kernel
theorem dX7_laws_15 : decode cX7_laws 15 = .ok (.aload_n 0, 1) := by decide +kernel
theorem dX7_laws_16 : decode cX7_laws 16 = .ok (.iload_n 2, 1) := by decide +kernel
theorem dX7_laws_17 : decode cX7_laws 17 = .ok (.iconst 4, 1) := by decide +kernel
theorem dX7_laws_18 : decode cX7_laws 18 = .ok (.invokevirtual 80, 3) := by decide +kernel
theorem dX7_laws_21 : decode cX7_laws 21 = .ok (.iload_n 2, 1) := by decide +kernel
theorem dX7_laws_22 : decode cX7_laws 22 = .ok (.ishl, 1) := by decide +kernel
theorem dX7_laws_23 : decode cX7_laws 23 = .ok (.ior, 1) := by decide +kernel
theorem dX7_laws_24 : decode cX7_laws 24 = .ok (.istore_n 1, 1) := by decide +kernel
theorem dX7_laws_25 : decode cX7_laws 25 = .ok (.iinc 2 1, 3) := by decide +kernel
theorem dX7_laws_28 : decode cX7_laws 28 = .ok (.goto (-24), 3) := by decide +kernel
theorem dX7_laws_31 : decode cX7_laws 31 = .ok (.iload_n 1, 1) := by decide +kernel
theorem dX7_laws_32 : decode cX7_laws 32 = .ok (.ireturn, 1) := by decide +kernel
theorem dX7_now_0 : decode cX7_now 0 = .ok (.iload_n 1, 1) := by decide +kernel
theorem dX7_now_1 : decode cX7_now 1 = .ok (.tableswitch 53 0 3 #[31, 38, 43, 48], 31) := by decide +kernel
theorem dX7_now_32 : decode cX7_now 32 = .ok (.aload_n 0, 1) := by decide +kernel
theorem dX7_now_33 : decode cX7_now 33 = .ok (.getfield 9, 3) := by decide +kernel
theorem dX7_now_36 : decode cX7_now 36 = .ok (.iconst 0, 1) := by decide +kernel
theorem dX7_now_37 : decode cX7_now 37 = .ok (.iaload, 1) := by decide +kernel
theorem dX7_now_38 : decode cX7_now 38 = .ok (.ireturn, 1) := by decide +kernel
theorem dX7_now_39 : decode cX7_now 39 = .ok (.aload_n 0, 1) := by decide +kernel
theorem dX7_now_40 : decode cX7_now 40 = .ok (.invokevirtual 143, 3) := by decide +kernel
theorem dX7_now_43 : decode cX7_now 43 = .ok (.ireturn, 1) := by decide +kernel
theorem dX7_now_44 : decode cX7_now 44 = .ok (.aload_n 0, 1) := by decide +kernel
theorem dX7_now_45 : decode cX7_now 45 = .ok (.invokevirtual 146, 3) := by decide +kernel
theorem dX7_now_48 : decode cX7_now 48 = .ok (.ireturn, 1) := by decide +kernel
theorem dX7_now_49 : decode cX7_now 49 = .ok (.aload_n 0, 1) := by decide +kernel
theorem dX7_now_50 : decode cX7_now 50 = .ok (.invokevirtual 149, 3) := by decide +kernel
theorem dX7_now_53 : decode cX7_now 53 = .ok (.ireturn, 1) := by decide +kernel
theorem dX7_now_54 : decode cX7_now 54 = .ok (.iload_n 1, 1) := by decide +kernel
theorem dX7_now_55 : decode cX7_now 55 = .ok (.iconst 4, 1) := by decide +kernel
theorem dX7_now_56 : decode cX7_now 56 = .ok (.bipush 7, 2) := by decide +kernel
theorem dX7_now_58 : decode cX7_now 58 = .ok (.invokestatic 60, 3) := by decide +kernel
theorem dX7_now_61 : decode cX7_now 61 = .ok (.ifCond .eq 16, 3) := by decide +kernel
theorem dX7_now_64 : decode cX7_now 64 = .ok (.aload_n 0, 1) := by decide +kernel
theorem dX7_now_65 : decode cX7_now 65 = .ok (.getfield 9, 3) := by decide +kernel
theorem dX7_now_68 : decode cX7_now 68 = .ok (.iconst 4, 1) := by decide +kernel
theorem dX7_now_69 : decode cX7_now 69 = .ok (.iload_n 1, 1) := by decide +kernel
theorem dX7_now_70 : decode cX7_now 70 = .ok (.iadd, 1) := by decide +kernel
theorem dX7_now_71 : decode cX7_now 71 = .ok (.iconst 4, 1) := by decide +kernel
theorem dX7_now_72 : decode cX7_now 72 = .ok (.isub, 1) := by decide +kernel
theorem dX7_now_73 : decode cX7_now 73 = .ok (.iaload, 1) := by decide +kernel
theorem dX7_now_74 : decode cX7_now 74 = .ok (.goto 8, 3) := by decide +kernel
theorem dX7_now_77 : decode cX7_now 77 = .ok (.aload_n 0, 1) := by decide +kernel
theorem dX7_now_78 : decode cX7_now 78 = .ok (.iconst 0, 1) := by decide +kernel
theorem dX7_now_79 : decode cX7_now 79 = .ok (.invokevirtual 114, 3) := by decide +kernel
theorem dX7_now_82 : decode cX7_now 82 = .ok (.ireturn, 1) := by decide +kernel
theorem dX7_clears_0 : decode cX7_clears 0 = .ok (.iconst 0, 1) := by decide +kernel
theorem dX7_clears_1 : decode cX7_clears 1 = .ok (.istore_n 1, 1) := by decide +kernel
theorem dX7_clears_2 : decode cX7_clears 2 = .ok (.iconst 0, 1) := by decide +kernel
theorem dX7_clears_3 : decode cX7_clears 3 = .ok (.istore_n 2, 1) := by decide +kernel
theorem dX7_clears_4 : decode cX7_clears 4 = .ok (.iload_n 2, 1) := by decide +kernel
theorem dX7_clears_5 : decode cX7_clears 5 = .ok (.iconst 4, 1) := by decide +kernel
theorem dX7_clears_6 : decode cX7_clears 6 = .ok (.if_icmp .ge 29, 3) := by decide +kernel
theorem dX7_clears_9 : decode cX7_clears 9 = .ok (.iload_n 1, 1) := by decide +kernel
theorem dX7_clears_10 : decode cX7_clears 10 = .ok (.aload_n 0, 1) := by decide +kernel
theorem dX7_clears_11 : decode cX7_clears 11 = .ok (.getfield 9, 3) := by decide +kernel
theorem dX7_clears_14 : decode cX7_clears 14 = .ok (.iconst 4, 1) := by decide +kernel
theorem dX7_clears_15 : decode cX7_clears 15 = .ok (.iload_n 2, 1) := by decide +kernel
theorem dX7_clears_16 : decode cX7_clears 16 = .ok (.iadd, 1) := by decide +kernel
theorem dX7_clears_17 : decode cX7_clears 17 = .ok (.iaload, 1) := by decide +kernel
theorem dX7_clears_18 : decode cX7_clears 18 = .ok (.iadd, 1) := by decide +kernel
theorem dX7_clears_19 : decode cX7_clears 19 = .ok (.istore_n 1, 1) := by decide +kernel
theorem dX7_clears_20 : decode cX7_clears 20 = .ok (.aload_n 0, 1) := by decide +kernel
theorem dX7_clears_21 : decode cX7_clears 21 = .ok (.getfield 9, 3) := by decide +kernel
theorem dX7_clears_24 : decode cX7_clears 24 = .ok (.iconst 4, 1) := by decide +kernel
theorem dX7_clears_25 : decode cX7_clears 25 = .ok (.iload_n 2, 1) := by decide +kernel
theorem dX7_clears_26 : decode cX7_clears 26 = .ok (.iadd, 1) := by decide +kernel
theorem dX7_clears_27 : decode cX7_clears 27 = .ok (.iconst 0, 1) := by decide +kernel
theorem dX7_clears_28 : decode cX7_clears 28 = .ok (.iastore, 1) := by decide +kernel
theorem dX7_clears_29 : decode cX7_clears 29 = .ok (.iinc 2 1, 3) := by decide +kernel
theorem dX7_clears_32 : decode cX7_clears 32 = .ok (.goto (-28), 3) := by decide +kernel
theorem dX7_clears_35 : decode cX7_clears 35 = .ok (.iload_n 1, 1) := by decide +kernel
theorem dX7_clears_36 : decode cX7_clears 36 = .ok (.ireturn, 1) := by decide +kernel
theorem dX7_when_0 : decode cX7_when 0 = .ok (.aload_n 0, 1) := by decide +kernel
theorem dX7_when_1 : decode cX7_when 1 = .ok (.iload_n 1, 1) := by decide +kernel
theorem dX7_when_2 : decode cX7_when 2 = .ok (.invokevirtual 126, 3) := by decide +kernel
theorem dX7_when_5 : decode cX7_when 5 = .ok (.ifCond .ne 9, 3) := by decide +kernel
theorem dX7_when_8 : decode cX7_when 8 = .ok (.aload_n 0, 1) := by decide +kernel
theorem dX7_when_9 : decode cX7_when 9 = .ok (.iconst 0, 1) := by decide +kernel
theorem dX7_when_10 : decode cX7_when 10 = .ok (.invokevirtual 114, 3) := by decide +kernel
theorem dX7_when_13 : decode cX7_when 13 = .ok (.ireturn, 1) := by decide +kernel
theorem dX7_when_14 : decode cX7_when 14 = .ok (.aload_n 0, 1) := by decide +kernel
theorem dX7_when_15 : decode cX7_when 15 = .ok (.invokevirtual 152, 3) := by decide +kernel
theorem dX7_when_18 : decode cX7_when 18 = .ok (.iconst 0, 1) := by decide +kernel
theorem dX7_when_19 : decode cX7_when 19 = .ok (.istore_n 2, 1) := by decide +kernel
theorem dX7_when_20 : decode cX7_when 20 = .ok (.aload_n 0, 1) := by decide +kernel
theorem dX7_when_21 : decode cX7_when 21 = .ok (.iload_n 1, 1) := by decide +kernel
theorem dX7_when_22 : decode cX7_when 22 = .ok (.invokevirtual 104, 3) := by decide +kernel
theorem dX7_when_25 : decode cX7_when 25 = .ok (.istore_n 3, 1) := by decide +kernel
theorem dX7_when_26 : decode cX7_when 26 = .ok (.iload_n 2, 1) := by decide +kernel
theorem dX7_when_27 : decode cX7_when 27 = .ok (.sipush 200, 3) := by decide +kernel
theorem dX7_when_30 : decode cX7_when 30 = .ok (.if_icmp .ge 23, 3) := by decide +kernel
theorem dX7_when_33 : decode cX7_when 33 = .ok (.iload_n 3, 1) := by decide +kernel
theorem dX7_when_34 : decode cX7_when 34 = .ok (.ifCond .ne 19, 3) := by decide +kernel
theorem dX7_when_37 : decode cX7_when 37 = .ok (.aload_n 0, 1) := by decide +kernel
theorem dX7_when_38 : decode cX7_when 38 = .ok (.invokevirtual 140, 3) := by decide +kernel
theorem dX7_when_41 : decode cX7_when 41 = .ok (.iinc 2 1, 3) := by decide +kernel
theorem dX7_when_44 : decode cX7_when 44 = .ok (.aload_n 0, 1) := by decide +kernel
theorem dX7_when_45 : decode cX7_when 45 = .ok (.iload_n 1, 1) := by decide +kernel
theorem dX7_when_46 : decode cX7_when 46 = .ok (.invokevirtual 104, 3) := by decide +kernel
theorem dX7_when_49 : decode cX7_when 49 = .ok (.istore_n 3, 1) := by decide +kernel
theorem dX7_when_50 : decode cX7_when 50 = .ok (.goto (-24), 3) := by decide +kernel
theorem dX7_when_53 : decode cX7_when 53 = .ok (.aload_n 0, 1) := by decide +kernel
theorem dX7_when_54 : decode cX7_when 54 = .ok (.invokevirtual 155, 3) := by decide +kernel
theorem dX7_when_57 : decode cX7_when 57 = .ok (.iload_n 3, 1) := by decide +kernel
theorem dX7_when_58 : decode cX7_when 58 = .ok (.ifCond .eq 7, 3) := by decide +kernel
theorem dX7_when_61 : decode cX7_when 61 = .ok (.iload_n 2, 1) := by decide +kernel
theorem dX7_when_62 : decode cX7_when 62 = .ok (.goto 8, 3) := by decide +kernel
theorem dX7_when_65 : decode cX7_when 65 = .ok (.aload_n 0, 1) := by decide +kernel
theorem dX7_when_66 : decode cX7_when 66 = .ok (.iconst 3, 1) := by decide +kernel
theorem dX7_when_67 : decode cX7_when 67 = .ok (.invokevirtual 114, 3) := by decide +kernel
theorem dX7_when_70 : decode cX7_when 70 = .ok (.ireturn, 1) := by decide +kernel
theorem dX7_flies_0 : decode cX7_flies 0 = .ok (.aload_n 0, 1) := by decide +kernel
theorem dX7_flies_1 : decode cX7_flies 1 = .ok (.iload_n 1, 1) := by decide +kernel
theorem dX7_flies_2 : decode cX7_flies 2 = .ok (.invokevirtual 120, 3) := by decide +kernel
theorem dX7_flies_5 : decode cX7_flies 5 = .ok (.ifCond .ne 9, 3) := by decide +kernel
theorem dX7_flies_8 : decode cX7_flies 8 = .ok (.aload_n 0, 1) := by decide +kernel
theorem dX7_flies_9 : decode cX7_flies 9 = .ok (.iconst 0, 1) := by decide +kernel
theorem dX7_flies_10 : decode cX7_flies 10 = .ok (.invokevirtual 114, 3) := by decide +kernel
theorem dX7_flies_13 : decode cX7_flies 13 = .ok (.ireturn, 1) := by decide +kernel
theorem dX7_flies_14 : decode cX7_flies 14 = .ok (.aload_n 0, 1) := by decide +kernel
theorem dX7_flies_15 : decode cX7_flies 15 = .ok (.invokevirtual 152, 3) := by decide +kernel
theorem dX7_flies_18 : decode cX7_flies 18 = .ok (.iconst 0, 1) := by decide +kernel
theorem dX7_flies_19 : decode cX7_flies 19 = .ok (.istore_n 2, 1) := by decide +kernel
theorem dX7_flies_20 : decode cX7_flies 20 = .ok (.iload_n 2, 1) := by decide +kernel
theorem dX7_flies_21 : decode cX7_flies 21 = .ok (.sipush 200, 3) := by decide +kernel
theorem dX7_flies_24 : decode cX7_flies 24 = .ok (.if_icmp .ge 21, 3) := by decide +kernel
theorem dX7_flies_27 : decode cX7_flies 27 = .ok (.aload_n 0, 1) := by decide +kernel
theorem dX7_flies_28 : decode cX7_flies 28 = .ok (.iload_n 1, 1) := by decide +kernel
theorem dX7_flies_29 : decode cX7_flies 29 = .ok (.invokevirtual 72, 3) := by decide +kernel
theorem dX7_flies_32 : decode cX7_flies 32 = .ok (.ifCond .ne 13, 3) := by decide +kernel
theorem dX7_flies_35 : decode cX7_flies 35 = .ok (.aload_n 0, 1) := by decide +kernel
theorem dX7_flies_36 : decode cX7_flies 36 = .ok (.invokevirtual 140, 3) := by decide +kernel
theorem dX7_flies_39 : decode cX7_flies 39 = .ok (.iinc 2 1, 3) := by decide +kernel
theorem dX7_flies_42 : decode cX7_flies 42 = .ok (.goto (-22), 3) := by decide +kernel
theorem dX7_flies_45 : decode cX7_flies 45 = .ok (.aload_n 0, 1) := by decide +kernel
theorem dX7_flies_46 : decode cX7_flies 46 = .ok (.iload_n 1, 1) := by decide +kernel
theorem dX7_flies_47 : decode cX7_flies 47 = .ok (.invokevirtual 72, 3) := by decide +kernel
theorem dX7_flies_50 : decode cX7_flies 50 = .ok (.istore_n 3, 1) := by decide +kernel
theorem dX7_flies_51 : decode cX7_flies 51 = .ok (.aload_n 0, 1) := by decide +kernel
theorem dX7_flies_52 : decode cX7_flies 52 = .ok (.invokevirtual 155, 3) := by decide +kernel
theorem dX7_flies_55 : decode cX7_flies 55 = .ok (.iload_n 3, 1) := by decide +kernel
theorem dX7_flies_56 : decode cX7_flies 56 = .ok (.ifCond .eq 7, 3) := by decide +kernel
theorem dX7_flies_59 : decode cX7_flies 59 = .ok (.iload_n 2, 1) := by decide +kernel
theorem dX7_flies_60 : decode cX7_flies 60 = .ok (.goto 8, 3) := by decide +kernel
theorem dX7_flies_63 : decode cX7_flies 63 = .ok (.aload_n 0, 1) := by decide +kernel
theorem dX7_flies_64 : decode cX7_flies 64 = .ok (.iconst 3, 1) := by decide +kernel
theorem dX7_flies_65 : decode cX7_flies 65 = .ok (.invokevirtual 114, 3) := by decide +kernel
theorem dX7_flies_68 : decode cX7_flies 68 = .ok (.ireturn, 1) := by decide +kernel
theorem dX7_plucked_0 : decode cX7_plucked 0 = .ok (.aload_n 0, 1) := by decide +kernel
theorem dX7_plucked_1 : decode cX7_plucked 1 = .ok (.iload_n 1, 1) := by decide +kernel
theorem dX7_plucked_2 : decode cX7_plucked 2 = .ok (.invokevirtual 126, 3) := by decide +kernel
theorem dX7_plucked_5 : decode cX7_plucked 5 = .ok (.ifCond .ne 9, 3) := by decide +kernel
theorem dX7_plucked_8 : decode cX7_plucked 8 = .ok (.aload_n 0, 1) := by decide +kernel
theorem dX7_plucked_9 : decode cX7_plucked 9 = .ok (.iconst 0, 1) := by decide +kernel
theorem dX7_plucked_10 : decode cX7_plucked 10 = .ok (.invokevirtual 114, 3) := by decide +kernel
theorem dX7_plucked_13 : decode cX7_plucked 13 = .ok (.ireturn, 1) := by decide +kernel
theorem dX7_plucked_14 : decode cX7_plucked 14 = .ok (.aload_n 0, 1) := by decide +kernel
theorem dX7_plucked_15 : decode cX7_plucked 15 = .ok (.invokevirtual 149, 3) := by decide +kernel
theorem dX7_plucked_18 : decode cX7_plucked 18 = .ok (.istore_n 2, 1) := by decide +kernel
theorem dX7_plucked_19 : decode cX7_plucked 19 = .ok (.aload_n 0, 1) := by decide +kernel
theorem dX7_plucked_20 : decode cX7_plucked 20 = .ok (.invokevirtual 152, 3) := by decide +kernel
theorem dX7_plucked_23 : decode cX7_plucked 23 = .ok (.aload_n 0, 1) := by decide +kernel
theorem dX7_plucked_24 : decode cX7_plucked 24 = .ok (.iload_n 1, 1) := by decide +kernel
theorem dX7_plucked_25 : decode cX7_plucked 25 = .ok (.invokevirtual 136, 3) := by decide +kernel
theorem dX7_plucked_28 : decode cX7_plucked 28 = .ok (.istore_n 3, 1) := by decide +kernel
theorem dX7_plucked_29 : decode cX7_plucked 29 = .ok (.iload_n 3, 1) := by decide +kernel
theorem dX7_plucked_30 : decode cX7_plucked 30 = .ok (.ifCond .ne 7, 3) := by decide +kernel
theorem dX7_plucked_33 : decode cX7_plucked 33 = .ok (.iload_n 3, 1) := by decide +kernel
theorem dX7_plucked_34 : decode cX7_plucked 34 = .ok (.ifCond .ne 10, 3) := by decide +kernel
theorem dX7_plucked_37 : decode cX7_plucked 37 = .ok (.aload_n 0, 1) := by decide +kernel
theorem dX7_plucked_38 : decode cX7_plucked 38 = .ok (.invokevirtual 149, 3) := by decide +kernel
theorem dX7_plucked_41 : decode cX7_plucked 41 = .ok (.goto 4, 3) := by decide +kernel
theorem dX7_plucked_44 : decode cX7_plucked 44 = .ok (.iconst 0, 1) := by decide +kernel
theorem dX7_plucked_45 : decode cX7_plucked 45 = .ok (.istore 4, 2) := by decide +kernel
theorem dX7_plucked_47 : decode cX7_plucked 47 = .ok (.aload_n 0, 1) := by decide +kernel
theorem dX7_plucked_48 : decode cX7_plucked 48 = .ok (.invokevirtual 155, 3) := by decide +kernel
theorem dX7_plucked_51 : decode cX7_plucked 51 = .ok (.iload_n 2, 1) := by decide +kernel
theorem dX7_plucked_52 : decode cX7_plucked 52 = .ok (.iload 4, 2) := by decide +kernel
theorem dX7_plucked_54 : decode cX7_plucked 54 = .ok (.iconst (-1), 1) := by decide +kernel
theorem dX7_plucked_55 : decode cX7_plucked 55 = .ok (.ixor, 1) := by decide +kernel
theorem dX7_plucked_56 : decode cX7_plucked 56 = .ok (.iand, 1) := by decide +kernel
theorem dX7_plucked_57 : decode cX7_plucked 57 = .ok (.ireturn, 1) := by decide +kernel
theorem dX7_hinges_0 : decode cX7_hinges 0 = .ok (.aload_n 0, 1) := by decide +kernel
theorem dX7_hinges_1 : decode cX7_hinges 1 = .ok (.iload_n 1, 1) := by decide +kernel
theorem dX7_hinges_2 : decode cX7_hinges 2 = .ok (.invokevirtual 126, 3) := by decide +kernel
theorem dX7_hinges_5 : decode cX7_hinges 5 = .ok (.ifCond .ne 9, 3) := by decide +kernel
theorem dX7_hinges_8 : decode cX7_hinges 8 = .ok (.aload_n 0, 1) := by decide +kernel
theorem dX7_hinges_9 : decode cX7_hinges 9 = .ok (.iconst 0, 1) := by decide +kernel
theorem dX7_hinges_10 : decode cX7_hinges 10 = .ok (.invokevirtual 114, 3) := by decide +kernel
theorem dX7_hinges_13 : decode cX7_hinges 13 = .ok (.ireturn, 1) := by decide +kernel
theorem dX7_hinges_14 : decode cX7_hinges 14 = .ok (.aload_n 0, 1) := by decide +kernel
theorem dX7_hinges_15 : decode cX7_hinges 15 = .ok (.iload_n 1, 1) := by decide +kernel
theorem dX7_hinges_16 : decode cX7_hinges 16 = .ok (.iconst 2, 1) := by decide +kernel
theorem dX7_hinges_17 : decode cX7_hinges 17 = .ok (.invokevirtual 80, 3) := by decide +kernel
theorem dX7_hinges_20 : decode cX7_hinges 20 = .ok (.istore_n 2, 1) := by decide +kernel
theorem dX7_hinges_21 : decode cX7_hinges 21 = .ok (.aload_n 0, 1) := by decide +kernel
theorem dX7_hinges_22 : decode cX7_hinges 22 = .ok (.iload_n 1, 1) := by decide +kernel
theorem dX7_hinges_23 : decode cX7_hinges 23 = .ok (.invokevirtual 104, 3) := by decide +kernel
theorem dX7_hinges_26 : decode cX7_hinges 26 = .ok (.istore_n 3, 1) := by decide +kernel
theorem dX7_hinges_27 : decode cX7_hinges 27 = .ok (.iconst 0, 1) := by decide +kernel
theorem dX7_hinges_28 : decode cX7_hinges 28 = .ok (.istore 4, 2) := by decide +kernel
theorem dX7_hinges_30 : decode cX7_hinges 30 = .ok (.iconst 0, 1) := by decide +kernel
theorem dX7_hinges_31 : decode cX7_hinges 31 = .ok (.istore 5, 2) := by decide +kernel
theorem dX7_hinges_33 : decode cX7_hinges 33 = .ok (.iload 5, 2) := by decide +kernel
theorem dX7_hinges_35 : decode cX7_hinges 35 = .ok (.aload_n 0, 1) := by decide +kernel
theorem dX7_hinges_36 : decode cX7_hinges 36 = .ok (.getfield 9, 3) := by decide +kernel
theorem dX7_hinges_39 : decode cX7_hinges 39 = .ok (.iconst 1, 1) := by decide +kernel
theorem dX7_hinges_40 : decode cX7_hinges 40 = .ok (.iaload, 1) := by decide +kernel
theorem dX7_hinges_41 : decode cX7_hinges 41 = .ok (.if_icmp .ge 37, 3) := by decide +kernel
theorem dX7_hinges_44 : decode cX7_hinges 44 = .ok (.iload 4, 2) := by decide +kernel
theorem dX7_hinges_46 : decode cX7_hinges 46 = .ok (.aload_n 0, 1) := by decide +kernel
theorem dX7_hinges_47 : decode cX7_hinges 47 = .ok (.iload_n 1, 1) := by decide +kernel
theorem dX7_hinges_48 : decode cX7_hinges 48 = .ok (.iload_n 2, 1) := by decide +kernel
theorem dX7_hinges_49 : decode cX7_hinges 49 = .ok (.iconst 1, 1) := by decide +kernel
theorem dX7_hinges_50 : decode cX7_hinges 50 = .ok (.iload 5, 2) := by decide +kernel
theorem dX7_hinges_52 : decode cX7_hinges 52 = .ok (.ishl, 1) := by decide +kernel
theorem dX7_hinges_53 : decode cX7_hinges 53 = .ok (.ixor, 1) := by decide +kernel
theorem dX7_hinges_54 : decode cX7_hinges 54 = .ok (.invokevirtual 97, 3) := by decide +kernel
theorem dX7_hinges_57 : decode cX7_hinges 57 = .ok (.iload_n 3, 1) := by decide +kernel
theorem dX7_hinges_58 : decode cX7_hinges 58 = .ok (.if_icmp .eq 10, 3) := by decide +kernel
theorem dX7_hinges_61 : decode cX7_hinges 61 = .ok (.iconst 1, 1) := by decide +kernel
theorem dX7_hinges_62 : decode cX7_hinges 62 = .ok (.iload 5, 2) := by decide +kernel
theorem dX7_hinges_64 : decode cX7_hinges 64 = .ok (.ishl, 1) := by decide +kernel
theorem dX7_hinges_65 : decode cX7_hinges 65 = .ok (.goto 4, 3) := by decide +kernel
theorem dX7_hinges_68 : decode cX7_hinges 68 = .ok (.iconst 0, 1) := by decide +kernel
theorem dX7_hinges_69 : decode cX7_hinges 69 = .ok (.ior, 1) := by decide +kernel
theorem dX7_hinges_70 : decode cX7_hinges 70 = .ok (.istore 4, 2) := by decide +kernel
theorem dX7_hinges_72 : decode cX7_hinges 72 = .ok (.iinc 5 1, 3) := by decide +kernel
theorem dX7_hinges_75 : decode cX7_hinges 75 = .ok (.goto (-42), 3) := by decide +kernel
theorem dX7_hinges_78 : decode cX7_hinges 78 = .ok (.iload 4, 2) := by decide +kernel
theorem dX7_hinges_80 : decode cX7_hinges 80 = .ok (.ireturn, 1) := by decide +kernel
theorem dX7_sets_0 : decode cX7_sets 0 = .ok (.aload_n 0, 1) := by decide +kernel
theorem dX7_sets_1 : decode cX7_sets 1 = .ok (.iload_n 1, 1) := by decide +kernel
theorem dX7_sets_2 : decode cX7_sets 2 = .ok (.invokevirtual 126, 3) := by decide +kernel
theorem dX7_sets_5 : decode cX7_sets 5 = .ok (.ifCond .ne 9, 3) := by decide +kernel
theorem dX7_sets_8 : decode cX7_sets 8 = .ok (.aload_n 0, 1) := by decide +kernel
theorem dX7_sets_9 : decode cX7_sets 9 = .ok (.iconst 0, 1) := by decide +kernel
theorem dX7_sets_10 : decode cX7_sets 10 = .ok (.invokevirtual 114, 3) := by decide +kernel
theorem dX7_sets_13 : decode cX7_sets 13 = .ok (.ireturn, 1) := by decide +kernel
theorem dX7_sets_14 : decode cX7_sets 14 = .ok (.iconst 0, 1) := by decide +kernel
theorem dX7_sets_15 : decode cX7_sets 15 = .ok (.istore_n 2, 1) := by decide +kernel
theorem dX7_sets_16 : decode cX7_sets 16 = .ok (.iconst 0, 1) := by decide +kernel
theorem dX7_sets_17 : decode cX7_sets 17 = .ok (.istore_n 3, 1) := by decide +kernel
theorem dX7_sets_18 : decode cX7_sets 18 = .ok (.iload_n 3, 1) := by decide +kernel
theorem dX7_sets_19 : decode cX7_sets 19 = .ok (.aload_n 0, 1) := by decide +kernel
theorem dX7_sets_20 : decode cX7_sets 20 = .ok (.invokevirtual 129, 3) := by decide +kernel
theorem dX7_sets_23 : decode cX7_sets 23 = .ok (.if_icmp .gt 26, 3) := by decide +kernel
theorem dX7_sets_26 : decode cX7_sets 26 = .ok (.iload_n 2, 1) := by decide +kernel
theorem dX7_sets_27 : decode cX7_sets 27 = .ok (.aload_n 0, 1) := by decide +kernel
theorem dX7_sets_28 : decode cX7_sets 28 = .ok (.iload_n 1, 1) := by decide +kernel
theorem dX7_sets_29 : decode cX7_sets 29 = .ok (.iload_n 3, 1) := by decide +kernel
theorem dX7_sets_30 : decode cX7_sets 30 = .ok (.invokevirtual 97, 3) := by decide +kernel
theorem dX7_sets_33 : decode cX7_sets 33 = .ok (.ifCond .eq 7, 3) := by decide +kernel
theorem dX7_sets_36 : decode cX7_sets 36 = .ok (.iconst 1, 1) := by decide +kernel
theorem dX7_sets_37 : decode cX7_sets 37 = .ok (.goto 4, 3) := by decide +kernel
theorem dX7_sets_40 : decode cX7_sets 40 = .ok (.iconst 0, 1) := by decide +kernel
theorem dX7_sets_41 : decode cX7_sets 41 = .ok (.iadd, 1) := by decide +kernel
theorem dX7_sets_42 : decode cX7_sets 42 = .ok (.istore_n 2, 1) := by decide +kernel
theorem dX7_sets_43 : decode cX7_sets 43 = .ok (.iinc 3 1, 3) := by decide +kernel
theorem dX7_sets_46 : decode cX7_sets 46 = .ok (.goto (-28), 3) := by decide +kernel
theorem dX7_sets_49 : decode cX7_sets 49 = .ok (.iload_n 2, 1) := by decide +kernel
theorem dX7_sets_50 : decode cX7_sets 50 = .ok (.ireturn, 1) := by decide +kernel
theorem dX7_power_0 : decode cX7_power 0 = .ok (.aload_n 0, 1) := by decide +kernel
theorem dX7_power_1 : decode cX7_power 1 = .ok (.iload_n 1, 1) := by decide +kernel
theorem dX7_power_2 : decode cX7_power 2 = .ok (.invokevirtual 120, 3) := by decide +kernel
theorem dX7_power_5 : decode cX7_power 5 = .ok (.ifCond .eq 11, 3) := by decide +kernel
theorem dX7_power_8 : decode cX7_power 8 = .ok (.aload_n 0, 1) := by decide +kernel
theorem dX7_power_9 : decode cX7_power 9 = .ok (.iload_n 2, 1) := by decide +kernel
theorem dX7_power_10 : decode cX7_power 10 = .ok (.invokevirtual 126, 3) := by decide +kernel
theorem dX7_power_13 : decode cX7_power 13 = .ok (.ifCond .ne 9, 3) := by decide +kernel
theorem dX7_power_16 : decode cX7_power 16 = .ok (.aload_n 0, 1) := by decide +kernel
theorem dX7_power_17 : decode cX7_power 17 = .ok (.iconst 0, 1) := by decide +kernel
theorem dX7_power_18 : decode cX7_power 18 = .ok (.invokevirtual 114, 3) := by decide +kernel
theorem dX7_power_21 : decode cX7_power 21 = .ok (.ireturn, 1) := by decide +kernel
theorem dX7_power_22 : decode cX7_power 22 = .ok (.iconst 0, 1) := by decide +kernel
theorem dX7_power_23 : decode cX7_power 23 = .ok (.istore_n 3, 1) := by decide +kernel
theorem dX7_power_24 : decode cX7_power 24 = .ok (.iconst 0, 1) := by decide +kernel
theorem dX7_power_25 : decode cX7_power 25 = .ok (.istore 4, 2) := by decide +kernel
theorem dX7_power_27 : decode cX7_power 27 = .ok (.iload 4, 2) := by decide +kernel
theorem dX7_power_29 : decode cX7_power 29 = .ok (.aload_n 0, 1) := by decide +kernel
theorem dX7_power_30 : decode cX7_power 30 = .ok (.invokevirtual 129, 3) := by decide +kernel
theorem dX7_power_33 : decode cX7_power 33 = .ok (.if_icmp .gt 52, 3) := by decide +kernel
theorem dX7_power_36 : decode cX7_power 36 = .ok (.iload_n 3, 1) := by decide +kernel
theorem dX7_power_37 : decode cX7_power 37 = .ok (.iload 4, 2) := by decide +kernel
theorem dX7_power_39 : decode cX7_power 39 = .ok (.iload_n 1, 1) := by decide +kernel
theorem dX7_power_40 : decode cX7_power 40 = .ok (.invokestatic 76, 3) := by decide +kernel
theorem dX7_power_43 : decode cX7_power 43 = .ok (.ifCond .eq 33, 3) := by decide +kernel
theorem dX7_power_46 : decode cX7_power 46 = .ok (.aload_n 0, 1) := by decide +kernel
theorem dX7_power_47 : decode cX7_power 47 = .ok (.iload_n 2, 1) := by decide +kernel
theorem dX7_power_48 : decode cX7_power 48 = .ok (.iload 4, 2) := by decide +kernel
theorem dX7_power_50 : decode cX7_power 50 = .ok (.invokevirtual 97, 3) := by decide +kernel
theorem dX7_power_53 : decode cX7_power 53 = .ok (.ifCond .eq 23, 3) := by decide +kernel
theorem dX7_power_56 : decode cX7_power 56 = .ok (.aload_n 0, 1) := by decide +kernel
theorem dX7_power_57 : decode cX7_power 57 = .ok (.iload_n 2, 1) := by decide +kernel
theorem dX7_power_58 : decode cX7_power 58 = .ok (.iload 4, 2) := by decide +kernel
theorem dX7_power_60 : decode cX7_power 60 = .ok (.iconst 1, 1) := by decide +kernel
theorem dX7_power_61 : decode cX7_power 61 = .ok (.iload_n 1, 1) := by decide +kernel
theorem dX7_power_62 : decode cX7_power 62 = .ok (.ishl, 1) := by decide +kernel
theorem dX7_power_63 : decode cX7_power 63 = .ok (.iconst (-1), 1) := by decide +kernel
theorem dX7_power_64 : decode cX7_power 64 = .ok (.ixor, 1) := by decide +kernel
theorem dX7_power_65 : decode cX7_power 65 = .ok (.iand, 1) := by decide +kernel
theorem dX7_power_66 : decode cX7_power 66 = .ok (.invokevirtual 97, 3) := by decide +kernel
theorem dX7_power_69 : decode cX7_power 69 = .ok (.ifCond .ne 7, 3) := by decide +kernel
theorem dX7_power_72 : decode cX7_power 72 = .ok (.iconst 1, 1) := by decide +kernel
theorem dX7_power_73 : decode cX7_power 73 = .ok (.goto 4, 3) := by decide +kernel
theorem dX7_power_76 : decode cX7_power 76 = .ok (.iconst 0, 1) := by decide +kernel
theorem dX7_power_77 : decode cX7_power 77 = .ok (.iadd, 1) := by decide +kernel
theorem dX7_power_78 : decode cX7_power 78 = .ok (.istore_n 3, 1) := by decide +kernel
theorem dX7_power_79 : decode cX7_power 79 = .ok (.iinc 4 1, 3) := by decide +kernel
theorem dX7_power_82 : decode cX7_power 82 = .ok (.goto (-55), 3) := by decide +kernel
theorem dX7_power_85 : decode cX7_power 85 = .ok (.iload_n 3, 1) := by decide +kernel
theorem dX7_power_86 : decode cX7_power 86 = .ok (.ireturn, 1) := by decide +kernel
theorem dX7_won_0 : decode cX7_won 0 = .ok (.aload_n 0, 1) := by decide +kernel
theorem dX7_won_1 : decode cX7_won 1 = .ok (.iload_n 1, 1) := by decide +kernel
theorem dX7_won_2 : decode cX7_won 2 = .ok (.invokevirtual 126, 3) := by decide +kernel
theorem dX7_won_5 : decode cX7_won 5 = .ok (.ifCond .ne 9, 3) := by decide +kernel
theorem dX7_won_8 : decode cX7_won 8 = .ok (.aload_n 0, 1) := by decide +kernel
theorem dX7_won_9 : decode cX7_won 9 = .ok (.iconst 0, 1) := by decide +kernel
theorem dX7_won_10 : decode cX7_won 10 = .ok (.invokevirtual 114, 3) := by decide +kernel
theorem dX7_won_13 : decode cX7_won 13 = .ok (.ireturn, 1) := by decide +kernel
theorem dX7_won_14 : decode cX7_won 14 = .ok (.aload_n 0, 1) := by decide +kernel
theorem dX7_won_15 : decode cX7_won 15 = .ok (.iload_n 1, 1) := by decide +kernel
theorem dX7_won_16 : decode cX7_won 16 = .ok (.iconst 2, 1) := by decide +kernel
theorem dX7_won_17 : decode cX7_won 17 = .ok (.invokevirtual 80, 3) := by decide +kernel
theorem dX7_won_20 : decode cX7_won 20 = .ok (.istore_n 2, 1) := by decide +kernel
theorem dX7_won_21 : decode cX7_won 21 = .ok (.iconst (-1), 1) := by decide +kernel
theorem dX7_won_22 : decode cX7_won 22 = .ok (.istore_n 3, 1) := by decide +kernel
theorem dX7_won_23 : decode cX7_won 23 = .ok (.iconst 0, 1) := by decide +kernel
theorem dX7_won_24 : decode cX7_won 24 = .ok (.istore 4, 2) := by decide +kernel
theorem dX7_won_26 : decode cX7_won 26 = .ok (.iload 4, 2) := by decide +kernel
theorem dX7_won_28 : decode cX7_won 28 = .ok (.aload_n 0, 1) := by decide +kernel
theorem dX7_won_29 : decode cX7_won 29 = .ok (.invokevirtual 129, 3) := by decide +kernel
theorem dX7_won_32 : decode cX7_won 32 = .ok (.if_icmp .gt 63, 3) := by decide +kernel
theorem dX7_won_35 : decode cX7_won 35 = .ok (.iload 4, 2) := by decide +kernel
theorem dX7_won_37 : decode cX7_won 37 = .ok (.iload_n 2, 1) := by decide +kernel
theorem dX7_won_38 : decode cX7_won 38 = .ok (.iand, 1) := by decide +kernel
theorem dX7_won_39 : decode cX7_won 39 = .ok (.ifCond .ne 23, 3) := by decide +kernel
theorem dX7_won_42 : decode cX7_won 42 = .ok (.iload_n 3, 1) := by decide +kernel
theorem dX7_won_43 : decode cX7_won 43 = .ok (.ifCond .lt 15, 3) := by decide +kernel
theorem dX7_won_46 : decode cX7_won 46 = .ok (.iload 4, 2) := by decide +kernel
theorem dX7_won_48 : decode cX7_won 48 = .ok (.invokestatic 158, 3) := by decide +kernel
theorem dX7_won_51 : decode cX7_won 51 = .ok (.iload_n 3, 1) := by decide +kernel
theorem dX7_won_52 : decode cX7_won 52 = .ok (.invokestatic 158, 3) := by decide +kernel
theorem dX7_won_55 : decode cX7_won 55 = .ok (.if_icmp .ge 7, 3) := by decide +kernel
theorem dX7_won_58 : decode cX7_won 58 = .ok (.iconst 1, 1) := by decide +kernel
theorem dX7_won_59 : decode cX7_won 59 = .ok (.goto 4, 3) := by decide +kernel
theorem dX7_won_62 : decode cX7_won 62 = .ok (.iconst 0, 1) := by decide +kernel
theorem dX7_won_63 : decode cX7_won 63 = .ok (.istore 5, 2) := by decide +kernel
theorem dX7_won_65 : decode cX7_won 65 = .ok (.iload 5, 2) := by decide +kernel
theorem dX7_won_67 : decode cX7_won 67 = .ok (.ifCond .eq 20, 3) := by decide +kernel
theorem dX7_won_70 : decode cX7_won 70 = .ok (.aload_n 0, 1) := by decide +kernel
theorem dX7_won_71 : decode cX7_won 71 = .ok (.iload_n 1, 1) := by decide +kernel
theorem dX7_won_72 : decode cX7_won 72 = .ok (.iload_n 2, 1) := by decide +kernel
theorem dX7_won_73 : decode cX7_won 73 = .ok (.iload 4, 2) := by decide +kernel
theorem dX7_won_75 : decode cX7_won 75 = .ok (.ior, 1) := by decide +kernel
theorem dX7_won_76 : decode cX7_won 76 = .ok (.invokevirtual 97, 3) := by decide +kernel
theorem dX7_won_79 : decode cX7_won 79 = .ok (.ifCond .eq 8, 3) := by decide +kernel
theorem dX7_won_82 : decode cX7_won 82 = .ok (.iload 4, 2) := by decide +kernel
theorem dX7_won_84 : decode cX7_won 84 = .ok (.goto 4, 3) := by decide +kernel
theorem dX7_won_87 : decode cX7_won 87 = .ok (.iload_n 3, 1) := by decide +kernel
theorem dX7_won_88 : decode cX7_won 88 = .ok (.istore_n 3, 1) := by decide +kernel
theorem dX7_won_89 : decode cX7_won 89 = .ok (.iinc 4 1, 3) := by decide +kernel
theorem dX7_won_92 : decode cX7_won 92 = .ok (.goto (-66), 3) := by decide +kernel
theorem dX7_won_95 : decode cX7_won 95 = .ok (.iload_n 3, 1) := by decide +kernel
theorem dX7_won_96 : decode cX7_won 96 = .ok (.ifCond .ge 11, 3) := by decide +kernel
theorem dX7_won_99 : decode cX7_won 99 = .ok (.aload_n 0, 1) := by decide +kernel
theorem dX7_won_100 : decode cX7_won 100 = .ok (.iconst 3, 1) := by decide +kernel
theorem dX7_won_101 : decode cX7_won 101 = .ok (.invokevirtual 114, 3) := by decide +kernel
theorem dX7_won_104 : decode cX7_won 104 = .ok (.goto 4, 3) := by decide +kernel
theorem dX7_won_107 : decode cX7_won 107 = .ok (.iload_n 3, 1) := by decide +kernel
theorem dX7_won_108 : decode cX7_won 108 = .ok (.ireturn, 1) := by decide +kernel
theorem dX7_colour_0 : decode cX7_colour 0 = .ok (.aload_n 0, 1) := by decide +kernel
theorem dX7_colour_1 : decode cX7_colour 1 = .ok (.iload_n 1, 1) := by decide +kernel
theorem dX7_colour_2 : decode cX7_colour 2 = .ok (.invokevirtual 126, 3) := by decide +kernel
theorem dX7_colour_5 : decode cX7_colour 5 = .ok (.ifCond .ne 9, 3) := by decide +kernel
theorem dX7_colour_8 : decode cX7_colour 8 = .ok (.aload_n 0, 1) := by decide +kernel
theorem dX7_colour_9 : decode cX7_colour 9 = .ok (.iconst 0, 1) := by decide +kernel
theorem dX7_colour_10 : decode cX7_colour 10 = .ok (.invokevirtual 114, 3) := by decide +kernel
theorem dX7_colour_13 : decode cX7_colour 13 = .ok (.ireturn, 1) := by decide +kernel
theorem dX7_colour_14 : decode cX7_colour 14 = .ok (.aload_n 0, 1) := by decide +kernel
theorem dX7_colour_15 : decode cX7_colour 15 = .ok (.iload_n 1, 1) := by decide +kernel
theorem dX7_colour_16 : decode cX7_colour 16 = .ok (.iconst 0, 1) := by decide +kernel
theorem dX7_colour_17 : decode cX7_colour 17 = .ok (.invokevirtual 80, 3) := by decide +kernel
theorem dX7_colour_20 : decode cX7_colour 20 = .ok (.istore_n 2, 1) := by decide +kernel
theorem dX7_colour_21 : decode cX7_colour 21 = .ok (.iconst (-1), 1) := by decide +kernel
theorem dX7_colour_22 : decode cX7_colour 22 = .ok (.istore_n 3, 1) := by decide +kernel
theorem dX7_colour_23 : decode cX7_colour 23 = .ok (.iconst 0, 1) := by decide +kernel
theorem dX7_colour_24 : decode cX7_colour 24 = .ok (.istore 4, 2) := by decide +kernel
theorem dX7_colour_26 : decode cX7_colour 26 = .ok (.iconst 0, 1) := by decide +kernel
theorem dX7_colour_27 : decode cX7_colour 27 = .ok (.istore 5, 2) := by decide +kernel
theorem dX7_colour_29 : decode cX7_colour 29 = .ok (.iload 5, 2) := by decide +kernel
theorem dX7_colour_31 : decode cX7_colour 31 = .ok (.iconst 4, 1) := by decide +kernel
theorem dX7_colour_32 : decode cX7_colour 32 = .ok (.if_icmp .ge 76, 3) := by decide +kernel
theorem dX7_colour_35 : decode cX7_colour 35 = .ok (.aload_n 0, 1) := by decide +kernel
theorem dX7_colour_36 : decode cX7_colour 36 = .ok (.iload_n 1, 1) := by decide +kernel
theorem dX7_colour_37 : decode cX7_colour 37 = .ok (.iconst 0, 1) := by decide +kernel
theorem dX7_colour_38 : decode cX7_colour 38 = .ok (.iload 5, 2) := by decide +kernel
theorem dX7_colour_40 : decode cX7_colour 40 = .ok (.invokevirtual 107, 3) := by decide +kernel
theorem dX7_colour_43 : decode cX7_colour 43 = .ok (.aload_n 0, 1) := by decide +kernel
theorem dX7_colour_44 : decode cX7_colour 44 = .ok (.iload_n 1, 1) := by decide +kernel
theorem dX7_colour_45 : decode cX7_colour 45 = .ok (.invokevirtual 161, 3) := by decide +kernel
theorem dX7_colour_48 : decode cX7_colour 48 = .ok (.istore 6, 2) := by decide +kernel
theorem dX7_colour_50 : decode cX7_colour 50 = .ok (.aload_n 0, 1) := by decide +kernel
theorem dX7_colour_51 : decode cX7_colour 51 = .ok (.iload_n 1, 1) := by decide +kernel
theorem dX7_colour_52 : decode cX7_colour 52 = .ok (.invokevirtual 104, 3) := by decide +kernel
theorem dX7_colour_55 : decode cX7_colour 55 = .ok (.ifCond .eq 18, 3) := by decide +kernel
theorem dX7_colour_58 : decode cX7_colour 58 = .ok (.iload_n 3, 1) := by decide +kernel
theorem dX7_colour_59 : decode cX7_colour 59 = .ok (.ifCond .lt 10, 3) := by decide +kernel
theorem dX7_colour_62 : decode cX7_colour 62 = .ok (.iload 6, 2) := by decide +kernel
theorem dX7_colour_64 : decode cX7_colour 64 = .ok (.iload 4, 2) := by decide +kernel
theorem dX7_colour_66 : decode cX7_colour 66 = .ok (.if_icmp .ge 7, 3) := by decide +kernel
theorem dX7_colour_69 : decode cX7_colour 69 = .ok (.iconst 1, 1) := by decide +kernel
theorem dX7_colour_70 : decode cX7_colour 70 = .ok (.goto 4, 3) := by decide +kernel
theorem dX7_colour_73 : decode cX7_colour 73 = .ok (.iconst 0, 1) := by decide +kernel
theorem dX7_colour_74 : decode cX7_colour 74 = .ok (.istore 7, 2) := by decide +kernel
theorem dX7_colour_76 : decode cX7_colour 76 = .ok (.iload 7, 2) := by decide +kernel
theorem dX7_colour_78 : decode cX7_colour 78 = .ok (.ifCond .eq 8, 3) := by decide +kernel
theorem dX7_colour_81 : decode cX7_colour 81 = .ok (.iload 5, 2) := by decide +kernel
theorem dX7_colour_83 : decode cX7_colour 83 = .ok (.goto 4, 3) := by decide +kernel
theorem dX7_colour_86 : decode cX7_colour 86 = .ok (.iload_n 3, 1) := by decide +kernel
theorem dX7_colour_87 : decode cX7_colour 87 = .ok (.istore_n 3, 1) := by decide +kernel
theorem dX7_colour_88 : decode cX7_colour 88 = .ok (.iload 7, 2) := by decide +kernel
theorem dX7_colour_90 : decode cX7_colour 90 = .ok (.ifCond .eq 8, 3) := by decide +kernel
theorem dX7_colour_93 : decode cX7_colour 93 = .ok (.iload 6, 2) := by decide +kernel
theorem dX7_colour_95 : decode cX7_colour 95 = .ok (.goto 5, 3) := by decide +kernel
theorem dX7_colour_98 : decode cX7_colour 98 = .ok (.iload 4, 2) := by decide +kernel
theorem dX7_colour_100 : decode cX7_colour 100 = .ok (.istore 4, 2) := by decide +kernel
theorem dX7_colour_102 : decode cX7_colour 102 = .ok (.iinc 5 1, 3) := by decide +kernel
theorem dX7_colour_105 : decode cX7_colour 105 = .ok (.goto (-76), 3) := by decide +kernel
theorem dX7_colour_108 : decode cX7_colour 108 = .ok (.aload_n 0, 1) := by decide +kernel
theorem dX7_colour_109 : decode cX7_colour 109 = .ok (.iload_n 1, 1) := by decide +kernel
theorem dX7_colour_110 : decode cX7_colour 110 = .ok (.iconst 0, 1) := by decide +kernel
theorem dX7_colour_111 : decode cX7_colour 111 = .ok (.iload_n 2, 1) := by decide +kernel
theorem dX7_colour_112 : decode cX7_colour 112 = .ok (.invokevirtual 107, 3) := by decide +kernel
theorem dX7_colour_115 : decode cX7_colour 115 = .ok (.iload_n 3, 1) := by decide +kernel
theorem dX7_colour_116 : decode cX7_colour 116 = .ok (.ifCond .ge 11, 3) := by decide +kernel
theorem dX7_colour_119 : decode cX7_colour 119 = .ok (.aload_n 0, 1) := by decide +kernel
theorem dX7_colour_120 : decode cX7_colour 120 = .ok (.iconst 3, 1) := by decide +kernel
theorem dX7_colour_121 : decode cX7_colour 121 = .ok (.invokevirtual 114, 3) := by decide +kernel
theorem dX7_colour_124 : decode cX7_colour 124 = .ok (.goto 4, 3) := by decide +kernel
theorem dX7_colour_127 : decode cX7_colour 127 = .ok (.iload_n 3, 1) := by decide +kernel
theorem dX7_colour_128 : decode cX7_colour 128 = .ok (.ireturn, 1) := by decide +kernel
theorem dX7_kindFor_0 : decode cX7_kindFor 0 = .ok (.aload_n 0, 1) := by decide +kernel
theorem dX7_kindFor_1 : decode cX7_kindFor 1 = .ok (.iload_n 1, 1) := by decide +kernel
theorem dX7_kindFor_2 : decode cX7_kindFor 2 = .ok (.invokevirtual 120, 3) := by decide +kernel
theorem dX7_kindFor_5 : decode cX7_kindFor 5 = .ok (.ifCond .ne 9, 3) := by decide +kernel
theorem dX7_kindFor_8 : decode cX7_kindFor 8 = .ok (.aload_n 0, 1) := by decide +kernel
theorem dX7_kindFor_9 : decode cX7_kindFor 9 = .ok (.iconst 0, 1) := by decide +kernel
theorem dX7_kindFor_10 : decode cX7_kindFor 10 = .ok (.invokevirtual 114, 3) := by decide +kernel
theorem dX7_kindFor_13 : decode cX7_kindFor 13 = .ok (.ireturn, 1) := by decide +kernel
theorem dX7_kindFor_14 : decode cX7_kindFor 14 = .ok (.aload_n 0, 1) := by decide +kernel
theorem dX7_kindFor_15 : decode cX7_kindFor 15 = .ok (.iload_n 1, 1) := by decide +kernel
theorem dX7_kindFor_16 : decode cX7_kindFor 16 = .ok (.iconst 0, 1) := by decide +kernel
theorem dX7_kindFor_17 : decode cX7_kindFor 17 = .ok (.invokevirtual 64, 3) := by decide +kernel
theorem dX7_kindFor_20 : decode cX7_kindFor 20 = .ok (.istore_n 2, 1) := by decide +kernel
theorem dX7_kindFor_21 : decode cX7_kindFor 21 = .ok (.iconst 0, 1) := by decide +kernel
theorem dX7_kindFor_22 : decode cX7_kindFor 22 = .ok (.istore_n 3, 1) := by decide +kernel
theorem dX7_kindFor_23 : decode cX7_kindFor 23 = .ok (.iconst (-1), 1) := by decide +kernel
theorem dX7_kindFor_24 : decode cX7_kindFor 24 = .ok (.istore 4, 2) := by decide +kernel
theorem dX7_kindFor_26 : decode cX7_kindFor 26 = .ok (.iconst 0, 1) := by decide +kernel
theorem dX7_kindFor_27 : decode cX7_kindFor 27 = .ok (.istore 5, 2) := by decide +kernel
theorem dX7_kindFor_29 : decode cX7_kindFor 29 = .ok (.iload 5, 2) := by decide +kernel
theorem dX7_kindFor_31 : decode cX7_kindFor 31 = .ok (.bipush 6, 2) := by decide +kernel
theorem dX7_kindFor_33 : decode cX7_kindFor 33 = .ok (.if_icmp .gt 89, 3) := by decide +kernel
theorem dX7_kindFor_36 : decode cX7_kindFor 36 = .ok (.aload_n 0, 1) := by decide +kernel
theorem dX7_kindFor_37 : decode cX7_kindFor 37 = .ok (.iload_n 1, 1) := by decide +kernel
theorem dX7_kindFor_38 : decode cX7_kindFor 38 = .ok (.iconst 0, 1) := by decide +kernel
theorem dX7_kindFor_39 : decode cX7_kindFor 39 = .ok (.iload 5, 2) := by decide +kernel
theorem dX7_kindFor_41 : decode cX7_kindFor 41 = .ok (.invokevirtual 100, 3) := by decide +kernel
theorem dX7_kindFor_44 : decode cX7_kindFor 44 = .ok (.iconst 0, 1) := by decide +kernel
theorem dX7_kindFor_45 : decode cX7_kindFor 45 = .ok (.istore 6, 2) := by decide +kernel
theorem dX7_kindFor_47 : decode cX7_kindFor 47 = .ok (.iconst 0, 1) := by decide +kernel
theorem dX7_kindFor_48 : decode cX7_kindFor 48 = .ok (.istore 7, 2) := by decide +kernel
theorem dX7_kindFor_50 : decode cX7_kindFor 50 = .ok (.iload 7, 2) := by decide +kernel
theorem dX7_kindFor_52 : decode cX7_kindFor 52 = .ok (.aload_n 0, 1) := by decide +kernel
theorem dX7_kindFor_53 : decode cX7_kindFor 53 = .ok (.getfield 9, 3) := by decide +kernel
theorem dX7_kindFor_56 : decode cX7_kindFor 56 = .ok (.iconst 2, 1) := by decide +kernel
theorem dX7_kindFor_57 : decode cX7_kindFor 57 = .ok (.iaload, 1) := by decide +kernel
theorem dX7_kindFor_58 : decode cX7_kindFor 58 = .ok (.if_icmp .ge 28, 3) := by decide +kernel
theorem dX7_kindFor_61 : decode cX7_kindFor 61 = .ok (.iload 6, 2) := by decide +kernel
theorem dX7_kindFor_63 : decode cX7_kindFor 63 = .ok (.aload_n 0, 1) := by decide +kernel
theorem dX7_kindFor_64 : decode cX7_kindFor 64 = .ok (.iload 7, 2) := by decide +kernel
theorem dX7_kindFor_66 : decode cX7_kindFor 66 = .ok (.invokevirtual 104, 3) := by decide +kernel
theorem dX7_kindFor_69 : decode cX7_kindFor 69 = .ok (.ifCond .eq 7, 3) := by decide +kernel
theorem dX7_kindFor_72 : decode cX7_kindFor 72 = .ok (.iconst 1, 1) := by decide +kernel
theorem dX7_kindFor_73 : decode cX7_kindFor 73 = .ok (.goto 4, 3) := by decide +kernel
theorem dX7_kindFor_76 : decode cX7_kindFor 76 = .ok (.iconst 0, 1) := by decide +kernel
theorem dX7_kindFor_77 : decode cX7_kindFor 77 = .ok (.iadd, 1) := by decide +kernel
theorem dX7_kindFor_78 : decode cX7_kindFor 78 = .ok (.istore 6, 2) := by decide +kernel
theorem dX7_kindFor_80 : decode cX7_kindFor 80 = .ok (.iinc 7 1, 3) := by decide +kernel
theorem dX7_kindFor_83 : decode cX7_kindFor 83 = .ok (.goto (-33), 3) := by decide +kernel
theorem dX7_kindFor_86 : decode cX7_kindFor 86 = .ok (.iload 6, 2) := by decide +kernel
theorem dX7_kindFor_88 : decode cX7_kindFor 88 = .ok (.iload 4, 2) := by decide +kernel
theorem dX7_kindFor_90 : decode cX7_kindFor 90 = .ok (.if_icmp .le 8, 3) := by decide +kernel
theorem dX7_kindFor_93 : decode cX7_kindFor 93 = .ok (.iload 5, 2) := by decide +kernel
theorem dX7_kindFor_95 : decode cX7_kindFor 95 = .ok (.goto 4, 3) := by decide +kernel
theorem dX7_kindFor_98 : decode cX7_kindFor 98 = .ok (.iload_n 3, 1) := by decide +kernel
theorem dX7_kindFor_99 : decode cX7_kindFor 99 = .ok (.istore_n 3, 1) := by decide +kernel
theorem dX7_kindFor_100 : decode cX7_kindFor 100 = .ok (.iload 6, 2) := by decide +kernel
theorem dX7_kindFor_102 : decode cX7_kindFor 102 = .ok (.iload 4, 2) := by decide +kernel
theorem dX7_kindFor_104 : decode cX7_kindFor 104 = .ok (.if_icmp .le 8, 3) := by decide +kernel
theorem dX7_kindFor_107 : decode cX7_kindFor 107 = .ok (.iload 6, 2) := by decide +kernel
theorem dX7_kindFor_109 : decode cX7_kindFor 109 = .ok (.goto 5, 3) := by decide +kernel
theorem dX7_kindFor_112 : decode cX7_kindFor 112 = .ok (.iload 4, 2) := by decide +kernel
theorem dX7_kindFor_114 : decode cX7_kindFor 114 = .ok (.istore 4, 2) := by decide +kernel
theorem dX7_kindFor_116 : decode cX7_kindFor 116 = .ok (.iinc 5 1, 3) := by decide +kernel
theorem dX7_kindFor_119 : decode cX7_kindFor 119 = .ok (.goto (-90), 3) := by decide +kernel
theorem dX7_kindFor_122 : decode cX7_kindFor 122 = .ok (.aload_n 0, 1) := by decide +kernel
theorem dX7_kindFor_123 : decode cX7_kindFor 123 = .ok (.iload_n 1, 1) := by decide +kernel
theorem dX7_kindFor_124 : decode cX7_kindFor 124 = .ok (.iconst 0, 1) := by decide +kernel
theorem dX7_kindFor_125 : decode cX7_kindFor 125 = .ok (.iload_n 2, 1) := by decide +kernel
theorem dX7_kindFor_126 : decode cX7_kindFor 126 = .ok (.invokevirtual 100, 3) := by decide +kernel
theorem dX7_kindFor_129 : decode cX7_kindFor 129 = .ok (.iload_n 3, 1) := by decide +kernel
theorem dX7_kindFor_130 : decode cX7_kindFor 130 = .ok (.ireturn, 1) := by decide +kernel
theorem dX7_quorum_0 : decode cX7_quorum 0 = .ok (.aload_n 0, 1) := by decide +kernel
theorem dX7_quorum_1 : decode cX7_quorum 1 = .ok (.iload_n 1, 1) := by decide +kernel
theorem dX7_quorum_2 : decode cX7_quorum 2 = .ok (.invokevirtual 126, 3) := by decide +kernel
theorem dX7_quorum_5 : decode cX7_quorum 5 = .ok (.ifCond .ne 9, 3) := by decide +kernel
theorem dX7_quorum_8 : decode cX7_quorum 8 = .ok (.aload_n 0, 1) := by decide +kernel
theorem dX7_quorum_9 : decode cX7_quorum 9 = .ok (.iconst 0, 1) := by decide +kernel
theorem dX7_quorum_10 : decode cX7_quorum 10 = .ok (.invokevirtual 114, 3) := by decide +kernel
theorem dX7_quorum_13 : decode cX7_quorum 13 = .ok (.ireturn, 1) := by decide +kernel
theorem dX7_quorum_14 : decode cX7_quorum 14 = .ok (.aload_n 0, 1) := by decide +kernel
theorem dX7_quorum_15 : decode cX7_quorum 15 = .ok (.iload_n 1, 1) := by decide +kernel
theorem dX7_quorum_16 : decode cX7_quorum 16 = .ok (.iconst 2, 1) := by decide +kernel
theorem dX7_quorum_17 : decode cX7_quorum 17 = .ok (.invokevirtual 80, 3) := by decide +kernel
theorem dX7_quorum_20 : decode cX7_quorum 20 = .ok (.istore_n 2, 1) := by decide +kernel
theorem dX7_quorum_21 : decode cX7_quorum 21 = .ok (.aload_n 0, 1) := by decide +kernel
theorem dX7_quorum_22 : decode cX7_quorum 22 = .ok (.iload_n 1, 1) := by decide +kernel
theorem dX7_quorum_23 : decode cX7_quorum 23 = .ok (.iload_n 2, 1) := by decide +kernel
theorem dX7_quorum_24 : decode cX7_quorum 24 = .ok (.iconst 1, 1) := by decide +kernel
theorem dX7_quorum_25 : decode cX7_quorum 25 = .ok (.invokevirtual 93, 3) := by decide +kernel
theorem dX7_quorum_28 : decode cX7_quorum 28 = .ok (.aload_n 0, 1) := by decide +kernel
theorem dX7_quorum_29 : decode cX7_quorum 29 = .ok (.iload_n 1, 1) := by decide +kernel
theorem dX7_quorum_30 : decode cX7_quorum 30 = .ok (.iload_n 2, 1) := by decide +kernel
theorem dX7_quorum_31 : decode cX7_quorum 31 = .ok (.iconst 0, 1) := by decide +kernel
theorem dX7_quorum_32 : decode cX7_quorum 32 = .ok (.invokevirtual 93, 3) := by decide +kernel
theorem dX7_quorum_35 : decode cX7_quorum 35 = .ok (.if_icmp .le 7, 3) := by decide +kernel
theorem dX7_quorum_38 : decode cX7_quorum 38 = .ok (.iconst 1, 1) := by decide +kernel
theorem dX7_quorum_39 : decode cX7_quorum 39 = .ok (.goto 4, 3) := by decide +kernel
theorem dX7_quorum_42 : decode cX7_quorum 42 = .ok (.iconst 0, 1) := by decide +kernel
theorem dX7_quorum_43 : decode cX7_quorum 43 = .ok (.istore_n 3, 1) := by decide +kernel
theorem dX7_quorum_44 : decode cX7_quorum 44 = .ok (.iload_n 3, 1) := by decide +kernel
theorem dX7_quorum_45 : decode cX7_quorum 45 = .ok (.ifCond .eq 16, 3) := by decide +kernel
theorem dX7_quorum_48 : decode cX7_quorum 48 = .ok (.bipush 99, 2) := by decide +kernel
theorem dX7_quorum_50 : decode cX7_quorum 50 = .ok (.aload_n 0, 1) := by decide +kernel
theorem dX7_quorum_51 : decode cX7_quorum 51 = .ok (.iload_n 1, 1) := by decide +kernel
theorem dX7_quorum_52 : decode cX7_quorum 52 = .ok (.invokevirtual 161, 3) := by decide +kernel
theorem dX7_quorum_55 : decode cX7_quorum 55 = .ok (.invokestatic 86, 3) := by decide +kernel
theorem dX7_quorum_58 : decode cX7_quorum 58 = .ok (.goto 8, 3) := by decide +kernel
theorem dX7_quorum_61 : decode cX7_quorum 61 = .ok (.aload_n 0, 1) := by decide +kernel
theorem dX7_quorum_62 : decode cX7_quorum 62 = .ok (.iconst 3, 1) := by decide +kernel
theorem dX7_quorum_63 : decode cX7_quorum 63 = .ok (.invokevirtual 114, 3) := by decide +kernel
theorem dX7_quorum_66 : decode cX7_quorum 66 = .ok (.ireturn, 1) := by decide +kernel
theorem dX7_isSet_0 : decode cX7_isSet 0 = .ok (.iload_n 1, 1) := by decide +kernel
theorem dX7_isSet_1 : decode cX7_isSet 1 = .ok (.iconst 0, 1) := by decide +kernel
theorem dX7_isSet_2 : decode cX7_isSet 2 = .ok (.iconst 1, 1) := by decide +kernel
theorem dX7_isSet_3 : decode cX7_isSet 3 = .ok (.aload_n 0, 1) := by decide +kernel
theorem dX7_isSet_4 : decode cX7_isSet 4 = .ok (.getfield 9, 3) := by decide +kernel
theorem dX7_isSet_7 : decode cX7_isSet 7 = .ok (.iconst 2, 1) := by decide +kernel
theorem dX7_isSet_8 : decode cX7_isSet 8 = .ok (.iaload, 1) := by decide +kernel
theorem dX7_isSet_9 : decode cX7_isSet 9 = .ok (.ishl, 1) := by decide +kernel
theorem dX7_isSet_10 : decode cX7_isSet 10 = .ok (.iconst 1, 1) := by decide +kernel
theorem dX7_isSet_11 : decode cX7_isSet 11 = .ok (.isub, 1) := by decide +kernel
theorem dX7_isSet_12 : decode cX7_isSet 12 = .ok (.invokestatic 60, 3) := by decide +kernel
theorem dX7_isSet_15 : decode cX7_isSet 15 = .ok (.ifCond .eq 15, 3) := by decide +kernel
theorem dX7_isSet_18 : decode cX7_isSet 18 = .ok (.iload_n 1, 1) := by decide +kernel
theorem dX7_isSet_19 : decode cX7_isSet 19 = .ok (.invokestatic 158, 3) := by decide +kernel
theorem dX7_isSet_22 : decode cX7_isSet 22 = .ok (.iconst 5, 1) := by decide +kernel
theorem dX7_isSet_23 : decode cX7_isSet 23 = .ok (.if_icmp .gt 7, 3) := by decide +kernel
theorem dX7_isSet_26 : decode cX7_isSet 26 = .ok (.iconst 1, 1) := by decide +kernel
theorem dX7_isSet_27 : decode cX7_isSet 27 = .ok (.goto 4, 3) := by decide +kernel
theorem dX7_isSet_30 : decode cX7_isSet 30 = .ok (.iconst 0, 1) := by decide +kernel
theorem dX7_isSet_31 : decode cX7_isSet 31 = .ok (.ireturn, 1) := by decide +kernel
theorem dX7_laysOrder_0 : decode cX7_laysOrder 0 = .ok (.iconst 0, 1) := by decide +kernel
theorem dX7_laysOrder_1 : decode cX7_laysOrder 1 = .ok (.istore_n 2, 1) := by decide +kernel
theorem dX7_laysOrder_2 : decode cX7_laysOrder 2 = .ok (.iconst 0, 1) := by decide +kernel
theorem dX7_laysOrder_3 : decode cX7_laysOrder 3 = .ok (.istore_n 3, 1) := by decide +kernel
theorem dX7_laysOrder_4 : decode cX7_laysOrder 4 = .ok (.iload_n 3, 1) := by decide +kernel
theorem dX7_laysOrder_5 : decode cX7_laysOrder 5 = .ok (.aload_n 0, 1) := by decide +kernel
theorem dX7_laysOrder_6 : decode cX7_laysOrder 6 = .ok (.getfield 9, 3) := by decide +kernel
theorem dX7_laysOrder_9 : decode cX7_laysOrder 9 = .ok (.iconst 2, 1) := by decide +kernel
theorem dX7_laysOrder_10 : decode cX7_laysOrder 10 = .ok (.iaload, 1) := by decide +kernel
theorem dX7_laysOrder_11 : decode cX7_laysOrder 11 = .ok (.if_icmp .ge 27, 3) := by decide +kernel
theorem dX7_laysOrder_14 : decode cX7_laysOrder 14 = .ok (.iload_n 1, 1) := by decide +kernel
theorem dX7_laysOrder_15 : decode cX7_laysOrder 15 = .ok (.iload_n 3, 1) := by decide +kernel
theorem dX7_laysOrder_16 : decode cX7_laysOrder 16 = .ok (.invokestatic 76, 3) := by decide +kernel
theorem dX7_laysOrder_19 : decode cX7_laysOrder 19 = .ok (.ifCond .eq 13, 3) := by decide +kernel
theorem dX7_laysOrder_22 : decode cX7_laysOrder 22 = .ok (.aload_n 0, 1) := by decide +kernel
theorem dX7_laysOrder_23 : decode cX7_laysOrder 23 = .ok (.getfield 25, 3) := by decide +kernel
theorem dX7_laysOrder_26 : decode cX7_laysOrder 26 = .ok (.iload_n 2, 1) := by decide +kernel
theorem dX7_laysOrder_27 : decode cX7_laysOrder 27 = .ok (.iload_n 3, 1) := by decide +kernel
theorem dX7_laysOrder_28 : decode cX7_laysOrder 28 = .ok (.iastore, 1) := by decide +kernel
theorem dX7_laysOrder_29 : decode cX7_laysOrder 29 = .ok (.iinc 2 1, 3) := by decide +kernel
theorem dX7_laysOrder_32 : decode cX7_laysOrder 32 = .ok (.iinc 3 1, 3) := by decide +kernel
theorem dX7_laysOrder_35 : decode cX7_laysOrder 35 = .ok (.goto (-31), 3) := by decide +kernel
theorem dX7_laysOrder_38 : decode cX7_laysOrder 38 = .ok (.iload_n 2, 1) := by decide +kernel
theorem dX7_laysOrder_39 : decode cX7_laysOrder 39 = .ok (.ireturn, 1) := by decide +kernel
theorem dX7_nextOrder_0 : decode cX7_nextOrder 0 = .ok (.iload_n 1, 1) := by decide +kernel
theorem dX7_nextOrder_1 : decode cX7_nextOrder 1 = .ok (.iconst 2, 1) := by decide +kernel
theorem dX7_nextOrder_2 : decode cX7_nextOrder 2 = .ok (.isub, 1) := by decide +kernel
theorem dX7_nextOrder_3 : decode cX7_nextOrder 3 = .ok (.istore_n 2, 1) := by decide +kernel
theorem dX7_nextOrder_4 : decode cX7_nextOrder 4 = .ok (.iload_n 2, 1) := by decide +kernel
theorem dX7_nextOrder_5 : decode cX7_nextOrder 5 = .ok (.ifCond .lt 26, 3) := by decide +kernel
theorem dX7_nextOrder_8 : decode cX7_nextOrder 8 = .ok (.aload_n 0, 1) := by decide +kernel
theorem dX7_nextOrder_9 : decode cX7_nextOrder 9 = .ok (.getfield 25, 3) := by decide +kernel
theorem dX7_nextOrder_12 : decode cX7_nextOrder 12 = .ok (.iload_n 2, 1) := by decide +kernel
theorem dX7_nextOrder_13 : decode cX7_nextOrder 13 = .ok (.iaload, 1) := by decide +kernel
theorem dX7_nextOrder_14 : decode cX7_nextOrder 14 = .ok (.aload_n 0, 1) := by decide +kernel
theorem dX7_nextOrder_15 : decode cX7_nextOrder 15 = .ok (.getfield 25, 3) := by decide +kernel
theorem dX7_nextOrder_18 : decode cX7_nextOrder 18 = .ok (.iload_n 2, 1) := by decide +kernel
theorem dX7_nextOrder_19 : decode cX7_nextOrder 19 = .ok (.iconst 1, 1) := by decide +kernel
theorem dX7_nextOrder_20 : decode cX7_nextOrder 20 = .ok (.iadd, 1) := by decide +kernel
theorem dX7_nextOrder_21 : decode cX7_nextOrder 21 = .ok (.iaload, 1) := by decide +kernel
theorem dX7_nextOrder_22 : decode cX7_nextOrder 22 = .ok (.if_icmp .le 9, 3) := by decide +kernel
theorem dX7_nextOrder_25 : decode cX7_nextOrder 25 = .ok (.iinc 2 (-1), 3) := by decide +kernel
theorem dX7_nextOrder_28 : decode cX7_nextOrder 28 = .ok (.goto (-24), 3) := by decide +kernel
theorem dX7_nextOrder_31 : decode cX7_nextOrder 31 = .ok (.iload_n 2, 1) := by decide +kernel
theorem dX7_nextOrder_32 : decode cX7_nextOrder 32 = .ok (.ifCond .ge 5, 3) := by decide +kernel
theorem dX7_nextOrder_35 : decode cX7_nextOrder 35 = .ok (.iconst 0, 1) := by decide +kernel
theorem dX7_nextOrder_36 : decode cX7_nextOrder 36 = .ok (.ireturn, 1) := by decide +kernel
theorem dX7_nextOrder_37 : decode cX7_nextOrder 37 = .ok (.iload_n 1, 1) := by decide +kernel
theorem dX7_nextOrder_38 : decode cX7_nextOrder 38 = .ok (.iconst 1, 1) := by decide +kernel
theorem dX7_nextOrder_39 : decode cX7_nextOrder 39 = .ok (.isub, 1) := by decide +kernel
theorem dX7_nextOrder_40 : decode cX7_nextOrder 40 = .ok (.istore_n 3, 1) := by decide +kernel
theorem dX7_nextOrder_41 : decode cX7_nextOrder 41 = .ok (.aload_n 0, 1) := by decide +kernel
theorem dX7_nextOrder_42 : decode cX7_nextOrder 42 = .ok (.getfield 25, 3) := by decide +kernel
theorem dX7_nextOrder_45 : decode cX7_nextOrder 45 = .ok (.iload_n 3, 1) := by decide +kernel
theorem dX7_nextOrder_46 : decode cX7_nextOrder 46 = .ok (.iaload, 1) := by decide +kernel
theorem dX7_nextOrder_47 : decode cX7_nextOrder 47 = .ok (.aload_n 0, 1) := by decide +kernel
theorem dX7_nextOrder_48 : decode cX7_nextOrder 48 = .ok (.getfield 25, 3) := by decide +kernel
theorem dX7_nextOrder_51 : decode cX7_nextOrder 51 = .ok (.iload_n 2, 1) := by decide +kernel
theorem dX7_nextOrder_52 : decode cX7_nextOrder 52 = .ok (.iaload, 1) := by decide +kernel
theorem dX7_nextOrder_53 : decode cX7_nextOrder 53 = .ok (.if_icmp .ge 9, 3) := by decide +kernel
theorem dX7_nextOrder_56 : decode cX7_nextOrder 56 = .ok (.iinc 3 (-1), 3) := by decide +kernel
theorem dX7_nextOrder_59 : decode cX7_nextOrder 59 = .ok (.goto (-18), 3) := by decide +kernel
theorem dX7_nextOrder_62 : decode cX7_nextOrder 62 = .ok (.aload_n 0, 1) := by decide +kernel
theorem dX7_nextOrder_63 : decode cX7_nextOrder 63 = .ok (.iload_n 2, 1) := by decide +kernel
theorem dX7_nextOrder_64 : decode cX7_nextOrder 64 = .ok (.iload_n 3, 1) := by decide +kernel
theorem dX7_nextOrder_65 : decode cX7_nextOrder 65 = .ok (.invokevirtual 164, 3) := by decide +kernel
theorem dX7_nextOrder_68 : decode cX7_nextOrder 68 = .ok (.iload_n 2, 1) := by decide +kernel
theorem dX7_nextOrder_69 : decode cX7_nextOrder 69 = .ok (.iconst 1, 1) := by decide +kernel
theorem dX7_nextOrder_70 : decode cX7_nextOrder 70 = .ok (.iadd, 1) := by decide +kernel
theorem dX7_nextOrder_71 : decode cX7_nextOrder 71 = .ok (.istore 4, 2) := by decide +kernel
theorem dX7_nextOrder_73 : decode cX7_nextOrder 73 = .ok (.iload_n 1, 1) := by decide +kernel
theorem dX7_nextOrder_74 : decode cX7_nextOrder 74 = .ok (.iconst 1, 1) := by decide +kernel
theorem dX7_nextOrder_75 : decode cX7_nextOrder 75 = .ok (.isub, 1) := by decide +kernel
theorem dX7_nextOrder_76 : decode cX7_nextOrder 76 = .ok (.istore 5, 2) := by decide +kernel
theorem dX7_nextOrder_78 : decode cX7_nextOrder 78 = .ok (.iload 4, 2) := by decide +kernel
theorem dX7_nextOrder_80 : decode cX7_nextOrder 80 = .ok (.iload 5, 2) := by decide +kernel
theorem dX7_nextOrder_82 : decode cX7_nextOrder 82 = .ok (.if_icmp .ge 20, 3) := by decide +kernel
theorem dX7_nextOrder_85 : decode cX7_nextOrder 85 = .ok (.aload_n 0, 1) := by decide +kernel
theorem dX7_nextOrder_86 : decode cX7_nextOrder 86 = .ok (.iload 4, 2) := by decide +kernel
theorem dX7_nextOrder_88 : decode cX7_nextOrder 88 = .ok (.iload 5, 2) := by decide +kernel
theorem dX7_nextOrder_90 : decode cX7_nextOrder 90 = .ok (.invokevirtual 164, 3) := by decide +kernel
theorem dX7_nextOrder_93 : decode cX7_nextOrder 93 = .ok (.iinc 4 1, 3) := by decide +kernel
theorem dX7_nextOrder_96 : decode cX7_nextOrder 96 = .ok (.iinc 5 (-1), 3) := by decide +kernel
theorem dX7_nextOrder_99 : decode cX7_nextOrder 99 = .ok (.goto (-21), 3) := by decide +kernel
theorem dX7_nextOrder_102 : decode cX7_nextOrder 102 = .ok (.iconst 1, 1) := by decide +kernel
theorem dX7_nextOrder_103 : decode cX7_nextOrder 103 = .ok (.ireturn, 1) := by decide +kernel
theorem dX7_swaps_0 : decode cX7_swaps 0 = .ok (.aload_n 0, 1) := by decide +kernel
theorem dX7_swaps_1 : decode cX7_swaps 1 = .ok (.getfield 25, 3) := by decide +kernel
theorem dX7_swaps_4 : decode cX7_swaps 4 = .ok (.iload_n 1, 1) := by decide +kernel
theorem dX7_swaps_5 : decode cX7_swaps 5 = .ok (.iaload, 1) := by decide +kernel
theorem dX7_swaps_6 : decode cX7_swaps 6 = .ok (.istore_n 3, 1) := by decide +kernel
theorem dX7_swaps_7 : decode cX7_swaps 7 = .ok (.aload_n 0, 1) := by decide +kernel
theorem dX7_swaps_8 : decode cX7_swaps 8 = .ok (.getfield 25, 3) := by decide +kernel
theorem dX7_swaps_11 : decode cX7_swaps 11 = .ok (.iload_n 1, 1) := by decide +kernel
theorem dX7_swaps_12 : decode cX7_swaps 12 = .ok (.aload_n 0, 1) := by decide +kernel
theorem dX7_swaps_13 : decode cX7_swaps 13 = .ok (.getfield 25, 3) := by decide +kernel
theorem dX7_swaps_16 : decode cX7_swaps 16 = .ok (.iload_n 2, 1) := by decide +kernel
theorem dX7_swaps_17 : decode cX7_swaps 17 = .ok (.iaload, 1) := by decide +kernel
theorem dX7_swaps_18 : decode cX7_swaps 18 = .ok (.iastore, 1) := by decide +kernel
theorem dX7_swaps_19 : decode cX7_swaps 19 = .ok (.aload_n 0, 1) := by decide +kernel
theorem dX7_swaps_20 : decode cX7_swaps 20 = .ok (.getfield 25, 3) := by decide +kernel
theorem dX7_swaps_23 : decode cX7_swaps 23 = .ok (.iload_n 2, 1) := by decide +kernel
theorem dX7_swaps_24 : decode cX7_swaps 24 = .ok (.iload_n 3, 1) := by decide +kernel
theorem dX7_swaps_25 : decode cX7_swaps 25 = .ok (.iastore, 1) := by decide +kernel
theorem dX7_swaps_26 : decode cX7_swaps 26 = .ok (.return_, 1) := by decide +kernel
theorem dX7_findsOrder_0 : decode cX7_findsOrder 0 = .ok (.aload_n 0, 1) := by decide +kernel
theorem dX7_findsOrder_1 : decode cX7_findsOrder 1 = .ok (.invokevirtual 152, 3) := by decide +kernel
theorem dX7_findsOrder_4 : decode cX7_findsOrder 4 = .ok (.aload_n 0, 1) := by decide +kernel
theorem dX7_findsOrder_5 : decode cX7_findsOrder 5 = .ok (.iconst (-1), 1) := by decide +kernel
theorem dX7_findsOrder_6 : decode cX7_findsOrder 6 = .ok (.putfield 168, 3) := by decide +kernel
theorem dX7_findsOrder_9 : decode cX7_findsOrder 9 = .ok (.aload_n 0, 1) := by decide +kernel
theorem dX7_findsOrder_10 : decode cX7_findsOrder 10 = .ok (.iconst 0, 1) := by decide +kernel
theorem dX7_findsOrder_11 : decode cX7_findsOrder 11 = .ok (.putfield 172, 3) := by decide +kernel
theorem dX7_findsOrder_14 : decode cX7_findsOrder 14 = .ok (.aload_n 0, 1) := by decide +kernel
theorem dX7_findsOrder_15 : decode cX7_findsOrder 15 = .ok (.iload_n 1, 1) := by decide +kernel
theorem dX7_findsOrder_16 : decode cX7_findsOrder 16 = .ok (.invokevirtual 175, 3) := by decide +kernel
theorem dX7_findsOrder_19 : decode cX7_findsOrder 19 = .ok (.istore_n 2, 1) := by decide +kernel
theorem dX7_findsOrder_20 : decode cX7_findsOrder 20 = .ok (.iconst 1, 1) := by decide +kernel
theorem dX7_findsOrder_21 : decode cX7_findsOrder 21 = .ok (.istore_n 3, 1) := by decide +kernel
theorem dX7_findsOrder_22 : decode cX7_findsOrder 22 = .ok (.iload_n 3, 1) := by decide +kernel
theorem dX7_findsOrder_23 : decode cX7_findsOrder 23 = .ok (.ifCond .eq 138, 3) := by decide +kernel
theorem dX7_findsOrder_26 : decode cX7_findsOrder 26 = .ok (.iconst 0, 1) := by decide +kernel
theorem dX7_findsOrder_27 : decode cX7_findsOrder 27 = .ok (.istore 4, 2) := by decide +kernel
theorem dX7_findsOrder_29 : decode cX7_findsOrder 29 = .ok (.iconst 0, 1) := by decide +kernel
theorem dX7_findsOrder_30 : decode cX7_findsOrder 30 = .ok (.istore 5, 2) := by decide +kernel
theorem dX7_findsOrder_32 : decode cX7_findsOrder 32 = .ok (.iload 5, 2) := by decide +kernel
theorem dX7_findsOrder_34 : decode cX7_findsOrder 34 = .ok (.iload_n 2, 1) := by decide +kernel
theorem dX7_findsOrder_35 : decode cX7_findsOrder 35 = .ok (.if_icmp .ge 33, 3) := by decide +kernel
theorem dX7_findsOrder_38 : decode cX7_findsOrder 38 = .ok (.iload 4, 2) := by decide +kernel
theorem dX7_findsOrder_40 : decode cX7_findsOrder 40 = .ok (.aload_n 0, 1) := by decide +kernel
theorem dX7_findsOrder_41 : decode cX7_findsOrder 41 = .ok (.aload_n 0, 1) := by decide +kernel
theorem dX7_findsOrder_42 : decode cX7_findsOrder 42 = .ok (.getfield 25, 3) := by decide +kernel
theorem dX7_findsOrder_45 : decode cX7_findsOrder 45 = .ok (.iload 5, 2) := by decide +kernel
theorem dX7_findsOrder_47 : decode cX7_findsOrder 47 = .ok (.iaload, 1) := by decide +kernel
theorem dX7_findsOrder_48 : decode cX7_findsOrder 48 = .ok (.invokevirtual 136, 3) := by decide +kernel
theorem dX7_findsOrder_51 : decode cX7_findsOrder 51 = .ok (.ifCond .eq 7, 3) := by decide +kernel
theorem dX7_findsOrder_54 : decode cX7_findsOrder 54 = .ok (.iconst 1, 1) := by decide +kernel
theorem dX7_findsOrder_55 : decode cX7_findsOrder 55 = .ok (.goto 4, 3) := by decide +kernel
theorem dX7_findsOrder_58 : decode cX7_findsOrder 58 = .ok (.iconst 0, 1) := by decide +kernel
theorem dX7_findsOrder_59 : decode cX7_findsOrder 59 = .ok (.iadd, 1) := by decide +kernel
theorem dX7_findsOrder_60 : decode cX7_findsOrder 60 = .ok (.istore 4, 2) := by decide +kernel
theorem dX7_findsOrder_62 : decode cX7_findsOrder 62 = .ok (.iinc 5 1, 3) := by decide +kernel
theorem dX7_findsOrder_65 : decode cX7_findsOrder 65 = .ok (.goto (-33), 3) := by decide +kernel
theorem dX7_findsOrder_68 : decode cX7_findsOrder 68 = .ok (.iload 4, 2) := by decide +kernel
theorem dX7_findsOrder_70 : decode cX7_findsOrder 70 = .ok (.aload_n 0, 1) := by decide +kernel
theorem dX7_findsOrder_71 : decode cX7_findsOrder 71 = .ok (.getfield 168, 3) := by decide +kernel
theorem dX7_findsOrder_74 : decode cX7_findsOrder 74 = .ok (.if_icmp .le 51, 3) := by decide +kernel
theorem dX7_findsOrder_77 : decode cX7_findsOrder 77 = .ok (.aload_n 0, 1) := by decide +kernel
theorem dX7_findsOrder_78 : decode cX7_findsOrder 78 = .ok (.iload 4, 2) := by decide +kernel
theorem dX7_findsOrder_80 : decode cX7_findsOrder 80 = .ok (.putfield 168, 3) := by decide +kernel
theorem dX7_findsOrder_83 : decode cX7_findsOrder 83 = .ok (.aload_n 0, 1) := by decide +kernel
theorem dX7_findsOrder_84 : decode cX7_findsOrder 84 = .ok (.iconst 0, 1) := by decide +kernel
theorem dX7_findsOrder_85 : decode cX7_findsOrder 85 = .ok (.putfield 172, 3) := by decide +kernel
theorem dX7_findsOrder_88 : decode cX7_findsOrder 88 = .ok (.aload_n 0, 1) := by decide +kernel
theorem dX7_findsOrder_89 : decode cX7_findsOrder 89 = .ok (.aload_n 0, 1) := by decide +kernel
theorem dX7_findsOrder_90 : decode cX7_findsOrder 90 = .ok (.invokevirtual 143, 3) := by decide +kernel
theorem dX7_findsOrder_93 : decode cX7_findsOrder 93 = .ok (.putfield 178, 3) := by decide +kernel
theorem dX7_findsOrder_96 : decode cX7_findsOrder 96 = .ok (.iconst 0, 1) := by decide +kernel
theorem dX7_findsOrder_97 : decode cX7_findsOrder 97 = .ok (.istore 5, 2) := by decide +kernel
theorem dX7_findsOrder_99 : decode cX7_findsOrder 99 = .ok (.iload 5, 2) := by decide +kernel
theorem dX7_findsOrder_101 : decode cX7_findsOrder 101 = .ok (.iload_n 2, 1) := by decide +kernel
theorem dX7_findsOrder_102 : decode cX7_findsOrder 102 = .ok (.if_icmp .ge 23, 3) := by decide +kernel
theorem dX7_findsOrder_105 : decode cX7_findsOrder 105 = .ok (.aload_n 0, 1) := by decide +kernel
theorem dX7_findsOrder_106 : decode cX7_findsOrder 106 = .ok (.getfield 28, 3) := by decide +kernel
theorem dX7_findsOrder_109 : decode cX7_findsOrder 109 = .ok (.iload 5, 2) := by decide +kernel
theorem dX7_findsOrder_111 : decode cX7_findsOrder 111 = .ok (.aload_n 0, 1) := by decide +kernel
theorem dX7_findsOrder_112 : decode cX7_findsOrder 112 = .ok (.getfield 25, 3) := by decide +kernel
theorem dX7_findsOrder_115 : decode cX7_findsOrder 115 = .ok (.iload 5, 2) := by decide +kernel
theorem dX7_findsOrder_117 : decode cX7_findsOrder 117 = .ok (.iaload, 1) := by decide +kernel
theorem dX7_findsOrder_118 : decode cX7_findsOrder 118 = .ok (.iastore, 1) := by decide +kernel
theorem dX7_findsOrder_119 : decode cX7_findsOrder 119 = .ok (.iinc 5 1, 3) := by decide +kernel
theorem dX7_findsOrder_122 : decode cX7_findsOrder 122 = .ok (.goto (-23), 3) := by decide +kernel
theorem dX7_findsOrder_125 : decode cX7_findsOrder 125 = .ok (.aload_n 0, 1) := by decide +kernel
theorem dX7_findsOrder_126 : decode cX7_findsOrder 126 = .ok (.dup, 1) := by decide +kernel
theorem dX7_findsOrder_127 : decode cX7_findsOrder 127 = .ok (.getfield 172, 3) := by decide +kernel
theorem dX7_findsOrder_130 : decode cX7_findsOrder 130 = .ok (.iload 4, 2) := by decide +kernel
theorem dX7_findsOrder_132 : decode cX7_findsOrder 132 = .ok (.aload_n 0, 1) := by decide +kernel
theorem dX7_findsOrder_133 : decode cX7_findsOrder 133 = .ok (.getfield 168, 3) := by decide +kernel
theorem dX7_findsOrder_136 : decode cX7_findsOrder 136 = .ok (.if_icmp .ne 7, 3) := by decide +kernel
theorem dX7_findsOrder_139 : decode cX7_findsOrder 139 = .ok (.iconst 1, 1) := by decide +kernel
theorem dX7_findsOrder_140 : decode cX7_findsOrder 140 = .ok (.goto 4, 3) := by decide +kernel
theorem dX7_findsOrder_143 : decode cX7_findsOrder 143 = .ok (.iconst 0, 1) := by decide +kernel
theorem dX7_findsOrder_144 : decode cX7_findsOrder 144 = .ok (.iadd, 1) := by decide +kernel
theorem dX7_findsOrder_145 : decode cX7_findsOrder 145 = .ok (.putfield 172, 3) := by decide +kernel
theorem dX7_findsOrder_148 : decode cX7_findsOrder 148 = .ok (.aload_n 0, 1) := by decide +kernel
theorem dX7_findsOrder_149 : decode cX7_findsOrder 149 = .ok (.invokevirtual 155, 3) := by decide +kernel
theorem dX7_findsOrder_152 : decode cX7_findsOrder 152 = .ok (.aload_n 0, 1) := by decide +kernel
theorem dX7_findsOrder_153 : decode cX7_findsOrder 153 = .ok (.iload_n 2, 1) := by decide +kernel
theorem dX7_findsOrder_154 : decode cX7_findsOrder 154 = .ok (.invokevirtual 181, 3) := by decide +kernel
theorem dX7_findsOrder_157 : decode cX7_findsOrder 157 = .ok (.istore_n 3, 1) := by decide +kernel
theorem dX7_findsOrder_158 : decode cX7_findsOrder 158 = .ok (.goto (-136), 3) := by decide +kernel
theorem dX7_findsOrder_161 : decode cX7_findsOrder 161 = .ok (.return_, 1) := by decide +kernel
theorem dX7_agenda_0 : decode cX7_agenda 0 = .ok (.aload_n 0, 1) := by decide +kernel
theorem dX7_agenda_1 : decode cX7_agenda 1 = .ok (.iload_n 1, 1) := by decide +kernel
theorem dX7_agenda_2 : decode cX7_agenda 2 = .ok (.invokevirtual 184, 3) := by decide +kernel
theorem dX7_agenda_5 : decode cX7_agenda 5 = .ok (.ifCond .ne 9, 3) := by decide +kernel
theorem dX7_agenda_8 : decode cX7_agenda 8 = .ok (.aload_n 0, 1) := by decide +kernel
theorem dX7_agenda_9 : decode cX7_agenda 9 = .ok (.iconst 0, 1) := by decide +kernel
theorem dX7_agenda_10 : decode cX7_agenda 10 = .ok (.invokevirtual 114, 3) := by decide +kernel
theorem dX7_agenda_13 : decode cX7_agenda 13 = .ok (.ireturn, 1) := by decide +kernel
theorem dX7_agenda_14 : decode cX7_agenda 14 = .ok (.aload_n 0, 1) := by decide +kernel
theorem dX7_agenda_15 : decode cX7_agenda 15 = .ok (.iload_n 1, 1) := by decide +kernel
theorem dX7_agenda_16 : decode cX7_agenda 16 = .ok (.invokevirtual 187, 3) := by decide +kernel
theorem dX7_agenda_19 : decode cX7_agenda 19 = .ok (.aload_n 0, 1) := by decide +kernel
theorem dX7_agenda_20 : decode cX7_agenda 20 = .ok (.getfield 168, 3) := by decide +kernel
theorem dX7_agenda_23 : decode cX7_agenda 23 = .ok (.ireturn, 1) := by decide +kernel
theorem dX7_ith_0 : decode cX7_ith 0 = .ok (.aload_n 0, 1) := by decide +kernel
theorem dX7_ith_1 : decode cX7_ith 1 = .ok (.iload_n 1, 1) := by decide +kernel
theorem dX7_ith_2 : decode cX7_ith 2 = .ok (.invokevirtual 184, 3) := by decide +kernel
theorem dX7_ith_5 : decode cX7_ith 5 = .ok (.ifCond .eq 17, 3) := by decide +kernel
theorem dX7_ith_8 : decode cX7_ith 8 = .ok (.iload_n 2, 1) := by decide +kernel
theorem dX7_ith_9 : decode cX7_ith 9 = .ok (.iconst 0, 1) := by decide +kernel
theorem dX7_ith_10 : decode cX7_ith 10 = .ok (.iload_n 1, 1) := by decide +kernel
theorem dX7_ith_11 : decode cX7_ith 11 = .ok (.invokestatic 158, 3) := by decide +kernel
theorem dX7_ith_14 : decode cX7_ith 14 = .ok (.iconst 1, 1) := by decide +kernel
theorem dX7_ith_15 : decode cX7_ith 15 = .ok (.isub, 1) := by decide +kernel
theorem dX7_ith_16 : decode cX7_ith 16 = .ok (.invokestatic 60, 3) := by decide +kernel
theorem dX7_ith_19 : decode cX7_ith 19 = .ok (.ifCond .ne 9, 3) := by decide +kernel
theorem dX7_ith_22 : decode cX7_ith 22 = .ok (.aload_n 0, 1) := by decide +kernel
theorem dX7_ith_23 : decode cX7_ith 23 = .ok (.iconst 0, 1) := by decide +kernel
theorem dX7_ith_24 : decode cX7_ith 24 = .ok (.invokevirtual 114, 3) := by decide +kernel
theorem dX7_ith_27 : decode cX7_ith 27 = .ok (.ireturn, 1) := by decide +kernel
theorem dX7_ith_28 : decode cX7_ith 28 = .ok (.aload_n 0, 1) := by decide +kernel
theorem dX7_ith_29 : decode cX7_ith 29 = .ok (.iload_n 1, 1) := by decide +kernel
theorem dX7_ith_30 : decode cX7_ith 30 = .ok (.invokevirtual 187, 3) := by decide +kernel
theorem dX7_ith_33 : decode cX7_ith 33 = .ok (.aload_n 0, 1) := by decide +kernel
theorem dX7_ith_34 : decode cX7_ith 34 = .ok (.getfield 28, 3) := by decide +kernel
theorem dX7_ith_37 : decode cX7_ith 37 = .ok (.iload_n 2, 1) := by decide +kernel
theorem dX7_ith_38 : decode cX7_ith 38 = .ok (.iaload, 1) := by decide +kernel
theorem dX7_ith_39 : decode cX7_ith 39 = .ok (.ireturn, 1) := by decide +kernel
theorem dX7_ways_0 : decode cX7_ways 0 = .ok (.aload_n 0, 1) := by decide +kernel
theorem dX7_ways_1 : decode cX7_ways 1 = .ok (.iload_n 1, 1) := by decide +kernel
theorem dX7_ways_2 : decode cX7_ways 2 = .ok (.invokevirtual 184, 3) := by decide +kernel
theorem dX7_ways_5 : decode cX7_ways 5 = .ok (.ifCond .ne 9, 3) := by decide +kernel
theorem dX7_ways_8 : decode cX7_ways 8 = .ok (.aload_n 0, 1) := by decide +kernel
theorem dX7_ways_9 : decode cX7_ways 9 = .ok (.iconst 0, 1) := by decide +kernel
theorem dX7_ways_10 : decode cX7_ways 10 = .ok (.invokevirtual 114, 3) := by decide +kernel
theorem dX7_ways_13 : decode cX7_ways 13 = .ok (.ireturn, 1) := by decide +kernel
theorem dX7_ways_14 : decode cX7_ways 14 = .ok (.aload_n 0, 1) := by decide +kernel
theorem dX7_ways_15 : decode cX7_ways 15 = .ok (.iload_n 1, 1) := by decide +kernel
theorem dX7_ways_16 : decode cX7_ways 16 = .ok (.invokevirtual 187, 3) := by decide +kernel
theorem dX7_ways_19 : decode cX7_ways 19 = .ok (.aload_n 0, 1) := by decide +kernel
theorem dX7_ways_20 : decode cX7_ways 20 = .ok (.getfield 172, 3) := by decide +kernel
theorem dX7_ways_23 : decode cX7_ways 23 = .ok (.ireturn, 1) := by decide +kernel
theorem dX7_left_0 : decode cX7_left 0 = .ok (.aload_n 0, 1) := by decide +kernel
theorem dX7_left_1 : decode cX7_left 1 = .ok (.iload_n 1, 1) := by decide +kernel
theorem dX7_left_2 : decode cX7_left 2 = .ok (.invokevirtual 184, 3) := by decide +kernel
theorem dX7_left_5 : decode cX7_left 5 = .ok (.ifCond .ne 9, 3) := by decide +kernel
theorem dX7_left_8 : decode cX7_left 8 = .ok (.aload_n 0, 1) := by decide +kernel
theorem dX7_left_9 : decode cX7_left 9 = .ok (.iconst 0, 1) := by decide +kernel
theorem dX7_left_10 : decode cX7_left 10 = .ok (.invokevirtual 114, 3) := by decide +kernel
theorem dX7_left_13 : decode cX7_left 13 = .ok (.ireturn, 1) := by decide +kernel
theorem dX7_left_14 : decode cX7_left 14 = .ok (.aload_n 0, 1) := by decide +kernel
theorem dX7_left_15 : decode cX7_left 15 = .ok (.iload_n 1, 1) := by decide +kernel
theorem dX7_left_16 : decode cX7_left 16 = .ok (.invokevirtual 187, 3) := by decide +kernel
theorem dX7_left_19 : decode cX7_left 19 = .ok (.aload_n 0, 1) := by decide +kernel
theorem dX7_left_20 : decode cX7_left 20 = .ok (.getfield 178, 3) := by decide +kernel
theorem dX7_left_23 : decode cX7_left 23 = .ok (.ireturn, 1) := by decide +kernel
theorem dX7_power1_0 : decode cX7_power1 0 = .ok (.lconst 1, 1) := by decide +kernel
theorem dX7_power1_1 : decode cX7_power1 1 = .ok (.lstore_n 3, 1) := by decide +kernel
theorem dX7_power1_2 : decode cX7_power1 2 = .ok (.iconst 0, 1) := by decide +kernel
theorem dX7_power1_3 : decode cX7_power1 3 = .ok (.istore 5, 2) := by decide +kernel
theorem dX7_power1_5 : decode cX7_power1 5 = .ok (.iload 5, 2) := by decide +kernel
theorem dX7_power1_7 : decode cX7_power1 7 = .ok (.iload_n 2, 1) := by decide +kernel
theorem dX7_power1_8 : decode cX7_power1 8 = .ok (.if_icmp .ge 13, 3) := by decide +kernel
theorem dX7_power1_11 : decode cX7_power1 11 = .ok (.lload_n 3, 1) := by decide +kernel
theorem dX7_power1_12 : decode cX7_power1 12 = .ok (.lload_n 0, 1) := by decide +kernel
theorem dX7_power1_13 : decode cX7_power1 13 = .ok (.lmul, 1) := by decide +kernel
theorem dX7_power1_14 : decode cX7_power1 14 = .ok (.lstore_n 3, 1) := by decide +kernel
theorem dX7_power1_15 : decode cX7_power1 15 = .ok (.iinc 5 1, 3) := by decide +kernel
theorem dX7_power1_18 : decode cX7_power1 18 = .ok (.goto (-13), 3) := by decide +kernel
theorem dX7_power1_21 : decode cX7_power1 21 = .ok (.lload_n 3, 1) := by decide +kernel
theorem dX7_power1_22 : decode cX7_power1 22 = .ok (.lreturn, 1) := by decide +kernel
theorem dX7_wind_0 : decode cX7_wind 0 = .ok (.aload_n 0, 1) := by decide +kernel
theorem dX7_wind_1 : decode cX7_wind 1 = .ok (.iload_n 1, 1) := by decide +kernel
theorem dX7_wind_2 : decode cX7_wind 2 = .ok (.invokevirtual 126, 3) := by decide +kernel
theorem dX7_wind_5 : decode cX7_wind 5 = .ok (.ifCond .eq 22, 3) := by decide +kernel
theorem dX7_wind_8 : decode cX7_wind 8 = .ok (.iload_n 2, 1) := by decide +kernel
theorem dX7_wind_9 : decode cX7_wind 9 = .ok (.iconst 0, 1) := by decide +kernel
theorem dX7_wind_10 : decode cX7_wind 10 = .ok (.bipush 10, 2) := by decide +kernel
theorem dX7_wind_12 : decode cX7_wind 12 = .ok (.invokestatic 60, 3) := by decide +kernel
theorem dX7_wind_15 : decode cX7_wind 15 = .ok (.ifCond .eq 12, 3) := by decide +kernel
theorem dX7_wind_18 : decode cX7_wind 18 = .ok (.iload_n 3, 1) := by decide +kernel
theorem dX7_wind_19 : decode cX7_wind 19 = .ok (.iconst 0, 1) := by decide +kernel
theorem dX7_wind_20 : decode cX7_wind 20 = .ok (.iconst 1, 1) := by decide +kernel
theorem dX7_wind_21 : decode cX7_wind 21 = .ok (.invokestatic 60, 3) := by decide +kernel
theorem dX7_wind_24 : decode cX7_wind 24 = .ok (.ifCond .ne 10, 3) := by decide +kernel
theorem dX7_wind_27 : decode cX7_wind 27 = .ok (.aload_n 0, 1) := by decide +kernel
theorem dX7_wind_28 : decode cX7_wind 28 = .ok (.iconst 0, 1) := by decide +kernel
theorem dX7_wind_29 : decode cX7_wind 29 = .ok (.invokevirtual 114, 3) := by decide +kernel
theorem dX7_wind_32 : decode cX7_wind 32 = .ok (.i2l, 1) := by decide +kernel
theorem dX7_wind_33 : decode cX7_wind 33 = .ok (.lreturn, 1) := by decide +kernel
theorem dX7_wind_34 : decode cX7_wind 34 = .ok (.aload_n 0, 1) := by decide +kernel
theorem dX7_wind_35 : decode cX7_wind 35 = .ok (.iload_n 1, 1) := by decide +kernel
theorem dX7_wind_36 : decode cX7_wind 36 = .ok (.invokevirtual 161, 3) := by decide +kernel
theorem dX7_wind_39 : decode cX7_wind 39 = .ok (.istore 4, 2) := by decide +kernel
theorem dX7_wind_41 : decode cX7_wind 41 = .ok (.iload 4, 2) := by decide +kernel
theorem dX7_wind_43 : decode cX7_wind 43 = .ok (.bipush 15, 2) := by decide +kernel
theorem dX7_wind_45 : decode cX7_wind 45 = .ok (.if_icmp .le 11, 3) := by decide +kernel
theorem dX7_wind_48 : decode cX7_wind 48 = .ok (.aload_n 0, 1) := by decide +kernel
theorem dX7_wind_49 : decode cX7_wind 49 = .ok (.bipush 6, 2) := by decide +kernel
theorem dX7_wind_51 : decode cX7_wind 51 = .ok (.invokevirtual 114, 3) := by decide +kernel
theorem dX7_wind_54 : decode cX7_wind 54 = .ok (.i2l, 1) := by decide +kernel
theorem dX7_wind_55 : decode cX7_wind 55 = .ok (.lreturn, 1) := by decide +kernel
theorem dX7_wind_56 : decode cX7_wind 56 = .ok (.ldc2_w 190, 3) := by decide +kernel
theorem dX7_wind_59 : decode cX7_wind 59 = .ok (.iload_n 2, 1) := by decide +kernel
theorem dX7_wind_60 : decode cX7_wind 60 = .ok (.i2l, 1) := by decide +kernel
theorem dX7_wind_61 : decode cX7_wind 61 = .ok (.lsub, 1) := by decide +kernel
theorem dX7_wind_62 : decode cX7_wind 62 = .ok (.iload 4, 2) := by decide +kernel
theorem dX7_wind_64 : decode cX7_wind 64 = .ok (.invokestatic 192, 3) := by decide +kernel
theorem dX7_wind_67 : decode cX7_wind 67 = .ok (.lstore 5, 2) := by decide +kernel
theorem dX7_wind_69 : decode cX7_wind 69 = .ok (.ldc2_w 190, 3) := by decide +kernel
theorem dX7_wind_72 : decode cX7_wind 72 = .ok (.iload 4, 2) := by decide +kernel
theorem dX7_wind_74 : decode cX7_wind 74 = .ok (.invokestatic 192, 3) := by decide +kernel
theorem dX7_wind_77 : decode cX7_wind 77 = .ok (.lstore 7, 2) := by decide +kernel
theorem dX7_wind_79 : decode cX7_wind 79 = .ok (.lload 5, 2) := by decide +kernel
theorem dX7_wind_81 : decode cX7_wind 81 = .ok (.lstore 9, 2) := by decide +kernel
theorem dX7_wind_83 : decode cX7_wind 83 = .ok (.lload 7, 2) := by decide +kernel
theorem dX7_wind_85 : decode cX7_wind 85 = .ok (.lstore 11, 2) := by decide +kernel
theorem dX7_wind_87 : decode cX7_wind 87 = .ok (.lload 11, 2) := by decide +kernel
theorem dX7_wind_89 : decode cX7_wind 89 = .ok (.lconst 0, 1) := by decide +kernel
theorem dX7_wind_90 : decode cX7_wind 90 = .ok (.lcmp, 1) := by decide +kernel
theorem dX7_wind_91 : decode cX7_wind 91 = .ok (.ifCond .eq 21, 3) := by decide +kernel
theorem dX7_wind_94 : decode cX7_wind 94 = .ok (.lload 9, 2) := by decide +kernel
theorem dX7_wind_96 : decode cX7_wind 96 = .ok (.lload 11, 2) := by decide +kernel
theorem dX7_wind_98 : decode cX7_wind 98 = .ok (.lrem, 1) := by decide +kernel
theorem dX7_wind_99 : decode cX7_wind 99 = .ok (.lstore 13, 2) := by decide +kernel
theorem dX7_wind_101 : decode cX7_wind 101 = .ok (.lload 11, 2) := by decide +kernel
theorem dX7_wind_103 : decode cX7_wind 103 = .ok (.lstore 9, 2) := by decide +kernel
theorem dX7_wind_105 : decode cX7_wind 105 = .ok (.lload 13, 2) := by decide +kernel
theorem dX7_wind_107 : decode cX7_wind 107 = .ok (.lstore 11, 2) := by decide +kernel
theorem dX7_wind_109 : decode cX7_wind 109 = .ok (.goto (-22), 3) := by decide +kernel
theorem dX7_wind_112 : decode cX7_wind 112 = .ok (.iload_n 3, 1) := by decide +kernel
theorem dX7_wind_113 : decode cX7_wind 113 = .ok (.ifCond .ne 11, 3) := by decide +kernel
theorem dX7_wind_116 : decode cX7_wind 116 = .ok (.lload 5, 2) := by decide +kernel
theorem dX7_wind_118 : decode cX7_wind 118 = .ok (.lload 9, 2) := by decide +kernel
theorem dX7_wind_120 : decode cX7_wind 120 = .ok (.ldiv, 1) := by decide +kernel
theorem dX7_wind_121 : decode cX7_wind 121 = .ok (.goto 8, 3) := by decide +kernel
theorem dX7_wind_124 : decode cX7_wind 124 = .ok (.lload 7, 2) := by decide +kernel
theorem dX7_wind_126 : decode cX7_wind 126 = .ok (.lload 9, 2) := by decide +kernel
theorem dX7_wind_128 : decode cX7_wind 128 = .ok (.ldiv, 1) := by decide +kernel
theorem dX7_wind_129 : decode cX7_wind 129 = .ok (.lreturn, 1) := by decide +kernel
theorem dX7_isSheet_0 : decode cX7_isSheet 0 = .ok (.iload_n 0, 1) := by decide +kernel
theorem dX7_isSheet_1 : decode cX7_isSheet 1 = .ok (.iconst 0, 1) := by decide +kernel
theorem dX7_isSheet_2 : decode cX7_isSheet 2 = .ok (.iconst 3, 1) := by decide +kernel
theorem dX7_isSheet_3 : decode cX7_isSheet 3 = .ok (.invokestatic 60, 3) := by decide +kernel
theorem dX7_isSheet_6 : decode cX7_isSheet 6 = .ok (.ireturn, 1) := by decide +kernel
theorem dX7_wrongSheet_0 : decode cX7_wrongSheet 0 = .ok (.iload_n 1, 1) := by decide +kernel
theorem dX7_wrongSheet_1 : decode cX7_wrongSheet 1 = .ok (.invokestatic 196, 3) := by decide +kernel
theorem dX7_wrongSheet_4 : decode cX7_wrongSheet 4 = .ok (.ifCond .ne 7, 3) := by decide +kernel
theorem dX7_wrongSheet_7 : decode cX7_wrongSheet 7 = .ok (.iconst 0, 1) := by decide +kernel
theorem dX7_wrongSheet_8 : decode cX7_wrongSheet 8 = .ok (.goto 17, 3) := by decide +kernel
theorem dX7_wrongSheet_11 : decode cX7_wrongSheet 11 = .ok (.aload_n 0, 1) := by decide +kernel
theorem dX7_wrongSheet_12 : decode cX7_wrongSheet 12 = .ok (.getfield 47, 3) := by decide +kernel
theorem dX7_wrongSheet_15 : decode cX7_wrongSheet 15 = .ok (.iload_n 1, 1) := by decide +kernel
theorem dX7_wrongSheet_16 : decode cX7_wrongSheet 16 = .ok (.iaload, 1) := by decide +kernel
theorem dX7_wrongSheet_17 : decode cX7_wrongSheet 17 = .ok (.ifCond .ne 7, 3) := by decide +kernel
theorem dX7_wrongSheet_20 : decode cX7_wrongSheet 20 = .ok (.iconst 5, 1) := by decide +kernel
theorem dX7_wrongSheet_21 : decode cX7_wrongSheet 21 = .ok (.goto 4, 3) := by decide +kernel
theorem dX7_wrongSheet_24 : decode cX7_wrongSheet 24 = .ok (.iconst (-1), 1) := by decide +kernel
theorem dX7_wrongSheet_25 : decode cX7_wrongSheet 25 = .ok (.ireturn, 1) := by decide +kernel
theorem dX7_isTold_0 : decode cX7_isTold 0 = .ok (.iload_n 2, 1) := by decide +kernel
theorem dX7_isTold_1 : decode cX7_isTold 1 = .ok (.aload_n 0, 1) := by decide +kernel
theorem dX7_isTold_2 : decode cX7_isTold 2 = .ok (.getfield 50, 3) := by decide +kernel
theorem dX7_isTold_5 : decode cX7_isTold 5 = .ok (.iload_n 1, 1) := by decide +kernel
theorem dX7_isTold_6 : decode cX7_isTold 6 = .ok (.iaload, 1) := by decide +kernel
theorem dX7_isTold_7 : decode cX7_isTold 7 = .ok (.if_icmp .ge 18, 3) := by decide +kernel
theorem dX7_isTold_10 : decode cX7_isTold 10 = .ok (.aload_n 0, 1) := by decide +kernel
theorem dX7_isTold_11 : decode cX7_isTold 11 = .ok (.getfield 53, 3) := by decide +kernel
theorem dX7_isTold_14 : decode cX7_isTold 14 = .ok (.bipush 40, 2) := by decide +kernel
theorem dX7_isTold_16 : decode cX7_isTold 16 = .ok (.iload_n 1, 1) := by decide +kernel
theorem dX7_isTold_17 : decode cX7_isTold 17 = .ok (.imul, 1) := by decide +kernel
theorem dX7_isTold_18 : decode cX7_isTold 18 = .ok (.iload_n 2, 1) := by decide +kernel
theorem dX7_isTold_19 : decode cX7_isTold 19 = .ok (.iadd, 1) := by decide +kernel
theorem dX7_isTold_20 : decode cX7_isTold 20 = .ok (.iaload, 1) := by decide +kernel
theorem dX7_isTold_21 : decode cX7_isTold 21 = .ok (.iload_n 3, 1) := by decide +kernel
theorem dX7_isTold_22 : decode cX7_isTold 22 = .ok (.if_icmp .ne 7, 3) := by decide +kernel
theorem dX7_isTold_25 : decode cX7_isTold 25 = .ok (.iconst 1, 1) := by decide +kernel
theorem dX7_isTold_26 : decode cX7_isTold 26 = .ok (.goto 4, 3) := by decide +kernel
theorem dX7_isTold_29 : decode cX7_isTold 29 = .ok (.iconst 0, 1) := by decide +kernel
theorem dX7_isTold_30 : decode cX7_isTold 30 = .ok (.ireturn, 1) := by decide +kernel
theorem dX7_fits_0 : decode cX7_fits 0 = .ok (.aload_n 0, 1) := by decide +kernel
theorem dX7_fits_1 : decode cX7_fits 1 = .ok (.iload_n 1, 1) := by decide +kernel
theorem dX7_fits_2 : decode cX7_fits 2 = .ok (.invokevirtual 199, 3) := by decide +kernel
theorem dX7_fits_5 : decode cX7_fits 5 = .ok (.istore_n 2, 1) := by decide +kernel
theorem dX7_fits_6 : decode cX7_fits 6 = .ok (.iload_n 2, 1) := by decide +kernel
theorem dX7_fits_7 : decode cX7_fits 7 = .ok (.ifCond .lt 9, 3) := by decide +kernel
theorem dX7_fits_10 : decode cX7_fits 10 = .ok (.aload_n 0, 1) := by decide +kernel
theorem dX7_fits_11 : decode cX7_fits 11 = .ok (.iload_n 2, 1) := by decide +kernel
theorem dX7_fits_12 : decode cX7_fits 12 = .ok (.invokevirtual 114, 3) := by decide +kernel
theorem dX7_fits_15 : decode cX7_fits 15 = .ok (.ireturn, 1) := by decide +kernel
theorem dX7_fits_16 : decode cX7_fits 16 = .ok (.iconst 0, 1) := by decide +kernel
theorem dX7_fits_17 : decode cX7_fits 17 = .ok (.istore_n 3, 1) := by decide +kernel
theorem dX7_fits_18 : decode cX7_fits 18 = .ok (.iconst 0, 1) := by decide +kernel
theorem dX7_fits_19 : decode cX7_fits 19 = .ok (.istore 4, 2) := by decide +kernel
theorem dX7_fits_21 : decode cX7_fits 21 = .ok (.iload 4, 2) := by decide +kernel
theorem dX7_fits_23 : decode cX7_fits 23 = .ok (.aload_n 0, 1) := by decide +kernel
theorem dX7_fits_24 : decode cX7_fits 24 = .ok (.getfield 9, 3) := by decide +kernel
theorem dX7_fits_27 : decode cX7_fits 27 = .ok (.iconst 2, 1) := by decide +kernel
theorem dX7_fits_28 : decode cX7_fits 28 = .ok (.iaload, 1) := by decide +kernel
theorem dX7_fits_29 : decode cX7_fits 29 = .ok (.if_icmp .ge 65, 3) := by decide +kernel
theorem dX7_fits_32 : decode cX7_fits 32 = .ok (.aload_n 0, 1) := by decide +kernel
theorem dX7_fits_33 : decode cX7_fits 33 = .ok (.iload 4, 2) := by decide +kernel
theorem dX7_fits_35 : decode cX7_fits 35 = .ok (.iconst 2, 1) := by decide +kernel
theorem dX7_fits_36 : decode cX7_fits 36 = .ok (.invokevirtual 80, 3) := by decide +kernel
theorem dX7_fits_39 : decode cX7_fits 39 = .ok (.istore 5, 2) := by decide +kernel
theorem dX7_fits_41 : decode cX7_fits 41 = .ok (.iload_n 3, 1) := by decide +kernel
theorem dX7_fits_42 : decode cX7_fits 42 = .ok (.aload_n 0, 1) := by decide +kernel
theorem dX7_fits_43 : decode cX7_fits 43 = .ok (.iload_n 1, 1) := by decide +kernel
theorem dX7_fits_44 : decode cX7_fits 44 = .ok (.iconst 0, 1) := by decide +kernel
theorem dX7_fits_45 : decode cX7_fits 45 = .ok (.aload_n 0, 1) := by decide +kernel
theorem dX7_fits_46 : decode cX7_fits 46 = .ok (.iload 4, 2) := by decide +kernel
theorem dX7_fits_48 : decode cX7_fits 48 = .ok (.iload 5, 2) := by decide +kernel
theorem dX7_fits_50 : decode cX7_fits 50 = .ok (.iconst 1, 1) := by decide +kernel
theorem dX7_fits_51 : decode cX7_fits 51 = .ok (.invokevirtual 93, 3) := by decide +kernel
theorem dX7_fits_54 : decode cX7_fits 54 = .ok (.invokevirtual 202, 3) := by decide +kernel
theorem dX7_fits_57 : decode cX7_fits 57 = .ok (.ifCond .eq 28, 3) := by decide +kernel
theorem dX7_fits_60 : decode cX7_fits 60 = .ok (.aload_n 0, 1) := by decide +kernel
theorem dX7_fits_61 : decode cX7_fits 61 = .ok (.iload_n 1, 1) := by decide +kernel
theorem dX7_fits_62 : decode cX7_fits 62 = .ok (.iconst 1, 1) := by decide +kernel
theorem dX7_fits_63 : decode cX7_fits 63 = .ok (.aload_n 0, 1) := by decide +kernel
theorem dX7_fits_64 : decode cX7_fits 64 = .ok (.iload 4, 2) := by decide +kernel
theorem dX7_fits_66 : decode cX7_fits 66 = .ok (.iload 5, 2) := by decide +kernel
theorem dX7_fits_68 : decode cX7_fits 68 = .ok (.iconst 0, 1) := by decide +kernel
theorem dX7_fits_69 : decode cX7_fits 69 = .ok (.invokevirtual 93, 3) := by decide +kernel
theorem dX7_fits_72 : decode cX7_fits 72 = .ok (.invokevirtual 202, 3) := by decide +kernel
theorem dX7_fits_75 : decode cX7_fits 75 = .ok (.ifCond .eq 10, 3) := by decide +kernel
theorem dX7_fits_78 : decode cX7_fits 78 = .ok (.iconst 1, 1) := by decide +kernel
theorem dX7_fits_79 : decode cX7_fits 79 = .ok (.iload 4, 2) := by decide +kernel
theorem dX7_fits_81 : decode cX7_fits 81 = .ok (.ishl, 1) := by decide +kernel
theorem dX7_fits_82 : decode cX7_fits 82 = .ok (.goto 4, 3) := by decide +kernel
theorem dX7_fits_85 : decode cX7_fits 85 = .ok (.iconst 0, 1) := by decide +kernel
theorem dX7_fits_86 : decode cX7_fits 86 = .ok (.ior, 1) := by decide +kernel
theorem dX7_fits_87 : decode cX7_fits 87 = .ok (.istore_n 3, 1) := by decide +kernel
theorem dX7_fits_88 : decode cX7_fits 88 = .ok (.iinc 4 1, 3) := by decide +kernel
theorem dX7_fits_91 : decode cX7_fits 91 = .ok (.goto (-70), 3) := by decide +kernel
theorem dX7_fits_94 : decode cX7_fits 94 = .ok (.iload_n 3, 1) := by decide +kernel
theorem dX7_fits_95 : decode cX7_fits 95 = .ok (.ireturn, 1) := by decide +kernel
theorem dX7_stolen_0 : decode cX7_stolen 0 = .ok (.aload_n 0, 1) := by decide +kernel
theorem dX7_stolen_1 : decode cX7_stolen 1 = .ok (.iload_n 1, 1) := by decide +kernel
theorem dX7_stolen_2 : decode cX7_stolen 2 = .ok (.invokevirtual 199, 3) := by decide +kernel
theorem dX7_stolen_5 : decode cX7_stolen 5 = .ok (.istore_n 3, 1) := by decide +kernel
theorem dX7_stolen_6 : decode cX7_stolen 6 = .ok (.iload_n 3, 1) := by decide +kernel
theorem dX7_stolen_7 : decode cX7_stolen 7 = .ok (.ifCond .ge 15, 3) := by decide +kernel
theorem dX7_stolen_10 : decode cX7_stolen 10 = .ok (.iload_n 2, 1) := by decide +kernel
theorem dX7_stolen_11 : decode cX7_stolen 11 = .ok (.iconst 0, 1) := by decide +kernel
theorem dX7_stolen_12 : decode cX7_stolen 12 = .ok (.bipush 9, 2) := by decide +kernel
theorem dX7_stolen_14 : decode cX7_stolen 14 = .ok (.invokestatic 60, 3) := by decide +kernel
theorem dX7_stolen_17 : decode cX7_stolen 17 = .ok (.ifCond .ne 5, 3) := by decide +kernel
theorem dX7_stolen_20 : decode cX7_stolen 20 = .ok (.iconst 0, 1) := by decide +kernel
theorem dX7_stolen_21 : decode cX7_stolen 21 = .ok (.istore_n 3, 1) := by decide +kernel
theorem dX7_stolen_22 : decode cX7_stolen 22 = .ok (.iload_n 3, 1) := by decide +kernel
theorem dX7_stolen_23 : decode cX7_stolen 23 = .ok (.ifCond .lt 9, 3) := by decide +kernel
theorem dX7_stolen_26 : decode cX7_stolen 26 = .ok (.aload_n 0, 1) := by decide +kernel
theorem dX7_stolen_27 : decode cX7_stolen 27 = .ok (.iload_n 3, 1) := by decide +kernel
theorem dX7_stolen_28 : decode cX7_stolen 28 = .ok (.invokevirtual 114, 3) := by decide +kernel
theorem dX7_stolen_31 : decode cX7_stolen 31 = .ok (.ireturn, 1) := by decide +kernel
theorem dX7_stolen_32 : decode cX7_stolen 32 = .ok (.iconst 0, 1) := by decide +kernel
theorem dX7_stolen_33 : decode cX7_stolen 33 = .ok (.istore 4, 2) := by decide +kernel
theorem dX7_stolen_35 : decode cX7_stolen 35 = .ok (.iconst 0, 1) := by decide +kernel
theorem dX7_stolen_36 : decode cX7_stolen 36 = .ok (.istore 5, 2) := by decide +kernel
theorem dX7_stolen_38 : decode cX7_stolen 38 = .ok (.iload 5, 2) := by decide +kernel
theorem dX7_stolen_40 : decode cX7_stolen 40 = .ok (.aload_n 0, 1) := by decide +kernel
theorem dX7_stolen_41 : decode cX7_stolen 41 = .ok (.getfield 9, 3) := by decide +kernel
theorem dX7_stolen_44 : decode cX7_stolen 44 = .ok (.iconst 1, 1) := by decide +kernel
theorem dX7_stolen_45 : decode cX7_stolen 45 = .ok (.iaload, 1) := by decide +kernel
theorem dX7_stolen_46 : decode cX7_stolen 46 = .ok (.if_icmp .ge 88, 3) := by decide +kernel
theorem dX7_stolen_49 : decode cX7_stolen 49 = .ok (.iconst 1, 1) := by decide +kernel
theorem dX7_stolen_50 : decode cX7_stolen 50 = .ok (.istore 6, 2) := by decide +kernel
theorem dX7_stolen_52 : decode cX7_stolen 52 = .ok (.iconst 0, 1) := by decide +kernel
theorem dX7_stolen_53 : decode cX7_stolen 53 = .ok (.istore 7, 2) := by decide +kernel
theorem dX7_stolen_55 : decode cX7_stolen 55 = .ok (.iload 7, 2) := by decide +kernel
theorem dX7_stolen_57 : decode cX7_stolen 57 = .ok (.iconst 4, 1) := by decide +kernel
theorem dX7_stolen_58 : decode cX7_stolen 58 = .ok (.if_icmp .ge 52, 3) := by decide +kernel
theorem dX7_stolen_61 : decode cX7_stolen 61 = .ok (.aload_n 0, 1) := by decide +kernel
theorem dX7_stolen_62 : decode cX7_stolen 62 = .ok (.iload 5, 2) := by decide +kernel
theorem dX7_stolen_64 : decode cX7_stolen 64 = .ok (.iconst 3, 1) := by decide +kernel
theorem dX7_stolen_65 : decode cX7_stolen 65 = .ok (.iload 7, 2) := by decide +kernel
theorem dX7_stolen_67 : decode cX7_stolen 67 = .ok (.iadd, 1) := by decide +kernel
theorem dX7_stolen_68 : decode cX7_stolen 68 = .ok (.invokevirtual 64, 3) := by decide +kernel
theorem dX7_stolen_71 : decode cX7_stolen 71 = .ok (.istore 8, 2) := by decide +kernel
theorem dX7_stolen_73 : decode cX7_stolen 73 = .ok (.iload 6, 2) := by decide +kernel
theorem dX7_stolen_75 : decode cX7_stolen 75 = .ok (.ifCond .eq 26, 3) := by decide +kernel
theorem dX7_stolen_78 : decode cX7_stolen 78 = .ok (.aload_n 0, 1) := by decide +kernel
theorem dX7_stolen_79 : decode cX7_stolen 79 = .ok (.iload_n 1, 1) := by decide +kernel
theorem dX7_stolen_80 : decode cX7_stolen 80 = .ok (.iload 7, 2) := by decide +kernel
theorem dX7_stolen_82 : decode cX7_stolen 82 = .ok (.iload 8, 2) := by decide +kernel
theorem dX7_stolen_84 : decode cX7_stolen 84 = .ok (.iload 8, 2) := by decide +kernel
theorem dX7_stolen_86 : decode cX7_stolen 86 = .ok (.iload_n 2, 1) := by decide +kernel
theorem dX7_stolen_87 : decode cX7_stolen 87 = .ok (.invokestatic 86, 3) := by decide +kernel
theorem dX7_stolen_90 : decode cX7_stolen 90 = .ok (.isub, 1) := by decide +kernel
theorem dX7_stolen_91 : decode cX7_stolen 91 = .ok (.invokevirtual 202, 3) := by decide +kernel
theorem dX7_stolen_94 : decode cX7_stolen 94 = .ok (.ifCond .eq 7, 3) := by decide +kernel
theorem dX7_stolen_97 : decode cX7_stolen 97 = .ok (.iconst 1, 1) := by decide +kernel
theorem dX7_stolen_98 : decode cX7_stolen 98 = .ok (.goto 4, 3) := by decide +kernel
theorem dX7_stolen_101 : decode cX7_stolen 101 = .ok (.iconst 0, 1) := by decide +kernel
theorem dX7_stolen_102 : decode cX7_stolen 102 = .ok (.istore 6, 2) := by decide +kernel
theorem dX7_stolen_104 : decode cX7_stolen 104 = .ok (.iinc 7 1, 3) := by decide +kernel
theorem dX7_stolen_107 : decode cX7_stolen 107 = .ok (.goto (-52), 3) := by decide +kernel
theorem dX7_stolen_110 : decode cX7_stolen 110 = .ok (.iload 4, 2) := by decide +kernel
theorem dX7_stolen_112 : decode cX7_stolen 112 = .ok (.iload 6, 2) := by decide +kernel
theorem dX7_stolen_114 : decode cX7_stolen 114 = .ok (.ifCond .eq 10, 3) := by decide +kernel
theorem dX7_stolen_117 : decode cX7_stolen 117 = .ok (.iconst 1, 1) := by decide +kernel
theorem dX7_stolen_118 : decode cX7_stolen 118 = .ok (.iload 5, 2) := by decide +kernel
theorem dX7_stolen_120 : decode cX7_stolen 120 = .ok (.ishl, 1) := by decide +kernel
theorem dX7_stolen_121 : decode cX7_stolen 121 = .ok (.goto 4, 3) := by decide +kernel
theorem dX7_stolen_124 : decode cX7_stolen 124 = .ok (.iconst 0, 1) := by decide +kernel
theorem dX7_stolen_125 : decode cX7_stolen 125 = .ok (.ior, 1) := by decide +kernel
theorem dX7_stolen_126 : decode cX7_stolen 126 = .ok (.istore 4, 2) := by decide +kernel
theorem dX7_stolen_128 : decode cX7_stolen 128 = .ok (.iinc 5 1, 3) := by decide +kernel
theorem dX7_stolen_131 : decode cX7_stolen 131 = .ok (.goto (-93), 3) := by decide +kernel
theorem dX7_stolen_134 : decode cX7_stolen 134 = .ok (.iload 4, 2) := by decide +kernel
theorem dX7_stolen_136 : decode cX7_stolen 136 = .ok (.ireturn, 1) := by decide +kernel
theorem dX7_draw_0 : decode cX7_draw 0 = .ok (.aload_n 0, 1) := by decide +kernel
theorem dX7_draw_1 : decode cX7_draw 1 = .ok (.getfield 9, 3) := by decide +kernel
theorem dX7_draw_4 : decode cX7_draw 4 = .ok (.iconst 3, 1) := by decide +kernel
theorem dX7_draw_5 : decode cX7_draw 5 = .ok (.aload_n 0, 1) := by decide +kernel
theorem dX7_draw_6 : decode cX7_draw 6 = .ok (.getfield 9, 3) := by decide +kernel
theorem dX7_draw_9 : decode cX7_draw 9 = .ok (.iconst 3, 1) := by decide +kernel
theorem dX7_draw_10 : decode cX7_draw 10 = .ok (.iaload, 1) := by decide +kernel
theorem dX7_draw_11 : decode cX7_draw 11 = .ok (.ldc 205, 2) := by decide +kernel
theorem dX7_draw_13 : decode cX7_draw 13 = .ok (.imul, 1) := by decide +kernel
theorem dX7_draw_14 : decode cX7_draw 14 = .ok (.sipush 12345, 3) := by decide +kernel
theorem dX7_draw_17 : decode cX7_draw 17 = .ok (.iadd, 1) := by decide +kernel
theorem dX7_draw_18 : decode cX7_draw 18 = .ok (.iastore, 1) := by decide +kernel
theorem dX7_draw_19 : decode cX7_draw 19 = .ok (.aload_n 0, 1) := by decide +kernel
theorem dX7_draw_20 : decode cX7_draw 20 = .ok (.getfield 9, 3) := by decide +kernel
theorem dX7_draw_23 : decode cX7_draw 23 = .ok (.iconst 3, 1) := by decide +kernel
theorem dX7_draw_24 : decode cX7_draw 24 = .ok (.iaload, 1) := by decide +kernel
theorem dX7_draw_25 : decode cX7_draw 25 = .ok (.bipush 8, 2) := by decide +kernel
theorem dX7_draw_27 : decode cX7_draw 27 = .ok (.iushr, 1) := by decide +kernel
theorem dX7_draw_28 : decode cX7_draw 28 = .ok (.ireturn, 1) := by decide +kernel
theorem dX7_years_0 : decode cX7_years 0 = .ok (.iload_n 1, 1) := by decide +kernel
theorem dX7_years_1 : decode cX7_years 1 = .ok (.iconst 1, 1) := by decide +kernel
theorem dX7_years_2 : decode cX7_years 2 = .ok (.bipush 20, 2) := by decide +kernel
theorem dX7_years_4 : decode cX7_years 4 = .ok (.invokestatic 60, 3) := by decide +kernel
theorem dX7_years_7 : decode cX7_years 7 = .ok (.ifCond .ne 9, 3) := by decide +kernel
theorem dX7_years_10 : decode cX7_years 10 = .ok (.aload_n 0, 1) := by decide +kernel
theorem dX7_years_11 : decode cX7_years 11 = .ok (.iconst 0, 1) := by decide +kernel
theorem dX7_years_12 : decode cX7_years 12 = .ok (.invokevirtual 114, 3) := by decide +kernel
theorem dX7_years_15 : decode cX7_years 15 = .ok (.ireturn, 1) := by decide +kernel
theorem dX7_years_16 : decode cX7_years 16 = .ok (.aload_n 0, 1) := by decide +kernel
theorem dX7_years_17 : decode cX7_years 17 = .ok (.getfield 9, 3) := by decide +kernel
theorem dX7_years_20 : decode cX7_years 20 = .ok (.iconst 0, 1) := by decide +kernel
theorem dX7_years_21 : decode cX7_years 21 = .ok (.iaload, 1) := by decide +kernel
theorem dX7_years_22 : decode cX7_years 22 = .ok (.iload_n 1, 1) := by decide +kernel
theorem dX7_years_23 : decode cX7_years 23 = .ok (.iadd, 1) := by decide +kernel
theorem dX7_years_24 : decode cX7_years 24 = .ok (.ldc 139, 2) := by decide +kernel
theorem dX7_years_26 : decode cX7_years 26 = .ok (.if_icmp .le 9, 3) := by decide +kernel
theorem dX7_years_29 : decode cX7_years 29 = .ok (.aload_n 0, 1) := by decide +kernel
theorem dX7_years_30 : decode cX7_years 30 = .ok (.iconst 4, 1) := by decide +kernel
theorem dX7_years_31 : decode cX7_years 31 = .ok (.invokevirtual 114, 3) := by decide +kernel
theorem dX7_years_34 : decode cX7_years 34 = .ok (.ireturn, 1) := by decide +kernel
theorem dX7_years_35 : decode cX7_years 35 = .ok (.iconst 0, 1) := by decide +kernel
theorem dX7_years_36 : decode cX7_years 36 = .ok (.istore_n 2, 1) := by decide +kernel
theorem dX7_years_37 : decode cX7_years 37 = .ok (.iconst 0, 1) := by decide +kernel
theorem dX7_years_38 : decode cX7_years 38 = .ok (.istore_n 3, 1) := by decide +kernel
theorem dX7_years_39 : decode cX7_years 39 = .ok (.iload_n 3, 1) := by decide +kernel
theorem dX7_years_40 : decode cX7_years 40 = .ok (.iload_n 1, 1) := by decide +kernel
theorem dX7_years_41 : decode cX7_years 41 = .ok (.if_icmp .ge 48, 3) := by decide +kernel
theorem dX7_years_44 : decode cX7_years 44 = .ok (.aload_n 0, 1) := by decide +kernel
theorem dX7_years_45 : decode cX7_years 45 = .ok (.invokevirtual 140, 3) := by decide +kernel
theorem dX7_years_48 : decode cX7_years 48 = .ok (.aload_n 0, 1) := by decide +kernel
theorem dX7_years_49 : decode cX7_years 49 = .ok (.getfield 9, 3) := by decide +kernel
theorem dX7_years_52 : decode cX7_years 52 = .ok (.iconst 2, 1) := by decide +kernel
theorem dX7_years_53 : decode cX7_years 53 = .ok (.iaload, 1) := by decide +kernel
theorem dX7_years_54 : decode cX7_years 54 = .ok (.ifCond .le 29, 3) := by decide +kernel
theorem dX7_years_57 : decode cX7_years 57 = .ok (.iload_n 2, 1) := by decide +kernel
theorem dX7_years_58 : decode cX7_years 58 = .ok (.aload_n 0, 1) := by decide +kernel
theorem dX7_years_59 : decode cX7_years 59 = .ok (.aload_n 0, 1) := by decide +kernel
theorem dX7_years_60 : decode cX7_years 60 = .ok (.invokevirtual 206, 3) := by decide +kernel
theorem dX7_years_63 : decode cX7_years 63 = .ok (.aload_n 0, 1) := by decide +kernel
theorem dX7_years_64 : decode cX7_years 64 = .ok (.getfield 9, 3) := by decide +kernel
theorem dX7_years_67 : decode cX7_years 67 = .ok (.iconst 2, 1) := by decide +kernel
theorem dX7_years_68 : decode cX7_years 68 = .ok (.iaload, 1) := by decide +kernel
theorem dX7_years_69 : decode cX7_years 69 = .ok (.irem, 1) := by decide +kernel
theorem dX7_years_70 : decode cX7_years 70 = .ok (.invokevirtual 136, 3) := by decide +kernel
theorem dX7_years_73 : decode cX7_years 73 = .ok (.ifCond .eq 7, 3) := by decide +kernel
theorem dX7_years_76 : decode cX7_years 76 = .ok (.iconst 1, 1) := by decide +kernel
theorem dX7_years_77 : decode cX7_years 77 = .ok (.goto 4, 3) := by decide +kernel
theorem dX7_years_80 : decode cX7_years 80 = .ok (.iconst 0, 1) := by decide +kernel
theorem dX7_years_81 : decode cX7_years 81 = .ok (.iadd, 1) := by decide +kernel
theorem dX7_years_82 : decode cX7_years 82 = .ok (.istore_n 2, 1) := by decide +kernel
theorem dX7_years_83 : decode cX7_years 83 = .ok (.iinc 3 1, 3) := by decide +kernel
theorem dX7_years_86 : decode cX7_years 86 = .ok (.goto (-47), 3) := by decide +kernel
theorem dX7_years_89 : decode cX7_years 89 = .ok (.iload_n 2, 1) := by decide +kernel
theorem dX7_years_90 : decode cX7_years 90 = .ok (.ireturn, 1) := by decide +kernel
theorem dX7_seed_0 : decode cX7_seed 0 = .ok (.aload_n 0, 1) := by decide +kernel
theorem dX7_seed_1 : decode cX7_seed 1 = .ok (.getfield 9, 3) := by decide +kernel
theorem dX7_seed_4 : decode cX7_seed 4 = .ok (.iconst 3, 1) := by decide +kernel
theorem dX7_seed_5 : decode cX7_seed 5 = .ok (.iaload, 1) := by decide +kernel
theorem dX7_seed_6 : decode cX7_seed 6 = .ok (.istore_n 2, 1) := by decide +kernel
theorem dX7_seed_7 : decode cX7_seed 7 = .ok (.aload_n 0, 1) := by decide +kernel
theorem dX7_seed_8 : decode cX7_seed 8 = .ok (.getfield 9, 3) := by decide +kernel
theorem dX7_seed_11 : decode cX7_seed 11 = .ok (.iconst 3, 1) := by decide +kernel
theorem dX7_seed_12 : decode cX7_seed 12 = .ok (.iload_n 1, 1) := by decide +kernel
theorem dX7_seed_13 : decode cX7_seed 13 = .ok (.iastore, 1) := by decide +kernel
theorem dX7_seed_14 : decode cX7_seed 14 = .ok (.iload_n 2, 1) := by decide +kernel
theorem dX7_seed_15 : decode cX7_seed 15 = .ok (.ireturn, 1) := by decide +kernel
theorem dX7_feed_0 : decode cX7_feed 0 = .ok (.iload_n 2, 1) := by decide +kernel
theorem dX7_feed_1 : decode cX7_feed 1 = .ok (.iconst 1, 1) := by decide +kernel
theorem dX7_feed_2 : decode cX7_feed 2 = .ok (.iconst 4, 1) := by decide +kernel
theorem dX7_feed_3 : decode cX7_feed 3 = .ok (.invokestatic 60, 3) := by decide +kernel
theorem dX7_feed_6 : decode cX7_feed 6 = .ok (.ifCond .ne 9, 3) := by decide +kernel
theorem dX7_feed_9 : decode cX7_feed 9 = .ok (.aload_n 0, 1) := by decide +kernel
theorem dX7_feed_10 : decode cX7_feed 10 = .ok (.iconst 0, 1) := by decide +kernel
theorem dX7_feed_11 : decode cX7_feed 11 = .ok (.invokevirtual 114, 3) := by decide +kernel
theorem dX7_feed_14 : decode cX7_feed 14 = .ok (.ireturn, 1) := by decide +kernel
theorem dX7_feed_15 : decode cX7_feed 15 = .ok (.aload_n 0, 1) := by decide +kernel
theorem dX7_feed_16 : decode cX7_feed 16 = .ok (.getfield 209, 3) := by decide +kernel
theorem dX7_feed_19 : decode cX7_feed 19 = .ok (.iload_n 2, 1) := by decide +kernel
theorem dX7_feed_20 : decode cX7_feed 20 = .ok (.iadd, 1) := by decide +kernel
theorem dX7_feed_21 : decode cX7_feed 21 = .ok (.bipush 120, 2) := by decide +kernel
theorem dX7_feed_23 : decode cX7_feed 23 = .ok (.if_icmp .le 9, 3) := by decide +kernel
theorem dX7_feed_26 : decode cX7_feed 26 = .ok (.aload_n 0, 1) := by decide +kernel
theorem dX7_feed_27 : decode cX7_feed 27 = .ok (.iconst 1, 1) := by decide +kernel
theorem dX7_feed_28 : decode cX7_feed 28 = .ok (.invokevirtual 114, 3) := by decide +kernel
theorem dX7_feed_31 : decode cX7_feed 31 = .ok (.ireturn, 1) := by decide +kernel
theorem dX7_feed_32 : decode cX7_feed 32 = .ok (.iload_n 2, 1) := by decide +kernel
theorem dX7_feed_33 : decode cX7_feed 33 = .ok (.iconst 1, 1) := by decide +kernel
theorem dX7_feed_34 : decode cX7_feed 34 = .ok (.isub, 1) := by decide +kernel
theorem dX7_feed_35 : decode cX7_feed 35 = .ok (.istore_n 3, 1) := by decide +kernel
theorem dX7_feed_36 : decode cX7_feed 36 = .ok (.iload_n 3, 1) := by decide +kernel
theorem dX7_feed_37 : decode cX7_feed 37 = .ok (.ifCond .lt 38, 3) := by decide +kernel
theorem dX7_feed_40 : decode cX7_feed 40 = .ok (.aload_n 0, 1) := by decide +kernel
theorem dX7_feed_41 : decode cX7_feed 41 = .ok (.getfield 31, 3) := by decide +kernel
theorem dX7_feed_44 : decode cX7_feed 44 = .ok (.aload_n 0, 1) := by decide +kernel
theorem dX7_feed_45 : decode cX7_feed 45 = .ok (.getfield 209, 3) := by decide +kernel
theorem dX7_feed_48 : decode cX7_feed 48 = .ok (.iload_n 1, 1) := by decide +kernel
theorem dX7_feed_49 : decode cX7_feed 49 = .ok (.bipush 8, 2) := by decide +kernel
theorem dX7_feed_51 : decode cX7_feed 51 = .ok (.iload_n 3, 1) := by decide +kernel
theorem dX7_feed_52 : decode cX7_feed 52 = .ok (.imul, 1) := by decide +kernel
theorem dX7_feed_53 : decode cX7_feed 53 = .ok (.ishr, 1) := by decide +kernel
theorem dX7_feed_54 : decode cX7_feed 54 = .ok (.sipush 255, 3) := by decide +kernel
theorem dX7_feed_57 : decode cX7_feed 57 = .ok (.iand, 1) := by decide +kernel
theorem dX7_feed_58 : decode cX7_feed 58 = .ok (.iastore, 1) := by decide +kernel
theorem dX7_feed_59 : decode cX7_feed 59 = .ok (.aload_n 0, 1) := by decide +kernel
theorem dX7_feed_60 : decode cX7_feed 60 = .ok (.dup, 1) := by decide +kernel
theorem dX7_feed_61 : decode cX7_feed 61 = .ok (.getfield 209, 3) := by decide +kernel
theorem dX7_feed_64 : decode cX7_feed 64 = .ok (.iconst 1, 1) := by decide +kernel
theorem dX7_feed_65 : decode cX7_feed 65 = .ok (.iadd, 1) := by decide +kernel
theorem dX7_feed_66 : decode cX7_feed 66 = .ok (.putfield 209, 3) := by decide +kernel
theorem dX7_feed_69 : decode cX7_feed 69 = .ok (.iinc 3 (-1), 3) := by decide +kernel
theorem dX7_feed_72 : decode cX7_feed 72 = .ok (.goto (-36), 3) := by decide +kernel
theorem dX7_feed_75 : decode cX7_feed 75 = .ok (.aload_n 0, 1) := by decide +kernel
theorem dX7_feed_76 : decode cX7_feed 76 = .ok (.getfield 209, 3) := by decide +kernel
theorem dX7_feed_79 : decode cX7_feed 79 = .ok (.ireturn, 1) := by decide +kernel
theorem dX7_wipe_0 : decode cX7_wipe 0 = .ok (.aload_n 0, 1) := by decide +kernel
theorem dX7_wipe_1 : decode cX7_wipe 1 = .ok (.getfield 209, 3) := by decide +kernel
theorem dX7_wipe_4 : decode cX7_wipe 4 = .ok (.istore_n 1, 1) := by decide +kernel
theorem dX7_wipe_5 : decode cX7_wipe 5 = .ok (.aload_n 0, 1) := by decide +kernel
theorem dX7_wipe_6 : decode cX7_wipe 6 = .ok (.iconst 0, 1) := by decide +kernel
theorem dX7_wipe_7 : decode cX7_wipe 7 = .ok (.putfield 209, 3) := by decide +kernel
theorem dX7_wipe_10 : decode cX7_wipe 10 = .ok (.iload_n 1, 1) := by decide +kernel
theorem dX7_wipe_11 : decode cX7_wipe 11 = .ok (.ireturn, 1) := by decide +kernel
theorem dX7_isLetter_0 : decode cX7_isLetter 0 = .ok (.iload_n 0, 1) := by decide +kernel
theorem dX7_isLetter_1 : decode cX7_isLetter 1 = .ok (.bipush 97, 2) := by decide +kernel
theorem dX7_isLetter_3 : decode cX7_isLetter 3 = .ok (.bipush 122, 2) := by decide +kernel
theorem dX7_isLetter_5 : decode cX7_isLetter 5 = .ok (.invokestatic 60, 3) := by decide +kernel
theorem dX7_isLetter_8 : decode cX7_isLetter 8 = .ok (.ireturn, 1) := by decide +kernel
theorem dX7_isDigit_0 : decode cX7_isDigit 0 = .ok (.iload_n 0, 1) := by decide +kernel
theorem dX7_isDigit_1 : decode cX7_isDigit 1 = .ok (.bipush 48, 2) := by decide +kernel
theorem dX7_isDigit_3 : decode cX7_isDigit 3 = .ok (.bipush 57, 2) := by decide +kernel
theorem dX7_isDigit_5 : decode cX7_isDigit 5 = .ok (.invokestatic 60, 3) := by decide +kernel
theorem dX7_isDigit_8 : decode cX7_isDigit 8 = .ok (.ireturn, 1) := by decide +kernel
theorem dX7_nextToken_0 : decode cX7_nextToken 0 = .ok (.aload_n 0, 1) := by decide +kernel
theorem dX7_nextToken_1 : decode cX7_nextToken 1 = .ok (.aload_n 0, 1) := by decide +kernel
theorem dX7_nextToken_2 : decode cX7_nextToken 2 = .ok (.getfield 212, 3) := by decide +kernel
theorem dX7_nextToken_5 : decode cX7_nextToken 5 = .ok (.putfield 215, 3) := by decide +kernel
theorem dX7_nextToken_8 : decode cX7_nextToken 8 = .ok (.aload_n 0, 1) := by decide +kernel
theorem dX7_nextToken_9 : decode cX7_nextToken 9 = .ok (.getfield 215, 3) := by decide +kernel
theorem dX7_nextToken_12 : decode cX7_nextToken 12 = .ok (.aload_n 0, 1) := by decide +kernel
theorem dX7_nextToken_13 : decode cX7_nextToken 13 = .ok (.getfield 209, 3) := by decide +kernel
theorem dX7_nextToken_16 : decode cX7_nextToken 16 = .ok (.if_icmp .ge 30, 3) := by decide +kernel
theorem dX7_nextToken_19 : decode cX7_nextToken 19 = .ok (.aload_n 0, 1) := by decide +kernel
theorem dX7_nextToken_20 : decode cX7_nextToken 20 = .ok (.getfield 31, 3) := by decide +kernel
theorem dX7_nextToken_23 : decode cX7_nextToken 23 = .ok (.aload_n 0, 1) := by decide +kernel
theorem dX7_nextToken_24 : decode cX7_nextToken 24 = .ok (.getfield 215, 3) := by decide +kernel
theorem dX7_nextToken_27 : decode cX7_nextToken 27 = .ok (.iaload, 1) := by decide +kernel
theorem dX7_nextToken_28 : decode cX7_nextToken 28 = .ok (.bipush 32, 2) := by decide +kernel
theorem dX7_nextToken_30 : decode cX7_nextToken 30 = .ok (.if_icmp .ne 16, 3) := by decide +kernel
theorem dX7_nextToken_33 : decode cX7_nextToken 33 = .ok (.aload_n 0, 1) := by decide +kernel
theorem dX7_nextToken_34 : decode cX7_nextToken 34 = .ok (.dup, 1) := by decide +kernel
theorem dX7_nextToken_35 : decode cX7_nextToken 35 = .ok (.getfield 215, 3) := by decide +kernel
theorem dX7_nextToken_38 : decode cX7_nextToken 38 = .ok (.iconst 1, 1) := by decide +kernel
theorem dX7_nextToken_39 : decode cX7_nextToken 39 = .ok (.iadd, 1) := by decide +kernel
theorem dX7_nextToken_40 : decode cX7_nextToken 40 = .ok (.putfield 215, 3) := by decide +kernel
theorem dX7_nextToken_43 : decode cX7_nextToken 43 = .ok (.goto (-35), 3) := by decide +kernel
theorem dX7_nextToken_46 : decode cX7_nextToken 46 = .ok (.aload_n 0, 1) := by decide +kernel
theorem dX7_nextToken_47 : decode cX7_nextToken 47 = .ok (.aload_n 0, 1) := by decide +kernel
theorem dX7_nextToken_48 : decode cX7_nextToken 48 = .ok (.getfield 215, 3) := by decide +kernel
theorem dX7_nextToken_51 : decode cX7_nextToken 51 = .ok (.putfield 212, 3) := by decide +kernel
theorem dX7_nextToken_54 : decode cX7_nextToken 54 = .ok (.aload_n 0, 1) := by decide +kernel
theorem dX7_nextToken_55 : decode cX7_nextToken 55 = .ok (.lconst 0, 1) := by decide +kernel
theorem dX7_nextToken_56 : decode cX7_nextToken 56 = .ok (.putfield 218, 3) := by decide +kernel
theorem dX7_nextToken_59 : decode cX7_nextToken 59 = .ok (.aload_n 0, 1) := by decide +kernel
theorem dX7_nextToken_60 : decode cX7_nextToken 60 = .ok (.getfield 215, 3) := by decide +kernel
theorem dX7_nextToken_63 : decode cX7_nextToken 63 = .ok (.aload_n 0, 1) := by decide +kernel
theorem dX7_nextToken_64 : decode cX7_nextToken 64 = .ok (.getfield 209, 3) := by decide +kernel
theorem dX7_nextToken_67 : decode cX7_nextToken 67 = .ok (.if_icmp .ne 11, 3) := by decide +kernel
theorem dX7_nextToken_70 : decode cX7_nextToken 70 = .ok (.aload_n 0, 1) := by decide +kernel
theorem dX7_nextToken_71 : decode cX7_nextToken 71 = .ok (.iconst 0, 1) := by decide +kernel
theorem dX7_nextToken_72 : decode cX7_nextToken 72 = .ok (.putfield 222, 3) := by decide +kernel
theorem dX7_nextToken_75 : decode cX7_nextToken 75 = .ok (.goto 262, 3) := by decide +kernel
theorem dX7_nextToken_78 : decode cX7_nextToken 78 = .ok (.aload_n 0, 1) := by decide +kernel
theorem dX7_nextToken_79 : decode cX7_nextToken 79 = .ok (.getfield 31, 3) := by decide +kernel
theorem dX7_nextToken_82 : decode cX7_nextToken 82 = .ok (.aload_n 0, 1) := by decide +kernel
theorem dX7_nextToken_83 : decode cX7_nextToken 83 = .ok (.getfield 215, 3) := by decide +kernel
theorem dX7_nextToken_86 : decode cX7_nextToken 86 = .ok (.iaload, 1) := by decide +kernel
theorem dX7_nextToken_87 : decode cX7_nextToken 87 = .ok (.invokestatic 225, 3) := by decide +kernel
theorem dX7_nextToken_90 : decode cX7_nextToken 90 = .ok (.ifCond .eq 92, 3) := by decide +kernel
theorem dX7_nextToken_93 : decode cX7_nextToken 93 = .ok (.aload_n 0, 1) := by decide +kernel
theorem dX7_nextToken_94 : decode cX7_nextToken 94 = .ok (.iconst 1, 1) := by decide +kernel
theorem dX7_nextToken_95 : decode cX7_nextToken 95 = .ok (.putfield 222, 3) := by decide +kernel
theorem dX7_nextToken_98 : decode cX7_nextToken 98 = .ok (.aload_n 0, 1) := by decide +kernel
theorem dX7_nextToken_99 : decode cX7_nextToken 99 = .ok (.getfield 212, 3) := by decide +kernel
theorem dX7_nextToken_102 : decode cX7_nextToken 102 = .ok (.aload_n 0, 1) := by decide +kernel
theorem dX7_nextToken_103 : decode cX7_nextToken 103 = .ok (.getfield 209, 3) := by decide +kernel
theorem dX7_nextToken_106 : decode cX7_nextToken 106 = .ok (.if_icmp .ge 231, 3) := by decide +kernel
theorem dX7_nextToken_109 : decode cX7_nextToken 109 = .ok (.aload_n 0, 1) := by decide +kernel
theorem dX7_nextToken_110 : decode cX7_nextToken 110 = .ok (.getfield 31, 3) := by decide +kernel
theorem dX7_nextToken_113 : decode cX7_nextToken 113 = .ok (.aload_n 0, 1) := by decide +kernel
theorem dX7_nextToken_114 : decode cX7_nextToken 114 = .ok (.getfield 212, 3) := by decide +kernel
theorem dX7_nextToken_117 : decode cX7_nextToken 117 = .ok (.iaload, 1) := by decide +kernel
theorem dX7_nextToken_118 : decode cX7_nextToken 118 = .ok (.invokestatic 225, 3) := by decide +kernel
theorem dX7_nextToken_121 : decode cX7_nextToken 121 = .ok (.ifCond .eq 216, 3) := by decide +kernel
theorem dX7_nextToken_124 : decode cX7_nextToken 124 = .ok (.aload_n 0, 1) := by decide +kernel
theorem dX7_nextToken_125 : decode cX7_nextToken 125 = .ok (.aload_n 0, 1) := by decide +kernel
theorem dX7_nextToken_126 : decode cX7_nextToken 126 = .ok (.getfield 218, 3) := by decide +kernel
theorem dX7_nextToken_129 : decode cX7_nextToken 129 = .ok (.ldc2_w 228, 3) := by decide +kernel
theorem dX7_nextToken_132 : decode cX7_nextToken 132 = .ok (.lcmp, 1) := by decide +kernel
theorem dX7_nextToken_133 : decode cX7_nextToken 133 = .ok (.ifCond .le 10, 3) := by decide +kernel
theorem dX7_nextToken_136 : decode cX7_nextToken 136 = .ok (.aload_n 0, 1) := by decide +kernel
theorem dX7_nextToken_137 : decode cX7_nextToken 137 = .ok (.getfield 218, 3) := by decide +kernel
theorem dX7_nextToken_140 : decode cX7_nextToken 140 = .ok (.goto 26, 3) := by decide +kernel
theorem dX7_nextToken_143 : decode cX7_nextToken 143 = .ok (.aload_n 0, 1) := by decide +kernel
theorem dX7_nextToken_144 : decode cX7_nextToken 144 = .ok (.getfield 218, 3) := by decide +kernel
theorem dX7_nextToken_147 : decode cX7_nextToken 147 = .ok (.ldc2_w 230, 3) := by decide +kernel
theorem dX7_nextToken_150 : decode cX7_nextToken 150 = .ok (.lmul, 1) := by decide +kernel
theorem dX7_nextToken_151 : decode cX7_nextToken 151 = .ok (.aload_n 0, 1) := by decide +kernel
theorem dX7_nextToken_152 : decode cX7_nextToken 152 = .ok (.getfield 31, 3) := by decide +kernel
theorem dX7_nextToken_155 : decode cX7_nextToken 155 = .ok (.aload_n 0, 1) := by decide +kernel
theorem dX7_nextToken_156 : decode cX7_nextToken 156 = .ok (.getfield 212, 3) := by decide +kernel
theorem dX7_nextToken_159 : decode cX7_nextToken 159 = .ok (.iaload, 1) := by decide +kernel
theorem dX7_nextToken_160 : decode cX7_nextToken 160 = .ok (.i2l, 1) := by decide +kernel
theorem dX7_nextToken_161 : decode cX7_nextToken 161 = .ok (.ladd, 1) := by decide +kernel
theorem dX7_nextToken_162 : decode cX7_nextToken 162 = .ok (.ldc2_w 232, 3) := by decide +kernel
theorem dX7_nextToken_165 : decode cX7_nextToken 165 = .ok (.lsub, 1) := by decide +kernel
theorem dX7_nextToken_166 : decode cX7_nextToken 166 = .ok (.putfield 218, 3) := by decide +kernel
theorem dX7_nextToken_169 : decode cX7_nextToken 169 = .ok (.aload_n 0, 1) := by decide +kernel
theorem dX7_nextToken_170 : decode cX7_nextToken 170 = .ok (.dup, 1) := by decide +kernel
theorem dX7_nextToken_171 : decode cX7_nextToken 171 = .ok (.getfield 212, 3) := by decide +kernel
theorem dX7_nextToken_174 : decode cX7_nextToken 174 = .ok (.iconst 1, 1) := by decide +kernel
theorem dX7_nextToken_175 : decode cX7_nextToken 175 = .ok (.iadd, 1) := by decide +kernel
theorem dX7_nextToken_176 : decode cX7_nextToken 176 = .ok (.putfield 212, 3) := by decide +kernel
theorem dX7_nextToken_179 : decode cX7_nextToken 179 = .ok (.goto (-81), 3) := by decide +kernel
theorem dX7_nextToken_182 : decode cX7_nextToken 182 = .ok (.aload_n 0, 1) := by decide +kernel
theorem dX7_nextToken_183 : decode cX7_nextToken 183 = .ok (.getfield 31, 3) := by decide +kernel
theorem dX7_nextToken_186 : decode cX7_nextToken 186 = .ok (.aload_n 0, 1) := by decide +kernel
theorem dX7_nextToken_187 : decode cX7_nextToken 187 = .ok (.getfield 215, 3) := by decide +kernel
theorem dX7_nextToken_190 : decode cX7_nextToken 190 = .ok (.iaload, 1) := by decide +kernel
theorem dX7_nextToken_191 : decode cX7_nextToken 191 = .ok (.invokestatic 234, 3) := by decide +kernel
theorem dX7_nextToken_194 : decode cX7_nextToken 194 = .ok (.ifCond .eq 110, 3) := by decide +kernel
theorem dX7_nextToken_197 : decode cX7_nextToken 197 = .ok (.aload_n 0, 1) := by decide +kernel
theorem dX7_nextToken_198 : decode cX7_nextToken 198 = .ok (.getfield 212, 3) := by decide +kernel
theorem dX7_nextToken_201 : decode cX7_nextToken 201 = .ok (.aload_n 0, 1) := by decide +kernel
theorem dX7_nextToken_202 : decode cX7_nextToken 202 = .ok (.getfield 209, 3) := by decide +kernel
theorem dX7_nextToken_205 : decode cX7_nextToken 205 = .ok (.if_icmp .ge 76, 3) := by decide +kernel
theorem dX7_nextToken_208 : decode cX7_nextToken 208 = .ok (.aload_n 0, 1) := by decide +kernel
theorem dX7_nextToken_209 : decode cX7_nextToken 209 = .ok (.getfield 31, 3) := by decide +kernel
theorem dX7_nextToken_212 : decode cX7_nextToken 212 = .ok (.aload_n 0, 1) := by decide +kernel
theorem dX7_nextToken_213 : decode cX7_nextToken 213 = .ok (.getfield 212, 3) := by decide +kernel
theorem dX7_nextToken_216 : decode cX7_nextToken 216 = .ok (.iaload, 1) := by decide +kernel
theorem dX7_nextToken_217 : decode cX7_nextToken 217 = .ok (.invokestatic 234, 3) := by decide +kernel
theorem dX7_nextToken_220 : decode cX7_nextToken 220 = .ok (.ifCond .eq 61, 3) := by decide +kernel
theorem dX7_nextToken_223 : decode cX7_nextToken 223 = .ok (.aload_n 0, 1) := by decide +kernel
theorem dX7_nextToken_224 : decode cX7_nextToken 224 = .ok (.aload_n 0, 1) := by decide +kernel
theorem dX7_nextToken_225 : decode cX7_nextToken 225 = .ok (.getfield 218, 3) := by decide +kernel
theorem dX7_nextToken_228 : decode cX7_nextToken 228 = .ok (.ldc2_w 237, 3) := by decide +kernel
theorem dX7_nextToken_231 : decode cX7_nextToken 231 = .ok (.lcmp, 1) := by decide +kernel
theorem dX7_nextToken_232 : decode cX7_nextToken 232 = .ok (.ifCond .le 10, 3) := by decide +kernel
theorem dX7_nextToken_235 : decode cX7_nextToken 235 = .ok (.aload_n 0, 1) := by decide +kernel
theorem dX7_nextToken_236 : decode cX7_nextToken 236 = .ok (.getfield 218, 3) := by decide +kernel
theorem dX7_nextToken_239 : decode cX7_nextToken 239 = .ok (.goto 26, 3) := by decide +kernel
theorem dX7_nextToken_242 : decode cX7_nextToken 242 = .ok (.aload_n 0, 1) := by decide +kernel
theorem dX7_nextToken_243 : decode cX7_nextToken 243 = .ok (.getfield 218, 3) := by decide +kernel
theorem dX7_nextToken_246 : decode cX7_nextToken 246 = .ok (.ldc2_w 190, 3) := by decide +kernel
theorem dX7_nextToken_249 : decode cX7_nextToken 249 = .ok (.lmul, 1) := by decide +kernel
theorem dX7_nextToken_250 : decode cX7_nextToken 250 = .ok (.aload_n 0, 1) := by decide +kernel
theorem dX7_nextToken_251 : decode cX7_nextToken 251 = .ok (.getfield 31, 3) := by decide +kernel
theorem dX7_nextToken_254 : decode cX7_nextToken 254 = .ok (.aload_n 0, 1) := by decide +kernel
theorem dX7_nextToken_255 : decode cX7_nextToken 255 = .ok (.getfield 212, 3) := by decide +kernel
theorem dX7_nextToken_258 : decode cX7_nextToken 258 = .ok (.iaload, 1) := by decide +kernel
theorem dX7_nextToken_259 : decode cX7_nextToken 259 = .ok (.i2l, 1) := by decide +kernel
theorem dX7_nextToken_260 : decode cX7_nextToken 260 = .ok (.ladd, 1) := by decide +kernel
theorem dX7_nextToken_261 : decode cX7_nextToken 261 = .ok (.ldc2_w 239, 3) := by decide +kernel
theorem dX7_nextToken_264 : decode cX7_nextToken 264 = .ok (.lsub, 1) := by decide +kernel
theorem dX7_nextToken_265 : decode cX7_nextToken 265 = .ok (.putfield 218, 3) := by decide +kernel
theorem dX7_nextToken_268 : decode cX7_nextToken 268 = .ok (.aload_n 0, 1) := by decide +kernel
theorem dX7_nextToken_269 : decode cX7_nextToken 269 = .ok (.dup, 1) := by decide +kernel
theorem dX7_nextToken_270 : decode cX7_nextToken 270 = .ok (.getfield 212, 3) := by decide +kernel
theorem dX7_nextToken_273 : decode cX7_nextToken 273 = .ok (.iconst 1, 1) := by decide +kernel
theorem dX7_nextToken_274 : decode cX7_nextToken 274 = .ok (.iadd, 1) := by decide +kernel
theorem dX7_nextToken_275 : decode cX7_nextToken 275 = .ok (.putfield 212, 3) := by decide +kernel
theorem dX7_nextToken_278 : decode cX7_nextToken 278 = .ok (.goto (-81), 3) := by decide +kernel
theorem dX7_nextToken_281 : decode cX7_nextToken 281 = .ok (.aload_n 0, 1) := by decide +kernel
theorem dX7_nextToken_282 : decode cX7_nextToken 282 = .ok (.aload_n 0, 1) := by decide +kernel
theorem dX7_nextToken_283 : decode cX7_nextToken 283 = .ok (.getfield 218, 3) := by decide +kernel
theorem dX7_nextToken_286 : decode cX7_nextToken 286 = .ok (.ldc2_w 237, 3) := by decide +kernel
theorem dX7_nextToken_289 : decode cX7_nextToken 289 = .ok (.lcmp, 1) := by decide +kernel
theorem dX7_nextToken_290 : decode cX7_nextToken 290 = .ok (.ifCond .le 7, 3) := by decide +kernel
theorem dX7_nextToken_293 : decode cX7_nextToken 293 = .ok (.iconst 4, 1) := by decide +kernel
theorem dX7_nextToken_294 : decode cX7_nextToken 294 = .ok (.goto 4, 3) := by decide +kernel
theorem dX7_nextToken_297 : decode cX7_nextToken 297 = .ok (.iconst 2, 1) := by decide +kernel
theorem dX7_nextToken_298 : decode cX7_nextToken 298 = .ok (.putfield 222, 3) := by decide +kernel
theorem dX7_nextToken_301 : decode cX7_nextToken 301 = .ok (.goto 36, 3) := by decide +kernel
theorem dX7_nextToken_304 : decode cX7_nextToken 304 = .ok (.aload_n 0, 1) := by decide +kernel
theorem dX7_nextToken_305 : decode cX7_nextToken 305 = .ok (.aload_n 0, 1) := by decide +kernel
theorem dX7_nextToken_306 : decode cX7_nextToken 306 = .ok (.getfield 31, 3) := by decide +kernel
theorem dX7_nextToken_309 : decode cX7_nextToken 309 = .ok (.aload_n 0, 1) := by decide +kernel
theorem dX7_nextToken_310 : decode cX7_nextToken 310 = .ok (.getfield 215, 3) := by decide +kernel
theorem dX7_nextToken_313 : decode cX7_nextToken 313 = .ok (.iaload, 1) := by decide +kernel
theorem dX7_nextToken_314 : decode cX7_nextToken 314 = .ok (.bipush 59, 2) := by decide +kernel
theorem dX7_nextToken_316 : decode cX7_nextToken 316 = .ok (.if_icmp .ne 7, 3) := by decide +kernel
theorem dX7_nextToken_319 : decode cX7_nextToken 319 = .ok (.iconst 3, 1) := by decide +kernel
theorem dX7_nextToken_320 : decode cX7_nextToken 320 = .ok (.goto 4, 3) := by decide +kernel
theorem dX7_nextToken_323 : decode cX7_nextToken 323 = .ok (.iconst 4, 1) := by decide +kernel
theorem dX7_nextToken_324 : decode cX7_nextToken 324 = .ok (.putfield 222, 3) := by decide +kernel
theorem dX7_nextToken_327 : decode cX7_nextToken 327 = .ok (.aload_n 0, 1) := by decide +kernel
theorem dX7_nextToken_328 : decode cX7_nextToken 328 = .ok (.dup, 1) := by decide +kernel
theorem dX7_nextToken_329 : decode cX7_nextToken 329 = .ok (.getfield 212, 3) := by decide +kernel
theorem dX7_nextToken_332 : decode cX7_nextToken 332 = .ok (.iconst 1, 1) := by decide +kernel
theorem dX7_nextToken_333 : decode cX7_nextToken 333 = .ok (.iadd, 1) := by decide +kernel
theorem dX7_nextToken_334 : decode cX7_nextToken 334 = .ok (.putfield 212, 3) := by decide +kernel
theorem dX7_nextToken_337 : decode cX7_nextToken 337 = .ok (.return_, 1) := by decide +kernel
theorem dX7_wordOf_0 : decode cX7_wordOf 0 = .ok (.iconst (-1), 1) := by decide +kernel
theorem dX7_wordOf_1 : decode cX7_wordOf 1 = .ok (.istore_n 2, 1) := by decide +kernel
theorem dX7_wordOf_2 : decode cX7_wordOf 2 = .ok (.iconst 0, 1) := by decide +kernel
theorem dX7_wordOf_3 : decode cX7_wordOf 3 = .ok (.istore_n 3, 1) := by decide +kernel
theorem dX7_wordOf_4 : decode cX7_wordOf 4 = .ok (.iload_n 3, 1) := by decide +kernel
theorem dX7_wordOf_5 : decode cX7_wordOf 5 = .ok (.aload_n 1, 1) := by decide +kernel
theorem dX7_wordOf_6 : decode cX7_wordOf 6 = .ok (.arraylength, 1) := by decide +kernel
theorem dX7_wordOf_7 : decode cX7_wordOf 7 = .ok (.bipush 8, 2) := by decide +kernel
theorem dX7_wordOf_9 : decode cX7_wordOf 9 = .ok (.idiv, 1) := by decide +kernel
theorem dX7_wordOf_10 : decode cX7_wordOf 10 = .ok (.if_icmp .ge 94, 3) := by decide +kernel
theorem dX7_wordOf_13 : decode cX7_wordOf 13 = .ok (.aload_n 0, 1) := by decide +kernel
theorem dX7_wordOf_14 : decode cX7_wordOf 14 = .ok (.getfield 222, 3) := by decide +kernel
theorem dX7_wordOf_17 : decode cX7_wordOf 17 = .ok (.iconst 1, 1) := by decide +kernel
theorem dX7_wordOf_18 : decode cX7_wordOf 18 = .ok (.if_icmp .ne 86, 3) := by decide +kernel
theorem dX7_wordOf_21 : decode cX7_wordOf 21 = .ok (.lconst 0, 1) := by decide +kernel
theorem dX7_wordOf_22 : decode cX7_wordOf 22 = .ok (.lstore 4, 2) := by decide +kernel
theorem dX7_wordOf_24 : decode cX7_wordOf 24 = .ok (.iconst 0, 1) := by decide +kernel
theorem dX7_wordOf_25 : decode cX7_wordOf 25 = .ok (.istore 6, 2) := by decide +kernel
theorem dX7_wordOf_27 : decode cX7_wordOf 27 = .ok (.iload 6, 2) := by decide +kernel
theorem dX7_wordOf_29 : decode cX7_wordOf 29 = .ok (.bipush 8, 2) := by decide +kernel
theorem dX7_wordOf_31 : decode cX7_wordOf 31 = .ok (.if_icmp .ge 51, 3) := by decide +kernel
theorem dX7_wordOf_34 : decode cX7_wordOf 34 = .ok (.aload_n 1, 1) := by decide +kernel
theorem dX7_wordOf_35 : decode cX7_wordOf 35 = .ok (.bipush 8, 2) := by decide +kernel
theorem dX7_wordOf_37 : decode cX7_wordOf 37 = .ok (.iload_n 3, 1) := by decide +kernel
theorem dX7_wordOf_38 : decode cX7_wordOf 38 = .ok (.imul, 1) := by decide +kernel
theorem dX7_wordOf_39 : decode cX7_wordOf 39 = .ok (.iload 6, 2) := by decide +kernel
theorem dX7_wordOf_41 : decode cX7_wordOf 41 = .ok (.iadd, 1) := by decide +kernel
theorem dX7_wordOf_42 : decode cX7_wordOf 42 = .ok (.caload, 1) := by decide +kernel
theorem dX7_wordOf_43 : decode cX7_wordOf 43 = .ok (.bipush 32, 2) := by decide +kernel
theorem dX7_wordOf_45 : decode cX7_wordOf 45 = .ok (.if_icmp .ne 8, 3) := by decide +kernel
theorem dX7_wordOf_48 : decode cX7_wordOf 48 = .ok (.lload 4, 2) := by decide +kernel
theorem dX7_wordOf_50 : decode cX7_wordOf 50 = .ok (.goto 24, 3) := by decide +kernel
theorem dX7_wordOf_53 : decode cX7_wordOf 53 = .ok (.lload 4, 2) := by decide +kernel
theorem dX7_wordOf_55 : decode cX7_wordOf 55 = .ok (.ldc2_w 230, 3) := by decide +kernel
theorem dX7_wordOf_58 : decode cX7_wordOf 58 = .ok (.lmul, 1) := by decide +kernel
theorem dX7_wordOf_59 : decode cX7_wordOf 59 = .ok (.aload_n 1, 1) := by decide +kernel
theorem dX7_wordOf_60 : decode cX7_wordOf 60 = .ok (.bipush 8, 2) := by decide +kernel
theorem dX7_wordOf_62 : decode cX7_wordOf 62 = .ok (.iload_n 3, 1) := by decide +kernel
theorem dX7_wordOf_63 : decode cX7_wordOf 63 = .ok (.imul, 1) := by decide +kernel
theorem dX7_wordOf_64 : decode cX7_wordOf 64 = .ok (.iload 6, 2) := by decide +kernel
theorem dX7_wordOf_66 : decode cX7_wordOf 66 = .ok (.iadd, 1) := by decide +kernel
theorem dX7_wordOf_67 : decode cX7_wordOf 67 = .ok (.caload, 1) := by decide +kernel
theorem dX7_wordOf_68 : decode cX7_wordOf 68 = .ok (.i2l, 1) := by decide +kernel
theorem dX7_wordOf_69 : decode cX7_wordOf 69 = .ok (.ladd, 1) := by decide +kernel
theorem dX7_wordOf_70 : decode cX7_wordOf 70 = .ok (.ldc2_w 232, 3) := by decide +kernel
theorem dX7_wordOf_73 : decode cX7_wordOf 73 = .ok (.lsub, 1) := by decide +kernel
theorem dX7_wordOf_74 : decode cX7_wordOf 74 = .ok (.lstore 4, 2) := by decide +kernel
theorem dX7_wordOf_76 : decode cX7_wordOf 76 = .ok (.iinc 6 1, 3) := by decide +kernel
theorem dX7_wordOf_79 : decode cX7_wordOf 79 = .ok (.goto (-52), 3) := by decide +kernel
theorem dX7_wordOf_82 : decode cX7_wordOf 82 = .ok (.lload 4, 2) := by decide +kernel
theorem dX7_wordOf_84 : decode cX7_wordOf 84 = .ok (.aload_n 0, 1) := by decide +kernel
theorem dX7_wordOf_85 : decode cX7_wordOf 85 = .ok (.getfield 218, 3) := by decide +kernel
theorem dX7_wordOf_88 : decode cX7_wordOf 88 = .ok (.lcmp, 1) := by decide +kernel
theorem dX7_wordOf_89 : decode cX7_wordOf 89 = .ok (.ifCond .ne 7, 3) := by decide +kernel
theorem dX7_wordOf_92 : decode cX7_wordOf 92 = .ok (.iload_n 3, 1) := by decide +kernel
theorem dX7_wordOf_93 : decode cX7_wordOf 93 = .ok (.goto 4, 3) := by decide +kernel
theorem dX7_wordOf_96 : decode cX7_wordOf 96 = .ok (.iload_n 2, 1) := by decide +kernel
theorem dX7_wordOf_97 : decode cX7_wordOf 97 = .ok (.istore_n 2, 1) := by decide +kernel
theorem dX7_wordOf_98 : decode cX7_wordOf 98 = .ok (.iinc 3 1, 3) := by decide +kernel
theorem dX7_wordOf_101 : decode cX7_wordOf 101 = .ok (.goto (-97), 3) := by decide +kernel
theorem dX7_wordOf_104 : decode cX7_wordOf 104 = .ok (.iload_n 2, 1) := by decide +kernel
theorem dX7_wordOf_105 : decode cX7_wordOf 105 = .ok (.ireturn, 1) := by decide +kernel
theorem dX7_takesNumber_0 : decode cX7_takesNumber 0 = .ok (.aload_n 0, 1) := by decide +kernel
theorem dX7_takesNumber_1 : decode cX7_takesNumber 1 = .ok (.getfield 222, 3) := by decide +kernel
theorem dX7_takesNumber_4 : decode cX7_takesNumber 4 = .ok (.iconst 2, 1) := by decide +kernel
theorem dX7_takesNumber_5 : decode cX7_takesNumber 5 = .ok (.if_icmp .ne 24, 3) := by decide +kernel
theorem dX7_takesNumber_8 : decode cX7_takesNumber 8 = .ok (.aload_n 0, 1) := by decide +kernel
theorem dX7_takesNumber_9 : decode cX7_takesNumber 9 = .ok (.getfield 218, 3) := by decide +kernel
theorem dX7_takesNumber_12 : decode cX7_takesNumber 12 = .ok (.l2i, 1) := by decide +kernel
theorem dX7_takesNumber_13 : decode cX7_takesNumber 13 = .ok (.iload_n 1, 1) := by decide +kernel
theorem dX7_takesNumber_14 : decode cX7_takesNumber 14 = .ok (.iload_n 2, 1) := by decide +kernel
theorem dX7_takesNumber_15 : decode cX7_takesNumber 15 = .ok (.invokestatic 60, 3) := by decide +kernel
theorem dX7_takesNumber_18 : decode cX7_takesNumber 18 = .ok (.ifCond .eq 11, 3) := by decide +kernel
theorem dX7_takesNumber_21 : decode cX7_takesNumber 21 = .ok (.aload_n 0, 1) := by decide +kernel
theorem dX7_takesNumber_22 : decode cX7_takesNumber 22 = .ok (.getfield 218, 3) := by decide +kernel
theorem dX7_takesNumber_25 : decode cX7_takesNumber 25 = .ok (.l2i, 1) := by decide +kernel
theorem dX7_takesNumber_26 : decode cX7_takesNumber 26 = .ok (.goto 4, 3) := by decide +kernel
theorem dX7_takesNumber_29 : decode cX7_takesNumber 29 = .ok (.iconst (-1), 1) := by decide +kernel
theorem dX7_takesNumber_30 : decode cX7_takesNumber 30 = .ok (.istore_n 3, 1) := by decide +kernel
theorem dX7_takesNumber_31 : decode cX7_takesNumber 31 = .ok (.iload_n 3, 1) := by decide +kernel
theorem dX7_takesNumber_32 : decode cX7_takesNumber 32 = .ok (.ifCond .lt 7, 3) := by decide +kernel
theorem dX7_takesNumber_35 : decode cX7_takesNumber 35 = .ok (.aload_n 0, 1) := by decide +kernel
theorem dX7_takesNumber_36 : decode cX7_takesNumber 36 = .ok (.invokevirtual 241, 3) := by decide +kernel
theorem dX7_takesNumber_39 : decode cX7_takesNumber 39 = .ok (.iload_n 3, 1) := by decide +kernel
theorem dX7_takesNumber_40 : decode cX7_takesNumber 40 = .ok (.ireturn, 1) := by decide +kernel
theorem dX7_readsBird_0 : decode cX7_readsBird 0 = .ok (.aload_n 0, 1) := by decide +kernel
theorem dX7_readsBird_1 : decode cX7_readsBird 1 = .ok (.getfield 9, 3) := by decide +kernel
theorem dX7_readsBird_4 : decode cX7_readsBird 4 = .ok (.iconst 1, 1) := by decide +kernel
theorem dX7_readsBird_5 : decode cX7_readsBird 5 = .ok (.iaload, 1) := by decide +kernel
theorem dX7_readsBird_6 : decode cX7_readsBird 6 = .ok (.bipush 8, 2) := by decide +kernel
theorem dX7_readsBird_8 : decode cX7_readsBird 8 = .ok (.if_icmp .ne 5, 3) := by decide +kernel
theorem dX7_readsBird_11 : decode cX7_readsBird 11 = .ok (.iconst 0, 1) := by decide +kernel
theorem dX7_readsBird_12 : decode cX7_readsBird 12 = .ok (.ireturn, 1) := by decide +kernel
theorem dX7_readsBird_13 : decode cX7_readsBird 13 = .ok (.aload_n 0, 1) := by decide +kernel
theorem dX7_readsBird_14 : decode cX7_readsBird 14 = .ok (.getfield 9, 3) := by decide +kernel
theorem dX7_readsBird_17 : decode cX7_readsBird 17 = .ok (.iconst 1, 1) := by decide +kernel
theorem dX7_readsBird_18 : decode cX7_readsBird 18 = .ok (.iaload, 1) := by decide +kernel
theorem dX7_readsBird_19 : decode cX7_readsBird 19 = .ok (.istore_n 2, 1) := by decide +kernel
theorem dX7_readsBird_20 : decode cX7_readsBird 20 = .ok (.aload_n 0, 1) := by decide +kernel
theorem dX7_readsBird_21 : decode cX7_readsBird 21 = .ok (.iload_n 1, 1) := by decide +kernel
theorem dX7_readsBird_22 : decode cX7_readsBird 22 = .ok (.invokevirtual 117, 3) := by decide +kernel
theorem dX7_readsBird_25 : decode cX7_readsBird 25 = .ok (.aload_n 0, 1) := by decide +kernel
theorem dX7_readsBird_26 : decode cX7_readsBird 26 = .ok (.invokevirtual 241, 3) := by decide +kernel
theorem dX7_readsBird_29 : decode cX7_readsBird 29 = .ok (.aload_n 0, 1) := by decide +kernel
theorem dX7_readsBird_30 : decode cX7_readsBird 30 = .ok (.aload_n 0, 1) := by decide +kernel
theorem dX7_readsBird_31 : decode cX7_readsBird 31 = .ok (.getfield 38, 3) := by decide +kernel
theorem dX7_readsBird_34 : decode cX7_readsBird 34 = .ok (.invokevirtual 244, 3) := by decide +kernel
theorem dX7_readsBird_37 : decode cX7_readsBird 37 = .ok (.ifCond .ne 58, 3) := by decide +kernel
theorem dX7_readsBird_40 : decode cX7_readsBird 40 = .ok (.aload_n 0, 1) := by decide +kernel
theorem dX7_readsBird_41 : decode cX7_readsBird 41 = .ok (.invokevirtual 241, 3) := by decide +kernel
theorem dX7_readsBird_44 : decode cX7_readsBird 44 = .ok (.iconst 0, 1) := by decide +kernel
theorem dX7_readsBird_45 : decode cX7_readsBird 45 = .ok (.istore_n 3, 1) := by decide +kernel
theorem dX7_readsBird_46 : decode cX7_readsBird 46 = .ok (.iload_n 3, 1) := by decide +kernel
theorem dX7_readsBird_47 : decode cX7_readsBird 47 = .ok (.ifCond .eq 16, 3) := by decide +kernel
theorem dX7_readsBird_50 : decode cX7_readsBird 50 = .ok (.iload_n 3, 1) := by decide +kernel
theorem dX7_readsBird_51 : decode cX7_readsBird 51 = .ok (.iconst 4, 1) := by decide +kernel
theorem dX7_readsBird_52 : decode cX7_readsBird 52 = .ok (.if_icmp .ge 43, 3) := by decide +kernel
theorem dX7_readsBird_55 : decode cX7_readsBird 55 = .ok (.aload_n 0, 1) := by decide +kernel
theorem dX7_readsBird_56 : decode cX7_readsBird 56 = .ok (.getfield 222, 3) := by decide +kernel
theorem dX7_readsBird_59 : decode cX7_readsBird 59 = .ok (.iconst 2, 1) := by decide +kernel
theorem dX7_readsBird_60 : decode cX7_readsBird 60 = .ok (.if_icmp .ne 35, 3) := by decide +kernel
theorem dX7_readsBird_63 : decode cX7_readsBird 63 = .ok (.aload_n 0, 1) := by decide +kernel
theorem dX7_readsBird_64 : decode cX7_readsBird 64 = .ok (.iconst 0, 1) := by decide +kernel
theorem dX7_readsBird_65 : decode cX7_readsBird 65 = .ok (.bipush 99, 2) := by decide +kernel
theorem dX7_readsBird_67 : decode cX7_readsBird 67 = .ok (.invokevirtual 248, 3) := by decide +kernel
theorem dX7_readsBird_70 : decode cX7_readsBird 70 = .ok (.istore 4, 2) := by decide +kernel
theorem dX7_readsBird_72 : decode cX7_readsBird 72 = .ok (.iload 4, 2) := by decide +kernel
theorem dX7_readsBird_74 : decode cX7_readsBird 74 = .ok (.ifCond .ge 5, 3) := by decide +kernel
theorem dX7_readsBird_77 : decode cX7_readsBird 77 = .ok (.iconst 0, 1) := by decide +kernel
theorem dX7_readsBird_78 : decode cX7_readsBird 78 = .ok (.ireturn, 1) := by decide +kernel
theorem dX7_readsBird_79 : decode cX7_readsBird 79 = .ok (.aload_n 0, 1) := by decide +kernel
theorem dX7_readsBird_80 : decode cX7_readsBird 80 = .ok (.iload_n 2, 1) := by decide +kernel
theorem dX7_readsBird_81 : decode cX7_readsBird 81 = .ok (.iconst 3, 1) := by decide +kernel
theorem dX7_readsBird_82 : decode cX7_readsBird 82 = .ok (.iload_n 3, 1) := by decide +kernel
theorem dX7_readsBird_83 : decode cX7_readsBird 83 = .ok (.iadd, 1) := by decide +kernel
theorem dX7_readsBird_84 : decode cX7_readsBird 84 = .ok (.iload 4, 2) := by decide +kernel
theorem dX7_readsBird_86 : decode cX7_readsBird 86 = .ok (.invokevirtual 100, 3) := by decide +kernel
theorem dX7_readsBird_89 : decode cX7_readsBird 89 = .ok (.iinc 3 1, 3) := by decide +kernel
theorem dX7_readsBird_92 : decode cX7_readsBird 92 = .ok (.goto (-46), 3) := by decide +kernel
theorem dX7_readsBird_95 : decode cX7_readsBird 95 = .ok (.iconst 1, 1) := by decide +kernel
theorem dX7_readsBird_96 : decode cX7_readsBird 96 = .ok (.istore_n 3, 1) := by decide +kernel
theorem dX7_readsBird_97 : decode cX7_readsBird 97 = .ok (.iload_n 3, 1) := by decide +kernel
theorem dX7_readsBird_98 : decode cX7_readsBird 98 = .ok (.iconst 3, 1) := by decide +kernel
theorem dX7_readsBird_99 : decode cX7_readsBird 99 = .ok (.if_icmp .ge 63, 3) := by decide +kernel
theorem dX7_readsBird_102 : decode cX7_readsBird 102 = .ok (.aload_n 0, 1) := by decide +kernel
theorem dX7_readsBird_103 : decode cX7_readsBird 103 = .ok (.aload_n 0, 1) := by decide +kernel
theorem dX7_readsBird_104 : decode cX7_readsBird 104 = .ok (.getfield 38, 3) := by decide +kernel
theorem dX7_readsBird_107 : decode cX7_readsBird 107 = .ok (.invokevirtual 244, 3) := by decide +kernel
theorem dX7_readsBird_110 : decode cX7_readsBird 110 = .ok (.iload_n 3, 1) := by decide +kernel
theorem dX7_readsBird_111 : decode cX7_readsBird 111 = .ok (.if_icmp .ne 45, 3) := by decide +kernel
theorem dX7_readsBird_114 : decode cX7_readsBird 114 = .ok (.aload_n 0, 1) := by decide +kernel
theorem dX7_readsBird_115 : decode cX7_readsBird 115 = .ok (.invokevirtual 241, 3) := by decide +kernel
theorem dX7_readsBird_118 : decode cX7_readsBird 118 = .ok (.aload_n 0, 1) := by decide +kernel
theorem dX7_readsBird_119 : decode cX7_readsBird 119 = .ok (.iconst 0, 1) := by decide +kernel
theorem dX7_readsBird_120 : decode cX7_readsBird 120 = .ok (.iload_n 3, 1) := by decide +kernel
theorem dX7_readsBird_121 : decode cX7_readsBird 121 = .ok (.iconst 1, 1) := by decide +kernel
theorem dX7_readsBird_122 : decode cX7_readsBird 122 = .ok (.if_icmp .ne 8, 3) := by decide +kernel
theorem dX7_readsBird_125 : decode cX7_readsBird 125 = .ok (.bipush 99, 2) := by decide +kernel
theorem dX7_readsBird_127 : decode cX7_readsBird 127 = .ok (.goto 5, 3) := by decide +kernel
theorem dX7_readsBird_130 : decode cX7_readsBird 130 = .ok (.bipush 9, 2) := by decide +kernel
theorem dX7_readsBird_132 : decode cX7_readsBird 132 = .ok (.invokevirtual 248, 3) := by decide +kernel
theorem dX7_readsBird_135 : decode cX7_readsBird 135 = .ok (.istore 4, 2) := by decide +kernel
theorem dX7_readsBird_137 : decode cX7_readsBird 137 = .ok (.iload 4, 2) := by decide +kernel
theorem dX7_readsBird_139 : decode cX7_readsBird 139 = .ok (.ifCond .ge 5, 3) := by decide +kernel
theorem dX7_readsBird_142 : decode cX7_readsBird 142 = .ok (.iconst 0, 1) := by decide +kernel
theorem dX7_readsBird_143 : decode cX7_readsBird 143 = .ok (.ireturn, 1) := by decide +kernel
theorem dX7_readsBird_144 : decode cX7_readsBird 144 = .ok (.aload_n 0, 1) := by decide +kernel
theorem dX7_readsBird_145 : decode cX7_readsBird 145 = .ok (.iload_n 2, 1) := by decide +kernel
theorem dX7_readsBird_146 : decode cX7_readsBird 146 = .ok (.iconst 1, 1) := by decide +kernel
theorem dX7_readsBird_147 : decode cX7_readsBird 147 = .ok (.iload_n 3, 1) := by decide +kernel
theorem dX7_readsBird_148 : decode cX7_readsBird 148 = .ok (.iadd, 1) := by decide +kernel
theorem dX7_readsBird_149 : decode cX7_readsBird 149 = .ok (.iconst 1, 1) := by decide +kernel
theorem dX7_readsBird_150 : decode cX7_readsBird 150 = .ok (.isub, 1) := by decide +kernel
theorem dX7_readsBird_151 : decode cX7_readsBird 151 = .ok (.iload 4, 2) := by decide +kernel
theorem dX7_readsBird_153 : decode cX7_readsBird 153 = .ok (.invokevirtual 100, 3) := by decide +kernel
theorem dX7_readsBird_156 : decode cX7_readsBird 156 = .ok (.iinc 3 1, 3) := by decide +kernel
theorem dX7_readsBird_159 : decode cX7_readsBird 159 = .ok (.goto (-62), 3) := by decide +kernel
theorem dX7_readsBird_162 : decode cX7_readsBird 162 = .ok (.iconst 1, 1) := by decide +kernel
theorem dX7_readsBird_163 : decode cX7_readsBird 163 = .ok (.ireturn, 1) := by decide +kernel
theorem dX7_readsMotion_0 : decode cX7_readsMotion 0 = .ok (.aload_n 0, 1) := by decide +kernel
theorem dX7_readsMotion_1 : decode cX7_readsMotion 1 = .ok (.getfield 9, 3) := by decide +kernel
theorem dX7_readsMotion_4 : decode cX7_readsMotion 4 = .ok (.iconst 2, 1) := by decide +kernel
theorem dX7_readsMotion_5 : decode cX7_readsMotion 5 = .ok (.iaload, 1) := by decide +kernel
theorem dX7_readsMotion_6 : decode cX7_readsMotion 6 = .ok (.bipush 8, 2) := by decide +kernel
theorem dX7_readsMotion_8 : decode cX7_readsMotion 8 = .ok (.if_icmp .ne 5, 3) := by decide +kernel
theorem dX7_readsMotion_11 : decode cX7_readsMotion 11 = .ok (.iconst 0, 1) := by decide +kernel
theorem dX7_readsMotion_12 : decode cX7_readsMotion 12 = .ok (.ireturn, 1) := by decide +kernel
theorem dX7_readsMotion_13 : decode cX7_readsMotion 13 = .ok (.aload_n 0, 1) := by decide +kernel
theorem dX7_readsMotion_14 : decode cX7_readsMotion 14 = .ok (.invokevirtual 241, 3) := by decide +kernel
theorem dX7_readsMotion_17 : decode cX7_readsMotion 17 = .ok (.aload_n 0, 1) := by decide +kernel
theorem dX7_readsMotion_18 : decode cX7_readsMotion 18 = .ok (.iconst 0, 1) := by decide +kernel
theorem dX7_readsMotion_19 : decode cX7_readsMotion 19 = .ok (.iconst 3, 1) := by decide +kernel
theorem dX7_readsMotion_20 : decode cX7_readsMotion 20 = .ok (.invokevirtual 248, 3) := by decide +kernel
theorem dX7_readsMotion_23 : decode cX7_readsMotion 23 = .ok (.istore_n 1, 1) := by decide +kernel
theorem dX7_readsMotion_24 : decode cX7_readsMotion 24 = .ok (.iload_n 1, 1) := by decide +kernel
theorem dX7_readsMotion_25 : decode cX7_readsMotion 25 = .ok (.ifCond .ge 5, 3) := by decide +kernel
theorem dX7_readsMotion_28 : decode cX7_readsMotion 28 = .ok (.iconst 0, 1) := by decide +kernel
theorem dX7_readsMotion_29 : decode cX7_readsMotion 29 = .ok (.ireturn, 1) := by decide +kernel
theorem dX7_readsMotion_30 : decode cX7_readsMotion 30 = .ok (.aload_n 0, 1) := by decide +kernel
theorem dX7_readsMotion_31 : decode cX7_readsMotion 31 = .ok (.getfield 9, 3) := by decide +kernel
theorem dX7_readsMotion_34 : decode cX7_readsMotion 34 = .ok (.iconst 2, 1) := by decide +kernel
theorem dX7_readsMotion_35 : decode cX7_readsMotion 35 = .ok (.iaload, 1) := by decide +kernel
theorem dX7_readsMotion_36 : decode cX7_readsMotion 36 = .ok (.istore_n 2, 1) := by decide +kernel
theorem dX7_readsMotion_37 : decode cX7_readsMotion 37 = .ok (.aload_n 0, 1) := by decide +kernel
theorem dX7_readsMotion_38 : decode cX7_readsMotion 38 = .ok (.iload_n 1, 1) := by decide +kernel
theorem dX7_readsMotion_39 : decode cX7_readsMotion 39 = .ok (.invokevirtual 123, 3) := by decide +kernel
theorem dX7_readsMotion_42 : decode cX7_readsMotion 42 = .ok (.iconst 0, 1) := by decide +kernel
theorem dX7_readsMotion_43 : decode cX7_readsMotion 43 = .ok (.istore_n 3, 1) := by decide +kernel
theorem dX7_readsMotion_44 : decode cX7_readsMotion 44 = .ok (.iload_n 3, 1) := by decide +kernel
theorem dX7_readsMotion_45 : decode cX7_readsMotion 45 = .ok (.iconst 3, 1) := by decide +kernel
theorem dX7_readsMotion_46 : decode cX7_readsMotion 46 = .ok (.if_icmp .ge 56, 3) := by decide +kernel
theorem dX7_readsMotion_49 : decode cX7_readsMotion 49 = .ok (.aload_n 0, 1) := by decide +kernel
theorem dX7_readsMotion_50 : decode cX7_readsMotion 50 = .ok (.aload_n 0, 1) := by decide +kernel
theorem dX7_readsMotion_51 : decode cX7_readsMotion 51 = .ok (.getfield 44, 3) := by decide +kernel
theorem dX7_readsMotion_54 : decode cX7_readsMotion 54 = .ok (.invokevirtual 244, 3) := by decide +kernel
theorem dX7_readsMotion_57 : decode cX7_readsMotion 57 = .ok (.iload_n 3, 1) := by decide +kernel
theorem dX7_readsMotion_58 : decode cX7_readsMotion 58 = .ok (.if_icmp .ne 38, 3) := by decide +kernel
theorem dX7_readsMotion_61 : decode cX7_readsMotion 61 = .ok (.aload_n 0, 1) := by decide +kernel
theorem dX7_readsMotion_62 : decode cX7_readsMotion 62 = .ok (.invokevirtual 241, 3) := by decide +kernel
theorem dX7_readsMotion_65 : decode cX7_readsMotion 65 = .ok (.aload_n 0, 1) := by decide +kernel
theorem dX7_readsMotion_66 : decode cX7_readsMotion 66 = .ok (.iconst 0, 1) := by decide +kernel
theorem dX7_readsMotion_67 : decode cX7_readsMotion 67 = .ok (.aload_n 0, 1) := by decide +kernel
theorem dX7_readsMotion_68 : decode cX7_readsMotion 68 = .ok (.iconst 1, 1) := by decide +kernel
theorem dX7_readsMotion_69 : decode cX7_readsMotion 69 = .ok (.iload_n 3, 1) := by decide +kernel
theorem dX7_readsMotion_70 : decode cX7_readsMotion 70 = .ok (.iadd, 1) := by decide +kernel
theorem dX7_readsMotion_71 : decode cX7_readsMotion 71 = .ok (.invokevirtual 133, 3) := by decide +kernel
theorem dX7_readsMotion_74 : decode cX7_readsMotion 74 = .ok (.invokevirtual 248, 3) := by decide +kernel
theorem dX7_readsMotion_77 : decode cX7_readsMotion 77 = .ok (.istore 4, 2) := by decide +kernel
theorem dX7_readsMotion_79 : decode cX7_readsMotion 79 = .ok (.iload 4, 2) := by decide +kernel
theorem dX7_readsMotion_81 : decode cX7_readsMotion 81 = .ok (.ifCond .ge 5, 3) := by decide +kernel
theorem dX7_readsMotion_84 : decode cX7_readsMotion 84 = .ok (.iconst 0, 1) := by decide +kernel
theorem dX7_readsMotion_85 : decode cX7_readsMotion 85 = .ok (.ireturn, 1) := by decide +kernel
theorem dX7_readsMotion_86 : decode cX7_readsMotion 86 = .ok (.aload_n 0, 1) := by decide +kernel
theorem dX7_readsMotion_87 : decode cX7_readsMotion 87 = .ok (.iload_n 2, 1) := by decide +kernel
theorem dX7_readsMotion_88 : decode cX7_readsMotion 88 = .ok (.iconst 1, 1) := by decide +kernel
theorem dX7_readsMotion_89 : decode cX7_readsMotion 89 = .ok (.iload_n 3, 1) := by decide +kernel
theorem dX7_readsMotion_90 : decode cX7_readsMotion 90 = .ok (.iadd, 1) := by decide +kernel
theorem dX7_readsMotion_91 : decode cX7_readsMotion 91 = .ok (.iload 4, 2) := by decide +kernel
theorem dX7_readsMotion_93 : decode cX7_readsMotion 93 = .ok (.invokevirtual 107, 3) := by decide +kernel
theorem dX7_readsMotion_96 : decode cX7_readsMotion 96 = .ok (.iinc 3 1, 3) := by decide +kernel
theorem dX7_readsMotion_99 : decode cX7_readsMotion 99 = .ok (.goto (-55), 3) := by decide +kernel
theorem dX7_readsMotion_102 : decode cX7_readsMotion 102 = .ok (.iconst 1, 1) := by decide +kernel
theorem dX7_readsMotion_103 : decode cX7_readsMotion 103 = .ok (.ireturn, 1) := by decide +kernel
theorem dX7_readsItem_0 : decode cX7_readsItem 0 = .ok (.aload_n 0, 1) := by decide +kernel
theorem dX7_readsItem_1 : decode cX7_readsItem 1 = .ok (.aload_n 0, 1) := by decide +kernel
theorem dX7_readsItem_2 : decode cX7_readsItem 2 = .ok (.getfield 34, 3) := by decide +kernel
theorem dX7_readsItem_5 : decode cX7_readsItem 5 = .ok (.invokevirtual 244, 3) := by decide +kernel
theorem dX7_readsItem_8 : decode cX7_readsItem 8 = .ok (.istore_n 1, 1) := by decide +kernel
theorem dX7_readsItem_9 : decode cX7_readsItem 9 = .ok (.iload_n 1, 1) := by decide +kernel
theorem dX7_readsItem_10 : decode cX7_readsItem 10 = .ok (.ifCond .lt 9, 3) := by decide +kernel
theorem dX7_readsItem_13 : decode cX7_readsItem 13 = .ok (.aload_n 0, 1) := by decide +kernel
theorem dX7_readsItem_14 : decode cX7_readsItem 14 = .ok (.iload_n 1, 1) := by decide +kernel
theorem dX7_readsItem_15 : decode cX7_readsItem 15 = .ok (.invokevirtual 251, 3) := by decide +kernel
theorem dX7_readsItem_18 : decode cX7_readsItem 18 = .ok (.ireturn, 1) := by decide +kernel
theorem dX7_readsItem_19 : decode cX7_readsItem 19 = .ok (.aload_n 0, 1) := by decide +kernel
theorem dX7_readsItem_20 : decode cX7_readsItem 20 = .ok (.aload_n 0, 1) := by decide +kernel
theorem dX7_readsItem_21 : decode cX7_readsItem 21 = .ok (.getfield 41, 3) := by decide +kernel
theorem dX7_readsItem_24 : decode cX7_readsItem 24 = .ok (.invokevirtual 244, 3) := by decide +kernel
theorem dX7_readsItem_27 : decode cX7_readsItem 27 = .ok (.istore_n 2, 1) := by decide +kernel
theorem dX7_readsItem_28 : decode cX7_readsItem 28 = .ok (.iload_n 2, 1) := by decide +kernel
theorem dX7_readsItem_29 : decode cX7_readsItem 29 = .ok (.ifCond .ne 8, 3) := by decide +kernel
theorem dX7_readsItem_32 : decode cX7_readsItem 32 = .ok (.aload_n 0, 1) := by decide +kernel
theorem dX7_readsItem_33 : decode cX7_readsItem 33 = .ok (.invokevirtual 254, 3) := by decide +kernel
theorem dX7_readsItem_36 : decode cX7_readsItem 36 = .ok (.ireturn, 1) := by decide +kernel
theorem dX7_readsItem_37 : decode cX7_readsItem 37 = .ok (.iload_n 2, 1) := by decide +kernel
theorem dX7_readsItem_38 : decode cX7_readsItem 38 = .ok (.ifCond .ge 5, 3) := by decide +kernel
theorem dX7_readsItem_41 : decode cX7_readsItem 41 = .ok (.iconst 0, 1) := by decide +kernel
theorem dX7_readsItem_42 : decode cX7_readsItem 42 = .ok (.ireturn, 1) := by decide +kernel
theorem dX7_readsItem_43 : decode cX7_readsItem 43 = .ok (.aload_n 0, 1) := by decide +kernel
theorem dX7_readsItem_44 : decode cX7_readsItem 44 = .ok (.invokevirtual 241, 3) := by decide +kernel
theorem dX7_readsItem_47 : decode cX7_readsItem 47 = .ok (.aload_n 0, 1) := by decide +kernel
theorem dX7_readsItem_48 : decode cX7_readsItem 48 = .ok (.iconst 0, 1) := by decide +kernel
theorem dX7_readsItem_49 : decode cX7_readsItem 49 = .ok (.sipush 999, 3) := by decide +kernel
theorem dX7_readsItem_52 : decode cX7_readsItem 52 = .ok (.invokevirtual 248, 3) := by decide +kernel
theorem dX7_readsItem_55 : decode cX7_readsItem 55 = .ok (.istore_n 3, 1) := by decide +kernel
theorem dX7_readsItem_56 : decode cX7_readsItem 56 = .ok (.aload_n 0, 1) := by decide +kernel
theorem dX7_readsItem_57 : decode cX7_readsItem 57 = .ok (.getfield 9, 3) := by decide +kernel
theorem dX7_readsItem_60 : decode cX7_readsItem 60 = .ok (.iconst 0, 1) := by decide +kernel
theorem dX7_readsItem_61 : decode cX7_readsItem 61 = .ok (.iload_n 3, 1) := by decide +kernel
theorem dX7_readsItem_62 : decode cX7_readsItem 62 = .ok (.ifCond .ge 12, 3) := by decide +kernel
theorem dX7_readsItem_65 : decode cX7_readsItem 65 = .ok (.aload_n 0, 1) := by decide +kernel
theorem dX7_readsItem_66 : decode cX7_readsItem 66 = .ok (.getfield 9, 3) := by decide +kernel
theorem dX7_readsItem_69 : decode cX7_readsItem 69 = .ok (.iconst 0, 1) := by decide +kernel
theorem dX7_readsItem_70 : decode cX7_readsItem 70 = .ok (.iaload, 1) := by decide +kernel
theorem dX7_readsItem_71 : decode cX7_readsItem 71 = .ok (.goto 4, 3) := by decide +kernel
theorem dX7_readsItem_74 : decode cX7_readsItem 74 = .ok (.iload_n 3, 1) := by decide +kernel
theorem dX7_readsItem_75 : decode cX7_readsItem 75 = .ok (.iastore, 1) := by decide +kernel
theorem dX7_readsItem_76 : decode cX7_readsItem 76 = .ok (.iload_n 3, 1) := by decide +kernel
theorem dX7_readsItem_77 : decode cX7_readsItem 77 = .ok (.ifCond .lt 7, 3) := by decide +kernel
theorem dX7_readsItem_80 : decode cX7_readsItem 80 = .ok (.iconst 1, 1) := by decide +kernel
theorem dX7_readsItem_81 : decode cX7_readsItem 81 = .ok (.goto 4, 3) := by decide +kernel
theorem dX7_readsItem_84 : decode cX7_readsItem 84 = .ok (.iconst 0, 1) := by decide +kernel
theorem dX7_readsItem_85 : decode cX7_readsItem 85 = .ok (.ireturn, 1) := by decide +kernel
theorem dX7_text_0 : decode cX7_text 0 = .ok (.aload_n 0, 1) := by decide +kernel
theorem dX7_text_1 : decode cX7_text 1 = .ok (.invokevirtual 152, 3) := by decide +kernel
theorem dX7_text_4 : decode cX7_text 4 = .ok (.aload_n 0, 1) := by decide +kernel
theorem dX7_text_5 : decode cX7_text 5 = .ok (.iconst 0, 1) := by decide +kernel
theorem dX7_text_6 : decode cX7_text 6 = .ok (.putfield 212, 3) := by decide +kernel
theorem dX7_text_9 : decode cX7_text 9 = .ok (.aload_n 0, 1) := by decide +kernel
theorem dX7_text_10 : decode cX7_text 10 = .ok (.invokevirtual 241, 3) := by decide +kernel
theorem dX7_text_13 : decode cX7_text 13 = .ok (.iconst 1, 1) := by decide +kernel
theorem dX7_text_14 : decode cX7_text 14 = .ok (.istore_n 1, 1) := by decide +kernel
theorem dX7_text_15 : decode cX7_text 15 = .ok (.aload_n 0, 1) := by decide +kernel
theorem dX7_text_16 : decode cX7_text 16 = .ok (.invokevirtual 258, 3) := by decide +kernel
theorem dX7_text_19 : decode cX7_text 19 = .ok (.istore_n 2, 1) := by decide +kernel
theorem dX7_text_20 : decode cX7_text 20 = .ok (.iload_n 2, 1) := by decide +kernel
theorem dX7_text_21 : decode cX7_text 21 = .ok (.ifCond .eq 26, 3) := by decide +kernel
theorem dX7_text_24 : decode cX7_text 24 = .ok (.aload_n 0, 1) := by decide +kernel
theorem dX7_text_25 : decode cX7_text 25 = .ok (.getfield 222, 3) := by decide +kernel
theorem dX7_text_28 : decode cX7_text 28 = .ok (.iconst 3, 1) := by decide +kernel
theorem dX7_text_29 : decode cX7_text 29 = .ok (.if_icmp .ne 18, 3) := by decide +kernel
theorem dX7_text_32 : decode cX7_text 32 = .ok (.aload_n 0, 1) := by decide +kernel
theorem dX7_text_33 : decode cX7_text 33 = .ok (.invokevirtual 241, 3) := by decide +kernel
theorem dX7_text_36 : decode cX7_text 36 = .ok (.aload_n 0, 1) := by decide +kernel
theorem dX7_text_37 : decode cX7_text 37 = .ok (.invokevirtual 258, 3) := by decide +kernel
theorem dX7_text_40 : decode cX7_text 40 = .ok (.istore_n 2, 1) := by decide +kernel
theorem dX7_text_41 : decode cX7_text 41 = .ok (.iinc 1 1, 3) := by decide +kernel
theorem dX7_text_44 : decode cX7_text 44 = .ok (.goto (-24), 3) := by decide +kernel
theorem dX7_text_47 : decode cX7_text 47 = .ok (.iload_n 2, 1) := by decide +kernel
theorem dX7_text_48 : decode cX7_text 48 = .ok (.ifCond .eq 14, 3) := by decide +kernel
theorem dX7_text_51 : decode cX7_text 51 = .ok (.aload_n 0, 1) := by decide +kernel
theorem dX7_text_52 : decode cX7_text 52 = .ok (.getfield 222, 3) := by decide +kernel
theorem dX7_text_55 : decode cX7_text 55 = .ok (.ifCond .ne 7, 3) := by decide +kernel
theorem dX7_text_58 : decode cX7_text 58 = .ok (.iconst 1, 1) := by decide +kernel
theorem dX7_text_59 : decode cX7_text 59 = .ok (.goto 4, 3) := by decide +kernel
theorem dX7_text_62 : decode cX7_text 62 = .ok (.iconst 0, 1) := by decide +kernel
theorem dX7_text_63 : decode cX7_text 63 = .ok (.istore_n 2, 1) := by decide +kernel
theorem dX7_text_64 : decode cX7_text 64 = .ok (.aload_n 0, 1) := by decide +kernel
theorem dX7_text_65 : decode cX7_text 65 = .ok (.iconst 0, 1) := by decide +kernel
theorem dX7_text_66 : decode cX7_text 66 = .ok (.putfield 209, 3) := by decide +kernel
theorem dX7_text_69 : decode cX7_text 69 = .ok (.iload_n 2, 1) := by decide +kernel
theorem dX7_text_70 : decode cX7_text 70 = .ok (.ifCond .ne 14, 3) := by decide +kernel
theorem dX7_text_73 : decode cX7_text 73 = .ok (.aload_n 0, 1) := by decide +kernel
theorem dX7_text_74 : decode cX7_text 74 = .ok (.invokevirtual 155, 3) := by decide +kernel
theorem dX7_text_77 : decode cX7_text 77 = .ok (.iconst (-1), 1) := by decide +kernel
theorem dX7_text_78 : decode cX7_text 78 = .ok (.aload_n 0, 1) := by decide +kernel
theorem dX7_text_79 : decode cX7_text 79 = .ok (.getfield 215, 3) := by decide +kernel
theorem dX7_text_82 : decode cX7_text 82 = .ok (.isub, 1) := by decide +kernel
theorem dX7_text_83 : decode cX7_text 83 = .ok (.ireturn, 1) := by decide +kernel
theorem dX7_text_84 : decode cX7_text 84 = .ok (.iload_n 1, 1) := by decide +kernel
theorem dX7_text_85 : decode cX7_text 85 = .ok (.ireturn, 1) := by decide +kernel
theorem dX7_isSpot_0 : decode cX7_isSpot 0 = .ok (.iload_n 0, 1) := by decide +kernel
theorem dX7_isSpot_1 : decode cX7_isSpot 1 = .ok (.iconst 0, 1) := by decide +kernel
theorem dX7_isSpot_2 : decode cX7_isSpot 2 = .ok (.bipush 9, 2) := by decide +kernel
theorem dX7_isSpot_4 : decode cX7_isSpot 4 = .ok (.invokestatic 60, 3) := by decide +kernel
theorem dX7_isSpot_7 : decode cX7_isSpot 7 = .ok (.ireturn, 1) := by decide +kernel
theorem dX7_hold_0 : decode cX7_hold 0 = .ok (.iload_n 1, 1) := by decide +kernel
theorem dX7_hold_1 : decode cX7_hold 1 = .ok (.invokestatic 261, 3) := by decide +kernel
theorem dX7_hold_4 : decode cX7_hold 4 = .ok (.ifCond .eq 16, 3) := by decide +kernel
theorem dX7_hold_7 : decode cX7_hold 7 = .ok (.iload_n 2, 1) := by decide +kernel
theorem dX7_hold_8 : decode cX7_hold 8 = .ok (.iconst (-1), 1) := by decide +kernel
theorem dX7_hold_9 : decode cX7_hold 9 = .ok (.if_icmp .eq 17, 3) := by decide +kernel
theorem dX7_hold_12 : decode cX7_hold 12 = .ok (.aload_n 0, 1) := by decide +kernel
theorem dX7_hold_13 : decode cX7_hold 13 = .ok (.iload_n 2, 1) := by decide +kernel
theorem dX7_hold_14 : decode cX7_hold 14 = .ok (.invokevirtual 120, 3) := by decide +kernel
theorem dX7_hold_17 : decode cX7_hold 17 = .ok (.ifCond .ne 9, 3) := by decide +kernel
theorem dX7_hold_20 : decode cX7_hold 20 = .ok (.aload_n 0, 1) := by decide +kernel
theorem dX7_hold_21 : decode cX7_hold 21 = .ok (.iconst 0, 1) := by decide +kernel
theorem dX7_hold_22 : decode cX7_hold 22 = .ok (.invokevirtual 114, 3) := by decide +kernel
theorem dX7_hold_25 : decode cX7_hold 25 = .ok (.ireturn, 1) := by decide +kernel
theorem dX7_hold_26 : decode cX7_hold 26 = .ok (.aload_n 0, 1) := by decide +kernel
theorem dX7_hold_27 : decode cX7_hold 27 = .ok (.getfield 9, 3) := by decide +kernel
theorem dX7_hold_30 : decode cX7_hold 30 = .ok (.bipush 104, 2) := by decide +kernel
theorem dX7_hold_32 : decode cX7_hold 32 = .ok (.iload_n 1, 1) := by decide +kernel
theorem dX7_hold_33 : decode cX7_hold 33 = .ok (.iadd, 1) := by decide +kernel
theorem dX7_hold_34 : decode cX7_hold 34 = .ok (.iload_n 2, 1) := by decide +kernel
theorem dX7_hold_35 : decode cX7_hold 35 = .ok (.iastore, 1) := by decide +kernel
theorem dX7_hold_36 : decode cX7_hold 36 = .ok (.iconst 1, 1) := by decide +kernel
theorem dX7_hold_37 : decode cX7_hold 37 = .ok (.ireturn, 1) := by decide +kernel
theorem dX7_above_0 : decode cX7_above 0 = .ok (.iload_n 0, 1) := by decide +kernel
theorem dX7_above_1 : decode cX7_above 1 = .ok (.bipush 6, 2) := by decide +kernel
theorem dX7_above_3 : decode cX7_above 3 = .ok (.if_icmp .ne 7, 3) := by decide +kernel
theorem dX7_above_6 : decode cX7_above 6 = .ok (.iconst 5, 1) := by decide +kernel
theorem dX7_above_7 : decode cX7_above 7 = .ok (.goto 22, 3) := by decide +kernel
theorem dX7_above_10 : decode cX7_above 10 = .ok (.iload_n 0, 1) := by decide +kernel
theorem dX7_above_11 : decode cX7_above 11 = .ok (.iconst 4, 1) := by decide +kernel
theorem dX7_above_12 : decode cX7_above 12 = .ok (.if_icmp .ne 7, 3) := by decide +kernel
theorem dX7_above_15 : decode cX7_above 15 = .ok (.iconst 3, 1) := by decide +kernel
theorem dX7_above_16 : decode cX7_above 16 = .ok (.goto 13, 3) := by decide +kernel
theorem dX7_above_19 : decode cX7_above 19 = .ok (.iload_n 0, 1) := by decide +kernel
theorem dX7_above_20 : decode cX7_above 20 = .ok (.iconst 3, 1) := by decide +kernel
theorem dX7_above_21 : decode cX7_above 21 = .ok (.if_icmp .ne 7, 3) := by decide +kernel
theorem dX7_above_24 : decode cX7_above 24 = .ok (.iconst 2, 1) := by decide +kernel
theorem dX7_above_25 : decode cX7_above 25 = .ok (.goto 4, 3) := by decide +kernel
theorem dX7_above_28 : decode cX7_above 28 = .ok (.iconst 0, 1) := by decide +kernel
theorem dX7_above_29 : decode cX7_above 29 = .ok (.ireturn, 1) := by decide +kernel
theorem dX7_as_0 : decode cX7_as 0 = .ok (.iload_n 1, 1) := by decide +kernel
theorem dX7_as_1 : decode cX7_as 1 = .ok (.invokestatic 261, 3) := by decide +kernel
theorem dX7_as_4 : decode cX7_as 4 = .ok (.ifCond .eq 13, 3) := by decide +kernel
theorem dX7_as_7 : decode cX7_as 7 = .ok (.iload_n 2, 1) := by decide +kernel
theorem dX7_as_8 : decode cX7_as 8 = .ok (.iconst 0, 1) := by decide +kernel
theorem dX7_as_9 : decode cX7_as 9 = .ok (.bipush 6, 2) := by decide +kernel
theorem dX7_as_11 : decode cX7_as 11 = .ok (.invokestatic 60, 3) := by decide +kernel
theorem dX7_as_14 : decode cX7_as 14 = .ok (.ifCond .ne 9, 3) := by decide +kernel
theorem dX7_as_17 : decode cX7_as 17 = .ok (.aload_n 0, 1) := by decide +kernel
theorem dX7_as_18 : decode cX7_as 18 = .ok (.iconst 0, 1) := by decide +kernel
theorem dX7_as_19 : decode cX7_as 19 = .ok (.invokevirtual 114, 3) := by decide +kernel
theorem dX7_as_22 : decode cX7_as 22 = .ok (.ireturn, 1) := by decide +kernel
theorem dX7_as_23 : decode cX7_as 23 = .ok (.aload_n 0, 1) := by decide +kernel
theorem dX7_as_24 : decode cX7_as 24 = .ok (.getfield 9, 3) := by decide +kernel
theorem dX7_as_27 : decode cX7_as 27 = .ok (.bipush 104, 2) := by decide +kernel
theorem dX7_as_29 : decode cX7_as 29 = .ok (.iload_n 1, 1) := by decide +kernel
theorem dX7_as_30 : decode cX7_as 30 = .ok (.iadd, 1) := by decide +kernel
theorem dX7_as_31 : decode cX7_as 31 = .ok (.iaload, 1) := by decide +kernel
theorem dX7_as_32 : decode cX7_as 32 = .ok (.istore_n 3, 1) := by decide +kernel
theorem dX7_as_33 : decode cX7_as 33 = .ok (.iload_n 3, 1) := by decide +kernel
theorem dX7_as_34 : decode cX7_as 34 = .ok (.ifCond .ge 9, 3) := by decide +kernel
theorem dX7_as_37 : decode cX7_as 37 = .ok (.aload_n 0, 1) := by decide +kernel
theorem dX7_as_38 : decode cX7_as 38 = .ok (.iconst 5, 1) := by decide +kernel
theorem dX7_as_39 : decode cX7_as 39 = .ok (.invokevirtual 114, 3) := by decide +kernel
theorem dX7_as_42 : decode cX7_as 42 = .ok (.ireturn, 1) := by decide +kernel
theorem dX7_as_43 : decode cX7_as 43 = .ok (.aload_n 0, 1) := by decide +kernel
theorem dX7_as_44 : decode cX7_as 44 = .ok (.iload_n 3, 1) := by decide +kernel
theorem dX7_as_45 : decode cX7_as 45 = .ok (.iconst 0, 1) := by decide +kernel
theorem dX7_as_46 : decode cX7_as 46 = .ok (.invokevirtual 64, 3) := by decide +kernel
theorem dX7_as_49 : decode cX7_as 49 = .ok (.istore 4, 2) := by decide +kernel
theorem dX7_as_51 : decode cX7_as 51 = .ok (.iload 4, 2) := by decide +kernel
theorem dX7_as_53 : decode cX7_as 53 = .ok (.iload_n 2, 1) := by decide +kernel
theorem dX7_as_54 : decode cX7_as 54 = .ok (.if_icmp .eq 18, 3) := by decide +kernel
theorem dX7_as_57 : decode cX7_as 57 = .ok (.iload 4, 2) := by decide +kernel
theorem dX7_as_59 : decode cX7_as 59 = .ok (.ifCond .eq 13, 3) := by decide +kernel
theorem dX7_as_62 : decode cX7_as 62 = .ok (.iload 4, 2) := by decide +kernel
theorem dX7_as_64 : decode cX7_as 64 = .ok (.invokestatic 264, 3) := by decide +kernel
theorem dX7_as_67 : decode cX7_as 67 = .ok (.istore 4, 2) := by decide +kernel
theorem dX7_as_69 : decode cX7_as 69 = .ok (.goto (-18), 3) := by decide +kernel
theorem dX7_as_72 : decode cX7_as 72 = .ok (.iload 4, 2) := by decide +kernel
theorem dX7_as_74 : decode cX7_as 74 = .ok (.iload_n 2, 1) := by decide +kernel
theorem dX7_as_75 : decode cX7_as 75 = .ok (.if_icmp .ne 7, 3) := by decide +kernel
theorem dX7_as_78 : decode cX7_as 78 = .ok (.iload_n 3, 1) := by decide +kernel
theorem dX7_as_79 : decode cX7_as 79 = .ok (.goto 8, 3) := by decide +kernel
theorem dX7_as_82 : decode cX7_as 82 = .ok (.aload_n 0, 1) := by decide +kernel
theorem dX7_as_83 : decode cX7_as 83 = .ok (.iconst 2, 1) := by decide +kernel
theorem dX7_as_84 : decode cX7_as 84 = .ok (.invokevirtual 114, 3) := by decide +kernel
theorem dX7_as_87 : decode cX7_as 87 = .ok (.ireturn, 1) := by decide +kernel
theorem dX7_sheet_0 : decode cX7_sheet 0 = .ok (.iload_n 1, 1) := by decide +kernel
theorem dX7_sheet_1 : decode cX7_sheet 1 = .ok (.invokestatic 196, 3) := by decide +kernel
theorem dX7_sheet_4 : decode cX7_sheet 4 = .ok (.ifCond .eq 25, 3) := by decide +kernel
theorem dX7_sheet_7 : decode cX7_sheet 7 = .ok (.iload_n 2, 1) := by decide +kernel
theorem dX7_sheet_8 : decode cX7_sheet 8 = .ok (.ifCond .eq 27, 3) := by decide +kernel
theorem dX7_sheet_11 : decode cX7_sheet 11 = .ok (.iload_n 2, 1) := by decide +kernel
theorem dX7_sheet_12 : decode cX7_sheet 12 = .ok (.bipush 8, 2) := by decide +kernel
theorem dX7_sheet_14 : decode cX7_sheet 14 = .ok (.if_icmp .eq 21, 3) := by decide +kernel
theorem dX7_sheet_17 : decode cX7_sheet 17 = .ok (.iload_n 2, 1) := by decide +kernel
theorem dX7_sheet_18 : decode cX7_sheet 18 = .ok (.bipush 16, 2) := by decide +kernel
theorem dX7_sheet_20 : decode cX7_sheet 20 = .ok (.if_icmp .eq 15, 3) := by decide +kernel
theorem dX7_sheet_23 : decode cX7_sheet 23 = .ok (.iload_n 2, 1) := by decide +kernel
theorem dX7_sheet_24 : decode cX7_sheet 24 = .ok (.bipush 32, 2) := by decide +kernel
theorem dX7_sheet_26 : decode cX7_sheet 26 = .ok (.if_icmp .eq 9, 3) := by decide +kernel
theorem dX7_sheet_29 : decode cX7_sheet 29 = .ok (.aload_n 0, 1) := by decide +kernel
theorem dX7_sheet_30 : decode cX7_sheet 30 = .ok (.iconst 0, 1) := by decide +kernel
theorem dX7_sheet_31 : decode cX7_sheet 31 = .ok (.invokevirtual 114, 3) := by decide +kernel
theorem dX7_sheet_34 : decode cX7_sheet 34 = .ok (.ireturn, 1) := by decide +kernel
theorem dX7_sheet_35 : decode cX7_sheet 35 = .ok (.iload_n 3, 1) := by decide +kernel
theorem dX7_sheet_36 : decode cX7_sheet 36 = .ok (.ifCond .ge 10, 3) := by decide +kernel
theorem dX7_sheet_39 : decode cX7_sheet 39 = .ok (.aload_n 0, 1) := by decide +kernel
theorem dX7_sheet_40 : decode cX7_sheet 40 = .ok (.bipush 6, 2) := by decide +kernel
theorem dX7_sheet_42 : decode cX7_sheet 42 = .ok (.invokevirtual 114, 3) := by decide +kernel
theorem dX7_sheet_45 : decode cX7_sheet 45 = .ok (.ireturn, 1) := by decide +kernel
theorem dX7_sheet_46 : decode cX7_sheet 46 = .ok (.iload_n 3, 1) := by decide +kernel
theorem dX7_sheet_47 : decode cX7_sheet 47 = .ok (.bipush 40, 2) := by decide +kernel
theorem dX7_sheet_49 : decode cX7_sheet 49 = .ok (.if_icmp .le 9, 3) := by decide +kernel
theorem dX7_sheet_52 : decode cX7_sheet 52 = .ok (.aload_n 0, 1) := by decide +kernel
theorem dX7_sheet_53 : decode cX7_sheet 53 = .ok (.iconst 0, 1) := by decide +kernel
theorem dX7_sheet_54 : decode cX7_sheet 54 = .ok (.invokevirtual 114, 3) := by decide +kernel
theorem dX7_sheet_57 : decode cX7_sheet 57 = .ok (.ireturn, 1) := by decide +kernel
theorem dX7_sheet_58 : decode cX7_sheet 58 = .ok (.aload_n 0, 1) := by decide +kernel
theorem dX7_sheet_59 : decode cX7_sheet 59 = .ok (.getfield 47, 3) := by decide +kernel
theorem dX7_sheet_62 : decode cX7_sheet 62 = .ok (.iload_n 1, 1) := by decide +kernel
theorem dX7_sheet_63 : decode cX7_sheet 63 = .ok (.iload_n 2, 1) := by decide +kernel
theorem dX7_sheet_64 : decode cX7_sheet 64 = .ok (.iastore, 1) := by decide +kernel
theorem dX7_sheet_65 : decode cX7_sheet 65 = .ok (.aload_n 0, 1) := by decide +kernel
theorem dX7_sheet_66 : decode cX7_sheet 66 = .ok (.getfield 50, 3) := by decide +kernel
theorem dX7_sheet_69 : decode cX7_sheet 69 = .ok (.iload_n 1, 1) := by decide +kernel
theorem dX7_sheet_70 : decode cX7_sheet 70 = .ok (.iload_n 2, 1) := by decide +kernel
theorem dX7_sheet_71 : decode cX7_sheet 71 = .ok (.ifCond .ne 7, 3) := by decide +kernel
theorem dX7_sheet_74 : decode cX7_sheet 74 = .ok (.iconst 0, 1) := by decide +kernel
theorem dX7_sheet_75 : decode cX7_sheet 75 = .ok (.goto 4, 3) := by decide +kernel
theorem dX7_sheet_78 : decode cX7_sheet 78 = .ok (.iload_n 3, 1) := by decide +kernel
theorem dX7_sheet_79 : decode cX7_sheet 79 = .ok (.iastore, 1) := by decide +kernel
theorem dX7_sheet_80 : decode cX7_sheet 80 = .ok (.iconst 0, 1) := by decide +kernel
theorem dX7_sheet_81 : decode cX7_sheet 81 = .ok (.istore 4, 2) := by decide +kernel
theorem dX7_sheet_83 : decode cX7_sheet 83 = .ok (.iload 4, 2) := by decide +kernel
theorem dX7_sheet_85 : decode cX7_sheet 85 = .ok (.bipush 40, 2) := by decide +kernel
theorem dX7_sheet_87 : decode cX7_sheet 87 = .ok (.if_icmp .ge 22, 3) := by decide +kernel
theorem dX7_sheet_90 : decode cX7_sheet 90 = .ok (.aload_n 0, 1) := by decide +kernel
theorem dX7_sheet_91 : decode cX7_sheet 91 = .ok (.getfield 53, 3) := by decide +kernel
theorem dX7_sheet_94 : decode cX7_sheet 94 = .ok (.bipush 40, 2) := by decide +kernel
theorem dX7_sheet_96 : decode cX7_sheet 96 = .ok (.iload_n 1, 1) := by decide +kernel
theorem dX7_sheet_97 : decode cX7_sheet 97 = .ok (.imul, 1) := by decide +kernel
theorem dX7_sheet_98 : decode cX7_sheet 98 = .ok (.iload 4, 2) := by decide +kernel
theorem dX7_sheet_100 : decode cX7_sheet 100 = .ok (.iadd, 1) := by decide +kernel
theorem dX7_sheet_101 : decode cX7_sheet 101 = .ok (.iconst 0, 1) := by decide +kernel
theorem dX7_sheet_102 : decode cX7_sheet 102 = .ok (.iastore, 1) := by decide +kernel
theorem dX7_sheet_103 : decode cX7_sheet 103 = .ok (.iinc 4 1, 3) := by decide +kernel
theorem dX7_sheet_106 : decode cX7_sheet 106 = .ok (.goto (-23), 3) := by decide +kernel
theorem dX7_sheet_109 : decode cX7_sheet 109 = .ok (.aload_n 0, 1) := by decide +kernel
theorem dX7_sheet_110 : decode cX7_sheet 110 = .ok (.getfield 50, 3) := by decide +kernel
theorem dX7_sheet_113 : decode cX7_sheet 113 = .ok (.iload_n 1, 1) := by decide +kernel
theorem dX7_sheet_114 : decode cX7_sheet 114 = .ok (.iaload, 1) := by decide +kernel
theorem dX7_sheet_115 : decode cX7_sheet 115 = .ok (.ireturn, 1) := by decide +kernel
theorem dX7_write_0 : decode cX7_write 0 = .ok (.aload_n 0, 1) := by decide +kernel
theorem dX7_write_1 : decode cX7_write 1 = .ok (.iload_n 1, 1) := by decide +kernel
theorem dX7_write_2 : decode cX7_write 2 = .ok (.invokevirtual 199, 3) := by decide +kernel
theorem dX7_write_5 : decode cX7_write 5 = .ok (.istore 4, 2) := by decide +kernel
theorem dX7_write_7 : decode cX7_write 7 = .ok (.iload 4, 2) := by decide +kernel
theorem dX7_write_9 : decode cX7_write 9 = .ok (.ifCond .ge 22, 3) := by decide +kernel
theorem dX7_write_12 : decode cX7_write 12 = .ok (.iload_n 2, 1) := by decide +kernel
theorem dX7_write_13 : decode cX7_write 13 = .ok (.iconst 0, 1) := by decide +kernel
theorem dX7_write_14 : decode cX7_write 14 = .ok (.aload_n 0, 1) := by decide +kernel
theorem dX7_write_15 : decode cX7_write 15 = .ok (.getfield 50, 3) := by decide +kernel
theorem dX7_write_18 : decode cX7_write 18 = .ok (.iload_n 1, 1) := by decide +kernel
theorem dX7_write_19 : decode cX7_write 19 = .ok (.iaload, 1) := by decide +kernel
theorem dX7_write_20 : decode cX7_write 20 = .ok (.iconst 1, 1) := by decide +kernel
theorem dX7_write_21 : decode cX7_write 21 = .ok (.isub, 1) := by decide +kernel
theorem dX7_write_22 : decode cX7_write 22 = .ok (.invokestatic 60, 3) := by decide +kernel
theorem dX7_write_25 : decode cX7_write 25 = .ok (.ifCond .ne 6, 3) := by decide +kernel
theorem dX7_write_28 : decode cX7_write 28 = .ok (.iconst 0, 1) := by decide +kernel
theorem dX7_write_29 : decode cX7_write 29 = .ok (.istore 4, 2) := by decide +kernel
theorem dX7_write_31 : decode cX7_write 31 = .ok (.iload 4, 2) := by decide +kernel
theorem dX7_write_33 : decode cX7_write 33 = .ok (.ifCond .lt 10, 3) := by decide +kernel
theorem dX7_write_36 : decode cX7_write 36 = .ok (.aload_n 0, 1) := by decide +kernel
theorem dX7_write_37 : decode cX7_write 37 = .ok (.iload 4, 2) := by decide +kernel
theorem dX7_write_39 : decode cX7_write 39 = .ok (.invokevirtual 114, 3) := by decide +kernel
theorem dX7_write_42 : decode cX7_write 42 = .ok (.ireturn, 1) := by decide +kernel
theorem dX7_write_43 : decode cX7_write 43 = .ok (.aload_n 0, 1) := by decide +kernel
theorem dX7_write_44 : decode cX7_write 44 = .ok (.getfield 53, 3) := by decide +kernel
theorem dX7_write_47 : decode cX7_write 47 = .ok (.bipush 40, 2) := by decide +kernel
theorem dX7_write_49 : decode cX7_write 49 = .ok (.iload_n 1, 1) := by decide +kernel
theorem dX7_write_50 : decode cX7_write 50 = .ok (.imul, 1) := by decide +kernel
theorem dX7_write_51 : decode cX7_write 51 = .ok (.iload_n 2, 1) := by decide +kernel
theorem dX7_write_52 : decode cX7_write 52 = .ok (.iadd, 1) := by decide +kernel
theorem dX7_write_53 : decode cX7_write 53 = .ok (.aload_n 0, 1) := by decide +kernel
theorem dX7_write_54 : decode cX7_write 54 = .ok (.getfield 47, 3) := by decide +kernel
theorem dX7_write_57 : decode cX7_write 57 = .ok (.iload_n 1, 1) := by decide +kernel
theorem dX7_write_58 : decode cX7_write 58 = .ok (.iaload, 1) := by decide +kernel
theorem dX7_write_59 : decode cX7_write 59 = .ok (.bipush 8, 2) := by decide +kernel
theorem dX7_write_61 : decode cX7_write 61 = .ok (.if_icmp .ne 8, 3) := by decide +kernel
theorem dX7_write_64 : decode cX7_write 64 = .ok (.iload_n 3, 1) := by decide +kernel
theorem dX7_write_65 : decode cX7_write 65 = .ok (.i2b, 1) := by decide +kernel
theorem dX7_write_66 : decode cX7_write 66 = .ok (.goto 20, 3) := by decide +kernel
theorem dX7_write_69 : decode cX7_write 69 = .ok (.aload_n 0, 1) := by decide +kernel
theorem dX7_write_70 : decode cX7_write 70 = .ok (.getfield 47, 3) := by decide +kernel
theorem dX7_write_73 : decode cX7_write 73 = .ok (.iload_n 1, 1) := by decide +kernel
theorem dX7_write_74 : decode cX7_write 74 = .ok (.iaload, 1) := by decide +kernel
theorem dX7_write_75 : decode cX7_write 75 = .ok (.bipush 16, 2) := by decide +kernel
theorem dX7_write_77 : decode cX7_write 77 = .ok (.if_icmp .ne 8, 3) := by decide +kernel
theorem dX7_write_80 : decode cX7_write 80 = .ok (.iload_n 3, 1) := by decide +kernel
theorem dX7_write_81 : decode cX7_write 81 = .ok (.i2s, 1) := by decide +kernel
theorem dX7_write_82 : decode cX7_write 82 = .ok (.goto 4, 3) := by decide +kernel
theorem dX7_write_85 : decode cX7_write 85 = .ok (.iload_n 3, 1) := by decide +kernel
theorem dX7_write_86 : decode cX7_write 86 = .ok (.iastore, 1) := by decide +kernel
theorem dX7_write_87 : decode cX7_write 87 = .ok (.iconst 1, 1) := by decide +kernel
theorem dX7_write_88 : decode cX7_write 88 = .ok (.ireturn, 1) := by decide +kernel
theorem dX7_copy_0 : decode cX7_copy 0 = .ok (.iload_n 1, 1) := by decide +kernel
theorem dX7_copy_1 : decode cX7_copy 1 = .ok (.invokestatic 196, 3) := by decide +kernel
theorem dX7_copy_4 : decode cX7_copy 4 = .ok (.ifCond .eq 10, 3) := by decide +kernel
theorem dX7_copy_7 : decode cX7_copy 7 = .ok (.iload_n 3, 1) := by decide +kernel
theorem dX7_copy_8 : decode cX7_copy 8 = .ok (.invokestatic 196, 3) := by decide +kernel
theorem dX7_copy_11 : decode cX7_copy 11 = .ok (.ifCond .ne 9, 3) := by decide +kernel
theorem dX7_copy_14 : decode cX7_copy 14 = .ok (.aload_n 0, 1) := by decide +kernel
theorem dX7_copy_15 : decode cX7_copy 15 = .ok (.iconst 0, 1) := by decide +kernel
theorem dX7_copy_16 : decode cX7_copy 16 = .ok (.invokevirtual 114, 3) := by decide +kernel
theorem dX7_copy_19 : decode cX7_copy 19 = .ok (.ireturn, 1) := by decide +kernel
theorem dX7_copy_20 : decode cX7_copy 20 = .ok (.aload_n 0, 1) := by decide +kernel
theorem dX7_copy_21 : decode cX7_copy 21 = .ok (.getfield 47, 3) := by decide +kernel
theorem dX7_copy_24 : decode cX7_copy 24 = .ok (.iload_n 1, 1) := by decide +kernel
theorem dX7_copy_25 : decode cX7_copy 25 = .ok (.iaload, 1) := by decide +kernel
theorem dX7_copy_26 : decode cX7_copy 26 = .ok (.ifCond .eq 12, 3) := by decide +kernel
theorem dX7_copy_29 : decode cX7_copy 29 = .ok (.aload_n 0, 1) := by decide +kernel
theorem dX7_copy_30 : decode cX7_copy 30 = .ok (.getfield 47, 3) := by decide +kernel
theorem dX7_copy_33 : decode cX7_copy 33 = .ok (.iload_n 3, 1) := by decide +kernel
theorem dX7_copy_34 : decode cX7_copy 34 = .ok (.iaload, 1) := by decide +kernel
theorem dX7_copy_35 : decode cX7_copy 35 = .ok (.ifCond .ne 9, 3) := by decide +kernel
theorem dX7_copy_38 : decode cX7_copy 38 = .ok (.aload_n 0, 1) := by decide +kernel
theorem dX7_copy_39 : decode cX7_copy 39 = .ok (.iconst 5, 1) := by decide +kernel
theorem dX7_copy_40 : decode cX7_copy 40 = .ok (.invokevirtual 114, 3) := by decide +kernel
theorem dX7_copy_43 : decode cX7_copy 43 = .ok (.ireturn, 1) := by decide +kernel
theorem dX7_copy_44 : decode cX7_copy 44 = .ok (.aload_n 0, 1) := by decide +kernel
theorem dX7_copy_45 : decode cX7_copy 45 = .ok (.getfield 47, 3) := by decide +kernel
theorem dX7_copy_48 : decode cX7_copy 48 = .ok (.iload_n 1, 1) := by decide +kernel
theorem dX7_copy_49 : decode cX7_copy 49 = .ok (.iaload, 1) := by decide +kernel
theorem dX7_copy_50 : decode cX7_copy 50 = .ok (.aload_n 0, 1) := by decide +kernel
theorem dX7_copy_51 : decode cX7_copy 51 = .ok (.getfield 47, 3) := by decide +kernel
theorem dX7_copy_54 : decode cX7_copy 54 = .ok (.iload_n 3, 1) := by decide +kernel
theorem dX7_copy_55 : decode cX7_copy 55 = .ok (.iaload, 1) := by decide +kernel
theorem dX7_copy_56 : decode cX7_copy 56 = .ok (.if_icmp .eq 9, 3) := by decide +kernel
theorem dX7_copy_59 : decode cX7_copy 59 = .ok (.aload_n 0, 1) := by decide +kernel
theorem dX7_copy_60 : decode cX7_copy 60 = .ok (.iconst 2, 1) := by decide +kernel
theorem dX7_copy_61 : decode cX7_copy 61 = .ok (.invokevirtual 114, 3) := by decide +kernel
theorem dX7_copy_64 : decode cX7_copy 64 = .ok (.ireturn, 1) := by decide +kernel
theorem dX7_copy_65 : decode cX7_copy 65 = .ok (.iload 5, 2) := by decide +kernel
theorem dX7_copy_67 : decode cX7_copy 67 = .ok (.ifCond .lt 39, 3) := by decide +kernel
theorem dX7_copy_70 : decode cX7_copy 70 = .ok (.iload_n 2, 1) := by decide +kernel
theorem dX7_copy_71 : decode cX7_copy 71 = .ok (.ifCond .lt 35, 3) := by decide +kernel
theorem dX7_copy_74 : decode cX7_copy 74 = .ok (.iload 4, 2) := by decide +kernel
theorem dX7_copy_76 : decode cX7_copy 76 = .ok (.ifCond .lt 30, 3) := by decide +kernel
theorem dX7_copy_79 : decode cX7_copy 79 = .ok (.iload_n 2, 1) := by decide +kernel
theorem dX7_copy_80 : decode cX7_copy 80 = .ok (.aload_n 0, 1) := by decide +kernel
theorem dX7_copy_81 : decode cX7_copy 81 = .ok (.getfield 50, 3) := by decide +kernel
theorem dX7_copy_84 : decode cX7_copy 84 = .ok (.iload_n 1, 1) := by decide +kernel
theorem dX7_copy_85 : decode cX7_copy 85 = .ok (.iaload, 1) := by decide +kernel
theorem dX7_copy_86 : decode cX7_copy 86 = .ok (.iload 5, 2) := by decide +kernel
theorem dX7_copy_88 : decode cX7_copy 88 = .ok (.isub, 1) := by decide +kernel
theorem dX7_copy_89 : decode cX7_copy 89 = .ok (.if_icmp .gt 17, 3) := by decide +kernel
theorem dX7_copy_92 : decode cX7_copy 92 = .ok (.iload 4, 2) := by decide +kernel
theorem dX7_copy_94 : decode cX7_copy 94 = .ok (.aload_n 0, 1) := by decide +kernel
theorem dX7_copy_95 : decode cX7_copy 95 = .ok (.getfield 50, 3) := by decide +kernel
theorem dX7_copy_98 : decode cX7_copy 98 = .ok (.iload_n 3, 1) := by decide +kernel
theorem dX7_copy_99 : decode cX7_copy 99 = .ok (.iaload, 1) := by decide +kernel
theorem dX7_copy_100 : decode cX7_copy 100 = .ok (.iload 5, 2) := by decide +kernel
theorem dX7_copy_102 : decode cX7_copy 102 = .ok (.isub, 1) := by decide +kernel
theorem dX7_copy_103 : decode cX7_copy 103 = .ok (.if_icmp .le 9, 3) := by decide +kernel
theorem dX7_copy_106 : decode cX7_copy 106 = .ok (.aload_n 0, 1) := by decide +kernel
theorem dX7_copy_107 : decode cX7_copy 107 = .ok (.iconst 0, 1) := by decide +kernel
theorem dX7_copy_108 : decode cX7_copy 108 = .ok (.invokevirtual 114, 3) := by decide +kernel
theorem dX7_copy_111 : decode cX7_copy 111 = .ok (.ireturn, 1) := by decide +kernel
theorem dX7_copy_112 : decode cX7_copy 112 = .ok (.iconst 0, 1) := by decide +kernel
theorem dX7_copy_113 : decode cX7_copy 113 = .ok (.istore 6, 2) := by decide +kernel
theorem dX7_copy_115 : decode cX7_copy 115 = .ok (.iload 6, 2) := by decide +kernel
theorem dX7_copy_117 : decode cX7_copy 117 = .ok (.iload 5, 2) := by decide +kernel
theorem dX7_copy_119 : decode cX7_copy 119 = .ok (.if_icmp .ge 30, 3) := by decide +kernel
theorem dX7_copy_122 : decode cX7_copy 122 = .ok (.aload_n 0, 1) := by decide +kernel
theorem dX7_copy_123 : decode cX7_copy 123 = .ok (.getfield 56, 3) := by decide +kernel
theorem dX7_copy_126 : decode cX7_copy 126 = .ok (.iload 6, 2) := by decide +kernel
theorem dX7_copy_128 : decode cX7_copy 128 = .ok (.aload_n 0, 1) := by decide +kernel
theorem dX7_copy_129 : decode cX7_copy 129 = .ok (.getfield 53, 3) := by decide +kernel
theorem dX7_copy_132 : decode cX7_copy 132 = .ok (.bipush 40, 2) := by decide +kernel
theorem dX7_copy_134 : decode cX7_copy 134 = .ok (.iload_n 1, 1) := by decide +kernel
theorem dX7_copy_135 : decode cX7_copy 135 = .ok (.imul, 1) := by decide +kernel
theorem dX7_copy_136 : decode cX7_copy 136 = .ok (.iload_n 2, 1) := by decide +kernel
theorem dX7_copy_137 : decode cX7_copy 137 = .ok (.iadd, 1) := by decide +kernel
theorem dX7_copy_138 : decode cX7_copy 138 = .ok (.iload 6, 2) := by decide +kernel
theorem dX7_copy_140 : decode cX7_copy 140 = .ok (.iadd, 1) := by decide +kernel
theorem dX7_copy_141 : decode cX7_copy 141 = .ok (.iaload, 1) := by decide +kernel
theorem dX7_copy_142 : decode cX7_copy 142 = .ok (.iastore, 1) := by decide +kernel
theorem dX7_copy_143 : decode cX7_copy 143 = .ok (.iinc 6 1, 3) := by decide +kernel
theorem dX7_copy_146 : decode cX7_copy 146 = .ok (.goto (-31), 3) := by decide +kernel
theorem dX7_copy_149 : decode cX7_copy 149 = .ok (.iconst 0, 1) := by decide +kernel
theorem dX7_copy_150 : decode cX7_copy 150 = .ok (.istore 6, 2) := by decide +kernel
theorem dX7_copy_152 : decode cX7_copy 152 = .ok (.iload 6, 2) := by decide +kernel
theorem dX7_copy_154 : decode cX7_copy 154 = .ok (.iload 5, 2) := by decide +kernel
theorem dX7_copy_156 : decode cX7_copy 156 = .ok (.if_icmp .ge 31, 3) := by decide +kernel
theorem dX7_copy_159 : decode cX7_copy 159 = .ok (.aload_n 0, 1) := by decide +kernel
theorem dX7_copy_160 : decode cX7_copy 160 = .ok (.getfield 53, 3) := by decide +kernel
theorem dX7_copy_163 : decode cX7_copy 163 = .ok (.bipush 40, 2) := by decide +kernel
theorem dX7_copy_165 : decode cX7_copy 165 = .ok (.iload_n 3, 1) := by decide +kernel
theorem dX7_copy_166 : decode cX7_copy 166 = .ok (.imul, 1) := by decide +kernel
theorem dX7_copy_167 : decode cX7_copy 167 = .ok (.iload 4, 2) := by decide +kernel
theorem dX7_copy_169 : decode cX7_copy 169 = .ok (.iadd, 1) := by decide +kernel
theorem dX7_copy_170 : decode cX7_copy 170 = .ok (.iload 6, 2) := by decide +kernel
theorem dX7_copy_172 : decode cX7_copy 172 = .ok (.iadd, 1) := by decide +kernel
theorem dX7_copy_173 : decode cX7_copy 173 = .ok (.aload_n 0, 1) := by decide +kernel
theorem dX7_copy_174 : decode cX7_copy 174 = .ok (.getfield 56, 3) := by decide +kernel
theorem dX7_copy_177 : decode cX7_copy 177 = .ok (.iload 6, 2) := by decide +kernel
theorem dX7_copy_179 : decode cX7_copy 179 = .ok (.iaload, 1) := by decide +kernel
theorem dX7_copy_180 : decode cX7_copy 180 = .ok (.iastore, 1) := by decide +kernel
theorem dX7_copy_181 : decode cX7_copy 181 = .ok (.iinc 6 1, 3) := by decide +kernel
theorem dX7_copy_184 : decode cX7_copy 184 = .ok (.goto (-32), 3) := by decide +kernel
theorem dX7_copy_187 : decode cX7_copy 187 = .ok (.iload 5, 2) := by decide +kernel
theorem dX7_copy_189 : decode cX7_copy 189 = .ok (.ireturn, 1) := by decide +kernel
theorem dX7_load_0 : decode cX7_load 0 = .ok (.aload_n 0, 1) := by decide +kernel
theorem dX7_load_1 : decode cX7_load 1 = .ok (.iload_n 1, 1) := by decide +kernel
theorem dX7_load_2 : decode cX7_load 2 = .ok (.invokevirtual 199, 3) := by decide +kernel
theorem dX7_load_5 : decode cX7_load 5 = .ok (.istore_n 2, 1) := by decide +kernel
theorem dX7_load_6 : decode cX7_load 6 = .ok (.iload_n 2, 1) := by decide +kernel
theorem dX7_load_7 : decode cX7_load 7 = .ok (.ifCond .lt 9, 3) := by decide +kernel
theorem dX7_load_10 : decode cX7_load 10 = .ok (.aload_n 0, 1) := by decide +kernel
theorem dX7_load_11 : decode cX7_load 11 = .ok (.iload_n 2, 1) := by decide +kernel
theorem dX7_load_12 : decode cX7_load 12 = .ok (.invokevirtual 114, 3) := by decide +kernel
theorem dX7_load_15 : decode cX7_load 15 = .ok (.ireturn, 1) := by decide +kernel
theorem dX7_load_16 : decode cX7_load 16 = .ok (.iconst 0, 1) := by decide +kernel
theorem dX7_load_17 : decode cX7_load 17 = .ok (.istore_n 3, 1) := by decide +kernel
theorem dX7_load_18 : decode cX7_load 18 = .ok (.iload_n 3, 1) := by decide +kernel
theorem dX7_load_19 : decode cX7_load 19 = .ok (.aload_n 0, 1) := by decide +kernel
theorem dX7_load_20 : decode cX7_load 20 = .ok (.getfield 50, 3) := by decide +kernel
theorem dX7_load_23 : decode cX7_load 23 = .ok (.iload_n 1, 1) := by decide +kernel
theorem dX7_load_24 : decode cX7_load 24 = .ok (.iaload, 1) := by decide +kernel
theorem dX7_load_25 : decode cX7_load 25 = .ok (.if_icmp .ge 54, 3) := by decide +kernel
theorem dX7_load_28 : decode cX7_load 28 = .ok (.aload_n 0, 1) := by decide +kernel
theorem dX7_load_29 : decode cX7_load 29 = .ok (.iload_n 3, 1) := by decide +kernel
theorem dX7_load_30 : decode cX7_load 30 = .ok (.invokevirtual 120, 3) := by decide +kernel
theorem dX7_load_33 : decode cX7_load 33 = .ok (.ifCond .eq 46, 3) := by decide +kernel
theorem dX7_load_36 : decode cX7_load 36 = .ok (.aload_n 0, 1) := by decide +kernel
theorem dX7_load_37 : decode cX7_load 37 = .ok (.getfield 53, 3) := by decide +kernel
theorem dX7_load_40 : decode cX7_load 40 = .ok (.bipush 40, 2) := by decide +kernel
theorem dX7_load_42 : decode cX7_load 42 = .ok (.iload_n 1, 1) := by decide +kernel
theorem dX7_load_43 : decode cX7_load 43 = .ok (.imul, 1) := by decide +kernel
theorem dX7_load_44 : decode cX7_load 44 = .ok (.iload_n 3, 1) := by decide +kernel
theorem dX7_load_45 : decode cX7_load 45 = .ok (.iadd, 1) := by decide +kernel
theorem dX7_load_46 : decode cX7_load 46 = .ok (.iaload, 1) := by decide +kernel
theorem dX7_load_47 : decode cX7_load 47 = .ok (.iconst 0, 1) := by decide +kernel
theorem dX7_load_48 : decode cX7_load 48 = .ok (.bipush 99, 2) := by decide +kernel
theorem dX7_load_50 : decode cX7_load 50 = .ok (.invokestatic 60, 3) := by decide +kernel
theorem dX7_load_53 : decode cX7_load 53 = .ok (.ifCond .eq 26, 3) := by decide +kernel
theorem dX7_load_56 : decode cX7_load 56 = .ok (.aload_n 0, 1) := by decide +kernel
theorem dX7_load_57 : decode cX7_load 57 = .ok (.iload_n 3, 1) := by decide +kernel
theorem dX7_load_58 : decode cX7_load 58 = .ok (.iconst 3, 1) := by decide +kernel
theorem dX7_load_59 : decode cX7_load 59 = .ok (.aload_n 0, 1) := by decide +kernel
theorem dX7_load_60 : decode cX7_load 60 = .ok (.getfield 53, 3) := by decide +kernel
theorem dX7_load_63 : decode cX7_load 63 = .ok (.bipush 40, 2) := by decide +kernel
theorem dX7_load_65 : decode cX7_load 65 = .ok (.iload_n 1, 1) := by decide +kernel
theorem dX7_load_66 : decode cX7_load 66 = .ok (.imul, 1) := by decide +kernel
theorem dX7_load_67 : decode cX7_load 67 = .ok (.iload_n 3, 1) := by decide +kernel
theorem dX7_load_68 : decode cX7_load 68 = .ok (.iadd, 1) := by decide +kernel
theorem dX7_load_69 : decode cX7_load 69 = .ok (.iaload, 1) := by decide +kernel
theorem dX7_load_70 : decode cX7_load 70 = .ok (.invokevirtual 100, 3) := by decide +kernel
theorem dX7_load_73 : decode cX7_load 73 = .ok (.iinc 3 1, 3) := by decide +kernel
theorem dX7_load_76 : decode cX7_load 76 = .ok (.goto (-58), 3) := by decide +kernel
theorem dX7_load_79 : decode cX7_load 79 = .ok (.iload_n 3, 1) := by decide +kernel
theorem dX7_load_80 : decode cX7_load 80 = .ok (.ireturn, 1) := by decide +kernel
theorem dX7_judge_0 : decode cX7_judge 0 = .ok (.aload_n 0, 1) := by decide +kernel
theorem dX7_judge_1 : decode cX7_judge 1 = .ok (.iload_n 1, 1) := by decide +kernel
theorem dX7_judge_2 : decode cX7_judge 2 = .ok (.invokevirtual 199, 3) := by decide +kernel
theorem dX7_judge_5 : decode cX7_judge 5 = .ok (.istore_n 2, 1) := by decide +kernel
theorem dX7_judge_6 : decode cX7_judge 6 = .ok (.iload_n 2, 1) := by decide +kernel
theorem dX7_judge_7 : decode cX7_judge 7 = .ok (.ifCond .lt 9, 3) := by decide +kernel
theorem dX7_judge_10 : decode cX7_judge 10 = .ok (.aload_n 0, 1) := by decide +kernel
theorem dX7_judge_11 : decode cX7_judge 11 = .ok (.iload_n 2, 1) := by decide +kernel
theorem dX7_judge_12 : decode cX7_judge 12 = .ok (.invokevirtual 114, 3) := by decide +kernel
theorem dX7_judge_15 : decode cX7_judge 15 = .ok (.ireturn, 1) := by decide +kernel
theorem dX7_judge_16 : decode cX7_judge 16 = .ok (.iconst 1, 1) := by decide +kernel
theorem dX7_judge_17 : decode cX7_judge 17 = .ok (.istore_n 3, 1) := by decide +kernel
theorem dX7_judge_18 : decode cX7_judge 18 = .ok (.iconst 0, 1) := by decide +kernel
theorem dX7_judge_19 : decode cX7_judge 19 = .ok (.istore 4, 2) := by decide +kernel
theorem dX7_judge_21 : decode cX7_judge 21 = .ok (.iload 4, 2) := by decide +kernel
theorem dX7_judge_23 : decode cX7_judge 23 = .ok (.aload_n 0, 1) := by decide +kernel
theorem dX7_judge_24 : decode cX7_judge 24 = .ok (.getfield 50, 3) := by decide +kernel
theorem dX7_judge_27 : decode cX7_judge 27 = .ok (.iload_n 1, 1) := by decide +kernel
theorem dX7_judge_28 : decode cX7_judge 28 = .ok (.iaload, 1) := by decide +kernel
theorem dX7_judge_29 : decode cX7_judge 29 = .ok (.if_icmp .ge 38, 3) := by decide +kernel
theorem dX7_judge_32 : decode cX7_judge 32 = .ok (.iload_n 3, 1) := by decide +kernel
theorem dX7_judge_33 : decode cX7_judge 33 = .ok (.ifCond .eq 26, 3) := by decide +kernel
theorem dX7_judge_36 : decode cX7_judge 36 = .ok (.aload_n 0, 1) := by decide +kernel
theorem dX7_judge_37 : decode cX7_judge 37 = .ok (.aload_n 0, 1) := by decide +kernel
theorem dX7_judge_38 : decode cX7_judge 38 = .ok (.getfield 53, 3) := by decide +kernel
theorem dX7_judge_41 : decode cX7_judge 41 = .ok (.bipush 40, 2) := by decide +kernel
theorem dX7_judge_43 : decode cX7_judge 43 = .ok (.iload_n 1, 1) := by decide +kernel
theorem dX7_judge_44 : decode cX7_judge 44 = .ok (.imul, 1) := by decide +kernel
theorem dX7_judge_45 : decode cX7_judge 45 = .ok (.iload 4, 2) := by decide +kernel
theorem dX7_judge_47 : decode cX7_judge 47 = .ok (.iadd, 1) := by decide +kernel
theorem dX7_judge_48 : decode cX7_judge 48 = .ok (.iaload, 1) := by decide +kernel
theorem dX7_judge_49 : decode cX7_judge 49 = .ok (.invokevirtual 126, 3) := by decide +kernel
theorem dX7_judge_52 : decode cX7_judge 52 = .ok (.ifCond .eq 7, 3) := by decide +kernel
theorem dX7_judge_55 : decode cX7_judge 55 = .ok (.iconst 1, 1) := by decide +kernel
theorem dX7_judge_56 : decode cX7_judge 56 = .ok (.goto 4, 3) := by decide +kernel
theorem dX7_judge_59 : decode cX7_judge 59 = .ok (.iconst 0, 1) := by decide +kernel
theorem dX7_judge_60 : decode cX7_judge 60 = .ok (.istore_n 3, 1) := by decide +kernel
theorem dX7_judge_61 : decode cX7_judge 61 = .ok (.iinc 4 1, 3) := by decide +kernel
theorem dX7_judge_64 : decode cX7_judge 64 = .ok (.goto (-43), 3) := by decide +kernel
theorem dX7_judge_67 : decode cX7_judge 67 = .ok (.iload_n 3, 1) := by decide +kernel
theorem dX7_judge_68 : decode cX7_judge 68 = .ok (.ifCond .ne 9, 3) := by decide +kernel
theorem dX7_judge_71 : decode cX7_judge 71 = .ok (.aload_n 0, 1) := by decide +kernel
theorem dX7_judge_72 : decode cX7_judge 72 = .ok (.iconst 4, 1) := by decide +kernel
theorem dX7_judge_73 : decode cX7_judge 73 = .ok (.invokevirtual 114, 3) := by decide +kernel
theorem dX7_judge_76 : decode cX7_judge 76 = .ok (.ireturn, 1) := by decide +kernel
theorem dX7_judge_77 : decode cX7_judge 77 = .ok (.aload_n 0, 1) := by decide +kernel
theorem dX7_judge_78 : decode cX7_judge 78 = .ok (.invokevirtual 152, 3) := by decide +kernel
theorem dX7_judge_81 : decode cX7_judge 81 = .ok (.iconst 0, 1) := by decide +kernel
theorem dX7_judge_82 : decode cX7_judge 82 = .ok (.istore 4, 2) := by decide +kernel
theorem dX7_judge_84 : decode cX7_judge 84 = .ok (.iconst 0, 1) := by decide +kernel
theorem dX7_judge_85 : decode cX7_judge 85 = .ok (.istore 5, 2) := by decide +kernel
theorem dX7_judge_87 : decode cX7_judge 87 = .ok (.iload 5, 2) := by decide +kernel
theorem dX7_judge_89 : decode cX7_judge 89 = .ok (.aload_n 0, 1) := by decide +kernel
theorem dX7_judge_90 : decode cX7_judge 90 = .ok (.getfield 50, 3) := by decide +kernel
theorem dX7_judge_93 : decode cX7_judge 93 = .ok (.iload_n 1, 1) := by decide +kernel
theorem dX7_judge_94 : decode cX7_judge 94 = .ok (.iaload, 1) := by decide +kernel
theorem dX7_judge_95 : decode cX7_judge 95 = .ok (.if_icmp .ge 38, 3) := by decide +kernel
theorem dX7_judge_98 : decode cX7_judge 98 = .ok (.iload 4, 2) := by decide +kernel
theorem dX7_judge_100 : decode cX7_judge 100 = .ok (.aload_n 0, 1) := by decide +kernel
theorem dX7_judge_101 : decode cX7_judge 101 = .ok (.aload_n 0, 1) := by decide +kernel
theorem dX7_judge_102 : decode cX7_judge 102 = .ok (.getfield 53, 3) := by decide +kernel
theorem dX7_judge_105 : decode cX7_judge 105 = .ok (.bipush 40, 2) := by decide +kernel
theorem dX7_judge_107 : decode cX7_judge 107 = .ok (.iload_n 1, 1) := by decide +kernel
theorem dX7_judge_108 : decode cX7_judge 108 = .ok (.imul, 1) := by decide +kernel
theorem dX7_judge_109 : decode cX7_judge 109 = .ok (.iload 5, 2) := by decide +kernel
theorem dX7_judge_111 : decode cX7_judge 111 = .ok (.iadd, 1) := by decide +kernel
theorem dX7_judge_112 : decode cX7_judge 112 = .ok (.iaload, 1) := by decide +kernel
theorem dX7_judge_113 : decode cX7_judge 113 = .ok (.invokevirtual 136, 3) := by decide +kernel
theorem dX7_judge_116 : decode cX7_judge 116 = .ok (.ifCond .eq 7, 3) := by decide +kernel
theorem dX7_judge_119 : decode cX7_judge 119 = .ok (.iconst 1, 1) := by decide +kernel
theorem dX7_judge_120 : decode cX7_judge 120 = .ok (.goto 4, 3) := by decide +kernel
theorem dX7_judge_123 : decode cX7_judge 123 = .ok (.iconst 0, 1) := by decide +kernel
theorem dX7_judge_124 : decode cX7_judge 124 = .ok (.iadd, 1) := by decide +kernel
theorem dX7_judge_125 : decode cX7_judge 125 = .ok (.istore 4, 2) := by decide +kernel
theorem dX7_judge_127 : decode cX7_judge 127 = .ok (.iinc 5 1, 3) := by decide +kernel
theorem dX7_judge_130 : decode cX7_judge 130 = .ok (.goto (-43), 3) := by decide +kernel
theorem dX7_judge_133 : decode cX7_judge 133 = .ok (.aload_n 0, 1) := by decide +kernel
theorem dX7_judge_134 : decode cX7_judge 134 = .ok (.invokevirtual 155, 3) := by decide +kernel
theorem dX7_judge_137 : decode cX7_judge 137 = .ok (.iload 4, 2) := by decide +kernel
theorem dX7_judge_139 : decode cX7_judge 139 = .ok (.ireturn, 1) := by decide +kernel
theorem dX7_image_0 : decode cX7_image 0 = .ok (.iconst 0, 1) := by decide +kernel
theorem dX7_image_1 : decode cX7_image 1 = .ok (.istore_n 1, 1) := by decide +kernel
theorem dX7_image_2 : decode cX7_image 2 = .ok (.iload_n 1, 1) := by decide +kernel
theorem dX7_image_3 : decode cX7_image 3 = .ok (.bipush 114, 2) := by decide +kernel
theorem dX7_image_5 : decode cX7_image 5 = .ok (.if_icmp .ge 21, 3) := by decide +kernel
theorem dX7_image_8 : decode cX7_image 8 = .ok (.aload_n 0, 1) := by decide +kernel
theorem dX7_image_9 : decode cX7_image 9 = .ok (.getfield 13, 3) := by decide +kernel
theorem dX7_image_12 : decode cX7_image 12 = .ok (.iload_n 1, 1) := by decide +kernel
theorem dX7_image_13 : decode cX7_image 13 = .ok (.aload_n 0, 1) := by decide +kernel
theorem dX7_image_14 : decode cX7_image 14 = .ok (.getfield 9, 3) := by decide +kernel
theorem dX7_image_17 : decode cX7_image 17 = .ok (.iload_n 1, 1) := by decide +kernel
theorem dX7_image_18 : decode cX7_image 18 = .ok (.iaload, 1) := by decide +kernel
theorem dX7_image_19 : decode cX7_image 19 = .ok (.iastore, 1) := by decide +kernel
theorem dX7_image_20 : decode cX7_image 20 = .ok (.iinc 1 1, 3) := by decide +kernel
theorem dX7_image_23 : decode cX7_image 23 = .ok (.goto (-21), 3) := by decide +kernel
theorem dX7_image_26 : decode cX7_image 26 = .ok (.aload_n 0, 1) := by decide +kernel
theorem dX7_image_27 : decode cX7_image 27 = .ok (.iconst 1, 1) := by decide +kernel
theorem dX7_image_28 : decode cX7_image 28 = .ok (.putfield 267, 3) := by decide +kernel
theorem dX7_image_31 : decode cX7_image 31 = .ok (.iconst 1, 1) := by decide +kernel
theorem dX7_image_32 : decode cX7_image 32 = .ok (.ireturn, 1) := by decide +kernel
theorem dX7_undo_0 : decode cX7_undo 0 = .ok (.aload_n 0, 1) := by decide +kernel
theorem dX7_undo_1 : decode cX7_undo 1 = .ok (.getfield 267, 3) := by decide +kernel
theorem dX7_undo_4 : decode cX7_undo 4 = .ok (.ifCond .ne 9, 3) := by decide +kernel
theorem dX7_undo_7 : decode cX7_undo 7 = .ok (.aload_n 0, 1) := by decide +kernel
theorem dX7_undo_8 : decode cX7_undo 8 = .ok (.iconst 3, 1) := by decide +kernel
theorem dX7_undo_9 : decode cX7_undo 9 = .ok (.invokevirtual 114, 3) := by decide +kernel
theorem dX7_undo_12 : decode cX7_undo 12 = .ok (.ireturn, 1) := by decide +kernel
theorem dX7_undo_13 : decode cX7_undo 13 = .ok (.iconst 0, 1) := by decide +kernel
theorem dX7_undo_14 : decode cX7_undo 14 = .ok (.istore_n 1, 1) := by decide +kernel
theorem dX7_undo_15 : decode cX7_undo 15 = .ok (.iload_n 1, 1) := by decide +kernel
theorem dX7_undo_16 : decode cX7_undo 16 = .ok (.bipush 114, 2) := by decide +kernel
theorem dX7_undo_18 : decode cX7_undo 18 = .ok (.if_icmp .ge 21, 3) := by decide +kernel
theorem dX7_undo_21 : decode cX7_undo 21 = .ok (.aload_n 0, 1) := by decide +kernel
theorem dX7_undo_22 : decode cX7_undo 22 = .ok (.getfield 9, 3) := by decide +kernel
theorem dX7_undo_25 : decode cX7_undo 25 = .ok (.iload_n 1, 1) := by decide +kernel
theorem dX7_undo_26 : decode cX7_undo 26 = .ok (.aload_n 0, 1) := by decide +kernel
theorem dX7_undo_27 : decode cX7_undo 27 = .ok (.getfield 13, 3) := by decide +kernel
theorem dX7_undo_30 : decode cX7_undo 30 = .ok (.iload_n 1, 1) := by decide +kernel
theorem dX7_undo_31 : decode cX7_undo 31 = .ok (.iaload, 1) := by decide +kernel
theorem dX7_undo_32 : decode cX7_undo 32 = .ok (.iastore, 1) := by decide +kernel
theorem dX7_undo_33 : decode cX7_undo 33 = .ok (.iinc 1 1, 3) := by decide +kernel
theorem dX7_undo_36 : decode cX7_undo 36 = .ok (.goto (-21), 3) := by decide +kernel
theorem dX7_undo_39 : decode cX7_undo 39 = .ok (.aload_n 0, 1) := by decide +kernel
theorem dX7_undo_40 : decode cX7_undo 40 = .ok (.getfield 9, 3) := by decide +kernel
theorem dX7_undo_43 : decode cX7_undo 43 = .ok (.iconst 0, 1) := by decide +kernel
theorem dX7_undo_44 : decode cX7_undo 44 = .ok (.iaload, 1) := by decide +kernel
theorem dX7_undo_45 : decode cX7_undo 45 = .ok (.ireturn, 1) := by decide +kernel
theorem dX7_tear_0 : decode cX7_tear 0 = .ok (.aload_n 0, 1) := by decide +kernel
theorem dX7_tear_1 : decode cX7_tear 1 = .ok (.getfield 267, 3) := by decide +kernel
theorem dX7_tear_4 : decode cX7_tear 4 = .ok (.ifCond .eq 7, 3) := by decide +kernel
theorem dX7_tear_7 : decode cX7_tear 7 = .ok (.iconst 1, 1) := by decide +kernel
theorem dX7_tear_8 : decode cX7_tear 8 = .ok (.goto 4, 3) := by decide +kernel
theorem dX7_tear_11 : decode cX7_tear 11 = .ok (.iconst 0, 1) := by decide +kernel
theorem dX7_tear_12 : decode cX7_tear 12 = .ok (.istore_n 1, 1) := by decide +kernel
theorem dX7_tear_13 : decode cX7_tear 13 = .ok (.aload_n 0, 1) := by decide +kernel
theorem dX7_tear_14 : decode cX7_tear 14 = .ok (.iconst 0, 1) := by decide +kernel
theorem dX7_tear_15 : decode cX7_tear 15 = .ok (.putfield 267, 3) := by decide +kernel
theorem dX7_tear_18 : decode cX7_tear 18 = .ok (.iload_n 1, 1) := by decide +kernel
theorem dX7_tear_19 : decode cX7_tear 19 = .ok (.ireturn, 1) := by decide +kernel
theorem dX7_count_0 : decode cX7_count 0 = .ok (.iconst 0, 1) := by decide +kernel
theorem dX7_count_1 : decode cX7_count 1 = .ok (.istore_n 2, 1) := by decide +kernel
theorem dX7_count_2 : decode cX7_count 2 = .ok (.iload_n 1, 1) := by decide +kernel
theorem dX7_count_3 : decode cX7_count 3 = .ok (.tableswitch 127 0 7 #[45, 52, 59, 66, 74, 79, 84, 91], 45) := by decide +kernel
theorem dX7_count_48 : decode cX7_count 48 = .ok (.aload_n 0, 1) := by decide +kernel
theorem dX7_count_49 : decode cX7_count 49 = .ok (.getfield 9, 3) := by decide +kernel
theorem dX7_count_52 : decode cX7_count 52 = .ok (.iconst 0, 1) := by decide +kernel
theorem dX7_count_53 : decode cX7_count 53 = .ok (.iaload, 1) := by decide +kernel
theorem dX7_count_54 : decode cX7_count 54 = .ok (.ireturn, 1) := by decide +kernel
theorem dX7_count_55 : decode cX7_count 55 = .ok (.aload_n 0, 1) := by decide +kernel
theorem dX7_count_56 : decode cX7_count 56 = .ok (.getfield 9, 3) := by decide +kernel
theorem dX7_count_59 : decode cX7_count 59 = .ok (.iconst 1, 1) := by decide +kernel
theorem dX7_count_60 : decode cX7_count 60 = .ok (.iaload, 1) := by decide +kernel
theorem dX7_count_61 : decode cX7_count 61 = .ok (.ireturn, 1) := by decide +kernel
theorem dX7_count_62 : decode cX7_count 62 = .ok (.aload_n 0, 1) := by decide +kernel
theorem dX7_count_63 : decode cX7_count 63 = .ok (.getfield 9, 3) := by decide +kernel
theorem dX7_count_66 : decode cX7_count 66 = .ok (.iconst 2, 1) := by decide +kernel
theorem dX7_count_67 : decode cX7_count 67 = .ok (.iaload, 1) := by decide +kernel
theorem dX7_count_68 : decode cX7_count 68 = .ok (.ireturn, 1) := by decide +kernel
theorem dX7_count_69 : decode cX7_count 69 = .ok (.aload_n 0, 1) := by decide +kernel
theorem dX7_count_70 : decode cX7_count 70 = .ok (.invokevirtual 146, 3) := by decide +kernel
theorem dX7_count_73 : decode cX7_count 73 = .ok (.invokestatic 158, 3) := by decide +kernel
theorem dX7_count_76 : decode cX7_count 76 = .ok (.ireturn, 1) := by decide +kernel
theorem dX7_count_77 : decode cX7_count 77 = .ok (.aload_n 0, 1) := by decide +kernel
theorem dX7_count_78 : decode cX7_count 78 = .ok (.invokevirtual 143, 3) := by decide +kernel
theorem dX7_count_81 : decode cX7_count 81 = .ok (.ireturn, 1) := by decide +kernel
theorem dX7_count_82 : decode cX7_count 82 = .ok (.aload_n 0, 1) := by decide +kernel
theorem dX7_count_83 : decode cX7_count 83 = .ok (.getfield 209, 3) := by decide +kernel
theorem dX7_count_86 : decode cX7_count 86 = .ok (.ireturn, 1) := by decide +kernel
theorem dX7_count_87 : decode cX7_count 87 = .ok (.aload_n 0, 1) := by decide +kernel
theorem dX7_count_88 : decode cX7_count 88 = .ok (.getfield 9, 3) := by decide +kernel
theorem dX7_count_91 : decode cX7_count 91 = .ok (.iconst 3, 1) := by decide +kernel
theorem dX7_count_92 : decode cX7_count 92 = .ok (.iaload, 1) := by decide +kernel
theorem dX7_count_93 : decode cX7_count 93 = .ok (.ireturn, 1) := by decide +kernel
theorem dX7_count_94 : decode cX7_count 94 = .ok (.iconst 0, 1) := by decide +kernel
theorem dX7_count_95 : decode cX7_count 95 = .ok (.istore_n 3, 1) := by decide +kernel
theorem dX7_count_96 : decode cX7_count 96 = .ok (.iload_n 3, 1) := by decide +kernel
theorem dX7_count_97 : decode cX7_count 97 = .ok (.bipush 10, 2) := by decide +kernel
theorem dX7_count_99 : decode cX7_count 99 = .ok (.if_icmp .ge 29, 3) := by decide +kernel
theorem dX7_count_102 : decode cX7_count 102 = .ok (.iload_n 2, 1) := by decide +kernel
theorem dX7_count_103 : decode cX7_count 103 = .ok (.aload_n 0, 1) := by decide +kernel
theorem dX7_count_104 : decode cX7_count 104 = .ok (.getfield 9, 3) := by decide +kernel
theorem dX7_count_107 : decode cX7_count 107 = .ok (.bipush 104, 2) := by decide +kernel
theorem dX7_count_109 : decode cX7_count 109 = .ok (.iload_n 3, 1) := by decide +kernel
theorem dX7_count_110 : decode cX7_count 110 = .ok (.iadd, 1) := by decide +kernel
theorem dX7_count_111 : decode cX7_count 111 = .ok (.iaload, 1) := by decide +kernel
theorem dX7_count_112 : decode cX7_count 112 = .ok (.ifCond .lt 7, 3) := by decide +kernel
theorem dX7_count_115 : decode cX7_count 115 = .ok (.iconst 1, 1) := by decide +kernel
theorem dX7_count_116 : decode cX7_count 116 = .ok (.goto 4, 3) := by decide +kernel
theorem dX7_count_119 : decode cX7_count 119 = .ok (.iconst 0, 1) := by decide +kernel
theorem dX7_count_120 : decode cX7_count 120 = .ok (.iadd, 1) := by decide +kernel
theorem dX7_count_121 : decode cX7_count 121 = .ok (.istore_n 2, 1) := by decide +kernel
theorem dX7_count_122 : decode cX7_count 122 = .ok (.iinc 3 1, 3) := by decide +kernel
theorem dX7_count_125 : decode cX7_count 125 = .ok (.goto (-29), 3) := by decide +kernel
theorem dX7_count_128 : decode cX7_count 128 = .ok (.iload_n 2, 1) := by decide +kernel
theorem dX7_count_129 : decode cX7_count 129 = .ok (.ireturn, 1) := by decide +kernel
theorem dX7_count_130 : decode cX7_count 130 = .ok (.aload_n 0, 1) := by decide +kernel
theorem dX7_count_131 : decode cX7_count 131 = .ok (.iconst 0, 1) := by decide +kernel
theorem dX7_count_132 : decode cX7_count 132 = .ok (.invokevirtual 114, 3) := by decide +kernel
theorem dX7_count_135 : decode cX7_count 135 = .ok (.ireturn, 1) := by decide +kernel
theorem dX7_status_0 : decode cX7_status 0 = .ok (.iload_n 1, 1) := by decide +kernel
theorem dX7_status_1 : decode cX7_status 1 = .ok (.iconst (-1), 1) := by decide +kernel
theorem dX7_status_2 : decode cX7_status 2 = .ok (.bipush 6, 2) := by decide +kernel
theorem dX7_status_4 : decode cX7_status 4 = .ok (.invokestatic 60, 3) := by decide +kernel
theorem dX7_status_7 : decode cX7_status 7 = .ok (.ifCond .ne 9, 3) := by decide +kernel
theorem dX7_status_10 : decode cX7_status 10 = .ok (.aload_n 0, 1) := by decide +kernel
theorem dX7_status_11 : decode cX7_status 11 = .ok (.iconst 0, 1) := by decide +kernel
theorem dX7_status_12 : decode cX7_status 12 = .ok (.invokevirtual 114, 3) := by decide +kernel
theorem dX7_status_15 : decode cX7_status 15 = .ok (.ireturn, 1) := by decide +kernel
theorem dX7_status_16 : decode cX7_status 16 = .ok (.iconst 0, 1) := by decide +kernel
theorem dX7_status_17 : decode cX7_status 17 = .ok (.istore_n 2, 1) := by decide +kernel
theorem dX7_status_18 : decode cX7_status 18 = .ok (.iconst 0, 1) := by decide +kernel
theorem dX7_status_19 : decode cX7_status 19 = .ok (.istore_n 3, 1) := by decide +kernel
theorem dX7_status_20 : decode cX7_status 20 = .ok (.iload_n 3, 1) := by decide +kernel
theorem dX7_status_21 : decode cX7_status 21 = .ok (.bipush 7, 2) := by decide +kernel
theorem dX7_status_23 : decode cX7_status 23 = .ok (.if_icmp .ge 32, 3) := by decide +kernel
theorem dX7_status_26 : decode cX7_status 26 = .ok (.iload_n 2, 1) := by decide +kernel
theorem dX7_status_27 : decode cX7_status 27 = .ok (.iload_n 1, 1) := by decide +kernel
theorem dX7_status_28 : decode cX7_status 28 = .ok (.iconst (-1), 1) := by decide +kernel
theorem dX7_status_29 : decode cX7_status 29 = .ok (.if_icmp .eq 8, 3) := by decide +kernel
theorem dX7_status_32 : decode cX7_status 32 = .ok (.iload_n 1, 1) := by decide +kernel
theorem dX7_status_33 : decode cX7_status 33 = .ok (.iload_n 3, 1) := by decide +kernel
theorem dX7_status_34 : decode cX7_status 34 = .ok (.if_icmp .ne 12, 3) := by decide +kernel
theorem dX7_status_37 : decode cX7_status 37 = .ok (.aload_n 0, 1) := by decide +kernel
theorem dX7_status_38 : decode cX7_status 38 = .ok (.getfield 19, 3) := by decide +kernel
theorem dX7_status_41 : decode cX7_status 41 = .ok (.iload_n 3, 1) := by decide +kernel
theorem dX7_status_42 : decode cX7_status 42 = .ok (.iaload, 1) := by decide +kernel
theorem dX7_status_43 : decode cX7_status 43 = .ok (.goto 4, 3) := by decide +kernel
theorem dX7_status_46 : decode cX7_status 46 = .ok (.iconst 0, 1) := by decide +kernel
theorem dX7_status_47 : decode cX7_status 47 = .ok (.iadd, 1) := by decide +kernel
theorem dX7_status_48 : decode cX7_status 48 = .ok (.istore_n 2, 1) := by decide +kernel
theorem dX7_status_49 : decode cX7_status 49 = .ok (.iinc 3 1, 3) := by decide +kernel
theorem dX7_status_52 : decode cX7_status 52 = .ok (.goto (-32), 3) := by decide +kernel
theorem dX7_status_55 : decode cX7_status 55 = .ok (.iload_n 2, 1) := by decide +kernel
theorem dX7_status_56 : decode cX7_status 56 = .ok (.ireturn, 1) := by decide +kernel
