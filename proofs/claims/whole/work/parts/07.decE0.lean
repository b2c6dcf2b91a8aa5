theorem dX11_init_0 : decode cX11_init 0 = .ok (.aload_n 0, 1) := by decide +kernel
theorem dX11_init_1 : decode cX11_init 1 = .ok (.invokespecial 1, 3) := by decide +kernel
theorem dX11_init_4 : decode cX11_init 4 = .ok (.aload_n 0, 1) := by decide +kernel
theorem dX11_init_5 : decode cX11_init 5 = .ok (.sipush 500, 3) := by decide +kernel
theorem dX11_init_8 : decode cX11_init 8 = .ok (.newarray .int, 2) := by decide +kernel
theorem dX11_init_10 : decode cX11_init 10 = .ok (.putfield 7, 3) := by decide +kernel
theorem dX11_init_13 : decode cX11_init 13 = .ok (.aload_n 0, 1) := by decide +kernel
theorem dX11_init_14 : decode cX11_init 14 = .ok (.bipush 64, 2) := by decide +kernel
theorem dX11_init_16 : decode cX11_init 16 = .ok (.newarray .int, 2) := by decide +kernel
theorem dX11_init_18 : decode cX11_init 18 = .ok (.putfield 13, 3) := by decide +kernel
theorem dX11_init_21 : decode cX11_init 21 = .ok (.aload_n 0, 1) := by decide +kernel
theorem dX11_init_22 : decode cX11_init 22 = .ok (.bipush 14, 2) := by decide +kernel
theorem dX11_init_24 : decode cX11_init 24 = .ok (.newarray .int, 2) := by decide +kernel
theorem dX11_init_26 : decode cX11_init 26 = .ok (.putfield 16, 3) := by decide +kernel
theorem dX11_init_29 : decode cX11_init 29 = .ok (.aload_n 0, 1) := by decide +kernel
theorem dX11_init_30 : decode cX11_init 30 = .ok (.bipush 14, 2) := by decide +kernel
theorem dX11_init_32 : decode cX11_init 32 = .ok (.newarray .int, 2) := by decide +kernel
theorem dX11_init_34 : decode cX11_init 34 = .ok (.putfield 19, 3) := by decide +kernel
theorem dX11_init_37 : decode cX11_init 37 = .ok (.aload_n 0, 1) := by decide +kernel
theorem dX11_init_38 : decode cX11_init 38 = .ok (.bipush 14, 2) := by decide +kernel
theorem dX11_init_40 : decode cX11_init 40 = .ok (.newarray .int, 2) := by decide +kernel
theorem dX11_init_42 : decode cX11_init 42 = .ok (.putfield 22, 3) := by decide +kernel
theorem dX11_init_45 : decode cX11_init 45 = .ok (.aload_n 0, 1) := by decide +kernel
theorem dX11_init_46 : decode cX11_init 46 = .ok (.bipush 14, 2) := by decide +kernel
theorem dX11_init_48 : decode cX11_init 48 = .ok (.newarray .int, 2) := by decide +kernel
theorem dX11_init_50 : decode cX11_init 50 = .ok (.putfield 25, 3) := by decide +kernel
theorem dX11_init_53 : decode cX11_init 53 = .ok (.aload_n 0, 1) := by decide +kernel
theorem dX11_init_54 : decode cX11_init 54 = .ok (.iconst 2, 1) := by decide +kernel
theorem dX11_init_55 : decode cX11_init 55 = .ok (.newarray .int, 2) := by decide +kernel
theorem dX11_init_57 : decode cX11_init 57 = .ok (.putfield 28, 3) := by decide +kernel
theorem dX11_init_60 : decode cX11_init 60 = .ok (.aload_n 0, 1) := by decide +kernel
theorem dX11_init_61 : decode cX11_init 61 = .ok (.iconst 3, 1) := by decide +kernel
theorem dX11_init_62 : decode cX11_init 62 = .ok (.newarray .int, 2) := by decide +kernel
theorem dX11_init_64 : decode cX11_init 64 = .ok (.putfield 31, 3) := by decide +kernel
theorem dX11_init_67 : decode cX11_init 67 = .ok (.aload_n 0, 1) := by decide +kernel
theorem dX11_init_68 : decode cX11_init 68 = .ok (.iconst 3, 1) := by decide +kernel
theorem dX11_init_69 : decode cX11_init 69 = .ok (.newarray .int, 2) := by decide +kernel
theorem dX11_init_71 : decode cX11_init 71 = .ok (.putfield 34, 3) := by decide +kernel
theorem dX11_init_74 : decode cX11_init 74 = .ok (.aload_n 0, 1) := by decide +kernel
theorem dX11_init_75 : decode cX11_init 75 = .ok (.bipush 28, 2) := by decide +kernel
theorem dX11_init_77 : decode cX11_init 77 = .ok (.newarray .int, 2) := by decide +kernel
theorem dX11_init_79 : decode cX11_init 79 = .ok (.putfield 37, 3) := by decide +kernel
theorem dX11_init_82 : decode cX11_init 82 = .ok (.aload_n 0, 1) := by decide +kernel
theorem dX11_init_83 : decode cX11_init 83 = .ok (.iconst 4, 1) := by decide +kernel
theorem dX11_init_84 : decode cX11_init 84 = .ok (.newarray .int, 2) := by decide +kernel
theorem dX11_init_86 : decode cX11_init 86 = .ok (.dup, 1) := by decide +kernel
theorem dX11_init_87 : decode cX11_init 87 = .ok (.iconst 0, 1) := by decide +kernel
theorem dX11_init_88 : decode cX11_init 88 = .ok (.iconst 1, 1) := by decide +kernel
theorem dX11_init_89 : decode cX11_init 89 = .ok (.iastore, 1) := by decide +kernel
theorem dX11_init_90 : decode cX11_init 90 = .ok (.dup, 1) := by decide +kernel
theorem dX11_init_91 : decode cX11_init 91 = .ok (.iconst 1, 1) := by decide +kernel
theorem dX11_init_92 : decode cX11_init 92 = .ok (.iconst 1, 1) := by decide +kernel
theorem dX11_init_93 : decode cX11_init 93 = .ok (.iastore, 1) := by decide +kernel
theorem dX11_init_94 : decode cX11_init 94 = .ok (.dup, 1) := by decide +kernel
theorem dX11_init_95 : decode cX11_init 95 = .ok (.iconst 2, 1) := by decide +kernel
theorem dX11_init_96 : decode cX11_init 96 = .ok (.iconst 1, 1) := by decide +kernel
theorem dX11_init_97 : decode cX11_init 97 = .ok (.iastore, 1) := by decide +kernel
theorem dX11_init_98 : decode cX11_init 98 = .ok (.dup, 1) := by decide +kernel
theorem dX11_init_99 : decode cX11_init 99 = .ok (.iconst 3, 1) := by decide +kernel
theorem dX11_init_100 : decode cX11_init 100 = .ok (.iconst 1, 1) := by decide +kernel
theorem dX11_init_101 : decode cX11_init 101 = .ok (.iastore, 1) := by decide +kernel
theorem dX11_init_102 : decode cX11_init 102 = .ok (.putfield 40, 3) := by decide +kernel
theorem dX11_init_105 : decode cX11_init 105 = .ok (.aload_n 0, 1) := by decide +kernel
theorem dX11_init_106 : decode cX11_init 106 = .ok (.bipush 108, 2) := by decide +kernel
theorem dX11_init_108 : decode cX11_init 108 = .ok (.newarray .int, 2) := by decide +kernel
theorem dX11_init_110 : decode cX11_init 110 = .ok (.putfield 43, 3) := by decide +kernel
theorem dX11_init_113 : decode cX11_init 113 = .ok (.aload_n 0, 1) := by decide +kernel
theorem dX11_init_114 : decode cX11_init 114 = .ok (.bipush 36, 2) := by decide +kernel
theorem dX11_init_116 : decode cX11_init 116 = .ok (.newarray .int, 2) := by decide +kernel
theorem dX11_init_118 : decode cX11_init 118 = .ok (.putfield 46, 3) := by decide +kernel
theorem dX11_init_121 : decode cX11_init 121 = .ok (.aload_n 0, 1) := by decide +kernel
theorem dX11_init_122 : decode cX11_init 122 = .ok (.bipush 40, 2) := by decide +kernel
theorem dX11_init_124 : decode cX11_init 124 = .ok (.newarray .int, 2) := by decide +kernel
theorem dX11_init_126 : decode cX11_init 126 = .ok (.putfield 49, 3) := by decide +kernel
theorem dX11_init_129 : decode cX11_init 129 = .ok (.aload_n 0, 1) := by decide +kernel
theorem dX11_init_130 : decode cX11_init 130 = .ok (.bipush 40, 2) := by decide +kernel
theorem dX11_init_132 : decode cX11_init 132 = .ok (.newarray .int, 2) := by decide +kernel
theorem dX11_init_134 : decode cX11_init 134 = .ok (.putfield 52, 3) := by decide +kernel
theorem dX11_init_137 : decode cX11_init 137 = .ok (.aload_n 0, 1) := by decide +kernel
theorem dX11_init_138 : decode cX11_init 138 = .ok (.bipush 40, 2) := by decide +kernel
theorem dX11_init_140 : decode cX11_init 140 = .ok (.newarray .int, 2) := by decide +kernel
theorem dX11_init_142 : decode cX11_init 142 = .ok (.putfield 55, 3) := by decide +kernel
theorem dX11_init_145 : decode cX11_init 145 = .ok (.aload_n 0, 1) := by decide +kernel
theorem dX11_init_146 : decode cX11_init 146 = .ok (.bipush 40, 2) := by decide +kernel
theorem dX11_init_148 : decode cX11_init 148 = .ok (.newarray .boolean, 2) := by decide +kernel
theorem dX11_init_150 : decode cX11_init 150 = .ok (.putfield 58, 3) := by decide +kernel
theorem dX11_init_153 : decode cX11_init 153 = .ok (.aload_n 0, 1) := by decide +kernel
theorem dX11_init_154 : decode cX11_init 154 = .ok (.sipush 256, 3) := by decide +kernel
theorem dX11_init_157 : decode cX11_init 157 = .ok (.newarray .int, 2) := by decide +kernel
theorem dX11_init_159 : decode cX11_init 159 = .ok (.putfield 62, 3) := by decide +kernel
theorem dX11_init_162 : decode cX11_init 162 = .ok (.aload_n 0, 1) := by decide +kernel
theorem dX11_init_163 : decode cX11_init 163 = .ok (.bipush 115, 2) := by decide +kernel
theorem dX11_init_165 : decode cX11_init 165 = .ok (.newarray .int, 2) := by decide +kernel
theorem dX11_init_167 : decode cX11_init 167 = .ok (.dup, 1) := by decide +kernel
theorem dX11_init_168 : decode cX11_init 168 = .ok (.iconst 0, 1) := by decide +kernel
theorem dX11_init_169 : decode cX11_init 169 = .ok (.bipush 110, 2) := by decide +kernel
theorem dX11_init_171 : decode cX11_init 171 = .ok (.iastore, 1) := by decide +kernel
theorem dX11_init_172 : decode cX11_init 172 = .ok (.dup, 1) := by decide +kernel
theorem dX11_init_173 : decode cX11_init 173 = .ok (.iconst 1, 1) := by decide +kernel
theorem dX11_init_174 : decode cX11_init 174 = .ok (.bipush 105, 2) := by decide +kernel
theorem dX11_init_176 : decode cX11_init 176 = .ok (.iastore, 1) := by decide +kernel
theorem dX11_init_177 : decode cX11_init 177 = .ok (.dup, 1) := by decide +kernel
theorem dX11_init_178 : decode cX11_init 178 = .ok (.iconst 2, 1) := by decide +kernel
theorem dX11_init_179 : decode cX11_init 179 = .ok (.bipush 103, 2) := by decide +kernel
theorem dX11_init_181 : decode cX11_init 181 = .ok (.iastore, 1) := by decide +kernel
theorem dX11_init_182 : decode cX11_init 182 = .ok (.dup, 1) := by decide +kernel
theorem dX11_init_183 : decode cX11_init 183 = .ok (.iconst 3, 1) := by decide +kernel
theorem dX11_init_184 : decode cX11_init 184 = .ok (.bipush 104, 2) := by decide +kernel
theorem dX11_init_186 : decode cX11_init 186 = .ok (.iastore, 1) := by decide +kernel
theorem dX11_init_187 : decode cX11_init 187 = .ok (.dup, 1) := by decide +kernel
theorem dX11_init_188 : decode cX11_init 188 = .ok (.iconst 4, 1) := by decide +kernel
theorem dX11_init_189 : decode cX11_init 189 = .ok (.bipush 116, 2) := by decide +kernel
theorem dX11_init_191 : decode cX11_init 191 = .ok (.iastore, 1) := by decide +kernel
theorem dX11_init_192 : decode cX11_init 192 = .ok (.dup, 1) := by decide +kernel
theorem dX11_init_193 : decode cX11_init 193 = .ok (.iconst 5, 1) := by decide +kernel
theorem dX11_init_194 : decode cX11_init 194 = .ok (.bipush 32, 2) := by decide +kernel
theorem dX11_init_196 : decode cX11_init 196 = .ok (.iastore, 1) := by decide +kernel
theorem dX11_init_197 : decode cX11_init 197 = .ok (.dup, 1) := by decide +kernel
theorem dX11_init_198 : decode cX11_init 198 = .ok (.bipush 6, 2) := by decide +kernel
theorem dX11_init_200 : decode cX11_init 200 = .ok (.bipush 102, 2) := by decide +kernel
theorem dX11_init_202 : decode cX11_init 202 = .ok (.iastore, 1) := by decide +kernel
theorem dX11_init_203 : decode cX11_init 203 = .ok (.dup, 1) := by decide +kernel
theorem dX11_init_204 : decode cX11_init 204 = .ok (.bipush 7, 2) := by decide +kernel
theorem dX11_init_206 : decode cX11_init 206 = .ok (.bipush 117, 2) := by decide +kernel
theorem dX11_init_208 : decode cX11_init 208 = .ok (.iastore, 1) := by decide +kernel
theorem dX11_init_209 : decode cX11_init 209 = .ok (.dup, 1) := by decide +kernel
theorem dX11_init_210 : decode cX11_init 210 = .ok (.bipush 8, 2) := by decide +kernel
theorem dX11_init_212 : decode cX11_init 212 = .ok (.bipush 101, 2) := by decide +kernel
theorem dX11_init_214 : decode cX11_init 214 = .ok (.iastore, 1) := by decide +kernel
theorem dX11_init_215 : decode cX11_init 215 = .ok (.dup, 1) := by decide +kernel
theorem dX11_init_216 : decode cX11_init 216 = .ok (.bipush 9, 2) := by decide +kernel
theorem dX11_init_218 : decode cX11_init 218 = .ok (.bipush 108, 2) := by decide +kernel
theorem dX11_init_220 : decode cX11_init 220 = .ok (.iastore, 1) := by decide +kernel
theorem dX11_init_221 : decode cX11_init 221 = .ok (.dup, 1) := by decide +kernel
theorem dX11_init_222 : decode cX11_init 222 = .ok (.bipush 10, 2) := by decide +kernel
theorem dX11_init_224 : decode cX11_init 224 = .ok (.bipush 32, 2) := by decide +kernel
theorem dX11_init_226 : decode cX11_init 226 = .ok (.iastore, 1) := by decide +kernel
theorem dX11_init_227 : decode cX11_init 227 = .ok (.dup, 1) := by decide +kernel
theorem dX11_init_228 : decode cX11_init 228 = .ok (.bipush 11, 2) := by decide +kernel
theorem dX11_init_230 : decode cX11_init 230 = .ok (.bipush 97, 2) := by decide +kernel
theorem dX11_init_232 : decode cX11_init 232 = .ok (.iastore, 1) := by decide +kernel
theorem dX11_init_233 : decode cX11_init 233 = .ok (.dup, 1) := by decide +kernel
theorem dX11_init_234 : decode cX11_init 234 = .ok (.bipush 12, 2) := by decide +kernel
theorem dX11_init_236 : decode cX11_init 236 = .ok (.bipush 108, 2) := by decide +kernel
theorem dX11_init_238 : decode cX11_init 238 = .ok (.iastore, 1) := by decide +kernel
theorem dX11_init_239 : decode cX11_init 239 = .ok (.dup, 1) := by decide +kernel
theorem dX11_init_240 : decode cX11_init 240 = .ok (.bipush 13, 2) := by decide +kernel
theorem dX11_init_242 : decode cX11_init 242 = .ok (.bipush 108, 2) := by decide +kernel
theorem dX11_init_244 : decode cX11_init 244 = .ok (.iastore, 1) := by decide +kernel
theorem dX11_init_245 : decode cX11_init 245 = .ok (.dup, 1) := by decide +kernel
theorem dX11_init_246 : decode cX11_init 246 = .ok (.bipush 14, 2) := by decide +kernel
theorem dX11_init_248 : decode cX11_init 248 = .ok (.bipush 111, 2) := by decide +kernel
theorem dX11_init_250 : decode cX11_init 250 = .ok (.iastore, 1) := by decide +kernel
theorem dX11_init_251 : decode cX11_init 251 = .ok (.dup, 1) := by decide +kernel
theorem dX11_init_252 : decode cX11_init 252 = .ok (.bipush 15, 2) := by decide +kernel
theorem dX11_init_254 : decode cX11_init 254 = .ok (.bipush 119, 2) := by decide +kernel
theorem dX11_init_256 : decode cX11_init 256 = .ok (.iastore, 1) := by decide +kernel
theorem dX11_init_257 : decode cX11_init 257 = .ok (.dup, 1) := by decide +kernel
theorem dX11_init_258 : decode cX11_init 258 = .ok (.bipush 16, 2) := by decide +kernel
theorem dX11_init_260 : decode cX11_init 260 = .ok (.bipush 32, 2) := by decide +kernel
theorem dX11_init_262 : decode cX11_init 262 = .ok (.iastore, 1) := by decide +kernel
theorem dX11_init_263 : decode cX11_init 263 = .ok (.dup, 1) := by decide +kernel
theorem dX11_init_264 : decode cX11_init 264 = .ok (.bipush 17, 2) := by decide +kernel
theorem dX11_init_266 : decode cX11_init 266 = .ok (.bipush 112, 2) := by decide +kernel
theorem dX11_init_268 : decode cX11_init 268 = .ok (.iastore, 1) := by decide +kernel
theorem dX11_init_269 : decode cX11_init 269 = .ok (.dup, 1) := by decide +kernel
theorem dX11_init_270 : decode cX11_init 270 = .ok (.bipush 18, 2) := by decide +kernel
theorem dX11_init_272 : decode cX11_init 272 = .ok (.bipush 114, 2) := by decide +kernel
theorem dX11_init_274 : decode cX11_init 274 = .ok (.iastore, 1) := by decide +kernel
theorem dX11_init_275 : decode cX11_init 275 = .ok (.dup, 1) := by decide +kernel
theorem dX11_init_276 : decode cX11_init 276 = .ok (.bipush 19, 2) := by decide +kernel
theorem dX11_init_278 : decode cX11_init 278 = .ok (.bipush 105, 2) := by decide +kernel
theorem dX11_init_280 : decode cX11_init 280 = .ok (.iastore, 1) := by decide +kernel
theorem dX11_init_281 : decode cX11_init 281 = .ok (.dup, 1) := by decide +kernel
theorem dX11_init_282 : decode cX11_init 282 = .ok (.bipush 20, 2) := by decide +kernel
theorem dX11_init_284 : decode cX11_init 284 = .ok (.bipush 99, 2) := by decide +kernel
theorem dX11_init_286 : decode cX11_init 286 = .ok (.iastore, 1) := by decide +kernel
theorem dX11_init_287 : decode cX11_init 287 = .ok (.dup, 1) := by decide +kernel
theorem dX11_init_288 : decode cX11_init 288 = .ok (.bipush 21, 2) := by decide +kernel
theorem dX11_init_290 : decode cX11_init 290 = .ok (.bipush 101, 2) := by decide +kernel
theorem dX11_init_292 : decode cX11_init 292 = .ok (.iastore, 1) := by decide +kernel
theorem dX11_init_293 : decode cX11_init 293 = .ok (.dup, 1) := by decide +kernel
theorem dX11_init_294 : decode cX11_init 294 = .ok (.bipush 22, 2) := by decide +kernel
theorem dX11_init_296 : decode cX11_init 296 = .ok (.bipush 32, 2) := by decide +kernel
theorem dX11_init_298 : decode cX11_init 298 = .ok (.iastore, 1) := by decide +kernel
theorem dX11_init_299 : decode cX11_init 299 = .ok (.dup, 1) := by decide +kernel
theorem dX11_init_300 : decode cX11_init 300 = .ok (.bipush 23, 2) := by decide +kernel
theorem dX11_init_302 : decode cX11_init 302 = .ok (.bipush 114, 2) := by decide +kernel
theorem dX11_init_304 : decode cX11_init 304 = .ok (.iastore, 1) := by decide +kernel
theorem dX11_init_305 : decode cX11_init 305 = .ok (.dup, 1) := by decide +kernel
theorem dX11_init_306 : decode cX11_init 306 = .ok (.bipush 24, 2) := by decide +kernel
theorem dX11_init_308 : decode cX11_init 308 = .ok (.bipush 101, 2) := by decide +kernel
theorem dX11_init_310 : decode cX11_init 310 = .ok (.iastore, 1) := by decide +kernel
theorem dX11_init_311 : decode cX11_init 311 = .ok (.dup, 1) := by decide +kernel
theorem dX11_init_312 : decode cX11_init 312 = .ok (.bipush 25, 2) := by decide +kernel
theorem dX11_init_314 : decode cX11_init 314 = .ok (.bipush 110, 2) := by decide +kernel
theorem dX11_init_316 : decode cX11_init 316 = .ok (.iastore, 1) := by decide +kernel
theorem dX11_init_317 : decode cX11_init 317 = .ok (.dup, 1) := by decide +kernel
theorem dX11_init_318 : decode cX11_init 318 = .ok (.bipush 26, 2) := by decide +kernel
theorem dX11_init_320 : decode cX11_init 320 = .ok (.bipush 116, 2) := by decide +kernel
theorem dX11_init_322 : decode cX11_init 322 = .ok (.iastore, 1) := by decide +kernel
theorem dX11_init_323 : decode cX11_init 323 = .ok (.dup, 1) := by decide +kernel
theorem dX11_init_324 : decode cX11_init 324 = .ok (.bipush 27, 2) := by decide +kernel
theorem dX11_init_326 : decode cX11_init 326 = .ok (.bipush 101, 2) := by decide +kernel
theorem dX11_init_328 : decode cX11_init 328 = .ok (.iastore, 1) := by decide +kernel
theorem dX11_init_329 : decode cX11_init 329 = .ok (.dup, 1) := by decide +kernel
theorem dX11_init_330 : decode cX11_init 330 = .ok (.bipush 28, 2) := by decide +kernel
theorem dX11_init_332 : decode cX11_init 332 = .ok (.bipush 114, 2) := by decide +kernel
theorem dX11_init_334 : decode cX11_init 334 = .ok (.iastore, 1) := by decide +kernel
theorem dX11_init_335 : decode cX11_init 335 = .ok (.dup, 1) := by decide +kernel
theorem dX11_init_336 : decode cX11_init 336 = .ok (.bipush 29, 2) := by decide +kernel
theorem dX11_init_338 : decode cX11_init 338 = .ok (.bipush 32, 2) := by decide +kernel
theorem dX11_init_340 : decode cX11_init 340 = .ok (.iastore, 1) := by decide +kernel
theorem dX11_init_341 : decode cX11_init 341 = .ok (.dup, 1) := by decide +kernel
theorem dX11_init_342 : decode cX11_init 342 = .ok (.bipush 30, 2) := by decide +kernel
theorem dX11_init_344 : decode cX11_init 344 = .ok (.bipush 112, 2) := by decide +kernel
theorem dX11_init_346 : decode cX11_init 346 = .ok (.iastore, 1) := by decide +kernel
theorem dX11_init_347 : decode cX11_init 347 = .ok (.dup, 1) := by decide +kernel
theorem dX11_init_348 : decode cX11_init 348 = .ok (.bipush 31, 2) := by decide +kernel
theorem dX11_init_350 : decode cX11_init 350 = .ok (.bipush 97, 2) := by decide +kernel
theorem dX11_init_352 : decode cX11_init 352 = .ok (.iastore, 1) := by decide +kernel
theorem dX11_init_353 : decode cX11_init 353 = .ok (.dup, 1) := by decide +kernel
theorem dX11_init_354 : decode cX11_init 354 = .ok (.bipush 32, 2) := by decide +kernel
theorem dX11_init_356 : decode cX11_init 356 = .ok (.bipush 114, 2) := by decide +kernel
theorem dX11_init_358 : decode cX11_init 358 = .ok (.iastore, 1) := by decide +kernel
theorem dX11_init_359 : decode cX11_init 359 = .ok (.dup, 1) := by decide +kernel
theorem dX11_init_360 : decode cX11_init 360 = .ok (.bipush 33, 2) := by decide +kernel
theorem dX11_init_362 : decode cX11_init 362 = .ok (.bipush 105, 2) := by decide +kernel
theorem dX11_init_364 : decode cX11_init 364 = .ok (.iastore, 1) := by decide +kernel
theorem dX11_init_365 : decode cX11_init 365 = .ok (.dup, 1) := by decide +kernel
theorem dX11_init_366 : decode cX11_init 366 = .ok (.bipush 34, 2) := by decide +kernel
theorem dX11_init_368 : decode cX11_init 368 = .ok (.bipush 115, 2) := by decide +kernel
theorem dX11_init_370 : decode cX11_init 370 = .ok (.iastore, 1) := by decide +kernel
theorem dX11_init_371 : decode cX11_init 371 = .ok (.dup, 1) := by decide +kernel
theorem dX11_init_372 : decode cX11_init 372 = .ok (.bipush 35, 2) := by decide +kernel
theorem dX11_init_374 : decode cX11_init 374 = .ok (.bipush 104, 2) := by decide +kernel
theorem dX11_init_376 : decode cX11_init 376 = .ok (.iastore, 1) := by decide +kernel
theorem dX11_init_377 : decode cX11_init 377 = .ok (.dup, 1) := by decide +kernel
theorem dX11_init_378 : decode cX11_init 378 = .ok (.bipush 36, 2) := by decide +kernel
theorem dX11_init_380 : decode cX11_init 380 = .ok (.bipush 32, 2) := by decide +kernel
theorem dX11_init_382 : decode cX11_init 382 = .ok (.iastore, 1) := by decide +kernel
theorem dX11_init_383 : decode cX11_init 383 = .ok (.dup, 1) := by decide +kernel
theorem dX11_init_384 : decode cX11_init 384 = .ok (.bipush 37, 2) := by decide +kernel
theorem dX11_init_386 : decode cX11_init 386 = .ok (.bipush 101, 2) := by decide +kernel
theorem dX11_init_388 : decode cX11_init 388 = .ok (.iastore, 1) := by decide +kernel
theorem dX11_init_389 : decode cX11_init 389 = .ok (.dup, 1) := by decide +kernel
theorem dX11_init_390 : decode cX11_init 390 = .ok (.bipush 38, 2) := by decide +kernel
theorem dX11_init_392 : decode cX11_init 392 = .ok (.bipush 103, 2) := by decide +kernel
theorem dX11_init_394 : decode cX11_init 394 = .ok (.iastore, 1) := by decide +kernel
theorem dX11_init_395 : decode cX11_init 395 = .ok (.dup, 1) := by decide +kernel
theorem dX11_init_396 : decode cX11_init 396 = .ok (.bipush 39, 2) := by decide +kernel
theorem dX11_init_398 : decode cX11_init 398 = .ok (.bipush 103, 2) := by decide +kernel
theorem dX11_init_400 : decode cX11_init 400 = .ok (.iastore, 1) := by decide +kernel
theorem dX11_init_401 : decode cX11_init 401 = .ok (.dup, 1) := by decide +kernel
theorem dX11_init_402 : decode cX11_init 402 = .ok (.bipush 40, 2) := by decide +kernel
theorem dX11_init_404 : decode cX11_init 404 = .ok (.bipush 115, 2) := by decide +kernel
theorem dX11_init_406 : decode cX11_init 406 = .ok (.iastore, 1) := by decide +kernel
theorem dX11_init_407 : decode cX11_init 407 = .ok (.dup, 1) := by decide +kernel
theorem dX11_init_408 : decode cX11_init 408 = .ok (.bipush 41, 2) := by decide +kernel
theorem dX11_init_410 : decode cX11_init 410 = .ok (.bipush 32, 2) := by decide +kernel
theorem dX11_init_412 : decode cX11_init 412 = .ok (.iastore, 1) := by decide +kernel
theorem dX11_init_413 : decode cX11_init 413 = .ok (.dup, 1) := by decide +kernel
theorem dX11_init_414 : decode cX11_init 414 = .ok (.bipush 42, 2) := by decide +kernel
theorem dX11_init_416 : decode cX11_init 416 = .ok (.bipush 111, 2) := by decide +kernel
theorem dX11_init_418 : decode cX11_init 418 = .ok (.iastore, 1) := by decide +kernel
theorem dX11_init_419 : decode cX11_init 419 = .ok (.dup, 1) := by decide +kernel
theorem dX11_init_420 : decode cX11_init 420 = .ok (.bipush 43, 2) := by decide +kernel
theorem dX11_init_422 : decode cX11_init 422 = .ok (.bipush 114, 2) := by decide +kernel
theorem dX11_init_424 : decode cX11_init 424 = .ok (.iastore, 1) := by decide +kernel
theorem dX11_init_425 : decode cX11_init 425 = .ok (.dup, 1) := by decide +kernel
theorem dX11_init_426 : decode cX11_init 426 = .ok (.bipush 44, 2) := by decide +kernel
theorem dX11_init_428 : decode cX11_init 428 = .ok (.bipush 32, 2) := by decide +kernel
theorem dX11_init_430 : decode cX11_init 430 = .ok (.iastore, 1) := by decide +kernel
theorem dX11_init_431 : decode cX11_init 431 = .ok (.dup, 1) := by decide +kernel
theorem dX11_init_432 : decode cX11_init 432 = .ok (.bipush 45, 2) := by decide +kernel
theorem dX11_init_434 : decode cX11_init 434 = .ok (.bipush 97, 2) := by decide +kernel
theorem dX11_init_436 : decode cX11_init 436 = .ok (.iastore, 1) := by decide +kernel
theorem dX11_init_437 : decode cX11_init 437 = .ok (.dup, 1) := by decide +kernel
theorem dX11_init_438 : decode cX11_init 438 = .ok (.bipush 46, 2) := by decide +kernel
theorem dX11_init_440 : decode cX11_init 440 = .ok (.bipush 110, 2) := by decide +kernel
theorem dX11_init_442 : decode cX11_init 442 = .ok (.iastore, 1) := by decide +kernel
theorem dX11_init_443 : decode cX11_init 443 = .ok (.dup, 1) := by decide +kernel
theorem dX11_init_444 : decode cX11_init 444 = .ok (.bipush 47, 2) := by decide +kernel
theorem dX11_init_446 : decode cX11_init 446 = .ok (.bipush 100, 2) := by decide +kernel
theorem dX11_init_448 : decode cX11_init 448 = .ok (.iastore, 1) := by decide +kernel
theorem dX11_init_449 : decode cX11_init 449 = .ok (.dup, 1) := by decide +kernel
theorem dX11_init_450 : decode cX11_init 450 = .ok (.bipush 48, 2) := by decide +kernel
theorem dX11_init_452 : decode cX11_init 452 = .ok (.bipush 32, 2) := by decide +kernel
theorem dX11_init_454 : decode cX11_init 454 = .ok (.iastore, 1) := by decide +kernel
theorem dX11_init_455 : decode cX11_init 455 = .ok (.dup, 1) := by decide +kernel
theorem dX11_init_456 : decode cX11_init 456 = .ok (.bipush 49, 2) := by decide +kernel
theorem dX11_init_458 : decode cX11_init 458 = .ok (.bipush 110, 2) := by decide +kernel
theorem dX11_init_460 : decode cX11_init 460 = .ok (.iastore, 1) := by decide +kernel
theorem dX11_init_461 : decode cX11_init 461 = .ok (.dup, 1) := by decide +kernel
theorem dX11_init_462 : decode cX11_init 462 = .ok (.bipush 50, 2) := by decide +kernel
theorem dX11_init_464 : decode cX11_init 464 = .ok (.bipush 111, 2) := by decide +kernel
theorem dX11_init_466 : decode cX11_init 466 = .ok (.iastore, 1) := by decide +kernel
theorem dX11_init_467 : decode cX11_init 467 = .ok (.dup, 1) := by decide +kernel
theorem dX11_init_468 : decode cX11_init 468 = .ok (.bipush 51, 2) := by decide +kernel
theorem dX11_init_470 : decode cX11_init 470 = .ok (.bipush 116, 2) := by decide +kernel
theorem dX11_init_472 : decode cX11_init 472 = .ok (.iastore, 1) := by decide +kernel
theorem dX11_init_473 : decode cX11_init 473 = .ok (.dup, 1) := by decide +kernel
theorem dX11_init_474 : decode cX11_init 474 = .ok (.bipush 52, 2) := by decide +kernel
theorem dX11_init_476 : decode cX11_init 476 = .ok (.bipush 32, 2) := by decide +kernel
theorem dX11_init_478 : decode cX11_init 478 = .ok (.iastore, 1) := by decide +kernel
theorem dX11_init_479 : decode cX11_init 479 = .ok (.dup, 1) := by decide +kernel
theorem dX11_init_480 : decode cX11_init 480 = .ok (.bipush 53, 2) := by decide +kernel
theorem dX11_init_482 : decode cX11_init 482 = .ok (.bipush 112, 2) := by decide +kernel
theorem dX11_init_484 : decode cX11_init 484 = .ok (.iastore, 1) := by decide +kernel
theorem dX11_init_485 : decode cX11_init 485 = .ok (.dup, 1) := by decide +kernel
theorem dX11_init_486 : decode cX11_init 486 = .ok (.bipush 54, 2) := by decide +kernel
theorem dX11_init_488 : decode cX11_init 488 = .ok (.bipush 101, 2) := by decide +kernel
theorem dX11_init_490 : decode cX11_init 490 = .ok (.iastore, 1) := by decide +kernel
theorem dX11_init_491 : decode cX11_init 491 = .ok (.dup, 1) := by decide +kernel
theorem dX11_init_492 : decode cX11_init 492 = .ok (.bipush 55, 2) := by decide +kernel
theorem dX11_init_494 : decode cX11_init 494 = .ok (.bipush 111, 2) := by decide +kernel
theorem dX11_init_496 : decode cX11_init 496 = .ok (.iastore, 1) := by decide +kernel
theorem dX11_init_497 : decode cX11_init 497 = .ok (.dup, 1) := by decide +kernel
theorem dX11_init_498 : decode cX11_init 498 = .ok (.bipush 56, 2) := by decide +kernel
theorem dX11_init_500 : decode cX11_init 500 = .ok (.bipush 112, 2) := by decide +kernel
theorem dX11_init_502 : decode cX11_init 502 = .ok (.iastore, 1) := by decide +kernel
theorem dX11_init_503 : decode cX11_init 503 = .ok (.dup, 1) := by decide +kernel
theorem dX11_init_504 : decode cX11_init 504 = .ok (.bipush 57, 2) := by decide +kernel
theorem dX11_init_506 : decode cX11_init 506 = .ok (.bipush 108, 2) := by decide +kernel
theorem dX11_init_508 : decode cX11_init 508 = .ok (.iastore, 1) := by decide +kernel
theorem dX11_init_509 : decode cX11_init 509 = .ok (.dup, 1) := by decide +kernel
theorem dX11_init_510 : decode cX11_init 510 = .ok (.bipush 58, 2) := by decide +kernel
theorem dX11_init_512 : decode cX11_init 512 = .ok (.bipush 101, 2) := by decide +kernel
theorem dX11_init_514 : decode cX11_init 514 = .ok (.iastore, 1) := by decide +kernel
theorem dX11_init_515 : decode cX11_init 515 = .ok (.dup, 1) := by decide +kernel
theorem dX11_init_516 : decode cX11_init 516 = .ok (.bipush 59, 2) := by decide +kernel
theorem dX11_init_518 : decode cX11_init 518 = .ok (.bipush 32, 2) := by decide +kernel
theorem dX11_init_520 : decode cX11_init 520 = .ok (.iastore, 1) := by decide +kernel
theorem dX11_init_521 : decode cX11_init 521 = .ok (.dup, 1) := by decide +kernel
theorem dX11_init_522 : decode cX11_init 522 = .ok (.bipush 60, 2) := by decide +kernel
theorem dX11_init_524 : decode cX11_init 524 = .ok (.bipush 115, 2) := by decide +kernel
theorem dX11_init_526 : decode cX11_init 526 = .ok (.iastore, 1) := by decide +kernel
theorem dX11_init_527 : decode cX11_init 527 = .ok (.dup, 1) := by decide +kernel
theorem dX11_init_528 : decode cX11_init 528 = .ok (.bipush 61, 2) := by decide +kernel
theorem dX11_init_530 : decode cX11_init 530 = .ok (.bipush 101, 2) := by decide +kernel
theorem dX11_init_532 : decode cX11_init 532 = .ok (.iastore, 1) := by decide +kernel
theorem dX11_init_533 : decode cX11_init 533 = .ok (.dup, 1) := by decide +kernel
theorem dX11_init_534 : decode cX11_init 534 = .ok (.bipush 62, 2) := by decide +kernel
theorem dX11_init_536 : decode cX11_init 536 = .ok (.bipush 97, 2) := by decide +kernel
theorem dX11_init_538 : decode cX11_init 538 = .ok (.iastore, 1) := by decide +kernel
theorem dX11_init_539 : decode cX11_init 539 = .ok (.dup, 1) := by decide +kernel
theorem dX11_init_540 : decode cX11_init 540 = .ok (.bipush 63, 2) := by decide +kernel
theorem dX11_init_542 : decode cX11_init 542 = .ok (.bipush 116, 2) := by decide +kernel
theorem dX11_init_544 : decode cX11_init 544 = .ok (.iastore, 1) := by decide +kernel
theorem dX11_init_545 : decode cX11_init 545 = .ok (.dup, 1) := by decide +kernel
theorem dX11_init_546 : decode cX11_init 546 = .ok (.bipush 64, 2) := by decide +kernel
theorem dX11_init_548 : decode cX11_init 548 = .ok (.bipush 115, 2) := by decide +kernel
theorem dX11_init_550 : decode cX11_init 550 = .ok (.iastore, 1) := by decide +kernel
theorem dX11_init_551 : decode cX11_init 551 = .ok (.dup, 1) := by decide +kernel
theorem dX11_init_552 : decode cX11_init 552 = .ok (.bipush 65, 2) := by decide +kernel
theorem dX11_init_554 : decode cX11_init 554 = .ok (.bipush 32, 2) := by decide +kernel
theorem dX11_init_556 : decode cX11_init 556 = .ok (.iastore, 1) := by decide +kernel
theorem dX11_init_557 : decode cX11_init 557 = .ok (.dup, 1) := by decide +kernel
theorem dX11_init_558 : decode cX11_init 558 = .ok (.bipush 66, 2) := by decide +kernel
theorem dX11_init_560 : decode cX11_init 560 = .ok (.bipush 115, 2) := by decide +kernel
theorem dX11_init_562 : decode cX11_init 562 = .ok (.iastore, 1) := by decide +kernel
theorem dX11_init_563 : decode cX11_init 563 = .ok (.dup, 1) := by decide +kernel
theorem dX11_init_564 : decode cX11_init 564 = .ok (.bipush 67, 2) := by decide +kernel
theorem dX11_init_566 : decode cX11_init 566 = .ok (.bipush 116, 2) := by decide +kernel
theorem dX11_init_568 : decode cX11_init 568 = .ok (.iastore, 1) := by decide +kernel
theorem dX11_init_569 : decode cX11_init 569 = .ok (.dup, 1) := by decide +kernel
theorem dX11_init_570 : decode cX11_init 570 = .ok (.bipush 68, 2) := by decide +kernel
theorem dX11_init_572 : decode cX11_init 572 = .ok (.bipush 114, 2) := by decide +kernel
theorem dX11_init_574 : decode cX11_init 574 = .ok (.iastore, 1) := by decide +kernel
theorem dX11_init_575 : decode cX11_init 575 = .ok (.dup, 1) := by decide +kernel
theorem dX11_init_576 : decode cX11_init 576 = .ok (.bipush 69, 2) := by decide +kernel
theorem dX11_init_578 : decode cX11_init 578 = .ok (.bipush 105, 2) := by decide +kernel
theorem dX11_init_580 : decode cX11_init 580 = .ok (.iastore, 1) := by decide +kernel
theorem dX11_init_581 : decode cX11_init 581 = .ok (.dup, 1) := by decide +kernel
theorem dX11_init_582 : decode cX11_init 582 = .ok (.bipush 70, 2) := by decide +kernel
theorem dX11_init_584 : decode cX11_init 584 = .ok (.bipush 99, 2) := by decide +kernel
theorem dX11_init_586 : decode cX11_init 586 = .ok (.iastore, 1) := by decide +kernel
theorem dX11_init_587 : decode cX11_init 587 = .ok (.dup, 1) := by decide +kernel
theorem dX11_init_588 : decode cX11_init 588 = .ok (.bipush 71, 2) := by decide +kernel
theorem dX11_init_590 : decode cX11_init 590 = .ok (.bipush 116, 2) := by decide +kernel
theorem dX11_init_592 : decode cX11_init 592 = .ok (.iastore, 1) := by decide +kernel
theorem dX11_init_593 : decode cX11_init 593 = .ok (.dup, 1) := by decide +kernel
theorem dX11_init_594 : decode cX11_init 594 = .ok (.bipush 72, 2) := by decide +kernel
theorem dX11_init_596 : decode cX11_init 596 = .ok (.bipush 32, 2) := by decide +kernel
theorem dX11_init_598 : decode cX11_init 598 = .ok (.iastore, 1) := by decide +kernel
theorem dX11_init_599 : decode cX11_init 599 = .ok (.dup, 1) := by decide +kernel
theorem dX11_init_600 : decode cX11_init 600 = .ok (.bipush 73, 2) := by decide +kernel
theorem dX11_init_602 : decode cX11_init 602 = .ok (.bipush 99, 2) := by decide +kernel
theorem dX11_init_604 : decode cX11_init 604 = .ok (.iastore, 1) := by decide +kernel
theorem dX11_init_605 : decode cX11_init 605 = .ok (.dup, 1) := by decide +kernel
theorem dX11_init_606 : decode cX11_init 606 = .ok (.bipush 74, 2) := by decide +kernel
theorem dX11_init_608 : decode cX11_init 608 = .ok (.bipush 104, 2) := by decide +kernel
theorem dX11_init_610 : decode cX11_init 610 = .ok (.iastore, 1) := by decide +kernel
theorem dX11_init_611 : decode cX11_init 611 = .ok (.dup, 1) := by decide +kernel
theorem dX11_init_612 : decode cX11_init 612 = .ok (.bipush 75, 2) := by decide +kernel
theorem dX11_init_614 : decode cX11_init 614 = .ok (.bipush 105, 2) := by decide +kernel
theorem dX11_init_616 : decode cX11_init 616 = .ok (.iastore, 1) := by decide +kernel
theorem dX11_init_617 : decode cX11_init 617 = .ok (.dup, 1) := by decide +kernel
theorem dX11_init_618 : decode cX11_init 618 = .ok (.bipush 76, 2) := by decide +kernel
theorem dX11_init_620 : decode cX11_init 620 = .ok (.bipush 108, 2) := by decide +kernel
theorem dX11_init_622 : decode cX11_init 622 = .ok (.iastore, 1) := by decide +kernel
theorem dX11_init_623 : decode cX11_init 623 = .ok (.dup, 1) := by decide +kernel
theorem dX11_init_624 : decode cX11_init 624 = .ok (.bipush 77, 2) := by decide +kernel
theorem dX11_init_626 : decode cX11_init 626 = .ok (.bipush 100, 2) := by decide +kernel
theorem dX11_init_628 : decode cX11_init 628 = .ok (.iastore, 1) := by decide +kernel
theorem dX11_init_629 : decode cX11_init 629 = .ok (.dup, 1) := by decide +kernel
theorem dX11_init_630 : decode cX11_init 630 = .ok (.bipush 78, 2) := by decide +kernel
theorem dX11_init_632 : decode cX11_init 632 = .ok (.bipush 32, 2) := by decide +kernel
theorem dX11_init_634 : decode cX11_init 634 = .ok (.iastore, 1) := by decide +kernel
theorem dX11_init_635 : decode cX11_init 635 = .ok (.dup, 1) := by decide +kernel
theorem dX11_init_636 : decode cX11_init 636 = .ok (.bipush 79, 2) := by decide +kernel
theorem dX11_init_638 : decode cX11_init 638 = .ok (.bipush 108, 2) := by decide +kernel
theorem dX11_init_640 : decode cX11_init 640 = .ok (.iastore, 1) := by decide +kernel
theorem dX11_init_641 : decode cX11_init 641 = .ok (.dup, 1) := by decide +kernel
theorem dX11_init_642 : decode cX11_init 642 = .ok (.bipush 80, 2) := by decide +kernel
theorem dX11_init_644 : decode cX11_init 644 = .ok (.bipush 105, 2) := by decide +kernel
theorem dX11_init_646 : decode cX11_init 646 = .ok (.iastore, 1) := by decide +kernel
theorem dX11_init_647 : decode cX11_init 647 = .ok (.dup, 1) := by decide +kernel
theorem dX11_init_648 : decode cX11_init 648 = .ok (.bipush 81, 2) := by decide +kernel
theorem dX11_init_650 : decode cX11_init 650 = .ok (.bipush 107, 2) := by decide +kernel
theorem dX11_init_652 : decode cX11_init 652 = .ok (.iastore, 1) := by decide +kernel
theorem dX11_init_653 : decode cX11_init 653 = .ok (.dup, 1) := by decide +kernel
theorem dX11_init_654 : decode cX11_init 654 = .ok (.bipush 82, 2) := by decide +kernel
theorem dX11_init_656 : decode cX11_init 656 = .ok (.bipush 101, 2) := by decide +kernel
theorem dX11_init_658 : decode cX11_init 658 = .ok (.iastore, 1) := by decide +kernel
theorem dX11_init_659 : decode cX11_init 659 = .ok (.dup, 1) := by decide +kernel
theorem dX11_init_660 : decode cX11_init 660 = .ok (.bipush 83, 2) := by decide +kernel
theorem dX11_init_662 : decode cX11_init 662 = .ok (.bipush 32, 2) := by decide +kernel
theorem dX11_init_664 : decode cX11_init 664 = .ok (.iastore, 1) := by decide +kernel
theorem dX11_init_665 : decode cX11_init 665 = .ok (.dup, 1) := by decide +kernel
theorem dX11_init_666 : decode cX11_init 666 = .ok (.bipush 84, 2) := by decide +kernel
theorem dX11_init_668 : decode cX11_init 668 = .ok (.bipush 103, 2) := by decide +kernel
theorem dX11_init_670 : decode cX11_init 670 = .ok (.iastore, 1) := by decide +kernel
theorem dX11_init_671 : decode cX11_init 671 = .ok (.dup, 1) := by decide +kernel
theorem dX11_init_672 : decode cX11_init 672 = .ok (.bipush 85, 2) := by decide +kernel
theorem dX11_init_674 : decode cX11_init 674 = .ok (.bipush 101, 2) := by decide +kernel
theorem dX11_init_676 : decode cX11_init 676 = .ok (.iastore, 1) := by decide +kernel
theorem dX11_init_677 : decode cX11_init 677 = .ok (.dup, 1) := by decide +kernel
theorem dX11_init_678 : decode cX11_init 678 = .ok (.bipush 86, 2) := by decide +kernel
theorem dX11_init_680 : decode cX11_init 680 = .ok (.bipush 110, 2) := by decide +kernel
theorem dX11_init_682 : decode cX11_init 682 = .ok (.iastore, 1) := by decide +kernel
theorem dX11_init_683 : decode cX11_init 683 = .ok (.dup, 1) := by decide +kernel
theorem dX11_init_684 : decode cX11_init 684 = .ok (.bipush 87, 2) := by decide +kernel
theorem dX11_init_686 : decode cX11_init 686 = .ok (.bipush 114, 2) := by decide +kernel
theorem dX11_init_688 : decode cX11_init 688 = .ok (.iastore, 1) := by decide +kernel
theorem dX11_init_689 : decode cX11_init 689 = .ok (.dup, 1) := by decide +kernel
theorem dX11_init_690 : decode cX11_init 690 = .ok (.bipush 88, 2) := by decide +kernel
theorem dX11_init_692 : decode cX11_init 692 = .ok (.bipush 101, 2) := by decide +kernel
theorem dX11_init_694 : decode cX11_init 694 = .ok (.iastore, 1) := by decide +kernel
theorem dX11_init_695 : decode cX11_init 695 = .ok (.dup, 1) := by decide +kernel
theorem dX11_init_696 : decode cX11_init 696 = .ok (.bipush 89, 2) := by decide +kernel
theorem dX11_init_698 : decode cX11_init 698 = .ok (.bipush 32, 2) := by decide +kernel
theorem dX11_init_700 : decode cX11_init 700 = .ok (.iastore, 1) := by decide +kernel
theorem dX11_init_701 : decode cX11_init 701 = .ok (.dup, 1) := by decide +kernel
theorem dX11_init_702 : decode cX11_init 702 = .ok (.bipush 90, 2) := by decide +kernel
theorem dX11_init_704 : decode cX11_init 704 = .ok (.bipush 97, 2) := by decide +kernel
theorem dX11_init_706 : decode cX11_init 706 = .ok (.iastore, 1) := by decide +kernel
theorem dX11_init_707 : decode cX11_init 707 = .ok (.dup, 1) := by decide +kernel
theorem dX11_init_708 : decode cX11_init 708 = .ok (.bipush 91, 2) := by decide +kernel
theorem dX11_init_710 : decode cX11_init 710 = .ok (.bipush 103, 2) := by decide +kernel
theorem dX11_init_712 : decode cX11_init 712 = .ok (.iastore, 1) := by decide +kernel
theorem dX11_init_713 : decode cX11_init 713 = .ok (.dup, 1) := by decide +kernel
theorem dX11_init_714 : decode cX11_init 714 = .ok (.bipush 92, 2) := by decide +kernel
theorem dX11_init_716 : decode cX11_init 716 = .ok (.bipush 101, 2) := by decide +kernel
theorem dX11_init_718 : decode cX11_init 718 = .ok (.iastore, 1) := by decide +kernel
theorem dX11_init_719 : decode cX11_init 719 = .ok (.dup, 1) := by decide +kernel
theorem dX11_init_720 : decode cX11_init 720 = .ok (.bipush 93, 2) := by decide +kernel
theorem dX11_init_722 : decode cX11_init 722 = .ok (.bipush 32, 2) := by decide +kernel
theorem dX11_init_724 : decode cX11_init 724 = .ok (.iastore, 1) := by decide +kernel
theorem dX11_init_725 : decode cX11_init 725 = .ok (.dup, 1) := by decide +kernel
theorem dX11_init_726 : decode cX11_init 726 = .ok (.bipush 94, 2) := by decide +kernel
theorem dX11_init_728 : decode cX11_init 728 = .ok (.bipush 109, 2) := by decide +kernel
theorem dX11_init_730 : decode cX11_init 730 = .ok (.iastore, 1) := by decide +kernel
theorem dX11_init_731 : decode cX11_init 731 = .ok (.dup, 1) := by decide +kernel
theorem dX11_init_732 : decode cX11_init 732 = .ok (.bipush 95, 2) := by decide +kernel
theorem dX11_init_734 : decode cX11_init 734 = .ok (.bipush 105, 2) := by decide +kernel
theorem dX11_init_736 : decode cX11_init 736 = .ok (.iastore, 1) := by decide +kernel
theorem dX11_init_737 : decode cX11_init 737 = .ok (.dup, 1) := by decide +kernel
theorem dX11_init_738 : decode cX11_init 738 = .ok (.bipush 96, 2) := by decide +kernel
theorem dX11_init_740 : decode cX11_init 740 = .ok (.bipush 110, 2) := by decide +kernel
theorem dX11_init_742 : decode cX11_init 742 = .ok (.iastore, 1) := by decide +kernel
theorem dX11_init_743 : decode cX11_init 743 = .ok (.dup, 1) := by decide +kernel
theorem dX11_init_744 : decode cX11_init 744 = .ok (.bipush 97, 2) := by decide +kernel
theorem dX11_init_746 : decode cX11_init 746 = .ok (.bipush 117, 2) := by decide +kernel
theorem dX11_init_748 : decode cX11_init 748 = .ok (.iastore, 1) := by decide +kernel
theorem dX11_init_749 : decode cX11_init 749 = .ok (.dup, 1) := by decide +kernel
theorem dX11_init_750 : decode cX11_init 750 = .ok (.bipush 98, 2) := by decide +kernel
theorem dX11_init_752 : decode cX11_init 752 = .ok (.bipush 116, 2) := by decide +kernel
theorem dX11_init_754 : decode cX11_init 754 = .ok (.iastore, 1) := by decide +kernel
theorem dX11_init_755 : decode cX11_init 755 = .ok (.dup, 1) := by decide +kernel
theorem dX11_init_756 : decode cX11_init 756 = .ok (.bipush 99, 2) := by decide +kernel
theorem dX11_init_758 : decode cX11_init 758 = .ok (.bipush 101, 2) := by decide +kernel
theorem dX11_init_760 : decode cX11_init 760 = .ok (.iastore, 1) := by decide +kernel
theorem dX11_init_761 : decode cX11_init 761 = .ok (.dup, 1) := by decide +kernel
theorem dX11_init_762 : decode cX11_init 762 = .ok (.bipush 100, 2) := by decide +kernel
theorem dX11_init_764 : decode cX11_init 764 = .ok (.bipush 115, 2) := by decide +kernel
theorem dX11_init_766 : decode cX11_init 766 = .ok (.iastore, 1) := by decide +kernel
theorem dX11_init_767 : decode cX11_init 767 = .ok (.dup, 1) := by decide +kernel
theorem dX11_init_768 : decode cX11_init 768 = .ok (.bipush 101, 2) := by decide +kernel
theorem dX11_init_770 : decode cX11_init 770 = .ok (.bipush 32, 2) := by decide +kernel
theorem dX11_init_772 : decode cX11_init 772 = .ok (.iastore, 1) := by decide +kernel
theorem dX11_init_773 : decode cX11_init 773 = .ok (.dup, 1) := by decide +kernel
theorem dX11_init_774 : decode cX11_init 774 = .ok (.bipush 102, 2) := by decide +kernel
theorem dX11_init_776 : decode cX11_init 776 = .ok (.bipush 63, 2) := by decide +kernel
theorem dX11_init_778 : decode cX11_init 778 = .ok (.iastore, 1) := by decide +kernel
theorem dX11_init_779 : decode cX11_init 779 = .ok (.dup, 1) := by decide +kernel
theorem dX11_init_780 : decode cX11_init 780 = .ok (.bipush 103, 2) := by decide +kernel
theorem dX11_init_782 : decode cX11_init 782 = .ok (.bipush 32, 2) := by decide +kernel
theorem dX11_init_784 : decode cX11_init 784 = .ok (.iastore, 1) := by decide +kernel
theorem dX11_init_785 : decode cX11_init 785 = .ok (.dup, 1) := by decide +kernel
theorem dX11_init_786 : decode cX11_init 786 = .ok (.bipush 104, 2) := by decide +kernel
theorem dX11_init_788 : decode cX11_init 788 = .ok (.bipush 119, 2) := by decide +kernel
theorem dX11_init_790 : decode cX11_init 790 = .ok (.iastore, 1) := by decide +kernel
theorem dX11_init_791 : decode cX11_init 791 = .ok (.dup, 1) := by decide +kernel
theorem dX11_init_792 : decode cX11_init 792 = .ok (.bipush 105, 2) := by decide +kernel
theorem dX11_init_794 : decode cX11_init 794 = .ok (.bipush 111, 2) := by decide +kernel
theorem dX11_init_796 : decode cX11_init 796 = .ok (.iastore, 1) := by decide +kernel
theorem dX11_init_797 : decode cX11_init 797 = .ok (.dup, 1) := by decide +kernel
theorem dX11_init_798 : decode cX11_init 798 = .ok (.bipush 106, 2) := by decide +kernel
theorem dX11_init_800 : decode cX11_init 800 = .ok (.bipush 114, 2) := by decide +kernel
theorem dX11_init_802 : decode cX11_init 802 = .ok (.iastore, 1) := by decide +kernel
theorem dX11_init_803 : decode cX11_init 803 = .ok (.dup, 1) := by decide +kernel
theorem dX11_init_804 : decode cX11_init 804 = .ok (.bipush 107, 2) := by decide +kernel
theorem dX11_init_806 : decode cX11_init 806 = .ok (.bipush 110, 2) := by decide +kernel
theorem dX11_init_808 : decode cX11_init 808 = .ok (.iastore, 1) := by decide +kernel
theorem dX11_init_809 : decode cX11_init 809 = .ok (.dup, 1) := by decide +kernel
theorem dX11_init_810 : decode cX11_init 810 = .ok (.bipush 108, 2) := by decide +kernel
theorem dX11_init_812 : decode cX11_init 812 = .ok (.bipush 32, 2) := by decide +kernel
theorem dX11_init_814 : decode cX11_init 814 = .ok (.iastore, 1) := by decide +kernel
theorem dX11_init_815 : decode cX11_init 815 = .ok (.dup, 1) := by decide +kernel
theorem dX11_init_816 : decode cX11_init 816 = .ok (.bipush 109, 2) := by decide +kernel
theorem dX11_init_818 : decode cX11_init 818 = .ok (.bipush 104, 2) := by decide +kernel
theorem dX11_init_820 : decode cX11_init 820 = .ok (.iastore, 1) := by decide +kernel
theorem dX11_init_821 : decode cX11_init 821 = .ok (.dup, 1) := by decide +kernel
theorem dX11_init_822 : decode cX11_init 822 = .ok (.bipush 110, 2) := by decide +kernel
theorem dX11_init_824 : decode cX11_init 824 = .ok (.bipush 101, 2) := by decide +kernel
theorem dX11_init_826 : decode cX11_init 826 = .ok (.iastore, 1) := by decide +kernel
theorem dX11_init_827 : decode cX11_init 827 = .ok (.dup, 1) := by decide +kernel
theorem dX11_init_828 : decode cX11_init 828 = .ok (.bipush 111, 2) := by decide +kernel
theorem dX11_init_830 : decode cX11_init 830 = .ok (.bipush 97, 2) := by decide +kernel
theorem dX11_init_832 : decode cX11_init 832 = .ok (.iastore, 1) := by decide +kernel
theorem dX11_init_833 : decode cX11_init 833 = .ok (.dup, 1) := by decide +kernel
theorem dX11_init_834 : decode cX11_init 834 = .ok (.bipush 112, 2) := by decide +kernel
theorem dX11_init_836 : decode cX11_init 836 = .ok (.bipush 100, 2) := by decide +kernel
theorem dX11_init_838 : decode cX11_init 838 = .ok (.iastore, 1) := by decide +kernel
theorem dX11_init_839 : decode cX11_init 839 = .ok (.dup, 1) := by decide +kernel
theorem dX11_init_840 : decode cX11_init 840 = .ok (.bipush 113, 2) := by decide +kernel
theorem dX11_init_842 : decode cX11_init 842 = .ok (.bipush 115, 2) := by decide +kernel
theorem dX11_init_844 : decode cX11_init 844 = .ok (.iastore, 1) := by decide +kernel
theorem dX11_init_845 : decode cX11_init 845 = .ok (.dup, 1) := by decide +kernel
theorem dX11_init_846 : decode cX11_init 846 = .ok (.bipush 114, 2) := by decide +kernel
theorem dX11_init_848 : decode cX11_init 848 = .ok (.bipush 32, 2) := by decide +kernel
theorem dX11_init_850 : decode cX11_init 850 = .ok (.iastore, 1) := by decide +kernel
theorem dX11_init_851 : decode cX11_init 851 = .ok (.putfield 65, 3) := by decide +kernel
theorem dX11_init_854 : decode cX11_init 854 = .ok (.aload_n 0, 1) := by decide +kernel
theorem dX11_init_855 : decode cX11_init 855 = .ok (.iconst (-1), 1) := by decide +kernel
theorem dX11_init_856 : decode cX11_init 856 = .ok (.putfield 68, 3) := by decide +kernel
theorem dX11_init_859 : decode cX11_init 859 = .ok (.aload_n 0, 1) := by decide +kernel
theorem dX11_init_860 : decode cX11_init 860 = .ok (.iconst 4, 1) := by decide +kernel
theorem dX11_init_861 : decode cX11_init 861 = .ok (.newarray .int, 2) := by decide +kernel
theorem dX11_init_863 : decode cX11_init 863 = .ok (.putfield 72, 3) := by decide +kernel
theorem dX11_init_866 : decode cX11_init 866 = .ok (.aload_n 0, 1) := by decide +kernel
theorem dX11_init_867 : decode cX11_init 867 = .ok (.bipush 7, 2) := by decide +kernel
theorem dX11_init_869 : decode cX11_init 869 = .ok (.newarray .boolean, 2) := by decide +kernel
theorem dX11_init_871 : decode cX11_init 871 = .ok (.putfield 75, 3) := by decide +kernel
theorem dX11_init_874 : decode cX11_init 874 = .ok (.aload_n 0, 1) := by decide +kernel
theorem dX11_init_875 : decode cX11_init 875 = .ok (.bipush 7, 2) := by decide +kernel
theorem dX11_init_877 : decode cX11_init 877 = .ok (.newarray .boolean, 2) := by decide +kernel
theorem dX11_init_879 : decode cX11_init 879 = .ok (.putfield 78, 3) := by decide +kernel
theorem dX11_init_882 : decode cX11_init 882 = .ok (.aload_n 0, 1) := by decide +kernel
theorem dX11_init_883 : decode cX11_init 883 = .ok (.sipush 128, 3) := by decide +kernel
theorem dX11_init_886 : decode cX11_init 886 = .ok (.newarray .int, 2) := by decide +kernel
theorem dX11_init_888 : decode cX11_init 888 = .ok (.putfield 81, 3) := by decide +kernel
theorem dX11_init_891 : decode cX11_init 891 = .ok (.aload_n 0, 1) := by decide +kernel
theorem dX11_init_892 : decode cX11_init 892 = .ok (.sipush 128, 3) := by decide +kernel
theorem dX11_init_895 : decode cX11_init 895 = .ok (.newarray .int, 2) := by decide +kernel
theorem dX11_init_897 : decode cX11_init 897 = .ok (.putfield 84, 3) := by decide +kernel
theorem dX11_init_900 : decode cX11_init 900 = .ok (.aload_n 0, 1) := by decide +kernel
theorem dX11_init_901 : decode cX11_init 901 = .ok (.sipush 128, 3) := by decide +kernel
theorem dX11_init_904 : decode cX11_init 904 = .ok (.newarray .int, 2) := by decide +kernel
theorem dX11_init_906 : decode cX11_init 906 = .ok (.putfield 87, 3) := by decide +kernel
theorem dX11_init_909 : decode cX11_init 909 = .ok (.aload_n 0, 1) := by decide +kernel
theorem dX11_init_910 : decode cX11_init 910 = .ok (.sipush 128, 3) := by decide +kernel
theorem dX11_init_913 : decode cX11_init 913 = .ok (.newarray .int, 2) := by decide +kernel
theorem dX11_init_915 : decode cX11_init 915 = .ok (.putfield 90, 3) := by decide +kernel
theorem dX11_init_918 : decode cX11_init 918 = .ok (.aload_n 0, 1) := by decide +kernel
theorem dX11_init_919 : decode cX11_init 919 = .ok (.sipush 128, 3) := by decide +kernel
theorem dX11_init_922 : decode cX11_init 922 = .ok (.newarray .int, 2) := by decide +kernel
theorem dX11_init_924 : decode cX11_init 924 = .ok (.putfield 93, 3) := by decide +kernel
theorem dX11_init_927 : decode cX11_init 927 = .ok (.aload_n 0, 1) := by decide +kernel
theorem dX11_init_928 : decode cX11_init 928 = .ok (.bipush 10, 2) := by decide +kernel
theorem dX11_init_930 : decode cX11_init 930 = .ok (.newarray .int, 2) := by decide +kernel
theorem dX11_init_932 : decode cX11_init 932 = .ok (.putfield 96, 3) := by decide +kernel
theorem dX11_init_935 : decode cX11_init 935 = .ok (.aload_n 0, 1) := by decide +kernel
theorem dX11_init_936 : decode cX11_init 936 = .ok (.bipush 10, 2) := by decide +kernel
theorem dX11_init_938 : decode cX11_init 938 = .ok (.newarray .int, 2) := by decide +kernel
theorem dX11_init_940 : decode cX11_init 940 = .ok (.putfield 99, 3) := by decide +kernel
theorem dX11_init_943 : decode cX11_init 943 = .ok (.aload_n 0, 1) := by decide +kernel
theorem dX11_init_944 : decode cX11_init 944 = .ok (.bipush 100, 2) := by decide +kernel
theorem dX11_init_946 : decode cX11_init 946 = .ok (.newarray .int, 2) := by decide +kernel
theorem dX11_init_948 : decode cX11_init 948 = .ok (.putfield 102, 3) := by decide +kernel
theorem dX11_init_951 : decode cX11_init 951 = .ok (.aload_n 0, 1) := by decide +kernel
theorem dX11_init_952 : decode cX11_init 952 = .ok (.bipush 100, 2) := by decide +kernel
theorem dX11_init_954 : decode cX11_init 954 = .ok (.newarray .int, 2) := by decide +kernel
theorem dX11_init_956 : decode cX11_init 956 = .ok (.putfield 105, 3) := by decide +kernel
theorem dX11_init_959 : decode cX11_init 959 = .ok (.aload_n 0, 1) := by decide +kernel
theorem dX11_init_960 : decode cX11_init 960 = .ok (.bipush 100, 2) := by decide +kernel
theorem dX11_init_962 : decode cX11_init 962 = .ok (.newarray .int, 2) := by decide +kernel
theorem dX11_init_964 : decode cX11_init 964 = .ok (.putfield 108, 3) := by decide +kernel
theorem dX11_init_967 : decode cX11_init 967 = .ok (.aload_n 0, 1) := by decide +kernel
theorem dX11_init_968 : decode cX11_init 968 = .ok (.bipush 8, 2) := by decide +kernel
theorem dX11_init_970 : decode cX11_init 970 = .ok (.newarray .boolean, 2) := by decide +kernel
theorem dX11_init_972 : decode cX11_init 972 = .ok (.putfield 111, 3) := by decide +kernel
theorem dX11_init_975 : decode cX11_init 975 = .ok (.aload_n 0, 1) := by decide +kernel
theorem dX11_init_976 : decode cX11_init 976 = .ok (.bipush 64, 2) := by decide +kernel
theorem dX11_init_978 : decode cX11_init 978 = .ok (.newarray .long, 2) := by decide +kernel
theorem dX11_init_980 : decode cX11_init 980 = .ok (.putfield 114, 3) := by decide +kernel
theorem dX11_init_983 : decode cX11_init 983 = .ok (.aload_n 0, 1) := by decide +kernel
theorem dX11_init_984 : decode cX11_init 984 = .ok (.iconst 3, 1) := by decide +kernel
theorem dX11_init_985 : decode cX11_init 985 = .ok (.newarray .int, 2) := by decide +kernel
theorem dX11_init_987 : decode cX11_init 987 = .ok (.putfield 118, 3) := by decide +kernel
theorem dX11_init_990 : decode cX11_init 990 = .ok (.aload_n 0, 1) := by decide +kernel
theorem dX11_init_991 : decode cX11_init 991 = .ok (.iconst 3, 1) := by decide +kernel
theorem dX11_init_992 : decode cX11_init 992 = .ok (.newarray .int, 2) := by decide +kernel
theorem dX11_init_994 : decode cX11_init 994 = .ok (.putfield 121, 3) := by decide +kernel
theorem dX11_init_997 : decode cX11_init 997 = .ok (.aload_n 0, 1) := by decide +kernel
theorem dX11_init_998 : decode cX11_init 998 = .ok (.iconst 3, 1) := by decide +kernel
theorem dX11_init_999 : decode cX11_init 999 = .ok (.newarray .int, 2) := by decide +kernel
theorem dX11_init_1001 : decode cX11_init 1001 = .ok (.putfield 124, 3) := by decide +kernel
theorem dX11_init_1004 : decode cX11_init 1004 = .ok (.aload_n 0, 1) := by decide +kernel
theorem dX11_init_1005 : decode cX11_init 1005 = .ok (.iconst 3, 1) := by decide +kernel
theorem dX11_init_1006 : decode cX11_init 1006 = .ok (.newarray .int, 2) := by decide +kernel
theorem dX11_init_1008 : decode cX11_init 1008 = .ok (.putfield 127, 3) := by decide +kernel
theorem dX11_init_1011 : decode cX11_init 1011 = .ok (.aload_n 0, 1) := by decide +kernel
theorem dX11_init_1012 : decode cX11_init 1012 = .ok (.bipush 8, 2) := by decide +kernel
theorem dX11_init_1014 : decode cX11_init 1014 = .ok (.newarray .boolean, 2) := by decide +kernel
theorem dX11_init_1016 : decode cX11_init 1016 = .ok (.putfield 130, 3) := by decide +kernel
theorem dX11_init_1019 : decode cX11_init 1019 = .ok (.aload_n 0, 1) := by decide +kernel
theorem dX11_init_1020 : decode cX11_init 1020 = .ok (.iconst 4, 1) := by decide +kernel
theorem dX11_init_1021 : decode cX11_init 1021 = .ok (.newarray .int, 2) := by decide +kernel
theorem dX11_init_1023 : decode cX11_init 1023 = .ok (.putfield 133, 3) := by decide +kernel
theorem dX11_init_1026 : decode cX11_init 1026 = .ok (.aload_n 0, 1) := by decide +kernel
theorem dX11_init_1027 : decode cX11_init 1027 = .ok (.iconst 4, 1) := by decide +kernel
theorem dX11_init_1028 : decode cX11_init 1028 = .ok (.newarray .int, 2) := by decide +kernel
theorem dX11_init_1030 : decode cX11_init 1030 = .ok (.putfield 136, 3) := by decide +kernel
theorem dX11_init_1033 : decode cX11_init 1033 = .ok (.aload_n 0, 1) := by decide +kernel
theorem dX11_init_1034 : decode cX11_init 1034 = .ok (.bipush 32, 2) := by decide +kernel
theorem dX11_init_1036 : decode cX11_init 1036 = .ok (.newarray .int, 2) := by decide +kernel
theorem dX11_init_1038 : decode cX11_init 1038 = .ok (.putfield 139, 3) := by decide +kernel
theorem dX11_init_1041 : decode cX11_init 1041 = .ok (.aload_n 0, 1) := by decide +kernel
theorem dX11_init_1042 : decode cX11_init 1042 = .ok (.sipush 189, 3) := by decide +kernel
theorem dX11_init_1045 : decode cX11_init 1045 = .ok (.newarray .int, 2) := by decide +kernel
theorem dX11_init_1047 : decode cX11_init 1047 = .ok (.putfield 142, 3) := by decide +kernel
theorem dX11_init_1050 : decode cX11_init 1050 = .ok (.aload_n 0, 1) := by decide +kernel
theorem dX11_init_1051 : decode cX11_init 1051 = .ok (.bipush 12, 2) := by decide +kernel
theorem dX11_init_1053 : decode cX11_init 1053 = .ok (.newarray .int, 2) := by decide +kernel
theorem dX11_init_1055 : decode cX11_init 1055 = .ok (.putfield 145, 3) := by decide +kernel
theorem dX11_init_1058 : decode cX11_init 1058 = .ok (.aload_n 0, 1) := by decide +kernel
theorem dX11_init_1059 : decode cX11_init 1059 = .ok (.iconst 4, 1) := by decide +kernel
theorem dX11_init_1060 : decode cX11_init 1060 = .ok (.newarray .int, 2) := by decide +kernel
theorem dX11_init_1062 : decode cX11_init 1062 = .ok (.putfield 148, 3) := by decide +kernel
theorem dX11_init_1065 : decode cX11_init 1065 = .ok (.aload_n 0, 1) := by decide +kernel
theorem dX11_init_1066 : decode cX11_init 1066 = .ok (.iconst 3, 1) := by decide +kernel
theorem dX11_init_1067 : decode cX11_init 1067 = .ok (.newarray .int, 2) := by decide +kernel
theorem dX11_init_1069 : decode cX11_init 1069 = .ok (.putfield 151, 3) := by decide +kernel
theorem dX11_init_1072 : decode cX11_init 1072 = .ok (.aload_n 0, 1) := by decide +kernel
theorem dX11_init_1073 : decode cX11_init 1073 = .ok (.bipush 108, 2) := by decide +kernel
theorem dX11_init_1075 : decode cX11_init 1075 = .ok (.newarray .int, 2) := by decide +kernel
theorem dX11_init_1077 : decode cX11_init 1077 = .ok (.putfield 154, 3) := by decide +kernel
theorem dX11_init_1080 : decode cX11_init 1080 = .ok (.aload_n 0, 1) := by decide +kernel
theorem dX11_init_1081 : decode cX11_init 1081 = .ok (.invokevirtual 157, 3) := by decide +kernel
theorem dX11_init_1084 : decode cX11_init 1084 = .ok (.aload_n 0, 1) := by decide +kernel
theorem dX11_init_1085 : decode cX11_init 1085 = .ok (.invokevirtual 160, 3) := by decide +kernel
theorem dX11_init_1088 : decode cX11_init 1088 = .ok (.return_, 1) := by decide +kernel
theorem dX11_thrown_0 : decode cX11_thrown 0 = .ok (.aload_n 0, 1) := by decide +kernel
theorem dX11_thrown_1 : decode cX11_thrown 1 = .ok (.getfield 163, 3) := by decide +kernel
theorem dX11_thrown_4 : decode cX11_thrown 4 = .ok (.ireturn, 1) := by decide +kernel
theorem dX11_feed_0 : decode cX11_feed 0 = .ok (.aload_n 0, 1) := by decide +kernel
theorem dX11_feed_1 : decode cX11_feed 1 = .ok (.iconst 0, 1) := by decide +kernel
theorem dX11_feed_2 : decode cX11_feed 2 = .ok (.putfield 163, 3) := by decide +kernel
theorem dX11_feed_5 : decode cX11_feed 5 = .ok (.aload_n 0, 1) := by decide +kernel
theorem dX11_feed_6 : decode cX11_feed 6 = .ok (.getfield 166, 3) := by decide +kernel
theorem dX11_feed_9 : decode cX11_feed 9 = .ok (.bipush 20, 2) := by decide +kernel
theorem dX11_feed_11 : decode cX11_feed 11 = .ok (.iadd, 1) := by decide +kernel
theorem dX11_feed_12 : decode cX11_feed 12 = .ok (.sipush 500, 3) := by decide +kernel
theorem dX11_feed_15 : decode cX11_feed 15 = .ok (.if_icmp .le 5, 3) := by decide +kernel
theorem dX11_feed_18 : decode cX11_feed 18 = .ok (.iconst (-1), 1) := by decide +kernel
theorem dX11_feed_19 : decode cX11_feed 19 = .ok (.ireturn, 1) := by decide +kernel
theorem dX11_feed_20 : decode cX11_feed 20 = .ok (.iconst 0, 1) := by decide +kernel
theorem dX11_feed_21 : decode cX11_feed 21 = .ok (.istore 6, 2) := by decide +kernel
theorem dX11_feed_23 : decode cX11_feed 23 = .ok (.iload 6, 2) := by decide +kernel
theorem dX11_feed_25 : decode cX11_feed 25 = .ok (.bipush 20, 2) := by decide +kernel
theorem dX11_feed_27 : decode cX11_feed 27 = .ok (.if_icmp .ge 86, 3) := by decide +kernel
theorem dX11_feed_30 : decode cX11_feed 30 = .ok (.iload 6, 2) := by decide +kernel
theorem dX11_feed_32 : decode cX11_feed 32 = .ok (.iconst 4, 1) := by decide +kernel
theorem dX11_feed_33 : decode cX11_feed 33 = .ok (.if_icmp .ge 7, 3) := by decide +kernel
theorem dX11_feed_36 : decode cX11_feed 36 = .ok (.iload_n 1, 1) := by decide +kernel
theorem dX11_feed_37 : decode cX11_feed 37 = .ok (.goto 39, 3) := by decide +kernel
theorem dX11_feed_40 : decode cX11_feed 40 = .ok (.iload 6, 2) := by decide +kernel
theorem dX11_feed_42 : decode cX11_feed 42 = .ok (.bipush 8, 2) := by decide +kernel
theorem dX11_feed_44 : decode cX11_feed 44 = .ok (.if_icmp .ge 7, 3) := by decide +kernel
theorem dX11_feed_47 : decode cX11_feed 47 = .ok (.iload_n 2, 1) := by decide +kernel
theorem dX11_feed_48 : decode cX11_feed 48 = .ok (.goto 28, 3) := by decide +kernel
theorem dX11_feed_51 : decode cX11_feed 51 = .ok (.iload 6, 2) := by decide +kernel
theorem dX11_feed_53 : decode cX11_feed 53 = .ok (.bipush 12, 2) := by decide +kernel
theorem dX11_feed_55 : decode cX11_feed 55 = .ok (.if_icmp .ge 7, 3) := by decide +kernel
theorem dX11_feed_58 : decode cX11_feed 58 = .ok (.iload_n 3, 1) := by decide +kernel
theorem dX11_feed_59 : decode cX11_feed 59 = .ok (.goto 17, 3) := by decide +kernel
theorem dX11_feed_62 : decode cX11_feed 62 = .ok (.iload 6, 2) := by decide +kernel
theorem dX11_feed_64 : decode cX11_feed 64 = .ok (.bipush 16, 2) := by decide +kernel
theorem dX11_feed_66 : decode cX11_feed 66 = .ok (.if_icmp .ge 8, 3) := by decide +kernel
theorem dX11_feed_69 : decode cX11_feed 69 = .ok (.iload 4, 2) := by decide +kernel
theorem dX11_feed_71 : decode cX11_feed 71 = .ok (.goto 5, 3) := by decide +kernel
theorem dX11_feed_74 : decode cX11_feed 74 = .ok (.iload 5, 2) := by decide +kernel
theorem dX11_feed_76 : decode cX11_feed 76 = .ok (.istore 7, 2) := by decide +kernel
theorem dX11_feed_78 : decode cX11_feed 78 = .ok (.aload_n 0, 1) := by decide +kernel
theorem dX11_feed_79 : decode cX11_feed 79 = .ok (.getfield 7, 3) := by decide +kernel
theorem dX11_feed_82 : decode cX11_feed 82 = .ok (.aload_n 0, 1) := by decide +kernel
theorem dX11_feed_83 : decode cX11_feed 83 = .ok (.getfield 166, 3) := by decide +kernel
theorem dX11_feed_86 : decode cX11_feed 86 = .ok (.iload 6, 2) := by decide +kernel
theorem dX11_feed_88 : decode cX11_feed 88 = .ok (.iadd, 1) := by decide +kernel
theorem dX11_feed_89 : decode cX11_feed 89 = .ok (.iload 7, 2) := by decide +kernel
theorem dX11_feed_91 : decode cX11_feed 91 = .ok (.bipush 24, 2) := by decide +kernel
theorem dX11_feed_93 : decode cX11_feed 93 = .ok (.bipush 8, 2) := by decide +kernel
theorem dX11_feed_95 : decode cX11_feed 95 = .ok (.iload 6, 2) := by decide +kernel
theorem dX11_feed_97 : decode cX11_feed 97 = .ok (.iconst 4, 1) := by decide +kernel
theorem dX11_feed_98 : decode cX11_feed 98 = .ok (.irem, 1) := by decide +kernel
theorem dX11_feed_99 : decode cX11_feed 99 = .ok (.imul, 1) := by decide +kernel
theorem dX11_feed_100 : decode cX11_feed 100 = .ok (.isub, 1) := by decide +kernel
theorem dX11_feed_101 : decode cX11_feed 101 = .ok (.ishr, 1) := by decide +kernel
theorem dX11_feed_102 : decode cX11_feed 102 = .ok (.sipush 255, 3) := by decide +kernel
theorem dX11_feed_105 : decode cX11_feed 105 = .ok (.iand, 1) := by decide +kernel
theorem dX11_feed_106 : decode cX11_feed 106 = .ok (.iastore, 1) := by decide +kernel
theorem dX11_feed_107 : decode cX11_feed 107 = .ok (.iinc 6 1, 3) := by decide +kernel
theorem dX11_feed_110 : decode cX11_feed 110 = .ok (.goto (-87), 3) := by decide +kernel
theorem dX11_feed_113 : decode cX11_feed 113 = .ok (.aload_n 0, 1) := by decide +kernel
theorem dX11_feed_114 : decode cX11_feed 114 = .ok (.dup, 1) := by decide +kernel
theorem dX11_feed_115 : decode cX11_feed 115 = .ok (.getfield 166, 3) := by decide +kernel
theorem dX11_feed_118 : decode cX11_feed 118 = .ok (.bipush 20, 2) := by decide +kernel
theorem dX11_feed_120 : decode cX11_feed 120 = .ok (.iadd, 1) := by decide +kernel
theorem dX11_feed_121 : decode cX11_feed 121 = .ok (.putfield 166, 3) := by decide +kernel
theorem dX11_feed_124 : decode cX11_feed 124 = .ok (.aload_n 0, 1) := by decide +kernel
theorem dX11_feed_125 : decode cX11_feed 125 = .ok (.getfield 166, 3) := by decide +kernel
theorem dX11_feed_128 : decode cX11_feed 128 = .ok (.ireturn, 1) := by decide +kernel
theorem dX11_isIn_0 : decode cX11_isIn 0 = .ok (.iload_n 0, 1) := by decide +kernel
theorem dX11_isIn_1 : decode cX11_isIn 1 = .ok (.iload_n 1, 1) := by decide +kernel
theorem dX11_isIn_2 : decode cX11_isIn 2 = .ok (.if_icmp .lt 12, 3) := by decide +kernel
theorem dX11_isIn_5 : decode cX11_isIn 5 = .ok (.iload_n 0, 1) := by decide +kernel
theorem dX11_isIn_6 : decode cX11_isIn 6 = .ok (.iload_n 2, 1) := by decide +kernel
theorem dX11_isIn_7 : decode cX11_isIn 7 = .ok (.if_icmp .gt 7, 3) := by decide +kernel
theorem dX11_isIn_10 : decode cX11_isIn 10 = .ok (.iconst 1, 1) := by decide +kernel
theorem dX11_isIn_11 : decode cX11_isIn 11 = .ok (.goto 4, 3) := by decide +kernel
theorem dX11_isIn_14 : decode cX11_isIn 14 = .ok (.iconst 0, 1) := by decide +kernel
theorem dX11_isIn_15 : decode cX11_isIn 15 = .ok (.ireturn, 1) := by decide +kernel
theorem dX11_isVillage_0 : decode cX11_isVillage 0 = .ok (.iload_n 1, 1) := by decide +kernel
theorem dX11_isVillage_1 : decode cX11_isVillage 1 = .ok (.ifCond .lt 15, 3) := by decide +kernel
theorem dX11_isVillage_4 : decode cX11_isVillage 4 = .ok (.iload_n 1, 1) := by decide +kernel
theorem dX11_isVillage_5 : decode cX11_isVillage 5 = .ok (.aload_n 0, 1) := by decide +kernel
theorem dX11_isVillage_6 : decode cX11_isVillage 6 = .ok (.getfield 169, 3) := by decide +kernel
theorem dX11_isVillage_9 : decode cX11_isVillage 9 = .ok (.if_icmp .ge 7, 3) := by decide +kernel
theorem dX11_isVillage_12 : decode cX11_isVillage 12 = .ok (.iconst 1, 1) := by decide +kernel
theorem dX11_isVillage_13 : decode cX11_isVillage 13 = .ok (.goto 4, 3) := by decide +kernel
theorem dX11_isVillage_16 : decode cX11_isVillage 16 = .ok (.iconst 0, 1) := by decide +kernel
theorem dX11_isVillage_17 : decode cX11_isVillage 17 = .ok (.ireturn, 1) := by decide +kernel
theorem dX11_village_0 : decode cX11_village 0 = .ok (.aload_n 0, 1) := by decide +kernel
theorem dX11_village_1 : decode cX11_village 1 = .ok (.iconst 0, 1) := by decide +kernel
theorem dX11_village_2 : decode cX11_village 2 = .ok (.putfield 163, 3) := by decide +kernel
theorem dX11_village_5 : decode cX11_village 5 = .ok (.aload_n 0, 1) := by decide +kernel
theorem dX11_village_6 : decode cX11_village 6 = .ok (.getfield 169, 3) := by decide +kernel
theorem dX11_village_9 : decode cX11_village 9 = .ok (.bipush 8, 2) := by decide +kernel
theorem dX11_village_11 : decode cX11_village 11 = .ok (.if_icmp .eq 46, 3) := by decide +kernel
theorem dX11_village_14 : decode cX11_village 14 = .ok (.iload_n 1, 1) := by decide +kernel
theorem dX11_village_15 : decode cX11_village 15 = .ok (.iconst 1, 1) := by decide +kernel
theorem dX11_village_16 : decode cX11_village 16 = .ok (.sipush 999, 3) := by decide +kernel
theorem dX11_village_19 : decode cX11_village 19 = .ok (.invokestatic 172, 3) := by decide +kernel
theorem dX11_village_22 : decode cX11_village 22 = .ok (.ifCond .eq 35, 3) := by decide +kernel
theorem dX11_village_25 : decode cX11_village 25 = .ok (.iload_n 2, 1) := by decide +kernel
theorem dX11_village_26 : decode cX11_village 26 = .ok (.iconst 1, 1) := by decide +kernel
theorem dX11_village_27 : decode cX11_village 27 = .ok (.sipush 500, 3) := by decide +kernel
theorem dX11_village_30 : decode cX11_village 30 = .ok (.invokestatic 172, 3) := by decide +kernel
theorem dX11_village_33 : decode cX11_village 33 = .ok (.ifCond .eq 24, 3) := by decide +kernel
theorem dX11_village_36 : decode cX11_village 36 = .ok (.iload_n 3, 1) := by decide +kernel
theorem dX11_village_37 : decode cX11_village 37 = .ok (.iconst 0, 1) := by decide +kernel
theorem dX11_village_38 : decode cX11_village 38 = .ok (.bipush 9, 2) := by decide +kernel
theorem dX11_village_40 : decode cX11_village 40 = .ok (.invokestatic 172, 3) := by decide +kernel
theorem dX11_village_43 : decode cX11_village 43 = .ok (.ifCond .eq 14, 3) := by decide +kernel
theorem dX11_village_46 : decode cX11_village 46 = .ok (.iload 4, 2) := by decide +kernel
theorem dX11_village_48 : decode cX11_village 48 = .ok (.iconst 0, 1) := by decide +kernel
theorem dX11_village_49 : decode cX11_village 49 = .ok (.bipush 100, 2) := by decide +kernel
theorem dX11_village_51 : decode cX11_village 51 = .ok (.invokestatic 172, 3) := by decide +kernel
theorem dX11_village_54 : decode cX11_village 54 = .ok (.ifCond .ne 5, 3) := by decide +kernel
theorem dX11_village_57 : decode cX11_village 57 = .ok (.iconst (-1), 1) := by decide +kernel
theorem dX11_village_58 : decode cX11_village 58 = .ok (.ireturn, 1) := by decide +kernel
theorem dX11_village_59 : decode cX11_village 59 = .ok (.bipush 8, 2) := by decide +kernel
theorem dX11_village_61 : decode cX11_village 61 = .ok (.aload_n 0, 1) := by decide +kernel
theorem dX11_village_62 : decode cX11_village 62 = .ok (.getfield 169, 3) := by decide +kernel
theorem dX11_village_65 : decode cX11_village 65 = .ok (.imul, 1) := by decide +kernel
theorem dX11_village_66 : decode cX11_village 66 = .ok (.istore 5, 2) := by decide +kernel
theorem dX11_village_68 : decode cX11_village 68 = .ok (.aload_n 0, 1) := by decide +kernel
theorem dX11_village_69 : decode cX11_village 69 = .ok (.getfield 13, 3) := by decide +kernel
theorem dX11_village_72 : decode cX11_village 72 = .ok (.iload 5, 2) := by decide +kernel
theorem dX11_village_74 : decode cX11_village 74 = .ok (.iload_n 1, 1) := by decide +kernel
theorem dX11_village_75 : decode cX11_village 75 = .ok (.iastore, 1) := by decide +kernel
theorem dX11_village_76 : decode cX11_village 76 = .ok (.aload_n 0, 1) := by decide +kernel
theorem dX11_village_77 : decode cX11_village 77 = .ok (.getfield 13, 3) := by decide +kernel
theorem dX11_village_80 : decode cX11_village 80 = .ok (.iload 5, 2) := by decide +kernel
theorem dX11_village_82 : decode cX11_village 82 = .ok (.iconst 1, 1) := by decide +kernel
theorem dX11_village_83 : decode cX11_village 83 = .ok (.iadd, 1) := by decide +kernel
theorem dX11_village_84 : decode cX11_village 84 = .ok (.iload_n 2, 1) := by decide +kernel
theorem dX11_village_85 : decode cX11_village 85 = .ok (.iastore, 1) := by decide +kernel
theorem dX11_village_86 : decode cX11_village 86 = .ok (.aload_n 0, 1) := by decide +kernel
theorem dX11_village_87 : decode cX11_village 87 = .ok (.getfield 13, 3) := by decide +kernel
theorem dX11_village_90 : decode cX11_village 90 = .ok (.iload 5, 2) := by decide +kernel
theorem dX11_village_92 : decode cX11_village 92 = .ok (.iconst 2, 1) := by decide +kernel
theorem dX11_village_93 : decode cX11_village 93 = .ok (.iadd, 1) := by decide +kernel
theorem dX11_village_94 : decode cX11_village 94 = .ok (.iload_n 3, 1) := by decide +kernel
theorem dX11_village_95 : decode cX11_village 95 = .ok (.iastore, 1) := by decide +kernel
theorem dX11_village_96 : decode cX11_village 96 = .ok (.aload_n 0, 1) := by decide +kernel
theorem dX11_village_97 : decode cX11_village 97 = .ok (.getfield 13, 3) := by decide +kernel
theorem dX11_village_100 : decode cX11_village 100 = .ok (.iload 5, 2) := by decide +kernel
theorem dX11_village_102 : decode cX11_village 102 = .ok (.iconst 3, 1) := by decide +kernel
theorem dX11_village_103 : decode cX11_village 103 = .ok (.iadd, 1) := by decide +kernel
theorem dX11_village_104 : decode cX11_village 104 = .ok (.iload 4, 2) := by decide +kernel
theorem dX11_village_106 : decode cX11_village 106 = .ok (.iastore, 1) := by decide +kernel
theorem dX11_village_107 : decode cX11_village 107 = .ok (.iconst 4, 1) := by decide +kernel
theorem dX11_village_108 : decode cX11_village 108 = .ok (.istore 6, 2) := by decide +kernel
theorem dX11_village_110 : decode cX11_village 110 = .ok (.iload 6, 2) := by decide +kernel
theorem dX11_village_112 : decode cX11_village 112 = .ok (.bipush 8, 2) := by decide +kernel
theorem dX11_village_114 : decode cX11_village 114 = .ok (.if_icmp .ge 21, 3) := by decide +kernel
theorem dX11_village_117 : decode cX11_village 117 = .ok (.aload_n 0, 1) := by decide +kernel
theorem dX11_village_118 : decode cX11_village 118 = .ok (.getfield 13, 3) := by decide +kernel
theorem dX11_village_121 : decode cX11_village 121 = .ok (.iload 5, 2) := by decide +kernel
theorem dX11_village_123 : decode cX11_village 123 = .ok (.iload 6, 2) := by decide +kernel
theorem dX11_village_125 : decode cX11_village 125 = .ok (.iadd, 1) := by decide +kernel
theorem dX11_village_126 : decode cX11_village 126 = .ok (.bipush 50, 2) := by decide +kernel
theorem dX11_village_128 : decode cX11_village 128 = .ok (.iastore, 1) := by decide +kernel
theorem dX11_village_129 : decode cX11_village 129 = .ok (.iinc 6 1, 3) := by decide +kernel
theorem dX11_village_132 : decode cX11_village 132 = .ok (.goto (-22), 3) := by decide +kernel
theorem dX11_village_135 : decode cX11_village 135 = .ok (.aload_n 0, 1) := by decide +kernel
theorem dX11_village_136 : decode cX11_village 136 = .ok (.dup, 1) := by decide +kernel
theorem dX11_village_137 : decode cX11_village 137 = .ok (.getfield 169, 3) := by decide +kernel
theorem dX11_village_140 : decode cX11_village 140 = .ok (.iconst 1, 1) := by decide +kernel
theorem dX11_village_141 : decode cX11_village 141 = .ok (.iadd, 1) := by decide +kernel
theorem dX11_village_142 : decode cX11_village 142 = .ok (.putfield 169, 3) := by decide +kernel
theorem dX11_village_145 : decode cX11_village 145 = .ok (.aload_n 0, 1) := by decide +kernel
theorem dX11_village_146 : decode cX11_village 146 = .ok (.getfield 169, 3) := by decide +kernel
theorem dX11_village_149 : decode cX11_village 149 = .ok (.iconst 1, 1) := by decide +kernel
theorem dX11_village_150 : decode cX11_village 150 = .ok (.isub, 1) := by decide +kernel
theorem dX11_village_151 : decode cX11_village 151 = .ok (.ireturn, 1) := by decide +kernel
theorem dX11_like_0 : decode cX11_like 0 = .ok (.aload_n 0, 1) := by decide +kernel
theorem dX11_like_1 : decode cX11_like 1 = .ok (.iconst 0, 1) := by decide +kernel
theorem dX11_like_2 : decode cX11_like 2 = .ok (.putfield 163, 3) := by decide +kernel
theorem dX11_like_5 : decode cX11_like 5 = .ok (.aload_n 0, 1) := by decide +kernel
theorem dX11_like_6 : decode cX11_like 6 = .ok (.iload_n 1, 1) := by decide +kernel
theorem dX11_like_7 : decode cX11_like 7 = .ok (.invokevirtual 176, 3) := by decide +kernel
theorem dX11_like_10 : decode cX11_like 10 = .ok (.ifCond .eq 22, 3) := by decide +kernel
theorem dX11_like_13 : decode cX11_like 13 = .ok (.iload_n 2, 1) := by decide +kernel
theorem dX11_like_14 : decode cX11_like 14 = .ok (.iconst 0, 1) := by decide +kernel
theorem dX11_like_15 : decode cX11_like 15 = .ok (.iconst 3, 1) := by decide +kernel
theorem dX11_like_16 : decode cX11_like 16 = .ok (.invokestatic 172, 3) := by decide +kernel
theorem dX11_like_19 : decode cX11_like 19 = .ok (.ifCond .eq 13, 3) := by decide +kernel
theorem dX11_like_22 : decode cX11_like 22 = .ok (.iload_n 3, 1) := by decide +kernel
theorem dX11_like_23 : decode cX11_like 23 = .ok (.iconst 0, 1) := by decide +kernel
theorem dX11_like_24 : decode cX11_like 24 = .ok (.bipush 100, 2) := by decide +kernel
theorem dX11_like_26 : decode cX11_like 26 = .ok (.invokestatic 172, 3) := by decide +kernel
theorem dX11_like_29 : decode cX11_like 29 = .ok (.ifCond .ne 5, 3) := by decide +kernel
theorem dX11_like_32 : decode cX11_like 32 = .ok (.iconst 0, 1) := by decide +kernel
theorem dX11_like_33 : decode cX11_like 33 = .ok (.ireturn, 1) := by decide +kernel
theorem dX11_like_34 : decode cX11_like 34 = .ok (.aload_n 0, 1) := by decide +kernel
theorem dX11_like_35 : decode cX11_like 35 = .ok (.getfield 13, 3) := by decide +kernel
theorem dX11_like_38 : decode cX11_like 38 = .ok (.bipush 8, 2) := by decide +kernel
theorem dX11_like_40 : decode cX11_like 40 = .ok (.iload_n 1, 1) := by decide +kernel
theorem dX11_like_41 : decode cX11_like 41 = .ok (.imul, 1) := by decide +kernel
theorem dX11_like_42 : decode cX11_like 42 = .ok (.iconst 4, 1) := by decide +kernel
theorem dX11_like_43 : decode cX11_like 43 = .ok (.iadd, 1) := by decide +kernel
theorem dX11_like_44 : decode cX11_like 44 = .ok (.iload_n 2, 1) := by decide +kernel
theorem dX11_like_45 : decode cX11_like 45 = .ok (.iadd, 1) := by decide +kernel
theorem dX11_like_46 : decode cX11_like 46 = .ok (.iload_n 3, 1) := by decide +kernel
theorem dX11_like_47 : decode cX11_like 47 = .ok (.iastore, 1) := by decide +kernel
theorem dX11_like_48 : decode cX11_like 48 = .ok (.iconst 1, 1) := by decide +kernel
theorem dX11_like_49 : decode cX11_like 49 = .ok (.ireturn, 1) := by decide +kernel
theorem dX11_road_0 : decode cX11_road 0 = .ok (.aload_n 0, 1) := by decide +kernel
theorem dX11_road_1 : decode cX11_road 1 = .ok (.iconst 0, 1) := by decide +kernel
theorem dX11_road_2 : decode cX11_road 2 = .ok (.putfield 163, 3) := by decide +kernel
theorem dX11_road_5 : decode cX11_road 5 = .ok (.aload_n 0, 1) := by decide +kernel
theorem dX11_road_6 : decode cX11_road 6 = .ok (.getfield 180, 3) := by decide +kernel
theorem dX11_road_9 : decode cX11_road 9 = .ok (.bipush 14, 2) := by decide +kernel
theorem dX11_road_11 : decode cX11_road 11 = .ok (.if_icmp .eq 59, 3) := by decide +kernel
theorem dX11_road_14 : decode cX11_road 14 = .ok (.aload_n 0, 1) := by decide +kernel
theorem dX11_road_15 : decode cX11_road 15 = .ok (.iload_n 1, 1) := by decide +kernel
theorem dX11_road_16 : decode cX11_road 16 = .ok (.invokevirtual 176, 3) := by decide +kernel
theorem dX11_road_19 : decode cX11_road 19 = .ok (.ifCond .eq 51, 3) := by decide +kernel
theorem dX11_road_22 : decode cX11_road 22 = .ok (.aload_n 0, 1) := by decide +kernel
theorem dX11_road_23 : decode cX11_road 23 = .ok (.iload_n 2, 1) := by decide +kernel
theorem dX11_road_24 : decode cX11_road 24 = .ok (.invokevirtual 176, 3) := by decide +kernel
theorem dX11_road_27 : decode cX11_road 27 = .ok (.ifCond .eq 43, 3) := by decide +kernel
theorem dX11_road_30 : decode cX11_road 30 = .ok (.iload_n 1, 1) := by decide +kernel
theorem dX11_road_31 : decode cX11_road 31 = .ok (.iload_n 2, 1) := by decide +kernel
theorem dX11_road_32 : decode cX11_road 32 = .ok (.if_icmp .eq 38, 3) := by decide +kernel
theorem dX11_road_35 : decode cX11_road 35 = .ok (.iload_n 3, 1) := by decide +kernel
theorem dX11_road_36 : decode cX11_road 36 = .ok (.iconst 1, 1) := by decide +kernel
theorem dX11_road_37 : decode cX11_road 37 = .ok (.sipush 600, 3) := by decide +kernel
theorem dX11_road_40 : decode cX11_road 40 = .ok (.invokestatic 172, 3) := by decide +kernel
theorem dX11_road_43 : decode cX11_road 43 = .ok (.ifCond .eq 27, 3) := by decide +kernel
theorem dX11_road_46 : decode cX11_road 46 = .ok (.iload 4, 2) := by decide +kernel
theorem dX11_road_48 : decode cX11_road 48 = .ok (.iconst 0, 1) := by decide +kernel
theorem dX11_road_49 : decode cX11_road 49 = .ok (.bipush 15, 2) := by decide +kernel
theorem dX11_road_51 : decode cX11_road 51 = .ok (.invokestatic 172, 3) := by decide +kernel
theorem dX11_road_54 : decode cX11_road 54 = .ok (.ifCond .eq 16, 3) := by decide +kernel
theorem dX11_road_57 : decode cX11_road 57 = .ok (.iload 4, 2) := by decide +kernel
theorem dX11_road_59 : decode cX11_road 59 = .ok (.ifCond .le 13, 3) := by decide +kernel
theorem dX11_road_62 : decode cX11_road 62 = .ok (.aload_n 0, 1) := by decide +kernel
theorem dX11_road_63 : decode cX11_road 63 = .ok (.getfield 183, 3) := by decide +kernel
theorem dX11_road_66 : decode cX11_road 66 = .ok (.iconst 2, 1) := by decide +kernel
theorem dX11_road_67 : decode cX11_road 67 = .ok (.if_icmp .ne 5, 3) := by decide +kernel
theorem dX11_road_70 : decode cX11_road 70 = .ok (.iconst (-1), 1) := by decide +kernel
theorem dX11_road_71 : decode cX11_road 71 = .ok (.ireturn, 1) := by decide +kernel
theorem dX11_road_72 : decode cX11_road 72 = .ok (.aload_n 0, 1) := by decide +kernel
theorem dX11_road_73 : decode cX11_road 73 = .ok (.getfield 16, 3) := by decide +kernel
theorem dX11_road_76 : decode cX11_road 76 = .ok (.aload_n 0, 1) := by decide +kernel
theorem dX11_road_77 : decode cX11_road 77 = .ok (.getfield 180, 3) := by decide +kernel
theorem dX11_road_80 : decode cX11_road 80 = .ok (.iload_n 1, 1) := by decide +kernel
theorem dX11_road_81 : decode cX11_road 81 = .ok (.iastore, 1) := by decide +kernel
theorem dX11_road_82 : decode cX11_road 82 = .ok (.aload_n 0, 1) := by decide +kernel
theorem dX11_road_83 : decode cX11_road 83 = .ok (.getfield 19, 3) := by decide +kernel
theorem dX11_road_86 : decode cX11_road 86 = .ok (.aload_n 0, 1) := by decide +kernel
theorem dX11_road_87 : decode cX11_road 87 = .ok (.getfield 180, 3) := by decide +kernel
theorem dX11_road_90 : decode cX11_road 90 = .ok (.iload_n 2, 1) := by decide +kernel
theorem dX11_road_91 : decode cX11_road 91 = .ok (.iastore, 1) := by decide +kernel
theorem dX11_road_92 : decode cX11_road 92 = .ok (.aload_n 0, 1) := by decide +kernel
theorem dX11_road_93 : decode cX11_road 93 = .ok (.getfield 22, 3) := by decide +kernel
theorem dX11_road_96 : decode cX11_road 96 = .ok (.aload_n 0, 1) := by decide +kernel
theorem dX11_road_97 : decode cX11_road 97 = .ok (.getfield 180, 3) := by decide +kernel
theorem dX11_road_100 : decode cX11_road 100 = .ok (.iload_n 3, 1) := by decide +kernel
theorem dX11_road_101 : decode cX11_road 101 = .ok (.iastore, 1) := by decide +kernel
theorem dX11_road_102 : decode cX11_road 102 = .ok (.aload_n 0, 1) := by decide +kernel
theorem dX11_road_103 : decode cX11_road 103 = .ok (.getfield 25, 3) := by decide +kernel
theorem dX11_road_106 : decode cX11_road 106 = .ok (.aload_n 0, 1) := by decide +kernel
theorem dX11_road_107 : decode cX11_road 107 = .ok (.getfield 180, 3) := by decide +kernel
theorem dX11_road_110 : decode cX11_road 110 = .ok (.iconst (-1), 1) := by decide +kernel
theorem dX11_road_111 : decode cX11_road 111 = .ok (.iastore, 1) := by decide +kernel
theorem dX11_road_112 : decode cX11_road 112 = .ok (.iload 4, 2) := by decide +kernel
theorem dX11_road_114 : decode cX11_road 114 = .ok (.ifCond .le 37, 3) := by decide +kernel
theorem dX11_road_117 : decode cX11_road 117 = .ok (.aload_n 0, 1) := by decide +kernel
theorem dX11_road_118 : decode cX11_road 118 = .ok (.getfield 25, 3) := by decide +kernel
theorem dX11_road_121 : decode cX11_road 121 = .ok (.aload_n 0, 1) := by decide +kernel
theorem dX11_road_122 : decode cX11_road 122 = .ok (.getfield 180, 3) := by decide +kernel
theorem dX11_road_125 : decode cX11_road 125 = .ok (.aload_n 0, 1) := by decide +kernel
theorem dX11_road_126 : decode cX11_road 126 = .ok (.getfield 183, 3) := by decide +kernel
theorem dX11_road_129 : decode cX11_road 129 = .ok (.iastore, 1) := by decide +kernel
theorem dX11_road_130 : decode cX11_road 130 = .ok (.aload_n 0, 1) := by decide +kernel
theorem dX11_road_131 : decode cX11_road 131 = .ok (.getfield 28, 3) := by decide +kernel
theorem dX11_road_134 : decode cX11_road 134 = .ok (.aload_n 0, 1) := by decide +kernel
theorem dX11_road_135 : decode cX11_road 135 = .ok (.getfield 183, 3) := by decide +kernel
theorem dX11_road_138 : decode cX11_road 138 = .ok (.iload 4, 2) := by decide +kernel
theorem dX11_road_140 : decode cX11_road 140 = .ok (.iastore, 1) := by decide +kernel
theorem dX11_road_141 : decode cX11_road 141 = .ok (.aload_n 0, 1) := by decide +kernel
theorem dX11_road_142 : decode cX11_road 142 = .ok (.dup, 1) := by decide +kernel
theorem dX11_road_143 : decode cX11_road 143 = .ok (.getfield 183, 3) := by decide +kernel
theorem dX11_road_146 : decode cX11_road 146 = .ok (.iconst 1, 1) := by decide +kernel
theorem dX11_road_147 : decode cX11_road 147 = .ok (.iadd, 1) := by decide +kernel
theorem dX11_road_148 : decode cX11_road 148 = .ok (.putfield 183, 3) := by decide +kernel
theorem dX11_road_151 : decode cX11_road 151 = .ok (.aload_n 0, 1) := by decide +kernel
theorem dX11_road_152 : decode cX11_road 152 = .ok (.dup, 1) := by decide +kernel
theorem dX11_road_153 : decode cX11_road 153 = .ok (.getfield 180, 3) := by decide +kernel
theorem dX11_road_156 : decode cX11_road 156 = .ok (.iconst 1, 1) := by decide +kernel
theorem dX11_road_157 : decode cX11_road 157 = .ok (.iadd, 1) := by decide +kernel
theorem dX11_road_158 : decode cX11_road 158 = .ok (.putfield 180, 3) := by decide +kernel
theorem dX11_road_161 : decode cX11_road 161 = .ok (.aload_n 0, 1) := by decide +kernel
theorem dX11_road_162 : decode cX11_road 162 = .ok (.getfield 180, 3) := by decide +kernel
theorem dX11_road_165 : decode cX11_road 165 = .ok (.iconst 1, 1) := by decide +kernel
theorem dX11_road_166 : decode cX11_road 166 = .ok (.isub, 1) := by decide +kernel
theorem dX11_road_167 : decode cX11_road 167 = .ok (.ireturn, 1) := by decide +kernel
theorem dX11_van_0 : decode cX11_van 0 = .ok (.aload_n 0, 1) := by decide +kernel
theorem dX11_van_1 : decode cX11_van 1 = .ok (.iconst 0, 1) := by decide +kernel
theorem dX11_van_2 : decode cX11_van 2 = .ok (.putfield 163, 3) := by decide +kernel
theorem dX11_van_5 : decode cX11_van 5 = .ok (.aload_n 0, 1) := by decide +kernel
theorem dX11_van_6 : decode cX11_van 6 = .ok (.getfield 186, 3) := by decide +kernel
theorem dX11_van_9 : decode cX11_van 9 = .ok (.iconst 3, 1) := by decide +kernel
theorem dX11_van_10 : decode cX11_van 10 = .ok (.if_icmp .eq 11, 3) := by decide +kernel
theorem dX11_van_13 : decode cX11_van 13 = .ok (.aload_n 0, 1) := by decide +kernel
theorem dX11_van_14 : decode cX11_van 14 = .ok (.iload_n 1, 1) := by decide +kernel
theorem dX11_van_15 : decode cX11_van 15 = .ok (.invokevirtual 176, 3) := by decide +kernel
theorem dX11_van_18 : decode cX11_van 18 = .ok (.ifCond .ne 5, 3) := by decide +kernel
theorem dX11_van_21 : decode cX11_van 21 = .ok (.iconst (-1), 1) := by decide +kernel
theorem dX11_van_22 : decode cX11_van 22 = .ok (.ireturn, 1) := by decide +kernel
theorem dX11_van_23 : decode cX11_van 23 = .ok (.aload_n 0, 1) := by decide +kernel
theorem dX11_van_24 : decode cX11_van 24 = .ok (.getfield 31, 3) := by decide +kernel
theorem dX11_van_27 : decode cX11_van 27 = .ok (.aload_n 0, 1) := by decide +kernel
theorem dX11_van_28 : decode cX11_van 28 = .ok (.getfield 186, 3) := by decide +kernel
theorem dX11_van_31 : decode cX11_van 31 = .ok (.iload_n 1, 1) := by decide +kernel
theorem dX11_van_32 : decode cX11_van 32 = .ok (.iastore, 1) := by decide +kernel
theorem dX11_van_33 : decode cX11_van 33 = .ok (.aload_n 0, 1) := by decide +kernel
theorem dX11_van_34 : decode cX11_van 34 = .ok (.getfield 34, 3) := by decide +kernel
theorem dX11_van_37 : decode cX11_van 37 = .ok (.aload_n 0, 1) := by decide +kernel
theorem dX11_van_38 : decode cX11_van 38 = .ok (.getfield 186, 3) := by decide +kernel
theorem dX11_van_41 : decode cX11_van 41 = .ok (.iconst 0, 1) := by decide +kernel
theorem dX11_van_42 : decode cX11_van 42 = .ok (.iastore, 1) := by decide +kernel
theorem dX11_van_43 : decode cX11_van 43 = .ok (.aload_n 0, 1) := by decide +kernel
theorem dX11_van_44 : decode cX11_van 44 = .ok (.dup, 1) := by decide +kernel
theorem dX11_van_45 : decode cX11_van 45 = .ok (.getfield 186, 3) := by decide +kernel
theorem dX11_van_48 : decode cX11_van 48 = .ok (.iconst 1, 1) := by decide +kernel
theorem dX11_van_49 : decode cX11_van 49 = .ok (.iadd, 1) := by decide +kernel
theorem dX11_van_50 : decode cX11_van 50 = .ok (.putfield 186, 3) := by decide +kernel
theorem dX11_van_53 : decode cX11_van 53 = .ok (.aload_n 0, 1) := by decide +kernel
theorem dX11_van_54 : decode cX11_van 54 = .ok (.getfield 186, 3) := by decide +kernel
theorem dX11_van_57 : decode cX11_van 57 = .ok (.iconst 1, 1) := by decide +kernel
theorem dX11_van_58 : decode cX11_van 58 = .ok (.isub, 1) := by decide +kernel
theorem dX11_van_59 : decode cX11_van 59 = .ok (.ireturn, 1) := by decide +kernel
theorem dX11_isVan_0 : decode cX11_isVan 0 = .ok (.iload_n 1, 1) := by decide +kernel
theorem dX11_isVan_1 : decode cX11_isVan 1 = .ok (.ifCond .lt 15, 3) := by decide +kernel
theorem dX11_isVan_4 : decode cX11_isVan 4 = .ok (.iload_n 1, 1) := by decide +kernel
theorem dX11_isVan_5 : decode cX11_isVan 5 = .ok (.aload_n 0, 1) := by decide +kernel
theorem dX11_isVan_6 : decode cX11_isVan 6 = .ok (.getfield 186, 3) := by decide +kernel
theorem dX11_isVan_9 : decode cX11_isVan 9 = .ok (.if_icmp .ge 7, 3) := by decide +kernel
theorem dX11_isVan_12 : decode cX11_isVan 12 = .ok (.iconst 1, 1) := by decide +kernel
theorem dX11_isVan_13 : decode cX11_isVan 13 = .ok (.goto 4, 3) := by decide +kernel
theorem dX11_isVan_16 : decode cX11_isVan 16 = .ok (.iconst 0, 1) := by decide +kernel
theorem dX11_isVan_17 : decode cX11_isVan 17 = .ok (.ireturn, 1) := by decide +kernel
theorem dX11_broken_0 : decode cX11_broken 0 = .ok (.aload_n 0, 1) := by decide +kernel
theorem dX11_broken_1 : decode cX11_broken 1 = .ok (.iconst 0, 1) := by decide +kernel
theorem dX11_broken_2 : decode cX11_broken 2 = .ok (.putfield 163, 3) := by decide +kernel
theorem dX11_broken_5 : decode cX11_broken 5 = .ok (.aload_n 0, 1) := by decide +kernel
theorem dX11_broken_6 : decode cX11_broken 6 = .ok (.iload_n 1, 1) := by decide +kernel
theorem dX11_broken_7 : decode cX11_broken 7 = .ok (.invokevirtual 189, 3) := by decide +kernel
theorem dX11_broken_10 : decode cX11_broken 10 = .ok (.ifCond .eq 13, 3) := by decide +kernel
theorem dX11_broken_13 : decode cX11_broken 13 = .ok (.iload_n 2, 1) := by decide +kernel
theorem dX11_broken_14 : decode cX11_broken 14 = .ok (.iconst 0, 1) := by decide +kernel
theorem dX11_broken_15 : decode cX11_broken 15 = .ok (.bipush 15, 2) := by decide +kernel
theorem dX11_broken_17 : decode cX11_broken 17 = .ok (.invokestatic 172, 3) := by decide +kernel
theorem dX11_broken_20 : decode cX11_broken 20 = .ok (.ifCond .ne 5, 3) := by decide +kernel
theorem dX11_broken_23 : decode cX11_broken 23 = .ok (.iconst 0, 1) := by decide +kernel
theorem dX11_broken_24 : decode cX11_broken 24 = .ok (.ireturn, 1) := by decide +kernel
theorem dX11_broken_25 : decode cX11_broken 25 = .ok (.aload_n 0, 1) := by decide +kernel
theorem dX11_broken_26 : decode cX11_broken 26 = .ok (.getfield 34, 3) := by decide +kernel
theorem dX11_broken_29 : decode cX11_broken 29 = .ok (.iload_n 1, 1) := by decide +kernel
theorem dX11_broken_30 : decode cX11_broken 30 = .ok (.iload_n 2, 1) := by decide +kernel
theorem dX11_broken_31 : decode cX11_broken 31 = .ok (.iastore, 1) := by decide +kernel
theorem dX11_broken_32 : decode cX11_broken 32 = .ok (.iconst 1, 1) := by decide +kernel
theorem dX11_broken_33 : decode cX11_broken 33 = .ok (.ireturn, 1) := by decide +kernel
theorem dX11_print_0 : decode cX11_print 0 = .ok (.aload_n 0, 1) := by decide +kernel
theorem dX11_print_1 : decode cX11_print 1 = .ok (.iconst 0, 1) := by decide +kernel
theorem dX11_print_2 : decode cX11_print 2 = .ok (.putfield 163, 3) := by decide +kernel
theorem dX11_print_5 : decode cX11_print 5 = .ok (.aload_n 0, 1) := by decide +kernel
theorem dX11_print_6 : decode cX11_print 6 = .ok (.getfield 192, 3) := by decide +kernel
theorem dX11_print_9 : decode cX11_print 9 = .ok (.iconst 4, 1) := by decide +kernel
theorem dX11_print_10 : decode cX11_print 10 = .ok (.if_icmp .eq 74, 3) := by decide +kernel
theorem dX11_print_13 : decode cX11_print 13 = .ok (.iload_n 1, 1) := by decide +kernel
theorem dX11_print_14 : decode cX11_print 14 = .ok (.iconst 0, 1) := by decide +kernel
theorem dX11_print_15 : decode cX11_print 15 = .ok (.iconst 3, 1) := by decide +kernel
theorem dX11_print_16 : decode cX11_print 16 = .ok (.invokestatic 172, 3) := by decide +kernel
theorem dX11_print_19 : decode cX11_print 19 = .ok (.ifCond .eq 65, 3) := by decide +kernel
theorem dX11_print_22 : decode cX11_print 22 = .ok (.iload_n 2, 1) := by decide +kernel
theorem dX11_print_23 : decode cX11_print 23 = .ok (.iconst 0, 1) := by decide +kernel
theorem dX11_print_24 : decode cX11_print 24 = .ok (.bipush 18, 2) := by decide +kernel
theorem dX11_print_26 : decode cX11_print 26 = .ok (.invokestatic 172, 3) := by decide +kernel
theorem dX11_print_29 : decode cX11_print 29 = .ok (.ifCond .eq 55, 3) := by decide +kernel
theorem dX11_print_32 : decode cX11_print 32 = .ok (.iload_n 3, 1) := by decide +kernel
theorem dX11_print_33 : decode cX11_print 33 = .ok (.bipush 10, 2) := by decide +kernel
theorem dX11_print_35 : decode cX11_print 35 = .ok (.sipush 240, 3) := by decide +kernel
theorem dX11_print_38 : decode cX11_print 38 = .ok (.invokestatic 172, 3) := by decide +kernel
theorem dX11_print_41 : decode cX11_print 41 = .ok (.ifCond .eq 43, 3) := by decide +kernel
theorem dX11_print_44 : decode cX11_print 44 = .ok (.aload_n 0, 1) := by decide +kernel
theorem dX11_print_45 : decode cX11_print 45 = .ok (.iload 4, 2) := by decide +kernel
theorem dX11_print_47 : decode cX11_print 47 = .ok (.invokevirtual 189, 3) := by decide +kernel
theorem dX11_print_50 : decode cX11_print 50 = .ok (.ifCond .eq 34, 3) := by decide +kernel
theorem dX11_print_53 : decode cX11_print 53 = .ok (.aload_n 0, 1) := by decide +kernel
theorem dX11_print_54 : decode cX11_print 54 = .ok (.iload 5, 2) := by decide +kernel
theorem dX11_print_56 : decode cX11_print 56 = .ok (.invokevirtual 176, 3) := by decide +kernel
theorem dX11_print_59 : decode cX11_print 59 = .ok (.ifCond .eq 25, 3) := by decide +kernel
theorem dX11_print_62 : decode cX11_print 62 = .ok (.iload 6, 2) := by decide +kernel
theorem dX11_print_64 : decode cX11_print 64 = .ok (.iconst 0, 1) := by decide +kernel
theorem dX11_print_65 : decode cX11_print 65 = .ok (.iconst 4, 1) := by decide +kernel
theorem dX11_print_66 : decode cX11_print 66 = .ok (.invokestatic 172, 3) := by decide +kernel
theorem dX11_print_69 : decode cX11_print 69 = .ok (.ifCond .eq 15, 3) := by decide +kernel
theorem dX11_print_72 : decode cX11_print 72 = .ok (.iload 7, 2) := by decide +kernel
theorem dX11_print_74 : decode cX11_print 74 = .ok (.iconst 0, 1) := by decide +kernel
theorem dX11_print_75 : decode cX11_print 75 = .ok (.sipush 999, 3) := by decide +kernel
theorem dX11_print_78 : decode cX11_print 78 = .ok (.invokestatic 172, 3) := by decide +kernel
theorem dX11_print_81 : decode cX11_print 81 = .ok (.ifCond .ne 5, 3) := by decide +kernel
theorem dX11_print_84 : decode cX11_print 84 = .ok (.iconst (-1), 1) := by decide +kernel
theorem dX11_print_85 : decode cX11_print 85 = .ok (.ireturn, 1) := by decide +kernel
theorem dX11_print_86 : decode cX11_print 86 = .ok (.bipush 7, 2) := by decide +kernel
theorem dX11_print_88 : decode cX11_print 88 = .ok (.aload_n 0, 1) := by decide +kernel
theorem dX11_print_89 : decode cX11_print 89 = .ok (.getfield 192, 3) := by decide +kernel
theorem dX11_print_92 : decode cX11_print 92 = .ok (.imul, 1) := by decide +kernel
theorem dX11_print_93 : decode cX11_print 93 = .ok (.istore 8, 2) := by decide +kernel
theorem dX11_print_95 : decode cX11_print 95 = .ok (.aload_n 0, 1) := by decide +kernel
theorem dX11_print_96 : decode cX11_print 96 = .ok (.getfield 37, 3) := by decide +kernel
theorem dX11_print_99 : decode cX11_print 99 = .ok (.iload 8, 2) := by decide +kernel
theorem dX11_print_101 : decode cX11_print 101 = .ok (.iload_n 1, 1) := by decide +kernel
theorem dX11_print_102 : decode cX11_print 102 = .ok (.iastore, 1) := by decide +kernel
theorem dX11_print_103 : decode cX11_print 103 = .ok (.aload_n 0, 1) := by decide +kernel
theorem dX11_print_104 : decode cX11_print 104 = .ok (.getfield 37, 3) := by decide +kernel
theorem dX11_print_107 : decode cX11_print 107 = .ok (.iload 8, 2) := by decide +kernel
theorem dX11_print_109 : decode cX11_print 109 = .ok (.iconst 1, 1) := by decide +kernel
theorem dX11_print_110 : decode cX11_print 110 = .ok (.iadd, 1) := by decide +kernel
theorem dX11_print_111 : decode cX11_print 111 = .ok (.iload_n 2, 1) := by decide +kernel
theorem dX11_print_112 : decode cX11_print 112 = .ok (.iastore, 1) := by decide +kernel
theorem dX11_print_113 : decode cX11_print 113 = .ok (.aload_n 0, 1) := by decide +kernel
theorem dX11_print_114 : decode cX11_print 114 = .ok (.getfield 37, 3) := by decide +kernel
theorem dX11_print_117 : decode cX11_print 117 = .ok (.iload 8, 2) := by decide +kernel
theorem dX11_print_119 : decode cX11_print 119 = .ok (.iconst 2, 1) := by decide +kernel
theorem dX11_print_120 : decode cX11_print 120 = .ok (.iadd, 1) := by decide +kernel
theorem dX11_print_121 : decode cX11_print 121 = .ok (.iload_n 3, 1) := by decide +kernel
theorem dX11_print_122 : decode cX11_print 122 = .ok (.iastore, 1) := by decide +kernel
theorem dX11_print_123 : decode cX11_print 123 = .ok (.aload_n 0, 1) := by decide +kernel
theorem dX11_print_124 : decode cX11_print 124 = .ok (.getfield 37, 3) := by decide +kernel
theorem dX11_print_127 : decode cX11_print 127 = .ok (.iload 8, 2) := by decide +kernel
theorem dX11_print_129 : decode cX11_print 129 = .ok (.iconst 3, 1) := by decide +kernel
theorem dX11_print_130 : decode cX11_print 130 = .ok (.iadd, 1) := by decide +kernel
theorem dX11_print_131 : decode cX11_print 131 = .ok (.iload 4, 2) := by decide +kernel
theorem dX11_print_133 : decode cX11_print 133 = .ok (.iastore, 1) := by decide +kernel
theorem dX11_print_134 : decode cX11_print 134 = .ok (.aload_n 0, 1) := by decide +kernel
theorem dX11_print_135 : decode cX11_print 135 = .ok (.getfield 37, 3) := by decide +kernel
theorem dX11_print_138 : decode cX11_print 138 = .ok (.iload 8, 2) := by decide +kernel
theorem dX11_print_140 : decode cX11_print 140 = .ok (.iconst 4, 1) := by decide +kernel
theorem dX11_print_141 : decode cX11_print 141 = .ok (.iadd, 1) := by decide +kernel
theorem dX11_print_142 : decode cX11_print 142 = .ok (.iload 5, 2) := by decide +kernel
theorem dX11_print_144 : decode cX11_print 144 = .ok (.iastore, 1) := by decide +kernel
theorem dX11_print_145 : decode cX11_print 145 = .ok (.aload_n 0, 1) := by decide +kernel
theorem dX11_print_146 : decode cX11_print 146 = .ok (.getfield 37, 3) := by decide +kernel
theorem dX11_print_149 : decode cX11_print 149 = .ok (.iload 8, 2) := by decide +kernel
theorem dX11_print_151 : decode cX11_print 151 = .ok (.iconst 5, 1) := by decide +kernel
theorem dX11_print_152 : decode cX11_print 152 = .ok (.iadd, 1) := by decide +kernel
theorem dX11_print_153 : decode cX11_print 153 = .ok (.iload 6, 2) := by decide +kernel
theorem dX11_print_155 : decode cX11_print 155 = .ok (.iastore, 1) := by decide +kernel
theorem dX11_print_156 : decode cX11_print 156 = .ok (.aload_n 0, 1) := by decide +kernel
theorem dX11_print_157 : decode cX11_print 157 = .ok (.getfield 37, 3) := by decide +kernel
theorem dX11_print_160 : decode cX11_print 160 = .ok (.iload 8, 2) := by decide +kernel
theorem dX11_print_162 : decode cX11_print 162 = .ok (.bipush 6, 2) := by decide +kernel
theorem dX11_print_164 : decode cX11_print 164 = .ok (.iadd, 1) := by decide +kernel
theorem dX11_print_165 : decode cX11_print 165 = .ok (.iload 7, 2) := by decide +kernel
theorem dX11_print_167 : decode cX11_print 167 = .ok (.iastore, 1) := by decide +kernel
theorem dX11_print_168 : decode cX11_print 168 = .ok (.aload_n 0, 1) := by decide +kernel
theorem dX11_print_169 : decode cX11_print 169 = .ok (.dup, 1) := by decide +kernel
theorem dX11_print_170 : decode cX11_print 170 = .ok (.getfield 192, 3) := by decide +kernel
theorem dX11_print_173 : decode cX11_print 173 = .ok (.iconst 1, 1) := by decide +kernel
theorem dX11_print_174 : decode cX11_print 174 = .ok (.iadd, 1) := by decide +kernel
theorem dX11_print_175 : decode cX11_print 175 = .ok (.putfield 192, 3) := by decide +kernel
theorem dX11_print_178 : decode cX11_print 178 = .ok (.aload_n 0, 1) := by decide +kernel
theorem dX11_print_179 : decode cX11_print 179 = .ok (.getfield 192, 3) := by decide +kernel
theorem dX11_print_182 : decode cX11_print 182 = .ok (.iconst 1, 1) := by decide +kernel
theorem dX11_print_183 : decode cX11_print 183 = .ok (.isub, 1) := by decide +kernel
theorem dX11_print_184 : decode cX11_print 184 = .ok (.ireturn, 1) := by decide +kernel
theorem dX11_isPrint_0 : decode cX11_isPrint 0 = .ok (.iload_n 1, 1) := by decide +kernel
theorem dX11_isPrint_1 : decode cX11_isPrint 1 = .ok (.ifCond .lt 15, 3) := by decide +kernel
theorem dX11_isPrint_4 : decode cX11_isPrint 4 = .ok (.iload_n 1, 1) := by decide +kernel
theorem dX11_isPrint_5 : decode cX11_isPrint 5 = .ok (.aload_n 0, 1) := by decide +kernel
theorem dX11_isPrint_6 : decode cX11_isPrint 6 = .ok (.getfield 192, 3) := by decide +kernel
theorem dX11_isPrint_9 : decode cX11_isPrint 9 = .ok (.if_icmp .ge 7, 3) := by decide +kernel
theorem dX11_isPrint_12 : decode cX11_isPrint 12 = .ok (.iconst 1, 1) := by decide +kernel
theorem dX11_isPrint_13 : decode cX11_isPrint 13 = .ok (.goto 4, 3) := by decide +kernel
theorem dX11_isPrint_16 : decode cX11_isPrint 16 = .ok (.iconst 0, 1) := by decide +kernel
theorem dX11_isPrint_17 : decode cX11_isPrint 17 = .ok (.ireturn, 1) := by decide +kernel
theorem dX11_isNight_0 : decode cX11_isNight 0 = .ok (.iload_n 0, 1) := by decide +kernel
theorem dX11_isNight_1 : decode cX11_isNight 1 = .ok (.ifCond .lt 12, 3) := by decide +kernel
theorem dX11_isNight_4 : decode cX11_isNight 4 = .ok (.iload_n 0, 1) := by decide +kernel
theorem dX11_isNight_5 : decode cX11_isNight 5 = .ok (.iconst 4, 1) := by decide +kernel
theorem dX11_isNight_6 : decode cX11_isNight 6 = .ok (.if_icmp .ge 7, 3) := by decide +kernel
theorem dX11_isNight_9 : decode cX11_isNight 9 = .ok (.iconst 1, 1) := by decide +kernel
theorem dX11_isNight_10 : decode cX11_isNight 10 = .ok (.goto 4, 3) := by decide +kernel
theorem dX11_isNight_13 : decode cX11_isNight 13 = .ok (.iconst 0, 1) := by decide +kernel
theorem dX11_isNight_14 : decode cX11_isNight 14 = .ok (.ireturn, 1) := by decide +kernel
theorem dX11_egg_0 : decode cX11_egg 0 = .ok (.aload_n 0, 1) := by decide +kernel
theorem dX11_egg_1 : decode cX11_egg 1 = .ok (.iconst 0, 1) := by decide +kernel
theorem dX11_egg_2 : decode cX11_egg 2 = .ok (.putfield 163, 3) := by decide +kernel
theorem dX11_egg_5 : decode cX11_egg 5 = .ok (.iload_n 1, 1) := by decide +kernel
theorem dX11_egg_6 : decode cX11_egg 6 = .ok (.invokestatic 195, 3) := by decide +kernel
theorem dX11_egg_9 : decode cX11_egg 9 = .ok (.ifCond .eq 13, 3) := by decide +kernel
theorem dX11_egg_12 : decode cX11_egg 12 = .ok (.iload_n 2, 1) := by decide +kernel
theorem dX11_egg_13 : decode cX11_egg 13 = .ok (.iconst 1, 1) := by decide +kernel
theorem dX11_egg_14 : decode cX11_egg 14 = .ok (.bipush 99, 2) := by decide +kernel
theorem dX11_egg_16 : decode cX11_egg 16 = .ok (.invokestatic 172, 3) := by decide +kernel
theorem dX11_egg_19 : decode cX11_egg 19 = .ok (.ifCond .ne 5, 3) := by decide +kernel
theorem dX11_egg_22 : decode cX11_egg 22 = .ok (.iconst 0, 1) := by decide +kernel
theorem dX11_egg_23 : decode cX11_egg 23 = .ok (.ireturn, 1) := by decide +kernel
theorem dX11_egg_24 : decode cX11_egg 24 = .ok (.aload_n 0, 1) := by decide +kernel
theorem dX11_egg_25 : decode cX11_egg 25 = .ok (.getfield 40, 3) := by decide +kernel
theorem dX11_egg_28 : decode cX11_egg 28 = .ok (.iload_n 1, 1) := by decide +kernel
theorem dX11_egg_29 : decode cX11_egg 29 = .ok (.iload_n 2, 1) := by decide +kernel
theorem dX11_egg_30 : decode cX11_egg 30 = .ok (.iastore, 1) := by decide +kernel
theorem dX11_egg_31 : decode cX11_egg 31 = .ok (.iconst 1, 1) := by decide +kernel
theorem dX11_egg_32 : decode cX11_egg 32 = .ok (.ireturn, 1) := by decide +kernel
theorem dX11_lay_0 : decode cX11_lay 0 = .ok (.iconst 0, 1) := by decide +kernel
theorem dX11_lay_1 : decode cX11_lay 1 = .ok (.istore_n 1, 1) := by decide +kernel
theorem dX11_lay_2 : decode cX11_lay 2 = .ok (.iload_n 1, 1) := by decide +kernel
theorem dX11_lay_3 : decode cX11_lay 3 = .ok (.iconst 4, 1) := by decide +kernel
theorem dX11_lay_4 : decode cX11_lay 4 = .ok (.if_icmp .ge 269, 3) := by decide +kernel
theorem dX11_lay_7 : decode cX11_lay 7 = .ok (.bipush 64, 2) := by decide +kernel
theorem dX11_lay_9 : decode cX11_lay 9 = .ok (.iload_n 1, 1) := by decide +kernel
theorem dX11_lay_10 : decode cX11_lay 10 = .ok (.imul, 1) := by decide +kernel
theorem dX11_lay_11 : decode cX11_lay 11 = .ok (.istore_n 2, 1) := by decide +kernel
theorem dX11_lay_12 : decode cX11_lay 12 = .ok (.iconst 0, 1) := by decide +kernel
theorem dX11_lay_13 : decode cX11_lay 13 = .ok (.istore_n 3, 1) := by decide +kernel
theorem dX11_lay_14 : decode cX11_lay 14 = .ok (.iload_n 3, 1) := by decide +kernel
theorem dX11_lay_15 : decode cX11_lay 15 = .ok (.bipush 64, 2) := by decide +kernel
theorem dX11_lay_17 : decode cX11_lay 17 = .ok (.if_icmp .ge 34, 3) := by decide +kernel
theorem dX11_lay_20 : decode cX11_lay 20 = .ok (.aload_n 0, 1) := by decide +kernel
theorem dX11_lay_21 : decode cX11_lay 21 = .ok (.getfield 62, 3) := by decide +kernel
theorem dX11_lay_24 : decode cX11_lay 24 = .ok (.iload_n 2, 1) := by decide +kernel
theorem dX11_lay_25 : decode cX11_lay 25 = .ok (.iload_n 3, 1) := by decide +kernel
theorem dX11_lay_26 : decode cX11_lay 26 = .ok (.iadd, 1) := by decide +kernel
theorem dX11_lay_27 : decode cX11_lay 27 = .ok (.iload_n 3, 1) := by decide +kernel
theorem dX11_lay_28 : decode cX11_lay 28 = .ok (.bipush 8, 2) := by decide +kernel
theorem dX11_lay_30 : decode cX11_lay 30 = .ok (.idiv, 1) := by decide +kernel
theorem dX11_lay_31 : decode cX11_lay 31 = .ok (.iload_n 3, 1) := by decide +kernel
theorem dX11_lay_32 : decode cX11_lay 32 = .ok (.bipush 8, 2) := by decide +kernel
theorem dX11_lay_34 : decode cX11_lay 34 = .ok (.irem, 1) := by decide +kernel
theorem dX11_lay_35 : decode cX11_lay 35 = .ok (.if_icmp .ne 7, 3) := by decide +kernel
theorem dX11_lay_38 : decode cX11_lay 38 = .ok (.iconst 0, 1) := by decide +kernel
theorem dX11_lay_39 : decode cX11_lay 39 = .ok (.goto 5, 3) := by decide +kernel
theorem dX11_lay_42 : decode cX11_lay 42 = .ok (.ldc 198, 2) := by decide +kernel
theorem dX11_lay_44 : decode cX11_lay 44 = .ok (.iastore, 1) := by decide +kernel
theorem dX11_lay_45 : decode cX11_lay 45 = .ok (.iinc 3 1, 3) := by decide +kernel
theorem dX11_lay_48 : decode cX11_lay 48 = .ok (.goto (-34), 3) := by decide +kernel
theorem dX11_lay_51 : decode cX11_lay 51 = .ok (.iconst 1, 1) := by decide +kernel
theorem dX11_lay_52 : decode cX11_lay 52 = .ok (.istore_n 3, 1) := by decide +kernel
theorem dX11_lay_53 : decode cX11_lay 53 = .ok (.iload_n 3, 1) := by decide +kernel
theorem dX11_lay_54 : decode cX11_lay 54 = .ok (.ifCond .eq 213, 3) := by decide +kernel
theorem dX11_lay_57 : decode cX11_lay 57 = .ok (.iconst 0, 1) := by decide +kernel
theorem dX11_lay_58 : decode cX11_lay 58 = .ok (.istore_n 3, 1) := by decide +kernel
theorem dX11_lay_59 : decode cX11_lay 59 = .ok (.iconst 0, 1) := by decide +kernel
theorem dX11_lay_60 : decode cX11_lay 60 = .ok (.istore 4, 2) := by decide +kernel
theorem dX11_lay_62 : decode cX11_lay 62 = .ok (.iload 4, 2) := by decide +kernel
theorem dX11_lay_64 : decode cX11_lay 64 = .ok (.aload_n 0, 1) := by decide +kernel
theorem dX11_lay_65 : decode cX11_lay 65 = .ok (.getfield 180, 3) := by decide +kernel
theorem dX11_lay_68 : decode cX11_lay 68 = .ok (.if_icmp .ge 196, 3) := by decide +kernel
theorem dX11_lay_71 : decode cX11_lay 71 = .ok (.aload_n 0, 1) := by decide +kernel
theorem dX11_lay_72 : decode cX11_lay 72 = .ok (.getfield 25, 3) := by decide +kernel
theorem dX11_lay_75 : decode cX11_lay 75 = .ok (.iload 4, 2) := by decide +kernel
theorem dX11_lay_77 : decode cX11_lay 77 = .ok (.iaload, 1) := by decide +kernel
theorem dX11_lay_78 : decode cX11_lay 78 = .ok (.ifCond .lt 21, 3) := by decide +kernel
theorem dX11_lay_81 : decode cX11_lay 81 = .ok (.iload_n 1, 1) := by decide +kernel
theorem dX11_lay_82 : decode cX11_lay 82 = .ok (.aload_n 0, 1) := by decide +kernel
theorem dX11_lay_83 : decode cX11_lay 83 = .ok (.getfield 25, 3) := by decide +kernel
theorem dX11_lay_86 : decode cX11_lay 86 = .ok (.iload 4, 2) := by decide +kernel
theorem dX11_lay_88 : decode cX11_lay 88 = .ok (.iaload, 1) := by decide +kernel
theorem dX11_lay_89 : decode cX11_lay 89 = .ok (.ishr, 1) := by decide +kernel
theorem dX11_lay_90 : decode cX11_lay 90 = .ok (.iconst 1, 1) := by decide +kernel
theorem dX11_lay_91 : decode cX11_lay 91 = .ok (.iand, 1) := by decide +kernel
theorem dX11_lay_92 : decode cX11_lay 92 = .ok (.iconst 1, 1) := by decide +kernel
theorem dX11_lay_93 : decode cX11_lay 93 = .ok (.if_icmp .ne 6, 3) := by decide +kernel
theorem dX11_lay_96 : decode cX11_lay 96 = .ok (.goto 162, 3) := by decide +kernel
theorem dX11_lay_99 : decode cX11_lay 99 = .ok (.iconst 0, 1) := by decide +kernel
theorem dX11_lay_100 : decode cX11_lay 100 = .ok (.istore 5, 2) := by decide +kernel
theorem dX11_lay_102 : decode cX11_lay 102 = .ok (.iload 5, 2) := by decide +kernel
theorem dX11_lay_104 : decode cX11_lay 104 = .ok (.aload_n 0, 1) := by decide +kernel
theorem dX11_lay_105 : decode cX11_lay 105 = .ok (.getfield 169, 3) := by decide +kernel
theorem dX11_lay_108 : decode cX11_lay 108 = .ok (.if_icmp .ge 150, 3) := by decide +kernel
theorem dX11_lay_111 : decode cX11_lay 111 = .ok (.aload_n 0, 1) := by decide +kernel
theorem dX11_lay_112 : decode cX11_lay 112 = .ok (.getfield 62, 3) := by decide +kernel
theorem dX11_lay_115 : decode cX11_lay 115 = .ok (.iload_n 2, 1) := by decide +kernel
theorem dX11_lay_116 : decode cX11_lay 116 = .ok (.bipush 8, 2) := by decide +kernel
theorem dX11_lay_118 : decode cX11_lay 118 = .ok (.iload 5, 2) := by decide +kernel
theorem dX11_lay_120 : decode cX11_lay 120 = .ok (.imul, 1) := by decide +kernel
theorem dX11_lay_121 : decode cX11_lay 121 = .ok (.iadd, 1) := by decide +kernel
theorem dX11_lay_122 : decode cX11_lay 122 = .ok (.aload_n 0, 1) := by decide +kernel
theorem dX11_lay_123 : decode cX11_lay 123 = .ok (.getfield 16, 3) := by decide +kernel
theorem dX11_lay_126 : decode cX11_lay 126 = .ok (.iload 4, 2) := by decide +kernel
theorem dX11_lay_128 : decode cX11_lay 128 = .ok (.iaload, 1) := by decide +kernel
theorem dX11_lay_129 : decode cX11_lay 129 = .ok (.iadd, 1) := by decide +kernel
theorem dX11_lay_130 : decode cX11_lay 130 = .ok (.iaload, 1) := by decide +kernel
theorem dX11_lay_131 : decode cX11_lay 131 = .ok (.istore 6, 2) := by decide +kernel
theorem dX11_lay_133 : decode cX11_lay 133 = .ok (.aload_n 0, 1) := by decide +kernel
theorem dX11_lay_134 : decode cX11_lay 134 = .ok (.getfield 62, 3) := by decide +kernel
theorem dX11_lay_137 : decode cX11_lay 137 = .ok (.iload_n 2, 1) := by decide +kernel
theorem dX11_lay_138 : decode cX11_lay 138 = .ok (.bipush 8, 2) := by decide +kernel
theorem dX11_lay_140 : decode cX11_lay 140 = .ok (.iload 5, 2) := by decide +kernel
theorem dX11_lay_142 : decode cX11_lay 142 = .ok (.imul, 1) := by decide +kernel
theorem dX11_lay_143 : decode cX11_lay 143 = .ok (.iadd, 1) := by decide +kernel
theorem dX11_lay_144 : decode cX11_lay 144 = .ok (.aload_n 0, 1) := by decide +kernel
theorem dX11_lay_145 : decode cX11_lay 145 = .ok (.getfield 19, 3) := by decide +kernel
theorem dX11_lay_148 : decode cX11_lay 148 = .ok (.iload 4, 2) := by decide +kernel
theorem dX11_lay_150 : decode cX11_lay 150 = .ok (.iaload, 1) := by decide +kernel
theorem dX11_lay_151 : decode cX11_lay 151 = .ok (.iadd, 1) := by decide +kernel
theorem dX11_lay_152 : decode cX11_lay 152 = .ok (.iaload, 1) := by decide +kernel
theorem dX11_lay_153 : decode cX11_lay 153 = .ok (.istore 7, 2) := by decide +kernel
theorem dX11_lay_155 : decode cX11_lay 155 = .ok (.iload 6, 2) := by decide +kernel
theorem dX11_lay_157 : decode cX11_lay 157 = .ok (.aload_n 0, 1) := by decide +kernel
theorem dX11_lay_158 : decode cX11_lay 158 = .ok (.getfield 22, 3) := by decide +kernel
theorem dX11_lay_161 : decode cX11_lay 161 = .ok (.iload 4, 2) := by decide +kernel
theorem dX11_lay_163 : decode cX11_lay 163 = .ok (.iaload, 1) := by decide +kernel
theorem dX11_lay_164 : decode cX11_lay 164 = .ok (.iadd, 1) := by decide +kernel
theorem dX11_lay_165 : decode cX11_lay 165 = .ok (.iload 7, 2) := by decide +kernel
theorem dX11_lay_167 : decode cX11_lay 167 = .ok (.if_icmp .ge 38, 3) := by decide +kernel
theorem dX11_lay_170 : decode cX11_lay 170 = .ok (.aload_n 0, 1) := by decide +kernel
theorem dX11_lay_171 : decode cX11_lay 171 = .ok (.getfield 62, 3) := by decide +kernel
theorem dX11_lay_174 : decode cX11_lay 174 = .ok (.iload_n 2, 1) := by decide +kernel
theorem dX11_lay_175 : decode cX11_lay 175 = .ok (.bipush 8, 2) := by decide +kernel
theorem dX11_lay_177 : decode cX11_lay 177 = .ok (.iload 5, 2) := by decide +kernel
theorem dX11_lay_179 : decode cX11_lay 179 = .ok (.imul, 1) := by decide +kernel
theorem dX11_lay_180 : decode cX11_lay 180 = .ok (.iadd, 1) := by decide +kernel
theorem dX11_lay_181 : decode cX11_lay 181 = .ok (.aload_n 0, 1) := by decide +kernel
theorem dX11_lay_182 : decode cX11_lay 182 = .ok (.getfield 19, 3) := by decide +kernel
theorem dX11_lay_185 : decode cX11_lay 185 = .ok (.iload 4, 2) := by decide +kernel
theorem dX11_lay_187 : decode cX11_lay 187 = .ok (.iaload, 1) := by decide +kernel
theorem dX11_lay_188 : decode cX11_lay 188 = .ok (.iadd, 1) := by decide +kernel
theorem dX11_lay_189 : decode cX11_lay 189 = .ok (.iload 6, 2) := by decide +kernel
theorem dX11_lay_191 : decode cX11_lay 191 = .ok (.aload_n 0, 1) := by decide +kernel
theorem dX11_lay_192 : decode cX11_lay 192 = .ok (.getfield 22, 3) := by decide +kernel
theorem dX11_lay_195 : decode cX11_lay 195 = .ok (.iload 4, 2) := by decide +kernel
theorem dX11_lay_197 : decode cX11_lay 197 = .ok (.iaload, 1) := by decide +kernel
theorem dX11_lay_198 : decode cX11_lay 198 = .ok (.iadd, 1) := by decide +kernel
theorem dX11_lay_199 : decode cX11_lay 199 = .ok (.iastore, 1) := by decide +kernel
theorem dX11_lay_200 : decode cX11_lay 200 = .ok (.iconst 1, 1) := by decide +kernel
theorem dX11_lay_201 : decode cX11_lay 201 = .ok (.istore_n 3, 1) := by decide +kernel
theorem dX11_lay_202 : decode cX11_lay 202 = .ok (.goto 50, 3) := by decide +kernel
theorem dX11_lay_205 : decode cX11_lay 205 = .ok (.iload 7, 2) := by decide +kernel
theorem dX11_lay_207 : decode cX11_lay 207 = .ok (.aload_n 0, 1) := by decide +kernel
theorem dX11_lay_208 : decode cX11_lay 208 = .ok (.getfield 22, 3) := by decide +kernel
theorem dX11_lay_211 : decode cX11_lay 211 = .ok (.iload 4, 2) := by decide +kernel
theorem dX11_lay_213 : decode cX11_lay 213 = .ok (.iaload, 1) := by decide +kernel
theorem dX11_lay_214 : decode cX11_lay 214 = .ok (.iadd, 1) := by decide +kernel
theorem dX11_lay_215 : decode cX11_lay 215 = .ok (.iload 6, 2) := by decide +kernel
theorem dX11_lay_217 : decode cX11_lay 217 = .ok (.if_icmp .ge 35, 3) := by decide +kernel
theorem dX11_lay_220 : decode cX11_lay 220 = .ok (.aload_n 0, 1) := by decide +kernel
theorem dX11_lay_221 : decode cX11_lay 221 = .ok (.getfield 62, 3) := by decide +kernel
theorem dX11_lay_224 : decode cX11_lay 224 = .ok (.iload_n 2, 1) := by decide +kernel
theorem dX11_lay_225 : decode cX11_lay 225 = .ok (.bipush 8, 2) := by decide +kernel
theorem dX11_lay_227 : decode cX11_lay 227 = .ok (.iload 5, 2) := by decide +kernel
theorem dX11_lay_229 : decode cX11_lay 229 = .ok (.imul, 1) := by decide +kernel
theorem dX11_lay_230 : decode cX11_lay 230 = .ok (.iadd, 1) := by decide +kernel
theorem dX11_lay_231 : decode cX11_lay 231 = .ok (.aload_n 0, 1) := by decide +kernel
theorem dX11_lay_232 : decode cX11_lay 232 = .ok (.getfield 16, 3) := by decide +kernel
theorem dX11_lay_235 : decode cX11_lay 235 = .ok (.iload 4, 2) := by decide +kernel
theorem dX11_lay_237 : decode cX11_lay 237 = .ok (.iaload, 1) := by decide +kernel
theorem dX11_lay_238 : decode cX11_lay 238 = .ok (.iadd, 1) := by decide +kernel
theorem dX11_lay_239 : decode cX11_lay 239 = .ok (.iload 7, 2) := by decide +kernel
theorem dX11_lay_241 : decode cX11_lay 241 = .ok (.aload_n 0, 1) := by decide +kernel
theorem dX11_lay_242 : decode cX11_lay 242 = .ok (.getfield 22, 3) := by decide +kernel
theorem dX11_lay_245 : decode cX11_lay 245 = .ok (.iload 4, 2) := by decide +kernel
theorem dX11_lay_247 : decode cX11_lay 247 = .ok (.iaload, 1) := by decide +kernel
theorem dX11_lay_248 : decode cX11_lay 248 = .ok (.iadd, 1) := by decide +kernel
theorem dX11_lay_249 : decode cX11_lay 249 = .ok (.iastore, 1) := by decide +kernel
theorem dX11_lay_250 : decode cX11_lay 250 = .ok (.iconst 1, 1) := by decide +kernel
theorem dX11_lay_251 : decode cX11_lay 251 = .ok (.istore_n 3, 1) := by decide +kernel
theorem dX11_lay_252 : decode cX11_lay 252 = .ok (.iinc 5 1, 3) := by decide +kernel
theorem dX11_lay_255 : decode cX11_lay 255 = .ok (.goto (-153), 3) := by decide +kernel
theorem dX11_lay_258 : decode cX11_lay 258 = .ok (.iinc 4 1, 3) := by decide +kernel
theorem dX11_lay_261 : decode cX11_lay 261 = .ok (.goto (-199), 3) := by decide +kernel
theorem dX11_lay_264 : decode cX11_lay 264 = .ok (.goto (-211), 3) := by decide +kernel
theorem dX11_lay_267 : decode cX11_lay 267 = .ok (.iinc 1 1, 3) := by decide +kernel
theorem dX11_lay_270 : decode cX11_lay 270 = .ok (.goto (-268), 3) := by decide +kernel
theorem dX11_lay_273 : decode cX11_lay 273 = .ok (.return_, 1) := by decide +kernel
theorem dX11_way_0 : decode cX11_way 0 = .ok (.aload_n 0, 1) := by decide +kernel
theorem dX11_way_1 : decode cX11_way 1 = .ok (.iconst 0, 1) := by decide +kernel
theorem dX11_way_2 : decode cX11_way 2 = .ok (.putfield 163, 3) := by decide +kernel
theorem dX11_way_5 : decode cX11_way 5 = .ok (.aload_n 0, 1) := by decide +kernel
theorem dX11_way_6 : decode cX11_way 6 = .ok (.iload_n 1, 1) := by decide +kernel
theorem dX11_way_7 : decode cX11_way 7 = .ok (.invokevirtual 176, 3) := by decide +kernel
theorem dX11_way_10 : decode cX11_way 10 = .ok (.ifCond .eq 20, 3) := by decide +kernel
theorem dX11_way_13 : decode cX11_way 13 = .ok (.aload_n 0, 1) := by decide +kernel
theorem dX11_way_14 : decode cX11_way 14 = .ok (.iload_n 2, 1) := by decide +kernel
theorem dX11_way_15 : decode cX11_way 15 = .ok (.invokevirtual 176, 3) := by decide +kernel
theorem dX11_way_18 : decode cX11_way 18 = .ok (.ifCond .eq 12, 3) := by decide +kernel
theorem dX11_way_21 : decode cX11_way 21 = .ok (.iload_n 3, 1) := by decide +kernel
theorem dX11_way_22 : decode cX11_way 22 = .ok (.iconst 0, 1) := by decide +kernel
theorem dX11_way_23 : decode cX11_way 23 = .ok (.iconst 3, 1) := by decide +kernel
theorem dX11_way_24 : decode cX11_way 24 = .ok (.invokestatic 172, 3) := by decide +kernel
theorem dX11_way_27 : decode cX11_way 27 = .ok (.ifCond .ne 5, 3) := by decide +kernel
theorem dX11_way_30 : decode cX11_way 30 = .ok (.iconst (-1), 1) := by decide +kernel
theorem dX11_way_31 : decode cX11_way 31 = .ok (.ireturn, 1) := by decide +kernel
theorem dX11_way_32 : decode cX11_way 32 = .ok (.aload_n 0, 1) := by decide +kernel
theorem dX11_way_33 : decode cX11_way 33 = .ok (.invokevirtual 199, 3) := by decide +kernel
theorem dX11_way_36 : decode cX11_way 36 = .ok (.aload_n 0, 1) := by decide +kernel
theorem dX11_way_37 : decode cX11_way 37 = .ok (.getfield 62, 3) := by decide +kernel
theorem dX11_way_40 : decode cX11_way 40 = .ok (.bipush 64, 2) := by decide +kernel
theorem dX11_way_42 : decode cX11_way 42 = .ok (.iload_n 3, 1) := by decide +kernel
theorem dX11_way_43 : decode cX11_way 43 = .ok (.imul, 1) := by decide +kernel
theorem dX11_way_44 : decode cX11_way 44 = .ok (.bipush 8, 2) := by decide +kernel
theorem dX11_way_46 : decode cX11_way 46 = .ok (.iload_n 1, 1) := by decide +kernel
theorem dX11_way_47 : decode cX11_way 47 = .ok (.imul, 1) := by decide +kernel
theorem dX11_way_48 : decode cX11_way 48 = .ok (.iadd, 1) := by decide +kernel
theorem dX11_way_49 : decode cX11_way 49 = .ok (.iload_n 2, 1) := by decide +kernel
theorem dX11_way_50 : decode cX11_way 50 = .ok (.iadd, 1) := by decide +kernel
theorem dX11_way_51 : decode cX11_way 51 = .ok (.iaload, 1) := by decide +kernel
theorem dX11_way_52 : decode cX11_way 52 = .ok (.istore 4, 2) := by decide +kernel
theorem dX11_way_54 : decode cX11_way 54 = .ok (.iload 4, 2) := by decide +kernel
theorem dX11_way_56 : decode cX11_way 56 = .ok (.ldc 198, 2) := by decide +kernel
theorem dX11_way_58 : decode cX11_way 58 = .ok (.if_icmp .ne 7, 3) := by decide +kernel
theorem dX11_way_61 : decode cX11_way 61 = .ok (.iconst (-1), 1) := by decide +kernel
theorem dX11_way_62 : decode cX11_way 62 = .ok (.goto 5, 3) := by decide +kernel
theorem dX11_way_65 : decode cX11_way 65 = .ok (.iload 4, 2) := by decide +kernel
theorem dX11_way_67 : decode cX11_way 67 = .ok (.ireturn, 1) := by decide +kernel
theorem dX11_entry_0 : decode cX11_entry 0 = .ok (.aload_n 0, 1) := by decide +kernel
theorem dX11_entry_1 : decode cX11_entry 1 = .ok (.iconst 0, 1) := by decide +kernel
theorem dX11_entry_2 : decode cX11_entry 2 = .ok (.putfield 163, 3) := by decide +kernel
theorem dX11_entry_5 : decode cX11_entry 5 = .ok (.aload_n 0, 1) := by decide +kernel
theorem dX11_entry_6 : decode cX11_entry 6 = .ok (.getfield 202, 3) := by decide +kernel
theorem dX11_entry_9 : decode cX11_entry 9 = .ok (.bipush 24, 2) := by decide +kernel
theorem dX11_entry_11 : decode cX11_entry 11 = .ok (.if_icmp .eq 35, 3) := by decide +kernel
theorem dX11_entry_14 : decode cX11_entry 14 = .ok (.iload_n 1, 1) := by decide +kernel
theorem dX11_entry_15 : decode cX11_entry 15 = .ok (.invokestatic 195, 3) := by decide +kernel
theorem dX11_entry_18 : decode cX11_entry 18 = .ok (.ifCond .eq 28, 3) := by decide +kernel
theorem dX11_entry_21 : decode cX11_entry 21 = .ok (.aload_n 0, 1) := by decide +kernel
theorem dX11_entry_22 : decode cX11_entry 22 = .ok (.iload_n 2, 1) := by decide +kernel
theorem dX11_entry_23 : decode cX11_entry 23 = .ok (.invokevirtual 189, 3) := by decide +kernel
theorem dX11_entry_26 : decode cX11_entry 26 = .ok (.ifCond .eq 20, 3) := by decide +kernel
theorem dX11_entry_29 : decode cX11_entry 29 = .ok (.aload_n 0, 1) := by decide +kernel
theorem dX11_entry_30 : decode cX11_entry 30 = .ok (.iload_n 3, 1) := by decide +kernel
theorem dX11_entry_31 : decode cX11_entry 31 = .ok (.invokevirtual 176, 3) := by decide +kernel
theorem dX11_entry_34 : decode cX11_entry 34 = .ok (.ifCond .eq 12, 3) := by decide +kernel
theorem dX11_entry_37 : decode cX11_entry 37 = .ok (.aload_n 0, 1) := by decide +kernel
theorem dX11_entry_38 : decode cX11_entry 38 = .ok (.iload 4, 2) := by decide +kernel
theorem dX11_entry_40 : decode cX11_entry 40 = .ok (.invokevirtual 205, 3) := by decide +kernel
theorem dX11_entry_43 : decode cX11_entry 43 = .ok (.ifCond .ne 5, 3) := by decide +kernel
theorem dX11_entry_46 : decode cX11_entry 46 = .ok (.iconst (-1), 1) := by decide +kernel
theorem dX11_entry_47 : decode cX11_entry 47 = .ok (.ireturn, 1) := by decide +kernel
theorem dX11_entry_48 : decode cX11_entry 48 = .ok (.aload_n 0, 1) := by decide +kernel
theorem dX11_entry_49 : decode cX11_entry 49 = .ok (.aload_n 0, 1) := by decide +kernel
theorem dX11_entry_50 : decode cX11_entry 50 = .ok (.getfield 202, 3) := by decide +kernel
theorem dX11_entry_53 : decode cX11_entry 53 = .ok (.iload_n 1, 1) := by decide +kernel
theorem dX11_entry_54 : decode cX11_entry 54 = .ok (.iload_n 2, 1) := by decide +kernel
theorem dX11_entry_55 : decode cX11_entry 55 = .ok (.iload_n 3, 1) := by decide +kernel
theorem dX11_entry_56 : decode cX11_entry 56 = .ok (.iload 4, 2) := by decide +kernel
theorem dX11_entry_58 : decode cX11_entry 58 = .ok (.invokevirtual 208, 3) := by decide +kernel
theorem dX11_entry_61 : decode cX11_entry 61 = .ok (.aload_n 0, 1) := by decide +kernel
theorem dX11_entry_62 : decode cX11_entry 62 = .ok (.dup, 1) := by decide +kernel
theorem dX11_entry_63 : decode cX11_entry 63 = .ok (.getfield 202, 3) := by decide +kernel
theorem dX11_entry_66 : decode cX11_entry 66 = .ok (.iconst 1, 1) := by decide +kernel
theorem dX11_entry_67 : decode cX11_entry 67 = .ok (.iadd, 1) := by decide +kernel
theorem dX11_entry_68 : decode cX11_entry 68 = .ok (.putfield 202, 3) := by decide +kernel
theorem dX11_entry_71 : decode cX11_entry 71 = .ok (.aload_n 0, 1) := by decide +kernel
theorem dX11_entry_72 : decode cX11_entry 72 = .ok (.getfield 202, 3) := by decide +kernel
theorem dX11_entry_75 : decode cX11_entry 75 = .ok (.iconst 1, 1) := by decide +kernel
theorem dX11_entry_76 : decode cX11_entry 76 = .ok (.isub, 1) := by decide +kernel
theorem dX11_entry_77 : decode cX11_entry 77 = .ok (.ireturn, 1) := by decide +kernel
theorem dX11_sets_0 : decode cX11_sets 0 = .ok (.aload_n 0, 1) := by decide +kernel
theorem dX11_sets_1 : decode cX11_sets 1 = .ok (.getfield 43, 3) := by decide +kernel
theorem dX11_sets_4 : decode cX11_sets 4 = .ok (.iconst 4, 1) := by decide +kernel
theorem dX11_sets_5 : decode cX11_sets 5 = .ok (.iload_n 1, 1) := by decide +kernel
theorem dX11_sets_6 : decode cX11_sets 6 = .ok (.imul, 1) := by decide +kernel
theorem dX11_sets_7 : decode cX11_sets 7 = .ok (.iload_n 2, 1) := by decide +kernel
theorem dX11_sets_8 : decode cX11_sets 8 = .ok (.iastore, 1) := by decide +kernel
theorem dX11_sets_9 : decode cX11_sets 9 = .ok (.aload_n 0, 1) := by decide +kernel
theorem dX11_sets_10 : decode cX11_sets 10 = .ok (.getfield 43, 3) := by decide +kernel
theorem dX11_sets_13 : decode cX11_sets 13 = .ok (.iconst 4, 1) := by decide +kernel
theorem dX11_sets_14 : decode cX11_sets 14 = .ok (.iload_n 1, 1) := by decide +kernel
theorem dX11_sets_15 : decode cX11_sets 15 = .ok (.imul, 1) := by decide +kernel
theorem dX11_sets_16 : decode cX11_sets 16 = .ok (.iconst 1, 1) := by decide +kernel
theorem dX11_sets_17 : decode cX11_sets 17 = .ok (.iadd, 1) := by decide +kernel
theorem dX11_sets_18 : decode cX11_sets 18 = .ok (.iload_n 3, 1) := by decide +kernel
theorem dX11_sets_19 : decode cX11_sets 19 = .ok (.iastore, 1) := by decide +kernel
theorem dX11_sets_20 : decode cX11_sets 20 = .ok (.aload_n 0, 1) := by decide +kernel
theorem dX11_sets_21 : decode cX11_sets 21 = .ok (.getfield 43, 3) := by decide +kernel
theorem dX11_sets_24 : decode cX11_sets 24 = .ok (.iconst 4, 1) := by decide +kernel
theorem dX11_sets_25 : decode cX11_sets 25 = .ok (.iload_n 1, 1) := by decide +kernel
theorem dX11_sets_26 : decode cX11_sets 26 = .ok (.imul, 1) := by decide +kernel
theorem dX11_sets_27 : decode cX11_sets 27 = .ok (.iconst 2, 1) := by decide +kernel
theorem dX11_sets_28 : decode cX11_sets 28 = .ok (.iadd, 1) := by decide +kernel
theorem dX11_sets_29 : decode cX11_sets 29 = .ok (.iload 4, 2) := by decide +kernel
theorem dX11_sets_31 : decode cX11_sets 31 = .ok (.iastore, 1) := by decide +kernel
theorem dX11_sets_32 : decode cX11_sets 32 = .ok (.aload_n 0, 1) := by decide +kernel
theorem dX11_sets_33 : decode cX11_sets 33 = .ok (.getfield 43, 3) := by decide +kernel
theorem dX11_sets_36 : decode cX11_sets 36 = .ok (.iconst 4, 1) := by decide +kernel
theorem dX11_sets_37 : decode cX11_sets 37 = .ok (.iload_n 1, 1) := by decide +kernel
theorem dX11_sets_38 : decode cX11_sets 38 = .ok (.imul, 1) := by decide +kernel
theorem dX11_sets_39 : decode cX11_sets 39 = .ok (.iconst 3, 1) := by decide +kernel
theorem dX11_sets_40 : decode cX11_sets 40 = .ok (.iadd, 1) := by decide +kernel
theorem dX11_sets_41 : decode cX11_sets 41 = .ok (.iload 5, 2) := by decide +kernel
theorem dX11_sets_43 : decode cX11_sets 43 = .ok (.iastore, 1) := by decide +kernel
theorem dX11_sets_44 : decode cX11_sets 44 = .ok (.return_, 1) := by decide +kernel
theorem dX11_hand_0 : decode cX11_hand 0 = .ok (.aload_n 0, 1) := by decide +kernel
theorem dX11_hand_1 : decode cX11_hand 1 = .ok (.iconst 0, 1) := by decide +kernel
theorem dX11_hand_2 : decode cX11_hand 2 = .ok (.putfield 163, 3) := by decide +kernel
theorem dX11_hand_5 : decode cX11_hand 5 = .ok (.aload_n 0, 1) := by decide +kernel
theorem dX11_hand_6 : decode cX11_hand 6 = .ok (.getfield 212, 3) := by decide +kernel
theorem dX11_hand_9 : decode cX11_hand 9 = .ok (.bipush 12, 2) := by decide +kernel
theorem dX11_hand_11 : decode cX11_hand 11 = .ok (.if_icmp .eq 26, 3) := by decide +kernel
theorem dX11_hand_14 : decode cX11_hand 14 = .ok (.iload_n 1, 1) := by decide +kernel
theorem dX11_hand_15 : decode cX11_hand 15 = .ok (.invokestatic 195, 3) := by decide +kernel
theorem dX11_hand_18 : decode cX11_hand 18 = .ok (.ifCond .eq 19, 3) := by decide +kernel
theorem dX11_hand_21 : decode cX11_hand 21 = .ok (.aload_n 0, 1) := by decide +kernel
theorem dX11_hand_22 : decode cX11_hand 22 = .ok (.iload_n 2, 1) := by decide +kernel
theorem dX11_hand_23 : decode cX11_hand 23 = .ok (.invokevirtual 205, 3) := by decide +kernel
theorem dX11_hand_26 : decode cX11_hand 26 = .ok (.ifCond .eq 11, 3) := by decide +kernel
theorem dX11_hand_29 : decode cX11_hand 29 = .ok (.aload_n 0, 1) := by decide +kernel
theorem dX11_hand_30 : decode cX11_hand 30 = .ok (.iload_n 3, 1) := by decide +kernel
theorem dX11_hand_31 : decode cX11_hand 31 = .ok (.invokevirtual 189, 3) := by decide +kernel
theorem dX11_hand_34 : decode cX11_hand 34 = .ok (.ifCond .ne 5, 3) := by decide +kernel
theorem dX11_hand_37 : decode cX11_hand 37 = .ok (.iconst (-1), 1) := by decide +kernel
theorem dX11_hand_38 : decode cX11_hand 38 = .ok (.ireturn, 1) := by decide +kernel
theorem dX11_hand_39 : decode cX11_hand 39 = .ok (.aload_n 0, 1) := by decide +kernel
theorem dX11_hand_40 : decode cX11_hand 40 = .ok (.getfield 46, 3) := by decide +kernel
theorem dX11_hand_43 : decode cX11_hand 43 = .ok (.iconst 3, 1) := by decide +kernel
theorem dX11_hand_44 : decode cX11_hand 44 = .ok (.aload_n 0, 1) := by decide +kernel
theorem dX11_hand_45 : decode cX11_hand 45 = .ok (.getfield 212, 3) := by decide +kernel
theorem dX11_hand_48 : decode cX11_hand 48 = .ok (.imul, 1) := by decide +kernel
theorem dX11_hand_49 : decode cX11_hand 49 = .ok (.iload_n 1, 1) := by decide +kernel
theorem dX11_hand_50 : decode cX11_hand 50 = .ok (.iastore, 1) := by decide +kernel
theorem dX11_hand_51 : decode cX11_hand 51 = .ok (.aload_n 0, 1) := by decide +kernel
theorem dX11_hand_52 : decode cX11_hand 52 = .ok (.getfield 46, 3) := by decide +kernel
theorem dX11_hand_55 : decode cX11_hand 55 = .ok (.iconst 3, 1) := by decide +kernel
theorem dX11_hand_56 : decode cX11_hand 56 = .ok (.aload_n 0, 1) := by decide +kernel
theorem dX11_hand_57 : decode cX11_hand 57 = .ok (.getfield 212, 3) := by decide +kernel
theorem dX11_hand_60 : decode cX11_hand 60 = .ok (.imul, 1) := by decide +kernel
theorem dX11_hand_61 : decode cX11_hand 61 = .ok (.iconst 1, 1) := by decide +kernel
theorem dX11_hand_62 : decode cX11_hand 62 = .ok (.iadd, 1) := by decide +kernel
theorem dX11_hand_63 : decode cX11_hand 63 = .ok (.iload_n 2, 1) := by decide +kernel
theorem dX11_hand_64 : decode cX11_hand 64 = .ok (.iastore, 1) := by decide +kernel
theorem dX11_hand_65 : decode cX11_hand 65 = .ok (.aload_n 0, 1) := by decide +kernel
theorem dX11_hand_66 : decode cX11_hand 66 = .ok (.getfield 46, 3) := by decide +kernel
theorem dX11_hand_69 : decode cX11_hand 69 = .ok (.iconst 3, 1) := by decide +kernel
theorem dX11_hand_70 : decode cX11_hand 70 = .ok (.aload_n 0, 1) := by decide +kernel
theorem dX11_hand_71 : decode cX11_hand 71 = .ok (.getfield 212, 3) := by decide +kernel
theorem dX11_hand_74 : decode cX11_hand 74 = .ok (.imul, 1) := by decide +kernel
theorem dX11_hand_75 : decode cX11_hand 75 = .ok (.iconst 2, 1) := by decide +kernel
theorem dX11_hand_76 : decode cX11_hand 76 = .ok (.iadd, 1) := by decide +kernel
theorem dX11_hand_77 : decode cX11_hand 77 = .ok (.iload_n 3, 1) := by decide +kernel
theorem dX11_hand_78 : decode cX11_hand 78 = .ok (.iastore, 1) := by decide +kernel
theorem dX11_hand_79 : decode cX11_hand 79 = .ok (.aload_n 0, 1) := by decide +kernel
theorem dX11_hand_80 : decode cX11_hand 80 = .ok (.dup, 1) := by decide +kernel
theorem dX11_hand_81 : decode cX11_hand 81 = .ok (.getfield 212, 3) := by decide +kernel
theorem dX11_hand_84 : decode cX11_hand 84 = .ok (.iconst 1, 1) := by decide +kernel
theorem dX11_hand_85 : decode cX11_hand 85 = .ok (.iadd, 1) := by decide +kernel
theorem dX11_hand_86 : decode cX11_hand 86 = .ok (.putfield 212, 3) := by decide +kernel
theorem dX11_hand_89 : decode cX11_hand 89 = .ok (.aload_n 0, 1) := by decide +kernel
theorem dX11_hand_90 : decode cX11_hand 90 = .ok (.getfield 212, 3) := by decide +kernel
theorem dX11_hand_93 : decode cX11_hand 93 = .ok (.iconst 1, 1) := by decide +kernel
theorem dX11_hand_94 : decode cX11_hand 94 = .ok (.isub, 1) := by decide +kernel
theorem dX11_hand_95 : decode cX11_hand 95 = .ok (.ireturn, 1) := by decide +kernel
theorem dX11_clear_0 : decode cX11_clear 0 = .ok (.aload_n 0, 1) := by decide +kernel
theorem dX11_clear_1 : decode cX11_clear 1 = .ok (.iconst 0, 1) := by decide +kernel
theorem dX11_clear_2 : decode cX11_clear 2 = .ok (.putfield 163, 3) := by decide +kernel
theorem dX11_clear_5 : decode cX11_clear 5 = .ok (.iload_n 1, 1) := by decide +kernel
theorem dX11_clear_6 : decode cX11_clear 6 = .ok (.iconst (-1), 1) := by decide +kernel
theorem dX11_clear_7 : decode cX11_clear 7 = .ok (.if_icmp .eq 14, 3) := by decide +kernel
theorem dX11_clear_10 : decode cX11_clear 10 = .ok (.aload_n 0, 1) := by decide +kernel
theorem dX11_clear_11 : decode cX11_clear 11 = .ok (.iload_n 1, 1) := by decide +kernel
theorem dX11_clear_12 : decode cX11_clear 12 = .ok (.invokevirtual 189, 3) := by decide +kernel
theorem dX11_clear_15 : decode cX11_clear 15 = .ok (.ifCond .ne 6, 3) := by decide +kernel
theorem dX11_clear_18 : decode cX11_clear 18 = .ok (.bipush (-2), 2) := by decide +kernel
theorem dX11_clear_20 : decode cX11_clear 20 = .ok (.ireturn, 1) := by decide +kernel
theorem dX11_clear_21 : decode cX11_clear 21 = .ok (.aload_n 0, 1) := by decide +kernel
theorem dX11_clear_22 : decode cX11_clear 22 = .ok (.getfield 202, 3) := by decide +kernel
theorem dX11_clear_25 : decode cX11_clear 25 = .ok (.istore_n 2, 1) := by decide +kernel
theorem dX11_clear_26 : decode cX11_clear 26 = .ok (.aload_n 0, 1) := by decide +kernel
theorem dX11_clear_27 : decode cX11_clear 27 = .ok (.iconst 0, 1) := by decide +kernel
theorem dX11_clear_28 : decode cX11_clear 28 = .ok (.putfield 202, 3) := by decide +kernel
theorem dX11_clear_31 : decode cX11_clear 31 = .ok (.iconst 0, 1) := by decide +kernel
theorem dX11_clear_32 : decode cX11_clear 32 = .ok (.istore_n 3, 1) := by decide +kernel
theorem dX11_clear_33 : decode cX11_clear 33 = .ok (.iload_n 3, 1) := by decide +kernel
theorem dX11_clear_34 : decode cX11_clear 34 = .ok (.iload_n 2, 1) := by decide +kernel
theorem dX11_clear_35 : decode cX11_clear 35 = .ok (.if_icmp .ge 87, 3) := by decide +kernel
theorem dX11_clear_38 : decode cX11_clear 38 = .ok (.iload_n 1, 1) := by decide +kernel
theorem dX11_clear_39 : decode cX11_clear 39 = .ok (.iconst (-1), 1) := by decide +kernel
theorem dX11_clear_40 : decode cX11_clear 40 = .ok (.if_icmp .eq 76, 3) := by decide +kernel
theorem dX11_clear_43 : decode cX11_clear 43 = .ok (.aload_n 0, 1) := by decide +kernel
theorem dX11_clear_44 : decode cX11_clear 44 = .ok (.getfield 43, 3) := by decide +kernel
theorem dX11_clear_47 : decode cX11_clear 47 = .ok (.iconst 4, 1) := by decide +kernel
theorem dX11_clear_48 : decode cX11_clear 48 = .ok (.iload_n 3, 1) := by decide +kernel
theorem dX11_clear_49 : decode cX11_clear 49 = .ok (.imul, 1) := by decide +kernel
theorem dX11_clear_50 : decode cX11_clear 50 = .ok (.iconst 1, 1) := by decide +kernel
theorem dX11_clear_51 : decode cX11_clear 51 = .ok (.iadd, 1) := by decide +kernel
theorem dX11_clear_52 : decode cX11_clear 52 = .ok (.iaload, 1) := by decide +kernel
theorem dX11_clear_53 : decode cX11_clear 53 = .ok (.iload_n 1, 1) := by decide +kernel
theorem dX11_clear_54 : decode cX11_clear 54 = .ok (.if_icmp .ne 6, 3) := by decide +kernel
theorem dX11_clear_57 : decode cX11_clear 57 = .ok (.goto 59, 3) := by decide +kernel
theorem dX11_clear_60 : decode cX11_clear 60 = .ok (.aload_n 0, 1) := by decide +kernel
theorem dX11_clear_61 : decode cX11_clear 61 = .ok (.aload_n 0, 1) := by decide +kernel
theorem dX11_clear_62 : decode cX11_clear 62 = .ok (.getfield 202, 3) := by decide +kernel
theorem dX11_clear_65 : decode cX11_clear 65 = .ok (.aload_n 0, 1) := by decide +kernel
theorem dX11_clear_66 : decode cX11_clear 66 = .ok (.getfield 43, 3) := by decide +kernel
theorem dX11_clear_69 : decode cX11_clear 69 = .ok (.iconst 4, 1) := by decide +kernel
theorem dX11_clear_70 : decode cX11_clear 70 = .ok (.iload_n 3, 1) := by decide +kernel
theorem dX11_clear_71 : decode cX11_clear 71 = .ok (.imul, 1) := by decide +kernel
theorem dX11_clear_72 : decode cX11_clear 72 = .ok (.iaload, 1) := by decide +kernel
theorem dX11_clear_73 : decode cX11_clear 73 = .ok (.aload_n 0, 1) := by decide +kernel
theorem dX11_clear_74 : decode cX11_clear 74 = .ok (.getfield 43, 3) := by decide +kernel
theorem dX11_clear_77 : decode cX11_clear 77 = .ok (.iconst 4, 1) := by decide +kernel
theorem dX11_clear_78 : decode cX11_clear 78 = .ok (.iload_n 3, 1) := by decide +kernel
theorem dX11_clear_79 : decode cX11_clear 79 = .ok (.imul, 1) := by decide +kernel
theorem dX11_clear_80 : decode cX11_clear 80 = .ok (.iconst 1, 1) := by decide +kernel
theorem dX11_clear_81 : decode cX11_clear 81 = .ok (.iadd, 1) := by decide +kernel
theorem dX11_clear_82 : decode cX11_clear 82 = .ok (.iaload, 1) := by decide +kernel
theorem dX11_clear_83 : decode cX11_clear 83 = .ok (.aload_n 0, 1) := by decide +kernel
theorem dX11_clear_84 : decode cX11_clear 84 = .ok (.getfield 43, 3) := by decide +kernel
theorem dX11_clear_87 : decode cX11_clear 87 = .ok (.iconst 4, 1) := by decide +kernel
theorem dX11_clear_88 : decode cX11_clear 88 = .ok (.iload_n 3, 1) := by decide +kernel
theorem dX11_clear_89 : decode cX11_clear 89 = .ok (.imul, 1) := by decide +kernel
theorem dX11_clear_90 : decode cX11_clear 90 = .ok (.iconst 2, 1) := by decide +kernel
theorem dX11_clear_91 : decode cX11_clear 91 = .ok (.iadd, 1) := by decide +kernel
theorem dX11_clear_92 : decode cX11_clear 92 = .ok (.iaload, 1) := by decide +kernel
theorem dX11_clear_93 : decode cX11_clear 93 = .ok (.aload_n 0, 1) := by decide +kernel
theorem dX11_clear_94 : decode cX11_clear 94 = .ok (.getfield 43, 3) := by decide +kernel
theorem dX11_clear_97 : decode cX11_clear 97 = .ok (.iconst 4, 1) := by decide +kernel
theorem dX11_clear_98 : decode cX11_clear 98 = .ok (.iload_n 3, 1) := by decide +kernel
theorem dX11_clear_99 : decode cX11_clear 99 = .ok (.imul, 1) := by decide +kernel
theorem dX11_clear_100 : decode cX11_clear 100 = .ok (.iconst 3, 1) := by decide +kernel
theorem dX11_clear_101 : decode cX11_clear 101 = .ok (.iadd, 1) := by decide +kernel
theorem dX11_clear_102 : decode cX11_clear 102 = .ok (.iaload, 1) := by decide +kernel
theorem dX11_clear_103 : decode cX11_clear 103 = .ok (.invokevirtual 208, 3) := by decide +kernel
theorem dX11_clear_106 : decode cX11_clear 106 = .ok (.aload_n 0, 1) := by decide +kernel
theorem dX11_clear_107 : decode cX11_clear 107 = .ok (.dup, 1) := by decide +kernel
theorem dX11_clear_108 : decode cX11_clear 108 = .ok (.getfield 202, 3) := by decide +kernel
theorem dX11_clear_111 : decode cX11_clear 111 = .ok (.iconst 1, 1) := by decide +kernel
theorem dX11_clear_112 : decode cX11_clear 112 = .ok (.iadd, 1) := by decide +kernel
theorem dX11_clear_113 : decode cX11_clear 113 = .ok (.putfield 202, 3) := by decide +kernel
theorem dX11_clear_116 : decode cX11_clear 116 = .ok (.iinc 3 1, 3) := by decide +kernel
theorem dX11_clear_119 : decode cX11_clear 119 = .ok (.goto (-86), 3) := by decide +kernel
theorem dX11_clear_122 : decode cX11_clear 122 = .ok (.iload_n 1, 1) := by decide +kernel
theorem dX11_clear_123 : decode cX11_clear 123 = .ok (.iconst (-1), 1) := by decide +kernel
theorem dX11_clear_124 : decode cX11_clear 124 = .ok (.if_icmp .ne 8, 3) := by decide +kernel
theorem dX11_clear_127 : decode cX11_clear 127 = .ok (.aload_n 0, 1) := by decide +kernel
theorem dX11_clear_128 : decode cX11_clear 128 = .ok (.iconst 0, 1) := by decide +kernel
theorem dX11_clear_129 : decode cX11_clear 129 = .ok (.putfield 212, 3) := by decide +kernel
theorem dX11_clear_132 : decode cX11_clear 132 = .ok (.iload_n 2, 1) := by decide +kernel
theorem dX11_clear_133 : decode cX11_clear 133 = .ok (.aload_n 0, 1) := by decide +kernel
theorem dX11_clear_134 : decode cX11_clear 134 = .ok (.getfield 202, 3) := by decide +kernel
theorem dX11_clear_137 : decode cX11_clear 137 = .ok (.isub, 1) := by decide +kernel
theorem dX11_clear_138 : decode cX11_clear 138 = .ok (.ireturn, 1) := by decide +kernel
theorem dX11_wrong_0 : decode cX11_wrong 0 = .ok (.aload_n 0, 1) := by decide +kernel
theorem dX11_wrong_1 : decode cX11_wrong 1 = .ok (.iload_n 1, 1) := by decide +kernel
theorem dX11_wrong_2 : decode cX11_wrong 2 = .ok (.putfield 215, 3) := by decide +kernel
theorem dX11_wrong_5 : decode cX11_wrong 5 = .ok (.aload_n 0, 1) := by decide +kernel
theorem dX11_wrong_6 : decode cX11_wrong 6 = .ok (.aload_n 0, 1) := by decide +kernel
theorem dX11_wrong_7 : decode cX11_wrong 7 = .ok (.getfield 218, 3) := by decide +kernel
theorem dX11_wrong_10 : decode cX11_wrong 10 = .ok (.putfield 68, 3) := by decide +kernel
theorem dX11_wrong_13 : decode cX11_wrong 13 = .ok (.iconst 0, 1) := by decide +kernel
theorem dX11_wrong_14 : decode cX11_wrong 14 = .ok (.ireturn, 1) := by decide +kernel
theorem dX11_wordAt_0 : decode cX11_wordAt 0 = .ok (.iconst 0, 1) := by decide +kernel
theorem dX11_wordAt_1 : decode cX11_wordAt 1 = .ok (.istore_n 3, 1) := by decide +kernel
theorem dX11_wordAt_2 : decode cX11_wordAt 2 = .ok (.iconst 0, 1) := by decide +kernel
theorem dX11_wordAt_3 : decode cX11_wordAt 3 = .ok (.istore 4, 2) := by decide +kernel
theorem dX11_wordAt_5 : decode cX11_wordAt 5 = .ok (.iload 4, 2) := by decide +kernel
theorem dX11_wordAt_7 : decode cX11_wordAt 7 = .ok (.aload_n 0, 1) := by decide +kernel
theorem dX11_wordAt_8 : decode cX11_wordAt 8 = .ok (.getfield 65, 3) := by decide +kernel
theorem dX11_wordAt_11 : decode cX11_wordAt 11 = .ok (.arraylength, 1) := by decide +kernel
theorem dX11_wordAt_12 : decode cX11_wordAt 12 = .ok (.if_icmp .ge 114, 3) := by decide +kernel
theorem dX11_wordAt_15 : decode cX11_wordAt 15 = .ok (.iconst 0, 1) := by decide +kernel
theorem dX11_wordAt_16 : decode cX11_wordAt 16 = .ok (.istore 5, 2) := by decide +kernel
theorem dX11_wordAt_18 : decode cX11_wordAt 18 = .ok (.aload_n 0, 1) := by decide +kernel
theorem dX11_wordAt_19 : decode cX11_wordAt 19 = .ok (.getfield 65, 3) := by decide +kernel
theorem dX11_wordAt_22 : decode cX11_wordAt 22 = .ok (.iload 4, 2) := by decide +kernel
theorem dX11_wordAt_24 : decode cX11_wordAt 24 = .ok (.iload 5, 2) := by decide +kernel
theorem dX11_wordAt_26 : decode cX11_wordAt 26 = .ok (.iadd, 1) := by decide +kernel
theorem dX11_wordAt_27 : decode cX11_wordAt 27 = .ok (.iaload, 1) := by decide +kernel
theorem dX11_wordAt_28 : decode cX11_wordAt 28 = .ok (.bipush 32, 2) := by decide +kernel
theorem dX11_wordAt_30 : decode cX11_wordAt 30 = .ok (.if_icmp .eq 9, 3) := by decide +kernel
theorem dX11_wordAt_33 : decode cX11_wordAt 33 = .ok (.iinc 5 1, 3) := by decide +kernel
theorem dX11_wordAt_36 : decode cX11_wordAt 36 = .ok (.goto (-18), 3) := by decide +kernel
theorem dX11_wordAt_39 : decode cX11_wordAt 39 = .ok (.iload 5, 2) := by decide +kernel
theorem dX11_wordAt_41 : decode cX11_wordAt 41 = .ok (.iload_n 2, 1) := by decide +kernel
theorem dX11_wordAt_42 : decode cX11_wordAt 42 = .ok (.iload_n 1, 1) := by decide +kernel
theorem dX11_wordAt_43 : decode cX11_wordAt 43 = .ok (.isub, 1) := by decide +kernel
theorem dX11_wordAt_44 : decode cX11_wordAt 44 = .ok (.if_icmp .ne 7, 3) := by decide +kernel
theorem dX11_wordAt_47 : decode cX11_wordAt 47 = .ok (.iconst 1, 1) := by decide +kernel
theorem dX11_wordAt_48 : decode cX11_wordAt 48 = .ok (.goto 4, 3) := by decide +kernel
theorem dX11_wordAt_51 : decode cX11_wordAt 51 = .ok (.iconst 0, 1) := by decide +kernel
theorem dX11_wordAt_52 : decode cX11_wordAt 52 = .ok (.istore 6, 2) := by decide +kernel
theorem dX11_wordAt_54 : decode cX11_wordAt 54 = .ok (.iconst 0, 1) := by decide +kernel
theorem dX11_wordAt_55 : decode cX11_wordAt 55 = .ok (.istore 7, 2) := by decide +kernel
theorem dX11_wordAt_57 : decode cX11_wordAt 57 = .ok (.iload 7, 2) := by decide +kernel
theorem dX11_wordAt_59 : decode cX11_wordAt 59 = .ok (.iload 5, 2) := by decide +kernel
theorem dX11_wordAt_61 : decode cX11_wordAt 61 = .ok (.if_icmp .ge 43, 3) := by decide +kernel
theorem dX11_wordAt_64 : decode cX11_wordAt 64 = .ok (.iload 6, 2) := by decide +kernel
theorem dX11_wordAt_66 : decode cX11_wordAt 66 = .ok (.ifCond .eq 38, 3) := by decide +kernel
theorem dX11_wordAt_69 : decode cX11_wordAt 69 = .ok (.aload_n 0, 1) := by decide +kernel
theorem dX11_wordAt_70 : decode cX11_wordAt 70 = .ok (.getfield 65, 3) := by decide +kernel
theorem dX11_wordAt_73 : decode cX11_wordAt 73 = .ok (.iload 4, 2) := by decide +kernel
theorem dX11_wordAt_75 : decode cX11_wordAt 75 = .ok (.iload 7, 2) := by decide +kernel
theorem dX11_wordAt_77 : decode cX11_wordAt 77 = .ok (.iadd, 1) := by decide +kernel
theorem dX11_wordAt_78 : decode cX11_wordAt 78 = .ok (.iaload, 1) := by decide +kernel
theorem dX11_wordAt_79 : decode cX11_wordAt 79 = .ok (.aload_n 0, 1) := by decide +kernel
theorem dX11_wordAt_80 : decode cX11_wordAt 80 = .ok (.getfield 7, 3) := by decide +kernel
theorem dX11_wordAt_83 : decode cX11_wordAt 83 = .ok (.iload_n 1, 1) := by decide +kernel
theorem dX11_wordAt_84 : decode cX11_wordAt 84 = .ok (.iload 7, 2) := by decide +kernel
theorem dX11_wordAt_86 : decode cX11_wordAt 86 = .ok (.iadd, 1) := by decide +kernel
theorem dX11_wordAt_87 : decode cX11_wordAt 87 = .ok (.iaload, 1) := by decide +kernel
