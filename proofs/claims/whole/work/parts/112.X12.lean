theorem dX12_init_0 : decode cX12_init 0 = .ok (.aload_n 0, 1) := by decide +kernel
theorem dX12_init_1 : decode cX12_init 1 = .ok (.invokespecial 1, 3) := by decide +kernel
theorem dX12_init_4 : decode cX12_init 4 = .ok (.aload_n 0, 1) := by decide +kernel
theorem dX12_init_5 : decode cX12_init 5 = .ok (.bipush 8, 2) := by decide +kernel
theorem dX12_init_7 : decode cX12_init 7 = .ok (.newarray .int, 2) := by decide +kernel
theorem dX12_init_9 : decode cX12_init 9 = .ok (.dup, 1) := by decide +kernel
theorem dX12_init_10 : decode cX12_init 10 = .ok (.iconst 0, 1) := by decide +kernel
theorem dX12_init_11 : decode cX12_init 11 = .ok (.iconst (-1), 1) := by decide +kernel
theorem dX12_init_12 : decode cX12_init 12 = .ok (.iastore, 1) := by decide +kernel
theorem dX12_init_13 : decode cX12_init 13 = .ok (.dup, 1) := by decide +kernel
theorem dX12_init_14 : decode cX12_init 14 = .ok (.iconst 1, 1) := by decide +kernel
theorem dX12_init_15 : decode cX12_init 15 = .ok (.iconst (-1), 1) := by decide +kernel
theorem dX12_init_16 : decode cX12_init 16 = .ok (.iastore, 1) := by decide +kernel
theorem dX12_init_17 : decode cX12_init 17 = .ok (.dup, 1) := by decide +kernel
theorem dX12_init_18 : decode cX12_init 18 = .ok (.iconst 2, 1) := by decide +kernel
theorem dX12_init_19 : decode cX12_init 19 = .ok (.iconst (-1), 1) := by decide +kernel
theorem dX12_init_20 : decode cX12_init 20 = .ok (.iastore, 1) := by decide +kernel
theorem dX12_init_21 : decode cX12_init 21 = .ok (.dup, 1) := by decide +kernel
theorem dX12_init_22 : decode cX12_init 22 = .ok (.iconst 3, 1) := by decide +kernel
theorem dX12_init_23 : decode cX12_init 23 = .ok (.iconst (-1), 1) := by decide +kernel
theorem dX12_init_24 : decode cX12_init 24 = .ok (.iastore, 1) := by decide +kernel
theorem dX12_init_25 : decode cX12_init 25 = .ok (.dup, 1) := by decide +kernel
theorem dX12_init_26 : decode cX12_init 26 = .ok (.iconst 4, 1) := by decide +kernel
theorem dX12_init_27 : decode cX12_init 27 = .ok (.iconst (-1), 1) := by decide +kernel
theorem dX12_init_28 : decode cX12_init 28 = .ok (.iastore, 1) := by decide +kernel
theorem dX12_init_29 : decode cX12_init 29 = .ok (.dup, 1) := by decide +kernel
theorem dX12_init_30 : decode cX12_init 30 = .ok (.iconst 5, 1) := by decide +kernel
theorem dX12_init_31 : decode cX12_init 31 = .ok (.iconst (-1), 1) := by decide +kernel
theorem dX12_init_32 : decode cX12_init 32 = .ok (.iastore, 1) := by decide +kernel
theorem dX12_init_33 : decode cX12_init 33 = .ok (.dup, 1) := by decide +kernel
theorem dX12_init_34 : decode cX12_init 34 = .ok (.bipush 6, 2) := by decide +kernel
theorem dX12_init_36 : decode cX12_init 36 = .ok (.iconst (-1), 1) := by decide +kernel
theorem dX12_init_37 : decode cX12_init 37 = .ok (.iastore, 1) := by decide +kernel
theorem dX12_init_38 : decode cX12_init 38 = .ok (.dup, 1) := by decide +kernel
theorem dX12_init_39 : decode cX12_init 39 = .ok (.bipush 7, 2) := by decide +kernel
theorem dX12_init_41 : decode cX12_init 41 = .ok (.iconst (-1), 1) := by decide +kernel
theorem dX12_init_42 : decode cX12_init 42 = .ok (.iastore, 1) := by decide +kernel
theorem dX12_init_43 : decode cX12_init 43 = .ok (.putfield 7, 3) := by decide +kernel
theorem dX12_init_46 : decode cX12_init 46 = .ok (.aload_n 0, 1) := by decide +kernel
theorem dX12_init_47 : decode cX12_init 47 = .ok (.bipush 8, 2) := by decide +kernel
theorem dX12_init_49 : decode cX12_init 49 = .ok (.newarray .int, 2) := by decide +kernel
theorem dX12_init_51 : decode cX12_init 51 = .ok (.putfield 13, 3) := by decide +kernel
theorem dX12_init_54 : decode cX12_init 54 = .ok (.aload_n 0, 1) := by decide +kernel
theorem dX12_init_55 : decode cX12_init 55 = .ok (.sipush 480, 3) := by decide +kernel
theorem dX12_init_58 : decode cX12_init 58 = .ok (.newarray .int, 2) := by decide +kernel
theorem dX12_init_60 : decode cX12_init 60 = .ok (.putfield 16, 3) := by decide +kernel
theorem dX12_init_63 : decode cX12_init 63 = .ok (.aload_n 0, 1) := by decide +kernel
theorem dX12_init_64 : decode cX12_init 64 = .ok (.bipush 6, 2) := by decide +kernel
theorem dX12_init_66 : decode cX12_init 66 = .ok (.newarray .int, 2) := by decide +kernel
theorem dX12_init_68 : decode cX12_init 68 = .ok (.putfield 19, 3) := by decide +kernel
theorem dX12_init_71 : decode cX12_init 71 = .ok (.aload_n 0, 1) := by decide +kernel
theorem dX12_init_72 : decode cX12_init 72 = .ok (.bipush 6, 2) := by decide +kernel
theorem dX12_init_74 : decode cX12_init 74 = .ok (.newarray .int, 2) := by decide +kernel
theorem dX12_init_76 : decode cX12_init 76 = .ok (.putfield 22, 3) := by decide +kernel
theorem dX12_init_79 : decode cX12_init 79 = .ok (.aload_n 0, 1) := by decide +kernel
theorem dX12_init_80 : decode cX12_init 80 = .ok (.bipush 6, 2) := by decide +kernel
theorem dX12_init_82 : decode cX12_init 82 = .ok (.newarray .int, 2) := by decide +kernel
theorem dX12_init_84 : decode cX12_init 84 = .ok (.putfield 25, 3) := by decide +kernel
theorem dX12_init_87 : decode cX12_init 87 = .ok (.aload_n 0, 1) := by decide +kernel
theorem dX12_init_88 : decode cX12_init 88 = .ok (.bipush 36, 2) := by decide +kernel
theorem dX12_init_90 : decode cX12_init 90 = .ok (.newarray .int, 2) := by decide +kernel
theorem dX12_init_92 : decode cX12_init 92 = .ok (.putfield 28, 3) := by decide +kernel
theorem dX12_init_95 : decode cX12_init 95 = .ok (.aload_n 0, 1) := by decide +kernel
theorem dX12_init_96 : decode cX12_init 96 = .ok (.bipush 36, 2) := by decide +kernel
theorem dX12_init_98 : decode cX12_init 98 = .ok (.newarray .int, 2) := by decide +kernel
theorem dX12_init_100 : decode cX12_init 100 = .ok (.putfield 31, 3) := by decide +kernel
theorem dX12_init_103 : decode cX12_init 103 = .ok (.aload_n 0, 1) := by decide +kernel
theorem dX12_init_104 : decode cX12_init 104 = .ok (.bipush 6, 2) := by decide +kernel
theorem dX12_init_106 : decode cX12_init 106 = .ok (.newarray .int, 2) := by decide +kernel
theorem dX12_init_108 : decode cX12_init 108 = .ok (.putfield 34, 3) := by decide +kernel
theorem dX12_init_111 : decode cX12_init 111 = .ok (.aload_n 0, 1) := by decide +kernel
theorem dX12_init_112 : decode cX12_init 112 = .ok (.sipush 400, 3) := by decide +kernel
theorem dX12_init_115 : decode cX12_init 115 = .ok (.newarray .int, 2) := by decide +kernel
theorem dX12_init_117 : decode cX12_init 117 = .ok (.putfield 37, 3) := by decide +kernel
theorem dX12_init_120 : decode cX12_init 120 = .ok (.aload_n 0, 1) := by decide +kernel
theorem dX12_init_121 : decode cX12_init 121 = .ok (.iconst 4, 1) := by decide +kernel
theorem dX12_init_122 : decode cX12_init 122 = .ok (.newarray .int, 2) := by decide +kernel
theorem dX12_init_124 : decode cX12_init 124 = .ok (.putfield 40, 3) := by decide +kernel
theorem dX12_init_127 : decode cX12_init 127 = .ok (.aload_n 0, 1) := by decide +kernel
theorem dX12_init_128 : decode cX12_init 128 = .ok (.iconst 4, 1) := by decide +kernel
theorem dX12_init_129 : decode cX12_init 129 = .ok (.newarray .int, 2) := by decide +kernel
theorem dX12_init_131 : decode cX12_init 131 = .ok (.putfield 43, 3) := by decide +kernel
theorem dX12_init_134 : decode cX12_init 134 = .ok (.aload_n 0, 1) := by decide +kernel
theorem dX12_init_135 : decode cX12_init 135 = .ok (.iconst 4, 1) := by decide +kernel
theorem dX12_init_136 : decode cX12_init 136 = .ok (.newarray .int, 2) := by decide +kernel
theorem dX12_init_138 : decode cX12_init 138 = .ok (.putfield 46, 3) := by decide +kernel
theorem dX12_init_141 : decode cX12_init 141 = .ok (.aload_n 0, 1) := by decide +kernel
theorem dX12_init_142 : decode cX12_init 142 = .ok (.iconst 4, 1) := by decide +kernel
theorem dX12_init_143 : decode cX12_init 143 = .ok (.newarray .int, 2) := by decide +kernel
theorem dX12_init_145 : decode cX12_init 145 = .ok (.putfield 49, 3) := by decide +kernel
theorem dX12_init_148 : decode cX12_init 148 = .ok (.aload_n 0, 1) := by decide +kernel
theorem dX12_init_149 : decode cX12_init 149 = .ok (.iconst 4, 1) := by decide +kernel
theorem dX12_init_150 : decode cX12_init 150 = .ok (.newarray .int, 2) := by decide +kernel
theorem dX12_init_152 : decode cX12_init 152 = .ok (.putfield 52, 3) := by decide +kernel
theorem dX12_init_155 : decode cX12_init 155 = .ok (.aload_n 0, 1) := by decide +kernel
theorem dX12_init_156 : decode cX12_init 156 = .ok (.iconst 4, 1) := by decide +kernel
theorem dX12_init_157 : decode cX12_init 157 = .ok (.newarray .int, 2) := by decide +kernel
theorem dX12_init_159 : decode cX12_init 159 = .ok (.putfield 55, 3) := by decide +kernel
theorem dX12_init_162 : decode cX12_init 162 = .ok (.aload_n 0, 1) := by decide +kernel
theorem dX12_init_163 : decode cX12_init 163 = .ok (.bipush 8, 2) := by decide +kernel
theorem dX12_init_165 : decode cX12_init 165 = .ok (.putfield 58, 3) := by decide +kernel
theorem dX12_init_168 : decode cX12_init 168 = .ok (.aload_n 0, 1) := by decide +kernel
theorem dX12_init_169 : decode cX12_init 169 = .ok (.bipush 15, 2) := by decide +kernel
theorem dX12_init_171 : decode cX12_init 171 = .ok (.newarray .int, 2) := by decide +kernel
theorem dX12_init_173 : decode cX12_init 173 = .ok (.putfield 62, 3) := by decide +kernel
theorem dX12_init_176 : decode cX12_init 176 = .ok (.aload_n 0, 1) := by decide +kernel
theorem dX12_init_177 : decode cX12_init 177 = .ok (.bipush 15, 2) := by decide +kernel
theorem dX12_init_179 : decode cX12_init 179 = .ok (.newarray .int, 2) := by decide +kernel
theorem dX12_init_181 : decode cX12_init 181 = .ok (.putfield 65, 3) := by decide +kernel
theorem dX12_init_184 : decode cX12_init 184 = .ok (.aload_n 0, 1) := by decide +kernel
theorem dX12_init_185 : decode cX12_init 185 = .ok (.bipush 15, 2) := by decide +kernel
theorem dX12_init_187 : decode cX12_init 187 = .ok (.newarray .int, 2) := by decide +kernel
theorem dX12_init_189 : decode cX12_init 189 = .ok (.putfield 68, 3) := by decide +kernel
theorem dX12_init_192 : decode cX12_init 192 = .ok (.aload_n 0, 1) := by decide +kernel
theorem dX12_init_193 : decode cX12_init 193 = .ok (.bipush 15, 2) := by decide +kernel
theorem dX12_init_195 : decode cX12_init 195 = .ok (.newarray .int, 2) := by decide +kernel
theorem dX12_init_197 : decode cX12_init 197 = .ok (.putfield 71, 3) := by decide +kernel
theorem dX12_init_200 : decode cX12_init 200 = .ok (.aload_n 0, 1) := by decide +kernel
theorem dX12_init_201 : decode cX12_init 201 = .ok (.bipush 15, 2) := by decide +kernel
theorem dX12_init_203 : decode cX12_init 203 = .ok (.newarray .int, 2) := by decide +kernel
theorem dX12_init_205 : decode cX12_init 205 = .ok (.putfield 74, 3) := by decide +kernel
theorem dX12_init_208 : decode cX12_init 208 = .ok (.aload_n 0, 1) := by decide +kernel
theorem dX12_init_209 : decode cX12_init 209 = .ok (.bipush 15, 2) := by decide +kernel
theorem dX12_init_211 : decode cX12_init 211 = .ok (.newarray .boolean, 2) := by decide +kernel
theorem dX12_init_213 : decode cX12_init 213 = .ok (.putfield 77, 3) := by decide +kernel
theorem dX12_init_216 : decode cX12_init 216 = .ok (.aload_n 0, 1) := by decide +kernel
theorem dX12_init_217 : decode cX12_init 217 = .ok (.bipush 15, 2) := by decide +kernel
theorem dX12_init_219 : decode cX12_init 219 = .ok (.newarray .boolean, 2) := by decide +kernel
theorem dX12_init_221 : decode cX12_init 221 = .ok (.putfield 81, 3) := by decide +kernel
theorem dX12_init_224 : decode cX12_init 224 = .ok (.aload_n 0, 1) := by decide +kernel
theorem dX12_init_225 : decode cX12_init 225 = .ok (.bipush 15, 2) := by decide +kernel
theorem dX12_init_227 : decode cX12_init 227 = .ok (.newarray .boolean, 2) := by decide +kernel
theorem dX12_init_229 : decode cX12_init 229 = .ok (.putfield 84, 3) := by decide +kernel
theorem dX12_init_232 : decode cX12_init 232 = .ok (.aload_n 0, 1) := by decide +kernel
theorem dX12_init_233 : decode cX12_init 233 = .ok (.bipush 15, 2) := by decide +kernel
theorem dX12_init_235 : decode cX12_init 235 = .ok (.newarray .int, 2) := by decide +kernel
theorem dX12_init_237 : decode cX12_init 237 = .ok (.dup, 1) := by decide +kernel
theorem dX12_init_238 : decode cX12_init 238 = .ok (.iconst 0, 1) := by decide +kernel
theorem dX12_init_239 : decode cX12_init 239 = .ok (.bipush 50, 2) := by decide +kernel
theorem dX12_init_241 : decode cX12_init 241 = .ok (.iastore, 1) := by decide +kernel
theorem dX12_init_242 : decode cX12_init 242 = .ok (.dup, 1) := by decide +kernel
theorem dX12_init_243 : decode cX12_init 243 = .ok (.iconst 1, 1) := by decide +kernel
theorem dX12_init_244 : decode cX12_init 244 = .ok (.iconst 0, 1) := by decide +kernel
theorem dX12_init_245 : decode cX12_init 245 = .ok (.iastore, 1) := by decide +kernel
theorem dX12_init_246 : decode cX12_init 246 = .ok (.dup, 1) := by decide +kernel
theorem dX12_init_247 : decode cX12_init 247 = .ok (.iconst 2, 1) := by decide +kernel
theorem dX12_init_248 : decode cX12_init 248 = .ok (.iconst 0, 1) := by decide +kernel
theorem dX12_init_249 : decode cX12_init 249 = .ok (.iastore, 1) := by decide +kernel
theorem dX12_init_250 : decode cX12_init 250 = .ok (.dup, 1) := by decide +kernel
theorem dX12_init_251 : decode cX12_init 251 = .ok (.iconst 3, 1) := by decide +kernel
theorem dX12_init_252 : decode cX12_init 252 = .ok (.iconst 3, 1) := by decide +kernel
theorem dX12_init_253 : decode cX12_init 253 = .ok (.iastore, 1) := by decide +kernel
theorem dX12_init_254 : decode cX12_init 254 = .ok (.dup, 1) := by decide +kernel
theorem dX12_init_255 : decode cX12_init 255 = .ok (.iconst 4, 1) := by decide +kernel
theorem dX12_init_256 : decode cX12_init 256 = .ok (.iconst 3, 1) := by decide +kernel
theorem dX12_init_257 : decode cX12_init 257 = .ok (.iastore, 1) := by decide +kernel
theorem dX12_init_258 : decode cX12_init 258 = .ok (.dup, 1) := by decide +kernel
theorem dX12_init_259 : decode cX12_init 259 = .ok (.iconst 5, 1) := by decide +kernel
theorem dX12_init_260 : decode cX12_init 260 = .ok (.iconst 3, 1) := by decide +kernel
theorem dX12_init_261 : decode cX12_init 261 = .ok (.iastore, 1) := by decide +kernel
theorem dX12_init_262 : decode cX12_init 262 = .ok (.dup, 1) := by decide +kernel
theorem dX12_init_263 : decode cX12_init 263 = .ok (.bipush 6, 2) := by decide +kernel
theorem dX12_init_265 : decode cX12_init 265 = .ok (.iconst 3, 1) := by decide +kernel
theorem dX12_init_266 : decode cX12_init 266 = .ok (.iastore, 1) := by decide +kernel
theorem dX12_init_267 : decode cX12_init 267 = .ok (.dup, 1) := by decide +kernel
theorem dX12_init_268 : decode cX12_init 268 = .ok (.bipush 7, 2) := by decide +kernel
theorem dX12_init_270 : decode cX12_init 270 = .ok (.iconst 3, 1) := by decide +kernel
theorem dX12_init_271 : decode cX12_init 271 = .ok (.iastore, 1) := by decide +kernel
theorem dX12_init_272 : decode cX12_init 272 = .ok (.dup, 1) := by decide +kernel
theorem dX12_init_273 : decode cX12_init 273 = .ok (.bipush 8, 2) := by decide +kernel
theorem dX12_init_275 : decode cX12_init 275 = .ok (.iconst 3, 1) := by decide +kernel
theorem dX12_init_276 : decode cX12_init 276 = .ok (.iastore, 1) := by decide +kernel
theorem dX12_init_277 : decode cX12_init 277 = .ok (.dup, 1) := by decide +kernel
theorem dX12_init_278 : decode cX12_init 278 = .ok (.bipush 9, 2) := by decide +kernel
theorem dX12_init_280 : decode cX12_init 280 = .ok (.iconst 3, 1) := by decide +kernel
theorem dX12_init_281 : decode cX12_init 281 = .ok (.iastore, 1) := by decide +kernel
theorem dX12_init_282 : decode cX12_init 282 = .ok (.dup, 1) := by decide +kernel
theorem dX12_init_283 : decode cX12_init 283 = .ok (.bipush 10, 2) := by decide +kernel
theorem dX12_init_285 : decode cX12_init 285 = .ok (.iconst 3, 1) := by decide +kernel
theorem dX12_init_286 : decode cX12_init 286 = .ok (.iastore, 1) := by decide +kernel
theorem dX12_init_287 : decode cX12_init 287 = .ok (.dup, 1) := by decide +kernel
theorem dX12_init_288 : decode cX12_init 288 = .ok (.bipush 11, 2) := by decide +kernel
theorem dX12_init_290 : decode cX12_init 290 = .ok (.iconst 3, 1) := by decide +kernel
theorem dX12_init_291 : decode cX12_init 291 = .ok (.iastore, 1) := by decide +kernel
theorem dX12_init_292 : decode cX12_init 292 = .ok (.dup, 1) := by decide +kernel
theorem dX12_init_293 : decode cX12_init 293 = .ok (.bipush 12, 2) := by decide +kernel
theorem dX12_init_295 : decode cX12_init 295 = .ok (.iconst 3, 1) := by decide +kernel
theorem dX12_init_296 : decode cX12_init 296 = .ok (.iastore, 1) := by decide +kernel
theorem dX12_init_297 : decode cX12_init 297 = .ok (.dup, 1) := by decide +kernel
theorem dX12_init_298 : decode cX12_init 298 = .ok (.bipush 13, 2) := by decide +kernel
theorem dX12_init_300 : decode cX12_init 300 = .ok (.iconst 0, 1) := by decide +kernel
theorem dX12_init_301 : decode cX12_init 301 = .ok (.iastore, 1) := by decide +kernel
theorem dX12_init_302 : decode cX12_init 302 = .ok (.dup, 1) := by decide +kernel
theorem dX12_init_303 : decode cX12_init 303 = .ok (.bipush 14, 2) := by decide +kernel
theorem dX12_init_305 : decode cX12_init 305 = .ok (.iconst 0, 1) := by decide +kernel
theorem dX12_init_306 : decode cX12_init 306 = .ok (.iastore, 1) := by decide +kernel
theorem dX12_init_307 : decode cX12_init 307 = .ok (.putfield 87, 3) := by decide +kernel
theorem dX12_init_310 : decode cX12_init 310 = .ok (.aload_n 0, 1) := by decide +kernel
theorem dX12_init_311 : decode cX12_init 311 = .ok (.sipush 240, 3) := by decide +kernel
theorem dX12_init_314 : decode cX12_init 314 = .ok (.newarray .int, 2) := by decide +kernel
theorem dX12_init_316 : decode cX12_init 316 = .ok (.putfield 90, 3) := by decide +kernel
theorem dX12_init_319 : decode cX12_init 319 = .ok (.aload_n 0, 1) := by decide +kernel
theorem dX12_init_320 : decode cX12_init 320 = .ok (.bipush 40, 2) := by decide +kernel
theorem dX12_init_322 : decode cX12_init 322 = .ok (.newarray .boolean, 2) := by decide +kernel
theorem dX12_init_324 : decode cX12_init 324 = .ok (.putfield 93, 3) := by decide +kernel
theorem dX12_init_327 : decode cX12_init 327 = .ok (.aload_n 0, 1) := by decide +kernel
theorem dX12_init_328 : decode cX12_init 328 = .ok (.iconst 4, 1) := by decide +kernel
theorem dX12_init_329 : decode cX12_init 329 = .ok (.newarray .int, 2) := by decide +kernel
theorem dX12_init_331 : decode cX12_init 331 = .ok (.putfield 96, 3) := by decide +kernel
theorem dX12_init_334 : decode cX12_init 334 = .ok (.aload_n 0, 1) := by decide +kernel
theorem dX12_init_335 : decode cX12_init 335 = .ok (.bipush 7, 2) := by decide +kernel
theorem dX12_init_337 : decode cX12_init 337 = .ok (.newarray .int, 2) := by decide +kernel
theorem dX12_init_339 : decode cX12_init 339 = .ok (.putfield 99, 3) := by decide +kernel
theorem dX12_init_342 : decode cX12_init 342 = .ok (.aload_n 0, 1) := by decide +kernel
theorem dX12_init_343 : decode cX12_init 343 = .ok (.bipush 7, 2) := by decide +kernel
theorem dX12_init_345 : decode cX12_init 345 = .ok (.newarray .int, 2) := by decide +kernel
theorem dX12_init_347 : decode cX12_init 347 = .ok (.putfield 102, 3) := by decide +kernel
theorem dX12_init_350 : decode cX12_init 350 = .ok (.aload_n 0, 1) := by decide +kernel
theorem dX12_init_351 : decode cX12_init 351 = .ok (.bipush 16, 2) := by decide +kernel
theorem dX12_init_353 : decode cX12_init 353 = .ok (.newarray .int, 2) := by decide +kernel
theorem dX12_init_355 : decode cX12_init 355 = .ok (.putfield 105, 3) := by decide +kernel
theorem dX12_init_358 : decode cX12_init 358 = .ok (.return_, 1) := by decide +kernel
def bX12_init_0 (rc : Nat → ox_K) : ox_K := o_al 0 (o_obj (o_al 0 (o_ic (8) (o_newa 1 (o_dup (o_ic (0) (o_ic (-1) (o_iast (o_dup (o_ic (1) (o_ic (-1) (o_iast (o_dup (o_ic (2) (o_ic (-1) (o_iast (o_dup (o_ic (3) (o_ic (-1) (o_iast (o_dup (o_ic (4) (o_ic (-1) (o_iast (o_dup (o_ic (5) (o_ic (-1) (o_iast (o_dup (o_ic (6) (o_ic (-1) (o_iast (o_dup (o_ic (7) (o_ic (-1) (o_iast (o_putr 12 2 (o_al 0 (o_ic (8) (o_newa 1 (o_putr 12 3 (o_al 0 (o_ic (480) (o_newa 1 (o_putr 12 4 (o_al 0 (o_ic (6) (o_newa 1 (o_putr 12 6 (o_al 0 (o_ic (6) (o_newa 1 (o_putr 12 7 (o_al 0 (o_ic (6) (o_newa 1 (o_putr 12 8 (o_al 0 (o_ic (36) (o_newa 1 (o_putr 12 9 (o_al 0 (o_ic (36) (o_newa 1 (o_putr 12 10 (o_al 0 (o_ic (6) (o_newa 1 (o_putr 12 11 (o_al 0 (o_ic (400) (o_newa 1 (o_putr 12 13 (o_al 0 (o_ic (4) (o_newa 1 (o_putr 12 25 (o_al 0 (o_ic (4) (o_newa 1 (o_putr 12 26 (o_al 0 (o_ic (4) (o_newa 1 (o_putr 12 27 (o_al 0 (o_ic (4) (o_newa 1 (o_putr 12 28 (o_al 0 (o_ic (4) (o_newa 1 (o_putr 12 29 (o_al 0 (o_ic (4) (o_newa 1 (o_putr 12 30 (o_al 0 (o_ic (8) (o_puti 12 33 (o_al 0 (o_ic (15) (o_newa 1 (o_putr 12 35 (o_al 0 (o_ic (15) (o_newa 1 (o_putr 12 36 (o_al 0 (o_ic (15) (o_newa 1 (o_putr 12 37 (o_al 0 (o_ic (15) (o_newa 1 (o_putr 12 38 (o_al 0 (o_ic (15) (o_newa 1 (o_putr 12 39 (o_al 0 (o_ic (15) (o_newa 3 (o_putr 12 40 (o_al 0 (o_ic (15) (o_newa 3 (o_putr 12 41 (o_al 0 (o_ic (15) (o_newa 3 (o_putr 12 42 (o_al 0 (o_ic (15) (o_newa 1 (o_dup (o_ic (0) (o_ic (50) (o_iast (o_dup (o_ic (1) (o_ic (0) (o_iast (o_dup (o_ic (2) (o_ic (0) (o_iast (o_dup (o_ic (3) (o_ic (3) (o_iast (o_dup (o_ic (4) (o_ic (3) (o_iast (o_dup (o_ic (5) (o_ic (3) (o_iast (o_dup (o_ic (6) (o_ic (3) (o_iast (o_dup (o_ic (7) (o_ic (3) (o_iast (o_dup (o_ic (8) (o_ic (3) (o_iast (o_dup (o_ic (9) (o_ic (3) (o_iast (o_dup (o_ic (10) (o_ic (3) (o_iast (o_dup (o_ic (11) (o_ic (3) (o_iast (o_dup (o_ic (12) (o_ic (3) (o_iast (o_dup (o_ic (13) (o_ic (0) (o_iast (o_dup (o_ic (14) (o_ic (0) (o_iast (o_putr 12 43 (o_al 0 (o_ic (240) (o_newa 1 (o_putr 12 49 (o_al 0 (o_ic (40) (o_newa 3 (o_putr 12 50 (o_al 0 (o_ic (4) (o_newa 1 (o_putr 12 51 (o_al 0 (o_ic (7) (o_newa 1 (o_putr 12 55 (o_al 0 (o_ic (7) (o_newa 1 (o_putr 12 56 (o_al 0 (o_ic (16) (o_newa 1 (o_putr 12 57 (o_ret)))))))))))))))))))))))))))))))))))))))))))))))))))))))))))))))))))))))))))))))))))))))))))))))))))))))))))))))))))))))))))))))))))))))))))))))))))))))))))))))))))))))))))))))))))))))))))))))))))))))))))))))))))))))))))))
section SX12_init
variable {p : Program} {l : Launch} {e : Env} {R : Room} {s : State} {m : MethodId} {args : Array Value} {below : List Frame} {meth : Method} {c : Code} {g : ox_G} {c0 t0 dp  : Nat} {rc : Nat → ox_K}
set_option maxRecDepth 100000 in
theorem kX12_init_0 (C : ox_C p s m args c g 1 cX12_init RX12) (hr : meth.sig.returnType = none) (hlk : meth.locks = false) (hnm : meth.name = "<init>") (hR : R.frames = dp ∧ R.locals = 60 * dp) (e0 : 1 ≤ dp) (hrc : ∀ b, ox_S p l e R s m args below meth c g 1 c0 t0 (ox_QM g below args s c0 t0) b (rc b)) : ox_S p l e R s m args below meth c g 1 c0 t0 (ox_QM g below args s c0 t0) 0 (bX12_init_0 rc) := by
  refine s_aload_n (pc := 0) C dX12_init_0 rfl ?_
  refine s_obj (pc := 1) C wM_X12_1 wO1 wO2 (ox_lv1 hR e0) dX12_init_1 ?_
  refine s_aload_n (pc := 4) C dX12_init_4 rfl ?_
  refine s_bipush (pc := 5) C dX12_init_5 (by decide) ?_
  refine s_newa (pc := 7) (ty := .int) C rfl (Or.inl ⟨rfl, rfl⟩) wA_int dX12_init_7 ?_
  refine s_dup (pc := 9) C dX12_init_9 ?_
  refine s_iconst (pc := 10) C dX12_init_10 (by decide) ?_
  refine s_iconst (pc := 11) C dX12_init_11 (by decide) ?_
  refine s_iast (pc := 12) C dX12_init_12 ?_
  refine s_dup (pc := 13) C dX12_init_13 ?_
  refine s_iconst (pc := 14) C dX12_init_14 (by decide) ?_
  refine s_iconst (pc := 15) C dX12_init_15 (by decide) ?_
  refine s_iast (pc := 16) C dX12_init_16 ?_
  refine s_dup (pc := 17) C dX12_init_17 ?_
  refine s_iconst (pc := 18) C dX12_init_18 (by decide) ?_
  refine s_iconst (pc := 19) C dX12_init_19 (by decide) ?_
  refine s_iast (pc := 20) C dX12_init_20 ?_
  refine s_dup (pc := 21) C dX12_init_21 ?_
  refine s_iconst (pc := 22) C dX12_init_22 (by decide) ?_
  refine s_iconst (pc := 23) C dX12_init_23 (by decide) ?_
  refine s_iast (pc := 24) C dX12_init_24 ?_
  refine s_dup (pc := 25) C dX12_init_25 ?_
  refine s_iconst (pc := 26) C dX12_init_26 (by decide) ?_
  refine s_iconst (pc := 27) C dX12_init_27 (by decide) ?_
  refine s_iast (pc := 28) C dX12_init_28 ?_
  refine s_dup (pc := 29) C dX12_init_29 ?_
  refine s_iconst (pc := 30) C dX12_init_30 (by decide) ?_
  refine s_iconst (pc := 31) C dX12_init_31 (by decide) ?_
  refine s_iast (pc := 32) C dX12_init_32 ?_
  refine s_dup (pc := 33) C dX12_init_33 ?_
  refine s_bipush (pc := 34) C dX12_init_34 (by decide) ?_
  refine s_iconst (pc := 36) C dX12_init_36 (by decide) ?_
  refine s_iast (pc := 37) C dX12_init_37 ?_
  refine s_dup (pc := 38) C dX12_init_38 ?_
  refine s_bipush (pc := 39) C dX12_init_39 (by decide) ?_
  refine s_iconst (pc := 41) C dX12_init_41 (by decide) ?_
  refine s_iast (pc := 42) C dX12_init_42 ?_
  refine s_putr (pc := 43) (j := 2) (q := (RX12, TX12, 59)) C rfl (by decide) rfl (Or.inr ⟨rfl, hnm, rfl⟩) wF_X12_7 dX12_init_43 ?_
  refine s_aload_n (pc := 46) C dX12_init_46 rfl ?_
  refine s_bipush (pc := 47) C dX12_init_47 (by decide) ?_
  refine s_newa (pc := 49) (ty := .int) C rfl (Or.inl ⟨rfl, rfl⟩) wA_int dX12_init_49 ?_
  refine s_putr (pc := 51) (j := 3) (q := (RX12, TX12, 59)) C rfl (by decide) rfl (Or.inr ⟨rfl, hnm, rfl⟩) wF_X12_13 dX12_init_51 ?_
  refine s_aload_n (pc := 54) C dX12_init_54 rfl ?_
  refine s_sipush (pc := 55) C dX12_init_55 (by decide) ?_
  refine s_newa (pc := 58) (ty := .int) C rfl (Or.inl ⟨rfl, rfl⟩) wA_int dX12_init_58 ?_
  refine s_putr (pc := 60) (j := 4) (q := (RX12, TX12, 59)) C rfl (by decide) rfl (Or.inr ⟨rfl, hnm, rfl⟩) wF_X12_16 dX12_init_60 ?_
  refine s_aload_n (pc := 63) C dX12_init_63 rfl ?_
  refine s_bipush (pc := 64) C dX12_init_64 (by decide) ?_
  refine s_newa (pc := 66) (ty := .int) C rfl (Or.inl ⟨rfl, rfl⟩) wA_int dX12_init_66 ?_
  refine s_putr (pc := 68) (j := 6) (q := (RX12, TX12, 59)) C rfl (by decide) rfl (Or.inr ⟨rfl, hnm, rfl⟩) wF_X12_19 dX12_init_68 ?_
  refine s_aload_n (pc := 71) C dX12_init_71 rfl ?_
  refine s_bipush (pc := 72) C dX12_init_72 (by decide) ?_
  refine s_newa (pc := 74) (ty := .int) C rfl (Or.inl ⟨rfl, rfl⟩) wA_int dX12_init_74 ?_
  refine s_putr (pc := 76) (j := 7) (q := (RX12, TX12, 59)) C rfl (by decide) rfl (Or.inr ⟨rfl, hnm, rfl⟩) wF_X12_22 dX12_init_76 ?_
  refine s_aload_n (pc := 79) C dX12_init_79 rfl ?_
  refine s_bipush (pc := 80) C dX12_init_80 (by decide) ?_
  refine s_newa (pc := 82) (ty := .int) C rfl (Or.inl ⟨rfl, rfl⟩) wA_int dX12_init_82 ?_
  refine s_putr (pc := 84) (j := 8) (q := (RX12, TX12, 59)) C rfl (by decide) rfl (Or.inr ⟨rfl, hnm, rfl⟩) wF_X12_25 dX12_init_84 ?_
  refine s_aload_n (pc := 87) C dX12_init_87 rfl ?_
  refine s_bipush (pc := 88) C dX12_init_88 (by decide) ?_
  refine s_newa (pc := 90) (ty := .int) C rfl (Or.inl ⟨rfl, rfl⟩) wA_int dX12_init_90 ?_
  refine s_putr (pc := 92) (j := 9) (q := (RX12, TX12, 59)) C rfl (by decide) rfl (Or.inr ⟨rfl, hnm, rfl⟩) wF_X12_28 dX12_init_92 ?_
  refine s_aload_n (pc := 95) C dX12_init_95 rfl ?_
  refine s_bipush (pc := 96) C dX12_init_96 (by decide) ?_
  refine s_newa (pc := 98) (ty := .int) C rfl (Or.inl ⟨rfl, rfl⟩) wA_int dX12_init_98 ?_
  refine s_putr (pc := 100) (j := 10) (q := (RX12, TX12, 59)) C rfl (by decide) rfl (Or.inr ⟨rfl, hnm, rfl⟩) wF_X12_31 dX12_init_100 ?_
  refine s_aload_n (pc := 103) C dX12_init_103 rfl ?_
  refine s_bipush (pc := 104) C dX12_init_104 (by decide) ?_
  refine s_newa (pc := 106) (ty := .int) C rfl (Or.inl ⟨rfl, rfl⟩) wA_int dX12_init_106 ?_
  refine s_putr (pc := 108) (j := 11) (q := (RX12, TX12, 59)) C rfl (by decide) rfl (Or.inr ⟨rfl, hnm, rfl⟩) wF_X12_34 dX12_init_108 ?_
  refine s_aload_n (pc := 111) C dX12_init_111 rfl ?_
  refine s_sipush (pc := 112) C dX12_init_112 (by decide) ?_
  refine s_newa (pc := 115) (ty := .int) C rfl (Or.inl ⟨rfl, rfl⟩) wA_int dX12_init_115 ?_
  refine s_putr (pc := 117) (j := 13) (q := (RX12, TX12, 59)) C rfl (by decide) rfl (Or.inr ⟨rfl, hnm, rfl⟩) wF_X12_37 dX12_init_117 ?_
  refine s_aload_n (pc := 120) C dX12_init_120 rfl ?_
  refine s_iconst (pc := 121) C dX12_init_121 (by decide) ?_
  refine s_newa (pc := 122) (ty := .int) C rfl (Or.inl ⟨rfl, rfl⟩) wA_int dX12_init_122 ?_
  refine s_putr (pc := 124) (j := 25) (q := (RX12, TX12, 59)) C rfl (by decide) rfl (Or.inr ⟨rfl, hnm, rfl⟩) wF_X12_40 dX12_init_124 ?_
  refine s_aload_n (pc := 127) C dX12_init_127 rfl ?_
  refine s_iconst (pc := 128) C dX12_init_128 (by decide) ?_
  refine s_newa (pc := 129) (ty := .int) C rfl (Or.inl ⟨rfl, rfl⟩) wA_int dX12_init_129 ?_
  refine s_putr (pc := 131) (j := 26) (q := (RX12, TX12, 59)) C rfl (by decide) rfl (Or.inr ⟨rfl, hnm, rfl⟩) wF_X12_43 dX12_init_131 ?_
  refine s_aload_n (pc := 134) C dX12_init_134 rfl ?_
  refine s_iconst (pc := 135) C dX12_init_135 (by decide) ?_
  refine s_newa (pc := 136) (ty := .int) C rfl (Or.inl ⟨rfl, rfl⟩) wA_int dX12_init_136 ?_
  refine s_putr (pc := 138) (j := 27) (q := (RX12, TX12, 59)) C rfl (by decide) rfl (Or.inr ⟨rfl, hnm, rfl⟩) wF_X12_46 dX12_init_138 ?_
  refine s_aload_n (pc := 141) C dX12_init_141 rfl ?_
  refine s_iconst (pc := 142) C dX12_init_142 (by decide) ?_
  refine s_newa (pc := 143) (ty := .int) C rfl (Or.inl ⟨rfl, rfl⟩) wA_int dX12_init_143 ?_
  refine s_putr (pc := 145) (j := 28) (q := (RX12, TX12, 59)) C rfl (by decide) rfl (Or.inr ⟨rfl, hnm, rfl⟩) wF_X12_49 dX12_init_145 ?_
  refine s_aload_n (pc := 148) C dX12_init_148 rfl ?_
  refine s_iconst (pc := 149) C dX12_init_149 (by decide) ?_
  refine s_newa (pc := 150) (ty := .int) C rfl (Or.inl ⟨rfl, rfl⟩) wA_int dX12_init_150 ?_
  refine s_putr (pc := 152) (j := 29) (q := (RX12, TX12, 59)) C rfl (by decide) rfl (Or.inr ⟨rfl, hnm, rfl⟩) wF_X12_52 dX12_init_152 ?_
  refine s_aload_n (pc := 155) C dX12_init_155 rfl ?_
  refine s_iconst (pc := 156) C dX12_init_156 (by decide) ?_
  refine s_newa (pc := 157) (ty := .int) C rfl (Or.inl ⟨rfl, rfl⟩) wA_int dX12_init_157 ?_
  refine s_putr (pc := 159) (j := 30) (q := (RX12, TX12, 59)) C rfl (by decide) rfl (Or.inr ⟨rfl, hnm, rfl⟩) wF_X12_55 dX12_init_159 ?_
  refine s_aload_n (pc := 162) C dX12_init_162 rfl ?_
  refine s_bipush (pc := 163) C dX12_init_163 (by decide) ?_
  refine s_puti (pc := 165) (j := 33) (q := (RX12, TX12, 59)) C rfl (by decide) rfl (Or.inl rfl) wF_X12_58 dX12_init_165 ?_
  refine s_aload_n (pc := 168) C dX12_init_168 rfl ?_
  refine s_bipush (pc := 169) C dX12_init_169 (by decide) ?_
  refine s_newa (pc := 171) (ty := .int) C rfl (Or.inl ⟨rfl, rfl⟩) wA_int dX12_init_171 ?_
  refine s_putr (pc := 173) (j := 35) (q := (RX12, TX12, 59)) C rfl (by decide) rfl (Or.inr ⟨rfl, hnm, rfl⟩) wF_X12_62 dX12_init_173 ?_
  refine s_aload_n (pc := 176) C dX12_init_176 rfl ?_
  refine s_bipush (pc := 177) C dX12_init_177 (by decide) ?_
  refine s_newa (pc := 179) (ty := .int) C rfl (Or.inl ⟨rfl, rfl⟩) wA_int dX12_init_179 ?_
  refine s_putr (pc := 181) (j := 36) (q := (RX12, TX12, 59)) C rfl (by decide) rfl (Or.inr ⟨rfl, hnm, rfl⟩) wF_X12_65 dX12_init_181 ?_
  refine s_aload_n (pc := 184) C dX12_init_184 rfl ?_
  refine s_bipush (pc := 185) C dX12_init_185 (by decide) ?_
  refine s_newa (pc := 187) (ty := .int) C rfl (Or.inl ⟨rfl, rfl⟩) wA_int dX12_init_187 ?_
  refine s_putr (pc := 189) (j := 37) (q := (RX12, TX12, 59)) C rfl (by decide) rfl (Or.inr ⟨rfl, hnm, rfl⟩) wF_X12_68 dX12_init_189 ?_
  refine s_aload_n (pc := 192) C dX12_init_192 rfl ?_
  refine s_bipush (pc := 193) C dX12_init_193 (by decide) ?_
  refine s_newa (pc := 195) (ty := .int) C rfl (Or.inl ⟨rfl, rfl⟩) wA_int dX12_init_195 ?_
  refine s_putr (pc := 197) (j := 38) (q := (RX12, TX12, 59)) C rfl (by decide) rfl (Or.inr ⟨rfl, hnm, rfl⟩) wF_X12_71 dX12_init_197 ?_
  refine s_aload_n (pc := 200) C dX12_init_200 rfl ?_
  refine s_bipush (pc := 201) C dX12_init_201 (by decide) ?_
  refine s_newa (pc := 203) (ty := .int) C rfl (Or.inl ⟨rfl, rfl⟩) wA_int dX12_init_203 ?_
  refine s_putr (pc := 205) (j := 39) (q := (RX12, TX12, 59)) C rfl (by decide) rfl (Or.inr ⟨rfl, hnm, rfl⟩) wF_X12_74 dX12_init_205 ?_
  refine s_aload_n (pc := 208) C dX12_init_208 rfl ?_
  refine s_bipush (pc := 209) C dX12_init_209 (by decide) ?_
  refine s_newa (pc := 211) (ty := .boolean) C rfl (Or.inr (Or.inr ⟨rfl, rfl⟩)) wA_boolean dX12_init_211 ?_
  refine s_putr (pc := 213) (j := 40) (q := (RX12, TX12, 59)) C rfl (by decide) rfl (Or.inr ⟨rfl, hnm, rfl⟩) wF_X12_77 dX12_init_213 ?_
  refine s_aload_n (pc := 216) C dX12_init_216 rfl ?_
  refine s_bipush (pc := 217) C dX12_init_217 (by decide) ?_
  refine s_newa (pc := 219) (ty := .boolean) C rfl (Or.inr (Or.inr ⟨rfl, rfl⟩)) wA_boolean dX12_init_219 ?_
  refine s_putr (pc := 221) (j := 41) (q := (RX12, TX12, 59)) C rfl (by decide) rfl (Or.inr ⟨rfl, hnm, rfl⟩) wF_X12_81 dX12_init_221 ?_
  refine s_aload_n (pc := 224) C dX12_init_224 rfl ?_
  refine s_bipush (pc := 225) C dX12_init_225 (by decide) ?_
  refine s_newa (pc := 227) (ty := .boolean) C rfl (Or.inr (Or.inr ⟨rfl, rfl⟩)) wA_boolean dX12_init_227 ?_
  refine s_putr (pc := 229) (j := 42) (q := (RX12, TX12, 59)) C rfl (by decide) rfl (Or.inr ⟨rfl, hnm, rfl⟩) wF_X12_84 dX12_init_229 ?_
  refine s_aload_n (pc := 232) C dX12_init_232 rfl ?_
  refine s_bipush (pc := 233) C dX12_init_233 (by decide) ?_
  refine s_newa (pc := 235) (ty := .int) C rfl (Or.inl ⟨rfl, rfl⟩) wA_int dX12_init_235 ?_
  refine s_dup (pc := 237) C dX12_init_237 ?_
  refine s_iconst (pc := 238) C dX12_init_238 (by decide) ?_
  refine s_bipush (pc := 239) C dX12_init_239 (by decide) ?_
  refine s_iast (pc := 241) C dX12_init_241 ?_
  refine s_dup (pc := 242) C dX12_init_242 ?_
  refine s_iconst (pc := 243) C dX12_init_243 (by decide) ?_
  refine s_iconst (pc := 244) C dX12_init_244 (by decide) ?_
  refine s_iast (pc := 245) C dX12_init_245 ?_
  refine s_dup (pc := 246) C dX12_init_246 ?_
  refine s_iconst (pc := 247) C dX12_init_247 (by decide) ?_
  refine s_iconst (pc := 248) C dX12_init_248 (by decide) ?_
  refine s_iast (pc := 249) C dX12_init_249 ?_
  refine s_dup (pc := 250) C dX12_init_250 ?_
  refine s_iconst (pc := 251) C dX12_init_251 (by decide) ?_
  refine s_iconst (pc := 252) C dX12_init_252 (by decide) ?_
  refine s_iast (pc := 253) C dX12_init_253 ?_
  refine s_dup (pc := 254) C dX12_init_254 ?_
  refine s_iconst (pc := 255) C dX12_init_255 (by decide) ?_
  refine s_iconst (pc := 256) C dX12_init_256 (by decide) ?_
  refine s_iast (pc := 257) C dX12_init_257 ?_
  refine s_dup (pc := 258) C dX12_init_258 ?_
  refine s_iconst (pc := 259) C dX12_init_259 (by decide) ?_
  refine s_iconst (pc := 260) C dX12_init_260 (by decide) ?_
  refine s_iast (pc := 261) C dX12_init_261 ?_
  refine s_dup (pc := 262) C dX12_init_262 ?_
  refine s_bipush (pc := 263) C dX12_init_263 (by decide) ?_
  refine s_iconst (pc := 265) C dX12_init_265 (by decide) ?_
  refine s_iast (pc := 266) C dX12_init_266 ?_
  refine s_dup (pc := 267) C dX12_init_267 ?_
  refine s_bipush (pc := 268) C dX12_init_268 (by decide) ?_
  refine s_iconst (pc := 270) C dX12_init_270 (by decide) ?_
  refine s_iast (pc := 271) C dX12_init_271 ?_
  refine s_dup (pc := 272) C dX12_init_272 ?_
  refine s_bipush (pc := 273) C dX12_init_273 (by decide) ?_
  refine s_iconst (pc := 275) C dX12_init_275 (by decide) ?_
  refine s_iast (pc := 276) C dX12_init_276 ?_
  refine s_dup (pc := 277) C dX12_init_277 ?_
  refine s_bipush (pc := 278) C dX12_init_278 (by decide) ?_
  refine s_iconst (pc := 280) C dX12_init_280 (by decide) ?_
  refine s_iast (pc := 281) C dX12_init_281 ?_
  refine s_dup (pc := 282) C dX12_init_282 ?_
  refine s_bipush (pc := 283) C dX12_init_283 (by decide) ?_
  refine s_iconst (pc := 285) C dX12_init_285 (by decide) ?_
  refine s_iast (pc := 286) C dX12_init_286 ?_
  refine s_dup (pc := 287) C dX12_init_287 ?_
  refine s_bipush (pc := 288) C dX12_init_288 (by decide) ?_
  refine s_iconst (pc := 290) C dX12_init_290 (by decide) ?_
  refine s_iast (pc := 291) C dX12_init_291 ?_
  refine s_dup (pc := 292) C dX12_init_292 ?_
  refine s_bipush (pc := 293) C dX12_init_293 (by decide) ?_
  refine s_iconst (pc := 295) C dX12_init_295 (by decide) ?_
  refine s_iast (pc := 296) C dX12_init_296 ?_
  refine s_dup (pc := 297) C dX12_init_297 ?_
  refine s_bipush (pc := 298) C dX12_init_298 (by decide) ?_
  refine s_iconst (pc := 300) C dX12_init_300 (by decide) ?_
  refine s_iast (pc := 301) C dX12_init_301 ?_
  refine s_dup (pc := 302) C dX12_init_302 ?_
  refine s_bipush (pc := 303) C dX12_init_303 (by decide) ?_
  refine s_iconst (pc := 305) C dX12_init_305 (by decide) ?_
  refine s_iast (pc := 306) C dX12_init_306 ?_
  refine s_putr (pc := 307) (j := 43) (q := (RX12, TX12, 59)) C rfl (by decide) rfl (Or.inr ⟨rfl, hnm, rfl⟩) wF_X12_87 dX12_init_307 ?_
  refine s_aload_n (pc := 310) C dX12_init_310 rfl ?_
  refine s_sipush (pc := 311) C dX12_init_311 (by decide) ?_
  refine s_newa (pc := 314) (ty := .int) C rfl (Or.inl ⟨rfl, rfl⟩) wA_int dX12_init_314 ?_
  refine s_putr (pc := 316) (j := 49) (q := (RX12, TX12, 59)) C rfl (by decide) rfl (Or.inr ⟨rfl, hnm, rfl⟩) wF_X12_90 dX12_init_316 ?_
  refine s_aload_n (pc := 319) C dX12_init_319 rfl ?_
  refine s_bipush (pc := 320) C dX12_init_320 (by decide) ?_
  refine s_newa (pc := 322) (ty := .boolean) C rfl (Or.inr (Or.inr ⟨rfl, rfl⟩)) wA_boolean dX12_init_322 ?_
  refine s_putr (pc := 324) (j := 50) (q := (RX12, TX12, 59)) C rfl (by decide) rfl (Or.inr ⟨rfl, hnm, rfl⟩) wF_X12_93 dX12_init_324 ?_
  refine s_aload_n (pc := 327) C dX12_init_327 rfl ?_
  refine s_iconst (pc := 328) C dX12_init_328 (by decide) ?_
  refine s_newa (pc := 329) (ty := .int) C rfl (Or.inl ⟨rfl, rfl⟩) wA_int dX12_init_329 ?_
  refine s_putr (pc := 331) (j := 51) (q := (RX12, TX12, 59)) C rfl (by decide) rfl (Or.inr ⟨rfl, hnm, rfl⟩) wF_X12_96 dX12_init_331 ?_
  refine s_aload_n (pc := 334) C dX12_init_334 rfl ?_
  refine s_bipush (pc := 335) C dX12_init_335 (by decide) ?_
  refine s_newa (pc := 337) (ty := .int) C rfl (Or.inl ⟨rfl, rfl⟩) wA_int dX12_init_337 ?_
  refine s_putr (pc := 339) (j := 55) (q := (RX12, TX12, 59)) C rfl (by decide) rfl (Or.inr ⟨rfl, hnm, rfl⟩) wF_X12_99 dX12_init_339 ?_
  refine s_aload_n (pc := 342) C dX12_init_342 rfl ?_
  refine s_bipush (pc := 343) C dX12_init_343 (by decide) ?_
  refine s_newa (pc := 345) (ty := .int) C rfl (Or.inl ⟨rfl, rfl⟩) wA_int dX12_init_345 ?_
  refine s_putr (pc := 347) (j := 56) (q := (RX12, TX12, 59)) C rfl (by decide) rfl (Or.inr ⟨rfl, hnm, rfl⟩) wF_X12_102 dX12_init_347 ?_
  refine s_aload_n (pc := 350) C dX12_init_350 rfl ?_
  refine s_bipush (pc := 351) C dX12_init_351 (by decide) ?_
  refine s_newa (pc := 353) (ty := .int) C rfl (Or.inl ⟨rfl, rfl⟩) wA_int dX12_init_353 ?_
  refine s_putr (pc := 355) (j := 57) (q := (RX12, TX12, 59)) C rfl (by decide) rfl (Or.inr ⟨rfl, hnm, rfl⟩) wF_X12_105 dX12_init_355 ?_
  exact s_ret (pc := 358) C hr hlk dX12_init_358
end SX12_init
def bsX12_init (b : Nat) (rc : Nat → ox_K) : ox_K := if b = 0 then bX12_init_0 rc else ox_no
theorem mX12_init {dp  : Nat} {f : ox_F} (e0 : 1 ≤ dp) (hf : ∀ as h r, f as h = some r → ox_cs as ≤ 1 ∧ ox_le h r.2 ∧ ∃ n, ox_run (bsX12_init) n 0 (lv_args 0 as) [] h = some r) : ox_Sem yX12_init cX12_init 1 none dp f := by
  refine ox_meth (bs := bsX12_init) (by decide) hf ?_
  intro p l e R s m args below meth c g c0 t0 C hr hlk hnm hR rc hrc b
  unfold bsX12_init
  refine ox_br (kX12_init_0 C hr hlk hnm hR e0 hrc) ?_
  exact s_no
theorem dX12_in_0 : decode cX12_in 0 = .ok (.lload_n 0, 1) := by decide +kernel
theorem dX12_in_1 : decode cX12_in 1 = .ok (.lload_n 2, 1) := by decide +kernel
theorem dX12_in_2 : decode cX12_in 2 = .ok (.lcmp, 1) := by decide +kernel
theorem dX12_in_3 : decode cX12_in 3 = .ok (.ifCond .lt 14, 3) := by decide +kernel
theorem dX12_in_6 : decode cX12_in 6 = .ok (.lload_n 0, 1) := by decide +kernel
theorem dX12_in_7 : decode cX12_in 7 = .ok (.lload 4, 2) := by decide +kernel
theorem dX12_in_9 : decode cX12_in 9 = .ok (.lcmp, 1) := by decide +kernel
theorem dX12_in_10 : decode cX12_in 10 = .ok (.ifCond .gt 7, 3) := by decide +kernel
theorem dX12_in_13 : decode cX12_in 13 = .ok (.iconst 1, 1) := by decide +kernel
theorem dX12_in_14 : decode cX12_in 14 = .ok (.goto 4, 3) := by decide +kernel
theorem dX12_in_17 : decode cX12_in 17 = .ok (.iconst 0, 1) := by decide +kernel
theorem dX12_in_18 : decode cX12_in 18 = .ok (.ireturn, 1) := by decide +kernel
def bX12_in_0 (rc : Nat → ox_K) : ox_K := o_ll 0 (o_ll 2 (o_lcmp (o_iflt (rc 17) (o_ll 0 (o_ll 4 (o_lcmp (o_ifgt (rc 17) (o_ic (1) (rc 18)))))))))
def bX12_in_17 (rc : Nat → ox_K) : ox_K := o_ic (0) (rc 18)
def bX12_in_18 (rc : Nat → ox_K) : ox_K := o_zret
section SX12_in
variable {p : Program} {l : Launch} {e : Env} {R : Room} {s : State} {m : MethodId} {args : Array Value} {below : List Frame} {meth : Method} {c : Code} {g : ox_G} {c0 t0 dp  : Nat} {rc : Nat → ox_K}
set_option maxRecDepth 100000 in
theorem kX12_in_0 (C : ox_C p s m args c g 6 cX12_in RX12) (hr : meth.sig.returnType = (some .boolean)) (hlk : meth.locks = false) (hnm : meth.name = "in") (hR : R.frames = dp ∧ R.locals = 60 * dp) (hrc : ∀ b, ox_S p l e R s m args below meth c g 6 c0 t0 (ox_QM g below args s c0 t0) b (rc b)) : ox_S p l e R s m args below meth c g 6 c0 t0 (ox_QM g below args s c0 t0) 0 (bX12_in_0 rc) := by
  refine s_lload_n (pc := 0) C dX12_in_0 rfl ?_
  refine s_lload_n (pc := 1) C dX12_in_1 rfl ?_
  refine s_lcmp (pc := 2) C dX12_in_2 ?_
  refine s_iflt (pc := 3) 17 C dX12_in_3 (by decide) (hrc 17) ?_
  refine s_lload_n (pc := 6) C dX12_in_6 rfl ?_
  refine s_lload (pc := 7) C dX12_in_7 ?_
  refine s_lcmp (pc := 9) C dX12_in_9 ?_
  refine s_ifgt (pc := 10) 17 C dX12_in_10 (by decide) (hrc 17) ?_
  refine s_iconst (pc := 13) C dX12_in_13 (by decide) ?_
  exact s_goto (pc := 14) 18 C dX12_in_14 (by decide) (hrc 18)
set_option maxRecDepth 100000 in
theorem kX12_in_17 (C : ox_C p s m args c g 6 cX12_in RX12) (hr : meth.sig.returnType = (some .boolean)) (hlk : meth.locks = false) (hnm : meth.name = "in") (hR : R.frames = dp ∧ R.locals = 60 * dp) (hrc : ∀ b, ox_S p l e R s m args below meth c g 6 c0 t0 (ox_QM g below args s c0 t0) b (rc b)) : ox_S p l e R s m args below meth c g 6 c0 t0 (ox_QM g below args s c0 t0) 17 (bX12_in_17 rc) := by
  refine s_iconst (pc := 17) C dX12_in_17 (by decide) ?_
  exact hrc 18
set_option maxRecDepth 100000 in
theorem kX12_in_18 (C : ox_C p s m args c g 6 cX12_in RX12) (hr : meth.sig.returnType = (some .boolean)) (hlk : meth.locks = false) (hnm : meth.name = "in") (hR : R.frames = dp ∧ R.locals = 60 * dp) (hrc : ∀ b, ox_S p l e R s m args below meth c g 6 c0 t0 (ox_QM g below args s c0 t0) b (rc b)) : ox_S p l e R s m args below meth c g 6 c0 t0 (ox_QM g below args s c0 t0) 18 (bX12_in_18 rc) := by
  exact s_zret (pc := 18) C hr (by decide) hlk dX12_in_18
end SX12_in
def bsX12_in (b : Nat) (rc : Nat → ox_K) : ox_K := if b = 0 then bX12_in_0 rc else if b = 17 then bX12_in_17 rc else if b = 18 then bX12_in_18 rc else ox_no
theorem mX12_in {dp  : Nat} {f : ox_F} (hf : ∀ as h r, f as h = some r → ox_cs as ≤ 6 ∧ ox_le h r.2 ∧ ∃ n, ox_run (bsX12_in) n 0 (lv_args 0 as) [] h = some r) : ox_Sem yX12_in cX12_in 6 (some .boolean) dp f := by
  refine ox_meth (bs := bsX12_in) (by decide) hf ?_
  intro p l e R s m args below meth c g c0 t0 C hr hlk hnm hR rc hrc b
  unfold bsX12_in
  refine ox_br (kX12_in_0 C hr hlk hnm hR hrc) ?_
  refine ox_br (kX12_in_17 C hr hlk hnm hR hrc) ?_
  refine ox_br (kX12_in_18 C hr hlk hnm hR hrc) ?_
  exact s_no
theorem dX12_finding_0 : decode cX12_finding 0 = .ok (.aload_n 0, 1) := by decide +kernel
theorem dX12_finding_1 : decode cX12_finding 1 = .ok (.iload_n 1, 1) := by decide +kernel
theorem dX12_finding_2 : decode cX12_finding 2 = .ok (.putfield 111, 3) := by decide +kernel
theorem dX12_finding_5 : decode cX12_finding 5 = .ok (.ldc 114, 2) := by decide +kernel
theorem dX12_finding_7 : decode cX12_finding 7 = .ok (.iload_n 1, 1) := by decide +kernel
theorem dX12_finding_8 : decode cX12_finding 8 = .ok (.isub, 1) := by decide +kernel
theorem dX12_finding_9 : decode cX12_finding 9 = .ok (.ireturn, 1) := by decide +kernel
def bX12_finding_0 (rc : Nat → ox_K) : ox_K := o_al 0 (o_il 1 (o_puti 12 1 (o_ic (-1000010) (o_il 1 (o_isub (o_iret))))))
section SX12_finding
variable {p : Program} {l : Launch} {e : Env} {R : Room} {s : State} {m : MethodId} {args : Array Value} {below : List Frame} {meth : Method} {c : Code} {g : ox_G} {c0 t0 dp  : Nat} {rc : Nat → ox_K}
set_option maxRecDepth 100000 in
theorem kX12_finding_0 (C : ox_C p s m args c g 2 cX12_finding RX12) (hr : meth.sig.returnType = (some .int)) (hlk : meth.locks = false) (hnm : meth.name = "finding") (hR : R.frames = dp ∧ R.locals = 60 * dp) (hrc : ∀ b, ox_S p l e R s m args below meth c g 2 c0 t0 (ox_QM g below args s c0 t0) b (rc b)) : ox_S p l e R s m args below meth c g 2 c0 t0 (ox_QM g below args s c0 t0) 0 (bX12_finding_0 rc) := by
  refine s_aload_n (pc := 0) C dX12_finding_0 rfl ?_
  refine s_iload_n (pc := 1) C dX12_finding_1 rfl ?_
  refine s_puti (pc := 2) (j := 1) (q := (RX12, TX12, 59)) C rfl (by decide) rfl (Or.inl rfl) wF_X12_111 dX12_finding_2 ?_
  refine s_ldc (pc := 5) C wK_X12_114 dX12_finding_5 ?_
  refine s_iload_n (pc := 7) C dX12_finding_7 rfl ?_
  refine s_isub (pc := 8) C dX12_finding_8 ?_
  exact s_iret (pc := 9) C hr hlk dX12_finding_9
end SX12_finding
def bsX12_finding (b : Nat) (rc : Nat → ox_K) : ox_K := if b = 0 then bX12_finding_0 rc else ox_no
theorem mX12_finding {dp  : Nat} {f : ox_F} (hf : ∀ as h r, f as h = some r → ox_cs as ≤ 2 ∧ ox_le h r.2 ∧ ∃ n, ox_run (bsX12_finding) n 0 (lv_args 0 as) [] h = some r) : ox_Sem yX12_finding cX12_finding 2 (some .int) dp f := by
  refine ox_meth (bs := bsX12_finding) (by decide) hf ?_
  intro p l e R s m args below meth c g c0 t0 C hr hlk hnm hR rc hrc b
  unfold bsX12_finding
  refine ox_br (kX12_finding_0 C hr hlk hnm hR hrc) ?_
  exact s_no
theorem dX12_isSheet_0 : decode cX12_isSheet 0 = .ok (.iload_n 0, 1) := by decide +kernel
theorem dX12_isSheet_1 : decode cX12_isSheet 1 = .ok (.i2l, 1) := by decide +kernel
theorem dX12_isSheet_2 : decode cX12_isSheet 2 = .ok (.lconst 0, 1) := by decide +kernel
theorem dX12_isSheet_3 : decode cX12_isSheet 3 = .ok (.ldc2_w 115, 3) := by decide +kernel
theorem dX12_isSheet_6 : decode cX12_isSheet 6 = .ok (.invokestatic 117, 3) := by decide +kernel
theorem dX12_isSheet_9 : decode cX12_isSheet 9 = .ok (.ireturn, 1) := by decide +kernel
def bX12_isSheet_0 (f1 : ox_F) (rc : Nat → ox_K) : ox_K := o_il 0 (o_i2l (o_lc (0) (o_lc (7) (o_ct f1 3 (o_zret)))))
section SX12_isSheet
variable {p : Program} {l : Launch} {e : Env} {R : Room} {s : State} {m : MethodId} {args : Array Value} {below : List Frame} {meth : Method} {c : Code} {g : ox_G} {c0 t0 dp d1 : Nat} {rc : Nat → ox_K} {f1 : ox_F}
set_option maxRecDepth 100000 in
theorem kX12_isSheet_0 (C : ox_C p s m args c g 1 cX12_isSheet RX12) (hr : meth.sig.returnType = (some .boolean)) (hlk : meth.locks = false) (hnm : meth.name = "isSheet") (hR : R.frames = dp ∧ R.locals = 60 * dp) (h1 : ox_Sem yX12_in cX12_in 6 (some .boolean) d1 f1) (e1 : d1 + 1 ≤ dp) (hrc : ∀ b, ox_S p l e R s m args below meth c g 1 c0 t0 (ox_QM g below args s c0 t0) b (rc b)) : ox_S p l e R s m args below meth c g 1 c0 t0 (ox_QM g below args s c0 t0) 0 (bX12_isSheet_0 f1 rc) := by
  refine s_iload_n (pc := 0) C dX12_isSheet_0 rfl ?_
  refine s_i2l (pc := 1) C dX12_isSheet_1 ?_
  refine s_lconst (pc := 2) C dX12_isSheet_2 (by decide) ?_
  refine s_ldc2 (pc := 3) C wL_X12_115 dX12_isSheet_3 ?_
  refine s_ct (pc := 6) C h1 wM_X12_117 wT_X12_in wN_X12 wC_X12_in (by decide +kernel) (ox_lv hR e1 (by decide)) dX12_isSheet_6 ?_
  exact s_zret (pc := 9) C hr (by decide) hlk dX12_isSheet_9
end SX12_isSheet
def bsX12_isSheet (f1 : ox_F) (b : Nat) (rc : Nat → ox_K) : ox_K := if b = 0 then bX12_isSheet_0 f1 rc else ox_no
theorem mX12_isSheet {dp d1 : Nat} {f1 f : ox_F} (h1 : ox_Sem yX12_in cX12_in 6 (some .boolean) d1 f1) (e1 : d1 + 1 ≤ dp) (hf : ∀ as h r, f as h = some r → ox_cs as ≤ 1 ∧ ox_le h r.2 ∧ ∃ n, ox_run (bsX12_isSheet f1) n 0 (lv_args 0 as) [] h = some r) : ox_Sem yX12_isSheet cX12_isSheet 1 (some .boolean) dp f := by
  refine ox_meth (bs := bsX12_isSheet f1) (by decide) hf ?_
  intro p l e R s m args below meth c g c0 t0 C hr hlk hnm hR rc hrc b
  unfold bsX12_isSheet
  refine ox_br (kX12_isSheet_0 C hr hlk hnm hR h1 e1 hrc) ?_
  exact s_no
theorem dX12_sheet_0 : decode cX12_sheet 0 = .ok (.aload_n 0, 1) := by decide +kernel
theorem dX12_sheet_1 : decode cX12_sheet 1 = .ok (.iconst 0, 1) := by decide +kernel
theorem dX12_sheet_2 : decode cX12_sheet 2 = .ok (.putfield 108, 3) := by decide +kernel
theorem dX12_sheet_5 : decode cX12_sheet 5 = .ok (.iload_n 1, 1) := by decide +kernel
theorem dX12_sheet_6 : decode cX12_sheet 6 = .ok (.invokestatic 121, 3) := by decide +kernel
theorem dX12_sheet_9 : decode cX12_sheet 9 = .ok (.ifCond .eq 21, 3) := by decide +kernel
theorem dX12_sheet_12 : decode cX12_sheet 12 = .ok (.iload_n 2, 1) := by decide +kernel
theorem dX12_sheet_13 : decode cX12_sheet 13 = .ok (.i2l, 1) := by decide +kernel
theorem dX12_sheet_14 : decode cX12_sheet 14 = .ok (.lconst 0, 1) := by decide +kernel
theorem dX12_sheet_15 : decode cX12_sheet 15 = .ok (.ldc2_w 125, 3) := by decide +kernel
theorem dX12_sheet_18 : decode cX12_sheet 18 = .ok (.invokestatic 117, 3) := by decide +kernel
theorem dX12_sheet_21 : decode cX12_sheet 21 = .ok (.ifCond .eq 9, 3) := by decide +kernel
theorem dX12_sheet_24 : decode cX12_sheet 24 = .ok (.iload_n 3, 1) := by decide +kernel
theorem dX12_sheet_25 : decode cX12_sheet 25 = .ok (.bipush 60, 2) := by decide +kernel
theorem dX12_sheet_27 : decode cX12_sheet 27 = .ok (.if_icmp .le 6, 3) := by decide +kernel
theorem dX12_sheet_30 : decode cX12_sheet 30 = .ok (.ldc 127, 2) := by decide +kernel
theorem dX12_sheet_32 : decode cX12_sheet 32 = .ok (.ireturn, 1) := by decide +kernel
theorem dX12_sheet_33 : decode cX12_sheet 33 = .ok (.aload_n 0, 1) := by decide +kernel
theorem dX12_sheet_34 : decode cX12_sheet 34 = .ok (.iconst 0, 1) := by decide +kernel
theorem dX12_sheet_35 : decode cX12_sheet 35 = .ok (.putfield 111, 3) := by decide +kernel
theorem dX12_sheet_38 : decode cX12_sheet 38 = .ok (.iload_n 3, 1) := by decide +kernel
theorem dX12_sheet_39 : decode cX12_sheet 39 = .ok (.ifCond .ge 9, 3) := by decide +kernel
theorem dX12_sheet_42 : decode cX12_sheet 42 = .ok (.aload_n 0, 1) := by decide +kernel
theorem dX12_sheet_43 : decode cX12_sheet 43 = .ok (.iconst 4, 1) := by decide +kernel
theorem dX12_sheet_44 : decode cX12_sheet 44 = .ok (.invokevirtual 128, 3) := by decide +kernel
theorem dX12_sheet_47 : decode cX12_sheet 47 = .ok (.ireturn, 1) := by decide +kernel
theorem dX12_sheet_48 : decode cX12_sheet 48 = .ok (.aload_n 0, 1) := by decide +kernel
theorem dX12_sheet_49 : decode cX12_sheet 49 = .ok (.getfield 7, 3) := by decide +kernel
theorem dX12_sheet_52 : decode cX12_sheet 52 = .ok (.iload_n 1, 1) := by decide +kernel
theorem dX12_sheet_53 : decode cX12_sheet 53 = .ok (.iload_n 2, 1) := by decide +kernel
theorem dX12_sheet_54 : decode cX12_sheet 54 = .ok (.iastore, 1) := by decide +kernel
theorem dX12_sheet_55 : decode cX12_sheet 55 = .ok (.aload_n 0, 1) := by decide +kernel
theorem dX12_sheet_56 : decode cX12_sheet 56 = .ok (.getfield 13, 3) := by decide +kernel
theorem dX12_sheet_59 : decode cX12_sheet 59 = .ok (.iload_n 1, 1) := by decide +kernel
theorem dX12_sheet_60 : decode cX12_sheet 60 = .ok (.iload_n 3, 1) := by decide +kernel
theorem dX12_sheet_61 : decode cX12_sheet 61 = .ok (.iastore, 1) := by decide +kernel
theorem dX12_sheet_62 : decode cX12_sheet 62 = .ok (.iconst 0, 1) := by decide +kernel
theorem dX12_sheet_63 : decode cX12_sheet 63 = .ok (.istore 4, 2) := by decide +kernel
theorem dX12_sheet_65 : decode cX12_sheet 65 = .ok (.iload 4, 2) := by decide +kernel
theorem dX12_sheet_67 : decode cX12_sheet 67 = .ok (.bipush 60, 2) := by decide +kernel
theorem dX12_sheet_69 : decode cX12_sheet 69 = .ok (.if_icmp .ge 22, 3) := by decide +kernel
theorem dX12_sheet_72 : decode cX12_sheet 72 = .ok (.aload_n 0, 1) := by decide +kernel
theorem dX12_sheet_73 : decode cX12_sheet 73 = .ok (.getfield 16, 3) := by decide +kernel
theorem dX12_sheet_76 : decode cX12_sheet 76 = .ok (.bipush 60, 2) := by decide +kernel
theorem dX12_sheet_78 : decode cX12_sheet 78 = .ok (.iload_n 1, 1) := by decide +kernel
theorem dX12_sheet_79 : decode cX12_sheet 79 = .ok (.imul, 1) := by decide +kernel
theorem dX12_sheet_80 : decode cX12_sheet 80 = .ok (.iload 4, 2) := by decide +kernel
theorem dX12_sheet_82 : decode cX12_sheet 82 = .ok (.iadd, 1) := by decide +kernel
theorem dX12_sheet_83 : decode cX12_sheet 83 = .ok (.iconst 0, 1) := by decide +kernel
theorem dX12_sheet_84 : decode cX12_sheet 84 = .ok (.iastore, 1) := by decide +kernel
theorem dX12_sheet_85 : decode cX12_sheet 85 = .ok (.iinc 4 1, 3) := by decide +kernel
theorem dX12_sheet_88 : decode cX12_sheet 88 = .ok (.goto (-23), 3) := by decide +kernel
theorem dX12_sheet_91 : decode cX12_sheet 91 = .ok (.iload_n 3, 1) := by decide +kernel
theorem dX12_sheet_92 : decode cX12_sheet 92 = .ok (.ireturn, 1) := by decide +kernel
def bX12_sheet_0 (f1 f2 f3 : ox_F) (rc : Nat → ox_K) : ox_K := o_al 0 (o_ic (0) (o_puti 12 0 (o_il 1 (o_ct f1 1 (o_ifeq (rc 30) (o_il 2 (o_i2l (o_lc (0) (o_lc (2) (o_ct f2 3 (o_ifeq (rc 30) (o_il 3 (o_ic (60) (o_icle (rc 33) (rc 30)))))))))))))))
def bX12_sheet_30 (f1 f2 f3 : ox_F) (rc : Nat → ox_K) : ox_K := o_ic (-1000001) (o_iret)
def bX12_sheet_33 (f1 f2 f3 : ox_F) (rc : Nat → ox_K) : ox_K := o_al 0 (o_ic (0) (o_puti 12 1 (o_il 3 (o_ifge (rc 48) (o_al 0 (o_ic (4) (o_cv f3 12 1 (o_iret))))))))
def bX12_sheet_48 (f1 f2 f3 : ox_F) (rc : Nat → ox_K) : ox_K := o_al 0 (o_getr 12 2 (o_il 1 (o_il 2 (o_iast (o_al 0 (o_getr 12 3 (o_il 1 (o_il 3 (o_iast (o_ic (0) (o_is 4 (rc 65))))))))))))
def bX12_sheet_65 (f1 f2 f3 : ox_F) (rc : Nat → ox_K) : ox_K := o_keep [0, 1, 3, 4] (o_il 4 (o_ic (60) (o_icge (rc 91) (o_al 0 (o_getr 12 4 (o_ic (60) (o_il 1 (o_imul (o_il 4 (o_iadd (o_ic (0) (o_iast (o_inc 4 (1) (rc 65))))))))))))))
def bX12_sheet_91 (f1 f2 f3 : ox_F) (rc : Nat → ox_K) : ox_K := o_il 3 (o_iret)
section SX12_sheet
variable {p : Program} {l : Launch} {e : Env} {R : Room} {s : State} {m : MethodId} {args : Array Value} {below : List Frame} {meth : Method} {c : Code} {g : ox_G} {c0 t0 dp d1 d2 d3 : Nat} {rc : Nat → ox_K} {f1 f2 f3 : ox_F}
set_option maxRecDepth 100000 in
theorem kX12_sheet_0 (C : ox_C p s m args c g 5 cX12_sheet RX12) (hr : meth.sig.returnType = (some .int)) (hlk : meth.locks = false) (hnm : meth.name = "sheet") (hR : R.frames = dp ∧ R.locals = 60 * dp) (h1 : ox_Sem yX12_isSheet cX12_isSheet 1 (some .boolean) d1 f1) (e1 : d1 + 1 ≤ dp) (h2 : ox_Sem yX12_in cX12_in 6 (some .boolean) d2 f2) (e2 : d2 + 1 ≤ dp) (h3 : ox_Sem yX12_finding cX12_finding 2 (some .int) d3 f3) (e3 : d3 + 1 ≤ dp) (hrc : ∀ b, ox_S p l e R s m args below meth c g 5 c0 t0 (ox_QM g below args s c0 t0) b (rc b)) : ox_S p l e R s m args below meth c g 5 c0 t0 (ox_QM g below args s c0 t0) 0 (bX12_sheet_0 f1 f2 f3 rc) := by
  refine s_aload_n (pc := 0) C dX12_sheet_0 rfl ?_
  refine s_iconst (pc := 1) C dX12_sheet_1 (by decide) ?_
  refine s_puti (pc := 2) (j := 0) (q := (RX12, TX12, 59)) C rfl (by decide) rfl (Or.inl rfl) wF_X12_108 dX12_sheet_2 ?_
  refine s_iload_n (pc := 5) C dX12_sheet_5 rfl ?_
  refine s_ct (pc := 6) C h1 wM_X12_121 wT_X12_isSheet wN_X12 wC_X12_isSheet (by decide +kernel) (ox_lv hR e1 (by decide)) dX12_sheet_6 ?_
  refine s_ifeq (pc := 9) 30 C dX12_sheet_9 (by decide) (hrc 30) ?_
  refine s_iload_n (pc := 12) C dX12_sheet_12 rfl ?_
  refine s_i2l (pc := 13) C dX12_sheet_13 ?_
  refine s_lconst (pc := 14) C dX12_sheet_14 (by decide) ?_
  refine s_ldc2 (pc := 15) C wL_X12_125 dX12_sheet_15 ?_
  refine s_ct (pc := 18) C h2 wM_X12_117 wT_X12_in wN_X12 wC_X12_in (by decide +kernel) (ox_lv hR e2 (by decide)) dX12_sheet_18 ?_
  refine s_ifeq (pc := 21) 30 C dX12_sheet_21 (by decide) (hrc 30) ?_
  refine s_iload_n (pc := 24) C dX12_sheet_24 rfl ?_
  refine s_bipush (pc := 25) C dX12_sheet_25 (by decide) ?_
  refine s_icmple (pc := 27) 33 C dX12_sheet_27 (by decide) (hrc 33) ?_
  exact hrc 30
set_option maxRecDepth 100000 in
theorem kX12_sheet_30 (C : ox_C p s m args c g 5 cX12_sheet RX12) (hr : meth.sig.returnType = (some .int)) (hlk : meth.locks = false) (hnm : meth.name = "sheet") (hR : R.frames = dp ∧ R.locals = 60 * dp) (h1 : ox_Sem yX12_isSheet cX12_isSheet 1 (some .boolean) d1 f1) (e1 : d1 + 1 ≤ dp) (h2 : ox_Sem yX12_in cX12_in 6 (some .boolean) d2 f2) (e2 : d2 + 1 ≤ dp) (h3 : ox_Sem yX12_finding cX12_finding 2 (some .int) d3 f3) (e3 : d3 + 1 ≤ dp) (hrc : ∀ b, ox_S p l e R s m args below meth c g 5 c0 t0 (ox_QM g below args s c0 t0) b (rc b)) : ox_S p l e R s m args below meth c g 5 c0 t0 (ox_QM g below args s c0 t0) 30 (bX12_sheet_30 f1 f2 f3 rc) := by
  refine s_ldc (pc := 30) C wK_X12_127 dX12_sheet_30 ?_
  exact s_iret (pc := 32) C hr hlk dX12_sheet_32
set_option maxRecDepth 100000 in
theorem kX12_sheet_33 (C : ox_C p s m args c g 5 cX12_sheet RX12) (hr : meth.sig.returnType = (some .int)) (hlk : meth.locks = false) (hnm : meth.name = "sheet") (hR : R.frames = dp ∧ R.locals = 60 * dp) (h1 : ox_Sem yX12_isSheet cX12_isSheet 1 (some .boolean) d1 f1) (e1 : d1 + 1 ≤ dp) (h2 : ox_Sem yX12_in cX12_in 6 (some .boolean) d2 f2) (e2 : d2 + 1 ≤ dp) (h3 : ox_Sem yX12_finding cX12_finding 2 (some .int) d3 f3) (e3 : d3 + 1 ≤ dp) (hrc : ∀ b, ox_S p l e R s m args below meth c g 5 c0 t0 (ox_QM g below args s c0 t0) b (rc b)) : ox_S p l e R s m args below meth c g 5 c0 t0 (ox_QM g below args s c0 t0) 33 (bX12_sheet_33 f1 f2 f3 rc) := by
  refine s_aload_n (pc := 33) C dX12_sheet_33 rfl ?_
  refine s_iconst (pc := 34) C dX12_sheet_34 (by decide) ?_
  refine s_puti (pc := 35) (j := 1) (q := (RX12, TX12, 59)) C rfl (by decide) rfl (Or.inl rfl) wF_X12_111 dX12_sheet_35 ?_
  refine s_iload_n (pc := 38) C dX12_sheet_38 rfl ?_
  refine s_ifge (pc := 39) 48 C dX12_sheet_39 (by decide) (hrc 48) ?_
  refine s_aload_n (pc := 42) C dX12_sheet_42 rfl ?_
  refine s_iconst (pc := 43) C dX12_sheet_43 (by decide) ?_
  refine s_cv (pc := 44) (q := (RX12, TX12, 59)) C h3 rfl wM_X12_128 wI_X12_finding wS_X12_finding wN_X12 wC_X12_finding (by decide +kernel) (ox_lv hR e3 (by decide)) dX12_sheet_44 ?_
  exact s_iret (pc := 47) C hr hlk dX12_sheet_47
set_option maxRecDepth 100000 in
theorem kX12_sheet_48 (C : ox_C p s m args c g 5 cX12_sheet RX12) (hr : meth.sig.returnType = (some .int)) (hlk : meth.locks = false) (hnm : meth.name = "sheet") (hR : R.frames = dp ∧ R.locals = 60 * dp) (h1 : ox_Sem yX12_isSheet cX12_isSheet 1 (some .boolean) d1 f1) (e1 : d1 + 1 ≤ dp) (h2 : ox_Sem yX12_in cX12_in 6 (some .boolean) d2 f2) (e2 : d2 + 1 ≤ dp) (h3 : ox_Sem yX12_finding cX12_finding 2 (some .int) d3 f3) (e3 : d3 + 1 ≤ dp) (hrc : ∀ b, ox_S p l e R s m args below meth c g 5 c0 t0 (ox_QM g below args s c0 t0) b (rc b)) : ox_S p l e R s m args below meth c g 5 c0 t0 (ox_QM g below args s c0 t0) 48 (bX12_sheet_48 f1 f2 f3 rc) := by
  refine s_aload_n (pc := 48) C dX12_sheet_48 rfl ?_
  refine s_getr (pc := 49) (j := 2) (q := (RX12, TX12, 59)) C rfl (by decide) rfl wF_X12_7 dX12_sheet_49 ?_
  refine s_iload_n (pc := 52) C dX12_sheet_52 rfl ?_
  refine s_iload_n (pc := 53) C dX12_sheet_53 rfl ?_
  refine s_iast (pc := 54) C dX12_sheet_54 ?_
  refine s_aload_n (pc := 55) C dX12_sheet_55 rfl ?_
  refine s_getr (pc := 56) (j := 3) (q := (RX12, TX12, 59)) C rfl (by decide) rfl wF_X12_13 dX12_sheet_56 ?_
  refine s_iload_n (pc := 59) C dX12_sheet_59 rfl ?_
  refine s_iload_n (pc := 60) C dX12_sheet_60 rfl ?_
  refine s_iast (pc := 61) C dX12_sheet_61 ?_
  refine s_iconst (pc := 62) C dX12_sheet_62 (by decide) ?_
  refine s_istore (pc := 63) C dX12_sheet_63 (by decide) ?_
  exact hrc 65
set_option maxRecDepth 100000 in
theorem kX12_sheet_65 (C : ox_C p s m args c g 5 cX12_sheet RX12) (hr : meth.sig.returnType = (some .int)) (hlk : meth.locks = false) (hnm : meth.name = "sheet") (hR : R.frames = dp ∧ R.locals = 60 * dp) (h1 : ox_Sem yX12_isSheet cX12_isSheet 1 (some .boolean) d1 f1) (e1 : d1 + 1 ≤ dp) (h2 : ox_Sem yX12_in cX12_in 6 (some .boolean) d2 f2) (e2 : d2 + 1 ≤ dp) (h3 : ox_Sem yX12_finding cX12_finding 2 (some .int) d3 f3) (e3 : d3 + 1 ≤ dp) (hrc : ∀ b, ox_S p l e R s m args below meth c g 5 c0 t0 (ox_QM g below args s c0 t0) b (rc b)) : ox_S p l e R s m args below meth c g 5 c0 t0 (ox_QM g below args s c0 t0) 65 (bX12_sheet_65 f1 f2 f3 rc) := by
  refine s_keep ?_
  refine s_iload (pc := 65) C dX12_sheet_65 ?_
  refine s_bipush (pc := 67) C dX12_sheet_67 (by decide) ?_
  refine s_icmpge (pc := 69) 91 C dX12_sheet_69 (by decide) (hrc 91) ?_
  refine s_aload_n (pc := 72) C dX12_sheet_72 rfl ?_
  refine s_getr (pc := 73) (j := 4) (q := (RX12, TX12, 59)) C rfl (by decide) rfl wF_X12_16 dX12_sheet_73 ?_
  refine s_bipush (pc := 76) C dX12_sheet_76 (by decide) ?_
  refine s_iload_n (pc := 78) C dX12_sheet_78 rfl ?_
  refine s_imul (pc := 79) C dX12_sheet_79 ?_
  refine s_iload (pc := 80) C dX12_sheet_80 ?_
  refine s_iadd (pc := 82) C dX12_sheet_82 ?_
  refine s_iconst (pc := 83) C dX12_sheet_83 (by decide) ?_
  refine s_iast (pc := 84) C dX12_sheet_84 ?_
  refine s_iinc (pc := 85) C dX12_sheet_85 (by decide) (by decide) ?_
  exact s_goto (pc := 88) 65 C dX12_sheet_88 (by decide) (hrc 65)
set_option maxRecDepth 100000 in
theorem kX12_sheet_91 (C : ox_C p s m args c g 5 cX12_sheet RX12) (hr : meth.sig.returnType = (some .int)) (hlk : meth.locks = false) (hnm : meth.name = "sheet") (hR : R.frames = dp ∧ R.locals = 60 * dp) (h1 : ox_Sem yX12_isSheet cX12_isSheet 1 (some .boolean) d1 f1) (e1 : d1 + 1 ≤ dp) (h2 : ox_Sem yX12_in cX12_in 6 (some .boolean) d2 f2) (e2 : d2 + 1 ≤ dp) (h3 : ox_Sem yX12_finding cX12_finding 2 (some .int) d3 f3) (e3 : d3 + 1 ≤ dp) (hrc : ∀ b, ox_S p l e R s m args below meth c g 5 c0 t0 (ox_QM g below args s c0 t0) b (rc b)) : ox_S p l e R s m args below meth c g 5 c0 t0 (ox_QM g below args s c0 t0) 91 (bX12_sheet_91 f1 f2 f3 rc) := by
  refine s_iload_n (pc := 91) C dX12_sheet_91 rfl ?_
  exact s_iret (pc := 92) C hr hlk dX12_sheet_92
end SX12_sheet
def bsX12_sheet (f1 f2 f3 : ox_F) (b : Nat) (rc : Nat → ox_K) : ox_K := if b = 0 then bX12_sheet_0 f1 f2 f3 rc else if b = 30 then bX12_sheet_30 f1 f2 f3 rc else if b = 33 then bX12_sheet_33 f1 f2 f3 rc else if b = 48 then bX12_sheet_48 f1 f2 f3 rc else if b = 65 then bX12_sheet_65 f1 f2 f3 rc else if b = 91 then bX12_sheet_91 f1 f2 f3 rc else ox_no
theorem mX12_sheet {dp d1 d2 d3 : Nat} {f1 f2 f3 f : ox_F} (h1 : ox_Sem yX12_isSheet cX12_isSheet 1 (some .boolean) d1 f1) (e1 : d1 + 1 ≤ dp) (h2 : ox_Sem yX12_in cX12_in 6 (some .boolean) d2 f2) (e2 : d2 + 1 ≤ dp) (h3 : ox_Sem yX12_finding cX12_finding 2 (some .int) d3 f3) (e3 : d3 + 1 ≤ dp) (hf : ∀ as h r, f as h = some r → ox_cs as ≤ 5 ∧ ox_le h r.2 ∧ ∃ n, ox_run (bsX12_sheet f1 f2 f3) n 0 (lv_args 0 as) [] h = some r) : ox_Sem yX12_sheet cX12_sheet 5 (some .int) dp f := by
  refine ox_meth (bs := bsX12_sheet f1 f2 f3) (by decide) hf ?_
  intro p l e R s m args below meth c g c0 t0 C hr hlk hnm hR rc hrc b
  unfold bsX12_sheet
  refine ox_br (kX12_sheet_0 C hr hlk hnm hR h1 e1 h2 e2 h3 e3 hrc) ?_
  refine ox_br (kX12_sheet_30 C hr hlk hnm hR h1 e1 h2 e2 h3 e3 hrc) ?_
  refine ox_br (kX12_sheet_33 C hr hlk hnm hR h1 e1 h2 e2 h3 e3 hrc) ?_
  refine ox_br (kX12_sheet_48 C hr hlk hnm hR h1 e1 h2 e2 h3 e3 hrc) ?_
  refine ox_br (kX12_sheet_65 C hr hlk hnm hR h1 e1 h2 e2 h3 e3 hrc) ?_
  refine ox_br (kX12_sheet_91 C hr hlk hnm hR h1 e1 h2 e2 h3 e3 hrc) ?_
  exact s_no
theorem dX12_set_0 : decode cX12_set 0 = .ok (.aload_n 0, 1) := by decide +kernel
theorem dX12_set_1 : decode cX12_set 1 = .ok (.iconst 0, 1) := by decide +kernel
theorem dX12_set_2 : decode cX12_set 2 = .ok (.putfield 108, 3) := by decide +kernel
theorem dX12_set_5 : decode cX12_set 5 = .ok (.iload_n 1, 1) := by decide +kernel
theorem dX12_set_6 : decode cX12_set 6 = .ok (.invokestatic 121, 3) := by decide +kernel
theorem dX12_set_9 : decode cX12_set 9 = .ok (.ifCond .ne 6, 3) := by decide +kernel
theorem dX12_set_12 : decode cX12_set 12 = .ok (.ldc 127, 2) := by decide +kernel
theorem dX12_set_14 : decode cX12_set 14 = .ok (.ireturn, 1) := by decide +kernel
theorem dX12_set_15 : decode cX12_set 15 = .ok (.aload_n 0, 1) := by decide +kernel
theorem dX12_set_16 : decode cX12_set 16 = .ok (.iconst 0, 1) := by decide +kernel
theorem dX12_set_17 : decode cX12_set 17 = .ok (.putfield 111, 3) := by decide +kernel
theorem dX12_set_20 : decode cX12_set 20 = .ok (.aload_n 0, 1) := by decide +kernel
theorem dX12_set_21 : decode cX12_set 21 = .ok (.getfield 7, 3) := by decide +kernel
theorem dX12_set_24 : decode cX12_set 24 = .ok (.iload_n 1, 1) := by decide +kernel
theorem dX12_set_25 : decode cX12_set 25 = .ok (.iaload, 1) := by decide +kernel
theorem dX12_set_26 : decode cX12_set 26 = .ok (.ifCond .ge 9, 3) := by decide +kernel
theorem dX12_set_29 : decode cX12_set 29 = .ok (.aload_n 0, 1) := by decide +kernel
theorem dX12_set_30 : decode cX12_set 30 = .ok (.iconst 1, 1) := by decide +kernel
theorem dX12_set_31 : decode cX12_set 31 = .ok (.invokevirtual 128, 3) := by decide +kernel
theorem dX12_set_34 : decode cX12_set 34 = .ok (.ireturn, 1) := by decide +kernel
theorem dX12_set_35 : decode cX12_set 35 = .ok (.iload_n 2, 1) := by decide +kernel
theorem dX12_set_36 : decode cX12_set 36 = .ok (.i2l, 1) := by decide +kernel
theorem dX12_set_37 : decode cX12_set 37 = .ok (.lconst 0, 1) := by decide +kernel
theorem dX12_set_38 : decode cX12_set 38 = .ok (.aload_n 0, 1) := by decide +kernel
theorem dX12_set_39 : decode cX12_set 39 = .ok (.getfield 13, 3) := by decide +kernel
theorem dX12_set_42 : decode cX12_set 42 = .ok (.iload_n 1, 1) := by decide +kernel
theorem dX12_set_43 : decode cX12_set 43 = .ok (.iaload, 1) := by decide +kernel
theorem dX12_set_44 : decode cX12_set 44 = .ok (.iconst 1, 1) := by decide +kernel
theorem dX12_set_45 : decode cX12_set 45 = .ok (.isub, 1) := by decide +kernel
theorem dX12_set_46 : decode cX12_set 46 = .ok (.i2l, 1) := by decide +kernel
theorem dX12_set_47 : decode cX12_set 47 = .ok (.invokestatic 117, 3) := by decide +kernel
theorem dX12_set_50 : decode cX12_set 50 = .ok (.ifCond .ne 9, 3) := by decide +kernel
theorem dX12_set_53 : decode cX12_set 53 = .ok (.aload_n 0, 1) := by decide +kernel
theorem dX12_set_54 : decode cX12_set 54 = .ok (.iconst 2, 1) := by decide +kernel
theorem dX12_set_55 : decode cX12_set 55 = .ok (.invokevirtual 128, 3) := by decide +kernel
theorem dX12_set_58 : decode cX12_set 58 = .ok (.ireturn, 1) := by decide +kernel
theorem dX12_set_59 : decode cX12_set 59 = .ok (.aload_n 0, 1) := by decide +kernel
theorem dX12_set_60 : decode cX12_set 60 = .ok (.getfield 16, 3) := by decide +kernel
theorem dX12_set_63 : decode cX12_set 63 = .ok (.bipush 60, 2) := by decide +kernel
theorem dX12_set_65 : decode cX12_set 65 = .ok (.iload_n 1, 1) := by decide +kernel
theorem dX12_set_66 : decode cX12_set 66 = .ok (.imul, 1) := by decide +kernel
theorem dX12_set_67 : decode cX12_set 67 = .ok (.iload_n 2, 1) := by decide +kernel
theorem dX12_set_68 : decode cX12_set 68 = .ok (.iadd, 1) := by decide +kernel
theorem dX12_set_69 : decode cX12_set 69 = .ok (.aload_n 0, 1) := by decide +kernel
theorem dX12_set_70 : decode cX12_set 70 = .ok (.getfield 7, 3) := by decide +kernel
theorem dX12_set_73 : decode cX12_set 73 = .ok (.iload_n 1, 1) := by decide +kernel
theorem dX12_set_74 : decode cX12_set 74 = .ok (.iaload, 1) := by decide +kernel
theorem dX12_set_75 : decode cX12_set 75 = .ok (.ifCond .ne 8, 3) := by decide +kernel
theorem dX12_set_78 : decode cX12_set 78 = .ok (.iload_n 3, 1) := by decide +kernel
theorem dX12_set_79 : decode cX12_set 79 = .ok (.i2b, 1) := by decide +kernel
theorem dX12_set_80 : decode cX12_set 80 = .ok (.goto 19, 3) := by decide +kernel
theorem dX12_set_83 : decode cX12_set 83 = .ok (.aload_n 0, 1) := by decide +kernel
theorem dX12_set_84 : decode cX12_set 84 = .ok (.getfield 7, 3) := by decide +kernel
theorem dX12_set_87 : decode cX12_set 87 = .ok (.iload_n 1, 1) := by decide +kernel
theorem dX12_set_88 : decode cX12_set 88 = .ok (.iaload, 1) := by decide +kernel
theorem dX12_set_89 : decode cX12_set 89 = .ok (.iconst 1, 1) := by decide +kernel
theorem dX12_set_90 : decode cX12_set 90 = .ok (.if_icmp .ne 8, 3) := by decide +kernel
theorem dX12_set_93 : decode cX12_set 93 = .ok (.iload_n 3, 1) := by decide +kernel
theorem dX12_set_94 : decode cX12_set 94 = .ok (.i2s, 1) := by decide +kernel
theorem dX12_set_95 : decode cX12_set 95 = .ok (.goto 4, 3) := by decide +kernel
theorem dX12_set_98 : decode cX12_set 98 = .ok (.iload_n 3, 1) := by decide +kernel
theorem dX12_set_99 : decode cX12_set 99 = .ok (.iastore, 1) := by decide +kernel
theorem dX12_set_100 : decode cX12_set 100 = .ok (.aload_n 0, 1) := by decide +kernel
theorem dX12_set_101 : decode cX12_set 101 = .ok (.getfield 16, 3) := by decide +kernel
theorem dX12_set_104 : decode cX12_set 104 = .ok (.bipush 60, 2) := by decide +kernel
theorem dX12_set_106 : decode cX12_set 106 = .ok (.iload_n 1, 1) := by decide +kernel
theorem dX12_set_107 : decode cX12_set 107 = .ok (.imul, 1) := by decide +kernel
theorem dX12_set_108 : decode cX12_set 108 = .ok (.iload_n 2, 1) := by decide +kernel
theorem dX12_set_109 : decode cX12_set 109 = .ok (.iadd, 1) := by decide +kernel
theorem dX12_set_110 : decode cX12_set 110 = .ok (.iaload, 1) := by decide +kernel
theorem dX12_set_111 : decode cX12_set 111 = .ok (.ireturn, 1) := by decide +kernel
def bX12_set_0 (f1 f2 f3 : ox_F) (rc : Nat → ox_K) : ox_K := o_al 0 (o_ic (0) (o_puti 12 0 (o_il 1 (o_ct f1 1 (o_ifne (rc 15) (o_ic (-1000001) (o_iret)))))))
def bX12_set_15 (f1 f2 f3 : ox_F) (rc : Nat → ox_K) : ox_K := o_al 0 (o_ic (0) (o_puti 12 1 (o_al 0 (o_getr 12 2 (o_il 1 (o_ia (o_ifge (rc 35) (o_al 0 (o_ic (1) (o_cv f2 12 1 (o_iret)))))))))))
def bX12_set_35 (f1 f2 f3 : ox_F) (rc : Nat → ox_K) : ox_K := o_il 2 (o_i2l (o_lc (0) (o_al 0 (o_getr 12 3 (o_il 1 (o_ia (o_ic (1) (o_isub (o_i2l (o_ct f3 3 (o_ifne (rc 59) (o_al 0 (o_ic (2) (o_cv f2 12 1 (o_iret)))))))))))))))
def bX12_set_59 (f1 f2 f3 : ox_F) (rc : Nat → ox_K) : ox_K := o_al 0 (o_getr 12 4 (o_ic (60) (o_il 1 (o_imul (o_il 2 (o_iadd (o_al 0 (o_getr 12 2 (o_il 1 (o_ia (o_ifne (rc 83) (o_il 3 (o_i2b (rc 99))))))))))))))
def bX12_set_83 (f1 f2 f3 : ox_F) (rc : Nat → ox_K) : ox_K := o_al 0 (o_getr 12 2 (o_il 1 (o_ia (o_ic (1) (o_icne (rc 98) (o_il 3 (o_i2s (rc 99))))))))
def bX12_set_98 (f1 f2 f3 : ox_F) (rc : Nat → ox_K) : ox_K := o_il 3 (rc 99)
def bX12_set_99 (f1 f2 f3 : ox_F) (rc : Nat → ox_K) : ox_K := o_iast (o_al 0 (o_getr 12 4 (o_ic (60) (o_il 1 (o_imul (o_il 2 (o_iadd (o_ia (o_iret)))))))))
section SX12_set
variable {p : Program} {l : Launch} {e : Env} {R : Room} {s : State} {m : MethodId} {args : Array Value} {below : List Frame} {meth : Method} {c : Code} {g : ox_G} {c0 t0 dp d1 d2 d3 : Nat} {rc : Nat → ox_K} {f1 f2 f3 : ox_F}
set_option maxRecDepth 100000 in
theorem kX12_set_0 (C : ox_C p s m args c g 4 cX12_set RX12) (hr : meth.sig.returnType = (some .int)) (hlk : meth.locks = false) (hnm : meth.name = "set") (hR : R.frames = dp ∧ R.locals = 60 * dp) (h1 : ox_Sem yX12_isSheet cX12_isSheet 1 (some .boolean) d1 f1) (e1 : d1 + 1 ≤ dp) (h2 : ox_Sem yX12_finding cX12_finding 2 (some .int) d2 f2) (e2 : d2 + 1 ≤ dp) (h3 : ox_Sem yX12_in cX12_in 6 (some .boolean) d3 f3) (e3 : d3 + 1 ≤ dp) (hrc : ∀ b, ox_S p l e R s m args below meth c g 4 c0 t0 (ox_QM g below args s c0 t0) b (rc b)) : ox_S p l e R s m args below meth c g 4 c0 t0 (ox_QM g below args s c0 t0) 0 (bX12_set_0 f1 f2 f3 rc) := by
  refine s_aload_n (pc := 0) C dX12_set_0 rfl ?_
  refine s_iconst (pc := 1) C dX12_set_1 (by decide) ?_
  refine s_puti (pc := 2) (j := 0) (q := (RX12, TX12, 59)) C rfl (by decide) rfl (Or.inl rfl) wF_X12_108 dX12_set_2 ?_
  refine s_iload_n (pc := 5) C dX12_set_5 rfl ?_
  refine s_ct (pc := 6) C h1 wM_X12_121 wT_X12_isSheet wN_X12 wC_X12_isSheet (by decide +kernel) (ox_lv hR e1 (by decide)) dX12_set_6 ?_
  refine s_ifne (pc := 9) 15 C dX12_set_9 (by decide) (hrc 15) ?_
  refine s_ldc (pc := 12) C wK_X12_127 dX12_set_12 ?_
  exact s_iret (pc := 14) C hr hlk dX12_set_14
set_option maxRecDepth 100000 in
theorem kX12_set_15 (C : ox_C p s m args c g 4 cX12_set RX12) (hr : meth.sig.returnType = (some .int)) (hlk : meth.locks = false) (hnm : meth.name = "set") (hR : R.frames = dp ∧ R.locals = 60 * dp) (h1 : ox_Sem yX12_isSheet cX12_isSheet 1 (some .boolean) d1 f1) (e1 : d1 + 1 ≤ dp) (h2 : ox_Sem yX12_finding cX12_finding 2 (some .int) d2 f2) (e2 : d2 + 1 ≤ dp) (h3 : ox_Sem yX12_in cX12_in 6 (some .boolean) d3 f3) (e3 : d3 + 1 ≤ dp) (hrc : ∀ b, ox_S p l e R s m args below meth c g 4 c0 t0 (ox_QM g below args s c0 t0) b (rc b)) : ox_S p l e R s m args below meth c g 4 c0 t0 (ox_QM g below args s c0 t0) 15 (bX12_set_15 f1 f2 f3 rc) := by
  refine s_aload_n (pc := 15) C dX12_set_15 rfl ?_
  refine s_iconst (pc := 16) C dX12_set_16 (by decide) ?_
  refine s_puti (pc := 17) (j := 1) (q := (RX12, TX12, 59)) C rfl (by decide) rfl (Or.inl rfl) wF_X12_111 dX12_set_17 ?_
  refine s_aload_n (pc := 20) C dX12_set_20 rfl ?_
  refine s_getr (pc := 21) (j := 2) (q := (RX12, TX12, 59)) C rfl (by decide) rfl wF_X12_7 dX12_set_21 ?_
  refine s_iload_n (pc := 24) C dX12_set_24 rfl ?_
  refine s_ia (pc := 25) C dX12_set_25 ?_
  refine s_ifge (pc := 26) 35 C dX12_set_26 (by decide) (hrc 35) ?_
  refine s_aload_n (pc := 29) C dX12_set_29 rfl ?_
  refine s_iconst (pc := 30) C dX12_set_30 (by decide) ?_
  refine s_cv (pc := 31) (q := (RX12, TX12, 59)) C h2 rfl wM_X12_128 wI_X12_finding wS_X12_finding wN_X12 wC_X12_finding (by decide +kernel) (ox_lv hR e2 (by decide)) dX12_set_31 ?_
  exact s_iret (pc := 34) C hr hlk dX12_set_34
set_option maxRecDepth 100000 in
theorem kX12_set_35 (C : ox_C p s m args c g 4 cX12_set RX12) (hr : meth.sig.returnType = (some .int)) (hlk : meth.locks = false) (hnm : meth.name = "set") (hR : R.frames = dp ∧ R.locals = 60 * dp) (h1 : ox_Sem yX12_isSheet cX12_isSheet 1 (some .boolean) d1 f1) (e1 : d1 + 1 ≤ dp) (h2 : ox_Sem yX12_finding cX12_finding 2 (some .int) d2 f2) (e2 : d2 + 1 ≤ dp) (h3 : ox_Sem yX12_in cX12_in 6 (some .boolean) d3 f3) (e3 : d3 + 1 ≤ dp) (hrc : ∀ b, ox_S p l e R s m args below meth c g 4 c0 t0 (ox_QM g below args s c0 t0) b (rc b)) : ox_S p l e R s m args below meth c g 4 c0 t0 (ox_QM g below args s c0 t0) 35 (bX12_set_35 f1 f2 f3 rc) := by
  refine s_iload_n (pc := 35) C dX12_set_35 rfl ?_
  refine s_i2l (pc := 36) C dX12_set_36 ?_
  refine s_lconst (pc := 37) C dX12_set_37 (by decide) ?_
  refine s_aload_n (pc := 38) C dX12_set_38 rfl ?_
  refine s_getr (pc := 39) (j := 3) (q := (RX12, TX12, 59)) C rfl (by decide) rfl wF_X12_13 dX12_set_39 ?_
  refine s_iload_n (pc := 42) C dX12_set_42 rfl ?_
  refine s_ia (pc := 43) C dX12_set_43 ?_
  refine s_iconst (pc := 44) C dX12_set_44 (by decide) ?_
  refine s_isub (pc := 45) C dX12_set_45 ?_
  refine s_i2l (pc := 46) C dX12_set_46 ?_
  refine s_ct (pc := 47) C h3 wM_X12_117 wT_X12_in wN_X12 wC_X12_in (by decide +kernel) (ox_lv hR e3 (by decide)) dX12_set_47 ?_
  refine s_ifne (pc := 50) 59 C dX12_set_50 (by decide) (hrc 59) ?_
  refine s_aload_n (pc := 53) C dX12_set_53 rfl ?_
  refine s_iconst (pc := 54) C dX12_set_54 (by decide) ?_
  refine s_cv (pc := 55) (q := (RX12, TX12, 59)) C h2 rfl wM_X12_128 wI_X12_finding wS_X12_finding wN_X12 wC_X12_finding (by decide +kernel) (ox_lv hR e2 (by decide)) dX12_set_55 ?_
  exact s_iret (pc := 58) C hr hlk dX12_set_58
set_option maxRecDepth 100000 in
theorem kX12_set_59 (C : ox_C p s m args c g 4 cX12_set RX12) (hr : meth.sig.returnType = (some .int)) (hlk : meth.locks = false) (hnm : meth.name = "set") (hR : R.frames = dp ∧ R.locals = 60 * dp) (h1 : ox_Sem yX12_isSheet cX12_isSheet 1 (some .boolean) d1 f1) (e1 : d1 + 1 ≤ dp) (h2 : ox_Sem yX12_finding cX12_finding 2 (some .int) d2 f2) (e2 : d2 + 1 ≤ dp) (h3 : ox_Sem yX12_in cX12_in 6 (some .boolean) d3 f3) (e3 : d3 + 1 ≤ dp) (hrc : ∀ b, ox_S p l e R s m args below meth c g 4 c0 t0 (ox_QM g below args s c0 t0) b (rc b)) : ox_S p l e R s m args below meth c g 4 c0 t0 (ox_QM g below args s c0 t0) 59 (bX12_set_59 f1 f2 f3 rc) := by
  refine s_aload_n (pc := 59) C dX12_set_59 rfl ?_
  refine s_getr (pc := 60) (j := 4) (q := (RX12, TX12, 59)) C rfl (by decide) rfl wF_X12_16 dX12_set_60 ?_
  refine s_bipush (pc := 63) C dX12_set_63 (by decide) ?_
  refine s_iload_n (pc := 65) C dX12_set_65 rfl ?_
  refine s_imul (pc := 66) C dX12_set_66 ?_
  refine s_iload_n (pc := 67) C dX12_set_67 rfl ?_
  refine s_iadd (pc := 68) C dX12_set_68 ?_
  refine s_aload_n (pc := 69) C dX12_set_69 rfl ?_
  refine s_getr (pc := 70) (j := 2) (q := (RX12, TX12, 59)) C rfl (by decide) rfl wF_X12_7 dX12_set_70 ?_
  refine s_iload_n (pc := 73) C dX12_set_73 rfl ?_
  refine s_ia (pc := 74) C dX12_set_74 ?_
  refine s_ifne (pc := 75) 83 C dX12_set_75 (by decide) (hrc 83) ?_
  refine s_iload_n (pc := 78) C dX12_set_78 rfl ?_
  refine s_i2b (pc := 79) C dX12_set_79 ?_
  exact s_goto (pc := 80) 99 C dX12_set_80 (by decide) (hrc 99)
set_option maxRecDepth 100000 in
theorem kX12_set_83 (C : ox_C p s m args c g 4 cX12_set RX12) (hr : meth.sig.returnType = (some .int)) (hlk : meth.locks = false) (hnm : meth.name = "set") (hR : R.frames = dp ∧ R.locals = 60 * dp) (h1 : ox_Sem yX12_isSheet cX12_isSheet 1 (some .boolean) d1 f1) (e1 : d1 + 1 ≤ dp) (h2 : ox_Sem yX12_finding cX12_finding 2 (some .int) d2 f2) (e2 : d2 + 1 ≤ dp) (h3 : ox_Sem yX12_in cX12_in 6 (some .boolean) d3 f3) (e3 : d3 + 1 ≤ dp) (hrc : ∀ b, ox_S p l e R s m args below meth c g 4 c0 t0 (ox_QM g below args s c0 t0) b (rc b)) : ox_S p l e R s m args below meth c g 4 c0 t0 (ox_QM g below args s c0 t0) 83 (bX12_set_83 f1 f2 f3 rc) := by
  refine s_aload_n (pc := 83) C dX12_set_83 rfl ?_
  refine s_getr (pc := 84) (j := 2) (q := (RX12, TX12, 59)) C rfl (by decide) rfl wF_X12_7 dX12_set_84 ?_
  refine s_iload_n (pc := 87) C dX12_set_87 rfl ?_
  refine s_ia (pc := 88) C dX12_set_88 ?_
  refine s_iconst (pc := 89) C dX12_set_89 (by decide) ?_
  refine s_icmpne (pc := 90) 98 C dX12_set_90 (by decide) (hrc 98) ?_
  refine s_iload_n (pc := 93) C dX12_set_93 rfl ?_
  refine s_i2s (pc := 94) C dX12_set_94 ?_
  exact s_goto (pc := 95) 99 C dX12_set_95 (by decide) (hrc 99)
set_option maxRecDepth 100000 in
theorem kX12_set_98 (C : ox_C p s m args c g 4 cX12_set RX12) (hr : meth.sig.returnType = (some .int)) (hlk : meth.locks = false) (hnm : meth.name = "set") (hR : R.frames = dp ∧ R.locals = 60 * dp) (h1 : ox_Sem yX12_isSheet cX12_isSheet 1 (some .boolean) d1 f1) (e1 : d1 + 1 ≤ dp) (h2 : ox_Sem yX12_finding cX12_finding 2 (some .int) d2 f2) (e2 : d2 + 1 ≤ dp) (h3 : ox_Sem yX12_in cX12_in 6 (some .boolean) d3 f3) (e3 : d3 + 1 ≤ dp) (hrc : ∀ b, ox_S p l e R s m args below meth c g 4 c0 t0 (ox_QM g below args s c0 t0) b (rc b)) : ox_S p l e R s m args below meth c g 4 c0 t0 (ox_QM g below args s c0 t0) 98 (bX12_set_98 f1 f2 f3 rc) := by
  refine s_iload_n (pc := 98) C dX12_set_98 rfl ?_
  exact hrc 99
set_option maxRecDepth 100000 in
theorem kX12_set_99 (C : ox_C p s m args c g 4 cX12_set RX12) (hr : meth.sig.returnType = (some .int)) (hlk : meth.locks = false) (hnm : meth.name = "set") (hR : R.frames = dp ∧ R.locals = 60 * dp) (h1 : ox_Sem yX12_isSheet cX12_isSheet 1 (some .boolean) d1 f1) (e1 : d1 + 1 ≤ dp) (h2 : ox_Sem yX12_finding cX12_finding 2 (some .int) d2 f2) (e2 : d2 + 1 ≤ dp) (h3 : ox_Sem yX12_in cX12_in 6 (some .boolean) d3 f3) (e3 : d3 + 1 ≤ dp) (hrc : ∀ b, ox_S p l e R s m args below meth c g 4 c0 t0 (ox_QM g below args s c0 t0) b (rc b)) : ox_S p l e R s m args below meth c g 4 c0 t0 (ox_QM g below args s c0 t0) 99 (bX12_set_99 f1 f2 f3 rc) := by
  refine s_iast (pc := 99) C dX12_set_99 ?_
  refine s_aload_n (pc := 100) C dX12_set_100 rfl ?_
  refine s_getr (pc := 101) (j := 4) (q := (RX12, TX12, 59)) C rfl (by decide) rfl wF_X12_16 dX12_set_101 ?_
  refine s_bipush (pc := 104) C dX12_set_104 (by decide) ?_
  refine s_iload_n (pc := 106) C dX12_set_106 rfl ?_
  refine s_imul (pc := 107) C dX12_set_107 ?_
  refine s_iload_n (pc := 108) C dX12_set_108 rfl ?_
  refine s_iadd (pc := 109) C dX12_set_109 ?_
  refine s_ia (pc := 110) C dX12_set_110 ?_
  exact s_iret (pc := 111) C hr hlk dX12_set_111
end SX12_set
def bsX12_set (f1 f2 f3 : ox_F) (b : Nat) (rc : Nat → ox_K) : ox_K := if b = 0 then bX12_set_0 f1 f2 f3 rc else if b = 15 then bX12_set_15 f1 f2 f3 rc else if b = 35 then bX12_set_35 f1 f2 f3 rc else if b = 59 then bX12_set_59 f1 f2 f3 rc else if b = 83 then bX12_set_83 f1 f2 f3 rc else if b = 98 then bX12_set_98 f1 f2 f3 rc else if b = 99 then bX12_set_99 f1 f2 f3 rc else ox_no
theorem mX12_set {dp d1 d2 d3 : Nat} {f1 f2 f3 f : ox_F} (h1 : ox_Sem yX12_isSheet cX12_isSheet 1 (some .boolean) d1 f1) (e1 : d1 + 1 ≤ dp) (h2 : ox_Sem yX12_finding cX12_finding 2 (some .int) d2 f2) (e2 : d2 + 1 ≤ dp) (h3 : ox_Sem yX12_in cX12_in 6 (some .boolean) d3 f3) (e3 : d3 + 1 ≤ dp) (hf : ∀ as h r, f as h = some r → ox_cs as ≤ 4 ∧ ox_le h r.2 ∧ ∃ n, ox_run (bsX12_set f1 f2 f3) n 0 (lv_args 0 as) [] h = some r) : ox_Sem yX12_set cX12_set 4 (some .int) dp f := by
  refine ox_meth (bs := bsX12_set f1 f2 f3) (by decide) hf ?_
  intro p l e R s m args below meth c g c0 t0 C hr hlk hnm hR rc hrc b
  unfold bsX12_set
  refine ox_br (kX12_set_0 C hr hlk hnm hR h1 e1 h2 e2 h3 e3 hrc) ?_
  refine ox_br (kX12_set_15 C hr hlk hnm hR h1 e1 h2 e2 h3 e3 hrc) ?_
  refine ox_br (kX12_set_35 C hr hlk hnm hR h1 e1 h2 e2 h3 e3 hrc) ?_
  refine ox_br (kX12_set_59 C hr hlk hnm hR h1 e1 h2 e2 h3 e3 hrc) ?_
  refine ox_br (kX12_set_83 C hr hlk hnm hR h1 e1 h2 e2 h3 e3 hrc) ?_
  refine ox_br (kX12_set_98 C hr hlk hnm hR h1 e1 h2 e2 h3 e3 hrc) ?_
  refine ox_br (kX12_set_99 C hr hlk hnm hR h1 e1 h2 e2 h3 e3 hrc) ?_
  exact s_no
theorem dX12_copy_0 : decode cX12_copy 0 = .ok (.aload_n 0, 1) := by decide +kernel
theorem dX12_copy_1 : decode cX12_copy 1 = .ok (.iconst 0, 1) := by decide +kernel
theorem dX12_copy_2 : decode cX12_copy 2 = .ok (.putfield 108, 3) := by decide +kernel
theorem dX12_copy_5 : decode cX12_copy 5 = .ok (.iload_n 1, 1) := by decide +kernel
theorem dX12_copy_6 : decode cX12_copy 6 = .ok (.invokestatic 121, 3) := by decide +kernel
theorem dX12_copy_9 : decode cX12_copy 9 = .ok (.ifCond .eq 10, 3) := by decide +kernel
theorem dX12_copy_12 : decode cX12_copy 12 = .ok (.iload_n 3, 1) := by decide +kernel
theorem dX12_copy_13 : decode cX12_copy 13 = .ok (.invokestatic 121, 3) := by decide +kernel
theorem dX12_copy_16 : decode cX12_copy 16 = .ok (.ifCond .ne 6, 3) := by decide +kernel
theorem dX12_copy_19 : decode cX12_copy 19 = .ok (.ldc 127, 2) := by decide +kernel
theorem dX12_copy_21 : decode cX12_copy 21 = .ok (.ireturn, 1) := by decide +kernel
theorem dX12_copy_22 : decode cX12_copy 22 = .ok (.aload_n 0, 1) := by decide +kernel
theorem dX12_copy_23 : decode cX12_copy 23 = .ok (.iconst 0, 1) := by decide +kernel
theorem dX12_copy_24 : decode cX12_copy 24 = .ok (.putfield 111, 3) := by decide +kernel
theorem dX12_copy_27 : decode cX12_copy 27 = .ok (.aload_n 0, 1) := by decide +kernel
theorem dX12_copy_28 : decode cX12_copy 28 = .ok (.getfield 7, 3) := by decide +kernel
theorem dX12_copy_31 : decode cX12_copy 31 = .ok (.iload_n 1, 1) := by decide +kernel
theorem dX12_copy_32 : decode cX12_copy 32 = .ok (.iaload, 1) := by decide +kernel
theorem dX12_copy_33 : decode cX12_copy 33 = .ok (.ifCond .lt 12, 3) := by decide +kernel
theorem dX12_copy_36 : decode cX12_copy 36 = .ok (.aload_n 0, 1) := by decide +kernel
theorem dX12_copy_37 : decode cX12_copy 37 = .ok (.getfield 7, 3) := by decide +kernel
theorem dX12_copy_40 : decode cX12_copy 40 = .ok (.iload_n 3, 1) := by decide +kernel
theorem dX12_copy_41 : decode cX12_copy 41 = .ok (.iaload, 1) := by decide +kernel
theorem dX12_copy_42 : decode cX12_copy 42 = .ok (.ifCond .ge 9, 3) := by decide +kernel
theorem dX12_copy_45 : decode cX12_copy 45 = .ok (.aload_n 0, 1) := by decide +kernel
theorem dX12_copy_46 : decode cX12_copy 46 = .ok (.iconst 1, 1) := by decide +kernel
theorem dX12_copy_47 : decode cX12_copy 47 = .ok (.invokevirtual 128, 3) := by decide +kernel
theorem dX12_copy_50 : decode cX12_copy 50 = .ok (.ireturn, 1) := by decide +kernel
theorem dX12_copy_51 : decode cX12_copy 51 = .ok (.aload_n 0, 1) := by decide +kernel
theorem dX12_copy_52 : decode cX12_copy 52 = .ok (.getfield 7, 3) := by decide +kernel
theorem dX12_copy_55 : decode cX12_copy 55 = .ok (.iload_n 1, 1) := by decide +kernel
theorem dX12_copy_56 : decode cX12_copy 56 = .ok (.iaload, 1) := by decide +kernel
theorem dX12_copy_57 : decode cX12_copy 57 = .ok (.aload_n 0, 1) := by decide +kernel
theorem dX12_copy_58 : decode cX12_copy 58 = .ok (.getfield 7, 3) := by decide +kernel
theorem dX12_copy_61 : decode cX12_copy 61 = .ok (.iload_n 3, 1) := by decide +kernel
theorem dX12_copy_62 : decode cX12_copy 62 = .ok (.iaload, 1) := by decide +kernel
theorem dX12_copy_63 : decode cX12_copy 63 = .ok (.if_icmp .eq 9, 3) := by decide +kernel
theorem dX12_copy_66 : decode cX12_copy 66 = .ok (.aload_n 0, 1) := by decide +kernel
theorem dX12_copy_67 : decode cX12_copy 67 = .ok (.iconst 5, 1) := by decide +kernel
theorem dX12_copy_68 : decode cX12_copy 68 = .ok (.invokevirtual 128, 3) := by decide +kernel
theorem dX12_copy_71 : decode cX12_copy 71 = .ok (.ireturn, 1) := by decide +kernel
theorem dX12_copy_72 : decode cX12_copy 72 = .ok (.iload_n 2, 1) := by decide +kernel
theorem dX12_copy_73 : decode cX12_copy 73 = .ok (.ifCond .lt 48, 3) := by decide +kernel
theorem dX12_copy_76 : decode cX12_copy 76 = .ok (.iload 4, 2) := by decide +kernel
theorem dX12_copy_78 : decode cX12_copy 78 = .ok (.ifCond .lt 43, 3) := by decide +kernel
theorem dX12_copy_81 : decode cX12_copy 81 = .ok (.iload 5, 2) := by decide +kernel
theorem dX12_copy_83 : decode cX12_copy 83 = .ok (.ifCond .lt 38, 3) := by decide +kernel
theorem dX12_copy_86 : decode cX12_copy 86 = .ok (.iload_n 2, 1) := by decide +kernel
theorem dX12_copy_87 : decode cX12_copy 87 = .ok (.i2l, 1) := by decide +kernel
theorem dX12_copy_88 : decode cX12_copy 88 = .ok (.iload 5, 2) := by decide +kernel
theorem dX12_copy_90 : decode cX12_copy 90 = .ok (.i2l, 1) := by decide +kernel
theorem dX12_copy_91 : decode cX12_copy 91 = .ok (.ladd, 1) := by decide +kernel
theorem dX12_copy_92 : decode cX12_copy 92 = .ok (.aload_n 0, 1) := by decide +kernel
theorem dX12_copy_93 : decode cX12_copy 93 = .ok (.getfield 13, 3) := by decide +kernel
theorem dX12_copy_96 : decode cX12_copy 96 = .ok (.iload_n 1, 1) := by decide +kernel
theorem dX12_copy_97 : decode cX12_copy 97 = .ok (.iaload, 1) := by decide +kernel
theorem dX12_copy_98 : decode cX12_copy 98 = .ok (.i2l, 1) := by decide +kernel
theorem dX12_copy_99 : decode cX12_copy 99 = .ok (.lcmp, 1) := by decide +kernel
theorem dX12_copy_100 : decode cX12_copy 100 = .ok (.ifCond .gt 21, 3) := by decide +kernel
theorem dX12_copy_103 : decode cX12_copy 103 = .ok (.iload 4, 2) := by decide +kernel
theorem dX12_copy_105 : decode cX12_copy 105 = .ok (.i2l, 1) := by decide +kernel
theorem dX12_copy_106 : decode cX12_copy 106 = .ok (.iload 5, 2) := by decide +kernel
theorem dX12_copy_108 : decode cX12_copy 108 = .ok (.i2l, 1) := by decide +kernel
theorem dX12_copy_109 : decode cX12_copy 109 = .ok (.ladd, 1) := by decide +kernel
theorem dX12_copy_110 : decode cX12_copy 110 = .ok (.aload_n 0, 1) := by decide +kernel
theorem dX12_copy_111 : decode cX12_copy 111 = .ok (.getfield 13, 3) := by decide +kernel
theorem dX12_copy_114 : decode cX12_copy 114 = .ok (.iload_n 3, 1) := by decide +kernel
theorem dX12_copy_115 : decode cX12_copy 115 = .ok (.iaload, 1) := by decide +kernel
theorem dX12_copy_116 : decode cX12_copy 116 = .ok (.i2l, 1) := by decide +kernel
theorem dX12_copy_117 : decode cX12_copy 117 = .ok (.lcmp, 1) := by decide +kernel
theorem dX12_copy_118 : decode cX12_copy 118 = .ok (.ifCond .le 9, 3) := by decide +kernel
theorem dX12_copy_121 : decode cX12_copy 121 = .ok (.aload_n 0, 1) := by decide +kernel
theorem dX12_copy_122 : decode cX12_copy 122 = .ok (.iconst 2, 1) := by decide +kernel
theorem dX12_copy_123 : decode cX12_copy 123 = .ok (.invokevirtual 128, 3) := by decide +kernel
theorem dX12_copy_126 : decode cX12_copy 126 = .ok (.ireturn, 1) := by decide +kernel
theorem dX12_copy_127 : decode cX12_copy 127 = .ok (.iload_n 2, 1) := by decide +kernel
theorem dX12_copy_128 : decode cX12_copy 128 = .ok (.iload 4, 2) := by decide +kernel
theorem dX12_copy_130 : decode cX12_copy 130 = .ok (.if_icmp .lt 7, 3) := by decide +kernel
theorem dX12_copy_133 : decode cX12_copy 133 = .ok (.iconst 1, 1) := by decide +kernel
theorem dX12_copy_134 : decode cX12_copy 134 = .ok (.goto 4, 3) := by decide +kernel
theorem dX12_copy_137 : decode cX12_copy 137 = .ok (.iconst 0, 1) := by decide +kernel
theorem dX12_copy_138 : decode cX12_copy 138 = .ok (.istore 6, 2) := by decide +kernel
theorem dX12_copy_140 : decode cX12_copy 140 = .ok (.iconst 0, 1) := by decide +kernel
theorem dX12_copy_141 : decode cX12_copy 141 = .ok (.istore 7, 2) := by decide +kernel
theorem dX12_copy_143 : decode cX12_copy 143 = .ok (.iload 7, 2) := by decide +kernel
theorem dX12_copy_145 : decode cX12_copy 145 = .ok (.iload 5, 2) := by decide +kernel
theorem dX12_copy_147 : decode cX12_copy 147 = .ok (.if_icmp .ge 57, 3) := by decide +kernel
theorem dX12_copy_150 : decode cX12_copy 150 = .ok (.iload 6, 2) := by decide +kernel
theorem dX12_copy_152 : decode cX12_copy 152 = .ok (.ifCond .eq 8, 3) := by decide +kernel
theorem dX12_copy_155 : decode cX12_copy 155 = .ok (.iload 7, 2) := by decide +kernel
theorem dX12_copy_157 : decode cX12_copy 157 = .ok (.goto 10, 3) := by decide +kernel
theorem dX12_copy_160 : decode cX12_copy 160 = .ok (.iload 5, 2) := by decide +kernel
theorem dX12_copy_162 : decode cX12_copy 162 = .ok (.iconst 1, 1) := by decide +kernel
theorem dX12_copy_163 : decode cX12_copy 163 = .ok (.isub, 1) := by decide +kernel
theorem dX12_copy_164 : decode cX12_copy 164 = .ok (.iload 7, 2) := by decide +kernel
theorem dX12_copy_166 : decode cX12_copy 166 = .ok (.isub, 1) := by decide +kernel
theorem dX12_copy_167 : decode cX12_copy 167 = .ok (.istore 8, 2) := by decide +kernel
theorem dX12_copy_169 : decode cX12_copy 169 = .ok (.aload_n 0, 1) := by decide +kernel
theorem dX12_copy_170 : decode cX12_copy 170 = .ok (.getfield 16, 3) := by decide +kernel
theorem dX12_copy_173 : decode cX12_copy 173 = .ok (.bipush 60, 2) := by decide +kernel
theorem dX12_copy_175 : decode cX12_copy 175 = .ok (.iload_n 3, 1) := by decide +kernel
theorem dX12_copy_176 : decode cX12_copy 176 = .ok (.imul, 1) := by decide +kernel
theorem dX12_copy_177 : decode cX12_copy 177 = .ok (.iload 4, 2) := by decide +kernel
theorem dX12_copy_179 : decode cX12_copy 179 = .ok (.iadd, 1) := by decide +kernel
theorem dX12_copy_180 : decode cX12_copy 180 = .ok (.iload 8, 2) := by decide +kernel
theorem dX12_copy_182 : decode cX12_copy 182 = .ok (.iadd, 1) := by decide +kernel
theorem dX12_copy_183 : decode cX12_copy 183 = .ok (.aload_n 0, 1) := by decide +kernel
theorem dX12_copy_184 : decode cX12_copy 184 = .ok (.getfield 16, 3) := by decide +kernel
theorem dX12_copy_187 : decode cX12_copy 187 = .ok (.bipush 60, 2) := by decide +kernel
theorem dX12_copy_189 : decode cX12_copy 189 = .ok (.iload_n 1, 1) := by decide +kernel
theorem dX12_copy_190 : decode cX12_copy 190 = .ok (.imul, 1) := by decide +kernel
theorem dX12_copy_191 : decode cX12_copy 191 = .ok (.iload_n 2, 1) := by decide +kernel
theorem dX12_copy_192 : decode cX12_copy 192 = .ok (.iadd, 1) := by decide +kernel
theorem dX12_copy_193 : decode cX12_copy 193 = .ok (.iload 8, 2) := by decide +kernel
theorem dX12_copy_195 : decode cX12_copy 195 = .ok (.iadd, 1) := by decide +kernel
theorem dX12_copy_196 : decode cX12_copy 196 = .ok (.iaload, 1) := by decide +kernel
theorem dX12_copy_197 : decode cX12_copy 197 = .ok (.iastore, 1) := by decide +kernel
theorem dX12_copy_198 : decode cX12_copy 198 = .ok (.iinc 7 1, 3) := by decide +kernel
theorem dX12_copy_201 : decode cX12_copy 201 = .ok (.goto (-58), 3) := by decide +kernel
theorem dX12_copy_204 : decode cX12_copy 204 = .ok (.iload 5, 2) := by decide +kernel
theorem dX12_copy_206 : decode cX12_copy 206 = .ok (.ireturn, 1) := by decide +kernel
def bX12_copy_0 (f1 f2 : ox_F) (rc : Nat → ox_K) : ox_K := o_al 0 (o_ic (0) (o_puti 12 0 (o_il 1 (o_ct f1 1 (o_ifeq (rc 19) (o_il 3 (o_ct f1 1 (o_ifne (rc 22) (rc 19)))))))))
def bX12_copy_19 (f1 f2 : ox_F) (rc : Nat → ox_K) : ox_K := o_ic (-1000001) (o_iret)
def bX12_copy_22 (f1 f2 : ox_F) (rc : Nat → ox_K) : ox_K := o_al 0 (o_ic (0) (o_puti 12 1 (o_al 0 (o_getr 12 2 (o_il 1 (o_ia (o_iflt (rc 45) (o_al 0 (o_getr 12 2 (o_il 3 (o_ia (o_ifge (rc 51) (rc 45)))))))))))))
def bX12_copy_45 (f1 f2 : ox_F) (rc : Nat → ox_K) : ox_K := o_al 0 (o_ic (1) (o_cv f2 12 1 (o_iret)))
def bX12_copy_51 (f1 f2 : ox_F) (rc : Nat → ox_K) : ox_K := o_al 0 (o_getr 12 2 (o_il 1 (o_ia (o_al 0 (o_getr 12 2 (o_il 3 (o_ia (o_iceq (rc 72) (o_al 0 (o_ic (5) (o_cv f2 12 1 (o_iret))))))))))))
def bX12_copy_72 (f1 f2 : ox_F) (rc : Nat → ox_K) : ox_K := o_il 2 (o_iflt (rc 121) (o_il 4 (o_iflt (rc 121) (o_il 5 (o_iflt (rc 121) (o_il 2 (o_i2l (o_il 5 (o_i2l (o_ladd (o_al 0 (o_getr 12 3 (o_il 1 (o_ia (o_i2l (o_lcmp (o_ifgt (rc 121) (o_il 4 (o_i2l (o_il 5 (o_i2l (o_ladd (o_al 0 (o_getr 12 3 (o_il 3 (o_ia (o_i2l (o_lcmp (o_ifle (rc 127) (rc 121))))))))))))))))))))))))))))))
def bX12_copy_121 (f1 f2 : ox_F) (rc : Nat → ox_K) : ox_K := o_al 0 (o_ic (2) (o_cv f2 12 1 (o_iret)))
def bX12_copy_127 (f1 f2 : ox_F) (rc : Nat → ox_K) : ox_K := o_il 2 (o_il 4 (o_iclt (rc 137) (o_ic (1) (rc 138))))
def bX12_copy_137 (f1 f2 : ox_F) (rc : Nat → ox_K) : ox_K := o_ic (0) (rc 138)
def bX12_copy_138 (f1 f2 : ox_F) (rc : Nat → ox_K) : ox_K := o_is 6 (o_ic (0) (o_is 7 (rc 143)))
def bX12_copy_143 (f1 f2 : ox_F) (rc : Nat → ox_K) : ox_K := o_keep [0, 1, 2, 3, 4, 5, 6, 7] (o_il 7 (o_il 5 (o_icge (rc 204) (o_il 6 (o_ifeq (rc 160) (o_il 7 (rc 167)))))))
def bX12_copy_160 (f1 f2 : ox_F) (rc : Nat → ox_K) : ox_K := o_il 5 (o_ic (1) (o_isub (o_il 7 (o_isub (rc 167)))))
def bX12_copy_167 (f1 f2 : ox_F) (rc : Nat → ox_K) : ox_K := o_is 8 (o_al 0 (o_getr 12 4 (o_ic (60) (o_il 3 (o_imul (o_il 4 (o_iadd (o_il 8 (o_iadd (o_al 0 (o_getr 12 4 (o_ic (60) (o_il 1 (o_imul (o_il 2 (o_iadd (o_il 8 (o_iadd (o_ia (o_iast (o_inc 7 (1) (rc 143))))))))))))))))))))))
def bX12_copy_204 (f1 f2 : ox_F) (rc : Nat → ox_K) : ox_K := o_il 5 (o_iret)
section SX12_copy
variable {p : Program} {l : Launch} {e : Env} {R : Room} {s : State} {m : MethodId} {args : Array Value} {below : List Frame} {meth : Method} {c : Code} {g : ox_G} {c0 t0 dp d1 d2 : Nat} {rc : Nat → ox_K} {f1 f2 : ox_F}
set_option maxRecDepth 100000 in
theorem kX12_copy_0 (C : ox_C p s m args c g 9 cX12_copy RX12) (hr : meth.sig.returnType = (some .int)) (hlk : meth.locks = false) (hnm : meth.name = "copy") (hR : R.frames = dp ∧ R.locals = 60 * dp) (h1 : ox_Sem yX12_isSheet cX12_isSheet 1 (some .boolean) d1 f1) (e1 : d1 + 1 ≤ dp) (h2 : ox_Sem yX12_finding cX12_finding 2 (some .int) d2 f2) (e2 : d2 + 1 ≤ dp) (hrc : ∀ b, ox_S p l e R s m args below meth c g 9 c0 t0 (ox_QM g below args s c0 t0) b (rc b)) : ox_S p l e R s m args below meth c g 9 c0 t0 (ox_QM g below args s c0 t0) 0 (bX12_copy_0 f1 f2 rc) := by
  refine s_aload_n (pc := 0) C dX12_copy_0 rfl ?_
  refine s_iconst (pc := 1) C dX12_copy_1 (by decide) ?_
  refine s_puti (pc := 2) (j := 0) (q := (RX12, TX12, 59)) C rfl (by decide) rfl (Or.inl rfl) wF_X12_108 dX12_copy_2 ?_
  refine s_iload_n (pc := 5) C dX12_copy_5 rfl ?_
  refine s_ct (pc := 6) C h1 wM_X12_121 wT_X12_isSheet wN_X12 wC_X12_isSheet (by decide +kernel) (ox_lv hR e1 (by decide)) dX12_copy_6 ?_
  refine s_ifeq (pc := 9) 19 C dX12_copy_9 (by decide) (hrc 19) ?_
  refine s_iload_n (pc := 12) C dX12_copy_12 rfl ?_
  refine s_ct (pc := 13) C h1 wM_X12_121 wT_X12_isSheet wN_X12 wC_X12_isSheet (by decide +kernel) (ox_lv hR e1 (by decide)) dX12_copy_13 ?_
  refine s_ifne (pc := 16) 22 C dX12_copy_16 (by decide) (hrc 22) ?_
  exact hrc 19
set_option maxRecDepth 100000 in
theorem kX12_copy_19 (C : ox_C p s m args c g 9 cX12_copy RX12) (hr : meth.sig.returnType = (some .int)) (hlk : meth.locks = false) (hnm : meth.name = "copy") (hR : R.frames = dp ∧ R.locals = 60 * dp) (h1 : ox_Sem yX12_isSheet cX12_isSheet 1 (some .boolean) d1 f1) (e1 : d1 + 1 ≤ dp) (h2 : ox_Sem yX12_finding cX12_finding 2 (some .int) d2 f2) (e2 : d2 + 1 ≤ dp) (hrc : ∀ b, ox_S p l e R s m args below meth c g 9 c0 t0 (ox_QM g below args s c0 t0) b (rc b)) : ox_S p l e R s m args below meth c g 9 c0 t0 (ox_QM g below args s c0 t0) 19 (bX12_copy_19 f1 f2 rc) := by
  refine s_ldc (pc := 19) C wK_X12_127 dX12_copy_19 ?_
  exact s_iret (pc := 21) C hr hlk dX12_copy_21
set_option maxRecDepth 100000 in
theorem kX12_copy_22 (C : ox_C p s m args c g 9 cX12_copy RX12) (hr : meth.sig.returnType = (some .int)) (hlk : meth.locks = false) (hnm : meth.name = "copy") (hR : R.frames = dp ∧ R.locals = 60 * dp) (h1 : ox_Sem yX12_isSheet cX12_isSheet 1 (some .boolean) d1 f1) (e1 : d1 + 1 ≤ dp) (h2 : ox_Sem yX12_finding cX12_finding 2 (some .int) d2 f2) (e2 : d2 + 1 ≤ dp) (hrc : ∀ b, ox_S p l e R s m args below meth c g 9 c0 t0 (ox_QM g below args s c0 t0) b (rc b)) : ox_S p l e R s m args below meth c g 9 c0 t0 (ox_QM g below args s c0 t0) 22 (bX12_copy_22 f1 f2 rc) := by
  refine s_aload_n (pc := 22) C dX12_copy_22 rfl ?_
  refine s_iconst (pc := 23) C dX12_copy_23 (by decide) ?_
  refine s_puti (pc := 24) (j := 1) (q := (RX12, TX12, 59)) C rfl (by decide) rfl (Or.inl rfl) wF_X12_111 dX12_copy_24 ?_
  refine s_aload_n (pc := 27) C dX12_copy_27 rfl ?_
  refine s_getr (pc := 28) (j := 2) (q := (RX12, TX12, 59)) C rfl (by decide) rfl wF_X12_7 dX12_copy_28 ?_
  refine s_iload_n (pc := 31) C dX12_copy_31 rfl ?_
  refine s_ia (pc := 32) C dX12_copy_32 ?_
  refine s_iflt (pc := 33) 45 C dX12_copy_33 (by decide) (hrc 45) ?_
  refine s_aload_n (pc := 36) C dX12_copy_36 rfl ?_
  refine s_getr (pc := 37) (j := 2) (q := (RX12, TX12, 59)) C rfl (by decide) rfl wF_X12_7 dX12_copy_37 ?_
  refine s_iload_n (pc := 40) C dX12_copy_40 rfl ?_
  refine s_ia (pc := 41) C dX12_copy_41 ?_
  refine s_ifge (pc := 42) 51 C dX12_copy_42 (by decide) (hrc 51) ?_
  exact hrc 45
set_option maxRecDepth 100000 in
theorem kX12_copy_45 (C : ox_C p s m args c g 9 cX12_copy RX12) (hr : meth.sig.returnType = (some .int)) (hlk : meth.locks = false) (hnm : meth.name = "copy") (hR : R.frames = dp ∧ R.locals = 60 * dp) (h1 : ox_Sem yX12_isSheet cX12_isSheet 1 (some .boolean) d1 f1) (e1 : d1 + 1 ≤ dp) (h2 : ox_Sem yX12_finding cX12_finding 2 (some .int) d2 f2) (e2 : d2 + 1 ≤ dp) (hrc : ∀ b, ox_S p l e R s m args below meth c g 9 c0 t0 (ox_QM g below args s c0 t0) b (rc b)) : ox_S p l e R s m args below meth c g 9 c0 t0 (ox_QM g below args s c0 t0) 45 (bX12_copy_45 f1 f2 rc) := by
  refine s_aload_n (pc := 45) C dX12_copy_45 rfl ?_
  refine s_iconst (pc := 46) C dX12_copy_46 (by decide) ?_
  refine s_cv (pc := 47) (q := (RX12, TX12, 59)) C h2 rfl wM_X12_128 wI_X12_finding wS_X12_finding wN_X12 wC_X12_finding (by decide +kernel) (ox_lv hR e2 (by decide)) dX12_copy_47 ?_
  exact s_iret (pc := 50) C hr hlk dX12_copy_50
set_option maxRecDepth 100000 in
theorem kX12_copy_51 (C : ox_C p s m args c g 9 cX12_copy RX12) (hr : meth.sig.returnType = (some .int)) (hlk : meth.locks = false) (hnm : meth.name = "copy") (hR : R.frames = dp ∧ R.locals = 60 * dp) (h1 : ox_Sem yX12_isSheet cX12_isSheet 1 (some .boolean) d1 f1) (e1 : d1 + 1 ≤ dp) (h2 : ox_Sem yX12_finding cX12_finding 2 (some .int) d2 f2) (e2 : d2 + 1 ≤ dp) (hrc : ∀ b, ox_S p l e R s m args below meth c g 9 c0 t0 (ox_QM g below args s c0 t0) b (rc b)) : ox_S p l e R s m args below meth c g 9 c0 t0 (ox_QM g below args s c0 t0) 51 (bX12_copy_51 f1 f2 rc) := by
  refine s_aload_n (pc := 51) C dX12_copy_51 rfl ?_
  refine s_getr (pc := 52) (j := 2) (q := (RX12, TX12, 59)) C rfl (by decide) rfl wF_X12_7 dX12_copy_52 ?_
  refine s_iload_n (pc := 55) C dX12_copy_55 rfl ?_
  refine s_ia (pc := 56) C dX12_copy_56 ?_
  refine s_aload_n (pc := 57) C dX12_copy_57 rfl ?_
  refine s_getr (pc := 58) (j := 2) (q := (RX12, TX12, 59)) C rfl (by decide) rfl wF_X12_7 dX12_copy_58 ?_
  refine s_iload_n (pc := 61) C dX12_copy_61 rfl ?_
  refine s_ia (pc := 62) C dX12_copy_62 ?_
  refine s_icmpeq (pc := 63) 72 C dX12_copy_63 (by decide) (hrc 72) ?_
  refine s_aload_n (pc := 66) C dX12_copy_66 rfl ?_
  refine s_iconst (pc := 67) C dX12_copy_67 (by decide) ?_
  refine s_cv (pc := 68) (q := (RX12, TX12, 59)) C h2 rfl wM_X12_128 wI_X12_finding wS_X12_finding wN_X12 wC_X12_finding (by decide +kernel) (ox_lv hR e2 (by decide)) dX12_copy_68 ?_
  exact s_iret (pc := 71) C hr hlk dX12_copy_71
set_option maxRecDepth 100000 in
theorem kX12_copy_72 (C : ox_C p s m args c g 9 cX12_copy RX12) (hr : meth.sig.returnType = (some .int)) (hlk : meth.locks = false) (hnm : meth.name = "copy") (hR : R.frames = dp ∧ R.locals = 60 * dp) (h1 : ox_Sem yX12_isSheet cX12_isSheet 1 (some .boolean) d1 f1) (e1 : d1 + 1 ≤ dp) (h2 : ox_Sem yX12_finding cX12_finding 2 (some .int) d2 f2) (e2 : d2 + 1 ≤ dp) (hrc : ∀ b, ox_S p l e R s m args below meth c g 9 c0 t0 (ox_QM g below args s c0 t0) b (rc b)) : ox_S p l e R s m args below meth c g 9 c0 t0 (ox_QM g below args s c0 t0) 72 (bX12_copy_72 f1 f2 rc) := by
  refine s_iload_n (pc := 72) C dX12_copy_72 rfl ?_
  refine s_iflt (pc := 73) 121 C dX12_copy_73 (by decide) (hrc 121) ?_
  refine s_iload (pc := 76) C dX12_copy_76 ?_
  refine s_iflt (pc := 78) 121 C dX12_copy_78 (by decide) (hrc 121) ?_
  refine s_iload (pc := 81) C dX12_copy_81 ?_
  refine s_iflt (pc := 83) 121 C dX12_copy_83 (by decide) (hrc 121) ?_
  refine s_iload_n (pc := 86) C dX12_copy_86 rfl ?_
  refine s_i2l (pc := 87) C dX12_copy_87 ?_
  refine s_iload (pc := 88) C dX12_copy_88 ?_
  refine s_i2l (pc := 90) C dX12_copy_90 ?_
  refine s_ladd (pc := 91) C dX12_copy_91 ?_
  refine s_aload_n (pc := 92) C dX12_copy_92 rfl ?_
  refine s_getr (pc := 93) (j := 3) (q := (RX12, TX12, 59)) C rfl (by decide) rfl wF_X12_13 dX12_copy_93 ?_
  refine s_iload_n (pc := 96) C dX12_copy_96 rfl ?_
  refine s_ia (pc := 97) C dX12_copy_97 ?_
  refine s_i2l (pc := 98) C dX12_copy_98 ?_
  refine s_lcmp (pc := 99) C dX12_copy_99 ?_
  refine s_ifgt (pc := 100) 121 C dX12_copy_100 (by decide) (hrc 121) ?_
  refine s_iload (pc := 103) C dX12_copy_103 ?_
  refine s_i2l (pc := 105) C dX12_copy_105 ?_
  refine s_iload (pc := 106) C dX12_copy_106 ?_
  refine s_i2l (pc := 108) C dX12_copy_108 ?_
  refine s_ladd (pc := 109) C dX12_copy_109 ?_
  refine s_aload_n (pc := 110) C dX12_copy_110 rfl ?_
  refine s_getr (pc := 111) (j := 3) (q := (RX12, TX12, 59)) C rfl (by decide) rfl wF_X12_13 dX12_copy_111 ?_
  refine s_iload_n (pc := 114) C dX12_copy_114 rfl ?_
  refine s_ia (pc := 115) C dX12_copy_115 ?_
  refine s_i2l (pc := 116) C dX12_copy_116 ?_
  refine s_lcmp (pc := 117) C dX12_copy_117 ?_
  refine s_ifle (pc := 118) 127 C dX12_copy_118 (by decide) (hrc 127) ?_
  exact hrc 121
set_option maxRecDepth 100000 in
theorem kX12_copy_121 (C : ox_C p s m args c g 9 cX12_copy RX12) (hr : meth.sig.returnType = (some .int)) (hlk : meth.locks = false) (hnm : meth.name = "copy") (hR : R.frames = dp ∧ R.locals = 60 * dp) (h1 : ox_Sem yX12_isSheet cX12_isSheet 1 (some .boolean) d1 f1) (e1 : d1 + 1 ≤ dp) (h2 : ox_Sem yX12_finding cX12_finding 2 (some .int) d2 f2) (e2 : d2 + 1 ≤ dp) (hrc : ∀ b, ox_S p l e R s m args below meth c g 9 c0 t0 (ox_QM g below args s c0 t0) b (rc b)) : ox_S p l e R s m args below meth c g 9 c0 t0 (ox_QM g below args s c0 t0) 121 (bX12_copy_121 f1 f2 rc) := by
  refine s_aload_n (pc := 121) C dX12_copy_121 rfl ?_
  refine s_iconst (pc := 122) C dX12_copy_122 (by decide) ?_
  refine s_cv (pc := 123) (q := (RX12, TX12, 59)) C h2 rfl wM_X12_128 wI_X12_finding wS_X12_finding wN_X12 wC_X12_finding (by decide +kernel) (ox_lv hR e2 (by decide)) dX12_copy_123 ?_
  exact s_iret (pc := 126) C hr hlk dX12_copy_126
set_option maxRecDepth 100000 in
theorem kX12_copy_127 (C : ox_C p s m args c g 9 cX12_copy RX12) (hr : meth.sig.returnType = (some .int)) (hlk : meth.locks = false) (hnm : meth.name = "copy") (hR : R.frames = dp ∧ R.locals = 60 * dp) (h1 : ox_Sem yX12_isSheet cX12_isSheet 1 (some .boolean) d1 f1) (e1 : d1 + 1 ≤ dp) (h2 : ox_Sem yX12_finding cX12_finding 2 (some .int) d2 f2) (e2 : d2 + 1 ≤ dp) (hrc : ∀ b, ox_S p l e R s m args below meth c g 9 c0 t0 (ox_QM g below args s c0 t0) b (rc b)) : ox_S p l e R s m args below meth c g 9 c0 t0 (ox_QM g below args s c0 t0) 127 (bX12_copy_127 f1 f2 rc) := by
  refine s_iload_n (pc := 127) C dX12_copy_127 rfl ?_
  refine s_iload (pc := 128) C dX12_copy_128 ?_
  refine s_icmplt (pc := 130) 137 C dX12_copy_130 (by decide) (hrc 137) ?_
  refine s_iconst (pc := 133) C dX12_copy_133 (by decide) ?_
  exact s_goto (pc := 134) 138 C dX12_copy_134 (by decide) (hrc 138)
set_option maxRecDepth 100000 in
theorem kX12_copy_137 (C : ox_C p s m args c g 9 cX12_copy RX12) (hr : meth.sig.returnType = (some .int)) (hlk : meth.locks = false) (hnm : meth.name = "copy") (hR : R.frames = dp ∧ R.locals = 60 * dp) (h1 : ox_Sem yX12_isSheet cX12_isSheet 1 (some .boolean) d1 f1) (e1 : d1 + 1 ≤ dp) (h2 : ox_Sem yX12_finding cX12_finding 2 (some .int) d2 f2) (e2 : d2 + 1 ≤ dp) (hrc : ∀ b, ox_S p l e R s m args below meth c g 9 c0 t0 (ox_QM g below args s c0 t0) b (rc b)) : ox_S p l e R s m args below meth c g 9 c0 t0 (ox_QM g below args s c0 t0) 137 (bX12_copy_137 f1 f2 rc) := by
  refine s_iconst (pc := 137) C dX12_copy_137 (by decide) ?_
  exact hrc 138
set_option maxRecDepth 100000 in
theorem kX12_copy_138 (C : ox_C p s m args c g 9 cX12_copy RX12) (hr : meth.sig.returnType = (some .int)) (hlk : meth.locks = false) (hnm : meth.name = "copy") (hR : R.frames = dp ∧ R.locals = 60 * dp) (h1 : ox_Sem yX12_isSheet cX12_isSheet 1 (some .boolean) d1 f1) (e1 : d1 + 1 ≤ dp) (h2 : ox_Sem yX12_finding cX12_finding 2 (some .int) d2 f2) (e2 : d2 + 1 ≤ dp) (hrc : ∀ b, ox_S p l e R s m args below meth c g 9 c0 t0 (ox_QM g below args s c0 t0) b (rc b)) : ox_S p l e R s m args below meth c g 9 c0 t0 (ox_QM g below args s c0 t0) 138 (bX12_copy_138 f1 f2 rc) := by
  refine s_istore (pc := 138) C dX12_copy_138 (by decide) ?_
  refine s_iconst (pc := 140) C dX12_copy_140 (by decide) ?_
  refine s_istore (pc := 141) C dX12_copy_141 (by decide) ?_
  exact hrc 143
set_option maxRecDepth 100000 in
theorem kX12_copy_143 (C : ox_C p s m args c g 9 cX12_copy RX12) (hr : meth.sig.returnType = (some .int)) (hlk : meth.locks = false) (hnm : meth.name = "copy") (hR : R.frames = dp ∧ R.locals = 60 * dp) (h1 : ox_Sem yX12_isSheet cX12_isSheet 1 (some .boolean) d1 f1) (e1 : d1 + 1 ≤ dp) (h2 : ox_Sem yX12_finding cX12_finding 2 (some .int) d2 f2) (e2 : d2 + 1 ≤ dp) (hrc : ∀ b, ox_S p l e R s m args below meth c g 9 c0 t0 (ox_QM g below args s c0 t0) b (rc b)) : ox_S p l e R s m args below meth c g 9 c0 t0 (ox_QM g below args s c0 t0) 143 (bX12_copy_143 f1 f2 rc) := by
  refine s_keep ?_
  refine s_iload (pc := 143) C dX12_copy_143 ?_
  refine s_iload (pc := 145) C dX12_copy_145 ?_
  refine s_icmpge (pc := 147) 204 C dX12_copy_147 (by decide) (hrc 204) ?_
  refine s_iload (pc := 150) C dX12_copy_150 ?_
  refine s_ifeq (pc := 152) 160 C dX12_copy_152 (by decide) (hrc 160) ?_
  refine s_iload (pc := 155) C dX12_copy_155 ?_
  exact s_goto (pc := 157) 167 C dX12_copy_157 (by decide) (hrc 167)
set_option maxRecDepth 100000 in
theorem kX12_copy_160 (C : ox_C p s m args c g 9 cX12_copy RX12) (hr : meth.sig.returnType = (some .int)) (hlk : meth.locks = false) (hnm : meth.name = "copy") (hR : R.frames = dp ∧ R.locals = 60 * dp) (h1 : ox_Sem yX12_isSheet cX12_isSheet 1 (some .boolean) d1 f1) (e1 : d1 + 1 ≤ dp) (h2 : ox_Sem yX12_finding cX12_finding 2 (some .int) d2 f2) (e2 : d2 + 1 ≤ dp) (hrc : ∀ b, ox_S p l e R s m args below meth c g 9 c0 t0 (ox_QM g below args s c0 t0) b (rc b)) : ox_S p l e R s m args below meth c g 9 c0 t0 (ox_QM g below args s c0 t0) 160 (bX12_copy_160 f1 f2 rc) := by
  refine s_iload (pc := 160) C dX12_copy_160 ?_
  refine s_iconst (pc := 162) C dX12_copy_162 (by decide) ?_
  refine s_isub (pc := 163) C dX12_copy_163 ?_
  refine s_iload (pc := 164) C dX12_copy_164 ?_
  refine s_isub (pc := 166) C dX12_copy_166 ?_
  exact hrc 167
set_option maxRecDepth 100000 in
theorem kX12_copy_167 (C : ox_C p s m args c g 9 cX12_copy RX12) (hr : meth.sig.returnType = (some .int)) (hlk : meth.locks = false) (hnm : meth.name = "copy") (hR : R.frames = dp ∧ R.locals = 60 * dp) (h1 : ox_Sem yX12_isSheet cX12_isSheet 1 (some .boolean) d1 f1) (e1 : d1 + 1 ≤ dp) (h2 : ox_Sem yX12_finding cX12_finding 2 (some .int) d2 f2) (e2 : d2 + 1 ≤ dp) (hrc : ∀ b, ox_S p l e R s m args below meth c g 9 c0 t0 (ox_QM g below args s c0 t0) b (rc b)) : ox_S p l e R s m args below meth c g 9 c0 t0 (ox_QM g below args s c0 t0) 167 (bX12_copy_167 f1 f2 rc) := by
  refine s_istore (pc := 167) C dX12_copy_167 (by decide) ?_
  refine s_aload_n (pc := 169) C dX12_copy_169 rfl ?_
  refine s_getr (pc := 170) (j := 4) (q := (RX12, TX12, 59)) C rfl (by decide) rfl wF_X12_16 dX12_copy_170 ?_
  refine s_bipush (pc := 173) C dX12_copy_173 (by decide) ?_
  refine s_iload_n (pc := 175) C dX12_copy_175 rfl ?_
  refine s_imul (pc := 176) C dX12_copy_176 ?_
  refine s_iload (pc := 177) C dX12_copy_177 ?_
  refine s_iadd (pc := 179) C dX12_copy_179 ?_
  refine s_iload (pc := 180) C dX12_copy_180 ?_
  refine s_iadd (pc := 182) C dX12_copy_182 ?_
  refine s_aload_n (pc := 183) C dX12_copy_183 rfl ?_
  refine s_getr (pc := 184) (j := 4) (q := (RX12, TX12, 59)) C rfl (by decide) rfl wF_X12_16 dX12_copy_184 ?_
  refine s_bipush (pc := 187) C dX12_copy_187 (by decide) ?_
  refine s_iload_n (pc := 189) C dX12_copy_189 rfl ?_
  refine s_imul (pc := 190) C dX12_copy_190 ?_
  refine s_iload_n (pc := 191) C dX12_copy_191 rfl ?_
  refine s_iadd (pc := 192) C dX12_copy_192 ?_
  refine s_iload (pc := 193) C dX12_copy_193 ?_
  refine s_iadd (pc := 195) C dX12_copy_195 ?_
  refine s_ia (pc := 196) C dX12_copy_196 ?_
  refine s_iast (pc := 197) C dX12_copy_197 ?_
  refine s_iinc (pc := 198) C dX12_copy_198 (by decide) (by decide) ?_
  exact s_goto (pc := 201) 143 C dX12_copy_201 (by decide) (hrc 143)
set_option maxRecDepth 100000 in
theorem kX12_copy_204 (C : ox_C p s m args c g 9 cX12_copy RX12) (hr : meth.sig.returnType = (some .int)) (hlk : meth.locks = false) (hnm : meth.name = "copy") (hR : R.frames = dp ∧ R.locals = 60 * dp) (h1 : ox_Sem yX12_isSheet cX12_isSheet 1 (some .boolean) d1 f1) (e1 : d1 + 1 ≤ dp) (h2 : ox_Sem yX12_finding cX12_finding 2 (some .int) d2 f2) (e2 : d2 + 1 ≤ dp) (hrc : ∀ b, ox_S p l e R s m args below meth c g 9 c0 t0 (ox_QM g below args s c0 t0) b (rc b)) : ox_S p l e R s m args below meth c g 9 c0 t0 (ox_QM g below args s c0 t0) 204 (bX12_copy_204 f1 f2 rc) := by
  refine s_iload (pc := 204) C dX12_copy_204 ?_
  exact s_iret (pc := 206) C hr hlk dX12_copy_206
end SX12_copy
def bsX12_copy (f1 f2 : ox_F) (b : Nat) (rc : Nat → ox_K) : ox_K := if b = 0 then bX12_copy_0 f1 f2 rc else if b = 19 then bX12_copy_19 f1 f2 rc else if b = 22 then bX12_copy_22 f1 f2 rc else if b = 45 then bX12_copy_45 f1 f2 rc else if b = 51 then bX12_copy_51 f1 f2 rc else if b = 72 then bX12_copy_72 f1 f2 rc else if b = 121 then bX12_copy_121 f1 f2 rc else if b = 127 then bX12_copy_127 f1 f2 rc else if b = 137 then bX12_copy_137 f1 f2 rc else if b = 138 then bX12_copy_138 f1 f2 rc else if b = 143 then bX12_copy_143 f1 f2 rc else if b = 160 then bX12_copy_160 f1 f2 rc else if b = 167 then bX12_copy_167 f1 f2 rc else if b = 204 then bX12_copy_204 f1 f2 rc else ox_no
theorem mX12_copy {dp d1 d2 : Nat} {f1 f2 f : ox_F} (h1 : ox_Sem yX12_isSheet cX12_isSheet 1 (some .boolean) d1 f1) (e1 : d1 + 1 ≤ dp) (h2 : ox_Sem yX12_finding cX12_finding 2 (some .int) d2 f2) (e2 : d2 + 1 ≤ dp) (hf : ∀ as h r, f as h = some r → ox_cs as ≤ 9 ∧ ox_le h r.2 ∧ ∃ n, ox_run (bsX12_copy f1 f2) n 0 (lv_args 0 as) [] h = some r) : ox_Sem yX12_copy cX12_copy 9 (some .int) dp f := by
  refine ox_meth (bs := bsX12_copy f1 f2) (by decide) hf ?_
  intro p l e R s m args below meth c g c0 t0 C hr hlk hnm hR rc hrc b
  unfold bsX12_copy
  refine ox_br (kX12_copy_0 C hr hlk hnm hR h1 e1 h2 e2 hrc) ?_
  refine ox_br (kX12_copy_19 C hr hlk hnm hR h1 e1 h2 e2 hrc) ?_
  refine ox_br (kX12_copy_22 C hr hlk hnm hR h1 e1 h2 e2 hrc) ?_
  refine ox_br (kX12_copy_45 C hr hlk hnm hR h1 e1 h2 e2 hrc) ?_
  refine ox_br (kX12_copy_51 C hr hlk hnm hR h1 e1 h2 e2 hrc) ?_
  refine ox_br (kX12_copy_72 C hr hlk hnm hR h1 e1 h2 e2 hrc) ?_
  refine ox_br (kX12_copy_121 C hr hlk hnm hR h1 e1 h2 e2 hrc) ?_
  refine ox_br (kX12_copy_127 C hr hlk hnm hR h1 e1 h2 e2 hrc) ?_
  refine ox_br (kX12_copy_137 C hr hlk hnm hR h1 e1 h2 e2 hrc) ?_
  refine ox_br (kX12_copy_138 C hr hlk hnm hR h1 e1 h2 e2 hrc) ?_
  refine ox_br (kX12_copy_143 C hr hlk hnm hR h1 e1 h2 e2 hrc) ?_
  refine ox_br (kX12_copy_160 C hr hlk hnm hR h1 e1 h2 e2 hrc) ?_
  refine ox_br (kX12_copy_167 C hr hlk hnm hR h1 e1 h2 e2 hrc) ?_
  refine ox_br (kX12_copy_204 C hr hlk hnm hR h1 e1 h2 e2 hrc) ?_
  exact s_no
theorem dX12_drop_0 : decode cX12_drop 0 = .ok (.aload_n 0, 1) := by decide +kernel
theorem dX12_drop_1 : decode cX12_drop 1 = .ok (.iconst 0, 1) := by decide +kernel
theorem dX12_drop_2 : decode cX12_drop 2 = .ok (.putfield 108, 3) := by decide +kernel
theorem dX12_drop_5 : decode cX12_drop 5 = .ok (.iload_n 1, 1) := by decide +kernel
theorem dX12_drop_6 : decode cX12_drop 6 = .ok (.invokestatic 121, 3) := by decide +kernel
theorem dX12_drop_9 : decode cX12_drop 9 = .ok (.ifCond .ne 6, 3) := by decide +kernel
theorem dX12_drop_12 : decode cX12_drop 12 = .ok (.ldc 127, 2) := by decide +kernel
theorem dX12_drop_14 : decode cX12_drop 14 = .ok (.ireturn, 1) := by decide +kernel
theorem dX12_drop_15 : decode cX12_drop 15 = .ok (.aload_n 0, 1) := by decide +kernel
theorem dX12_drop_16 : decode cX12_drop 16 = .ok (.iconst 0, 1) := by decide +kernel
theorem dX12_drop_17 : decode cX12_drop 17 = .ok (.putfield 111, 3) := by decide +kernel
theorem dX12_drop_20 : decode cX12_drop 20 = .ok (.aload_n 0, 1) := by decide +kernel
theorem dX12_drop_21 : decode cX12_drop 21 = .ok (.getfield 7, 3) := by decide +kernel
theorem dX12_drop_24 : decode cX12_drop 24 = .ok (.iload_n 1, 1) := by decide +kernel
theorem dX12_drop_25 : decode cX12_drop 25 = .ok (.iaload, 1) := by decide +kernel
theorem dX12_drop_26 : decode cX12_drop 26 = .ok (.ifCond .ge 9, 3) := by decide +kernel
theorem dX12_drop_29 : decode cX12_drop 29 = .ok (.aload_n 0, 1) := by decide +kernel
theorem dX12_drop_30 : decode cX12_drop 30 = .ok (.iconst 1, 1) := by decide +kernel
theorem dX12_drop_31 : decode cX12_drop 31 = .ok (.invokevirtual 128, 3) := by decide +kernel
theorem dX12_drop_34 : decode cX12_drop 34 = .ok (.ireturn, 1) := by decide +kernel
theorem dX12_drop_35 : decode cX12_drop 35 = .ok (.aload_n 0, 1) := by decide +kernel
theorem dX12_drop_36 : decode cX12_drop 36 = .ok (.getfield 7, 3) := by decide +kernel
theorem dX12_drop_39 : decode cX12_drop 39 = .ok (.iload_n 1, 1) := by decide +kernel
theorem dX12_drop_40 : decode cX12_drop 40 = .ok (.iconst (-1), 1) := by decide +kernel
theorem dX12_drop_41 : decode cX12_drop 41 = .ok (.iastore, 1) := by decide +kernel
theorem dX12_drop_42 : decode cX12_drop 42 = .ok (.aload_n 0, 1) := by decide +kernel
theorem dX12_drop_43 : decode cX12_drop 43 = .ok (.getfield 13, 3) := by decide +kernel
theorem dX12_drop_46 : decode cX12_drop 46 = .ok (.iload_n 1, 1) := by decide +kernel
theorem dX12_drop_47 : decode cX12_drop 47 = .ok (.iaload, 1) := by decide +kernel
theorem dX12_drop_48 : decode cX12_drop 48 = .ok (.ireturn, 1) := by decide +kernel
def bX12_drop_0 (f1 f2 : ox_F) (rc : Nat → ox_K) : ox_K := o_al 0 (o_ic (0) (o_puti 12 0 (o_il 1 (o_ct f1 1 (o_ifne (rc 15) (o_ic (-1000001) (o_iret)))))))
def bX12_drop_15 (f1 f2 : ox_F) (rc : Nat → ox_K) : ox_K := o_al 0 (o_ic (0) (o_puti 12 1 (o_al 0 (o_getr 12 2 (o_il 1 (o_ia (o_ifge (rc 35) (o_al 0 (o_ic (1) (o_cv f2 12 1 (o_iret)))))))))))
def bX12_drop_35 (f1 f2 : ox_F) (rc : Nat → ox_K) : ox_K := o_al 0 (o_getr 12 2 (o_il 1 (o_ic (-1) (o_iast (o_al 0 (o_getr 12 3 (o_il 1 (o_ia (o_iret)))))))))
section SX12_drop
variable {p : Program} {l : Launch} {e : Env} {R : Room} {s : State} {m : MethodId} {args : Array Value} {below : List Frame} {meth : Method} {c : Code} {g : ox_G} {c0 t0 dp d1 d2 : Nat} {rc : Nat → ox_K} {f1 f2 : ox_F}
set_option maxRecDepth 100000 in
theorem kX12_drop_0 (C : ox_C p s m args c g 2 cX12_drop RX12) (hr : meth.sig.returnType = (some .int)) (hlk : meth.locks = false) (hnm : meth.name = "drop") (hR : R.frames = dp ∧ R.locals = 60 * dp) (h1 : ox_Sem yX12_isSheet cX12_isSheet 1 (some .boolean) d1 f1) (e1 : d1 + 1 ≤ dp) (h2 : ox_Sem yX12_finding cX12_finding 2 (some .int) d2 f2) (e2 : d2 + 1 ≤ dp) (hrc : ∀ b, ox_S p l e R s m args below meth c g 2 c0 t0 (ox_QM g below args s c0 t0) b (rc b)) : ox_S p l e R s m args below meth c g 2 c0 t0 (ox_QM g below args s c0 t0) 0 (bX12_drop_0 f1 f2 rc) := by
  refine s_aload_n (pc := 0) C dX12_drop_0 rfl ?_
  refine s_iconst (pc := 1) C dX12_drop_1 (by decide) ?_
  refine s_puti (pc := 2) (j := 0) (q := (RX12, TX12, 59)) C rfl (by decide) rfl (Or.inl rfl) wF_X12_108 dX12_drop_2 ?_
  refine s_iload_n (pc := 5) C dX12_drop_5 rfl ?_
  refine s_ct (pc := 6) C h1 wM_X12_121 wT_X12_isSheet wN_X12 wC_X12_isSheet (by decide +kernel) (ox_lv hR e1 (by decide)) dX12_drop_6 ?_
  refine s_ifne (pc := 9) 15 C dX12_drop_9 (by decide) (hrc 15) ?_
  refine s_ldc (pc := 12) C wK_X12_127 dX12_drop_12 ?_
  exact s_iret (pc := 14) C hr hlk dX12_drop_14
set_option maxRecDepth 100000 in
theorem kX12_drop_15 (C : ox_C p s m args c g 2 cX12_drop RX12) (hr : meth.sig.returnType = (some .int)) (hlk : meth.locks = false) (hnm : meth.name = "drop") (hR : R.frames = dp ∧ R.locals = 60 * dp) (h1 : ox_Sem yX12_isSheet cX12_isSheet 1 (some .boolean) d1 f1) (e1 : d1 + 1 ≤ dp) (h2 : ox_Sem yX12_finding cX12_finding 2 (some .int) d2 f2) (e2 : d2 + 1 ≤ dp) (hrc : ∀ b, ox_S p l e R s m args below meth c g 2 c0 t0 (ox_QM g below args s c0 t0) b (rc b)) : ox_S p l e R s m args below meth c g 2 c0 t0 (ox_QM g below args s c0 t0) 15 (bX12_drop_15 f1 f2 rc) := by
  refine s_aload_n (pc := 15) C dX12_drop_15 rfl ?_
  refine s_iconst (pc := 16) C dX12_drop_16 (by decide) ?_
  refine s_puti (pc := 17) (j := 1) (q := (RX12, TX12, 59)) C rfl (by decide) rfl (Or.inl rfl) wF_X12_111 dX12_drop_17 ?_
  refine s_aload_n (pc := 20) C dX12_drop_20 rfl ?_
  refine s_getr (pc := 21) (j := 2) (q := (RX12, TX12, 59)) C rfl (by decide) rfl wF_X12_7 dX12_drop_21 ?_
  refine s_iload_n (pc := 24) C dX12_drop_24 rfl ?_
  refine s_ia (pc := 25) C dX12_drop_25 ?_
  refine s_ifge (pc := 26) 35 C dX12_drop_26 (by decide) (hrc 35) ?_
  refine s_aload_n (pc := 29) C dX12_drop_29 rfl ?_
  refine s_iconst (pc := 30) C dX12_drop_30 (by decide) ?_
  refine s_cv (pc := 31) (q := (RX12, TX12, 59)) C h2 rfl wM_X12_128 wI_X12_finding wS_X12_finding wN_X12 wC_X12_finding (by decide +kernel) (ox_lv hR e2 (by decide)) dX12_drop_31 ?_
  exact s_iret (pc := 34) C hr hlk dX12_drop_34
set_option maxRecDepth 100000 in
theorem kX12_drop_35 (C : ox_C p s m args c g 2 cX12_drop RX12) (hr : meth.sig.returnType = (some .int)) (hlk : meth.locks = false) (hnm : meth.name = "drop") (hR : R.frames = dp ∧ R.locals = 60 * dp) (h1 : ox_Sem yX12_isSheet cX12_isSheet 1 (some .boolean) d1 f1) (e1 : d1 + 1 ≤ dp) (h2 : ox_Sem yX12_finding cX12_finding 2 (some .int) d2 f2) (e2 : d2 + 1 ≤ dp) (hrc : ∀ b, ox_S p l e R s m args below meth c g 2 c0 t0 (ox_QM g below args s c0 t0) b (rc b)) : ox_S p l e R s m args below meth c g 2 c0 t0 (ox_QM g below args s c0 t0) 35 (bX12_drop_35 f1 f2 rc) := by
  refine s_aload_n (pc := 35) C dX12_drop_35 rfl ?_
  refine s_getr (pc := 36) (j := 2) (q := (RX12, TX12, 59)) C rfl (by decide) rfl wF_X12_7 dX12_drop_36 ?_
  refine s_iload_n (pc := 39) C dX12_drop_39 rfl ?_
  refine s_iconst (pc := 40) C dX12_drop_40 (by decide) ?_
  refine s_iast (pc := 41) C dX12_drop_41 ?_
  refine s_aload_n (pc := 42) C dX12_drop_42 rfl ?_
  refine s_getr (pc := 43) (j := 3) (q := (RX12, TX12, 59)) C rfl (by decide) rfl wF_X12_13 dX12_drop_43 ?_
  refine s_iload_n (pc := 46) C dX12_drop_46 rfl ?_
  refine s_ia (pc := 47) C dX12_drop_47 ?_
  exact s_iret (pc := 48) C hr hlk dX12_drop_48
end SX12_drop
def bsX12_drop (f1 f2 : ox_F) (b : Nat) (rc : Nat → ox_K) : ox_K := if b = 0 then bX12_drop_0 f1 f2 rc else if b = 15 then bX12_drop_15 f1 f2 rc else if b = 35 then bX12_drop_35 f1 f2 rc else ox_no
theorem mX12_drop {dp d1 d2 : Nat} {f1 f2 f : ox_F} (h1 : ox_Sem yX12_isSheet cX12_isSheet 1 (some .boolean) d1 f1) (e1 : d1 + 1 ≤ dp) (h2 : ox_Sem yX12_finding cX12_finding 2 (some .int) d2 f2) (e2 : d2 + 1 ≤ dp) (hf : ∀ as h r, f as h = some r → ox_cs as ≤ 2 ∧ ox_le h r.2 ∧ ∃ n, ox_run (bsX12_drop f1 f2) n 0 (lv_args 0 as) [] h = some r) : ox_Sem yX12_drop cX12_drop 2 (some .int) dp f := by
  refine ox_meth (bs := bsX12_drop f1 f2) (by decide) hf ?_
  intro p l e R s m args below meth c g c0 t0 C hr hlk hnm hR rc hrc b
  unfold bsX12_drop
  refine ox_br (kX12_drop_0 C hr hlk hnm hR h1 e1 h2 e2 hrc) ?_
  refine ox_br (kX12_drop_15 C hr hlk hnm hR h1 e1 h2 e2 hrc) ?_
  refine ox_br (kX12_drop_35 C hr hlk hnm hR h1 e1 h2 e2 hrc) ?_
  exact s_no
theorem dX12_lookItems_0 : decode cX12_lookItems 0 = .ok (.aload_n 0, 1) := by decide +kernel
theorem dX12_lookItems_1 : decode cX12_lookItems 1 = .ok (.getfield 7, 3) := by decide +kernel
theorem dX12_lookItems_4 : decode cX12_lookItems 4 = .ok (.iload_n 1, 1) := by decide +kernel
theorem dX12_lookItems_5 : decode cX12_lookItems 5 = .ok (.iaload, 1) := by decide +kernel
theorem dX12_lookItems_6 : decode cX12_lookItems 6 = .ok (.ifCond .ge 9, 3) := by decide +kernel
theorem dX12_lookItems_9 : decode cX12_lookItems 9 = .ok (.aload_n 0, 1) := by decide +kernel
theorem dX12_lookItems_10 : decode cX12_lookItems 10 = .ok (.iconst 1, 1) := by decide +kernel
theorem dX12_lookItems_11 : decode cX12_lookItems 11 = .ok (.invokevirtual 128, 3) := by decide +kernel
theorem dX12_lookItems_14 : decode cX12_lookItems 14 = .ok (.ireturn, 1) := by decide +kernel
theorem dX12_lookItems_15 : decode cX12_lookItems 15 = .ok (.iload_n 2, 1) := by decide +kernel
theorem dX12_lookItems_16 : decode cX12_lookItems 16 = .ok (.ifCond .lt 19, 3) := by decide +kernel
theorem dX12_lookItems_19 : decode cX12_lookItems 19 = .ok (.iload_n 2, 1) := by decide +kernel
theorem dX12_lookItems_20 : decode cX12_lookItems 20 = .ok (.i2l, 1) := by decide +kernel
theorem dX12_lookItems_21 : decode cX12_lookItems 21 = .ok (.iload_n 3, 1) := by decide +kernel
theorem dX12_lookItems_22 : decode cX12_lookItems 22 = .ok (.i2l, 1) := by decide +kernel
theorem dX12_lookItems_23 : decode cX12_lookItems 23 = .ok (.ladd, 1) := by decide +kernel
theorem dX12_lookItems_24 : decode cX12_lookItems 24 = .ok (.aload_n 0, 1) := by decide +kernel
theorem dX12_lookItems_25 : decode cX12_lookItems 25 = .ok (.getfield 13, 3) := by decide +kernel
theorem dX12_lookItems_28 : decode cX12_lookItems 28 = .ok (.iload_n 1, 1) := by decide +kernel
theorem dX12_lookItems_29 : decode cX12_lookItems 29 = .ok (.iaload, 1) := by decide +kernel
theorem dX12_lookItems_30 : decode cX12_lookItems 30 = .ok (.i2l, 1) := by decide +kernel
theorem dX12_lookItems_31 : decode cX12_lookItems 31 = .ok (.lcmp, 1) := by decide +kernel
theorem dX12_lookItems_32 : decode cX12_lookItems 32 = .ok (.ifCond .le 11, 3) := by decide +kernel
theorem dX12_lookItems_35 : decode cX12_lookItems 35 = .ok (.aload_n 0, 1) := by decide +kernel
theorem dX12_lookItems_36 : decode cX12_lookItems 36 = .ok (.iconst 2, 1) := by decide +kernel
theorem dX12_lookItems_37 : decode cX12_lookItems 37 = .ok (.invokevirtual 128, 3) := by decide +kernel
theorem dX12_lookItems_40 : decode cX12_lookItems 40 = .ok (.goto 4, 3) := by decide +kernel
theorem dX12_lookItems_43 : decode cX12_lookItems 43 = .ok (.iconst 0, 1) := by decide +kernel
theorem dX12_lookItems_44 : decode cX12_lookItems 44 = .ok (.ireturn, 1) := by decide +kernel
def bX12_lookItems_0 (f1 : ox_F) (rc : Nat → ox_K) : ox_K := o_al 0 (o_getr 12 2 (o_il 1 (o_ia (o_ifge (rc 15) (o_al 0 (o_ic (1) (o_cv f1 12 1 (o_iret))))))))
def bX12_lookItems_15 (f1 : ox_F) (rc : Nat → ox_K) : ox_K := o_il 2 (o_iflt (rc 35) (o_il 2 (o_i2l (o_il 3 (o_i2l (o_ladd (o_al 0 (o_getr 12 3 (o_il 1 (o_ia (o_i2l (o_lcmp (o_ifle (rc 43) (rc 35))))))))))))))
def bX12_lookItems_35 (f1 : ox_F) (rc : Nat → ox_K) : ox_K := o_al 0 (o_ic (2) (o_cv f1 12 1 (rc 44)))
def bX12_lookItems_43 (f1 : ox_F) (rc : Nat → ox_K) : ox_K := o_ic (0) (rc 44)
def bX12_lookItems_44 (f1 : ox_F) (rc : Nat → ox_K) : ox_K := o_iret
section SX12_lookItems
variable {p : Program} {l : Launch} {e : Env} {R : Room} {s : State} {m : MethodId} {args : Array Value} {below : List Frame} {meth : Method} {c : Code} {g : ox_G} {c0 t0 dp d1 : Nat} {rc : Nat → ox_K} {f1 : ox_F}
set_option maxRecDepth 100000 in
theorem kX12_lookItems_0 (C : ox_C p s m args c g 4 cX12_lookItems RX12) (hr : meth.sig.returnType = (some .int)) (hlk : meth.locks = false) (hnm : meth.name = "lookItems") (hR : R.frames = dp ∧ R.locals = 60 * dp) (h1 : ox_Sem yX12_finding cX12_finding 2 (some .int) d1 f1) (e1 : d1 + 1 ≤ dp) (hrc : ∀ b, ox_S p l e R s m args below meth c g 4 c0 t0 (ox_QM g below args s c0 t0) b (rc b)) : ox_S p l e R s m args below meth c g 4 c0 t0 (ox_QM g below args s c0 t0) 0 (bX12_lookItems_0 f1 rc) := by
  refine s_aload_n (pc := 0) C dX12_lookItems_0 rfl ?_
  refine s_getr (pc := 1) (j := 2) (q := (RX12, TX12, 59)) C rfl (by decide) rfl wF_X12_7 dX12_lookItems_1 ?_
  refine s_iload_n (pc := 4) C dX12_lookItems_4 rfl ?_
  refine s_ia (pc := 5) C dX12_lookItems_5 ?_
  refine s_ifge (pc := 6) 15 C dX12_lookItems_6 (by decide) (hrc 15) ?_
  refine s_aload_n (pc := 9) C dX12_lookItems_9 rfl ?_
  refine s_iconst (pc := 10) C dX12_lookItems_10 (by decide) ?_
  refine s_cv (pc := 11) (q := (RX12, TX12, 59)) C h1 rfl wM_X12_128 wI_X12_finding wS_X12_finding wN_X12 wC_X12_finding (by decide +kernel) (ox_lv hR e1 (by decide)) dX12_lookItems_11 ?_
  exact s_iret (pc := 14) C hr hlk dX12_lookItems_14
set_option maxRecDepth 100000 in
theorem kX12_lookItems_15 (C : ox_C p s m args c g 4 cX12_lookItems RX12) (hr : meth.sig.returnType = (some .int)) (hlk : meth.locks = false) (hnm : meth.name = "lookItems") (hR : R.frames = dp ∧ R.locals = 60 * dp) (h1 : ox_Sem yX12_finding cX12_finding 2 (some .int) d1 f1) (e1 : d1 + 1 ≤ dp) (hrc : ∀ b, ox_S p l e R s m args below meth c g 4 c0 t0 (ox_QM g below args s c0 t0) b (rc b)) : ox_S p l e R s m args below meth c g 4 c0 t0 (ox_QM g below args s c0 t0) 15 (bX12_lookItems_15 f1 rc) := by
  refine s_iload_n (pc := 15) C dX12_lookItems_15 rfl ?_
  refine s_iflt (pc := 16) 35 C dX12_lookItems_16 (by decide) (hrc 35) ?_
  refine s_iload_n (pc := 19) C dX12_lookItems_19 rfl ?_
  refine s_i2l (pc := 20) C dX12_lookItems_20 ?_
  refine s_iload_n (pc := 21) C dX12_lookItems_21 rfl ?_
  refine s_i2l (pc := 22) C dX12_lookItems_22 ?_
  refine s_ladd (pc := 23) C dX12_lookItems_23 ?_
  refine s_aload_n (pc := 24) C dX12_lookItems_24 rfl ?_
  refine s_getr (pc := 25) (j := 3) (q := (RX12, TX12, 59)) C rfl (by decide) rfl wF_X12_13 dX12_lookItems_25 ?_
  refine s_iload_n (pc := 28) C dX12_lookItems_28 rfl ?_
  refine s_ia (pc := 29) C dX12_lookItems_29 ?_
  refine s_i2l (pc := 30) C dX12_lookItems_30 ?_
  refine s_lcmp (pc := 31) C dX12_lookItems_31 ?_
  refine s_ifle (pc := 32) 43 C dX12_lookItems_32 (by decide) (hrc 43) ?_
  exact hrc 35
set_option maxRecDepth 100000 in
theorem kX12_lookItems_35 (C : ox_C p s m args c g 4 cX12_lookItems RX12) (hr : meth.sig.returnType = (some .int)) (hlk : meth.locks = false) (hnm : meth.name = "lookItems") (hR : R.frames = dp ∧ R.locals = 60 * dp) (h1 : ox_Sem yX12_finding cX12_finding 2 (some .int) d1 f1) (e1 : d1 + 1 ≤ dp) (hrc : ∀ b, ox_S p l e R s m args below meth c g 4 c0 t0 (ox_QM g below args s c0 t0) b (rc b)) : ox_S p l e R s m args below meth c g 4 c0 t0 (ox_QM g below args s c0 t0) 35 (bX12_lookItems_35 f1 rc) := by
  refine s_aload_n (pc := 35) C dX12_lookItems_35 rfl ?_
  refine s_iconst (pc := 36) C dX12_lookItems_36 (by decide) ?_
  refine s_cv (pc := 37) (q := (RX12, TX12, 59)) C h1 rfl wM_X12_128 wI_X12_finding wS_X12_finding wN_X12 wC_X12_finding (by decide +kernel) (ox_lv hR e1 (by decide)) dX12_lookItems_37 ?_
  exact s_goto (pc := 40) 44 C dX12_lookItems_40 (by decide) (hrc 44)
set_option maxRecDepth 100000 in
theorem kX12_lookItems_43 (C : ox_C p s m args c g 4 cX12_lookItems RX12) (hr : meth.sig.returnType = (some .int)) (hlk : meth.locks = false) (hnm : meth.name = "lookItems") (hR : R.frames = dp ∧ R.locals = 60 * dp) (h1 : ox_Sem yX12_finding cX12_finding 2 (some .int) d1 f1) (e1 : d1 + 1 ≤ dp) (hrc : ∀ b, ox_S p l e R s m args below meth c g 4 c0 t0 (ox_QM g below args s c0 t0) b (rc b)) : ox_S p l e R s m args below meth c g 4 c0 t0 (ox_QM g below args s c0 t0) 43 (bX12_lookItems_43 f1 rc) := by
  refine s_iconst (pc := 43) C dX12_lookItems_43 (by decide) ?_
  exact hrc 44
set_option maxRecDepth 100000 in
theorem kX12_lookItems_44 (C : ox_C p s m args c g 4 cX12_lookItems RX12) (hr : meth.sig.returnType = (some .int)) (hlk : meth.locks = false) (hnm : meth.name = "lookItems") (hR : R.frames = dp ∧ R.locals = 60 * dp) (h1 : ox_Sem yX12_finding cX12_finding 2 (some .int) d1 f1) (e1 : d1 + 1 ≤ dp) (hrc : ∀ b, ox_S p l e R s m args below meth c g 4 c0 t0 (ox_QM g below args s c0 t0) b (rc b)) : ox_S p l e R s m args below meth c g 4 c0 t0 (ox_QM g below args s c0 t0) 44 (bX12_lookItems_44 f1 rc) := by
  exact s_iret (pc := 44) C hr hlk dX12_lookItems_44
end SX12_lookItems
def bsX12_lookItems (f1 : ox_F) (b : Nat) (rc : Nat → ox_K) : ox_K := if b = 0 then bX12_lookItems_0 f1 rc else if b = 15 then bX12_lookItems_15 f1 rc else if b = 35 then bX12_lookItems_35 f1 rc else if b = 43 then bX12_lookItems_43 f1 rc else if b = 44 then bX12_lookItems_44 f1 rc else ox_no
theorem mX12_lookItems {dp d1 : Nat} {f1 f : ox_F} (h1 : ox_Sem yX12_finding cX12_finding 2 (some .int) d1 f1) (e1 : d1 + 1 ≤ dp) (hf : ∀ as h r, f as h = some r → ox_cs as ≤ 4 ∧ ox_le h r.2 ∧ ∃ n, ox_run (bsX12_lookItems f1) n 0 (lv_args 0 as) [] h = some r) : ox_Sem yX12_lookItems cX12_lookItems 4 (some .int) dp f := by
  refine ox_meth (bs := bsX12_lookItems f1) (by decide) hf ?_
  intro p l e R s m args below meth c g c0 t0 C hr hlk hnm hR rc hrc b
  unfold bsX12_lookItems
  refine ox_br (kX12_lookItems_0 C hr hlk hnm hR h1 e1 hrc) ?_
  refine ox_br (kX12_lookItems_15 C hr hlk hnm hR h1 e1 hrc) ?_
  refine ox_br (kX12_lookItems_35 C hr hlk hnm hR h1 e1 hrc) ?_
  refine ox_br (kX12_lookItems_43 C hr hlk hnm hR h1 e1 hrc) ?_
  refine ox_br (kX12_lookItems_44 C hr hlk hnm hR h1 e1 hrc) ?_
  exact s_no
theorem dX12_feed_0 : decode cX12_feed 0 = .ok (.aload_n 0, 1) := by decide +kernel
theorem dX12_feed_1 : decode cX12_feed 1 = .ok (.iconst 0, 1) := by decide +kernel
theorem dX12_feed_2 : decode cX12_feed 2 = .ok (.putfield 108, 3) := by decide +kernel
theorem dX12_feed_5 : decode cX12_feed 5 = .ok (.iload_n 3, 1) := by decide +kernel
theorem dX12_feed_6 : decode cX12_feed 6 = .ok (.i2l, 1) := by decide +kernel
theorem dX12_feed_7 : decode cX12_feed 7 = .ok (.lconst 1, 1) := by decide +kernel
theorem dX12_feed_8 : decode cX12_feed 8 = .ok (.ldc2_w 132, 3) := by decide +kernel
theorem dX12_feed_11 : decode cX12_feed 11 = .ok (.invokestatic 117, 3) := by decide +kernel
theorem dX12_feed_14 : decode cX12_feed 14 = .ok (.ifCond .ne 6, 3) := by decide +kernel
theorem dX12_feed_17 : decode cX12_feed 17 = .ok (.ldc 127, 2) := by decide +kernel
theorem dX12_feed_19 : decode cX12_feed 19 = .ok (.ireturn, 1) := by decide +kernel
theorem dX12_feed_20 : decode cX12_feed 20 = .ok (.aload_n 0, 1) := by decide +kernel
theorem dX12_feed_21 : decode cX12_feed 21 = .ok (.getfield 134, 3) := by decide +kernel
theorem dX12_feed_24 : decode cX12_feed 24 = .ok (.iload_n 3, 1) := by decide +kernel
theorem dX12_feed_25 : decode cX12_feed 25 = .ok (.iadd, 1) := by decide +kernel
theorem dX12_feed_26 : decode cX12_feed 26 = .ok (.sipush 400, 3) := by decide +kernel
theorem dX12_feed_29 : decode cX12_feed 29 = .ok (.if_icmp .le 6, 3) := by decide +kernel
theorem dX12_feed_32 : decode cX12_feed 32 = .ok (.ldc 137, 2) := by decide +kernel
theorem dX12_feed_34 : decode cX12_feed 34 = .ok (.ireturn, 1) := by decide +kernel
theorem dX12_feed_35 : decode cX12_feed 35 = .ok (.iload_n 3, 1) := by decide +kernel
theorem dX12_feed_36 : decode cX12_feed 36 = .ok (.iconst 1, 1) := by decide +kernel
theorem dX12_feed_37 : decode cX12_feed 37 = .ok (.isub, 1) := by decide +kernel
theorem dX12_feed_38 : decode cX12_feed 38 = .ok (.istore 4, 2) := by decide +kernel
theorem dX12_feed_40 : decode cX12_feed 40 = .ok (.iload 4, 2) := by decide +kernel
theorem dX12_feed_42 : decode cX12_feed 42 = .ok (.ifCond .lt 40, 3) := by decide +kernel
theorem dX12_feed_45 : decode cX12_feed 45 = .ok (.aload_n 0, 1) := by decide +kernel
theorem dX12_feed_46 : decode cX12_feed 46 = .ok (.getfield 37, 3) := by decide +kernel
theorem dX12_feed_49 : decode cX12_feed 49 = .ok (.aload_n 0, 1) := by decide +kernel
theorem dX12_feed_50 : decode cX12_feed 50 = .ok (.getfield 134, 3) := by decide +kernel
theorem dX12_feed_53 : decode cX12_feed 53 = .ok (.lload_n 1, 1) := by decide +kernel
theorem dX12_feed_54 : decode cX12_feed 54 = .ok (.bipush 8, 2) := by decide +kernel
theorem dX12_feed_56 : decode cX12_feed 56 = .ok (.iload 4, 2) := by decide +kernel
theorem dX12_feed_58 : decode cX12_feed 58 = .ok (.imul, 1) := by decide +kernel
theorem dX12_feed_59 : decode cX12_feed 59 = .ok (.lshr, 1) := by decide +kernel
theorem dX12_feed_60 : decode cX12_feed 60 = .ok (.ldc2_w 138, 3) := by decide +kernel
theorem dX12_feed_63 : decode cX12_feed 63 = .ok (.land, 1) := by decide +kernel
theorem dX12_feed_64 : decode cX12_feed 64 = .ok (.l2i, 1) := by decide +kernel
theorem dX12_feed_65 : decode cX12_feed 65 = .ok (.iastore, 1) := by decide +kernel
theorem dX12_feed_66 : decode cX12_feed 66 = .ok (.aload_n 0, 1) := by decide +kernel
theorem dX12_feed_67 : decode cX12_feed 67 = .ok (.dup, 1) := by decide +kernel
theorem dX12_feed_68 : decode cX12_feed 68 = .ok (.getfield 134, 3) := by decide +kernel
theorem dX12_feed_71 : decode cX12_feed 71 = .ok (.iconst 1, 1) := by decide +kernel
theorem dX12_feed_72 : decode cX12_feed 72 = .ok (.iadd, 1) := by decide +kernel
theorem dX12_feed_73 : decode cX12_feed 73 = .ok (.putfield 134, 3) := by decide +kernel
theorem dX12_feed_76 : decode cX12_feed 76 = .ok (.iinc 4 (-1), 3) := by decide +kernel
theorem dX12_feed_79 : decode cX12_feed 79 = .ok (.goto (-39), 3) := by decide +kernel
theorem dX12_feed_82 : decode cX12_feed 82 = .ok (.aload_n 0, 1) := by decide +kernel
theorem dX12_feed_83 : decode cX12_feed 83 = .ok (.getfield 134, 3) := by decide +kernel
theorem dX12_feed_86 : decode cX12_feed 86 = .ok (.ireturn, 1) := by decide +kernel
def bX12_feed_0 (f1 : ox_F) (rc : Nat → ox_K) : ox_K := o_al 0 (o_ic (0) (o_puti 12 0 (o_il 3 (o_i2l (o_lc (1) (o_lc (8) (o_ct f1 3 (o_ifne (rc 20) (o_ic (-1000001) (o_iret))))))))))
def bX12_feed_20 (f1 : ox_F) (rc : Nat → ox_K) : ox_K := o_al 0 (o_geti 12 14 (o_il 3 (o_iadd (o_ic (400) (o_icle (rc 35) (o_ic (-1000003) (o_iret)))))))
def bX12_feed_35 (f1 : ox_F) (rc : Nat → ox_K) : ox_K := o_il 3 (o_ic (1) (o_isub (o_is 4 (rc 40))))
def bX12_feed_40 (f1 : ox_F) (rc : Nat → ox_K) : ox_K := o_keep [0, 1, 4] (o_il 4 (o_iflt (rc 82) (o_al 0 (o_getr 12 13 (o_al 0 (o_geti 12 14 (o_ll 1 (o_ic (8) (o_il 4 (o_imul (o_lshr (o_lc (255) (o_land (o_l2i (o_iast (o_al 0 (o_dup (o_geti 12 14 (o_ic (1) (o_iadd (o_puti 12 14 (o_inc 4 (-1) (rc 40)))))))))))))))))))))))
def bX12_feed_82 (f1 : ox_F) (rc : Nat → ox_K) : ox_K := o_al 0 (o_geti 12 14 (o_iret))
section SX12_feed
variable {p : Program} {l : Launch} {e : Env} {R : Room} {s : State} {m : MethodId} {args : Array Value} {below : List Frame} {meth : Method} {c : Code} {g : ox_G} {c0 t0 dp d1 : Nat} {rc : Nat → ox_K} {f1 : ox_F}
set_option maxRecDepth 100000 in
theorem kX12_feed_0 (C : ox_C p s m args c g 5 cX12_feed RX12) (hr : meth.sig.returnType = (some .int)) (hlk : meth.locks = false) (hnm : meth.name = "feed") (hR : R.frames = dp ∧ R.locals = 60 * dp) (h1 : ox_Sem yX12_in cX12_in 6 (some .boolean) d1 f1) (e1 : d1 + 1 ≤ dp) (hrc : ∀ b, ox_S p l e R s m args below meth c g 5 c0 t0 (ox_QM g below args s c0 t0) b (rc b)) : ox_S p l e R s m args below meth c g 5 c0 t0 (ox_QM g below args s c0 t0) 0 (bX12_feed_0 f1 rc) := by
  refine s_aload_n (pc := 0) C dX12_feed_0 rfl ?_
  refine s_iconst (pc := 1) C dX12_feed_1 (by decide) ?_
  refine s_puti (pc := 2) (j := 0) (q := (RX12, TX12, 59)) C rfl (by decide) rfl (Or.inl rfl) wF_X12_108 dX12_feed_2 ?_
  refine s_iload_n (pc := 5) C dX12_feed_5 rfl ?_
  refine s_i2l (pc := 6) C dX12_feed_6 ?_
  refine s_lconst (pc := 7) C dX12_feed_7 (by decide) ?_
  refine s_ldc2 (pc := 8) C wL_X12_132 dX12_feed_8 ?_
  refine s_ct (pc := 11) C h1 wM_X12_117 wT_X12_in wN_X12 wC_X12_in (by decide +kernel) (ox_lv hR e1 (by decide)) dX12_feed_11 ?_
  refine s_ifne (pc := 14) 20 C dX12_feed_14 (by decide) (hrc 20) ?_
  refine s_ldc (pc := 17) C wK_X12_127 dX12_feed_17 ?_
  exact s_iret (pc := 19) C hr hlk dX12_feed_19
set_option maxRecDepth 100000 in
theorem kX12_feed_20 (C : ox_C p s m args c g 5 cX12_feed RX12) (hr : meth.sig.returnType = (some .int)) (hlk : meth.locks = false) (hnm : meth.name = "feed") (hR : R.frames = dp ∧ R.locals = 60 * dp) (h1 : ox_Sem yX12_in cX12_in 6 (some .boolean) d1 f1) (e1 : d1 + 1 ≤ dp) (hrc : ∀ b, ox_S p l e R s m args below meth c g 5 c0 t0 (ox_QM g below args s c0 t0) b (rc b)) : ox_S p l e R s m args below meth c g 5 c0 t0 (ox_QM g below args s c0 t0) 20 (bX12_feed_20 f1 rc) := by
  refine s_aload_n (pc := 20) C dX12_feed_20 rfl ?_
  refine s_geti (pc := 21) (j := 14) (q := (RX12, TX12, 59)) C rfl (by decide) rfl wF_X12_134 dX12_feed_21 ?_
  refine s_iload_n (pc := 24) C dX12_feed_24 rfl ?_
  refine s_iadd (pc := 25) C dX12_feed_25 ?_
  refine s_sipush (pc := 26) C dX12_feed_26 (by decide) ?_
  refine s_icmple (pc := 29) 35 C dX12_feed_29 (by decide) (hrc 35) ?_
  refine s_ldc (pc := 32) C wK_X12_137 dX12_feed_32 ?_
  exact s_iret (pc := 34) C hr hlk dX12_feed_34
set_option maxRecDepth 100000 in
theorem kX12_feed_35 (C : ox_C p s m args c g 5 cX12_feed RX12) (hr : meth.sig.returnType = (some .int)) (hlk : meth.locks = false) (hnm : meth.name = "feed") (hR : R.frames = dp ∧ R.locals = 60 * dp) (h1 : ox_Sem yX12_in cX12_in 6 (some .boolean) d1 f1) (e1 : d1 + 1 ≤ dp) (hrc : ∀ b, ox_S p l e R s m args below meth c g 5 c0 t0 (ox_QM g below args s c0 t0) b (rc b)) : ox_S p l e R s m args below meth c g 5 c0 t0 (ox_QM g below args s c0 t0) 35 (bX12_feed_35 f1 rc) := by
  refine s_iload_n (pc := 35) C dX12_feed_35 rfl ?_
  refine s_iconst (pc := 36) C dX12_feed_36 (by decide) ?_
  refine s_isub (pc := 37) C dX12_feed_37 ?_
  refine s_istore (pc := 38) C dX12_feed_38 (by decide) ?_
  exact hrc 40
set_option maxRecDepth 100000 in
theorem kX12_feed_40 (C : ox_C p s m args c g 5 cX12_feed RX12) (hr : meth.sig.returnType = (some .int)) (hlk : meth.locks = false) (hnm : meth.name = "feed") (hR : R.frames = dp ∧ R.locals = 60 * dp) (h1 : ox_Sem yX12_in cX12_in 6 (some .boolean) d1 f1) (e1 : d1 + 1 ≤ dp) (hrc : ∀ b, ox_S p l e R s m args below meth c g 5 c0 t0 (ox_QM g below args s c0 t0) b (rc b)) : ox_S p l e R s m args below meth c g 5 c0 t0 (ox_QM g below args s c0 t0) 40 (bX12_feed_40 f1 rc) := by
  refine s_keep ?_
  refine s_iload (pc := 40) C dX12_feed_40 ?_
  refine s_iflt (pc := 42) 82 C dX12_feed_42 (by decide) (hrc 82) ?_
  refine s_aload_n (pc := 45) C dX12_feed_45 rfl ?_
  refine s_getr (pc := 46) (j := 13) (q := (RX12, TX12, 59)) C rfl (by decide) rfl wF_X12_37 dX12_feed_46 ?_
  refine s_aload_n (pc := 49) C dX12_feed_49 rfl ?_
  refine s_geti (pc := 50) (j := 14) (q := (RX12, TX12, 59)) C rfl (by decide) rfl wF_X12_134 dX12_feed_50 ?_
  refine s_lload_n (pc := 53) C dX12_feed_53 rfl ?_
  refine s_bipush (pc := 54) C dX12_feed_54 (by decide) ?_
  refine s_iload (pc := 56) C dX12_feed_56 ?_
  refine s_imul (pc := 58) C dX12_feed_58 ?_
  refine s_lshr (pc := 59) C dX12_feed_59 ?_
  refine s_ldc2 (pc := 60) C wL_X12_138 dX12_feed_60 ?_
  refine s_land (pc := 63) C dX12_feed_63 ?_
  refine s_l2i (pc := 64) C dX12_feed_64 ?_
  refine s_iast (pc := 65) C dX12_feed_65 ?_
  refine s_aload_n (pc := 66) C dX12_feed_66 rfl ?_
  refine s_dup (pc := 67) C dX12_feed_67 ?_
  refine s_geti (pc := 68) (j := 14) (q := (RX12, TX12, 59)) C rfl (by decide) rfl wF_X12_134 dX12_feed_68 ?_
  refine s_iconst (pc := 71) C dX12_feed_71 (by decide) ?_
  refine s_iadd (pc := 72) C dX12_feed_72 ?_
  refine s_puti (pc := 73) (j := 14) (q := (RX12, TX12, 59)) C rfl (by decide) rfl (Or.inl rfl) wF_X12_134 dX12_feed_73 ?_
  refine s_iinc (pc := 76) C dX12_feed_76 (by decide) (by decide) ?_
  exact s_goto (pc := 79) 40 C dX12_feed_79 (by decide) (hrc 40)
set_option maxRecDepth 100000 in
theorem kX12_feed_82 (C : ox_C p s m args c g 5 cX12_feed RX12) (hr : meth.sig.returnType = (some .int)) (hlk : meth.locks = false) (hnm : meth.name = "feed") (hR : R.frames = dp ∧ R.locals = 60 * dp) (h1 : ox_Sem yX12_in cX12_in 6 (some .boolean) d1 f1) (e1 : d1 + 1 ≤ dp) (hrc : ∀ b, ox_S p l e R s m args below meth c g 5 c0 t0 (ox_QM g below args s c0 t0) b (rc b)) : ox_S p l e R s m args below meth c g 5 c0 t0 (ox_QM g below args s c0 t0) 82 (bX12_feed_82 f1 rc) := by
  refine s_aload_n (pc := 82) C dX12_feed_82 rfl ?_
  refine s_geti (pc := 83) (j := 14) (q := (RX12, TX12, 59)) C rfl (by decide) rfl wF_X12_134 dX12_feed_83 ?_
  exact s_iret (pc := 86) C hr hlk dX12_feed_86
end SX12_feed
def bsX12_feed (f1 : ox_F) (b : Nat) (rc : Nat → ox_K) : ox_K := if b = 0 then bX12_feed_0 f1 rc else if b = 20 then bX12_feed_20 f1 rc else if b = 35 then bX12_feed_35 f1 rc else if b = 40 then bX12_feed_40 f1 rc else if b = 82 then bX12_feed_82 f1 rc else ox_no
theorem mX12_feed {dp d1 : Nat} {f1 f : ox_F} (h1 : ox_Sem yX12_in cX12_in 6 (some .boolean) d1 f1) (e1 : d1 + 1 ≤ dp) (hf : ∀ as h r, f as h = some r → ox_cs as ≤ 5 ∧ ox_le h r.2 ∧ ∃ n, ox_run (bsX12_feed f1) n 0 (lv_args 0 as) [] h = some r) : ox_Sem yX12_feed cX12_feed 5 (some .int) dp f := by
  refine ox_meth (bs := bsX12_feed f1) (by decide) hf ?_
  intro p l e R s m args below meth c g c0 t0 C hr hlk hnm hR rc hrc b
  unfold bsX12_feed
  refine ox_br (kX12_feed_0 C hr hlk hnm hR h1 e1 hrc) ?_
  refine ox_br (kX12_feed_20 C hr hlk hnm hR h1 e1 hrc) ?_
  refine ox_br (kX12_feed_35 C hr hlk hnm hR h1 e1 hrc) ?_
  refine ox_br (kX12_feed_40 C hr hlk hnm hR h1 e1 hrc) ?_
  refine ox_br (kX12_feed_82 C hr hlk hnm hR h1 e1 hrc) ?_
  exact s_no
theorem dX12_byteAt_0 : decode cX12_byteAt 0 = .ok (.iload_n 1, 1) := by decide +kernel
theorem dX12_byteAt_1 : decode cX12_byteAt 1 = .ok (.aload_n 0, 1) := by decide +kernel
theorem dX12_byteAt_2 : decode cX12_byteAt 2 = .ok (.getfield 140, 3) := by decide +kernel
theorem dX12_byteAt_5 : decode cX12_byteAt 5 = .ok (.if_icmp .ge 12, 3) := by decide +kernel
theorem dX12_byteAt_8 : decode cX12_byteAt 8 = .ok (.aload_n 0, 1) := by decide +kernel
theorem dX12_byteAt_9 : decode cX12_byteAt 9 = .ok (.getfield 37, 3) := by decide +kernel
theorem dX12_byteAt_12 : decode cX12_byteAt 12 = .ok (.iload_n 1, 1) := by decide +kernel
theorem dX12_byteAt_13 : decode cX12_byteAt 13 = .ok (.iaload, 1) := by decide +kernel
theorem dX12_byteAt_14 : decode cX12_byteAt 14 = .ok (.goto 5, 3) := by decide +kernel
theorem dX12_byteAt_17 : decode cX12_byteAt 17 = .ok (.ldc 143, 2) := by decide +kernel
theorem dX12_byteAt_19 : decode cX12_byteAt 19 = .ok (.ireturn, 1) := by decide +kernel
def bX12_byteAt_0 (rc : Nat → ox_K) : ox_K := o_il 1 (o_al 0 (o_geti 12 16 (o_icge (rc 17) (o_al 0 (o_getr 12 13 (o_il 1 (o_ia (rc 19))))))))
def bX12_byteAt_17 (rc : Nat → ox_K) : ox_K := o_ic (-1000000) (rc 19)
def bX12_byteAt_19 (rc : Nat → ox_K) : ox_K := o_iret
section SX12_byteAt
variable {p : Program} {l : Launch} {e : Env} {R : Room} {s : State} {m : MethodId} {args : Array Value} {below : List Frame} {meth : Method} {c : Code} {g : ox_G} {c0 t0 dp  : Nat} {rc : Nat → ox_K}
set_option maxRecDepth 100000 in
theorem kX12_byteAt_0 (C : ox_C p s m args c g 2 cX12_byteAt RX12) (hr : meth.sig.returnType = (some .int)) (hlk : meth.locks = false) (hnm : meth.name = "byteAt") (hR : R.frames = dp ∧ R.locals = 60 * dp) (hrc : ∀ b, ox_S p l e R s m args below meth c g 2 c0 t0 (ox_QM g below args s c0 t0) b (rc b)) : ox_S p l e R s m args below meth c g 2 c0 t0 (ox_QM g below args s c0 t0) 0 (bX12_byteAt_0 rc) := by
  refine s_iload_n (pc := 0) C dX12_byteAt_0 rfl ?_
  refine s_aload_n (pc := 1) C dX12_byteAt_1 rfl ?_
  refine s_geti (pc := 2) (j := 16) (q := (RX12, TX12, 59)) C rfl (by decide) rfl wF_X12_140 dX12_byteAt_2 ?_
  refine s_icmpge (pc := 5) 17 C dX12_byteAt_5 (by decide) (hrc 17) ?_
  refine s_aload_n (pc := 8) C dX12_byteAt_8 rfl ?_
  refine s_getr (pc := 9) (j := 13) (q := (RX12, TX12, 59)) C rfl (by decide) rfl wF_X12_37 dX12_byteAt_9 ?_
  refine s_iload_n (pc := 12) C dX12_byteAt_12 rfl ?_
  refine s_ia (pc := 13) C dX12_byteAt_13 ?_
  exact s_goto (pc := 14) 19 C dX12_byteAt_14 (by decide) (hrc 19)
set_option maxRecDepth 100000 in
theorem kX12_byteAt_17 (C : ox_C p s m args c g 2 cX12_byteAt RX12) (hr : meth.sig.returnType = (some .int)) (hlk : meth.locks = false) (hnm : meth.name = "byteAt") (hR : R.frames = dp ∧ R.locals = 60 * dp) (hrc : ∀ b, ox_S p l e R s m args below meth c g 2 c0 t0 (ox_QM g below args s c0 t0) b (rc b)) : ox_S p l e R s m args below meth c g 2 c0 t0 (ox_QM g below args s c0 t0) 17 (bX12_byteAt_17 rc) := by
  refine s_ldc (pc := 17) C wK_X12_143 dX12_byteAt_17 ?_
  exact hrc 19
set_option maxRecDepth 100000 in
theorem kX12_byteAt_19 (C : ox_C p s m args c g 2 cX12_byteAt RX12) (hr : meth.sig.returnType = (some .int)) (hlk : meth.locks = false) (hnm : meth.name = "byteAt") (hR : R.frames = dp ∧ R.locals = 60 * dp) (hrc : ∀ b, ox_S p l e R s m args below meth c g 2 c0 t0 (ox_QM g below args s c0 t0) b (rc b)) : ox_S p l e R s m args below meth c g 2 c0 t0 (ox_QM g below args s c0 t0) 19 (bX12_byteAt_19 rc) := by
  exact s_iret (pc := 19) C hr hlk dX12_byteAt_19
end SX12_byteAt
def bsX12_byteAt (b : Nat) (rc : Nat → ox_K) : ox_K := if b = 0 then bX12_byteAt_0 rc else if b = 17 then bX12_byteAt_17 rc else if b = 19 then bX12_byteAt_19 rc else ox_no
theorem mX12_byteAt {dp  : Nat} {f : ox_F} (hf : ∀ as h r, f as h = some r → ox_cs as ≤ 2 ∧ ox_le h r.2 ∧ ∃ n, ox_run (bsX12_byteAt) n 0 (lv_args 0 as) [] h = some r) : ox_Sem yX12_byteAt cX12_byteAt 2 (some .int) dp f := by
  refine ox_meth (bs := bsX12_byteAt) (by decide) hf ?_
  intro p l e R s m args below meth c g c0 t0 C hr hlk hnm hR rc hrc b
  unfold bsX12_byteAt
  refine ox_br (kX12_byteAt_0 C hr hlk hnm hR hrc) ?_
  refine ox_br (kX12_byteAt_17 C hr hlk hnm hR hrc) ?_
  refine ox_br (kX12_byteAt_19 C hr hlk hnm hR hrc) ?_
  exact s_no
theorem dX12_isLetter_0 : decode cX12_isLetter 0 = .ok (.iload_n 0, 1) := by decide +kernel
theorem dX12_isLetter_1 : decode cX12_isLetter 1 = .ok (.bipush 97, 2) := by decide +kernel
theorem dX12_isLetter_3 : decode cX12_isLetter 3 = .ok (.if_icmp .lt 13, 3) := by decide +kernel
theorem dX12_isLetter_6 : decode cX12_isLetter 6 = .ok (.iload_n 0, 1) := by decide +kernel
theorem dX12_isLetter_7 : decode cX12_isLetter 7 = .ok (.bipush 122, 2) := by decide +kernel
theorem dX12_isLetter_9 : decode cX12_isLetter 9 = .ok (.if_icmp .gt 7, 3) := by decide +kernel
theorem dX12_isLetter_12 : decode cX12_isLetter 12 = .ok (.iconst 1, 1) := by decide +kernel
theorem dX12_isLetter_13 : decode cX12_isLetter 13 = .ok (.goto 4, 3) := by decide +kernel
theorem dX12_isLetter_16 : decode cX12_isLetter 16 = .ok (.iconst 0, 1) := by decide +kernel
theorem dX12_isLetter_17 : decode cX12_isLetter 17 = .ok (.ireturn, 1) := by decide +kernel
def bX12_isLetter_0 (rc : Nat → ox_K) : ox_K := o_il 0 (o_ic (97) (o_iclt (rc 16) (o_il 0 (o_ic (122) (o_icgt (rc 16) (o_ic (1) (rc 17)))))))
def bX12_isLetter_16 (rc : Nat → ox_K) : ox_K := o_ic (0) (rc 17)
def bX12_isLetter_17 (rc : Nat → ox_K) : ox_K := o_zret
section SX12_isLetter
variable {p : Program} {l : Launch} {e : Env} {R : Room} {s : State} {m : MethodId} {args : Array Value} {below : List Frame} {meth : Method} {c : Code} {g : ox_G} {c0 t0 dp  : Nat} {rc : Nat → ox_K}
set_option maxRecDepth 100000 in
theorem kX12_isLetter_0 (C : ox_C p s m args c g 1 cX12_isLetter RX12) (hr : meth.sig.returnType = (some .boolean)) (hlk : meth.locks = false) (hnm : meth.name = "isLetter") (hR : R.frames = dp ∧ R.locals = 60 * dp) (hrc : ∀ b, ox_S p l e R s m args below meth c g 1 c0 t0 (ox_QM g below args s c0 t0) b (rc b)) : ox_S p l e R s m args below meth c g 1 c0 t0 (ox_QM g below args s c0 t0) 0 (bX12_isLetter_0 rc) := by
  refine s_iload_n (pc := 0) C dX12_isLetter_0 rfl ?_
  refine s_bipush (pc := 1) C dX12_isLetter_1 (by decide) ?_
  refine s_icmplt (pc := 3) 16 C dX12_isLetter_3 (by decide) (hrc 16) ?_
  refine s_iload_n (pc := 6) C dX12_isLetter_6 rfl ?_
  refine s_bipush (pc := 7) C dX12_isLetter_7 (by decide) ?_
  refine s_icmpgt (pc := 9) 16 C dX12_isLetter_9 (by decide) (hrc 16) ?_
  refine s_iconst (pc := 12) C dX12_isLetter_12 (by decide) ?_
  exact s_goto (pc := 13) 17 C dX12_isLetter_13 (by decide) (hrc 17)
set_option maxRecDepth 100000 in
theorem kX12_isLetter_16 (C : ox_C p s m args c g 1 cX12_isLetter RX12) (hr : meth.sig.returnType = (some .boolean)) (hlk : meth.locks = false) (hnm : meth.name = "isLetter") (hR : R.frames = dp ∧ R.locals = 60 * dp) (hrc : ∀ b, ox_S p l e R s m args below meth c g 1 c0 t0 (ox_QM g below args s c0 t0) b (rc b)) : ox_S p l e R s m args below meth c g 1 c0 t0 (ox_QM g below args s c0 t0) 16 (bX12_isLetter_16 rc) := by
  refine s_iconst (pc := 16) C dX12_isLetter_16 (by decide) ?_
  exact hrc 17
set_option maxRecDepth 100000 in
theorem kX12_isLetter_17 (C : ox_C p s m args c g 1 cX12_isLetter RX12) (hr : meth.sig.returnType = (some .boolean)) (hlk : meth.locks = false) (hnm : meth.name = "isLetter") (hR : R.frames = dp ∧ R.locals = 60 * dp) (hrc : ∀ b, ox_S p l e R s m args below meth c g 1 c0 t0 (ox_QM g below args s c0 t0) b (rc b)) : ox_S p l e R s m args below meth c g 1 c0 t0 (ox_QM g below args s c0 t0) 17 (bX12_isLetter_17 rc) := by
  exact s_zret (pc := 17) C hr (by decide) hlk dX12_isLetter_17
end SX12_isLetter
def bsX12_isLetter (b : Nat) (rc : Nat → ox_K) : ox_K := if b = 0 then bX12_isLetter_0 rc else if b = 16 then bX12_isLetter_16 rc else if b = 17 then bX12_isLetter_17 rc else ox_no
theorem mX12_isLetter {dp  : Nat} {f : ox_F} (hf : ∀ as h r, f as h = some r → ox_cs as ≤ 1 ∧ ox_le h r.2 ∧ ∃ n, ox_run (bsX12_isLetter) n 0 (lv_args 0 as) [] h = some r) : ox_Sem yX12_isLetter cX12_isLetter 1 (some .boolean) dp f := by
  refine ox_meth (bs := bsX12_isLetter) (by decide) hf ?_
  intro p l e R s m args below meth c g c0 t0 C hr hlk hnm hR rc hrc b
  unfold bsX12_isLetter
  refine ox_br (kX12_isLetter_0 C hr hlk hnm hR hrc) ?_
  refine ox_br (kX12_isLetter_16 C hr hlk hnm hR hrc) ?_
  refine ox_br (kX12_isLetter_17 C hr hlk hnm hR hrc) ?_
  exact s_no
theorem dX12_isFigure_0 : decode cX12_isFigure 0 = .ok (.iload_n 0, 1) := by decide +kernel
theorem dX12_isFigure_1 : decode cX12_isFigure 1 = .ok (.bipush 48, 2) := by decide +kernel
theorem dX12_isFigure_3 : decode cX12_isFigure 3 = .ok (.if_icmp .lt 13, 3) := by decide +kernel
theorem dX12_isFigure_6 : decode cX12_isFigure 6 = .ok (.iload_n 0, 1) := by decide +kernel
theorem dX12_isFigure_7 : decode cX12_isFigure 7 = .ok (.bipush 57, 2) := by decide +kernel
theorem dX12_isFigure_9 : decode cX12_isFigure 9 = .ok (.if_icmp .gt 7, 3) := by decide +kernel
theorem dX12_isFigure_12 : decode cX12_isFigure 12 = .ok (.iconst 1, 1) := by decide +kernel
theorem dX12_isFigure_13 : decode cX12_isFigure 13 = .ok (.goto 4, 3) := by decide +kernel
theorem dX12_isFigure_16 : decode cX12_isFigure 16 = .ok (.iconst 0, 1) := by decide +kernel
theorem dX12_isFigure_17 : decode cX12_isFigure 17 = .ok (.ireturn, 1) := by decide +kernel
def bX12_isFigure_0 (rc : Nat → ox_K) : ox_K := o_il 0 (o_ic (48) (o_iclt (rc 16) (o_il 0 (o_ic (57) (o_icgt (rc 16) (o_ic (1) (rc 17)))))))
def bX12_isFigure_16 (rc : Nat → ox_K) : ox_K := o_ic (0) (rc 17)
def bX12_isFigure_17 (rc : Nat → ox_K) : ox_K := o_zret
section SX12_isFigure
variable {p : Program} {l : Launch} {e : Env} {R : Room} {s : State} {m : MethodId} {args : Array Value} {below : List Frame} {meth : Method} {c : Code} {g : ox_G} {c0 t0 dp  : Nat} {rc : Nat → ox_K}
set_option maxRecDepth 100000 in
theorem kX12_isFigure_0 (C : ox_C p s m args c g 1 cX12_isFigure RX12) (hr : meth.sig.returnType = (some .boolean)) (hlk : meth.locks = false) (hnm : meth.name = "isFigure") (hR : R.frames = dp ∧ R.locals = 60 * dp) (hrc : ∀ b, ox_S p l e R s m args below meth c g 1 c0 t0 (ox_QM g below args s c0 t0) b (rc b)) : ox_S p l e R s m args below meth c g 1 c0 t0 (ox_QM g below args s c0 t0) 0 (bX12_isFigure_0 rc) := by
  refine s_iload_n (pc := 0) C dX12_isFigure_0 rfl ?_
  refine s_bipush (pc := 1) C dX12_isFigure_1 (by decide) ?_
  refine s_icmplt (pc := 3) 16 C dX12_isFigure_3 (by decide) (hrc 16) ?_
  refine s_iload_n (pc := 6) C dX12_isFigure_6 rfl ?_
  refine s_bipush (pc := 7) C dX12_isFigure_7 (by decide) ?_
  refine s_icmpgt (pc := 9) 16 C dX12_isFigure_9 (by decide) (hrc 16) ?_
  refine s_iconst (pc := 12) C dX12_isFigure_12 (by decide) ?_
  exact s_goto (pc := 13) 17 C dX12_isFigure_13 (by decide) (hrc 17)
set_option maxRecDepth 100000 in
theorem kX12_isFigure_16 (C : ox_C p s m args c g 1 cX12_isFigure RX12) (hr : meth.sig.returnType = (some .boolean)) (hlk : meth.locks = false) (hnm : meth.name = "isFigure") (hR : R.frames = dp ∧ R.locals = 60 * dp) (hrc : ∀ b, ox_S p l e R s m args below meth c g 1 c0 t0 (ox_QM g below args s c0 t0) b (rc b)) : ox_S p l e R s m args below meth c g 1 c0 t0 (ox_QM g below args s c0 t0) 16 (bX12_isFigure_16 rc) := by
  refine s_iconst (pc := 16) C dX12_isFigure_16 (by decide) ?_
  exact hrc 17
set_option maxRecDepth 100000 in
theorem kX12_isFigure_17 (C : ox_C p s m args c g 1 cX12_isFigure RX12) (hr : meth.sig.returnType = (some .boolean)) (hlk : meth.locks = false) (hnm : meth.name = "isFigure") (hR : R.frames = dp ∧ R.locals = 60 * dp) (hrc : ∀ b, ox_S p l e R s m args below meth c g 1 c0 t0 (ox_QM g below args s c0 t0) b (rc b)) : ox_S p l e R s m args below meth c g 1 c0 t0 (ox_QM g below args s c0 t0) 17 (bX12_isFigure_17 rc) := by
  exact s_zret (pc := 17) C hr (by decide) hlk dX12_isFigure_17
end SX12_isFigure
def bsX12_isFigure (b : Nat) (rc : Nat → ox_K) : ox_K := if b = 0 then bX12_isFigure_0 rc else if b = 16 then bX12_isFigure_16 rc else if b = 17 then bX12_isFigure_17 rc else ox_no
theorem mX12_isFigure {dp  : Nat} {f : ox_F} (hf : ∀ as h r, f as h = some r → ox_cs as ≤ 1 ∧ ox_le h r.2 ∧ ∃ n, ox_run (bsX12_isFigure) n 0 (lv_args 0 as) [] h = some r) : ox_Sem yX12_isFigure cX12_isFigure 1 (some .boolean) dp f := by
  refine ox_meth (bs := bsX12_isFigure) (by decide) hf ?_
  intro p l e R s m args below meth c g c0 t0 C hr hlk hnm hR rc hrc b
  unfold bsX12_isFigure
  refine ox_br (kX12_isFigure_0 C hr hlk hnm hR hrc) ?_
  refine ox_br (kX12_isFigure_16 C hr hlk hnm hR hrc) ?_
  refine ox_br (kX12_isFigure_17 C hr hlk hnm hR hrc) ?_
  exact s_no
theorem dX12_step_0 : decode cX12_step 0 = .ok (.aload_n 0, 1) := by decide +kernel
theorem dX12_step_1 : decode cX12_step 1 = .ok (.aload_n 0, 1) := by decide +kernel
theorem dX12_step_2 : decode cX12_step 2 = .ok (.getfield 144, 3) := by decide +kernel
theorem dX12_step_5 : decode cX12_step 5 = .ok (.invokevirtual 147, 3) := by decide +kernel
theorem dX12_step_8 : decode cX12_step 8 = .ok (.bipush 32, 2) := by decide +kernel
theorem dX12_step_10 : decode cX12_step 10 = .ok (.if_icmp .eq 16, 3) := by decide +kernel
theorem dX12_step_13 : decode cX12_step 13 = .ok (.aload_n 0, 1) := by decide +kernel
theorem dX12_step_14 : decode cX12_step 14 = .ok (.aload_n 0, 1) := by decide +kernel
theorem dX12_step_15 : decode cX12_step 15 = .ok (.getfield 144, 3) := by decide +kernel
theorem dX12_step_18 : decode cX12_step 18 = .ok (.invokevirtual 147, 3) := by decide +kernel
theorem dX12_step_21 : decode cX12_step 21 = .ok (.bipush 10, 2) := by decide +kernel
theorem dX12_step_23 : decode cX12_step 23 = .ok (.if_icmp .ne 16, 3) := by decide +kernel
theorem dX12_step_26 : decode cX12_step 26 = .ok (.aload_n 0, 1) := by decide +kernel
theorem dX12_step_27 : decode cX12_step 27 = .ok (.dup, 1) := by decide +kernel
theorem dX12_step_28 : decode cX12_step 28 = .ok (.getfield 144, 3) := by decide +kernel
theorem dX12_step_31 : decode cX12_step 31 = .ok (.iconst 1, 1) := by decide +kernel
theorem dX12_step_32 : decode cX12_step 32 = .ok (.iadd, 1) := by decide +kernel
theorem dX12_step_33 : decode cX12_step 33 = .ok (.putfield 144, 3) := by decide +kernel
theorem dX12_step_36 : decode cX12_step 36 = .ok (.goto (-36), 3) := by decide +kernel
theorem dX12_step_39 : decode cX12_step 39 = .ok (.aload_n 0, 1) := by decide +kernel
theorem dX12_step_40 : decode cX12_step 40 = .ok (.aload_n 0, 1) := by decide +kernel
theorem dX12_step_41 : decode cX12_step 41 = .ok (.getfield 144, 3) := by decide +kernel
theorem dX12_step_44 : decode cX12_step 44 = .ok (.putfield 150, 3) := by decide +kernel
theorem dX12_step_47 : decode cX12_step 47 = .ok (.aload_n 0, 1) := by decide +kernel
theorem dX12_step_48 : decode cX12_step 48 = .ok (.aload_n 0, 1) := by decide +kernel
theorem dX12_step_49 : decode cX12_step 49 = .ok (.getfield 144, 3) := by decide +kernel
theorem dX12_step_52 : decode cX12_step 52 = .ok (.invokevirtual 147, 3) := by decide +kernel
theorem dX12_step_55 : decode cX12_step 55 = .ok (.istore_n 1, 1) := by decide +kernel
theorem dX12_step_56 : decode cX12_step 56 = .ok (.iload_n 1, 1) := by decide +kernel
theorem dX12_step_57 : decode cX12_step 57 = .ok (.ldc 143, 2) := by decide +kernel
theorem dX12_step_59 : decode cX12_step 59 = .ok (.if_icmp .ne 11, 3) := by decide +kernel
theorem dX12_step_62 : decode cX12_step 62 = .ok (.aload_n 0, 1) := by decide +kernel
theorem dX12_step_63 : decode cX12_step 63 = .ok (.iconst 1, 1) := by decide +kernel
theorem dX12_step_64 : decode cX12_step 64 = .ok (.putfield 153, 3) := by decide +kernel
theorem dX12_step_67 : decode cX12_step 67 = .ok (.goto 129, 3) := by decide +kernel
theorem dX12_step_70 : decode cX12_step 70 = .ok (.iload_n 1, 1) := by decide +kernel
theorem dX12_step_71 : decode cX12_step 71 = .ok (.invokestatic 156, 3) := by decide +kernel
theorem dX12_step_74 : decode cX12_step 74 = .ok (.ifCond .eq 38, 3) := by decide +kernel
theorem dX12_step_77 : decode cX12_step 77 = .ok (.aload_n 0, 1) := by decide +kernel
theorem dX12_step_78 : decode cX12_step 78 = .ok (.aload_n 0, 1) := by decide +kernel
theorem dX12_step_79 : decode cX12_step 79 = .ok (.getfield 144, 3) := by decide +kernel
theorem dX12_step_82 : decode cX12_step 82 = .ok (.invokevirtual 147, 3) := by decide +kernel
theorem dX12_step_85 : decode cX12_step 85 = .ok (.invokestatic 156, 3) := by decide +kernel
theorem dX12_step_88 : decode cX12_step 88 = .ok (.ifCond .eq 16, 3) := by decide +kernel
theorem dX12_step_91 : decode cX12_step 91 = .ok (.aload_n 0, 1) := by decide +kernel
theorem dX12_step_92 : decode cX12_step 92 = .ok (.dup, 1) := by decide +kernel
theorem dX12_step_93 : decode cX12_step 93 = .ok (.getfield 144, 3) := by decide +kernel
theorem dX12_step_96 : decode cX12_step 96 = .ok (.iconst 1, 1) := by decide +kernel
theorem dX12_step_97 : decode cX12_step 97 = .ok (.iadd, 1) := by decide +kernel
theorem dX12_step_98 : decode cX12_step 98 = .ok (.putfield 144, 3) := by decide +kernel
theorem dX12_step_101 : decode cX12_step 101 = .ok (.goto (-24), 3) := by decide +kernel
theorem dX12_step_104 : decode cX12_step 104 = .ok (.aload_n 0, 1) := by decide +kernel
theorem dX12_step_105 : decode cX12_step 105 = .ok (.iconst 2, 1) := by decide +kernel
theorem dX12_step_106 : decode cX12_step 106 = .ok (.putfield 153, 3) := by decide +kernel
theorem dX12_step_109 : decode cX12_step 109 = .ok (.goto 87, 3) := by decide +kernel
theorem dX12_step_112 : decode cX12_step 112 = .ok (.iload_n 1, 1) := by decide +kernel
theorem dX12_step_113 : decode cX12_step 113 = .ok (.invokestatic 159, 3) := by decide +kernel
theorem dX12_step_116 : decode cX12_step 116 = .ok (.ifCond .eq 55, 3) := by decide +kernel
theorem dX12_step_119 : decode cX12_step 119 = .ok (.aload_n 0, 1) := by decide +kernel
theorem dX12_step_120 : decode cX12_step 120 = .ok (.aload_n 0, 1) := by decide +kernel
theorem dX12_step_121 : decode cX12_step 121 = .ok (.getfield 144, 3) := by decide +kernel
theorem dX12_step_124 : decode cX12_step 124 = .ok (.invokevirtual 147, 3) := by decide +kernel
theorem dX12_step_127 : decode cX12_step 127 = .ok (.invokestatic 159, 3) := by decide +kernel
theorem dX12_step_130 : decode cX12_step 130 = .ok (.ifCond .eq 16, 3) := by decide +kernel
theorem dX12_step_133 : decode cX12_step 133 = .ok (.aload_n 0, 1) := by decide +kernel
theorem dX12_step_134 : decode cX12_step 134 = .ok (.dup, 1) := by decide +kernel
theorem dX12_step_135 : decode cX12_step 135 = .ok (.getfield 144, 3) := by decide +kernel
theorem dX12_step_138 : decode cX12_step 138 = .ok (.iconst 1, 1) := by decide +kernel
theorem dX12_step_139 : decode cX12_step 139 = .ok (.iadd, 1) := by decide +kernel
theorem dX12_step_140 : decode cX12_step 140 = .ok (.putfield 144, 3) := by decide +kernel
theorem dX12_step_143 : decode cX12_step 143 = .ok (.goto (-24), 3) := by decide +kernel
theorem dX12_step_146 : decode cX12_step 146 = .ok (.aload_n 0, 1) := by decide +kernel
theorem dX12_step_147 : decode cX12_step 147 = .ok (.aload_n 0, 1) := by decide +kernel
theorem dX12_step_148 : decode cX12_step 148 = .ok (.getfield 144, 3) := by decide +kernel
theorem dX12_step_151 : decode cX12_step 151 = .ok (.aload_n 0, 1) := by decide +kernel
theorem dX12_step_152 : decode cX12_step 152 = .ok (.getfield 150, 3) := by decide +kernel
theorem dX12_step_155 : decode cX12_step 155 = .ok (.isub, 1) := by decide +kernel
theorem dX12_step_156 : decode cX12_step 156 = .ok (.iconst 4, 1) := by decide +kernel
theorem dX12_step_157 : decode cX12_step 157 = .ok (.if_icmp .le 7, 3) := by decide +kernel
theorem dX12_step_160 : decode cX12_step 160 = .ok (.iconst 0, 1) := by decide +kernel
theorem dX12_step_161 : decode cX12_step 161 = .ok (.goto 4, 3) := by decide +kernel
theorem dX12_step_164 : decode cX12_step 164 = .ok (.iconst 3, 1) := by decide +kernel
theorem dX12_step_165 : decode cX12_step 165 = .ok (.putfield 153, 3) := by decide +kernel
theorem dX12_step_168 : decode cX12_step 168 = .ok (.goto 28, 3) := by decide +kernel
theorem dX12_step_171 : decode cX12_step 171 = .ok (.aload_n 0, 1) := by decide +kernel
theorem dX12_step_172 : decode cX12_step 172 = .ok (.dup, 1) := by decide +kernel
theorem dX12_step_173 : decode cX12_step 173 = .ok (.getfield 144, 3) := by decide +kernel
theorem dX12_step_176 : decode cX12_step 176 = .ok (.iconst 1, 1) := by decide +kernel
theorem dX12_step_177 : decode cX12_step 177 = .ok (.iadd, 1) := by decide +kernel
theorem dX12_step_178 : decode cX12_step 178 = .ok (.putfield 144, 3) := by decide +kernel
theorem dX12_step_181 : decode cX12_step 181 = .ok (.aload_n 0, 1) := by decide +kernel
theorem dX12_step_182 : decode cX12_step 182 = .ok (.iload_n 1, 1) := by decide +kernel
theorem dX12_step_183 : decode cX12_step 183 = .ok (.bipush 59, 2) := by decide +kernel
theorem dX12_step_185 : decode cX12_step 185 = .ok (.if_icmp .ne 7, 3) := by decide +kernel
theorem dX12_step_188 : decode cX12_step 188 = .ok (.iconst 4, 1) := by decide +kernel
theorem dX12_step_189 : decode cX12_step 189 = .ok (.goto 4, 3) := by decide +kernel
theorem dX12_step_192 : decode cX12_step 192 = .ok (.iconst 0, 1) := by decide +kernel
theorem dX12_step_193 : decode cX12_step 193 = .ok (.putfield 153, 3) := by decide +kernel
theorem dX12_step_196 : decode cX12_step 196 = .ok (.aload_n 0, 1) := by decide +kernel
theorem dX12_step_197 : decode cX12_step 197 = .ok (.aload_n 0, 1) := by decide +kernel
theorem dX12_step_198 : decode cX12_step 198 = .ok (.getfield 144, 3) := by decide +kernel
theorem dX12_step_201 : decode cX12_step 201 = .ok (.putfield 162, 3) := by decide +kernel
theorem dX12_step_204 : decode cX12_step 204 = .ok (.return_, 1) := by decide +kernel
def bX12_step_0 (f1 f2 f3 : ox_F) (rc : Nat → ox_K) : ox_K := o_keep [0] (o_al 0 (o_al 0 (o_geti 12 17 (o_cv f1 12 1 (o_ic (32) (o_iceq (rc 26) (o_al 0 (o_al 0 (o_geti 12 17 (o_cv f1 12 1 (o_ic (10) (o_icne (rc 39) (rc 26)))))))))))))
def bX12_step_26 (f1 f2 f3 : ox_F) (rc : Nat → ox_K) : ox_K := o_al 0 (o_dup (o_geti 12 17 (o_ic (1) (o_iadd (o_puti 12 17 (rc 0))))))
def bX12_step_39 (f1 f2 f3 : ox_F) (rc : Nat → ox_K) : ox_K := o_al 0 (o_al 0 (o_geti 12 17 (o_puti 12 19 (o_al 0 (o_al 0 (o_geti 12 17 (o_cv f1 12 1 (o_is 1 (o_il 1 (o_ic (-1000000) (o_icne (rc 70) (o_al 0 (o_ic (1) (o_puti 12 18 (rc 196)))))))))))))))
def bX12_step_70 (f1 f2 f3 : ox_F) (rc : Nat → ox_K) : ox_K := o_il 1 (o_ct f2 1 (o_ifeq (rc 112) (rc 77)))
def bX12_step_77 (f1 f2 f3 : ox_F) (rc : Nat → ox_K) : ox_K := o_keep [0] (o_al 0 (o_al 0 (o_geti 12 17 (o_cv f1 12 1 (o_ct f2 1 (o_ifeq (rc 104) (o_al 0 (o_dup (o_geti 12 17 (o_ic (1) (o_iadd (o_puti 12 17 (rc 77)))))))))))))
def bX12_step_104 (f1 f2 f3 : ox_F) (rc : Nat → ox_K) : ox_K := o_al 0 (o_ic (2) (o_puti 12 18 (rc 196)))
def bX12_step_112 (f1 f2 f3 : ox_F) (rc : Nat → ox_K) : ox_K := o_il 1 (o_ct f3 1 (o_ifeq (rc 171) (rc 119)))
def bX12_step_119 (f1 f2 f3 : ox_F) (rc : Nat → ox_K) : ox_K := o_keep [0] (o_al 0 (o_al 0 (o_geti 12 17 (o_cv f1 12 1 (o_ct f3 1 (o_ifeq (rc 146) (o_al 0 (o_dup (o_geti 12 17 (o_ic (1) (o_iadd (o_puti 12 17 (rc 119)))))))))))))
def bX12_step_146 (f1 f2 f3 : ox_F) (rc : Nat → ox_K) : ox_K := o_al 0 (o_al 0 (o_geti 12 17 (o_al 0 (o_geti 12 19 (o_isub (o_ic (4) (o_icle (rc 164) (o_ic (0) (rc 165)))))))))
def bX12_step_164 (f1 f2 f3 : ox_F) (rc : Nat → ox_K) : ox_K := o_ic (3) (rc 165)
def bX12_step_165 (f1 f2 f3 : ox_F) (rc : Nat → ox_K) : ox_K := o_puti 12 18 (rc 196)
def bX12_step_171 (f1 f2 f3 : ox_F) (rc : Nat → ox_K) : ox_K := o_al 0 (o_dup (o_geti 12 17 (o_ic (1) (o_iadd (o_puti 12 17 (o_al 0 (o_il 1 (o_ic (59) (o_icne (rc 192) (o_ic (4) (rc 193)))))))))))
def bX12_step_192 (f1 f2 f3 : ox_F) (rc : Nat → ox_K) : ox_K := o_ic (0) (rc 193)
def bX12_step_193 (f1 f2 f3 : ox_F) (rc : Nat → ox_K) : ox_K := o_puti 12 18 (rc 196)
def bX12_step_196 (f1 f2 f3 : ox_F) (rc : Nat → ox_K) : ox_K := o_al 0 (o_al 0 (o_geti 12 17 (o_puti 12 20 (o_ret))))
section SX12_step
variable {p : Program} {l : Launch} {e : Env} {R : Room} {s : State} {m : MethodId} {args : Array Value} {below : List Frame} {meth : Method} {c : Code} {g : ox_G} {c0 t0 dp d1 d2 d3 : Nat} {rc : Nat → ox_K} {f1 f2 f3 : ox_F}
set_option maxRecDepth 100000 in
theorem kX12_step_0 (C : ox_C p s m args c g 2 cX12_step RX12) (hr : meth.sig.returnType = none) (hlk : meth.locks = false) (hnm : meth.name = "step") (hR : R.frames = dp ∧ R.locals = 60 * dp) (h1 : ox_Sem yX12_byteAt cX12_byteAt 2 (some .int) d1 f1) (e1 : d1 + 1 ≤ dp) (h2 : ox_Sem yX12_isLetter cX12_isLetter 1 (some .boolean) d2 f2) (e2 : d2 + 1 ≤ dp) (h3 : ox_Sem yX12_isFigure cX12_isFigure 1 (some .boolean) d3 f3) (e3 : d3 + 1 ≤ dp) (hrc : ∀ b, ox_S p l e R s m args below meth c g 2 c0 t0 (ox_QM g below args s c0 t0) b (rc b)) : ox_S p l e R s m args below meth c g 2 c0 t0 (ox_QM g below args s c0 t0) 0 (bX12_step_0 f1 f2 f3 rc) := by
  refine s_keep ?_
  refine s_aload_n (pc := 0) C dX12_step_0 rfl ?_
  refine s_aload_n (pc := 1) C dX12_step_1 rfl ?_
  refine s_geti (pc := 2) (j := 17) (q := (RX12, TX12, 59)) C rfl (by decide) rfl wF_X12_144 dX12_step_2 ?_
  refine s_cv (pc := 5) (q := (RX12, TX12, 59)) C h1 rfl wM_X12_147 wI_X12_byteAt wS_X12_byteAt wN_X12 wC_X12_byteAt (by decide +kernel) (ox_lv hR e1 (by decide)) dX12_step_5 ?_
  refine s_bipush (pc := 8) C dX12_step_8 (by decide) ?_
  refine s_icmpeq (pc := 10) 26 C dX12_step_10 (by decide) (hrc 26) ?_
  refine s_aload_n (pc := 13) C dX12_step_13 rfl ?_
  refine s_aload_n (pc := 14) C dX12_step_14 rfl ?_
  refine s_geti (pc := 15) (j := 17) (q := (RX12, TX12, 59)) C rfl (by decide) rfl wF_X12_144 dX12_step_15 ?_
  refine s_cv (pc := 18) (q := (RX12, TX12, 59)) C h1 rfl wM_X12_147 wI_X12_byteAt wS_X12_byteAt wN_X12 wC_X12_byteAt (by decide +kernel) (ox_lv hR e1 (by decide)) dX12_step_18 ?_
  refine s_bipush (pc := 21) C dX12_step_21 (by decide) ?_
  refine s_icmpne (pc := 23) 39 C dX12_step_23 (by decide) (hrc 39) ?_
  exact hrc 26
set_option maxRecDepth 100000 in
theorem kX12_step_26 (C : ox_C p s m args c g 2 cX12_step RX12) (hr : meth.sig.returnType = none) (hlk : meth.locks = false) (hnm : meth.name = "step") (hR : R.frames = dp ∧ R.locals = 60 * dp) (h1 : ox_Sem yX12_byteAt cX12_byteAt 2 (some .int) d1 f1) (e1 : d1 + 1 ≤ dp) (h2 : ox_Sem yX12_isLetter cX12_isLetter 1 (some .boolean) d2 f2) (e2 : d2 + 1 ≤ dp) (h3 : ox_Sem yX12_isFigure cX12_isFigure 1 (some .boolean) d3 f3) (e3 : d3 + 1 ≤ dp) (hrc : ∀ b, ox_S p l e R s m args below meth c g 2 c0 t0 (ox_QM g below args s c0 t0) b (rc b)) : ox_S p l e R s m args below meth c g 2 c0 t0 (ox_QM g below args s c0 t0) 26 (bX12_step_26 f1 f2 f3 rc) := by
  refine s_aload_n (pc := 26) C dX12_step_26 rfl ?_
  refine s_dup (pc := 27) C dX12_step_27 ?_
  refine s_geti (pc := 28) (j := 17) (q := (RX12, TX12, 59)) C rfl (by decide) rfl wF_X12_144 dX12_step_28 ?_
  refine s_iconst (pc := 31) C dX12_step_31 (by decide) ?_
  refine s_iadd (pc := 32) C dX12_step_32 ?_
  refine s_puti (pc := 33) (j := 17) (q := (RX12, TX12, 59)) C rfl (by decide) rfl (Or.inl rfl) wF_X12_144 dX12_step_33 ?_
  exact s_goto (pc := 36) 0 C dX12_step_36 (by decide) (hrc 0)
set_option maxRecDepth 100000 in
theorem kX12_step_39 (C : ox_C p s m args c g 2 cX12_step RX12) (hr : meth.sig.returnType = none) (hlk : meth.locks = false) (hnm : meth.name = "step") (hR : R.frames = dp ∧ R.locals = 60 * dp) (h1 : ox_Sem yX12_byteAt cX12_byteAt 2 (some .int) d1 f1) (e1 : d1 + 1 ≤ dp) (h2 : ox_Sem yX12_isLetter cX12_isLetter 1 (some .boolean) d2 f2) (e2 : d2 + 1 ≤ dp) (h3 : ox_Sem yX12_isFigure cX12_isFigure 1 (some .boolean) d3 f3) (e3 : d3 + 1 ≤ dp) (hrc : ∀ b, ox_S p l e R s m args below meth c g 2 c0 t0 (ox_QM g below args s c0 t0) b (rc b)) : ox_S p l e R s m args below meth c g 2 c0 t0 (ox_QM g below args s c0 t0) 39 (bX12_step_39 f1 f2 f3 rc) := by
  refine s_aload_n (pc := 39) C dX12_step_39 rfl ?_
  refine s_aload_n (pc := 40) C dX12_step_40 rfl ?_
  refine s_geti (pc := 41) (j := 17) (q := (RX12, TX12, 59)) C rfl (by decide) rfl wF_X12_144 dX12_step_41 ?_
  refine s_puti (pc := 44) (j := 19) (q := (RX12, TX12, 59)) C rfl (by decide) rfl (Or.inl rfl) wF_X12_150 dX12_step_44 ?_
  refine s_aload_n (pc := 47) C dX12_step_47 rfl ?_
  refine s_aload_n (pc := 48) C dX12_step_48 rfl ?_
  refine s_geti (pc := 49) (j := 17) (q := (RX12, TX12, 59)) C rfl (by decide) rfl wF_X12_144 dX12_step_49 ?_
  refine s_cv (pc := 52) (q := (RX12, TX12, 59)) C h1 rfl wM_X12_147 wI_X12_byteAt wS_X12_byteAt wN_X12 wC_X12_byteAt (by decide +kernel) (ox_lv hR e1 (by decide)) dX12_step_52 ?_
  refine s_istore_n (pc := 55) C dX12_step_55 rfl (by decide) ?_
  refine s_iload_n (pc := 56) C dX12_step_56 rfl ?_
  refine s_ldc (pc := 57) C wK_X12_143 dX12_step_57 ?_
  refine s_icmpne (pc := 59) 70 C dX12_step_59 (by decide) (hrc 70) ?_
  refine s_aload_n (pc := 62) C dX12_step_62 rfl ?_
  refine s_iconst (pc := 63) C dX12_step_63 (by decide) ?_
  refine s_puti (pc := 64) (j := 18) (q := (RX12, TX12, 59)) C rfl (by decide) rfl (Or.inl rfl) wF_X12_153 dX12_step_64 ?_
  exact s_goto (pc := 67) 196 C dX12_step_67 (by decide) (hrc 196)
set_option maxRecDepth 100000 in
theorem kX12_step_70 (C : ox_C p s m args c g 2 cX12_step RX12) (hr : meth.sig.returnType = none) (hlk : meth.locks = false) (hnm : meth.name = "step") (hR : R.frames = dp ∧ R.locals = 60 * dp) (h1 : ox_Sem yX12_byteAt cX12_byteAt 2 (some .int) d1 f1) (e1 : d1 + 1 ≤ dp) (h2 : ox_Sem yX12_isLetter cX12_isLetter 1 (some .boolean) d2 f2) (e2 : d2 + 1 ≤ dp) (h3 : ox_Sem yX12_isFigure cX12_isFigure 1 (some .boolean) d3 f3) (e3 : d3 + 1 ≤ dp) (hrc : ∀ b, ox_S p l e R s m args below meth c g 2 c0 t0 (ox_QM g below args s c0 t0) b (rc b)) : ox_S p l e R s m args below meth c g 2 c0 t0 (ox_QM g below args s c0 t0) 70 (bX12_step_70 f1 f2 f3 rc) := by
  refine s_iload_n (pc := 70) C dX12_step_70 rfl ?_
  refine s_ct (pc := 71) C h2 wM_X12_156 wT_X12_isLetter wN_X12 wC_X12_isLetter (by decide +kernel) (ox_lv hR e2 (by decide)) dX12_step_71 ?_
  refine s_ifeq (pc := 74) 112 C dX12_step_74 (by decide) (hrc 112) ?_
  exact hrc 77
set_option maxRecDepth 100000 in
theorem kX12_step_77 (C : ox_C p s m args c g 2 cX12_step RX12) (hr : meth.sig.returnType = none) (hlk : meth.locks = false) (hnm : meth.name = "step") (hR : R.frames = dp ∧ R.locals = 60 * dp) (h1 : ox_Sem yX12_byteAt cX12_byteAt 2 (some .int) d1 f1) (e1 : d1 + 1 ≤ dp) (h2 : ox_Sem yX12_isLetter cX12_isLetter 1 (some .boolean) d2 f2) (e2 : d2 + 1 ≤ dp) (h3 : ox_Sem yX12_isFigure cX12_isFigure 1 (some .boolean) d3 f3) (e3 : d3 + 1 ≤ dp) (hrc : ∀ b, ox_S p l e R s m args below meth c g 2 c0 t0 (ox_QM g below args s c0 t0) b (rc b)) : ox_S p l e R s m args below meth c g 2 c0 t0 (ox_QM g below args s c0 t0) 77 (bX12_step_77 f1 f2 f3 rc) := by
  refine s_keep ?_
  refine s_aload_n (pc := 77) C dX12_step_77 rfl ?_
  refine s_aload_n (pc := 78) C dX12_step_78 rfl ?_
  refine s_geti (pc := 79) (j := 17) (q := (RX12, TX12, 59)) C rfl (by decide) rfl wF_X12_144 dX12_step_79 ?_
  refine s_cv (pc := 82) (q := (RX12, TX12, 59)) C h1 rfl wM_X12_147 wI_X12_byteAt wS_X12_byteAt wN_X12 wC_X12_byteAt (by decide +kernel) (ox_lv hR e1 (by decide)) dX12_step_82 ?_
  refine s_ct (pc := 85) C h2 wM_X12_156 wT_X12_isLetter wN_X12 wC_X12_isLetter (by decide +kernel) (ox_lv hR e2 (by decide)) dX12_step_85 ?_
  refine s_ifeq (pc := 88) 104 C dX12_step_88 (by decide) (hrc 104) ?_
  refine s_aload_n (pc := 91) C dX12_step_91 rfl ?_
  refine s_dup (pc := 92) C dX12_step_92 ?_
  refine s_geti (pc := 93) (j := 17) (q := (RX12, TX12, 59)) C rfl (by decide) rfl wF_X12_144 dX12_step_93 ?_
  refine s_iconst (pc := 96) C dX12_step_96 (by decide) ?_
  refine s_iadd (pc := 97) C dX12_step_97 ?_
  refine s_puti (pc := 98) (j := 17) (q := (RX12, TX12, 59)) C rfl (by decide) rfl (Or.inl rfl) wF_X12_144 dX12_step_98 ?_
  exact s_goto (pc := 101) 77 C dX12_step_101 (by decide) (hrc 77)
set_option maxRecDepth 100000 in
theorem kX12_step_104 (C : ox_C p s m args c g 2 cX12_step RX12) (hr : meth.sig.returnType = none) (hlk : meth.locks = false) (hnm : meth.name = "step") (hR : R.frames = dp ∧ R.locals = 60 * dp) (h1 : ox_Sem yX12_byteAt cX12_byteAt 2 (some .int) d1 f1) (e1 : d1 + 1 ≤ dp) (h2 : ox_Sem yX12_isLetter cX12_isLetter 1 (some .boolean) d2 f2) (e2 : d2 + 1 ≤ dp) (h3 : ox_Sem yX12_isFigure cX12_isFigure 1 (some .boolean) d3 f3) (e3 : d3 + 1 ≤ dp) (hrc : ∀ b, ox_S p l e R s m args below meth c g 2 c0 t0 (ox_QM g below args s c0 t0) b (rc b)) : ox_S p l e R s m args below meth c g 2 c0 t0 (ox_QM g below args s c0 t0) 104 (bX12_step_104 f1 f2 f3 rc) := by
  refine s_aload_n (pc := 104) C dX12_step_104 rfl ?_
  refine s_iconst (pc := 105) C dX12_step_105 (by decide) ?_
  refine s_puti (pc := 106) (j := 18) (q := (RX12, TX12, 59)) C rfl (by decide) rfl (Or.inl rfl) wF_X12_153 dX12_step_106 ?_
  exact s_goto (pc := 109) 196 C dX12_step_109 (by decide) (hrc 196)
set_option maxRecDepth 100000 in
theorem kX12_step_112 (C : ox_C p s m args c g 2 cX12_step RX12) (hr : meth.sig.returnType = none) (hlk : meth.locks = false) (hnm : meth.name = "step") (hR : R.frames = dp ∧ R.locals = 60 * dp) (h1 : ox_Sem yX12_byteAt cX12_byteAt 2 (some .int) d1 f1) (e1 : d1 + 1 ≤ dp) (h2 : ox_Sem yX12_isLetter cX12_isLetter 1 (some .boolean) d2 f2) (e2 : d2 + 1 ≤ dp) (h3 : ox_Sem yX12_isFigure cX12_isFigure 1 (some .boolean) d3 f3) (e3 : d3 + 1 ≤ dp) (hrc : ∀ b, ox_S p l e R s m args below meth c g 2 c0 t0 (ox_QM g below args s c0 t0) b (rc b)) : ox_S p l e R s m args below meth c g 2 c0 t0 (ox_QM g below args s c0 t0) 112 (bX12_step_112 f1 f2 f3 rc) := by
  refine s_iload_n (pc := 112) C dX12_step_112 rfl ?_
  refine s_ct (pc := 113) C h3 wM_X12_159 wT_X12_isFigure wN_X12 wC_X12_isFigure (by decide +kernel) (ox_lv hR e3 (by decide)) dX12_step_113 ?_
  refine s_ifeq (pc := 116) 171 C dX12_step_116 (by decide) (hrc 171) ?_
  exact hrc 119
set_option maxRecDepth 100000 in
theorem kX12_step_119 (C : ox_C p s m args c g 2 cX12_step RX12) (hr : meth.sig.returnType = none) (hlk : meth.locks = false) (hnm : meth.name = "step") (hR : R.frames = dp ∧ R.locals = 60 * dp) (h1 : ox_Sem yX12_byteAt cX12_byteAt 2 (some .int) d1 f1) (e1 : d1 + 1 ≤ dp) (h2 : ox_Sem yX12_isLetter cX12_isLetter 1 (some .boolean) d2 f2) (e2 : d2 + 1 ≤ dp) (h3 : ox_Sem yX12_isFigure cX12_isFigure 1 (some .boolean) d3 f3) (e3 : d3 + 1 ≤ dp) (hrc : ∀ b, ox_S p l e R s m args below meth c g 2 c0 t0 (ox_QM g below args s c0 t0) b (rc b)) : ox_S p l e R s m args below meth c g 2 c0 t0 (ox_QM g below args s c0 t0) 119 (bX12_step_119 f1 f2 f3 rc) := by
  refine s_keep ?_
  refine s_aload_n (pc := 119) C dX12_step_119 rfl ?_
  refine s_aload_n (pc := 120) C dX12_step_120 rfl ?_
  refine s_geti (pc := 121) (j := 17) (q := (RX12, TX12, 59)) C rfl (by decide) rfl wF_X12_144 dX12_step_121 ?_
  refine s_cv (pc := 124) (q := (RX12, TX12, 59)) C h1 rfl wM_X12_147 wI_X12_byteAt wS_X12_byteAt wN_X12 wC_X12_byteAt (by decide +kernel) (ox_lv hR e1 (by decide)) dX12_step_124 ?_
  refine s_ct (pc := 127) C h3 wM_X12_159 wT_X12_isFigure wN_X12 wC_X12_isFigure (by decide +kernel) (ox_lv hR e3 (by decide)) dX12_step_127 ?_
  refine s_ifeq (pc := 130) 146 C dX12_step_130 (by decide) (hrc 146) ?_
  refine s_aload_n (pc := 133) C dX12_step_133 rfl ?_
  refine s_dup (pc := 134) C dX12_step_134 ?_
  refine s_geti (pc := 135) (j := 17) (q := (RX12, TX12, 59)) C rfl (by decide) rfl wF_X12_144 dX12_step_135 ?_
  refine s_iconst (pc := 138) C dX12_step_138 (by decide) ?_
  refine s_iadd (pc := 139) C dX12_step_139 ?_
  refine s_puti (pc := 140) (j := 17) (q := (RX12, TX12, 59)) C rfl (by decide) rfl (Or.inl rfl) wF_X12_144 dX12_step_140 ?_
  exact s_goto (pc := 143) 119 C dX12_step_143 (by decide) (hrc 119)
set_option maxRecDepth 100000 in
theorem kX12_step_146 (C : ox_C p s m args c g 2 cX12_step RX12) (hr : meth.sig.returnType = none) (hlk : meth.locks = false) (hnm : meth.name = "step") (hR : R.frames = dp ∧ R.locals = 60 * dp) (h1 : ox_Sem yX12_byteAt cX12_byteAt 2 (some .int) d1 f1) (e1 : d1 + 1 ≤ dp) (h2 : ox_Sem yX12_isLetter cX12_isLetter 1 (some .boolean) d2 f2) (e2 : d2 + 1 ≤ dp) (h3 : ox_Sem yX12_isFigure cX12_isFigure 1 (some .boolean) d3 f3) (e3 : d3 + 1 ≤ dp) (hrc : ∀ b, ox_S p l e R s m args below meth c g 2 c0 t0 (ox_QM g below args s c0 t0) b (rc b)) : ox_S p l e R s m args below meth c g 2 c0 t0 (ox_QM g below args s c0 t0) 146 (bX12_step_146 f1 f2 f3 rc) := by
  refine s_aload_n (pc := 146) C dX12_step_146 rfl ?_
  refine s_aload_n (pc := 147) C dX12_step_147 rfl ?_
  refine s_geti (pc := 148) (j := 17) (q := (RX12, TX12, 59)) C rfl (by decide) rfl wF_X12_144 dX12_step_148 ?_
  refine s_aload_n (pc := 151) C dX12_step_151 rfl ?_
  refine s_geti (pc := 152) (j := 19) (q := (RX12, TX12, 59)) C rfl (by decide) rfl wF_X12_150 dX12_step_152 ?_
  refine s_isub (pc := 155) C dX12_step_155 ?_
  refine s_iconst (pc := 156) C dX12_step_156 (by decide) ?_
  refine s_icmple (pc := 157) 164 C dX12_step_157 (by decide) (hrc 164) ?_
  refine s_iconst (pc := 160) C dX12_step_160 (by decide) ?_
  exact s_goto (pc := 161) 165 C dX12_step_161 (by decide) (hrc 165)
set_option maxRecDepth 100000 in
theorem kX12_step_164 (C : ox_C p s m args c g 2 cX12_step RX12) (hr : meth.sig.returnType = none) (hlk : meth.locks = false) (hnm : meth.name = "step") (hR : R.frames = dp ∧ R.locals = 60 * dp) (h1 : ox_Sem yX12_byteAt cX12_byteAt 2 (some .int) d1 f1) (e1 : d1 + 1 ≤ dp) (h2 : ox_Sem yX12_isLetter cX12_isLetter 1 (some .boolean) d2 f2) (e2 : d2 + 1 ≤ dp) (h3 : ox_Sem yX12_isFigure cX12_isFigure 1 (some .boolean) d3 f3) (e3 : d3 + 1 ≤ dp) (hrc : ∀ b, ox_S p l e R s m args below meth c g 2 c0 t0 (ox_QM g below args s c0 t0) b (rc b)) : ox_S p l e R s m args below meth c g 2 c0 t0 (ox_QM g below args s c0 t0) 164 (bX12_step_164 f1 f2 f3 rc) := by
  refine s_iconst (pc := 164) C dX12_step_164 (by decide) ?_
  exact hrc 165
set_option maxRecDepth 100000 in
theorem kX12_step_165 (C : ox_C p s m args c g 2 cX12_step RX12) (hr : meth.sig.returnType = none) (hlk : meth.locks = false) (hnm : meth.name = "step") (hR : R.frames = dp ∧ R.locals = 60 * dp) (h1 : ox_Sem yX12_byteAt cX12_byteAt 2 (some .int) d1 f1) (e1 : d1 + 1 ≤ dp) (h2 : ox_Sem yX12_isLetter cX12_isLetter 1 (some .boolean) d2 f2) (e2 : d2 + 1 ≤ dp) (h3 : ox_Sem yX12_isFigure cX12_isFigure 1 (some .boolean) d3 f3) (e3 : d3 + 1 ≤ dp) (hrc : ∀ b, ox_S p l e R s m args below meth c g 2 c0 t0 (ox_QM g below args s c0 t0) b (rc b)) : ox_S p l e R s m args below meth c g 2 c0 t0 (ox_QM g below args s c0 t0) 165 (bX12_step_165 f1 f2 f3 rc) := by
  refine s_puti (pc := 165) (j := 18) (q := (RX12, TX12, 59)) C rfl (by decide) rfl (Or.inl rfl) wF_X12_153 dX12_step_165 ?_
  exact s_goto (pc := 168) 196 C dX12_step_168 (by decide) (hrc 196)
set_option maxRecDepth 100000 in
theorem kX12_step_171 (C : ox_C p s m args c g 2 cX12_step RX12) (hr : meth.sig.returnType = none) (hlk : meth.locks = false) (hnm : meth.name = "step") (hR : R.frames = dp ∧ R.locals = 60 * dp) (h1 : ox_Sem yX12_byteAt cX12_byteAt 2 (some .int) d1 f1) (e1 : d1 + 1 ≤ dp) (h2 : ox_Sem yX12_isLetter cX12_isLetter 1 (some .boolean) d2 f2) (e2 : d2 + 1 ≤ dp) (h3 : ox_Sem yX12_isFigure cX12_isFigure 1 (some .boolean) d3 f3) (e3 : d3 + 1 ≤ dp) (hrc : ∀ b, ox_S p l e R s m args below meth c g 2 c0 t0 (ox_QM g below args s c0 t0) b (rc b)) : ox_S p l e R s m args below meth c g 2 c0 t0 (ox_QM g below args s c0 t0) 171 (bX12_step_171 f1 f2 f3 rc) := by
  refine s_aload_n (pc := 171) C dX12_step_171 rfl ?_
  refine s_dup (pc := 172) C dX12_step_172 ?_
  refine s_geti (pc := 173) (j := 17) (q := (RX12, TX12, 59)) C rfl (by decide) rfl wF_X12_144 dX12_step_173 ?_
  refine s_iconst (pc := 176) C dX12_step_176 (by decide) ?_
  refine s_iadd (pc := 177) C dX12_step_177 ?_
  refine s_puti (pc := 178) (j := 17) (q := (RX12, TX12, 59)) C rfl (by decide) rfl (Or.inl rfl) wF_X12_144 dX12_step_178 ?_
  refine s_aload_n (pc := 181) C dX12_step_181 rfl ?_
  refine s_iload_n (pc := 182) C dX12_step_182 rfl ?_
  refine s_bipush (pc := 183) C dX12_step_183 (by decide) ?_
  refine s_icmpne (pc := 185) 192 C dX12_step_185 (by decide) (hrc 192) ?_
  refine s_iconst (pc := 188) C dX12_step_188 (by decide) ?_
  exact s_goto (pc := 189) 193 C dX12_step_189 (by decide) (hrc 193)
set_option maxRecDepth 100000 in
theorem kX12_step_192 (C : ox_C p s m args c g 2 cX12_step RX12) (hr : meth.sig.returnType = none) (hlk : meth.locks = false) (hnm : meth.name = "step") (hR : R.frames = dp ∧ R.locals = 60 * dp) (h1 : ox_Sem yX12_byteAt cX12_byteAt 2 (some .int) d1 f1) (e1 : d1 + 1 ≤ dp) (h2 : ox_Sem yX12_isLetter cX12_isLetter 1 (some .boolean) d2 f2) (e2 : d2 + 1 ≤ dp) (h3 : ox_Sem yX12_isFigure cX12_isFigure 1 (some .boolean) d3 f3) (e3 : d3 + 1 ≤ dp) (hrc : ∀ b, ox_S p l e R s m args below meth c g 2 c0 t0 (ox_QM g below args s c0 t0) b (rc b)) : ox_S p l e R s m args below meth c g 2 c0 t0 (ox_QM g below args s c0 t0) 192 (bX12_step_192 f1 f2 f3 rc) := by
  refine s_iconst (pc := 192) C dX12_step_192 (by decide) ?_
  exact hrc 193
set_option maxRecDepth 100000 in
theorem kX12_step_193 (C : ox_C p s m args c g 2 cX12_step RX12) (hr : meth.sig.returnType = none) (hlk : meth.locks = false) (hnm : meth.name = "step") (hR : R.frames = dp ∧ R.locals = 60 * dp) (h1 : ox_Sem yX12_byteAt cX12_byteAt 2 (some .int) d1 f1) (e1 : d1 + 1 ≤ dp) (h2 : ox_Sem yX12_isLetter cX12_isLetter 1 (some .boolean) d2 f2) (e2 : d2 + 1 ≤ dp) (h3 : ox_Sem yX12_isFigure cX12_isFigure 1 (some .boolean) d3 f3) (e3 : d3 + 1 ≤ dp) (hrc : ∀ b, ox_S p l e R s m args below meth c g 2 c0 t0 (ox_QM g below args s c0 t0) b (rc b)) : ox_S p l e R s m args below meth c g 2 c0 t0 (ox_QM g below args s c0 t0) 193 (bX12_step_193 f1 f2 f3 rc) := by
  refine s_puti (pc := 193) (j := 18) (q := (RX12, TX12, 59)) C rfl (by decide) rfl (Or.inl rfl) wF_X12_153 dX12_step_193 ?_
  exact hrc 196
set_option maxRecDepth 100000 in
theorem kX12_step_196 (C : ox_C p s m args c g 2 cX12_step RX12) (hr : meth.sig.returnType = none) (hlk : meth.locks = false) (hnm : meth.name = "step") (hR : R.frames = dp ∧ R.locals = 60 * dp) (h1 : ox_Sem yX12_byteAt cX12_byteAt 2 (some .int) d1 f1) (e1 : d1 + 1 ≤ dp) (h2 : ox_Sem yX12_isLetter cX12_isLetter 1 (some .boolean) d2 f2) (e2 : d2 + 1 ≤ dp) (h3 : ox_Sem yX12_isFigure cX12_isFigure 1 (some .boolean) d3 f3) (e3 : d3 + 1 ≤ dp) (hrc : ∀ b, ox_S p l e R s m args below meth c g 2 c0 t0 (ox_QM g below args s c0 t0) b (rc b)) : ox_S p l e R s m args below meth c g 2 c0 t0 (ox_QM g below args s c0 t0) 196 (bX12_step_196 f1 f2 f3 rc) := by
  refine s_aload_n (pc := 196) C dX12_step_196 rfl ?_
  refine s_aload_n (pc := 197) C dX12_step_197 rfl ?_
  refine s_geti (pc := 198) (j := 17) (q := (RX12, TX12, 59)) C rfl (by decide) rfl wF_X12_144 dX12_step_198 ?_
  refine s_puti (pc := 201) (j := 20) (q := (RX12, TX12, 59)) C rfl (by decide) rfl (Or.inl rfl) wF_X12_162 dX12_step_201 ?_
  exact s_ret (pc := 204) C hr hlk dX12_step_204
end SX12_step
def bsX12_step (f1 f2 f3 : ox_F) (b : Nat) (rc : Nat → ox_K) : ox_K := if b = 0 then bX12_step_0 f1 f2 f3 rc else if b = 26 then bX12_step_26 f1 f2 f3 rc else if b = 39 then bX12_step_39 f1 f2 f3 rc else if b = 70 then bX12_step_70 f1 f2 f3 rc else if b = 77 then bX12_step_77 f1 f2 f3 rc else if b = 104 then bX12_step_104 f1 f2 f3 rc else if b = 112 then bX12_step_112 f1 f2 f3 rc else if b = 119 then bX12_step_119 f1 f2 f3 rc else if b = 146 then bX12_step_146 f1 f2 f3 rc else if b = 164 then bX12_step_164 f1 f2 f3 rc else if b = 165 then bX12_step_165 f1 f2 f3 rc else if b = 171 then bX12_step_171 f1 f2 f3 rc else if b = 192 then bX12_step_192 f1 f2 f3 rc else if b = 193 then bX12_step_193 f1 f2 f3 rc else if b = 196 then bX12_step_196 f1 f2 f3 rc else ox_no
theorem mX12_step {dp d1 d2 d3 : Nat} {f1 f2 f3 f : ox_F} (h1 : ox_Sem yX12_byteAt cX12_byteAt 2 (some .int) d1 f1) (e1 : d1 + 1 ≤ dp) (h2 : ox_Sem yX12_isLetter cX12_isLetter 1 (some .boolean) d2 f2) (e2 : d2 + 1 ≤ dp) (h3 : ox_Sem yX12_isFigure cX12_isFigure 1 (some .boolean) d3 f3) (e3 : d3 + 1 ≤ dp) (hf : ∀ as h r, f as h = some r → ox_cs as ≤ 2 ∧ ox_le h r.2 ∧ ∃ n, ox_run (bsX12_step f1 f2 f3) n 0 (lv_args 0 as) [] h = some r) : ox_Sem yX12_step cX12_step 2 none dp f := by
  refine ox_meth (bs := bsX12_step f1 f2 f3) (by decide) hf ?_
  intro p l e R s m args below meth c g c0 t0 C hr hlk hnm hR rc hrc b
  unfold bsX12_step
  refine ox_br (kX12_step_0 C hr hlk hnm hR h1 e1 h2 e2 h3 e3 hrc) ?_
  refine ox_br (kX12_step_26 C hr hlk hnm hR h1 e1 h2 e2 h3 e3 hrc) ?_
  refine ox_br (kX12_step_39 C hr hlk hnm hR h1 e1 h2 e2 h3 e3 hrc) ?_
  refine ox_br (kX12_step_70 C hr hlk hnm hR h1 e1 h2 e2 h3 e3 hrc) ?_
  refine ox_br (kX12_step_77 C hr hlk hnm hR h1 e1 h2 e2 h3 e3 hrc) ?_
  refine ox_br (kX12_step_104 C hr hlk hnm hR h1 e1 h2 e2 h3 e3 hrc) ?_
  refine ox_br (kX12_step_112 C hr hlk hnm hR h1 e1 h2 e2 h3 e3 hrc) ?_
  refine ox_br (kX12_step_119 C hr hlk hnm hR h1 e1 h2 e2 h3 e3 hrc) ?_
  refine ox_br (kX12_step_146 C hr hlk hnm hR h1 e1 h2 e2 h3 e3 hrc) ?_
  refine ox_br (kX12_step_164 C hr hlk hnm hR h1 e1 h2 e2 h3 e3 hrc) ?_
  refine ox_br (kX12_step_165 C hr hlk hnm hR h1 e1 h2 e2 h3 e3 hrc) ?_
  refine ox_br (kX12_step_171 C hr hlk hnm hR h1 e1 h2 e2 h3 e3 hrc) ?_
  refine ox_br (kX12_step_192 C hr hlk hnm hR h1 e1 h2 e2 h3 e3 hrc) ?_
  refine ox_br (kX12_step_193 C hr hlk hnm hR h1 e1 h2 e2 h3 e3 hrc) ?_
  refine ox_br (kX12_step_196 C hr hlk hnm hR h1 e1 h2 e2 h3 e3 hrc) ?_
  exact s_no
theorem dX12_bad_0 : decode cX12_bad 0 = .ok (.aload_n 0, 1) := by decide +kernel
theorem dX12_bad_1 : decode cX12_bad 1 = .ok (.getfield 165, 3) := by decide +kernel
theorem dX12_bad_4 : decode cX12_bad 4 = .ok (.ifCond .ne 16, 3) := by decide +kernel
theorem dX12_bad_7 : decode cX12_bad 7 = .ok (.aload_n 0, 1) := by decide +kernel
theorem dX12_bad_8 : decode cX12_bad 8 = .ok (.iload_n 1, 1) := by decide +kernel
theorem dX12_bad_9 : decode cX12_bad 9 = .ok (.putfield 165, 3) := by decide +kernel
theorem dX12_bad_12 : decode cX12_bad 12 = .ok (.aload_n 0, 1) := by decide +kernel
theorem dX12_bad_13 : decode cX12_bad 13 = .ok (.aload_n 0, 1) := by decide +kernel
theorem dX12_bad_14 : decode cX12_bad 14 = .ok (.getfield 150, 3) := by decide +kernel
theorem dX12_bad_17 : decode cX12_bad 17 = .ok (.putfield 168, 3) := by decide +kernel
theorem dX12_bad_20 : decode cX12_bad 20 = .ok (.return_, 1) := by decide +kernel
def bX12_bad_0 (rc : Nat → ox_K) : ox_K := o_al 0 (o_geti 12 21 (o_ifne (rc 20) (o_al 0 (o_il 1 (o_puti 12 21 (o_al 0 (o_al 0 (o_geti 12 19 (o_puti 12 22 (rc 20))))))))))
def bX12_bad_20 (rc : Nat → ox_K) : ox_K := o_ret
section SX12_bad
variable {p : Program} {l : Launch} {e : Env} {R : Room} {s : State} {m : MethodId} {args : Array Value} {below : List Frame} {meth : Method} {c : Code} {g : ox_G} {c0 t0 dp  : Nat} {rc : Nat → ox_K}
set_option maxRecDepth 100000 in
theorem kX12_bad_0 (C : ox_C p s m args c g 2 cX12_bad RX12) (hr : meth.sig.returnType = none) (hlk : meth.locks = false) (hnm : meth.name = "bad") (hR : R.frames = dp ∧ R.locals = 60 * dp) (hrc : ∀ b, ox_S p l e R s m args below meth c g 2 c0 t0 (ox_QM g below args s c0 t0) b (rc b)) : ox_S p l e R s m args below meth c g 2 c0 t0 (ox_QM g below args s c0 t0) 0 (bX12_bad_0 rc) := by
  refine s_aload_n (pc := 0) C dX12_bad_0 rfl ?_
  refine s_geti (pc := 1) (j := 21) (q := (RX12, TX12, 59)) C rfl (by decide) rfl wF_X12_165 dX12_bad_1 ?_
  refine s_ifne (pc := 4) 20 C dX12_bad_4 (by decide) (hrc 20) ?_
  refine s_aload_n (pc := 7) C dX12_bad_7 rfl ?_
  refine s_iload_n (pc := 8) C dX12_bad_8 rfl ?_
  refine s_puti (pc := 9) (j := 21) (q := (RX12, TX12, 59)) C rfl (by decide) rfl (Or.inl rfl) wF_X12_165 dX12_bad_9 ?_
  refine s_aload_n (pc := 12) C dX12_bad_12 rfl ?_
  refine s_aload_n (pc := 13) C dX12_bad_13 rfl ?_
  refine s_geti (pc := 14) (j := 19) (q := (RX12, TX12, 59)) C rfl (by decide) rfl wF_X12_150 dX12_bad_14 ?_
  refine s_puti (pc := 17) (j := 22) (q := (RX12, TX12, 59)) C rfl (by decide) rfl (Or.inl rfl) wF_X12_168 dX12_bad_17 ?_
  exact hrc 20
set_option maxRecDepth 100000 in
theorem kX12_bad_20 (C : ox_C p s m args c g 2 cX12_bad RX12) (hr : meth.sig.returnType = none) (hlk : meth.locks = false) (hnm : meth.name = "bad") (hR : R.frames = dp ∧ R.locals = 60 * dp) (hrc : ∀ b, ox_S p l e R s m args below meth c g 2 c0 t0 (ox_QM g below args s c0 t0) b (rc b)) : ox_S p l e R s m args below meth c g 2 c0 t0 (ox_QM g below args s c0 t0) 20 (bX12_bad_20 rc) := by
  exact s_ret (pc := 20) C hr hlk dX12_bad_20
end SX12_bad
def bsX12_bad (b : Nat) (rc : Nat → ox_K) : ox_K := if b = 0 then bX12_bad_0 rc else if b = 20 then bX12_bad_20 rc else ox_no
theorem mX12_bad {dp  : Nat} {f : ox_F} (hf : ∀ as h r, f as h = some r → ox_cs as ≤ 2 ∧ ox_le h r.2 ∧ ∃ n, ox_run (bsX12_bad) n 0 (lv_args 0 as) [] h = some r) : ox_Sem yX12_bad cX12_bad 2 none dp f := by
  refine ox_meth (bs := bsX12_bad) (by decide) hf ?_
  intro p l e R s m args below meth c g c0 t0 C hr hlk hnm hR rc hrc b
  unfold bsX12_bad
  refine ox_br (kX12_bad_0 C hr hlk hnm hR hrc) ?_
  refine ox_br (kX12_bad_20 C hr hlk hnm hR hrc) ?_
  exact s_no
theorem dX12_must_0 : decode cX12_must 0 = .ok (.iload_n 1, 1) := by decide +kernel
theorem dX12_must_1 : decode cX12_must 1 = .ok (.ifCond .ne 8, 3) := by decide +kernel
theorem dX12_must_4 : decode cX12_must 4 = .ok (.aload_n 0, 1) := by decide +kernel
theorem dX12_must_5 : decode cX12_must 5 = .ok (.iconst 1, 1) := by decide +kernel
theorem dX12_must_6 : decode cX12_must 6 = .ok (.invokevirtual 171, 3) := by decide +kernel
theorem dX12_must_9 : decode cX12_must 9 = .ok (.aload_n 0, 1) := by decide +kernel
theorem dX12_must_10 : decode cX12_must 10 = .ok (.getfield 165, 3) := by decide +kernel
theorem dX12_must_13 : decode cX12_must 13 = .ok (.ifCond .ne 7, 3) := by decide +kernel
theorem dX12_must_16 : decode cX12_must 16 = .ok (.aload_n 0, 1) := by decide +kernel
theorem dX12_must_17 : decode cX12_must 17 = .ok (.invokevirtual 175, 3) := by decide +kernel
theorem dX12_must_20 : decode cX12_must 20 = .ok (.return_, 1) := by decide +kernel
def bX12_must_0 (f1 f2 : ox_F) (rc : Nat → ox_K) : ox_K := o_il 1 (o_ifne (rc 9) (o_al 0 (o_ic (1) (o_cv f1 12 1 (rc 9)))))
def bX12_must_9 (f1 f2 : ox_F) (rc : Nat → ox_K) : ox_K := o_al 0 (o_geti 12 21 (o_ifne (rc 20) (o_al 0 (o_cv f2 12 0 (rc 20)))))
def bX12_must_20 (f1 f2 : ox_F) (rc : Nat → ox_K) : ox_K := o_ret
section SX12_must
variable {p : Program} {l : Launch} {e : Env} {R : Room} {s : State} {m : MethodId} {args : Array Value} {below : List Frame} {meth : Method} {c : Code} {g : ox_G} {c0 t0 dp d1 d2 : Nat} {rc : Nat → ox_K} {f1 f2 : ox_F}
set_option maxRecDepth 100000 in
theorem kX12_must_0 (C : ox_C p s m args c g 2 cX12_must RX12) (hr : meth.sig.returnType = none) (hlk : meth.locks = false) (hnm : meth.name = "must") (hR : R.frames = dp ∧ R.locals = 60 * dp) (h1 : ox_Sem yX12_bad cX12_bad 2 none d1 f1) (e1 : d1 + 1 ≤ dp) (h2 : ox_Sem yX12_step cX12_step 2 none d2 f2) (e2 : d2 + 1 ≤ dp) (hrc : ∀ b, ox_S p l e R s m args below meth c g 2 c0 t0 (ox_QM g below args s c0 t0) b (rc b)) : ox_S p l e R s m args below meth c g 2 c0 t0 (ox_QM g below args s c0 t0) 0 (bX12_must_0 f1 f2 rc) := by
  refine s_iload_n (pc := 0) C dX12_must_0 rfl ?_
  refine s_ifne (pc := 1) 9 C dX12_must_1 (by decide) (hrc 9) ?_
  refine s_aload_n (pc := 4) C dX12_must_4 rfl ?_
  refine s_iconst (pc := 5) C dX12_must_5 (by decide) ?_
  refine s_cv (pc := 6) (q := (RX12, TX12, 59)) C h1 rfl wM_X12_171 wI_X12_bad wS_X12_bad wN_X12 wC_X12_bad (by decide +kernel) (ox_lv hR e1 (by decide)) dX12_must_6 ?_
  exact hrc 9
set_option maxRecDepth 100000 in
theorem kX12_must_9 (C : ox_C p s m args c g 2 cX12_must RX12) (hr : meth.sig.returnType = none) (hlk : meth.locks = false) (hnm : meth.name = "must") (hR : R.frames = dp ∧ R.locals = 60 * dp) (h1 : ox_Sem yX12_bad cX12_bad 2 none d1 f1) (e1 : d1 + 1 ≤ dp) (h2 : ox_Sem yX12_step cX12_step 2 none d2 f2) (e2 : d2 + 1 ≤ dp) (hrc : ∀ b, ox_S p l e R s m args below meth c g 2 c0 t0 (ox_QM g below args s c0 t0) b (rc b)) : ox_S p l e R s m args below meth c g 2 c0 t0 (ox_QM g below args s c0 t0) 9 (bX12_must_9 f1 f2 rc) := by
  refine s_aload_n (pc := 9) C dX12_must_9 rfl ?_
  refine s_geti (pc := 10) (j := 21) (q := (RX12, TX12, 59)) C rfl (by decide) rfl wF_X12_165 dX12_must_10 ?_
  refine s_ifne (pc := 13) 20 C dX12_must_13 (by decide) (hrc 20) ?_
  refine s_aload_n (pc := 16) C dX12_must_16 rfl ?_
  refine s_cv (pc := 17) (q := (RX12, TX12, 59)) C h2 rfl wM_X12_175 wI_X12_step wS_X12_step wN_X12 wC_X12_step (by decide +kernel) (ox_lv hR e2 (by decide)) dX12_must_17 ?_
  exact hrc 20
set_option maxRecDepth 100000 in
theorem kX12_must_20 (C : ox_C p s m args c g 2 cX12_must RX12) (hr : meth.sig.returnType = none) (hlk : meth.locks = false) (hnm : meth.name = "must") (hR : R.frames = dp ∧ R.locals = 60 * dp) (h1 : ox_Sem yX12_bad cX12_bad 2 none d1 f1) (e1 : d1 + 1 ≤ dp) (h2 : ox_Sem yX12_step cX12_step 2 none d2 f2) (e2 : d2 + 1 ≤ dp) (hrc : ∀ b, ox_S p l e R s m args below meth c g 2 c0 t0 (ox_QM g below args s c0 t0) b (rc b)) : ox_S p l e R s m args below meth c g 2 c0 t0 (ox_QM g below args s c0 t0) 20 (bX12_must_20 f1 f2 rc) := by
  exact s_ret (pc := 20) C hr hlk dX12_must_20
end SX12_must
def bsX12_must (f1 f2 : ox_F) (b : Nat) (rc : Nat → ox_K) : ox_K := if b = 0 then bX12_must_0 f1 f2 rc else if b = 9 then bX12_must_9 f1 f2 rc else if b = 20 then bX12_must_20 f1 f2 rc else ox_no
theorem mX12_must {dp d1 d2 : Nat} {f1 f2 f : ox_F} (h1 : ox_Sem yX12_bad cX12_bad 2 none d1 f1) (e1 : d1 + 1 ≤ dp) (h2 : ox_Sem yX12_step cX12_step 2 none d2 f2) (e2 : d2 + 1 ≤ dp) (hf : ∀ as h r, f as h = some r → ox_cs as ≤ 2 ∧ ox_le h r.2 ∧ ∃ n, ox_run (bsX12_must f1 f2) n 0 (lv_args 0 as) [] h = some r) : ox_Sem yX12_must cX12_must 2 none dp f := by
  refine ox_meth (bs := bsX12_must f1 f2) (by decide) hf ?_
  intro p l e R s m args below meth c g c0 t0 C hr hlk hnm hR rc hrc b
  unfold bsX12_must
  refine ox_br (kX12_must_0 C hr hlk hnm hR h1 e1 h2 e2 hrc) ?_
  refine ox_br (kX12_must_9 C hr hlk hnm hR h1 e1 h2 e2 hrc) ?_
  refine ox_br (kX12_must_20 C hr hlk hnm hR h1 e1 h2 e2 hrc) ?_
  exact s_no
theorem dX12_word_0 : decode cX12_word 0 = .ok (.lconst 0, 1) := by decide +kernel
theorem dX12_word_1 : decode cX12_word 1 = .ok (.lstore_n 1, 1) := by decide +kernel
theorem dX12_word_2 : decode cX12_word 2 = .ok (.aload_n 0, 1) := by decide +kernel
theorem dX12_word_3 : decode cX12_word 3 = .ok (.getfield 150, 3) := by decide +kernel
theorem dX12_word_6 : decode cX12_word 6 = .ok (.istore_n 3, 1) := by decide +kernel
theorem dX12_word_7 : decode cX12_word 7 = .ok (.iload_n 3, 1) := by decide +kernel
theorem dX12_word_8 : decode cX12_word 8 = .ok (.aload_n 0, 1) := by decide +kernel
theorem dX12_word_9 : decode cX12_word 9 = .ok (.getfield 162, 3) := by decide +kernel
theorem dX12_word_12 : decode cX12_word 12 = .ok (.if_icmp .ge 44, 3) := by decide +kernel
theorem dX12_word_15 : decode cX12_word 15 = .ok (.aload_n 0, 1) := by decide +kernel
theorem dX12_word_16 : decode cX12_word 16 = .ok (.getfield 153, 3) := by decide +kernel
theorem dX12_word_19 : decode cX12_word 19 = .ok (.iconst 2, 1) := by decide +kernel
theorem dX12_word_20 : decode cX12_word 20 = .ok (.if_icmp .ne 36, 3) := by decide +kernel
theorem dX12_word_23 : decode cX12_word 23 = .ok (.aload_n 0, 1) := by decide +kernel
theorem dX12_word_24 : decode cX12_word 24 = .ok (.getfield 162, 3) := by decide +kernel
theorem dX12_word_27 : decode cX12_word 27 = .ok (.aload_n 0, 1) := by decide +kernel
theorem dX12_word_28 : decode cX12_word 28 = .ok (.getfield 150, 3) := by decide +kernel
theorem dX12_word_31 : decode cX12_word 31 = .ok (.isub, 1) := by decide +kernel
theorem dX12_word_32 : decode cX12_word 32 = .ok (.bipush 8, 2) := by decide +kernel
theorem dX12_word_34 : decode cX12_word 34 = .ok (.if_icmp .ge 22, 3) := by decide +kernel
theorem dX12_word_37 : decode cX12_word 37 = .ok (.lload_n 1, 1) := by decide +kernel
theorem dX12_word_38 : decode cX12_word 38 = .ok (.bipush 8, 2) := by decide +kernel
theorem dX12_word_40 : decode cX12_word 40 = .ok (.lshl, 1) := by decide +kernel
theorem dX12_word_41 : decode cX12_word 41 = .ok (.aload_n 0, 1) := by decide +kernel
theorem dX12_word_42 : decode cX12_word 42 = .ok (.getfield 37, 3) := by decide +kernel
theorem dX12_word_45 : decode cX12_word 45 = .ok (.iload_n 3, 1) := by decide +kernel
theorem dX12_word_46 : decode cX12_word 46 = .ok (.iaload, 1) := by decide +kernel
theorem dX12_word_47 : decode cX12_word 47 = .ok (.i2l, 1) := by decide +kernel
theorem dX12_word_48 : decode cX12_word 48 = .ok (.lor, 1) := by decide +kernel
theorem dX12_word_49 : decode cX12_word 49 = .ok (.lstore_n 1, 1) := by decide +kernel
theorem dX12_word_50 : decode cX12_word 50 = .ok (.iinc 3 1, 3) := by decide +kernel
theorem dX12_word_53 : decode cX12_word 53 = .ok (.goto (-46), 3) := by decide +kernel
theorem dX12_word_56 : decode cX12_word 56 = .ok (.lload_n 1, 1) := by decide +kernel
theorem dX12_word_57 : decode cX12_word 57 = .ok (.lreturn, 1) := by decide +kernel
def bX12_word_0 (rc : Nat → ox_K) : ox_K := o_lc (0) (o_ls 1 (o_al 0 (o_geti 12 19 (o_is 3 (rc 7)))))
def bX12_word_7 (rc : Nat → ox_K) : ox_K := o_keep [0, 1, 3] (o_il 3 (o_al 0 (o_geti 12 20 (o_icge (rc 56) (o_al 0 (o_geti 12 18 (o_ic (2) (o_icne (rc 56) (o_al 0 (o_geti 12 20 (o_al 0 (o_geti 12 19 (o_isub (o_ic (8) (o_icge (rc 56) (o_ll 1 (o_ic (8) (o_lshl (o_al 0 (o_getr 12 13 (o_il 3 (o_ia (o_i2l (o_lor (o_ls 1 (o_inc 3 (1) (rc 7)))))))))))))))))))))))))))
def bX12_word_56 (rc : Nat → ox_K) : ox_K := o_ll 1 (o_lret)
section SX12_word
variable {p : Program} {l : Launch} {e : Env} {R : Room} {s : State} {m : MethodId} {args : Array Value} {below : List Frame} {meth : Method} {c : Code} {g : ox_G} {c0 t0 dp  : Nat} {rc : Nat → ox_K}
set_option maxRecDepth 100000 in
theorem kX12_word_0 (C : ox_C p s m args c g 4 cX12_word RX12) (hr : meth.sig.returnType = (some .long)) (hlk : meth.locks = false) (hnm : meth.name = "word") (hR : R.frames = dp ∧ R.locals = 60 * dp) (hrc : ∀ b, ox_S p l e R s m args below meth c g 4 c0 t0 (ox_QM g below args s c0 t0) b (rc b)) : ox_S p l e R s m args below meth c g 4 c0 t0 (ox_QM g below args s c0 t0) 0 (bX12_word_0 rc) := by
  refine s_lconst (pc := 0) C dX12_word_0 (by decide) ?_
  refine s_lstore_n (pc := 1) C dX12_word_1 rfl (by decide) ?_
  refine s_aload_n (pc := 2) C dX12_word_2 rfl ?_
  refine s_geti (pc := 3) (j := 19) (q := (RX12, TX12, 59)) C rfl (by decide) rfl wF_X12_150 dX12_word_3 ?_
  refine s_istore_n (pc := 6) C dX12_word_6 rfl (by decide) ?_
  exact hrc 7
set_option maxRecDepth 100000 in
theorem kX12_word_7 (C : ox_C p s m args c g 4 cX12_word RX12) (hr : meth.sig.returnType = (some .long)) (hlk : meth.locks = false) (hnm : meth.name = "word") (hR : R.frames = dp ∧ R.locals = 60 * dp) (hrc : ∀ b, ox_S p l e R s m args below meth c g 4 c0 t0 (ox_QM g below args s c0 t0) b (rc b)) : ox_S p l e R s m args below meth c g 4 c0 t0 (ox_QM g below args s c0 t0) 7 (bX12_word_7 rc) := by
  refine s_keep ?_
  refine s_iload_n (pc := 7) C dX12_word_7 rfl ?_
  refine s_aload_n (pc := 8) C dX12_word_8 rfl ?_
  refine s_geti (pc := 9) (j := 20) (q := (RX12, TX12, 59)) C rfl (by decide) rfl wF_X12_162 dX12_word_9 ?_
  refine s_icmpge (pc := 12) 56 C dX12_word_12 (by decide) (hrc 56) ?_
  refine s_aload_n (pc := 15) C dX12_word_15 rfl ?_
  refine s_geti (pc := 16) (j := 18) (q := (RX12, TX12, 59)) C rfl (by decide) rfl wF_X12_153 dX12_word_16 ?_
  refine s_iconst (pc := 19) C dX12_word_19 (by decide) ?_
  refine s_icmpne (pc := 20) 56 C dX12_word_20 (by decide) (hrc 56) ?_
  refine s_aload_n (pc := 23) C dX12_word_23 rfl ?_
  refine s_geti (pc := 24) (j := 20) (q := (RX12, TX12, 59)) C rfl (by decide) rfl wF_X12_162 dX12_word_24 ?_
  refine s_aload_n (pc := 27) C dX12_word_27 rfl ?_
  refine s_geti (pc := 28) (j := 19) (q := (RX12, TX12, 59)) C rfl (by decide) rfl wF_X12_150 dX12_word_28 ?_
  refine s_isub (pc := 31) C dX12_word_31 ?_
  refine s_bipush (pc := 32) C dX12_word_32 (by decide) ?_
  refine s_icmpge (pc := 34) 56 C dX12_word_34 (by decide) (hrc 56) ?_
  refine s_lload_n (pc := 37) C dX12_word_37 rfl ?_
  refine s_bipush (pc := 38) C dX12_word_38 (by decide) ?_
  refine s_lshl (pc := 40) C dX12_word_40 ?_
  refine s_aload_n (pc := 41) C dX12_word_41 rfl ?_
  refine s_getr (pc := 42) (j := 13) (q := (RX12, TX12, 59)) C rfl (by decide) rfl wF_X12_37 dX12_word_42 ?_
  refine s_iload_n (pc := 45) C dX12_word_45 rfl ?_
  refine s_ia (pc := 46) C dX12_word_46 ?_
  refine s_i2l (pc := 47) C dX12_word_47 ?_
  refine s_lor (pc := 48) C dX12_word_48 ?_
  refine s_lstore_n (pc := 49) C dX12_word_49 rfl (by decide) ?_
  refine s_iinc (pc := 50) C dX12_word_50 (by decide) (by decide) ?_
  exact s_goto (pc := 53) 7 C dX12_word_53 (by decide) (hrc 7)
set_option maxRecDepth 100000 in
theorem kX12_word_56 (C : ox_C p s m args c g 4 cX12_word RX12) (hr : meth.sig.returnType = (some .long)) (hlk : meth.locks = false) (hnm : meth.name = "word") (hR : R.frames = dp ∧ R.locals = 60 * dp) (hrc : ∀ b, ox_S p l e R s m args below meth c g 4 c0 t0 (ox_QM g below args s c0 t0) b (rc b)) : ox_S p l e R s m args below meth c g 4 c0 t0 (ox_QM g below args s c0 t0) 56 (bX12_word_56 rc) := by
  refine s_lload_n (pc := 56) C dX12_word_56 rfl ?_
  exact s_lret (pc := 57) C hr hlk dX12_word_57
end SX12_word
def bsX12_word (b : Nat) (rc : Nat → ox_K) : ox_K := if b = 0 then bX12_word_0 rc else if b = 7 then bX12_word_7 rc else if b = 56 then bX12_word_56 rc else ox_no
theorem mX12_word {dp  : Nat} {f : ox_F} (hf : ∀ as h r, f as h = some r → ox_cs as ≤ 4 ∧ ox_le h r.2 ∧ ∃ n, ox_run (bsX12_word) n 0 (lv_args 0 as) [] h = some r) : ox_Sem yX12_word cX12_word 4 (some .long) dp f := by
  refine ox_meth (bs := bsX12_word) (by decide) hf ?_
  intro p l e R s m args below meth c g c0 t0 C hr hlk hnm hR rc hrc b
  unfold bsX12_word
  refine ox_br (kX12_word_0 C hr hlk hnm hR hrc) ?_
  refine ox_br (kX12_word_7 C hr hlk hnm hR hrc) ?_
  refine ox_br (kX12_word_56 C hr hlk hnm hR hrc) ?_
  exact s_no
theorem dX12_numberIn_0 : decode cX12_numberIn 0 = .ok (.aload_n 0, 1) := by decide +kernel
theorem dX12_numberIn_1 : decode cX12_numberIn 1 = .ok (.getfield 165, 3) := by decide +kernel
theorem dX12_numberIn_4 : decode cX12_numberIn 4 = .ok (.ifCond .le 5, 3) := by decide +kernel
theorem dX12_numberIn_7 : decode cX12_numberIn 7 = .ok (.iconst 0, 1) := by decide +kernel
theorem dX12_numberIn_8 : decode cX12_numberIn 8 = .ok (.ireturn, 1) := by decide +kernel
theorem dX12_numberIn_9 : decode cX12_numberIn 9 = .ok (.iconst 0, 1) := by decide +kernel
theorem dX12_numberIn_10 : decode cX12_numberIn 10 = .ok (.istore_n 3, 1) := by decide +kernel
theorem dX12_numberIn_11 : decode cX12_numberIn 11 = .ok (.aload_n 0, 1) := by decide +kernel
theorem dX12_numberIn_12 : decode cX12_numberIn 12 = .ok (.getfield 150, 3) := by decide +kernel
theorem dX12_numberIn_15 : decode cX12_numberIn 15 = .ok (.istore 4, 2) := by decide +kernel
theorem dX12_numberIn_17 : decode cX12_numberIn 17 = .ok (.iload 4, 2) := by decide +kernel
theorem dX12_numberIn_19 : decode cX12_numberIn 19 = .ok (.aload_n 0, 1) := by decide +kernel
theorem dX12_numberIn_20 : decode cX12_numberIn 20 = .ok (.getfield 162, 3) := by decide +kernel
theorem dX12_numberIn_23 : decode cX12_numberIn 23 = .ok (.if_icmp .ge 33, 3) := by decide +kernel
theorem dX12_numberIn_26 : decode cX12_numberIn 26 = .ok (.aload_n 0, 1) := by decide +kernel
theorem dX12_numberIn_27 : decode cX12_numberIn 27 = .ok (.getfield 153, 3) := by decide +kernel
theorem dX12_numberIn_30 : decode cX12_numberIn 30 = .ok (.iconst 3, 1) := by decide +kernel
theorem dX12_numberIn_31 : decode cX12_numberIn 31 = .ok (.if_icmp .ne 25, 3) := by decide +kernel
theorem dX12_numberIn_34 : decode cX12_numberIn 34 = .ok (.bipush 10, 2) := by decide +kernel
theorem dX12_numberIn_36 : decode cX12_numberIn 36 = .ok (.iload_n 3, 1) := by decide +kernel
theorem dX12_numberIn_37 : decode cX12_numberIn 37 = .ok (.imul, 1) := by decide +kernel
theorem dX12_numberIn_38 : decode cX12_numberIn 38 = .ok (.aload_n 0, 1) := by decide +kernel
theorem dX12_numberIn_39 : decode cX12_numberIn 39 = .ok (.getfield 37, 3) := by decide +kernel
theorem dX12_numberIn_42 : decode cX12_numberIn 42 = .ok (.iload 4, 2) := by decide +kernel
theorem dX12_numberIn_44 : decode cX12_numberIn 44 = .ok (.iaload, 1) := by decide +kernel
theorem dX12_numberIn_45 : decode cX12_numberIn 45 = .ok (.iadd, 1) := by decide +kernel
theorem dX12_numberIn_46 : decode cX12_numberIn 46 = .ok (.bipush 48, 2) := by decide +kernel
theorem dX12_numberIn_48 : decode cX12_numberIn 48 = .ok (.isub, 1) := by decide +kernel
theorem dX12_numberIn_49 : decode cX12_numberIn 49 = .ok (.istore_n 3, 1) := by decide +kernel
theorem dX12_numberIn_50 : decode cX12_numberIn 50 = .ok (.iinc 4 1, 3) := by decide +kernel
theorem dX12_numberIn_53 : decode cX12_numberIn 53 = .ok (.goto (-36), 3) := by decide +kernel
theorem dX12_numberIn_56 : decode cX12_numberIn 56 = .ok (.aload_n 0, 1) := by decide +kernel
theorem dX12_numberIn_57 : decode cX12_numberIn 57 = .ok (.getfield 153, 3) := by decide +kernel
theorem dX12_numberIn_60 : decode cX12_numberIn 60 = .ok (.iconst 3, 1) := by decide +kernel
theorem dX12_numberIn_61 : decode cX12_numberIn 61 = .ok (.if_icmp .ne 20, 3) := by decide +kernel
theorem dX12_numberIn_64 : decode cX12_numberIn 64 = .ok (.iload_n 3, 1) := by decide +kernel
theorem dX12_numberIn_65 : decode cX12_numberIn 65 = .ok (.i2l, 1) := by decide +kernel
theorem dX12_numberIn_66 : decode cX12_numberIn 66 = .ok (.iload_n 1, 1) := by decide +kernel
theorem dX12_numberIn_67 : decode cX12_numberIn 67 = .ok (.i2l, 1) := by decide +kernel
theorem dX12_numberIn_68 : decode cX12_numberIn 68 = .ok (.iload_n 2, 1) := by decide +kernel
theorem dX12_numberIn_69 : decode cX12_numberIn 69 = .ok (.i2l, 1) := by decide +kernel
theorem dX12_numberIn_70 : decode cX12_numberIn 70 = .ok (.invokestatic 117, 3) := by decide +kernel
theorem dX12_numberIn_73 : decode cX12_numberIn 73 = .ok (.ifCond .ne 8, 3) := by decide +kernel
theorem dX12_numberIn_76 : decode cX12_numberIn 76 = .ok (.aload_n 0, 1) := by decide +kernel
theorem dX12_numberIn_77 : decode cX12_numberIn 77 = .ok (.iconst 2, 1) := by decide +kernel
theorem dX12_numberIn_78 : decode cX12_numberIn 78 = .ok (.invokevirtual 171, 3) := by decide +kernel
theorem dX12_numberIn_81 : decode cX12_numberIn 81 = .ok (.aload_n 0, 1) := by decide +kernel
theorem dX12_numberIn_82 : decode cX12_numberIn 82 = .ok (.aload_n 0, 1) := by decide +kernel
theorem dX12_numberIn_83 : decode cX12_numberIn 83 = .ok (.getfield 153, 3) := by decide +kernel
theorem dX12_numberIn_86 : decode cX12_numberIn 86 = .ok (.iconst 3, 1) := by decide +kernel
theorem dX12_numberIn_87 : decode cX12_numberIn 87 = .ok (.if_icmp .ne 7, 3) := by decide +kernel
theorem dX12_numberIn_90 : decode cX12_numberIn 90 = .ok (.iconst 1, 1) := by decide +kernel
theorem dX12_numberIn_91 : decode cX12_numberIn 91 = .ok (.goto 4, 3) := by decide +kernel
theorem dX12_numberIn_94 : decode cX12_numberIn 94 = .ok (.iconst 0, 1) := by decide +kernel
theorem dX12_numberIn_95 : decode cX12_numberIn 95 = .ok (.invokevirtual 178, 3) := by decide +kernel
theorem dX12_numberIn_98 : decode cX12_numberIn 98 = .ok (.iload_n 3, 1) := by decide +kernel
theorem dX12_numberIn_99 : decode cX12_numberIn 99 = .ok (.ireturn, 1) := by decide +kernel
def bX12_numberIn_0 (f1 f2 f3 : ox_F) (rc : Nat → ox_K) : ox_K := o_al 0 (o_geti 12 21 (o_ifle (rc 9) (o_ic (0) (o_iret))))
def bX12_numberIn_9 (f1 f2 f3 : ox_F) (rc : Nat → ox_K) : ox_K := o_ic (0) (o_is 3 (o_al 0 (o_geti 12 19 (o_is 4 (rc 17)))))
def bX12_numberIn_17 (f1 f2 f3 : ox_F) (rc : Nat → ox_K) : ox_K := o_keep [0, 1, 2, 3, 4] (o_il 4 (o_al 0 (o_geti 12 20 (o_icge (rc 56) (o_al 0 (o_geti 12 18 (o_ic (3) (o_icne (rc 56) (o_ic (10) (o_il 3 (o_imul (o_al 0 (o_getr 12 13 (o_il 4 (o_ia (o_iadd (o_ic (48) (o_isub (o_is 3 (o_inc 4 (1) (rc 17)))))))))))))))))))))
def bX12_numberIn_56 (f1 f2 f3 : ox_F) (rc : Nat → ox_K) : ox_K := o_al 0 (o_geti 12 18 (o_ic (3) (o_icne (rc 81) (o_il 3 (o_i2l (o_il 1 (o_i2l (o_il 2 (o_i2l (o_ct f1 3 (o_ifne (rc 81) (o_al 0 (o_ic (2) (o_cv f2 12 1 (rc 81)))))))))))))))
def bX12_numberIn_81 (f1 f2 f3 : ox_F) (rc : Nat → ox_K) : ox_K := o_al 0 (o_al 0 (o_geti 12 18 (o_ic (3) (o_icne (rc 94) (o_ic (1) (rc 95))))))
def bX12_numberIn_94 (f1 f2 f3 : ox_F) (rc : Nat → ox_K) : ox_K := o_ic (0) (rc 95)
def bX12_numberIn_95 (f1 f2 f3 : ox_F) (rc : Nat → ox_K) : ox_K := o_cv f3 12 1 (o_il 3 (o_iret))
section SX12_numberIn
variable {p : Program} {l : Launch} {e : Env} {R : Room} {s : State} {m : MethodId} {args : Array Value} {below : List Frame} {meth : Method} {c : Code} {g : ox_G} {c0 t0 dp d1 d2 d3 : Nat} {rc : Nat → ox_K} {f1 f2 f3 : ox_F}
set_option maxRecDepth 100000 in
theorem kX12_numberIn_0 (C : ox_C p s m args c g 5 cX12_numberIn RX12) (hr : meth.sig.returnType = (some .int)) (hlk : meth.locks = false) (hnm : meth.name = "numberIn") (hR : R.frames = dp ∧ R.locals = 60 * dp) (h1 : ox_Sem yX12_in cX12_in 6 (some .boolean) d1 f1) (e1 : d1 + 1 ≤ dp) (h2 : ox_Sem yX12_bad cX12_bad 2 none d2 f2) (e2 : d2 + 1 ≤ dp) (h3 : ox_Sem yX12_must cX12_must 2 none d3 f3) (e3 : d3 + 1 ≤ dp) (hrc : ∀ b, ox_S p l e R s m args below meth c g 5 c0 t0 (ox_QM g below args s c0 t0) b (rc b)) : ox_S p l e R s m args below meth c g 5 c0 t0 (ox_QM g below args s c0 t0) 0 (bX12_numberIn_0 f1 f2 f3 rc) := by
  refine s_aload_n (pc := 0) C dX12_numberIn_0 rfl ?_
  refine s_geti (pc := 1) (j := 21) (q := (RX12, TX12, 59)) C rfl (by decide) rfl wF_X12_165 dX12_numberIn_1 ?_
  refine s_ifle (pc := 4) 9 C dX12_numberIn_4 (by decide) (hrc 9) ?_
  refine s_iconst (pc := 7) C dX12_numberIn_7 (by decide) ?_
  exact s_iret (pc := 8) C hr hlk dX12_numberIn_8
set_option maxRecDepth 100000 in
theorem kX12_numberIn_9 (C : ox_C p s m args c g 5 cX12_numberIn RX12) (hr : meth.sig.returnType = (some .int)) (hlk : meth.locks = false) (hnm : meth.name = "numberIn") (hR : R.frames = dp ∧ R.locals = 60 * dp) (h1 : ox_Sem yX12_in cX12_in 6 (some .boolean) d1 f1) (e1 : d1 + 1 ≤ dp) (h2 : ox_Sem yX12_bad cX12_bad 2 none d2 f2) (e2 : d2 + 1 ≤ dp) (h3 : ox_Sem yX12_must cX12_must 2 none d3 f3) (e3 : d3 + 1 ≤ dp) (hrc : ∀ b, ox_S p l e R s m args below meth c g 5 c0 t0 (ox_QM g below args s c0 t0) b (rc b)) : ox_S p l e R s m args below meth c g 5 c0 t0 (ox_QM g below args s c0 t0) 9 (bX12_numberIn_9 f1 f2 f3 rc) := by
  refine s_iconst (pc := 9) C dX12_numberIn_9 (by decide) ?_
  refine s_istore_n (pc := 10) C dX12_numberIn_10 rfl (by decide) ?_
  refine s_aload_n (pc := 11) C dX12_numberIn_11 rfl ?_
  refine s_geti (pc := 12) (j := 19) (q := (RX12, TX12, 59)) C rfl (by decide) rfl wF_X12_150 dX12_numberIn_12 ?_
  refine s_istore (pc := 15) C dX12_numberIn_15 (by decide) ?_
  exact hrc 17
set_option maxRecDepth 100000 in
theorem kX12_numberIn_17 (C : ox_C p s m args c g 5 cX12_numberIn RX12) (hr : meth.sig.returnType = (some .int)) (hlk : meth.locks = false) (hnm : meth.name = "numberIn") (hR : R.frames = dp ∧ R.locals = 60 * dp) (h1 : ox_Sem yX12_in cX12_in 6 (some .boolean) d1 f1) (e1 : d1 + 1 ≤ dp) (h2 : ox_Sem yX12_bad cX12_bad 2 none d2 f2) (e2 : d2 + 1 ≤ dp) (h3 : ox_Sem yX12_must cX12_must 2 none d3 f3) (e3 : d3 + 1 ≤ dp) (hrc : ∀ b, ox_S p l e R s m args below meth c g 5 c0 t0 (ox_QM g below args s c0 t0) b (rc b)) : ox_S p l e R s m args below meth c g 5 c0 t0 (ox_QM g below args s c0 t0) 17 (bX12_numberIn_17 f1 f2 f3 rc) := by
  refine s_keep ?_
  refine s_iload (pc := 17) C dX12_numberIn_17 ?_
  refine s_aload_n (pc := 19) C dX12_numberIn_19 rfl ?_
  refine s_geti (pc := 20) (j := 20) (q := (RX12, TX12, 59)) C rfl (by decide) rfl wF_X12_162 dX12_numberIn_20 ?_
  refine s_icmpge (pc := 23) 56 C dX12_numberIn_23 (by decide) (hrc 56) ?_
  refine s_aload_n (pc := 26) C dX12_numberIn_26 rfl ?_
  refine s_geti (pc := 27) (j := 18) (q := (RX12, TX12, 59)) C rfl (by decide) rfl wF_X12_153 dX12_numberIn_27 ?_
  refine s_iconst (pc := 30) C dX12_numberIn_30 (by decide) ?_
  refine s_icmpne (pc := 31) 56 C dX12_numberIn_31 (by decide) (hrc 56) ?_
  refine s_bipush (pc := 34) C dX12_numberIn_34 (by decide) ?_
  refine s_iload_n (pc := 36) C dX12_numberIn_36 rfl ?_
  refine s_imul (pc := 37) C dX12_numberIn_37 ?_
  refine s_aload_n (pc := 38) C dX12_numberIn_38 rfl ?_
  refine s_getr (pc := 39) (j := 13) (q := (RX12, TX12, 59)) C rfl (by decide) rfl wF_X12_37 dX12_numberIn_39 ?_
  refine s_iload (pc := 42) C dX12_numberIn_42 ?_
  refine s_ia (pc := 44) C dX12_numberIn_44 ?_
  refine s_iadd (pc := 45) C dX12_numberIn_45 ?_
  refine s_bipush (pc := 46) C dX12_numberIn_46 (by decide) ?_
  refine s_isub (pc := 48) C dX12_numberIn_48 ?_
  refine s_istore_n (pc := 49) C dX12_numberIn_49 rfl (by decide) ?_
  refine s_iinc (pc := 50) C dX12_numberIn_50 (by decide) (by decide) ?_
  exact s_goto (pc := 53) 17 C dX12_numberIn_53 (by decide) (hrc 17)
set_option maxRecDepth 100000 in
theorem kX12_numberIn_56 (C : ox_C p s m args c g 5 cX12_numberIn RX12) (hr : meth.sig.returnType = (some .int)) (hlk : meth.locks = false) (hnm : meth.name = "numberIn") (hR : R.frames = dp ∧ R.locals = 60 * dp) (h1 : ox_Sem yX12_in cX12_in 6 (some .boolean) d1 f1) (e1 : d1 + 1 ≤ dp) (h2 : ox_Sem yX12_bad cX12_bad 2 none d2 f2) (e2 : d2 + 1 ≤ dp) (h3 : ox_Sem yX12_must cX12_must 2 none d3 f3) (e3 : d3 + 1 ≤ dp) (hrc : ∀ b, ox_S p l e R s m args below meth c g 5 c0 t0 (ox_QM g below args s c0 t0) b (rc b)) : ox_S p l e R s m args below meth c g 5 c0 t0 (ox_QM g below args s c0 t0) 56 (bX12_numberIn_56 f1 f2 f3 rc) := by
  refine s_aload_n (pc := 56) C dX12_numberIn_56 rfl ?_
  refine s_geti (pc := 57) (j := 18) (q := (RX12, TX12, 59)) C rfl (by decide) rfl wF_X12_153 dX12_numberIn_57 ?_
  refine s_iconst (pc := 60) C dX12_numberIn_60 (by decide) ?_
  refine s_icmpne (pc := 61) 81 C dX12_numberIn_61 (by decide) (hrc 81) ?_
  refine s_iload_n (pc := 64) C dX12_numberIn_64 rfl ?_
  refine s_i2l (pc := 65) C dX12_numberIn_65 ?_
  refine s_iload_n (pc := 66) C dX12_numberIn_66 rfl ?_
  refine s_i2l (pc := 67) C dX12_numberIn_67 ?_
  refine s_iload_n (pc := 68) C dX12_numberIn_68 rfl ?_
  refine s_i2l (pc := 69) C dX12_numberIn_69 ?_
  refine s_ct (pc := 70) C h1 wM_X12_117 wT_X12_in wN_X12 wC_X12_in (by decide +kernel) (ox_lv hR e1 (by decide)) dX12_numberIn_70 ?_
  refine s_ifne (pc := 73) 81 C dX12_numberIn_73 (by decide) (hrc 81) ?_
  refine s_aload_n (pc := 76) C dX12_numberIn_76 rfl ?_
  refine s_iconst (pc := 77) C dX12_numberIn_77 (by decide) ?_
  refine s_cv (pc := 78) (q := (RX12, TX12, 59)) C h2 rfl wM_X12_171 wI_X12_bad wS_X12_bad wN_X12 wC_X12_bad (by decide +kernel) (ox_lv hR e2 (by decide)) dX12_numberIn_78 ?_
  exact hrc 81
set_option maxRecDepth 100000 in
theorem kX12_numberIn_81 (C : ox_C p s m args c g 5 cX12_numberIn RX12) (hr : meth.sig.returnType = (some .int)) (hlk : meth.locks = false) (hnm : meth.name = "numberIn") (hR : R.frames = dp ∧ R.locals = 60 * dp) (h1 : ox_Sem yX12_in cX12_in 6 (some .boolean) d1 f1) (e1 : d1 + 1 ≤ dp) (h2 : ox_Sem yX12_bad cX12_bad 2 none d2 f2) (e2 : d2 + 1 ≤ dp) (h3 : ox_Sem yX12_must cX12_must 2 none d3 f3) (e3 : d3 + 1 ≤ dp) (hrc : ∀ b, ox_S p l e R s m args below meth c g 5 c0 t0 (ox_QM g below args s c0 t0) b (rc b)) : ox_S p l e R s m args below meth c g 5 c0 t0 (ox_QM g below args s c0 t0) 81 (bX12_numberIn_81 f1 f2 f3 rc) := by
  refine s_aload_n (pc := 81) C dX12_numberIn_81 rfl ?_
  refine s_aload_n (pc := 82) C dX12_numberIn_82 rfl ?_
  refine s_geti (pc := 83) (j := 18) (q := (RX12, TX12, 59)) C rfl (by decide) rfl wF_X12_153 dX12_numberIn_83 ?_
  refine s_iconst (pc := 86) C dX12_numberIn_86 (by decide) ?_
  refine s_icmpne (pc := 87) 94 C dX12_numberIn_87 (by decide) (hrc 94) ?_
  refine s_iconst (pc := 90) C dX12_numberIn_90 (by decide) ?_
  exact s_goto (pc := 91) 95 C dX12_numberIn_91 (by decide) (hrc 95)
set_option maxRecDepth 100000 in
theorem kX12_numberIn_94 (C : ox_C p s m args c g 5 cX12_numberIn RX12) (hr : meth.sig.returnType = (some .int)) (hlk : meth.locks = false) (hnm : meth.name = "numberIn") (hR : R.frames = dp ∧ R.locals = 60 * dp) (h1 : ox_Sem yX12_in cX12_in 6 (some .boolean) d1 f1) (e1 : d1 + 1 ≤ dp) (h2 : ox_Sem yX12_bad cX12_bad 2 none d2 f2) (e2 : d2 + 1 ≤ dp) (h3 : ox_Sem yX12_must cX12_must 2 none d3 f3) (e3 : d3 + 1 ≤ dp) (hrc : ∀ b, ox_S p l e R s m args below meth c g 5 c0 t0 (ox_QM g below args s c0 t0) b (rc b)) : ox_S p l e R s m args below meth c g 5 c0 t0 (ox_QM g below args s c0 t0) 94 (bX12_numberIn_94 f1 f2 f3 rc) := by
  refine s_iconst (pc := 94) C dX12_numberIn_94 (by decide) ?_
  exact hrc 95
set_option maxRecDepth 100000 in
theorem kX12_numberIn_95 (C : ox_C p s m args c g 5 cX12_numberIn RX12) (hr : meth.sig.returnType = (some .int)) (hlk : meth.locks = false) (hnm : meth.name = "numberIn") (hR : R.frames = dp ∧ R.locals = 60 * dp) (h1 : ox_Sem yX12_in cX12_in 6 (some .boolean) d1 f1) (e1 : d1 + 1 ≤ dp) (h2 : ox_Sem yX12_bad cX12_bad 2 none d2 f2) (e2 : d2 + 1 ≤ dp) (h3 : ox_Sem yX12_must cX12_must 2 none d3 f3) (e3 : d3 + 1 ≤ dp) (hrc : ∀ b, ox_S p l e R s m args below meth c g 5 c0 t0 (ox_QM g below args s c0 t0) b (rc b)) : ox_S p l e R s m args below meth c g 5 c0 t0 (ox_QM g below args s c0 t0) 95 (bX12_numberIn_95 f1 f2 f3 rc) := by
  refine s_cv (pc := 95) (q := (RX12, TX12, 59)) C h3 rfl wM_X12_178 wI_X12_must wS_X12_must wN_X12 wC_X12_must (by decide +kernel) (ox_lv hR e3 (by decide)) dX12_numberIn_95 ?_
  refine s_iload_n (pc := 98) C dX12_numberIn_98 rfl ?_
  exact s_iret (pc := 99) C hr hlk dX12_numberIn_99
end SX12_numberIn
def bsX12_numberIn (f1 f2 f3 : ox_F) (b : Nat) (rc : Nat → ox_K) : ox_K := if b = 0 then bX12_numberIn_0 f1 f2 f3 rc else if b = 9 then bX12_numberIn_9 f1 f2 f3 rc else if b = 17 then bX12_numberIn_17 f1 f2 f3 rc else if b = 56 then bX12_numberIn_56 f1 f2 f3 rc else if b = 81 then bX12_numberIn_81 f1 f2 f3 rc else if b = 94 then bX12_numberIn_94 f1 f2 f3 rc else if b = 95 then bX12_numberIn_95 f1 f2 f3 rc else ox_no
theorem mX12_numberIn {dp d1 d2 d3 : Nat} {f1 f2 f3 f : ox_F} (h1 : ox_Sem yX12_in cX12_in 6 (some .boolean) d1 f1) (e1 : d1 + 1 ≤ dp) (h2 : ox_Sem yX12_bad cX12_bad 2 none d2 f2) (e2 : d2 + 1 ≤ dp) (h3 : ox_Sem yX12_must cX12_must 2 none d3 f3) (e3 : d3 + 1 ≤ dp) (hf : ∀ as h r, f as h = some r → ox_cs as ≤ 5 ∧ ox_le h r.2 ∧ ∃ n, ox_run (bsX12_numberIn f1 f2 f3) n 0 (lv_args 0 as) [] h = some r) : ox_Sem yX12_numberIn cX12_numberIn 5 (some .int) dp f := by
  refine ox_meth (bs := bsX12_numberIn f1 f2 f3) (by decide) hf ?_
  intro p l e R s m args below meth c g c0 t0 C hr hlk hnm hR rc hrc b
  unfold bsX12_numberIn
  refine ox_br (kX12_numberIn_0 C hr hlk hnm hR h1 e1 h2 e2 h3 e3 hrc) ?_
  refine ox_br (kX12_numberIn_9 C hr hlk hnm hR h1 e1 h2 e2 h3 e3 hrc) ?_
  refine ox_br (kX12_numberIn_17 C hr hlk hnm hR h1 e1 h2 e2 h3 e3 hrc) ?_
  refine ox_br (kX12_numberIn_56 C hr hlk hnm hR h1 e1 h2 e2 h3 e3 hrc) ?_
  refine ox_br (kX12_numberIn_81 C hr hlk hnm hR h1 e1 h2 e2 h3 e3 hrc) ?_
  refine ox_br (kX12_numberIn_94 C hr hlk hnm hR h1 e1 h2 e2 h3 e3 hrc) ?_
  refine ox_br (kX12_numberIn_95 C hr hlk hnm hR h1 e1 h2 e2 h3 e3 hrc) ?_
  exact s_no
theorem dX12_readRecipe_0 : decode cX12_readRecipe 0 = .ok (.aload_n 0, 1) := by decide +kernel
theorem dX12_readRecipe_1 : decode cX12_readRecipe 1 = .ok (.invokevirtual 182, 3) := by decide +kernel
theorem dX12_readRecipe_4 : decode cX12_readRecipe 4 = .ok (.lstore_n 1, 1) := by decide +kernel
theorem dX12_readRecipe_5 : decode cX12_readRecipe 5 = .ok (.lload_n 1, 1) := by decide +kernel
theorem dX12_readRecipe_6 : decode cX12_readRecipe 6 = .ok (.ldc2_w 186, 3) := by decide +kernel
theorem dX12_readRecipe_9 : decode cX12_readRecipe 9 = .ok (.lcmp, 1) := by decide +kernel
theorem dX12_readRecipe_10 : decode cX12_readRecipe 10 = .ok (.ifCond .ne 17, 3) := by decide +kernel
theorem dX12_readRecipe_13 : decode cX12_readRecipe 13 = .ok (.aload_n 0, 1) := by decide +kernel
theorem dX12_readRecipe_14 : decode cX12_readRecipe 14 = .ok (.getfield 188, 3) := by decide +kernel
theorem dX12_readRecipe_17 : decode cX12_readRecipe 17 = .ok (.bipush 6, 2) := by decide +kernel
theorem dX12_readRecipe_19 : decode cX12_readRecipe 19 = .ok (.if_icmp .ne 8, 3) := by decide +kernel
theorem dX12_readRecipe_22 : decode cX12_readRecipe 22 = .ok (.aload_n 0, 1) := by decide +kernel
theorem dX12_readRecipe_23 : decode cX12_readRecipe 23 = .ok (.iconst 3, 1) := by decide +kernel
theorem dX12_readRecipe_24 : decode cX12_readRecipe 24 = .ok (.invokevirtual 171, 3) := by decide +kernel
theorem dX12_readRecipe_27 : decode cX12_readRecipe 27 = .ok (.aload_n 0, 1) := by decide +kernel
theorem dX12_readRecipe_28 : decode cX12_readRecipe 28 = .ok (.lload_n 1, 1) := by decide +kernel
theorem dX12_readRecipe_29 : decode cX12_readRecipe 29 = .ok (.ldc2_w 186, 3) := by decide +kernel
theorem dX12_readRecipe_32 : decode cX12_readRecipe 32 = .ok (.lcmp, 1) := by decide +kernel
theorem dX12_readRecipe_33 : decode cX12_readRecipe 33 = .ok (.ifCond .ne 7, 3) := by decide +kernel
theorem dX12_readRecipe_36 : decode cX12_readRecipe 36 = .ok (.iconst 1, 1) := by decide +kernel
theorem dX12_readRecipe_37 : decode cX12_readRecipe 37 = .ok (.goto 4, 3) := by decide +kernel
theorem dX12_readRecipe_40 : decode cX12_readRecipe 40 = .ok (.iconst 0, 1) := by decide +kernel
theorem dX12_readRecipe_41 : decode cX12_readRecipe 41 = .ok (.invokevirtual 178, 3) := by decide +kernel
theorem dX12_readRecipe_44 : decode cX12_readRecipe 44 = .ok (.aload_n 0, 1) := by decide +kernel
theorem dX12_readRecipe_45 : decode cX12_readRecipe 45 = .ok (.getfield 165, 3) := by decide +kernel
theorem dX12_readRecipe_48 : decode cX12_readRecipe 48 = .ok (.ifCond .le 4, 3) := by decide +kernel
theorem dX12_readRecipe_51 : decode cX12_readRecipe 51 = .ok (.return_, 1) := by decide +kernel
theorem dX12_readRecipe_52 : decode cX12_readRecipe 52 = .ok (.aload_n 0, 1) := by decide +kernel
theorem dX12_readRecipe_53 : decode cX12_readRecipe 53 = .ok (.getfield 19, 3) := by decide +kernel
theorem dX12_readRecipe_56 : decode cX12_readRecipe 56 = .ok (.aload_n 0, 1) := by decide +kernel
theorem dX12_readRecipe_57 : decode cX12_readRecipe 57 = .ok (.getfield 188, 3) := by decide +kernel
theorem dX12_readRecipe_60 : decode cX12_readRecipe 60 = .ok (.aload_n 0, 1) := by decide +kernel
theorem dX12_readRecipe_61 : decode cX12_readRecipe 61 = .ok (.iconst 0, 1) := by decide +kernel
theorem dX12_readRecipe_62 : decode cX12_readRecipe 62 = .ok (.bipush 15, 2) := by decide +kernel
theorem dX12_readRecipe_64 : decode cX12_readRecipe 64 = .ok (.invokevirtual 191, 3) := by decide +kernel
theorem dX12_readRecipe_67 : decode cX12_readRecipe 67 = .ok (.iastore, 1) := by decide +kernel
theorem dX12_readRecipe_68 : decode cX12_readRecipe 68 = .ok (.aload_n 0, 1) := by decide +kernel
theorem dX12_readRecipe_69 : decode cX12_readRecipe 69 = .ok (.getfield 22, 3) := by decide +kernel
theorem dX12_readRecipe_72 : decode cX12_readRecipe 72 = .ok (.aload_n 0, 1) := by decide +kernel
theorem dX12_readRecipe_73 : decode cX12_readRecipe 73 = .ok (.getfield 188, 3) := by decide +kernel
theorem dX12_readRecipe_76 : decode cX12_readRecipe 76 = .ok (.aload_n 0, 1) := by decide +kernel
theorem dX12_readRecipe_77 : decode cX12_readRecipe 77 = .ok (.iconst 0, 1) := by decide +kernel
theorem dX12_readRecipe_78 : decode cX12_readRecipe 78 = .ok (.bipush 50, 2) := by decide +kernel
theorem dX12_readRecipe_80 : decode cX12_readRecipe 80 = .ok (.invokevirtual 191, 3) := by decide +kernel
theorem dX12_readRecipe_83 : decode cX12_readRecipe 83 = .ok (.iastore, 1) := by decide +kernel
theorem dX12_readRecipe_84 : decode cX12_readRecipe 84 = .ok (.iconst 0, 1) := by decide +kernel
theorem dX12_readRecipe_85 : decode cX12_readRecipe 85 = .ok (.istore_n 3, 1) := by decide +kernel
theorem dX12_readRecipe_86 : decode cX12_readRecipe 86 = .ok (.aload_n 0, 1) := by decide +kernel
theorem dX12_readRecipe_87 : decode cX12_readRecipe 87 = .ok (.getfield 165, 3) := by decide +kernel
theorem dX12_readRecipe_90 : decode cX12_readRecipe 90 = .ok (.ifCond .ne 138, 3) := by decide +kernel
theorem dX12_readRecipe_93 : decode cX12_readRecipe 93 = .ok (.aload_n 0, 1) := by decide +kernel
theorem dX12_readRecipe_94 : decode cX12_readRecipe 94 = .ok (.invokevirtual 182, 3) := by decide +kernel
theorem dX12_readRecipe_97 : decode cX12_readRecipe 97 = .ok (.ldc2_w 195, 3) := by decide +kernel
theorem dX12_readRecipe_100 : decode cX12_readRecipe 100 = .ok (.lcmp, 1) := by decide +kernel
theorem dX12_readRecipe_101 : decode cX12_readRecipe 101 = .ok (.ifCond .eq 14, 3) := by decide +kernel
theorem dX12_readRecipe_104 : decode cX12_readRecipe 104 = .ok (.aload_n 0, 1) := by decide +kernel
theorem dX12_readRecipe_105 : decode cX12_readRecipe 105 = .ok (.invokevirtual 182, 3) := by decide +kernel
theorem dX12_readRecipe_108 : decode cX12_readRecipe 108 = .ok (.ldc2_w 197, 3) := by decide +kernel
theorem dX12_readRecipe_111 : decode cX12_readRecipe 111 = .ok (.lcmp, 1) := by decide +kernel
theorem dX12_readRecipe_112 : decode cX12_readRecipe 112 = .ok (.ifCond .ne 116, 3) := by decide +kernel
theorem dX12_readRecipe_115 : decode cX12_readRecipe 115 = .ok (.aload_n 0, 1) := by decide +kernel
theorem dX12_readRecipe_116 : decode cX12_readRecipe 116 = .ok (.invokevirtual 182, 3) := by decide +kernel
theorem dX12_readRecipe_119 : decode cX12_readRecipe 119 = .ok (.ldc2_w 195, 3) := by decide +kernel
theorem dX12_readRecipe_122 : decode cX12_readRecipe 122 = .ok (.lcmp, 1) := by decide +kernel
theorem dX12_readRecipe_123 : decode cX12_readRecipe 123 = .ok (.ifCond .ne 7, 3) := by decide +kernel
theorem dX12_readRecipe_126 : decode cX12_readRecipe 126 = .ok (.iconst 1, 1) := by decide +kernel
theorem dX12_readRecipe_127 : decode cX12_readRecipe 127 = .ok (.goto 4, 3) := by decide +kernel
theorem dX12_readRecipe_130 : decode cX12_readRecipe 130 = .ok (.iconst 0, 1) := by decide +kernel
theorem dX12_readRecipe_131 : decode cX12_readRecipe 131 = .ok (.istore 4, 2) := by decide +kernel
theorem dX12_readRecipe_133 : decode cX12_readRecipe 133 = .ok (.iload_n 3, 1) := by decide +kernel
theorem dX12_readRecipe_134 : decode cX12_readRecipe 134 = .ok (.bipush 6, 2) := by decide +kernel
theorem dX12_readRecipe_136 : decode cX12_readRecipe 136 = .ok (.if_icmp .ne 8, 3) := by decide +kernel
theorem dX12_readRecipe_139 : decode cX12_readRecipe 139 = .ok (.aload_n 0, 1) := by decide +kernel
theorem dX12_readRecipe_140 : decode cX12_readRecipe 140 = .ok (.iconst 3, 1) := by decide +kernel
theorem dX12_readRecipe_141 : decode cX12_readRecipe 141 = .ok (.invokevirtual 171, 3) := by decide +kernel
theorem dX12_readRecipe_144 : decode cX12_readRecipe 144 = .ok (.aload_n 0, 1) := by decide +kernel
theorem dX12_readRecipe_145 : decode cX12_readRecipe 145 = .ok (.iconst 1, 1) := by decide +kernel
theorem dX12_readRecipe_146 : decode cX12_readRecipe 146 = .ok (.invokevirtual 178, 3) := by decide +kernel
theorem dX12_readRecipe_149 : decode cX12_readRecipe 149 = .ok (.aload_n 0, 1) := by decide +kernel
theorem dX12_readRecipe_150 : decode cX12_readRecipe 150 = .ok (.getfield 165, 3) := by decide +kernel
theorem dX12_readRecipe_153 : decode cX12_readRecipe 153 = .ok (.ifCond .ne 72, 3) := by decide +kernel
theorem dX12_readRecipe_156 : decode cX12_readRecipe 156 = .ok (.aload_n 0, 1) := by decide +kernel
theorem dX12_readRecipe_157 : decode cX12_readRecipe 157 = .ok (.getfield 28, 3) := by decide +kernel
theorem dX12_readRecipe_160 : decode cX12_readRecipe 160 = .ok (.bipush 6, 2) := by decide +kernel
theorem dX12_readRecipe_162 : decode cX12_readRecipe 162 = .ok (.aload_n 0, 1) := by decide +kernel
theorem dX12_readRecipe_163 : decode cX12_readRecipe 163 = .ok (.getfield 188, 3) := by decide +kernel
theorem dX12_readRecipe_166 : decode cX12_readRecipe 166 = .ok (.imul, 1) := by decide +kernel
theorem dX12_readRecipe_167 : decode cX12_readRecipe 167 = .ok (.iload_n 3, 1) := by decide +kernel
theorem dX12_readRecipe_168 : decode cX12_readRecipe 168 = .ok (.iadd, 1) := by decide +kernel
theorem dX12_readRecipe_169 : decode cX12_readRecipe 169 = .ok (.iload 4, 2) := by decide +kernel
theorem dX12_readRecipe_171 : decode cX12_readRecipe 171 = .ok (.ifCond .eq 13, 3) := by decide +kernel
theorem dX12_readRecipe_174 : decode cX12_readRecipe 174 = .ok (.aload_n 0, 1) := by decide +kernel
theorem dX12_readRecipe_175 : decode cX12_readRecipe 175 = .ok (.iconst 0, 1) := by decide +kernel
theorem dX12_readRecipe_176 : decode cX12_readRecipe 176 = .ok (.bipush 60, 2) := by decide +kernel
theorem dX12_readRecipe_178 : decode cX12_readRecipe 178 = .ok (.invokevirtual 191, 3) := by decide +kernel
theorem dX12_readRecipe_181 : decode cX12_readRecipe 181 = .ok (.goto 10, 3) := by decide +kernel
theorem dX12_readRecipe_184 : decode cX12_readRecipe 184 = .ok (.aload_n 0, 1) := by decide +kernel
theorem dX12_readRecipe_185 : decode cX12_readRecipe 185 = .ok (.iconst 1, 1) := by decide +kernel
theorem dX12_readRecipe_186 : decode cX12_readRecipe 186 = .ok (.bipush 50, 2) := by decide +kernel
theorem dX12_readRecipe_188 : decode cX12_readRecipe 188 = .ok (.invokevirtual 191, 3) := by decide +kernel
theorem dX12_readRecipe_191 : decode cX12_readRecipe 191 = .ok (.iastore, 1) := by decide +kernel
theorem dX12_readRecipe_192 : decode cX12_readRecipe 192 = .ok (.aload_n 0, 1) := by decide +kernel
theorem dX12_readRecipe_193 : decode cX12_readRecipe 193 = .ok (.getfield 31, 3) := by decide +kernel
theorem dX12_readRecipe_196 : decode cX12_readRecipe 196 = .ok (.bipush 6, 2) := by decide +kernel
theorem dX12_readRecipe_198 : decode cX12_readRecipe 198 = .ok (.aload_n 0, 1) := by decide +kernel
theorem dX12_readRecipe_199 : decode cX12_readRecipe 199 = .ok (.getfield 188, 3) := by decide +kernel
theorem dX12_readRecipe_202 : decode cX12_readRecipe 202 = .ok (.imul, 1) := by decide +kernel
theorem dX12_readRecipe_203 : decode cX12_readRecipe 203 = .ok (.iload_n 3, 1) := by decide +kernel
theorem dX12_readRecipe_204 : decode cX12_readRecipe 204 = .ok (.iadd, 1) := by decide +kernel
theorem dX12_readRecipe_205 : decode cX12_readRecipe 205 = .ok (.iload 4, 2) := by decide +kernel
theorem dX12_readRecipe_207 : decode cX12_readRecipe 207 = .ok (.ifCond .eq 13, 3) := by decide +kernel
theorem dX12_readRecipe_210 : decode cX12_readRecipe 210 = .ok (.aload_n 0, 1) := by decide +kernel
theorem dX12_readRecipe_211 : decode cX12_readRecipe 211 = .ok (.iconst 1, 1) := by decide +kernel
theorem dX12_readRecipe_212 : decode cX12_readRecipe 212 = .ok (.bipush 60, 2) := by decide +kernel
theorem dX12_readRecipe_214 : decode cX12_readRecipe 214 = .ok (.invokevirtual 191, 3) := by decide +kernel
theorem dX12_readRecipe_217 : decode cX12_readRecipe 217 = .ok (.goto 4, 3) := by decide +kernel
theorem dX12_readRecipe_220 : decode cX12_readRecipe 220 = .ok (.iconst 0, 1) := by decide +kernel
theorem dX12_readRecipe_221 : decode cX12_readRecipe 221 = .ok (.iastore, 1) := by decide +kernel
theorem dX12_readRecipe_222 : decode cX12_readRecipe 222 = .ok (.iinc 3 1, 3) := by decide +kernel
theorem dX12_readRecipe_225 : decode cX12_readRecipe 225 = .ok (.goto (-139), 3) := by decide +kernel
theorem dX12_readRecipe_228 : decode cX12_readRecipe 228 = .ok (.aload_n 0, 1) := by decide +kernel
theorem dX12_readRecipe_229 : decode cX12_readRecipe 229 = .ok (.getfield 25, 3) := by decide +kernel
theorem dX12_readRecipe_232 : decode cX12_readRecipe 232 = .ok (.aload_n 0, 1) := by decide +kernel
theorem dX12_readRecipe_233 : decode cX12_readRecipe 233 = .ok (.getfield 188, 3) := by decide +kernel
theorem dX12_readRecipe_236 : decode cX12_readRecipe 236 = .ok (.iload_n 3, 1) := by decide +kernel
theorem dX12_readRecipe_237 : decode cX12_readRecipe 237 = .ok (.iastore, 1) := by decide +kernel
theorem dX12_readRecipe_238 : decode cX12_readRecipe 238 = .ok (.aload_n 0, 1) := by decide +kernel
theorem dX12_readRecipe_239 : decode cX12_readRecipe 239 = .ok (.getfield 165, 3) := by decide +kernel
theorem dX12_readRecipe_242 : decode cX12_readRecipe 242 = .ok (.ifCond .ne 20, 3) := by decide +kernel
theorem dX12_readRecipe_245 : decode cX12_readRecipe 245 = .ok (.aload_n 0, 1) := by decide +kernel
theorem dX12_readRecipe_246 : decode cX12_readRecipe 246 = .ok (.aload_n 0, 1) := by decide +kernel
theorem dX12_readRecipe_247 : decode cX12_readRecipe 247 = .ok (.getfield 153, 3) := by decide +kernel
theorem dX12_readRecipe_250 : decode cX12_readRecipe 250 = .ok (.iconst 4, 1) := by decide +kernel
theorem dX12_readRecipe_251 : decode cX12_readRecipe 251 = .ok (.if_icmp .ne 7, 3) := by decide +kernel
theorem dX12_readRecipe_254 : decode cX12_readRecipe 254 = .ok (.iconst 1, 1) := by decide +kernel
theorem dX12_readRecipe_255 : decode cX12_readRecipe 255 = .ok (.goto 4, 3) := by decide +kernel
theorem dX12_readRecipe_258 : decode cX12_readRecipe 258 = .ok (.iconst 0, 1) := by decide +kernel
theorem dX12_readRecipe_259 : decode cX12_readRecipe 259 = .ok (.invokevirtual 178, 3) := by decide +kernel
theorem dX12_readRecipe_262 : decode cX12_readRecipe 262 = .ok (.aload_n 0, 1) := by decide +kernel
theorem dX12_readRecipe_263 : decode cX12_readRecipe 263 = .ok (.dup, 1) := by decide +kernel
theorem dX12_readRecipe_264 : decode cX12_readRecipe 264 = .ok (.getfield 188, 3) := by decide +kernel
theorem dX12_readRecipe_267 : decode cX12_readRecipe 267 = .ok (.iconst 1, 1) := by decide +kernel
theorem dX12_readRecipe_268 : decode cX12_readRecipe 268 = .ok (.iadd, 1) := by decide +kernel
theorem dX12_readRecipe_269 : decode cX12_readRecipe 269 = .ok (.putfield 188, 3) := by decide +kernel
theorem dX12_readRecipe_272 : decode cX12_readRecipe 272 = .ok (.return_, 1) := by decide +kernel
def bX12_readRecipe_0 (f1 f2 f3 f4 : ox_F) (rc : Nat → ox_K) : ox_K := o_al 0 (o_cv f1 12 0 (o_ls 1 (o_ll 1 (o_lc (125779785117797) (o_lcmp (o_ifne (rc 27) (o_al 0 (o_geti 12 12 (o_ic (6) (o_icne (rc 27) (o_al 0 (o_ic (3) (o_cv f2 12 1 (rc 27))))))))))))))
def bX12_readRecipe_27 (f1 f2 f3 f4 : ox_F) (rc : Nat → ox_K) : ox_K := o_al 0 (o_ll 1 (o_lc (125779785117797) (o_lcmp (o_ifne (rc 40) (o_ic (1) (rc 41))))))
def bX12_readRecipe_40 (f1 f2 f3 f4 : ox_F) (rc : Nat → ox_K) : ox_K := o_ic (0) (rc 41)
def bX12_readRecipe_41 (f1 f2 f3 f4 : ox_F) (rc : Nat → ox_K) : ox_K := o_cv f3 12 1 (o_al 0 (o_geti 12 21 (o_ifle (rc 52) (o_ret))))
def bX12_readRecipe_52 (f1 f2 f3 f4 : ox_F) (rc : Nat → ox_K) : ox_K := o_al 0 (o_getr 12 6 (o_al 0 (o_geti 12 12 (o_al 0 (o_ic (0) (o_ic (15) (o_cv f4 12 2 (o_iast (o_al 0 (o_getr 12 7 (o_al 0 (o_geti 12 12 (o_al 0 (o_ic (0) (o_ic (50) (o_cv f4 12 2 (o_iast (o_ic (0) (o_is 3 (rc 86))))))))))))))))))))
def bX12_readRecipe_86 (f1 f2 f3 f4 : ox_F) (rc : Nat → ox_K) : ox_K := o_keep [0, 3] (o_al 0 (o_geti 12 21 (o_ifne (rc 228) (o_al 0 (o_cv f1 12 0 (o_lc (2002874989) (o_lcmp (o_ifeq (rc 115) (o_al 0 (o_cv f1 12 0 (o_lc (1936024932) (o_lcmp (o_ifne (rc 228) (rc 115))))))))))))))
def bX12_readRecipe_115 (f1 f2 f3 f4 : ox_F) (rc : Nat → ox_K) : ox_K := o_al 0 (o_cv f1 12 0 (o_lc (2002874989) (o_lcmp (o_ifne (rc 130) (o_ic (1) (rc 131))))))
def bX12_readRecipe_130 (f1 f2 f3 f4 : ox_F) (rc : Nat → ox_K) : ox_K := o_ic (0) (rc 131)
def bX12_readRecipe_131 (f1 f2 f3 f4 : ox_F) (rc : Nat → ox_K) : ox_K := o_is 4 (o_il 3 (o_ic (6) (o_icne (rc 144) (o_al 0 (o_ic (3) (o_cv f2 12 1 (rc 144)))))))
def bX12_readRecipe_144 (f1 f2 f3 f4 : ox_F) (rc : Nat → ox_K) : ox_K := o_al 0 (o_ic (1) (o_cv f3 12 1 (o_al 0 (o_geti 12 21 (o_ifne (rc 225) (o_al 0 (o_getr 12 9 (o_ic (6) (o_al 0 (o_geti 12 12 (o_imul (o_il 3 (o_iadd (o_il 4 (o_ifeq (rc 184) (o_al 0 (o_ic (0) (o_ic (60) (o_cv f4 12 2 (rc 191))))))))))))))))))))
def bX12_readRecipe_184 (f1 f2 f3 f4 : ox_F) (rc : Nat → ox_K) : ox_K := o_al 0 (o_ic (1) (o_ic (50) (o_cv f4 12 2 (rc 191))))
def bX12_readRecipe_191 (f1 f2 f3 f4 : ox_F) (rc : Nat → ox_K) : ox_K := o_iast (o_al 0 (o_getr 12 10 (o_ic (6) (o_al 0 (o_geti 12 12 (o_imul (o_il 3 (o_iadd (o_il 4 (o_ifeq (rc 220) (o_al 0 (o_ic (1) (o_ic (60) (o_cv f4 12 2 (rc 221)))))))))))))))
def bX12_readRecipe_220 (f1 f2 f3 f4 : ox_F) (rc : Nat → ox_K) : ox_K := o_ic (0) (rc 221)
def bX12_readRecipe_221 (f1 f2 f3 f4 : ox_F) (rc : Nat → ox_K) : ox_K := o_iast (o_inc 3 (1) (rc 225))
def bX12_readRecipe_225 (f1 f2 f3 f4 : ox_F) (rc : Nat → ox_K) : ox_K := rc 86
def bX12_readRecipe_228 (f1 f2 f3 f4 : ox_F) (rc : Nat → ox_K) : ox_K := o_al 0 (o_getr 12 8 (o_al 0 (o_geti 12 12 (o_il 3 (o_iast (o_al 0 (o_geti 12 21 (o_ifne (rc 262) (o_al 0 (o_al 0 (o_geti 12 18 (o_ic (4) (o_icne (rc 258) (o_ic (1) (rc 259)))))))))))))))
def bX12_readRecipe_258 (f1 f2 f3 f4 : ox_F) (rc : Nat → ox_K) : ox_K := o_ic (0) (rc 259)
def bX12_readRecipe_259 (f1 f2 f3 f4 : ox_F) (rc : Nat → ox_K) : ox_K := o_cv f3 12 1 (rc 262)
def bX12_readRecipe_262 (f1 f2 f3 f4 : ox_F) (rc : Nat → ox_K) : ox_K := o_al 0 (o_dup (o_geti 12 12 (o_ic (1) (o_iadd (o_puti 12 12 (o_ret))))))
section SX12_readRecipe
variable {p : Program} {l : Launch} {e : Env} {R : Room} {s : State} {m : MethodId} {args : Array Value} {below : List Frame} {meth : Method} {c : Code} {g : ox_G} {c0 t0 dp d1 d2 d3 d4 : Nat} {rc : Nat → ox_K} {f1 f2 f3 f4 : ox_F}
set_option maxRecDepth 100000 in
theorem kX12_readRecipe_0 (C : ox_C p s m args c g 5 cX12_readRecipe RX12) (hr : meth.sig.returnType = none) (hlk : meth.locks = false) (hnm : meth.name = "readRecipe") (hR : R.frames = dp ∧ R.locals = 60 * dp) (h1 : ox_Sem yX12_word cX12_word 4 (some .long) d1 f1) (e1 : d1 + 1 ≤ dp) (h2 : ox_Sem yX12_bad cX12_bad 2 none d2 f2) (e2 : d2 + 1 ≤ dp) (h3 : ox_Sem yX12_must cX12_must 2 none d3 f3) (e3 : d3 + 1 ≤ dp) (h4 : ox_Sem yX12_numberIn cX12_numberIn 5 (some .int) d4 f4) (e4 : d4 + 1 ≤ dp) (hrc : ∀ b, ox_S p l e R s m args below meth c g 5 c0 t0 (ox_QM g below args s c0 t0) b (rc b)) : ox_S p l e R s m args below meth c g 5 c0 t0 (ox_QM g below args s c0 t0) 0 (bX12_readRecipe_0 f1 f2 f3 f4 rc) := by
  refine s_aload_n (pc := 0) C dX12_readRecipe_0 rfl ?_
  refine s_cv (pc := 1) (q := (RX12, TX12, 59)) C h1 rfl wM_X12_182 wI_X12_word wS_X12_word wN_X12 wC_X12_word (by decide +kernel) (ox_lv hR e1 (by decide)) dX12_readRecipe_1 ?_
  refine s_lstore_n (pc := 4) C dX12_readRecipe_4 rfl (by decide) ?_
  refine s_lload_n (pc := 5) C dX12_readRecipe_5 rfl ?_
  refine s_ldc2 (pc := 6) C wL_X12_186 dX12_readRecipe_6 ?_
  refine s_lcmp (pc := 9) C dX12_readRecipe_9 ?_
  refine s_ifne (pc := 10) 27 C dX12_readRecipe_10 (by decide) (hrc 27) ?_
  refine s_aload_n (pc := 13) C dX12_readRecipe_13 rfl ?_
  refine s_geti (pc := 14) (j := 12) (q := (RX12, TX12, 59)) C rfl (by decide) rfl wF_X12_188 dX12_readRecipe_14 ?_
  refine s_bipush (pc := 17) C dX12_readRecipe_17 (by decide) ?_
  refine s_icmpne (pc := 19) 27 C dX12_readRecipe_19 (by decide) (hrc 27) ?_
  refine s_aload_n (pc := 22) C dX12_readRecipe_22 rfl ?_
  refine s_iconst (pc := 23) C dX12_readRecipe_23 (by decide) ?_
  refine s_cv (pc := 24) (q := (RX12, TX12, 59)) C h2 rfl wM_X12_171 wI_X12_bad wS_X12_bad wN_X12 wC_X12_bad (by decide +kernel) (ox_lv hR e2 (by decide)) dX12_readRecipe_24 ?_
  exact hrc 27
set_option maxRecDepth 100000 in
theorem kX12_readRecipe_27 (C : ox_C p s m args c g 5 cX12_readRecipe RX12) (hr : meth.sig.returnType = none) (hlk : meth.locks = false) (hnm : meth.name = "readRecipe") (hR : R.frames = dp ∧ R.locals = 60 * dp) (h1 : ox_Sem yX12_word cX12_word 4 (some .long) d1 f1) (e1 : d1 + 1 ≤ dp) (h2 : ox_Sem yX12_bad cX12_bad 2 none d2 f2) (e2 : d2 + 1 ≤ dp) (h3 : ox_Sem yX12_must cX12_must 2 none d3 f3) (e3 : d3 + 1 ≤ dp) (h4 : ox_Sem yX12_numberIn cX12_numberIn 5 (some .int) d4 f4) (e4 : d4 + 1 ≤ dp) (hrc : ∀ b, ox_S p l e R s m args below meth c g 5 c0 t0 (ox_QM g below args s c0 t0) b (rc b)) : ox_S p l e R s m args below meth c g 5 c0 t0 (ox_QM g below args s c0 t0) 27 (bX12_readRecipe_27 f1 f2 f3 f4 rc) := by
  refine s_aload_n (pc := 27) C dX12_readRecipe_27 rfl ?_
  refine s_lload_n (pc := 28) C dX12_readRecipe_28 rfl ?_
  refine s_ldc2 (pc := 29) C wL_X12_186 dX12_readRecipe_29 ?_
  refine s_lcmp (pc := 32) C dX12_readRecipe_32 ?_
  refine s_ifne (pc := 33) 40 C dX12_readRecipe_33 (by decide) (hrc 40) ?_
  refine s_iconst (pc := 36) C dX12_readRecipe_36 (by decide) ?_
  exact s_goto (pc := 37) 41 C dX12_readRecipe_37 (by decide) (hrc 41)
set_option maxRecDepth 100000 in
theorem kX12_readRecipe_40 (C : ox_C p s m args c g 5 cX12_readRecipe RX12) (hr : meth.sig.returnType = none) (hlk : meth.locks = false) (hnm : meth.name = "readRecipe") (hR : R.frames = dp ∧ R.locals = 60 * dp) (h1 : ox_Sem yX12_word cX12_word 4 (some .long) d1 f1) (e1 : d1 + 1 ≤ dp) (h2 : ox_Sem yX12_bad cX12_bad 2 none d2 f2) (e2 : d2 + 1 ≤ dp) (h3 : ox_Sem yX12_must cX12_must 2 none d3 f3) (e3 : d3 + 1 ≤ dp) (h4 : ox_Sem yX12_numberIn cX12_numberIn 5 (some .int) d4 f4) (e4 : d4 + 1 ≤ dp) (hrc : ∀ b, ox_S p l e R s m args below meth c g 5 c0 t0 (ox_QM g below args s c0 t0) b (rc b)) : ox_S p l e R s m args below meth c g 5 c0 t0 (ox_QM g below args s c0 t0) 40 (bX12_readRecipe_40 f1 f2 f3 f4 rc) := by
  refine s_iconst (pc := 40) C dX12_readRecipe_40 (by decide) ?_
  exact hrc 41
set_option maxRecDepth 100000 in
theorem kX12_readRecipe_41 (C : ox_C p s m args c g 5 cX12_readRecipe RX12) (hr : meth.sig.returnType = none) (hlk : meth.locks = false) (hnm : meth.name = "readRecipe") (hR : R.frames = dp ∧ R.locals = 60 * dp) (h1 : ox_Sem yX12_word cX12_word 4 (some .long) d1 f1) (e1 : d1 + 1 ≤ dp) (h2 : ox_Sem yX12_bad cX12_bad 2 none d2 f2) (e2 : d2 + 1 ≤ dp) (h3 : ox_Sem yX12_must cX12_must 2 none d3 f3) (e3 : d3 + 1 ≤ dp) (h4 : ox_Sem yX12_numberIn cX12_numberIn 5 (some .int) d4 f4) (e4 : d4 + 1 ≤ dp) (hrc : ∀ b, ox_S p l e R s m args below meth c g 5 c0 t0 (ox_QM g below args s c0 t0) b (rc b)) : ox_S p l e R s m args below meth c g 5 c0 t0 (ox_QM g below args s c0 t0) 41 (bX12_readRecipe_41 f1 f2 f3 f4 rc) := by
  refine s_cv (pc := 41) (q := (RX12, TX12, 59)) C h3 rfl wM_X12_178 wI_X12_must wS_X12_must wN_X12 wC_X12_must (by decide +kernel) (ox_lv hR e3 (by decide)) dX12_readRecipe_41 ?_
  refine s_aload_n (pc := 44) C dX12_readRecipe_44 rfl ?_
  refine s_geti (pc := 45) (j := 21) (q := (RX12, TX12, 59)) C rfl (by decide) rfl wF_X12_165 dX12_readRecipe_45 ?_
  refine s_ifle (pc := 48) 52 C dX12_readRecipe_48 (by decide) (hrc 52) ?_
  exact s_ret (pc := 51) C hr hlk dX12_readRecipe_51
set_option maxRecDepth 100000 in
theorem kX12_readRecipe_52 (C : ox_C p s m args c g 5 cX12_readRecipe RX12) (hr : meth.sig.returnType = none) (hlk : meth.locks = false) (hnm : meth.name = "readRecipe") (hR : R.frames = dp ∧ R.locals = 60 * dp) (h1 : ox_Sem yX12_word cX12_word 4 (some .long) d1 f1) (e1 : d1 + 1 ≤ dp) (h2 : ox_Sem yX12_bad cX12_bad 2 none d2 f2) (e2 : d2 + 1 ≤ dp) (h3 : ox_Sem yX12_must cX12_must 2 none d3 f3) (e3 : d3 + 1 ≤ dp) (h4 : ox_Sem yX12_numberIn cX12_numberIn 5 (some .int) d4 f4) (e4 : d4 + 1 ≤ dp) (hrc : ∀ b, ox_S p l e R s m args below meth c g 5 c0 t0 (ox_QM g below args s c0 t0) b (rc b)) : ox_S p l e R s m args below meth c g 5 c0 t0 (ox_QM g below args s c0 t0) 52 (bX12_readRecipe_52 f1 f2 f3 f4 rc) := by
  refine s_aload_n (pc := 52) C dX12_readRecipe_52 rfl ?_
  refine s_getr (pc := 53) (j := 6) (q := (RX12, TX12, 59)) C rfl (by decide) rfl wF_X12_19 dX12_readRecipe_53 ?_
  refine s_aload_n (pc := 56) C dX12_readRecipe_56 rfl ?_
  refine s_geti (pc := 57) (j := 12) (q := (RX12, TX12, 59)) C rfl (by decide) rfl wF_X12_188 dX12_readRecipe_57 ?_
  refine s_aload_n (pc := 60) C dX12_readRecipe_60 rfl ?_
  refine s_iconst (pc := 61) C dX12_readRecipe_61 (by decide) ?_
  refine s_bipush (pc := 62) C dX12_readRecipe_62 (by decide) ?_
  refine s_cv (pc := 64) (q := (RX12, TX12, 59)) C h4 rfl wM_X12_191 wI_X12_numberIn wS_X12_numberIn wN_X12 wC_X12_numberIn (by decide +kernel) (ox_lv hR e4 (by decide)) dX12_readRecipe_64 ?_
  refine s_iast (pc := 67) C dX12_readRecipe_67 ?_
  refine s_aload_n (pc := 68) C dX12_readRecipe_68 rfl ?_
  refine s_getr (pc := 69) (j := 7) (q := (RX12, TX12, 59)) C rfl (by decide) rfl wF_X12_22 dX12_readRecipe_69 ?_
  refine s_aload_n (pc := 72) C dX12_readRecipe_72 rfl ?_
  refine s_geti (pc := 73) (j := 12) (q := (RX12, TX12, 59)) C rfl (by decide) rfl wF_X12_188 dX12_readRecipe_73 ?_
  refine s_aload_n (pc := 76) C dX12_readRecipe_76 rfl ?_
  refine s_iconst (pc := 77) C dX12_readRecipe_77 (by decide) ?_
  refine s_bipush (pc := 78) C dX12_readRecipe_78 (by decide) ?_
  refine s_cv (pc := 80) (q := (RX12, TX12, 59)) C h4 rfl wM_X12_191 wI_X12_numberIn wS_X12_numberIn wN_X12 wC_X12_numberIn (by decide +kernel) (ox_lv hR e4 (by decide)) dX12_readRecipe_80 ?_
  refine s_iast (pc := 83) C dX12_readRecipe_83 ?_
  refine s_iconst (pc := 84) C dX12_readRecipe_84 (by decide) ?_
  refine s_istore_n (pc := 85) C dX12_readRecipe_85 rfl (by decide) ?_
  exact hrc 86
set_option maxRecDepth 100000 in
theorem kX12_readRecipe_86 (C : ox_C p s m args c g 5 cX12_readRecipe RX12) (hr : meth.sig.returnType = none) (hlk : meth.locks = false) (hnm : meth.name = "readRecipe") (hR : R.frames = dp ∧ R.locals = 60 * dp) (h1 : ox_Sem yX12_word cX12_word 4 (some .long) d1 f1) (e1 : d1 + 1 ≤ dp) (h2 : ox_Sem yX12_bad cX12_bad 2 none d2 f2) (e2 : d2 + 1 ≤ dp) (h3 : ox_Sem yX12_must cX12_must 2 none d3 f3) (e3 : d3 + 1 ≤ dp) (h4 : ox_Sem yX12_numberIn cX12_numberIn 5 (some .int) d4 f4) (e4 : d4 + 1 ≤ dp) (hrc : ∀ b, ox_S p l e R s m args below meth c g 5 c0 t0 (ox_QM g below args s c0 t0) b (rc b)) : ox_S p l e R s m args below meth c g 5 c0 t0 (ox_QM g below args s c0 t0) 86 (bX12_readRecipe_86 f1 f2 f3 f4 rc) := by
  refine s_keep ?_
  refine s_aload_n (pc := 86) C dX12_readRecipe_86 rfl ?_
  refine s_geti (pc := 87) (j := 21) (q := (RX12, TX12, 59)) C rfl (by decide) rfl wF_X12_165 dX12_readRecipe_87 ?_
  refine s_ifne (pc := 90) 228 C dX12_readRecipe_90 (by decide) (hrc 228) ?_
  refine s_aload_n (pc := 93) C dX12_readRecipe_93 rfl ?_
  refine s_cv (pc := 94) (q := (RX12, TX12, 59)) C h1 rfl wM_X12_182 wI_X12_word wS_X12_word wN_X12 wC_X12_word (by decide +kernel) (ox_lv hR e1 (by decide)) dX12_readRecipe_94 ?_
  refine s_ldc2 (pc := 97) C wL_X12_195 dX12_readRecipe_97 ?_
  refine s_lcmp (pc := 100) C dX12_readRecipe_100 ?_
  refine s_ifeq (pc := 101) 115 C dX12_readRecipe_101 (by decide) (hrc 115) ?_
  refine s_aload_n (pc := 104) C dX12_readRecipe_104 rfl ?_
  refine s_cv (pc := 105) (q := (RX12, TX12, 59)) C h1 rfl wM_X12_182 wI_X12_word wS_X12_word wN_X12 wC_X12_word (by decide +kernel) (ox_lv hR e1 (by decide)) dX12_readRecipe_105 ?_
  refine s_ldc2 (pc := 108) C wL_X12_197 dX12_readRecipe_108 ?_
  refine s_lcmp (pc := 111) C dX12_readRecipe_111 ?_
  refine s_ifne (pc := 112) 228 C dX12_readRecipe_112 (by decide) (hrc 228) ?_
  exact hrc 115
set_option maxRecDepth 100000 in
theorem kX12_readRecipe_115 (C : ox_C p s m args c g 5 cX12_readRecipe RX12) (hr : meth.sig.returnType = none) (hlk : meth.locks = false) (hnm : meth.name = "readRecipe") (hR : R.frames = dp ∧ R.locals = 60 * dp) (h1 : ox_Sem yX12_word cX12_word 4 (some .long) d1 f1) (e1 : d1 + 1 ≤ dp) (h2 : ox_Sem yX12_bad cX12_bad 2 none d2 f2) (e2 : d2 + 1 ≤ dp) (h3 : ox_Sem yX12_must cX12_must 2 none d3 f3) (e3 : d3 + 1 ≤ dp) (h4 : ox_Sem yX12_numberIn cX12_numberIn 5 (some .int) d4 f4) (e4 : d4 + 1 ≤ dp) (hrc : ∀ b, ox_S p l e R s m args below meth c g 5 c0 t0 (ox_QM g below args s c0 t0) b (rc b)) : ox_S p l e R s m args below meth c g 5 c0 t0 (ox_QM g below args s c0 t0) 115 (bX12_readRecipe_115 f1 f2 f3 f4 rc) := by
  refine s_aload_n (pc := 115) C dX12_readRecipe_115 rfl ?_
  refine s_cv (pc := 116) (q := (RX12, TX12, 59)) C h1 rfl wM_X12_182 wI_X12_word wS_X12_word wN_X12 wC_X12_word (by decide +kernel) (ox_lv hR e1 (by decide)) dX12_readRecipe_116 ?_
  refine s_ldc2 (pc := 119) C wL_X12_195 dX12_readRecipe_119 ?_
  refine s_lcmp (pc := 122) C dX12_readRecipe_122 ?_
  refine s_ifne (pc := 123) 130 C dX12_readRecipe_123 (by decide) (hrc 130) ?_
  refine s_iconst (pc := 126) C dX12_readRecipe_126 (by decide) ?_
  exact s_goto (pc := 127) 131 C dX12_readRecipe_127 (by decide) (hrc 131)
set_option maxRecDepth 100000 in
theorem kX12_readRecipe_130 (C : ox_C p s m args c g 5 cX12_readRecipe RX12) (hr : meth.sig.returnType = none) (hlk : meth.locks = false) (hnm : meth.name = "readRecipe") (hR : R.frames = dp ∧ R.locals = 60 * dp) (h1 : ox_Sem yX12_word cX12_word 4 (some .long) d1 f1) (e1 : d1 + 1 ≤ dp) (h2 : ox_Sem yX12_bad cX12_bad 2 none d2 f2) (e2 : d2 + 1 ≤ dp) (h3 : ox_Sem yX12_must cX12_must 2 none d3 f3) (e3 : d3 + 1 ≤ dp) (h4 : ox_Sem yX12_numberIn cX12_numberIn 5 (some .int) d4 f4) (e4 : d4 + 1 ≤ dp) (hrc : ∀ b, ox_S p l e R s m args below meth c g 5 c0 t0 (ox_QM g below args s c0 t0) b (rc b)) : ox_S p l e R s m args below meth c g 5 c0 t0 (ox_QM g below args s c0 t0) 130 (bX12_readRecipe_130 f1 f2 f3 f4 rc) := by
  refine s_iconst (pc := 130) C dX12_readRecipe_130 (by decide) ?_
  exact hrc 131
set_option maxRecDepth 100000 in
theorem kX12_readRecipe_131 (C : ox_C p s m args c g 5 cX12_readRecipe RX12) (hr : meth.sig.returnType = none) (hlk : meth.locks = false) (hnm : meth.name = "readRecipe") (hR : R.frames = dp ∧ R.locals = 60 * dp) (h1 : ox_Sem yX12_word cX12_word 4 (some .long) d1 f1) (e1 : d1 + 1 ≤ dp) (h2 : ox_Sem yX12_bad cX12_bad 2 none d2 f2) (e2 : d2 + 1 ≤ dp) (h3 : ox_Sem yX12_must cX12_must 2 none d3 f3) (e3 : d3 + 1 ≤ dp) (h4 : ox_Sem yX12_numberIn cX12_numberIn 5 (some .int) d4 f4) (e4 : d4 + 1 ≤ dp) (hrc : ∀ b, ox_S p l e R s m args below meth c g 5 c0 t0 (ox_QM g below args s c0 t0) b (rc b)) : ox_S p l e R s m args below meth c g 5 c0 t0 (ox_QM g below args s c0 t0) 131 (bX12_readRecipe_131 f1 f2 f3 f4 rc) := by
  refine s_istore (pc := 131) C dX12_readRecipe_131 (by decide) ?_
  refine s_iload_n (pc := 133) C dX12_readRecipe_133 rfl ?_
  refine s_bipush (pc := 134) C dX12_readRecipe_134 (by decide) ?_
  refine s_icmpne (pc := 136) 144 C dX12_readRecipe_136 (by decide) (hrc 144) ?_
  refine s_aload_n (pc := 139) C dX12_readRecipe_139 rfl ?_
  refine s_iconst (pc := 140) C dX12_readRecipe_140 (by decide) ?_
  refine s_cv (pc := 141) (q := (RX12, TX12, 59)) C h2 rfl wM_X12_171 wI_X12_bad wS_X12_bad wN_X12 wC_X12_bad (by decide +kernel) (ox_lv hR e2 (by decide)) dX12_readRecipe_141 ?_
  exact hrc 144
set_option maxRecDepth 100000 in
theorem kX12_readRecipe_144 (C : ox_C p s m args c g 5 cX12_readRecipe RX12) (hr : meth.sig.returnType = none) (hlk : meth.locks = false) (hnm : meth.name = "readRecipe") (hR : R.frames = dp ∧ R.locals = 60 * dp) (h1 : ox_Sem yX12_word cX12_word 4 (some .long) d1 f1) (e1 : d1 + 1 ≤ dp) (h2 : ox_Sem yX12_bad cX12_bad 2 none d2 f2) (e2 : d2 + 1 ≤ dp) (h3 : ox_Sem yX12_must cX12_must 2 none d3 f3) (e3 : d3 + 1 ≤ dp) (h4 : ox_Sem yX12_numberIn cX12_numberIn 5 (some .int) d4 f4) (e4 : d4 + 1 ≤ dp) (hrc : ∀ b, ox_S p l e R s m args below meth c g 5 c0 t0 (ox_QM g below args s c0 t0) b (rc b)) : ox_S p l e R s m args below meth c g 5 c0 t0 (ox_QM g below args s c0 t0) 144 (bX12_readRecipe_144 f1 f2 f3 f4 rc) := by
  refine s_aload_n (pc := 144) C dX12_readRecipe_144 rfl ?_
  refine s_iconst (pc := 145) C dX12_readRecipe_145 (by decide) ?_
  refine s_cv (pc := 146) (q := (RX12, TX12, 59)) C h3 rfl wM_X12_178 wI_X12_must wS_X12_must wN_X12 wC_X12_must (by decide +kernel) (ox_lv hR e3 (by decide)) dX12_readRecipe_146 ?_
  refine s_aload_n (pc := 149) C dX12_readRecipe_149 rfl ?_
  refine s_geti (pc := 150) (j := 21) (q := (RX12, TX12, 59)) C rfl (by decide) rfl wF_X12_165 dX12_readRecipe_150 ?_
  refine s_ifne (pc := 153) 225 C dX12_readRecipe_153 (by decide) (hrc 225) ?_
  refine s_aload_n (pc := 156) C dX12_readRecipe_156 rfl ?_
  refine s_getr (pc := 157) (j := 9) (q := (RX12, TX12, 59)) C rfl (by decide) rfl wF_X12_28 dX12_readRecipe_157 ?_
  refine s_bipush (pc := 160) C dX12_readRecipe_160 (by decide) ?_
  refine s_aload_n (pc := 162) C dX12_readRecipe_162 rfl ?_
  refine s_geti (pc := 163) (j := 12) (q := (RX12, TX12, 59)) C rfl (by decide) rfl wF_X12_188 dX12_readRecipe_163 ?_
  refine s_imul (pc := 166) C dX12_readRecipe_166 ?_
  refine s_iload_n (pc := 167) C dX12_readRecipe_167 rfl ?_
  refine s_iadd (pc := 168) C dX12_readRecipe_168 ?_
  refine s_iload (pc := 169) C dX12_readRecipe_169 ?_
  refine s_ifeq (pc := 171) 184 C dX12_readRecipe_171 (by decide) (hrc 184) ?_
  refine s_aload_n (pc := 174) C dX12_readRecipe_174 rfl ?_
  refine s_iconst (pc := 175) C dX12_readRecipe_175 (by decide) ?_
  refine s_bipush (pc := 176) C dX12_readRecipe_176 (by decide) ?_
  refine s_cv (pc := 178) (q := (RX12, TX12, 59)) C h4 rfl wM_X12_191 wI_X12_numberIn wS_X12_numberIn wN_X12 wC_X12_numberIn (by decide +kernel) (ox_lv hR e4 (by decide)) dX12_readRecipe_178 ?_
  exact s_goto (pc := 181) 191 C dX12_readRecipe_181 (by decide) (hrc 191)
set_option maxRecDepth 100000 in
theorem kX12_readRecipe_184 (C : ox_C p s m args c g 5 cX12_readRecipe RX12) (hr : meth.sig.returnType = none) (hlk : meth.locks = false) (hnm : meth.name = "readRecipe") (hR : R.frames = dp ∧ R.locals = 60 * dp) (h1 : ox_Sem yX12_word cX12_word 4 (some .long) d1 f1) (e1 : d1 + 1 ≤ dp) (h2 : ox_Sem yX12_bad cX12_bad 2 none d2 f2) (e2 : d2 + 1 ≤ dp) (h3 : ox_Sem yX12_must cX12_must 2 none d3 f3) (e3 : d3 + 1 ≤ dp) (h4 : ox_Sem yX12_numberIn cX12_numberIn 5 (some .int) d4 f4) (e4 : d4 + 1 ≤ dp) (hrc : ∀ b, ox_S p l e R s m args below meth c g 5 c0 t0 (ox_QM g below args s c0 t0) b (rc b)) : ox_S p l e R s m args below meth c g 5 c0 t0 (ox_QM g below args s c0 t0) 184 (bX12_readRecipe_184 f1 f2 f3 f4 rc) := by
  refine s_aload_n (pc := 184) C dX12_readRecipe_184 rfl ?_
  refine s_iconst (pc := 185) C dX12_readRecipe_185 (by decide) ?_
  refine s_bipush (pc := 186) C dX12_readRecipe_186 (by decide) ?_
  refine s_cv (pc := 188) (q := (RX12, TX12, 59)) C h4 rfl wM_X12_191 wI_X12_numberIn wS_X12_numberIn wN_X12 wC_X12_numberIn (by decide +kernel) (ox_lv hR e4 (by decide)) dX12_readRecipe_188 ?_
  exact hrc 191
set_option maxRecDepth 100000 in
theorem kX12_readRecipe_191 (C : ox_C p s m args c g 5 cX12_readRecipe RX12) (hr : meth.sig.returnType = none) (hlk : meth.locks = false) (hnm : meth.name = "readRecipe") (hR : R.frames = dp ∧ R.locals = 60 * dp) (h1 : ox_Sem yX12_word cX12_word 4 (some .long) d1 f1) (e1 : d1 + 1 ≤ dp) (h2 : ox_Sem yX12_bad cX12_bad 2 none d2 f2) (e2 : d2 + 1 ≤ dp) (h3 : ox_Sem yX12_must cX12_must 2 none d3 f3) (e3 : d3 + 1 ≤ dp) (h4 : ox_Sem yX12_numberIn cX12_numberIn 5 (some .int) d4 f4) (e4 : d4 + 1 ≤ dp) (hrc : ∀ b, ox_S p l e R s m args below meth c g 5 c0 t0 (ox_QM g below args s c0 t0) b (rc b)) : ox_S p l e R s m args below meth c g 5 c0 t0 (ox_QM g below args s c0 t0) 191 (bX12_readRecipe_191 f1 f2 f3 f4 rc) := by
  refine s_iast (pc := 191) C dX12_readRecipe_191 ?_
  refine s_aload_n (pc := 192) C dX12_readRecipe_192 rfl ?_
  refine s_getr (pc := 193) (j := 10) (q := (RX12, TX12, 59)) C rfl (by decide) rfl wF_X12_31 dX12_readRecipe_193 ?_
  refine s_bipush (pc := 196) C dX12_readRecipe_196 (by decide) ?_
  refine s_aload_n (pc := 198) C dX12_readRecipe_198 rfl ?_
  refine s_geti (pc := 199) (j := 12) (q := (RX12, TX12, 59)) C rfl (by decide) rfl wF_X12_188 dX12_readRecipe_199 ?_
  refine s_imul (pc := 202) C dX12_readRecipe_202 ?_
  refine s_iload_n (pc := 203) C dX12_readRecipe_203 rfl ?_
  refine s_iadd (pc := 204) C dX12_readRecipe_204 ?_
  refine s_iload (pc := 205) C dX12_readRecipe_205 ?_
  refine s_ifeq (pc := 207) 220 C dX12_readRecipe_207 (by decide) (hrc 220) ?_
  refine s_aload_n (pc := 210) C dX12_readRecipe_210 rfl ?_
  refine s_iconst (pc := 211) C dX12_readRecipe_211 (by decide) ?_
  refine s_bipush (pc := 212) C dX12_readRecipe_212 (by decide) ?_
  refine s_cv (pc := 214) (q := (RX12, TX12, 59)) C h4 rfl wM_X12_191 wI_X12_numberIn wS_X12_numberIn wN_X12 wC_X12_numberIn (by decide +kernel) (ox_lv hR e4 (by decide)) dX12_readRecipe_214 ?_
  exact s_goto (pc := 217) 221 C dX12_readRecipe_217 (by decide) (hrc 221)
set_option maxRecDepth 100000 in
theorem kX12_readRecipe_220 (C : ox_C p s m args c g 5 cX12_readRecipe RX12) (hr : meth.sig.returnType = none) (hlk : meth.locks = false) (hnm : meth.name = "readRecipe") (hR : R.frames = dp ∧ R.locals = 60 * dp) (h1 : ox_Sem yX12_word cX12_word 4 (some .long) d1 f1) (e1 : d1 + 1 ≤ dp) (h2 : ox_Sem yX12_bad cX12_bad 2 none d2 f2) (e2 : d2 + 1 ≤ dp) (h3 : ox_Sem yX12_must cX12_must 2 none d3 f3) (e3 : d3 + 1 ≤ dp) (h4 : ox_Sem yX12_numberIn cX12_numberIn 5 (some .int) d4 f4) (e4 : d4 + 1 ≤ dp) (hrc : ∀ b, ox_S p l e R s m args below meth c g 5 c0 t0 (ox_QM g below args s c0 t0) b (rc b)) : ox_S p l e R s m args below meth c g 5 c0 t0 (ox_QM g below args s c0 t0) 220 (bX12_readRecipe_220 f1 f2 f3 f4 rc) := by
  refine s_iconst (pc := 220) C dX12_readRecipe_220 (by decide) ?_
  exact hrc 221
set_option maxRecDepth 100000 in
theorem kX12_readRecipe_221 (C : ox_C p s m args c g 5 cX12_readRecipe RX12) (hr : meth.sig.returnType = none) (hlk : meth.locks = false) (hnm : meth.name = "readRecipe") (hR : R.frames = dp ∧ R.locals = 60 * dp) (h1 : ox_Sem yX12_word cX12_word 4 (some .long) d1 f1) (e1 : d1 + 1 ≤ dp) (h2 : ox_Sem yX12_bad cX12_bad 2 none d2 f2) (e2 : d2 + 1 ≤ dp) (h3 : ox_Sem yX12_must cX12_must 2 none d3 f3) (e3 : d3 + 1 ≤ dp) (h4 : ox_Sem yX12_numberIn cX12_numberIn 5 (some .int) d4 f4) (e4 : d4 + 1 ≤ dp) (hrc : ∀ b, ox_S p l e R s m args below meth c g 5 c0 t0 (ox_QM g below args s c0 t0) b (rc b)) : ox_S p l e R s m args below meth c g 5 c0 t0 (ox_QM g below args s c0 t0) 221 (bX12_readRecipe_221 f1 f2 f3 f4 rc) := by
  refine s_iast (pc := 221) C dX12_readRecipe_221 ?_
  refine s_iinc (pc := 222) C dX12_readRecipe_222 (by decide) (by decide) ?_
  exact hrc 225
set_option maxRecDepth 100000 in
theorem kX12_readRecipe_225 (C : ox_C p s m args c g 5 cX12_readRecipe RX12) (hr : meth.sig.returnType = none) (hlk : meth.locks = false) (hnm : meth.name = "readRecipe") (hR : R.frames = dp ∧ R.locals = 60 * dp) (h1 : ox_Sem yX12_word cX12_word 4 (some .long) d1 f1) (e1 : d1 + 1 ≤ dp) (h2 : ox_Sem yX12_bad cX12_bad 2 none d2 f2) (e2 : d2 + 1 ≤ dp) (h3 : ox_Sem yX12_must cX12_must 2 none d3 f3) (e3 : d3 + 1 ≤ dp) (h4 : ox_Sem yX12_numberIn cX12_numberIn 5 (some .int) d4 f4) (e4 : d4 + 1 ≤ dp) (hrc : ∀ b, ox_S p l e R s m args below meth c g 5 c0 t0 (ox_QM g below args s c0 t0) b (rc b)) : ox_S p l e R s m args below meth c g 5 c0 t0 (ox_QM g below args s c0 t0) 225 (bX12_readRecipe_225 f1 f2 f3 f4 rc) := by
  exact s_goto (pc := 225) 86 C dX12_readRecipe_225 (by decide) (hrc 86)
set_option maxRecDepth 100000 in
theorem kX12_readRecipe_228 (C : ox_C p s m args c g 5 cX12_readRecipe RX12) (hr : meth.sig.returnType = none) (hlk : meth.locks = false) (hnm : meth.name = "readRecipe") (hR : R.frames = dp ∧ R.locals = 60 * dp) (h1 : ox_Sem yX12_word cX12_word 4 (some .long) d1 f1) (e1 : d1 + 1 ≤ dp) (h2 : ox_Sem yX12_bad cX12_bad 2 none d2 f2) (e2 : d2 + 1 ≤ dp) (h3 : ox_Sem yX12_must cX12_must 2 none d3 f3) (e3 : d3 + 1 ≤ dp) (h4 : ox_Sem yX12_numberIn cX12_numberIn 5 (some .int) d4 f4) (e4 : d4 + 1 ≤ dp) (hrc : ∀ b, ox_S p l e R s m args below meth c g 5 c0 t0 (ox_QM g below args s c0 t0) b (rc b)) : ox_S p l e R s m args below meth c g 5 c0 t0 (ox_QM g below args s c0 t0) 228 (bX12_readRecipe_228 f1 f2 f3 f4 rc) := by
  refine s_aload_n (pc := 228) C dX12_readRecipe_228 rfl ?_
  refine s_getr (pc := 229) (j := 8) (q := (RX12, TX12, 59)) C rfl (by decide) rfl wF_X12_25 dX12_readRecipe_229 ?_
  refine s_aload_n (pc := 232) C dX12_readRecipe_232 rfl ?_
  refine s_geti (pc := 233) (j := 12) (q := (RX12, TX12, 59)) C rfl (by decide) rfl wF_X12_188 dX12_readRecipe_233 ?_
  refine s_iload_n (pc := 236) C dX12_readRecipe_236 rfl ?_
  refine s_iast (pc := 237) C dX12_readRecipe_237 ?_
  refine s_aload_n (pc := 238) C dX12_readRecipe_238 rfl ?_
  refine s_geti (pc := 239) (j := 21) (q := (RX12, TX12, 59)) C rfl (by decide) rfl wF_X12_165 dX12_readRecipe_239 ?_
  refine s_ifne (pc := 242) 262 C dX12_readRecipe_242 (by decide) (hrc 262) ?_
  refine s_aload_n (pc := 245) C dX12_readRecipe_245 rfl ?_
  refine s_aload_n (pc := 246) C dX12_readRecipe_246 rfl ?_
  refine s_geti (pc := 247) (j := 18) (q := (RX12, TX12, 59)) C rfl (by decide) rfl wF_X12_153 dX12_readRecipe_247 ?_
  refine s_iconst (pc := 250) C dX12_readRecipe_250 (by decide) ?_
  refine s_icmpne (pc := 251) 258 C dX12_readRecipe_251 (by decide) (hrc 258) ?_
  refine s_iconst (pc := 254) C dX12_readRecipe_254 (by decide) ?_
  exact s_goto (pc := 255) 259 C dX12_readRecipe_255 (by decide) (hrc 259)
set_option maxRecDepth 100000 in
theorem kX12_readRecipe_258 (C : ox_C p s m args c g 5 cX12_readRecipe RX12) (hr : meth.sig.returnType = none) (hlk : meth.locks = false) (hnm : meth.name = "readRecipe") (hR : R.frames = dp ∧ R.locals = 60 * dp) (h1 : ox_Sem yX12_word cX12_word 4 (some .long) d1 f1) (e1 : d1 + 1 ≤ dp) (h2 : ox_Sem yX12_bad cX12_bad 2 none d2 f2) (e2 : d2 + 1 ≤ dp) (h3 : ox_Sem yX12_must cX12_must 2 none d3 f3) (e3 : d3 + 1 ≤ dp) (h4 : ox_Sem yX12_numberIn cX12_numberIn 5 (some .int) d4 f4) (e4 : d4 + 1 ≤ dp) (hrc : ∀ b, ox_S p l e R s m args below meth c g 5 c0 t0 (ox_QM g below args s c0 t0) b (rc b)) : ox_S p l e R s m args below meth c g 5 c0 t0 (ox_QM g below args s c0 t0) 258 (bX12_readRecipe_258 f1 f2 f3 f4 rc) := by
  refine s_iconst (pc := 258) C dX12_readRecipe_258 (by decide) ?_
  exact hrc 259
set_option maxRecDepth 100000 in
theorem kX12_readRecipe_259 (C : ox_C p s m args c g 5 cX12_readRecipe RX12) (hr : meth.sig.returnType = none) (hlk : meth.locks = false) (hnm : meth.name = "readRecipe") (hR : R.frames = dp ∧ R.locals = 60 * dp) (h1 : ox_Sem yX12_word cX12_word 4 (some .long) d1 f1) (e1 : d1 + 1 ≤ dp) (h2 : ox_Sem yX12_bad cX12_bad 2 none d2 f2) (e2 : d2 + 1 ≤ dp) (h3 : ox_Sem yX12_must cX12_must 2 none d3 f3) (e3 : d3 + 1 ≤ dp) (h4 : ox_Sem yX12_numberIn cX12_numberIn 5 (some .int) d4 f4) (e4 : d4 + 1 ≤ dp) (hrc : ∀ b, ox_S p l e R s m args below meth c g 5 c0 t0 (ox_QM g below args s c0 t0) b (rc b)) : ox_S p l e R s m args below meth c g 5 c0 t0 (ox_QM g below args s c0 t0) 259 (bX12_readRecipe_259 f1 f2 f3 f4 rc) := by
  refine s_cv (pc := 259) (q := (RX12, TX12, 59)) C h3 rfl wM_X12_178 wI_X12_must wS_X12_must wN_X12 wC_X12_must (by decide +kernel) (ox_lv hR e3 (by decide)) dX12_readRecipe_259 ?_
  exact hrc 262
set_option maxRecDepth 100000 in
theorem kX12_readRecipe_262 (C : ox_C p s m args c g 5 cX12_readRecipe RX12) (hr : meth.sig.returnType = none) (hlk : meth.locks = false) (hnm : meth.name = "readRecipe") (hR : R.frames = dp ∧ R.locals = 60 * dp) (h1 : ox_Sem yX12_word cX12_word 4 (some .long) d1 f1) (e1 : d1 + 1 ≤ dp) (h2 : ox_Sem yX12_bad cX12_bad 2 none d2 f2) (e2 : d2 + 1 ≤ dp) (h3 : ox_Sem yX12_must cX12_must 2 none d3 f3) (e3 : d3 + 1 ≤ dp) (h4 : ox_Sem yX12_numberIn cX12_numberIn 5 (some .int) d4 f4) (e4 : d4 + 1 ≤ dp) (hrc : ∀ b, ox_S p l e R s m args below meth c g 5 c0 t0 (ox_QM g below args s c0 t0) b (rc b)) : ox_S p l e R s m args below meth c g 5 c0 t0 (ox_QM g below args s c0 t0) 262 (bX12_readRecipe_262 f1 f2 f3 f4 rc) := by
  refine s_aload_n (pc := 262) C dX12_readRecipe_262 rfl ?_
  refine s_dup (pc := 263) C dX12_readRecipe_263 ?_
  refine s_geti (pc := 264) (j := 12) (q := (RX12, TX12, 59)) C rfl (by decide) rfl wF_X12_188 dX12_readRecipe_264 ?_
  refine s_iconst (pc := 267) C dX12_readRecipe_267 (by decide) ?_
  refine s_iadd (pc := 268) C dX12_readRecipe_268 ?_
  refine s_puti (pc := 269) (j := 12) (q := (RX12, TX12, 59)) C rfl (by decide) rfl (Or.inl rfl) wF_X12_188 dX12_readRecipe_269 ?_
  exact s_ret (pc := 272) C hr hlk dX12_readRecipe_272
end SX12_readRecipe
def bsX12_readRecipe (f1 f2 f3 f4 : ox_F) (b : Nat) (rc : Nat → ox_K) : ox_K := if b = 0 then bX12_readRecipe_0 f1 f2 f3 f4 rc else if b = 27 then bX12_readRecipe_27 f1 f2 f3 f4 rc else if b = 40 then bX12_readRecipe_40 f1 f2 f3 f4 rc else if b = 41 then bX12_readRecipe_41 f1 f2 f3 f4 rc else if b = 52 then bX12_readRecipe_52 f1 f2 f3 f4 rc else if b = 86 then bX12_readRecipe_86 f1 f2 f3 f4 rc else if b = 115 then bX12_readRecipe_115 f1 f2 f3 f4 rc else if b = 130 then bX12_readRecipe_130 f1 f2 f3 f4 rc else if b = 131 then bX12_readRecipe_131 f1 f2 f3 f4 rc else if b = 144 then bX12_readRecipe_144 f1 f2 f3 f4 rc else if b = 184 then bX12_readRecipe_184 f1 f2 f3 f4 rc else if b = 191 then bX12_readRecipe_191 f1 f2 f3 f4 rc else if b = 220 then bX12_readRecipe_220 f1 f2 f3 f4 rc else if b = 221 then bX12_readRecipe_221 f1 f2 f3 f4 rc else if b = 225 then bX12_readRecipe_225 f1 f2 f3 f4 rc else if b = 228 then bX12_readRecipe_228 f1 f2 f3 f4 rc else if b = 258 then bX12_readRecipe_258 f1 f2 f3 f4 rc else if b = 259 then bX12_readRecipe_259 f1 f2 f3 f4 rc else if b = 262 then bX12_readRecipe_262 f1 f2 f3 f4 rc else ox_no
theorem mX12_readRecipe {dp d1 d2 d3 d4 : Nat} {f1 f2 f3 f4 f : ox_F} (h1 : ox_Sem yX12_word cX12_word 4 (some .long) d1 f1) (e1 : d1 + 1 ≤ dp) (h2 : ox_Sem yX12_bad cX12_bad 2 none d2 f2) (e2 : d2 + 1 ≤ dp) (h3 : ox_Sem yX12_must cX12_must 2 none d3 f3) (e3 : d3 + 1 ≤ dp) (h4 : ox_Sem yX12_numberIn cX12_numberIn 5 (some .int) d4 f4) (e4 : d4 + 1 ≤ dp) (hf : ∀ as h r, f as h = some r → ox_cs as ≤ 5 ∧ ox_le h r.2 ∧ ∃ n, ox_run (bsX12_readRecipe f1 f2 f3 f4) n 0 (lv_args 0 as) [] h = some r) : ox_Sem yX12_readRecipe cX12_readRecipe 5 none dp f := by
  refine ox_meth (bs := bsX12_readRecipe f1 f2 f3 f4) (by decide) hf ?_
  intro p l e R s m args below meth c g c0 t0 C hr hlk hnm hR rc hrc b
  unfold bsX12_readRecipe
  refine ox_br (kX12_readRecipe_0 C hr hlk hnm hR h1 e1 h2 e2 h3 e3 h4 e4 hrc) ?_
  refine ox_br (kX12_readRecipe_27 C hr hlk hnm hR h1 e1 h2 e2 h3 e3 h4 e4 hrc) ?_
  refine ox_br (kX12_readRecipe_40 C hr hlk hnm hR h1 e1 h2 e2 h3 e3 h4 e4 hrc) ?_
  refine ox_br (kX12_readRecipe_41 C hr hlk hnm hR h1 e1 h2 e2 h3 e3 h4 e4 hrc) ?_
  refine ox_br (kX12_readRecipe_52 C hr hlk hnm hR h1 e1 h2 e2 h3 e3 h4 e4 hrc) ?_
  refine ox_br (kX12_readRecipe_86 C hr hlk hnm hR h1 e1 h2 e2 h3 e3 h4 e4 hrc) ?_
  refine ox_br (kX12_readRecipe_115 C hr hlk hnm hR h1 e1 h2 e2 h3 e3 h4 e4 hrc) ?_
  refine ox_br (kX12_readRecipe_130 C hr hlk hnm hR h1 e1 h2 e2 h3 e3 h4 e4 hrc) ?_
  refine ox_br (kX12_readRecipe_131 C hr hlk hnm hR h1 e1 h2 e2 h3 e3 h4 e4 hrc) ?_
  refine ox_br (kX12_readRecipe_144 C hr hlk hnm hR h1 e1 h2 e2 h3 e3 h4 e4 hrc) ?_
  refine ox_br (kX12_readRecipe_184 C hr hlk hnm hR h1 e1 h2 e2 h3 e3 h4 e4 hrc) ?_
  refine ox_br (kX12_readRecipe_191 C hr hlk hnm hR h1 e1 h2 e2 h3 e3 h4 e4 hrc) ?_
  refine ox_br (kX12_readRecipe_220 C hr hlk hnm hR h1 e1 h2 e2 h3 e3 h4 e4 hrc) ?_
  refine ox_br (kX12_readRecipe_221 C hr hlk hnm hR h1 e1 h2 e2 h3 e3 h4 e4 hrc) ?_
  refine ox_br (kX12_readRecipe_225 C hr hlk hnm hR h1 e1 h2 e2 h3 e3 h4 e4 hrc) ?_
  refine ox_br (kX12_readRecipe_228 C hr hlk hnm hR h1 e1 h2 e2 h3 e3 h4 e4 hrc) ?_
  refine ox_br (kX12_readRecipe_258 C hr hlk hnm hR h1 e1 h2 e2 h3 e3 h4 e4 hrc) ?_
  refine ox_br (kX12_readRecipe_259 C hr hlk hnm hR h1 e1 h2 e2 h3 e3 h4 e4 hrc) ?_
  refine ox_br (kX12_readRecipe_262 C hr hlk hnm hR h1 e1 h2 e2 h3 e3 h4 e4 hrc) ?_
  exact s_no
theorem dX12_recipes_0 : decode cX12_recipes 0 = .ok (.aload_n 0, 1) := by decide +kernel
theorem dX12_recipes_1 : decode cX12_recipes 1 = .ok (.iconst 0, 1) := by decide +kernel
theorem dX12_recipes_2 : decode cX12_recipes 2 = .ok (.putfield 108, 3) := by decide +kernel
theorem dX12_recipes_5 : decode cX12_recipes 5 = .ok (.aload_n 0, 1) := by decide +kernel
theorem dX12_recipes_6 : decode cX12_recipes 6 = .ok (.aload_n 0, 1) := by decide +kernel
theorem dX12_recipes_7 : decode cX12_recipes 7 = .ok (.getfield 134, 3) := by decide +kernel
theorem dX12_recipes_10 : decode cX12_recipes 10 = .ok (.putfield 140, 3) := by decide +kernel
theorem dX12_recipes_13 : decode cX12_recipes 13 = .ok (.aload_n 0, 1) := by decide +kernel
theorem dX12_recipes_14 : decode cX12_recipes 14 = .ok (.iconst 0, 1) := by decide +kernel
theorem dX12_recipes_15 : decode cX12_recipes 15 = .ok (.putfield 134, 3) := by decide +kernel
theorem dX12_recipes_18 : decode cX12_recipes 18 = .ok (.aload_n 0, 1) := by decide +kernel
theorem dX12_recipes_19 : decode cX12_recipes 19 = .ok (.iconst 0, 1) := by decide +kernel
theorem dX12_recipes_20 : decode cX12_recipes 20 = .ok (.putfield 144, 3) := by decide +kernel
theorem dX12_recipes_23 : decode cX12_recipes 23 = .ok (.aload_n 0, 1) := by decide +kernel
theorem dX12_recipes_24 : decode cX12_recipes 24 = .ok (.iconst 0, 1) := by decide +kernel
theorem dX12_recipes_25 : decode cX12_recipes 25 = .ok (.putfield 165, 3) := by decide +kernel
theorem dX12_recipes_28 : decode cX12_recipes 28 = .ok (.aload_n 0, 1) := by decide +kernel
theorem dX12_recipes_29 : decode cX12_recipes 29 = .ok (.aload_n 0, 1) := by decide +kernel
theorem dX12_recipes_30 : decode cX12_recipes 30 = .ok (.getfield 199, 3) := by decide +kernel
theorem dX12_recipes_33 : decode cX12_recipes 33 = .ok (.putfield 188, 3) := by decide +kernel
theorem dX12_recipes_36 : decode cX12_recipes 36 = .ok (.aload_n 0, 1) := by decide +kernel
theorem dX12_recipes_37 : decode cX12_recipes 37 = .ok (.invokevirtual 175, 3) := by decide +kernel
theorem dX12_recipes_40 : decode cX12_recipes 40 = .ok (.aload_n 0, 1) := by decide +kernel
theorem dX12_recipes_41 : decode cX12_recipes 41 = .ok (.getfield 165, 3) := by decide +kernel
theorem dX12_recipes_44 : decode cX12_recipes 44 = .ok (.ifCond .ne 18, 3) := by decide +kernel
theorem dX12_recipes_47 : decode cX12_recipes 47 = .ok (.aload_n 0, 1) := by decide +kernel
theorem dX12_recipes_48 : decode cX12_recipes 48 = .ok (.getfield 153, 3) := by decide +kernel
theorem dX12_recipes_51 : decode cX12_recipes 51 = .ok (.iconst 1, 1) := by decide +kernel
theorem dX12_recipes_52 : decode cX12_recipes 52 = .ok (.if_icmp .eq 10, 3) := by decide +kernel
theorem dX12_recipes_55 : decode cX12_recipes 55 = .ok (.aload_n 0, 1) := by decide +kernel
theorem dX12_recipes_56 : decode cX12_recipes 56 = .ok (.invokevirtual 202, 3) := by decide +kernel
theorem dX12_recipes_59 : decode cX12_recipes 59 = .ok (.goto (-19), 3) := by decide +kernel
theorem dX12_recipes_62 : decode cX12_recipes 62 = .ok (.aload_n 0, 1) := by decide +kernel
theorem dX12_recipes_63 : decode cX12_recipes 63 = .ok (.getfield 165, 3) := by decide +kernel
theorem dX12_recipes_66 : decode cX12_recipes 66 = .ok (.ifCond .le 19, 3) := by decide +kernel
theorem dX12_recipes_69 : decode cX12_recipes 69 = .ok (.aload_n 0, 1) := by decide +kernel
theorem dX12_recipes_70 : decode cX12_recipes 70 = .ok (.aload_n 0, 1) := by decide +kernel
theorem dX12_recipes_71 : decode cX12_recipes 71 = .ok (.getfield 165, 3) := by decide +kernel
theorem dX12_recipes_74 : decode cX12_recipes 74 = .ok (.putfield 205, 3) := by decide +kernel
theorem dX12_recipes_77 : decode cX12_recipes 77 = .ok (.ldc 208, 2) := by decide +kernel
theorem dX12_recipes_79 : decode cX12_recipes 79 = .ok (.aload_n 0, 1) := by decide +kernel
theorem dX12_recipes_80 : decode cX12_recipes 80 = .ok (.getfield 168, 3) := by decide +kernel
theorem dX12_recipes_83 : decode cX12_recipes 83 = .ok (.isub, 1) := by decide +kernel
theorem dX12_recipes_84 : decode cX12_recipes 84 = .ok (.ireturn, 1) := by decide +kernel
theorem dX12_recipes_85 : decode cX12_recipes 85 = .ok (.aload_n 0, 1) := by decide +kernel
theorem dX12_recipes_86 : decode cX12_recipes 86 = .ok (.aload_n 0, 1) := by decide +kernel
theorem dX12_recipes_87 : decode cX12_recipes 87 = .ok (.getfield 188, 3) := by decide +kernel
theorem dX12_recipes_90 : decode cX12_recipes 90 = .ok (.putfield 199, 3) := by decide +kernel
theorem dX12_recipes_93 : decode cX12_recipes 93 = .ok (.aload_n 0, 1) := by decide +kernel
theorem dX12_recipes_94 : decode cX12_recipes 94 = .ok (.getfield 199, 3) := by decide +kernel
theorem dX12_recipes_97 : decode cX12_recipes 97 = .ok (.ireturn, 1) := by decide +kernel
def bX12_recipes_0 (f1 f2 : ox_F) (rc : Nat → ox_K) : ox_K := o_al 0 (o_ic (0) (o_puti 12 0 (o_al 0 (o_al 0 (o_geti 12 14 (o_puti 12 16 (o_al 0 (o_ic (0) (o_puti 12 14 (o_al 0 (o_ic (0) (o_puti 12 17 (o_al 0 (o_ic (0) (o_puti 12 21 (o_al 0 (o_al 0 (o_geti 12 5 (o_puti 12 12 (o_al 0 (o_cv f1 12 0 (rc 40))))))))))))))))))))))
def bX12_recipes_40 (f1 f2 : ox_F) (rc : Nat → ox_K) : ox_K := o_keep [0] (o_al 0 (o_geti 12 21 (o_ifne (rc 62) (o_al 0 (o_geti 12 18 (o_ic (1) (o_iceq (rc 62) (o_al 0 (o_cv f2 12 0 (rc 40))))))))))
def bX12_recipes_62 (f1 f2 : ox_F) (rc : Nat → ox_K) : ox_K := o_al 0 (o_geti 12 21 (o_ifle (rc 85) (o_al 0 (o_al 0 (o_geti 12 21 (o_puti 12 15 (o_ic (-1000100) (o_al 0 (o_geti 12 22 (o_isub (o_iret)))))))))))
def bX12_recipes_85 (f1 f2 : ox_F) (rc : Nat → ox_K) : ox_K := o_al 0 (o_al 0 (o_geti 12 12 (o_puti 12 5 (o_al 0 (o_geti 12 5 (o_iret))))))
section SX12_recipes
variable {p : Program} {l : Launch} {e : Env} {R : Room} {s : State} {m : MethodId} {args : Array Value} {below : List Frame} {meth : Method} {c : Code} {g : ox_G} {c0 t0 dp d1 d2 : Nat} {rc : Nat → ox_K} {f1 f2 : ox_F}
set_option maxRecDepth 100000 in
theorem kX12_recipes_0 (C : ox_C p s m args c g 1 cX12_recipes RX12) (hr : meth.sig.returnType = (some .int)) (hlk : meth.locks = false) (hnm : meth.name = "recipes") (hR : R.frames = dp ∧ R.locals = 60 * dp) (h1 : ox_Sem yX12_step cX12_step 2 none d1 f1) (e1 : d1 + 1 ≤ dp) (h2 : ox_Sem yX12_readRecipe cX12_readRecipe 5 none d2 f2) (e2 : d2 + 1 ≤ dp) (hrc : ∀ b, ox_S p l e R s m args below meth c g 1 c0 t0 (ox_QM g below args s c0 t0) b (rc b)) : ox_S p l e R s m args below meth c g 1 c0 t0 (ox_QM g below args s c0 t0) 0 (bX12_recipes_0 f1 f2 rc) := by
  refine s_aload_n (pc := 0) C dX12_recipes_0 rfl ?_
  refine s_iconst (pc := 1) C dX12_recipes_1 (by decide) ?_
  refine s_puti (pc := 2) (j := 0) (q := (RX12, TX12, 59)) C rfl (by decide) rfl (Or.inl rfl) wF_X12_108 dX12_recipes_2 ?_
  refine s_aload_n (pc := 5) C dX12_recipes_5 rfl ?_
  refine s_aload_n (pc := 6) C dX12_recipes_6 rfl ?_
  refine s_geti (pc := 7) (j := 14) (q := (RX12, TX12, 59)) C rfl (by decide) rfl wF_X12_134 dX12_recipes_7 ?_
  refine s_puti (pc := 10) (j := 16) (q := (RX12, TX12, 59)) C rfl (by decide) rfl (Or.inl rfl) wF_X12_140 dX12_recipes_10 ?_
  refine s_aload_n (pc := 13) C dX12_recipes_13 rfl ?_
  refine s_iconst (pc := 14) C dX12_recipes_14 (by decide) ?_
  refine s_puti (pc := 15) (j := 14) (q := (RX12, TX12, 59)) C rfl (by decide) rfl (Or.inl rfl) wF_X12_134 dX12_recipes_15 ?_
  refine s_aload_n (pc := 18) C dX12_recipes_18 rfl ?_
  refine s_iconst (pc := 19) C dX12_recipes_19 (by decide) ?_
  refine s_puti (pc := 20) (j := 17) (q := (RX12, TX12, 59)) C rfl (by decide) rfl (Or.inl rfl) wF_X12_144 dX12_recipes_20 ?_
  refine s_aload_n (pc := 23) C dX12_recipes_23 rfl ?_
  refine s_iconst (pc := 24) C dX12_recipes_24 (by decide) ?_
  refine s_puti (pc := 25) (j := 21) (q := (RX12, TX12, 59)) C rfl (by decide) rfl (Or.inl rfl) wF_X12_165 dX12_recipes_25 ?_
  refine s_aload_n (pc := 28) C dX12_recipes_28 rfl ?_
  refine s_aload_n (pc := 29) C dX12_recipes_29 rfl ?_
  refine s_geti (pc := 30) (j := 5) (q := (RX12, TX12, 59)) C rfl (by decide) rfl wF_X12_199 dX12_recipes_30 ?_
  refine s_puti (pc := 33) (j := 12) (q := (RX12, TX12, 59)) C rfl (by decide) rfl (Or.inl rfl) wF_X12_188 dX12_recipes_33 ?_
  refine s_aload_n (pc := 36) C dX12_recipes_36 rfl ?_
  refine s_cv (pc := 37) (q := (RX12, TX12, 59)) C h1 rfl wM_X12_175 wI_X12_step wS_X12_step wN_X12 wC_X12_step (by decide +kernel) (ox_lv hR e1 (by decide)) dX12_recipes_37 ?_
  exact hrc 40
set_option maxRecDepth 100000 in
theorem kX12_recipes_40 (C : ox_C p s m args c g 1 cX12_recipes RX12) (hr : meth.sig.returnType = (some .int)) (hlk : meth.locks = false) (hnm : meth.name = "recipes") (hR : R.frames = dp ∧ R.locals = 60 * dp) (h1 : ox_Sem yX12_step cX12_step 2 none d1 f1) (e1 : d1 + 1 ≤ dp) (h2 : ox_Sem yX12_readRecipe cX12_readRecipe 5 none d2 f2) (e2 : d2 + 1 ≤ dp) (hrc : ∀ b, ox_S p l e R s m args below meth c g 1 c0 t0 (ox_QM g below args s c0 t0) b (rc b)) : ox_S p l e R s m args below meth c g 1 c0 t0 (ox_QM g below args s c0 t0) 40 (bX12_recipes_40 f1 f2 rc) := by
  refine s_keep ?_
  refine s_aload_n (pc := 40) C dX12_recipes_40 rfl ?_
  refine s_geti (pc := 41) (j := 21) (q := (RX12, TX12, 59)) C rfl (by decide) rfl wF_X12_165 dX12_recipes_41 ?_
  refine s_ifne (pc := 44) 62 C dX12_recipes_44 (by decide) (hrc 62) ?_
  refine s_aload_n (pc := 47) C dX12_recipes_47 rfl ?_
  refine s_geti (pc := 48) (j := 18) (q := (RX12, TX12, 59)) C rfl (by decide) rfl wF_X12_153 dX12_recipes_48 ?_
  refine s_iconst (pc := 51) C dX12_recipes_51 (by decide) ?_
  refine s_icmpeq (pc := 52) 62 C dX12_recipes_52 (by decide) (hrc 62) ?_
  refine s_aload_n (pc := 55) C dX12_recipes_55 rfl ?_
  refine s_cv (pc := 56) (q := (RX12, TX12, 59)) C h2 rfl wM_X12_202 wI_X12_readRecipe wS_X12_readRecipe wN_X12 wC_X12_readRecipe (by decide +kernel) (ox_lv hR e2 (by decide)) dX12_recipes_56 ?_
  exact s_goto (pc := 59) 40 C dX12_recipes_59 (by decide) (hrc 40)
set_option maxRecDepth 100000 in
theorem kX12_recipes_62 (C : ox_C p s m args c g 1 cX12_recipes RX12) (hr : meth.sig.returnType = (some .int)) (hlk : meth.locks = false) (hnm : meth.name = "recipes") (hR : R.frames = dp ∧ R.locals = 60 * dp) (h1 : ox_Sem yX12_step cX12_step 2 none d1 f1) (e1 : d1 + 1 ≤ dp) (h2 : ox_Sem yX12_readRecipe cX12_readRecipe 5 none d2 f2) (e2 : d2 + 1 ≤ dp) (hrc : ∀ b, ox_S p l e R s m args below meth c g 1 c0 t0 (ox_QM g below args s c0 t0) b (rc b)) : ox_S p l e R s m args below meth c g 1 c0 t0 (ox_QM g below args s c0 t0) 62 (bX12_recipes_62 f1 f2 rc) := by
  refine s_aload_n (pc := 62) C dX12_recipes_62 rfl ?_
  refine s_geti (pc := 63) (j := 21) (q := (RX12, TX12, 59)) C rfl (by decide) rfl wF_X12_165 dX12_recipes_63 ?_
  refine s_ifle (pc := 66) 85 C dX12_recipes_66 (by decide) (hrc 85) ?_
  refine s_aload_n (pc := 69) C dX12_recipes_69 rfl ?_
  refine s_aload_n (pc := 70) C dX12_recipes_70 rfl ?_
  refine s_geti (pc := 71) (j := 21) (q := (RX12, TX12, 59)) C rfl (by decide) rfl wF_X12_165 dX12_recipes_71 ?_
  refine s_puti (pc := 74) (j := 15) (q := (RX12, TX12, 59)) C rfl (by decide) rfl (Or.inl rfl) wF_X12_205 dX12_recipes_74 ?_
  refine s_ldc (pc := 77) C wK_X12_208 dX12_recipes_77 ?_
  refine s_aload_n (pc := 79) C dX12_recipes_79 rfl ?_
  refine s_geti (pc := 80) (j := 22) (q := (RX12, TX12, 59)) C rfl (by decide) rfl wF_X12_168 dX12_recipes_80 ?_
  refine s_isub (pc := 83) C dX12_recipes_83 ?_
  exact s_iret (pc := 84) C hr hlk dX12_recipes_84
set_option maxRecDepth 100000 in
theorem kX12_recipes_85 (C : ox_C p s m args c g 1 cX12_recipes RX12) (hr : meth.sig.returnType = (some .int)) (hlk : meth.locks = false) (hnm : meth.name = "recipes") (hR : R.frames = dp ∧ R.locals = 60 * dp) (h1 : ox_Sem yX12_step cX12_step 2 none d1 f1) (e1 : d1 + 1 ≤ dp) (h2 : ox_Sem yX12_readRecipe cX12_readRecipe 5 none d2 f2) (e2 : d2 + 1 ≤ dp) (hrc : ∀ b, ox_S p l e R s m args below meth c g 1 c0 t0 (ox_QM g below args s c0 t0) b (rc b)) : ox_S p l e R s m args below meth c g 1 c0 t0 (ox_QM g below args s c0 t0) 85 (bX12_recipes_85 f1 f2 rc) := by
  refine s_aload_n (pc := 85) C dX12_recipes_85 rfl ?_
  refine s_aload_n (pc := 86) C dX12_recipes_86 rfl ?_
  refine s_geti (pc := 87) (j := 12) (q := (RX12, TX12, 59)) C rfl (by decide) rfl wF_X12_188 dX12_recipes_87 ?_
  refine s_puti (pc := 90) (j := 5) (q := (RX12, TX12, 59)) C rfl (by decide) rfl (Or.inl rfl) wF_X12_199 dX12_recipes_90 ?_
  refine s_aload_n (pc := 93) C dX12_recipes_93 rfl ?_
  refine s_geti (pc := 94) (j := 5) (q := (RX12, TX12, 59)) C rfl (by decide) rfl wF_X12_199 dX12_recipes_94 ?_
  exact s_iret (pc := 97) C hr hlk dX12_recipes_97
end SX12_recipes
def bsX12_recipes (f1 f2 : ox_F) (b : Nat) (rc : Nat → ox_K) : ox_K := if b = 0 then bX12_recipes_0 f1 f2 rc else if b = 40 then bX12_recipes_40 f1 f2 rc else if b = 62 then bX12_recipes_62 f1 f2 rc else if b = 85 then bX12_recipes_85 f1 f2 rc else ox_no
theorem mX12_recipes {dp d1 d2 : Nat} {f1 f2 f : ox_F} (h1 : ox_Sem yX12_step cX12_step 2 none d1 f1) (e1 : d1 + 1 ≤ dp) (h2 : ox_Sem yX12_readRecipe cX12_readRecipe 5 none d2 f2) (e2 : d2 + 1 ≤ dp) (hf : ∀ as h r, f as h = some r → ox_cs as ≤ 1 ∧ ox_le h r.2 ∧ ∃ n, ox_run (bsX12_recipes f1 f2) n 0 (lv_args 0 as) [] h = some r) : ox_Sem yX12_recipes cX12_recipes 1 (some .int) dp f := by
  refine ox_meth (bs := bsX12_recipes f1 f2) (by decide) hf ?_
  intro p l e R s m args below meth c g c0 t0 C hr hlk hnm hR rc hrc b
  unfold bsX12_recipes
  refine ox_br (kX12_recipes_0 C hr hlk hnm hR h1 e1 h2 e2 hrc) ?_
  refine ox_br (kX12_recipes_40 C hr hlk hnm hR h1 e1 h2 e2 hrc) ?_
  refine ox_br (kX12_recipes_62 C hr hlk hnm hR h1 e1 h2 e2 hrc) ?_
  refine ox_br (kX12_recipes_85 C hr hlk hnm hR h1 e1 h2 e2 hrc) ?_
  exact s_no
theorem dX12_fault_0 : decode cX12_fault 0 = .ok (.aload_n 0, 1) := by decide +kernel
theorem dX12_fault_1 : decode cX12_fault 1 = .ok (.iconst 0, 1) := by decide +kernel
theorem dX12_fault_2 : decode cX12_fault 2 = .ok (.putfield 108, 3) := by decide +kernel
theorem dX12_fault_5 : decode cX12_fault 5 = .ok (.aload_n 0, 1) := by decide +kernel
theorem dX12_fault_6 : decode cX12_fault 6 = .ok (.getfield 205, 3) := by decide +kernel
theorem dX12_fault_9 : decode cX12_fault 9 = .ok (.ireturn, 1) := by decide +kernel
def bX12_fault_0 (rc : Nat → ox_K) : ox_K := o_al 0 (o_ic (0) (o_puti 12 0 (o_al 0 (o_geti 12 15 (o_iret)))))
section SX12_fault
variable {p : Program} {l : Launch} {e : Env} {R : Room} {s : State} {m : MethodId} {args : Array Value} {below : List Frame} {meth : Method} {c : Code} {g : ox_G} {c0 t0 dp  : Nat} {rc : Nat → ox_K}
set_option maxRecDepth 100000 in
theorem kX12_fault_0 (C : ox_C p s m args c g 1 cX12_fault RX12) (hr : meth.sig.returnType = (some .int)) (hlk : meth.locks = false) (hnm : meth.name = "fault") (hR : R.frames = dp ∧ R.locals = 60 * dp) (hrc : ∀ b, ox_S p l e R s m args below meth c g 1 c0 t0 (ox_QM g below args s c0 t0) b (rc b)) : ox_S p l e R s m args below meth c g 1 c0 t0 (ox_QM g below args s c0 t0) 0 (bX12_fault_0 rc) := by
  refine s_aload_n (pc := 0) C dX12_fault_0 rfl ?_
  refine s_iconst (pc := 1) C dX12_fault_1 (by decide) ?_
  refine s_puti (pc := 2) (j := 0) (q := (RX12, TX12, 59)) C rfl (by decide) rfl (Or.inl rfl) wF_X12_108 dX12_fault_2 ?_
  refine s_aload_n (pc := 5) C dX12_fault_5 rfl ?_
  refine s_geti (pc := 6) (j := 15) (q := (RX12, TX12, 59)) C rfl (by decide) rfl wF_X12_205 dX12_fault_6 ?_
  exact s_iret (pc := 9) C hr hlk dX12_fault_9
end SX12_fault
def bsX12_fault (b : Nat) (rc : Nat → ox_K) : ox_K := if b = 0 then bX12_fault_0 rc else ox_no
theorem mX12_fault {dp  : Nat} {f : ox_F} (hf : ∀ as h r, f as h = some r → ox_cs as ≤ 1 ∧ ox_le h r.2 ∧ ∃ n, ox_run (bsX12_fault) n 0 (lv_args 0 as) [] h = some r) : ox_Sem yX12_fault cX12_fault 1 (some .int) dp f := by
  refine ox_meth (bs := bsX12_fault) (by decide) hf ?_
  intro p l e R s m args below meth c g c0 t0 C hr hlk hnm hR rc hrc b
  unfold bsX12_fault
  refine ox_br (kX12_fault_0 C hr hlk hnm hR hrc) ?_
  exact s_no
theorem dX12_isRecipe_0 : decode cX12_isRecipe 0 = .ok (.iload_n 1, 1) := by decide +kernel
theorem dX12_isRecipe_1 : decode cX12_isRecipe 1 = .ok (.i2l, 1) := by decide +kernel
theorem dX12_isRecipe_2 : decode cX12_isRecipe 2 = .ok (.lconst 0, 1) := by decide +kernel
theorem dX12_isRecipe_3 : decode cX12_isRecipe 3 = .ok (.aload_n 0, 1) := by decide +kernel
theorem dX12_isRecipe_4 : decode cX12_isRecipe 4 = .ok (.getfield 199, 3) := by decide +kernel
theorem dX12_isRecipe_7 : decode cX12_isRecipe 7 = .ok (.iconst 1, 1) := by decide +kernel
theorem dX12_isRecipe_8 : decode cX12_isRecipe 8 = .ok (.isub, 1) := by decide +kernel
theorem dX12_isRecipe_9 : decode cX12_isRecipe 9 = .ok (.i2l, 1) := by decide +kernel
theorem dX12_isRecipe_10 : decode cX12_isRecipe 10 = .ok (.invokestatic 117, 3) := by decide +kernel
theorem dX12_isRecipe_13 : decode cX12_isRecipe 13 = .ok (.ireturn, 1) := by decide +kernel
def bX12_isRecipe_0 (f1 : ox_F) (rc : Nat → ox_K) : ox_K := o_il 1 (o_i2l (o_lc (0) (o_al 0 (o_geti 12 5 (o_ic (1) (o_isub (o_i2l (o_ct f1 3 (o_zret)))))))))
section SX12_isRecipe
variable {p : Program} {l : Launch} {e : Env} {R : Room} {s : State} {m : MethodId} {args : Array Value} {below : List Frame} {meth : Method} {c : Code} {g : ox_G} {c0 t0 dp d1 : Nat} {rc : Nat → ox_K} {f1 : ox_F}
set_option maxRecDepth 100000 in
theorem kX12_isRecipe_0 (C : ox_C p s m args c g 2 cX12_isRecipe RX12) (hr : meth.sig.returnType = (some .boolean)) (hlk : meth.locks = false) (hnm : meth.name = "isRecipe") (hR : R.frames = dp ∧ R.locals = 60 * dp) (h1 : ox_Sem yX12_in cX12_in 6 (some .boolean) d1 f1) (e1 : d1 + 1 ≤ dp) (hrc : ∀ b, ox_S p l e R s m args below meth c g 2 c0 t0 (ox_QM g below args s c0 t0) b (rc b)) : ox_S p l e R s m args below meth c g 2 c0 t0 (ox_QM g below args s c0 t0) 0 (bX12_isRecipe_0 f1 rc) := by
  refine s_iload_n (pc := 0) C dX12_isRecipe_0 rfl ?_
  refine s_i2l (pc := 1) C dX12_isRecipe_1 ?_
  refine s_lconst (pc := 2) C dX12_isRecipe_2 (by decide) ?_
  refine s_aload_n (pc := 3) C dX12_isRecipe_3 rfl ?_
  refine s_geti (pc := 4) (j := 5) (q := (RX12, TX12, 59)) C rfl (by decide) rfl wF_X12_199 dX12_isRecipe_4 ?_
  refine s_iconst (pc := 7) C dX12_isRecipe_7 (by decide) ?_
  refine s_isub (pc := 8) C dX12_isRecipe_8 ?_
  refine s_i2l (pc := 9) C dX12_isRecipe_9 ?_
  refine s_ct (pc := 10) C h1 wM_X12_117 wT_X12_in wN_X12 wC_X12_in (by decide +kernel) (ox_lv hR e1 (by decide)) dX12_isRecipe_10 ?_
  exact s_zret (pc := 13) C hr (by decide) hlk dX12_isRecipe_13
end SX12_isRecipe
def bsX12_isRecipe (f1 : ox_F) (b : Nat) (rc : Nat → ox_K) : ox_K := if b = 0 then bX12_isRecipe_0 f1 rc else ox_no
theorem mX12_isRecipe {dp d1 : Nat} {f1 f : ox_F} (h1 : ox_Sem yX12_in cX12_in 6 (some .boolean) d1 f1) (e1 : d1 + 1 ≤ dp) (hf : ∀ as h r, f as h = some r → ox_cs as ≤ 2 ∧ ox_le h r.2 ∧ ∃ n, ox_run (bsX12_isRecipe f1) n 0 (lv_args 0 as) [] h = some r) : ox_Sem yX12_isRecipe cX12_isRecipe 2 (some .boolean) dp f := by
  refine ox_meth (bs := bsX12_isRecipe f1) (by decide) hf ?_
  intro p l e R s m args below meth c g c0 t0 C hr hlk hnm hR rc hrc b
  unfold bsX12_isRecipe
  refine ox_br (kX12_isRecipe_0 C hr hlk hnm hR h1 e1 hrc) ?_
  exact s_no
theorem dX12_temperBy_0 : decode cX12_temperBy 0 = .ok (.aload_n 0, 1) := by decide +kernel
theorem dX12_temperBy_1 : decode cX12_temperBy 1 = .ok (.iload_n 2, 1) := by decide +kernel
theorem dX12_temperBy_2 : decode cX12_temperBy 2 = .ok (.putfield 209, 3) := by decide +kernel
theorem dX12_temperBy_5 : decode cX12_temperBy 5 = .ok (.aload_n 0, 1) := by decide +kernel
theorem dX12_temperBy_6 : decode cX12_temperBy 6 = .ok (.iload_n 3, 1) := by decide +kernel
theorem dX12_temperBy_7 : decode cX12_temperBy 7 = .ok (.putfield 212, 3) := by decide +kernel
theorem dX12_temperBy_10 : decode cX12_temperBy 10 = .ok (.bipush 6, 2) := by decide +kernel
theorem dX12_temperBy_12 : decode cX12_temperBy 12 = .ok (.iload_n 1, 1) := by decide +kernel
theorem dX12_temperBy_13 : decode cX12_temperBy 13 = .ok (.imul, 1) := by decide +kernel
theorem dX12_temperBy_14 : decode cX12_temperBy 14 = .ok (.istore 4, 2) := by decide +kernel
theorem dX12_temperBy_16 : decode cX12_temperBy 16 = .ok (.iload 4, 2) := by decide +kernel
theorem dX12_temperBy_18 : decode cX12_temperBy 18 = .ok (.bipush 6, 2) := by decide +kernel
theorem dX12_temperBy_20 : decode cX12_temperBy 20 = .ok (.iload_n 1, 1) := by decide +kernel
theorem dX12_temperBy_21 : decode cX12_temperBy 21 = .ok (.imul, 1) := by decide +kernel
theorem dX12_temperBy_22 : decode cX12_temperBy 22 = .ok (.aload_n 0, 1) := by decide +kernel
theorem dX12_temperBy_23 : decode cX12_temperBy 23 = .ok (.getfield 25, 3) := by decide +kernel
theorem dX12_temperBy_26 : decode cX12_temperBy 26 = .ok (.iload_n 1, 1) := by decide +kernel
theorem dX12_temperBy_27 : decode cX12_temperBy 27 = .ok (.iaload, 1) := by decide +kernel
theorem dX12_temperBy_28 : decode cX12_temperBy 28 = .ok (.iadd, 1) := by decide +kernel
theorem dX12_temperBy_29 : decode cX12_temperBy 29 = .ok (.if_icmp .ge 245, 3) := by decide +kernel
theorem dX12_temperBy_32 : decode cX12_temperBy 32 = .ok (.aload_n 0, 1) := by decide +kernel
theorem dX12_temperBy_33 : decode cX12_temperBy 33 = .ok (.getfield 31, 3) := by decide +kernel
theorem dX12_temperBy_36 : decode cX12_temperBy 36 = .ok (.iload 4, 2) := by decide +kernel
theorem dX12_temperBy_38 : decode cX12_temperBy 38 = .ok (.iaload, 1) := by decide +kernel
theorem dX12_temperBy_39 : decode cX12_temperBy 39 = .ok (.ifCond .ne 43, 3) := by decide +kernel
theorem dX12_temperBy_42 : decode cX12_temperBy 42 = .ok (.aload_n 0, 1) := by decide +kernel
theorem dX12_temperBy_43 : decode cX12_temperBy 43 = .ok (.aload_n 0, 1) := by decide +kernel
theorem dX12_temperBy_44 : decode cX12_temperBy 44 = .ok (.getfield 212, 3) := by decide +kernel
theorem dX12_temperBy_47 : decode cX12_temperBy 47 = .ok (.aload_n 0, 1) := by decide +kernel
theorem dX12_temperBy_48 : decode cX12_temperBy 48 = .ok (.getfield 28, 3) := by decide +kernel
theorem dX12_temperBy_51 : decode cX12_temperBy 51 = .ok (.iload 4, 2) := by decide +kernel
theorem dX12_temperBy_53 : decode cX12_temperBy 53 = .ok (.iaload, 1) := by decide +kernel
theorem dX12_temperBy_54 : decode cX12_temperBy 54 = .ok (.iadd, 1) := by decide +kernel
theorem dX12_temperBy_55 : decode cX12_temperBy 55 = .ok (.sipush 999, 3) := by decide +kernel
theorem dX12_temperBy_58 : decode cX12_temperBy 58 = .ok (.if_icmp .le 9, 3) := by decide +kernel
theorem dX12_temperBy_61 : decode cX12_temperBy 61 = .ok (.sipush 999, 3) := by decide +kernel
theorem dX12_temperBy_64 : decode cX12_temperBy 64 = .ok (.goto 15, 3) := by decide +kernel
theorem dX12_temperBy_67 : decode cX12_temperBy 67 = .ok (.aload_n 0, 1) := by decide +kernel
theorem dX12_temperBy_68 : decode cX12_temperBy 68 = .ok (.getfield 212, 3) := by decide +kernel
theorem dX12_temperBy_71 : decode cX12_temperBy 71 = .ok (.aload_n 0, 1) := by decide +kernel
theorem dX12_temperBy_72 : decode cX12_temperBy 72 = .ok (.getfield 28, 3) := by decide +kernel
theorem dX12_temperBy_75 : decode cX12_temperBy 75 = .ok (.iload 4, 2) := by decide +kernel
theorem dX12_temperBy_77 : decode cX12_temperBy 77 = .ok (.iaload, 1) := by decide +kernel
theorem dX12_temperBy_78 : decode cX12_temperBy 78 = .ok (.iadd, 1) := by decide +kernel
theorem dX12_temperBy_79 : decode cX12_temperBy 79 = .ok (.putfield 212, 3) := by decide +kernel
theorem dX12_temperBy_82 : decode cX12_temperBy 82 = .ok (.iconst 0, 1) := by decide +kernel
theorem dX12_temperBy_83 : decode cX12_temperBy 83 = .ok (.istore 5, 2) := by decide +kernel
theorem dX12_temperBy_85 : decode cX12_temperBy 85 = .ok (.iload 5, 2) := by decide +kernel
theorem dX12_temperBy_87 : decode cX12_temperBy 87 = .ok (.aload_n 0, 1) := by decide +kernel
theorem dX12_temperBy_88 : decode cX12_temperBy 88 = .ok (.getfield 31, 3) := by decide +kernel
theorem dX12_temperBy_91 : decode cX12_temperBy 91 = .ok (.iload 4, 2) := by decide +kernel
theorem dX12_temperBy_93 : decode cX12_temperBy 93 = .ok (.iaload, 1) := by decide +kernel
theorem dX12_temperBy_94 : decode cX12_temperBy 94 = .ok (.if_icmp .ge 174, 3) := by decide +kernel
theorem dX12_temperBy_97 : decode cX12_temperBy 97 = .ok (.aload_n 0, 1) := by decide +kernel
theorem dX12_temperBy_98 : decode cX12_temperBy 98 = .ok (.dup, 1) := by decide +kernel
theorem dX12_temperBy_99 : decode cX12_temperBy 99 = .ok (.getfield 209, 3) := by decide +kernel
theorem dX12_temperBy_102 : decode cX12_temperBy 102 = .ok (.aload_n 0, 1) := by decide +kernel
theorem dX12_temperBy_103 : decode cX12_temperBy 103 = .ok (.getfield 209, 3) := by decide +kernel
theorem dX12_temperBy_106 : decode cX12_temperBy 106 = .ok (.aload_n 0, 1) := by decide +kernel
theorem dX12_temperBy_107 : decode cX12_temperBy 107 = .ok (.getfield 28, 3) := by decide +kernel
theorem dX12_temperBy_110 : decode cX12_temperBy 110 = .ok (.iload 4, 2) := by decide +kernel
theorem dX12_temperBy_112 : decode cX12_temperBy 112 = .ok (.iaload, 1) := by decide +kernel
theorem dX12_temperBy_113 : decode cX12_temperBy 113 = .ok (.if_icmp .ge 7, 3) := by decide +kernel
theorem dX12_temperBy_116 : decode cX12_temperBy 116 = .ok (.iconst 1, 1) := by decide +kernel
theorem dX12_temperBy_117 : decode cX12_temperBy 117 = .ok (.goto 22, 3) := by decide +kernel
theorem dX12_temperBy_120 : decode cX12_temperBy 120 = .ok (.aload_n 0, 1) := by decide +kernel
theorem dX12_temperBy_121 : decode cX12_temperBy 121 = .ok (.getfield 209, 3) := by decide +kernel
theorem dX12_temperBy_124 : decode cX12_temperBy 124 = .ok (.aload_n 0, 1) := by decide +kernel
theorem dX12_temperBy_125 : decode cX12_temperBy 125 = .ok (.getfield 28, 3) := by decide +kernel
theorem dX12_temperBy_128 : decode cX12_temperBy 128 = .ok (.iload 4, 2) := by decide +kernel
theorem dX12_temperBy_130 : decode cX12_temperBy 130 = .ok (.iaload, 1) := by decide +kernel
theorem dX12_temperBy_131 : decode cX12_temperBy 131 = .ok (.if_icmp .le 7, 3) := by decide +kernel
theorem dX12_temperBy_134 : decode cX12_temperBy 134 = .ok (.iconst (-1), 1) := by decide +kernel
theorem dX12_temperBy_135 : decode cX12_temperBy 135 = .ok (.goto 4, 3) := by decide +kernel
theorem dX12_temperBy_138 : decode cX12_temperBy 138 = .ok (.iconst 0, 1) := by decide +kernel
theorem dX12_temperBy_139 : decode cX12_temperBy 139 = .ok (.iadd, 1) := by decide +kernel
theorem dX12_temperBy_140 : decode cX12_temperBy 140 = .ok (.putfield 209, 3) := by decide +kernel
theorem dX12_temperBy_143 : decode cX12_temperBy 143 = .ok (.aload_n 0, 1) := by decide +kernel
theorem dX12_temperBy_144 : decode cX12_temperBy 144 = .ok (.getfield 209, 3) := by decide +kernel
theorem dX12_temperBy_147 : decode cX12_temperBy 147 = .ok (.bipush 27, 2) := by decide +kernel
theorem dX12_temperBy_149 : decode cX12_temperBy 149 = .ok (.if_icmp .ge 18, 3) := by decide +kernel
theorem dX12_temperBy_152 : decode cX12_temperBy 152 = .ok (.aload_n 0, 1) := by decide +kernel
theorem dX12_temperBy_153 : decode cX12_temperBy 153 = .ok (.getfield 212, 3) := by decide +kernel
theorem dX12_temperBy_156 : decode cX12_temperBy 156 = .ok (.bipush 20, 2) := by decide +kernel
theorem dX12_temperBy_158 : decode cX12_temperBy 158 = .ok (.imul, 1) := by decide +kernel
theorem dX12_temperBy_159 : decode cX12_temperBy 159 = .ok (.bipush 100, 2) := by decide +kernel
theorem dX12_temperBy_161 : decode cX12_temperBy 161 = .ok (.idiv, 1) := by decide +kernel
theorem dX12_temperBy_162 : decode cX12_temperBy 162 = .ok (.iconst 1, 1) := by decide +kernel
theorem dX12_temperBy_163 : decode cX12_temperBy 163 = .ok (.iadd, 1) := by decide +kernel
theorem dX12_temperBy_164 : decode cX12_temperBy 164 = .ok (.goto 50, 3) := by decide +kernel
theorem dX12_temperBy_167 : decode cX12_temperBy 167 = .ok (.aload_n 0, 1) := by decide +kernel
theorem dX12_temperBy_168 : decode cX12_temperBy 168 = .ok (.getfield 209, 3) := by decide +kernel
theorem dX12_temperBy_171 : decode cX12_temperBy 171 = .ok (.bipush 32, 2) := by decide +kernel
theorem dX12_temperBy_173 : decode cX12_temperBy 173 = .ok (.if_icmp .ge 15, 3) := by decide +kernel
theorem dX12_temperBy_176 : decode cX12_temperBy 176 = .ok (.aload_n 0, 1) := by decide +kernel
theorem dX12_temperBy_177 : decode cX12_temperBy 177 = .ok (.getfield 212, 3) := by decide +kernel
theorem dX12_temperBy_180 : decode cX12_temperBy 180 = .ok (.iconst 5, 1) := by decide +kernel
theorem dX12_temperBy_181 : decode cX12_temperBy 181 = .ok (.imul, 1) := by decide +kernel
theorem dX12_temperBy_182 : decode cX12_temperBy 182 = .ok (.bipush 100, 2) := by decide +kernel
theorem dX12_temperBy_184 : decode cX12_temperBy 184 = .ok (.idiv, 1) := by decide +kernel
theorem dX12_temperBy_185 : decode cX12_temperBy 185 = .ok (.goto 29, 3) := by decide +kernel
theorem dX12_temperBy_188 : decode cX12_temperBy 188 = .ok (.aload_n 0, 1) := by decide +kernel
theorem dX12_temperBy_189 : decode cX12_temperBy 189 = .ok (.getfield 209, 3) := by decide +kernel
theorem dX12_temperBy_192 : decode cX12_temperBy 192 = .ok (.bipush 35, 2) := by decide +kernel
theorem dX12_temperBy_194 : decode cX12_temperBy 194 = .ok (.if_icmp .ge 7, 3) := by decide +kernel
theorem dX12_temperBy_197 : decode cX12_temperBy 197 = .ok (.iconst 0, 1) := by decide +kernel
theorem dX12_temperBy_198 : decode cX12_temperBy 198 = .ok (.goto 16, 3) := by decide +kernel
theorem dX12_temperBy_201 : decode cX12_temperBy 201 = .ok (.aload_n 0, 1) := by decide +kernel
theorem dX12_temperBy_202 : decode cX12_temperBy 202 = .ok (.getfield 212, 3) := by decide +kernel
theorem dX12_temperBy_205 : decode cX12_temperBy 205 = .ok (.bipush 30, 2) := by decide +kernel
theorem dX12_temperBy_207 : decode cX12_temperBy 207 = .ok (.imul, 1) := by decide +kernel
theorem dX12_temperBy_208 : decode cX12_temperBy 208 = .ok (.bipush 100, 2) := by decide +kernel
theorem dX12_temperBy_210 : decode cX12_temperBy 210 = .ok (.idiv, 1) := by decide +kernel
theorem dX12_temperBy_211 : decode cX12_temperBy 211 = .ok (.ineg, 1) := by decide +kernel
theorem dX12_temperBy_212 : decode cX12_temperBy 212 = .ok (.iconst 1, 1) := by decide +kernel
theorem dX12_temperBy_213 : decode cX12_temperBy 213 = .ok (.isub, 1) := by decide +kernel
theorem dX12_temperBy_214 : decode cX12_temperBy 214 = .ok (.istore 6, 2) := by decide +kernel
theorem dX12_temperBy_216 : decode cX12_temperBy 216 = .ok (.aload_n 0, 1) := by decide +kernel
theorem dX12_temperBy_217 : decode cX12_temperBy 217 = .ok (.dup, 1) := by decide +kernel
theorem dX12_temperBy_218 : decode cX12_temperBy 218 = .ok (.getfield 212, 3) := by decide +kernel
theorem dX12_temperBy_221 : decode cX12_temperBy 221 = .ok (.iload 6, 2) := by decide +kernel
theorem dX12_temperBy_223 : decode cX12_temperBy 223 = .ok (.iadd, 1) := by decide +kernel
theorem dX12_temperBy_224 : decode cX12_temperBy 224 = .ok (.putfield 212, 3) := by decide +kernel
theorem dX12_temperBy_227 : decode cX12_temperBy 227 = .ok (.aload_n 0, 1) := by decide +kernel
theorem dX12_temperBy_228 : decode cX12_temperBy 228 = .ok (.aload_n 0, 1) := by decide +kernel
theorem dX12_temperBy_229 : decode cX12_temperBy 229 = .ok (.getfield 212, 3) := by decide +kernel
theorem dX12_temperBy_232 : decode cX12_temperBy 232 = .ok (.ifCond .ge 7, 3) := by decide +kernel
theorem dX12_temperBy_235 : decode cX12_temperBy 235 = .ok (.iconst 0, 1) := by decide +kernel
theorem dX12_temperBy_236 : decode cX12_temperBy 236 = .ok (.goto 23, 3) := by decide +kernel
theorem dX12_temperBy_239 : decode cX12_temperBy 239 = .ok (.aload_n 0, 1) := by decide +kernel
theorem dX12_temperBy_240 : decode cX12_temperBy 240 = .ok (.getfield 212, 3) := by decide +kernel
theorem dX12_temperBy_243 : decode cX12_temperBy 243 = .ok (.sipush 999, 3) := by decide +kernel
theorem dX12_temperBy_246 : decode cX12_temperBy 246 = .ok (.if_icmp .le 9, 3) := by decide +kernel
theorem dX12_temperBy_249 : decode cX12_temperBy 249 = .ok (.sipush 999, 3) := by decide +kernel
theorem dX12_temperBy_252 : decode cX12_temperBy 252 = .ok (.goto 7, 3) := by decide +kernel
theorem dX12_temperBy_255 : decode cX12_temperBy 255 = .ok (.aload_n 0, 1) := by decide +kernel
theorem dX12_temperBy_256 : decode cX12_temperBy 256 = .ok (.getfield 212, 3) := by decide +kernel
theorem dX12_temperBy_259 : decode cX12_temperBy 259 = .ok (.putfield 212, 3) := by decide +kernel
theorem dX12_temperBy_262 : decode cX12_temperBy 262 = .ok (.iinc 5 1, 3) := by decide +kernel
theorem dX12_temperBy_265 : decode cX12_temperBy 265 = .ok (.goto (-180), 3) := by decide +kernel
theorem dX12_temperBy_268 : decode cX12_temperBy 268 = .ok (.iinc 4 1, 3) := by decide +kernel
theorem dX12_temperBy_271 : decode cX12_temperBy 271 = .ok (.goto (-255), 3) := by decide +kernel
theorem dX12_temperBy_274 : decode cX12_temperBy 274 = .ok (.return_, 1) := by decide +kernel
def bX12_temperBy_0 (rc : Nat → ox_K) : ox_K := o_al 0 (o_il 2 (o_puti 12 23 (o_al 0 (o_il 3 (o_puti 12 24 (o_ic (6) (o_il 1 (o_imul (o_is 4 (rc 16))))))))))
def bX12_temperBy_16 (rc : Nat → ox_K) : ox_K := o_keep [0, 1, 4] (o_il 4 (o_ic (6) (o_il 1 (o_imul (o_al 0 (o_getr 12 8 (o_il 1 (o_ia (o_iadd (o_icge (rc 274) (o_al 0 (o_getr 12 10 (o_il 4 (o_ia (o_ifne (rc 82) (o_al 0 (o_al 0 (o_geti 12 24 (o_al 0 (o_getr 12 9 (o_il 4 (o_ia (o_iadd (o_ic (999) (o_icle (rc 67) (o_ic (999) (rc 79)))))))))))))))))))))))))))
def bX12_temperBy_67 (rc : Nat → ox_K) : ox_K := o_al 0 (o_geti 12 24 (o_al 0 (o_getr 12 9 (o_il 4 (o_ia (o_iadd (rc 79)))))))
def bX12_temperBy_79 (rc : Nat → ox_K) : ox_K := o_puti 12 24 (rc 82)
def bX12_temperBy_82 (rc : Nat → ox_K) : ox_K := o_ic (0) (o_is 5 (rc 85))
def bX12_temperBy_85 (rc : Nat → ox_K) : ox_K := o_keep [0, 1, 4, 5] (o_il 5 (o_al 0 (o_getr 12 10 (o_il 4 (o_ia (o_icge (rc 268) (o_al 0 (o_dup (o_geti 12 23 (o_al 0 (o_geti 12 23 (o_al 0 (o_getr 12 9 (o_il 4 (o_ia (o_icge (rc 120) (o_ic (1) (rc 139))))))))))))))))))
def bX12_temperBy_120 (rc : Nat → ox_K) : ox_K := o_al 0 (o_geti 12 23 (o_al 0 (o_getr 12 9 (o_il 4 (o_ia (o_icle (rc 138) (o_ic (-1) (rc 139))))))))
def bX12_temperBy_138 (rc : Nat → ox_K) : ox_K := o_ic (0) (rc 139)
def bX12_temperBy_139 (rc : Nat → ox_K) : ox_K := o_iadd (o_puti 12 23 (o_al 0 (o_geti 12 23 (o_ic (27) (o_icge (rc 167) (o_al 0 (o_geti 12 24 (o_ic (20) (o_imul (o_ic (100) (o_idiv (o_ic (1) (o_iadd (rc 214))))))))))))))
def bX12_temperBy_167 (rc : Nat → ox_K) : ox_K := o_al 0 (o_geti 12 23 (o_ic (32) (o_icge (rc 188) (o_al 0 (o_geti 12 24 (o_ic (5) (o_imul (o_ic (100) (o_idiv (rc 214))))))))))
def bX12_temperBy_188 (rc : Nat → ox_K) : ox_K := o_al 0 (o_geti 12 23 (o_ic (35) (o_icge (rc 201) (o_ic (0) (rc 214)))))
def bX12_temperBy_201 (rc : Nat → ox_K) : ox_K := o_al 0 (o_geti 12 24 (o_ic (30) (o_imul (o_ic (100) (o_idiv (o_ineg (o_ic (1) (o_isub (rc 214)))))))))
def bX12_temperBy_214 (rc : Nat → ox_K) : ox_K := o_is 6 (o_al 0 (o_dup (o_geti 12 24 (o_il 6 (o_iadd (o_puti 12 24 (o_al 0 (o_al 0 (o_geti 12 24 (o_ifge (rc 239) (o_ic (0) (rc 259))))))))))))
def bX12_temperBy_239 (rc : Nat → ox_K) : ox_K := o_al 0 (o_geti 12 24 (o_ic (999) (o_icle (rc 255) (o_ic (999) (rc 259)))))
def bX12_temperBy_255 (rc : Nat → ox_K) : ox_K := o_al 0 (o_geti 12 24 (rc 259))
def bX12_temperBy_259 (rc : Nat → ox_K) : ox_K := o_puti 12 24 (o_inc 5 (1) (rc 85))
def bX12_temperBy_268 (rc : Nat → ox_K) : ox_K := o_inc 4 (1) (rc 16)
def bX12_temperBy_274 (rc : Nat → ox_K) : ox_K := o_ret
section SX12_temperBy
variable {p : Program} {l : Launch} {e : Env} {R : Room} {s : State} {m : MethodId} {args : Array Value} {below : List Frame} {meth : Method} {c : Code} {g : ox_G} {c0 t0 dp  : Nat} {rc : Nat → ox_K}
set_option maxRecDepth 100000 in
theorem kX12_temperBy_0 (C : ox_C p s m args c g 7 cX12_temperBy RX12) (hr : meth.sig.returnType = none) (hlk : meth.locks = false) (hnm : meth.name = "temperBy") (hR : R.frames = dp ∧ R.locals = 60 * dp) (hrc : ∀ b, ox_S p l e R s m args below meth c g 7 c0 t0 (ox_QM g below args s c0 t0) b (rc b)) : ox_S p l e R s m args below meth c g 7 c0 t0 (ox_QM g below args s c0 t0) 0 (bX12_temperBy_0 rc) := by
  refine s_aload_n (pc := 0) C dX12_temperBy_0 rfl ?_
  refine s_iload_n (pc := 1) C dX12_temperBy_1 rfl ?_
  refine s_puti (pc := 2) (j := 23) (q := (RX12, TX12, 59)) C rfl (by decide) rfl (Or.inl rfl) wF_X12_209 dX12_temperBy_2 ?_
  refine s_aload_n (pc := 5) C dX12_temperBy_5 rfl ?_
  refine s_iload_n (pc := 6) C dX12_temperBy_6 rfl ?_
  refine s_puti (pc := 7) (j := 24) (q := (RX12, TX12, 59)) C rfl (by decide) rfl (Or.inl rfl) wF_X12_212 dX12_temperBy_7 ?_
  refine s_bipush (pc := 10) C dX12_temperBy_10 (by decide) ?_
  refine s_iload_n (pc := 12) C dX12_temperBy_12 rfl ?_
  refine s_imul (pc := 13) C dX12_temperBy_13 ?_
  refine s_istore (pc := 14) C dX12_temperBy_14 (by decide) ?_
  exact hrc 16
set_option maxRecDepth 100000 in
theorem kX12_temperBy_16 (C : ox_C p s m args c g 7 cX12_temperBy RX12) (hr : meth.sig.returnType = none) (hlk : meth.locks = false) (hnm : meth.name = "temperBy") (hR : R.frames = dp ∧ R.locals = 60 * dp) (hrc : ∀ b, ox_S p l e R s m args below meth c g 7 c0 t0 (ox_QM g below args s c0 t0) b (rc b)) : ox_S p l e R s m args below meth c g 7 c0 t0 (ox_QM g below args s c0 t0) 16 (bX12_temperBy_16 rc) := by
  refine s_keep ?_
  refine s_iload (pc := 16) C dX12_temperBy_16 ?_
  refine s_bipush (pc := 18) C dX12_temperBy_18 (by decide) ?_
  refine s_iload_n (pc := 20) C dX12_temperBy_20 rfl ?_
  refine s_imul (pc := 21) C dX12_temperBy_21 ?_
  refine s_aload_n (pc := 22) C dX12_temperBy_22 rfl ?_
  refine s_getr (pc := 23) (j := 8) (q := (RX12, TX12, 59)) C rfl (by decide) rfl wF_X12_25 dX12_temperBy_23 ?_
  refine s_iload_n (pc := 26) C dX12_temperBy_26 rfl ?_
  refine s_ia (pc := 27) C dX12_temperBy_27 ?_
  refine s_iadd (pc := 28) C dX12_temperBy_28 ?_
  refine s_icmpge (pc := 29) 274 C dX12_temperBy_29 (by decide) (hrc 274) ?_
  refine s_aload_n (pc := 32) C dX12_temperBy_32 rfl ?_
  refine s_getr (pc := 33) (j := 10) (q := (RX12, TX12, 59)) C rfl (by decide) rfl wF_X12_31 dX12_temperBy_33 ?_
  refine s_iload (pc := 36) C dX12_temperBy_36 ?_
  refine s_ia (pc := 38) C dX12_temperBy_38 ?_
  refine s_ifne (pc := 39) 82 C dX12_temperBy_39 (by decide) (hrc 82) ?_
  refine s_aload_n (pc := 42) C dX12_temperBy_42 rfl ?_
  refine s_aload_n (pc := 43) C dX12_temperBy_43 rfl ?_
  refine s_geti (pc := 44) (j := 24) (q := (RX12, TX12, 59)) C rfl (by decide) rfl wF_X12_212 dX12_temperBy_44 ?_
  refine s_aload_n (pc := 47) C dX12_temperBy_47 rfl ?_
  refine s_getr (pc := 48) (j := 9) (q := (RX12, TX12, 59)) C rfl (by decide) rfl wF_X12_28 dX12_temperBy_48 ?_
  refine s_iload (pc := 51) C dX12_temperBy_51 ?_
  refine s_ia (pc := 53) C dX12_temperBy_53 ?_
  refine s_iadd (pc := 54) C dX12_temperBy_54 ?_
  refine s_sipush (pc := 55) C dX12_temperBy_55 (by decide) ?_
  refine s_icmple (pc := 58) 67 C dX12_temperBy_58 (by decide) (hrc 67) ?_
  refine s_sipush (pc := 61) C dX12_temperBy_61 (by decide) ?_
  exact s_goto (pc := 64) 79 C dX12_temperBy_64 (by decide) (hrc 79)
set_option maxRecDepth 100000 in
theorem kX12_temperBy_67 (C : ox_C p s m args c g 7 cX12_temperBy RX12) (hr : meth.sig.returnType = none) (hlk : meth.locks = false) (hnm : meth.name = "temperBy") (hR : R.frames = dp ∧ R.locals = 60 * dp) (hrc : ∀ b, ox_S p l e R s m args below meth c g 7 c0 t0 (ox_QM g below args s c0 t0) b (rc b)) : ox_S p l e R s m args below meth c g 7 c0 t0 (ox_QM g below args s c0 t0) 67 (bX12_temperBy_67 rc) := by
  refine s_aload_n (pc := 67) C dX12_temperBy_67 rfl ?_
  refine s_geti (pc := 68) (j := 24) (q := (RX12, TX12, 59)) C rfl (by decide) rfl wF_X12_212 dX12_temperBy_68 ?_
  refine s_aload_n (pc := 71) C dX12_temperBy_71 rfl ?_
  refine s_getr (pc := 72) (j := 9) (q := (RX12, TX12, 59)) C rfl (by decide) rfl wF_X12_28 dX12_temperBy_72 ?_
  refine s_iload (pc := 75) C dX12_temperBy_75 ?_
  refine s_ia (pc := 77) C dX12_temperBy_77 ?_
  refine s_iadd (pc := 78) C dX12_temperBy_78 ?_
  exact hrc 79
set_option maxRecDepth 100000 in
theorem kX12_temperBy_79 (C : ox_C p s m args c g 7 cX12_temperBy RX12) (hr : meth.sig.returnType = none) (hlk : meth.locks = false) (hnm : meth.name = "temperBy") (hR : R.frames = dp ∧ R.locals = 60 * dp) (hrc : ∀ b, ox_S p l e R s m args below meth c g 7 c0 t0 (ox_QM g below args s c0 t0) b (rc b)) : ox_S p l e R s m args below meth c g 7 c0 t0 (ox_QM g below args s c0 t0) 79 (bX12_temperBy_79 rc) := by
  refine s_puti (pc := 79) (j := 24) (q := (RX12, TX12, 59)) C rfl (by decide) rfl (Or.inl rfl) wF_X12_212 dX12_temperBy_79 ?_
  exact hrc 82
set_option maxRecDepth 100000 in
theorem kX12_temperBy_82 (C : ox_C p s m args c g 7 cX12_temperBy RX12) (hr : meth.sig.returnType = none) (hlk : meth.locks = false) (hnm : meth.name = "temperBy") (hR : R.frames = dp ∧ R.locals = 60 * dp) (hrc : ∀ b, ox_S p l e R s m args below meth c g 7 c0 t0 (ox_QM g below args s c0 t0) b (rc b)) : ox_S p l e R s m args below meth c g 7 c0 t0 (ox_QM g below args s c0 t0) 82 (bX12_temperBy_82 rc) := by
  refine s_iconst (pc := 82) C dX12_temperBy_82 (by decide) ?_
  refine s_istore (pc := 83) C dX12_temperBy_83 (by decide) ?_
  exact hrc 85
set_option maxRecDepth 100000 in
theorem kX12_temperBy_85 (C : ox_C p s m args c g 7 cX12_temperBy RX12) (hr : meth.sig.returnType = none) (hlk : meth.locks = false) (hnm : meth.name = "temperBy") (hR : R.frames = dp ∧ R.locals = 60 * dp) (hrc : ∀ b, ox_S p l e R s m args below meth c g 7 c0 t0 (ox_QM g below args s c0 t0) b (rc b)) : ox_S p l e R s m args below meth c g 7 c0 t0 (ox_QM g below args s c0 t0) 85 (bX12_temperBy_85 rc) := by
  refine s_keep ?_
  refine s_iload (pc := 85) C dX12_temperBy_85 ?_
  refine s_aload_n (pc := 87) C dX12_temperBy_87 rfl ?_
  refine s_getr (pc := 88) (j := 10) (q := (RX12, TX12, 59)) C rfl (by decide) rfl wF_X12_31 dX12_temperBy_88 ?_
  refine s_iload (pc := 91) C dX12_temperBy_91 ?_
  refine s_ia (pc := 93) C dX12_temperBy_93 ?_
  refine s_icmpge (pc := 94) 268 C dX12_temperBy_94 (by decide) (hrc 268) ?_
  refine s_aload_n (pc := 97) C dX12_temperBy_97 rfl ?_
  refine s_dup (pc := 98) C dX12_temperBy_98 ?_
  refine s_geti (pc := 99) (j := 23) (q := (RX12, TX12, 59)) C rfl (by decide) rfl wF_X12_209 dX12_temperBy_99 ?_
  refine s_aload_n (pc := 102) C dX12_temperBy_102 rfl ?_
  refine s_geti (pc := 103) (j := 23) (q := (RX12, TX12, 59)) C rfl (by decide) rfl wF_X12_209 dX12_temperBy_103 ?_
  refine s_aload_n (pc := 106) C dX12_temperBy_106 rfl ?_
  refine s_getr (pc := 107) (j := 9) (q := (RX12, TX12, 59)) C rfl (by decide) rfl wF_X12_28 dX12_temperBy_107 ?_
  refine s_iload (pc := 110) C dX12_temperBy_110 ?_
  refine s_ia (pc := 112) C dX12_temperBy_112 ?_
  refine s_icmpge (pc := 113) 120 C dX12_temperBy_113 (by decide) (hrc 120) ?_
  refine s_iconst (pc := 116) C dX12_temperBy_116 (by decide) ?_
  exact s_goto (pc := 117) 139 C dX12_temperBy_117 (by decide) (hrc 139)
set_option maxRecDepth 100000 in
theorem kX12_temperBy_120 (C : ox_C p s m args c g 7 cX12_temperBy RX12) (hr : meth.sig.returnType = none) (hlk : meth.locks = false) (hnm : meth.name = "temperBy") (hR : R.frames = dp ∧ R.locals = 60 * dp) (hrc : ∀ b, ox_S p l e R s m args below meth c g 7 c0 t0 (ox_QM g below args s c0 t0) b (rc b)) : ox_S p l e R s m args below meth c g 7 c0 t0 (ox_QM g below args s c0 t0) 120 (bX12_temperBy_120 rc) := by
  refine s_aload_n (pc := 120) C dX12_temperBy_120 rfl ?_
  refine s_geti (pc := 121) (j := 23) (q := (RX12, TX12, 59)) C rfl (by decide) rfl wF_X12_209 dX12_temperBy_121 ?_
  refine s_aload_n (pc := 124) C dX12_temperBy_124 rfl ?_
  refine s_getr (pc := 125) (j := 9) (q := (RX12, TX12, 59)) C rfl (by decide) rfl wF_X12_28 dX12_temperBy_125 ?_
  refine s_iload (pc := 128) C dX12_temperBy_128 ?_
  refine s_ia (pc := 130) C dX12_temperBy_130 ?_
  refine s_icmple (pc := 131) 138 C dX12_temperBy_131 (by decide) (hrc 138) ?_
  refine s_iconst (pc := 134) C dX12_temperBy_134 (by decide) ?_
  exact s_goto (pc := 135) 139 C dX12_temperBy_135 (by decide) (hrc 139)
set_option maxRecDepth 100000 in
theorem kX12_temperBy_138 (C : ox_C p s m args c g 7 cX12_temperBy RX12) (hr : meth.sig.returnType = none) (hlk : meth.locks = false) (hnm : meth.name = "temperBy") (hR : R.frames = dp ∧ R.locals = 60 * dp) (hrc : ∀ b, ox_S p l e R s m args below meth c g 7 c0 t0 (ox_QM g below args s c0 t0) b (rc b)) : ox_S p l e R s m args below meth c g 7 c0 t0 (ox_QM g below args s c0 t0) 138 (bX12_temperBy_138 rc) := by
  refine s_iconst (pc := 138) C dX12_temperBy_138 (by decide) ?_
  exact hrc 139
set_option maxRecDepth 100000 in
theorem kX12_temperBy_139 (C : ox_C p s m args c g 7 cX12_temperBy RX12) (hr : meth.sig.returnType = none) (hlk : meth.locks = false) (hnm : meth.name = "temperBy") (hR : R.frames = dp ∧ R.locals = 60 * dp) (hrc : ∀ b, ox_S p l e R s m args below meth c g 7 c0 t0 (ox_QM g below args s c0 t0) b (rc b)) : ox_S p l e R s m args below meth c g 7 c0 t0 (ox_QM g below args s c0 t0) 139 (bX12_temperBy_139 rc) := by
  refine s_iadd (pc := 139) C dX12_temperBy_139 ?_
  refine s_puti (pc := 140) (j := 23) (q := (RX12, TX12, 59)) C rfl (by decide) rfl (Or.inl rfl) wF_X12_209 dX12_temperBy_140 ?_
  refine s_aload_n (pc := 143) C dX12_temperBy_143 rfl ?_
  refine s_geti (pc := 144) (j := 23) (q := (RX12, TX12, 59)) C rfl (by decide) rfl wF_X12_209 dX12_temperBy_144 ?_
  refine s_bipush (pc := 147) C dX12_temperBy_147 (by decide) ?_
  refine s_icmpge (pc := 149) 167 C dX12_temperBy_149 (by decide) (hrc 167) ?_
  refine s_aload_n (pc := 152) C dX12_temperBy_152 rfl ?_
  refine s_geti (pc := 153) (j := 24) (q := (RX12, TX12, 59)) C rfl (by decide) rfl wF_X12_212 dX12_temperBy_153 ?_
  refine s_bipush (pc := 156) C dX12_temperBy_156 (by decide) ?_
  refine s_imul (pc := 158) C dX12_temperBy_158 ?_
  refine s_bipush (pc := 159) C dX12_temperBy_159 (by decide) ?_
  refine s_idiv (pc := 161) C dX12_temperBy_161 ?_
  refine s_iconst (pc := 162) C dX12_temperBy_162 (by decide) ?_
  refine s_iadd (pc := 163) C dX12_temperBy_163 ?_
  exact s_goto (pc := 164) 214 C dX12_temperBy_164 (by decide) (hrc 214)
set_option maxRecDepth 100000 in
theorem kX12_temperBy_167 (C : ox_C p s m args c g 7 cX12_temperBy RX12) (hr : meth.sig.returnType = none) (hlk : meth.locks = false) (hnm : meth.name = "temperBy") (hR : R.frames = dp ∧ R.locals = 60 * dp) (hrc : ∀ b, ox_S p l e R s m args below meth c g 7 c0 t0 (ox_QM g below args s c0 t0) b (rc b)) : ox_S p l e R s m args below meth c g 7 c0 t0 (ox_QM g below args s c0 t0) 167 (bX12_temperBy_167 rc) := by
  refine s_aload_n (pc := 167) C dX12_temperBy_167 rfl ?_
  refine s_geti (pc := 168) (j := 23) (q := (RX12, TX12, 59)) C rfl (by decide) rfl wF_X12_209 dX12_temperBy_168 ?_
  refine s_bipush (pc := 171) C dX12_temperBy_171 (by decide) ?_
  refine s_icmpge (pc := 173) 188 C dX12_temperBy_173 (by decide) (hrc 188) ?_
  refine s_aload_n (pc := 176) C dX12_temperBy_176 rfl ?_
  refine s_geti (pc := 177) (j := 24) (q := (RX12, TX12, 59)) C rfl (by decide) rfl wF_X12_212 dX12_temperBy_177 ?_
  refine s_iconst (pc := 180) C dX12_temperBy_180 (by decide) ?_
  refine s_imul (pc := 181) C dX12_temperBy_181 ?_
  refine s_bipush (pc := 182) C dX12_temperBy_182 (by decide) ?_
  refine s_idiv (pc := 184) C dX12_temperBy_184 ?_
  exact s_goto (pc := 185) 214 C dX12_temperBy_185 (by decide) (hrc 214)
set_option maxRecDepth 100000 in
theorem kX12_temperBy_188 (C : ox_C p s m args c g 7 cX12_temperBy RX12) (hr : meth.sig.returnType = none) (hlk : meth.locks = false) (hnm : meth.name = "temperBy") (hR : R.frames = dp ∧ R.locals = 60 * dp) (hrc : ∀ b, ox_S p l e R s m args below meth c g 7 c0 t0 (ox_QM g below args s c0 t0) b (rc b)) : ox_S p l e R s m args below meth c g 7 c0 t0 (ox_QM g below args s c0 t0) 188 (bX12_temperBy_188 rc) := by
  refine s_aload_n (pc := 188) C dX12_temperBy_188 rfl ?_
  refine s_geti (pc := 189) (j := 23) (q := (RX12, TX12, 59)) C rfl (by decide) rfl wF_X12_209 dX12_temperBy_189 ?_
  refine s_bipush (pc := 192) C dX12_temperBy_192 (by decide) ?_
  refine s_icmpge (pc := 194) 201 C dX12_temperBy_194 (by decide) (hrc 201) ?_
  refine s_iconst (pc := 197) C dX12_temperBy_197 (by decide) ?_
  exact s_goto (pc := 198) 214 C dX12_temperBy_198 (by decide) (hrc 214)
set_option maxRecDepth 100000 in
theorem kX12_temperBy_201 (C : ox_C p s m args c g 7 cX12_temperBy RX12) (hr : meth.sig.returnType = none) (hlk : meth.locks = false) (hnm : meth.name = "temperBy") (hR : R.frames = dp ∧ R.locals = 60 * dp) (hrc : ∀ b, ox_S p l e R s m args below meth c g 7 c0 t0 (ox_QM g below args s c0 t0) b (rc b)) : ox_S p l e R s m args below meth c g 7 c0 t0 (ox_QM g below args s c0 t0) 201 (bX12_temperBy_201 rc) := by
  refine s_aload_n (pc := 201) C dX12_temperBy_201 rfl ?_
  refine s_geti (pc := 202) (j := 24) (q := (RX12, TX12, 59)) C rfl (by decide) rfl wF_X12_212 dX12_temperBy_202 ?_
  refine s_bipush (pc := 205) C dX12_temperBy_205 (by decide) ?_
  refine s_imul (pc := 207) C dX12_temperBy_207 ?_
  refine s_bipush (pc := 208) C dX12_temperBy_208 (by decide) ?_
  refine s_idiv (pc := 210) C dX12_temperBy_210 ?_
  refine s_ineg (pc := 211) C dX12_temperBy_211 ?_
  refine s_iconst (pc := 212) C dX12_temperBy_212 (by decide) ?_
  refine s_isub (pc := 213) C dX12_temperBy_213 ?_
  exact hrc 214
set_option maxRecDepth 100000 in
theorem kX12_temperBy_214 (C : ox_C p s m args c g 7 cX12_temperBy RX12) (hr : meth.sig.returnType = none) (hlk : meth.locks = false) (hnm : meth.name = "temperBy") (hR : R.frames = dp ∧ R.locals = 60 * dp) (hrc : ∀ b, ox_S p l e R s m args below meth c g 7 c0 t0 (ox_QM g below args s c0 t0) b (rc b)) : ox_S p l e R s m args below meth c g 7 c0 t0 (ox_QM g below args s c0 t0) 214 (bX12_temperBy_214 rc) := by
  refine s_istore (pc := 214) C dX12_temperBy_214 (by decide) ?_
  refine s_aload_n (pc := 216) C dX12_temperBy_216 rfl ?_
  refine s_dup (pc := 217) C dX12_temperBy_217 ?_
  refine s_geti (pc := 218) (j := 24) (q := (RX12, TX12, 59)) C rfl (by decide) rfl wF_X12_212 dX12_temperBy_218 ?_
  refine s_iload (pc := 221) C dX12_temperBy_221 ?_
  refine s_iadd (pc := 223) C dX12_temperBy_223 ?_
  refine s_puti (pc := 224) (j := 24) (q := (RX12, TX12, 59)) C rfl (by decide) rfl (Or.inl rfl) wF_X12_212 dX12_temperBy_224 ?_
  refine s_aload_n (pc := 227) C dX12_temperBy_227 rfl ?_
  refine s_aload_n (pc := 228) C dX12_temperBy_228 rfl ?_
  refine s_geti (pc := 229) (j := 24) (q := (RX12, TX12, 59)) C rfl (by decide) rfl wF_X12_212 dX12_temperBy_229 ?_
  refine s_ifge (pc := 232) 239 C dX12_temperBy_232 (by decide) (hrc 239) ?_
  refine s_iconst (pc := 235) C dX12_temperBy_235 (by decide) ?_
  exact s_goto (pc := 236) 259 C dX12_temperBy_236 (by decide) (hrc 259)
set_option maxRecDepth 100000 in
theorem kX12_temperBy_239 (C : ox_C p s m args c g 7 cX12_temperBy RX12) (hr : meth.sig.returnType = none) (hlk : meth.locks = false) (hnm : meth.name = "temperBy") (hR : R.frames = dp ∧ R.locals = 60 * dp) (hrc : ∀ b, ox_S p l e R s m args below meth c g 7 c0 t0 (ox_QM g below args s c0 t0) b (rc b)) : ox_S p l e R s m args below meth c g 7 c0 t0 (ox_QM g below args s c0 t0) 239 (bX12_temperBy_239 rc) := by
  refine s_aload_n (pc := 239) C dX12_temperBy_239 rfl ?_
  refine s_geti (pc := 240) (j := 24) (q := (RX12, TX12, 59)) C rfl (by decide) rfl wF_X12_212 dX12_temperBy_240 ?_
  refine s_sipush (pc := 243) C dX12_temperBy_243 (by decide) ?_
  refine s_icmple (pc := 246) 255 C dX12_temperBy_246 (by decide) (hrc 255) ?_
  refine s_sipush (pc := 249) C dX12_temperBy_249 (by decide) ?_
  exact s_goto (pc := 252) 259 C dX12_temperBy_252 (by decide) (hrc 259)
set_option maxRecDepth 100000 in
theorem kX12_temperBy_255 (C : ox_C p s m args c g 7 cX12_temperBy RX12) (hr : meth.sig.returnType = none) (hlk : meth.locks = false) (hnm : meth.name = "temperBy") (hR : R.frames = dp ∧ R.locals = 60 * dp) (hrc : ∀ b, ox_S p l e R s m args below meth c g 7 c0 t0 (ox_QM g below args s c0 t0) b (rc b)) : ox_S p l e R s m args below meth c g 7 c0 t0 (ox_QM g below args s c0 t0) 255 (bX12_temperBy_255 rc) := by
  refine s_aload_n (pc := 255) C dX12_temperBy_255 rfl ?_
  refine s_geti (pc := 256) (j := 24) (q := (RX12, TX12, 59)) C rfl (by decide) rfl wF_X12_212 dX12_temperBy_256 ?_
  exact hrc 259
set_option maxRecDepth 100000 in
theorem kX12_temperBy_259 (C : ox_C p s m args c g 7 cX12_temperBy RX12) (hr : meth.sig.returnType = none) (hlk : meth.locks = false) (hnm : meth.name = "temperBy") (hR : R.frames = dp ∧ R.locals = 60 * dp) (hrc : ∀ b, ox_S p l e R s m args below meth c g 7 c0 t0 (ox_QM g below args s c0 t0) b (rc b)) : ox_S p l e R s m args below meth c g 7 c0 t0 (ox_QM g below args s c0 t0) 259 (bX12_temperBy_259 rc) := by
  refine s_puti (pc := 259) (j := 24) (q := (RX12, TX12, 59)) C rfl (by decide) rfl (Or.inl rfl) wF_X12_212 dX12_temperBy_259 ?_
  refine s_iinc (pc := 262) C dX12_temperBy_262 (by decide) (by decide) ?_
  exact s_goto (pc := 265) 85 C dX12_temperBy_265 (by decide) (hrc 85)
set_option maxRecDepth 100000 in
theorem kX12_temperBy_268 (C : ox_C p s m args c g 7 cX12_temperBy RX12) (hr : meth.sig.returnType = none) (hlk : meth.locks = false) (hnm : meth.name = "temperBy") (hR : R.frames = dp ∧ R.locals = 60 * dp) (hrc : ∀ b, ox_S p l e R s m args below meth c g 7 c0 t0 (ox_QM g below args s c0 t0) b (rc b)) : ox_S p l e R s m args below meth c g 7 c0 t0 (ox_QM g below args s c0 t0) 268 (bX12_temperBy_268 rc) := by
  refine s_iinc (pc := 268) C dX12_temperBy_268 (by decide) (by decide) ?_
  exact s_goto (pc := 271) 16 C dX12_temperBy_271 (by decide) (hrc 16)
set_option maxRecDepth 100000 in
theorem kX12_temperBy_274 (C : ox_C p s m args c g 7 cX12_temperBy RX12) (hr : meth.sig.returnType = none) (hlk : meth.locks = false) (hnm : meth.name = "temperBy") (hR : R.frames = dp ∧ R.locals = 60 * dp) (hrc : ∀ b, ox_S p l e R s m args below meth c g 7 c0 t0 (ox_QM g below args s c0 t0) b (rc b)) : ox_S p l e R s m args below meth c g 7 c0 t0 (ox_QM g below args s c0 t0) 274 (bX12_temperBy_274 rc) := by
  exact s_ret (pc := 274) C hr hlk dX12_temperBy_274
end SX12_temperBy
def bsX12_temperBy (b : Nat) (rc : Nat → ox_K) : ox_K := if b = 0 then bX12_temperBy_0 rc else if b = 16 then bX12_temperBy_16 rc else if b = 67 then bX12_temperBy_67 rc else if b = 79 then bX12_temperBy_79 rc else if b = 82 then bX12_temperBy_82 rc else if b = 85 then bX12_temperBy_85 rc else if b = 120 then bX12_temperBy_120 rc else if b = 138 then bX12_temperBy_138 rc else if b = 139 then bX12_temperBy_139 rc else if b = 167 then bX12_temperBy_167 rc else if b = 188 then bX12_temperBy_188 rc else if b = 201 then bX12_temperBy_201 rc else if b = 214 then bX12_temperBy_214 rc else if b = 239 then bX12_temperBy_239 rc else if b = 255 then bX12_temperBy_255 rc else if b = 259 then bX12_temperBy_259 rc else if b = 268 then bX12_temperBy_268 rc else if b = 274 then bX12_temperBy_274 rc else ox_no
theorem mX12_temperBy {dp  : Nat} {f : ox_F} (hf : ∀ as h r, f as h = some r → ox_cs as ≤ 7 ∧ ox_le h r.2 ∧ ∃ n, ox_run (bsX12_temperBy) n 0 (lv_args 0 as) [] h = some r) : ox_Sem yX12_temperBy cX12_temperBy 7 none dp f := by
  refine ox_meth (bs := bsX12_temperBy) (by decide) hf ?_
  intro p l e R s m args below meth c g c0 t0 C hr hlk hnm hR rc hrc b
  unfold bsX12_temperBy
  refine ox_br (kX12_temperBy_0 C hr hlk hnm hR hrc) ?_
  refine ox_br (kX12_temperBy_16 C hr hlk hnm hR hrc) ?_
  refine ox_br (kX12_temperBy_67 C hr hlk hnm hR hrc) ?_
  refine ox_br (kX12_temperBy_79 C hr hlk hnm hR hrc) ?_
  refine ox_br (kX12_temperBy_82 C hr hlk hnm hR hrc) ?_
  refine ox_br (kX12_temperBy_85 C hr hlk hnm hR hrc) ?_
  refine ox_br (kX12_temperBy_120 C hr hlk hnm hR hrc) ?_
  refine ox_br (kX12_temperBy_138 C hr hlk hnm hR hrc) ?_
  refine ox_br (kX12_temperBy_139 C hr hlk hnm hR hrc) ?_
  refine ox_br (kX12_temperBy_167 C hr hlk hnm hR hrc) ?_
  refine ox_br (kX12_temperBy_188 C hr hlk hnm hR hrc) ?_
  refine ox_br (kX12_temperBy_201 C hr hlk hnm hR hrc) ?_
  refine ox_br (kX12_temperBy_214 C hr hlk hnm hR hrc) ?_
  refine ox_br (kX12_temperBy_239 C hr hlk hnm hR hrc) ?_
  refine ox_br (kX12_temperBy_255 C hr hlk hnm hR hrc) ?_
  refine ox_br (kX12_temperBy_259 C hr hlk hnm hR hrc) ?_
  refine ox_br (kX12_temperBy_268 C hr hlk hnm hR hrc) ?_
  refine ox_br (kX12_temperBy_274 C hr hlk hnm hR hrc) ?_
  exact s_no
theorem dX12_stateOf_0 : decode cX12_stateOf 0 = .ok (.iload_n 1, 1) := by decide +kernel
theorem dX12_stateOf_1 : decode cX12_stateOf 1 = .ok (.bipush 10, 2) := by decide +kernel
theorem dX12_stateOf_3 : decode cX12_stateOf 3 = .ok (.if_icmp .ge 7, 3) := by decide +kernel
theorem dX12_stateOf_6 : decode cX12_stateOf 6 = .ok (.iconst 0, 1) := by decide +kernel
theorem dX12_stateOf_7 : decode cX12_stateOf 7 = .ok (.goto 28, 3) := by decide +kernel
theorem dX12_stateOf_10 : decode cX12_stateOf 10 = .ok (.iload_n 1, 1) := by decide +kernel
theorem dX12_stateOf_11 : decode cX12_stateOf 11 = .ok (.bipush 60, 2) := by decide +kernel
theorem dX12_stateOf_13 : decode cX12_stateOf 13 = .ok (.if_icmp .gt 21, 3) := by decide +kernel
theorem dX12_stateOf_16 : decode cX12_stateOf 16 = .ok (.iload_n 0, 1) := by decide +kernel
theorem dX12_stateOf_17 : decode cX12_stateOf 17 = .ok (.i2l, 1) := by decide +kernel
theorem dX12_stateOf_18 : decode cX12_stateOf 18 = .ok (.ldc2_w 215, 3) := by decide +kernel
theorem dX12_stateOf_21 : decode cX12_stateOf 21 = .ok (.ldc2_w 217, 3) := by decide +kernel
theorem dX12_stateOf_24 : decode cX12_stateOf 24 = .ok (.invokestatic 117, 3) := by decide +kernel
theorem dX12_stateOf_27 : decode cX12_stateOf 27 = .ok (.ifCond .eq 7, 3) := by decide +kernel
theorem dX12_stateOf_30 : decode cX12_stateOf 30 = .ok (.iconst 1, 1) := by decide +kernel
theorem dX12_stateOf_31 : decode cX12_stateOf 31 = .ok (.goto 4, 3) := by decide +kernel
theorem dX12_stateOf_34 : decode cX12_stateOf 34 = .ok (.iconst 2, 1) := by decide +kernel
theorem dX12_stateOf_35 : decode cX12_stateOf 35 = .ok (.ireturn, 1) := by decide +kernel
def bX12_stateOf_0 (f1 : ox_F) (rc : Nat → ox_K) : ox_K := o_il 1 (o_ic (10) (o_icge (rc 10) (o_ic (0) (rc 35))))
def bX12_stateOf_10 (f1 : ox_F) (rc : Nat → ox_K) : ox_K := o_il 1 (o_ic (60) (o_icgt (rc 34) (o_il 0 (o_i2l (o_lc (28) (o_lc (33) (o_ct f1 3 (o_ifeq (rc 34) (o_ic (1) (rc 35))))))))))
def bX12_stateOf_34 (f1 : ox_F) (rc : Nat → ox_K) : ox_K := o_ic (2) (rc 35)
def bX12_stateOf_35 (f1 : ox_F) (rc : Nat → ox_K) : ox_K := o_iret
section SX12_stateOf
variable {p : Program} {l : Launch} {e : Env} {R : Room} {s : State} {m : MethodId} {args : Array Value} {below : List Frame} {meth : Method} {c : Code} {g : ox_G} {c0 t0 dp d1 : Nat} {rc : Nat → ox_K} {f1 : ox_F}
set_option maxRecDepth 100000 in
theorem kX12_stateOf_0 (C : ox_C p s m args c g 2 cX12_stateOf RX12) (hr : meth.sig.returnType = (some .int)) (hlk : meth.locks = false) (hnm : meth.name = "stateOf") (hR : R.frames = dp ∧ R.locals = 60 * dp) (h1 : ox_Sem yX12_in cX12_in 6 (some .boolean) d1 f1) (e1 : d1 + 1 ≤ dp) (hrc : ∀ b, ox_S p l e R s m args below meth c g 2 c0 t0 (ox_QM g below args s c0 t0) b (rc b)) : ox_S p l e R s m args below meth c g 2 c0 t0 (ox_QM g below args s c0 t0) 0 (bX12_stateOf_0 f1 rc) := by
  refine s_iload_n (pc := 0) C dX12_stateOf_0 rfl ?_
  refine s_bipush (pc := 1) C dX12_stateOf_1 (by decide) ?_
  refine s_icmpge (pc := 3) 10 C dX12_stateOf_3 (by decide) (hrc 10) ?_
  refine s_iconst (pc := 6) C dX12_stateOf_6 (by decide) ?_
  exact s_goto (pc := 7) 35 C dX12_stateOf_7 (by decide) (hrc 35)
set_option maxRecDepth 100000 in
theorem kX12_stateOf_10 (C : ox_C p s m args c g 2 cX12_stateOf RX12) (hr : meth.sig.returnType = (some .int)) (hlk : meth.locks = false) (hnm : meth.name = "stateOf") (hR : R.frames = dp ∧ R.locals = 60 * dp) (h1 : ox_Sem yX12_in cX12_in 6 (some .boolean) d1 f1) (e1 : d1 + 1 ≤ dp) (hrc : ∀ b, ox_S p l e R s m args below meth c g 2 c0 t0 (ox_QM g below args s c0 t0) b (rc b)) : ox_S p l e R s m args below meth c g 2 c0 t0 (ox_QM g below args s c0 t0) 10 (bX12_stateOf_10 f1 rc) := by
  refine s_iload_n (pc := 10) C dX12_stateOf_10 rfl ?_
  refine s_bipush (pc := 11) C dX12_stateOf_11 (by decide) ?_
  refine s_icmpgt (pc := 13) 34 C dX12_stateOf_13 (by decide) (hrc 34) ?_
  refine s_iload_n (pc := 16) C dX12_stateOf_16 rfl ?_
  refine s_i2l (pc := 17) C dX12_stateOf_17 ?_
  refine s_ldc2 (pc := 18) C wL_X12_215 dX12_stateOf_18 ?_
  refine s_ldc2 (pc := 21) C wL_X12_217 dX12_stateOf_21 ?_
  refine s_ct (pc := 24) C h1 wM_X12_117 wT_X12_in wN_X12 wC_X12_in (by decide +kernel) (ox_lv hR e1 (by decide)) dX12_stateOf_24 ?_
  refine s_ifeq (pc := 27) 34 C dX12_stateOf_27 (by decide) (hrc 34) ?_
  refine s_iconst (pc := 30) C dX12_stateOf_30 (by decide) ?_
  exact s_goto (pc := 31) 35 C dX12_stateOf_31 (by decide) (hrc 35)
set_option maxRecDepth 100000 in
theorem kX12_stateOf_34 (C : ox_C p s m args c g 2 cX12_stateOf RX12) (hr : meth.sig.returnType = (some .int)) (hlk : meth.locks = false) (hnm : meth.name = "stateOf") (hR : R.frames = dp ∧ R.locals = 60 * dp) (h1 : ox_Sem yX12_in cX12_in 6 (some .boolean) d1 f1) (e1 : d1 + 1 ≤ dp) (hrc : ∀ b, ox_S p l e R s m args below meth c g 2 c0 t0 (ox_QM g below args s c0 t0) b (rc b)) : ox_S p l e R s m args below meth c g 2 c0 t0 (ox_QM g below args s c0 t0) 34 (bX12_stateOf_34 f1 rc) := by
  refine s_iconst (pc := 34) C dX12_stateOf_34 (by decide) ?_
  exact hrc 35
set_option maxRecDepth 100000 in
theorem kX12_stateOf_35 (C : ox_C p s m args c g 2 cX12_stateOf RX12) (hr : meth.sig.returnType = (some .int)) (hlk : meth.locks = false) (hnm : meth.name = "stateOf") (hR : R.frames = dp ∧ R.locals = 60 * dp) (h1 : ox_Sem yX12_in cX12_in 6 (some .boolean) d1 f1) (e1 : d1 + 1 ≤ dp) (hrc : ∀ b, ox_S p l e R s m args below meth c g 2 c0 t0 (ox_QM g below args s c0 t0) b (rc b)) : ox_S p l e R s m args below meth c g 2 c0 t0 (ox_QM g below args s c0 t0) 35 (bX12_stateOf_35 f1 rc) := by
  exact s_iret (pc := 35) C hr hlk dX12_stateOf_35
end SX12_stateOf
def bsX12_stateOf (f1 : ox_F) (b : Nat) (rc : Nat → ox_K) : ox_K := if b = 0 then bX12_stateOf_0 f1 rc else if b = 10 then bX12_stateOf_10 f1 rc else if b = 34 then bX12_stateOf_34 f1 rc else if b = 35 then bX12_stateOf_35 f1 rc else ox_no
theorem mX12_stateOf {dp d1 : Nat} {f1 f : ox_F} (h1 : ox_Sem yX12_in cX12_in 6 (some .boolean) d1 f1) (e1 : d1 + 1 ≤ dp) (hf : ∀ as h r, f as h = some r → ox_cs as ≤ 2 ∧ ox_le h r.2 ∧ ∃ n, ox_run (bsX12_stateOf f1) n 0 (lv_args 0 as) [] h = some r) : ox_Sem yX12_stateOf cX12_stateOf 2 (some .int) dp f := by
  refine ox_meth (bs := bsX12_stateOf f1) (by decide) hf ?_
  intro p l e R s m args below meth c g c0 t0 C hr hlk hnm hR rc hrc b
  unfold bsX12_stateOf
  refine ox_br (kX12_stateOf_0 C hr hlk hnm hR h1 e1 hrc) ?_
  refine ox_br (kX12_stateOf_10 C hr hlk hnm hR h1 e1 hrc) ?_
  refine ox_br (kX12_stateOf_34 C hr hlk hnm hR h1 e1 hrc) ?_
  refine ox_br (kX12_stateOf_35 C hr hlk hnm hR h1 e1 hrc) ?_
  exact s_no
theorem dX12_temper_0 : decode cX12_temper 0 = .ok (.aload_n 0, 1) := by decide +kernel
theorem dX12_temper_1 : decode cX12_temper 1 = .ok (.iconst 0, 1) := by decide +kernel
theorem dX12_temper_2 : decode cX12_temper 2 = .ok (.putfield 108, 3) := by decide +kernel
theorem dX12_temper_5 : decode cX12_temper 5 = .ok (.aload_n 0, 1) := by decide +kernel
theorem dX12_temper_6 : decode cX12_temper 6 = .ok (.iload_n 1, 1) := by decide +kernel
theorem dX12_temper_7 : decode cX12_temper 7 = .ok (.invokevirtual 219, 3) := by decide +kernel
theorem dX12_temper_10 : decode cX12_temper 10 = .ok (.ifCond .eq 40, 3) := by decide +kernel
theorem dX12_temper_13 : decode cX12_temper 13 = .ok (.iload_n 2, 1) := by decide +kernel
theorem dX12_temper_14 : decode cX12_temper 14 = .ok (.i2l, 1) := by decide +kernel
theorem dX12_temper_15 : decode cX12_temper 15 = .ok (.lconst 0, 1) := by decide +kernel
theorem dX12_temper_16 : decode cX12_temper 16 = .ok (.ldc2_w 222, 3) := by decide +kernel
theorem dX12_temper_19 : decode cX12_temper 19 = .ok (.invokestatic 117, 3) := by decide +kernel
theorem dX12_temper_22 : decode cX12_temper 22 = .ok (.ifCond .eq 28, 3) := by decide +kernel
theorem dX12_temper_25 : decode cX12_temper 25 = .ok (.iload_n 3, 1) := by decide +kernel
theorem dX12_temper_26 : decode cX12_temper 26 = .ok (.i2l, 1) := by decide +kernel
theorem dX12_temper_27 : decode cX12_temper 27 = .ok (.lconst 0, 1) := by decide +kernel
theorem dX12_temper_28 : decode cX12_temper 28 = .ok (.ldc2_w 224, 3) := by decide +kernel
theorem dX12_temper_31 : decode cX12_temper 31 = .ok (.invokestatic 117, 3) := by decide +kernel
theorem dX12_temper_34 : decode cX12_temper 34 = .ok (.ifCond .eq 16, 3) := by decide +kernel
theorem dX12_temper_37 : decode cX12_temper 37 = .ok (.iload 4, 2) := by decide +kernel
theorem dX12_temper_39 : decode cX12_temper 39 = .ok (.i2l, 1) := by decide +kernel
theorem dX12_temper_40 : decode cX12_temper 40 = .ok (.lconst 0, 1) := by decide +kernel
theorem dX12_temper_41 : decode cX12_temper 41 = .ok (.ldc2_w 226, 3) := by decide +kernel
theorem dX12_temper_44 : decode cX12_temper 44 = .ok (.invokestatic 117, 3) := by decide +kernel
theorem dX12_temper_47 : decode cX12_temper 47 = .ok (.ifCond .ne 6, 3) := by decide +kernel
theorem dX12_temper_50 : decode cX12_temper 50 = .ok (.ldc 127, 2) := by decide +kernel
theorem dX12_temper_52 : decode cX12_temper 52 = .ok (.ireturn, 1) := by decide +kernel
theorem dX12_temper_53 : decode cX12_temper 53 = .ok (.aload_n 0, 1) := by decide +kernel
theorem dX12_temper_54 : decode cX12_temper 54 = .ok (.iload_n 1, 1) := by decide +kernel
theorem dX12_temper_55 : decode cX12_temper 55 = .ok (.iload_n 2, 1) := by decide +kernel
theorem dX12_temper_56 : decode cX12_temper 56 = .ok (.iload_n 3, 1) := by decide +kernel
theorem dX12_temper_57 : decode cX12_temper 57 = .ok (.invokevirtual 228, 3) := by decide +kernel
theorem dX12_temper_60 : decode cX12_temper 60 = .ok (.iload 4, 2) := by decide +kernel
theorem dX12_temper_62 : decode cX12_temper 62 = .ok (.ifCond .ne 10, 3) := by decide +kernel
theorem dX12_temper_65 : decode cX12_temper 65 = .ok (.aload_n 0, 1) := by decide +kernel
theorem dX12_temper_66 : decode cX12_temper 66 = .ok (.getfield 209, 3) := by decide +kernel
theorem dX12_temper_69 : decode cX12_temper 69 = .ok (.goto 69, 3) := by decide +kernel
theorem dX12_temper_72 : decode cX12_temper 72 = .ok (.iload 4, 2) := by decide +kernel
theorem dX12_temper_74 : decode cX12_temper 74 = .ok (.iconst 1, 1) := by decide +kernel
theorem dX12_temper_75 : decode cX12_temper 75 = .ok (.if_icmp .ne 10, 3) := by decide +kernel
theorem dX12_temper_78 : decode cX12_temper 78 = .ok (.aload_n 0, 1) := by decide +kernel
theorem dX12_temper_79 : decode cX12_temper 79 = .ok (.getfield 212, 3) := by decide +kernel
theorem dX12_temper_82 : decode cX12_temper 82 = .ok (.goto 56, 3) := by decide +kernel
theorem dX12_temper_85 : decode cX12_temper 85 = .ok (.iload 4, 2) := by decide +kernel
theorem dX12_temper_87 : decode cX12_temper 87 = .ok (.iconst 2, 1) := by decide +kernel
theorem dX12_temper_88 : decode cX12_temper 88 = .ok (.if_icmp .ne 17, 3) := by decide +kernel
theorem dX12_temper_91 : decode cX12_temper 91 = .ok (.aload_n 0, 1) := by decide +kernel
theorem dX12_temper_92 : decode cX12_temper 92 = .ok (.getfield 209, 3) := by decide +kernel
theorem dX12_temper_95 : decode cX12_temper 95 = .ok (.aload_n 0, 1) := by decide +kernel
theorem dX12_temper_96 : decode cX12_temper 96 = .ok (.getfield 212, 3) := by decide +kernel
theorem dX12_temper_99 : decode cX12_temper 99 = .ok (.invokestatic 232, 3) := by decide +kernel
theorem dX12_temper_102 : decode cX12_temper 102 = .ok (.goto 36, 3) := by decide +kernel
theorem dX12_temper_105 : decode cX12_temper 105 = .ok (.bipush 100, 2) := by decide +kernel
theorem dX12_temper_107 : decode cX12_temper 107 = .ok (.iconst 3, 1) := by decide +kernel
theorem dX12_temper_108 : decode cX12_temper 108 = .ok (.aload_n 0, 1) := by decide +kernel
theorem dX12_temper_109 : decode cX12_temper 109 = .ok (.getfield 212, 3) := by decide +kernel
theorem dX12_temper_112 : decode cX12_temper 112 = .ok (.imul, 1) := by decide +kernel
theorem dX12_temper_113 : decode cX12_temper 113 = .ok (.iadd, 1) := by decide +kernel
theorem dX12_temper_114 : decode cX12_temper 114 = .ok (.aload_n 0, 1) := by decide +kernel
theorem dX12_temper_115 : decode cX12_temper 115 = .ok (.getfield 209, 3) := by decide +kernel
theorem dX12_temper_118 : decode cX12_temper 118 = .ok (.bipush 34, 2) := by decide +kernel
theorem dX12_temper_120 : decode cX12_temper 120 = .ok (.if_icmp .ge 16, 3) := by decide +kernel
theorem dX12_temper_123 : decode cX12_temper 123 = .ok (.bipush 10, 2) := by decide +kernel
theorem dX12_temper_125 : decode cX12_temper 125 = .ok (.bipush 34, 2) := by decide +kernel
theorem dX12_temper_127 : decode cX12_temper 127 = .ok (.aload_n 0, 1) := by decide +kernel
theorem dX12_temper_128 : decode cX12_temper 128 = .ok (.getfield 209, 3) := by decide +kernel
theorem dX12_temper_131 : decode cX12_temper 131 = .ok (.isub, 1) := by decide +kernel
theorem dX12_temper_132 : decode cX12_temper 132 = .ok (.imul, 1) := by decide +kernel
theorem dX12_temper_133 : decode cX12_temper 133 = .ok (.goto 4, 3) := by decide +kernel
theorem dX12_temper_136 : decode cX12_temper 136 = .ok (.iconst 0, 1) := by decide +kernel
theorem dX12_temper_137 : decode cX12_temper 137 = .ok (.iadd, 1) := by decide +kernel
theorem dX12_temper_138 : decode cX12_temper 138 = .ok (.ireturn, 1) := by decide +kernel
def bX12_temper_0 (f1 f2 f3 f4 : ox_F) (rc : Nat → ox_K) : ox_K := o_al 0 (o_ic (0) (o_puti 12 0 (o_al 0 (o_il 1 (o_cv f1 12 1 (o_ifeq (rc 50) (o_il 2 (o_i2l (o_lc (0) (o_lc (60) (o_ct f2 3 (o_ifeq (rc 50) (o_il 3 (o_i2l (o_lc (0) (o_lc (999) (o_ct f2 3 (o_ifeq (rc 50) (o_il 4 (o_i2l (o_lc (0) (o_lc (3) (o_ct f2 3 (o_ifne (rc 53) (rc 50)))))))))))))))))))))))))
def bX12_temper_50 (f1 f2 f3 f4 : ox_F) (rc : Nat → ox_K) : ox_K := o_ic (-1000001) (o_iret)
def bX12_temper_53 (f1 f2 f3 f4 : ox_F) (rc : Nat → ox_K) : ox_K := o_al 0 (o_il 1 (o_il 2 (o_il 3 (o_cv f3 12 3 (o_il 4 (o_ifne (rc 72) (o_al 0 (o_geti 12 23 (rc 138)))))))))
def bX12_temper_72 (f1 f2 f3 f4 : ox_F) (rc : Nat → ox_K) : ox_K := o_il 4 (o_ic (1) (o_icne (rc 85) (o_al 0 (o_geti 12 24 (rc 138)))))
def bX12_temper_85 (f1 f2 f3 f4 : ox_F) (rc : Nat → ox_K) : ox_K := o_il 4 (o_ic (2) (o_icne (rc 105) (o_al 0 (o_geti 12 23 (o_al 0 (o_geti 12 24 (o_ct f4 2 (rc 138))))))))
def bX12_temper_105 (f1 f2 f3 f4 : ox_F) (rc : Nat → ox_K) : ox_K := o_ic (100) (o_ic (3) (o_al 0 (o_geti 12 24 (o_imul (o_iadd (o_al 0 (o_geti 12 23 (o_ic (34) (o_icge (rc 136) (o_ic (10) (o_ic (34) (o_al 0 (o_geti 12 23 (o_isub (o_imul (rc 137))))))))))))))))
def bX12_temper_136 (f1 f2 f3 f4 : ox_F) (rc : Nat → ox_K) : ox_K := o_ic (0) (rc 137)
def bX12_temper_137 (f1 f2 f3 f4 : ox_F) (rc : Nat → ox_K) : ox_K := o_iadd (rc 138)
def bX12_temper_138 (f1 f2 f3 f4 : ox_F) (rc : Nat → ox_K) : ox_K := o_iret
section SX12_temper
variable {p : Program} {l : Launch} {e : Env} {R : Room} {s : State} {m : MethodId} {args : Array Value} {below : List Frame} {meth : Method} {c : Code} {g : ox_G} {c0 t0 dp d1 d2 d3 d4 : Nat} {rc : Nat → ox_K} {f1 f2 f3 f4 : ox_F}
set_option maxRecDepth 100000 in
theorem kX12_temper_0 (C : ox_C p s m args c g 5 cX12_temper RX12) (hr : meth.sig.returnType = (some .int)) (hlk : meth.locks = false) (hnm : meth.name = "temper") (hR : R.frames = dp ∧ R.locals = 60 * dp) (h1 : ox_Sem yX12_isRecipe cX12_isRecipe 2 (some .boolean) d1 f1) (e1 : d1 + 1 ≤ dp) (h2 : ox_Sem yX12_in cX12_in 6 (some .boolean) d2 f2) (e2 : d2 + 1 ≤ dp) (h3 : ox_Sem yX12_temperBy cX12_temperBy 7 none d3 f3) (e3 : d3 + 1 ≤ dp) (h4 : ox_Sem yX12_stateOf cX12_stateOf 2 (some .int) d4 f4) (e4 : d4 + 1 ≤ dp) (hrc : ∀ b, ox_S p l e R s m args below meth c g 5 c0 t0 (ox_QM g below args s c0 t0) b (rc b)) : ox_S p l e R s m args below meth c g 5 c0 t0 (ox_QM g below args s c0 t0) 0 (bX12_temper_0 f1 f2 f3 f4 rc) := by
  refine s_aload_n (pc := 0) C dX12_temper_0 rfl ?_
  refine s_iconst (pc := 1) C dX12_temper_1 (by decide) ?_
  refine s_puti (pc := 2) (j := 0) (q := (RX12, TX12, 59)) C rfl (by decide) rfl (Or.inl rfl) wF_X12_108 dX12_temper_2 ?_
  refine s_aload_n (pc := 5) C dX12_temper_5 rfl ?_
  refine s_iload_n (pc := 6) C dX12_temper_6 rfl ?_
  refine s_cv (pc := 7) (q := (RX12, TX12, 59)) C h1 rfl wM_X12_219 wI_X12_isRecipe wS_X12_isRecipe wN_X12 wC_X12_isRecipe (by decide +kernel) (ox_lv hR e1 (by decide)) dX12_temper_7 ?_
  refine s_ifeq (pc := 10) 50 C dX12_temper_10 (by decide) (hrc 50) ?_
  refine s_iload_n (pc := 13) C dX12_temper_13 rfl ?_
  refine s_i2l (pc := 14) C dX12_temper_14 ?_
  refine s_lconst (pc := 15) C dX12_temper_15 (by decide) ?_
  refine s_ldc2 (pc := 16) C wL_X12_222 dX12_temper_16 ?_
  refine s_ct (pc := 19) C h2 wM_X12_117 wT_X12_in wN_X12 wC_X12_in (by decide +kernel) (ox_lv hR e2 (by decide)) dX12_temper_19 ?_
  refine s_ifeq (pc := 22) 50 C dX12_temper_22 (by decide) (hrc 50) ?_
  refine s_iload_n (pc := 25) C dX12_temper_25 rfl ?_
  refine s_i2l (pc := 26) C dX12_temper_26 ?_
  refine s_lconst (pc := 27) C dX12_temper_27 (by decide) ?_
  refine s_ldc2 (pc := 28) C wL_X12_224 dX12_temper_28 ?_
  refine s_ct (pc := 31) C h2 wM_X12_117 wT_X12_in wN_X12 wC_X12_in (by decide +kernel) (ox_lv hR e2 (by decide)) dX12_temper_31 ?_
  refine s_ifeq (pc := 34) 50 C dX12_temper_34 (by decide) (hrc 50) ?_
  refine s_iload (pc := 37) C dX12_temper_37 ?_
  refine s_i2l (pc := 39) C dX12_temper_39 ?_
  refine s_lconst (pc := 40) C dX12_temper_40 (by decide) ?_
  refine s_ldc2 (pc := 41) C wL_X12_226 dX12_temper_41 ?_
  refine s_ct (pc := 44) C h2 wM_X12_117 wT_X12_in wN_X12 wC_X12_in (by decide +kernel) (ox_lv hR e2 (by decide)) dX12_temper_44 ?_
  refine s_ifne (pc := 47) 53 C dX12_temper_47 (by decide) (hrc 53) ?_
  exact hrc 50
set_option maxRecDepth 100000 in
theorem kX12_temper_50 (C : ox_C p s m args c g 5 cX12_temper RX12) (hr : meth.sig.returnType = (some .int)) (hlk : meth.locks = false) (hnm : meth.name = "temper") (hR : R.frames = dp ∧ R.locals = 60 * dp) (h1 : ox_Sem yX12_isRecipe cX12_isRecipe 2 (some .boolean) d1 f1) (e1 : d1 + 1 ≤ dp) (h2 : ox_Sem yX12_in cX12_in 6 (some .boolean) d2 f2) (e2 : d2 + 1 ≤ dp) (h3 : ox_Sem yX12_temperBy cX12_temperBy 7 none d3 f3) (e3 : d3 + 1 ≤ dp) (h4 : ox_Sem yX12_stateOf cX12_stateOf 2 (some .int) d4 f4) (e4 : d4 + 1 ≤ dp) (hrc : ∀ b, ox_S p l e R s m args below meth c g 5 c0 t0 (ox_QM g below args s c0 t0) b (rc b)) : ox_S p l e R s m args below meth c g 5 c0 t0 (ox_QM g below args s c0 t0) 50 (bX12_temper_50 f1 f2 f3 f4 rc) := by
  refine s_ldc (pc := 50) C wK_X12_127 dX12_temper_50 ?_
  exact s_iret (pc := 52) C hr hlk dX12_temper_52
set_option maxRecDepth 100000 in
theorem kX12_temper_53 (C : ox_C p s m args c g 5 cX12_temper RX12) (hr : meth.sig.returnType = (some .int)) (hlk : meth.locks = false) (hnm : meth.name = "temper") (hR : R.frames = dp ∧ R.locals = 60 * dp) (h1 : ox_Sem yX12_isRecipe cX12_isRecipe 2 (some .boolean) d1 f1) (e1 : d1 + 1 ≤ dp) (h2 : ox_Sem yX12_in cX12_in 6 (some .boolean) d2 f2) (e2 : d2 + 1 ≤ dp) (h3 : ox_Sem yX12_temperBy cX12_temperBy 7 none d3 f3) (e3 : d3 + 1 ≤ dp) (h4 : ox_Sem yX12_stateOf cX12_stateOf 2 (some .int) d4 f4) (e4 : d4 + 1 ≤ dp) (hrc : ∀ b, ox_S p l e R s m args below meth c g 5 c0 t0 (ox_QM g below args s c0 t0) b (rc b)) : ox_S p l e R s m args below meth c g 5 c0 t0 (ox_QM g below args s c0 t0) 53 (bX12_temper_53 f1 f2 f3 f4 rc) := by
  refine s_aload_n (pc := 53) C dX12_temper_53 rfl ?_
  refine s_iload_n (pc := 54) C dX12_temper_54 rfl ?_
  refine s_iload_n (pc := 55) C dX12_temper_55 rfl ?_
  refine s_iload_n (pc := 56) C dX12_temper_56 rfl ?_
  refine s_cv (pc := 57) (q := (RX12, TX12, 59)) C h3 rfl wM_X12_228 wI_X12_temperBy wS_X12_temperBy wN_X12 wC_X12_temperBy (by decide +kernel) (ox_lv hR e3 (by decide)) dX12_temper_57 ?_
  refine s_iload (pc := 60) C dX12_temper_60 ?_
  refine s_ifne (pc := 62) 72 C dX12_temper_62 (by decide) (hrc 72) ?_
  refine s_aload_n (pc := 65) C dX12_temper_65 rfl ?_
  refine s_geti (pc := 66) (j := 23) (q := (RX12, TX12, 59)) C rfl (by decide) rfl wF_X12_209 dX12_temper_66 ?_
  exact s_goto (pc := 69) 138 C dX12_temper_69 (by decide) (hrc 138)
set_option maxRecDepth 100000 in
theorem kX12_temper_72 (C : ox_C p s m args c g 5 cX12_temper RX12) (hr : meth.sig.returnType = (some .int)) (hlk : meth.locks = false) (hnm : meth.name = "temper") (hR : R.frames = dp ∧ R.locals = 60 * dp) (h1 : ox_Sem yX12_isRecipe cX12_isRecipe 2 (some .boolean) d1 f1) (e1 : d1 + 1 ≤ dp) (h2 : ox_Sem yX12_in cX12_in 6 (some .boolean) d2 f2) (e2 : d2 + 1 ≤ dp) (h3 : ox_Sem yX12_temperBy cX12_temperBy 7 none d3 f3) (e3 : d3 + 1 ≤ dp) (h4 : ox_Sem yX12_stateOf cX12_stateOf 2 (some .int) d4 f4) (e4 : d4 + 1 ≤ dp) (hrc : ∀ b, ox_S p l e R s m args below meth c g 5 c0 t0 (ox_QM g below args s c0 t0) b (rc b)) : ox_S p l e R s m args below meth c g 5 c0 t0 (ox_QM g below args s c0 t0) 72 (bX12_temper_72 f1 f2 f3 f4 rc) := by
  refine s_iload (pc := 72) C dX12_temper_72 ?_
  refine s_iconst (pc := 74) C dX12_temper_74 (by decide) ?_
  refine s_icmpne (pc := 75) 85 C dX12_temper_75 (by decide) (hrc 85) ?_
  refine s_aload_n (pc := 78) C dX12_temper_78 rfl ?_
  refine s_geti (pc := 79) (j := 24) (q := (RX12, TX12, 59)) C rfl (by decide) rfl wF_X12_212 dX12_temper_79 ?_
  exact s_goto (pc := 82) 138 C dX12_temper_82 (by decide) (hrc 138)
set_option maxRecDepth 100000 in
theorem kX12_temper_85 (C : ox_C p s m args c g 5 cX12_temper RX12) (hr : meth.sig.returnType = (some .int)) (hlk : meth.locks = false) (hnm : meth.name = "temper") (hR : R.frames = dp ∧ R.locals = 60 * dp) (h1 : ox_Sem yX12_isRecipe cX12_isRecipe 2 (some .boolean) d1 f1) (e1 : d1 + 1 ≤ dp) (h2 : ox_Sem yX12_in cX12_in 6 (some .boolean) d2 f2) (e2 : d2 + 1 ≤ dp) (h3 : ox_Sem yX12_temperBy cX12_temperBy 7 none d3 f3) (e3 : d3 + 1 ≤ dp) (h4 : ox_Sem yX12_stateOf cX12_stateOf 2 (some .int) d4 f4) (e4 : d4 + 1 ≤ dp) (hrc : ∀ b, ox_S p l e R s m args below meth c g 5 c0 t0 (ox_QM g below args s c0 t0) b (rc b)) : ox_S p l e R s m args below meth c g 5 c0 t0 (ox_QM g below args s c0 t0) 85 (bX12_temper_85 f1 f2 f3 f4 rc) := by
  refine s_iload (pc := 85) C dX12_temper_85 ?_
  refine s_iconst (pc := 87) C dX12_temper_87 (by decide) ?_
  refine s_icmpne (pc := 88) 105 C dX12_temper_88 (by decide) (hrc 105) ?_
  refine s_aload_n (pc := 91) C dX12_temper_91 rfl ?_
  refine s_geti (pc := 92) (j := 23) (q := (RX12, TX12, 59)) C rfl (by decide) rfl wF_X12_209 dX12_temper_92 ?_
  refine s_aload_n (pc := 95) C dX12_temper_95 rfl ?_
  refine s_geti (pc := 96) (j := 24) (q := (RX12, TX12, 59)) C rfl (by decide) rfl wF_X12_212 dX12_temper_96 ?_
  refine s_ct (pc := 99) C h4 wM_X12_232 wT_X12_stateOf wN_X12 wC_X12_stateOf (by decide +kernel) (ox_lv hR e4 (by decide)) dX12_temper_99 ?_
  exact s_goto (pc := 102) 138 C dX12_temper_102 (by decide) (hrc 138)
set_option maxRecDepth 100000 in
theorem kX12_temper_105 (C : ox_C p s m args c g 5 cX12_temper RX12) (hr : meth.sig.returnType = (some .int)) (hlk : meth.locks = false) (hnm : meth.name = "temper") (hR : R.frames = dp ∧ R.locals = 60 * dp) (h1 : ox_Sem yX12_isRecipe cX12_isRecipe 2 (some .boolean) d1 f1) (e1 : d1 + 1 ≤ dp) (h2 : ox_Sem yX12_in cX12_in 6 (some .boolean) d2 f2) (e2 : d2 + 1 ≤ dp) (h3 : ox_Sem yX12_temperBy cX12_temperBy 7 none d3 f3) (e3 : d3 + 1 ≤ dp) (h4 : ox_Sem yX12_stateOf cX12_stateOf 2 (some .int) d4 f4) (e4 : d4 + 1 ≤ dp) (hrc : ∀ b, ox_S p l e R s m args below meth c g 5 c0 t0 (ox_QM g below args s c0 t0) b (rc b)) : ox_S p l e R s m args below meth c g 5 c0 t0 (ox_QM g below args s c0 t0) 105 (bX12_temper_105 f1 f2 f3 f4 rc) := by
  refine s_bipush (pc := 105) C dX12_temper_105 (by decide) ?_
  refine s_iconst (pc := 107) C dX12_temper_107 (by decide) ?_
  refine s_aload_n (pc := 108) C dX12_temper_108 rfl ?_
  refine s_geti (pc := 109) (j := 24) (q := (RX12, TX12, 59)) C rfl (by decide) rfl wF_X12_212 dX12_temper_109 ?_
  refine s_imul (pc := 112) C dX12_temper_112 ?_
  refine s_iadd (pc := 113) C dX12_temper_113 ?_
  refine s_aload_n (pc := 114) C dX12_temper_114 rfl ?_
  refine s_geti (pc := 115) (j := 23) (q := (RX12, TX12, 59)) C rfl (by decide) rfl wF_X12_209 dX12_temper_115 ?_
  refine s_bipush (pc := 118) C dX12_temper_118 (by decide) ?_
  refine s_icmpge (pc := 120) 136 C dX12_temper_120 (by decide) (hrc 136) ?_
  refine s_bipush (pc := 123) C dX12_temper_123 (by decide) ?_
  refine s_bipush (pc := 125) C dX12_temper_125 (by decide) ?_
  refine s_aload_n (pc := 127) C dX12_temper_127 rfl ?_
  refine s_geti (pc := 128) (j := 23) (q := (RX12, TX12, 59)) C rfl (by decide) rfl wF_X12_209 dX12_temper_128 ?_
  refine s_isub (pc := 131) C dX12_temper_131 ?_
  refine s_imul (pc := 132) C dX12_temper_132 ?_
  exact s_goto (pc := 133) 137 C dX12_temper_133 (by decide) (hrc 137)
set_option maxRecDepth 100000 in
theorem kX12_temper_136 (C : ox_C p s m args c g 5 cX12_temper RX12) (hr : meth.sig.returnType = (some .int)) (hlk : meth.locks = false) (hnm : meth.name = "temper") (hR : R.frames = dp ∧ R.locals = 60 * dp) (h1 : ox_Sem yX12_isRecipe cX12_isRecipe 2 (some .boolean) d1 f1) (e1 : d1 + 1 ≤ dp) (h2 : ox_Sem yX12_in cX12_in 6 (some .boolean) d2 f2) (e2 : d2 + 1 ≤ dp) (h3 : ox_Sem yX12_temperBy cX12_temperBy 7 none d3 f3) (e3 : d3 + 1 ≤ dp) (h4 : ox_Sem yX12_stateOf cX12_stateOf 2 (some .int) d4 f4) (e4 : d4 + 1 ≤ dp) (hrc : ∀ b, ox_S p l e R s m args below meth c g 5 c0 t0 (ox_QM g below args s c0 t0) b (rc b)) : ox_S p l e R s m args below meth c g 5 c0 t0 (ox_QM g below args s c0 t0) 136 (bX12_temper_136 f1 f2 f3 f4 rc) := by
  refine s_iconst (pc := 136) C dX12_temper_136 (by decide) ?_
  exact hrc 137
set_option maxRecDepth 100000 in
theorem kX12_temper_137 (C : ox_C p s m args c g 5 cX12_temper RX12) (hr : meth.sig.returnType = (some .int)) (hlk : meth.locks = false) (hnm : meth.name = "temper") (hR : R.frames = dp ∧ R.locals = 60 * dp) (h1 : ox_Sem yX12_isRecipe cX12_isRecipe 2 (some .boolean) d1 f1) (e1 : d1 + 1 ≤ dp) (h2 : ox_Sem yX12_in cX12_in 6 (some .boolean) d2 f2) (e2 : d2 + 1 ≤ dp) (h3 : ox_Sem yX12_temperBy cX12_temperBy 7 none d3 f3) (e3 : d3 + 1 ≤ dp) (h4 : ox_Sem yX12_stateOf cX12_stateOf 2 (some .int) d4 f4) (e4 : d4 + 1 ≤ dp) (hrc : ∀ b, ox_S p l e R s m args below meth c g 5 c0 t0 (ox_QM g below args s c0 t0) b (rc b)) : ox_S p l e R s m args below meth c g 5 c0 t0 (ox_QM g below args s c0 t0) 137 (bX12_temper_137 f1 f2 f3 f4 rc) := by
  refine s_iadd (pc := 137) C dX12_temper_137 ?_
  exact hrc 138
set_option maxRecDepth 100000 in
theorem kX12_temper_138 (C : ox_C p s m args c g 5 cX12_temper RX12) (hr : meth.sig.returnType = (some .int)) (hlk : meth.locks = false) (hnm : meth.name = "temper") (hR : R.frames = dp ∧ R.locals = 60 * dp) (h1 : ox_Sem yX12_isRecipe cX12_isRecipe 2 (some .boolean) d1 f1) (e1 : d1 + 1 ≤ dp) (h2 : ox_Sem yX12_in cX12_in 6 (some .boolean) d2 f2) (e2 : d2 + 1 ≤ dp) (h3 : ox_Sem yX12_temperBy cX12_temperBy 7 none d3 f3) (e3 : d3 + 1 ≤ dp) (h4 : ox_Sem yX12_stateOf cX12_stateOf 2 (some .int) d4 f4) (e4 : d4 + 1 ≤ dp) (hrc : ∀ b, ox_S p l e R s m args below meth c g 5 c0 t0 (ox_QM g below args s c0 t0) b (rc b)) : ox_S p l e R s m args below meth c g 5 c0 t0 (ox_QM g below args s c0 t0) 138 (bX12_temper_138 f1 f2 f3 f4 rc) := by
  exact s_iret (pc := 138) C hr hlk dX12_temper_138
end SX12_temper
def bsX12_temper (f1 f2 f3 f4 : ox_F) (b : Nat) (rc : Nat → ox_K) : ox_K := if b = 0 then bX12_temper_0 f1 f2 f3 f4 rc else if b = 50 then bX12_temper_50 f1 f2 f3 f4 rc else if b = 53 then bX12_temper_53 f1 f2 f3 f4 rc else if b = 72 then bX12_temper_72 f1 f2 f3 f4 rc else if b = 85 then bX12_temper_85 f1 f2 f3 f4 rc else if b = 105 then bX12_temper_105 f1 f2 f3 f4 rc else if b = 136 then bX12_temper_136 f1 f2 f3 f4 rc else if b = 137 then bX12_temper_137 f1 f2 f3 f4 rc else if b = 138 then bX12_temper_138 f1 f2 f3 f4 rc else ox_no
theorem mX12_temper {dp d1 d2 d3 d4 : Nat} {f1 f2 f3 f4 f : ox_F} (h1 : ox_Sem yX12_isRecipe cX12_isRecipe 2 (some .boolean) d1 f1) (e1 : d1 + 1 ≤ dp) (h2 : ox_Sem yX12_in cX12_in 6 (some .boolean) d2 f2) (e2 : d2 + 1 ≤ dp) (h3 : ox_Sem yX12_temperBy cX12_temperBy 7 none d3 f3) (e3 : d3 + 1 ≤ dp) (h4 : ox_Sem yX12_stateOf cX12_stateOf 2 (some .int) d4 f4) (e4 : d4 + 1 ≤ dp) (hf : ∀ as h r, f as h = some r → ox_cs as ≤ 5 ∧ ox_le h r.2 ∧ ∃ n, ox_run (bsX12_temper f1 f2 f3 f4) n 0 (lv_args 0 as) [] h = some r) : ox_Sem yX12_temper cX12_temper 5 (some .int) dp f := by
  refine ox_meth (bs := bsX12_temper f1 f2 f3 f4) (by decide) hf ?_
  intro p l e R s m args below meth c g c0 t0 C hr hlk hnm hR rc hrc b
  unfold bsX12_temper
  refine ox_br (kX12_temper_0 C hr hlk hnm hR h1 e1 h2 e2 h3 e3 h4 e4 hrc) ?_
  refine ox_br (kX12_temper_50 C hr hlk hnm hR h1 e1 h2 e2 h3 e3 h4 e4 hrc) ?_
  refine ox_br (kX12_temper_53 C hr hlk hnm hR h1 e1 h2 e2 h3 e3 h4 e4 hrc) ?_
  refine ox_br (kX12_temper_72 C hr hlk hnm hR h1 e1 h2 e2 h3 e3 h4 e4 hrc) ?_
  refine ox_br (kX12_temper_85 C hr hlk hnm hR h1 e1 h2 e2 h3 e3 h4 e4 hrc) ?_
  refine ox_br (kX12_temper_105 C hr hlk hnm hR h1 e1 h2 e2 h3 e3 h4 e4 hrc) ?_
  refine ox_br (kX12_temper_136 C hr hlk hnm hR h1 e1 h2 e2 h3 e3 h4 e4 hrc) ?_
  refine ox_br (kX12_temper_137 C hr hlk hnm hR h1 e1 h2 e2 h3 e3 h4 e4 hrc) ?_
  refine ox_br (kX12_temper_138 C hr hlk hnm hR h1 e1 h2 e2 h3 e3 h4 e4 hrc) ?_
  exact s_no
theorem dX12_isTank_0 : decode cX12_isTank 0 = .ok (.iload_n 0, 1) := by decide +kernel
theorem dX12_isTank_1 : decode cX12_isTank 1 = .ok (.i2l, 1) := by decide +kernel
theorem dX12_isTank_2 : decode cX12_isTank 2 = .ok (.lconst 0, 1) := by decide +kernel
theorem dX12_isTank_3 : decode cX12_isTank 3 = .ok (.ldc2_w 226, 3) := by decide +kernel
theorem dX12_isTank_6 : decode cX12_isTank 6 = .ok (.invokestatic 117, 3) := by decide +kernel
theorem dX12_isTank_9 : decode cX12_isTank 9 = .ok (.ireturn, 1) := by decide +kernel
def bX12_isTank_0 (f1 : ox_F) (rc : Nat → ox_K) : ox_K := o_il 0 (o_i2l (o_lc (0) (o_lc (3) (o_ct f1 3 (o_zret)))))
section SX12_isTank
variable {p : Program} {l : Launch} {e : Env} {R : Room} {s : State} {m : MethodId} {args : Array Value} {below : List Frame} {meth : Method} {c : Code} {g : ox_G} {c0 t0 dp d1 : Nat} {rc : Nat → ox_K} {f1 : ox_F}
set_option maxRecDepth 100000 in
theorem kX12_isTank_0 (C : ox_C p s m args c g 1 cX12_isTank RX12) (hr : meth.sig.returnType = (some .boolean)) (hlk : meth.locks = false) (hnm : meth.name = "isTank") (hR : R.frames = dp ∧ R.locals = 60 * dp) (h1 : ox_Sem yX12_in cX12_in 6 (some .boolean) d1 f1) (e1 : d1 + 1 ≤ dp) (hrc : ∀ b, ox_S p l e R s m args below meth c g 1 c0 t0 (ox_QM g below args s c0 t0) b (rc b)) : ox_S p l e R s m args below meth c g 1 c0 t0 (ox_QM g below args s c0 t0) 0 (bX12_isTank_0 f1 rc) := by
  refine s_iload_n (pc := 0) C dX12_isTank_0 rfl ?_
  refine s_i2l (pc := 1) C dX12_isTank_1 ?_
  refine s_lconst (pc := 2) C dX12_isTank_2 (by decide) ?_
  refine s_ldc2 (pc := 3) C wL_X12_226 dX12_isTank_3 ?_
  refine s_ct (pc := 6) C h1 wM_X12_117 wT_X12_in wN_X12 wC_X12_in (by decide +kernel) (ox_lv hR e1 (by decide)) dX12_isTank_6 ?_
  exact s_zret (pc := 9) C hr (by decide) hlk dX12_isTank_9
end SX12_isTank
def bsX12_isTank (f1 : ox_F) (b : Nat) (rc : Nat → ox_K) : ox_K := if b = 0 then bX12_isTank_0 f1 rc else ox_no
theorem mX12_isTank {dp d1 : Nat} {f1 f : ox_F} (h1 : ox_Sem yX12_in cX12_in 6 (some .boolean) d1 f1) (e1 : d1 + 1 ≤ dp) (hf : ∀ as h r, f as h = some r → ox_cs as ≤ 1 ∧ ox_le h r.2 ∧ ∃ n, ox_run (bsX12_isTank f1) n 0 (lv_args 0 as) [] h = some r) : ox_Sem yX12_isTank cX12_isTank 1 (some .boolean) dp f := by
  refine ox_meth (bs := bsX12_isTank f1) (by decide) hf ?_
  intro p l e R s m args below meth c g c0 t0 C hr hlk hnm hR rc hrc b
  unfold bsX12_isTank
  refine ox_br (kX12_isTank_0 C hr hlk hnm hR h1 e1 hrc) ?_
  exact s_no
theorem dX12_fill_0 : decode cX12_fill 0 = .ok (.aload_n 0, 1) := by decide +kernel
theorem dX12_fill_1 : decode cX12_fill 1 = .ok (.iconst 0, 1) := by decide +kernel
theorem dX12_fill_2 : decode cX12_fill 2 = .ok (.putfield 108, 3) := by decide +kernel
theorem dX12_fill_5 : decode cX12_fill 5 = .ok (.iload_n 1, 1) := by decide +kernel
theorem dX12_fill_6 : decode cX12_fill 6 = .ok (.invokestatic 235, 3) := by decide +kernel
theorem dX12_fill_9 : decode cX12_fill 9 = .ok (.ifCond .eq 48, 3) := by decide +kernel
theorem dX12_fill_12 : decode cX12_fill 12 = .ok (.aload_n 0, 1) := by decide +kernel
theorem dX12_fill_13 : decode cX12_fill 13 = .ok (.iload_n 2, 1) := by decide +kernel
theorem dX12_fill_14 : decode cX12_fill 14 = .ok (.invokevirtual 219, 3) := by decide +kernel
theorem dX12_fill_17 : decode cX12_fill 17 = .ok (.ifCond .eq 40, 3) := by decide +kernel
theorem dX12_fill_20 : decode cX12_fill 20 = .ok (.iload_n 3, 1) := by decide +kernel
theorem dX12_fill_21 : decode cX12_fill 21 = .ok (.i2l, 1) := by decide +kernel
theorem dX12_fill_22 : decode cX12_fill 22 = .ok (.lconst 1, 1) := by decide +kernel
theorem dX12_fill_23 : decode cX12_fill 23 = .ok (.ldc2_w 238, 3) := by decide +kernel
theorem dX12_fill_26 : decode cX12_fill 26 = .ok (.invokestatic 117, 3) := by decide +kernel
theorem dX12_fill_29 : decode cX12_fill 29 = .ok (.ifCond .eq 28, 3) := by decide +kernel
theorem dX12_fill_32 : decode cX12_fill 32 = .ok (.iload 4, 2) := by decide +kernel
theorem dX12_fill_34 : decode cX12_fill 34 = .ok (.i2l, 1) := by decide +kernel
theorem dX12_fill_35 : decode cX12_fill 35 = .ok (.lconst 0, 1) := by decide +kernel
theorem dX12_fill_36 : decode cX12_fill 36 = .ok (.iload_n 3, 1) := by decide +kernel
theorem dX12_fill_37 : decode cX12_fill 37 = .ok (.i2l, 1) := by decide +kernel
theorem dX12_fill_38 : decode cX12_fill 38 = .ok (.invokestatic 117, 3) := by decide +kernel
theorem dX12_fill_41 : decode cX12_fill 41 = .ok (.ifCond .eq 16, 3) := by decide +kernel
theorem dX12_fill_44 : decode cX12_fill 44 = .ok (.iload 5, 2) := by decide +kernel
theorem dX12_fill_46 : decode cX12_fill 46 = .ok (.i2l, 1) := by decide +kernel
theorem dX12_fill_47 : decode cX12_fill 47 = .ok (.lconst 0, 1) := by decide +kernel
theorem dX12_fill_48 : decode cX12_fill 48 = .ok (.ldc2_w 240, 3) := by decide +kernel
theorem dX12_fill_51 : decode cX12_fill 51 = .ok (.invokestatic 117, 3) := by decide +kernel
theorem dX12_fill_54 : decode cX12_fill 54 = .ok (.ifCond .ne 6, 3) := by decide +kernel
theorem dX12_fill_57 : decode cX12_fill 57 = .ok (.ldc 127, 2) := by decide +kernel
theorem dX12_fill_59 : decode cX12_fill 59 = .ok (.ireturn, 1) := by decide +kernel
theorem dX12_fill_60 : decode cX12_fill 60 = .ok (.aload_n 0, 1) := by decide +kernel
theorem dX12_fill_61 : decode cX12_fill 61 = .ok (.getfield 40, 3) := by decide +kernel
theorem dX12_fill_64 : decode cX12_fill 64 = .ok (.iload_n 1, 1) := by decide +kernel
theorem dX12_fill_65 : decode cX12_fill 65 = .ok (.iaload, 1) := by decide +kernel
theorem dX12_fill_66 : decode cX12_fill 66 = .ok (.ifCond .ne 7, 3) := by decide +kernel
theorem dX12_fill_69 : decode cX12_fill 69 = .ok (.iconst 1, 1) := by decide +kernel
theorem dX12_fill_70 : decode cX12_fill 70 = .ok (.goto 4, 3) := by decide +kernel
theorem dX12_fill_73 : decode cX12_fill 73 = .ok (.iconst 0, 1) := by decide +kernel
theorem dX12_fill_74 : decode cX12_fill 74 = .ok (.istore 6, 2) := by decide +kernel
theorem dX12_fill_76 : decode cX12_fill 76 = .ok (.aload_n 0, 1) := by decide +kernel
theorem dX12_fill_77 : decode cX12_fill 77 = .ok (.getfield 40, 3) := by decide +kernel
theorem dX12_fill_80 : decode cX12_fill 80 = .ok (.iload_n 1, 1) := by decide +kernel
theorem dX12_fill_81 : decode cX12_fill 81 = .ok (.iaload, 1) := by decide +kernel
theorem dX12_fill_82 : decode cX12_fill 82 = .ok (.iload_n 3, 1) := by decide +kernel
theorem dX12_fill_83 : decode cX12_fill 83 = .ok (.iadd, 1) := by decide +kernel
theorem dX12_fill_84 : decode cX12_fill 84 = .ok (.istore 7, 2) := by decide +kernel
theorem dX12_fill_86 : decode cX12_fill 86 = .ok (.iload 6, 2) := by decide +kernel
theorem dX12_fill_88 : decode cX12_fill 88 = .ok (.ifCond .ne 13, 3) := by decide +kernel
theorem dX12_fill_91 : decode cX12_fill 91 = .ok (.aload_n 0, 1) := by decide +kernel
theorem dX12_fill_92 : decode cX12_fill 92 = .ok (.getfield 46, 3) := by decide +kernel
theorem dX12_fill_95 : decode cX12_fill 95 = .ok (.iload_n 1, 1) := by decide +kernel
theorem dX12_fill_96 : decode cX12_fill 96 = .ok (.iaload, 1) := by decide +kernel
theorem dX12_fill_97 : decode cX12_fill 97 = .ok (.iload_n 2, 1) := by decide +kernel
theorem dX12_fill_98 : decode cX12_fill 98 = .ok (.if_icmp .ne 45, 3) := by decide +kernel
theorem dX12_fill_101 : decode cX12_fill 101 = .ok (.aload_n 0, 1) := by decide +kernel
theorem dX12_fill_102 : decode cX12_fill 102 = .ok (.getfield 34, 3) := by decide +kernel
theorem dX12_fill_105 : decode cX12_fill 105 = .ok (.iload_n 2, 1) := by decide +kernel
theorem dX12_fill_106 : decode cX12_fill 106 = .ok (.iaload, 1) := by decide +kernel
theorem dX12_fill_107 : decode cX12_fill 107 = .ok (.iload 4, 2) := by decide +kernel
theorem dX12_fill_109 : decode cX12_fill 109 = .ok (.if_icmp .lt 34, 3) := by decide +kernel
theorem dX12_fill_112 : decode cX12_fill 112 = .ok (.aload_n 0, 1) := by decide +kernel
theorem dX12_fill_113 : decode cX12_fill 113 = .ok (.getfield 43, 3) := by decide +kernel
theorem dX12_fill_116 : decode cX12_fill 116 = .ok (.iload_n 1, 1) := by decide +kernel
theorem dX12_fill_117 : decode cX12_fill 117 = .ok (.iaload, 1) := by decide +kernel
theorem dX12_fill_118 : decode cX12_fill 118 = .ok (.iload 4, 2) := by decide +kernel
theorem dX12_fill_120 : decode cX12_fill 120 = .ok (.iadd, 1) := by decide +kernel
theorem dX12_fill_121 : decode cX12_fill 121 = .ok (.bipush 100, 2) := by decide +kernel
theorem dX12_fill_123 : decode cX12_fill 123 = .ok (.imul, 1) := by decide +kernel
theorem dX12_fill_124 : decode cX12_fill 124 = .ok (.aload_n 0, 1) := by decide +kernel
theorem dX12_fill_125 : decode cX12_fill 125 = .ok (.getfield 22, 3) := by decide +kernel
theorem dX12_fill_128 : decode cX12_fill 128 = .ok (.iload_n 2, 1) := by decide +kernel
theorem dX12_fill_129 : decode cX12_fill 129 = .ok (.iaload, 1) := by decide +kernel
theorem dX12_fill_130 : decode cX12_fill 130 = .ok (.iload 7, 2) := by decide +kernel
theorem dX12_fill_132 : decode cX12_fill 132 = .ok (.imul, 1) := by decide +kernel
theorem dX12_fill_133 : decode cX12_fill 133 = .ok (.if_icmp .gt 10, 3) := by decide +kernel
theorem dX12_fill_136 : decode cX12_fill 136 = .ok (.iload 7, 2) := by decide +kernel
theorem dX12_fill_138 : decode cX12_fill 138 = .ok (.ldc 242, 2) := by decide +kernel
theorem dX12_fill_140 : decode cX12_fill 140 = .ok (.if_icmp .le 6, 3) := by decide +kernel
theorem dX12_fill_143 : decode cX12_fill 143 = .ok (.ldc 243, 2) := by decide +kernel
theorem dX12_fill_145 : decode cX12_fill 145 = .ok (.ireturn, 1) := by decide +kernel
theorem dX12_fill_146 : decode cX12_fill 146 = .ok (.iload 6, 2) := by decide +kernel
theorem dX12_fill_148 : decode cX12_fill 148 = .ok (.ifCond .eq 32, 3) := by decide +kernel
theorem dX12_fill_151 : decode cX12_fill 151 = .ok (.aload_n 0, 1) := by decide +kernel
theorem dX12_fill_152 : decode cX12_fill 152 = .ok (.getfield 46, 3) := by decide +kernel
theorem dX12_fill_155 : decode cX12_fill 155 = .ok (.iload_n 1, 1) := by decide +kernel
theorem dX12_fill_156 : decode cX12_fill 156 = .ok (.iload_n 2, 1) := by decide +kernel
theorem dX12_fill_157 : decode cX12_fill 157 = .ok (.iastore, 1) := by decide +kernel
theorem dX12_fill_158 : decode cX12_fill 158 = .ok (.aload_n 0, 1) := by decide +kernel
theorem dX12_fill_159 : decode cX12_fill 159 = .ok (.getfield 49, 3) := by decide +kernel
theorem dX12_fill_162 : decode cX12_fill 162 = .ok (.iload_n 1, 1) := by decide +kernel
theorem dX12_fill_163 : decode cX12_fill 163 = .ok (.iconst 0, 1) := by decide +kernel
theorem dX12_fill_164 : decode cX12_fill 164 = .ok (.iastore, 1) := by decide +kernel
theorem dX12_fill_165 : decode cX12_fill 165 = .ok (.aload_n 0, 1) := by decide +kernel
theorem dX12_fill_166 : decode cX12_fill 166 = .ok (.getfield 52, 3) := by decide +kernel
theorem dX12_fill_169 : decode cX12_fill 169 = .ok (.iload_n 1, 1) := by decide +kernel
theorem dX12_fill_170 : decode cX12_fill 170 = .ok (.bipush 45, 2) := by decide +kernel
theorem dX12_fill_172 : decode cX12_fill 172 = .ok (.iastore, 1) := by decide +kernel
theorem dX12_fill_173 : decode cX12_fill 173 = .ok (.aload_n 0, 1) := by decide +kernel
theorem dX12_fill_174 : decode cX12_fill 174 = .ok (.getfield 55, 3) := by decide +kernel
theorem dX12_fill_177 : decode cX12_fill 177 = .ok (.iload_n 1, 1) := by decide +kernel
theorem dX12_fill_178 : decode cX12_fill 178 = .ok (.iconst 0, 1) := by decide +kernel
theorem dX12_fill_179 : decode cX12_fill 179 = .ok (.iastore, 1) := by decide +kernel
theorem dX12_fill_180 : decode cX12_fill 180 = .ok (.aload_n 0, 1) := by decide +kernel
theorem dX12_fill_181 : decode cX12_fill 181 = .ok (.getfield 40, 3) := by decide +kernel
theorem dX12_fill_184 : decode cX12_fill 184 = .ok (.iload_n 1, 1) := by decide +kernel
theorem dX12_fill_185 : decode cX12_fill 185 = .ok (.iload 7, 2) := by decide +kernel
theorem dX12_fill_187 : decode cX12_fill 187 = .ok (.iastore, 1) := by decide +kernel
theorem dX12_fill_188 : decode cX12_fill 188 = .ok (.aload_n 0, 1) := by decide +kernel
theorem dX12_fill_189 : decode cX12_fill 189 = .ok (.getfield 43, 3) := by decide +kernel
theorem dX12_fill_192 : decode cX12_fill 192 = .ok (.iload_n 1, 1) := by decide +kernel
theorem dX12_fill_193 : decode cX12_fill 193 = .ok (.dup2, 1) := by decide +kernel
theorem dX12_fill_194 : decode cX12_fill 194 = .ok (.iaload, 1) := by decide +kernel
theorem dX12_fill_195 : decode cX12_fill 195 = .ok (.iload 4, 2) := by decide +kernel
theorem dX12_fill_197 : decode cX12_fill 197 = .ok (.iadd, 1) := by decide +kernel
theorem dX12_fill_198 : decode cX12_fill 198 = .ok (.iastore, 1) := by decide +kernel
theorem dX12_fill_199 : decode cX12_fill 199 = .ok (.aload_n 0, 1) := by decide +kernel
theorem dX12_fill_200 : decode cX12_fill 200 = .ok (.getfield 34, 3) := by decide +kernel
theorem dX12_fill_203 : decode cX12_fill 203 = .ok (.iload_n 2, 1) := by decide +kernel
theorem dX12_fill_204 : decode cX12_fill 204 = .ok (.dup2, 1) := by decide +kernel
theorem dX12_fill_205 : decode cX12_fill 205 = .ok (.iaload, 1) := by decide +kernel
theorem dX12_fill_206 : decode cX12_fill 206 = .ok (.iload 4, 2) := by decide +kernel
theorem dX12_fill_208 : decode cX12_fill 208 = .ok (.isub, 1) := by decide +kernel
theorem dX12_fill_209 : decode cX12_fill 209 = .ok (.iastore, 1) := by decide +kernel
theorem dX12_fill_210 : decode cX12_fill 210 = .ok (.aload_n 0, 1) := by decide +kernel
theorem dX12_fill_211 : decode cX12_fill 211 = .ok (.getfield 49, 3) := by decide +kernel
theorem dX12_fill_214 : decode cX12_fill 214 = .ok (.iload_n 1, 1) := by decide +kernel
theorem dX12_fill_215 : decode cX12_fill 215 = .ok (.dup2, 1) := by decide +kernel
theorem dX12_fill_216 : decode cX12_fill 216 = .ok (.iaload, 1) := by decide +kernel
theorem dX12_fill_217 : decode cX12_fill 217 = .ok (.iconst 1, 1) := by decide +kernel
theorem dX12_fill_218 : decode cX12_fill 218 = .ok (.iload 5, 2) := by decide +kernel
theorem dX12_fill_220 : decode cX12_fill 220 = .ok (.ishl, 1) := by decide +kernel
theorem dX12_fill_221 : decode cX12_fill 221 = .ok (.ior, 1) := by decide +kernel
theorem dX12_fill_222 : decode cX12_fill 222 = .ok (.iastore, 1) := by decide +kernel
theorem dX12_fill_223 : decode cX12_fill 223 = .ok (.aload_n 0, 1) := by decide +kernel
theorem dX12_fill_224 : decode cX12_fill 224 = .ok (.dup, 1) := by decide +kernel
theorem dX12_fill_225 : decode cX12_fill 225 = .ok (.getfield 244, 3) := by decide +kernel
theorem dX12_fill_228 : decode cX12_fill 228 = .ok (.iload_n 3, 1) := by decide +kernel
theorem dX12_fill_229 : decode cX12_fill 229 = .ok (.iadd, 1) := by decide +kernel
theorem dX12_fill_230 : decode cX12_fill 230 = .ok (.putfield 244, 3) := by decide +kernel
theorem dX12_fill_233 : decode cX12_fill 233 = .ok (.iload 7, 2) := by decide +kernel
theorem dX12_fill_235 : decode cX12_fill 235 = .ok (.ireturn, 1) := by decide +kernel
def bX12_fill_0 (f1 f2 f3 : ox_F) (rc : Nat → ox_K) : ox_K := o_al 0 (o_ic (0) (o_puti 12 0 (o_il 1 (o_ct f1 1 (o_ifeq (rc 57) (o_al 0 (o_il 2 (o_cv f2 12 1 (o_ifeq (rc 57) (o_il 3 (o_i2l (o_lc (1) (o_lc (20000) (o_ct f3 3 (o_ifeq (rc 57) (o_il 4 (o_i2l (o_lc (0) (o_il 3 (o_i2l (o_ct f3 3 (o_ifeq (rc 57) (o_il 5 (o_i2l (o_lc (0) (o_lc (9) (o_ct f3 3 (o_ifne (rc 60) (rc 57)))))))))))))))))))))))))))))
def bX12_fill_57 (f1 f2 f3 : ox_F) (rc : Nat → ox_K) : ox_K := o_ic (-1000001) (o_iret)
def bX12_fill_60 (f1 f2 f3 : ox_F) (rc : Nat → ox_K) : ox_K := o_al 0 (o_getr 12 25 (o_il 1 (o_ia (o_ifne (rc 73) (o_ic (1) (rc 74))))))
def bX12_fill_73 (f1 f2 f3 : ox_F) (rc : Nat → ox_K) : ox_K := o_ic (0) (rc 74)
def bX12_fill_74 (f1 f2 f3 : ox_F) (rc : Nat → ox_K) : ox_K := o_is 6 (o_al 0 (o_getr 12 25 (o_il 1 (o_ia (o_il 3 (o_iadd (o_is 7 (o_il 6 (o_ifne (rc 101) (o_al 0 (o_getr 12 27 (o_il 1 (o_ia (o_il 2 (o_icne (rc 143) (rc 101))))))))))))))))
def bX12_fill_101 (f1 f2 f3 : ox_F) (rc : Nat → ox_K) : ox_K := o_al 0 (o_getr 12 11 (o_il 2 (o_ia (o_il 4 (o_iclt (rc 143) (o_al 0 (o_getr 12 26 (o_il 1 (o_ia (o_il 4 (o_iadd (o_ic (100) (o_imul (o_al 0 (o_getr 12 7 (o_il 2 (o_ia (o_il 7 (o_imul (o_icgt (rc 143) (o_il 7 (o_ic (99999) (o_icle (rc 146) (rc 143))))))))))))))))))))))))
def bX12_fill_143 (f1 f2 f3 : ox_F) (rc : Nat → ox_K) : ox_K := o_ic (-1000002) (o_iret)
def bX12_fill_146 (f1 f2 f3 : ox_F) (rc : Nat → ox_K) : ox_K := o_il 6 (o_ifeq (rc 180) (o_al 0 (o_getr 12 27 (o_il 1 (o_il 2 (o_iast (o_al 0 (o_getr 12 28 (o_il 1 (o_ic (0) (o_iast (o_al 0 (o_getr 12 29 (o_il 1 (o_ic (45) (o_iast (o_al 0 (o_getr 12 30 (o_il 1 (o_ic (0) (o_iast (rc 180))))))))))))))))))))))
def bX12_fill_180 (f1 f2 f3 : ox_F) (rc : Nat → ox_K) : ox_K := o_al 0 (o_getr 12 25 (o_il 1 (o_il 7 (o_iast (o_al 0 (o_getr 12 26 (o_il 1 (o_dup2 (o_ia (o_il 4 (o_iadd (o_iast (o_al 0 (o_getr 12 11 (o_il 2 (o_dup2 (o_ia (o_il 4 (o_isub (o_iast (o_al 0 (o_getr 12 28 (o_il 1 (o_dup2 (o_ia (o_ic (1) (o_il 5 (o_ishl (o_ior (o_iast (o_al 0 (o_dup (o_geti 12 31 (o_il 3 (o_iadd (o_puti 12 31 (o_il 7 (o_iret))))))))))))))))))))))))))))))))))))))
section SX12_fill
variable {p : Program} {l : Launch} {e : Env} {R : Room} {s : State} {m : MethodId} {args : Array Value} {below : List Frame} {meth : Method} {c : Code} {g : ox_G} {c0 t0 dp d1 d2 d3 : Nat} {rc : Nat → ox_K} {f1 f2 f3 : ox_F}
set_option maxRecDepth 100000 in
theorem kX12_fill_0 (C : ox_C p s m args c g 8 cX12_fill RX12) (hr : meth.sig.returnType = (some .int)) (hlk : meth.locks = false) (hnm : meth.name = "fill") (hR : R.frames = dp ∧ R.locals = 60 * dp) (h1 : ox_Sem yX12_isTank cX12_isTank 1 (some .boolean) d1 f1) (e1 : d1 + 1 ≤ dp) (h2 : ox_Sem yX12_isRecipe cX12_isRecipe 2 (some .boolean) d2 f2) (e2 : d2 + 1 ≤ dp) (h3 : ox_Sem yX12_in cX12_in 6 (some .boolean) d3 f3) (e3 : d3 + 1 ≤ dp) (hrc : ∀ b, ox_S p l e R s m args below meth c g 8 c0 t0 (ox_QM g below args s c0 t0) b (rc b)) : ox_S p l e R s m args below meth c g 8 c0 t0 (ox_QM g below args s c0 t0) 0 (bX12_fill_0 f1 f2 f3 rc) := by
  refine s_aload_n (pc := 0) C dX12_fill_0 rfl ?_
  refine s_iconst (pc := 1) C dX12_fill_1 (by decide) ?_
  refine s_puti (pc := 2) (j := 0) (q := (RX12, TX12, 59)) C rfl (by decide) rfl (Or.inl rfl) wF_X12_108 dX12_fill_2 ?_
  refine s_iload_n (pc := 5) C dX12_fill_5 rfl ?_
  refine s_ct (pc := 6) C h1 wM_X12_235 wT_X12_isTank wN_X12 wC_X12_isTank (by decide +kernel) (ox_lv hR e1 (by decide)) dX12_fill_6 ?_
  refine s_ifeq (pc := 9) 57 C dX12_fill_9 (by decide) (hrc 57) ?_
  refine s_aload_n (pc := 12) C dX12_fill_12 rfl ?_
  refine s_iload_n (pc := 13) C dX12_fill_13 rfl ?_
  refine s_cv (pc := 14) (q := (RX12, TX12, 59)) C h2 rfl wM_X12_219 wI_X12_isRecipe wS_X12_isRecipe wN_X12 wC_X12_isRecipe (by decide +kernel) (ox_lv hR e2 (by decide)) dX12_fill_14 ?_
  refine s_ifeq (pc := 17) 57 C dX12_fill_17 (by decide) (hrc 57) ?_
  refine s_iload_n (pc := 20) C dX12_fill_20 rfl ?_
  refine s_i2l (pc := 21) C dX12_fill_21 ?_
  refine s_lconst (pc := 22) C dX12_fill_22 (by decide) ?_
  refine s_ldc2 (pc := 23) C wL_X12_238 dX12_fill_23 ?_
  refine s_ct (pc := 26) C h3 wM_X12_117 wT_X12_in wN_X12 wC_X12_in (by decide +kernel) (ox_lv hR e3 (by decide)) dX12_fill_26 ?_
  refine s_ifeq (pc := 29) 57 C dX12_fill_29 (by decide) (hrc 57) ?_
  refine s_iload (pc := 32) C dX12_fill_32 ?_
  refine s_i2l (pc := 34) C dX12_fill_34 ?_
  refine s_lconst (pc := 35) C dX12_fill_35 (by decide) ?_
  refine s_iload_n (pc := 36) C dX12_fill_36 rfl ?_
  refine s_i2l (pc := 37) C dX12_fill_37 ?_
  refine s_ct (pc := 38) C h3 wM_X12_117 wT_X12_in wN_X12 wC_X12_in (by decide +kernel) (ox_lv hR e3 (by decide)) dX12_fill_38 ?_
  refine s_ifeq (pc := 41) 57 C dX12_fill_41 (by decide) (hrc 57) ?_
  refine s_iload (pc := 44) C dX12_fill_44 ?_
  refine s_i2l (pc := 46) C dX12_fill_46 ?_
  refine s_lconst (pc := 47) C dX12_fill_47 (by decide) ?_
  refine s_ldc2 (pc := 48) C wL_X12_240 dX12_fill_48 ?_
  refine s_ct (pc := 51) C h3 wM_X12_117 wT_X12_in wN_X12 wC_X12_in (by decide +kernel) (ox_lv hR e3 (by decide)) dX12_fill_51 ?_
  refine s_ifne (pc := 54) 60 C dX12_fill_54 (by decide) (hrc 60) ?_
  exact hrc 57
set_option maxRecDepth 100000 in
theorem kX12_fill_57 (C : ox_C p s m args c g 8 cX12_fill RX12) (hr : meth.sig.returnType = (some .int)) (hlk : meth.locks = false) (hnm : meth.name = "fill") (hR : R.frames = dp ∧ R.locals = 60 * dp) (h1 : ox_Sem yX12_isTank cX12_isTank 1 (some .boolean) d1 f1) (e1 : d1 + 1 ≤ dp) (h2 : ox_Sem yX12_isRecipe cX12_isRecipe 2 (some .boolean) d2 f2) (e2 : d2 + 1 ≤ dp) (h3 : ox_Sem yX12_in cX12_in 6 (some .boolean) d3 f3) (e3 : d3 + 1 ≤ dp) (hrc : ∀ b, ox_S p l e R s m args below meth c g 8 c0 t0 (ox_QM g below args s c0 t0) b (rc b)) : ox_S p l e R s m args below meth c g 8 c0 t0 (ox_QM g below args s c0 t0) 57 (bX12_fill_57 f1 f2 f3 rc) := by
  refine s_ldc (pc := 57) C wK_X12_127 dX12_fill_57 ?_
  exact s_iret (pc := 59) C hr hlk dX12_fill_59
set_option maxRecDepth 100000 in
theorem kX12_fill_60 (C : ox_C p s m args c g 8 cX12_fill RX12) (hr : meth.sig.returnType = (some .int)) (hlk : meth.locks = false) (hnm : meth.name = "fill") (hR : R.frames = dp ∧ R.locals = 60 * dp) (h1 : ox_Sem yX12_isTank cX12_isTank 1 (some .boolean) d1 f1) (e1 : d1 + 1 ≤ dp) (h2 : ox_Sem yX12_isRecipe cX12_isRecipe 2 (some .boolean) d2 f2) (e2 : d2 + 1 ≤ dp) (h3 : ox_Sem yX12_in cX12_in 6 (some .boolean) d3 f3) (e3 : d3 + 1 ≤ dp) (hrc : ∀ b, ox_S p l e R s m args below meth c g 8 c0 t0 (ox_QM g below args s c0 t0) b (rc b)) : ox_S p l e R s m args below meth c g 8 c0 t0 (ox_QM g below args s c0 t0) 60 (bX12_fill_60 f1 f2 f3 rc) := by
  refine s_aload_n (pc := 60) C dX12_fill_60 rfl ?_
  refine s_getr (pc := 61) (j := 25) (q := (RX12, TX12, 59)) C rfl (by decide) rfl wF_X12_40 dX12_fill_61 ?_
  refine s_iload_n (pc := 64) C dX12_fill_64 rfl ?_
  refine s_ia (pc := 65) C dX12_fill_65 ?_
  refine s_ifne (pc := 66) 73 C dX12_fill_66 (by decide) (hrc 73) ?_
  refine s_iconst (pc := 69) C dX12_fill_69 (by decide) ?_
  exact s_goto (pc := 70) 74 C dX12_fill_70 (by decide) (hrc 74)
set_option maxRecDepth 100000 in
theorem kX12_fill_73 (C : ox_C p s m args c g 8 cX12_fill RX12) (hr : meth.sig.returnType = (some .int)) (hlk : meth.locks = false) (hnm : meth.name = "fill") (hR : R.frames = dp ∧ R.locals = 60 * dp) (h1 : ox_Sem yX12_isTank cX12_isTank 1 (some .boolean) d1 f1) (e1 : d1 + 1 ≤ dp) (h2 : ox_Sem yX12_isRecipe cX12_isRecipe 2 (some .boolean) d2 f2) (e2 : d2 + 1 ≤ dp) (h3 : ox_Sem yX12_in cX12_in 6 (some .boolean) d3 f3) (e3 : d3 + 1 ≤ dp) (hrc : ∀ b, ox_S p l e R s m args below meth c g 8 c0 t0 (ox_QM g below args s c0 t0) b (rc b)) : ox_S p l e R s m args below meth c g 8 c0 t0 (ox_QM g below args s c0 t0) 73 (bX12_fill_73 f1 f2 f3 rc) := by
  refine s_iconst (pc := 73) C dX12_fill_73 (by decide) ?_
  exact hrc 74
set_option maxRecDepth 100000 in
theorem kX12_fill_74 (C : ox_C p s m args c g 8 cX12_fill RX12) (hr : meth.sig.returnType = (some .int)) (hlk : meth.locks = false) (hnm : meth.name = "fill") (hR : R.frames = dp ∧ R.locals = 60 * dp) (h1 : ox_Sem yX12_isTank cX12_isTank 1 (some .boolean) d1 f1) (e1 : d1 + 1 ≤ dp) (h2 : ox_Sem yX12_isRecipe cX12_isRecipe 2 (some .boolean) d2 f2) (e2 : d2 + 1 ≤ dp) (h3 : ox_Sem yX12_in cX12_in 6 (some .boolean) d3 f3) (e3 : d3 + 1 ≤ dp) (hrc : ∀ b, ox_S p l e R s m args below meth c g 8 c0 t0 (ox_QM g below args s c0 t0) b (rc b)) : ox_S p l e R s m args below meth c g 8 c0 t0 (ox_QM g below args s c0 t0) 74 (bX12_fill_74 f1 f2 f3 rc) := by
  refine s_istore (pc := 74) C dX12_fill_74 (by decide) ?_
  refine s_aload_n (pc := 76) C dX12_fill_76 rfl ?_
  refine s_getr (pc := 77) (j := 25) (q := (RX12, TX12, 59)) C rfl (by decide) rfl wF_X12_40 dX12_fill_77 ?_
  refine s_iload_n (pc := 80) C dX12_fill_80 rfl ?_
  refine s_ia (pc := 81) C dX12_fill_81 ?_
  refine s_iload_n (pc := 82) C dX12_fill_82 rfl ?_
  refine s_iadd (pc := 83) C dX12_fill_83 ?_
  refine s_istore (pc := 84) C dX12_fill_84 (by decide) ?_
  refine s_iload (pc := 86) C dX12_fill_86 ?_
  refine s_ifne (pc := 88) 101 C dX12_fill_88 (by decide) (hrc 101) ?_
  refine s_aload_n (pc := 91) C dX12_fill_91 rfl ?_
  refine s_getr (pc := 92) (j := 27) (q := (RX12, TX12, 59)) C rfl (by decide) rfl wF_X12_46 dX12_fill_92 ?_
  refine s_iload_n (pc := 95) C dX12_fill_95 rfl ?_
  refine s_ia (pc := 96) C dX12_fill_96 ?_
  refine s_iload_n (pc := 97) C dX12_fill_97 rfl ?_
  refine s_icmpne (pc := 98) 143 C dX12_fill_98 (by decide) (hrc 143) ?_
  exact hrc 101
set_option maxRecDepth 100000 in
theorem kX12_fill_101 (C : ox_C p s m args c g 8 cX12_fill RX12) (hr : meth.sig.returnType = (some .int)) (hlk : meth.locks = false) (hnm : meth.name = "fill") (hR : R.frames = dp ∧ R.locals = 60 * dp) (h1 : ox_Sem yX12_isTank cX12_isTank 1 (some .boolean) d1 f1) (e1 : d1 + 1 ≤ dp) (h2 : ox_Sem yX12_isRecipe cX12_isRecipe 2 (some .boolean) d2 f2) (e2 : d2 + 1 ≤ dp) (h3 : ox_Sem yX12_in cX12_in 6 (some .boolean) d3 f3) (e3 : d3 + 1 ≤ dp) (hrc : ∀ b, ox_S p l e R s m args below meth c g 8 c0 t0 (ox_QM g below args s c0 t0) b (rc b)) : ox_S p l e R s m args below meth c g 8 c0 t0 (ox_QM g below args s c0 t0) 101 (bX12_fill_101 f1 f2 f3 rc) := by
  refine s_aload_n (pc := 101) C dX12_fill_101 rfl ?_
  refine s_getr (pc := 102) (j := 11) (q := (RX12, TX12, 59)) C rfl (by decide) rfl wF_X12_34 dX12_fill_102 ?_
  refine s_iload_n (pc := 105) C dX12_fill_105 rfl ?_
  refine s_ia (pc := 106) C dX12_fill_106 ?_
  refine s_iload (pc := 107) C dX12_fill_107 ?_
  refine s_icmplt (pc := 109) 143 C dX12_fill_109 (by decide) (hrc 143) ?_
  refine s_aload_n (pc := 112) C dX12_fill_112 rfl ?_
  refine s_getr (pc := 113) (j := 26) (q := (RX12, TX12, 59)) C rfl (by decide) rfl wF_X12_43 dX12_fill_113 ?_
  refine s_iload_n (pc := 116) C dX12_fill_116 rfl ?_
  refine s_ia (pc := 117) C dX12_fill_117 ?_
  refine s_iload (pc := 118) C dX12_fill_118 ?_
  refine s_iadd (pc := 120) C dX12_fill_120 ?_
  refine s_bipush (pc := 121) C dX12_fill_121 (by decide) ?_
  refine s_imul (pc := 123) C dX12_fill_123 ?_
  refine s_aload_n (pc := 124) C dX12_fill_124 rfl ?_
  refine s_getr (pc := 125) (j := 7) (q := (RX12, TX12, 59)) C rfl (by decide) rfl wF_X12_22 dX12_fill_125 ?_
  refine s_iload_n (pc := 128) C dX12_fill_128 rfl ?_
  refine s_ia (pc := 129) C dX12_fill_129 ?_
  refine s_iload (pc := 130) C dX12_fill_130 ?_
  refine s_imul (pc := 132) C dX12_fill_132 ?_
  refine s_icmpgt (pc := 133) 143 C dX12_fill_133 (by decide) (hrc 143) ?_
  refine s_iload (pc := 136) C dX12_fill_136 ?_
  refine s_ldc (pc := 138) C wK_X12_242 dX12_fill_138 ?_
  refine s_icmple (pc := 140) 146 C dX12_fill_140 (by decide) (hrc 146) ?_
  exact hrc 143
set_option maxRecDepth 100000 in
theorem kX12_fill_143 (C : ox_C p s m args c g 8 cX12_fill RX12) (hr : meth.sig.returnType = (some .int)) (hlk : meth.locks = false) (hnm : meth.name = "fill") (hR : R.frames = dp ∧ R.locals = 60 * dp) (h1 : ox_Sem yX12_isTank cX12_isTank 1 (some .boolean) d1 f1) (e1 : d1 + 1 ≤ dp) (h2 : ox_Sem yX12_isRecipe cX12_isRecipe 2 (some .boolean) d2 f2) (e2 : d2 + 1 ≤ dp) (h3 : ox_Sem yX12_in cX12_in 6 (some .boolean) d3 f3) (e3 : d3 + 1 ≤ dp) (hrc : ∀ b, ox_S p l e R s m args below meth c g 8 c0 t0 (ox_QM g below args s c0 t0) b (rc b)) : ox_S p l e R s m args below meth c g 8 c0 t0 (ox_QM g below args s c0 t0) 143 (bX12_fill_143 f1 f2 f3 rc) := by
  refine s_ldc (pc := 143) C wK_X12_243 dX12_fill_143 ?_
  exact s_iret (pc := 145) C hr hlk dX12_fill_145
set_option maxRecDepth 100000 in
theorem kX12_fill_146 (C : ox_C p s m args c g 8 cX12_fill RX12) (hr : meth.sig.returnType = (some .int)) (hlk : meth.locks = false) (hnm : meth.name = "fill") (hR : R.frames = dp ∧ R.locals = 60 * dp) (h1 : ox_Sem yX12_isTank cX12_isTank 1 (some .boolean) d1 f1) (e1 : d1 + 1 ≤ dp) (h2 : ox_Sem yX12_isRecipe cX12_isRecipe 2 (some .boolean) d2 f2) (e2 : d2 + 1 ≤ dp) (h3 : ox_Sem yX12_in cX12_in 6 (some .boolean) d3 f3) (e3 : d3 + 1 ≤ dp) (hrc : ∀ b, ox_S p l e R s m args below meth c g 8 c0 t0 (ox_QM g below args s c0 t0) b (rc b)) : ox_S p l e R s m args below meth c g 8 c0 t0 (ox_QM g below args s c0 t0) 146 (bX12_fill_146 f1 f2 f3 rc) := by
  refine s_iload (pc := 146) C dX12_fill_146 ?_
  refine s_ifeq (pc := 148) 180 C dX12_fill_148 (by decide) (hrc 180) ?_
  refine s_aload_n (pc := 151) C dX12_fill_151 rfl ?_
  refine s_getr (pc := 152) (j := 27) (q := (RX12, TX12, 59)) C rfl (by decide) rfl wF_X12_46 dX12_fill_152 ?_
  refine s_iload_n (pc := 155) C dX12_fill_155 rfl ?_
  refine s_iload_n (pc := 156) C dX12_fill_156 rfl ?_
  refine s_iast (pc := 157) C dX12_fill_157 ?_
  refine s_aload_n (pc := 158) C dX12_fill_158 rfl ?_
  refine s_getr (pc := 159) (j := 28) (q := (RX12, TX12, 59)) C rfl (by decide) rfl wF_X12_49 dX12_fill_159 ?_
  refine s_iload_n (pc := 162) C dX12_fill_162 rfl ?_
  refine s_iconst (pc := 163) C dX12_fill_163 (by decide) ?_
  refine s_iast (pc := 164) C dX12_fill_164 ?_
  refine s_aload_n (pc := 165) C dX12_fill_165 rfl ?_
  refine s_getr (pc := 166) (j := 29) (q := (RX12, TX12, 59)) C rfl (by decide) rfl wF_X12_52 dX12_fill_166 ?_
  refine s_iload_n (pc := 169) C dX12_fill_169 rfl ?_
  refine s_bipush (pc := 170) C dX12_fill_170 (by decide) ?_
  refine s_iast (pc := 172) C dX12_fill_172 ?_
  refine s_aload_n (pc := 173) C dX12_fill_173 rfl ?_
  refine s_getr (pc := 174) (j := 30) (q := (RX12, TX12, 59)) C rfl (by decide) rfl wF_X12_55 dX12_fill_174 ?_
  refine s_iload_n (pc := 177) C dX12_fill_177 rfl ?_
  refine s_iconst (pc := 178) C dX12_fill_178 (by decide) ?_
  refine s_iast (pc := 179) C dX12_fill_179 ?_
  exact hrc 180
set_option maxRecDepth 100000 in
theorem kX12_fill_180 (C : ox_C p s m args c g 8 cX12_fill RX12) (hr : meth.sig.returnType = (some .int)) (hlk : meth.locks = false) (hnm : meth.name = "fill") (hR : R.frames = dp ∧ R.locals = 60 * dp) (h1 : ox_Sem yX12_isTank cX12_isTank 1 (some .boolean) d1 f1) (e1 : d1 + 1 ≤ dp) (h2 : ox_Sem yX12_isRecipe cX12_isRecipe 2 (some .boolean) d2 f2) (e2 : d2 + 1 ≤ dp) (h3 : ox_Sem yX12_in cX12_in 6 (some .boolean) d3 f3) (e3 : d3 + 1 ≤ dp) (hrc : ∀ b, ox_S p l e R s m args below meth c g 8 c0 t0 (ox_QM g below args s c0 t0) b (rc b)) : ox_S p l e R s m args below meth c g 8 c0 t0 (ox_QM g below args s c0 t0) 180 (bX12_fill_180 f1 f2 f3 rc) := by
  refine s_aload_n (pc := 180) C dX12_fill_180 rfl ?_
  refine s_getr (pc := 181) (j := 25) (q := (RX12, TX12, 59)) C rfl (by decide) rfl wF_X12_40 dX12_fill_181 ?_
  refine s_iload_n (pc := 184) C dX12_fill_184 rfl ?_
  refine s_iload (pc := 185) C dX12_fill_185 ?_
  refine s_iast (pc := 187) C dX12_fill_187 ?_
  refine s_aload_n (pc := 188) C dX12_fill_188 rfl ?_
  refine s_getr (pc := 189) (j := 26) (q := (RX12, TX12, 59)) C rfl (by decide) rfl wF_X12_43 dX12_fill_189 ?_
  refine s_iload_n (pc := 192) C dX12_fill_192 rfl ?_
  refine s_dup2 (pc := 193) C dX12_fill_193 ?_
  refine s_ia (pc := 194) C dX12_fill_194 ?_
  refine s_iload (pc := 195) C dX12_fill_195 ?_
  refine s_iadd (pc := 197) C dX12_fill_197 ?_
  refine s_iast (pc := 198) C dX12_fill_198 ?_
  refine s_aload_n (pc := 199) C dX12_fill_199 rfl ?_
  refine s_getr (pc := 200) (j := 11) (q := (RX12, TX12, 59)) C rfl (by decide) rfl wF_X12_34 dX12_fill_200 ?_
  refine s_iload_n (pc := 203) C dX12_fill_203 rfl ?_
  refine s_dup2 (pc := 204) C dX12_fill_204 ?_
  refine s_ia (pc := 205) C dX12_fill_205 ?_
  refine s_iload (pc := 206) C dX12_fill_206 ?_
  refine s_isub (pc := 208) C dX12_fill_208 ?_
  refine s_iast (pc := 209) C dX12_fill_209 ?_
  refine s_aload_n (pc := 210) C dX12_fill_210 rfl ?_
  refine s_getr (pc := 211) (j := 28) (q := (RX12, TX12, 59)) C rfl (by decide) rfl wF_X12_49 dX12_fill_211 ?_
  refine s_iload_n (pc := 214) C dX12_fill_214 rfl ?_
  refine s_dup2 (pc := 215) C dX12_fill_215 ?_
  refine s_ia (pc := 216) C dX12_fill_216 ?_
  refine s_iconst (pc := 217) C dX12_fill_217 (by decide) ?_
  refine s_iload (pc := 218) C dX12_fill_218 ?_
  refine s_ishl (pc := 220) C dX12_fill_220 ?_
  refine s_ior (pc := 221) C dX12_fill_221 ?_
  refine s_iast (pc := 222) C dX12_fill_222 ?_
  refine s_aload_n (pc := 223) C dX12_fill_223 rfl ?_
  refine s_dup (pc := 224) C dX12_fill_224 ?_
  refine s_geti (pc := 225) (j := 31) (q := (RX12, TX12, 59)) C rfl (by decide) rfl wF_X12_244 dX12_fill_225 ?_
  refine s_iload_n (pc := 228) C dX12_fill_228 rfl ?_
  refine s_iadd (pc := 229) C dX12_fill_229 ?_
  refine s_puti (pc := 230) (j := 31) (q := (RX12, TX12, 59)) C rfl (by decide) rfl (Or.inl rfl) wF_X12_244 dX12_fill_230 ?_
  refine s_iload (pc := 233) C dX12_fill_233 ?_
  exact s_iret (pc := 235) C hr hlk dX12_fill_235
end SX12_fill
def bsX12_fill (f1 f2 f3 : ox_F) (b : Nat) (rc : Nat → ox_K) : ox_K := if b = 0 then bX12_fill_0 f1 f2 f3 rc else if b = 57 then bX12_fill_57 f1 f2 f3 rc else if b = 60 then bX12_fill_60 f1 f2 f3 rc else if b = 73 then bX12_fill_73 f1 f2 f3 rc else if b = 74 then bX12_fill_74 f1 f2 f3 rc else if b = 101 then bX12_fill_101 f1 f2 f3 rc else if b = 143 then bX12_fill_143 f1 f2 f3 rc else if b = 146 then bX12_fill_146 f1 f2 f3 rc else if b = 180 then bX12_fill_180 f1 f2 f3 rc else ox_no
theorem mX12_fill {dp d1 d2 d3 : Nat} {f1 f2 f3 f : ox_F} (h1 : ox_Sem yX12_isTank cX12_isTank 1 (some .boolean) d1 f1) (e1 : d1 + 1 ≤ dp) (h2 : ox_Sem yX12_isRecipe cX12_isRecipe 2 (some .boolean) d2 f2) (e2 : d2 + 1 ≤ dp) (h3 : ox_Sem yX12_in cX12_in 6 (some .boolean) d3 f3) (e3 : d3 + 1 ≤ dp) (hf : ∀ as h r, f as h = some r → ox_cs as ≤ 8 ∧ ox_le h r.2 ∧ ∃ n, ox_run (bsX12_fill f1 f2 f3) n 0 (lv_args 0 as) [] h = some r) : ox_Sem yX12_fill cX12_fill 8 (some .int) dp f := by
  refine ox_meth (bs := bsX12_fill f1 f2 f3) (by decide) hf ?_
  intro p l e R s m args below meth c g c0 t0 C hr hlk hnm hR rc hrc b
  unfold bsX12_fill
  refine ox_br (kX12_fill_0 C hr hlk hnm hR h1 e1 h2 e2 h3 e3 hrc) ?_
  refine ox_br (kX12_fill_57 C hr hlk hnm hR h1 e1 h2 e2 h3 e3 hrc) ?_
  refine ox_br (kX12_fill_60 C hr hlk hnm hR h1 e1 h2 e2 h3 e3 hrc) ?_
  refine ox_br (kX12_fill_73 C hr hlk hnm hR h1 e1 h2 e2 h3 e3 hrc) ?_
  refine ox_br (kX12_fill_74 C hr hlk hnm hR h1 e1 h2 e2 h3 e3 hrc) ?_
  refine ox_br (kX12_fill_101 C hr hlk hnm hR h1 e1 h2 e2 h3 e3 hrc) ?_
  refine ox_br (kX12_fill_143 C hr hlk hnm hR h1 e1 h2 e2 h3 e3 hrc) ?_
  refine ox_br (kX12_fill_146 C hr hlk hnm hR h1 e1 h2 e2 h3 e3 hrc) ?_
  refine ox_br (kX12_fill_180 C hr hlk hnm hR h1 e1 h2 e2 h3 e3 hrc) ?_
  exact s_no
theorem dX12_ready_0 : decode cX12_ready 0 = .ok (.aload_n 0, 1) := by decide +kernel
theorem dX12_ready_1 : decode cX12_ready 1 = .ok (.iconst 0, 1) := by decide +kernel
theorem dX12_ready_2 : decode cX12_ready 2 = .ok (.putfield 108, 3) := by decide +kernel
theorem dX12_ready_5 : decode cX12_ready 5 = .ok (.iload_n 1, 1) := by decide +kernel
theorem dX12_ready_6 : decode cX12_ready 6 = .ok (.invokestatic 235, 3) := by decide +kernel
theorem dX12_ready_9 : decode cX12_ready 9 = .ok (.ifCond .ne 6, 3) := by decide +kernel
theorem dX12_ready_12 : decode cX12_ready 12 = .ok (.ldc 127, 2) := by decide +kernel
theorem dX12_ready_14 : decode cX12_ready 14 = .ok (.ireturn, 1) := by decide +kernel
theorem dX12_ready_15 : decode cX12_ready 15 = .ok (.aload_n 0, 1) := by decide +kernel
theorem dX12_ready_16 : decode cX12_ready 16 = .ok (.getfield 40, 3) := by decide +kernel
theorem dX12_ready_19 : decode cX12_ready 19 = .ok (.iload_n 1, 1) := by decide +kernel
theorem dX12_ready_20 : decode cX12_ready 20 = .ok (.iaload, 1) := by decide +kernel
theorem dX12_ready_21 : decode cX12_ready 21 = .ok (.ifCond .ne 6, 3) := by decide +kernel
theorem dX12_ready_24 : decode cX12_ready 24 = .ok (.ldc 243, 2) := by decide +kernel
theorem dX12_ready_26 : decode cX12_ready 26 = .ok (.ireturn, 1) := by decide +kernel
theorem dX12_ready_27 : decode cX12_ready 27 = .ok (.aload_n 0, 1) := by decide +kernel
theorem dX12_ready_28 : decode cX12_ready 28 = .ok (.aload_n 0, 1) := by decide +kernel
theorem dX12_ready_29 : decode cX12_ready 29 = .ok (.getfield 46, 3) := by decide +kernel
theorem dX12_ready_32 : decode cX12_ready 32 = .ok (.iload_n 1, 1) := by decide +kernel
theorem dX12_ready_33 : decode cX12_ready 33 = .ok (.iaload, 1) := by decide +kernel
theorem dX12_ready_34 : decode cX12_ready 34 = .ok (.aload_n 0, 1) := by decide +kernel
theorem dX12_ready_35 : decode cX12_ready 35 = .ok (.getfield 52, 3) := by decide +kernel
theorem dX12_ready_38 : decode cX12_ready 38 = .ok (.iload_n 1, 1) := by decide +kernel
theorem dX12_ready_39 : decode cX12_ready 39 = .ok (.iaload, 1) := by decide +kernel
theorem dX12_ready_40 : decode cX12_ready 40 = .ok (.aload_n 0, 1) := by decide +kernel
theorem dX12_ready_41 : decode cX12_ready 41 = .ok (.getfield 55, 3) := by decide +kernel
theorem dX12_ready_44 : decode cX12_ready 44 = .ok (.iload_n 1, 1) := by decide +kernel
theorem dX12_ready_45 : decode cX12_ready 45 = .ok (.iaload, 1) := by decide +kernel
theorem dX12_ready_46 : decode cX12_ready 46 = .ok (.invokevirtual 228, 3) := by decide +kernel
theorem dX12_ready_49 : decode cX12_ready 49 = .ok (.aload_n 0, 1) := by decide +kernel
theorem dX12_ready_50 : decode cX12_ready 50 = .ok (.getfield 52, 3) := by decide +kernel
theorem dX12_ready_53 : decode cX12_ready 53 = .ok (.iload_n 1, 1) := by decide +kernel
theorem dX12_ready_54 : decode cX12_ready 54 = .ok (.aload_n 0, 1) := by decide +kernel
theorem dX12_ready_55 : decode cX12_ready 55 = .ok (.getfield 209, 3) := by decide +kernel
theorem dX12_ready_58 : decode cX12_ready 58 = .ok (.iastore, 1) := by decide +kernel
theorem dX12_ready_59 : decode cX12_ready 59 = .ok (.aload_n 0, 1) := by decide +kernel
theorem dX12_ready_60 : decode cX12_ready 60 = .ok (.getfield 55, 3) := by decide +kernel
theorem dX12_ready_63 : decode cX12_ready 63 = .ok (.iload_n 1, 1) := by decide +kernel
theorem dX12_ready_64 : decode cX12_ready 64 = .ok (.aload_n 0, 1) := by decide +kernel
theorem dX12_ready_65 : decode cX12_ready 65 = .ok (.getfield 212, 3) := by decide +kernel
theorem dX12_ready_68 : decode cX12_ready 68 = .ok (.iastore, 1) := by decide +kernel
theorem dX12_ready_69 : decode cX12_ready 69 = .ok (.aload_n 0, 1) := by decide +kernel
theorem dX12_ready_70 : decode cX12_ready 70 = .ok (.getfield 209, 3) := by decide +kernel
theorem dX12_ready_73 : decode cX12_ready 73 = .ok (.aload_n 0, 1) := by decide +kernel
theorem dX12_ready_74 : decode cX12_ready 74 = .ok (.getfield 212, 3) := by decide +kernel
theorem dX12_ready_77 : decode cX12_ready 77 = .ok (.invokestatic 232, 3) := by decide +kernel
theorem dX12_ready_80 : decode cX12_ready 80 = .ok (.ireturn, 1) := by decide +kernel
def bX12_ready_0 (f1 f2 f3 : ox_F) (rc : Nat → ox_K) : ox_K := o_al 0 (o_ic (0) (o_puti 12 0 (o_il 1 (o_ct f1 1 (o_ifne (rc 15) (o_ic (-1000001) (o_iret)))))))
def bX12_ready_15 (f1 f2 f3 : ox_F) (rc : Nat → ox_K) : ox_K := o_al 0 (o_getr 12 25 (o_il 1 (o_ia (o_ifne (rc 27) (o_ic (-1000002) (o_iret))))))
def bX12_ready_27 (f1 f2 f3 : ox_F) (rc : Nat → ox_K) : ox_K := o_al 0 (o_al 0 (o_getr 12 27 (o_il 1 (o_ia (o_al 0 (o_getr 12 29 (o_il 1 (o_ia (o_al 0 (o_getr 12 30 (o_il 1 (o_ia (o_cv f2 12 3 (o_al 0 (o_getr 12 29 (o_il 1 (o_al 0 (o_geti 12 23 (o_iast (o_al 0 (o_getr 12 30 (o_il 1 (o_al 0 (o_geti 12 24 (o_iast (o_al 0 (o_geti 12 23 (o_al 0 (o_geti 12 24 (o_ct f3 2 (o_iret)))))))))))))))))))))))))))))))
section SX12_ready
variable {p : Program} {l : Launch} {e : Env} {R : Room} {s : State} {m : MethodId} {args : Array Value} {below : List Frame} {meth : Method} {c : Code} {g : ox_G} {c0 t0 dp d1 d2 d3 : Nat} {rc : Nat → ox_K} {f1 f2 f3 : ox_F}
set_option maxRecDepth 100000 in
theorem kX12_ready_0 (C : ox_C p s m args c g 2 cX12_ready RX12) (hr : meth.sig.returnType = (some .int)) (hlk : meth.locks = false) (hnm : meth.name = "ready") (hR : R.frames = dp ∧ R.locals = 60 * dp) (h1 : ox_Sem yX12_isTank cX12_isTank 1 (some .boolean) d1 f1) (e1 : d1 + 1 ≤ dp) (h2 : ox_Sem yX12_temperBy cX12_temperBy 7 none d2 f2) (e2 : d2 + 1 ≤ dp) (h3 : ox_Sem yX12_stateOf cX12_stateOf 2 (some .int) d3 f3) (e3 : d3 + 1 ≤ dp) (hrc : ∀ b, ox_S p l e R s m args below meth c g 2 c0 t0 (ox_QM g below args s c0 t0) b (rc b)) : ox_S p l e R s m args below meth c g 2 c0 t0 (ox_QM g below args s c0 t0) 0 (bX12_ready_0 f1 f2 f3 rc) := by
  refine s_aload_n (pc := 0) C dX12_ready_0 rfl ?_
  refine s_iconst (pc := 1) C dX12_ready_1 (by decide) ?_
  refine s_puti (pc := 2) (j := 0) (q := (RX12, TX12, 59)) C rfl (by decide) rfl (Or.inl rfl) wF_X12_108 dX12_ready_2 ?_
  refine s_iload_n (pc := 5) C dX12_ready_5 rfl ?_
  refine s_ct (pc := 6) C h1 wM_X12_235 wT_X12_isTank wN_X12 wC_X12_isTank (by decide +kernel) (ox_lv hR e1 (by decide)) dX12_ready_6 ?_
  refine s_ifne (pc := 9) 15 C dX12_ready_9 (by decide) (hrc 15) ?_
  refine s_ldc (pc := 12) C wK_X12_127 dX12_ready_12 ?_
  exact s_iret (pc := 14) C hr hlk dX12_ready_14
set_option maxRecDepth 100000 in
theorem kX12_ready_15 (C : ox_C p s m args c g 2 cX12_ready RX12) (hr : meth.sig.returnType = (some .int)) (hlk : meth.locks = false) (hnm : meth.name = "ready") (hR : R.frames = dp ∧ R.locals = 60 * dp) (h1 : ox_Sem yX12_isTank cX12_isTank 1 (some .boolean) d1 f1) (e1 : d1 + 1 ≤ dp) (h2 : ox_Sem yX12_temperBy cX12_temperBy 7 none d2 f2) (e2 : d2 + 1 ≤ dp) (h3 : ox_Sem yX12_stateOf cX12_stateOf 2 (some .int) d3 f3) (e3 : d3 + 1 ≤ dp) (hrc : ∀ b, ox_S p l e R s m args below meth c g 2 c0 t0 (ox_QM g below args s c0 t0) b (rc b)) : ox_S p l e R s m args below meth c g 2 c0 t0 (ox_QM g below args s c0 t0) 15 (bX12_ready_15 f1 f2 f3 rc) := by
  refine s_aload_n (pc := 15) C dX12_ready_15 rfl ?_
  refine s_getr (pc := 16) (j := 25) (q := (RX12, TX12, 59)) C rfl (by decide) rfl wF_X12_40 dX12_ready_16 ?_
  refine s_iload_n (pc := 19) C dX12_ready_19 rfl ?_
  refine s_ia (pc := 20) C dX12_ready_20 ?_
  refine s_ifne (pc := 21) 27 C dX12_ready_21 (by decide) (hrc 27) ?_
  refine s_ldc (pc := 24) C wK_X12_243 dX12_ready_24 ?_
  exact s_iret (pc := 26) C hr hlk dX12_ready_26
set_option maxRecDepth 100000 in
theorem kX12_ready_27 (C : ox_C p s m args c g 2 cX12_ready RX12) (hr : meth.sig.returnType = (some .int)) (hlk : meth.locks = false) (hnm : meth.name = "ready") (hR : R.frames = dp ∧ R.locals = 60 * dp) (h1 : ox_Sem yX12_isTank cX12_isTank 1 (some .boolean) d1 f1) (e1 : d1 + 1 ≤ dp) (h2 : ox_Sem yX12_temperBy cX12_temperBy 7 none d2 f2) (e2 : d2 + 1 ≤ dp) (h3 : ox_Sem yX12_stateOf cX12_stateOf 2 (some .int) d3 f3) (e3 : d3 + 1 ≤ dp) (hrc : ∀ b, ox_S p l e R s m args below meth c g 2 c0 t0 (ox_QM g below args s c0 t0) b (rc b)) : ox_S p l e R s m args below meth c g 2 c0 t0 (ox_QM g below args s c0 t0) 27 (bX12_ready_27 f1 f2 f3 rc) := by
  refine s_aload_n (pc := 27) C dX12_ready_27 rfl ?_
  refine s_aload_n (pc := 28) C dX12_ready_28 rfl ?_
  refine s_getr (pc := 29) (j := 27) (q := (RX12, TX12, 59)) C rfl (by decide) rfl wF_X12_46 dX12_ready_29 ?_
  refine s_iload_n (pc := 32) C dX12_ready_32 rfl ?_
  refine s_ia (pc := 33) C dX12_ready_33 ?_
  refine s_aload_n (pc := 34) C dX12_ready_34 rfl ?_
  refine s_getr (pc := 35) (j := 29) (q := (RX12, TX12, 59)) C rfl (by decide) rfl wF_X12_52 dX12_ready_35 ?_
  refine s_iload_n (pc := 38) C dX12_ready_38 rfl ?_
  refine s_ia (pc := 39) C dX12_ready_39 ?_
  refine s_aload_n (pc := 40) C dX12_ready_40 rfl ?_
  refine s_getr (pc := 41) (j := 30) (q := (RX12, TX12, 59)) C rfl (by decide) rfl wF_X12_55 dX12_ready_41 ?_
  refine s_iload_n (pc := 44) C dX12_ready_44 rfl ?_
  refine s_ia (pc := 45) C dX12_ready_45 ?_
  refine s_cv (pc := 46) (q := (RX12, TX12, 59)) C h2 rfl wM_X12_228 wI_X12_temperBy wS_X12_temperBy wN_X12 wC_X12_temperBy (by decide +kernel) (ox_lv hR e2 (by decide)) dX12_ready_46 ?_
  refine s_aload_n (pc := 49) C dX12_ready_49 rfl ?_
  refine s_getr (pc := 50) (j := 29) (q := (RX12, TX12, 59)) C rfl (by decide) rfl wF_X12_52 dX12_ready_50 ?_
  refine s_iload_n (pc := 53) C dX12_ready_53 rfl ?_
  refine s_aload_n (pc := 54) C dX12_ready_54 rfl ?_
  refine s_geti (pc := 55) (j := 23) (q := (RX12, TX12, 59)) C rfl (by decide) rfl wF_X12_209 dX12_ready_55 ?_
  refine s_iast (pc := 58) C dX12_ready_58 ?_
  refine s_aload_n (pc := 59) C dX12_ready_59 rfl ?_
  refine s_getr (pc := 60) (j := 30) (q := (RX12, TX12, 59)) C rfl (by decide) rfl wF_X12_55 dX12_ready_60 ?_
  refine s_iload_n (pc := 63) C dX12_ready_63 rfl ?_
  refine s_aload_n (pc := 64) C dX12_ready_64 rfl ?_
  refine s_geti (pc := 65) (j := 24) (q := (RX12, TX12, 59)) C rfl (by decide) rfl wF_X12_212 dX12_ready_65 ?_
  refine s_iast (pc := 68) C dX12_ready_68 ?_
  refine s_aload_n (pc := 69) C dX12_ready_69 rfl ?_
  refine s_geti (pc := 70) (j := 23) (q := (RX12, TX12, 59)) C rfl (by decide) rfl wF_X12_209 dX12_ready_70 ?_
  refine s_aload_n (pc := 73) C dX12_ready_73 rfl ?_
  refine s_geti (pc := 74) (j := 24) (q := (RX12, TX12, 59)) C rfl (by decide) rfl wF_X12_212 dX12_ready_74 ?_
  refine s_ct (pc := 77) C h3 wM_X12_232 wT_X12_stateOf wN_X12 wC_X12_stateOf (by decide +kernel) (ox_lv hR e3 (by decide)) dX12_ready_77 ?_
  exact s_iret (pc := 80) C hr hlk dX12_ready_80
end SX12_ready
def bsX12_ready (f1 f2 f3 : ox_F) (b : Nat) (rc : Nat → ox_K) : ox_K := if b = 0 then bX12_ready_0 f1 f2 f3 rc else if b = 15 then bX12_ready_15 f1 f2 f3 rc else if b = 27 then bX12_ready_27 f1 f2 f3 rc else ox_no
theorem mX12_ready {dp d1 d2 d3 : Nat} {f1 f2 f3 f : ox_F} (h1 : ox_Sem yX12_isTank cX12_isTank 1 (some .boolean) d1 f1) (e1 : d1 + 1 ≤ dp) (h2 : ox_Sem yX12_temperBy cX12_temperBy 7 none d2 f2) (e2 : d2 + 1 ≤ dp) (h3 : ox_Sem yX12_stateOf cX12_stateOf 2 (some .int) d3 f3) (e3 : d3 + 1 ≤ dp) (hf : ∀ as h r, f as h = some r → ox_cs as ≤ 2 ∧ ox_le h r.2 ∧ ∃ n, ox_run (bsX12_ready f1 f2 f3) n 0 (lv_args 0 as) [] h = some r) : ox_Sem yX12_ready cX12_ready 2 (some .int) dp f := by
  refine ox_meth (bs := bsX12_ready f1 f2 f3) (by decide) hf ?_
  intro p l e R s m args below meth c g c0 t0 C hr hlk hnm hR rc hrc b
  unfold bsX12_ready
  refine ox_br (kX12_ready_0 C hr hlk hnm hR h1 e1 h2 e2 h3 e3 hrc) ?_
  refine ox_br (kX12_ready_15 C hr hlk hnm hR h1 e1 h2 e2 h3 e3 hrc) ?_
  refine ox_br (kX12_ready_27 C hr hlk hnm hR h1 e1 h2 e2 h3 e3 hrc) ?_
  exact s_no
theorem dX12_take_0 : decode cX12_take 0 = .ok (.aload_n 0, 1) := by decide +kernel
theorem dX12_take_1 : decode cX12_take 1 = .ok (.getfield 43, 3) := by decide +kernel
theorem dX12_take_4 : decode cX12_take 4 = .ok (.iload_n 1, 1) := by decide +kernel
theorem dX12_take_5 : decode cX12_take 5 = .ok (.dup2, 1) := by decide +kernel
theorem dX12_take_6 : decode cX12_take 6 = .ok (.iaload, 1) := by decide +kernel
theorem dX12_take_7 : decode cX12_take 7 = .ok (.aload_n 0, 1) := by decide +kernel
theorem dX12_take_8 : decode cX12_take 8 = .ok (.getfield 43, 3) := by decide +kernel
theorem dX12_take_11 : decode cX12_take 11 = .ok (.iload_n 1, 1) := by decide +kernel
theorem dX12_take_12 : decode cX12_take 12 = .ok (.iaload, 1) := by decide +kernel
theorem dX12_take_13 : decode cX12_take 13 = .ok (.i2l, 1) := by decide +kernel
theorem dX12_take_14 : decode cX12_take 14 = .ok (.iload_n 2, 1) := by decide +kernel
theorem dX12_take_15 : decode cX12_take 15 = .ok (.i2l, 1) := by decide +kernel
theorem dX12_take_16 : decode cX12_take 16 = .ok (.lmul, 1) := by decide +kernel
theorem dX12_take_17 : decode cX12_take 17 = .ok (.aload_n 0, 1) := by decide +kernel
theorem dX12_take_18 : decode cX12_take 18 = .ok (.getfield 40, 3) := by decide +kernel
theorem dX12_take_21 : decode cX12_take 21 = .ok (.iload_n 1, 1) := by decide +kernel
theorem dX12_take_22 : decode cX12_take 22 = .ok (.iaload, 1) := by decide +kernel
theorem dX12_take_23 : decode cX12_take 23 = .ok (.i2l, 1) := by decide +kernel
theorem dX12_take_24 : decode cX12_take 24 = .ok (.ldiv, 1) := by decide +kernel
theorem dX12_take_25 : decode cX12_take 25 = .ok (.l2i, 1) := by decide +kernel
theorem dX12_take_26 : decode cX12_take 26 = .ok (.isub, 1) := by decide +kernel
theorem dX12_take_27 : decode cX12_take 27 = .ok (.iastore, 1) := by decide +kernel
theorem dX12_take_28 : decode cX12_take 28 = .ok (.aload_n 0, 1) := by decide +kernel
theorem dX12_take_29 : decode cX12_take 29 = .ok (.getfield 40, 3) := by decide +kernel
theorem dX12_take_32 : decode cX12_take 32 = .ok (.iload_n 1, 1) := by decide +kernel
theorem dX12_take_33 : decode cX12_take 33 = .ok (.dup2, 1) := by decide +kernel
theorem dX12_take_34 : decode cX12_take 34 = .ok (.iaload, 1) := by decide +kernel
theorem dX12_take_35 : decode cX12_take 35 = .ok (.iload_n 2, 1) := by decide +kernel
theorem dX12_take_36 : decode cX12_take 36 = .ok (.isub, 1) := by decide +kernel
theorem dX12_take_37 : decode cX12_take 37 = .ok (.iastore, 1) := by decide +kernel
theorem dX12_take_38 : decode cX12_take 38 = .ok (.aload_n 0, 1) := by decide +kernel
theorem dX12_take_39 : decode cX12_take 39 = .ok (.getfield 43, 3) := by decide +kernel
theorem dX12_take_42 : decode cX12_take 42 = .ok (.iload_n 1, 1) := by decide +kernel
theorem dX12_take_43 : decode cX12_take 43 = .ok (.aload_n 0, 1) := by decide +kernel
theorem dX12_take_44 : decode cX12_take 44 = .ok (.getfield 40, 3) := by decide +kernel
theorem dX12_take_47 : decode cX12_take 47 = .ok (.iload_n 1, 1) := by decide +kernel
theorem dX12_take_48 : decode cX12_take 48 = .ok (.iaload, 1) := by decide +kernel
theorem dX12_take_49 : decode cX12_take 49 = .ok (.ifCond .ne 7, 3) := by decide +kernel
theorem dX12_take_52 : decode cX12_take 52 = .ok (.iconst 0, 1) := by decide +kernel
theorem dX12_take_53 : decode cX12_take 53 = .ok (.goto 9, 3) := by decide +kernel
theorem dX12_take_56 : decode cX12_take 56 = .ok (.aload_n 0, 1) := by decide +kernel
theorem dX12_take_57 : decode cX12_take 57 = .ok (.getfield 43, 3) := by decide +kernel
theorem dX12_take_60 : decode cX12_take 60 = .ok (.iload_n 1, 1) := by decide +kernel
theorem dX12_take_61 : decode cX12_take 61 = .ok (.iaload, 1) := by decide +kernel
theorem dX12_take_62 : decode cX12_take 62 = .ok (.iastore, 1) := by decide +kernel
theorem dX12_take_63 : decode cX12_take 63 = .ok (.return_, 1) := by decide +kernel
def bX12_take_0 (rc : Nat → ox_K) : ox_K := o_al 0 (o_getr 12 26 (o_il 1 (o_dup2 (o_ia (o_al 0 (o_getr 12 26 (o_il 1 (o_ia (o_i2l (o_il 2 (o_i2l (o_lmul (o_al 0 (o_getr 12 25 (o_il 1 (o_ia (o_i2l (o_ldiv (o_l2i (o_isub (o_iast (o_al 0 (o_getr 12 25 (o_il 1 (o_dup2 (o_ia (o_il 2 (o_isub (o_iast (o_al 0 (o_getr 12 26 (o_il 1 (o_al 0 (o_getr 12 25 (o_il 1 (o_ia (o_ifne (rc 56) (o_ic (0) (rc 62)))))))))))))))))))))))))))))))))))))))
def bX12_take_56 (rc : Nat → ox_K) : ox_K := o_al 0 (o_getr 12 26 (o_il 1 (o_ia (rc 62))))
def bX12_take_62 (rc : Nat → ox_K) : ox_K := o_iast (o_ret)
section SX12_take
variable {p : Program} {l : Launch} {e : Env} {R : Room} {s : State} {m : MethodId} {args : Array Value} {below : List Frame} {meth : Method} {c : Code} {g : ox_G} {c0 t0 dp  : Nat} {rc : Nat → ox_K}
set_option maxRecDepth 100000 in
theorem kX12_take_0 (C : ox_C p s m args c g 3 cX12_take RX12) (hr : meth.sig.returnType = none) (hlk : meth.locks = false) (hnm : meth.name = "take") (hR : R.frames = dp ∧ R.locals = 60 * dp) (hrc : ∀ b, ox_S p l e R s m args below meth c g 3 c0 t0 (ox_QM g below args s c0 t0) b (rc b)) : ox_S p l e R s m args below meth c g 3 c0 t0 (ox_QM g below args s c0 t0) 0 (bX12_take_0 rc) := by
  refine s_aload_n (pc := 0) C dX12_take_0 rfl ?_
  refine s_getr (pc := 1) (j := 26) (q := (RX12, TX12, 59)) C rfl (by decide) rfl wF_X12_43 dX12_take_1 ?_
  refine s_iload_n (pc := 4) C dX12_take_4 rfl ?_
  refine s_dup2 (pc := 5) C dX12_take_5 ?_
  refine s_ia (pc := 6) C dX12_take_6 ?_
  refine s_aload_n (pc := 7) C dX12_take_7 rfl ?_
  refine s_getr (pc := 8) (j := 26) (q := (RX12, TX12, 59)) C rfl (by decide) rfl wF_X12_43 dX12_take_8 ?_
  refine s_iload_n (pc := 11) C dX12_take_11 rfl ?_
  refine s_ia (pc := 12) C dX12_take_12 ?_
  refine s_i2l (pc := 13) C dX12_take_13 ?_
  refine s_iload_n (pc := 14) C dX12_take_14 rfl ?_
  refine s_i2l (pc := 15) C dX12_take_15 ?_
  refine s_lmul (pc := 16) C dX12_take_16 ?_
  refine s_aload_n (pc := 17) C dX12_take_17 rfl ?_
  refine s_getr (pc := 18) (j := 25) (q := (RX12, TX12, 59)) C rfl (by decide) rfl wF_X12_40 dX12_take_18 ?_
  refine s_iload_n (pc := 21) C dX12_take_21 rfl ?_
  refine s_ia (pc := 22) C dX12_take_22 ?_
  refine s_i2l (pc := 23) C dX12_take_23 ?_
  refine s_ldiv (pc := 24) C dX12_take_24 ?_
  refine s_l2i (pc := 25) C dX12_take_25 ?_
  refine s_isub (pc := 26) C dX12_take_26 ?_
  refine s_iast (pc := 27) C dX12_take_27 ?_
  refine s_aload_n (pc := 28) C dX12_take_28 rfl ?_
  refine s_getr (pc := 29) (j := 25) (q := (RX12, TX12, 59)) C rfl (by decide) rfl wF_X12_40 dX12_take_29 ?_
  refine s_iload_n (pc := 32) C dX12_take_32 rfl ?_
  refine s_dup2 (pc := 33) C dX12_take_33 ?_
  refine s_ia (pc := 34) C dX12_take_34 ?_
  refine s_iload_n (pc := 35) C dX12_take_35 rfl ?_
  refine s_isub (pc := 36) C dX12_take_36 ?_
  refine s_iast (pc := 37) C dX12_take_37 ?_
  refine s_aload_n (pc := 38) C dX12_take_38 rfl ?_
  refine s_getr (pc := 39) (j := 26) (q := (RX12, TX12, 59)) C rfl (by decide) rfl wF_X12_43 dX12_take_39 ?_
  refine s_iload_n (pc := 42) C dX12_take_42 rfl ?_
  refine s_aload_n (pc := 43) C dX12_take_43 rfl ?_
  refine s_getr (pc := 44) (j := 25) (q := (RX12, TX12, 59)) C rfl (by decide) rfl wF_X12_40 dX12_take_44 ?_
  refine s_iload_n (pc := 47) C dX12_take_47 rfl ?_
  refine s_ia (pc := 48) C dX12_take_48 ?_
  refine s_ifne (pc := 49) 56 C dX12_take_49 (by decide) (hrc 56) ?_
  refine s_iconst (pc := 52) C dX12_take_52 (by decide) ?_
  exact s_goto (pc := 53) 62 C dX12_take_53 (by decide) (hrc 62)
set_option maxRecDepth 100000 in
theorem kX12_take_56 (C : ox_C p s m args c g 3 cX12_take RX12) (hr : meth.sig.returnType = none) (hlk : meth.locks = false) (hnm : meth.name = "take") (hR : R.frames = dp ∧ R.locals = 60 * dp) (hrc : ∀ b, ox_S p l e R s m args below meth c g 3 c0 t0 (ox_QM g below args s c0 t0) b (rc b)) : ox_S p l e R s m args below meth c g 3 c0 t0 (ox_QM g below args s c0 t0) 56 (bX12_take_56 rc) := by
  refine s_aload_n (pc := 56) C dX12_take_56 rfl ?_
  refine s_getr (pc := 57) (j := 26) (q := (RX12, TX12, 59)) C rfl (by decide) rfl wF_X12_43 dX12_take_57 ?_
  refine s_iload_n (pc := 60) C dX12_take_60 rfl ?_
  refine s_ia (pc := 61) C dX12_take_61 ?_
  exact hrc 62
set_option maxRecDepth 100000 in
theorem kX12_take_62 (C : ox_C p s m args c g 3 cX12_take RX12) (hr : meth.sig.returnType = none) (hlk : meth.locks = false) (hnm : meth.name = "take") (hR : R.frames = dp ∧ R.locals = 60 * dp) (hrc : ∀ b, ox_S p l e R s m args below meth c g 3 c0 t0 (ox_QM g below args s c0 t0) b (rc b)) : ox_S p l e R s m args below meth c g 3 c0 t0 (ox_QM g below args s c0 t0) 62 (bX12_take_62 rc) := by
  refine s_iast (pc := 62) C dX12_take_62 ?_
  exact s_ret (pc := 63) C hr hlk dX12_take_63
end SX12_take
def bsX12_take (b : Nat) (rc : Nat → ox_K) : ox_K := if b = 0 then bX12_take_0 rc else if b = 56 then bX12_take_56 rc else if b = 62 then bX12_take_62 rc else ox_no
theorem mX12_take {dp  : Nat} {f : ox_F} (hf : ∀ as h r, f as h = some r → ox_cs as ≤ 3 ∧ ox_le h r.2 ∧ ∃ n, ox_run (bsX12_take) n 0 (lv_args 0 as) [] h = some r) : ox_Sem yX12_take cX12_take 3 none dp f := by
  refine ox_meth (bs := bsX12_take) (by decide) hf ?_
  intro p l e R s m args below meth c g c0 t0 C hr hlk hnm hR rc hrc b
  unfold bsX12_take
  refine ox_br (kX12_take_0 C hr hlk hnm hR hrc) ?_
  refine ox_br (kX12_take_56 C hr hlk hnm hR hrc) ?_
  refine ox_br (kX12_take_62 C hr hlk hnm hR hrc) ?_
  exact s_no
theorem dX12_drain_0 : decode cX12_drain 0 = .ok (.aload_n 0, 1) := by decide +kernel
theorem dX12_drain_1 : decode cX12_drain 1 = .ok (.iconst 0, 1) := by decide +kernel
theorem dX12_drain_2 : decode cX12_drain 2 = .ok (.putfield 108, 3) := by decide +kernel
theorem dX12_drain_5 : decode cX12_drain 5 = .ok (.iload_n 1, 1) := by decide +kernel
theorem dX12_drain_6 : decode cX12_drain 6 = .ok (.invokestatic 235, 3) := by decide +kernel
theorem dX12_drain_9 : decode cX12_drain 9 = .ok (.ifCond .ne 6, 3) := by decide +kernel
theorem dX12_drain_12 : decode cX12_drain 12 = .ok (.ldc 127, 2) := by decide +kernel
theorem dX12_drain_14 : decode cX12_drain 14 = .ok (.ireturn, 1) := by decide +kernel
theorem dX12_drain_15 : decode cX12_drain 15 = .ok (.aload_n 0, 1) := by decide +kernel
theorem dX12_drain_16 : decode cX12_drain 16 = .ok (.getfield 40, 3) := by decide +kernel
theorem dX12_drain_19 : decode cX12_drain 19 = .ok (.iload_n 1, 1) := by decide +kernel
theorem dX12_drain_20 : decode cX12_drain 20 = .ok (.iaload, 1) := by decide +kernel
theorem dX12_drain_21 : decode cX12_drain 21 = .ok (.istore_n 2, 1) := by decide +kernel
theorem dX12_drain_22 : decode cX12_drain 22 = .ok (.aload_n 0, 1) := by decide +kernel
theorem dX12_drain_23 : decode cX12_drain 23 = .ok (.getfield 40, 3) := by decide +kernel
theorem dX12_drain_26 : decode cX12_drain 26 = .ok (.iload_n 1, 1) := by decide +kernel
theorem dX12_drain_27 : decode cX12_drain 27 = .ok (.iconst 0, 1) := by decide +kernel
theorem dX12_drain_28 : decode cX12_drain 28 = .ok (.iastore, 1) := by decide +kernel
theorem dX12_drain_29 : decode cX12_drain 29 = .ok (.aload_n 0, 1) := by decide +kernel
theorem dX12_drain_30 : decode cX12_drain 30 = .ok (.getfield 43, 3) := by decide +kernel
theorem dX12_drain_33 : decode cX12_drain 33 = .ok (.iload_n 1, 1) := by decide +kernel
theorem dX12_drain_34 : decode cX12_drain 34 = .ok (.iconst 0, 1) := by decide +kernel
theorem dX12_drain_35 : decode cX12_drain 35 = .ok (.iastore, 1) := by decide +kernel
theorem dX12_drain_36 : decode cX12_drain 36 = .ok (.aload_n 0, 1) := by decide +kernel
theorem dX12_drain_37 : decode cX12_drain 37 = .ok (.dup, 1) := by decide +kernel
theorem dX12_drain_38 : decode cX12_drain 38 = .ok (.getfield 247, 3) := by decide +kernel
theorem dX12_drain_41 : decode cX12_drain 41 = .ok (.iload_n 2, 1) := by decide +kernel
theorem dX12_drain_42 : decode cX12_drain 42 = .ok (.iadd, 1) := by decide +kernel
theorem dX12_drain_43 : decode cX12_drain 43 = .ok (.putfield 247, 3) := by decide +kernel
theorem dX12_drain_46 : decode cX12_drain 46 = .ok (.iload_n 2, 1) := by decide +kernel
theorem dX12_drain_47 : decode cX12_drain 47 = .ok (.ireturn, 1) := by decide +kernel
def bX12_drain_0 (f1 : ox_F) (rc : Nat → ox_K) : ox_K := o_al 0 (o_ic (0) (o_puti 12 0 (o_il 1 (o_ct f1 1 (o_ifne (rc 15) (o_ic (-1000001) (o_iret)))))))
def bX12_drain_15 (f1 : ox_F) (rc : Nat → ox_K) : ox_K := o_al 0 (o_getr 12 25 (o_il 1 (o_ia (o_is 2 (o_al 0 (o_getr 12 25 (o_il 1 (o_ic (0) (o_iast (o_al 0 (o_getr 12 26 (o_il 1 (o_ic (0) (o_iast (o_al 0 (o_dup (o_geti 12 32 (o_il 2 (o_iadd (o_puti 12 32 (o_il 2 (o_iret))))))))))))))))))))))
section SX12_drain
variable {p : Program} {l : Launch} {e : Env} {R : Room} {s : State} {m : MethodId} {args : Array Value} {below : List Frame} {meth : Method} {c : Code} {g : ox_G} {c0 t0 dp d1 : Nat} {rc : Nat → ox_K} {f1 : ox_F}
set_option maxRecDepth 100000 in
theorem kX12_drain_0 (C : ox_C p s m args c g 3 cX12_drain RX12) (hr : meth.sig.returnType = (some .int)) (hlk : meth.locks = false) (hnm : meth.name = "drain") (hR : R.frames = dp ∧ R.locals = 60 * dp) (h1 : ox_Sem yX12_isTank cX12_isTank 1 (some .boolean) d1 f1) (e1 : d1 + 1 ≤ dp) (hrc : ∀ b, ox_S p l e R s m args below meth c g 3 c0 t0 (ox_QM g below args s c0 t0) b (rc b)) : ox_S p l e R s m args below meth c g 3 c0 t0 (ox_QM g below args s c0 t0) 0 (bX12_drain_0 f1 rc) := by
  refine s_aload_n (pc := 0) C dX12_drain_0 rfl ?_
  refine s_iconst (pc := 1) C dX12_drain_1 (by decide) ?_
  refine s_puti (pc := 2) (j := 0) (q := (RX12, TX12, 59)) C rfl (by decide) rfl (Or.inl rfl) wF_X12_108 dX12_drain_2 ?_
  refine s_iload_n (pc := 5) C dX12_drain_5 rfl ?_
  refine s_ct (pc := 6) C h1 wM_X12_235 wT_X12_isTank wN_X12 wC_X12_isTank (by decide +kernel) (ox_lv hR e1 (by decide)) dX12_drain_6 ?_
  refine s_ifne (pc := 9) 15 C dX12_drain_9 (by decide) (hrc 15) ?_
  refine s_ldc (pc := 12) C wK_X12_127 dX12_drain_12 ?_
  exact s_iret (pc := 14) C hr hlk dX12_drain_14
set_option maxRecDepth 100000 in
theorem kX12_drain_15 (C : ox_C p s m args c g 3 cX12_drain RX12) (hr : meth.sig.returnType = (some .int)) (hlk : meth.locks = false) (hnm : meth.name = "drain") (hR : R.frames = dp ∧ R.locals = 60 * dp) (h1 : ox_Sem yX12_isTank cX12_isTank 1 (some .boolean) d1 f1) (e1 : d1 + 1 ≤ dp) (hrc : ∀ b, ox_S p l e R s m args below meth c g 3 c0 t0 (ox_QM g below args s c0 t0) b (rc b)) : ox_S p l e R s m args below meth c g 3 c0 t0 (ox_QM g below args s c0 t0) 15 (bX12_drain_15 f1 rc) := by
  refine s_aload_n (pc := 15) C dX12_drain_15 rfl ?_
  refine s_getr (pc := 16) (j := 25) (q := (RX12, TX12, 59)) C rfl (by decide) rfl wF_X12_40 dX12_drain_16 ?_
  refine s_iload_n (pc := 19) C dX12_drain_19 rfl ?_
  refine s_ia (pc := 20) C dX12_drain_20 ?_
  refine s_istore_n (pc := 21) C dX12_drain_21 rfl (by decide) ?_
  refine s_aload_n (pc := 22) C dX12_drain_22 rfl ?_
  refine s_getr (pc := 23) (j := 25) (q := (RX12, TX12, 59)) C rfl (by decide) rfl wF_X12_40 dX12_drain_23 ?_
  refine s_iload_n (pc := 26) C dX12_drain_26 rfl ?_
  refine s_iconst (pc := 27) C dX12_drain_27 (by decide) ?_
  refine s_iast (pc := 28) C dX12_drain_28 ?_
  refine s_aload_n (pc := 29) C dX12_drain_29 rfl ?_
  refine s_getr (pc := 30) (j := 26) (q := (RX12, TX12, 59)) C rfl (by decide) rfl wF_X12_43 dX12_drain_30 ?_
  refine s_iload_n (pc := 33) C dX12_drain_33 rfl ?_
  refine s_iconst (pc := 34) C dX12_drain_34 (by decide) ?_
  refine s_iast (pc := 35) C dX12_drain_35 ?_
  refine s_aload_n (pc := 36) C dX12_drain_36 rfl ?_
  refine s_dup (pc := 37) C dX12_drain_37 ?_
  refine s_geti (pc := 38) (j := 32) (q := (RX12, TX12, 59)) C rfl (by decide) rfl wF_X12_247 dX12_drain_38 ?_
  refine s_iload_n (pc := 41) C dX12_drain_41 rfl ?_
  refine s_iadd (pc := 42) C dX12_drain_42 ?_
  refine s_puti (pc := 43) (j := 32) (q := (RX12, TX12, 59)) C rfl (by decide) rfl (Or.inl rfl) wF_X12_247 dX12_drain_43 ?_
  refine s_iload_n (pc := 46) C dX12_drain_46 rfl ?_
  exact s_iret (pc := 47) C hr hlk dX12_drain_47
end SX12_drain
def bsX12_drain (f1 : ox_F) (b : Nat) (rc : Nat → ox_K) : ox_K := if b = 0 then bX12_drain_0 f1 rc else if b = 15 then bX12_drain_15 f1 rc else ox_no
theorem mX12_drain {dp d1 : Nat} {f1 f : ox_F} (h1 : ox_Sem yX12_isTank cX12_isTank 1 (some .boolean) d1 f1) (e1 : d1 + 1 ≤ dp) (hf : ∀ as h r, f as h = some r → ox_cs as ≤ 3 ∧ ox_le h r.2 ∧ ∃ n, ox_run (bsX12_drain f1) n 0 (lv_args 0 as) [] h = some r) : ox_Sem yX12_drain cX12_drain 3 (some .int) dp f := by
  refine ox_meth (bs := bsX12_drain f1) (by decide) hf ?_
  intro p l e R s m args below meth c g c0 t0 C hr hlk hnm hR rc hrc b
  unfold bsX12_drain
  refine ox_br (kX12_drain_0 C hr hlk hnm hR h1 e1 hrc) ?_
  refine ox_br (kX12_drain_15 C hr hlk hnm hR h1 e1 hrc) ?_
  exact s_no
theorem dX12_tank_0 : decode cX12_tank 0 = .ok (.aload_n 0, 1) := by decide +kernel
theorem dX12_tank_1 : decode cX12_tank 1 = .ok (.iconst 0, 1) := by decide +kernel
theorem dX12_tank_2 : decode cX12_tank 2 = .ok (.putfield 108, 3) := by decide +kernel
theorem dX12_tank_5 : decode cX12_tank 5 = .ok (.iload_n 1, 1) := by decide +kernel
theorem dX12_tank_6 : decode cX12_tank 6 = .ok (.invokestatic 235, 3) := by decide +kernel
theorem dX12_tank_9 : decode cX12_tank 9 = .ok (.ifCond .eq 15, 3) := by decide +kernel
theorem dX12_tank_12 : decode cX12_tank 12 = .ok (.iload_n 2, 1) := by decide +kernel
theorem dX12_tank_13 : decode cX12_tank 13 = .ok (.i2l, 1) := by decide +kernel
theorem dX12_tank_14 : decode cX12_tank 14 = .ok (.lconst 0, 1) := by decide +kernel
theorem dX12_tank_15 : decode cX12_tank 15 = .ok (.ldc2_w 250, 3) := by decide +kernel
theorem dX12_tank_18 : decode cX12_tank 18 = .ok (.invokestatic 117, 3) := by decide +kernel
theorem dX12_tank_21 : decode cX12_tank 21 = .ok (.ifCond .ne 6, 3) := by decide +kernel
theorem dX12_tank_24 : decode cX12_tank 24 = .ok (.ldc 127, 2) := by decide +kernel
theorem dX12_tank_26 : decode cX12_tank 26 = .ok (.ireturn, 1) := by decide +kernel
theorem dX12_tank_27 : decode cX12_tank 27 = .ok (.aload_n 0, 1) := by decide +kernel
theorem dX12_tank_28 : decode cX12_tank 28 = .ok (.getfield 40, 3) := by decide +kernel
theorem dX12_tank_31 : decode cX12_tank 31 = .ok (.iload_n 1, 1) := by decide +kernel
theorem dX12_tank_32 : decode cX12_tank 32 = .ok (.iaload, 1) := by decide +kernel
theorem dX12_tank_33 : decode cX12_tank 33 = .ok (.ifCond .ne 20, 3) := by decide +kernel
theorem dX12_tank_36 : decode cX12_tank 36 = .ok (.iload_n 2, 1) := by decide +kernel
theorem dX12_tank_37 : decode cX12_tank 37 = .ok (.iconst 2, 1) := by decide +kernel
theorem dX12_tank_38 : decode cX12_tank 38 = .ok (.if_icmp .lt 8, 3) := by decide +kernel
theorem dX12_tank_41 : decode cX12_tank 41 = .ok (.iload_n 2, 1) := by decide +kernel
theorem dX12_tank_42 : decode cX12_tank 42 = .ok (.iconst 3, 1) := by decide +kernel
theorem dX12_tank_43 : decode cX12_tank 43 = .ok (.if_icmp .ne 7, 3) := by decide +kernel
theorem dX12_tank_46 : decode cX12_tank 46 = .ok (.iconst 0, 1) := by decide +kernel
theorem dX12_tank_47 : decode cX12_tank 47 = .ok (.goto 5, 3) := by decide +kernel
theorem dX12_tank_50 : decode cX12_tank 50 = .ok (.ldc 143, 2) := by decide +kernel
theorem dX12_tank_52 : decode cX12_tank 52 = .ok (.ireturn, 1) := by decide +kernel
theorem dX12_tank_53 : decode cX12_tank 53 = .ok (.iload_n 2, 1) := by decide +kernel
theorem dX12_tank_54 : decode cX12_tank 54 = .ok (.tableswitch 80 0 5 #[38, 45, 52, 59, 66, 73], 38) := by decide +kernel
theorem dX12_tank_92 : decode cX12_tank 92 = .ok (.aload_n 0, 1) := by decide +kernel
theorem dX12_tank_93 : decode cX12_tank 93 = .ok (.getfield 40, 3) := by decide +kernel
theorem dX12_tank_96 : decode cX12_tank 96 = .ok (.iload_n 1, 1) := by decide +kernel
theorem dX12_tank_97 : decode cX12_tank 97 = .ok (.iaload, 1) := by decide +kernel
theorem dX12_tank_98 : decode cX12_tank 98 = .ok (.ireturn, 1) := by decide +kernel
theorem dX12_tank_99 : decode cX12_tank 99 = .ok (.aload_n 0, 1) := by decide +kernel
theorem dX12_tank_100 : decode cX12_tank 100 = .ok (.getfield 43, 3) := by decide +kernel
theorem dX12_tank_103 : decode cX12_tank 103 = .ok (.iload_n 1, 1) := by decide +kernel
theorem dX12_tank_104 : decode cX12_tank 104 = .ok (.iaload, 1) := by decide +kernel
theorem dX12_tank_105 : decode cX12_tank 105 = .ok (.ireturn, 1) := by decide +kernel
theorem dX12_tank_106 : decode cX12_tank 106 = .ok (.aload_n 0, 1) := by decide +kernel
theorem dX12_tank_107 : decode cX12_tank 107 = .ok (.getfield 46, 3) := by decide +kernel
theorem dX12_tank_110 : decode cX12_tank 110 = .ok (.iload_n 1, 1) := by decide +kernel
theorem dX12_tank_111 : decode cX12_tank 111 = .ok (.iaload, 1) := by decide +kernel
theorem dX12_tank_112 : decode cX12_tank 112 = .ok (.ireturn, 1) := by decide +kernel
theorem dX12_tank_113 : decode cX12_tank 113 = .ok (.aload_n 0, 1) := by decide +kernel
theorem dX12_tank_114 : decode cX12_tank 114 = .ok (.getfield 49, 3) := by decide +kernel
theorem dX12_tank_117 : decode cX12_tank 117 = .ok (.iload_n 1, 1) := by decide +kernel
theorem dX12_tank_118 : decode cX12_tank 118 = .ok (.iaload, 1) := by decide +kernel
theorem dX12_tank_119 : decode cX12_tank 119 = .ok (.ireturn, 1) := by decide +kernel
theorem dX12_tank_120 : decode cX12_tank 120 = .ok (.aload_n 0, 1) := by decide +kernel
theorem dX12_tank_121 : decode cX12_tank 121 = .ok (.getfield 52, 3) := by decide +kernel
theorem dX12_tank_124 : decode cX12_tank 124 = .ok (.iload_n 1, 1) := by decide +kernel
theorem dX12_tank_125 : decode cX12_tank 125 = .ok (.iaload, 1) := by decide +kernel
theorem dX12_tank_126 : decode cX12_tank 126 = .ok (.ireturn, 1) := by decide +kernel
theorem dX12_tank_127 : decode cX12_tank 127 = .ok (.aload_n 0, 1) := by decide +kernel
theorem dX12_tank_128 : decode cX12_tank 128 = .ok (.getfield 55, 3) := by decide +kernel
theorem dX12_tank_131 : decode cX12_tank 131 = .ok (.iload_n 1, 1) := by decide +kernel
theorem dX12_tank_132 : decode cX12_tank 132 = .ok (.iaload, 1) := by decide +kernel
theorem dX12_tank_133 : decode cX12_tank 133 = .ok (.ireturn, 1) := by decide +kernel
theorem dX12_tank_134 : decode cX12_tank 134 = .ok (.aload_n 0, 1) := by decide +kernel
theorem dX12_tank_135 : decode cX12_tank 135 = .ok (.getfield 52, 3) := by decide +kernel
theorem dX12_tank_138 : decode cX12_tank 138 = .ok (.iload_n 1, 1) := by decide +kernel
theorem dX12_tank_139 : decode cX12_tank 139 = .ok (.iaload, 1) := by decide +kernel
theorem dX12_tank_140 : decode cX12_tank 140 = .ok (.aload_n 0, 1) := by decide +kernel
theorem dX12_tank_141 : decode cX12_tank 141 = .ok (.getfield 55, 3) := by decide +kernel
theorem dX12_tank_144 : decode cX12_tank 144 = .ok (.iload_n 1, 1) := by decide +kernel
theorem dX12_tank_145 : decode cX12_tank 145 = .ok (.iaload, 1) := by decide +kernel
theorem dX12_tank_146 : decode cX12_tank 146 = .ok (.invokestatic 232, 3) := by decide +kernel
theorem dX12_tank_149 : decode cX12_tank 149 = .ok (.ireturn, 1) := by decide +kernel
def bX12_tank_0 (f1 f2 f3 : ox_F) (rc : Nat → ox_K) : ox_K := o_al 0 (o_ic (0) (o_puti 12 0 (o_il 1 (o_ct f1 1 (o_ifeq (rc 24) (o_il 2 (o_i2l (o_lc (0) (o_lc (6) (o_ct f2 3 (o_ifne (rc 27) (rc 24))))))))))))
def bX12_tank_24 (f1 f2 f3 : ox_F) (rc : Nat → ox_K) : ox_K := o_ic (-1000001) (o_iret)
def bX12_tank_27 (f1 f2 f3 : ox_F) (rc : Nat → ox_K) : ox_K := o_al 0 (o_getr 12 25 (o_il 1 (o_ia (o_ifne (rc 53) (o_il 2 (o_ic (2) (o_iclt (rc 46) (o_il 2 (o_ic (3) (o_icne (rc 50) (rc 46)))))))))))
def bX12_tank_46 (f1 f2 f3 : ox_F) (rc : Nat → ox_K) : ox_K := o_ic (0) (rc 52)
def bX12_tank_50 (f1 f2 f3 : ox_F) (rc : Nat → ox_K) : ox_K := o_ic (-1000000) (rc 52)
def bX12_tank_52 (f1 f2 f3 : ox_F) (rc : Nat → ox_K) : ox_K := o_iret
def bX12_tank_53 (f1 f2 f3 : ox_F) (rc : Nat → ox_K) : ox_K := o_il 2 (o_tsw 0 [rc 92, rc 99, rc 106, rc 113, rc 120, rc 127] (rc 134))
def bX12_tank_92 (f1 f2 f3 : ox_F) (rc : Nat → ox_K) : ox_K := o_al 0 (o_getr 12 25 (o_il 1 (o_ia (o_iret))))
def bX12_tank_99 (f1 f2 f3 : ox_F) (rc : Nat → ox_K) : ox_K := o_al 0 (o_getr 12 26 (o_il 1 (o_ia (o_iret))))
def bX12_tank_106 (f1 f2 f3 : ox_F) (rc : Nat → ox_K) : ox_K := o_al 0 (o_getr 12 27 (o_il 1 (o_ia (o_iret))))
def bX12_tank_113 (f1 f2 f3 : ox_F) (rc : Nat → ox_K) : ox_K := o_al 0 (o_getr 12 28 (o_il 1 (o_ia (o_iret))))
def bX12_tank_120 (f1 f2 f3 : ox_F) (rc : Nat → ox_K) : ox_K := o_al 0 (o_getr 12 29 (o_il 1 (o_ia (o_iret))))
def bX12_tank_127 (f1 f2 f3 : ox_F) (rc : Nat → ox_K) : ox_K := o_al 0 (o_getr 12 30 (o_il 1 (o_ia (o_iret))))
def bX12_tank_134 (f1 f2 f3 : ox_F) (rc : Nat → ox_K) : ox_K := o_al 0 (o_getr 12 29 (o_il 1 (o_ia (o_al 0 (o_getr 12 30 (o_il 1 (o_ia (o_ct f3 2 (o_iret)))))))))
section SX12_tank
variable {p : Program} {l : Launch} {e : Env} {R : Room} {s : State} {m : MethodId} {args : Array Value} {below : List Frame} {meth : Method} {c : Code} {g : ox_G} {c0 t0 dp d1 d2 d3 : Nat} {rc : Nat → ox_K} {f1 f2 f3 : ox_F}
set_option maxRecDepth 100000 in
theorem kX12_tank_0 (C : ox_C p s m args c g 3 cX12_tank RX12) (hr : meth.sig.returnType = (some .int)) (hlk : meth.locks = false) (hnm : meth.name = "tank") (hR : R.frames = dp ∧ R.locals = 60 * dp) (h1 : ox_Sem yX12_isTank cX12_isTank 1 (some .boolean) d1 f1) (e1 : d1 + 1 ≤ dp) (h2 : ox_Sem yX12_in cX12_in 6 (some .boolean) d2 f2) (e2 : d2 + 1 ≤ dp) (h3 : ox_Sem yX12_stateOf cX12_stateOf 2 (some .int) d3 f3) (e3 : d3 + 1 ≤ dp) (hrc : ∀ b, ox_S p l e R s m args below meth c g 3 c0 t0 (ox_QM g below args s c0 t0) b (rc b)) : ox_S p l e R s m args below meth c g 3 c0 t0 (ox_QM g below args s c0 t0) 0 (bX12_tank_0 f1 f2 f3 rc) := by
  refine s_aload_n (pc := 0) C dX12_tank_0 rfl ?_
  refine s_iconst (pc := 1) C dX12_tank_1 (by decide) ?_
  refine s_puti (pc := 2) (j := 0) (q := (RX12, TX12, 59)) C rfl (by decide) rfl (Or.inl rfl) wF_X12_108 dX12_tank_2 ?_
  refine s_iload_n (pc := 5) C dX12_tank_5 rfl ?_
  refine s_ct (pc := 6) C h1 wM_X12_235 wT_X12_isTank wN_X12 wC_X12_isTank (by decide +kernel) (ox_lv hR e1 (by decide)) dX12_tank_6 ?_
  refine s_ifeq (pc := 9) 24 C dX12_tank_9 (by decide) (hrc 24) ?_
  refine s_iload_n (pc := 12) C dX12_tank_12 rfl ?_
  refine s_i2l (pc := 13) C dX12_tank_13 ?_
  refine s_lconst (pc := 14) C dX12_tank_14 (by decide) ?_
  refine s_ldc2 (pc := 15) C wL_X12_250 dX12_tank_15 ?_
  refine s_ct (pc := 18) C h2 wM_X12_117 wT_X12_in wN_X12 wC_X12_in (by decide +kernel) (ox_lv hR e2 (by decide)) dX12_tank_18 ?_
  refine s_ifne (pc := 21) 27 C dX12_tank_21 (by decide) (hrc 27) ?_
  exact hrc 24
set_option maxRecDepth 100000 in
theorem kX12_tank_24 (C : ox_C p s m args c g 3 cX12_tank RX12) (hr : meth.sig.returnType = (some .int)) (hlk : meth.locks = false) (hnm : meth.name = "tank") (hR : R.frames = dp ∧ R.locals = 60 * dp) (h1 : ox_Sem yX12_isTank cX12_isTank 1 (some .boolean) d1 f1) (e1 : d1 + 1 ≤ dp) (h2 : ox_Sem yX12_in cX12_in 6 (some .boolean) d2 f2) (e2 : d2 + 1 ≤ dp) (h3 : ox_Sem yX12_stateOf cX12_stateOf 2 (some .int) d3 f3) (e3 : d3 + 1 ≤ dp) (hrc : ∀ b, ox_S p l e R s m args below meth c g 3 c0 t0 (ox_QM g below args s c0 t0) b (rc b)) : ox_S p l e R s m args below meth c g 3 c0 t0 (ox_QM g below args s c0 t0) 24 (bX12_tank_24 f1 f2 f3 rc) := by
  refine s_ldc (pc := 24) C wK_X12_127 dX12_tank_24 ?_
  exact s_iret (pc := 26) C hr hlk dX12_tank_26
set_option maxRecDepth 100000 in
theorem kX12_tank_27 (C : ox_C p s m args c g 3 cX12_tank RX12) (hr : meth.sig.returnType = (some .int)) (hlk : meth.locks = false) (hnm : meth.name = "tank") (hR : R.frames = dp ∧ R.locals = 60 * dp) (h1 : ox_Sem yX12_isTank cX12_isTank 1 (some .boolean) d1 f1) (e1 : d1 + 1 ≤ dp) (h2 : ox_Sem yX12_in cX12_in 6 (some .boolean) d2 f2) (e2 : d2 + 1 ≤ dp) (h3 : ox_Sem yX12_stateOf cX12_stateOf 2 (some .int) d3 f3) (e3 : d3 + 1 ≤ dp) (hrc : ∀ b, ox_S p l e R s m args below meth c g 3 c0 t0 (ox_QM g below args s c0 t0) b (rc b)) : ox_S p l e R s m args below meth c g 3 c0 t0 (ox_QM g below args s c0 t0) 27 (bX12_tank_27 f1 f2 f3 rc) := by
  refine s_aload_n (pc := 27) C dX12_tank_27 rfl ?_
  refine s_getr (pc := 28) (j := 25) (q := (RX12, TX12, 59)) C rfl (by decide) rfl wF_X12_40 dX12_tank_28 ?_
  refine s_iload_n (pc := 31) C dX12_tank_31 rfl ?_
  refine s_ia (pc := 32) C dX12_tank_32 ?_
  refine s_ifne (pc := 33) 53 C dX12_tank_33 (by decide) (hrc 53) ?_
  refine s_iload_n (pc := 36) C dX12_tank_36 rfl ?_
  refine s_iconst (pc := 37) C dX12_tank_37 (by decide) ?_
  refine s_icmplt (pc := 38) 46 C dX12_tank_38 (by decide) (hrc 46) ?_
  refine s_iload_n (pc := 41) C dX12_tank_41 rfl ?_
  refine s_iconst (pc := 42) C dX12_tank_42 (by decide) ?_
  refine s_icmpne (pc := 43) 50 C dX12_tank_43 (by decide) (hrc 50) ?_
  exact hrc 46
set_option maxRecDepth 100000 in
theorem kX12_tank_46 (C : ox_C p s m args c g 3 cX12_tank RX12) (hr : meth.sig.returnType = (some .int)) (hlk : meth.locks = false) (hnm : meth.name = "tank") (hR : R.frames = dp ∧ R.locals = 60 * dp) (h1 : ox_Sem yX12_isTank cX12_isTank 1 (some .boolean) d1 f1) (e1 : d1 + 1 ≤ dp) (h2 : ox_Sem yX12_in cX12_in 6 (some .boolean) d2 f2) (e2 : d2 + 1 ≤ dp) (h3 : ox_Sem yX12_stateOf cX12_stateOf 2 (some .int) d3 f3) (e3 : d3 + 1 ≤ dp) (hrc : ∀ b, ox_S p l e R s m args below meth c g 3 c0 t0 (ox_QM g below args s c0 t0) b (rc b)) : ox_S p l e R s m args below meth c g 3 c0 t0 (ox_QM g below args s c0 t0) 46 (bX12_tank_46 f1 f2 f3 rc) := by
  refine s_iconst (pc := 46) C dX12_tank_46 (by decide) ?_
  exact s_goto (pc := 47) 52 C dX12_tank_47 (by decide) (hrc 52)
set_option maxRecDepth 100000 in
theorem kX12_tank_50 (C : ox_C p s m args c g 3 cX12_tank RX12) (hr : meth.sig.returnType = (some .int)) (hlk : meth.locks = false) (hnm : meth.name = "tank") (hR : R.frames = dp ∧ R.locals = 60 * dp) (h1 : ox_Sem yX12_isTank cX12_isTank 1 (some .boolean) d1 f1) (e1 : d1 + 1 ≤ dp) (h2 : ox_Sem yX12_in cX12_in 6 (some .boolean) d2 f2) (e2 : d2 + 1 ≤ dp) (h3 : ox_Sem yX12_stateOf cX12_stateOf 2 (some .int) d3 f3) (e3 : d3 + 1 ≤ dp) (hrc : ∀ b, ox_S p l e R s m args below meth c g 3 c0 t0 (ox_QM g below args s c0 t0) b (rc b)) : ox_S p l e R s m args below meth c g 3 c0 t0 (ox_QM g below args s c0 t0) 50 (bX12_tank_50 f1 f2 f3 rc) := by
  refine s_ldc (pc := 50) C wK_X12_143 dX12_tank_50 ?_
  exact hrc 52
set_option maxRecDepth 100000 in
theorem kX12_tank_52 (C : ox_C p s m args c g 3 cX12_tank RX12) (hr : meth.sig.returnType = (some .int)) (hlk : meth.locks = false) (hnm : meth.name = "tank") (hR : R.frames = dp ∧ R.locals = 60 * dp) (h1 : ox_Sem yX12_isTank cX12_isTank 1 (some .boolean) d1 f1) (e1 : d1 + 1 ≤ dp) (h2 : ox_Sem yX12_in cX12_in 6 (some .boolean) d2 f2) (e2 : d2 + 1 ≤ dp) (h3 : ox_Sem yX12_stateOf cX12_stateOf 2 (some .int) d3 f3) (e3 : d3 + 1 ≤ dp) (hrc : ∀ b, ox_S p l e R s m args below meth c g 3 c0 t0 (ox_QM g below args s c0 t0) b (rc b)) : ox_S p l e R s m args below meth c g 3 c0 t0 (ox_QM g below args s c0 t0) 52 (bX12_tank_52 f1 f2 f3 rc) := by
  exact s_iret (pc := 52) C hr hlk dX12_tank_52
set_option maxRecDepth 100000 in
theorem kX12_tank_53 (C : ox_C p s m args c g 3 cX12_tank RX12) (hr : meth.sig.returnType = (some .int)) (hlk : meth.locks = false) (hnm : meth.name = "tank") (hR : R.frames = dp ∧ R.locals = 60 * dp) (h1 : ox_Sem yX12_isTank cX12_isTank 1 (some .boolean) d1 f1) (e1 : d1 + 1 ≤ dp) (h2 : ox_Sem yX12_in cX12_in 6 (some .boolean) d2 f2) (e2 : d2 + 1 ≤ dp) (h3 : ox_Sem yX12_stateOf cX12_stateOf 2 (some .int) d3 f3) (e3 : d3 + 1 ≤ dp) (hrc : ∀ b, ox_S p l e R s m args below meth c g 3 c0 t0 (ox_QM g below args s c0 t0) b (rc b)) : ox_S p l e R s m args below meth c g 3 c0 t0 (ox_QM g below args s c0 t0) 53 (bX12_tank_53 f1 f2 f3 rc) := by
  refine s_iload_n (pc := 53) C dX12_tank_53 rfl ?_
  exact s_tsw (pc := 54) 134 [92, 99, 106, 113, 120, 127] C dX12_tank_54 (by decide) rfl (by decide +kernel) (hrc 134) (ox_ts hrc [92, 99, 106, 113, 120, 127]) rfl
set_option maxRecDepth 100000 in
theorem kX12_tank_92 (C : ox_C p s m args c g 3 cX12_tank RX12) (hr : meth.sig.returnType = (some .int)) (hlk : meth.locks = false) (hnm : meth.name = "tank") (hR : R.frames = dp ∧ R.locals = 60 * dp) (h1 : ox_Sem yX12_isTank cX12_isTank 1 (some .boolean) d1 f1) (e1 : d1 + 1 ≤ dp) (h2 : ox_Sem yX12_in cX12_in 6 (some .boolean) d2 f2) (e2 : d2 + 1 ≤ dp) (h3 : ox_Sem yX12_stateOf cX12_stateOf 2 (some .int) d3 f3) (e3 : d3 + 1 ≤ dp) (hrc : ∀ b, ox_S p l e R s m args below meth c g 3 c0 t0 (ox_QM g below args s c0 t0) b (rc b)) : ox_S p l e R s m args below meth c g 3 c0 t0 (ox_QM g below args s c0 t0) 92 (bX12_tank_92 f1 f2 f3 rc) := by
  refine s_aload_n (pc := 92) C dX12_tank_92 rfl ?_
  refine s_getr (pc := 93) (j := 25) (q := (RX12, TX12, 59)) C rfl (by decide) rfl wF_X12_40 dX12_tank_93 ?_
  refine s_iload_n (pc := 96) C dX12_tank_96 rfl ?_
  refine s_ia (pc := 97) C dX12_tank_97 ?_
  exact s_iret (pc := 98) C hr hlk dX12_tank_98
set_option maxRecDepth 100000 in
theorem kX12_tank_99 (C : ox_C p s m args c g 3 cX12_tank RX12) (hr : meth.sig.returnType = (some .int)) (hlk : meth.locks = false) (hnm : meth.name = "tank") (hR : R.frames = dp ∧ R.locals = 60 * dp) (h1 : ox_Sem yX12_isTank cX12_isTank 1 (some .boolean) d1 f1) (e1 : d1 + 1 ≤ dp) (h2 : ox_Sem yX12_in cX12_in 6 (some .boolean) d2 f2) (e2 : d2 + 1 ≤ dp) (h3 : ox_Sem yX12_stateOf cX12_stateOf 2 (some .int) d3 f3) (e3 : d3 + 1 ≤ dp) (hrc : ∀ b, ox_S p l e R s m args below meth c g 3 c0 t0 (ox_QM g below args s c0 t0) b (rc b)) : ox_S p l e R s m args below meth c g 3 c0 t0 (ox_QM g below args s c0 t0) 99 (bX12_tank_99 f1 f2 f3 rc) := by
  refine s_aload_n (pc := 99) C dX12_tank_99 rfl ?_
  refine s_getr (pc := 100) (j := 26) (q := (RX12, TX12, 59)) C rfl (by decide) rfl wF_X12_43 dX12_tank_100 ?_
  refine s_iload_n (pc := 103) C dX12_tank_103 rfl ?_
  refine s_ia (pc := 104) C dX12_tank_104 ?_
  exact s_iret (pc := 105) C hr hlk dX12_tank_105
set_option maxRecDepth 100000 in
theorem kX12_tank_106 (C : ox_C p s m args c g 3 cX12_tank RX12) (hr : meth.sig.returnType = (some .int)) (hlk : meth.locks = false) (hnm : meth.name = "tank") (hR : R.frames = dp ∧ R.locals = 60 * dp) (h1 : ox_Sem yX12_isTank cX12_isTank 1 (some .boolean) d1 f1) (e1 : d1 + 1 ≤ dp) (h2 : ox_Sem yX12_in cX12_in 6 (some .boolean) d2 f2) (e2 : d2 + 1 ≤ dp) (h3 : ox_Sem yX12_stateOf cX12_stateOf 2 (some .int) d3 f3) (e3 : d3 + 1 ≤ dp) (hrc : ∀ b, ox_S p l e R s m args below meth c g 3 c0 t0 (ox_QM g below args s c0 t0) b (rc b)) : ox_S p l e R s m args below meth c g 3 c0 t0 (ox_QM g below args s c0 t0) 106 (bX12_tank_106 f1 f2 f3 rc) := by
  refine s_aload_n (pc := 106) C dX12_tank_106 rfl ?_
  refine s_getr (pc := 107) (j := 27) (q := (RX12, TX12, 59)) C rfl (by decide) rfl wF_X12_46 dX12_tank_107 ?_
  refine s_iload_n (pc := 110) C dX12_tank_110 rfl ?_
  refine s_ia (pc := 111) C dX12_tank_111 ?_
  exact s_iret (pc := 112) C hr hlk dX12_tank_112
set_option maxRecDepth 100000 in
theorem kX12_tank_113 (C : ox_C p s m args c g 3 cX12_tank RX12) (hr : meth.sig.returnType = (some .int)) (hlk : meth.locks = false) (hnm : meth.name = "tank") (hR : R.frames = dp ∧ R.locals = 60 * dp) (h1 : ox_Sem yX12_isTank cX12_isTank 1 (some .boolean) d1 f1) (e1 : d1 + 1 ≤ dp) (h2 : ox_Sem yX12_in cX12_in 6 (some .boolean) d2 f2) (e2 : d2 + 1 ≤ dp) (h3 : ox_Sem yX12_stateOf cX12_stateOf 2 (some .int) d3 f3) (e3 : d3 + 1 ≤ dp) (hrc : ∀ b, ox_S p l e R s m args below meth c g 3 c0 t0 (ox_QM g below args s c0 t0) b (rc b)) : ox_S p l e R s m args below meth c g 3 c0 t0 (ox_QM g below args s c0 t0) 113 (bX12_tank_113 f1 f2 f3 rc) := by
  refine s_aload_n (pc := 113) C dX12_tank_113 rfl ?_
  refine s_getr (pc := 114) (j := 28) (q := (RX12, TX12, 59)) C rfl (by decide) rfl wF_X12_49 dX12_tank_114 ?_
  refine s_iload_n (pc := 117) C dX12_tank_117 rfl ?_
  refine s_ia (pc := 118) C dX12_tank_118 ?_
  exact s_iret (pc := 119) C hr hlk dX12_tank_119
set_option maxRecDepth 100000 in
theorem kX12_tank_120 (C : ox_C p s m args c g 3 cX12_tank RX12) (hr : meth.sig.returnType = (some .int)) (hlk : meth.locks = false) (hnm : meth.name = "tank") (hR : R.frames = dp ∧ R.locals = 60 * dp) (h1 : ox_Sem yX12_isTank cX12_isTank 1 (some .boolean) d1 f1) (e1 : d1 + 1 ≤ dp) (h2 : ox_Sem yX12_in cX12_in 6 (some .boolean) d2 f2) (e2 : d2 + 1 ≤ dp) (h3 : ox_Sem yX12_stateOf cX12_stateOf 2 (some .int) d3 f3) (e3 : d3 + 1 ≤ dp) (hrc : ∀ b, ox_S p l e R s m args below meth c g 3 c0 t0 (ox_QM g below args s c0 t0) b (rc b)) : ox_S p l e R s m args below meth c g 3 c0 t0 (ox_QM g below args s c0 t0) 120 (bX12_tank_120 f1 f2 f3 rc) := by
  refine s_aload_n (pc := 120) C dX12_tank_120 rfl ?_
  refine s_getr (pc := 121) (j := 29) (q := (RX12, TX12, 59)) C rfl (by decide) rfl wF_X12_52 dX12_tank_121 ?_
  refine s_iload_n (pc := 124) C dX12_tank_124 rfl ?_
  refine s_ia (pc := 125) C dX12_tank_125 ?_
  exact s_iret (pc := 126) C hr hlk dX12_tank_126
set_option maxRecDepth 100000 in
theorem kX12_tank_127 (C : ox_C p s m args c g 3 cX12_tank RX12) (hr : meth.sig.returnType = (some .int)) (hlk : meth.locks = false) (hnm : meth.name = "tank") (hR : R.frames = dp ∧ R.locals = 60 * dp) (h1 : ox_Sem yX12_isTank cX12_isTank 1 (some .boolean) d1 f1) (e1 : d1 + 1 ≤ dp) (h2 : ox_Sem yX12_in cX12_in 6 (some .boolean) d2 f2) (e2 : d2 + 1 ≤ dp) (h3 : ox_Sem yX12_stateOf cX12_stateOf 2 (some .int) d3 f3) (e3 : d3 + 1 ≤ dp) (hrc : ∀ b, ox_S p l e R s m args below meth c g 3 c0 t0 (ox_QM g below args s c0 t0) b (rc b)) : ox_S p l e R s m args below meth c g 3 c0 t0 (ox_QM g below args s c0 t0) 127 (bX12_tank_127 f1 f2 f3 rc) := by
  refine s_aload_n (pc := 127) C dX12_tank_127 rfl ?_
  refine s_getr (pc := 128) (j := 30) (q := (RX12, TX12, 59)) C rfl (by decide) rfl wF_X12_55 dX12_tank_128 ?_
  refine s_iload_n (pc := 131) C dX12_tank_131 rfl ?_
  refine s_ia (pc := 132) C dX12_tank_132 ?_
  exact s_iret (pc := 133) C hr hlk dX12_tank_133
set_option maxRecDepth 100000 in
theorem kX12_tank_134 (C : ox_C p s m args c g 3 cX12_tank RX12) (hr : meth.sig.returnType = (some .int)) (hlk : meth.locks = false) (hnm : meth.name = "tank") (hR : R.frames = dp ∧ R.locals = 60 * dp) (h1 : ox_Sem yX12_isTank cX12_isTank 1 (some .boolean) d1 f1) (e1 : d1 + 1 ≤ dp) (h2 : ox_Sem yX12_in cX12_in 6 (some .boolean) d2 f2) (e2 : d2 + 1 ≤ dp) (h3 : ox_Sem yX12_stateOf cX12_stateOf 2 (some .int) d3 f3) (e3 : d3 + 1 ≤ dp) (hrc : ∀ b, ox_S p l e R s m args below meth c g 3 c0 t0 (ox_QM g below args s c0 t0) b (rc b)) : ox_S p l e R s m args below meth c g 3 c0 t0 (ox_QM g below args s c0 t0) 134 (bX12_tank_134 f1 f2 f3 rc) := by
  refine s_aload_n (pc := 134) C dX12_tank_134 rfl ?_
  refine s_getr (pc := 135) (j := 29) (q := (RX12, TX12, 59)) C rfl (by decide) rfl wF_X12_52 dX12_tank_135 ?_
  refine s_iload_n (pc := 138) C dX12_tank_138 rfl ?_
  refine s_ia (pc := 139) C dX12_tank_139 ?_
  refine s_aload_n (pc := 140) C dX12_tank_140 rfl ?_
  refine s_getr (pc := 141) (j := 30) (q := (RX12, TX12, 59)) C rfl (by decide) rfl wF_X12_55 dX12_tank_141 ?_
  refine s_iload_n (pc := 144) C dX12_tank_144 rfl ?_
  refine s_ia (pc := 145) C dX12_tank_145 ?_
  refine s_ct (pc := 146) C h3 wM_X12_232 wT_X12_stateOf wN_X12 wC_X12_stateOf (by decide +kernel) (ox_lv hR e3 (by decide)) dX12_tank_146 ?_
  exact s_iret (pc := 149) C hr hlk dX12_tank_149
end SX12_tank
def bsX12_tank (f1 f2 f3 : ox_F) (b : Nat) (rc : Nat → ox_K) : ox_K := if b = 0 then bX12_tank_0 f1 f2 f3 rc else if b = 24 then bX12_tank_24 f1 f2 f3 rc else if b = 27 then bX12_tank_27 f1 f2 f3 rc else if b = 46 then bX12_tank_46 f1 f2 f3 rc else if b = 50 then bX12_tank_50 f1 f2 f3 rc else if b = 52 then bX12_tank_52 f1 f2 f3 rc else if b = 53 then bX12_tank_53 f1 f2 f3 rc else if b = 92 then bX12_tank_92 f1 f2 f3 rc else if b = 99 then bX12_tank_99 f1 f2 f3 rc else if b = 106 then bX12_tank_106 f1 f2 f3 rc else if b = 113 then bX12_tank_113 f1 f2 f3 rc else if b = 120 then bX12_tank_120 f1 f2 f3 rc else if b = 127 then bX12_tank_127 f1 f2 f3 rc else if b = 134 then bX12_tank_134 f1 f2 f3 rc else ox_no
theorem mX12_tank {dp d1 d2 d3 : Nat} {f1 f2 f3 f : ox_F} (h1 : ox_Sem yX12_isTank cX12_isTank 1 (some .boolean) d1 f1) (e1 : d1 + 1 ≤ dp) (h2 : ox_Sem yX12_in cX12_in 6 (some .boolean) d2 f2) (e2 : d2 + 1 ≤ dp) (h3 : ox_Sem yX12_stateOf cX12_stateOf 2 (some .int) d3 f3) (e3 : d3 + 1 ≤ dp) (hf : ∀ as h r, f as h = some r → ox_cs as ≤ 3 ∧ ox_le h r.2 ∧ ∃ n, ox_run (bsX12_tank f1 f2 f3) n 0 (lv_args 0 as) [] h = some r) : ox_Sem yX12_tank cX12_tank 3 (some .int) dp f := by
  refine ox_meth (bs := bsX12_tank f1 f2 f3) (by decide) hf ?_
  intro p l e R s m args below meth c g c0 t0 C hr hlk hnm hR rc hrc b
  unfold bsX12_tank
  refine ox_br (kX12_tank_0 C hr hlk hnm hR h1 e1 h2 e2 h3 e3 hrc) ?_
  refine ox_br (kX12_tank_24 C hr hlk hnm hR h1 e1 h2 e2 h3 e3 hrc) ?_
  refine ox_br (kX12_tank_27 C hr hlk hnm hR h1 e1 h2 e2 h3 e3 hrc) ?_
  refine ox_br (kX12_tank_46 C hr hlk hnm hR h1 e1 h2 e2 h3 e3 hrc) ?_
  refine ox_br (kX12_tank_50 C hr hlk hnm hR h1 e1 h2 e2 h3 e3 hrc) ?_
  refine ox_br (kX12_tank_52 C hr hlk hnm hR h1 e1 h2 e2 h3 e3 hrc) ?_
  refine ox_br (kX12_tank_53 C hr hlk hnm hR h1 e1 h2 e2 h3 e3 hrc) ?_
  refine ox_br (kX12_tank_92 C hr hlk hnm hR h1 e1 h2 e2 h3 e3 hrc) ?_
  refine ox_br (kX12_tank_99 C hr hlk hnm hR h1 e1 h2 e2 h3 e3 hrc) ?_
  refine ox_br (kX12_tank_106 C hr hlk hnm hR h1 e1 h2 e2 h3 e3 hrc) ?_
  refine ox_br (kX12_tank_113 C hr hlk hnm hR h1 e1 h2 e2 h3 e3 hrc) ?_
  refine ox_br (kX12_tank_120 C hr hlk hnm hR h1 e1 h2 e2 h3 e3 hrc) ?_
  refine ox_br (kX12_tank_127 C hr hlk hnm hR h1 e1 h2 e2 h3 e3 hrc) ?_
  refine ox_br (kX12_tank_134 C hr hlk hnm hR h1 e1 h2 e2 h3 e3 hrc) ?_
  exact s_no
theorem dX12_mouldAt_0 : decode cX12_mouldAt 0 = .ok (.iload_n 1, 1) := by decide +kernel
theorem dX12_mouldAt_1 : decode cX12_mouldAt 1 = .ok (.aload_n 0, 1) := by decide +kernel
theorem dX12_mouldAt_2 : decode cX12_mouldAt 2 = .ok (.getfield 252, 3) := by decide +kernel
theorem dX12_mouldAt_5 : decode cX12_mouldAt 5 = .ok (.iadd, 1) := by decide +kernel
theorem dX12_mouldAt_6 : decode cX12_mouldAt 6 = .ok (.aload_n 0, 1) := by decide +kernel
theorem dX12_mouldAt_7 : decode cX12_mouldAt 7 = .ok (.getfield 58, 3) := by decide +kernel
theorem dX12_mouldAt_10 : decode cX12_mouldAt 10 = .ok (.irem, 1) := by decide +kernel
theorem dX12_mouldAt_11 : decode cX12_mouldAt 11 = .ok (.ireturn, 1) := by decide +kernel
def bX12_mouldAt_0 (rc : Nat → ox_K) : ox_K := o_il 1 (o_al 0 (o_geti 12 34 (o_iadd (o_al 0 (o_geti 12 33 (o_irem (o_iret)))))))
section SX12_mouldAt
variable {p : Program} {l : Launch} {e : Env} {R : Room} {s : State} {m : MethodId} {args : Array Value} {below : List Frame} {meth : Method} {c : Code} {g : ox_G} {c0 t0 dp  : Nat} {rc : Nat → ox_K}
set_option maxRecDepth 100000 in
theorem kX12_mouldAt_0 (C : ox_C p s m args c g 2 cX12_mouldAt RX12) (hr : meth.sig.returnType = (some .int)) (hlk : meth.locks = false) (hnm : meth.name = "mouldAt") (hR : R.frames = dp ∧ R.locals = 60 * dp) (hrc : ∀ b, ox_S p l e R s m args below meth c g 2 c0 t0 (ox_QM g below args s c0 t0) b (rc b)) : ox_S p l e R s m args below meth c g 2 c0 t0 (ox_QM g below args s c0 t0) 0 (bX12_mouldAt_0 rc) := by
  refine s_iload_n (pc := 0) C dX12_mouldAt_0 rfl ?_
  refine s_aload_n (pc := 1) C dX12_mouldAt_1 rfl ?_
  refine s_geti (pc := 2) (j := 34) (q := (RX12, TX12, 59)) C rfl (by decide) rfl wF_X12_252 dX12_mouldAt_2 ?_
  refine s_iadd (pc := 5) C dX12_mouldAt_5 ?_
  refine s_aload_n (pc := 6) C dX12_mouldAt_6 rfl ?_
  refine s_geti (pc := 7) (j := 33) (q := (RX12, TX12, 59)) C rfl (by decide) rfl wF_X12_58 dX12_mouldAt_7 ?_
  refine s_irem (pc := 10) C dX12_mouldAt_10 ?_
  exact s_iret (pc := 11) C hr hlk dX12_mouldAt_11
end SX12_mouldAt
def bsX12_mouldAt (b : Nat) (rc : Nat → ox_K) : ox_K := if b = 0 then bX12_mouldAt_0 rc else ox_no
theorem mX12_mouldAt {dp  : Nat} {f : ox_F} (hf : ∀ as h r, f as h = some r → ox_cs as ≤ 2 ∧ ox_le h r.2 ∧ ∃ n, ox_run (bsX12_mouldAt) n 0 (lv_args 0 as) [] h = some r) : ox_Sem yX12_mouldAt cX12_mouldAt 2 (some .int) dp f := by
  refine ox_meth (bs := bsX12_mouldAt) (by decide) hf ?_
  intro p l e R s m args below meth c g c0 t0 C hr hlk hnm hR rc hrc b
  unfold bsX12_mouldAt
  refine ox_br (kX12_mouldAt_0 C hr hlk hnm hR hrc) ?_
  exact s_no
theorem dX12_belt_0 : decode cX12_belt 0 = .ok (.aload_n 0, 1) := by decide +kernel
theorem dX12_belt_1 : decode cX12_belt 1 = .ok (.iconst 0, 1) := by decide +kernel
theorem dX12_belt_2 : decode cX12_belt 2 = .ok (.putfield 108, 3) := by decide +kernel
theorem dX12_belt_5 : decode cX12_belt 5 = .ok (.iload_n 1, 1) := by decide +kernel
theorem dX12_belt_6 : decode cX12_belt 6 = .ok (.i2l, 1) := by decide +kernel
theorem dX12_belt_7 : decode cX12_belt 7 = .ok (.ldc2_w 250, 3) := by decide +kernel
theorem dX12_belt_10 : decode cX12_belt 10 = .ok (.ldc2_w 255, 3) := by decide +kernel
theorem dX12_belt_13 : decode cX12_belt 13 = .ok (.invokestatic 117, 3) := by decide +kernel
theorem dX12_belt_16 : decode cX12_belt 16 = .ok (.ifCond .ne 6, 3) := by decide +kernel
theorem dX12_belt_19 : decode cX12_belt 19 = .ok (.ldc 127, 2) := by decide +kernel
theorem dX12_belt_21 : decode cX12_belt 21 = .ok (.ireturn, 1) := by decide +kernel
theorem dX12_belt_22 : decode cX12_belt 22 = .ok (.iconst 0, 1) := by decide +kernel
theorem dX12_belt_23 : decode cX12_belt 23 = .ok (.istore_n 2, 1) := by decide +kernel
theorem dX12_belt_24 : decode cX12_belt 24 = .ok (.iload_n 2, 1) := by decide +kernel
theorem dX12_belt_25 : decode cX12_belt 25 = .ok (.aload_n 0, 1) := by decide +kernel
theorem dX12_belt_26 : decode cX12_belt 26 = .ok (.getfield 58, 3) := by decide +kernel
theorem dX12_belt_29 : decode cX12_belt 29 = .ok (.if_icmp .ge 21, 3) := by decide +kernel
theorem dX12_belt_32 : decode cX12_belt 32 = .ok (.aload_n 0, 1) := by decide +kernel
theorem dX12_belt_33 : decode cX12_belt 33 = .ok (.getfield 62, 3) := by decide +kernel
theorem dX12_belt_36 : decode cX12_belt 36 = .ok (.iload_n 2, 1) := by decide +kernel
theorem dX12_belt_37 : decode cX12_belt 37 = .ok (.iaload, 1) := by decide +kernel
theorem dX12_belt_38 : decode cX12_belt 38 = .ok (.ifCond .le 6, 3) := by decide +kernel
theorem dX12_belt_41 : decode cX12_belt 41 = .ok (.ldc 243, 2) := by decide +kernel
theorem dX12_belt_43 : decode cX12_belt 43 = .ok (.ireturn, 1) := by decide +kernel
theorem dX12_belt_44 : decode cX12_belt 44 = .ok (.iinc 2 1, 3) := by decide +kernel
theorem dX12_belt_47 : decode cX12_belt 47 = .ok (.goto (-23), 3) := by decide +kernel
theorem dX12_belt_50 : decode cX12_belt 50 = .ok (.aload_n 0, 1) := by decide +kernel
theorem dX12_belt_51 : decode cX12_belt 51 = .ok (.getfield 58, 3) := by decide +kernel
theorem dX12_belt_54 : decode cX12_belt 54 = .ok (.istore_n 2, 1) := by decide +kernel
theorem dX12_belt_55 : decode cX12_belt 55 = .ok (.aload_n 0, 1) := by decide +kernel
theorem dX12_belt_56 : decode cX12_belt 56 = .ok (.iload_n 1, 1) := by decide +kernel
theorem dX12_belt_57 : decode cX12_belt 57 = .ok (.putfield 58, 3) := by decide +kernel
theorem dX12_belt_60 : decode cX12_belt 60 = .ok (.aload_n 0, 1) := by decide +kernel
theorem dX12_belt_61 : decode cX12_belt 61 = .ok (.iconst 0, 1) := by decide +kernel
theorem dX12_belt_62 : decode cX12_belt 62 = .ok (.putfield 252, 3) := by decide +kernel
theorem dX12_belt_65 : decode cX12_belt 65 = .ok (.iload_n 2, 1) := by decide +kernel
theorem dX12_belt_66 : decode cX12_belt 66 = .ok (.ireturn, 1) := by decide +kernel
def bX12_belt_0 (f1 : ox_F) (rc : Nat → ox_K) : ox_K := o_al 0 (o_ic (0) (o_puti 12 0 (o_il 1 (o_i2l (o_lc (6) (o_lc (15) (o_ct f1 3 (o_ifne (rc 22) (o_ic (-1000001) (o_iret))))))))))
def bX12_belt_22 (f1 : ox_F) (rc : Nat → ox_K) : ox_K := o_ic (0) (o_is 2 (rc 24))
def bX12_belt_24 (f1 : ox_F) (rc : Nat → ox_K) : ox_K := o_keep [0, 1, 2] (o_il 2 (o_al 0 (o_geti 12 33 (o_icge (rc 50) (o_al 0 (o_getr 12 35 (o_il 2 (o_ia (o_ifle (rc 44) (o_ic (-1000002) (o_iret)))))))))))
def bX12_belt_44 (f1 : ox_F) (rc : Nat → ox_K) : ox_K := o_inc 2 (1) (rc 24)
def bX12_belt_50 (f1 : ox_F) (rc : Nat → ox_K) : ox_K := o_al 0 (o_geti 12 33 (o_is 2 (o_al 0 (o_il 1 (o_puti 12 33 (o_al 0 (o_ic (0) (o_puti 12 34 (o_il 2 (o_iret))))))))))
section SX12_belt
variable {p : Program} {l : Launch} {e : Env} {R : Room} {s : State} {m : MethodId} {args : Array Value} {below : List Frame} {meth : Method} {c : Code} {g : ox_G} {c0 t0 dp d1 : Nat} {rc : Nat → ox_K} {f1 : ox_F}
set_option maxRecDepth 100000 in
theorem kX12_belt_0 (C : ox_C p s m args c g 3 cX12_belt RX12) (hr : meth.sig.returnType = (some .int)) (hlk : meth.locks = false) (hnm : meth.name = "belt") (hR : R.frames = dp ∧ R.locals = 60 * dp) (h1 : ox_Sem yX12_in cX12_in 6 (some .boolean) d1 f1) (e1 : d1 + 1 ≤ dp) (hrc : ∀ b, ox_S p l e R s m args below meth c g 3 c0 t0 (ox_QM g below args s c0 t0) b (rc b)) : ox_S p l e R s m args below meth c g 3 c0 t0 (ox_QM g below args s c0 t0) 0 (bX12_belt_0 f1 rc) := by
  refine s_aload_n (pc := 0) C dX12_belt_0 rfl ?_
  refine s_iconst (pc := 1) C dX12_belt_1 (by decide) ?_
  refine s_puti (pc := 2) (j := 0) (q := (RX12, TX12, 59)) C rfl (by decide) rfl (Or.inl rfl) wF_X12_108 dX12_belt_2 ?_
  refine s_iload_n (pc := 5) C dX12_belt_5 rfl ?_
  refine s_i2l (pc := 6) C dX12_belt_6 ?_
  refine s_ldc2 (pc := 7) C wL_X12_250 dX12_belt_7 ?_
  refine s_ldc2 (pc := 10) C wL_X12_255 dX12_belt_10 ?_
  refine s_ct (pc := 13) C h1 wM_X12_117 wT_X12_in wN_X12 wC_X12_in (by decide +kernel) (ox_lv hR e1 (by decide)) dX12_belt_13 ?_
  refine s_ifne (pc := 16) 22 C dX12_belt_16 (by decide) (hrc 22) ?_
  refine s_ldc (pc := 19) C wK_X12_127 dX12_belt_19 ?_
  exact s_iret (pc := 21) C hr hlk dX12_belt_21
set_option maxRecDepth 100000 in
theorem kX12_belt_22 (C : ox_C p s m args c g 3 cX12_belt RX12) (hr : meth.sig.returnType = (some .int)) (hlk : meth.locks = false) (hnm : meth.name = "belt") (hR : R.frames = dp ∧ R.locals = 60 * dp) (h1 : ox_Sem yX12_in cX12_in 6 (some .boolean) d1 f1) (e1 : d1 + 1 ≤ dp) (hrc : ∀ b, ox_S p l e R s m args below meth c g 3 c0 t0 (ox_QM g below args s c0 t0) b (rc b)) : ox_S p l e R s m args below meth c g 3 c0 t0 (ox_QM g below args s c0 t0) 22 (bX12_belt_22 f1 rc) := by
  refine s_iconst (pc := 22) C dX12_belt_22 (by decide) ?_
  refine s_istore_n (pc := 23) C dX12_belt_23 rfl (by decide) ?_
  exact hrc 24
set_option maxRecDepth 100000 in
theorem kX12_belt_24 (C : ox_C p s m args c g 3 cX12_belt RX12) (hr : meth.sig.returnType = (some .int)) (hlk : meth.locks = false) (hnm : meth.name = "belt") (hR : R.frames = dp ∧ R.locals = 60 * dp) (h1 : ox_Sem yX12_in cX12_in 6 (some .boolean) d1 f1) (e1 : d1 + 1 ≤ dp) (hrc : ∀ b, ox_S p l e R s m args below meth c g 3 c0 t0 (ox_QM g below args s c0 t0) b (rc b)) : ox_S p l e R s m args below meth c g 3 c0 t0 (ox_QM g below args s c0 t0) 24 (bX12_belt_24 f1 rc) := by
  refine s_keep ?_
  refine s_iload_n (pc := 24) C dX12_belt_24 rfl ?_
  refine s_aload_n (pc := 25) C dX12_belt_25 rfl ?_
  refine s_geti (pc := 26) (j := 33) (q := (RX12, TX12, 59)) C rfl (by decide) rfl wF_X12_58 dX12_belt_26 ?_
  refine s_icmpge (pc := 29) 50 C dX12_belt_29 (by decide) (hrc 50) ?_
  refine s_aload_n (pc := 32) C dX12_belt_32 rfl ?_
  refine s_getr (pc := 33) (j := 35) (q := (RX12, TX12, 59)) C rfl (by decide) rfl wF_X12_62 dX12_belt_33 ?_
  refine s_iload_n (pc := 36) C dX12_belt_36 rfl ?_
  refine s_ia (pc := 37) C dX12_belt_37 ?_
  refine s_ifle (pc := 38) 44 C dX12_belt_38 (by decide) (hrc 44) ?_
  refine s_ldc (pc := 41) C wK_X12_243 dX12_belt_41 ?_
  exact s_iret (pc := 43) C hr hlk dX12_belt_43
set_option maxRecDepth 100000 in
theorem kX12_belt_44 (C : ox_C p s m args c g 3 cX12_belt RX12) (hr : meth.sig.returnType = (some .int)) (hlk : meth.locks = false) (hnm : meth.name = "belt") (hR : R.frames = dp ∧ R.locals = 60 * dp) (h1 : ox_Sem yX12_in cX12_in 6 (some .boolean) d1 f1) (e1 : d1 + 1 ≤ dp) (hrc : ∀ b, ox_S p l e R s m args below meth c g 3 c0 t0 (ox_QM g below args s c0 t0) b (rc b)) : ox_S p l e R s m args below meth c g 3 c0 t0 (ox_QM g below args s c0 t0) 44 (bX12_belt_44 f1 rc) := by
  refine s_iinc (pc := 44) C dX12_belt_44 (by decide) (by decide) ?_
  exact s_goto (pc := 47) 24 C dX12_belt_47 (by decide) (hrc 24)
set_option maxRecDepth 100000 in
theorem kX12_belt_50 (C : ox_C p s m args c g 3 cX12_belt RX12) (hr : meth.sig.returnType = (some .int)) (hlk : meth.locks = false) (hnm : meth.name = "belt") (hR : R.frames = dp ∧ R.locals = 60 * dp) (h1 : ox_Sem yX12_in cX12_in 6 (some .boolean) d1 f1) (e1 : d1 + 1 ≤ dp) (hrc : ∀ b, ox_S p l e R s m args below meth c g 3 c0 t0 (ox_QM g below args s c0 t0) b (rc b)) : ox_S p l e R s m args below meth c g 3 c0 t0 (ox_QM g below args s c0 t0) 50 (bX12_belt_50 f1 rc) := by
  refine s_aload_n (pc := 50) C dX12_belt_50 rfl ?_
  refine s_geti (pc := 51) (j := 33) (q := (RX12, TX12, 59)) C rfl (by decide) rfl wF_X12_58 dX12_belt_51 ?_
  refine s_istore_n (pc := 54) C dX12_belt_54 rfl (by decide) ?_
  refine s_aload_n (pc := 55) C dX12_belt_55 rfl ?_
  refine s_iload_n (pc := 56) C dX12_belt_56 rfl ?_
  refine s_puti (pc := 57) (j := 33) (q := (RX12, TX12, 59)) C rfl (by decide) rfl (Or.inl rfl) wF_X12_58 dX12_belt_57 ?_
  refine s_aload_n (pc := 60) C dX12_belt_60 rfl ?_
  refine s_iconst (pc := 61) C dX12_belt_61 (by decide) ?_
  refine s_puti (pc := 62) (j := 34) (q := (RX12, TX12, 59)) C rfl (by decide) rfl (Or.inl rfl) wF_X12_252 dX12_belt_62 ?_
  refine s_iload_n (pc := 65) C dX12_belt_65 rfl ?_
  exact s_iret (pc := 66) C hr hlk dX12_belt_66
end SX12_belt
def bsX12_belt (f1 : ox_F) (b : Nat) (rc : Nat → ox_K) : ox_K := if b = 0 then bX12_belt_0 f1 rc else if b = 22 then bX12_belt_22 f1 rc else if b = 24 then bX12_belt_24 f1 rc else if b = 44 then bX12_belt_44 f1 rc else if b = 50 then bX12_belt_50 f1 rc else ox_no
theorem mX12_belt {dp d1 : Nat} {f1 f : ox_F} (h1 : ox_Sem yX12_in cX12_in 6 (some .boolean) d1 f1) (e1 : d1 + 1 ≤ dp) (hf : ∀ as h r, f as h = some r → ox_cs as ≤ 3 ∧ ox_le h r.2 ∧ ∃ n, ox_run (bsX12_belt f1) n 0 (lv_args 0 as) [] h = some r) : ox_Sem yX12_belt cX12_belt 3 (some .int) dp f := by
  refine ox_meth (bs := bsX12_belt f1) (by decide) hf ?_
  intro p l e R s m args below meth c g c0 t0 C hr hlk hnm hR rc hrc b
  unfold bsX12_belt
  refine ox_br (kX12_belt_0 C hr hlk hnm hR h1 e1 hrc) ?_
  refine ox_br (kX12_belt_22 C hr hlk hnm hR h1 e1 hrc) ?_
  refine ox_br (kX12_belt_24 C hr hlk hnm hR h1 e1 hrc) ?_
  refine ox_br (kX12_belt_44 C hr hlk hnm hR h1 e1 hrc) ?_
  refine ox_br (kX12_belt_50 C hr hlk hnm hR h1 e1 hrc) ?_
  exact s_no
theorem dX12_gear_0 : decode cX12_gear 0 = .ok (.aload_n 0, 1) := by decide +kernel
theorem dX12_gear_1 : decode cX12_gear 1 = .ok (.iconst 0, 1) := by decide +kernel
theorem dX12_gear_2 : decode cX12_gear 2 = .ok (.putfield 108, 3) := by decide +kernel
theorem dX12_gear_5 : decode cX12_gear 5 = .ok (.iload_n 1, 1) := by decide +kernel
theorem dX12_gear_6 : decode cX12_gear 6 = .ok (.i2l, 1) := by decide +kernel
theorem dX12_gear_7 : decode cX12_gear 7 = .ok (.lconst 0, 1) := by decide +kernel
theorem dX12_gear_8 : decode cX12_gear 8 = .ok (.ldc2_w 257, 3) := by decide +kernel
theorem dX12_gear_11 : decode cX12_gear 11 = .ok (.invokestatic 117, 3) := by decide +kernel
theorem dX12_gear_14 : decode cX12_gear 14 = .ok (.ifCond .ne 6, 3) := by decide +kernel
theorem dX12_gear_17 : decode cX12_gear 17 = .ok (.ldc 127, 2) := by decide +kernel
theorem dX12_gear_19 : decode cX12_gear 19 = .ok (.ireturn, 1) := by decide +kernel
theorem dX12_gear_20 : decode cX12_gear 20 = .ok (.iload_n 1, 1) := by decide +kernel
theorem dX12_gear_21 : decode cX12_gear 21 = .ok (.ifCond .ne 8, 3) := by decide +kernel
theorem dX12_gear_24 : decode cX12_gear 24 = .ok (.bipush 10, 2) := by decide +kernel
theorem dX12_gear_26 : decode cX12_gear 26 = .ok (.goto 26, 3) := by decide +kernel
theorem dX12_gear_29 : decode cX12_gear 29 = .ok (.iload_n 1, 1) := by decide +kernel
theorem dX12_gear_30 : decode cX12_gear 30 = .ok (.bipush 13, 2) := by decide +kernel
theorem dX12_gear_32 : decode cX12_gear 32 = .ok (.if_icmp .ne 8, 3) := by decide +kernel
theorem dX12_gear_35 : decode cX12_gear 35 = .ok (.bipush (-20), 2) := by decide +kernel
theorem dX12_gear_37 : decode cX12_gear 37 = .ok (.goto 15, 3) := by decide +kernel
theorem dX12_gear_40 : decode cX12_gear 40 = .ok (.iload_n 1, 1) := by decide +kernel
theorem dX12_gear_41 : decode cX12_gear 41 = .ok (.bipush 14, 2) := by decide +kernel
theorem dX12_gear_43 : decode cX12_gear 43 = .ok (.if_icmp .ne 8, 3) := by decide +kernel
theorem dX12_gear_46 : decode cX12_gear 46 = .ok (.bipush (-5), 2) := by decide +kernel
theorem dX12_gear_48 : decode cX12_gear 48 = .ok (.goto 4, 3) := by decide +kernel
theorem dX12_gear_51 : decode cX12_gear 51 = .ok (.iconst 0, 1) := by decide +kernel
theorem dX12_gear_52 : decode cX12_gear 52 = .ok (.istore_n 3, 1) := by decide +kernel
theorem dX12_gear_53 : decode cX12_gear 53 = .ok (.iload_n 1, 1) := by decide +kernel
theorem dX12_gear_54 : decode cX12_gear 54 = .ok (.ifCond .ne 9, 3) := by decide +kernel
theorem dX12_gear_57 : decode cX12_gear 57 = .ok (.sipush 200, 3) := by decide +kernel
theorem dX12_gear_60 : decode cX12_gear 60 = .ok (.goto 45, 3) := by decide +kernel
theorem dX12_gear_63 : decode cX12_gear 63 = .ok (.iload_n 1, 1) := by decide +kernel
theorem dX12_gear_64 : decode cX12_gear 64 = .ok (.iconst 1, 1) := by decide +kernel
theorem dX12_gear_65 : decode cX12_gear 65 = .ok (.if_icmp .ne 8, 3) := by decide +kernel
theorem dX12_gear_68 : decode cX12_gear 68 = .ok (.bipush 100, 2) := by decide +kernel
theorem dX12_gear_70 : decode cX12_gear 70 = .ok (.goto 35, 3) := by decide +kernel
theorem dX12_gear_73 : decode cX12_gear 73 = .ok (.iload_n 1, 1) := by decide +kernel
theorem dX12_gear_74 : decode cX12_gear 74 = .ok (.iconst 2, 1) := by decide +kernel
theorem dX12_gear_75 : decode cX12_gear 75 = .ok (.if_icmp .ne 7, 3) := by decide +kernel
theorem dX12_gear_78 : decode cX12_gear 78 = .ok (.iconst 3, 1) := by decide +kernel
theorem dX12_gear_79 : decode cX12_gear 79 = .ok (.goto 26, 3) := by decide +kernel
theorem dX12_gear_82 : decode cX12_gear 82 = .ok (.iload_n 1, 1) := by decide +kernel
theorem dX12_gear_83 : decode cX12_gear 83 = .ok (.bipush 13, 2) := by decide +kernel
theorem dX12_gear_85 : decode cX12_gear 85 = .ok (.if_icmp .ne 8, 3) := by decide +kernel
theorem dX12_gear_88 : decode cX12_gear 88 = .ok (.bipush 20, 2) := by decide +kernel
theorem dX12_gear_90 : decode cX12_gear 90 = .ok (.goto 15, 3) := by decide +kernel
theorem dX12_gear_93 : decode cX12_gear 93 = .ok (.iload_n 1, 1) := by decide +kernel
theorem dX12_gear_94 : decode cX12_gear 94 = .ok (.bipush 14, 2) := by decide +kernel
theorem dX12_gear_96 : decode cX12_gear 96 = .ok (.if_icmp .ne 7, 3) := by decide +kernel
theorem dX12_gear_99 : decode cX12_gear 99 = .ok (.iconst 5, 1) := by decide +kernel
theorem dX12_gear_100 : decode cX12_gear 100 = .ok (.goto 5, 3) := by decide +kernel
theorem dX12_gear_103 : decode cX12_gear 103 = .ok (.bipush 9, 2) := by decide +kernel
theorem dX12_gear_105 : decode cX12_gear 105 = .ok (.istore 4, 2) := by decide +kernel
theorem dX12_gear_107 : decode cX12_gear 107 = .ok (.iload_n 2, 1) := by decide +kernel
theorem dX12_gear_108 : decode cX12_gear 108 = .ok (.i2l, 1) := by decide +kernel
theorem dX12_gear_109 : decode cX12_gear 109 = .ok (.iload_n 3, 1) := by decide +kernel
theorem dX12_gear_110 : decode cX12_gear 110 = .ok (.i2l, 1) := by decide +kernel
theorem dX12_gear_111 : decode cX12_gear 111 = .ok (.iload 4, 2) := by decide +kernel
theorem dX12_gear_113 : decode cX12_gear 113 = .ok (.i2l, 1) := by decide +kernel
theorem dX12_gear_114 : decode cX12_gear 114 = .ok (.invokestatic 117, 3) := by decide +kernel
theorem dX12_gear_117 : decode cX12_gear 117 = .ok (.ifCond .ne 6, 3) := by decide +kernel
theorem dX12_gear_120 : decode cX12_gear 120 = .ok (.ldc 127, 2) := by decide +kernel
theorem dX12_gear_122 : decode cX12_gear 122 = .ok (.ireturn, 1) := by decide +kernel
theorem dX12_gear_123 : decode cX12_gear 123 = .ok (.aload_n 0, 1) := by decide +kernel
theorem dX12_gear_124 : decode cX12_gear 124 = .ok (.getfield 87, 3) := by decide +kernel
theorem dX12_gear_127 : decode cX12_gear 127 = .ok (.iload_n 1, 1) := by decide +kernel
theorem dX12_gear_128 : decode cX12_gear 128 = .ok (.iaload, 1) := by decide +kernel
theorem dX12_gear_129 : decode cX12_gear 129 = .ok (.istore 5, 2) := by decide +kernel
theorem dX12_gear_131 : decode cX12_gear 131 = .ok (.aload_n 0, 1) := by decide +kernel
theorem dX12_gear_132 : decode cX12_gear 132 = .ok (.getfield 87, 3) := by decide +kernel
theorem dX12_gear_135 : decode cX12_gear 135 = .ok (.iload_n 1, 1) := by decide +kernel
theorem dX12_gear_136 : decode cX12_gear 136 = .ok (.iload_n 2, 1) := by decide +kernel
theorem dX12_gear_137 : decode cX12_gear 137 = .ok (.iastore, 1) := by decide +kernel
theorem dX12_gear_138 : decode cX12_gear 138 = .ok (.iload 5, 2) := by decide +kernel
theorem dX12_gear_140 : decode cX12_gear 140 = .ok (.ireturn, 1) := by decide +kernel
def bX12_gear_0 (f1 : ox_F) (rc : Nat → ox_K) : ox_K := o_al 0 (o_ic (0) (o_puti 12 0 (o_il 1 (o_i2l (o_lc (0) (o_lc (14) (o_ct f1 3 (o_ifne (rc 20) (o_ic (-1000001) (o_iret))))))))))
def bX12_gear_20 (f1 : ox_F) (rc : Nat → ox_K) : ox_K := o_il 1 (o_ifne (rc 29) (o_ic (10) (rc 52)))
def bX12_gear_29 (f1 : ox_F) (rc : Nat → ox_K) : ox_K := o_il 1 (o_ic (13) (o_icne (rc 40) (o_ic (-20) (rc 52))))
def bX12_gear_40 (f1 : ox_F) (rc : Nat → ox_K) : ox_K := o_il 1 (o_ic (14) (o_icne (rc 51) (o_ic (-5) (rc 52))))
def bX12_gear_51 (f1 : ox_F) (rc : Nat → ox_K) : ox_K := o_ic (0) (rc 52)
def bX12_gear_52 (f1 : ox_F) (rc : Nat → ox_K) : ox_K := o_is 3 (o_il 1 (o_ifne (rc 63) (o_ic (200) (rc 105))))
def bX12_gear_63 (f1 : ox_F) (rc : Nat → ox_K) : ox_K := o_il 1 (o_ic (1) (o_icne (rc 73) (o_ic (100) (rc 105))))
def bX12_gear_73 (f1 : ox_F) (rc : Nat → ox_K) : ox_K := o_il 1 (o_ic (2) (o_icne (rc 82) (o_ic (3) (rc 105))))
def bX12_gear_82 (f1 : ox_F) (rc : Nat → ox_K) : ox_K := o_il 1 (o_ic (13) (o_icne (rc 93) (o_ic (20) (rc 105))))
def bX12_gear_93 (f1 : ox_F) (rc : Nat → ox_K) : ox_K := o_il 1 (o_ic (14) (o_icne (rc 103) (o_ic (5) (rc 105))))
def bX12_gear_103 (f1 : ox_F) (rc : Nat → ox_K) : ox_K := o_ic (9) (rc 105)
def bX12_gear_105 (f1 : ox_F) (rc : Nat → ox_K) : ox_K := o_is 4 (o_il 2 (o_i2l (o_il 3 (o_i2l (o_il 4 (o_i2l (o_ct f1 3 (o_ifne (rc 123) (o_ic (-1000001) (o_iret))))))))))
def bX12_gear_123 (f1 : ox_F) (rc : Nat → ox_K) : ox_K := o_al 0 (o_getr 12 43 (o_il 1 (o_ia (o_is 5 (o_al 0 (o_getr 12 43 (o_il 1 (o_il 2 (o_iast (o_il 5 (o_iret)))))))))))
section SX12_gear
variable {p : Program} {l : Launch} {e : Env} {R : Room} {s : State} {m : MethodId} {args : Array Value} {below : List Frame} {meth : Method} {c : Code} {g : ox_G} {c0 t0 dp d1 : Nat} {rc : Nat → ox_K} {f1 : ox_F}
set_option maxRecDepth 100000 in
theorem kX12_gear_0 (C : ox_C p s m args c g 6 cX12_gear RX12) (hr : meth.sig.returnType = (some .int)) (hlk : meth.locks = false) (hnm : meth.name = "gear") (hR : R.frames = dp ∧ R.locals = 60 * dp) (h1 : ox_Sem yX12_in cX12_in 6 (some .boolean) d1 f1) (e1 : d1 + 1 ≤ dp) (hrc : ∀ b, ox_S p l e R s m args below meth c g 6 c0 t0 (ox_QM g below args s c0 t0) b (rc b)) : ox_S p l e R s m args below meth c g 6 c0 t0 (ox_QM g below args s c0 t0) 0 (bX12_gear_0 f1 rc) := by
  refine s_aload_n (pc := 0) C dX12_gear_0 rfl ?_
  refine s_iconst (pc := 1) C dX12_gear_1 (by decide) ?_
  refine s_puti (pc := 2) (j := 0) (q := (RX12, TX12, 59)) C rfl (by decide) rfl (Or.inl rfl) wF_X12_108 dX12_gear_2 ?_
  refine s_iload_n (pc := 5) C dX12_gear_5 rfl ?_
  refine s_i2l (pc := 6) C dX12_gear_6 ?_
  refine s_lconst (pc := 7) C dX12_gear_7 (by decide) ?_
  refine s_ldc2 (pc := 8) C wL_X12_257 dX12_gear_8 ?_
  refine s_ct (pc := 11) C h1 wM_X12_117 wT_X12_in wN_X12 wC_X12_in (by decide +kernel) (ox_lv hR e1 (by decide)) dX12_gear_11 ?_
  refine s_ifne (pc := 14) 20 C dX12_gear_14 (by decide) (hrc 20) ?_
  refine s_ldc (pc := 17) C wK_X12_127 dX12_gear_17 ?_
  exact s_iret (pc := 19) C hr hlk dX12_gear_19
set_option maxRecDepth 100000 in
theorem kX12_gear_20 (C : ox_C p s m args c g 6 cX12_gear RX12) (hr : meth.sig.returnType = (some .int)) (hlk : meth.locks = false) (hnm : meth.name = "gear") (hR : R.frames = dp ∧ R.locals = 60 * dp) (h1 : ox_Sem yX12_in cX12_in 6 (some .boolean) d1 f1) (e1 : d1 + 1 ≤ dp) (hrc : ∀ b, ox_S p l e R s m args below meth c g 6 c0 t0 (ox_QM g below args s c0 t0) b (rc b)) : ox_S p l e R s m args below meth c g 6 c0 t0 (ox_QM g below args s c0 t0) 20 (bX12_gear_20 f1 rc) := by
  refine s_iload_n (pc := 20) C dX12_gear_20 rfl ?_
  refine s_ifne (pc := 21) 29 C dX12_gear_21 (by decide) (hrc 29) ?_
  refine s_bipush (pc := 24) C dX12_gear_24 (by decide) ?_
  exact s_goto (pc := 26) 52 C dX12_gear_26 (by decide) (hrc 52)
set_option maxRecDepth 100000 in
theorem kX12_gear_29 (C : ox_C p s m args c g 6 cX12_gear RX12) (hr : meth.sig.returnType = (some .int)) (hlk : meth.locks = false) (hnm : meth.name = "gear") (hR : R.frames = dp ∧ R.locals = 60 * dp) (h1 : ox_Sem yX12_in cX12_in 6 (some .boolean) d1 f1) (e1 : d1 + 1 ≤ dp) (hrc : ∀ b, ox_S p l e R s m args below meth c g 6 c0 t0 (ox_QM g below args s c0 t0) b (rc b)) : ox_S p l e R s m args below meth c g 6 c0 t0 (ox_QM g below args s c0 t0) 29 (bX12_gear_29 f1 rc) := by
  refine s_iload_n (pc := 29) C dX12_gear_29 rfl ?_
  refine s_bipush (pc := 30) C dX12_gear_30 (by decide) ?_
  refine s_icmpne (pc := 32) 40 C dX12_gear_32 (by decide) (hrc 40) ?_
  refine s_bipush (pc := 35) C dX12_gear_35 (by decide) ?_
  exact s_goto (pc := 37) 52 C dX12_gear_37 (by decide) (hrc 52)
set_option maxRecDepth 100000 in
theorem kX12_gear_40 (C : ox_C p s m args c g 6 cX12_gear RX12) (hr : meth.sig.returnType = (some .int)) (hlk : meth.locks = false) (hnm : meth.name = "gear") (hR : R.frames = dp ∧ R.locals = 60 * dp) (h1 : ox_Sem yX12_in cX12_in 6 (some .boolean) d1 f1) (e1 : d1 + 1 ≤ dp) (hrc : ∀ b, ox_S p l e R s m args below meth c g 6 c0 t0 (ox_QM g below args s c0 t0) b (rc b)) : ox_S p l e R s m args below meth c g 6 c0 t0 (ox_QM g below args s c0 t0) 40 (bX12_gear_40 f1 rc) := by
  refine s_iload_n (pc := 40) C dX12_gear_40 rfl ?_
  refine s_bipush (pc := 41) C dX12_gear_41 (by decide) ?_
  refine s_icmpne (pc := 43) 51 C dX12_gear_43 (by decide) (hrc 51) ?_
  refine s_bipush (pc := 46) C dX12_gear_46 (by decide) ?_
  exact s_goto (pc := 48) 52 C dX12_gear_48 (by decide) (hrc 52)
set_option maxRecDepth 100000 in
theorem kX12_gear_51 (C : ox_C p s m args c g 6 cX12_gear RX12) (hr : meth.sig.returnType = (some .int)) (hlk : meth.locks = false) (hnm : meth.name = "gear") (hR : R.frames = dp ∧ R.locals = 60 * dp) (h1 : ox_Sem yX12_in cX12_in 6 (some .boolean) d1 f1) (e1 : d1 + 1 ≤ dp) (hrc : ∀ b, ox_S p l e R s m args below meth c g 6 c0 t0 (ox_QM g below args s c0 t0) b (rc b)) : ox_S p l e R s m args below meth c g 6 c0 t0 (ox_QM g below args s c0 t0) 51 (bX12_gear_51 f1 rc) := by
  refine s_iconst (pc := 51) C dX12_gear_51 (by decide) ?_
  exact hrc 52
set_option maxRecDepth 100000 in
theorem kX12_gear_52 (C : ox_C p s m args c g 6 cX12_gear RX12) (hr : meth.sig.returnType = (some .int)) (hlk : meth.locks = false) (hnm : meth.name = "gear") (hR : R.frames = dp ∧ R.locals = 60 * dp) (h1 : ox_Sem yX12_in cX12_in 6 (some .boolean) d1 f1) (e1 : d1 + 1 ≤ dp) (hrc : ∀ b, ox_S p l e R s m args below meth c g 6 c0 t0 (ox_QM g below args s c0 t0) b (rc b)) : ox_S p l e R s m args below meth c g 6 c0 t0 (ox_QM g below args s c0 t0) 52 (bX12_gear_52 f1 rc) := by
  refine s_istore_n (pc := 52) C dX12_gear_52 rfl (by decide) ?_
  refine s_iload_n (pc := 53) C dX12_gear_53 rfl ?_
  refine s_ifne (pc := 54) 63 C dX12_gear_54 (by decide) (hrc 63) ?_
  refine s_sipush (pc := 57) C dX12_gear_57 (by decide) ?_
  exact s_goto (pc := 60) 105 C dX12_gear_60 (by decide) (hrc 105)
set_option maxRecDepth 100000 in
theorem kX12_gear_63 (C : ox_C p s m args c g 6 cX12_gear RX12) (hr : meth.sig.returnType = (some .int)) (hlk : meth.locks = false) (hnm : meth.name = "gear") (hR : R.frames = dp ∧ R.locals = 60 * dp) (h1 : ox_Sem yX12_in cX12_in 6 (some .boolean) d1 f1) (e1 : d1 + 1 ≤ dp) (hrc : ∀ b, ox_S p l e R s m args below meth c g 6 c0 t0 (ox_QM g below args s c0 t0) b (rc b)) : ox_S p l e R s m args below meth c g 6 c0 t0 (ox_QM g below args s c0 t0) 63 (bX12_gear_63 f1 rc) := by
  refine s_iload_n (pc := 63) C dX12_gear_63 rfl ?_
  refine s_iconst (pc := 64) C dX12_gear_64 (by decide) ?_
  refine s_icmpne (pc := 65) 73 C dX12_gear_65 (by decide) (hrc 73) ?_
  refine s_bipush (pc := 68) C dX12_gear_68 (by decide) ?_
  exact s_goto (pc := 70) 105 C dX12_gear_70 (by decide) (hrc 105)
set_option maxRecDepth 100000 in
theorem kX12_gear_73 (C : ox_C p s m args c g 6 cX12_gear RX12) (hr : meth.sig.returnType = (some .int)) (hlk : meth.locks = false) (hnm : meth.name = "gear") (hR : R.frames = dp ∧ R.locals = 60 * dp) (h1 : ox_Sem yX12_in cX12_in 6 (some .boolean) d1 f1) (e1 : d1 + 1 ≤ dp) (hrc : ∀ b, ox_S p l e R s m args below meth c g 6 c0 t0 (ox_QM g below args s c0 t0) b (rc b)) : ox_S p l e R s m args below meth c g 6 c0 t0 (ox_QM g below args s c0 t0) 73 (bX12_gear_73 f1 rc) := by
  refine s_iload_n (pc := 73) C dX12_gear_73 rfl ?_
  refine s_iconst (pc := 74) C dX12_gear_74 (by decide) ?_
  refine s_icmpne (pc := 75) 82 C dX12_gear_75 (by decide) (hrc 82) ?_
  refine s_iconst (pc := 78) C dX12_gear_78 (by decide) ?_
  exact s_goto (pc := 79) 105 C dX12_gear_79 (by decide) (hrc 105)
set_option maxRecDepth 100000 in
theorem kX12_gear_82 (C : ox_C p s m args c g 6 cX12_gear RX12) (hr : meth.sig.returnType = (some .int)) (hlk : meth.locks = false) (hnm : meth.name = "gear") (hR : R.frames = dp ∧ R.locals = 60 * dp) (h1 : ox_Sem yX12_in cX12_in 6 (some .boolean) d1 f1) (e1 : d1 + 1 ≤ dp) (hrc : ∀ b, ox_S p l e R s m args below meth c g 6 c0 t0 (ox_QM g below args s c0 t0) b (rc b)) : ox_S p l e R s m args below meth c g 6 c0 t0 (ox_QM g below args s c0 t0) 82 (bX12_gear_82 f1 rc) := by
  refine s_iload_n (pc := 82) C dX12_gear_82 rfl ?_
  refine s_bipush (pc := 83) C dX12_gear_83 (by decide) ?_
  refine s_icmpne (pc := 85) 93 C dX12_gear_85 (by decide) (hrc 93) ?_
  refine s_bipush (pc := 88) C dX12_gear_88 (by decide) ?_
  exact s_goto (pc := 90) 105 C dX12_gear_90 (by decide) (hrc 105)
set_option maxRecDepth 100000 in
theorem kX12_gear_93 (C : ox_C p s m args c g 6 cX12_gear RX12) (hr : meth.sig.returnType = (some .int)) (hlk : meth.locks = false) (hnm : meth.name = "gear") (hR : R.frames = dp ∧ R.locals = 60 * dp) (h1 : ox_Sem yX12_in cX12_in 6 (some .boolean) d1 f1) (e1 : d1 + 1 ≤ dp) (hrc : ∀ b, ox_S p l e R s m args below meth c g 6 c0 t0 (ox_QM g below args s c0 t0) b (rc b)) : ox_S p l e R s m args below meth c g 6 c0 t0 (ox_QM g below args s c0 t0) 93 (bX12_gear_93 f1 rc) := by
  refine s_iload_n (pc := 93) C dX12_gear_93 rfl ?_
  refine s_bipush (pc := 94) C dX12_gear_94 (by decide) ?_
  refine s_icmpne (pc := 96) 103 C dX12_gear_96 (by decide) (hrc 103) ?_
  refine s_iconst (pc := 99) C dX12_gear_99 (by decide) ?_
  exact s_goto (pc := 100) 105 C dX12_gear_100 (by decide) (hrc 105)
set_option maxRecDepth 100000 in
theorem kX12_gear_103 (C : ox_C p s m args c g 6 cX12_gear RX12) (hr : meth.sig.returnType = (some .int)) (hlk : meth.locks = false) (hnm : meth.name = "gear") (hR : R.frames = dp ∧ R.locals = 60 * dp) (h1 : ox_Sem yX12_in cX12_in 6 (some .boolean) d1 f1) (e1 : d1 + 1 ≤ dp) (hrc : ∀ b, ox_S p l e R s m args below meth c g 6 c0 t0 (ox_QM g below args s c0 t0) b (rc b)) : ox_S p l e R s m args below meth c g 6 c0 t0 (ox_QM g below args s c0 t0) 103 (bX12_gear_103 f1 rc) := by
  refine s_bipush (pc := 103) C dX12_gear_103 (by decide) ?_
  exact hrc 105
set_option maxRecDepth 100000 in
theorem kX12_gear_105 (C : ox_C p s m args c g 6 cX12_gear RX12) (hr : meth.sig.returnType = (some .int)) (hlk : meth.locks = false) (hnm : meth.name = "gear") (hR : R.frames = dp ∧ R.locals = 60 * dp) (h1 : ox_Sem yX12_in cX12_in 6 (some .boolean) d1 f1) (e1 : d1 + 1 ≤ dp) (hrc : ∀ b, ox_S p l e R s m args below meth c g 6 c0 t0 (ox_QM g below args s c0 t0) b (rc b)) : ox_S p l e R s m args below meth c g 6 c0 t0 (ox_QM g below args s c0 t0) 105 (bX12_gear_105 f1 rc) := by
  refine s_istore (pc := 105) C dX12_gear_105 (by decide) ?_
  refine s_iload_n (pc := 107) C dX12_gear_107 rfl ?_
  refine s_i2l (pc := 108) C dX12_gear_108 ?_
  refine s_iload_n (pc := 109) C dX12_gear_109 rfl ?_
  refine s_i2l (pc := 110) C dX12_gear_110 ?_
  refine s_iload (pc := 111) C dX12_gear_111 ?_
  refine s_i2l (pc := 113) C dX12_gear_113 ?_
  refine s_ct (pc := 114) C h1 wM_X12_117 wT_X12_in wN_X12 wC_X12_in (by decide +kernel) (ox_lv hR e1 (by decide)) dX12_gear_114 ?_
  refine s_ifne (pc := 117) 123 C dX12_gear_117 (by decide) (hrc 123) ?_
  refine s_ldc (pc := 120) C wK_X12_127 dX12_gear_120 ?_
  exact s_iret (pc := 122) C hr hlk dX12_gear_122
set_option maxRecDepth 100000 in
theorem kX12_gear_123 (C : ox_C p s m args c g 6 cX12_gear RX12) (hr : meth.sig.returnType = (some .int)) (hlk : meth.locks = false) (hnm : meth.name = "gear") (hR : R.frames = dp ∧ R.locals = 60 * dp) (h1 : ox_Sem yX12_in cX12_in 6 (some .boolean) d1 f1) (e1 : d1 + 1 ≤ dp) (hrc : ∀ b, ox_S p l e R s m args below meth c g 6 c0 t0 (ox_QM g below args s c0 t0) b (rc b)) : ox_S p l e R s m args below meth c g 6 c0 t0 (ox_QM g below args s c0 t0) 123 (bX12_gear_123 f1 rc) := by
  refine s_aload_n (pc := 123) C dX12_gear_123 rfl ?_
  refine s_getr (pc := 124) (j := 43) (q := (RX12, TX12, 59)) C rfl (by decide) rfl wF_X12_87 dX12_gear_124 ?_
  refine s_iload_n (pc := 127) C dX12_gear_127 rfl ?_
  refine s_ia (pc := 128) C dX12_gear_128 ?_
  refine s_istore (pc := 129) C dX12_gear_129 (by decide) ?_
  refine s_aload_n (pc := 131) C dX12_gear_131 rfl ?_
  refine s_getr (pc := 132) (j := 43) (q := (RX12, TX12, 59)) C rfl (by decide) rfl wF_X12_87 dX12_gear_132 ?_
  refine s_iload_n (pc := 135) C dX12_gear_135 rfl ?_
  refine s_iload_n (pc := 136) C dX12_gear_136 rfl ?_
  refine s_iast (pc := 137) C dX12_gear_137 ?_
  refine s_iload (pc := 138) C dX12_gear_138 ?_
  exact s_iret (pc := 140) C hr hlk dX12_gear_140
end SX12_gear
def bsX12_gear (f1 : ox_F) (b : Nat) (rc : Nat → ox_K) : ox_K := if b = 0 then bX12_gear_0 f1 rc else if b = 20 then bX12_gear_20 f1 rc else if b = 29 then bX12_gear_29 f1 rc else if b = 40 then bX12_gear_40 f1 rc else if b = 51 then bX12_gear_51 f1 rc else if b = 52 then bX12_gear_52 f1 rc else if b = 63 then bX12_gear_63 f1 rc else if b = 73 then bX12_gear_73 f1 rc else if b = 82 then bX12_gear_82 f1 rc else if b = 93 then bX12_gear_93 f1 rc else if b = 103 then bX12_gear_103 f1 rc else if b = 105 then bX12_gear_105 f1 rc else if b = 123 then bX12_gear_123 f1 rc else ox_no
theorem mX12_gear {dp d1 : Nat} {f1 f : ox_F} (h1 : ox_Sem yX12_in cX12_in 6 (some .boolean) d1 f1) (e1 : d1 + 1 ≤ dp) (hf : ∀ as h r, f as h = some r → ox_cs as ≤ 6 ∧ ox_le h r.2 ∧ ∃ n, ox_run (bsX12_gear f1) n 0 (lv_args 0 as) [] h = some r) : ox_Sem yX12_gear cX12_gear 6 (some .int) dp f := by
  refine ox_meth (bs := bsX12_gear f1) (by decide) hf ?_
  intro p l e R s m args below meth c g c0 t0 C hr hlk hnm hR rc hrc b
  unfold bsX12_gear
  refine ox_br (kX12_gear_0 C hr hlk hnm hR h1 e1 hrc) ?_
  refine ox_br (kX12_gear_20 C hr hlk hnm hR h1 e1 hrc) ?_
  refine ox_br (kX12_gear_29 C hr hlk hnm hR h1 e1 hrc) ?_
  refine ox_br (kX12_gear_40 C hr hlk hnm hR h1 e1 hrc) ?_
  refine ox_br (kX12_gear_51 C hr hlk hnm hR h1 e1 hrc) ?_
  refine ox_br (kX12_gear_52 C hr hlk hnm hR h1 e1 hrc) ?_
  refine ox_br (kX12_gear_63 C hr hlk hnm hR h1 e1 hrc) ?_
  refine ox_br (kX12_gear_73 C hr hlk hnm hR h1 e1 hrc) ?_
  refine ox_br (kX12_gear_82 C hr hlk hnm hR h1 e1 hrc) ?_
  refine ox_br (kX12_gear_93 C hr hlk hnm hR h1 e1 hrc) ?_
  refine ox_br (kX12_gear_103 C hr hlk hnm hR h1 e1 hrc) ?_
  refine ox_br (kX12_gear_105 C hr hlk hnm hR h1 e1 hrc) ?_
  refine ox_br (kX12_gear_123 C hr hlk hnm hR h1 e1 hrc) ?_
  exact s_no
theorem dX12_pour_0 : decode cX12_pour 0 = .ok (.aload_n 0, 1) := by decide +kernel
theorem dX12_pour_1 : decode cX12_pour 1 = .ok (.iconst 0, 1) := by decide +kernel
theorem dX12_pour_2 : decode cX12_pour 2 = .ok (.invokevirtual 259, 3) := by decide +kernel
theorem dX12_pour_5 : decode cX12_pour 5 = .ok (.istore_n 1, 1) := by decide +kernel
theorem dX12_pour_6 : decode cX12_pour 6 = .ok (.aload_n 0, 1) := by decide +kernel
theorem dX12_pour_7 : decode cX12_pour 7 = .ok (.getfield 87, 3) := by decide +kernel
theorem dX12_pour_10 : decode cX12_pour 10 = .ok (.iconst 2, 1) := by decide +kernel
theorem dX12_pour_11 : decode cX12_pour 11 = .ok (.iaload, 1) := by decide +kernel
theorem dX12_pour_12 : decode cX12_pour 12 = .ok (.istore_n 2, 1) := by decide +kernel
theorem dX12_pour_13 : decode cX12_pour 13 = .ok (.aload_n 0, 1) := by decide +kernel
theorem dX12_pour_14 : decode cX12_pour 14 = .ok (.getfield 87, 3) := by decide +kernel
theorem dX12_pour_17 : decode cX12_pour 17 = .ok (.iconst 0, 1) := by decide +kernel
theorem dX12_pour_18 : decode cX12_pour 18 = .ok (.iaload, 1) := by decide +kernel
theorem dX12_pour_19 : decode cX12_pour 19 = .ok (.aload_n 0, 1) := by decide +kernel
theorem dX12_pour_20 : decode cX12_pour 20 = .ok (.getfield 87, 3) := by decide +kernel
theorem dX12_pour_23 : decode cX12_pour 23 = .ok (.bipush 13, 2) := by decide +kernel
theorem dX12_pour_25 : decode cX12_pour 25 = .ok (.iaload, 1) := by decide +kernel
theorem dX12_pour_26 : decode cX12_pour 26 = .ok (.iadd, 1) := by decide +kernel
theorem dX12_pour_27 : decode cX12_pour 27 = .ok (.aload_n 0, 1) := by decide +kernel
theorem dX12_pour_28 : decode cX12_pour 28 = .ok (.getfield 87, 3) := by decide +kernel
theorem dX12_pour_31 : decode cX12_pour 31 = .ok (.bipush 14, 2) := by decide +kernel
theorem dX12_pour_33 : decode cX12_pour 33 = .ok (.iaload, 1) := by decide +kernel
theorem dX12_pour_34 : decode cX12_pour 34 = .ok (.iadd, 1) := by decide +kernel
theorem dX12_pour_35 : decode cX12_pour 35 = .ok (.istore_n 3, 1) := by decide +kernel
theorem dX12_pour_36 : decode cX12_pour 36 = .ok (.iload_n 3, 1) := by decide +kernel
theorem dX12_pour_37 : decode cX12_pour 37 = .ok (.iconst 1, 1) := by decide +kernel
theorem dX12_pour_38 : decode cX12_pour 38 = .ok (.if_icmp .ge 7, 3) := by decide +kernel
theorem dX12_pour_41 : decode cX12_pour 41 = .ok (.iconst 1, 1) := by decide +kernel
theorem dX12_pour_42 : decode cX12_pour 42 = .ok (.goto 4, 3) := by decide +kernel
theorem dX12_pour_45 : decode cX12_pour 45 = .ok (.iload_n 3, 1) := by decide +kernel
theorem dX12_pour_46 : decode cX12_pour 46 = .ok (.istore_n 3, 1) := by decide +kernel
theorem dX12_pour_47 : decode cX12_pour 47 = .ok (.aload_n 0, 1) := by decide +kernel
theorem dX12_pour_48 : decode cX12_pour 48 = .ok (.getfield 62, 3) := by decide +kernel
theorem dX12_pour_51 : decode cX12_pour 51 = .ok (.iload_n 1, 1) := by decide +kernel
theorem dX12_pour_52 : decode cX12_pour 52 = .ok (.iaload, 1) := by decide +kernel
theorem dX12_pour_53 : decode cX12_pour 53 = .ok (.ifCond .gt 13, 3) := by decide +kernel
theorem dX12_pour_56 : decode cX12_pour 56 = .ok (.aload_n 0, 1) := by decide +kernel
theorem dX12_pour_57 : decode cX12_pour 57 = .ok (.getfield 40, 3) := by decide +kernel
theorem dX12_pour_60 : decode cX12_pour 60 = .ok (.iload_n 2, 1) := by decide +kernel
theorem dX12_pour_61 : decode cX12_pour 61 = .ok (.iaload, 1) := by decide +kernel
theorem dX12_pour_62 : decode cX12_pour 62 = .ok (.iload_n 3, 1) := by decide +kernel
theorem dX12_pour_63 : decode cX12_pour 63 = .ok (.if_icmp .ge 4, 3) := by decide +kernel
theorem dX12_pour_66 : decode cX12_pour 66 = .ok (.return_, 1) := by decide +kernel
theorem dX12_pour_67 : decode cX12_pour 67 = .ok (.aload_n 0, 1) := by decide +kernel
theorem dX12_pour_68 : decode cX12_pour 68 = .ok (.getfield 62, 3) := by decide +kernel
theorem dX12_pour_71 : decode cX12_pour 71 = .ok (.iload_n 1, 1) := by decide +kernel
theorem dX12_pour_72 : decode cX12_pour 72 = .ok (.iload_n 3, 1) := by decide +kernel
theorem dX12_pour_73 : decode cX12_pour 73 = .ok (.iastore, 1) := by decide +kernel
theorem dX12_pour_74 : decode cX12_pour 74 = .ok (.aload_n 0, 1) := by decide +kernel
theorem dX12_pour_75 : decode cX12_pour 75 = .ok (.getfield 65, 3) := by decide +kernel
theorem dX12_pour_78 : decode cX12_pour 78 = .ok (.iload_n 1, 1) := by decide +kernel
theorem dX12_pour_79 : decode cX12_pour 79 = .ok (.iconst 0, 1) := by decide +kernel
theorem dX12_pour_80 : decode cX12_pour 80 = .ok (.iastore, 1) := by decide +kernel
theorem dX12_pour_81 : decode cX12_pour 81 = .ok (.aload_n 0, 1) := by decide +kernel
theorem dX12_pour_82 : decode cX12_pour 82 = .ok (.getfield 68, 3) := by decide +kernel
theorem dX12_pour_85 : decode cX12_pour 85 = .ok (.iload_n 1, 1) := by decide +kernel
theorem dX12_pour_86 : decode cX12_pour 86 = .ok (.aload_n 0, 1) := by decide +kernel
theorem dX12_pour_87 : decode cX12_pour 87 = .ok (.getfield 46, 3) := by decide +kernel
theorem dX12_pour_90 : decode cX12_pour 90 = .ok (.iload_n 2, 1) := by decide +kernel
theorem dX12_pour_91 : decode cX12_pour 91 = .ok (.iaload, 1) := by decide +kernel
theorem dX12_pour_92 : decode cX12_pour 92 = .ok (.iastore, 1) := by decide +kernel
theorem dX12_pour_93 : decode cX12_pour 93 = .ok (.aload_n 0, 1) := by decide +kernel
theorem dX12_pour_94 : decode cX12_pour 94 = .ok (.getfield 71, 3) := by decide +kernel
theorem dX12_pour_97 : decode cX12_pour 97 = .ok (.iload_n 1, 1) := by decide +kernel
theorem dX12_pour_98 : decode cX12_pour 98 = .ok (.aload_n 0, 1) := by decide +kernel
theorem dX12_pour_99 : decode cX12_pour 99 = .ok (.getfield 49, 3) := by decide +kernel
theorem dX12_pour_102 : decode cX12_pour 102 = .ok (.iload_n 2, 1) := by decide +kernel
theorem dX12_pour_103 : decode cX12_pour 103 = .ok (.iaload, 1) := by decide +kernel
theorem dX12_pour_104 : decode cX12_pour 104 = .ok (.iastore, 1) := by decide +kernel
theorem dX12_pour_105 : decode cX12_pour 105 = .ok (.aload_n 0, 1) := by decide +kernel
theorem dX12_pour_106 : decode cX12_pour 106 = .ok (.getfield 74, 3) := by decide +kernel
theorem dX12_pour_109 : decode cX12_pour 109 = .ok (.iload_n 1, 1) := by decide +kernel
theorem dX12_pour_110 : decode cX12_pour 110 = .ok (.aload_n 0, 1) := by decide +kernel
theorem dX12_pour_111 : decode cX12_pour 111 = .ok (.getfield 52, 3) := by decide +kernel
theorem dX12_pour_114 : decode cX12_pour 114 = .ok (.iload_n 2, 1) := by decide +kernel
theorem dX12_pour_115 : decode cX12_pour 115 = .ok (.iaload, 1) := by decide +kernel
theorem dX12_pour_116 : decode cX12_pour 116 = .ok (.iastore, 1) := by decide +kernel
theorem dX12_pour_117 : decode cX12_pour 117 = .ok (.aload_n 0, 1) := by decide +kernel
theorem dX12_pour_118 : decode cX12_pour 118 = .ok (.getfield 77, 3) := by decide +kernel
theorem dX12_pour_121 : decode cX12_pour 121 = .ok (.iload_n 1, 1) := by decide +kernel
theorem dX12_pour_122 : decode cX12_pour 122 = .ok (.aload_n 0, 1) := by decide +kernel
theorem dX12_pour_123 : decode cX12_pour 123 = .ok (.getfield 52, 3) := by decide +kernel
theorem dX12_pour_126 : decode cX12_pour 126 = .ok (.iload_n 2, 1) := by decide +kernel
theorem dX12_pour_127 : decode cX12_pour 127 = .ok (.iaload, 1) := by decide +kernel
theorem dX12_pour_128 : decode cX12_pour 128 = .ok (.aload_n 0, 1) := by decide +kernel
theorem dX12_pour_129 : decode cX12_pour 129 = .ok (.getfield 55, 3) := by decide +kernel
theorem dX12_pour_132 : decode cX12_pour 132 = .ok (.iload_n 2, 1) := by decide +kernel
theorem dX12_pour_133 : decode cX12_pour 133 = .ok (.iaload, 1) := by decide +kernel
theorem dX12_pour_134 : decode cX12_pour 134 = .ok (.invokestatic 232, 3) := by decide +kernel
theorem dX12_pour_137 : decode cX12_pour 137 = .ok (.iconst 1, 1) := by decide +kernel
theorem dX12_pour_138 : decode cX12_pour 138 = .ok (.if_icmp .ne 7, 3) := by decide +kernel
theorem dX12_pour_141 : decode cX12_pour 141 = .ok (.iconst 1, 1) := by decide +kernel
theorem dX12_pour_142 : decode cX12_pour 142 = .ok (.goto 4, 3) := by decide +kernel
theorem dX12_pour_145 : decode cX12_pour 145 = .ok (.iconst 0, 1) := by decide +kernel
theorem dX12_pour_146 : decode cX12_pour 146 = .ok (.bastore, 1) := by decide +kernel
theorem dX12_pour_147 : decode cX12_pour 147 = .ok (.aload_n 0, 1) := by decide +kernel
theorem dX12_pour_148 : decode cX12_pour 148 = .ok (.getfield 81, 3) := by decide +kernel
theorem dX12_pour_151 : decode cX12_pour 151 = .ok (.iload_n 1, 1) := by decide +kernel
theorem dX12_pour_152 : decode cX12_pour 152 = .ok (.iconst 0, 1) := by decide +kernel
theorem dX12_pour_153 : decode cX12_pour 153 = .ok (.bastore, 1) := by decide +kernel
theorem dX12_pour_154 : decode cX12_pour 154 = .ok (.aload_n 0, 1) := by decide +kernel
theorem dX12_pour_155 : decode cX12_pour 155 = .ok (.getfield 84, 3) := by decide +kernel
theorem dX12_pour_158 : decode cX12_pour 158 = .ok (.iload_n 1, 1) := by decide +kernel
theorem dX12_pour_159 : decode cX12_pour 159 = .ok (.iconst 0, 1) := by decide +kernel
theorem dX12_pour_160 : decode cX12_pour 160 = .ok (.bastore, 1) := by decide +kernel
theorem dX12_pour_161 : decode cX12_pour 161 = .ok (.aload_n 0, 1) := by decide +kernel
theorem dX12_pour_162 : decode cX12_pour 162 = .ok (.iload_n 2, 1) := by decide +kernel
theorem dX12_pour_163 : decode cX12_pour 163 = .ok (.iload_n 3, 1) := by decide +kernel
theorem dX12_pour_164 : decode cX12_pour 164 = .ok (.invokevirtual 262, 3) := by decide +kernel
theorem dX12_pour_167 : decode cX12_pour 167 = .ok (.aload_n 0, 1) := by decide +kernel
theorem dX12_pour_168 : decode cX12_pour 168 = .ok (.dup, 1) := by decide +kernel
theorem dX12_pour_169 : decode cX12_pour 169 = .ok (.getfield 266, 3) := by decide +kernel
theorem dX12_pour_172 : decode cX12_pour 172 = .ok (.iconst 1, 1) := by decide +kernel
theorem dX12_pour_173 : decode cX12_pour 173 = .ok (.iadd, 1) := by decide +kernel
theorem dX12_pour_174 : decode cX12_pour 174 = .ok (.putfield 266, 3) := by decide +kernel
theorem dX12_pour_177 : decode cX12_pour 177 = .ok (.aload_n 0, 1) := by decide +kernel
theorem dX12_pour_178 : decode cX12_pour 178 = .ok (.getfield 87, 3) := by decide +kernel
theorem dX12_pour_181 : decode cX12_pour 181 = .ok (.bipush 14, 2) := by decide +kernel
theorem dX12_pour_183 : decode cX12_pour 183 = .ok (.dup2, 1) := by decide +kernel
theorem dX12_pour_184 : decode cX12_pour 184 = .ok (.iaload, 1) := by decide +kernel
theorem dX12_pour_185 : decode cX12_pour 185 = .ok (.aload_n 0, 1) := by decide +kernel
theorem dX12_pour_186 : decode cX12_pour 186 = .ok (.getfield 266, 3) := by decide +kernel
theorem dX12_pour_189 : decode cX12_pour 189 = .ok (.iconst 4, 1) := by decide +kernel
theorem dX12_pour_190 : decode cX12_pour 190 = .ok (.irem, 1) := by decide +kernel
theorem dX12_pour_191 : decode cX12_pour 191 = .ok (.ifCond .ne 18, 3) := by decide +kernel
theorem dX12_pour_194 : decode cX12_pour 194 = .ok (.aload_n 0, 1) := by decide +kernel
theorem dX12_pour_195 : decode cX12_pour 195 = .ok (.getfield 87, 3) := by decide +kernel
theorem dX12_pour_198 : decode cX12_pour 198 = .ok (.bipush 14, 2) := by decide +kernel
theorem dX12_pour_200 : decode cX12_pour 200 = .ok (.iaload, 1) := by decide +kernel
theorem dX12_pour_201 : decode cX12_pour 201 = .ok (.iconst 5, 1) := by decide +kernel
theorem dX12_pour_202 : decode cX12_pour 202 = .ok (.if_icmp .ge 7, 3) := by decide +kernel
theorem dX12_pour_205 : decode cX12_pour 205 = .ok (.iconst 1, 1) := by decide +kernel
theorem dX12_pour_206 : decode cX12_pour 206 = .ok (.goto 4, 3) := by decide +kernel
theorem dX12_pour_209 : decode cX12_pour 209 = .ok (.iconst 0, 1) := by decide +kernel
theorem dX12_pour_210 : decode cX12_pour 210 = .ok (.iadd, 1) := by decide +kernel
theorem dX12_pour_211 : decode cX12_pour 211 = .ok (.iastore, 1) := by decide +kernel
theorem dX12_pour_212 : decode cX12_pour 212 = .ok (.return_, 1) := by decide +kernel
def bX12_pour_0 (f1 f2 f3 : ox_F) (rc : Nat → ox_K) : ox_K := o_al 0 (o_ic (0) (o_cv f1 12 1 (o_is 1 (o_al 0 (o_getr 12 43 (o_ic (2) (o_ia (o_is 2 (o_al 0 (o_getr 12 43 (o_ic (0) (o_ia (o_al 0 (o_getr 12 43 (o_ic (13) (o_ia (o_iadd (o_al 0 (o_getr 12 43 (o_ic (14) (o_ia (o_iadd (o_is 3 (o_il 3 (o_ic (1) (o_icge (rc 45) (o_ic (1) (rc 46))))))))))))))))))))))))))))
def bX12_pour_45 (f1 f2 f3 : ox_F) (rc : Nat → ox_K) : ox_K := o_il 3 (rc 46)
def bX12_pour_46 (f1 f2 f3 : ox_F) (rc : Nat → ox_K) : ox_K := o_is 3 (o_al 0 (o_getr 12 35 (o_il 1 (o_ia (o_ifgt (rc 66) (o_al 0 (o_getr 12 25 (o_il 2 (o_ia (o_il 3 (o_icge (rc 67) (rc 66))))))))))))
def bX12_pour_66 (f1 f2 f3 : ox_F) (rc : Nat → ox_K) : ox_K := o_ret
def bX12_pour_67 (f1 f2 f3 : ox_F) (rc : Nat → ox_K) : ox_K := o_al 0 (o_getr 12 35 (o_il 1 (o_il 3 (o_iast (o_al 0 (o_getr 12 36 (o_il 1 (o_ic (0) (o_iast (o_al 0 (o_getr 12 37 (o_il 1 (o_al 0 (o_getr 12 27 (o_il 2 (o_ia (o_iast (o_al 0 (o_getr 12 38 (o_il 1 (o_al 0 (o_getr 12 28 (o_il 2 (o_ia (o_iast (o_al 0 (o_getr 12 39 (o_il 1 (o_al 0 (o_getr 12 29 (o_il 2 (o_ia (o_iast (o_al 0 (o_getr 12 40 (o_il 1 (o_al 0 (o_getr 12 29 (o_il 2 (o_ia (o_al 0 (o_getr 12 30 (o_il 2 (o_ia (o_ct f2 2 (o_ic (1) (o_icne (rc 145) (o_ic (1) (rc 146)))))))))))))))))))))))))))))))))))))))))))))))))
def bX12_pour_145 (f1 f2 f3 : ox_F) (rc : Nat → ox_K) : ox_K := o_ic (0) (rc 146)
def bX12_pour_146 (f1 f2 f3 : ox_F) (rc : Nat → ox_K) : ox_K := o_zast (o_al 0 (o_getr 12 41 (o_il 1 (o_ic (0) (o_zast (o_al 0 (o_getr 12 42 (o_il 1 (o_ic (0) (o_zast (o_al 0 (o_il 2 (o_il 3 (o_cv f3 12 2 (o_al 0 (o_dup (o_geti 12 44 (o_ic (1) (o_iadd (o_puti 12 44 (o_al 0 (o_getr 12 43 (o_ic (14) (o_dup2 (o_ia (o_al 0 (o_geti 12 44 (o_ic (4) (o_irem (o_ifne (rc 209) (o_al 0 (o_getr 12 43 (o_ic (14) (o_ia (o_ic (5) (o_icge (rc 209) (o_ic (1) (rc 210))))))))))))))))))))))))))))))))))))))
def bX12_pour_209 (f1 f2 f3 : ox_F) (rc : Nat → ox_K) : ox_K := o_ic (0) (rc 210)
def bX12_pour_210 (f1 f2 f3 : ox_F) (rc : Nat → ox_K) : ox_K := o_iadd (o_iast (o_ret))
section SX12_pour
variable {p : Program} {l : Launch} {e : Env} {R : Room} {s : State} {m : MethodId} {args : Array Value} {below : List Frame} {meth : Method} {c : Code} {g : ox_G} {c0 t0 dp d1 d2 d3 : Nat} {rc : Nat → ox_K} {f1 f2 f3 : ox_F}
set_option maxRecDepth 100000 in
theorem kX12_pour_0 (C : ox_C p s m args c g 4 cX12_pour RX12) (hr : meth.sig.returnType = none) (hlk : meth.locks = false) (hnm : meth.name = "pour") (hR : R.frames = dp ∧ R.locals = 60 * dp) (h1 : ox_Sem yX12_mouldAt cX12_mouldAt 2 (some .int) d1 f1) (e1 : d1 + 1 ≤ dp) (h2 : ox_Sem yX12_stateOf cX12_stateOf 2 (some .int) d2 f2) (e2 : d2 + 1 ≤ dp) (h3 : ox_Sem yX12_take cX12_take 3 none d3 f3) (e3 : d3 + 1 ≤ dp) (hrc : ∀ b, ox_S p l e R s m args below meth c g 4 c0 t0 (ox_QM g below args s c0 t0) b (rc b)) : ox_S p l e R s m args below meth c g 4 c0 t0 (ox_QM g below args s c0 t0) 0 (bX12_pour_0 f1 f2 f3 rc) := by
  refine s_aload_n (pc := 0) C dX12_pour_0 rfl ?_
  refine s_iconst (pc := 1) C dX12_pour_1 (by decide) ?_
  refine s_cv (pc := 2) (q := (RX12, TX12, 59)) C h1 rfl wM_X12_259 wI_X12_mouldAt wS_X12_mouldAt wN_X12 wC_X12_mouldAt (by decide +kernel) (ox_lv hR e1 (by decide)) dX12_pour_2 ?_
  refine s_istore_n (pc := 5) C dX12_pour_5 rfl (by decide) ?_
  refine s_aload_n (pc := 6) C dX12_pour_6 rfl ?_
  refine s_getr (pc := 7) (j := 43) (q := (RX12, TX12, 59)) C rfl (by decide) rfl wF_X12_87 dX12_pour_7 ?_
  refine s_iconst (pc := 10) C dX12_pour_10 (by decide) ?_
  refine s_ia (pc := 11) C dX12_pour_11 ?_
  refine s_istore_n (pc := 12) C dX12_pour_12 rfl (by decide) ?_
  refine s_aload_n (pc := 13) C dX12_pour_13 rfl ?_
  refine s_getr (pc := 14) (j := 43) (q := (RX12, TX12, 59)) C rfl (by decide) rfl wF_X12_87 dX12_pour_14 ?_
  refine s_iconst (pc := 17) C dX12_pour_17 (by decide) ?_
  refine s_ia (pc := 18) C dX12_pour_18 ?_
  refine s_aload_n (pc := 19) C dX12_pour_19 rfl ?_
  refine s_getr (pc := 20) (j := 43) (q := (RX12, TX12, 59)) C rfl (by decide) rfl wF_X12_87 dX12_pour_20 ?_
  refine s_bipush (pc := 23) C dX12_pour_23 (by decide) ?_
  refine s_ia (pc := 25) C dX12_pour_25 ?_
  refine s_iadd (pc := 26) C dX12_pour_26 ?_
  refine s_aload_n (pc := 27) C dX12_pour_27 rfl ?_
  refine s_getr (pc := 28) (j := 43) (q := (RX12, TX12, 59)) C rfl (by decide) rfl wF_X12_87 dX12_pour_28 ?_
  refine s_bipush (pc := 31) C dX12_pour_31 (by decide) ?_
  refine s_ia (pc := 33) C dX12_pour_33 ?_
  refine s_iadd (pc := 34) C dX12_pour_34 ?_
  refine s_istore_n (pc := 35) C dX12_pour_35 rfl (by decide) ?_
  refine s_iload_n (pc := 36) C dX12_pour_36 rfl ?_
  refine s_iconst (pc := 37) C dX12_pour_37 (by decide) ?_
  refine s_icmpge (pc := 38) 45 C dX12_pour_38 (by decide) (hrc 45) ?_
  refine s_iconst (pc := 41) C dX12_pour_41 (by decide) ?_
  exact s_goto (pc := 42) 46 C dX12_pour_42 (by decide) (hrc 46)
set_option maxRecDepth 100000 in
theorem kX12_pour_45 (C : ox_C p s m args c g 4 cX12_pour RX12) (hr : meth.sig.returnType = none) (hlk : meth.locks = false) (hnm : meth.name = "pour") (hR : R.frames = dp ∧ R.locals = 60 * dp) (h1 : ox_Sem yX12_mouldAt cX12_mouldAt 2 (some .int) d1 f1) (e1 : d1 + 1 ≤ dp) (h2 : ox_Sem yX12_stateOf cX12_stateOf 2 (some .int) d2 f2) (e2 : d2 + 1 ≤ dp) (h3 : ox_Sem yX12_take cX12_take 3 none d3 f3) (e3 : d3 + 1 ≤ dp) (hrc : ∀ b, ox_S p l e R s m args below meth c g 4 c0 t0 (ox_QM g below args s c0 t0) b (rc b)) : ox_S p l e R s m args below meth c g 4 c0 t0 (ox_QM g below args s c0 t0) 45 (bX12_pour_45 f1 f2 f3 rc) := by
  refine s_iload_n (pc := 45) C dX12_pour_45 rfl ?_
  exact hrc 46
set_option maxRecDepth 100000 in
theorem kX12_pour_46 (C : ox_C p s m args c g 4 cX12_pour RX12) (hr : meth.sig.returnType = none) (hlk : meth.locks = false) (hnm : meth.name = "pour") (hR : R.frames = dp ∧ R.locals = 60 * dp) (h1 : ox_Sem yX12_mouldAt cX12_mouldAt 2 (some .int) d1 f1) (e1 : d1 + 1 ≤ dp) (h2 : ox_Sem yX12_stateOf cX12_stateOf 2 (some .int) d2 f2) (e2 : d2 + 1 ≤ dp) (h3 : ox_Sem yX12_take cX12_take 3 none d3 f3) (e3 : d3 + 1 ≤ dp) (hrc : ∀ b, ox_S p l e R s m args below meth c g 4 c0 t0 (ox_QM g below args s c0 t0) b (rc b)) : ox_S p l e R s m args below meth c g 4 c0 t0 (ox_QM g below args s c0 t0) 46 (bX12_pour_46 f1 f2 f3 rc) := by
  refine s_istore_n (pc := 46) C dX12_pour_46 rfl (by decide) ?_
  refine s_aload_n (pc := 47) C dX12_pour_47 rfl ?_
  refine s_getr (pc := 48) (j := 35) (q := (RX12, TX12, 59)) C rfl (by decide) rfl wF_X12_62 dX12_pour_48 ?_
  refine s_iload_n (pc := 51) C dX12_pour_51 rfl ?_
  refine s_ia (pc := 52) C dX12_pour_52 ?_
  refine s_ifgt (pc := 53) 66 C dX12_pour_53 (by decide) (hrc 66) ?_
  refine s_aload_n (pc := 56) C dX12_pour_56 rfl ?_
  refine s_getr (pc := 57) (j := 25) (q := (RX12, TX12, 59)) C rfl (by decide) rfl wF_X12_40 dX12_pour_57 ?_
  refine s_iload_n (pc := 60) C dX12_pour_60 rfl ?_
  refine s_ia (pc := 61) C dX12_pour_61 ?_
  refine s_iload_n (pc := 62) C dX12_pour_62 rfl ?_
  refine s_icmpge (pc := 63) 67 C dX12_pour_63 (by decide) (hrc 67) ?_
  exact hrc 66
set_option maxRecDepth 100000 in
theorem kX12_pour_66 (C : ox_C p s m args c g 4 cX12_pour RX12) (hr : meth.sig.returnType = none) (hlk : meth.locks = false) (hnm : meth.name = "pour") (hR : R.frames = dp ∧ R.locals = 60 * dp) (h1 : ox_Sem yX12_mouldAt cX12_mouldAt 2 (some .int) d1 f1) (e1 : d1 + 1 ≤ dp) (h2 : ox_Sem yX12_stateOf cX12_stateOf 2 (some .int) d2 f2) (e2 : d2 + 1 ≤ dp) (h3 : ox_Sem yX12_take cX12_take 3 none d3 f3) (e3 : d3 + 1 ≤ dp) (hrc : ∀ b, ox_S p l e R s m args below meth c g 4 c0 t0 (ox_QM g below args s c0 t0) b (rc b)) : ox_S p l e R s m args below meth c g 4 c0 t0 (ox_QM g below args s c0 t0) 66 (bX12_pour_66 f1 f2 f3 rc) := by
  exact s_ret (pc := 66) C hr hlk dX12_pour_66
set_option maxRecDepth 100000 in
theorem kX12_pour_67 (C : ox_C p s m args c g 4 cX12_pour RX12) (hr : meth.sig.returnType = none) (hlk : meth.locks = false) (hnm : meth.name = "pour") (hR : R.frames = dp ∧ R.locals = 60 * dp) (h1 : ox_Sem yX12_mouldAt cX12_mouldAt 2 (some .int) d1 f1) (e1 : d1 + 1 ≤ dp) (h2 : ox_Sem yX12_stateOf cX12_stateOf 2 (some .int) d2 f2) (e2 : d2 + 1 ≤ dp) (h3 : ox_Sem yX12_take cX12_take 3 none d3 f3) (e3 : d3 + 1 ≤ dp) (hrc : ∀ b, ox_S p l e R s m args below meth c g 4 c0 t0 (ox_QM g below args s c0 t0) b (rc b)) : ox_S p l e R s m args below meth c g 4 c0 t0 (ox_QM g below args s c0 t0) 67 (bX12_pour_67 f1 f2 f3 rc) := by
  refine s_aload_n (pc := 67) C dX12_pour_67 rfl ?_
  refine s_getr (pc := 68) (j := 35) (q := (RX12, TX12, 59)) C rfl (by decide) rfl wF_X12_62 dX12_pour_68 ?_
  refine s_iload_n (pc := 71) C dX12_pour_71 rfl ?_
  refine s_iload_n (pc := 72) C dX12_pour_72 rfl ?_
  refine s_iast (pc := 73) C dX12_pour_73 ?_
  refine s_aload_n (pc := 74) C dX12_pour_74 rfl ?_
  refine s_getr (pc := 75) (j := 36) (q := (RX12, TX12, 59)) C rfl (by decide) rfl wF_X12_65 dX12_pour_75 ?_
  refine s_iload_n (pc := 78) C dX12_pour_78 rfl ?_
  refine s_iconst (pc := 79) C dX12_pour_79 (by decide) ?_
  refine s_iast (pc := 80) C dX12_pour_80 ?_
  refine s_aload_n (pc := 81) C dX12_pour_81 rfl ?_
  refine s_getr (pc := 82) (j := 37) (q := (RX12, TX12, 59)) C rfl (by decide) rfl wF_X12_68 dX12_pour_82 ?_
  refine s_iload_n (pc := 85) C dX12_pour_85 rfl ?_
  refine s_aload_n (pc := 86) C dX12_pour_86 rfl ?_
  refine s_getr (pc := 87) (j := 27) (q := (RX12, TX12, 59)) C rfl (by decide) rfl wF_X12_46 dX12_pour_87 ?_
  refine s_iload_n (pc := 90) C dX12_pour_90 rfl ?_
  refine s_ia (pc := 91) C dX12_pour_91 ?_
  refine s_iast (pc := 92) C dX12_pour_92 ?_
  refine s_aload_n (pc := 93) C dX12_pour_93 rfl ?_
  refine s_getr (pc := 94) (j := 38) (q := (RX12, TX12, 59)) C rfl (by decide) rfl wF_X12_71 dX12_pour_94 ?_
  refine s_iload_n (pc := 97) C dX12_pour_97 rfl ?_
  refine s_aload_n (pc := 98) C dX12_pour_98 rfl ?_
  refine s_getr (pc := 99) (j := 28) (q := (RX12, TX12, 59)) C rfl (by decide) rfl wF_X12_49 dX12_pour_99 ?_
  refine s_iload_n (pc := 102) C dX12_pour_102 rfl ?_
  refine s_ia (pc := 103) C dX12_pour_103 ?_
  refine s_iast (pc := 104) C dX12_pour_104 ?_
  refine s_aload_n (pc := 105) C dX12_pour_105 rfl ?_
  refine s_getr (pc := 106) (j := 39) (q := (RX12, TX12, 59)) C rfl (by decide) rfl wF_X12_74 dX12_pour_106 ?_
  refine s_iload_n (pc := 109) C dX12_pour_109 rfl ?_
  refine s_aload_n (pc := 110) C dX12_pour_110 rfl ?_
  refine s_getr (pc := 111) (j := 29) (q := (RX12, TX12, 59)) C rfl (by decide) rfl wF_X12_52 dX12_pour_111 ?_
  refine s_iload_n (pc := 114) C dX12_pour_114 rfl ?_
  refine s_ia (pc := 115) C dX12_pour_115 ?_
  refine s_iast (pc := 116) C dX12_pour_116 ?_
  refine s_aload_n (pc := 117) C dX12_pour_117 rfl ?_
  refine s_getr (pc := 118) (j := 40) (q := (RX12, TX12, 59)) C rfl (by decide) rfl wF_X12_77 dX12_pour_118 ?_
  refine s_iload_n (pc := 121) C dX12_pour_121 rfl ?_
  refine s_aload_n (pc := 122) C dX12_pour_122 rfl ?_
  refine s_getr (pc := 123) (j := 29) (q := (RX12, TX12, 59)) C rfl (by decide) rfl wF_X12_52 dX12_pour_123 ?_
  refine s_iload_n (pc := 126) C dX12_pour_126 rfl ?_
  refine s_ia (pc := 127) C dX12_pour_127 ?_
  refine s_aload_n (pc := 128) C dX12_pour_128 rfl ?_
  refine s_getr (pc := 129) (j := 30) (q := (RX12, TX12, 59)) C rfl (by decide) rfl wF_X12_55 dX12_pour_129 ?_
  refine s_iload_n (pc := 132) C dX12_pour_132 rfl ?_
  refine s_ia (pc := 133) C dX12_pour_133 ?_
  refine s_ct (pc := 134) C h2 wM_X12_232 wT_X12_stateOf wN_X12 wC_X12_stateOf (by decide +kernel) (ox_lv hR e2 (by decide)) dX12_pour_134 ?_
  refine s_iconst (pc := 137) C dX12_pour_137 (by decide) ?_
  refine s_icmpne (pc := 138) 145 C dX12_pour_138 (by decide) (hrc 145) ?_
  refine s_iconst (pc := 141) C dX12_pour_141 (by decide) ?_
  exact s_goto (pc := 142) 146 C dX12_pour_142 (by decide) (hrc 146)
set_option maxRecDepth 100000 in
theorem kX12_pour_145 (C : ox_C p s m args c g 4 cX12_pour RX12) (hr : meth.sig.returnType = none) (hlk : meth.locks = false) (hnm : meth.name = "pour") (hR : R.frames = dp ∧ R.locals = 60 * dp) (h1 : ox_Sem yX12_mouldAt cX12_mouldAt 2 (some .int) d1 f1) (e1 : d1 + 1 ≤ dp) (h2 : ox_Sem yX12_stateOf cX12_stateOf 2 (some .int) d2 f2) (e2 : d2 + 1 ≤ dp) (h3 : ox_Sem yX12_take cX12_take 3 none d3 f3) (e3 : d3 + 1 ≤ dp) (hrc : ∀ b, ox_S p l e R s m args below meth c g 4 c0 t0 (ox_QM g below args s c0 t0) b (rc b)) : ox_S p l e R s m args below meth c g 4 c0 t0 (ox_QM g below args s c0 t0) 145 (bX12_pour_145 f1 f2 f3 rc) := by
  refine s_iconst (pc := 145) C dX12_pour_145 (by decide) ?_
  exact hrc 146
set_option maxRecDepth 100000 in
theorem kX12_pour_146 (C : ox_C p s m args c g 4 cX12_pour RX12) (hr : meth.sig.returnType = none) (hlk : meth.locks = false) (hnm : meth.name = "pour") (hR : R.frames = dp ∧ R.locals = 60 * dp) (h1 : ox_Sem yX12_mouldAt cX12_mouldAt 2 (some .int) d1 f1) (e1 : d1 + 1 ≤ dp) (h2 : ox_Sem yX12_stateOf cX12_stateOf 2 (some .int) d2 f2) (e2 : d2 + 1 ≤ dp) (h3 : ox_Sem yX12_take cX12_take 3 none d3 f3) (e3 : d3 + 1 ≤ dp) (hrc : ∀ b, ox_S p l e R s m args below meth c g 4 c0 t0 (ox_QM g below args s c0 t0) b (rc b)) : ox_S p l e R s m args below meth c g 4 c0 t0 (ox_QM g below args s c0 t0) 146 (bX12_pour_146 f1 f2 f3 rc) := by
  refine s_zast (pc := 146) C dX12_pour_146 ?_
  refine s_aload_n (pc := 147) C dX12_pour_147 rfl ?_
  refine s_getr (pc := 148) (j := 41) (q := (RX12, TX12, 59)) C rfl (by decide) rfl wF_X12_81 dX12_pour_148 ?_
  refine s_iload_n (pc := 151) C dX12_pour_151 rfl ?_
  refine s_iconst (pc := 152) C dX12_pour_152 (by decide) ?_
  refine s_zast (pc := 153) C dX12_pour_153 ?_
  refine s_aload_n (pc := 154) C dX12_pour_154 rfl ?_
  refine s_getr (pc := 155) (j := 42) (q := (RX12, TX12, 59)) C rfl (by decide) rfl wF_X12_84 dX12_pour_155 ?_
  refine s_iload_n (pc := 158) C dX12_pour_158 rfl ?_
  refine s_iconst (pc := 159) C dX12_pour_159 (by decide) ?_
  refine s_zast (pc := 160) C dX12_pour_160 ?_
  refine s_aload_n (pc := 161) C dX12_pour_161 rfl ?_
  refine s_iload_n (pc := 162) C dX12_pour_162 rfl ?_
  refine s_iload_n (pc := 163) C dX12_pour_163 rfl ?_
  refine s_cv (pc := 164) (q := (RX12, TX12, 59)) C h3 rfl wM_X12_262 wI_X12_take wS_X12_take wN_X12 wC_X12_take (by decide +kernel) (ox_lv hR e3 (by decide)) dX12_pour_164 ?_
  refine s_aload_n (pc := 167) C dX12_pour_167 rfl ?_
  refine s_dup (pc := 168) C dX12_pour_168 ?_
  refine s_geti (pc := 169) (j := 44) (q := (RX12, TX12, 59)) C rfl (by decide) rfl wF_X12_266 dX12_pour_169 ?_
  refine s_iconst (pc := 172) C dX12_pour_172 (by decide) ?_
  refine s_iadd (pc := 173) C dX12_pour_173 ?_
  refine s_puti (pc := 174) (j := 44) (q := (RX12, TX12, 59)) C rfl (by decide) rfl (Or.inl rfl) wF_X12_266 dX12_pour_174 ?_
  refine s_aload_n (pc := 177) C dX12_pour_177 rfl ?_
  refine s_getr (pc := 178) (j := 43) (q := (RX12, TX12, 59)) C rfl (by decide) rfl wF_X12_87 dX12_pour_178 ?_
  refine s_bipush (pc := 181) C dX12_pour_181 (by decide) ?_
  refine s_dup2 (pc := 183) C dX12_pour_183 ?_
  refine s_ia (pc := 184) C dX12_pour_184 ?_
  refine s_aload_n (pc := 185) C dX12_pour_185 rfl ?_
  refine s_geti (pc := 186) (j := 44) (q := (RX12, TX12, 59)) C rfl (by decide) rfl wF_X12_266 dX12_pour_186 ?_
  refine s_iconst (pc := 189) C dX12_pour_189 (by decide) ?_
  refine s_irem (pc := 190) C dX12_pour_190 ?_
  refine s_ifne (pc := 191) 209 C dX12_pour_191 (by decide) (hrc 209) ?_
  refine s_aload_n (pc := 194) C dX12_pour_194 rfl ?_
  refine s_getr (pc := 195) (j := 43) (q := (RX12, TX12, 59)) C rfl (by decide) rfl wF_X12_87 dX12_pour_195 ?_
  refine s_bipush (pc := 198) C dX12_pour_198 (by decide) ?_
  refine s_ia (pc := 200) C dX12_pour_200 ?_
  refine s_iconst (pc := 201) C dX12_pour_201 (by decide) ?_
  refine s_icmpge (pc := 202) 209 C dX12_pour_202 (by decide) (hrc 209) ?_
  refine s_iconst (pc := 205) C dX12_pour_205 (by decide) ?_
  exact s_goto (pc := 206) 210 C dX12_pour_206 (by decide) (hrc 210)
set_option maxRecDepth 100000 in
theorem kX12_pour_209 (C : ox_C p s m args c g 4 cX12_pour RX12) (hr : meth.sig.returnType = none) (hlk : meth.locks = false) (hnm : meth.name = "pour") (hR : R.frames = dp ∧ R.locals = 60 * dp) (h1 : ox_Sem yX12_mouldAt cX12_mouldAt 2 (some .int) d1 f1) (e1 : d1 + 1 ≤ dp) (h2 : ox_Sem yX12_stateOf cX12_stateOf 2 (some .int) d2 f2) (e2 : d2 + 1 ≤ dp) (h3 : ox_Sem yX12_take cX12_take 3 none d3 f3) (e3 : d3 + 1 ≤ dp) (hrc : ∀ b, ox_S p l e R s m args below meth c g 4 c0 t0 (ox_QM g below args s c0 t0) b (rc b)) : ox_S p l e R s m args below meth c g 4 c0 t0 (ox_QM g below args s c0 t0) 209 (bX12_pour_209 f1 f2 f3 rc) := by
  refine s_iconst (pc := 209) C dX12_pour_209 (by decide) ?_
  exact hrc 210
set_option maxRecDepth 100000 in
theorem kX12_pour_210 (C : ox_C p s m args c g 4 cX12_pour RX12) (hr : meth.sig.returnType = none) (hlk : meth.locks = false) (hnm : meth.name = "pour") (hR : R.frames = dp ∧ R.locals = 60 * dp) (h1 : ox_Sem yX12_mouldAt cX12_mouldAt 2 (some .int) d1 f1) (e1 : d1 + 1 ≤ dp) (h2 : ox_Sem yX12_stateOf cX12_stateOf 2 (some .int) d2 f2) (e2 : d2 + 1 ≤ dp) (h3 : ox_Sem yX12_take cX12_take 3 none d3 f3) (e3 : d3 + 1 ≤ dp) (hrc : ∀ b, ox_S p l e R s m args below meth c g 4 c0 t0 (ox_QM g below args s c0 t0) b (rc b)) : ox_S p l e R s m args below meth c g 4 c0 t0 (ox_QM g below args s c0 t0) 210 (bX12_pour_210 f1 f2 f3 rc) := by
  refine s_iadd (pc := 210) C dX12_pour_210 ?_
  refine s_iast (pc := 211) C dX12_pour_211 ?_
  exact s_ret (pc := 212) C hr hlk dX12_pour_212
end SX12_pour
def bsX12_pour (f1 f2 f3 : ox_F) (b : Nat) (rc : Nat → ox_K) : ox_K := if b = 0 then bX12_pour_0 f1 f2 f3 rc else if b = 45 then bX12_pour_45 f1 f2 f3 rc else if b = 46 then bX12_pour_46 f1 f2 f3 rc else if b = 66 then bX12_pour_66 f1 f2 f3 rc else if b = 67 then bX12_pour_67 f1 f2 f3 rc else if b = 145 then bX12_pour_145 f1 f2 f3 rc else if b = 146 then bX12_pour_146 f1 f2 f3 rc else if b = 209 then bX12_pour_209 f1 f2 f3 rc else if b = 210 then bX12_pour_210 f1 f2 f3 rc else ox_no
theorem mX12_pour {dp d1 d2 d3 : Nat} {f1 f2 f3 f : ox_F} (h1 : ox_Sem yX12_mouldAt cX12_mouldAt 2 (some .int) d1 f1) (e1 : d1 + 1 ≤ dp) (h2 : ox_Sem yX12_stateOf cX12_stateOf 2 (some .int) d2 f2) (e2 : d2 + 1 ≤ dp) (h3 : ox_Sem yX12_take cX12_take 3 none d3 f3) (e3 : d3 + 1 ≤ dp) (hf : ∀ as h r, f as h = some r → ox_cs as ≤ 4 ∧ ox_le h r.2 ∧ ∃ n, ox_run (bsX12_pour f1 f2 f3) n 0 (lv_args 0 as) [] h = some r) : ox_Sem yX12_pour cX12_pour 4 none dp f := by
  refine ox_meth (bs := bsX12_pour f1 f2 f3) (by decide) hf ?_
  intro p l e R s m args below meth c g c0 t0 C hr hlk hnm hR rc hrc b
  unfold bsX12_pour
  refine ox_br (kX12_pour_0 C hr hlk hnm hR h1 e1 h2 e2 h3 e3 hrc) ?_
  refine ox_br (kX12_pour_45 C hr hlk hnm hR h1 e1 h2 e2 h3 e3 hrc) ?_
  refine ox_br (kX12_pour_46 C hr hlk hnm hR h1 e1 h2 e2 h3 e3 hrc) ?_
  refine ox_br (kX12_pour_66 C hr hlk hnm hR h1 e1 h2 e2 h3 e3 hrc) ?_
  refine ox_br (kX12_pour_67 C hr hlk hnm hR h1 e1 h2 e2 h3 e3 hrc) ?_
  refine ox_br (kX12_pour_145 C hr hlk hnm hR h1 e1 h2 e2 h3 e3 hrc) ?_
  refine ox_br (kX12_pour_146 C hr hlk hnm hR h1 e1 h2 e2 h3 e3 hrc) ?_
  refine ox_br (kX12_pour_209 C hr hlk hnm hR h1 e1 h2 e2 h3 e3 hrc) ?_
  refine ox_br (kX12_pour_210 C hr hlk hnm hR h1 e1 h2 e2 h3 e3 hrc) ?_
  exact s_no
theorem dX12_beatOnce_0 : decode cX12_beatOnce 0 = .ok (.aload_n 0, 1) := by decide +kernel
theorem dX12_beatOnce_1 : decode cX12_beatOnce 1 = .ok (.aload_n 0, 1) := by decide +kernel
theorem dX12_beatOnce_2 : decode cX12_beatOnce 2 = .ok (.getfield 252, 3) := by decide +kernel
theorem dX12_beatOnce_5 : decode cX12_beatOnce 5 = .ok (.aload_n 0, 1) := by decide +kernel
theorem dX12_beatOnce_6 : decode cX12_beatOnce 6 = .ok (.getfield 58, 3) := by decide +kernel
theorem dX12_beatOnce_9 : decode cX12_beatOnce 9 = .ok (.iadd, 1) := by decide +kernel
theorem dX12_beatOnce_10 : decode cX12_beatOnce 10 = .ok (.iconst 1, 1) := by decide +kernel
theorem dX12_beatOnce_11 : decode cX12_beatOnce 11 = .ok (.isub, 1) := by decide +kernel
theorem dX12_beatOnce_12 : decode cX12_beatOnce 12 = .ok (.aload_n 0, 1) := by decide +kernel
theorem dX12_beatOnce_13 : decode cX12_beatOnce 13 = .ok (.getfield 58, 3) := by decide +kernel
theorem dX12_beatOnce_16 : decode cX12_beatOnce 16 = .ok (.irem, 1) := by decide +kernel
theorem dX12_beatOnce_17 : decode cX12_beatOnce 17 = .ok (.putfield 252, 3) := by decide +kernel
theorem dX12_beatOnce_20 : decode cX12_beatOnce 20 = .ok (.aload_n 0, 1) := by decide +kernel
theorem dX12_beatOnce_21 : decode cX12_beatOnce 21 = .ok (.invokevirtual 269, 3) := by decide +kernel
theorem dX12_beatOnce_24 : decode cX12_beatOnce 24 = .ok (.aload_n 0, 1) := by decide +kernel
theorem dX12_beatOnce_25 : decode cX12_beatOnce 25 = .ok (.iconst 1, 1) := by decide +kernel
theorem dX12_beatOnce_26 : decode cX12_beatOnce 26 = .ok (.invokevirtual 259, 3) := by decide +kernel
theorem dX12_beatOnce_29 : decode cX12_beatOnce 29 = .ok (.istore_n 1, 1) := by decide +kernel
theorem dX12_beatOnce_30 : decode cX12_beatOnce 30 = .ok (.aload_n 0, 1) := by decide +kernel
theorem dX12_beatOnce_31 : decode cX12_beatOnce 31 = .ok (.getfield 81, 3) := by decide +kernel
theorem dX12_beatOnce_34 : decode cX12_beatOnce 34 = .ok (.iload_n 1, 1) := by decide +kernel
theorem dX12_beatOnce_35 : decode cX12_beatOnce 35 = .ok (.aload_n 0, 1) := by decide +kernel
theorem dX12_beatOnce_36 : decode cX12_beatOnce 36 = .ok (.getfield 81, 3) := by decide +kernel
theorem dX12_beatOnce_39 : decode cX12_beatOnce 39 = .ok (.iload_n 1, 1) := by decide +kernel
theorem dX12_beatOnce_40 : decode cX12_beatOnce 40 = .ok (.baload, 1) := by decide +kernel
theorem dX12_beatOnce_41 : decode cX12_beatOnce 41 = .ok (.ifCond .ne 12, 3) := by decide +kernel
theorem dX12_beatOnce_44 : decode cX12_beatOnce 44 = .ok (.aload_n 0, 1) := by decide +kernel
theorem dX12_beatOnce_45 : decode cX12_beatOnce 45 = .ok (.getfield 62, 3) := by decide +kernel
theorem dX12_beatOnce_48 : decode cX12_beatOnce 48 = .ok (.iload_n 1, 1) := by decide +kernel
theorem dX12_beatOnce_49 : decode cX12_beatOnce 49 = .ok (.iaload, 1) := by decide +kernel
theorem dX12_beatOnce_50 : decode cX12_beatOnce 50 = .ok (.ifCond .le 7, 3) := by decide +kernel
theorem dX12_beatOnce_53 : decode cX12_beatOnce 53 = .ok (.iconst 1, 1) := by decide +kernel
theorem dX12_beatOnce_54 : decode cX12_beatOnce 54 = .ok (.goto 4, 3) := by decide +kernel
theorem dX12_beatOnce_57 : decode cX12_beatOnce 57 = .ok (.iconst 0, 1) := by decide +kernel
theorem dX12_beatOnce_58 : decode cX12_beatOnce 58 = .ok (.bastore, 1) := by decide +kernel
theorem dX12_beatOnce_59 : decode cX12_beatOnce 59 = .ok (.aload_n 0, 1) := by decide +kernel
theorem dX12_beatOnce_60 : decode cX12_beatOnce 60 = .ok (.iconst 2, 1) := by decide +kernel
theorem dX12_beatOnce_61 : decode cX12_beatOnce 61 = .ok (.invokevirtual 259, 3) := by decide +kernel
theorem dX12_beatOnce_64 : decode cX12_beatOnce 64 = .ok (.istore_n 1, 1) := by decide +kernel
theorem dX12_beatOnce_65 : decode cX12_beatOnce 65 = .ok (.aload_n 0, 1) := by decide +kernel
theorem dX12_beatOnce_66 : decode cX12_beatOnce 66 = .ok (.getfield 62, 3) := by decide +kernel
theorem dX12_beatOnce_69 : decode cX12_beatOnce 69 = .ok (.iload_n 1, 1) := by decide +kernel
theorem dX12_beatOnce_70 : decode cX12_beatOnce 70 = .ok (.iaload, 1) := by decide +kernel
theorem dX12_beatOnce_71 : decode cX12_beatOnce 71 = .ok (.ifCond .le 31, 3) := by decide +kernel
theorem dX12_beatOnce_74 : decode cX12_beatOnce 74 = .ok (.aload_n 0, 1) := by decide +kernel
theorem dX12_beatOnce_75 : decode cX12_beatOnce 75 = .ok (.getfield 84, 3) := by decide +kernel
theorem dX12_beatOnce_78 : decode cX12_beatOnce 78 = .ok (.iload_n 1, 1) := by decide +kernel
theorem dX12_beatOnce_79 : decode cX12_beatOnce 79 = .ok (.baload, 1) := by decide +kernel
theorem dX12_beatOnce_80 : decode cX12_beatOnce 80 = .ok (.ifCond .ne 22, 3) := by decide +kernel
theorem dX12_beatOnce_83 : decode cX12_beatOnce 83 = .ok (.aload_n 0, 1) := by decide +kernel
theorem dX12_beatOnce_84 : decode cX12_beatOnce 84 = .ok (.getfield 65, 3) := by decide +kernel
theorem dX12_beatOnce_87 : decode cX12_beatOnce 87 = .ok (.iload_n 1, 1) := by decide +kernel
theorem dX12_beatOnce_88 : decode cX12_beatOnce 88 = .ok (.aload_n 0, 1) := by decide +kernel
theorem dX12_beatOnce_89 : decode cX12_beatOnce 89 = .ok (.getfield 87, 3) := by decide +kernel
theorem dX12_beatOnce_92 : decode cX12_beatOnce 92 = .ok (.iconst 1, 1) := by decide +kernel
theorem dX12_beatOnce_93 : decode cX12_beatOnce 93 = .ok (.iaload, 1) := by decide +kernel
theorem dX12_beatOnce_94 : decode cX12_beatOnce 94 = .ok (.iastore, 1) := by decide +kernel
theorem dX12_beatOnce_95 : decode cX12_beatOnce 95 = .ok (.aload_n 0, 1) := by decide +kernel
theorem dX12_beatOnce_96 : decode cX12_beatOnce 96 = .ok (.getfield 84, 3) := by decide +kernel
theorem dX12_beatOnce_99 : decode cX12_beatOnce 99 = .ok (.iload_n 1, 1) := by decide +kernel
theorem dX12_beatOnce_100 : decode cX12_beatOnce 100 = .ok (.iconst 1, 1) := by decide +kernel
theorem dX12_beatOnce_101 : decode cX12_beatOnce 101 = .ok (.bastore, 1) := by decide +kernel
theorem dX12_beatOnce_102 : decode cX12_beatOnce 102 = .ok (.iconst 3, 1) := by decide +kernel
theorem dX12_beatOnce_103 : decode cX12_beatOnce 103 = .ok (.istore_n 2, 1) := by decide +kernel
theorem dX12_beatOnce_104 : decode cX12_beatOnce 104 = .ok (.iload_n 2, 1) := by decide +kernel
theorem dX12_beatOnce_105 : decode cX12_beatOnce 105 = .ok (.aload_n 0, 1) := by decide +kernel
theorem dX12_beatOnce_106 : decode cX12_beatOnce 106 = .ok (.getfield 58, 3) := by decide +kernel
theorem dX12_beatOnce_109 : decode cX12_beatOnce 109 = .ok (.iconst 3, 1) := by decide +kernel
theorem dX12_beatOnce_110 : decode cX12_beatOnce 110 = .ok (.isub, 1) := by decide +kernel
theorem dX12_beatOnce_111 : decode cX12_beatOnce 111 = .ok (.if_icmp .gt 45, 3) := by decide +kernel
theorem dX12_beatOnce_114 : decode cX12_beatOnce 114 = .ok (.aload_n 0, 1) := by decide +kernel
theorem dX12_beatOnce_115 : decode cX12_beatOnce 115 = .ok (.iload_n 2, 1) := by decide +kernel
theorem dX12_beatOnce_116 : decode cX12_beatOnce 116 = .ok (.invokevirtual 259, 3) := by decide +kernel
theorem dX12_beatOnce_119 : decode cX12_beatOnce 119 = .ok (.istore_n 1, 1) := by decide +kernel
theorem dX12_beatOnce_120 : decode cX12_beatOnce 120 = .ok (.aload_n 0, 1) := by decide +kernel
theorem dX12_beatOnce_121 : decode cX12_beatOnce 121 = .ok (.getfield 74, 3) := by decide +kernel
theorem dX12_beatOnce_124 : decode cX12_beatOnce 124 = .ok (.iload_n 1, 1) := by decide +kernel
theorem dX12_beatOnce_125 : decode cX12_beatOnce 125 = .ok (.iaload, 1) := by decide +kernel
theorem dX12_beatOnce_126 : decode cX12_beatOnce 126 = .ok (.aload_n 0, 1) := by decide +kernel
theorem dX12_beatOnce_127 : decode cX12_beatOnce 127 = .ok (.getfield 87, 3) := by decide +kernel
theorem dX12_beatOnce_130 : decode cX12_beatOnce 130 = .ok (.iload_n 2, 1) := by decide +kernel
theorem dX12_beatOnce_131 : decode cX12_beatOnce 131 = .ok (.iaload, 1) := by decide +kernel
theorem dX12_beatOnce_132 : decode cX12_beatOnce 132 = .ok (.isub, 1) := by decide +kernel
theorem dX12_beatOnce_133 : decode cX12_beatOnce 133 = .ok (.istore_n 3, 1) := by decide +kernel
theorem dX12_beatOnce_134 : decode cX12_beatOnce 134 = .ok (.aload_n 0, 1) := by decide +kernel
theorem dX12_beatOnce_135 : decode cX12_beatOnce 135 = .ok (.getfield 74, 3) := by decide +kernel
theorem dX12_beatOnce_138 : decode cX12_beatOnce 138 = .ok (.iload_n 1, 1) := by decide +kernel
theorem dX12_beatOnce_139 : decode cX12_beatOnce 139 = .ok (.iload_n 3, 1) := by decide +kernel
theorem dX12_beatOnce_140 : decode cX12_beatOnce 140 = .ok (.iconst 5, 1) := by decide +kernel
theorem dX12_beatOnce_141 : decode cX12_beatOnce 141 = .ok (.if_icmp .ge 7, 3) := by decide +kernel
theorem dX12_beatOnce_144 : decode cX12_beatOnce 144 = .ok (.iconst 5, 1) := by decide +kernel
theorem dX12_beatOnce_145 : decode cX12_beatOnce 145 = .ok (.goto 4, 3) := by decide +kernel
theorem dX12_beatOnce_148 : decode cX12_beatOnce 148 = .ok (.iload_n 3, 1) := by decide +kernel
theorem dX12_beatOnce_149 : decode cX12_beatOnce 149 = .ok (.iastore, 1) := by decide +kernel
theorem dX12_beatOnce_150 : decode cX12_beatOnce 150 = .ok (.iinc 2 1, 3) := by decide +kernel
theorem dX12_beatOnce_153 : decode cX12_beatOnce 153 = .ok (.goto (-49), 3) := by decide +kernel
theorem dX12_beatOnce_156 : decode cX12_beatOnce 156 = .ok (.aload_n 0, 1) := by decide +kernel
theorem dX12_beatOnce_157 : decode cX12_beatOnce 157 = .ok (.aload_n 0, 1) := by decide +kernel
theorem dX12_beatOnce_158 : decode cX12_beatOnce 158 = .ok (.getfield 58, 3) := by decide +kernel
theorem dX12_beatOnce_161 : decode cX12_beatOnce 161 = .ok (.iconst 2, 1) := by decide +kernel
theorem dX12_beatOnce_162 : decode cX12_beatOnce 162 = .ok (.isub, 1) := by decide +kernel
theorem dX12_beatOnce_163 : decode cX12_beatOnce 163 = .ok (.invokevirtual 259, 3) := by decide +kernel
theorem dX12_beatOnce_166 : decode cX12_beatOnce 166 = .ok (.istore_n 1, 1) := by decide +kernel
theorem dX12_beatOnce_167 : decode cX12_beatOnce 167 = .ok (.aload_n 0, 1) := by decide +kernel
theorem dX12_beatOnce_168 : decode cX12_beatOnce 168 = .ok (.getfield 62, 3) := by decide +kernel
theorem dX12_beatOnce_171 : decode cX12_beatOnce 171 = .ok (.iload_n 1, 1) := by decide +kernel
theorem dX12_beatOnce_172 : decode cX12_beatOnce 172 = .ok (.iaload, 1) := by decide +kernel
theorem dX12_beatOnce_173 : decode cX12_beatOnce 173 = .ok (.ifCond .le 38, 3) := by decide +kernel
theorem dX12_beatOnce_176 : decode cX12_beatOnce 176 = .ok (.aload_n 0, 1) := by decide +kernel
theorem dX12_beatOnce_177 : decode cX12_beatOnce 177 = .ok (.getfield 81, 3) := by decide +kernel
theorem dX12_beatOnce_180 : decode cX12_beatOnce 180 = .ok (.iload_n 1, 1) := by decide +kernel
theorem dX12_beatOnce_181 : decode cX12_beatOnce 181 = .ok (.baload, 1) := by decide +kernel
theorem dX12_beatOnce_182 : decode cX12_beatOnce 182 = .ok (.ifCond .eq 29, 3) := by decide +kernel
theorem dX12_beatOnce_185 : decode cX12_beatOnce 185 = .ok (.aload_n 0, 1) := by decide +kernel
theorem dX12_beatOnce_186 : decode cX12_beatOnce 186 = .ok (.getfield 74, 3) := by decide +kernel
theorem dX12_beatOnce_189 : decode cX12_beatOnce 189 = .ok (.iload_n 1, 1) := by decide +kernel
theorem dX12_beatOnce_190 : decode cX12_beatOnce 190 = .ok (.iaload, 1) := by decide +kernel
theorem dX12_beatOnce_191 : decode cX12_beatOnce 191 = .ok (.bipush 18, 2) := by decide +kernel
theorem dX12_beatOnce_193 : decode cX12_beatOnce 193 = .ok (.if_icmp .gt 18, 3) := by decide +kernel
theorem dX12_beatOnce_196 : decode cX12_beatOnce 196 = .ok (.aload_n 0, 1) := by decide +kernel
theorem dX12_beatOnce_197 : decode cX12_beatOnce 197 = .ok (.iload_n 1, 1) := by decide +kernel
theorem dX12_beatOnce_198 : decode cX12_beatOnce 198 = .ok (.invokevirtual 272, 3) := by decide +kernel
theorem dX12_beatOnce_201 : decode cX12_beatOnce 201 = .ok (.aload_n 0, 1) := by decide +kernel
theorem dX12_beatOnce_202 : decode cX12_beatOnce 202 = .ok (.getfield 62, 3) := by decide +kernel
theorem dX12_beatOnce_205 : decode cX12_beatOnce 205 = .ok (.iload_n 1, 1) := by decide +kernel
theorem dX12_beatOnce_206 : decode cX12_beatOnce 206 = .ok (.iconst 0, 1) := by decide +kernel
theorem dX12_beatOnce_207 : decode cX12_beatOnce 207 = .ok (.iastore, 1) := by decide +kernel
theorem dX12_beatOnce_208 : decode cX12_beatOnce 208 = .ok (.goto 22, 3) := by decide +kernel
theorem dX12_beatOnce_211 : decode cX12_beatOnce 211 = .ok (.aload_n 0, 1) := by decide +kernel
theorem dX12_beatOnce_212 : decode cX12_beatOnce 212 = .ok (.getfield 62, 3) := by decide +kernel
theorem dX12_beatOnce_215 : decode cX12_beatOnce 215 = .ok (.iload_n 1, 1) := by decide +kernel
theorem dX12_beatOnce_216 : decode cX12_beatOnce 216 = .ok (.iaload, 1) := by decide +kernel
theorem dX12_beatOnce_217 : decode cX12_beatOnce 217 = .ok (.ifCond .le 13, 3) := by decide +kernel
theorem dX12_beatOnce_220 : decode cX12_beatOnce 220 = .ok (.aload_n 0, 1) := by decide +kernel
theorem dX12_beatOnce_221 : decode cX12_beatOnce 221 = .ok (.dup, 1) := by decide +kernel
theorem dX12_beatOnce_222 : decode cX12_beatOnce 222 = .ok (.getfield 275, 3) := by decide +kernel
theorem dX12_beatOnce_225 : decode cX12_beatOnce 225 = .ok (.iconst 1, 1) := by decide +kernel
theorem dX12_beatOnce_226 : decode cX12_beatOnce 226 = .ok (.iadd, 1) := by decide +kernel
theorem dX12_beatOnce_227 : decode cX12_beatOnce 227 = .ok (.putfield 275, 3) := by decide +kernel
theorem dX12_beatOnce_230 : decode cX12_beatOnce 230 = .ok (.aload_n 0, 1) := by decide +kernel
theorem dX12_beatOnce_231 : decode cX12_beatOnce 231 = .ok (.dup, 1) := by decide +kernel
theorem dX12_beatOnce_232 : decode cX12_beatOnce 232 = .ok (.getfield 278, 3) := by decide +kernel
theorem dX12_beatOnce_235 : decode cX12_beatOnce 235 = .ok (.iconst 1, 1) := by decide +kernel
theorem dX12_beatOnce_236 : decode cX12_beatOnce 236 = .ok (.iadd, 1) := by decide +kernel
theorem dX12_beatOnce_237 : decode cX12_beatOnce 237 = .ok (.putfield 278, 3) := by decide +kernel
theorem dX12_beatOnce_240 : decode cX12_beatOnce 240 = .ok (.return_, 1) := by decide +kernel
def bX12_beatOnce_0 (f1 f2 f3 : ox_F) (rc : Nat → ox_K) : ox_K := o_al 0 (o_al 0 (o_geti 12 34 (o_al 0 (o_geti 12 33 (o_iadd (o_ic (1) (o_isub (o_al 0 (o_geti 12 33 (o_irem (o_puti 12 34 (o_al 0 (o_cv f1 12 0 (o_al 0 (o_ic (1) (o_cv f2 12 1 (o_is 1 (o_al 0 (o_getr 12 41 (o_il 1 (o_al 0 (o_getr 12 41 (o_il 1 (o_ba (o_ifne (rc 53) (o_al 0 (o_getr 12 35 (o_il 1 (o_ia (o_ifle (rc 57) (rc 53)))))))))))))))))))))))))))))))
def bX12_beatOnce_53 (f1 f2 f3 : ox_F) (rc : Nat → ox_K) : ox_K := o_ic (1) (rc 58)
def bX12_beatOnce_57 (f1 f2 f3 : ox_F) (rc : Nat → ox_K) : ox_K := o_ic (0) (rc 58)
def bX12_beatOnce_58 (f1 f2 f3 : ox_F) (rc : Nat → ox_K) : ox_K := o_zast (o_al 0 (o_ic (2) (o_cv f2 12 1 (o_is 1 (o_al 0 (o_getr 12 35 (o_il 1 (o_ia (o_ifle (rc 102) (o_al 0 (o_getr 12 42 (o_il 1 (o_ba (o_ifne (rc 102) (o_al 0 (o_getr 12 36 (o_il 1 (o_al 0 (o_getr 12 43 (o_ic (1) (o_ia (o_iast (o_al 0 (o_getr 12 42 (o_il 1 (o_ic (1) (o_zast (rc 102))))))))))))))))))))))))))))
def bX12_beatOnce_102 (f1 f2 f3 : ox_F) (rc : Nat → ox_K) : ox_K := o_ic (3) (o_is 2 (rc 104))
def bX12_beatOnce_104 (f1 f2 f3 : ox_F) (rc : Nat → ox_K) : ox_K := o_keep [0, 2] (o_il 2 (o_al 0 (o_geti 12 33 (o_ic (3) (o_isub (o_icgt (rc 156) (o_al 0 (o_il 2 (o_cv f2 12 1 (o_is 1 (o_al 0 (o_getr 12 39 (o_il 1 (o_ia (o_al 0 (o_getr 12 43 (o_il 2 (o_ia (o_isub (o_is 3 (o_al 0 (o_getr 12 39 (o_il 1 (o_il 3 (o_ic (5) (o_icge (rc 148) (o_ic (5) (rc 149))))))))))))))))))))))))))))
def bX12_beatOnce_148 (f1 f2 f3 : ox_F) (rc : Nat → ox_K) : ox_K := o_il 3 (rc 149)
def bX12_beatOnce_149 (f1 f2 f3 : ox_F) (rc : Nat → ox_K) : ox_K := o_iast (o_inc 2 (1) (rc 104))
def bX12_beatOnce_156 (f1 f2 f3 : ox_F) (rc : Nat → ox_K) : ox_K := o_al 0 (o_al 0 (o_geti 12 33 (o_ic (2) (o_isub (o_cv f2 12 1 (o_is 1 (o_al 0 (o_getr 12 35 (o_il 1 (o_ia (o_ifle (rc 211) (o_al 0 (o_getr 12 41 (o_il 1 (o_ba (o_ifeq (rc 211) (o_al 0 (o_getr 12 39 (o_il 1 (o_ia (o_ic (18) (o_icgt (rc 211) (o_al 0 (o_il 1 (o_cv f3 12 1 (o_al 0 (o_getr 12 35 (o_il 1 (o_ic (0) (o_iast (rc 230)))))))))))))))))))))))))))))))
def bX12_beatOnce_211 (f1 f2 f3 : ox_F) (rc : Nat → ox_K) : ox_K := o_al 0 (o_getr 12 35 (o_il 1 (o_ia (o_ifle (rc 230) (o_al 0 (o_dup (o_geti 12 46 (o_ic (1) (o_iadd (o_puti 12 46 (rc 230)))))))))))
def bX12_beatOnce_230 (f1 f2 f3 : ox_F) (rc : Nat → ox_K) : ox_K := o_al 0 (o_dup (o_geti 12 45 (o_ic (1) (o_iadd (o_puti 12 45 (o_ret))))))
section SX12_beatOnce
variable {p : Program} {l : Launch} {e : Env} {R : Room} {s : State} {m : MethodId} {args : Array Value} {below : List Frame} {meth : Method} {c : Code} {g : ox_G} {c0 t0 dp d1 d2 d3 : Nat} {rc : Nat → ox_K} {f1 f2 f3 : ox_F}
set_option maxRecDepth 100000 in
theorem kX12_beatOnce_0 (C : ox_C p s m args c g 4 cX12_beatOnce RX12) (hr : meth.sig.returnType = none) (hlk : meth.locks = false) (hnm : meth.name = "beatOnce") (hR : R.frames = dp ∧ R.locals = 60 * dp) (h1 : ox_Sem yX12_pour cX12_pour 4 none d1 f1) (e1 : d1 + 1 ≤ dp) (h2 : ox_Sem yX12_mouldAt cX12_mouldAt 2 (some .int) d2 f2) (e2 : d2 + 1 ≤ dp) (h3 : ox_Sem yX12_turnOut cX12_turnOut 3 none d3 f3) (e3 : d3 + 1 ≤ dp) (hrc : ∀ b, ox_S p l e R s m args below meth c g 4 c0 t0 (ox_QM g below args s c0 t0) b (rc b)) : ox_S p l e R s m args below meth c g 4 c0 t0 (ox_QM g below args s c0 t0) 0 (bX12_beatOnce_0 f1 f2 f3 rc) := by
  refine s_aload_n (pc := 0) C dX12_beatOnce_0 rfl ?_
  refine s_aload_n (pc := 1) C dX12_beatOnce_1 rfl ?_
  refine s_geti (pc := 2) (j := 34) (q := (RX12, TX12, 59)) C rfl (by decide) rfl wF_X12_252 dX12_beatOnce_2 ?_
  refine s_aload_n (pc := 5) C dX12_beatOnce_5 rfl ?_
  refine s_geti (pc := 6) (j := 33) (q := (RX12, TX12, 59)) C rfl (by decide) rfl wF_X12_58 dX12_beatOnce_6 ?_
  refine s_iadd (pc := 9) C dX12_beatOnce_9 ?_
  refine s_iconst (pc := 10) C dX12_beatOnce_10 (by decide) ?_
  refine s_isub (pc := 11) C dX12_beatOnce_11 ?_
  refine s_aload_n (pc := 12) C dX12_beatOnce_12 rfl ?_
  refine s_geti (pc := 13) (j := 33) (q := (RX12, TX12, 59)) C rfl (by decide) rfl wF_X12_58 dX12_beatOnce_13 ?_
  refine s_irem (pc := 16) C dX12_beatOnce_16 ?_
  refine s_puti (pc := 17) (j := 34) (q := (RX12, TX12, 59)) C rfl (by decide) rfl (Or.inl rfl) wF_X12_252 dX12_beatOnce_17 ?_
  refine s_aload_n (pc := 20) C dX12_beatOnce_20 rfl ?_
  refine s_cv (pc := 21) (q := (RX12, TX12, 59)) C h1 rfl wM_X12_269 wI_X12_pour wS_X12_pour wN_X12 wC_X12_pour (by decide +kernel) (ox_lv hR e1 (by decide)) dX12_beatOnce_21 ?_
  refine s_aload_n (pc := 24) C dX12_beatOnce_24 rfl ?_
  refine s_iconst (pc := 25) C dX12_beatOnce_25 (by decide) ?_
  refine s_cv (pc := 26) (q := (RX12, TX12, 59)) C h2 rfl wM_X12_259 wI_X12_mouldAt wS_X12_mouldAt wN_X12 wC_X12_mouldAt (by decide +kernel) (ox_lv hR e2 (by decide)) dX12_beatOnce_26 ?_
  refine s_istore_n (pc := 29) C dX12_beatOnce_29 rfl (by decide) ?_
  refine s_aload_n (pc := 30) C dX12_beatOnce_30 rfl ?_
  refine s_getr (pc := 31) (j := 41) (q := (RX12, TX12, 59)) C rfl (by decide) rfl wF_X12_81 dX12_beatOnce_31 ?_
  refine s_iload_n (pc := 34) C dX12_beatOnce_34 rfl ?_
  refine s_aload_n (pc := 35) C dX12_beatOnce_35 rfl ?_
  refine s_getr (pc := 36) (j := 41) (q := (RX12, TX12, 59)) C rfl (by decide) rfl wF_X12_81 dX12_beatOnce_36 ?_
  refine s_iload_n (pc := 39) C dX12_beatOnce_39 rfl ?_
  refine s_ba (pc := 40) C dX12_beatOnce_40 ?_
  refine s_ifne (pc := 41) 53 C dX12_beatOnce_41 (by decide) (hrc 53) ?_
  refine s_aload_n (pc := 44) C dX12_beatOnce_44 rfl ?_
  refine s_getr (pc := 45) (j := 35) (q := (RX12, TX12, 59)) C rfl (by decide) rfl wF_X12_62 dX12_beatOnce_45 ?_
  refine s_iload_n (pc := 48) C dX12_beatOnce_48 rfl ?_
  refine s_ia (pc := 49) C dX12_beatOnce_49 ?_
  refine s_ifle (pc := 50) 57 C dX12_beatOnce_50 (by decide) (hrc 57) ?_
  exact hrc 53
set_option maxRecDepth 100000 in
theorem kX12_beatOnce_53 (C : ox_C p s m args c g 4 cX12_beatOnce RX12) (hr : meth.sig.returnType = none) (hlk : meth.locks = false) (hnm : meth.name = "beatOnce") (hR : R.frames = dp ∧ R.locals = 60 * dp) (h1 : ox_Sem yX12_pour cX12_pour 4 none d1 f1) (e1 : d1 + 1 ≤ dp) (h2 : ox_Sem yX12_mouldAt cX12_mouldAt 2 (some .int) d2 f2) (e2 : d2 + 1 ≤ dp) (h3 : ox_Sem yX12_turnOut cX12_turnOut 3 none d3 f3) (e3 : d3 + 1 ≤ dp) (hrc : ∀ b, ox_S p l e R s m args below meth c g 4 c0 t0 (ox_QM g below args s c0 t0) b (rc b)) : ox_S p l e R s m args below meth c g 4 c0 t0 (ox_QM g below args s c0 t0) 53 (bX12_beatOnce_53 f1 f2 f3 rc) := by
  refine s_iconst (pc := 53) C dX12_beatOnce_53 (by decide) ?_
  exact s_goto (pc := 54) 58 C dX12_beatOnce_54 (by decide) (hrc 58)
set_option maxRecDepth 100000 in
theorem kX12_beatOnce_57 (C : ox_C p s m args c g 4 cX12_beatOnce RX12) (hr : meth.sig.returnType = none) (hlk : meth.locks = false) (hnm : meth.name = "beatOnce") (hR : R.frames = dp ∧ R.locals = 60 * dp) (h1 : ox_Sem yX12_pour cX12_pour 4 none d1 f1) (e1 : d1 + 1 ≤ dp) (h2 : ox_Sem yX12_mouldAt cX12_mouldAt 2 (some .int) d2 f2) (e2 : d2 + 1 ≤ dp) (h3 : ox_Sem yX12_turnOut cX12_turnOut 3 none d3 f3) (e3 : d3 + 1 ≤ dp) (hrc : ∀ b, ox_S p l e R s m args below meth c g 4 c0 t0 (ox_QM g below args s c0 t0) b (rc b)) : ox_S p l e R s m args below meth c g 4 c0 t0 (ox_QM g below args s c0 t0) 57 (bX12_beatOnce_57 f1 f2 f3 rc) := by
  refine s_iconst (pc := 57) C dX12_beatOnce_57 (by decide) ?_
  exact hrc 58
set_option maxRecDepth 100000 in
theorem kX12_beatOnce_58 (C : ox_C p s m args c g 4 cX12_beatOnce RX12) (hr : meth.sig.returnType = none) (hlk : meth.locks = false) (hnm : meth.name = "beatOnce") (hR : R.frames = dp ∧ R.locals = 60 * dp) (h1 : ox_Sem yX12_pour cX12_pour 4 none d1 f1) (e1 : d1 + 1 ≤ dp) (h2 : ox_Sem yX12_mouldAt cX12_mouldAt 2 (some .int) d2 f2) (e2 : d2 + 1 ≤ dp) (h3 : ox_Sem yX12_turnOut cX12_turnOut 3 none d3 f3) (e3 : d3 + 1 ≤ dp) (hrc : ∀ b, ox_S p l e R s m args below meth c g 4 c0 t0 (ox_QM g below args s c0 t0) b (rc b)) : ox_S p l e R s m args below meth c g 4 c0 t0 (ox_QM g below args s c0 t0) 58 (bX12_beatOnce_58 f1 f2 f3 rc) := by
  refine s_zast (pc := 58) C dX12_beatOnce_58 ?_
  refine s_aload_n (pc := 59) C dX12_beatOnce_59 rfl ?_
  refine s_iconst (pc := 60) C dX12_beatOnce_60 (by decide) ?_
  refine s_cv (pc := 61) (q := (RX12, TX12, 59)) C h2 rfl wM_X12_259 wI_X12_mouldAt wS_X12_mouldAt wN_X12 wC_X12_mouldAt (by decide +kernel) (ox_lv hR e2 (by decide)) dX12_beatOnce_61 ?_
  refine s_istore_n (pc := 64) C dX12_beatOnce_64 rfl (by decide) ?_
  refine s_aload_n (pc := 65) C dX12_beatOnce_65 rfl ?_
  refine s_getr (pc := 66) (j := 35) (q := (RX12, TX12, 59)) C rfl (by decide) rfl wF_X12_62 dX12_beatOnce_66 ?_
  refine s_iload_n (pc := 69) C dX12_beatOnce_69 rfl ?_
  refine s_ia (pc := 70) C dX12_beatOnce_70 ?_
  refine s_ifle (pc := 71) 102 C dX12_beatOnce_71 (by decide) (hrc 102) ?_
  refine s_aload_n (pc := 74) C dX12_beatOnce_74 rfl ?_
  refine s_getr (pc := 75) (j := 42) (q := (RX12, TX12, 59)) C rfl (by decide) rfl wF_X12_84 dX12_beatOnce_75 ?_
  refine s_iload_n (pc := 78) C dX12_beatOnce_78 rfl ?_
  refine s_ba (pc := 79) C dX12_beatOnce_79 ?_
  refine s_ifne (pc := 80) 102 C dX12_beatOnce_80 (by decide) (hrc 102) ?_
  refine s_aload_n (pc := 83) C dX12_beatOnce_83 rfl ?_
  refine s_getr (pc := 84) (j := 36) (q := (RX12, TX12, 59)) C rfl (by decide) rfl wF_X12_65 dX12_beatOnce_84 ?_
  refine s_iload_n (pc := 87) C dX12_beatOnce_87 rfl ?_
  refine s_aload_n (pc := 88) C dX12_beatOnce_88 rfl ?_
  refine s_getr (pc := 89) (j := 43) (q := (RX12, TX12, 59)) C rfl (by decide) rfl wF_X12_87 dX12_beatOnce_89 ?_
  refine s_iconst (pc := 92) C dX12_beatOnce_92 (by decide) ?_
  refine s_ia (pc := 93) C dX12_beatOnce_93 ?_
  refine s_iast (pc := 94) C dX12_beatOnce_94 ?_
  refine s_aload_n (pc := 95) C dX12_beatOnce_95 rfl ?_
  refine s_getr (pc := 96) (j := 42) (q := (RX12, TX12, 59)) C rfl (by decide) rfl wF_X12_84 dX12_beatOnce_96 ?_
  refine s_iload_n (pc := 99) C dX12_beatOnce_99 rfl ?_
  refine s_iconst (pc := 100) C dX12_beatOnce_100 (by decide) ?_
  refine s_zast (pc := 101) C dX12_beatOnce_101 ?_
  exact hrc 102
set_option maxRecDepth 100000 in
theorem kX12_beatOnce_102 (C : ox_C p s m args c g 4 cX12_beatOnce RX12) (hr : meth.sig.returnType = none) (hlk : meth.locks = false) (hnm : meth.name = "beatOnce") (hR : R.frames = dp ∧ R.locals = 60 * dp) (h1 : ox_Sem yX12_pour cX12_pour 4 none d1 f1) (e1 : d1 + 1 ≤ dp) (h2 : ox_Sem yX12_mouldAt cX12_mouldAt 2 (some .int) d2 f2) (e2 : d2 + 1 ≤ dp) (h3 : ox_Sem yX12_turnOut cX12_turnOut 3 none d3 f3) (e3 : d3 + 1 ≤ dp) (hrc : ∀ b, ox_S p l e R s m args below meth c g 4 c0 t0 (ox_QM g below args s c0 t0) b (rc b)) : ox_S p l e R s m args below meth c g 4 c0 t0 (ox_QM g below args s c0 t0) 102 (bX12_beatOnce_102 f1 f2 f3 rc) := by
  refine s_iconst (pc := 102) C dX12_beatOnce_102 (by decide) ?_
  refine s_istore_n (pc := 103) C dX12_beatOnce_103 rfl (by decide) ?_
  exact hrc 104
set_option maxRecDepth 100000 in
theorem kX12_beatOnce_104 (C : ox_C p s m args c g 4 cX12_beatOnce RX12) (hr : meth.sig.returnType = none) (hlk : meth.locks = false) (hnm : meth.name = "beatOnce") (hR : R.frames = dp ∧ R.locals = 60 * dp) (h1 : ox_Sem yX12_pour cX12_pour 4 none d1 f1) (e1 : d1 + 1 ≤ dp) (h2 : ox_Sem yX12_mouldAt cX12_mouldAt 2 (some .int) d2 f2) (e2 : d2 + 1 ≤ dp) (h3 : ox_Sem yX12_turnOut cX12_turnOut 3 none d3 f3) (e3 : d3 + 1 ≤ dp) (hrc : ∀ b, ox_S p l e R s m args below meth c g 4 c0 t0 (ox_QM g below args s c0 t0) b (rc b)) : ox_S p l e R s m args below meth c g 4 c0 t0 (ox_QM g below args s c0 t0) 104 (bX12_beatOnce_104 f1 f2 f3 rc) := by
  refine s_keep ?_
  refine s_iload_n (pc := 104) C dX12_beatOnce_104 rfl ?_
  refine s_aload_n (pc := 105) C dX12_beatOnce_105 rfl ?_
  refine s_geti (pc := 106) (j := 33) (q := (RX12, TX12, 59)) C rfl (by decide) rfl wF_X12_58 dX12_beatOnce_106 ?_
  refine s_iconst (pc := 109) C dX12_beatOnce_109 (by decide) ?_
  refine s_isub (pc := 110) C dX12_beatOnce_110 ?_
  refine s_icmpgt (pc := 111) 156 C dX12_beatOnce_111 (by decide) (hrc 156) ?_
  refine s_aload_n (pc := 114) C dX12_beatOnce_114 rfl ?_
  refine s_iload_n (pc := 115) C dX12_beatOnce_115 rfl ?_
  refine s_cv (pc := 116) (q := (RX12, TX12, 59)) C h2 rfl wM_X12_259 wI_X12_mouldAt wS_X12_mouldAt wN_X12 wC_X12_mouldAt (by decide +kernel) (ox_lv hR e2 (by decide)) dX12_beatOnce_116 ?_
  refine s_istore_n (pc := 119) C dX12_beatOnce_119 rfl (by decide) ?_
  refine s_aload_n (pc := 120) C dX12_beatOnce_120 rfl ?_
  refine s_getr (pc := 121) (j := 39) (q := (RX12, TX12, 59)) C rfl (by decide) rfl wF_X12_74 dX12_beatOnce_121 ?_
  refine s_iload_n (pc := 124) C dX12_beatOnce_124 rfl ?_
  refine s_ia (pc := 125) C dX12_beatOnce_125 ?_
  refine s_aload_n (pc := 126) C dX12_beatOnce_126 rfl ?_
  refine s_getr (pc := 127) (j := 43) (q := (RX12, TX12, 59)) C rfl (by decide) rfl wF_X12_87 dX12_beatOnce_127 ?_
  refine s_iload_n (pc := 130) C dX12_beatOnce_130 rfl ?_
  refine s_ia (pc := 131) C dX12_beatOnce_131 ?_
  refine s_isub (pc := 132) C dX12_beatOnce_132 ?_
  refine s_istore_n (pc := 133) C dX12_beatOnce_133 rfl (by decide) ?_
  refine s_aload_n (pc := 134) C dX12_beatOnce_134 rfl ?_
  refine s_getr (pc := 135) (j := 39) (q := (RX12, TX12, 59)) C rfl (by decide) rfl wF_X12_74 dX12_beatOnce_135 ?_
  refine s_iload_n (pc := 138) C dX12_beatOnce_138 rfl ?_
  refine s_iload_n (pc := 139) C dX12_beatOnce_139 rfl ?_
  refine s_iconst (pc := 140) C dX12_beatOnce_140 (by decide) ?_
  refine s_icmpge (pc := 141) 148 C dX12_beatOnce_141 (by decide) (hrc 148) ?_
  refine s_iconst (pc := 144) C dX12_beatOnce_144 (by decide) ?_
  exact s_goto (pc := 145) 149 C dX12_beatOnce_145 (by decide) (hrc 149)
set_option maxRecDepth 100000 in
theorem kX12_beatOnce_148 (C : ox_C p s m args c g 4 cX12_beatOnce RX12) (hr : meth.sig.returnType = none) (hlk : meth.locks = false) (hnm : meth.name = "beatOnce") (hR : R.frames = dp ∧ R.locals = 60 * dp) (h1 : ox_Sem yX12_pour cX12_pour 4 none d1 f1) (e1 : d1 + 1 ≤ dp) (h2 : ox_Sem yX12_mouldAt cX12_mouldAt 2 (some .int) d2 f2) (e2 : d2 + 1 ≤ dp) (h3 : ox_Sem yX12_turnOut cX12_turnOut 3 none d3 f3) (e3 : d3 + 1 ≤ dp) (hrc : ∀ b, ox_S p l e R s m args below meth c g 4 c0 t0 (ox_QM g below args s c0 t0) b (rc b)) : ox_S p l e R s m args below meth c g 4 c0 t0 (ox_QM g below args s c0 t0) 148 (bX12_beatOnce_148 f1 f2 f3 rc) := by
  refine s_iload_n (pc := 148) C dX12_beatOnce_148 rfl ?_
  exact hrc 149
set_option maxRecDepth 100000 in
theorem kX12_beatOnce_149 (C : ox_C p s m args c g 4 cX12_beatOnce RX12) (hr : meth.sig.returnType = none) (hlk : meth.locks = false) (hnm : meth.name = "beatOnce") (hR : R.frames = dp ∧ R.locals = 60 * dp) (h1 : ox_Sem yX12_pour cX12_pour 4 none d1 f1) (e1 : d1 + 1 ≤ dp) (h2 : ox_Sem yX12_mouldAt cX12_mouldAt 2 (some .int) d2 f2) (e2 : d2 + 1 ≤ dp) (h3 : ox_Sem yX12_turnOut cX12_turnOut 3 none d3 f3) (e3 : d3 + 1 ≤ dp) (hrc : ∀ b, ox_S p l e R s m args below meth c g 4 c0 t0 (ox_QM g below args s c0 t0) b (rc b)) : ox_S p l e R s m args below meth c g 4 c0 t0 (ox_QM g below args s c0 t0) 149 (bX12_beatOnce_149 f1 f2 f3 rc) := by
  refine s_iast (pc := 149) C dX12_beatOnce_149 ?_
  refine s_iinc (pc := 150) C dX12_beatOnce_150 (by decide) (by decide) ?_
  exact s_goto (pc := 153) 104 C dX12_beatOnce_153 (by decide) (hrc 104)
set_option maxRecDepth 100000 in
theorem kX12_beatOnce_156 (C : ox_C p s m args c g 4 cX12_beatOnce RX12) (hr : meth.sig.returnType = none) (hlk : meth.locks = false) (hnm : meth.name = "beatOnce") (hR : R.frames = dp ∧ R.locals = 60 * dp) (h1 : ox_Sem yX12_pour cX12_pour 4 none d1 f1) (e1 : d1 + 1 ≤ dp) (h2 : ox_Sem yX12_mouldAt cX12_mouldAt 2 (some .int) d2 f2) (e2 : d2 + 1 ≤ dp) (h3 : ox_Sem yX12_turnOut cX12_turnOut 3 none d3 f3) (e3 : d3 + 1 ≤ dp) (hrc : ∀ b, ox_S p l e R s m args below meth c g 4 c0 t0 (ox_QM g below args s c0 t0) b (rc b)) : ox_S p l e R s m args below meth c g 4 c0 t0 (ox_QM g below args s c0 t0) 156 (bX12_beatOnce_156 f1 f2 f3 rc) := by
  refine s_aload_n (pc := 156) C dX12_beatOnce_156 rfl ?_
  refine s_aload_n (pc := 157) C dX12_beatOnce_157 rfl ?_
  refine s_geti (pc := 158) (j := 33) (q := (RX12, TX12, 59)) C rfl (by decide) rfl wF_X12_58 dX12_beatOnce_158 ?_
  refine s_iconst (pc := 161) C dX12_beatOnce_161 (by decide) ?_
  refine s_isub (pc := 162) C dX12_beatOnce_162 ?_
  refine s_cv (pc := 163) (q := (RX12, TX12, 59)) C h2 rfl wM_X12_259 wI_X12_mouldAt wS_X12_mouldAt wN_X12 wC_X12_mouldAt (by decide +kernel) (ox_lv hR e2 (by decide)) dX12_beatOnce_163 ?_
  refine s_istore_n (pc := 166) C dX12_beatOnce_166 rfl (by decide) ?_
  refine s_aload_n (pc := 167) C dX12_beatOnce_167 rfl ?_
  refine s_getr (pc := 168) (j := 35) (q := (RX12, TX12, 59)) C rfl (by decide) rfl wF_X12_62 dX12_beatOnce_168 ?_
  refine s_iload_n (pc := 171) C dX12_beatOnce_171 rfl ?_
  refine s_ia (pc := 172) C dX12_beatOnce_172 ?_
  refine s_ifle (pc := 173) 211 C dX12_beatOnce_173 (by decide) (hrc 211) ?_
  refine s_aload_n (pc := 176) C dX12_beatOnce_176 rfl ?_
  refine s_getr (pc := 177) (j := 41) (q := (RX12, TX12, 59)) C rfl (by decide) rfl wF_X12_81 dX12_beatOnce_177 ?_
  refine s_iload_n (pc := 180) C dX12_beatOnce_180 rfl ?_
  refine s_ba (pc := 181) C dX12_beatOnce_181 ?_
  refine s_ifeq (pc := 182) 211 C dX12_beatOnce_182 (by decide) (hrc 211) ?_
  refine s_aload_n (pc := 185) C dX12_beatOnce_185 rfl ?_
  refine s_getr (pc := 186) (j := 39) (q := (RX12, TX12, 59)) C rfl (by decide) rfl wF_X12_74 dX12_beatOnce_186 ?_
  refine s_iload_n (pc := 189) C dX12_beatOnce_189 rfl ?_
  refine s_ia (pc := 190) C dX12_beatOnce_190 ?_
  refine s_bipush (pc := 191) C dX12_beatOnce_191 (by decide) ?_
  refine s_icmpgt (pc := 193) 211 C dX12_beatOnce_193 (by decide) (hrc 211) ?_
  refine s_aload_n (pc := 196) C dX12_beatOnce_196 rfl ?_
  refine s_iload_n (pc := 197) C dX12_beatOnce_197 rfl ?_
  refine s_cv (pc := 198) (q := (RX12, TX12, 59)) C h3 rfl wM_X12_272 wI_X12_turnOut wS_X12_turnOut wN_X12 wC_X12_turnOut (by decide +kernel) (ox_lv hR e3 (by decide)) dX12_beatOnce_198 ?_
  refine s_aload_n (pc := 201) C dX12_beatOnce_201 rfl ?_
  refine s_getr (pc := 202) (j := 35) (q := (RX12, TX12, 59)) C rfl (by decide) rfl wF_X12_62 dX12_beatOnce_202 ?_
  refine s_iload_n (pc := 205) C dX12_beatOnce_205 rfl ?_
  refine s_iconst (pc := 206) C dX12_beatOnce_206 (by decide) ?_
  refine s_iast (pc := 207) C dX12_beatOnce_207 ?_
  exact s_goto (pc := 208) 230 C dX12_beatOnce_208 (by decide) (hrc 230)
set_option maxRecDepth 100000 in
theorem kX12_beatOnce_211 (C : ox_C p s m args c g 4 cX12_beatOnce RX12) (hr : meth.sig.returnType = none) (hlk : meth.locks = false) (hnm : meth.name = "beatOnce") (hR : R.frames = dp ∧ R.locals = 60 * dp) (h1 : ox_Sem yX12_pour cX12_pour 4 none d1 f1) (e1 : d1 + 1 ≤ dp) (h2 : ox_Sem yX12_mouldAt cX12_mouldAt 2 (some .int) d2 f2) (e2 : d2 + 1 ≤ dp) (h3 : ox_Sem yX12_turnOut cX12_turnOut 3 none d3 f3) (e3 : d3 + 1 ≤ dp) (hrc : ∀ b, ox_S p l e R s m args below meth c g 4 c0 t0 (ox_QM g below args s c0 t0) b (rc b)) : ox_S p l e R s m args below meth c g 4 c0 t0 (ox_QM g below args s c0 t0) 211 (bX12_beatOnce_211 f1 f2 f3 rc) := by
  refine s_aload_n (pc := 211) C dX12_beatOnce_211 rfl ?_
  refine s_getr (pc := 212) (j := 35) (q := (RX12, TX12, 59)) C rfl (by decide) rfl wF_X12_62 dX12_beatOnce_212 ?_
  refine s_iload_n (pc := 215) C dX12_beatOnce_215 rfl ?_
  refine s_ia (pc := 216) C dX12_beatOnce_216 ?_
  refine s_ifle (pc := 217) 230 C dX12_beatOnce_217 (by decide) (hrc 230) ?_
  refine s_aload_n (pc := 220) C dX12_beatOnce_220 rfl ?_
  refine s_dup (pc := 221) C dX12_beatOnce_221 ?_
  refine s_geti (pc := 222) (j := 46) (q := (RX12, TX12, 59)) C rfl (by decide) rfl wF_X12_275 dX12_beatOnce_222 ?_
  refine s_iconst (pc := 225) C dX12_beatOnce_225 (by decide) ?_
  refine s_iadd (pc := 226) C dX12_beatOnce_226 ?_
  refine s_puti (pc := 227) (j := 46) (q := (RX12, TX12, 59)) C rfl (by decide) rfl (Or.inl rfl) wF_X12_275 dX12_beatOnce_227 ?_
  exact hrc 230
set_option maxRecDepth 100000 in
theorem kX12_beatOnce_230 (C : ox_C p s m args c g 4 cX12_beatOnce RX12) (hr : meth.sig.returnType = none) (hlk : meth.locks = false) (hnm : meth.name = "beatOnce") (hR : R.frames = dp ∧ R.locals = 60 * dp) (h1 : ox_Sem yX12_pour cX12_pour 4 none d1 f1) (e1 : d1 + 1 ≤ dp) (h2 : ox_Sem yX12_mouldAt cX12_mouldAt 2 (some .int) d2 f2) (e2 : d2 + 1 ≤ dp) (h3 : ox_Sem yX12_turnOut cX12_turnOut 3 none d3 f3) (e3 : d3 + 1 ≤ dp) (hrc : ∀ b, ox_S p l e R s m args below meth c g 4 c0 t0 (ox_QM g below args s c0 t0) b (rc b)) : ox_S p l e R s m args below meth c g 4 c0 t0 (ox_QM g below args s c0 t0) 230 (bX12_beatOnce_230 f1 f2 f3 rc) := by
  refine s_aload_n (pc := 230) C dX12_beatOnce_230 rfl ?_
  refine s_dup (pc := 231) C dX12_beatOnce_231 ?_
  refine s_geti (pc := 232) (j := 45) (q := (RX12, TX12, 59)) C rfl (by decide) rfl wF_X12_278 dX12_beatOnce_232 ?_
  refine s_iconst (pc := 235) C dX12_beatOnce_235 (by decide) ?_
  refine s_iadd (pc := 236) C dX12_beatOnce_236 ?_
  refine s_puti (pc := 237) (j := 45) (q := (RX12, TX12, 59)) C rfl (by decide) rfl (Or.inl rfl) wF_X12_278 dX12_beatOnce_237 ?_
  exact s_ret (pc := 240) C hr hlk dX12_beatOnce_240
end SX12_beatOnce
def bsX12_beatOnce (f1 f2 f3 : ox_F) (b : Nat) (rc : Nat → ox_K) : ox_K := if b = 0 then bX12_beatOnce_0 f1 f2 f3 rc else if b = 53 then bX12_beatOnce_53 f1 f2 f3 rc else if b = 57 then bX12_beatOnce_57 f1 f2 f3 rc else if b = 58 then bX12_beatOnce_58 f1 f2 f3 rc else if b = 102 then bX12_beatOnce_102 f1 f2 f3 rc else if b = 104 then bX12_beatOnce_104 f1 f2 f3 rc else if b = 148 then bX12_beatOnce_148 f1 f2 f3 rc else if b = 149 then bX12_beatOnce_149 f1 f2 f3 rc else if b = 156 then bX12_beatOnce_156 f1 f2 f3 rc else if b = 211 then bX12_beatOnce_211 f1 f2 f3 rc else if b = 230 then bX12_beatOnce_230 f1 f2 f3 rc else ox_no
theorem mX12_beatOnce {dp d1 d2 d3 : Nat} {f1 f2 f3 f : ox_F} (h1 : ox_Sem yX12_pour cX12_pour 4 none d1 f1) (e1 : d1 + 1 ≤ dp) (h2 : ox_Sem yX12_mouldAt cX12_mouldAt 2 (some .int) d2 f2) (e2 : d2 + 1 ≤ dp) (h3 : ox_Sem yX12_turnOut cX12_turnOut 3 none d3 f3) (e3 : d3 + 1 ≤ dp) (hf : ∀ as h r, f as h = some r → ox_cs as ≤ 4 ∧ ox_le h r.2 ∧ ∃ n, ox_run (bsX12_beatOnce f1 f2 f3) n 0 (lv_args 0 as) [] h = some r) : ox_Sem yX12_beatOnce cX12_beatOnce 4 none dp f := by
  refine ox_meth (bs := bsX12_beatOnce f1 f2 f3) (by decide) hf ?_
  intro p l e R s m args below meth c g c0 t0 C hr hlk hnm hR rc hrc b
  unfold bsX12_beatOnce
  refine ox_br (kX12_beatOnce_0 C hr hlk hnm hR h1 e1 h2 e2 h3 e3 hrc) ?_
  refine ox_br (kX12_beatOnce_53 C hr hlk hnm hR h1 e1 h2 e2 h3 e3 hrc) ?_
  refine ox_br (kX12_beatOnce_57 C hr hlk hnm hR h1 e1 h2 e2 h3 e3 hrc) ?_
  refine ox_br (kX12_beatOnce_58 C hr hlk hnm hR h1 e1 h2 e2 h3 e3 hrc) ?_
  refine ox_br (kX12_beatOnce_102 C hr hlk hnm hR h1 e1 h2 e2 h3 e3 hrc) ?_
  refine ox_br (kX12_beatOnce_104 C hr hlk hnm hR h1 e1 h2 e2 h3 e3 hrc) ?_
  refine ox_br (kX12_beatOnce_148 C hr hlk hnm hR h1 e1 h2 e2 h3 e3 hrc) ?_
  refine ox_br (kX12_beatOnce_149 C hr hlk hnm hR h1 e1 h2 e2 h3 e3 hrc) ?_
  refine ox_br (kX12_beatOnce_156 C hr hlk hnm hR h1 e1 h2 e2 h3 e3 hrc) ?_
  refine ox_br (kX12_beatOnce_211 C hr hlk hnm hR h1 e1 h2 e2 h3 e3 hrc) ?_
  refine ox_br (kX12_beatOnce_230 C hr hlk hnm hR h1 e1 h2 e2 h3 e3 hrc) ?_
  exact s_no
theorem dX12_beat_0 : decode cX12_beat 0 = .ok (.aload_n 0, 1) := by decide +kernel
theorem dX12_beat_1 : decode cX12_beat 1 = .ok (.iconst 0, 1) := by decide +kernel
theorem dX12_beat_2 : decode cX12_beat 2 = .ok (.putfield 108, 3) := by decide +kernel
theorem dX12_beat_5 : decode cX12_beat 5 = .ok (.iload_n 1, 1) := by decide +kernel
theorem dX12_beat_6 : decode cX12_beat 6 = .ok (.i2l, 1) := by decide +kernel
theorem dX12_beat_7 : decode cX12_beat 7 = .ok (.lconst 1, 1) := by decide +kernel
theorem dX12_beat_8 : decode cX12_beat 8 = .ok (.ldc2_w 281, 3) := by decide +kernel
theorem dX12_beat_11 : decode cX12_beat 11 = .ok (.invokestatic 117, 3) := by decide +kernel
theorem dX12_beat_14 : decode cX12_beat 14 = .ok (.ifCond .ne 6, 3) := by decide +kernel
theorem dX12_beat_17 : decode cX12_beat 17 = .ok (.ldc 127, 2) := by decide +kernel
theorem dX12_beat_19 : decode cX12_beat 19 = .ok (.ireturn, 1) := by decide +kernel
theorem dX12_beat_20 : decode cX12_beat 20 = .ok (.aload_n 0, 1) := by decide +kernel
theorem dX12_beat_21 : decode cX12_beat 21 = .ok (.getfield 283, 3) := by decide +kernel
theorem dX12_beat_24 : decode cX12_beat 24 = .ok (.istore_n 2, 1) := by decide +kernel
theorem dX12_beat_25 : decode cX12_beat 25 = .ok (.iconst 0, 1) := by decide +kernel
theorem dX12_beat_26 : decode cX12_beat 26 = .ok (.istore_n 3, 1) := by decide +kernel
theorem dX12_beat_27 : decode cX12_beat 27 = .ok (.iload_n 3, 1) := by decide +kernel
theorem dX12_beat_28 : decode cX12_beat 28 = .ok (.iload_n 1, 1) := by decide +kernel
theorem dX12_beat_29 : decode cX12_beat 29 = .ok (.if_icmp .ge 13, 3) := by decide +kernel
theorem dX12_beat_32 : decode cX12_beat 32 = .ok (.aload_n 0, 1) := by decide +kernel
theorem dX12_beat_33 : decode cX12_beat 33 = .ok (.invokevirtual 286, 3) := by decide +kernel
theorem dX12_beat_36 : decode cX12_beat 36 = .ok (.iinc 3 1, 3) := by decide +kernel
theorem dX12_beat_39 : decode cX12_beat 39 = .ok (.goto (-12), 3) := by decide +kernel
theorem dX12_beat_42 : decode cX12_beat 42 = .ok (.aload_n 0, 1) := by decide +kernel
theorem dX12_beat_43 : decode cX12_beat 43 = .ok (.getfield 283, 3) := by decide +kernel
theorem dX12_beat_46 : decode cX12_beat 46 = .ok (.iload_n 2, 1) := by decide +kernel
theorem dX12_beat_47 : decode cX12_beat 47 = .ok (.isub, 1) := by decide +kernel
theorem dX12_beat_48 : decode cX12_beat 48 = .ok (.ireturn, 1) := by decide +kernel
def bX12_beat_0 (f1 f2 : ox_F) (rc : Nat → ox_K) : ox_K := o_al 0 (o_ic (0) (o_puti 12 0 (o_il 1 (o_i2l (o_lc (1) (o_lc (100) (o_ct f1 3 (o_ifne (rc 20) (o_ic (-1000001) (o_iret))))))))))
def bX12_beat_20 (f1 f2 : ox_F) (rc : Nat → ox_K) : ox_K := o_al 0 (o_geti 12 47 (o_is 2 (o_ic (0) (o_is 3 (rc 27)))))
def bX12_beat_27 (f1 f2 : ox_F) (rc : Nat → ox_K) : ox_K := o_keep [0, 1, 2, 3] (o_il 3 (o_il 1 (o_icge (rc 42) (o_al 0 (o_cv f2 12 0 (o_inc 3 (1) (rc 27)))))))
def bX12_beat_42 (f1 f2 : ox_F) (rc : Nat → ox_K) : ox_K := o_al 0 (o_geti 12 47 (o_il 2 (o_isub (o_iret))))
section SX12_beat
variable {p : Program} {l : Launch} {e : Env} {R : Room} {s : State} {m : MethodId} {args : Array Value} {below : List Frame} {meth : Method} {c : Code} {g : ox_G} {c0 t0 dp d1 d2 : Nat} {rc : Nat → ox_K} {f1 f2 : ox_F}
set_option maxRecDepth 100000 in
theorem kX12_beat_0 (C : ox_C p s m args c g 4 cX12_beat RX12) (hr : meth.sig.returnType = (some .int)) (hlk : meth.locks = false) (hnm : meth.name = "beat") (hR : R.frames = dp ∧ R.locals = 60 * dp) (h1 : ox_Sem yX12_in cX12_in 6 (some .boolean) d1 f1) (e1 : d1 + 1 ≤ dp) (h2 : ox_Sem yX12_beatOnce cX12_beatOnce 4 none d2 f2) (e2 : d2 + 1 ≤ dp) (hrc : ∀ b, ox_S p l e R s m args below meth c g 4 c0 t0 (ox_QM g below args s c0 t0) b (rc b)) : ox_S p l e R s m args below meth c g 4 c0 t0 (ox_QM g below args s c0 t0) 0 (bX12_beat_0 f1 f2 rc) := by
  refine s_aload_n (pc := 0) C dX12_beat_0 rfl ?_
  refine s_iconst (pc := 1) C dX12_beat_1 (by decide) ?_
  refine s_puti (pc := 2) (j := 0) (q := (RX12, TX12, 59)) C rfl (by decide) rfl (Or.inl rfl) wF_X12_108 dX12_beat_2 ?_
  refine s_iload_n (pc := 5) C dX12_beat_5 rfl ?_
  refine s_i2l (pc := 6) C dX12_beat_6 ?_
  refine s_lconst (pc := 7) C dX12_beat_7 (by decide) ?_
  refine s_ldc2 (pc := 8) C wL_X12_281 dX12_beat_8 ?_
  refine s_ct (pc := 11) C h1 wM_X12_117 wT_X12_in wN_X12 wC_X12_in (by decide +kernel) (ox_lv hR e1 (by decide)) dX12_beat_11 ?_
  refine s_ifne (pc := 14) 20 C dX12_beat_14 (by decide) (hrc 20) ?_
  refine s_ldc (pc := 17) C wK_X12_127 dX12_beat_17 ?_
  exact s_iret (pc := 19) C hr hlk dX12_beat_19
set_option maxRecDepth 100000 in
theorem kX12_beat_20 (C : ox_C p s m args c g 4 cX12_beat RX12) (hr : meth.sig.returnType = (some .int)) (hlk : meth.locks = false) (hnm : meth.name = "beat") (hR : R.frames = dp ∧ R.locals = 60 * dp) (h1 : ox_Sem yX12_in cX12_in 6 (some .boolean) d1 f1) (e1 : d1 + 1 ≤ dp) (h2 : ox_Sem yX12_beatOnce cX12_beatOnce 4 none d2 f2) (e2 : d2 + 1 ≤ dp) (hrc : ∀ b, ox_S p l e R s m args below meth c g 4 c0 t0 (ox_QM g below args s c0 t0) b (rc b)) : ox_S p l e R s m args below meth c g 4 c0 t0 (ox_QM g below args s c0 t0) 20 (bX12_beat_20 f1 f2 rc) := by
  refine s_aload_n (pc := 20) C dX12_beat_20 rfl ?_
  refine s_geti (pc := 21) (j := 47) (q := (RX12, TX12, 59)) C rfl (by decide) rfl wF_X12_283 dX12_beat_21 ?_
  refine s_istore_n (pc := 24) C dX12_beat_24 rfl (by decide) ?_
  refine s_iconst (pc := 25) C dX12_beat_25 (by decide) ?_
  refine s_istore_n (pc := 26) C dX12_beat_26 rfl (by decide) ?_
  exact hrc 27
set_option maxRecDepth 100000 in
theorem kX12_beat_27 (C : ox_C p s m args c g 4 cX12_beat RX12) (hr : meth.sig.returnType = (some .int)) (hlk : meth.locks = false) (hnm : meth.name = "beat") (hR : R.frames = dp ∧ R.locals = 60 * dp) (h1 : ox_Sem yX12_in cX12_in 6 (some .boolean) d1 f1) (e1 : d1 + 1 ≤ dp) (h2 : ox_Sem yX12_beatOnce cX12_beatOnce 4 none d2 f2) (e2 : d2 + 1 ≤ dp) (hrc : ∀ b, ox_S p l e R s m args below meth c g 4 c0 t0 (ox_QM g below args s c0 t0) b (rc b)) : ox_S p l e R s m args below meth c g 4 c0 t0 (ox_QM g below args s c0 t0) 27 (bX12_beat_27 f1 f2 rc) := by
  refine s_keep ?_
  refine s_iload_n (pc := 27) C dX12_beat_27 rfl ?_
  refine s_iload_n (pc := 28) C dX12_beat_28 rfl ?_
  refine s_icmpge (pc := 29) 42 C dX12_beat_29 (by decide) (hrc 42) ?_
  refine s_aload_n (pc := 32) C dX12_beat_32 rfl ?_
  refine s_cv (pc := 33) (q := (RX12, TX12, 59)) C h2 rfl wM_X12_286 wI_X12_beatOnce wS_X12_beatOnce wN_X12 wC_X12_beatOnce (by decide +kernel) (ox_lv hR e2 (by decide)) dX12_beat_33 ?_
  refine s_iinc (pc := 36) C dX12_beat_36 (by decide) (by decide) ?_
  exact s_goto (pc := 39) 27 C dX12_beat_39 (by decide) (hrc 27)
set_option maxRecDepth 100000 in
theorem kX12_beat_42 (C : ox_C p s m args c g 4 cX12_beat RX12) (hr : meth.sig.returnType = (some .int)) (hlk : meth.locks = false) (hnm : meth.name = "beat") (hR : R.frames = dp ∧ R.locals = 60 * dp) (h1 : ox_Sem yX12_in cX12_in 6 (some .boolean) d1 f1) (e1 : d1 + 1 ≤ dp) (h2 : ox_Sem yX12_beatOnce cX12_beatOnce 4 none d2 f2) (e2 : d2 + 1 ≤ dp) (hrc : ∀ b, ox_S p l e R s m args below meth c g 4 c0 t0 (ox_QM g below args s c0 t0) b (rc b)) : ox_S p l e R s m args below meth c g 4 c0 t0 (ox_QM g below args s c0 t0) 42 (bX12_beat_42 f1 f2 rc) := by
  refine s_aload_n (pc := 42) C dX12_beat_42 rfl ?_
  refine s_geti (pc := 43) (j := 47) (q := (RX12, TX12, 59)) C rfl (by decide) rfl wF_X12_283 dX12_beat_43 ?_
  refine s_iload_n (pc := 46) C dX12_beat_46 rfl ?_
  refine s_isub (pc := 47) C dX12_beat_47 ?_
  exact s_iret (pc := 48) C hr hlk dX12_beat_48
end SX12_beat
def bsX12_beat (f1 f2 : ox_F) (b : Nat) (rc : Nat → ox_K) : ox_K := if b = 0 then bX12_beat_0 f1 f2 rc else if b = 20 then bX12_beat_20 f1 f2 rc else if b = 27 then bX12_beat_27 f1 f2 rc else if b = 42 then bX12_beat_42 f1 f2 rc else ox_no
theorem mX12_beat {dp d1 d2 : Nat} {f1 f2 f : ox_F} (h1 : ox_Sem yX12_in cX12_in 6 (some .boolean) d1 f1) (e1 : d1 + 1 ≤ dp) (h2 : ox_Sem yX12_beatOnce cX12_beatOnce 4 none d2 f2) (e2 : d2 + 1 ≤ dp) (hf : ∀ as h r, f as h = some r → ox_cs as ≤ 4 ∧ ox_le h r.2 ∧ ∃ n, ox_run (bsX12_beat f1 f2) n 0 (lv_args 0 as) [] h = some r) : ox_Sem yX12_beat cX12_beat 4 (some .int) dp f := by
  refine ox_meth (bs := bsX12_beat f1 f2) (by decide) hf ?_
  intro p l e R s m args below meth c g c0 t0 C hr hlk hnm hR rc hrc b
  unfold bsX12_beat
  refine ox_br (kX12_beat_0 C hr hlk hnm hR h1 e1 h2 e2 hrc) ?_
  refine ox_br (kX12_beat_20 C hr hlk hnm hR h1 e1 h2 e2 hrc) ?_
  refine ox_br (kX12_beat_27 C hr hlk hnm hR h1 e1 h2 e2 hrc) ?_
  refine ox_br (kX12_beat_42 C hr hlk hnm hR h1 e1 h2 e2 hrc) ?_
  exact s_no
theorem dX12_mould_0 : decode cX12_mould 0 = .ok (.aload_n 0, 1) := by decide +kernel
theorem dX12_mould_1 : decode cX12_mould 1 = .ok (.iconst 0, 1) := by decide +kernel
theorem dX12_mould_2 : decode cX12_mould 2 = .ok (.putfield 108, 3) := by decide +kernel
theorem dX12_mould_5 : decode cX12_mould 5 = .ok (.iload_n 1, 1) := by decide +kernel
theorem dX12_mould_6 : decode cX12_mould 6 = .ok (.i2l, 1) := by decide +kernel
theorem dX12_mould_7 : decode cX12_mould 7 = .ok (.lconst 0, 1) := by decide +kernel
theorem dX12_mould_8 : decode cX12_mould 8 = .ok (.aload_n 0, 1) := by decide +kernel
theorem dX12_mould_9 : decode cX12_mould 9 = .ok (.getfield 58, 3) := by decide +kernel
theorem dX12_mould_12 : decode cX12_mould 12 = .ok (.iconst 1, 1) := by decide +kernel
theorem dX12_mould_13 : decode cX12_mould 13 = .ok (.isub, 1) := by decide +kernel
theorem dX12_mould_14 : decode cX12_mould 14 = .ok (.i2l, 1) := by decide +kernel
theorem dX12_mould_15 : decode cX12_mould 15 = .ok (.invokestatic 117, 3) := by decide +kernel
theorem dX12_mould_18 : decode cX12_mould 18 = .ok (.ifCond .eq 15, 3) := by decide +kernel
theorem dX12_mould_21 : decode cX12_mould 21 = .ok (.iload_n 2, 1) := by decide +kernel
theorem dX12_mould_22 : decode cX12_mould 22 = .ok (.i2l, 1) := by decide +kernel
theorem dX12_mould_23 : decode cX12_mould 23 = .ok (.lconst 0, 1) := by decide +kernel
theorem dX12_mould_24 : decode cX12_mould 24 = .ok (.ldc2_w 289, 3) := by decide +kernel
theorem dX12_mould_27 : decode cX12_mould 27 = .ok (.invokestatic 117, 3) := by decide +kernel
theorem dX12_mould_30 : decode cX12_mould 30 = .ok (.ifCond .ne 6, 3) := by decide +kernel
theorem dX12_mould_33 : decode cX12_mould 33 = .ok (.ldc 127, 2) := by decide +kernel
theorem dX12_mould_35 : decode cX12_mould 35 = .ok (.ireturn, 1) := by decide +kernel
theorem dX12_mould_36 : decode cX12_mould 36 = .ok (.aload_n 0, 1) := by decide +kernel
theorem dX12_mould_37 : decode cX12_mould 37 = .ok (.iload_n 1, 1) := by decide +kernel
theorem dX12_mould_38 : decode cX12_mould 38 = .ok (.invokevirtual 259, 3) := by decide +kernel
theorem dX12_mould_41 : decode cX12_mould 41 = .ok (.istore_n 3, 1) := by decide +kernel
theorem dX12_mould_42 : decode cX12_mould 42 = .ok (.aload_n 0, 1) := by decide +kernel
theorem dX12_mould_43 : decode cX12_mould 43 = .ok (.getfield 62, 3) := by decide +kernel
theorem dX12_mould_46 : decode cX12_mould 46 = .ok (.iload_n 3, 1) := by decide +kernel
theorem dX12_mould_47 : decode cX12_mould 47 = .ok (.iaload, 1) := by decide +kernel
theorem dX12_mould_48 : decode cX12_mould 48 = .ok (.ifCond .ne 6, 3) := by decide +kernel
theorem dX12_mould_51 : decode cX12_mould 51 = .ok (.ldc 143, 2) := by decide +kernel
theorem dX12_mould_53 : decode cX12_mould 53 = .ok (.ireturn, 1) := by decide +kernel
theorem dX12_mould_54 : decode cX12_mould 54 = .ok (.iload_n 2, 1) := by decide +kernel
theorem dX12_mould_55 : decode cX12_mould 55 = .ok (.ifCond .ne 12, 3) := by decide +kernel
theorem dX12_mould_58 : decode cX12_mould 58 = .ok (.aload_n 0, 1) := by decide +kernel
theorem dX12_mould_59 : decode cX12_mould 59 = .ok (.getfield 62, 3) := by decide +kernel
theorem dX12_mould_62 : decode cX12_mould 62 = .ok (.iload_n 3, 1) := by decide +kernel
theorem dX12_mould_63 : decode cX12_mould 63 = .ok (.iaload, 1) := by decide +kernel
theorem dX12_mould_64 : decode cX12_mould 64 = .ok (.goto 81, 3) := by decide +kernel
theorem dX12_mould_67 : decode cX12_mould 67 = .ok (.iload_n 2, 1) := by decide +kernel
theorem dX12_mould_68 : decode cX12_mould 68 = .ok (.iconst 1, 1) := by decide +kernel
theorem dX12_mould_69 : decode cX12_mould 69 = .ok (.if_icmp .ne 12, 3) := by decide +kernel
theorem dX12_mould_72 : decode cX12_mould 72 = .ok (.aload_n 0, 1) := by decide +kernel
theorem dX12_mould_73 : decode cX12_mould 73 = .ok (.getfield 65, 3) := by decide +kernel
theorem dX12_mould_76 : decode cX12_mould 76 = .ok (.iload_n 3, 1) := by decide +kernel
theorem dX12_mould_77 : decode cX12_mould 77 = .ok (.iaload, 1) := by decide +kernel
theorem dX12_mould_78 : decode cX12_mould 78 = .ok (.goto 67, 3) := by decide +kernel
theorem dX12_mould_81 : decode cX12_mould 81 = .ok (.iload_n 2, 1) := by decide +kernel
theorem dX12_mould_82 : decode cX12_mould 82 = .ok (.iconst 2, 1) := by decide +kernel
theorem dX12_mould_83 : decode cX12_mould 83 = .ok (.if_icmp .ne 12, 3) := by decide +kernel
theorem dX12_mould_86 : decode cX12_mould 86 = .ok (.aload_n 0, 1) := by decide +kernel
theorem dX12_mould_87 : decode cX12_mould 87 = .ok (.getfield 68, 3) := by decide +kernel
theorem dX12_mould_90 : decode cX12_mould 90 = .ok (.iload_n 3, 1) := by decide +kernel
theorem dX12_mould_91 : decode cX12_mould 91 = .ok (.iaload, 1) := by decide +kernel
theorem dX12_mould_92 : decode cX12_mould 92 = .ok (.goto 53, 3) := by decide +kernel
theorem dX12_mould_95 : decode cX12_mould 95 = .ok (.iload_n 2, 1) := by decide +kernel
theorem dX12_mould_96 : decode cX12_mould 96 = .ok (.iconst 3, 1) := by decide +kernel
theorem dX12_mould_97 : decode cX12_mould 97 = .ok (.if_icmp .ne 12, 3) := by decide +kernel
theorem dX12_mould_100 : decode cX12_mould 100 = .ok (.aload_n 0, 1) := by decide +kernel
theorem dX12_mould_101 : decode cX12_mould 101 = .ok (.getfield 74, 3) := by decide +kernel
theorem dX12_mould_104 : decode cX12_mould 104 = .ok (.iload_n 3, 1) := by decide +kernel
theorem dX12_mould_105 : decode cX12_mould 105 = .ok (.iaload, 1) := by decide +kernel
theorem dX12_mould_106 : decode cX12_mould 106 = .ok (.goto 39, 3) := by decide +kernel
theorem dX12_mould_109 : decode cX12_mould 109 = .ok (.iload_n 2, 1) := by decide +kernel
theorem dX12_mould_110 : decode cX12_mould 110 = .ok (.iconst 4, 1) := by decide +kernel
theorem dX12_mould_111 : decode cX12_mould 111 = .ok (.if_icmp .ne 20, 3) := by decide +kernel
theorem dX12_mould_114 : decode cX12_mould 114 = .ok (.aload_n 0, 1) := by decide +kernel
theorem dX12_mould_115 : decode cX12_mould 115 = .ok (.getfield 81, 3) := by decide +kernel
theorem dX12_mould_118 : decode cX12_mould 118 = .ok (.iload_n 3, 1) := by decide +kernel
theorem dX12_mould_119 : decode cX12_mould 119 = .ok (.baload, 1) := by decide +kernel
theorem dX12_mould_120 : decode cX12_mould 120 = .ok (.ifCond .eq 7, 3) := by decide +kernel
theorem dX12_mould_123 : decode cX12_mould 123 = .ok (.iconst 1, 1) := by decide +kernel
theorem dX12_mould_124 : decode cX12_mould 124 = .ok (.goto 21, 3) := by decide +kernel
theorem dX12_mould_127 : decode cX12_mould 127 = .ok (.iconst 0, 1) := by decide +kernel
theorem dX12_mould_128 : decode cX12_mould 128 = .ok (.goto 17, 3) := by decide +kernel
theorem dX12_mould_131 : decode cX12_mould 131 = .ok (.aload_n 0, 1) := by decide +kernel
theorem dX12_mould_132 : decode cX12_mould 132 = .ok (.getfield 77, 3) := by decide +kernel
theorem dX12_mould_135 : decode cX12_mould 135 = .ok (.iload_n 3, 1) := by decide +kernel
theorem dX12_mould_136 : decode cX12_mould 136 = .ok (.baload, 1) := by decide +kernel
theorem dX12_mould_137 : decode cX12_mould 137 = .ok (.ifCond .eq 7, 3) := by decide +kernel
theorem dX12_mould_140 : decode cX12_mould 140 = .ok (.iconst 1, 1) := by decide +kernel
theorem dX12_mould_141 : decode cX12_mould 141 = .ok (.goto 4, 3) := by decide +kernel
theorem dX12_mould_144 : decode cX12_mould 144 = .ok (.iconst 0, 1) := by decide +kernel
theorem dX12_mould_145 : decode cX12_mould 145 = .ok (.ireturn, 1) := by decide +kernel
def bX12_mould_0 (f1 f2 : ox_F) (rc : Nat → ox_K) : ox_K := o_al 0 (o_ic (0) (o_puti 12 0 (o_il 1 (o_i2l (o_lc (0) (o_al 0 (o_geti 12 33 (o_ic (1) (o_isub (o_i2l (o_ct f1 3 (o_ifeq (rc 33) (o_il 2 (o_i2l (o_lc (0) (o_lc (5) (o_ct f1 3 (o_ifne (rc 36) (rc 33)))))))))))))))))))
def bX12_mould_33 (f1 f2 : ox_F) (rc : Nat → ox_K) : ox_K := o_ic (-1000001) (o_iret)
def bX12_mould_36 (f1 f2 : ox_F) (rc : Nat → ox_K) : ox_K := o_al 0 (o_il 1 (o_cv f2 12 1 (o_is 3 (o_al 0 (o_getr 12 35 (o_il 3 (o_ia (o_ifne (rc 54) (o_ic (-1000000) (o_iret))))))))))
def bX12_mould_54 (f1 f2 : ox_F) (rc : Nat → ox_K) : ox_K := o_il 2 (o_ifne (rc 67) (o_al 0 (o_getr 12 35 (o_il 3 (o_ia (rc 145))))))
def bX12_mould_67 (f1 f2 : ox_F) (rc : Nat → ox_K) : ox_K := o_il 2 (o_ic (1) (o_icne (rc 81) (o_al 0 (o_getr 12 36 (o_il 3 (o_ia (rc 145)))))))
def bX12_mould_81 (f1 f2 : ox_F) (rc : Nat → ox_K) : ox_K := o_il 2 (o_ic (2) (o_icne (rc 95) (o_al 0 (o_getr 12 37 (o_il 3 (o_ia (rc 145)))))))
def bX12_mould_95 (f1 f2 : ox_F) (rc : Nat → ox_K) : ox_K := o_il 2 (o_ic (3) (o_icne (rc 109) (o_al 0 (o_getr 12 39 (o_il 3 (o_ia (rc 145)))))))
def bX12_mould_109 (f1 f2 : ox_F) (rc : Nat → ox_K) : ox_K := o_il 2 (o_ic (4) (o_icne (rc 131) (o_al 0 (o_getr 12 41 (o_il 3 (o_ba (o_ifeq (rc 127) (o_ic (1) (rc 145)))))))))
def bX12_mould_127 (f1 f2 : ox_F) (rc : Nat → ox_K) : ox_K := o_ic (0) (rc 145)
def bX12_mould_131 (f1 f2 : ox_F) (rc : Nat → ox_K) : ox_K := o_al 0 (o_getr 12 40 (o_il 3 (o_ba (o_ifeq (rc 144) (o_ic (1) (rc 145))))))
def bX12_mould_144 (f1 f2 : ox_F) (rc : Nat → ox_K) : ox_K := o_ic (0) (rc 145)
def bX12_mould_145 (f1 f2 : ox_F) (rc : Nat → ox_K) : ox_K := o_iret
section SX12_mould
variable {p : Program} {l : Launch} {e : Env} {R : Room} {s : State} {m : MethodId} {args : Array Value} {below : List Frame} {meth : Method} {c : Code} {g : ox_G} {c0 t0 dp d1 d2 : Nat} {rc : Nat → ox_K} {f1 f2 : ox_F}
set_option maxRecDepth 100000 in
theorem kX12_mould_0 (C : ox_C p s m args c g 4 cX12_mould RX12) (hr : meth.sig.returnType = (some .int)) (hlk : meth.locks = false) (hnm : meth.name = "mould") (hR : R.frames = dp ∧ R.locals = 60 * dp) (h1 : ox_Sem yX12_in cX12_in 6 (some .boolean) d1 f1) (e1 : d1 + 1 ≤ dp) (h2 : ox_Sem yX12_mouldAt cX12_mouldAt 2 (some .int) d2 f2) (e2 : d2 + 1 ≤ dp) (hrc : ∀ b, ox_S p l e R s m args below meth c g 4 c0 t0 (ox_QM g below args s c0 t0) b (rc b)) : ox_S p l e R s m args below meth c g 4 c0 t0 (ox_QM g below args s c0 t0) 0 (bX12_mould_0 f1 f2 rc) := by
  refine s_aload_n (pc := 0) C dX12_mould_0 rfl ?_
  refine s_iconst (pc := 1) C dX12_mould_1 (by decide) ?_
  refine s_puti (pc := 2) (j := 0) (q := (RX12, TX12, 59)) C rfl (by decide) rfl (Or.inl rfl) wF_X12_108 dX12_mould_2 ?_
  refine s_iload_n (pc := 5) C dX12_mould_5 rfl ?_
  refine s_i2l (pc := 6) C dX12_mould_6 ?_
  refine s_lconst (pc := 7) C dX12_mould_7 (by decide) ?_
  refine s_aload_n (pc := 8) C dX12_mould_8 rfl ?_
  refine s_geti (pc := 9) (j := 33) (q := (RX12, TX12, 59)) C rfl (by decide) rfl wF_X12_58 dX12_mould_9 ?_
  refine s_iconst (pc := 12) C dX12_mould_12 (by decide) ?_
  refine s_isub (pc := 13) C dX12_mould_13 ?_
  refine s_i2l (pc := 14) C dX12_mould_14 ?_
  refine s_ct (pc := 15) C h1 wM_X12_117 wT_X12_in wN_X12 wC_X12_in (by decide +kernel) (ox_lv hR e1 (by decide)) dX12_mould_15 ?_
  refine s_ifeq (pc := 18) 33 C dX12_mould_18 (by decide) (hrc 33) ?_
  refine s_iload_n (pc := 21) C dX12_mould_21 rfl ?_
  refine s_i2l (pc := 22) C dX12_mould_22 ?_
  refine s_lconst (pc := 23) C dX12_mould_23 (by decide) ?_
  refine s_ldc2 (pc := 24) C wL_X12_289 dX12_mould_24 ?_
  refine s_ct (pc := 27) C h1 wM_X12_117 wT_X12_in wN_X12 wC_X12_in (by decide +kernel) (ox_lv hR e1 (by decide)) dX12_mould_27 ?_
  refine s_ifne (pc := 30) 36 C dX12_mould_30 (by decide) (hrc 36) ?_
  exact hrc 33
set_option maxRecDepth 100000 in
theorem kX12_mould_33 (C : ox_C p s m args c g 4 cX12_mould RX12) (hr : meth.sig.returnType = (some .int)) (hlk : meth.locks = false) (hnm : meth.name = "mould") (hR : R.frames = dp ∧ R.locals = 60 * dp) (h1 : ox_Sem yX12_in cX12_in 6 (some .boolean) d1 f1) (e1 : d1 + 1 ≤ dp) (h2 : ox_Sem yX12_mouldAt cX12_mouldAt 2 (some .int) d2 f2) (e2 : d2 + 1 ≤ dp) (hrc : ∀ b, ox_S p l e R s m args below meth c g 4 c0 t0 (ox_QM g below args s c0 t0) b (rc b)) : ox_S p l e R s m args below meth c g 4 c0 t0 (ox_QM g below args s c0 t0) 33 (bX12_mould_33 f1 f2 rc) := by
  refine s_ldc (pc := 33) C wK_X12_127 dX12_mould_33 ?_
  exact s_iret (pc := 35) C hr hlk dX12_mould_35
set_option maxRecDepth 100000 in
theorem kX12_mould_36 (C : ox_C p s m args c g 4 cX12_mould RX12) (hr : meth.sig.returnType = (some .int)) (hlk : meth.locks = false) (hnm : meth.name = "mould") (hR : R.frames = dp ∧ R.locals = 60 * dp) (h1 : ox_Sem yX12_in cX12_in 6 (some .boolean) d1 f1) (e1 : d1 + 1 ≤ dp) (h2 : ox_Sem yX12_mouldAt cX12_mouldAt 2 (some .int) d2 f2) (e2 : d2 + 1 ≤ dp) (hrc : ∀ b, ox_S p l e R s m args below meth c g 4 c0 t0 (ox_QM g below args s c0 t0) b (rc b)) : ox_S p l e R s m args below meth c g 4 c0 t0 (ox_QM g below args s c0 t0) 36 (bX12_mould_36 f1 f2 rc) := by
  refine s_aload_n (pc := 36) C dX12_mould_36 rfl ?_
  refine s_iload_n (pc := 37) C dX12_mould_37 rfl ?_
  refine s_cv (pc := 38) (q := (RX12, TX12, 59)) C h2 rfl wM_X12_259 wI_X12_mouldAt wS_X12_mouldAt wN_X12 wC_X12_mouldAt (by decide +kernel) (ox_lv hR e2 (by decide)) dX12_mould_38 ?_
  refine s_istore_n (pc := 41) C dX12_mould_41 rfl (by decide) ?_
  refine s_aload_n (pc := 42) C dX12_mould_42 rfl ?_
  refine s_getr (pc := 43) (j := 35) (q := (RX12, TX12, 59)) C rfl (by decide) rfl wF_X12_62 dX12_mould_43 ?_
  refine s_iload_n (pc := 46) C dX12_mould_46 rfl ?_
  refine s_ia (pc := 47) C dX12_mould_47 ?_
  refine s_ifne (pc := 48) 54 C dX12_mould_48 (by decide) (hrc 54) ?_
  refine s_ldc (pc := 51) C wK_X12_143 dX12_mould_51 ?_
  exact s_iret (pc := 53) C hr hlk dX12_mould_53
set_option maxRecDepth 100000 in
theorem kX12_mould_54 (C : ox_C p s m args c g 4 cX12_mould RX12) (hr : meth.sig.returnType = (some .int)) (hlk : meth.locks = false) (hnm : meth.name = "mould") (hR : R.frames = dp ∧ R.locals = 60 * dp) (h1 : ox_Sem yX12_in cX12_in 6 (some .boolean) d1 f1) (e1 : d1 + 1 ≤ dp) (h2 : ox_Sem yX12_mouldAt cX12_mouldAt 2 (some .int) d2 f2) (e2 : d2 + 1 ≤ dp) (hrc : ∀ b, ox_S p l e R s m args below meth c g 4 c0 t0 (ox_QM g below args s c0 t0) b (rc b)) : ox_S p l e R s m args below meth c g 4 c0 t0 (ox_QM g below args s c0 t0) 54 (bX12_mould_54 f1 f2 rc) := by
  refine s_iload_n (pc := 54) C dX12_mould_54 rfl ?_
  refine s_ifne (pc := 55) 67 C dX12_mould_55 (by decide) (hrc 67) ?_
  refine s_aload_n (pc := 58) C dX12_mould_58 rfl ?_
  refine s_getr (pc := 59) (j := 35) (q := (RX12, TX12, 59)) C rfl (by decide) rfl wF_X12_62 dX12_mould_59 ?_
  refine s_iload_n (pc := 62) C dX12_mould_62 rfl ?_
  refine s_ia (pc := 63) C dX12_mould_63 ?_
  exact s_goto (pc := 64) 145 C dX12_mould_64 (by decide) (hrc 145)
set_option maxRecDepth 100000 in
theorem kX12_mould_67 (C : ox_C p s m args c g 4 cX12_mould RX12) (hr : meth.sig.returnType = (some .int)) (hlk : meth.locks = false) (hnm : meth.name = "mould") (hR : R.frames = dp ∧ R.locals = 60 * dp) (h1 : ox_Sem yX12_in cX12_in 6 (some .boolean) d1 f1) (e1 : d1 + 1 ≤ dp) (h2 : ox_Sem yX12_mouldAt cX12_mouldAt 2 (some .int) d2 f2) (e2 : d2 + 1 ≤ dp) (hrc : ∀ b, ox_S p l e R s m args below meth c g 4 c0 t0 (ox_QM g below args s c0 t0) b (rc b)) : ox_S p l e R s m args below meth c g 4 c0 t0 (ox_QM g below args s c0 t0) 67 (bX12_mould_67 f1 f2 rc) := by
  refine s_iload_n (pc := 67) C dX12_mould_67 rfl ?_
  refine s_iconst (pc := 68) C dX12_mould_68 (by decide) ?_
  refine s_icmpne (pc := 69) 81 C dX12_mould_69 (by decide) (hrc 81) ?_
  refine s_aload_n (pc := 72) C dX12_mould_72 rfl ?_
  refine s_getr (pc := 73) (j := 36) (q := (RX12, TX12, 59)) C rfl (by decide) rfl wF_X12_65 dX12_mould_73 ?_
  refine s_iload_n (pc := 76) C dX12_mould_76 rfl ?_
  refine s_ia (pc := 77) C dX12_mould_77 ?_
  exact s_goto (pc := 78) 145 C dX12_mould_78 (by decide) (hrc 145)
set_option maxRecDepth 100000 in
theorem kX12_mould_81 (C : ox_C p s m args c g 4 cX12_mould RX12) (hr : meth.sig.returnType = (some .int)) (hlk : meth.locks = false) (hnm : meth.name = "mould") (hR : R.frames = dp ∧ R.locals = 60 * dp) (h1 : ox_Sem yX12_in cX12_in 6 (some .boolean) d1 f1) (e1 : d1 + 1 ≤ dp) (h2 : ox_Sem yX12_mouldAt cX12_mouldAt 2 (some .int) d2 f2) (e2 : d2 + 1 ≤ dp) (hrc : ∀ b, ox_S p l e R s m args below meth c g 4 c0 t0 (ox_QM g below args s c0 t0) b (rc b)) : ox_S p l e R s m args below meth c g 4 c0 t0 (ox_QM g below args s c0 t0) 81 (bX12_mould_81 f1 f2 rc) := by
  refine s_iload_n (pc := 81) C dX12_mould_81 rfl ?_
  refine s_iconst (pc := 82) C dX12_mould_82 (by decide) ?_
  refine s_icmpne (pc := 83) 95 C dX12_mould_83 (by decide) (hrc 95) ?_
  refine s_aload_n (pc := 86) C dX12_mould_86 rfl ?_
  refine s_getr (pc := 87) (j := 37) (q := (RX12, TX12, 59)) C rfl (by decide) rfl wF_X12_68 dX12_mould_87 ?_
  refine s_iload_n (pc := 90) C dX12_mould_90 rfl ?_
  refine s_ia (pc := 91) C dX12_mould_91 ?_
  exact s_goto (pc := 92) 145 C dX12_mould_92 (by decide) (hrc 145)
set_option maxRecDepth 100000 in
theorem kX12_mould_95 (C : ox_C p s m args c g 4 cX12_mould RX12) (hr : meth.sig.returnType = (some .int)) (hlk : meth.locks = false) (hnm : meth.name = "mould") (hR : R.frames = dp ∧ R.locals = 60 * dp) (h1 : ox_Sem yX12_in cX12_in 6 (some .boolean) d1 f1) (e1 : d1 + 1 ≤ dp) (h2 : ox_Sem yX12_mouldAt cX12_mouldAt 2 (some .int) d2 f2) (e2 : d2 + 1 ≤ dp) (hrc : ∀ b, ox_S p l e R s m args below meth c g 4 c0 t0 (ox_QM g below args s c0 t0) b (rc b)) : ox_S p l e R s m args below meth c g 4 c0 t0 (ox_QM g below args s c0 t0) 95 (bX12_mould_95 f1 f2 rc) := by
  refine s_iload_n (pc := 95) C dX12_mould_95 rfl ?_
  refine s_iconst (pc := 96) C dX12_mould_96 (by decide) ?_
  refine s_icmpne (pc := 97) 109 C dX12_mould_97 (by decide) (hrc 109) ?_
  refine s_aload_n (pc := 100) C dX12_mould_100 rfl ?_
  refine s_getr (pc := 101) (j := 39) (q := (RX12, TX12, 59)) C rfl (by decide) rfl wF_X12_74 dX12_mould_101 ?_
  refine s_iload_n (pc := 104) C dX12_mould_104 rfl ?_
  refine s_ia (pc := 105) C dX12_mould_105 ?_
  exact s_goto (pc := 106) 145 C dX12_mould_106 (by decide) (hrc 145)
set_option maxRecDepth 100000 in
theorem kX12_mould_109 (C : ox_C p s m args c g 4 cX12_mould RX12) (hr : meth.sig.returnType = (some .int)) (hlk : meth.locks = false) (hnm : meth.name = "mould") (hR : R.frames = dp ∧ R.locals = 60 * dp) (h1 : ox_Sem yX12_in cX12_in 6 (some .boolean) d1 f1) (e1 : d1 + 1 ≤ dp) (h2 : ox_Sem yX12_mouldAt cX12_mouldAt 2 (some .int) d2 f2) (e2 : d2 + 1 ≤ dp) (hrc : ∀ b, ox_S p l e R s m args below meth c g 4 c0 t0 (ox_QM g below args s c0 t0) b (rc b)) : ox_S p l e R s m args below meth c g 4 c0 t0 (ox_QM g below args s c0 t0) 109 (bX12_mould_109 f1 f2 rc) := by
  refine s_iload_n (pc := 109) C dX12_mould_109 rfl ?_
  refine s_iconst (pc := 110) C dX12_mould_110 (by decide) ?_
  refine s_icmpne (pc := 111) 131 C dX12_mould_111 (by decide) (hrc 131) ?_
  refine s_aload_n (pc := 114) C dX12_mould_114 rfl ?_
  refine s_getr (pc := 115) (j := 41) (q := (RX12, TX12, 59)) C rfl (by decide) rfl wF_X12_81 dX12_mould_115 ?_
  refine s_iload_n (pc := 118) C dX12_mould_118 rfl ?_
  refine s_ba (pc := 119) C dX12_mould_119 ?_
  refine s_ifeq (pc := 120) 127 C dX12_mould_120 (by decide) (hrc 127) ?_
  refine s_iconst (pc := 123) C dX12_mould_123 (by decide) ?_
  exact s_goto (pc := 124) 145 C dX12_mould_124 (by decide) (hrc 145)
set_option maxRecDepth 100000 in
theorem kX12_mould_127 (C : ox_C p s m args c g 4 cX12_mould RX12) (hr : meth.sig.returnType = (some .int)) (hlk : meth.locks = false) (hnm : meth.name = "mould") (hR : R.frames = dp ∧ R.locals = 60 * dp) (h1 : ox_Sem yX12_in cX12_in 6 (some .boolean) d1 f1) (e1 : d1 + 1 ≤ dp) (h2 : ox_Sem yX12_mouldAt cX12_mouldAt 2 (some .int) d2 f2) (e2 : d2 + 1 ≤ dp) (hrc : ∀ b, ox_S p l e R s m args below meth c g 4 c0 t0 (ox_QM g below args s c0 t0) b (rc b)) : ox_S p l e R s m args below meth c g 4 c0 t0 (ox_QM g below args s c0 t0) 127 (bX12_mould_127 f1 f2 rc) := by
  refine s_iconst (pc := 127) C dX12_mould_127 (by decide) ?_
  exact s_goto (pc := 128) 145 C dX12_mould_128 (by decide) (hrc 145)
set_option maxRecDepth 100000 in
theorem kX12_mould_131 (C : ox_C p s m args c g 4 cX12_mould RX12) (hr : meth.sig.returnType = (some .int)) (hlk : meth.locks = false) (hnm : meth.name = "mould") (hR : R.frames = dp ∧ R.locals = 60 * dp) (h1 : ox_Sem yX12_in cX12_in 6 (some .boolean) d1 f1) (e1 : d1 + 1 ≤ dp) (h2 : ox_Sem yX12_mouldAt cX12_mouldAt 2 (some .int) d2 f2) (e2 : d2 + 1 ≤ dp) (hrc : ∀ b, ox_S p l e R s m args below meth c g 4 c0 t0 (ox_QM g below args s c0 t0) b (rc b)) : ox_S p l e R s m args below meth c g 4 c0 t0 (ox_QM g below args s c0 t0) 131 (bX12_mould_131 f1 f2 rc) := by
  refine s_aload_n (pc := 131) C dX12_mould_131 rfl ?_
  refine s_getr (pc := 132) (j := 40) (q := (RX12, TX12, 59)) C rfl (by decide) rfl wF_X12_77 dX12_mould_132 ?_
  refine s_iload_n (pc := 135) C dX12_mould_135 rfl ?_
  refine s_ba (pc := 136) C dX12_mould_136 ?_
  refine s_ifeq (pc := 137) 144 C dX12_mould_137 (by decide) (hrc 144) ?_
  refine s_iconst (pc := 140) C dX12_mould_140 (by decide) ?_
  exact s_goto (pc := 141) 145 C dX12_mould_141 (by decide) (hrc 145)
set_option maxRecDepth 100000 in
theorem kX12_mould_144 (C : ox_C p s m args c g 4 cX12_mould RX12) (hr : meth.sig.returnType = (some .int)) (hlk : meth.locks = false) (hnm : meth.name = "mould") (hR : R.frames = dp ∧ R.locals = 60 * dp) (h1 : ox_Sem yX12_in cX12_in 6 (some .boolean) d1 f1) (e1 : d1 + 1 ≤ dp) (h2 : ox_Sem yX12_mouldAt cX12_mouldAt 2 (some .int) d2 f2) (e2 : d2 + 1 ≤ dp) (hrc : ∀ b, ox_S p l e R s m args below meth c g 4 c0 t0 (ox_QM g below args s c0 t0) b (rc b)) : ox_S p l e R s m args below meth c g 4 c0 t0 (ox_QM g below args s c0 t0) 144 (bX12_mould_144 f1 f2 rc) := by
  refine s_iconst (pc := 144) C dX12_mould_144 (by decide) ?_
  exact hrc 145
set_option maxRecDepth 100000 in
theorem kX12_mould_145 (C : ox_C p s m args c g 4 cX12_mould RX12) (hr : meth.sig.returnType = (some .int)) (hlk : meth.locks = false) (hnm : meth.name = "mould") (hR : R.frames = dp ∧ R.locals = 60 * dp) (h1 : ox_Sem yX12_in cX12_in 6 (some .boolean) d1 f1) (e1 : d1 + 1 ≤ dp) (h2 : ox_Sem yX12_mouldAt cX12_mouldAt 2 (some .int) d2 f2) (e2 : d2 + 1 ≤ dp) (hrc : ∀ b, ox_S p l e R s m args below meth c g 4 c0 t0 (ox_QM g below args s c0 t0) b (rc b)) : ox_S p l e R s m args below meth c g 4 c0 t0 (ox_QM g below args s c0 t0) 145 (bX12_mould_145 f1 f2 rc) := by
  exact s_iret (pc := 145) C hr hlk dX12_mould_145
end SX12_mould
def bsX12_mould (f1 f2 : ox_F) (b : Nat) (rc : Nat → ox_K) : ox_K := if b = 0 then bX12_mould_0 f1 f2 rc else if b = 33 then bX12_mould_33 f1 f2 rc else if b = 36 then bX12_mould_36 f1 f2 rc else if b = 54 then bX12_mould_54 f1 f2 rc else if b = 67 then bX12_mould_67 f1 f2 rc else if b = 81 then bX12_mould_81 f1 f2 rc else if b = 95 then bX12_mould_95 f1 f2 rc else if b = 109 then bX12_mould_109 f1 f2 rc else if b = 127 then bX12_mould_127 f1 f2 rc else if b = 131 then bX12_mould_131 f1 f2 rc else if b = 144 then bX12_mould_144 f1 f2 rc else if b = 145 then bX12_mould_145 f1 f2 rc else ox_no
theorem mX12_mould {dp d1 d2 : Nat} {f1 f2 f : ox_F} (h1 : ox_Sem yX12_in cX12_in 6 (some .boolean) d1 f1) (e1 : d1 + 1 ≤ dp) (h2 : ox_Sem yX12_mouldAt cX12_mouldAt 2 (some .int) d2 f2) (e2 : d2 + 1 ≤ dp) (hf : ∀ as h r, f as h = some r → ox_cs as ≤ 4 ∧ ox_le h r.2 ∧ ∃ n, ox_run (bsX12_mould f1 f2) n 0 (lv_args 0 as) [] h = some r) : ox_Sem yX12_mould cX12_mould 4 (some .int) dp f := by
  refine ox_meth (bs := bsX12_mould f1 f2) (by decide) hf ?_
  intro p l e R s m args below meth c g c0 t0 C hr hlk hnm hR rc hrc b
  unfold bsX12_mould
  refine ox_br (kX12_mould_0 C hr hlk hnm hR h1 e1 h2 e2 hrc) ?_
  refine ox_br (kX12_mould_33 C hr hlk hnm hR h1 e1 h2 e2 hrc) ?_
  refine ox_br (kX12_mould_36 C hr hlk hnm hR h1 e1 h2 e2 hrc) ?_
  refine ox_br (kX12_mould_54 C hr hlk hnm hR h1 e1 h2 e2 hrc) ?_
  refine ox_br (kX12_mould_67 C hr hlk hnm hR h1 e1 h2 e2 hrc) ?_
  refine ox_br (kX12_mould_81 C hr hlk hnm hR h1 e1 h2 e2 hrc) ?_
  refine ox_br (kX12_mould_95 C hr hlk hnm hR h1 e1 h2 e2 hrc) ?_
  refine ox_br (kX12_mould_109 C hr hlk hnm hR h1 e1 h2 e2 hrc) ?_
  refine ox_br (kX12_mould_127 C hr hlk hnm hR h1 e1 h2 e2 hrc) ?_
  refine ox_br (kX12_mould_131 C hr hlk hnm hR h1 e1 h2 e2 hrc) ?_
  refine ox_br (kX12_mould_144 C hr hlk hnm hR h1 e1 h2 e2 hrc) ?_
  refine ox_br (kX12_mould_145 C hr hlk hnm hR h1 e1 h2 e2 hrc) ?_
  exact s_no
theorem dX12_turnOut_0 : decode cX12_turnOut 0 = .ok (.aload_n 0, 1) := by decide +kernel
theorem dX12_turnOut_1 : decode cX12_turnOut 1 = .ok (.getfield 291, 3) := by decide +kernel
theorem dX12_turnOut_4 : decode cX12_turnOut 4 = .ok (.bipush 40, 2) := by decide +kernel
theorem dX12_turnOut_6 : decode cX12_turnOut 6 = .ok (.if_icmp .ge 109, 3) := by decide +kernel
theorem dX12_turnOut_9 : decode cX12_turnOut 9 = .ok (.bipush 6, 2) := by decide +kernel
theorem dX12_turnOut_11 : decode cX12_turnOut 11 = .ok (.aload_n 0, 1) := by decide +kernel
theorem dX12_turnOut_12 : decode cX12_turnOut 12 = .ok (.getfield 291, 3) := by decide +kernel
theorem dX12_turnOut_15 : decode cX12_turnOut 15 = .ok (.imul, 1) := by decide +kernel
theorem dX12_turnOut_16 : decode cX12_turnOut 16 = .ok (.istore_n 2, 1) := by decide +kernel
theorem dX12_turnOut_17 : decode cX12_turnOut 17 = .ok (.aload_n 0, 1) := by decide +kernel
theorem dX12_turnOut_18 : decode cX12_turnOut 18 = .ok (.getfield 90, 3) := by decide +kernel
theorem dX12_turnOut_21 : decode cX12_turnOut 21 = .ok (.iload_n 2, 1) := by decide +kernel
theorem dX12_turnOut_22 : decode cX12_turnOut 22 = .ok (.aload_n 0, 1) := by decide +kernel
theorem dX12_turnOut_23 : decode cX12_turnOut 23 = .ok (.getfield 62, 3) := by decide +kernel
theorem dX12_turnOut_26 : decode cX12_turnOut 26 = .ok (.iload_n 1, 1) := by decide +kernel
theorem dX12_turnOut_27 : decode cX12_turnOut 27 = .ok (.iaload, 1) := by decide +kernel
theorem dX12_turnOut_28 : decode cX12_turnOut 28 = .ok (.iastore, 1) := by decide +kernel
theorem dX12_turnOut_29 : decode cX12_turnOut 29 = .ok (.aload_n 0, 1) := by decide +kernel
theorem dX12_turnOut_30 : decode cX12_turnOut 30 = .ok (.getfield 90, 3) := by decide +kernel
theorem dX12_turnOut_33 : decode cX12_turnOut 33 = .ok (.iload_n 2, 1) := by decide +kernel
theorem dX12_turnOut_34 : decode cX12_turnOut 34 = .ok (.iconst 1, 1) := by decide +kernel
theorem dX12_turnOut_35 : decode cX12_turnOut 35 = .ok (.iadd, 1) := by decide +kernel
theorem dX12_turnOut_36 : decode cX12_turnOut 36 = .ok (.aload_n 0, 1) := by decide +kernel
theorem dX12_turnOut_37 : decode cX12_turnOut 37 = .ok (.getfield 65, 3) := by decide +kernel
theorem dX12_turnOut_40 : decode cX12_turnOut 40 = .ok (.iload_n 1, 1) := by decide +kernel
theorem dX12_turnOut_41 : decode cX12_turnOut 41 = .ok (.iaload, 1) := by decide +kernel
theorem dX12_turnOut_42 : decode cX12_turnOut 42 = .ok (.iastore, 1) := by decide +kernel
theorem dX12_turnOut_43 : decode cX12_turnOut 43 = .ok (.aload_n 0, 1) := by decide +kernel
theorem dX12_turnOut_44 : decode cX12_turnOut 44 = .ok (.getfield 90, 3) := by decide +kernel
theorem dX12_turnOut_47 : decode cX12_turnOut 47 = .ok (.iload_n 2, 1) := by decide +kernel
theorem dX12_turnOut_48 : decode cX12_turnOut 48 = .ok (.iconst 2, 1) := by decide +kernel
theorem dX12_turnOut_49 : decode cX12_turnOut 49 = .ok (.iadd, 1) := by decide +kernel
theorem dX12_turnOut_50 : decode cX12_turnOut 50 = .ok (.aload_n 0, 1) := by decide +kernel
theorem dX12_turnOut_51 : decode cX12_turnOut 51 = .ok (.getfield 68, 3) := by decide +kernel
theorem dX12_turnOut_54 : decode cX12_turnOut 54 = .ok (.iload_n 1, 1) := by decide +kernel
theorem dX12_turnOut_55 : decode cX12_turnOut 55 = .ok (.iaload, 1) := by decide +kernel
theorem dX12_turnOut_56 : decode cX12_turnOut 56 = .ok (.iastore, 1) := by decide +kernel
theorem dX12_turnOut_57 : decode cX12_turnOut 57 = .ok (.aload_n 0, 1) := by decide +kernel
theorem dX12_turnOut_58 : decode cX12_turnOut 58 = .ok (.getfield 90, 3) := by decide +kernel
theorem dX12_turnOut_61 : decode cX12_turnOut 61 = .ok (.iload_n 2, 1) := by decide +kernel
theorem dX12_turnOut_62 : decode cX12_turnOut 62 = .ok (.iconst 3, 1) := by decide +kernel
theorem dX12_turnOut_63 : decode cX12_turnOut 63 = .ok (.iadd, 1) := by decide +kernel
theorem dX12_turnOut_64 : decode cX12_turnOut 64 = .ok (.aload_n 0, 1) := by decide +kernel
theorem dX12_turnOut_65 : decode cX12_turnOut 65 = .ok (.getfield 71, 3) := by decide +kernel
theorem dX12_turnOut_68 : decode cX12_turnOut 68 = .ok (.iload_n 1, 1) := by decide +kernel
theorem dX12_turnOut_69 : decode cX12_turnOut 69 = .ok (.iaload, 1) := by decide +kernel
theorem dX12_turnOut_70 : decode cX12_turnOut 70 = .ok (.iastore, 1) := by decide +kernel
theorem dX12_turnOut_71 : decode cX12_turnOut 71 = .ok (.aload_n 0, 1) := by decide +kernel
theorem dX12_turnOut_72 : decode cX12_turnOut 72 = .ok (.getfield 90, 3) := by decide +kernel
theorem dX12_turnOut_75 : decode cX12_turnOut 75 = .ok (.iload_n 2, 1) := by decide +kernel
theorem dX12_turnOut_76 : decode cX12_turnOut 76 = .ok (.iconst 4, 1) := by decide +kernel
theorem dX12_turnOut_77 : decode cX12_turnOut 77 = .ok (.iadd, 1) := by decide +kernel
theorem dX12_turnOut_78 : decode cX12_turnOut 78 = .ok (.aload_n 0, 1) := by decide +kernel
theorem dX12_turnOut_79 : decode cX12_turnOut 79 = .ok (.getfield 77, 3) := by decide +kernel
theorem dX12_turnOut_82 : decode cX12_turnOut 82 = .ok (.iload_n 1, 1) := by decide +kernel
theorem dX12_turnOut_83 : decode cX12_turnOut 83 = .ok (.baload, 1) := by decide +kernel
theorem dX12_turnOut_84 : decode cX12_turnOut 84 = .ok (.ifCond .eq 7, 3) := by decide +kernel
theorem dX12_turnOut_87 : decode cX12_turnOut 87 = .ok (.iconst 1, 1) := by decide +kernel
theorem dX12_turnOut_88 : decode cX12_turnOut 88 = .ok (.goto 4, 3) := by decide +kernel
theorem dX12_turnOut_91 : decode cX12_turnOut 91 = .ok (.iconst 0, 1) := by decide +kernel
theorem dX12_turnOut_92 : decode cX12_turnOut 92 = .ok (.iastore, 1) := by decide +kernel
theorem dX12_turnOut_93 : decode cX12_turnOut 93 = .ok (.aload_n 0, 1) := by decide +kernel
theorem dX12_turnOut_94 : decode cX12_turnOut 94 = .ok (.getfield 90, 3) := by decide +kernel
theorem dX12_turnOut_97 : decode cX12_turnOut 97 = .ok (.iload_n 2, 1) := by decide +kernel
theorem dX12_turnOut_98 : decode cX12_turnOut 98 = .ok (.iconst 5, 1) := by decide +kernel
theorem dX12_turnOut_99 : decode cX12_turnOut 99 = .ok (.iadd, 1) := by decide +kernel
theorem dX12_turnOut_100 : decode cX12_turnOut 100 = .ok (.aload_n 0, 1) := by decide +kernel
theorem dX12_turnOut_101 : decode cX12_turnOut 101 = .ok (.getfield 278, 3) := by decide +kernel
theorem dX12_turnOut_104 : decode cX12_turnOut 104 = .ok (.iastore, 1) := by decide +kernel
theorem dX12_turnOut_105 : decode cX12_turnOut 105 = .ok (.aload_n 0, 1) := by decide +kernel
theorem dX12_turnOut_106 : decode cX12_turnOut 106 = .ok (.dup, 1) := by decide +kernel
theorem dX12_turnOut_107 : decode cX12_turnOut 107 = .ok (.getfield 291, 3) := by decide +kernel
theorem dX12_turnOut_110 : decode cX12_turnOut 110 = .ok (.iconst 1, 1) := by decide +kernel
theorem dX12_turnOut_111 : decode cX12_turnOut 111 = .ok (.iadd, 1) := by decide +kernel
theorem dX12_turnOut_112 : decode cX12_turnOut 112 = .ok (.putfield 291, 3) := by decide +kernel
theorem dX12_turnOut_115 : decode cX12_turnOut 115 = .ok (.aload_n 0, 1) := by decide +kernel
theorem dX12_turnOut_116 : decode cX12_turnOut 116 = .ok (.getfield 96, 3) := by decide +kernel
theorem dX12_turnOut_119 : decode cX12_turnOut 119 = .ok (.aload_n 0, 1) := by decide +kernel
theorem dX12_turnOut_120 : decode cX12_turnOut 120 = .ok (.getfield 283, 3) := by decide +kernel
theorem dX12_turnOut_123 : decode cX12_turnOut 123 = .ok (.iconst 4, 1) := by decide +kernel
theorem dX12_turnOut_124 : decode cX12_turnOut 124 = .ok (.irem, 1) := by decide +kernel
theorem dX12_turnOut_125 : decode cX12_turnOut 125 = .ok (.aload_n 0, 1) := by decide +kernel
theorem dX12_turnOut_126 : decode cX12_turnOut 126 = .ok (.getfield 62, 3) := by decide +kernel
theorem dX12_turnOut_129 : decode cX12_turnOut 129 = .ok (.iload_n 1, 1) := by decide +kernel
theorem dX12_turnOut_130 : decode cX12_turnOut 130 = .ok (.iaload, 1) := by decide +kernel
theorem dX12_turnOut_131 : decode cX12_turnOut 131 = .ok (.iastore, 1) := by decide +kernel
theorem dX12_turnOut_132 : decode cX12_turnOut 132 = .ok (.aload_n 0, 1) := by decide +kernel
theorem dX12_turnOut_133 : decode cX12_turnOut 133 = .ok (.dup, 1) := by decide +kernel
theorem dX12_turnOut_134 : decode cX12_turnOut 134 = .ok (.getfield 283, 3) := by decide +kernel
theorem dX12_turnOut_137 : decode cX12_turnOut 137 = .ok (.iconst 1, 1) := by decide +kernel
theorem dX12_turnOut_138 : decode cX12_turnOut 138 = .ok (.iadd, 1) := by decide +kernel
theorem dX12_turnOut_139 : decode cX12_turnOut 139 = .ok (.putfield 283, 3) := by decide +kernel
theorem dX12_turnOut_142 : decode cX12_turnOut 142 = .ok (.aload_n 0, 1) := by decide +kernel
theorem dX12_turnOut_143 : decode cX12_turnOut 143 = .ok (.dup, 1) := by decide +kernel
theorem dX12_turnOut_144 : decode cX12_turnOut 144 = .ok (.getfield 294, 3) := by decide +kernel
theorem dX12_turnOut_147 : decode cX12_turnOut 147 = .ok (.aload_n 0, 1) := by decide +kernel
theorem dX12_turnOut_148 : decode cX12_turnOut 148 = .ok (.getfield 62, 3) := by decide +kernel
theorem dX12_turnOut_151 : decode cX12_turnOut 151 = .ok (.iload_n 1, 1) := by decide +kernel
theorem dX12_turnOut_152 : decode cX12_turnOut 152 = .ok (.iaload, 1) := by decide +kernel
theorem dX12_turnOut_153 : decode cX12_turnOut 153 = .ok (.iadd, 1) := by decide +kernel
theorem dX12_turnOut_154 : decode cX12_turnOut 154 = .ok (.putfield 294, 3) := by decide +kernel
theorem dX12_turnOut_157 : decode cX12_turnOut 157 = .ok (.aload_n 0, 1) := by decide +kernel
theorem dX12_turnOut_158 : decode cX12_turnOut 158 = .ok (.dup, 1) := by decide +kernel
theorem dX12_turnOut_159 : decode cX12_turnOut 159 = .ok (.getfield 297, 3) := by decide +kernel
theorem dX12_turnOut_162 : decode cX12_turnOut 162 = .ok (.aload_n 0, 1) := by decide +kernel
theorem dX12_turnOut_163 : decode cX12_turnOut 163 = .ok (.getfield 62, 3) := by decide +kernel
theorem dX12_turnOut_166 : decode cX12_turnOut 166 = .ok (.iload_n 1, 1) := by decide +kernel
theorem dX12_turnOut_167 : decode cX12_turnOut 167 = .ok (.iaload, 1) := by decide +kernel
theorem dX12_turnOut_168 : decode cX12_turnOut 168 = .ok (.aload_n 0, 1) := by decide +kernel
theorem dX12_turnOut_169 : decode cX12_turnOut 169 = .ok (.getfield 87, 3) := by decide +kernel
theorem dX12_turnOut_172 : decode cX12_turnOut 172 = .ok (.iconst 0, 1) := by decide +kernel
theorem dX12_turnOut_173 : decode cX12_turnOut 173 = .ok (.iaload, 1) := by decide +kernel
theorem dX12_turnOut_174 : decode cX12_turnOut 174 = .ok (.if_icmp .le 19, 3) := by decide +kernel
theorem dX12_turnOut_177 : decode cX12_turnOut 177 = .ok (.aload_n 0, 1) := by decide +kernel
theorem dX12_turnOut_178 : decode cX12_turnOut 178 = .ok (.getfield 62, 3) := by decide +kernel
theorem dX12_turnOut_181 : decode cX12_turnOut 181 = .ok (.iload_n 1, 1) := by decide +kernel
theorem dX12_turnOut_182 : decode cX12_turnOut 182 = .ok (.iaload, 1) := by decide +kernel
theorem dX12_turnOut_183 : decode cX12_turnOut 183 = .ok (.aload_n 0, 1) := by decide +kernel
theorem dX12_turnOut_184 : decode cX12_turnOut 184 = .ok (.getfield 87, 3) := by decide +kernel
theorem dX12_turnOut_187 : decode cX12_turnOut 187 = .ok (.iconst 0, 1) := by decide +kernel
theorem dX12_turnOut_188 : decode cX12_turnOut 188 = .ok (.iaload, 1) := by decide +kernel
theorem dX12_turnOut_189 : decode cX12_turnOut 189 = .ok (.isub, 1) := by decide +kernel
theorem dX12_turnOut_190 : decode cX12_turnOut 190 = .ok (.goto 4, 3) := by decide +kernel
theorem dX12_turnOut_193 : decode cX12_turnOut 193 = .ok (.iconst 0, 1) := by decide +kernel
theorem dX12_turnOut_194 : decode cX12_turnOut 194 = .ok (.iadd, 1) := by decide +kernel
theorem dX12_turnOut_195 : decode cX12_turnOut 195 = .ok (.putfield 297, 3) := by decide +kernel
theorem dX12_turnOut_198 : decode cX12_turnOut 198 = .ok (.return_, 1) := by decide +kernel
def bX12_turnOut_0 (rc : Nat → ox_K) : ox_K := o_al 0 (o_geti 12 48 (o_ic (40) (o_icge (rc 115) (o_ic (6) (o_al 0 (o_geti 12 48 (o_imul (o_is 2 (o_al 0 (o_getr 12 49 (o_il 2 (o_al 0 (o_getr 12 35 (o_il 1 (o_ia (o_iast (o_al 0 (o_getr 12 49 (o_il 2 (o_ic (1) (o_iadd (o_al 0 (o_getr 12 36 (o_il 1 (o_ia (o_iast (o_al 0 (o_getr 12 49 (o_il 2 (o_ic (2) (o_iadd (o_al 0 (o_getr 12 37 (o_il 1 (o_ia (o_iast (o_al 0 (o_getr 12 49 (o_il 2 (o_ic (3) (o_iadd (o_al 0 (o_getr 12 38 (o_il 1 (o_ia (o_iast (o_al 0 (o_getr 12 49 (o_il 2 (o_ic (4) (o_iadd (o_al 0 (o_getr 12 40 (o_il 1 (o_ba (o_ifeq (rc 91) (o_ic (1) (rc 92))))))))))))))))))))))))))))))))))))))))))))))))))))))))))
def bX12_turnOut_91 (rc : Nat → ox_K) : ox_K := o_ic (0) (rc 92)
def bX12_turnOut_92 (rc : Nat → ox_K) : ox_K := o_iast (o_al 0 (o_getr 12 49 (o_il 2 (o_ic (5) (o_iadd (o_al 0 (o_geti 12 45 (o_iast (o_al 0 (o_dup (o_geti 12 48 (o_ic (1) (o_iadd (o_puti 12 48 (rc 115)))))))))))))))
def bX12_turnOut_115 (rc : Nat → ox_K) : ox_K := o_al 0 (o_getr 12 51 (o_al 0 (o_geti 12 47 (o_ic (4) (o_irem (o_al 0 (o_getr 12 35 (o_il 1 (o_ia (o_iast (o_al 0 (o_dup (o_geti 12 47 (o_ic (1) (o_iadd (o_puti 12 47 (o_al 0 (o_dup (o_geti 12 52 (o_al 0 (o_getr 12 35 (o_il 1 (o_ia (o_iadd (o_puti 12 52 (o_al 0 (o_dup (o_geti 12 53 (o_al 0 (o_getr 12 35 (o_il 1 (o_ia (o_al 0 (o_getr 12 43 (o_ic (0) (o_ia (o_icle (rc 193) (o_al 0 (o_getr 12 35 (o_il 1 (o_ia (o_al 0 (o_getr 12 43 (o_ic (0) (o_ia (o_isub (rc 194)))))))))))))))))))))))))))))))))))))))))))))))
def bX12_turnOut_193 (rc : Nat → ox_K) : ox_K := o_ic (0) (rc 194)
def bX12_turnOut_194 (rc : Nat → ox_K) : ox_K := o_iadd (o_puti 12 53 (o_ret))
section SX12_turnOut
variable {p : Program} {l : Launch} {e : Env} {R : Room} {s : State} {m : MethodId} {args : Array Value} {below : List Frame} {meth : Method} {c : Code} {g : ox_G} {c0 t0 dp  : Nat} {rc : Nat → ox_K}
set_option maxRecDepth 100000 in
theorem kX12_turnOut_0 (C : ox_C p s m args c g 3 cX12_turnOut RX12) (hr : meth.sig.returnType = none) (hlk : meth.locks = false) (hnm : meth.name = "turnOut") (hR : R.frames = dp ∧ R.locals = 60 * dp) (hrc : ∀ b, ox_S p l e R s m args below meth c g 3 c0 t0 (ox_QM g below args s c0 t0) b (rc b)) : ox_S p l e R s m args below meth c g 3 c0 t0 (ox_QM g below args s c0 t0) 0 (bX12_turnOut_0 rc) := by
  refine s_aload_n (pc := 0) C dX12_turnOut_0 rfl ?_
  refine s_geti (pc := 1) (j := 48) (q := (RX12, TX12, 59)) C rfl (by decide) rfl wF_X12_291 dX12_turnOut_1 ?_
  refine s_bipush (pc := 4) C dX12_turnOut_4 (by decide) ?_
  refine s_icmpge (pc := 6) 115 C dX12_turnOut_6 (by decide) (hrc 115) ?_
  refine s_bipush (pc := 9) C dX12_turnOut_9 (by decide) ?_
  refine s_aload_n (pc := 11) C dX12_turnOut_11 rfl ?_
  refine s_geti (pc := 12) (j := 48) (q := (RX12, TX12, 59)) C rfl (by decide) rfl wF_X12_291 dX12_turnOut_12 ?_
  refine s_imul (pc := 15) C dX12_turnOut_15 ?_
  refine s_istore_n (pc := 16) C dX12_turnOut_16 rfl (by decide) ?_
  refine s_aload_n (pc := 17) C dX12_turnOut_17 rfl ?_
  refine s_getr (pc := 18) (j := 49) (q := (RX12, TX12, 59)) C rfl (by decide) rfl wF_X12_90 dX12_turnOut_18 ?_
  refine s_iload_n (pc := 21) C dX12_turnOut_21 rfl ?_
  refine s_aload_n (pc := 22) C dX12_turnOut_22 rfl ?_
  refine s_getr (pc := 23) (j := 35) (q := (RX12, TX12, 59)) C rfl (by decide) rfl wF_X12_62 dX12_turnOut_23 ?_
  refine s_iload_n (pc := 26) C dX12_turnOut_26 rfl ?_
  refine s_ia (pc := 27) C dX12_turnOut_27 ?_
  refine s_iast (pc := 28) C dX12_turnOut_28 ?_
  refine s_aload_n (pc := 29) C dX12_turnOut_29 rfl ?_
  refine s_getr (pc := 30) (j := 49) (q := (RX12, TX12, 59)) C rfl (by decide) rfl wF_X12_90 dX12_turnOut_30 ?_
  refine s_iload_n (pc := 33) C dX12_turnOut_33 rfl ?_
  refine s_iconst (pc := 34) C dX12_turnOut_34 (by decide) ?_
  refine s_iadd (pc := 35) C dX12_turnOut_35 ?_
  refine s_aload_n (pc := 36) C dX12_turnOut_36 rfl ?_
  refine s_getr (pc := 37) (j := 36) (q := (RX12, TX12, 59)) C rfl (by decide) rfl wF_X12_65 dX12_turnOut_37 ?_
  refine s_iload_n (pc := 40) C dX12_turnOut_40 rfl ?_
  refine s_ia (pc := 41) C dX12_turnOut_41 ?_
  refine s_iast (pc := 42) C dX12_turnOut_42 ?_
  refine s_aload_n (pc := 43) C dX12_turnOut_43 rfl ?_
  refine s_getr (pc := 44) (j := 49) (q := (RX12, TX12, 59)) C rfl (by decide) rfl wF_X12_90 dX12_turnOut_44 ?_
  refine s_iload_n (pc := 47) C dX12_turnOut_47 rfl ?_
  refine s_iconst (pc := 48) C dX12_turnOut_48 (by decide) ?_
  refine s_iadd (pc := 49) C dX12_turnOut_49 ?_
  refine s_aload_n (pc := 50) C dX12_turnOut_50 rfl ?_
  refine s_getr (pc := 51) (j := 37) (q := (RX12, TX12, 59)) C rfl (by decide) rfl wF_X12_68 dX12_turnOut_51 ?_
  refine s_iload_n (pc := 54) C dX12_turnOut_54 rfl ?_
  refine s_ia (pc := 55) C dX12_turnOut_55 ?_
  refine s_iast (pc := 56) C dX12_turnOut_56 ?_
  refine s_aload_n (pc := 57) C dX12_turnOut_57 rfl ?_
  refine s_getr (pc := 58) (j := 49) (q := (RX12, TX12, 59)) C rfl (by decide) rfl wF_X12_90 dX12_turnOut_58 ?_
  refine s_iload_n (pc := 61) C dX12_turnOut_61 rfl ?_
  refine s_iconst (pc := 62) C dX12_turnOut_62 (by decide) ?_
  refine s_iadd (pc := 63) C dX12_turnOut_63 ?_
  refine s_aload_n (pc := 64) C dX12_turnOut_64 rfl ?_
  refine s_getr (pc := 65) (j := 38) (q := (RX12, TX12, 59)) C rfl (by decide) rfl wF_X12_71 dX12_turnOut_65 ?_
  refine s_iload_n (pc := 68) C dX12_turnOut_68 rfl ?_
  refine s_ia (pc := 69) C dX12_turnOut_69 ?_
  refine s_iast (pc := 70) C dX12_turnOut_70 ?_
  refine s_aload_n (pc := 71) C dX12_turnOut_71 rfl ?_
  refine s_getr (pc := 72) (j := 49) (q := (RX12, TX12, 59)) C rfl (by decide) rfl wF_X12_90 dX12_turnOut_72 ?_
  refine s_iload_n (pc := 75) C dX12_turnOut_75 rfl ?_
  refine s_iconst (pc := 76) C dX12_turnOut_76 (by decide) ?_
  refine s_iadd (pc := 77) C dX12_turnOut_77 ?_
  refine s_aload_n (pc := 78) C dX12_turnOut_78 rfl ?_
  refine s_getr (pc := 79) (j := 40) (q := (RX12, TX12, 59)) C rfl (by decide) rfl wF_X12_77 dX12_turnOut_79 ?_
  refine s_iload_n (pc := 82) C dX12_turnOut_82 rfl ?_
  refine s_ba (pc := 83) C dX12_turnOut_83 ?_
  refine s_ifeq (pc := 84) 91 C dX12_turnOut_84 (by decide) (hrc 91) ?_
  refine s_iconst (pc := 87) C dX12_turnOut_87 (by decide) ?_
  exact s_goto (pc := 88) 92 C dX12_turnOut_88 (by decide) (hrc 92)
set_option maxRecDepth 100000 in
theorem kX12_turnOut_91 (C : ox_C p s m args c g 3 cX12_turnOut RX12) (hr : meth.sig.returnType = none) (hlk : meth.locks = false) (hnm : meth.name = "turnOut") (hR : R.frames = dp ∧ R.locals = 60 * dp) (hrc : ∀ b, ox_S p l e R s m args below meth c g 3 c0 t0 (ox_QM g below args s c0 t0) b (rc b)) : ox_S p l e R s m args below meth c g 3 c0 t0 (ox_QM g below args s c0 t0) 91 (bX12_turnOut_91 rc) := by
  refine s_iconst (pc := 91) C dX12_turnOut_91 (by decide) ?_
  exact hrc 92
set_option maxRecDepth 100000 in
theorem kX12_turnOut_92 (C : ox_C p s m args c g 3 cX12_turnOut RX12) (hr : meth.sig.returnType = none) (hlk : meth.locks = false) (hnm : meth.name = "turnOut") (hR : R.frames = dp ∧ R.locals = 60 * dp) (hrc : ∀ b, ox_S p l e R s m args below meth c g 3 c0 t0 (ox_QM g below args s c0 t0) b (rc b)) : ox_S p l e R s m args below meth c g 3 c0 t0 (ox_QM g below args s c0 t0) 92 (bX12_turnOut_92 rc) := by
  refine s_iast (pc := 92) C dX12_turnOut_92 ?_
  refine s_aload_n (pc := 93) C dX12_turnOut_93 rfl ?_
  refine s_getr (pc := 94) (j := 49) (q := (RX12, TX12, 59)) C rfl (by decide) rfl wF_X12_90 dX12_turnOut_94 ?_
  refine s_iload_n (pc := 97) C dX12_turnOut_97 rfl ?_
  refine s_iconst (pc := 98) C dX12_turnOut_98 (by decide) ?_
  refine s_iadd (pc := 99) C dX12_turnOut_99 ?_
  refine s_aload_n (pc := 100) C dX12_turnOut_100 rfl ?_
  refine s_geti (pc := 101) (j := 45) (q := (RX12, TX12, 59)) C rfl (by decide) rfl wF_X12_278 dX12_turnOut_101 ?_
  refine s_iast (pc := 104) C dX12_turnOut_104 ?_
  refine s_aload_n (pc := 105) C dX12_turnOut_105 rfl ?_
  refine s_dup (pc := 106) C dX12_turnOut_106 ?_
  refine s_geti (pc := 107) (j := 48) (q := (RX12, TX12, 59)) C rfl (by decide) rfl wF_X12_291 dX12_turnOut_107 ?_
  refine s_iconst (pc := 110) C dX12_turnOut_110 (by decide) ?_
  refine s_iadd (pc := 111) C dX12_turnOut_111 ?_
  refine s_puti (pc := 112) (j := 48) (q := (RX12, TX12, 59)) C rfl (by decide) rfl (Or.inl rfl) wF_X12_291 dX12_turnOut_112 ?_
  exact hrc 115
set_option maxRecDepth 100000 in
theorem kX12_turnOut_115 (C : ox_C p s m args c g 3 cX12_turnOut RX12) (hr : meth.sig.returnType = none) (hlk : meth.locks = false) (hnm : meth.name = "turnOut") (hR : R.frames = dp ∧ R.locals = 60 * dp) (hrc : ∀ b, ox_S p l e R s m args below meth c g 3 c0 t0 (ox_QM g below args s c0 t0) b (rc b)) : ox_S p l e R s m args below meth c g 3 c0 t0 (ox_QM g below args s c0 t0) 115 (bX12_turnOut_115 rc) := by
  refine s_aload_n (pc := 115) C dX12_turnOut_115 rfl ?_
  refine s_getr (pc := 116) (j := 51) (q := (RX12, TX12, 59)) C rfl (by decide) rfl wF_X12_96 dX12_turnOut_116 ?_
  refine s_aload_n (pc := 119) C dX12_turnOut_119 rfl ?_
  refine s_geti (pc := 120) (j := 47) (q := (RX12, TX12, 59)) C rfl (by decide) rfl wF_X12_283 dX12_turnOut_120 ?_
  refine s_iconst (pc := 123) C dX12_turnOut_123 (by decide) ?_
  refine s_irem (pc := 124) C dX12_turnOut_124 ?_
  refine s_aload_n (pc := 125) C dX12_turnOut_125 rfl ?_
  refine s_getr (pc := 126) (j := 35) (q := (RX12, TX12, 59)) C rfl (by decide) rfl wF_X12_62 dX12_turnOut_126 ?_
  refine s_iload_n (pc := 129) C dX12_turnOut_129 rfl ?_
  refine s_ia (pc := 130) C dX12_turnOut_130 ?_
  refine s_iast (pc := 131) C dX12_turnOut_131 ?_
  refine s_aload_n (pc := 132) C dX12_turnOut_132 rfl ?_
  refine s_dup (pc := 133) C dX12_turnOut_133 ?_
  refine s_geti (pc := 134) (j := 47) (q := (RX12, TX12, 59)) C rfl (by decide) rfl wF_X12_283 dX12_turnOut_134 ?_
  refine s_iconst (pc := 137) C dX12_turnOut_137 (by decide) ?_
  refine s_iadd (pc := 138) C dX12_turnOut_138 ?_
  refine s_puti (pc := 139) (j := 47) (q := (RX12, TX12, 59)) C rfl (by decide) rfl (Or.inl rfl) wF_X12_283 dX12_turnOut_139 ?_
  refine s_aload_n (pc := 142) C dX12_turnOut_142 rfl ?_
  refine s_dup (pc := 143) C dX12_turnOut_143 ?_
  refine s_geti (pc := 144) (j := 52) (q := (RX12, TX12, 59)) C rfl (by decide) rfl wF_X12_294 dX12_turnOut_144 ?_
  refine s_aload_n (pc := 147) C dX12_turnOut_147 rfl ?_
  refine s_getr (pc := 148) (j := 35) (q := (RX12, TX12, 59)) C rfl (by decide) rfl wF_X12_62 dX12_turnOut_148 ?_
  refine s_iload_n (pc := 151) C dX12_turnOut_151 rfl ?_
  refine s_ia (pc := 152) C dX12_turnOut_152 ?_
  refine s_iadd (pc := 153) C dX12_turnOut_153 ?_
  refine s_puti (pc := 154) (j := 52) (q := (RX12, TX12, 59)) C rfl (by decide) rfl (Or.inl rfl) wF_X12_294 dX12_turnOut_154 ?_
  refine s_aload_n (pc := 157) C dX12_turnOut_157 rfl ?_
  refine s_dup (pc := 158) C dX12_turnOut_158 ?_
  refine s_geti (pc := 159) (j := 53) (q := (RX12, TX12, 59)) C rfl (by decide) rfl wF_X12_297 dX12_turnOut_159 ?_
  refine s_aload_n (pc := 162) C dX12_turnOut_162 rfl ?_
  refine s_getr (pc := 163) (j := 35) (q := (RX12, TX12, 59)) C rfl (by decide) rfl wF_X12_62 dX12_turnOut_163 ?_
  refine s_iload_n (pc := 166) C dX12_turnOut_166 rfl ?_
  refine s_ia (pc := 167) C dX12_turnOut_167 ?_
  refine s_aload_n (pc := 168) C dX12_turnOut_168 rfl ?_
  refine s_getr (pc := 169) (j := 43) (q := (RX12, TX12, 59)) C rfl (by decide) rfl wF_X12_87 dX12_turnOut_169 ?_
  refine s_iconst (pc := 172) C dX12_turnOut_172 (by decide) ?_
  refine s_ia (pc := 173) C dX12_turnOut_173 ?_
  refine s_icmple (pc := 174) 193 C dX12_turnOut_174 (by decide) (hrc 193) ?_
  refine s_aload_n (pc := 177) C dX12_turnOut_177 rfl ?_
  refine s_getr (pc := 178) (j := 35) (q := (RX12, TX12, 59)) C rfl (by decide) rfl wF_X12_62 dX12_turnOut_178 ?_
  refine s_iload_n (pc := 181) C dX12_turnOut_181 rfl ?_
  refine s_ia (pc := 182) C dX12_turnOut_182 ?_
  refine s_aload_n (pc := 183) C dX12_turnOut_183 rfl ?_
  refine s_getr (pc := 184) (j := 43) (q := (RX12, TX12, 59)) C rfl (by decide) rfl wF_X12_87 dX12_turnOut_184 ?_
  refine s_iconst (pc := 187) C dX12_turnOut_187 (by decide) ?_
  refine s_ia (pc := 188) C dX12_turnOut_188 ?_
  refine s_isub (pc := 189) C dX12_turnOut_189 ?_
  exact s_goto (pc := 190) 194 C dX12_turnOut_190 (by decide) (hrc 194)
set_option maxRecDepth 100000 in
theorem kX12_turnOut_193 (C : ox_C p s m args c g 3 cX12_turnOut RX12) (hr : meth.sig.returnType = none) (hlk : meth.locks = false) (hnm : meth.name = "turnOut") (hR : R.frames = dp ∧ R.locals = 60 * dp) (hrc : ∀ b, ox_S p l e R s m args below meth c g 3 c0 t0 (ox_QM g below args s c0 t0) b (rc b)) : ox_S p l e R s m args below meth c g 3 c0 t0 (ox_QM g below args s c0 t0) 193 (bX12_turnOut_193 rc) := by
  refine s_iconst (pc := 193) C dX12_turnOut_193 (by decide) ?_
  exact hrc 194
set_option maxRecDepth 100000 in
theorem kX12_turnOut_194 (C : ox_C p s m args c g 3 cX12_turnOut RX12) (hr : meth.sig.returnType = none) (hlk : meth.locks = false) (hnm : meth.name = "turnOut") (hR : R.frames = dp ∧ R.locals = 60 * dp) (hrc : ∀ b, ox_S p l e R s m args below meth c g 3 c0 t0 (ox_QM g below args s c0 t0) b (rc b)) : ox_S p l e R s m args below meth c g 3 c0 t0 (ox_QM g below args s c0 t0) 194 (bX12_turnOut_194 rc) := by
  refine s_iadd (pc := 194) C dX12_turnOut_194 ?_
  refine s_puti (pc := 195) (j := 53) (q := (RX12, TX12, 59)) C rfl (by decide) rfl (Or.inl rfl) wF_X12_297 dX12_turnOut_195 ?_
  exact s_ret (pc := 198) C hr hlk dX12_turnOut_198
end SX12_turnOut
def bsX12_turnOut (b : Nat) (rc : Nat → ox_K) : ox_K := if b = 0 then bX12_turnOut_0 rc else if b = 91 then bX12_turnOut_91 rc else if b = 92 then bX12_turnOut_92 rc else if b = 115 then bX12_turnOut_115 rc else if b = 193 then bX12_turnOut_193 rc else if b = 194 then bX12_turnOut_194 rc else ox_no
theorem mX12_turnOut {dp  : Nat} {f : ox_F} (hf : ∀ as h r, f as h = some r → ox_cs as ≤ 3 ∧ ox_le h r.2 ∧ ∃ n, ox_run (bsX12_turnOut) n 0 (lv_args 0 as) [] h = some r) : ox_Sem yX12_turnOut cX12_turnOut 3 none dp f := by
  refine ox_meth (bs := bsX12_turnOut) (by decide) hf ?_
  intro p l e R s m args below meth c g c0 t0 C hr hlk hnm hR rc hrc b
  unfold bsX12_turnOut
  refine ox_br (kX12_turnOut_0 C hr hlk hnm hR hrc) ?_
  refine ox_br (kX12_turnOut_91 C hr hlk hnm hR hrc) ?_
  refine ox_br (kX12_turnOut_92 C hr hlk hnm hR hrc) ?_
  refine ox_br (kX12_turnOut_115 C hr hlk hnm hR hrc) ?_
  refine ox_br (kX12_turnOut_193 C hr hlk hnm hR hrc) ?_
  refine ox_br (kX12_turnOut_194 C hr hlk hnm hR hrc) ?_
  exact s_no
theorem dX12_correct_0 : decode cX12_correct 0 = .ok (.aload_n 0, 1) := by decide +kernel
theorem dX12_correct_1 : decode cX12_correct 1 = .ok (.iconst 0, 1) := by decide +kernel
theorem dX12_correct_2 : decode cX12_correct 2 = .ok (.putfield 108, 3) := by decide +kernel
theorem dX12_correct_5 : decode cX12_correct 5 = .ok (.aload_n 0, 1) := by decide +kernel
theorem dX12_correct_6 : decode cX12_correct 6 = .ok (.getfield 283, 3) := by decide +kernel
theorem dX12_correct_9 : decode cX12_correct 9 = .ok (.ifCond .ne 6, 3) := by decide +kernel
theorem dX12_correct_12 : decode cX12_correct 12 = .ok (.ldc 243, 2) := by decide +kernel
theorem dX12_correct_14 : decode cX12_correct 14 = .ok (.ireturn, 1) := by decide +kernel
theorem dX12_correct_15 : decode cX12_correct 15 = .ok (.aload_n 0, 1) := by decide +kernel
theorem dX12_correct_16 : decode cX12_correct 16 = .ok (.getfield 283, 3) := by decide +kernel
theorem dX12_correct_19 : decode cX12_correct 19 = .ok (.iconst 4, 1) := by decide +kernel
theorem dX12_correct_20 : decode cX12_correct 20 = .ok (.if_icmp .ge 10, 3) := by decide +kernel
theorem dX12_correct_23 : decode cX12_correct 23 = .ok (.aload_n 0, 1) := by decide +kernel
theorem dX12_correct_24 : decode cX12_correct 24 = .ok (.getfield 283, 3) := by decide +kernel
theorem dX12_correct_27 : decode cX12_correct 27 = .ok (.goto 4, 3) := by decide +kernel
theorem dX12_correct_30 : decode cX12_correct 30 = .ok (.iconst 4, 1) := by decide +kernel
theorem dX12_correct_31 : decode cX12_correct 31 = .ok (.istore_n 1, 1) := by decide +kernel
theorem dX12_correct_32 : decode cX12_correct 32 = .ok (.iconst 0, 1) := by decide +kernel
theorem dX12_correct_33 : decode cX12_correct 33 = .ok (.istore_n 2, 1) := by decide +kernel
theorem dX12_correct_34 : decode cX12_correct 34 = .ok (.iconst 0, 1) := by decide +kernel
theorem dX12_correct_35 : decode cX12_correct 35 = .ok (.istore_n 3, 1) := by decide +kernel
theorem dX12_correct_36 : decode cX12_correct 36 = .ok (.iload_n 3, 1) := by decide +kernel
theorem dX12_correct_37 : decode cX12_correct 37 = .ok (.iload_n 1, 1) := by decide +kernel
theorem dX12_correct_38 : decode cX12_correct 38 = .ok (.if_icmp .ge 18, 3) := by decide +kernel
theorem dX12_correct_41 : decode cX12_correct 41 = .ok (.iload_n 2, 1) := by decide +kernel
theorem dX12_correct_42 : decode cX12_correct 42 = .ok (.aload_n 0, 1) := by decide +kernel
theorem dX12_correct_43 : decode cX12_correct 43 = .ok (.getfield 96, 3) := by decide +kernel
theorem dX12_correct_46 : decode cX12_correct 46 = .ok (.iload_n 3, 1) := by decide +kernel
theorem dX12_correct_47 : decode cX12_correct 47 = .ok (.iaload, 1) := by decide +kernel
theorem dX12_correct_48 : decode cX12_correct 48 = .ok (.iadd, 1) := by decide +kernel
theorem dX12_correct_49 : decode cX12_correct 49 = .ok (.istore_n 2, 1) := by decide +kernel
theorem dX12_correct_50 : decode cX12_correct 50 = .ok (.iinc 3 1, 3) := by decide +kernel
theorem dX12_correct_53 : decode cX12_correct 53 = .ok (.goto (-17), 3) := by decide +kernel
theorem dX12_correct_56 : decode cX12_correct 56 = .ok (.iload_n 2, 1) := by decide +kernel
theorem dX12_correct_57 : decode cX12_correct 57 = .ok (.iload_n 1, 1) := by decide +kernel
theorem dX12_correct_58 : decode cX12_correct 58 = .ok (.idiv, 1) := by decide +kernel
theorem dX12_correct_59 : decode cX12_correct 59 = .ok (.istore_n 3, 1) := by decide +kernel
theorem dX12_correct_60 : decode cX12_correct 60 = .ok (.aload_n 0, 1) := by decide +kernel
theorem dX12_correct_61 : decode cX12_correct 61 = .ok (.getfield 87, 3) := by decide +kernel
theorem dX12_correct_64 : decode cX12_correct 64 = .ok (.bipush 13, 2) := by decide +kernel
theorem dX12_correct_66 : decode cX12_correct 66 = .ok (.dup2, 1) := by decide +kernel
theorem dX12_correct_67 : decode cX12_correct 67 = .ok (.iaload, 1) := by decide +kernel
theorem dX12_correct_68 : decode cX12_correct 68 = .ok (.iload_n 3, 1) := by decide +kernel
theorem dX12_correct_69 : decode cX12_correct 69 = .ok (.aload_n 0, 1) := by decide +kernel
theorem dX12_correct_70 : decode cX12_correct 70 = .ok (.getfield 87, 3) := by decide +kernel
theorem dX12_correct_73 : decode cX12_correct 73 = .ok (.iconst 0, 1) := by decide +kernel
theorem dX12_correct_74 : decode cX12_correct 74 = .ok (.iaload, 1) := by decide +kernel
theorem dX12_correct_75 : decode cX12_correct 75 = .ok (.if_icmp .le 19, 3) := by decide +kernel
theorem dX12_correct_78 : decode cX12_correct 78 = .ok (.aload_n 0, 1) := by decide +kernel
theorem dX12_correct_79 : decode cX12_correct 79 = .ok (.getfield 87, 3) := by decide +kernel
theorem dX12_correct_82 : decode cX12_correct 82 = .ok (.bipush 13, 2) := by decide +kernel
theorem dX12_correct_84 : decode cX12_correct 84 = .ok (.iaload, 1) := by decide +kernel
theorem dX12_correct_85 : decode cX12_correct 85 = .ok (.bipush (-20), 2) := by decide +kernel
theorem dX12_correct_87 : decode cX12_correct 87 = .ok (.if_icmp .le 7, 3) := by decide +kernel
theorem dX12_correct_90 : decode cX12_correct 90 = .ok (.iconst (-1), 1) := by decide +kernel
theorem dX12_correct_91 : decode cX12_correct 91 = .ok (.goto 30, 3) := by decide +kernel
theorem dX12_correct_94 : decode cX12_correct 94 = .ok (.iload_n 3, 1) := by decide +kernel
theorem dX12_correct_95 : decode cX12_correct 95 = .ok (.aload_n 0, 1) := by decide +kernel
theorem dX12_correct_96 : decode cX12_correct 96 = .ok (.getfield 87, 3) := by decide +kernel
theorem dX12_correct_99 : decode cX12_correct 99 = .ok (.iconst 0, 1) := by decide +kernel
theorem dX12_correct_100 : decode cX12_correct 100 = .ok (.iaload, 1) := by decide +kernel
theorem dX12_correct_101 : decode cX12_correct 101 = .ok (.if_icmp .ge 19, 3) := by decide +kernel
theorem dX12_correct_104 : decode cX12_correct 104 = .ok (.aload_n 0, 1) := by decide +kernel
theorem dX12_correct_105 : decode cX12_correct 105 = .ok (.getfield 87, 3) := by decide +kernel
theorem dX12_correct_108 : decode cX12_correct 108 = .ok (.bipush 13, 2) := by decide +kernel
theorem dX12_correct_110 : decode cX12_correct 110 = .ok (.iaload, 1) := by decide +kernel
theorem dX12_correct_111 : decode cX12_correct 111 = .ok (.bipush 20, 2) := by decide +kernel
theorem dX12_correct_113 : decode cX12_correct 113 = .ok (.if_icmp .ge 7, 3) := by decide +kernel
theorem dX12_correct_116 : decode cX12_correct 116 = .ok (.iconst 1, 1) := by decide +kernel
theorem dX12_correct_117 : decode cX12_correct 117 = .ok (.goto 4, 3) := by decide +kernel
theorem dX12_correct_120 : decode cX12_correct 120 = .ok (.iconst 0, 1) := by decide +kernel
theorem dX12_correct_121 : decode cX12_correct 121 = .ok (.iadd, 1) := by decide +kernel
theorem dX12_correct_122 : decode cX12_correct 122 = .ok (.iastore, 1) := by decide +kernel
theorem dX12_correct_123 : decode cX12_correct 123 = .ok (.aload_n 0, 1) := by decide +kernel
theorem dX12_correct_124 : decode cX12_correct 124 = .ok (.getfield 87, 3) := by decide +kernel
theorem dX12_correct_127 : decode cX12_correct 127 = .ok (.bipush 13, 2) := by decide +kernel
theorem dX12_correct_129 : decode cX12_correct 129 = .ok (.iaload, 1) := by decide +kernel
theorem dX12_correct_130 : decode cX12_correct 130 = .ok (.ireturn, 1) := by decide +kernel
def bX12_correct_0 (rc : Nat → ox_K) : ox_K := o_al 0 (o_ic (0) (o_puti 12 0 (o_al 0 (o_geti 12 47 (o_ifne (rc 15) (o_ic (-1000002) (o_iret)))))))
def bX12_correct_15 (rc : Nat → ox_K) : ox_K := o_al 0 (o_geti 12 47 (o_ic (4) (o_icge (rc 30) (o_al 0 (o_geti 12 47 (rc 31))))))
def bX12_correct_30 (rc : Nat → ox_K) : ox_K := o_ic (4) (rc 31)
def bX12_correct_31 (rc : Nat → ox_K) : ox_K := o_is 1 (o_ic (0) (o_is 2 (o_ic (0) (o_is 3 (rc 36)))))
def bX12_correct_36 (rc : Nat → ox_K) : ox_K := o_keep [0, 1, 2, 3] (o_il 3 (o_il 1 (o_icge (rc 56) (o_il 2 (o_al 0 (o_getr 12 51 (o_il 3 (o_ia (o_iadd (o_is 2 (o_inc 3 (1) (rc 36))))))))))))
def bX12_correct_56 (rc : Nat → ox_K) : ox_K := o_il 2 (o_il 1 (o_idiv (o_is 3 (o_al 0 (o_getr 12 43 (o_ic (13) (o_dup2 (o_ia (o_il 3 (o_al 0 (o_getr 12 43 (o_ic (0) (o_ia (o_icle (rc 94) (o_al 0 (o_getr 12 43 (o_ic (13) (o_ia (o_ic (-20) (o_icle (rc 94) (o_ic (-1) (rc 121))))))))))))))))))))))
def bX12_correct_94 (rc : Nat → ox_K) : ox_K := o_il 3 (o_al 0 (o_getr 12 43 (o_ic (0) (o_ia (o_icge (rc 120) (o_al 0 (o_getr 12 43 (o_ic (13) (o_ia (o_ic (20) (o_icge (rc 120) (o_ic (1) (rc 121)))))))))))))
def bX12_correct_120 (rc : Nat → ox_K) : ox_K := o_ic (0) (rc 121)
def bX12_correct_121 (rc : Nat → ox_K) : ox_K := o_iadd (o_iast (o_al 0 (o_getr 12 43 (o_ic (13) (o_ia (o_iret))))))
section SX12_correct
variable {p : Program} {l : Launch} {e : Env} {R : Room} {s : State} {m : MethodId} {args : Array Value} {below : List Frame} {meth : Method} {c : Code} {g : ox_G} {c0 t0 dp  : Nat} {rc : Nat → ox_K}
set_option maxRecDepth 100000 in
theorem kX12_correct_0 (C : ox_C p s m args c g 4 cX12_correct RX12) (hr : meth.sig.returnType = (some .int)) (hlk : meth.locks = false) (hnm : meth.name = "correct") (hR : R.frames = dp ∧ R.locals = 60 * dp) (hrc : ∀ b, ox_S p l e R s m args below meth c g 4 c0 t0 (ox_QM g below args s c0 t0) b (rc b)) : ox_S p l e R s m args below meth c g 4 c0 t0 (ox_QM g below args s c0 t0) 0 (bX12_correct_0 rc) := by
  refine s_aload_n (pc := 0) C dX12_correct_0 rfl ?_
  refine s_iconst (pc := 1) C dX12_correct_1 (by decide) ?_
  refine s_puti (pc := 2) (j := 0) (q := (RX12, TX12, 59)) C rfl (by decide) rfl (Or.inl rfl) wF_X12_108 dX12_correct_2 ?_
  refine s_aload_n (pc := 5) C dX12_correct_5 rfl ?_
  refine s_geti (pc := 6) (j := 47) (q := (RX12, TX12, 59)) C rfl (by decide) rfl wF_X12_283 dX12_correct_6 ?_
  refine s_ifne (pc := 9) 15 C dX12_correct_9 (by decide) (hrc 15) ?_
  refine s_ldc (pc := 12) C wK_X12_243 dX12_correct_12 ?_
  exact s_iret (pc := 14) C hr hlk dX12_correct_14
set_option maxRecDepth 100000 in
theorem kX12_correct_15 (C : ox_C p s m args c g 4 cX12_correct RX12) (hr : meth.sig.returnType = (some .int)) (hlk : meth.locks = false) (hnm : meth.name = "correct") (hR : R.frames = dp ∧ R.locals = 60 * dp) (hrc : ∀ b, ox_S p l e R s m args below meth c g 4 c0 t0 (ox_QM g below args s c0 t0) b (rc b)) : ox_S p l e R s m args below meth c g 4 c0 t0 (ox_QM g below args s c0 t0) 15 (bX12_correct_15 rc) := by
  refine s_aload_n (pc := 15) C dX12_correct_15 rfl ?_
  refine s_geti (pc := 16) (j := 47) (q := (RX12, TX12, 59)) C rfl (by decide) rfl wF_X12_283 dX12_correct_16 ?_
  refine s_iconst (pc := 19) C dX12_correct_19 (by decide) ?_
  refine s_icmpge (pc := 20) 30 C dX12_correct_20 (by decide) (hrc 30) ?_
  refine s_aload_n (pc := 23) C dX12_correct_23 rfl ?_
  refine s_geti (pc := 24) (j := 47) (q := (RX12, TX12, 59)) C rfl (by decide) rfl wF_X12_283 dX12_correct_24 ?_
  exact s_goto (pc := 27) 31 C dX12_correct_27 (by decide) (hrc 31)
set_option maxRecDepth 100000 in
theorem kX12_correct_30 (C : ox_C p s m args c g 4 cX12_correct RX12) (hr : meth.sig.returnType = (some .int)) (hlk : meth.locks = false) (hnm : meth.name = "correct") (hR : R.frames = dp ∧ R.locals = 60 * dp) (hrc : ∀ b, ox_S p l e R s m args below meth c g 4 c0 t0 (ox_QM g below args s c0 t0) b (rc b)) : ox_S p l e R s m args below meth c g 4 c0 t0 (ox_QM g below args s c0 t0) 30 (bX12_correct_30 rc) := by
  refine s_iconst (pc := 30) C dX12_correct_30 (by decide) ?_
  exact hrc 31
set_option maxRecDepth 100000 in
theorem kX12_correct_31 (C : ox_C p s m args c g 4 cX12_correct RX12) (hr : meth.sig.returnType = (some .int)) (hlk : meth.locks = false) (hnm : meth.name = "correct") (hR : R.frames = dp ∧ R.locals = 60 * dp) (hrc : ∀ b, ox_S p l e R s m args below meth c g 4 c0 t0 (ox_QM g below args s c0 t0) b (rc b)) : ox_S p l e R s m args below meth c g 4 c0 t0 (ox_QM g below args s c0 t0) 31 (bX12_correct_31 rc) := by
  refine s_istore_n (pc := 31) C dX12_correct_31 rfl (by decide) ?_
  refine s_iconst (pc := 32) C dX12_correct_32 (by decide) ?_
  refine s_istore_n (pc := 33) C dX12_correct_33 rfl (by decide) ?_
  refine s_iconst (pc := 34) C dX12_correct_34 (by decide) ?_
  refine s_istore_n (pc := 35) C dX12_correct_35 rfl (by decide) ?_
  exact hrc 36
set_option maxRecDepth 100000 in
theorem kX12_correct_36 (C : ox_C p s m args c g 4 cX12_correct RX12) (hr : meth.sig.returnType = (some .int)) (hlk : meth.locks = false) (hnm : meth.name = "correct") (hR : R.frames = dp ∧ R.locals = 60 * dp) (hrc : ∀ b, ox_S p l e R s m args below meth c g 4 c0 t0 (ox_QM g below args s c0 t0) b (rc b)) : ox_S p l e R s m args below meth c g 4 c0 t0 (ox_QM g below args s c0 t0) 36 (bX12_correct_36 rc) := by
  refine s_keep ?_
  refine s_iload_n (pc := 36) C dX12_correct_36 rfl ?_
  refine s_iload_n (pc := 37) C dX12_correct_37 rfl ?_
  refine s_icmpge (pc := 38) 56 C dX12_correct_38 (by decide) (hrc 56) ?_
  refine s_iload_n (pc := 41) C dX12_correct_41 rfl ?_
  refine s_aload_n (pc := 42) C dX12_correct_42 rfl ?_
  refine s_getr (pc := 43) (j := 51) (q := (RX12, TX12, 59)) C rfl (by decide) rfl wF_X12_96 dX12_correct_43 ?_
  refine s_iload_n (pc := 46) C dX12_correct_46 rfl ?_
  refine s_ia (pc := 47) C dX12_correct_47 ?_
  refine s_iadd (pc := 48) C dX12_correct_48 ?_
  refine s_istore_n (pc := 49) C dX12_correct_49 rfl (by decide) ?_
  refine s_iinc (pc := 50) C dX12_correct_50 (by decide) (by decide) ?_
  exact s_goto (pc := 53) 36 C dX12_correct_53 (by decide) (hrc 36)
set_option maxRecDepth 100000 in
theorem kX12_correct_56 (C : ox_C p s m args c g 4 cX12_correct RX12) (hr : meth.sig.returnType = (some .int)) (hlk : meth.locks = false) (hnm : meth.name = "correct") (hR : R.frames = dp ∧ R.locals = 60 * dp) (hrc : ∀ b, ox_S p l e R s m args below meth c g 4 c0 t0 (ox_QM g below args s c0 t0) b (rc b)) : ox_S p l e R s m args below meth c g 4 c0 t0 (ox_QM g below args s c0 t0) 56 (bX12_correct_56 rc) := by
  refine s_iload_n (pc := 56) C dX12_correct_56 rfl ?_
  refine s_iload_n (pc := 57) C dX12_correct_57 rfl ?_
  refine s_idiv (pc := 58) C dX12_correct_58 ?_
  refine s_istore_n (pc := 59) C dX12_correct_59 rfl (by decide) ?_
  refine s_aload_n (pc := 60) C dX12_correct_60 rfl ?_
  refine s_getr (pc := 61) (j := 43) (q := (RX12, TX12, 59)) C rfl (by decide) rfl wF_X12_87 dX12_correct_61 ?_
  refine s_bipush (pc := 64) C dX12_correct_64 (by decide) ?_
  refine s_dup2 (pc := 66) C dX12_correct_66 ?_
  refine s_ia (pc := 67) C dX12_correct_67 ?_
  refine s_iload_n (pc := 68) C dX12_correct_68 rfl ?_
  refine s_aload_n (pc := 69) C dX12_correct_69 rfl ?_
  refine s_getr (pc := 70) (j := 43) (q := (RX12, TX12, 59)) C rfl (by decide) rfl wF_X12_87 dX12_correct_70 ?_
  refine s_iconst (pc := 73) C dX12_correct_73 (by decide) ?_
  refine s_ia (pc := 74) C dX12_correct_74 ?_
  refine s_icmple (pc := 75) 94 C dX12_correct_75 (by decide) (hrc 94) ?_
  refine s_aload_n (pc := 78) C dX12_correct_78 rfl ?_
  refine s_getr (pc := 79) (j := 43) (q := (RX12, TX12, 59)) C rfl (by decide) rfl wF_X12_87 dX12_correct_79 ?_
  refine s_bipush (pc := 82) C dX12_correct_82 (by decide) ?_
  refine s_ia (pc := 84) C dX12_correct_84 ?_
  refine s_bipush (pc := 85) C dX12_correct_85 (by decide) ?_
  refine s_icmple (pc := 87) 94 C dX12_correct_87 (by decide) (hrc 94) ?_
  refine s_iconst (pc := 90) C dX12_correct_90 (by decide) ?_
  exact s_goto (pc := 91) 121 C dX12_correct_91 (by decide) (hrc 121)
set_option maxRecDepth 100000 in
theorem kX12_correct_94 (C : ox_C p s m args c g 4 cX12_correct RX12) (hr : meth.sig.returnType = (some .int)) (hlk : meth.locks = false) (hnm : meth.name = "correct") (hR : R.frames = dp ∧ R.locals = 60 * dp) (hrc : ∀ b, ox_S p l e R s m args below meth c g 4 c0 t0 (ox_QM g below args s c0 t0) b (rc b)) : ox_S p l e R s m args below meth c g 4 c0 t0 (ox_QM g below args s c0 t0) 94 (bX12_correct_94 rc) := by
  refine s_iload_n (pc := 94) C dX12_correct_94 rfl ?_
  refine s_aload_n (pc := 95) C dX12_correct_95 rfl ?_
  refine s_getr (pc := 96) (j := 43) (q := (RX12, TX12, 59)) C rfl (by decide) rfl wF_X12_87 dX12_correct_96 ?_
  refine s_iconst (pc := 99) C dX12_correct_99 (by decide) ?_
  refine s_ia (pc := 100) C dX12_correct_100 ?_
  refine s_icmpge (pc := 101) 120 C dX12_correct_101 (by decide) (hrc 120) ?_
  refine s_aload_n (pc := 104) C dX12_correct_104 rfl ?_
  refine s_getr (pc := 105) (j := 43) (q := (RX12, TX12, 59)) C rfl (by decide) rfl wF_X12_87 dX12_correct_105 ?_
  refine s_bipush (pc := 108) C dX12_correct_108 (by decide) ?_
  refine s_ia (pc := 110) C dX12_correct_110 ?_
  refine s_bipush (pc := 111) C dX12_correct_111 (by decide) ?_
  refine s_icmpge (pc := 113) 120 C dX12_correct_113 (by decide) (hrc 120) ?_
  refine s_iconst (pc := 116) C dX12_correct_116 (by decide) ?_
  exact s_goto (pc := 117) 121 C dX12_correct_117 (by decide) (hrc 121)
set_option maxRecDepth 100000 in
theorem kX12_correct_120 (C : ox_C p s m args c g 4 cX12_correct RX12) (hr : meth.sig.returnType = (some .int)) (hlk : meth.locks = false) (hnm : meth.name = "correct") (hR : R.frames = dp ∧ R.locals = 60 * dp) (hrc : ∀ b, ox_S p l e R s m args below meth c g 4 c0 t0 (ox_QM g below args s c0 t0) b (rc b)) : ox_S p l e R s m args below meth c g 4 c0 t0 (ox_QM g below args s c0 t0) 120 (bX12_correct_120 rc) := by
  refine s_iconst (pc := 120) C dX12_correct_120 (by decide) ?_
  exact hrc 121
set_option maxRecDepth 100000 in
theorem kX12_correct_121 (C : ox_C p s m args c g 4 cX12_correct RX12) (hr : meth.sig.returnType = (some .int)) (hlk : meth.locks = false) (hnm : meth.name = "correct") (hR : R.frames = dp ∧ R.locals = 60 * dp) (hrc : ∀ b, ox_S p l e R s m args below meth c g 4 c0 t0 (ox_QM g below args s c0 t0) b (rc b)) : ox_S p l e R s m args below meth c g 4 c0 t0 (ox_QM g below args s c0 t0) 121 (bX12_correct_121 rc) := by
  refine s_iadd (pc := 121) C dX12_correct_121 ?_
  refine s_iast (pc := 122) C dX12_correct_122 ?_
  refine s_aload_n (pc := 123) C dX12_correct_123 rfl ?_
  refine s_getr (pc := 124) (j := 43) (q := (RX12, TX12, 59)) C rfl (by decide) rfl wF_X12_87 dX12_correct_124 ?_
  refine s_bipush (pc := 127) C dX12_correct_127 (by decide) ?_
  refine s_ia (pc := 129) C dX12_correct_129 ?_
  exact s_iret (pc := 130) C hr hlk dX12_correct_130
end SX12_correct
def bsX12_correct (b : Nat) (rc : Nat → ox_K) : ox_K := if b = 0 then bX12_correct_0 rc else if b = 15 then bX12_correct_15 rc else if b = 30 then bX12_correct_30 rc else if b = 31 then bX12_correct_31 rc else if b = 36 then bX12_correct_36 rc else if b = 56 then bX12_correct_56 rc else if b = 94 then bX12_correct_94 rc else if b = 120 then bX12_correct_120 rc else if b = 121 then bX12_correct_121 rc else ox_no
theorem mX12_correct {dp  : Nat} {f : ox_F} (hf : ∀ as h r, f as h = some r → ox_cs as ≤ 4 ∧ ox_le h r.2 ∧ ∃ n, ox_run (bsX12_correct) n 0 (lv_args 0 as) [] h = some r) : ox_Sem yX12_correct cX12_correct 4 (some .int) dp f := by
  refine ox_meth (bs := bsX12_correct) (by decide) hf ?_
  intro p l e R s m args below meth c g c0 t0 C hr hlk hnm hR rc hrc b
  unfold bsX12_correct
  refine ox_br (kX12_correct_0 C hr hlk hnm hR hrc) ?_
  refine ox_br (kX12_correct_15 C hr hlk hnm hR hrc) ?_
  refine ox_br (kX12_correct_30 C hr hlk hnm hR hrc) ?_
  refine ox_br (kX12_correct_31 C hr hlk hnm hR hrc) ?_
  refine ox_br (kX12_correct_36 C hr hlk hnm hR hrc) ?_
  refine ox_br (kX12_correct_56 C hr hlk hnm hR hrc) ?_
  refine ox_br (kX12_correct_94 C hr hlk hnm hR hrc) ?_
  refine ox_br (kX12_correct_120 C hr hlk hnm hR hrc) ?_
  refine ox_br (kX12_correct_121 C hr hlk hnm hR hrc) ?_
  exact s_no
theorem dX12_isBar_0 : decode cX12_isBar 0 = .ok (.iload_n 1, 1) := by decide +kernel
theorem dX12_isBar_1 : decode cX12_isBar 1 = .ok (.i2l, 1) := by decide +kernel
theorem dX12_isBar_2 : decode cX12_isBar 2 = .ok (.lconst 0, 1) := by decide +kernel
theorem dX12_isBar_3 : decode cX12_isBar 3 = .ok (.aload_n 0, 1) := by decide +kernel
theorem dX12_isBar_4 : decode cX12_isBar 4 = .ok (.getfield 291, 3) := by decide +kernel
theorem dX12_isBar_7 : decode cX12_isBar 7 = .ok (.iconst 1, 1) := by decide +kernel
theorem dX12_isBar_8 : decode cX12_isBar 8 = .ok (.isub, 1) := by decide +kernel
theorem dX12_isBar_9 : decode cX12_isBar 9 = .ok (.i2l, 1) := by decide +kernel
theorem dX12_isBar_10 : decode cX12_isBar 10 = .ok (.invokestatic 117, 3) := by decide +kernel
theorem dX12_isBar_13 : decode cX12_isBar 13 = .ok (.ireturn, 1) := by decide +kernel
def bX12_isBar_0 (f1 : ox_F) (rc : Nat → ox_K) : ox_K := o_il 1 (o_i2l (o_lc (0) (o_al 0 (o_geti 12 48 (o_ic (1) (o_isub (o_i2l (o_ct f1 3 (o_zret)))))))))
section SX12_isBar
variable {p : Program} {l : Launch} {e : Env} {R : Room} {s : State} {m : MethodId} {args : Array Value} {below : List Frame} {meth : Method} {c : Code} {g : ox_G} {c0 t0 dp d1 : Nat} {rc : Nat → ox_K} {f1 : ox_F}
set_option maxRecDepth 100000 in
theorem kX12_isBar_0 (C : ox_C p s m args c g 2 cX12_isBar RX12) (hr : meth.sig.returnType = (some .boolean)) (hlk : meth.locks = false) (hnm : meth.name = "isBar") (hR : R.frames = dp ∧ R.locals = 60 * dp) (h1 : ox_Sem yX12_in cX12_in 6 (some .boolean) d1 f1) (e1 : d1 + 1 ≤ dp) (hrc : ∀ b, ox_S p l e R s m args below meth c g 2 c0 t0 (ox_QM g below args s c0 t0) b (rc b)) : ox_S p l e R s m args below meth c g 2 c0 t0 (ox_QM g below args s c0 t0) 0 (bX12_isBar_0 f1 rc) := by
  refine s_iload_n (pc := 0) C dX12_isBar_0 rfl ?_
  refine s_i2l (pc := 1) C dX12_isBar_1 ?_
  refine s_lconst (pc := 2) C dX12_isBar_2 (by decide) ?_
  refine s_aload_n (pc := 3) C dX12_isBar_3 rfl ?_
  refine s_geti (pc := 4) (j := 48) (q := (RX12, TX12, 59)) C rfl (by decide) rfl wF_X12_291 dX12_isBar_4 ?_
  refine s_iconst (pc := 7) C dX12_isBar_7 (by decide) ?_
  refine s_isub (pc := 8) C dX12_isBar_8 ?_
  refine s_i2l (pc := 9) C dX12_isBar_9 ?_
  refine s_ct (pc := 10) C h1 wM_X12_117 wT_X12_in wN_X12 wC_X12_in (by decide +kernel) (ox_lv hR e1 (by decide)) dX12_isBar_10 ?_
  exact s_zret (pc := 13) C hr (by decide) hlk dX12_isBar_13
end SX12_isBar
def bsX12_isBar (f1 : ox_F) (b : Nat) (rc : Nat → ox_K) : ox_K := if b = 0 then bX12_isBar_0 f1 rc else ox_no
theorem mX12_isBar {dp d1 : Nat} {f1 f : ox_F} (h1 : ox_Sem yX12_in cX12_in 6 (some .boolean) d1 f1) (e1 : d1 + 1 ≤ dp) (hf : ∀ as h r, f as h = some r → ox_cs as ≤ 2 ∧ ox_le h r.2 ∧ ∃ n, ox_run (bsX12_isBar f1) n 0 (lv_args 0 as) [] h = some r) : ox_Sem yX12_isBar cX12_isBar 2 (some .boolean) dp f := by
  refine ox_meth (bs := bsX12_isBar f1) (by decide) hf ?_
  intro p l e R s m args below meth c g c0 t0 C hr hlk hnm hR rc hrc b
  unfold bsX12_isBar
  refine ox_br (kX12_isBar_0 C hr hlk hnm hR h1 e1 hrc) ?_
  exact s_no
theorem dX12_of_0 : decode cX12_of 0 = .ok (.aload_n 0, 1) := by decide +kernel
theorem dX12_of_1 : decode cX12_of 1 = .ok (.getfield 90, 3) := by decide +kernel
theorem dX12_of_4 : decode cX12_of 4 = .ok (.bipush 6, 2) := by decide +kernel
theorem dX12_of_6 : decode cX12_of 6 = .ok (.iload_n 1, 1) := by decide +kernel
theorem dX12_of_7 : decode cX12_of 7 = .ok (.imul, 1) := by decide +kernel
theorem dX12_of_8 : decode cX12_of 8 = .ok (.iload_n 2, 1) := by decide +kernel
theorem dX12_of_9 : decode cX12_of 9 = .ok (.iadd, 1) := by decide +kernel
theorem dX12_of_10 : decode cX12_of 10 = .ok (.iaload, 1) := by decide +kernel
theorem dX12_of_11 : decode cX12_of 11 = .ok (.ireturn, 1) := by decide +kernel
def bX12_of_0 (rc : Nat → ox_K) : ox_K := o_al 0 (o_getr 12 49 (o_ic (6) (o_il 1 (o_imul (o_il 2 (o_iadd (o_ia (o_iret))))))))
section SX12_of
variable {p : Program} {l : Launch} {e : Env} {R : Room} {s : State} {m : MethodId} {args : Array Value} {below : List Frame} {meth : Method} {c : Code} {g : ox_G} {c0 t0 dp  : Nat} {rc : Nat → ox_K}
set_option maxRecDepth 100000 in
theorem kX12_of_0 (C : ox_C p s m args c g 3 cX12_of RX12) (hr : meth.sig.returnType = (some .int)) (hlk : meth.locks = false) (hnm : meth.name = "of") (hR : R.frames = dp ∧ R.locals = 60 * dp) (hrc : ∀ b, ox_S p l e R s m args below meth c g 3 c0 t0 (ox_QM g below args s c0 t0) b (rc b)) : ox_S p l e R s m args below meth c g 3 c0 t0 (ox_QM g below args s c0 t0) 0 (bX12_of_0 rc) := by
  refine s_aload_n (pc := 0) C dX12_of_0 rfl ?_
  refine s_getr (pc := 1) (j := 49) (q := (RX12, TX12, 59)) C rfl (by decide) rfl wF_X12_90 dX12_of_1 ?_
  refine s_bipush (pc := 4) C dX12_of_4 (by decide) ?_
  refine s_iload_n (pc := 6) C dX12_of_6 rfl ?_
  refine s_imul (pc := 7) C dX12_of_7 ?_
  refine s_iload_n (pc := 8) C dX12_of_8 rfl ?_
  refine s_iadd (pc := 9) C dX12_of_9 ?_
  refine s_ia (pc := 10) C dX12_of_10 ?_
  exact s_iret (pc := 11) C hr hlk dX12_of_11
end SX12_of
def bsX12_of (b : Nat) (rc : Nat → ox_K) : ox_K := if b = 0 then bX12_of_0 rc else ox_no
theorem mX12_of {dp  : Nat} {f : ox_F} (hf : ∀ as h r, f as h = some r → ox_cs as ≤ 3 ∧ ox_le h r.2 ∧ ∃ n, ox_run (bsX12_of) n 0 (lv_args 0 as) [] h = some r) : ox_Sem yX12_of cX12_of 3 (some .int) dp f := by
  refine ox_meth (bs := bsX12_of) (by decide) hf ?_
  intro p l e R s m args below meth c g c0 t0 C hr hlk hnm hR rc hrc b
  unfold bsX12_of
  refine ox_br (kX12_of_0 C hr hlk hnm hR hrc) ?_
  exact s_no
theorem dX12_bar_0 : decode cX12_bar 0 = .ok (.aload_n 0, 1) := by decide +kernel
theorem dX12_bar_1 : decode cX12_bar 1 = .ok (.iconst 0, 1) := by decide +kernel
theorem dX12_bar_2 : decode cX12_bar 2 = .ok (.putfield 108, 3) := by decide +kernel
theorem dX12_bar_5 : decode cX12_bar 5 = .ok (.aload_n 0, 1) := by decide +kernel
theorem dX12_bar_6 : decode cX12_bar 6 = .ok (.iload_n 1, 1) := by decide +kernel
theorem dX12_bar_7 : decode cX12_bar 7 = .ok (.invokevirtual 300, 3) := by decide +kernel
theorem dX12_bar_10 : decode cX12_bar 10 = .ok (.ifCond .eq 15, 3) := by decide +kernel
theorem dX12_bar_13 : decode cX12_bar 13 = .ok (.iload_n 2, 1) := by decide +kernel
theorem dX12_bar_14 : decode cX12_bar 14 = .ok (.i2l, 1) := by decide +kernel
theorem dX12_bar_15 : decode cX12_bar 15 = .ok (.lconst 0, 1) := by decide +kernel
theorem dX12_bar_16 : decode cX12_bar 16 = .ok (.ldc2_w 250, 3) := by decide +kernel
theorem dX12_bar_19 : decode cX12_bar 19 = .ok (.invokestatic 117, 3) := by decide +kernel
theorem dX12_bar_22 : decode cX12_bar 22 = .ok (.ifCond .ne 8, 3) := by decide +kernel
theorem dX12_bar_25 : decode cX12_bar 25 = .ok (.ldc 127, 2) := by decide +kernel
theorem dX12_bar_27 : decode cX12_bar 27 = .ok (.goto 32, 3) := by decide +kernel
theorem dX12_bar_30 : decode cX12_bar 30 = .ok (.iload_n 2, 1) := by decide +kernel
theorem dX12_bar_31 : decode cX12_bar 31 = .ok (.bipush 6, 2) := by decide +kernel
theorem dX12_bar_33 : decode cX12_bar 33 = .ok (.if_icmp .ne 20, 3) := by decide +kernel
theorem dX12_bar_36 : decode cX12_bar 36 = .ok (.aload_n 0, 1) := by decide +kernel
theorem dX12_bar_37 : decode cX12_bar 37 = .ok (.getfield 93, 3) := by decide +kernel
theorem dX12_bar_40 : decode cX12_bar 40 = .ok (.iload_n 1, 1) := by decide +kernel
theorem dX12_bar_41 : decode cX12_bar 41 = .ok (.baload, 1) := by decide +kernel
theorem dX12_bar_42 : decode cX12_bar 42 = .ok (.ifCond .eq 7, 3) := by decide +kernel
theorem dX12_bar_45 : decode cX12_bar 45 = .ok (.iconst 1, 1) := by decide +kernel
theorem dX12_bar_46 : decode cX12_bar 46 = .ok (.goto 13, 3) := by decide +kernel
theorem dX12_bar_49 : decode cX12_bar 49 = .ok (.iconst 0, 1) := by decide +kernel
theorem dX12_bar_50 : decode cX12_bar 50 = .ok (.goto 9, 3) := by decide +kernel
theorem dX12_bar_53 : decode cX12_bar 53 = .ok (.aload_n 0, 1) := by decide +kernel
theorem dX12_bar_54 : decode cX12_bar 54 = .ok (.iload_n 1, 1) := by decide +kernel
theorem dX12_bar_55 : decode cX12_bar 55 = .ok (.iload_n 2, 1) := by decide +kernel
theorem dX12_bar_56 : decode cX12_bar 56 = .ok (.invokevirtual 303, 3) := by decide +kernel
theorem dX12_bar_59 : decode cX12_bar 59 = .ok (.ireturn, 1) := by decide +kernel
def bX12_bar_0 (f1 f2 f3 : ox_F) (rc : Nat → ox_K) : ox_K := o_al 0 (o_ic (0) (o_puti 12 0 (o_al 0 (o_il 1 (o_cv f1 12 1 (o_ifeq (rc 25) (o_il 2 (o_i2l (o_lc (0) (o_lc (6) (o_ct f2 3 (o_ifne (rc 30) (rc 25)))))))))))))
def bX12_bar_25 (f1 f2 f3 : ox_F) (rc : Nat → ox_K) : ox_K := o_ic (-1000001) (rc 59)
def bX12_bar_30 (f1 f2 f3 : ox_F) (rc : Nat → ox_K) : ox_K := o_il 2 (o_ic (6) (o_icne (rc 53) (o_al 0 (o_getr 12 50 (o_il 1 (o_ba (o_ifeq (rc 49) (o_ic (1) (rc 59)))))))))
def bX12_bar_49 (f1 f2 f3 : ox_F) (rc : Nat → ox_K) : ox_K := o_ic (0) (rc 59)
def bX12_bar_53 (f1 f2 f3 : ox_F) (rc : Nat → ox_K) : ox_K := o_al 0 (o_il 1 (o_il 2 (o_cv f3 12 2 (rc 59))))
def bX12_bar_59 (f1 f2 f3 : ox_F) (rc : Nat → ox_K) : ox_K := o_iret
section SX12_bar
variable {p : Program} {l : Launch} {e : Env} {R : Room} {s : State} {m : MethodId} {args : Array Value} {below : List Frame} {meth : Method} {c : Code} {g : ox_G} {c0 t0 dp d1 d2 d3 : Nat} {rc : Nat → ox_K} {f1 f2 f3 : ox_F}
set_option maxRecDepth 100000 in
theorem kX12_bar_0 (C : ox_C p s m args c g 3 cX12_bar RX12) (hr : meth.sig.returnType = (some .int)) (hlk : meth.locks = false) (hnm : meth.name = "bar") (hR : R.frames = dp ∧ R.locals = 60 * dp) (h1 : ox_Sem yX12_isBar cX12_isBar 2 (some .boolean) d1 f1) (e1 : d1 + 1 ≤ dp) (h2 : ox_Sem yX12_in cX12_in 6 (some .boolean) d2 f2) (e2 : d2 + 1 ≤ dp) (h3 : ox_Sem yX12_of cX12_of 3 (some .int) d3 f3) (e3 : d3 + 1 ≤ dp) (hrc : ∀ b, ox_S p l e R s m args below meth c g 3 c0 t0 (ox_QM g below args s c0 t0) b (rc b)) : ox_S p l e R s m args below meth c g 3 c0 t0 (ox_QM g below args s c0 t0) 0 (bX12_bar_0 f1 f2 f3 rc) := by
  refine s_aload_n (pc := 0) C dX12_bar_0 rfl ?_
  refine s_iconst (pc := 1) C dX12_bar_1 (by decide) ?_
  refine s_puti (pc := 2) (j := 0) (q := (RX12, TX12, 59)) C rfl (by decide) rfl (Or.inl rfl) wF_X12_108 dX12_bar_2 ?_
  refine s_aload_n (pc := 5) C dX12_bar_5 rfl ?_
  refine s_iload_n (pc := 6) C dX12_bar_6 rfl ?_
  refine s_cv (pc := 7) (q := (RX12, TX12, 59)) C h1 rfl wM_X12_300 wI_X12_isBar wS_X12_isBar wN_X12 wC_X12_isBar (by decide +kernel) (ox_lv hR e1 (by decide)) dX12_bar_7 ?_
  refine s_ifeq (pc := 10) 25 C dX12_bar_10 (by decide) (hrc 25) ?_
  refine s_iload_n (pc := 13) C dX12_bar_13 rfl ?_
  refine s_i2l (pc := 14) C dX12_bar_14 ?_
  refine s_lconst (pc := 15) C dX12_bar_15 (by decide) ?_
  refine s_ldc2 (pc := 16) C wL_X12_250 dX12_bar_16 ?_
  refine s_ct (pc := 19) C h2 wM_X12_117 wT_X12_in wN_X12 wC_X12_in (by decide +kernel) (ox_lv hR e2 (by decide)) dX12_bar_19 ?_
  refine s_ifne (pc := 22) 30 C dX12_bar_22 (by decide) (hrc 30) ?_
  exact hrc 25
set_option maxRecDepth 100000 in
theorem kX12_bar_25 (C : ox_C p s m args c g 3 cX12_bar RX12) (hr : meth.sig.returnType = (some .int)) (hlk : meth.locks = false) (hnm : meth.name = "bar") (hR : R.frames = dp ∧ R.locals = 60 * dp) (h1 : ox_Sem yX12_isBar cX12_isBar 2 (some .boolean) d1 f1) (e1 : d1 + 1 ≤ dp) (h2 : ox_Sem yX12_in cX12_in 6 (some .boolean) d2 f2) (e2 : d2 + 1 ≤ dp) (h3 : ox_Sem yX12_of cX12_of 3 (some .int) d3 f3) (e3 : d3 + 1 ≤ dp) (hrc : ∀ b, ox_S p l e R s m args below meth c g 3 c0 t0 (ox_QM g below args s c0 t0) b (rc b)) : ox_S p l e R s m args below meth c g 3 c0 t0 (ox_QM g below args s c0 t0) 25 (bX12_bar_25 f1 f2 f3 rc) := by
  refine s_ldc (pc := 25) C wK_X12_127 dX12_bar_25 ?_
  exact s_goto (pc := 27) 59 C dX12_bar_27 (by decide) (hrc 59)
set_option maxRecDepth 100000 in
theorem kX12_bar_30 (C : ox_C p s m args c g 3 cX12_bar RX12) (hr : meth.sig.returnType = (some .int)) (hlk : meth.locks = false) (hnm : meth.name = "bar") (hR : R.frames = dp ∧ R.locals = 60 * dp) (h1 : ox_Sem yX12_isBar cX12_isBar 2 (some .boolean) d1 f1) (e1 : d1 + 1 ≤ dp) (h2 : ox_Sem yX12_in cX12_in 6 (some .boolean) d2 f2) (e2 : d2 + 1 ≤ dp) (h3 : ox_Sem yX12_of cX12_of 3 (some .int) d3 f3) (e3 : d3 + 1 ≤ dp) (hrc : ∀ b, ox_S p l e R s m args below meth c g 3 c0 t0 (ox_QM g below args s c0 t0) b (rc b)) : ox_S p l e R s m args below meth c g 3 c0 t0 (ox_QM g below args s c0 t0) 30 (bX12_bar_30 f1 f2 f3 rc) := by
  refine s_iload_n (pc := 30) C dX12_bar_30 rfl ?_
  refine s_bipush (pc := 31) C dX12_bar_31 (by decide) ?_
  refine s_icmpne (pc := 33) 53 C dX12_bar_33 (by decide) (hrc 53) ?_
  refine s_aload_n (pc := 36) C dX12_bar_36 rfl ?_
  refine s_getr (pc := 37) (j := 50) (q := (RX12, TX12, 59)) C rfl (by decide) rfl wF_X12_93 dX12_bar_37 ?_
  refine s_iload_n (pc := 40) C dX12_bar_40 rfl ?_
  refine s_ba (pc := 41) C dX12_bar_41 ?_
  refine s_ifeq (pc := 42) 49 C dX12_bar_42 (by decide) (hrc 49) ?_
  refine s_iconst (pc := 45) C dX12_bar_45 (by decide) ?_
  exact s_goto (pc := 46) 59 C dX12_bar_46 (by decide) (hrc 59)
set_option maxRecDepth 100000 in
theorem kX12_bar_49 (C : ox_C p s m args c g 3 cX12_bar RX12) (hr : meth.sig.returnType = (some .int)) (hlk : meth.locks = false) (hnm : meth.name = "bar") (hR : R.frames = dp ∧ R.locals = 60 * dp) (h1 : ox_Sem yX12_isBar cX12_isBar 2 (some .boolean) d1 f1) (e1 : d1 + 1 ≤ dp) (h2 : ox_Sem yX12_in cX12_in 6 (some .boolean) d2 f2) (e2 : d2 + 1 ≤ dp) (h3 : ox_Sem yX12_of cX12_of 3 (some .int) d3 f3) (e3 : d3 + 1 ≤ dp) (hrc : ∀ b, ox_S p l e R s m args below meth c g 3 c0 t0 (ox_QM g below args s c0 t0) b (rc b)) : ox_S p l e R s m args below meth c g 3 c0 t0 (ox_QM g below args s c0 t0) 49 (bX12_bar_49 f1 f2 f3 rc) := by
  refine s_iconst (pc := 49) C dX12_bar_49 (by decide) ?_
  exact s_goto (pc := 50) 59 C dX12_bar_50 (by decide) (hrc 59)
set_option maxRecDepth 100000 in
theorem kX12_bar_53 (C : ox_C p s m args c g 3 cX12_bar RX12) (hr : meth.sig.returnType = (some .int)) (hlk : meth.locks = false) (hnm : meth.name = "bar") (hR : R.frames = dp ∧ R.locals = 60 * dp) (h1 : ox_Sem yX12_isBar cX12_isBar 2 (some .boolean) d1 f1) (e1 : d1 + 1 ≤ dp) (h2 : ox_Sem yX12_in cX12_in 6 (some .boolean) d2 f2) (e2 : d2 + 1 ≤ dp) (h3 : ox_Sem yX12_of cX12_of 3 (some .int) d3 f3) (e3 : d3 + 1 ≤ dp) (hrc : ∀ b, ox_S p l e R s m args below meth c g 3 c0 t0 (ox_QM g below args s c0 t0) b (rc b)) : ox_S p l e R s m args below meth c g 3 c0 t0 (ox_QM g below args s c0 t0) 53 (bX12_bar_53 f1 f2 f3 rc) := by
  refine s_aload_n (pc := 53) C dX12_bar_53 rfl ?_
  refine s_iload_n (pc := 54) C dX12_bar_54 rfl ?_
  refine s_iload_n (pc := 55) C dX12_bar_55 rfl ?_
  refine s_cv (pc := 56) (q := (RX12, TX12, 59)) C h3 rfl wM_X12_303 wI_X12_of wS_X12_of wN_X12 wC_X12_of (by decide +kernel) (ox_lv hR e3 (by decide)) dX12_bar_56 ?_
  exact hrc 59
set_option maxRecDepth 100000 in
theorem kX12_bar_59 (C : ox_C p s m args c g 3 cX12_bar RX12) (hr : meth.sig.returnType = (some .int)) (hlk : meth.locks = false) (hnm : meth.name = "bar") (hR : R.frames = dp ∧ R.locals = 60 * dp) (h1 : ox_Sem yX12_isBar cX12_isBar 2 (some .boolean) d1 f1) (e1 : d1 + 1 ≤ dp) (h2 : ox_Sem yX12_in cX12_in 6 (some .boolean) d2 f2) (e2 : d2 + 1 ≤ dp) (h3 : ox_Sem yX12_of cX12_of 3 (some .int) d3 f3) (e3 : d3 + 1 ≤ dp) (hrc : ∀ b, ox_S p l e R s m args below meth c g 3 c0 t0 (ox_QM g below args s c0 t0) b (rc b)) : ox_S p l e R s m args below meth c g 3 c0 t0 (ox_QM g below args s c0 t0) 59 (bX12_bar_59 f1 f2 f3 rc) := by
  exact s_iret (pc := 59) C hr hlk dX12_bar_59
end SX12_bar
def bsX12_bar (f1 f2 f3 : ox_F) (b : Nat) (rc : Nat → ox_K) : ox_K := if b = 0 then bX12_bar_0 f1 f2 f3 rc else if b = 25 then bX12_bar_25 f1 f2 f3 rc else if b = 30 then bX12_bar_30 f1 f2 f3 rc else if b = 49 then bX12_bar_49 f1 f2 f3 rc else if b = 53 then bX12_bar_53 f1 f2 f3 rc else if b = 59 then bX12_bar_59 f1 f2 f3 rc else ox_no
theorem mX12_bar {dp d1 d2 d3 : Nat} {f1 f2 f3 f : ox_F} (h1 : ox_Sem yX12_isBar cX12_isBar 2 (some .boolean) d1 f1) (e1 : d1 + 1 ≤ dp) (h2 : ox_Sem yX12_in cX12_in 6 (some .boolean) d2 f2) (e2 : d2 + 1 ≤ dp) (h3 : ox_Sem yX12_of cX12_of 3 (some .int) d3 f3) (e3 : d3 + 1 ≤ dp) (hf : ∀ as h r, f as h = some r → ox_cs as ≤ 3 ∧ ox_le h r.2 ∧ ∃ n, ox_run (bsX12_bar f1 f2 f3) n 0 (lv_args 0 as) [] h = some r) : ox_Sem yX12_bar cX12_bar 3 (some .int) dp f := by
  refine ox_meth (bs := bsX12_bar f1 f2 f3) (by decide) hf ?_
  intro p l e R s m args below meth c g c0 t0 C hr hlk hnm hR rc hrc b
  unfold bsX12_bar
  refine ox_br (kX12_bar_0 C hr hlk hnm hR h1 e1 h2 e2 h3 e3 hrc) ?_
  refine ox_br (kX12_bar_25 C hr hlk hnm hR h1 e1 h2 e2 h3 e3 hrc) ?_
  refine ox_br (kX12_bar_30 C hr hlk hnm hR h1 e1 h2 e2 h3 e3 hrc) ?_
  refine ox_br (kX12_bar_49 C hr hlk hnm hR h1 e1 h2 e2 h3 e3 hrc) ?_
  refine ox_br (kX12_bar_53 C hr hlk hnm hR h1 e1 h2 e2 h3 e3 hrc) ?_
  refine ox_br (kX12_bar_59 C hr hlk hnm hR h1 e1 h2 e2 h3 e3 hrc) ?_
  exact s_no
theorem dX12_recall_0 : decode cX12_recall 0 = .ok (.aload_n 0, 1) := by decide +kernel
theorem dX12_recall_1 : decode cX12_recall 1 = .ok (.iconst 0, 1) := by decide +kernel
theorem dX12_recall_2 : decode cX12_recall 2 = .ok (.putfield 108, 3) := by decide +kernel
theorem dX12_recall_5 : decode cX12_recall 5 = .ok (.iload_n 1, 1) := by decide +kernel
theorem dX12_recall_6 : decode cX12_recall 6 = .ok (.i2l, 1) := by decide +kernel
theorem dX12_recall_7 : decode cX12_recall 7 = .ok (.lconst 0, 1) := by decide +kernel
theorem dX12_recall_8 : decode cX12_recall 8 = .ok (.ldc2_w 240, 3) := by decide +kernel
theorem dX12_recall_11 : decode cX12_recall 11 = .ok (.invokestatic 117, 3) := by decide +kernel
theorem dX12_recall_14 : decode cX12_recall 14 = .ok (.ifCond .ne 6, 3) := by decide +kernel
theorem dX12_recall_17 : decode cX12_recall 17 = .ok (.ldc 127, 2) := by decide +kernel
theorem dX12_recall_19 : decode cX12_recall 19 = .ok (.ireturn, 1) := by decide +kernel
theorem dX12_recall_20 : decode cX12_recall 20 = .ok (.aload_n 0, 1) := by decide +kernel
theorem dX12_recall_21 : decode cX12_recall 21 = .ok (.dup, 1) := by decide +kernel
theorem dX12_recall_22 : decode cX12_recall 22 = .ok (.getfield 306, 3) := by decide +kernel
theorem dX12_recall_25 : decode cX12_recall 25 = .ok (.iconst 1, 1) := by decide +kernel
theorem dX12_recall_26 : decode cX12_recall 26 = .ok (.iload_n 1, 1) := by decide +kernel
theorem dX12_recall_27 : decode cX12_recall 27 = .ok (.ishl, 1) := by decide +kernel
theorem dX12_recall_28 : decode cX12_recall 28 = .ok (.ior, 1) := by decide +kernel
theorem dX12_recall_29 : decode cX12_recall 29 = .ok (.putfield 306, 3) := by decide +kernel
theorem dX12_recall_32 : decode cX12_recall 32 = .ok (.iconst 0, 1) := by decide +kernel
theorem dX12_recall_33 : decode cX12_recall 33 = .ok (.istore_n 2, 1) := by decide +kernel
theorem dX12_recall_34 : decode cX12_recall 34 = .ok (.iconst 0, 1) := by decide +kernel
theorem dX12_recall_35 : decode cX12_recall 35 = .ok (.istore_n 3, 1) := by decide +kernel
theorem dX12_recall_36 : decode cX12_recall 36 = .ok (.iload_n 3, 1) := by decide +kernel
theorem dX12_recall_37 : decode cX12_recall 37 = .ok (.aload_n 0, 1) := by decide +kernel
theorem dX12_recall_38 : decode cX12_recall 38 = .ok (.getfield 291, 3) := by decide +kernel
theorem dX12_recall_41 : decode cX12_recall 41 = .ok (.if_icmp .ge 22, 3) := by decide +kernel
theorem dX12_recall_44 : decode cX12_recall 44 = .ok (.iload_n 2, 1) := by decide +kernel
theorem dX12_recall_45 : decode cX12_recall 45 = .ok (.aload_n 0, 1) := by decide +kernel
theorem dX12_recall_46 : decode cX12_recall 46 = .ok (.iload_n 3, 1) := by decide +kernel
theorem dX12_recall_47 : decode cX12_recall 47 = .ok (.iconst 3, 1) := by decide +kernel
theorem dX12_recall_48 : decode cX12_recall 48 = .ok (.invokevirtual 303, 3) := by decide +kernel
theorem dX12_recall_51 : decode cX12_recall 51 = .ok (.iload_n 1, 1) := by decide +kernel
theorem dX12_recall_52 : decode cX12_recall 52 = .ok (.ishr, 1) := by decide +kernel
theorem dX12_recall_53 : decode cX12_recall 53 = .ok (.iconst 1, 1) := by decide +kernel
theorem dX12_recall_54 : decode cX12_recall 54 = .ok (.iand, 1) := by decide +kernel
theorem dX12_recall_55 : decode cX12_recall 55 = .ok (.iadd, 1) := by decide +kernel
theorem dX12_recall_56 : decode cX12_recall 56 = .ok (.istore_n 2, 1) := by decide +kernel
theorem dX12_recall_57 : decode cX12_recall 57 = .ok (.iinc 3 1, 3) := by decide +kernel
theorem dX12_recall_60 : decode cX12_recall 60 = .ok (.goto (-24), 3) := by decide +kernel
theorem dX12_recall_63 : decode cX12_recall 63 = .ok (.iload_n 2, 1) := by decide +kernel
theorem dX12_recall_64 : decode cX12_recall 64 = .ok (.ireturn, 1) := by decide +kernel
def bX12_recall_0 (f1 f2 : ox_F) (rc : Nat → ox_K) : ox_K := o_al 0 (o_ic (0) (o_puti 12 0 (o_il 1 (o_i2l (o_lc (0) (o_lc (9) (o_ct f1 3 (o_ifne (rc 20) (o_ic (-1000001) (o_iret))))))))))
def bX12_recall_20 (f1 f2 : ox_F) (rc : Nat → ox_K) : ox_K := o_al 0 (o_dup (o_geti 12 54 (o_ic (1) (o_il 1 (o_ishl (o_ior (o_puti 12 54 (o_ic (0) (o_is 2 (o_ic (0) (o_is 3 (rc 36))))))))))))
def bX12_recall_36 (f1 f2 : ox_F) (rc : Nat → ox_K) : ox_K := o_keep [0, 1, 2, 3] (o_il 3 (o_al 0 (o_geti 12 48 (o_icge (rc 63) (o_il 2 (o_al 0 (o_il 3 (o_ic (3) (o_cv f2 12 2 (o_il 1 (o_ishr (o_ic (1) (o_iand (o_iadd (o_is 2 (o_inc 3 (1) (rc 36)))))))))))))))))
def bX12_recall_63 (f1 f2 : ox_F) (rc : Nat → ox_K) : ox_K := o_il 2 (o_iret)
section SX12_recall
variable {p : Program} {l : Launch} {e : Env} {R : Room} {s : State} {m : MethodId} {args : Array Value} {below : List Frame} {meth : Method} {c : Code} {g : ox_G} {c0 t0 dp d1 d2 : Nat} {rc : Nat → ox_K} {f1 f2 : ox_F}
set_option maxRecDepth 100000 in
theorem kX12_recall_0 (C : ox_C p s m args c g 4 cX12_recall RX12) (hr : meth.sig.returnType = (some .int)) (hlk : meth.locks = false) (hnm : meth.name = "recall") (hR : R.frames = dp ∧ R.locals = 60 * dp) (h1 : ox_Sem yX12_in cX12_in 6 (some .boolean) d1 f1) (e1 : d1 + 1 ≤ dp) (h2 : ox_Sem yX12_of cX12_of 3 (some .int) d2 f2) (e2 : d2 + 1 ≤ dp) (hrc : ∀ b, ox_S p l e R s m args below meth c g 4 c0 t0 (ox_QM g below args s c0 t0) b (rc b)) : ox_S p l e R s m args below meth c g 4 c0 t0 (ox_QM g below args s c0 t0) 0 (bX12_recall_0 f1 f2 rc) := by
  refine s_aload_n (pc := 0) C dX12_recall_0 rfl ?_
  refine s_iconst (pc := 1) C dX12_recall_1 (by decide) ?_
  refine s_puti (pc := 2) (j := 0) (q := (RX12, TX12, 59)) C rfl (by decide) rfl (Or.inl rfl) wF_X12_108 dX12_recall_2 ?_
  refine s_iload_n (pc := 5) C dX12_recall_5 rfl ?_
  refine s_i2l (pc := 6) C dX12_recall_6 ?_
  refine s_lconst (pc := 7) C dX12_recall_7 (by decide) ?_
  refine s_ldc2 (pc := 8) C wL_X12_240 dX12_recall_8 ?_
  refine s_ct (pc := 11) C h1 wM_X12_117 wT_X12_in wN_X12 wC_X12_in (by decide +kernel) (ox_lv hR e1 (by decide)) dX12_recall_11 ?_
  refine s_ifne (pc := 14) 20 C dX12_recall_14 (by decide) (hrc 20) ?_
  refine s_ldc (pc := 17) C wK_X12_127 dX12_recall_17 ?_
  exact s_iret (pc := 19) C hr hlk dX12_recall_19
set_option maxRecDepth 100000 in
theorem kX12_recall_20 (C : ox_C p s m args c g 4 cX12_recall RX12) (hr : meth.sig.returnType = (some .int)) (hlk : meth.locks = false) (hnm : meth.name = "recall") (hR : R.frames = dp ∧ R.locals = 60 * dp) (h1 : ox_Sem yX12_in cX12_in 6 (some .boolean) d1 f1) (e1 : d1 + 1 ≤ dp) (h2 : ox_Sem yX12_of cX12_of 3 (some .int) d2 f2) (e2 : d2 + 1 ≤ dp) (hrc : ∀ b, ox_S p l e R s m args below meth c g 4 c0 t0 (ox_QM g below args s c0 t0) b (rc b)) : ox_S p l e R s m args below meth c g 4 c0 t0 (ox_QM g below args s c0 t0) 20 (bX12_recall_20 f1 f2 rc) := by
  refine s_aload_n (pc := 20) C dX12_recall_20 rfl ?_
  refine s_dup (pc := 21) C dX12_recall_21 ?_
  refine s_geti (pc := 22) (j := 54) (q := (RX12, TX12, 59)) C rfl (by decide) rfl wF_X12_306 dX12_recall_22 ?_
  refine s_iconst (pc := 25) C dX12_recall_25 (by decide) ?_
  refine s_iload_n (pc := 26) C dX12_recall_26 rfl ?_
  refine s_ishl (pc := 27) C dX12_recall_27 ?_
  refine s_ior (pc := 28) C dX12_recall_28 ?_
  refine s_puti (pc := 29) (j := 54) (q := (RX12, TX12, 59)) C rfl (by decide) rfl (Or.inl rfl) wF_X12_306 dX12_recall_29 ?_
  refine s_iconst (pc := 32) C dX12_recall_32 (by decide) ?_
  refine s_istore_n (pc := 33) C dX12_recall_33 rfl (by decide) ?_
  refine s_iconst (pc := 34) C dX12_recall_34 (by decide) ?_
  refine s_istore_n (pc := 35) C dX12_recall_35 rfl (by decide) ?_
  exact hrc 36
set_option maxRecDepth 100000 in
theorem kX12_recall_36 (C : ox_C p s m args c g 4 cX12_recall RX12) (hr : meth.sig.returnType = (some .int)) (hlk : meth.locks = false) (hnm : meth.name = "recall") (hR : R.frames = dp ∧ R.locals = 60 * dp) (h1 : ox_Sem yX12_in cX12_in 6 (some .boolean) d1 f1) (e1 : d1 + 1 ≤ dp) (h2 : ox_Sem yX12_of cX12_of 3 (some .int) d2 f2) (e2 : d2 + 1 ≤ dp) (hrc : ∀ b, ox_S p l e R s m args below meth c g 4 c0 t0 (ox_QM g below args s c0 t0) b (rc b)) : ox_S p l e R s m args below meth c g 4 c0 t0 (ox_QM g below args s c0 t0) 36 (bX12_recall_36 f1 f2 rc) := by
  refine s_keep ?_
  refine s_iload_n (pc := 36) C dX12_recall_36 rfl ?_
  refine s_aload_n (pc := 37) C dX12_recall_37 rfl ?_
  refine s_geti (pc := 38) (j := 48) (q := (RX12, TX12, 59)) C rfl (by decide) rfl wF_X12_291 dX12_recall_38 ?_
  refine s_icmpge (pc := 41) 63 C dX12_recall_41 (by decide) (hrc 63) ?_
  refine s_iload_n (pc := 44) C dX12_recall_44 rfl ?_
  refine s_aload_n (pc := 45) C dX12_recall_45 rfl ?_
  refine s_iload_n (pc := 46) C dX12_recall_46 rfl ?_
  refine s_iconst (pc := 47) C dX12_recall_47 (by decide) ?_
  refine s_cv (pc := 48) (q := (RX12, TX12, 59)) C h2 rfl wM_X12_303 wI_X12_of wS_X12_of wN_X12 wC_X12_of (by decide +kernel) (ox_lv hR e2 (by decide)) dX12_recall_48 ?_
  refine s_iload_n (pc := 51) C dX12_recall_51 rfl ?_
  refine s_ishr (pc := 52) C dX12_recall_52 ?_
  refine s_iconst (pc := 53) C dX12_recall_53 (by decide) ?_
  refine s_iand (pc := 54) C dX12_recall_54 ?_
  refine s_iadd (pc := 55) C dX12_recall_55 ?_
  refine s_istore_n (pc := 56) C dX12_recall_56 rfl (by decide) ?_
  refine s_iinc (pc := 57) C dX12_recall_57 (by decide) (by decide) ?_
  exact s_goto (pc := 60) 36 C dX12_recall_60 (by decide) (hrc 36)
set_option maxRecDepth 100000 in
theorem kX12_recall_63 (C : ox_C p s m args c g 4 cX12_recall RX12) (hr : meth.sig.returnType = (some .int)) (hlk : meth.locks = false) (hnm : meth.name = "recall") (hR : R.frames = dp ∧ R.locals = 60 * dp) (h1 : ox_Sem yX12_in cX12_in 6 (some .boolean) d1 f1) (e1 : d1 + 1 ≤ dp) (h2 : ox_Sem yX12_of cX12_of 3 (some .int) d2 f2) (e2 : d2 + 1 ≤ dp) (hrc : ∀ b, ox_S p l e R s m args below meth c g 4 c0 t0 (ox_QM g below args s c0 t0) b (rc b)) : ox_S p l e R s m args below meth c g 4 c0 t0 (ox_QM g below args s c0 t0) 63 (bX12_recall_63 f1 f2 rc) := by
  refine s_iload_n (pc := 63) C dX12_recall_63 rfl ?_
  exact s_iret (pc := 64) C hr hlk dX12_recall_64
end SX12_recall
def bsX12_recall (f1 f2 : ox_F) (b : Nat) (rc : Nat → ox_K) : ox_K := if b = 0 then bX12_recall_0 f1 f2 rc else if b = 20 then bX12_recall_20 f1 f2 rc else if b = 36 then bX12_recall_36 f1 f2 rc else if b = 63 then bX12_recall_63 f1 f2 rc else ox_no
theorem mX12_recall {dp d1 d2 : Nat} {f1 f2 f : ox_F} (h1 : ox_Sem yX12_in cX12_in 6 (some .boolean) d1 f1) (e1 : d1 + 1 ≤ dp) (h2 : ox_Sem yX12_of cX12_of 3 (some .int) d2 f2) (e2 : d2 + 1 ≤ dp) (hf : ∀ as h r, f as h = some r → ox_cs as ≤ 4 ∧ ox_le h r.2 ∧ ∃ n, ox_run (bsX12_recall f1 f2) n 0 (lv_args 0 as) [] h = some r) : ox_Sem yX12_recall cX12_recall 4 (some .int) dp f := by
  refine ox_meth (bs := bsX12_recall f1 f2) (by decide) hf ?_
  intro p l e R s m args below meth c g c0 t0 C hr hlk hnm hR rc hrc b
  unfold bsX12_recall
  refine ox_br (kX12_recall_0 C hr hlk hnm hR h1 e1 h2 e2 hrc) ?_
  refine ox_br (kX12_recall_20 C hr hlk hnm hR h1 e1 h2 e2 hrc) ?_
  refine ox_br (kX12_recall_36 C hr hlk hnm hR h1 e1 h2 e2 hrc) ?_
  refine ox_br (kX12_recall_63 C hr hlk hnm hR h1 e1 h2 e2 hrc) ?_
  exact s_no
theorem dX12_kindOf_0 : decode cX12_kindOf 0 = .ok (.aload_n 0, 1) := by decide +kernel
theorem dX12_kindOf_1 : decode cX12_kindOf 1 = .ok (.iload_n 1, 1) := by decide +kernel
theorem dX12_kindOf_2 : decode cX12_kindOf 2 = .ok (.iconst 1, 1) := by decide +kernel
theorem dX12_kindOf_3 : decode cX12_kindOf 3 = .ok (.invokevirtual 303, 3) := by decide +kernel
theorem dX12_kindOf_6 : decode cX12_kindOf 6 = .ok (.ifCond .le 7, 3) := by decide +kernel
theorem dX12_kindOf_9 : decode cX12_kindOf 9 = .ok (.iconst 1, 1) := by decide +kernel
theorem dX12_kindOf_10 : decode cX12_kindOf 10 = .ok (.goto 4, 3) := by decide +kernel
theorem dX12_kindOf_13 : decode cX12_kindOf 13 = .ok (.iconst 0, 1) := by decide +kernel
theorem dX12_kindOf_14 : decode cX12_kindOf 14 = .ok (.istore_n 2, 1) := by decide +kernel
theorem dX12_kindOf_15 : decode cX12_kindOf 15 = .ok (.aload_n 0, 1) := by decide +kernel
theorem dX12_kindOf_16 : decode cX12_kindOf 16 = .ok (.iload_n 1, 1) := by decide +kernel
theorem dX12_kindOf_17 : decode cX12_kindOf 17 = .ok (.iconst 3, 1) := by decide +kernel
theorem dX12_kindOf_18 : decode cX12_kindOf 18 = .ok (.invokevirtual 303, 3) := by decide +kernel
theorem dX12_kindOf_21 : decode cX12_kindOf 21 = .ok (.aload_n 0, 1) := by decide +kernel
theorem dX12_kindOf_22 : decode cX12_kindOf 22 = .ok (.getfield 306, 3) := by decide +kernel
theorem dX12_kindOf_25 : decode cX12_kindOf 25 = .ok (.iand, 1) := by decide +kernel
theorem dX12_kindOf_26 : decode cX12_kindOf 26 = .ok (.ifCond .eq 7, 3) := by decide +kernel
theorem dX12_kindOf_29 : decode cX12_kindOf 29 = .ok (.iconst 4, 1) := by decide +kernel
theorem dX12_kindOf_30 : decode cX12_kindOf 30 = .ok (.goto 50, 3) := by decide +kernel
theorem dX12_kindOf_33 : decode cX12_kindOf 33 = .ok (.aload_n 0, 1) := by decide +kernel
theorem dX12_kindOf_34 : decode cX12_kindOf 34 = .ok (.iload_n 1, 1) := by decide +kernel
theorem dX12_kindOf_35 : decode cX12_kindOf 35 = .ok (.iconst 4, 1) := by decide +kernel
theorem dX12_kindOf_36 : decode cX12_kindOf 36 = .ok (.invokevirtual 303, 3) := by decide +kernel
theorem dX12_kindOf_39 : decode cX12_kindOf 39 = .ok (.ifCond .ne 7, 3) := by decide +kernel
theorem dX12_kindOf_42 : decode cX12_kindOf 42 = .ok (.iconst 3, 1) := by decide +kernel
theorem dX12_kindOf_43 : decode cX12_kindOf 43 = .ok (.goto 37, 3) := by decide +kernel
theorem dX12_kindOf_46 : decode cX12_kindOf 46 = .ok (.iload_n 2, 1) := by decide +kernel
theorem dX12_kindOf_47 : decode cX12_kindOf 47 = .ok (.ifCond .eq 24, 3) := by decide +kernel
theorem dX12_kindOf_50 : decode cX12_kindOf 50 = .ok (.aload_n 0, 1) := by decide +kernel
theorem dX12_kindOf_51 : decode cX12_kindOf 51 = .ok (.getfield 19, 3) := by decide +kernel
theorem dX12_kindOf_54 : decode cX12_kindOf 54 = .ok (.aload_n 0, 1) := by decide +kernel
theorem dX12_kindOf_55 : decode cX12_kindOf 55 = .ok (.iload_n 1, 1) := by decide +kernel
theorem dX12_kindOf_56 : decode cX12_kindOf 56 = .ok (.iconst 2, 1) := by decide +kernel
theorem dX12_kindOf_57 : decode cX12_kindOf 57 = .ok (.invokevirtual 303, 3) := by decide +kernel
theorem dX12_kindOf_60 : decode cX12_kindOf 60 = .ok (.iaload, 1) := by decide +kernel
theorem dX12_kindOf_61 : decode cX12_kindOf 61 = .ok (.iconst 1, 1) := by decide +kernel
theorem dX12_kindOf_62 : decode cX12_kindOf 62 = .ok (.iand, 1) := by decide +kernel
theorem dX12_kindOf_63 : decode cX12_kindOf 63 = .ok (.iconst 1, 1) := by decide +kernel
theorem dX12_kindOf_64 : decode cX12_kindOf 64 = .ok (.if_icmp .ne 7, 3) := by decide +kernel
theorem dX12_kindOf_67 : decode cX12_kindOf 67 = .ok (.iconst 2, 1) := by decide +kernel
theorem dX12_kindOf_68 : decode cX12_kindOf 68 = .ok (.goto 12, 3) := by decide +kernel
theorem dX12_kindOf_71 : decode cX12_kindOf 71 = .ok (.iload_n 2, 1) := by decide +kernel
theorem dX12_kindOf_72 : decode cX12_kindOf 72 = .ok (.ifCond .eq 7, 3) := by decide +kernel
theorem dX12_kindOf_75 : decode cX12_kindOf 75 = .ok (.iconst 1, 1) := by decide +kernel
theorem dX12_kindOf_76 : decode cX12_kindOf 76 = .ok (.goto 4, 3) := by decide +kernel
theorem dX12_kindOf_79 : decode cX12_kindOf 79 = .ok (.iconst 0, 1) := by decide +kernel
theorem dX12_kindOf_80 : decode cX12_kindOf 80 = .ok (.ireturn, 1) := by decide +kernel
def bX12_kindOf_0 (f1 : ox_F) (rc : Nat → ox_K) : ox_K := o_al 0 (o_il 1 (o_ic (1) (o_cv f1 12 2 (o_ifle (rc 13) (o_ic (1) (rc 14))))))
def bX12_kindOf_13 (f1 : ox_F) (rc : Nat → ox_K) : ox_K := o_ic (0) (rc 14)
def bX12_kindOf_14 (f1 : ox_F) (rc : Nat → ox_K) : ox_K := o_is 2 (o_al 0 (o_il 1 (o_ic (3) (o_cv f1 12 2 (o_al 0 (o_geti 12 54 (o_iand (o_ifeq (rc 33) (o_ic (4) (rc 80))))))))))
def bX12_kindOf_33 (f1 : ox_F) (rc : Nat → ox_K) : ox_K := o_al 0 (o_il 1 (o_ic (4) (o_cv f1 12 2 (o_ifne (rc 46) (o_ic (3) (rc 80))))))
def bX12_kindOf_46 (f1 : ox_F) (rc : Nat → ox_K) : ox_K := o_il 2 (o_ifeq (rc 71) (o_al 0 (o_getr 12 6 (o_al 0 (o_il 1 (o_ic (2) (o_cv f1 12 2 (o_ia (o_ic (1) (o_iand (o_ic (1) (o_icne (rc 71) (o_ic (2) (rc 80))))))))))))))
def bX12_kindOf_71 (f1 : ox_F) (rc : Nat → ox_K) : ox_K := o_il 2 (o_ifeq (rc 79) (o_ic (1) (rc 80)))
def bX12_kindOf_79 (f1 : ox_F) (rc : Nat → ox_K) : ox_K := o_ic (0) (rc 80)
def bX12_kindOf_80 (f1 : ox_F) (rc : Nat → ox_K) : ox_K := o_iret
section SX12_kindOf
variable {p : Program} {l : Launch} {e : Env} {R : Room} {s : State} {m : MethodId} {args : Array Value} {below : List Frame} {meth : Method} {c : Code} {g : ox_G} {c0 t0 dp d1 : Nat} {rc : Nat → ox_K} {f1 : ox_F}
set_option maxRecDepth 100000 in
theorem kX12_kindOf_0 (C : ox_C p s m args c g 3 cX12_kindOf RX12) (hr : meth.sig.returnType = (some .int)) (hlk : meth.locks = false) (hnm : meth.name = "kindOf") (hR : R.frames = dp ∧ R.locals = 60 * dp) (h1 : ox_Sem yX12_of cX12_of 3 (some .int) d1 f1) (e1 : d1 + 1 ≤ dp) (hrc : ∀ b, ox_S p l e R s m args below meth c g 3 c0 t0 (ox_QM g below args s c0 t0) b (rc b)) : ox_S p l e R s m args below meth c g 3 c0 t0 (ox_QM g below args s c0 t0) 0 (bX12_kindOf_0 f1 rc) := by
  refine s_aload_n (pc := 0) C dX12_kindOf_0 rfl ?_
  refine s_iload_n (pc := 1) C dX12_kindOf_1 rfl ?_
  refine s_iconst (pc := 2) C dX12_kindOf_2 (by decide) ?_
  refine s_cv (pc := 3) (q := (RX12, TX12, 59)) C h1 rfl wM_X12_303 wI_X12_of wS_X12_of wN_X12 wC_X12_of (by decide +kernel) (ox_lv hR e1 (by decide)) dX12_kindOf_3 ?_
  refine s_ifle (pc := 6) 13 C dX12_kindOf_6 (by decide) (hrc 13) ?_
  refine s_iconst (pc := 9) C dX12_kindOf_9 (by decide) ?_
  exact s_goto (pc := 10) 14 C dX12_kindOf_10 (by decide) (hrc 14)
set_option maxRecDepth 100000 in
theorem kX12_kindOf_13 (C : ox_C p s m args c g 3 cX12_kindOf RX12) (hr : meth.sig.returnType = (some .int)) (hlk : meth.locks = false) (hnm : meth.name = "kindOf") (hR : R.frames = dp ∧ R.locals = 60 * dp) (h1 : ox_Sem yX12_of cX12_of 3 (some .int) d1 f1) (e1 : d1 + 1 ≤ dp) (hrc : ∀ b, ox_S p l e R s m args below meth c g 3 c0 t0 (ox_QM g below args s c0 t0) b (rc b)) : ox_S p l e R s m args below meth c g 3 c0 t0 (ox_QM g below args s c0 t0) 13 (bX12_kindOf_13 f1 rc) := by
  refine s_iconst (pc := 13) C dX12_kindOf_13 (by decide) ?_
  exact hrc 14
set_option maxRecDepth 100000 in
theorem kX12_kindOf_14 (C : ox_C p s m args c g 3 cX12_kindOf RX12) (hr : meth.sig.returnType = (some .int)) (hlk : meth.locks = false) (hnm : meth.name = "kindOf") (hR : R.frames = dp ∧ R.locals = 60 * dp) (h1 : ox_Sem yX12_of cX12_of 3 (some .int) d1 f1) (e1 : d1 + 1 ≤ dp) (hrc : ∀ b, ox_S p l e R s m args below meth c g 3 c0 t0 (ox_QM g below args s c0 t0) b (rc b)) : ox_S p l e R s m args below meth c g 3 c0 t0 (ox_QM g below args s c0 t0) 14 (bX12_kindOf_14 f1 rc) := by
  refine s_istore_n (pc := 14) C dX12_kindOf_14 rfl (by decide) ?_
  refine s_aload_n (pc := 15) C dX12_kindOf_15 rfl ?_
  refine s_iload_n (pc := 16) C dX12_kindOf_16 rfl ?_
  refine s_iconst (pc := 17) C dX12_kindOf_17 (by decide) ?_
  refine s_cv (pc := 18) (q := (RX12, TX12, 59)) C h1 rfl wM_X12_303 wI_X12_of wS_X12_of wN_X12 wC_X12_of (by decide +kernel) (ox_lv hR e1 (by decide)) dX12_kindOf_18 ?_
  refine s_aload_n (pc := 21) C dX12_kindOf_21 rfl ?_
  refine s_geti (pc := 22) (j := 54) (q := (RX12, TX12, 59)) C rfl (by decide) rfl wF_X12_306 dX12_kindOf_22 ?_
  refine s_iand (pc := 25) C dX12_kindOf_25 ?_
  refine s_ifeq (pc := 26) 33 C dX12_kindOf_26 (by decide) (hrc 33) ?_
  refine s_iconst (pc := 29) C dX12_kindOf_29 (by decide) ?_
  exact s_goto (pc := 30) 80 C dX12_kindOf_30 (by decide) (hrc 80)
set_option maxRecDepth 100000 in
theorem kX12_kindOf_33 (C : ox_C p s m args c g 3 cX12_kindOf RX12) (hr : meth.sig.returnType = (some .int)) (hlk : meth.locks = false) (hnm : meth.name = "kindOf") (hR : R.frames = dp ∧ R.locals = 60 * dp) (h1 : ox_Sem yX12_of cX12_of 3 (some .int) d1 f1) (e1 : d1 + 1 ≤ dp) (hrc : ∀ b, ox_S p l e R s m args below meth c g 3 c0 t0 (ox_QM g below args s c0 t0) b (rc b)) : ox_S p l e R s m args below meth c g 3 c0 t0 (ox_QM g below args s c0 t0) 33 (bX12_kindOf_33 f1 rc) := by
  refine s_aload_n (pc := 33) C dX12_kindOf_33 rfl ?_
  refine s_iload_n (pc := 34) C dX12_kindOf_34 rfl ?_
  refine s_iconst (pc := 35) C dX12_kindOf_35 (by decide) ?_
  refine s_cv (pc := 36) (q := (RX12, TX12, 59)) C h1 rfl wM_X12_303 wI_X12_of wS_X12_of wN_X12 wC_X12_of (by decide +kernel) (ox_lv hR e1 (by decide)) dX12_kindOf_36 ?_
  refine s_ifne (pc := 39) 46 C dX12_kindOf_39 (by decide) (hrc 46) ?_
  refine s_iconst (pc := 42) C dX12_kindOf_42 (by decide) ?_
  exact s_goto (pc := 43) 80 C dX12_kindOf_43 (by decide) (hrc 80)
set_option maxRecDepth 100000 in
theorem kX12_kindOf_46 (C : ox_C p s m args c g 3 cX12_kindOf RX12) (hr : meth.sig.returnType = (some .int)) (hlk : meth.locks = false) (hnm : meth.name = "kindOf") (hR : R.frames = dp ∧ R.locals = 60 * dp) (h1 : ox_Sem yX12_of cX12_of 3 (some .int) d1 f1) (e1 : d1 + 1 ≤ dp) (hrc : ∀ b, ox_S p l e R s m args below meth c g 3 c0 t0 (ox_QM g below args s c0 t0) b (rc b)) : ox_S p l e R s m args below meth c g 3 c0 t0 (ox_QM g below args s c0 t0) 46 (bX12_kindOf_46 f1 rc) := by
  refine s_iload_n (pc := 46) C dX12_kindOf_46 rfl ?_
  refine s_ifeq (pc := 47) 71 C dX12_kindOf_47 (by decide) (hrc 71) ?_
  refine s_aload_n (pc := 50) C dX12_kindOf_50 rfl ?_
  refine s_getr (pc := 51) (j := 6) (q := (RX12, TX12, 59)) C rfl (by decide) rfl wF_X12_19 dX12_kindOf_51 ?_
  refine s_aload_n (pc := 54) C dX12_kindOf_54 rfl ?_
  refine s_iload_n (pc := 55) C dX12_kindOf_55 rfl ?_
  refine s_iconst (pc := 56) C dX12_kindOf_56 (by decide) ?_
  refine s_cv (pc := 57) (q := (RX12, TX12, 59)) C h1 rfl wM_X12_303 wI_X12_of wS_X12_of wN_X12 wC_X12_of (by decide +kernel) (ox_lv hR e1 (by decide)) dX12_kindOf_57 ?_
  refine s_ia (pc := 60) C dX12_kindOf_60 ?_
  refine s_iconst (pc := 61) C dX12_kindOf_61 (by decide) ?_
  refine s_iand (pc := 62) C dX12_kindOf_62 ?_
  refine s_iconst (pc := 63) C dX12_kindOf_63 (by decide) ?_
  refine s_icmpne (pc := 64) 71 C dX12_kindOf_64 (by decide) (hrc 71) ?_
  refine s_iconst (pc := 67) C dX12_kindOf_67 (by decide) ?_
  exact s_goto (pc := 68) 80 C dX12_kindOf_68 (by decide) (hrc 80)
set_option maxRecDepth 100000 in
theorem kX12_kindOf_71 (C : ox_C p s m args c g 3 cX12_kindOf RX12) (hr : meth.sig.returnType = (some .int)) (hlk : meth.locks = false) (hnm : meth.name = "kindOf") (hR : R.frames = dp ∧ R.locals = 60 * dp) (h1 : ox_Sem yX12_of cX12_of 3 (some .int) d1 f1) (e1 : d1 + 1 ≤ dp) (hrc : ∀ b, ox_S p l e R s m args below meth c g 3 c0 t0 (ox_QM g below args s c0 t0) b (rc b)) : ox_S p l e R s m args below meth c g 3 c0 t0 (ox_QM g below args s c0 t0) 71 (bX12_kindOf_71 f1 rc) := by
  refine s_iload_n (pc := 71) C dX12_kindOf_71 rfl ?_
  refine s_ifeq (pc := 72) 79 C dX12_kindOf_72 (by decide) (hrc 79) ?_
  refine s_iconst (pc := 75) C dX12_kindOf_75 (by decide) ?_
  exact s_goto (pc := 76) 80 C dX12_kindOf_76 (by decide) (hrc 80)
set_option maxRecDepth 100000 in
theorem kX12_kindOf_79 (C : ox_C p s m args c g 3 cX12_kindOf RX12) (hr : meth.sig.returnType = (some .int)) (hlk : meth.locks = false) (hnm : meth.name = "kindOf") (hR : R.frames = dp ∧ R.locals = 60 * dp) (h1 : ox_Sem yX12_of cX12_of 3 (some .int) d1 f1) (e1 : d1 + 1 ≤ dp) (hrc : ∀ b, ox_S p l e R s m args below meth c g 3 c0 t0 (ox_QM g below args s c0 t0) b (rc b)) : ox_S p l e R s m args below meth c g 3 c0 t0 (ox_QM g below args s c0 t0) 79 (bX12_kindOf_79 f1 rc) := by
  refine s_iconst (pc := 79) C dX12_kindOf_79 (by decide) ?_
  exact hrc 80
set_option maxRecDepth 100000 in
theorem kX12_kindOf_80 (C : ox_C p s m args c g 3 cX12_kindOf RX12) (hr : meth.sig.returnType = (some .int)) (hlk : meth.locks = false) (hnm : meth.name = "kindOf") (hR : R.frames = dp ∧ R.locals = 60 * dp) (h1 : ox_Sem yX12_of cX12_of 3 (some .int) d1 f1) (e1 : d1 + 1 ≤ dp) (hrc : ∀ b, ox_S p l e R s m args below meth c g 3 c0 t0 (ox_QM g below args s c0 t0) b (rc b)) : ox_S p l e R s m args below meth c g 3 c0 t0 (ox_QM g below args s c0 t0) 80 (bX12_kindOf_80 f1 rc) := by
  exact s_iret (pc := 80) C hr hlk dX12_kindOf_80
end SX12_kindOf
def bsX12_kindOf (f1 : ox_F) (b : Nat) (rc : Nat → ox_K) : ox_K := if b = 0 then bX12_kindOf_0 f1 rc else if b = 13 then bX12_kindOf_13 f1 rc else if b = 14 then bX12_kindOf_14 f1 rc else if b = 33 then bX12_kindOf_33 f1 rc else if b = 46 then bX12_kindOf_46 f1 rc else if b = 71 then bX12_kindOf_71 f1 rc else if b = 79 then bX12_kindOf_79 f1 rc else if b = 80 then bX12_kindOf_80 f1 rc else ox_no
theorem mX12_kindOf {dp d1 : Nat} {f1 f : ox_F} (h1 : ox_Sem yX12_of cX12_of 3 (some .int) d1 f1) (e1 : d1 + 1 ≤ dp) (hf : ∀ as h r, f as h = some r → ox_cs as ≤ 3 ∧ ox_le h r.2 ∧ ∃ n, ox_run (bsX12_kindOf f1) n 0 (lv_args 0 as) [] h = some r) : ox_Sem yX12_kindOf cX12_kindOf 3 (some .int) dp f := by
  refine ox_meth (bs := bsX12_kindOf f1) (by decide) hf ?_
  intro p l e R s m args below meth c g c0 t0 C hr hlk hnm hR rc hrc b
  unfold bsX12_kindOf
  refine ox_br (kX12_kindOf_0 C hr hlk hnm hR h1 e1 hrc) ?_
  refine ox_br (kX12_kindOf_13 C hr hlk hnm hR h1 e1 hrc) ?_
  refine ox_br (kX12_kindOf_14 C hr hlk hnm hR h1 e1 hrc) ?_
  refine ox_br (kX12_kindOf_33 C hr hlk hnm hR h1 e1 hrc) ?_
  refine ox_br (kX12_kindOf_46 C hr hlk hnm hR h1 e1 hrc) ?_
  refine ox_br (kX12_kindOf_71 C hr hlk hnm hR h1 e1 hrc) ?_
  refine ox_br (kX12_kindOf_79 C hr hlk hnm hR h1 e1 hrc) ?_
  refine ox_br (kX12_kindOf_80 C hr hlk hnm hR h1 e1 hrc) ?_
  exact s_no
theorem dX12_melt_0 : decode cX12_melt 0 = .ok (.aload_n 0, 1) := by decide +kernel
theorem dX12_melt_1 : decode cX12_melt 1 = .ok (.iconst 0, 1) := by decide +kernel
theorem dX12_melt_2 : decode cX12_melt 2 = .ok (.putfield 108, 3) := by decide +kernel
theorem dX12_melt_5 : decode cX12_melt 5 = .ok (.aload_n 0, 1) := by decide +kernel
theorem dX12_melt_6 : decode cX12_melt 6 = .ok (.iload_n 1, 1) := by decide +kernel
theorem dX12_melt_7 : decode cX12_melt 7 = .ok (.invokevirtual 300, 3) := by decide +kernel
theorem dX12_melt_10 : decode cX12_melt 10 = .ok (.ifCond .ne 6, 3) := by decide +kernel
theorem dX12_melt_13 : decode cX12_melt 13 = .ok (.ldc 127, 2) := by decide +kernel
theorem dX12_melt_15 : decode cX12_melt 15 = .ok (.ireturn, 1) := by decide +kernel
theorem dX12_melt_16 : decode cX12_melt 16 = .ok (.aload_n 0, 1) := by decide +kernel
theorem dX12_melt_17 : decode cX12_melt 17 = .ok (.iload_n 1, 1) := by decide +kernel
theorem dX12_melt_18 : decode cX12_melt 18 = .ok (.invokevirtual 309, 3) := by decide +kernel
theorem dX12_melt_21 : decode cX12_melt 21 = .ok (.iconst 3, 1) := by decide +kernel
theorem dX12_melt_22 : decode cX12_melt 22 = .ok (.if_icmp .lt 12, 3) := by decide +kernel
theorem dX12_melt_25 : decode cX12_melt 25 = .ok (.aload_n 0, 1) := by decide +kernel
theorem dX12_melt_26 : decode cX12_melt 26 = .ok (.getfield 93, 3) := by decide +kernel
theorem dX12_melt_29 : decode cX12_melt 29 = .ok (.iload_n 1, 1) := by decide +kernel
theorem dX12_melt_30 : decode cX12_melt 30 = .ok (.baload, 1) := by decide +kernel
theorem dX12_melt_31 : decode cX12_melt 31 = .ok (.ifCond .eq 6, 3) := by decide +kernel
theorem dX12_melt_34 : decode cX12_melt 34 = .ok (.ldc 243, 2) := by decide +kernel
theorem dX12_melt_36 : decode cX12_melt 36 = .ok (.ireturn, 1) := by decide +kernel
theorem dX12_melt_37 : decode cX12_melt 37 = .ok (.aload_n 0, 1) := by decide +kernel
theorem dX12_melt_38 : decode cX12_melt 38 = .ok (.getfield 93, 3) := by decide +kernel
theorem dX12_melt_41 : decode cX12_melt 41 = .ok (.iload_n 1, 1) := by decide +kernel
theorem dX12_melt_42 : decode cX12_melt 42 = .ok (.iconst 1, 1) := by decide +kernel
theorem dX12_melt_43 : decode cX12_melt 43 = .ok (.bastore, 1) := by decide +kernel
theorem dX12_melt_44 : decode cX12_melt 44 = .ok (.aload_n 0, 1) := by decide +kernel
theorem dX12_melt_45 : decode cX12_melt 45 = .ok (.getfield 34, 3) := by decide +kernel
theorem dX12_melt_48 : decode cX12_melt 48 = .ok (.aload_n 0, 1) := by decide +kernel
theorem dX12_melt_49 : decode cX12_melt 49 = .ok (.iload_n 1, 1) := by decide +kernel
theorem dX12_melt_50 : decode cX12_melt 50 = .ok (.iconst 2, 1) := by decide +kernel
theorem dX12_melt_51 : decode cX12_melt 51 = .ok (.invokevirtual 303, 3) := by decide +kernel
theorem dX12_melt_54 : decode cX12_melt 54 = .ok (.dup2, 1) := by decide +kernel
theorem dX12_melt_55 : decode cX12_melt 55 = .ok (.iaload, 1) := by decide +kernel
theorem dX12_melt_56 : decode cX12_melt 56 = .ok (.aload_n 0, 1) := by decide +kernel
theorem dX12_melt_57 : decode cX12_melt 57 = .ok (.iload_n 1, 1) := by decide +kernel
theorem dX12_melt_58 : decode cX12_melt 58 = .ok (.iconst 0, 1) := by decide +kernel
theorem dX12_melt_59 : decode cX12_melt 59 = .ok (.invokevirtual 303, 3) := by decide +kernel
theorem dX12_melt_62 : decode cX12_melt 62 = .ok (.iadd, 1) := by decide +kernel
theorem dX12_melt_63 : decode cX12_melt 63 = .ok (.iastore, 1) := by decide +kernel
theorem dX12_melt_64 : decode cX12_melt 64 = .ok (.aload_n 0, 1) := by decide +kernel
theorem dX12_melt_65 : decode cX12_melt 65 = .ok (.getfield 34, 3) := by decide +kernel
theorem dX12_melt_68 : decode cX12_melt 68 = .ok (.aload_n 0, 1) := by decide +kernel
theorem dX12_melt_69 : decode cX12_melt 69 = .ok (.iload_n 1, 1) := by decide +kernel
theorem dX12_melt_70 : decode cX12_melt 70 = .ok (.iconst 2, 1) := by decide +kernel
theorem dX12_melt_71 : decode cX12_melt 71 = .ok (.invokevirtual 303, 3) := by decide +kernel
theorem dX12_melt_74 : decode cX12_melt 74 = .ok (.iaload, 1) := by decide +kernel
theorem dX12_melt_75 : decode cX12_melt 75 = .ok (.ireturn, 1) := by decide +kernel
def bX12_melt_0 (f1 f2 f3 : ox_F) (rc : Nat → ox_K) : ox_K := o_al 0 (o_ic (0) (o_puti 12 0 (o_al 0 (o_il 1 (o_cv f1 12 1 (o_ifne (rc 16) (o_ic (-1000001) (o_iret))))))))
def bX12_melt_16 (f1 f2 f3 : ox_F) (rc : Nat → ox_K) : ox_K := o_al 0 (o_il 1 (o_cv f2 12 1 (o_ic (3) (o_iclt (rc 34) (o_al 0 (o_getr 12 50 (o_il 1 (o_ba (o_ifeq (rc 37) (rc 34))))))))))
def bX12_melt_34 (f1 f2 f3 : ox_F) (rc : Nat → ox_K) : ox_K := o_ic (-1000002) (o_iret)
def bX12_melt_37 (f1 f2 f3 : ox_F) (rc : Nat → ox_K) : ox_K := o_al 0 (o_getr 12 50 (o_il 1 (o_ic (1) (o_zast (o_al 0 (o_getr 12 11 (o_al 0 (o_il 1 (o_ic (2) (o_cv f3 12 2 (o_dup2 (o_ia (o_al 0 (o_il 1 (o_ic (0) (o_cv f3 12 2 (o_iadd (o_iast (o_al 0 (o_getr 12 11 (o_al 0 (o_il 1 (o_ic (2) (o_cv f3 12 2 (o_ia (o_iret))))))))))))))))))))))))))
section SX12_melt
variable {p : Program} {l : Launch} {e : Env} {R : Room} {s : State} {m : MethodId} {args : Array Value} {below : List Frame} {meth : Method} {c : Code} {g : ox_G} {c0 t0 dp d1 d2 d3 : Nat} {rc : Nat → ox_K} {f1 f2 f3 : ox_F}
set_option maxRecDepth 100000 in
theorem kX12_melt_0 (C : ox_C p s m args c g 2 cX12_melt RX12) (hr : meth.sig.returnType = (some .int)) (hlk : meth.locks = false) (hnm : meth.name = "melt") (hR : R.frames = dp ∧ R.locals = 60 * dp) (h1 : ox_Sem yX12_isBar cX12_isBar 2 (some .boolean) d1 f1) (e1 : d1 + 1 ≤ dp) (h2 : ox_Sem yX12_kindOf cX12_kindOf 3 (some .int) d2 f2) (e2 : d2 + 1 ≤ dp) (h3 : ox_Sem yX12_of cX12_of 3 (some .int) d3 f3) (e3 : d3 + 1 ≤ dp) (hrc : ∀ b, ox_S p l e R s m args below meth c g 2 c0 t0 (ox_QM g below args s c0 t0) b (rc b)) : ox_S p l e R s m args below meth c g 2 c0 t0 (ox_QM g below args s c0 t0) 0 (bX12_melt_0 f1 f2 f3 rc) := by
  refine s_aload_n (pc := 0) C dX12_melt_0 rfl ?_
  refine s_iconst (pc := 1) C dX12_melt_1 (by decide) ?_
  refine s_puti (pc := 2) (j := 0) (q := (RX12, TX12, 59)) C rfl (by decide) rfl (Or.inl rfl) wF_X12_108 dX12_melt_2 ?_
  refine s_aload_n (pc := 5) C dX12_melt_5 rfl ?_
  refine s_iload_n (pc := 6) C dX12_melt_6 rfl ?_
  refine s_cv (pc := 7) (q := (RX12, TX12, 59)) C h1 rfl wM_X12_300 wI_X12_isBar wS_X12_isBar wN_X12 wC_X12_isBar (by decide +kernel) (ox_lv hR e1 (by decide)) dX12_melt_7 ?_
  refine s_ifne (pc := 10) 16 C dX12_melt_10 (by decide) (hrc 16) ?_
  refine s_ldc (pc := 13) C wK_X12_127 dX12_melt_13 ?_
  exact s_iret (pc := 15) C hr hlk dX12_melt_15
set_option maxRecDepth 100000 in
theorem kX12_melt_16 (C : ox_C p s m args c g 2 cX12_melt RX12) (hr : meth.sig.returnType = (some .int)) (hlk : meth.locks = false) (hnm : meth.name = "melt") (hR : R.frames = dp ∧ R.locals = 60 * dp) (h1 : ox_Sem yX12_isBar cX12_isBar 2 (some .boolean) d1 f1) (e1 : d1 + 1 ≤ dp) (h2 : ox_Sem yX12_kindOf cX12_kindOf 3 (some .int) d2 f2) (e2 : d2 + 1 ≤ dp) (h3 : ox_Sem yX12_of cX12_of 3 (some .int) d3 f3) (e3 : d3 + 1 ≤ dp) (hrc : ∀ b, ox_S p l e R s m args below meth c g 2 c0 t0 (ox_QM g below args s c0 t0) b (rc b)) : ox_S p l e R s m args below meth c g 2 c0 t0 (ox_QM g below args s c0 t0) 16 (bX12_melt_16 f1 f2 f3 rc) := by
  refine s_aload_n (pc := 16) C dX12_melt_16 rfl ?_
  refine s_iload_n (pc := 17) C dX12_melt_17 rfl ?_
  refine s_cv (pc := 18) (q := (RX12, TX12, 59)) C h2 rfl wM_X12_309 wI_X12_kindOf wS_X12_kindOf wN_X12 wC_X12_kindOf (by decide +kernel) (ox_lv hR e2 (by decide)) dX12_melt_18 ?_
  refine s_iconst (pc := 21) C dX12_melt_21 (by decide) ?_
  refine s_icmplt (pc := 22) 34 C dX12_melt_22 (by decide) (hrc 34) ?_
  refine s_aload_n (pc := 25) C dX12_melt_25 rfl ?_
  refine s_getr (pc := 26) (j := 50) (q := (RX12, TX12, 59)) C rfl (by decide) rfl wF_X12_93 dX12_melt_26 ?_
  refine s_iload_n (pc := 29) C dX12_melt_29 rfl ?_
  refine s_ba (pc := 30) C dX12_melt_30 ?_
  refine s_ifeq (pc := 31) 37 C dX12_melt_31 (by decide) (hrc 37) ?_
  exact hrc 34
set_option maxRecDepth 100000 in
theorem kX12_melt_34 (C : ox_C p s m args c g 2 cX12_melt RX12) (hr : meth.sig.returnType = (some .int)) (hlk : meth.locks = false) (hnm : meth.name = "melt") (hR : R.frames = dp ∧ R.locals = 60 * dp) (h1 : ox_Sem yX12_isBar cX12_isBar 2 (some .boolean) d1 f1) (e1 : d1 + 1 ≤ dp) (h2 : ox_Sem yX12_kindOf cX12_kindOf 3 (some .int) d2 f2) (e2 : d2 + 1 ≤ dp) (h3 : ox_Sem yX12_of cX12_of 3 (some .int) d3 f3) (e3 : d3 + 1 ≤ dp) (hrc : ∀ b, ox_S p l e R s m args below meth c g 2 c0 t0 (ox_QM g below args s c0 t0) b (rc b)) : ox_S p l e R s m args below meth c g 2 c0 t0 (ox_QM g below args s c0 t0) 34 (bX12_melt_34 f1 f2 f3 rc) := by
  refine s_ldc (pc := 34) C wK_X12_243 dX12_melt_34 ?_
  exact s_iret (pc := 36) C hr hlk dX12_melt_36
set_option maxRecDepth 100000 in
theorem kX12_melt_37 (C : ox_C p s m args c g 2 cX12_melt RX12) (hr : meth.sig.returnType = (some .int)) (hlk : meth.locks = false) (hnm : meth.name = "melt") (hR : R.frames = dp ∧ R.locals = 60 * dp) (h1 : ox_Sem yX12_isBar cX12_isBar 2 (some .boolean) d1 f1) (e1 : d1 + 1 ≤ dp) (h2 : ox_Sem yX12_kindOf cX12_kindOf 3 (some .int) d2 f2) (e2 : d2 + 1 ≤ dp) (h3 : ox_Sem yX12_of cX12_of 3 (some .int) d3 f3) (e3 : d3 + 1 ≤ dp) (hrc : ∀ b, ox_S p l e R s m args below meth c g 2 c0 t0 (ox_QM g below args s c0 t0) b (rc b)) : ox_S p l e R s m args below meth c g 2 c0 t0 (ox_QM g below args s c0 t0) 37 (bX12_melt_37 f1 f2 f3 rc) := by
  refine s_aload_n (pc := 37) C dX12_melt_37 rfl ?_
  refine s_getr (pc := 38) (j := 50) (q := (RX12, TX12, 59)) C rfl (by decide) rfl wF_X12_93 dX12_melt_38 ?_
  refine s_iload_n (pc := 41) C dX12_melt_41 rfl ?_
  refine s_iconst (pc := 42) C dX12_melt_42 (by decide) ?_
  refine s_zast (pc := 43) C dX12_melt_43 ?_
  refine s_aload_n (pc := 44) C dX12_melt_44 rfl ?_
  refine s_getr (pc := 45) (j := 11) (q := (RX12, TX12, 59)) C rfl (by decide) rfl wF_X12_34 dX12_melt_45 ?_
  refine s_aload_n (pc := 48) C dX12_melt_48 rfl ?_
  refine s_iload_n (pc := 49) C dX12_melt_49 rfl ?_
  refine s_iconst (pc := 50) C dX12_melt_50 (by decide) ?_
  refine s_cv (pc := 51) (q := (RX12, TX12, 59)) C h3 rfl wM_X12_303 wI_X12_of wS_X12_of wN_X12 wC_X12_of (by decide +kernel) (ox_lv hR e3 (by decide)) dX12_melt_51 ?_
  refine s_dup2 (pc := 54) C dX12_melt_54 ?_
  refine s_ia (pc := 55) C dX12_melt_55 ?_
  refine s_aload_n (pc := 56) C dX12_melt_56 rfl ?_
  refine s_iload_n (pc := 57) C dX12_melt_57 rfl ?_
  refine s_iconst (pc := 58) C dX12_melt_58 (by decide) ?_
  refine s_cv (pc := 59) (q := (RX12, TX12, 59)) C h3 rfl wM_X12_303 wI_X12_of wS_X12_of wN_X12 wC_X12_of (by decide +kernel) (ox_lv hR e3 (by decide)) dX12_melt_59 ?_
  refine s_iadd (pc := 62) C dX12_melt_62 ?_
  refine s_iast (pc := 63) C dX12_melt_63 ?_
  refine s_aload_n (pc := 64) C dX12_melt_64 rfl ?_
  refine s_getr (pc := 65) (j := 11) (q := (RX12, TX12, 59)) C rfl (by decide) rfl wF_X12_34 dX12_melt_65 ?_
  refine s_aload_n (pc := 68) C dX12_melt_68 rfl ?_
  refine s_iload_n (pc := 69) C dX12_melt_69 rfl ?_
  refine s_iconst (pc := 70) C dX12_melt_70 (by decide) ?_
  refine s_cv (pc := 71) (q := (RX12, TX12, 59)) C h3 rfl wM_X12_303 wI_X12_of wS_X12_of wN_X12 wC_X12_of (by decide +kernel) (ox_lv hR e3 (by decide)) dX12_melt_71 ?_
  refine s_ia (pc := 74) C dX12_melt_74 ?_
  exact s_iret (pc := 75) C hr hlk dX12_melt_75
end SX12_melt
def bsX12_melt (f1 f2 f3 : ox_F) (b : Nat) (rc : Nat → ox_K) : ox_K := if b = 0 then bX12_melt_0 f1 f2 f3 rc else if b = 16 then bX12_melt_16 f1 f2 f3 rc else if b = 34 then bX12_melt_34 f1 f2 f3 rc else if b = 37 then bX12_melt_37 f1 f2 f3 rc else ox_no
theorem mX12_melt {dp d1 d2 d3 : Nat} {f1 f2 f3 f : ox_F} (h1 : ox_Sem yX12_isBar cX12_isBar 2 (some .boolean) d1 f1) (e1 : d1 + 1 ≤ dp) (h2 : ox_Sem yX12_kindOf cX12_kindOf 3 (some .int) d2 f2) (e2 : d2 + 1 ≤ dp) (h3 : ox_Sem yX12_of cX12_of 3 (some .int) d3 f3) (e3 : d3 + 1 ≤ dp) (hf : ∀ as h r, f as h = some r → ox_cs as ≤ 2 ∧ ox_le h r.2 ∧ ∃ n, ox_run (bsX12_melt f1 f2 f3) n 0 (lv_args 0 as) [] h = some r) : ox_Sem yX12_melt cX12_melt 2 (some .int) dp f := by
  refine ox_meth (bs := bsX12_melt f1 f2 f3) (by decide) hf ?_
  intro p l e R s m args below meth c g c0 t0 C hr hlk hnm hR rc hrc b
  unfold bsX12_melt
  refine ox_br (kX12_melt_0 C hr hlk hnm hR h1 e1 h2 e2 h3 e3 hrc) ?_
  refine ox_br (kX12_melt_16 C hr hlk hnm hR h1 e1 h2 e2 h3 e3 hrc) ?_
  refine ox_br (kX12_melt_34 C hr hlk hnm hR h1 e1 h2 e2 h3 e3 hrc) ?_
  refine ox_br (kX12_melt_37 C hr hlk hnm hR h1 e1 h2 e2 h3 e3 hrc) ?_
  exact s_no
theorem dX12_bin_0 : decode cX12_bin 0 = .ok (.aload_n 0, 1) := by decide +kernel
theorem dX12_bin_1 : decode cX12_bin 1 = .ok (.iconst 0, 1) := by decide +kernel
theorem dX12_bin_2 : decode cX12_bin 2 = .ok (.putfield 108, 3) := by decide +kernel
theorem dX12_bin_5 : decode cX12_bin 5 = .ok (.aload_n 0, 1) := by decide +kernel
theorem dX12_bin_6 : decode cX12_bin 6 = .ok (.iload_n 1, 1) := by decide +kernel
theorem dX12_bin_7 : decode cX12_bin 7 = .ok (.invokevirtual 219, 3) := by decide +kernel
theorem dX12_bin_10 : decode cX12_bin 10 = .ok (.ifCond .eq 12, 3) := by decide +kernel
theorem dX12_bin_13 : decode cX12_bin 13 = .ok (.aload_n 0, 1) := by decide +kernel
theorem dX12_bin_14 : decode cX12_bin 14 = .ok (.getfield 34, 3) := by decide +kernel
theorem dX12_bin_17 : decode cX12_bin 17 = .ok (.iload_n 1, 1) := by decide +kernel
theorem dX12_bin_18 : decode cX12_bin 18 = .ok (.iaload, 1) := by decide +kernel
theorem dX12_bin_19 : decode cX12_bin 19 = .ok (.goto 5, 3) := by decide +kernel
theorem dX12_bin_22 : decode cX12_bin 22 = .ok (.ldc 127, 2) := by decide +kernel
theorem dX12_bin_24 : decode cX12_bin 24 = .ok (.ireturn, 1) := by decide +kernel
def bX12_bin_0 (f1 : ox_F) (rc : Nat → ox_K) : ox_K := o_al 0 (o_ic (0) (o_puti 12 0 (o_al 0 (o_il 1 (o_cv f1 12 1 (o_ifeq (rc 22) (o_al 0 (o_getr 12 11 (o_il 1 (o_ia (rc 24)))))))))))
def bX12_bin_22 (f1 : ox_F) (rc : Nat → ox_K) : ox_K := o_ic (-1000001) (rc 24)
def bX12_bin_24 (f1 : ox_F) (rc : Nat → ox_K) : ox_K := o_iret
section SX12_bin
variable {p : Program} {l : Launch} {e : Env} {R : Room} {s : State} {m : MethodId} {args : Array Value} {below : List Frame} {meth : Method} {c : Code} {g : ox_G} {c0 t0 dp d1 : Nat} {rc : Nat → ox_K} {f1 : ox_F}
set_option maxRecDepth 100000 in
theorem kX12_bin_0 (C : ox_C p s m args c g 2 cX12_bin RX12) (hr : meth.sig.returnType = (some .int)) (hlk : meth.locks = false) (hnm : meth.name = "bin") (hR : R.frames = dp ∧ R.locals = 60 * dp) (h1 : ox_Sem yX12_isRecipe cX12_isRecipe 2 (some .boolean) d1 f1) (e1 : d1 + 1 ≤ dp) (hrc : ∀ b, ox_S p l e R s m args below meth c g 2 c0 t0 (ox_QM g below args s c0 t0) b (rc b)) : ox_S p l e R s m args below meth c g 2 c0 t0 (ox_QM g below args s c0 t0) 0 (bX12_bin_0 f1 rc) := by
  refine s_aload_n (pc := 0) C dX12_bin_0 rfl ?_
  refine s_iconst (pc := 1) C dX12_bin_1 (by decide) ?_
  refine s_puti (pc := 2) (j := 0) (q := (RX12, TX12, 59)) C rfl (by decide) rfl (Or.inl rfl) wF_X12_108 dX12_bin_2 ?_
  refine s_aload_n (pc := 5) C dX12_bin_5 rfl ?_
  refine s_iload_n (pc := 6) C dX12_bin_6 rfl ?_
  refine s_cv (pc := 7) (q := (RX12, TX12, 59)) C h1 rfl wM_X12_219 wI_X12_isRecipe wS_X12_isRecipe wN_X12 wC_X12_isRecipe (by decide +kernel) (ox_lv hR e1 (by decide)) dX12_bin_7 ?_
  refine s_ifeq (pc := 10) 22 C dX12_bin_10 (by decide) (hrc 22) ?_
  refine s_aload_n (pc := 13) C dX12_bin_13 rfl ?_
  refine s_getr (pc := 14) (j := 11) (q := (RX12, TX12, 59)) C rfl (by decide) rfl wF_X12_34 dX12_bin_14 ?_
  refine s_iload_n (pc := 17) C dX12_bin_17 rfl ?_
  refine s_ia (pc := 18) C dX12_bin_18 ?_
  exact s_goto (pc := 19) 24 C dX12_bin_19 (by decide) (hrc 24)
set_option maxRecDepth 100000 in
theorem kX12_bin_22 (C : ox_C p s m args c g 2 cX12_bin RX12) (hr : meth.sig.returnType = (some .int)) (hlk : meth.locks = false) (hnm : meth.name = "bin") (hR : R.frames = dp ∧ R.locals = 60 * dp) (h1 : ox_Sem yX12_isRecipe cX12_isRecipe 2 (some .boolean) d1 f1) (e1 : d1 + 1 ≤ dp) (hrc : ∀ b, ox_S p l e R s m args below meth c g 2 c0 t0 (ox_QM g below args s c0 t0) b (rc b)) : ox_S p l e R s m args below meth c g 2 c0 t0 (ox_QM g below args s c0 t0) 22 (bX12_bin_22 f1 rc) := by
  refine s_ldc (pc := 22) C wK_X12_127 dX12_bin_22 ?_
  exact hrc 24
set_option maxRecDepth 100000 in
theorem kX12_bin_24 (C : ox_C p s m args c g 2 cX12_bin RX12) (hr : meth.sig.returnType = (some .int)) (hlk : meth.locks = false) (hnm : meth.name = "bin") (hR : R.frames = dp ∧ R.locals = 60 * dp) (h1 : ox_Sem yX12_isRecipe cX12_isRecipe 2 (some .boolean) d1 f1) (e1 : d1 + 1 ≤ dp) (hrc : ∀ b, ox_S p l e R s m args below meth c g 2 c0 t0 (ox_QM g below args s c0 t0) b (rc b)) : ox_S p l e R s m args below meth c g 2 c0 t0 (ox_QM g below args s c0 t0) 24 (bX12_bin_24 f1 rc) := by
  exact s_iret (pc := 24) C hr hlk dX12_bin_24
end SX12_bin
def bsX12_bin (f1 : ox_F) (b : Nat) (rc : Nat → ox_K) : ox_K := if b = 0 then bX12_bin_0 f1 rc else if b = 22 then bX12_bin_22 f1 rc else if b = 24 then bX12_bin_24 f1 rc else ox_no
theorem mX12_bin {dp d1 : Nat} {f1 f : ox_F} (h1 : ox_Sem yX12_isRecipe cX12_isRecipe 2 (some .boolean) d1 f1) (e1 : d1 + 1 ≤ dp) (hf : ∀ as h r, f as h = some r → ox_cs as ≤ 2 ∧ ox_le h r.2 ∧ ∃ n, ox_run (bsX12_bin f1) n 0 (lv_args 0 as) [] h = some r) : ox_Sem yX12_bin cX12_bin 2 (some .int) dp f := by
  refine ox_meth (bs := bsX12_bin f1) (by decide) hf ?_
  intro p l e R s m args below meth c g c0 t0 C hr hlk hnm hR rc hrc b
  unfold bsX12_bin
  refine ox_br (kX12_bin_0 C hr hlk hnm hR h1 e1 hrc) ?_
  refine ox_br (kX12_bin_22 C hr hlk hnm hR h1 e1 hrc) ?_
  refine ox_br (kX12_bin_24 C hr hlk hnm hR h1 e1 hrc) ?_
  exact s_no
theorem dX12_grams_0 : decode cX12_grams 0 = .ok (.aload_n 0, 1) := by decide +kernel
theorem dX12_grams_1 : decode cX12_grams 1 = .ok (.iconst 0, 1) := by decide +kernel
theorem dX12_grams_2 : decode cX12_grams 2 = .ok (.putfield 108, 3) := by decide +kernel
theorem dX12_grams_5 : decode cX12_grams 5 = .ok (.iconst 0, 1) := by decide +kernel
theorem dX12_grams_6 : decode cX12_grams 6 = .ok (.istore_n 2, 1) := by decide +kernel
theorem dX12_grams_7 : decode cX12_grams 7 = .ok (.iload_n 1, 1) := by decide +kernel
theorem dX12_grams_8 : decode cX12_grams 8 = .ok (.tableswitch 111 0 5 #[40, 45, 69, 96, 101, 106], 40) := by decide +kernel
theorem dX12_grams_48 : decode cX12_grams 48 = .ok (.aload_n 0, 1) := by decide +kernel
theorem dX12_grams_49 : decode cX12_grams 49 = .ok (.getfield 244, 3) := by decide +kernel
theorem dX12_grams_52 : decode cX12_grams 52 = .ok (.ireturn, 1) := by decide +kernel
theorem dX12_grams_53 : decode cX12_grams 53 = .ok (.iconst 0, 1) := by decide +kernel
theorem dX12_grams_54 : decode cX12_grams 54 = .ok (.istore_n 3, 1) := by decide +kernel
theorem dX12_grams_55 : decode cX12_grams 55 = .ok (.iload_n 3, 1) := by decide +kernel
theorem dX12_grams_56 : decode cX12_grams 56 = .ok (.iconst 4, 1) := by decide +kernel
theorem dX12_grams_57 : decode cX12_grams 57 = .ok (.if_icmp .ge 18, 3) := by decide +kernel
theorem dX12_grams_60 : decode cX12_grams 60 = .ok (.iload_n 2, 1) := by decide +kernel
theorem dX12_grams_61 : decode cX12_grams 61 = .ok (.aload_n 0, 1) := by decide +kernel
theorem dX12_grams_62 : decode cX12_grams 62 = .ok (.getfield 40, 3) := by decide +kernel
theorem dX12_grams_65 : decode cX12_grams 65 = .ok (.iload_n 3, 1) := by decide +kernel
theorem dX12_grams_66 : decode cX12_grams 66 = .ok (.iaload, 1) := by decide +kernel
theorem dX12_grams_67 : decode cX12_grams 67 = .ok (.iadd, 1) := by decide +kernel
theorem dX12_grams_68 : decode cX12_grams 68 = .ok (.istore_n 2, 1) := by decide +kernel
theorem dX12_grams_69 : decode cX12_grams 69 = .ok (.iinc 3 1, 3) := by decide +kernel
theorem dX12_grams_72 : decode cX12_grams 72 = .ok (.goto (-17), 3) := by decide +kernel
theorem dX12_grams_75 : decode cX12_grams 75 = .ok (.iload_n 2, 1) := by decide +kernel
theorem dX12_grams_76 : decode cX12_grams 76 = .ok (.ireturn, 1) := by decide +kernel
theorem dX12_grams_77 : decode cX12_grams 77 = .ok (.iconst 0, 1) := by decide +kernel
theorem dX12_grams_78 : decode cX12_grams 78 = .ok (.istore_n 3, 1) := by decide +kernel
theorem dX12_grams_79 : decode cX12_grams 79 = .ok (.iload_n 3, 1) := by decide +kernel
theorem dX12_grams_80 : decode cX12_grams 80 = .ok (.aload_n 0, 1) := by decide +kernel
theorem dX12_grams_81 : decode cX12_grams 81 = .ok (.getfield 58, 3) := by decide +kernel
theorem dX12_grams_84 : decode cX12_grams 84 = .ok (.if_icmp .ge 18, 3) := by decide +kernel
theorem dX12_grams_87 : decode cX12_grams 87 = .ok (.iload_n 2, 1) := by decide +kernel
theorem dX12_grams_88 : decode cX12_grams 88 = .ok (.aload_n 0, 1) := by decide +kernel
theorem dX12_grams_89 : decode cX12_grams 89 = .ok (.getfield 62, 3) := by decide +kernel
theorem dX12_grams_92 : decode cX12_grams 92 = .ok (.iload_n 3, 1) := by decide +kernel
theorem dX12_grams_93 : decode cX12_grams 93 = .ok (.iaload, 1) := by decide +kernel
theorem dX12_grams_94 : decode cX12_grams 94 = .ok (.iadd, 1) := by decide +kernel
theorem dX12_grams_95 : decode cX12_grams 95 = .ok (.istore_n 2, 1) := by decide +kernel
theorem dX12_grams_96 : decode cX12_grams 96 = .ok (.iinc 3 1, 3) := by decide +kernel
theorem dX12_grams_99 : decode cX12_grams 99 = .ok (.goto (-20), 3) := by decide +kernel
theorem dX12_grams_102 : decode cX12_grams 102 = .ok (.iload_n 2, 1) := by decide +kernel
theorem dX12_grams_103 : decode cX12_grams 103 = .ok (.ireturn, 1) := by decide +kernel
theorem dX12_grams_104 : decode cX12_grams 104 = .ok (.aload_n 0, 1) := by decide +kernel
theorem dX12_grams_105 : decode cX12_grams 105 = .ok (.getfield 294, 3) := by decide +kernel
theorem dX12_grams_108 : decode cX12_grams 108 = .ok (.ireturn, 1) := by decide +kernel
theorem dX12_grams_109 : decode cX12_grams 109 = .ok (.aload_n 0, 1) := by decide +kernel
theorem dX12_grams_110 : decode cX12_grams 110 = .ok (.getfield 247, 3) := by decide +kernel
theorem dX12_grams_113 : decode cX12_grams 113 = .ok (.ireturn, 1) := by decide +kernel
theorem dX12_grams_114 : decode cX12_grams 114 = .ok (.aload_n 0, 1) := by decide +kernel
theorem dX12_grams_115 : decode cX12_grams 115 = .ok (.getfield 297, 3) := by decide +kernel
theorem dX12_grams_118 : decode cX12_grams 118 = .ok (.ireturn, 1) := by decide +kernel
theorem dX12_grams_119 : decode cX12_grams 119 = .ok (.ldc 127, 2) := by decide +kernel
theorem dX12_grams_121 : decode cX12_grams 121 = .ok (.ireturn, 1) := by decide +kernel
def bX12_grams_0 (rc : Nat → ox_K) : ox_K := o_al 0 (o_ic (0) (o_puti 12 0 (o_ic (0) (o_is 2 (o_il 1 (o_tsw 0 [rc 48, rc 53, rc 77, rc 104, rc 109, rc 114] (rc 119)))))))
def bX12_grams_48 (rc : Nat → ox_K) : ox_K := o_al 0 (o_geti 12 31 (o_iret))
def bX12_grams_53 (rc : Nat → ox_K) : ox_K := o_ic (0) (o_is 3 (rc 55))
def bX12_grams_55 (rc : Nat → ox_K) : ox_K := o_keep [0, 2, 3] (o_il 3 (o_ic (4) (o_icge (rc 75) (o_il 2 (o_al 0 (o_getr 12 25 (o_il 3 (o_ia (o_iadd (o_is 2 (o_inc 3 (1) (rc 55))))))))))))
def bX12_grams_75 (rc : Nat → ox_K) : ox_K := o_il 2 (o_iret)
def bX12_grams_77 (rc : Nat → ox_K) : ox_K := o_ic (0) (o_is 3 (rc 79))
def bX12_grams_79 (rc : Nat → ox_K) : ox_K := o_keep [0, 2, 3] (o_il 3 (o_al 0 (o_geti 12 33 (o_icge (rc 102) (o_il 2 (o_al 0 (o_getr 12 35 (o_il 3 (o_ia (o_iadd (o_is 2 (o_inc 3 (1) (rc 79)))))))))))))
def bX12_grams_102 (rc : Nat → ox_K) : ox_K := o_il 2 (o_iret)
def bX12_grams_104 (rc : Nat → ox_K) : ox_K := o_al 0 (o_geti 12 52 (o_iret))
def bX12_grams_109 (rc : Nat → ox_K) : ox_K := o_al 0 (o_geti 12 32 (o_iret))
def bX12_grams_114 (rc : Nat → ox_K) : ox_K := o_al 0 (o_geti 12 53 (o_iret))
def bX12_grams_119 (rc : Nat → ox_K) : ox_K := o_ic (-1000001) (o_iret)
section SX12_grams
variable {p : Program} {l : Launch} {e : Env} {R : Room} {s : State} {m : MethodId} {args : Array Value} {below : List Frame} {meth : Method} {c : Code} {g : ox_G} {c0 t0 dp  : Nat} {rc : Nat → ox_K}
set_option maxRecDepth 100000 in
theorem kX12_grams_0 (C : ox_C p s m args c g 4 cX12_grams RX12) (hr : meth.sig.returnType = (some .int)) (hlk : meth.locks = false) (hnm : meth.name = "grams") (hR : R.frames = dp ∧ R.locals = 60 * dp) (hrc : ∀ b, ox_S p l e R s m args below meth c g 4 c0 t0 (ox_QM g below args s c0 t0) b (rc b)) : ox_S p l e R s m args below meth c g 4 c0 t0 (ox_QM g below args s c0 t0) 0 (bX12_grams_0 rc) := by
  refine s_aload_n (pc := 0) C dX12_grams_0 rfl ?_
  refine s_iconst (pc := 1) C dX12_grams_1 (by decide) ?_
  refine s_puti (pc := 2) (j := 0) (q := (RX12, TX12, 59)) C rfl (by decide) rfl (Or.inl rfl) wF_X12_108 dX12_grams_2 ?_
  refine s_iconst (pc := 5) C dX12_grams_5 (by decide) ?_
  refine s_istore_n (pc := 6) C dX12_grams_6 rfl (by decide) ?_
  refine s_iload_n (pc := 7) C dX12_grams_7 rfl ?_
  exact s_tsw (pc := 8) 119 [48, 53, 77, 104, 109, 114] C dX12_grams_8 (by decide) rfl (by decide +kernel) (hrc 119) (ox_ts hrc [48, 53, 77, 104, 109, 114]) rfl
set_option maxRecDepth 100000 in
theorem kX12_grams_48 (C : ox_C p s m args c g 4 cX12_grams RX12) (hr : meth.sig.returnType = (some .int)) (hlk : meth.locks = false) (hnm : meth.name = "grams") (hR : R.frames = dp ∧ R.locals = 60 * dp) (hrc : ∀ b, ox_S p l e R s m args below meth c g 4 c0 t0 (ox_QM g below args s c0 t0) b (rc b)) : ox_S p l e R s m args below meth c g 4 c0 t0 (ox_QM g below args s c0 t0) 48 (bX12_grams_48 rc) := by
  refine s_aload_n (pc := 48) C dX12_grams_48 rfl ?_
  refine s_geti (pc := 49) (j := 31) (q := (RX12, TX12, 59)) C rfl (by decide) rfl wF_X12_244 dX12_grams_49 ?_
  exact s_iret (pc := 52) C hr hlk dX12_grams_52
set_option maxRecDepth 100000 in
theorem kX12_grams_53 (C : ox_C p s m args c g 4 cX12_grams RX12) (hr : meth.sig.returnType = (some .int)) (hlk : meth.locks = false) (hnm : meth.name = "grams") (hR : R.frames = dp ∧ R.locals = 60 * dp) (hrc : ∀ b, ox_S p l e R s m args below meth c g 4 c0 t0 (ox_QM g below args s c0 t0) b (rc b)) : ox_S p l e R s m args below meth c g 4 c0 t0 (ox_QM g below args s c0 t0) 53 (bX12_grams_53 rc) := by
  refine s_iconst (pc := 53) C dX12_grams_53 (by decide) ?_
  refine s_istore_n (pc := 54) C dX12_grams_54 rfl (by decide) ?_
  exact hrc 55
set_option maxRecDepth 100000 in
theorem kX12_grams_55 (C : ox_C p s m args c g 4 cX12_grams RX12) (hr : meth.sig.returnType = (some .int)) (hlk : meth.locks = false) (hnm : meth.name = "grams") (hR : R.frames = dp ∧ R.locals = 60 * dp) (hrc : ∀ b, ox_S p l e R s m args below meth c g 4 c0 t0 (ox_QM g below args s c0 t0) b (rc b)) : ox_S p l e R s m args below meth c g 4 c0 t0 (ox_QM g below args s c0 t0) 55 (bX12_grams_55 rc) := by
  refine s_keep ?_
  refine s_iload_n (pc := 55) C dX12_grams_55 rfl ?_
  refine s_iconst (pc := 56) C dX12_grams_56 (by decide) ?_
  refine s_icmpge (pc := 57) 75 C dX12_grams_57 (by decide) (hrc 75) ?_
  refine s_iload_n (pc := 60) C dX12_grams_60 rfl ?_
  refine s_aload_n (pc := 61) C dX12_grams_61 rfl ?_
  refine s_getr (pc := 62) (j := 25) (q := (RX12, TX12, 59)) C rfl (by decide) rfl wF_X12_40 dX12_grams_62 ?_
  refine s_iload_n (pc := 65) C dX12_grams_65 rfl ?_
  refine s_ia (pc := 66) C dX12_grams_66 ?_
  refine s_iadd (pc := 67) C dX12_grams_67 ?_
  refine s_istore_n (pc := 68) C dX12_grams_68 rfl (by decide) ?_
  refine s_iinc (pc := 69) C dX12_grams_69 (by decide) (by decide) ?_
  exact s_goto (pc := 72) 55 C dX12_grams_72 (by decide) (hrc 55)
set_option maxRecDepth 100000 in
theorem kX12_grams_75 (C : ox_C p s m args c g 4 cX12_grams RX12) (hr : meth.sig.returnType = (some .int)) (hlk : meth.locks = false) (hnm : meth.name = "grams") (hR : R.frames = dp ∧ R.locals = 60 * dp) (hrc : ∀ b, ox_S p l e R s m args below meth c g 4 c0 t0 (ox_QM g below args s c0 t0) b (rc b)) : ox_S p l e R s m args below meth c g 4 c0 t0 (ox_QM g below args s c0 t0) 75 (bX12_grams_75 rc) := by
  refine s_iload_n (pc := 75) C dX12_grams_75 rfl ?_
  exact s_iret (pc := 76) C hr hlk dX12_grams_76
set_option maxRecDepth 100000 in
theorem kX12_grams_77 (C : ox_C p s m args c g 4 cX12_grams RX12) (hr : meth.sig.returnType = (some .int)) (hlk : meth.locks = false) (hnm : meth.name = "grams") (hR : R.frames = dp ∧ R.locals = 60 * dp) (hrc : ∀ b, ox_S p l e R s m args below meth c g 4 c0 t0 (ox_QM g below args s c0 t0) b (rc b)) : ox_S p l e R s m args below meth c g 4 c0 t0 (ox_QM g below args s c0 t0) 77 (bX12_grams_77 rc) := by
  refine s_iconst (pc := 77) C dX12_grams_77 (by decide) ?_
  refine s_istore_n (pc := 78) C dX12_grams_78 rfl (by decide) ?_
  exact hrc 79
set_option maxRecDepth 100000 in
theorem kX12_grams_79 (C : ox_C p s m args c g 4 cX12_grams RX12) (hr : meth.sig.returnType = (some .int)) (hlk : meth.locks = false) (hnm : meth.name = "grams") (hR : R.frames = dp ∧ R.locals = 60 * dp) (hrc : ∀ b, ox_S p l e R s m args below meth c g 4 c0 t0 (ox_QM g below args s c0 t0) b (rc b)) : ox_S p l e R s m args below meth c g 4 c0 t0 (ox_QM g below args s c0 t0) 79 (bX12_grams_79 rc) := by
  refine s_keep ?_
  refine s_iload_n (pc := 79) C dX12_grams_79 rfl ?_
  refine s_aload_n (pc := 80) C dX12_grams_80 rfl ?_
  refine s_geti (pc := 81) (j := 33) (q := (RX12, TX12, 59)) C rfl (by decide) rfl wF_X12_58 dX12_grams_81 ?_
  refine s_icmpge (pc := 84) 102 C dX12_grams_84 (by decide) (hrc 102) ?_
  refine s_iload_n (pc := 87) C dX12_grams_87 rfl ?_
  refine s_aload_n (pc := 88) C dX12_grams_88 rfl ?_
  refine s_getr (pc := 89) (j := 35) (q := (RX12, TX12, 59)) C rfl (by decide) rfl wF_X12_62 dX12_grams_89 ?_
  refine s_iload_n (pc := 92) C dX12_grams_92 rfl ?_
  refine s_ia (pc := 93) C dX12_grams_93 ?_
  refine s_iadd (pc := 94) C dX12_grams_94 ?_
  refine s_istore_n (pc := 95) C dX12_grams_95 rfl (by decide) ?_
  refine s_iinc (pc := 96) C dX12_grams_96 (by decide) (by decide) ?_
  exact s_goto (pc := 99) 79 C dX12_grams_99 (by decide) (hrc 79)
set_option maxRecDepth 100000 in
theorem kX12_grams_102 (C : ox_C p s m args c g 4 cX12_grams RX12) (hr : meth.sig.returnType = (some .int)) (hlk : meth.locks = false) (hnm : meth.name = "grams") (hR : R.frames = dp ∧ R.locals = 60 * dp) (hrc : ∀ b, ox_S p l e R s m args below meth c g 4 c0 t0 (ox_QM g below args s c0 t0) b (rc b)) : ox_S p l e R s m args below meth c g 4 c0 t0 (ox_QM g below args s c0 t0) 102 (bX12_grams_102 rc) := by
  refine s_iload_n (pc := 102) C dX12_grams_102 rfl ?_
  exact s_iret (pc := 103) C hr hlk dX12_grams_103
set_option maxRecDepth 100000 in
theorem kX12_grams_104 (C : ox_C p s m args c g 4 cX12_grams RX12) (hr : meth.sig.returnType = (some .int)) (hlk : meth.locks = false) (hnm : meth.name = "grams") (hR : R.frames = dp ∧ R.locals = 60 * dp) (hrc : ∀ b, ox_S p l e R s m args below meth c g 4 c0 t0 (ox_QM g below args s c0 t0) b (rc b)) : ox_S p l e R s m args below meth c g 4 c0 t0 (ox_QM g below args s c0 t0) 104 (bX12_grams_104 rc) := by
  refine s_aload_n (pc := 104) C dX12_grams_104 rfl ?_
  refine s_geti (pc := 105) (j := 52) (q := (RX12, TX12, 59)) C rfl (by decide) rfl wF_X12_294 dX12_grams_105 ?_
  exact s_iret (pc := 108) C hr hlk dX12_grams_108
set_option maxRecDepth 100000 in
theorem kX12_grams_109 (C : ox_C p s m args c g 4 cX12_grams RX12) (hr : meth.sig.returnType = (some .int)) (hlk : meth.locks = false) (hnm : meth.name = "grams") (hR : R.frames = dp ∧ R.locals = 60 * dp) (hrc : ∀ b, ox_S p l e R s m args below meth c g 4 c0 t0 (ox_QM g below args s c0 t0) b (rc b)) : ox_S p l e R s m args below meth c g 4 c0 t0 (ox_QM g below args s c0 t0) 109 (bX12_grams_109 rc) := by
  refine s_aload_n (pc := 109) C dX12_grams_109 rfl ?_
  refine s_geti (pc := 110) (j := 32) (q := (RX12, TX12, 59)) C rfl (by decide) rfl wF_X12_247 dX12_grams_110 ?_
  exact s_iret (pc := 113) C hr hlk dX12_grams_113
set_option maxRecDepth 100000 in
theorem kX12_grams_114 (C : ox_C p s m args c g 4 cX12_grams RX12) (hr : meth.sig.returnType = (some .int)) (hlk : meth.locks = false) (hnm : meth.name = "grams") (hR : R.frames = dp ∧ R.locals = 60 * dp) (hrc : ∀ b, ox_S p l e R s m args below meth c g 4 c0 t0 (ox_QM g below args s c0 t0) b (rc b)) : ox_S p l e R s m args below meth c g 4 c0 t0 (ox_QM g below args s c0 t0) 114 (bX12_grams_114 rc) := by
  refine s_aload_n (pc := 114) C dX12_grams_114 rfl ?_
  refine s_geti (pc := 115) (j := 53) (q := (RX12, TX12, 59)) C rfl (by decide) rfl wF_X12_297 dX12_grams_115 ?_
  exact s_iret (pc := 118) C hr hlk dX12_grams_118
set_option maxRecDepth 100000 in
theorem kX12_grams_119 (C : ox_C p s m args c g 4 cX12_grams RX12) (hr : meth.sig.returnType = (some .int)) (hlk : meth.locks = false) (hnm : meth.name = "grams") (hR : R.frames = dp ∧ R.locals = 60 * dp) (hrc : ∀ b, ox_S p l e R s m args below meth c g 4 c0 t0 (ox_QM g below args s c0 t0) b (rc b)) : ox_S p l e R s m args below meth c g 4 c0 t0 (ox_QM g below args s c0 t0) 119 (bX12_grams_119 rc) := by
  refine s_ldc (pc := 119) C wK_X12_127 dX12_grams_119 ?_
  exact s_iret (pc := 121) C hr hlk dX12_grams_121
end SX12_grams
def bsX12_grams (b : Nat) (rc : Nat → ox_K) : ox_K := if b = 0 then bX12_grams_0 rc else if b = 48 then bX12_grams_48 rc else if b = 53 then bX12_grams_53 rc else if b = 55 then bX12_grams_55 rc else if b = 75 then bX12_grams_75 rc else if b = 77 then bX12_grams_77 rc else if b = 79 then bX12_grams_79 rc else if b = 102 then bX12_grams_102 rc else if b = 104 then bX12_grams_104 rc else if b = 109 then bX12_grams_109 rc else if b = 114 then bX12_grams_114 rc else if b = 119 then bX12_grams_119 rc else ox_no
theorem mX12_grams {dp  : Nat} {f : ox_F} (hf : ∀ as h r, f as h = some r → ox_cs as ≤ 4 ∧ ox_le h r.2 ∧ ∃ n, ox_run (bsX12_grams) n 0 (lv_args 0 as) [] h = some r) : ox_Sem yX12_grams cX12_grams 4 (some .int) dp f := by
  refine ox_meth (bs := bsX12_grams) (by decide) hf ?_
  intro p l e R s m args below meth c g c0 t0 C hr hlk hnm hR rc hrc b
  unfold bsX12_grams
  refine ox_br (kX12_grams_0 C hr hlk hnm hR hrc) ?_
  refine ox_br (kX12_grams_48 C hr hlk hnm hR hrc) ?_
  refine ox_br (kX12_grams_53 C hr hlk hnm hR hrc) ?_
  refine ox_br (kX12_grams_55 C hr hlk hnm hR hrc) ?_
  refine ox_br (kX12_grams_75 C hr hlk hnm hR hrc) ?_
  refine ox_br (kX12_grams_77 C hr hlk hnm hR hrc) ?_
  refine ox_br (kX12_grams_79 C hr hlk hnm hR hrc) ?_
  refine ox_br (kX12_grams_102 C hr hlk hnm hR hrc) ?_
  refine ox_br (kX12_grams_104 C hr hlk hnm hR hrc) ?_
  refine ox_br (kX12_grams_109 C hr hlk hnm hR hrc) ?_
  refine ox_br (kX12_grams_114 C hr hlk hnm hR hrc) ?_
  refine ox_br (kX12_grams_119 C hr hlk hnm hR hrc) ?_
  exact s_no
theorem dX12_bloom_0 : decode cX12_bloom 0 = .ok (.aload_n 0, 1) := by decide +kernel
theorem dX12_bloom_1 : decode cX12_bloom 1 = .ok (.iconst 0, 1) := by decide +kernel
theorem dX12_bloom_2 : decode cX12_bloom 2 = .ok (.putfield 108, 3) := by decide +kernel
theorem dX12_bloom_5 : decode cX12_bloom 5 = .ok (.aload_n 0, 1) := by decide +kernel
theorem dX12_bloom_6 : decode cX12_bloom 6 = .ok (.iload_n 1, 1) := by decide +kernel
theorem dX12_bloom_7 : decode cX12_bloom 7 = .ok (.invokevirtual 300, 3) := by decide +kernel
theorem dX12_bloom_10 : decode cX12_bloom 10 = .ok (.ifCond .eq 34, 3) := by decide +kernel
theorem dX12_bloom_13 : decode cX12_bloom 13 = .ok (.iload_n 2, 1) := by decide +kernel
theorem dX12_bloom_14 : decode cX12_bloom 14 = .ok (.invokestatic 121, 3) := by decide +kernel
theorem dX12_bloom_17 : decode cX12_bloom 17 = .ok (.ifCond .eq 27, 3) := by decide +kernel
theorem dX12_bloom_20 : decode cX12_bloom 20 = .ok (.iload 4, 2) := by decide +kernel
theorem dX12_bloom_22 : decode cX12_bloom 22 = .ok (.i2l, 1) := by decide +kernel
theorem dX12_bloom_23 : decode cX12_bloom 23 = .ok (.lconst 1, 1) := by decide +kernel
theorem dX12_bloom_24 : decode cX12_bloom 24 = .ok (.ldc2_w 312, 3) := by decide +kernel
theorem dX12_bloom_27 : decode cX12_bloom 27 = .ok (.invokestatic 117, 3) := by decide +kernel
theorem dX12_bloom_30 : decode cX12_bloom 30 = .ok (.ifCond .eq 14, 3) := by decide +kernel
theorem dX12_bloom_33 : decode cX12_bloom 33 = .ok (.iload 5, 2) := by decide +kernel
theorem dX12_bloom_35 : decode cX12_bloom 35 = .ok (.i2l, 1) := by decide +kernel
theorem dX12_bloom_36 : decode cX12_bloom 36 = .ok (.lconst 0, 1) := by decide +kernel
theorem dX12_bloom_37 : decode cX12_bloom 37 = .ok (.lconst 1, 1) := by decide +kernel
theorem dX12_bloom_38 : decode cX12_bloom 38 = .ok (.invokestatic 117, 3) := by decide +kernel
theorem dX12_bloom_41 : decode cX12_bloom 41 = .ok (.ifCond .ne 6, 3) := by decide +kernel
theorem dX12_bloom_44 : decode cX12_bloom 44 = .ok (.ldc 127, 2) := by decide +kernel
theorem dX12_bloom_46 : decode cX12_bloom 46 = .ok (.ireturn, 1) := by decide +kernel
theorem dX12_bloom_47 : decode cX12_bloom 47 = .ok (.aload_n 0, 1) := by decide +kernel
theorem dX12_bloom_48 : decode cX12_bloom 48 = .ok (.iload_n 2, 1) := by decide +kernel
theorem dX12_bloom_49 : decode cX12_bloom 49 = .ok (.iload_n 3, 1) := by decide +kernel
theorem dX12_bloom_50 : decode cX12_bloom 50 = .ok (.iconst 2, 1) := by decide +kernel
theorem dX12_bloom_51 : decode cX12_bloom 51 = .ok (.iload 4, 2) := by decide +kernel
theorem dX12_bloom_53 : decode cX12_bloom 53 = .ok (.imul, 1) := by decide +kernel
theorem dX12_bloom_54 : decode cX12_bloom 54 = .ok (.invokevirtual 314, 3) := by decide +kernel
theorem dX12_bloom_57 : decode cX12_bloom 57 = .ok (.istore 6, 2) := by decide +kernel
theorem dX12_bloom_59 : decode cX12_bloom 59 = .ok (.iload 6, 2) := by decide +kernel
theorem dX12_bloom_61 : decode cX12_bloom 61 = .ok (.ifCond .ge 6, 3) := by decide +kernel
theorem dX12_bloom_64 : decode cX12_bloom 64 = .ok (.iload 6, 2) := by decide +kernel
theorem dX12_bloom_66 : decode cX12_bloom 66 = .ok (.ireturn, 1) := by decide +kernel
theorem dX12_bloom_67 : decode cX12_bloom 67 = .ok (.iconst 0, 1) := by decide +kernel
theorem dX12_bloom_68 : decode cX12_bloom 68 = .ok (.istore 7, 2) := by decide +kernel
theorem dX12_bloom_70 : decode cX12_bloom 70 = .ok (.iconst 0, 1) := by decide +kernel
theorem dX12_bloom_71 : decode cX12_bloom 71 = .ok (.istore 8, 2) := by decide +kernel
theorem dX12_bloom_73 : decode cX12_bloom 73 = .ok (.iload 8, 2) := by decide +kernel
theorem dX12_bloom_75 : decode cX12_bloom 75 = .ok (.iload 4, 2) := by decide +kernel
theorem dX12_bloom_77 : decode cX12_bloom 77 = .ok (.if_icmp .ge 106, 3) := by decide +kernel
theorem dX12_bloom_80 : decode cX12_bloom 80 = .ok (.aload_n 0, 1) := by decide +kernel
theorem dX12_bloom_81 : decode cX12_bloom 81 = .ok (.getfield 16, 3) := by decide +kernel
theorem dX12_bloom_84 : decode cX12_bloom 84 = .ok (.bipush 60, 2) := by decide +kernel
theorem dX12_bloom_86 : decode cX12_bloom 86 = .ok (.iload_n 2, 1) := by decide +kernel
theorem dX12_bloom_87 : decode cX12_bloom 87 = .ok (.imul, 1) := by decide +kernel
theorem dX12_bloom_88 : decode cX12_bloom 88 = .ok (.iload_n 3, 1) := by decide +kernel
theorem dX12_bloom_89 : decode cX12_bloom 89 = .ok (.iadd, 1) := by decide +kernel
theorem dX12_bloom_90 : decode cX12_bloom 90 = .ok (.iconst 2, 1) := by decide +kernel
theorem dX12_bloom_91 : decode cX12_bloom 91 = .ok (.iload 8, 2) := by decide +kernel
theorem dX12_bloom_93 : decode cX12_bloom 93 = .ok (.imul, 1) := by decide +kernel
theorem dX12_bloom_94 : decode cX12_bloom 94 = .ok (.iadd, 1) := by decide +kernel
theorem dX12_bloom_95 : decode cX12_bloom 95 = .ok (.iaload, 1) := by decide +kernel
theorem dX12_bloom_96 : decode cX12_bloom 96 = .ok (.istore 9, 2) := by decide +kernel
theorem dX12_bloom_98 : decode cX12_bloom 98 = .ok (.aload_n 0, 1) := by decide +kernel
theorem dX12_bloom_99 : decode cX12_bloom 99 = .ok (.getfield 16, 3) := by decide +kernel
theorem dX12_bloom_102 : decode cX12_bloom 102 = .ok (.bipush 60, 2) := by decide +kernel
theorem dX12_bloom_104 : decode cX12_bloom 104 = .ok (.iload_n 2, 1) := by decide +kernel
theorem dX12_bloom_105 : decode cX12_bloom 105 = .ok (.imul, 1) := by decide +kernel
theorem dX12_bloom_106 : decode cX12_bloom 106 = .ok (.iload_n 3, 1) := by decide +kernel
theorem dX12_bloom_107 : decode cX12_bloom 107 = .ok (.iadd, 1) := by decide +kernel
theorem dX12_bloom_108 : decode cX12_bloom 108 = .ok (.iconst 2, 1) := by decide +kernel
theorem dX12_bloom_109 : decode cX12_bloom 109 = .ok (.iload 8, 2) := by decide +kernel
theorem dX12_bloom_111 : decode cX12_bloom 111 = .ok (.imul, 1) := by decide +kernel
theorem dX12_bloom_112 : decode cX12_bloom 112 = .ok (.iadd, 1) := by decide +kernel
theorem dX12_bloom_113 : decode cX12_bloom 113 = .ok (.iconst 1, 1) := by decide +kernel
theorem dX12_bloom_114 : decode cX12_bloom 114 = .ok (.iadd, 1) := by decide +kernel
theorem dX12_bloom_115 : decode cX12_bloom 115 = .ok (.iaload, 1) := by decide +kernel
theorem dX12_bloom_116 : decode cX12_bloom 116 = .ok (.istore 10, 2) := by decide +kernel
theorem dX12_bloom_118 : decode cX12_bloom 118 = .ok (.iload 9, 2) := by decide +kernel
theorem dX12_bloom_120 : decode cX12_bloom 120 = .ok (.i2l, 1) := by decide +kernel
theorem dX12_bloom_121 : decode cX12_bloom 121 = .ok (.lconst 0, 1) := by decide +kernel
theorem dX12_bloom_122 : decode cX12_bloom 122 = .ok (.ldc2_w 318, 3) := by decide +kernel
theorem dX12_bloom_125 : decode cX12_bloom 125 = .ok (.invokestatic 117, 3) := by decide +kernel
theorem dX12_bloom_128 : decode cX12_bloom 128 = .ok (.ifCond .eq 16, 3) := by decide +kernel
theorem dX12_bloom_131 : decode cX12_bloom 131 = .ok (.iload 10, 2) := by decide +kernel
theorem dX12_bloom_133 : decode cX12_bloom 133 = .ok (.i2l, 1) := by decide +kernel
theorem dX12_bloom_134 : decode cX12_bloom 134 = .ok (.lconst 0, 1) := by decide +kernel
theorem dX12_bloom_135 : decode cX12_bloom 135 = .ok (.ldc2_w 222, 3) := by decide +kernel
theorem dX12_bloom_138 : decode cX12_bloom 138 = .ok (.invokestatic 117, 3) := by decide +kernel
theorem dX12_bloom_141 : decode cX12_bloom 141 = .ok (.ifCond .ne 6, 3) := by decide +kernel
theorem dX12_bloom_144 : decode cX12_bloom 144 = .ok (.ldc 127, 2) := by decide +kernel
theorem dX12_bloom_146 : decode cX12_bloom 146 = .ok (.ireturn, 1) := by decide +kernel
theorem dX12_bloom_147 : decode cX12_bloom 147 = .ok (.iload 7, 2) := by decide +kernel
theorem dX12_bloom_149 : decode cX12_bloom 149 = .ok (.iload 9, 2) := by decide +kernel
theorem dX12_bloom_151 : decode cX12_bloom 151 = .ok (.bipush 100, 2) := by decide +kernel
theorem dX12_bloom_153 : decode cX12_bloom 153 = .ok (.iload 10, 2) := by decide +kernel
theorem dX12_bloom_155 : decode cX12_bloom 155 = .ok (.bipush 18, 2) := by decide +kernel
theorem dX12_bloom_157 : decode cX12_bloom 157 = .ok (.if_icmp .le 14, 3) := by decide +kernel
theorem dX12_bloom_160 : decode cX12_bloom 160 = .ok (.bipush 10, 2) := by decide +kernel
theorem dX12_bloom_162 : decode cX12_bloom 162 = .ok (.iload 10, 2) := by decide +kernel
theorem dX12_bloom_164 : decode cX12_bloom 164 = .ok (.bipush 18, 2) := by decide +kernel
theorem dX12_bloom_166 : decode cX12_bloom 166 = .ok (.isub, 1) := by decide +kernel
theorem dX12_bloom_167 : decode cX12_bloom 167 = .ok (.imul, 1) := by decide +kernel
theorem dX12_bloom_168 : decode cX12_bloom 168 = .ok (.goto 4, 3) := by decide +kernel
theorem dX12_bloom_171 : decode cX12_bloom 171 = .ok (.iconst 0, 1) := by decide +kernel
theorem dX12_bloom_172 : decode cX12_bloom 172 = .ok (.iadd, 1) := by decide +kernel
theorem dX12_bloom_173 : decode cX12_bloom 173 = .ok (.imul, 1) := by decide +kernel
theorem dX12_bloom_174 : decode cX12_bloom 174 = .ok (.iadd, 1) := by decide +kernel
theorem dX12_bloom_175 : decode cX12_bloom 175 = .ok (.istore 7, 2) := by decide +kernel
theorem dX12_bloom_177 : decode cX12_bloom 177 = .ok (.iinc 8 1, 3) := by decide +kernel
theorem dX12_bloom_180 : decode cX12_bloom 180 = .ok (.goto (-107), 3) := by decide +kernel
theorem dX12_bloom_183 : decode cX12_bloom 183 = .ok (.aload_n 0, 1) := by decide +kernel
theorem dX12_bloom_184 : decode cX12_bloom 184 = .ok (.iconst 0, 1) := by decide +kernel
theorem dX12_bloom_185 : decode cX12_bloom 185 = .ok (.putfield 111, 3) := by decide +kernel
theorem dX12_bloom_188 : decode cX12_bloom 188 = .ok (.aload_n 0, 1) := by decide +kernel
theorem dX12_bloom_189 : decode cX12_bloom 189 = .ok (.iload_n 1, 1) := by decide +kernel
theorem dX12_bloom_190 : decode cX12_bloom 190 = .ok (.iconst 4, 1) := by decide +kernel
theorem dX12_bloom_191 : decode cX12_bloom 191 = .ok (.invokevirtual 303, 3) := by decide +kernel
theorem dX12_bloom_194 : decode cX12_bloom 194 = .ok (.iconst 1, 1) := by decide +kernel
theorem dX12_bloom_195 : decode cX12_bloom 195 = .ok (.if_icmp .ne 8, 3) := by decide +kernel
theorem dX12_bloom_198 : decode cX12_bloom 198 = .ok (.iload 7, 2) := by decide +kernel
theorem dX12_bloom_200 : decode cX12_bloom 200 = .ok (.goto 7, 3) := by decide +kernel
theorem dX12_bloom_203 : decode cX12_bloom 203 = .ok (.iconst 2, 1) := by decide +kernel
theorem dX12_bloom_204 : decode cX12_bloom 204 = .ok (.iload 7, 2) := by decide +kernel
theorem dX12_bloom_206 : decode cX12_bloom 206 = .ok (.imul, 1) := by decide +kernel
theorem dX12_bloom_207 : decode cX12_bloom 207 = .ok (.istore 7, 2) := by decide +kernel
theorem dX12_bloom_209 : decode cX12_bloom 209 = .ok (.iload 5, 2) := by decide +kernel
theorem dX12_bloom_211 : decode cX12_bloom 211 = .ok (.ifCond .ne 8, 3) := by decide +kernel
theorem dX12_bloom_214 : decode cX12_bloom 214 = .ok (.iload 7, 2) := by decide +kernel
theorem dX12_bloom_216 : decode cX12_bloom 216 = .ok (.goto 16, 3) := by decide +kernel
theorem dX12_bloom_219 : decode cX12_bloom 219 = .ok (.iload 7, 2) := by decide +kernel
theorem dX12_bloom_221 : decode cX12_bloom 221 = .ok (.sipush 6000, 3) := by decide +kernel
theorem dX12_bloom_224 : decode cX12_bloom 224 = .ok (.if_icmp .gt 7, 3) := by decide +kernel
theorem dX12_bloom_227 : decode cX12_bloom 227 = .ok (.iconst 1, 1) := by decide +kernel
theorem dX12_bloom_228 : decode cX12_bloom 228 = .ok (.goto 4, 3) := by decide +kernel
theorem dX12_bloom_231 : decode cX12_bloom 231 = .ok (.iconst 0, 1) := by decide +kernel
theorem dX12_bloom_232 : decode cX12_bloom 232 = .ok (.ireturn, 1) := by decide +kernel
def bX12_bloom_0 (f1 f2 f3 f4 f5 : ox_F) (rc : Nat → ox_K) : ox_K := o_al 0 (o_ic (0) (o_puti 12 0 (o_al 0 (o_il 1 (o_cv f1 12 1 (o_ifeq (rc 44) (o_il 2 (o_ct f2 1 (o_ifeq (rc 44) (o_il 4 (o_i2l (o_lc (1) (o_lc (20) (o_ct f3 3 (o_ifeq (rc 44) (o_il 5 (o_i2l (o_lc (0) (o_lc (1) (o_ct f3 3 (o_ifne (rc 47) (rc 44))))))))))))))))))))))
def bX12_bloom_44 (f1 f2 f3 f4 f5 : ox_F) (rc : Nat → ox_K) : ox_K := o_ic (-1000001) (o_iret)
def bX12_bloom_47 (f1 f2 f3 f4 f5 : ox_F) (rc : Nat → ox_K) : ox_K := o_al 0 (o_il 2 (o_il 3 (o_ic (2) (o_il 4 (o_imul (o_cv f4 12 3 (o_is 6 (o_il 6 (o_ifge (rc 67) (o_il 6 (o_iret)))))))))))
def bX12_bloom_67 (f1 f2 f3 f4 f5 : ox_F) (rc : Nat → ox_K) : ox_K := o_ic (0) (o_is 7 (o_ic (0) (o_is 8 (rc 73))))
def bX12_bloom_73 (f1 f2 f3 f4 f5 : ox_F) (rc : Nat → ox_K) : ox_K := o_keep [0, 1, 2, 3, 4, 5, 7, 8] (o_il 8 (o_il 4 (o_icge (rc 183) (o_al 0 (o_getr 12 4 (o_ic (60) (o_il 2 (o_imul (o_il 3 (o_iadd (o_ic (2) (o_il 8 (o_imul (o_iadd (o_ia (o_is 9 (o_al 0 (o_getr 12 4 (o_ic (60) (o_il 2 (o_imul (o_il 3 (o_iadd (o_ic (2) (o_il 8 (o_imul (o_iadd (o_ic (1) (o_iadd (o_ia (o_is 10 (o_il 9 (o_i2l (o_lc (0) (o_lc (99) (o_ct f3 3 (o_ifeq (rc 144) (o_il 10 (o_i2l (o_lc (0) (o_lc (60) (o_ct f3 3 (o_ifne (rc 147) (rc 144))))))))))))))))))))))))))))))))))))))))))))
def bX12_bloom_144 (f1 f2 f3 f4 f5 : ox_F) (rc : Nat → ox_K) : ox_K := o_ic (-1000001) (o_iret)
def bX12_bloom_147 (f1 f2 f3 f4 f5 : ox_F) (rc : Nat → ox_K) : ox_K := o_il 7 (o_il 9 (o_ic (100) (o_il 10 (o_ic (18) (o_icle (rc 171) (o_ic (10) (o_il 10 (o_ic (18) (o_isub (o_imul (rc 172)))))))))))
def bX12_bloom_171 (f1 f2 f3 f4 f5 : ox_F) (rc : Nat → ox_K) : ox_K := o_ic (0) (rc 172)
def bX12_bloom_172 (f1 f2 f3 f4 f5 : ox_F) (rc : Nat → ox_K) : ox_K := o_iadd (o_imul (o_iadd (o_is 7 (o_inc 8 (1) (rc 73)))))
def bX12_bloom_183 (f1 f2 f3 f4 f5 : ox_F) (rc : Nat → ox_K) : ox_K := o_al 0 (o_ic (0) (o_puti 12 1 (o_al 0 (o_il 1 (o_ic (4) (o_cv f5 12 2 (o_ic (1) (o_icne (rc 203) (o_il 7 (rc 207))))))))))
def bX12_bloom_203 (f1 f2 f3 f4 f5 : ox_F) (rc : Nat → ox_K) : ox_K := o_ic (2) (o_il 7 (o_imul (rc 207)))
def bX12_bloom_207 (f1 f2 f3 f4 f5 : ox_F) (rc : Nat → ox_K) : ox_K := o_is 7 (o_il 5 (o_ifne (rc 219) (o_il 7 (rc 232))))
def bX12_bloom_219 (f1 f2 f3 f4 f5 : ox_F) (rc : Nat → ox_K) : ox_K := o_il 7 (o_ic (6000) (o_icgt (rc 231) (o_ic (1) (rc 232))))
def bX12_bloom_231 (f1 f2 f3 f4 f5 : ox_F) (rc : Nat → ox_K) : ox_K := o_ic (0) (rc 232)
def bX12_bloom_232 (f1 f2 f3 f4 f5 : ox_F) (rc : Nat → ox_K) : ox_K := o_iret
section SX12_bloom
variable {p : Program} {l : Launch} {e : Env} {R : Room} {s : State} {m : MethodId} {args : Array Value} {below : List Frame} {meth : Method} {c : Code} {g : ox_G} {c0 t0 dp d1 d2 d3 d4 d5 : Nat} {rc : Nat → ox_K} {f1 f2 f3 f4 f5 : ox_F}
set_option maxRecDepth 100000 in
theorem kX12_bloom_0 (C : ox_C p s m args c g 11 cX12_bloom RX12) (hr : meth.sig.returnType = (some .int)) (hlk : meth.locks = false) (hnm : meth.name = "bloom") (hR : R.frames = dp ∧ R.locals = 60 * dp) (h1 : ox_Sem yX12_isBar cX12_isBar 2 (some .boolean) d1 f1) (e1 : d1 + 1 ≤ dp) (h2 : ox_Sem yX12_isSheet cX12_isSheet 1 (some .boolean) d2 f2) (e2 : d2 + 1 ≤ dp) (h3 : ox_Sem yX12_in cX12_in 6 (some .boolean) d3 f3) (e3 : d3 + 1 ≤ dp) (h4 : ox_Sem yX12_lookItems cX12_lookItems 4 (some .int) d4 f4) (e4 : d4 + 1 ≤ dp) (h5 : ox_Sem yX12_of cX12_of 3 (some .int) d5 f5) (e5 : d5 + 1 ≤ dp) (hrc : ∀ b, ox_S p l e R s m args below meth c g 11 c0 t0 (ox_QM g below args s c0 t0) b (rc b)) : ox_S p l e R s m args below meth c g 11 c0 t0 (ox_QM g below args s c0 t0) 0 (bX12_bloom_0 f1 f2 f3 f4 f5 rc) := by
  refine s_aload_n (pc := 0) C dX12_bloom_0 rfl ?_
  refine s_iconst (pc := 1) C dX12_bloom_1 (by decide) ?_
  refine s_puti (pc := 2) (j := 0) (q := (RX12, TX12, 59)) C rfl (by decide) rfl (Or.inl rfl) wF_X12_108 dX12_bloom_2 ?_
  refine s_aload_n (pc := 5) C dX12_bloom_5 rfl ?_
  refine s_iload_n (pc := 6) C dX12_bloom_6 rfl ?_
  refine s_cv (pc := 7) (q := (RX12, TX12, 59)) C h1 rfl wM_X12_300 wI_X12_isBar wS_X12_isBar wN_X12 wC_X12_isBar (by decide +kernel) (ox_lv hR e1 (by decide)) dX12_bloom_7 ?_
  refine s_ifeq (pc := 10) 44 C dX12_bloom_10 (by decide) (hrc 44) ?_
  refine s_iload_n (pc := 13) C dX12_bloom_13 rfl ?_
  refine s_ct (pc := 14) C h2 wM_X12_121 wT_X12_isSheet wN_X12 wC_X12_isSheet (by decide +kernel) (ox_lv hR e2 (by decide)) dX12_bloom_14 ?_
  refine s_ifeq (pc := 17) 44 C dX12_bloom_17 (by decide) (hrc 44) ?_
  refine s_iload (pc := 20) C dX12_bloom_20 ?_
  refine s_i2l (pc := 22) C dX12_bloom_22 ?_
  refine s_lconst (pc := 23) C dX12_bloom_23 (by decide) ?_
  refine s_ldc2 (pc := 24) C wL_X12_312 dX12_bloom_24 ?_
  refine s_ct (pc := 27) C h3 wM_X12_117 wT_X12_in wN_X12 wC_X12_in (by decide +kernel) (ox_lv hR e3 (by decide)) dX12_bloom_27 ?_
  refine s_ifeq (pc := 30) 44 C dX12_bloom_30 (by decide) (hrc 44) ?_
  refine s_iload (pc := 33) C dX12_bloom_33 ?_
  refine s_i2l (pc := 35) C dX12_bloom_35 ?_
  refine s_lconst (pc := 36) C dX12_bloom_36 (by decide) ?_
  refine s_lconst (pc := 37) C dX12_bloom_37 (by decide) ?_
  refine s_ct (pc := 38) C h3 wM_X12_117 wT_X12_in wN_X12 wC_X12_in (by decide +kernel) (ox_lv hR e3 (by decide)) dX12_bloom_38 ?_
  refine s_ifne (pc := 41) 47 C dX12_bloom_41 (by decide) (hrc 47) ?_
  exact hrc 44
set_option maxRecDepth 100000 in
theorem kX12_bloom_44 (C : ox_C p s m args c g 11 cX12_bloom RX12) (hr : meth.sig.returnType = (some .int)) (hlk : meth.locks = false) (hnm : meth.name = "bloom") (hR : R.frames = dp ∧ R.locals = 60 * dp) (h1 : ox_Sem yX12_isBar cX12_isBar 2 (some .boolean) d1 f1) (e1 : d1 + 1 ≤ dp) (h2 : ox_Sem yX12_isSheet cX12_isSheet 1 (some .boolean) d2 f2) (e2 : d2 + 1 ≤ dp) (h3 : ox_Sem yX12_in cX12_in 6 (some .boolean) d3 f3) (e3 : d3 + 1 ≤ dp) (h4 : ox_Sem yX12_lookItems cX12_lookItems 4 (some .int) d4 f4) (e4 : d4 + 1 ≤ dp) (h5 : ox_Sem yX12_of cX12_of 3 (some .int) d5 f5) (e5 : d5 + 1 ≤ dp) (hrc : ∀ b, ox_S p l e R s m args below meth c g 11 c0 t0 (ox_QM g below args s c0 t0) b (rc b)) : ox_S p l e R s m args below meth c g 11 c0 t0 (ox_QM g below args s c0 t0) 44 (bX12_bloom_44 f1 f2 f3 f4 f5 rc) := by
  refine s_ldc (pc := 44) C wK_X12_127 dX12_bloom_44 ?_
  exact s_iret (pc := 46) C hr hlk dX12_bloom_46
set_option maxRecDepth 100000 in
theorem kX12_bloom_47 (C : ox_C p s m args c g 11 cX12_bloom RX12) (hr : meth.sig.returnType = (some .int)) (hlk : meth.locks = false) (hnm : meth.name = "bloom") (hR : R.frames = dp ∧ R.locals = 60 * dp) (h1 : ox_Sem yX12_isBar cX12_isBar 2 (some .boolean) d1 f1) (e1 : d1 + 1 ≤ dp) (h2 : ox_Sem yX12_isSheet cX12_isSheet 1 (some .boolean) d2 f2) (e2 : d2 + 1 ≤ dp) (h3 : ox_Sem yX12_in cX12_in 6 (some .boolean) d3 f3) (e3 : d3 + 1 ≤ dp) (h4 : ox_Sem yX12_lookItems cX12_lookItems 4 (some .int) d4 f4) (e4 : d4 + 1 ≤ dp) (h5 : ox_Sem yX12_of cX12_of 3 (some .int) d5 f5) (e5 : d5 + 1 ≤ dp) (hrc : ∀ b, ox_S p l e R s m args below meth c g 11 c0 t0 (ox_QM g below args s c0 t0) b (rc b)) : ox_S p l e R s m args below meth c g 11 c0 t0 (ox_QM g below args s c0 t0) 47 (bX12_bloom_47 f1 f2 f3 f4 f5 rc) := by
  refine s_aload_n (pc := 47) C dX12_bloom_47 rfl ?_
  refine s_iload_n (pc := 48) C dX12_bloom_48 rfl ?_
  refine s_iload_n (pc := 49) C dX12_bloom_49 rfl ?_
  refine s_iconst (pc := 50) C dX12_bloom_50 (by decide) ?_
  refine s_iload (pc := 51) C dX12_bloom_51 ?_
  refine s_imul (pc := 53) C dX12_bloom_53 ?_
  refine s_cv (pc := 54) (q := (RX12, TX12, 59)) C h4 rfl wM_X12_314 wI_X12_lookItems wS_X12_lookItems wN_X12 wC_X12_lookItems (by decide +kernel) (ox_lv hR e4 (by decide)) dX12_bloom_54 ?_
  refine s_istore (pc := 57) C dX12_bloom_57 (by decide) ?_
  refine s_iload (pc := 59) C dX12_bloom_59 ?_
  refine s_ifge (pc := 61) 67 C dX12_bloom_61 (by decide) (hrc 67) ?_
  refine s_iload (pc := 64) C dX12_bloom_64 ?_
  exact s_iret (pc := 66) C hr hlk dX12_bloom_66
set_option maxRecDepth 100000 in
theorem kX12_bloom_67 (C : ox_C p s m args c g 11 cX12_bloom RX12) (hr : meth.sig.returnType = (some .int)) (hlk : meth.locks = false) (hnm : meth.name = "bloom") (hR : R.frames = dp ∧ R.locals = 60 * dp) (h1 : ox_Sem yX12_isBar cX12_isBar 2 (some .boolean) d1 f1) (e1 : d1 + 1 ≤ dp) (h2 : ox_Sem yX12_isSheet cX12_isSheet 1 (some .boolean) d2 f2) (e2 : d2 + 1 ≤ dp) (h3 : ox_Sem yX12_in cX12_in 6 (some .boolean) d3 f3) (e3 : d3 + 1 ≤ dp) (h4 : ox_Sem yX12_lookItems cX12_lookItems 4 (some .int) d4 f4) (e4 : d4 + 1 ≤ dp) (h5 : ox_Sem yX12_of cX12_of 3 (some .int) d5 f5) (e5 : d5 + 1 ≤ dp) (hrc : ∀ b, ox_S p l e R s m args below meth c g 11 c0 t0 (ox_QM g below args s c0 t0) b (rc b)) : ox_S p l e R s m args below meth c g 11 c0 t0 (ox_QM g below args s c0 t0) 67 (bX12_bloom_67 f1 f2 f3 f4 f5 rc) := by
  refine s_iconst (pc := 67) C dX12_bloom_67 (by decide) ?_
  refine s_istore (pc := 68) C dX12_bloom_68 (by decide) ?_
  refine s_iconst (pc := 70) C dX12_bloom_70 (by decide) ?_
  refine s_istore (pc := 71) C dX12_bloom_71 (by decide) ?_
  exact hrc 73
set_option maxRecDepth 100000 in
theorem kX12_bloom_73 (C : ox_C p s m args c g 11 cX12_bloom RX12) (hr : meth.sig.returnType = (some .int)) (hlk : meth.locks = false) (hnm : meth.name = "bloom") (hR : R.frames = dp ∧ R.locals = 60 * dp) (h1 : ox_Sem yX12_isBar cX12_isBar 2 (some .boolean) d1 f1) (e1 : d1 + 1 ≤ dp) (h2 : ox_Sem yX12_isSheet cX12_isSheet 1 (some .boolean) d2 f2) (e2 : d2 + 1 ≤ dp) (h3 : ox_Sem yX12_in cX12_in 6 (some .boolean) d3 f3) (e3 : d3 + 1 ≤ dp) (h4 : ox_Sem yX12_lookItems cX12_lookItems 4 (some .int) d4 f4) (e4 : d4 + 1 ≤ dp) (h5 : ox_Sem yX12_of cX12_of 3 (some .int) d5 f5) (e5 : d5 + 1 ≤ dp) (hrc : ∀ b, ox_S p l e R s m args below meth c g 11 c0 t0 (ox_QM g below args s c0 t0) b (rc b)) : ox_S p l e R s m args below meth c g 11 c0 t0 (ox_QM g below args s c0 t0) 73 (bX12_bloom_73 f1 f2 f3 f4 f5 rc) := by
  refine s_keep ?_
  refine s_iload (pc := 73) C dX12_bloom_73 ?_
  refine s_iload (pc := 75) C dX12_bloom_75 ?_
  refine s_icmpge (pc := 77) 183 C dX12_bloom_77 (by decide) (hrc 183) ?_
  refine s_aload_n (pc := 80) C dX12_bloom_80 rfl ?_
  refine s_getr (pc := 81) (j := 4) (q := (RX12, TX12, 59)) C rfl (by decide) rfl wF_X12_16 dX12_bloom_81 ?_
  refine s_bipush (pc := 84) C dX12_bloom_84 (by decide) ?_
  refine s_iload_n (pc := 86) C dX12_bloom_86 rfl ?_
  refine s_imul (pc := 87) C dX12_bloom_87 ?_
  refine s_iload_n (pc := 88) C dX12_bloom_88 rfl ?_
  refine s_iadd (pc := 89) C dX12_bloom_89 ?_
  refine s_iconst (pc := 90) C dX12_bloom_90 (by decide) ?_
  refine s_iload (pc := 91) C dX12_bloom_91 ?_
  refine s_imul (pc := 93) C dX12_bloom_93 ?_
  refine s_iadd (pc := 94) C dX12_bloom_94 ?_
  refine s_ia (pc := 95) C dX12_bloom_95 ?_
  refine s_istore (pc := 96) C dX12_bloom_96 (by decide) ?_
  refine s_aload_n (pc := 98) C dX12_bloom_98 rfl ?_
  refine s_getr (pc := 99) (j := 4) (q := (RX12, TX12, 59)) C rfl (by decide) rfl wF_X12_16 dX12_bloom_99 ?_
  refine s_bipush (pc := 102) C dX12_bloom_102 (by decide) ?_
  refine s_iload_n (pc := 104) C dX12_bloom_104 rfl ?_
  refine s_imul (pc := 105) C dX12_bloom_105 ?_
  refine s_iload_n (pc := 106) C dX12_bloom_106 rfl ?_
  refine s_iadd (pc := 107) C dX12_bloom_107 ?_
  refine s_iconst (pc := 108) C dX12_bloom_108 (by decide) ?_
  refine s_iload (pc := 109) C dX12_bloom_109 ?_
  refine s_imul (pc := 111) C dX12_bloom_111 ?_
  refine s_iadd (pc := 112) C dX12_bloom_112 ?_
  refine s_iconst (pc := 113) C dX12_bloom_113 (by decide) ?_
  refine s_iadd (pc := 114) C dX12_bloom_114 ?_
  refine s_ia (pc := 115) C dX12_bloom_115 ?_
  refine s_istore (pc := 116) C dX12_bloom_116 (by decide) ?_
  refine s_iload (pc := 118) C dX12_bloom_118 ?_
  refine s_i2l (pc := 120) C dX12_bloom_120 ?_
  refine s_lconst (pc := 121) C dX12_bloom_121 (by decide) ?_
  refine s_ldc2 (pc := 122) C wL_X12_318 dX12_bloom_122 ?_
  refine s_ct (pc := 125) C h3 wM_X12_117 wT_X12_in wN_X12 wC_X12_in (by decide +kernel) (ox_lv hR e3 (by decide)) dX12_bloom_125 ?_
  refine s_ifeq (pc := 128) 144 C dX12_bloom_128 (by decide) (hrc 144) ?_
  refine s_iload (pc := 131) C dX12_bloom_131 ?_
  refine s_i2l (pc := 133) C dX12_bloom_133 ?_
  refine s_lconst (pc := 134) C dX12_bloom_134 (by decide) ?_
  refine s_ldc2 (pc := 135) C wL_X12_222 dX12_bloom_135 ?_
  refine s_ct (pc := 138) C h3 wM_X12_117 wT_X12_in wN_X12 wC_X12_in (by decide +kernel) (ox_lv hR e3 (by decide)) dX12_bloom_138 ?_
  refine s_ifne (pc := 141) 147 C dX12_bloom_141 (by decide) (hrc 147) ?_
  exact hrc 144
set_option maxRecDepth 100000 in
theorem kX12_bloom_144 (C : ox_C p s m args c g 11 cX12_bloom RX12) (hr : meth.sig.returnType = (some .int)) (hlk : meth.locks = false) (hnm : meth.name = "bloom") (hR : R.frames = dp ∧ R.locals = 60 * dp) (h1 : ox_Sem yX12_isBar cX12_isBar 2 (some .boolean) d1 f1) (e1 : d1 + 1 ≤ dp) (h2 : ox_Sem yX12_isSheet cX12_isSheet 1 (some .boolean) d2 f2) (e2 : d2 + 1 ≤ dp) (h3 : ox_Sem yX12_in cX12_in 6 (some .boolean) d3 f3) (e3 : d3 + 1 ≤ dp) (h4 : ox_Sem yX12_lookItems cX12_lookItems 4 (some .int) d4 f4) (e4 : d4 + 1 ≤ dp) (h5 : ox_Sem yX12_of cX12_of 3 (some .int) d5 f5) (e5 : d5 + 1 ≤ dp) (hrc : ∀ b, ox_S p l e R s m args below meth c g 11 c0 t0 (ox_QM g below args s c0 t0) b (rc b)) : ox_S p l e R s m args below meth c g 11 c0 t0 (ox_QM g below args s c0 t0) 144 (bX12_bloom_144 f1 f2 f3 f4 f5 rc) := by
  refine s_ldc (pc := 144) C wK_X12_127 dX12_bloom_144 ?_
  exact s_iret (pc := 146) C hr hlk dX12_bloom_146
set_option maxRecDepth 100000 in
theorem kX12_bloom_147 (C : ox_C p s m args c g 11 cX12_bloom RX12) (hr : meth.sig.returnType = (some .int)) (hlk : meth.locks = false) (hnm : meth.name = "bloom") (hR : R.frames = dp ∧ R.locals = 60 * dp) (h1 : ox_Sem yX12_isBar cX12_isBar 2 (some .boolean) d1 f1) (e1 : d1 + 1 ≤ dp) (h2 : ox_Sem yX12_isSheet cX12_isSheet 1 (some .boolean) d2 f2) (e2 : d2 + 1 ≤ dp) (h3 : ox_Sem yX12_in cX12_in 6 (some .boolean) d3 f3) (e3 : d3 + 1 ≤ dp) (h4 : ox_Sem yX12_lookItems cX12_lookItems 4 (some .int) d4 f4) (e4 : d4 + 1 ≤ dp) (h5 : ox_Sem yX12_of cX12_of 3 (some .int) d5 f5) (e5 : d5 + 1 ≤ dp) (hrc : ∀ b, ox_S p l e R s m args below meth c g 11 c0 t0 (ox_QM g below args s c0 t0) b (rc b)) : ox_S p l e R s m args below meth c g 11 c0 t0 (ox_QM g below args s c0 t0) 147 (bX12_bloom_147 f1 f2 f3 f4 f5 rc) := by
  refine s_iload (pc := 147) C dX12_bloom_147 ?_
  refine s_iload (pc := 149) C dX12_bloom_149 ?_
  refine s_bipush (pc := 151) C dX12_bloom_151 (by decide) ?_
  refine s_iload (pc := 153) C dX12_bloom_153 ?_
  refine s_bipush (pc := 155) C dX12_bloom_155 (by decide) ?_
  refine s_icmple (pc := 157) 171 C dX12_bloom_157 (by decide) (hrc 171) ?_
  refine s_bipush (pc := 160) C dX12_bloom_160 (by decide) ?_
  refine s_iload (pc := 162) C dX12_bloom_162 ?_
  refine s_bipush (pc := 164) C dX12_bloom_164 (by decide) ?_
  refine s_isub (pc := 166) C dX12_bloom_166 ?_
  refine s_imul (pc := 167) C dX12_bloom_167 ?_
  exact s_goto (pc := 168) 172 C dX12_bloom_168 (by decide) (hrc 172)
set_option maxRecDepth 100000 in
theorem kX12_bloom_171 (C : ox_C p s m args c g 11 cX12_bloom RX12) (hr : meth.sig.returnType = (some .int)) (hlk : meth.locks = false) (hnm : meth.name = "bloom") (hR : R.frames = dp ∧ R.locals = 60 * dp) (h1 : ox_Sem yX12_isBar cX12_isBar 2 (some .boolean) d1 f1) (e1 : d1 + 1 ≤ dp) (h2 : ox_Sem yX12_isSheet cX12_isSheet 1 (some .boolean) d2 f2) (e2 : d2 + 1 ≤ dp) (h3 : ox_Sem yX12_in cX12_in 6 (some .boolean) d3 f3) (e3 : d3 + 1 ≤ dp) (h4 : ox_Sem yX12_lookItems cX12_lookItems 4 (some .int) d4 f4) (e4 : d4 + 1 ≤ dp) (h5 : ox_Sem yX12_of cX12_of 3 (some .int) d5 f5) (e5 : d5 + 1 ≤ dp) (hrc : ∀ b, ox_S p l e R s m args below meth c g 11 c0 t0 (ox_QM g below args s c0 t0) b (rc b)) : ox_S p l e R s m args below meth c g 11 c0 t0 (ox_QM g below args s c0 t0) 171 (bX12_bloom_171 f1 f2 f3 f4 f5 rc) := by
  refine s_iconst (pc := 171) C dX12_bloom_171 (by decide) ?_
  exact hrc 172
set_option maxRecDepth 100000 in
theorem kX12_bloom_172 (C : ox_C p s m args c g 11 cX12_bloom RX12) (hr : meth.sig.returnType = (some .int)) (hlk : meth.locks = false) (hnm : meth.name = "bloom") (hR : R.frames = dp ∧ R.locals = 60 * dp) (h1 : ox_Sem yX12_isBar cX12_isBar 2 (some .boolean) d1 f1) (e1 : d1 + 1 ≤ dp) (h2 : ox_Sem yX12_isSheet cX12_isSheet 1 (some .boolean) d2 f2) (e2 : d2 + 1 ≤ dp) (h3 : ox_Sem yX12_in cX12_in 6 (some .boolean) d3 f3) (e3 : d3 + 1 ≤ dp) (h4 : ox_Sem yX12_lookItems cX12_lookItems 4 (some .int) d4 f4) (e4 : d4 + 1 ≤ dp) (h5 : ox_Sem yX12_of cX12_of 3 (some .int) d5 f5) (e5 : d5 + 1 ≤ dp) (hrc : ∀ b, ox_S p l e R s m args below meth c g 11 c0 t0 (ox_QM g below args s c0 t0) b (rc b)) : ox_S p l e R s m args below meth c g 11 c0 t0 (ox_QM g below args s c0 t0) 172 (bX12_bloom_172 f1 f2 f3 f4 f5 rc) := by
  refine s_iadd (pc := 172) C dX12_bloom_172 ?_
  refine s_imul (pc := 173) C dX12_bloom_173 ?_
  refine s_iadd (pc := 174) C dX12_bloom_174 ?_
  refine s_istore (pc := 175) C dX12_bloom_175 (by decide) ?_
  refine s_iinc (pc := 177) C dX12_bloom_177 (by decide) (by decide) ?_
  exact s_goto (pc := 180) 73 C dX12_bloom_180 (by decide) (hrc 73)
set_option maxRecDepth 100000 in
theorem kX12_bloom_183 (C : ox_C p s m args c g 11 cX12_bloom RX12) (hr : meth.sig.returnType = (some .int)) (hlk : meth.locks = false) (hnm : meth.name = "bloom") (hR : R.frames = dp ∧ R.locals = 60 * dp) (h1 : ox_Sem yX12_isBar cX12_isBar 2 (some .boolean) d1 f1) (e1 : d1 + 1 ≤ dp) (h2 : ox_Sem yX12_isSheet cX12_isSheet 1 (some .boolean) d2 f2) (e2 : d2 + 1 ≤ dp) (h3 : ox_Sem yX12_in cX12_in 6 (some .boolean) d3 f3) (e3 : d3 + 1 ≤ dp) (h4 : ox_Sem yX12_lookItems cX12_lookItems 4 (some .int) d4 f4) (e4 : d4 + 1 ≤ dp) (h5 : ox_Sem yX12_of cX12_of 3 (some .int) d5 f5) (e5 : d5 + 1 ≤ dp) (hrc : ∀ b, ox_S p l e R s m args below meth c g 11 c0 t0 (ox_QM g below args s c0 t0) b (rc b)) : ox_S p l e R s m args below meth c g 11 c0 t0 (ox_QM g below args s c0 t0) 183 (bX12_bloom_183 f1 f2 f3 f4 f5 rc) := by
  refine s_aload_n (pc := 183) C dX12_bloom_183 rfl ?_
  refine s_iconst (pc := 184) C dX12_bloom_184 (by decide) ?_
  refine s_puti (pc := 185) (j := 1) (q := (RX12, TX12, 59)) C rfl (by decide) rfl (Or.inl rfl) wF_X12_111 dX12_bloom_185 ?_
  refine s_aload_n (pc := 188) C dX12_bloom_188 rfl ?_
  refine s_iload_n (pc := 189) C dX12_bloom_189 rfl ?_
  refine s_iconst (pc := 190) C dX12_bloom_190 (by decide) ?_
  refine s_cv (pc := 191) (q := (RX12, TX12, 59)) C h5 rfl wM_X12_303 wI_X12_of wS_X12_of wN_X12 wC_X12_of (by decide +kernel) (ox_lv hR e5 (by decide)) dX12_bloom_191 ?_
  refine s_iconst (pc := 194) C dX12_bloom_194 (by decide) ?_
  refine s_icmpne (pc := 195) 203 C dX12_bloom_195 (by decide) (hrc 203) ?_
  refine s_iload (pc := 198) C dX12_bloom_198 ?_
  exact s_goto (pc := 200) 207 C dX12_bloom_200 (by decide) (hrc 207)
set_option maxRecDepth 100000 in
theorem kX12_bloom_203 (C : ox_C p s m args c g 11 cX12_bloom RX12) (hr : meth.sig.returnType = (some .int)) (hlk : meth.locks = false) (hnm : meth.name = "bloom") (hR : R.frames = dp ∧ R.locals = 60 * dp) (h1 : ox_Sem yX12_isBar cX12_isBar 2 (some .boolean) d1 f1) (e1 : d1 + 1 ≤ dp) (h2 : ox_Sem yX12_isSheet cX12_isSheet 1 (some .boolean) d2 f2) (e2 : d2 + 1 ≤ dp) (h3 : ox_Sem yX12_in cX12_in 6 (some .boolean) d3 f3) (e3 : d3 + 1 ≤ dp) (h4 : ox_Sem yX12_lookItems cX12_lookItems 4 (some .int) d4 f4) (e4 : d4 + 1 ≤ dp) (h5 : ox_Sem yX12_of cX12_of 3 (some .int) d5 f5) (e5 : d5 + 1 ≤ dp) (hrc : ∀ b, ox_S p l e R s m args below meth c g 11 c0 t0 (ox_QM g below args s c0 t0) b (rc b)) : ox_S p l e R s m args below meth c g 11 c0 t0 (ox_QM g below args s c0 t0) 203 (bX12_bloom_203 f1 f2 f3 f4 f5 rc) := by
  refine s_iconst (pc := 203) C dX12_bloom_203 (by decide) ?_
  refine s_iload (pc := 204) C dX12_bloom_204 ?_
  refine s_imul (pc := 206) C dX12_bloom_206 ?_
  exact hrc 207
set_option maxRecDepth 100000 in
theorem kX12_bloom_207 (C : ox_C p s m args c g 11 cX12_bloom RX12) (hr : meth.sig.returnType = (some .int)) (hlk : meth.locks = false) (hnm : meth.name = "bloom") (hR : R.frames = dp ∧ R.locals = 60 * dp) (h1 : ox_Sem yX12_isBar cX12_isBar 2 (some .boolean) d1 f1) (e1 : d1 + 1 ≤ dp) (h2 : ox_Sem yX12_isSheet cX12_isSheet 1 (some .boolean) d2 f2) (e2 : d2 + 1 ≤ dp) (h3 : ox_Sem yX12_in cX12_in 6 (some .boolean) d3 f3) (e3 : d3 + 1 ≤ dp) (h4 : ox_Sem yX12_lookItems cX12_lookItems 4 (some .int) d4 f4) (e4 : d4 + 1 ≤ dp) (h5 : ox_Sem yX12_of cX12_of 3 (some .int) d5 f5) (e5 : d5 + 1 ≤ dp) (hrc : ∀ b, ox_S p l e R s m args below meth c g 11 c0 t0 (ox_QM g below args s c0 t0) b (rc b)) : ox_S p l e R s m args below meth c g 11 c0 t0 (ox_QM g below args s c0 t0) 207 (bX12_bloom_207 f1 f2 f3 f4 f5 rc) := by
  refine s_istore (pc := 207) C dX12_bloom_207 (by decide) ?_
  refine s_iload (pc := 209) C dX12_bloom_209 ?_
  refine s_ifne (pc := 211) 219 C dX12_bloom_211 (by decide) (hrc 219) ?_
  refine s_iload (pc := 214) C dX12_bloom_214 ?_
  exact s_goto (pc := 216) 232 C dX12_bloom_216 (by decide) (hrc 232)
set_option maxRecDepth 100000 in
theorem kX12_bloom_219 (C : ox_C p s m args c g 11 cX12_bloom RX12) (hr : meth.sig.returnType = (some .int)) (hlk : meth.locks = false) (hnm : meth.name = "bloom") (hR : R.frames = dp ∧ R.locals = 60 * dp) (h1 : ox_Sem yX12_isBar cX12_isBar 2 (some .boolean) d1 f1) (e1 : d1 + 1 ≤ dp) (h2 : ox_Sem yX12_isSheet cX12_isSheet 1 (some .boolean) d2 f2) (e2 : d2 + 1 ≤ dp) (h3 : ox_Sem yX12_in cX12_in 6 (some .boolean) d3 f3) (e3 : d3 + 1 ≤ dp) (h4 : ox_Sem yX12_lookItems cX12_lookItems 4 (some .int) d4 f4) (e4 : d4 + 1 ≤ dp) (h5 : ox_Sem yX12_of cX12_of 3 (some .int) d5 f5) (e5 : d5 + 1 ≤ dp) (hrc : ∀ b, ox_S p l e R s m args below meth c g 11 c0 t0 (ox_QM g below args s c0 t0) b (rc b)) : ox_S p l e R s m args below meth c g 11 c0 t0 (ox_QM g below args s c0 t0) 219 (bX12_bloom_219 f1 f2 f3 f4 f5 rc) := by
  refine s_iload (pc := 219) C dX12_bloom_219 ?_
  refine s_sipush (pc := 221) C dX12_bloom_221 (by decide) ?_
  refine s_icmpgt (pc := 224) 231 C dX12_bloom_224 (by decide) (hrc 231) ?_
  refine s_iconst (pc := 227) C dX12_bloom_227 (by decide) ?_
  exact s_goto (pc := 228) 232 C dX12_bloom_228 (by decide) (hrc 232)
set_option maxRecDepth 100000 in
theorem kX12_bloom_231 (C : ox_C p s m args c g 11 cX12_bloom RX12) (hr : meth.sig.returnType = (some .int)) (hlk : meth.locks = false) (hnm : meth.name = "bloom") (hR : R.frames = dp ∧ R.locals = 60 * dp) (h1 : ox_Sem yX12_isBar cX12_isBar 2 (some .boolean) d1 f1) (e1 : d1 + 1 ≤ dp) (h2 : ox_Sem yX12_isSheet cX12_isSheet 1 (some .boolean) d2 f2) (e2 : d2 + 1 ≤ dp) (h3 : ox_Sem yX12_in cX12_in 6 (some .boolean) d3 f3) (e3 : d3 + 1 ≤ dp) (h4 : ox_Sem yX12_lookItems cX12_lookItems 4 (some .int) d4 f4) (e4 : d4 + 1 ≤ dp) (h5 : ox_Sem yX12_of cX12_of 3 (some .int) d5 f5) (e5 : d5 + 1 ≤ dp) (hrc : ∀ b, ox_S p l e R s m args below meth c g 11 c0 t0 (ox_QM g below args s c0 t0) b (rc b)) : ox_S p l e R s m args below meth c g 11 c0 t0 (ox_QM g below args s c0 t0) 231 (bX12_bloom_231 f1 f2 f3 f4 f5 rc) := by
  refine s_iconst (pc := 231) C dX12_bloom_231 (by decide) ?_
  exact hrc 232
set_option maxRecDepth 100000 in
theorem kX12_bloom_232 (C : ox_C p s m args c g 11 cX12_bloom RX12) (hr : meth.sig.returnType = (some .int)) (hlk : meth.locks = false) (hnm : meth.name = "bloom") (hR : R.frames = dp ∧ R.locals = 60 * dp) (h1 : ox_Sem yX12_isBar cX12_isBar 2 (some .boolean) d1 f1) (e1 : d1 + 1 ≤ dp) (h2 : ox_Sem yX12_isSheet cX12_isSheet 1 (some .boolean) d2 f2) (e2 : d2 + 1 ≤ dp) (h3 : ox_Sem yX12_in cX12_in 6 (some .boolean) d3 f3) (e3 : d3 + 1 ≤ dp) (h4 : ox_Sem yX12_lookItems cX12_lookItems 4 (some .int) d4 f4) (e4 : d4 + 1 ≤ dp) (h5 : ox_Sem yX12_of cX12_of 3 (some .int) d5 f5) (e5 : d5 + 1 ≤ dp) (hrc : ∀ b, ox_S p l e R s m args below meth c g 11 c0 t0 (ox_QM g below args s c0 t0) b (rc b)) : ox_S p l e R s m args below meth c g 11 c0 t0 (ox_QM g below args s c0 t0) 232 (bX12_bloom_232 f1 f2 f3 f4 f5 rc) := by
  exact s_iret (pc := 232) C hr hlk dX12_bloom_232
end SX12_bloom
def bsX12_bloom (f1 f2 f3 f4 f5 : ox_F) (b : Nat) (rc : Nat → ox_K) : ox_K := if b = 0 then bX12_bloom_0 f1 f2 f3 f4 f5 rc else if b = 44 then bX12_bloom_44 f1 f2 f3 f4 f5 rc else if b = 47 then bX12_bloom_47 f1 f2 f3 f4 f5 rc else if b = 67 then bX12_bloom_67 f1 f2 f3 f4 f5 rc else if b = 73 then bX12_bloom_73 f1 f2 f3 f4 f5 rc else if b = 144 then bX12_bloom_144 f1 f2 f3 f4 f5 rc else if b = 147 then bX12_bloom_147 f1 f2 f3 f4 f5 rc else if b = 171 then bX12_bloom_171 f1 f2 f3 f4 f5 rc else if b = 172 then bX12_bloom_172 f1 f2 f3 f4 f5 rc else if b = 183 then bX12_bloom_183 f1 f2 f3 f4 f5 rc else if b = 203 then bX12_bloom_203 f1 f2 f3 f4 f5 rc else if b = 207 then bX12_bloom_207 f1 f2 f3 f4 f5 rc else if b = 219 then bX12_bloom_219 f1 f2 f3 f4 f5 rc else if b = 231 then bX12_bloom_231 f1 f2 f3 f4 f5 rc else if b = 232 then bX12_bloom_232 f1 f2 f3 f4 f5 rc else ox_no
theorem mX12_bloom {dp d1 d2 d3 d4 d5 : Nat} {f1 f2 f3 f4 f5 f : ox_F} (h1 : ox_Sem yX12_isBar cX12_isBar 2 (some .boolean) d1 f1) (e1 : d1 + 1 ≤ dp) (h2 : ox_Sem yX12_isSheet cX12_isSheet 1 (some .boolean) d2 f2) (e2 : d2 + 1 ≤ dp) (h3 : ox_Sem yX12_in cX12_in 6 (some .boolean) d3 f3) (e3 : d3 + 1 ≤ dp) (h4 : ox_Sem yX12_lookItems cX12_lookItems 4 (some .int) d4 f4) (e4 : d4 + 1 ≤ dp) (h5 : ox_Sem yX12_of cX12_of 3 (some .int) d5 f5) (e5 : d5 + 1 ≤ dp) (hf : ∀ as h r, f as h = some r → ox_cs as ≤ 11 ∧ ox_le h r.2 ∧ ∃ n, ox_run (bsX12_bloom f1 f2 f3 f4 f5) n 0 (lv_args 0 as) [] h = some r) : ox_Sem yX12_bloom cX12_bloom 11 (some .int) dp f := by
  refine ox_meth (bs := bsX12_bloom f1 f2 f3 f4 f5) (by decide) hf ?_
  intro p l e R s m args below meth c g c0 t0 C hr hlk hnm hR rc hrc b
  unfold bsX12_bloom
  refine ox_br (kX12_bloom_0 C hr hlk hnm hR h1 e1 h2 e2 h3 e3 h4 e4 h5 e5 hrc) ?_
  refine ox_br (kX12_bloom_44 C hr hlk hnm hR h1 e1 h2 e2 h3 e3 h4 e4 h5 e5 hrc) ?_
  refine ox_br (kX12_bloom_47 C hr hlk hnm hR h1 e1 h2 e2 h3 e3 h4 e4 h5 e5 hrc) ?_
  refine ox_br (kX12_bloom_67 C hr hlk hnm hR h1 e1 h2 e2 h3 e3 h4 e4 h5 e5 hrc) ?_
  refine ox_br (kX12_bloom_73 C hr hlk hnm hR h1 e1 h2 e2 h3 e3 h4 e4 h5 e5 hrc) ?_
  refine ox_br (kX12_bloom_144 C hr hlk hnm hR h1 e1 h2 e2 h3 e3 h4 e4 h5 e5 hrc) ?_
  refine ox_br (kX12_bloom_147 C hr hlk hnm hR h1 e1 h2 e2 h3 e3 h4 e4 h5 e5 hrc) ?_
  refine ox_br (kX12_bloom_171 C hr hlk hnm hR h1 e1 h2 e2 h3 e3 h4 e4 h5 e5 hrc) ?_
  refine ox_br (kX12_bloom_172 C hr hlk hnm hR h1 e1 h2 e2 h3 e3 h4 e4 h5 e5 hrc) ?_
  refine ox_br (kX12_bloom_183 C hr hlk hnm hR h1 e1 h2 e2 h3 e3 h4 e4 h5 e5 hrc) ?_
  refine ox_br (kX12_bloom_203 C hr hlk hnm hR h1 e1 h2 e2 h3 e3 h4 e4 h5 e5 hrc) ?_
  refine ox_br (kX12_bloom_207 C hr hlk hnm hR h1 e1 h2 e2 h3 e3 h4 e4 h5 e5 hrc) ?_
  refine ox_br (kX12_bloom_219 C hr hlk hnm hR h1 e1 h2 e2 h3 e3 h4 e4 h5 e5 hrc) ?_
  refine ox_br (kX12_bloom_231 C hr hlk hnm hR h1 e1 h2 e2 h3 e3 h4 e4 h5 e5 hrc) ?_
  refine ox_br (kX12_bloom_232 C hr hlk hnm hR h1 e1 h2 e2 h3 e3 h4 e4 h5 e5 hrc) ?_
  exact s_no
theorem dX12_costOf_0 : decode cX12_costOf 0 = .ok (.iconst 0, 1) := by decide +kernel
theorem dX12_costOf_1 : decode cX12_costOf 1 = .ok (.istore_n 3, 1) := by decide +kernel
theorem dX12_costOf_2 : decode cX12_costOf 2 = .ok (.iconst 0, 1) := by decide +kernel
theorem dX12_costOf_3 : decode cX12_costOf 3 = .ok (.istore 4, 2) := by decide +kernel
theorem dX12_costOf_5 : decode cX12_costOf 5 = .ok (.iconst 0, 1) := by decide +kernel
theorem dX12_costOf_6 : decode cX12_costOf 6 = .ok (.istore 5, 2) := by decide +kernel
theorem dX12_costOf_8 : decode cX12_costOf 8 = .ok (.iload 5, 2) := by decide +kernel
theorem dX12_costOf_10 : decode cX12_costOf 10 = .ok (.iload_n 2, 1) := by decide +kernel
theorem dX12_costOf_11 : decode cX12_costOf 11 = .ok (.if_icmp .ge 109, 3) := by decide +kernel
theorem dX12_costOf_14 : decode cX12_costOf 14 = .ok (.iload_n 1, 1) := by decide +kernel
theorem dX12_costOf_15 : decode cX12_costOf 15 = .ok (.iconst 3, 1) := by decide +kernel
theorem dX12_costOf_16 : decode cX12_costOf 16 = .ok (.aload_n 0, 1) := by decide +kernel
theorem dX12_costOf_17 : decode cX12_costOf 17 = .ok (.getfield 99, 3) := by decide +kernel
theorem dX12_costOf_20 : decode cX12_costOf 20 = .ok (.iload 5, 2) := by decide +kernel
theorem dX12_costOf_22 : decode cX12_costOf 22 = .ok (.iaload, 1) := by decide +kernel
theorem dX12_costOf_23 : decode cX12_costOf 23 = .ok (.imul, 1) := by decide +kernel
theorem dX12_costOf_24 : decode cX12_costOf 24 = .ok (.iadd, 1) := by decide +kernel
theorem dX12_costOf_25 : decode cX12_costOf 25 = .ok (.istore 6, 2) := by decide +kernel
theorem dX12_costOf_27 : decode cX12_costOf 27 = .ok (.iload 5, 2) := by decide +kernel
theorem dX12_costOf_29 : decode cX12_costOf 29 = .ok (.ifCond .le 40, 3) := by decide +kernel
theorem dX12_costOf_32 : decode cX12_costOf 32 = .ok (.aload_n 0, 1) := by decide +kernel
theorem dX12_costOf_33 : decode cX12_costOf 33 = .ok (.getfield 16, 3) := by decide +kernel
theorem dX12_costOf_36 : decode cX12_costOf 36 = .ok (.iload_n 1, 1) := by decide +kernel
theorem dX12_costOf_37 : decode cX12_costOf 37 = .ok (.iconst 3, 1) := by decide +kernel
theorem dX12_costOf_38 : decode cX12_costOf 38 = .ok (.aload_n 0, 1) := by decide +kernel
theorem dX12_costOf_39 : decode cX12_costOf 39 = .ok (.getfield 99, 3) := by decide +kernel
theorem dX12_costOf_42 : decode cX12_costOf 42 = .ok (.iload 5, 2) := by decide +kernel
theorem dX12_costOf_44 : decode cX12_costOf 44 = .ok (.iconst 1, 1) := by decide +kernel
theorem dX12_costOf_45 : decode cX12_costOf 45 = .ok (.isub, 1) := by decide +kernel
theorem dX12_costOf_46 : decode cX12_costOf 46 = .ok (.iaload, 1) := by decide +kernel
theorem dX12_costOf_47 : decode cX12_costOf 47 = .ok (.imul, 1) := by decide +kernel
theorem dX12_costOf_48 : decode cX12_costOf 48 = .ok (.iadd, 1) := by decide +kernel
theorem dX12_costOf_49 : decode cX12_costOf 49 = .ok (.iaload, 1) := by decide +kernel
theorem dX12_costOf_50 : decode cX12_costOf 50 = .ok (.aload_n 0, 1) := by decide +kernel
theorem dX12_costOf_51 : decode cX12_costOf 51 = .ok (.getfield 16, 3) := by decide +kernel
theorem dX12_costOf_54 : decode cX12_costOf 54 = .ok (.iload 6, 2) := by decide +kernel
theorem dX12_costOf_56 : decode cX12_costOf 56 = .ok (.iaload, 1) := by decide +kernel
theorem dX12_costOf_57 : decode cX12_costOf 57 = .ok (.iconst (-1), 1) := by decide +kernel
theorem dX12_costOf_58 : decode cX12_costOf 58 = .ok (.ixor, 1) := by decide +kernel
theorem dX12_costOf_59 : decode cX12_costOf 59 = .ok (.iand, 1) := by decide +kernel
theorem dX12_costOf_60 : decode cX12_costOf 60 = .ok (.ifCond .eq 9, 3) := by decide +kernel
theorem dX12_costOf_63 : decode cX12_costOf 63 = .ok (.iinc 3 3, 3) := by decide +kernel
theorem dX12_costOf_66 : decode cX12_costOf 66 = .ok (.iinc 4 5, 3) := by decide +kernel
theorem dX12_costOf_69 : decode cX12_costOf 69 = .ok (.iload_n 3, 1) := by decide +kernel
theorem dX12_costOf_70 : decode cX12_costOf 70 = .ok (.aload_n 0, 1) := by decide +kernel
theorem dX12_costOf_71 : decode cX12_costOf 71 = .ok (.getfield 16, 3) := by decide +kernel
theorem dX12_costOf_74 : decode cX12_costOf 74 = .ok (.iload 6, 2) := by decide +kernel
theorem dX12_costOf_76 : decode cX12_costOf 76 = .ok (.iconst 1, 1) := by decide +kernel
theorem dX12_costOf_77 : decode cX12_costOf 77 = .ok (.iadd, 1) := by decide +kernel
theorem dX12_costOf_78 : decode cX12_costOf 78 = .ok (.iaload, 1) := by decide +kernel
theorem dX12_costOf_79 : decode cX12_costOf 79 = .ok (.iadd, 1) := by decide +kernel
theorem dX12_costOf_80 : decode cX12_costOf 80 = .ok (.istore_n 3, 1) := by decide +kernel
theorem dX12_costOf_81 : decode cX12_costOf 81 = .ok (.iload 4, 2) := by decide +kernel
theorem dX12_costOf_83 : decode cX12_costOf 83 = .ok (.iload_n 3, 1) := by decide +kernel
theorem dX12_costOf_84 : decode cX12_costOf 84 = .ok (.aload_n 0, 1) := by decide +kernel
theorem dX12_costOf_85 : decode cX12_costOf 85 = .ok (.getfield 16, 3) := by decide +kernel
theorem dX12_costOf_88 : decode cX12_costOf 88 = .ok (.iload 6, 2) := by decide +kernel
theorem dX12_costOf_90 : decode cX12_costOf 90 = .ok (.iconst 2, 1) := by decide +kernel
theorem dX12_costOf_91 : decode cX12_costOf 91 = .ok (.iadd, 1) := by decide +kernel
theorem dX12_costOf_92 : decode cX12_costOf 92 = .ok (.iaload, 1) := by decide +kernel
theorem dX12_costOf_93 : decode cX12_costOf 93 = .ok (.if_icmp .le 17, 3) := by decide +kernel
theorem dX12_costOf_96 : decode cX12_costOf 96 = .ok (.iload_n 3, 1) := by decide +kernel
theorem dX12_costOf_97 : decode cX12_costOf 97 = .ok (.aload_n 0, 1) := by decide +kernel
theorem dX12_costOf_98 : decode cX12_costOf 98 = .ok (.getfield 16, 3) := by decide +kernel
theorem dX12_costOf_101 : decode cX12_costOf 101 = .ok (.iload 6, 2) := by decide +kernel
theorem dX12_costOf_103 : decode cX12_costOf 103 = .ok (.iconst 2, 1) := by decide +kernel
theorem dX12_costOf_104 : decode cX12_costOf 104 = .ok (.iadd, 1) := by decide +kernel
theorem dX12_costOf_105 : decode cX12_costOf 105 = .ok (.iaload, 1) := by decide +kernel
theorem dX12_costOf_106 : decode cX12_costOf 106 = .ok (.isub, 1) := by decide +kernel
theorem dX12_costOf_107 : decode cX12_costOf 107 = .ok (.goto 4, 3) := by decide +kernel
theorem dX12_costOf_110 : decode cX12_costOf 110 = .ok (.iconst 0, 1) := by decide +kernel
theorem dX12_costOf_111 : decode cX12_costOf 111 = .ok (.iadd, 1) := by decide +kernel
theorem dX12_costOf_112 : decode cX12_costOf 112 = .ok (.istore 4, 2) := by decide +kernel
theorem dX12_costOf_114 : decode cX12_costOf 114 = .ok (.iinc 5 1, 3) := by decide +kernel
theorem dX12_costOf_117 : decode cX12_costOf 117 = .ok (.goto (-109), 3) := by decide +kernel
theorem dX12_costOf_120 : decode cX12_costOf 120 = .ok (.iload 4, 2) := by decide +kernel
theorem dX12_costOf_122 : decode cX12_costOf 122 = .ok (.ireturn, 1) := by decide +kernel
def bX12_costOf_0 (rc : Nat → ox_K) : ox_K := o_ic (0) (o_is 3 (o_ic (0) (o_is 4 (o_ic (0) (o_is 5 (rc 8))))))
def bX12_costOf_8 (rc : Nat → ox_K) : ox_K := o_keep [0, 1, 2, 3, 4, 5] (o_il 5 (o_il 2 (o_icge (rc 120) (o_il 1 (o_ic (3) (o_al 0 (o_getr 12 55 (o_il 5 (o_ia (o_imul (o_iadd (o_is 6 (o_il 5 (o_ifle (rc 69) (o_al 0 (o_getr 12 4 (o_il 1 (o_ic (3) (o_al 0 (o_getr 12 55 (o_il 5 (o_ic (1) (o_isub (o_ia (o_imul (o_iadd (o_ia (o_al 0 (o_getr 12 4 (o_il 6 (o_ia (o_ic (-1) (o_ixor (o_iand (o_ifeq (rc 69) (o_inc 3 (3) (o_inc 4 (5) (rc 69))))))))))))))))))))))))))))))))))))))
def bX12_costOf_69 (rc : Nat → ox_K) : ox_K := o_il 3 (o_al 0 (o_getr 12 4 (o_il 6 (o_ic (1) (o_iadd (o_ia (o_iadd (o_is 3 (o_il 4 (o_il 3 (o_al 0 (o_getr 12 4 (o_il 6 (o_ic (2) (o_iadd (o_ia (o_icle (rc 110) (o_il 3 (o_al 0 (o_getr 12 4 (o_il 6 (o_ic (2) (o_iadd (o_ia (o_isub (rc 111))))))))))))))))))))))))))
def bX12_costOf_110 (rc : Nat → ox_K) : ox_K := o_ic (0) (rc 111)
def bX12_costOf_111 (rc : Nat → ox_K) : ox_K := o_iadd (o_is 4 (o_inc 5 (1) (rc 8)))
def bX12_costOf_120 (rc : Nat → ox_K) : ox_K := o_il 4 (o_iret)
section SX12_costOf
variable {p : Program} {l : Launch} {e : Env} {R : Room} {s : State} {m : MethodId} {args : Array Value} {below : List Frame} {meth : Method} {c : Code} {g : ox_G} {c0 t0 dp  : Nat} {rc : Nat → ox_K}
set_option maxRecDepth 100000 in
theorem kX12_costOf_0 (C : ox_C p s m args c g 7 cX12_costOf RX12) (hr : meth.sig.returnType = (some .int)) (hlk : meth.locks = false) (hnm : meth.name = "costOf") (hR : R.frames = dp ∧ R.locals = 60 * dp) (hrc : ∀ b, ox_S p l e R s m args below meth c g 7 c0 t0 (ox_QM g below args s c0 t0) b (rc b)) : ox_S p l e R s m args below meth c g 7 c0 t0 (ox_QM g below args s c0 t0) 0 (bX12_costOf_0 rc) := by
  refine s_iconst (pc := 0) C dX12_costOf_0 (by decide) ?_
  refine s_istore_n (pc := 1) C dX12_costOf_1 rfl (by decide) ?_
  refine s_iconst (pc := 2) C dX12_costOf_2 (by decide) ?_
  refine s_istore (pc := 3) C dX12_costOf_3 (by decide) ?_
  refine s_iconst (pc := 5) C dX12_costOf_5 (by decide) ?_
  refine s_istore (pc := 6) C dX12_costOf_6 (by decide) ?_
  exact hrc 8
set_option maxRecDepth 100000 in
theorem kX12_costOf_8 (C : ox_C p s m args c g 7 cX12_costOf RX12) (hr : meth.sig.returnType = (some .int)) (hlk : meth.locks = false) (hnm : meth.name = "costOf") (hR : R.frames = dp ∧ R.locals = 60 * dp) (hrc : ∀ b, ox_S p l e R s m args below meth c g 7 c0 t0 (ox_QM g below args s c0 t0) b (rc b)) : ox_S p l e R s m args below meth c g 7 c0 t0 (ox_QM g below args s c0 t0) 8 (bX12_costOf_8 rc) := by
  refine s_keep ?_
  refine s_iload (pc := 8) C dX12_costOf_8 ?_
  refine s_iload_n (pc := 10) C dX12_costOf_10 rfl ?_
  refine s_icmpge (pc := 11) 120 C dX12_costOf_11 (by decide) (hrc 120) ?_
  refine s_iload_n (pc := 14) C dX12_costOf_14 rfl ?_
  refine s_iconst (pc := 15) C dX12_costOf_15 (by decide) ?_
  refine s_aload_n (pc := 16) C dX12_costOf_16 rfl ?_
  refine s_getr (pc := 17) (j := 55) (q := (RX12, TX12, 59)) C rfl (by decide) rfl wF_X12_99 dX12_costOf_17 ?_
  refine s_iload (pc := 20) C dX12_costOf_20 ?_
  refine s_ia (pc := 22) C dX12_costOf_22 ?_
  refine s_imul (pc := 23) C dX12_costOf_23 ?_
  refine s_iadd (pc := 24) C dX12_costOf_24 ?_
  refine s_istore (pc := 25) C dX12_costOf_25 (by decide) ?_
  refine s_iload (pc := 27) C dX12_costOf_27 ?_
  refine s_ifle (pc := 29) 69 C dX12_costOf_29 (by decide) (hrc 69) ?_
  refine s_aload_n (pc := 32) C dX12_costOf_32 rfl ?_
  refine s_getr (pc := 33) (j := 4) (q := (RX12, TX12, 59)) C rfl (by decide) rfl wF_X12_16 dX12_costOf_33 ?_
  refine s_iload_n (pc := 36) C dX12_costOf_36 rfl ?_
  refine s_iconst (pc := 37) C dX12_costOf_37 (by decide) ?_
  refine s_aload_n (pc := 38) C dX12_costOf_38 rfl ?_
  refine s_getr (pc := 39) (j := 55) (q := (RX12, TX12, 59)) C rfl (by decide) rfl wF_X12_99 dX12_costOf_39 ?_
  refine s_iload (pc := 42) C dX12_costOf_42 ?_
  refine s_iconst (pc := 44) C dX12_costOf_44 (by decide) ?_
  refine s_isub (pc := 45) C dX12_costOf_45 ?_
  refine s_ia (pc := 46) C dX12_costOf_46 ?_
  refine s_imul (pc := 47) C dX12_costOf_47 ?_
  refine s_iadd (pc := 48) C dX12_costOf_48 ?_
  refine s_ia (pc := 49) C dX12_costOf_49 ?_
  refine s_aload_n (pc := 50) C dX12_costOf_50 rfl ?_
  refine s_getr (pc := 51) (j := 4) (q := (RX12, TX12, 59)) C rfl (by decide) rfl wF_X12_16 dX12_costOf_51 ?_
  refine s_iload (pc := 54) C dX12_costOf_54 ?_
  refine s_ia (pc := 56) C dX12_costOf_56 ?_
  refine s_iconst (pc := 57) C dX12_costOf_57 (by decide) ?_
  refine s_ixor (pc := 58) C dX12_costOf_58 ?_
  refine s_iand (pc := 59) C dX12_costOf_59 ?_
  refine s_ifeq (pc := 60) 69 C dX12_costOf_60 (by decide) (hrc 69) ?_
  refine s_iinc (pc := 63) C dX12_costOf_63 (by decide) (by decide) ?_
  refine s_iinc (pc := 66) C dX12_costOf_66 (by decide) (by decide) ?_
  exact hrc 69
set_option maxRecDepth 100000 in
theorem kX12_costOf_69 (C : ox_C p s m args c g 7 cX12_costOf RX12) (hr : meth.sig.returnType = (some .int)) (hlk : meth.locks = false) (hnm : meth.name = "costOf") (hR : R.frames = dp ∧ R.locals = 60 * dp) (hrc : ∀ b, ox_S p l e R s m args below meth c g 7 c0 t0 (ox_QM g below args s c0 t0) b (rc b)) : ox_S p l e R s m args below meth c g 7 c0 t0 (ox_QM g below args s c0 t0) 69 (bX12_costOf_69 rc) := by
  refine s_iload_n (pc := 69) C dX12_costOf_69 rfl ?_
  refine s_aload_n (pc := 70) C dX12_costOf_70 rfl ?_
  refine s_getr (pc := 71) (j := 4) (q := (RX12, TX12, 59)) C rfl (by decide) rfl wF_X12_16 dX12_costOf_71 ?_
  refine s_iload (pc := 74) C dX12_costOf_74 ?_
  refine s_iconst (pc := 76) C dX12_costOf_76 (by decide) ?_
  refine s_iadd (pc := 77) C dX12_costOf_77 ?_
  refine s_ia (pc := 78) C dX12_costOf_78 ?_
  refine s_iadd (pc := 79) C dX12_costOf_79 ?_
  refine s_istore_n (pc := 80) C dX12_costOf_80 rfl (by decide) ?_
  refine s_iload (pc := 81) C dX12_costOf_81 ?_
  refine s_iload_n (pc := 83) C dX12_costOf_83 rfl ?_
  refine s_aload_n (pc := 84) C dX12_costOf_84 rfl ?_
  refine s_getr (pc := 85) (j := 4) (q := (RX12, TX12, 59)) C rfl (by decide) rfl wF_X12_16 dX12_costOf_85 ?_
  refine s_iload (pc := 88) C dX12_costOf_88 ?_
  refine s_iconst (pc := 90) C dX12_costOf_90 (by decide) ?_
  refine s_iadd (pc := 91) C dX12_costOf_91 ?_
  refine s_ia (pc := 92) C dX12_costOf_92 ?_
  refine s_icmple (pc := 93) 110 C dX12_costOf_93 (by decide) (hrc 110) ?_
  refine s_iload_n (pc := 96) C dX12_costOf_96 rfl ?_
  refine s_aload_n (pc := 97) C dX12_costOf_97 rfl ?_
  refine s_getr (pc := 98) (j := 4) (q := (RX12, TX12, 59)) C rfl (by decide) rfl wF_X12_16 dX12_costOf_98 ?_
  refine s_iload (pc := 101) C dX12_costOf_101 ?_
  refine s_iconst (pc := 103) C dX12_costOf_103 (by decide) ?_
  refine s_iadd (pc := 104) C dX12_costOf_104 ?_
  refine s_ia (pc := 105) C dX12_costOf_105 ?_
  refine s_isub (pc := 106) C dX12_costOf_106 ?_
  exact s_goto (pc := 107) 111 C dX12_costOf_107 (by decide) (hrc 111)
set_option maxRecDepth 100000 in
theorem kX12_costOf_110 (C : ox_C p s m args c g 7 cX12_costOf RX12) (hr : meth.sig.returnType = (some .int)) (hlk : meth.locks = false) (hnm : meth.name = "costOf") (hR : R.frames = dp ∧ R.locals = 60 * dp) (hrc : ∀ b, ox_S p l e R s m args below meth c g 7 c0 t0 (ox_QM g below args s c0 t0) b (rc b)) : ox_S p l e R s m args below meth c g 7 c0 t0 (ox_QM g below args s c0 t0) 110 (bX12_costOf_110 rc) := by
  refine s_iconst (pc := 110) C dX12_costOf_110 (by decide) ?_
  exact hrc 111
set_option maxRecDepth 100000 in
theorem kX12_costOf_111 (C : ox_C p s m args c g 7 cX12_costOf RX12) (hr : meth.sig.returnType = (some .int)) (hlk : meth.locks = false) (hnm : meth.name = "costOf") (hR : R.frames = dp ∧ R.locals = 60 * dp) (hrc : ∀ b, ox_S p l e R s m args below meth c g 7 c0 t0 (ox_QM g below args s c0 t0) b (rc b)) : ox_S p l e R s m args below meth c g 7 c0 t0 (ox_QM g below args s c0 t0) 111 (bX12_costOf_111 rc) := by
  refine s_iadd (pc := 111) C dX12_costOf_111 ?_
  refine s_istore (pc := 112) C dX12_costOf_112 (by decide) ?_
  refine s_iinc (pc := 114) C dX12_costOf_114 (by decide) (by decide) ?_
  exact s_goto (pc := 117) 8 C dX12_costOf_117 (by decide) (hrc 8)
set_option maxRecDepth 100000 in
theorem kX12_costOf_120 (C : ox_C p s m args c g 7 cX12_costOf RX12) (hr : meth.sig.returnType = (some .int)) (hlk : meth.locks = false) (hnm : meth.name = "costOf") (hR : R.frames = dp ∧ R.locals = 60 * dp) (hrc : ∀ b, ox_S p l e R s m args below meth c g 7 c0 t0 (ox_QM g below args s c0 t0) b (rc b)) : ox_S p l e R s m args below meth c g 7 c0 t0 (ox_QM g below args s c0 t0) 120 (bX12_costOf_120 rc) := by
  refine s_iload (pc := 120) C dX12_costOf_120 ?_
  exact s_iret (pc := 122) C hr hlk dX12_costOf_122
end SX12_costOf
def bsX12_costOf (b : Nat) (rc : Nat → ox_K) : ox_K := if b = 0 then bX12_costOf_0 rc else if b = 8 then bX12_costOf_8 rc else if b = 69 then bX12_costOf_69 rc else if b = 110 then bX12_costOf_110 rc else if b = 111 then bX12_costOf_111 rc else if b = 120 then bX12_costOf_120 rc else ox_no
theorem mX12_costOf {dp  : Nat} {f : ox_F} (hf : ∀ as h r, f as h = some r → ox_cs as ≤ 7 ∧ ox_le h r.2 ∧ ∃ n, ox_run (bsX12_costOf) n 0 (lv_args 0 as) [] h = some r) : ox_Sem yX12_costOf cX12_costOf 7 (some .int) dp f := by
  refine ox_meth (bs := bsX12_costOf) (by decide) hf ?_
  intro p l e R s m args below meth c g c0 t0 C hr hlk hnm hR rc hrc b
  unfold bsX12_costOf
  refine ox_br (kX12_costOf_0 C hr hlk hnm hR hrc) ?_
  refine ox_br (kX12_costOf_8 C hr hlk hnm hR hrc) ?_
  refine ox_br (kX12_costOf_69 C hr hlk hnm hR hrc) ?_
  refine ox_br (kX12_costOf_110 C hr hlk hnm hR hrc) ?_
  refine ox_br (kX12_costOf_111 C hr hlk hnm hR hrc) ?_
  refine ox_br (kX12_costOf_120 C hr hlk hnm hR hrc) ?_
  exact s_no
theorem dX12_nextRow_0 : decode cX12_nextRow 0 = .ok (.iload_n 1, 1) := by decide +kernel
theorem dX12_nextRow_1 : decode cX12_nextRow 1 = .ok (.iconst 2, 1) := by decide +kernel
theorem dX12_nextRow_2 : decode cX12_nextRow 2 = .ok (.isub, 1) := by decide +kernel
theorem dX12_nextRow_3 : decode cX12_nextRow 3 = .ok (.istore_n 2, 1) := by decide +kernel
theorem dX12_nextRow_4 : decode cX12_nextRow 4 = .ok (.iload_n 2, 1) := by decide +kernel
theorem dX12_nextRow_5 : decode cX12_nextRow 5 = .ok (.ifCond .lt 26, 3) := by decide +kernel
theorem dX12_nextRow_8 : decode cX12_nextRow 8 = .ok (.aload_n 0, 1) := by decide +kernel
theorem dX12_nextRow_9 : decode cX12_nextRow 9 = .ok (.getfield 99, 3) := by decide +kernel
theorem dX12_nextRow_12 : decode cX12_nextRow 12 = .ok (.iload_n 2, 1) := by decide +kernel
theorem dX12_nextRow_13 : decode cX12_nextRow 13 = .ok (.iaload, 1) := by decide +kernel
theorem dX12_nextRow_14 : decode cX12_nextRow 14 = .ok (.aload_n 0, 1) := by decide +kernel
theorem dX12_nextRow_15 : decode cX12_nextRow 15 = .ok (.getfield 99, 3) := by decide +kernel
theorem dX12_nextRow_18 : decode cX12_nextRow 18 = .ok (.iload_n 2, 1) := by decide +kernel
theorem dX12_nextRow_19 : decode cX12_nextRow 19 = .ok (.iconst 1, 1) := by decide +kernel
theorem dX12_nextRow_20 : decode cX12_nextRow 20 = .ok (.iadd, 1) := by decide +kernel
theorem dX12_nextRow_21 : decode cX12_nextRow 21 = .ok (.iaload, 1) := by decide +kernel
theorem dX12_nextRow_22 : decode cX12_nextRow 22 = .ok (.if_icmp .le 9, 3) := by decide +kernel
theorem dX12_nextRow_25 : decode cX12_nextRow 25 = .ok (.iinc 2 (-1), 3) := by decide +kernel
theorem dX12_nextRow_28 : decode cX12_nextRow 28 = .ok (.goto (-24), 3) := by decide +kernel
theorem dX12_nextRow_31 : decode cX12_nextRow 31 = .ok (.iload_n 2, 1) := by decide +kernel
theorem dX12_nextRow_32 : decode cX12_nextRow 32 = .ok (.ifCond .ge 5, 3) := by decide +kernel
theorem dX12_nextRow_35 : decode cX12_nextRow 35 = .ok (.iconst 0, 1) := by decide +kernel
theorem dX12_nextRow_36 : decode cX12_nextRow 36 = .ok (.ireturn, 1) := by decide +kernel
theorem dX12_nextRow_37 : decode cX12_nextRow 37 = .ok (.iload_n 1, 1) := by decide +kernel
theorem dX12_nextRow_38 : decode cX12_nextRow 38 = .ok (.iconst 1, 1) := by decide +kernel
theorem dX12_nextRow_39 : decode cX12_nextRow 39 = .ok (.isub, 1) := by decide +kernel
theorem dX12_nextRow_40 : decode cX12_nextRow 40 = .ok (.istore_n 3, 1) := by decide +kernel
theorem dX12_nextRow_41 : decode cX12_nextRow 41 = .ok (.aload_n 0, 1) := by decide +kernel
theorem dX12_nextRow_42 : decode cX12_nextRow 42 = .ok (.getfield 99, 3) := by decide +kernel
theorem dX12_nextRow_45 : decode cX12_nextRow 45 = .ok (.iload_n 3, 1) := by decide +kernel
theorem dX12_nextRow_46 : decode cX12_nextRow 46 = .ok (.iaload, 1) := by decide +kernel
theorem dX12_nextRow_47 : decode cX12_nextRow 47 = .ok (.aload_n 0, 1) := by decide +kernel
theorem dX12_nextRow_48 : decode cX12_nextRow 48 = .ok (.getfield 99, 3) := by decide +kernel
theorem dX12_nextRow_51 : decode cX12_nextRow 51 = .ok (.iload_n 2, 1) := by decide +kernel
theorem dX12_nextRow_52 : decode cX12_nextRow 52 = .ok (.iaload, 1) := by decide +kernel
theorem dX12_nextRow_53 : decode cX12_nextRow 53 = .ok (.if_icmp .ge 9, 3) := by decide +kernel
theorem dX12_nextRow_56 : decode cX12_nextRow 56 = .ok (.iinc 3 (-1), 3) := by decide +kernel
theorem dX12_nextRow_59 : decode cX12_nextRow 59 = .ok (.goto (-18), 3) := by decide +kernel
theorem dX12_nextRow_62 : decode cX12_nextRow 62 = .ok (.aload_n 0, 1) := by decide +kernel
theorem dX12_nextRow_63 : decode cX12_nextRow 63 = .ok (.getfield 99, 3) := by decide +kernel
theorem dX12_nextRow_66 : decode cX12_nextRow 66 = .ok (.iload_n 2, 1) := by decide +kernel
theorem dX12_nextRow_67 : decode cX12_nextRow 67 = .ok (.iaload, 1) := by decide +kernel
theorem dX12_nextRow_68 : decode cX12_nextRow 68 = .ok (.istore 4, 2) := by decide +kernel
theorem dX12_nextRow_70 : decode cX12_nextRow 70 = .ok (.aload_n 0, 1) := by decide +kernel
theorem dX12_nextRow_71 : decode cX12_nextRow 71 = .ok (.getfield 99, 3) := by decide +kernel
theorem dX12_nextRow_74 : decode cX12_nextRow 74 = .ok (.iload_n 2, 1) := by decide +kernel
theorem dX12_nextRow_75 : decode cX12_nextRow 75 = .ok (.aload_n 0, 1) := by decide +kernel
theorem dX12_nextRow_76 : decode cX12_nextRow 76 = .ok (.getfield 99, 3) := by decide +kernel
theorem dX12_nextRow_79 : decode cX12_nextRow 79 = .ok (.iload_n 3, 1) := by decide +kernel
theorem dX12_nextRow_80 : decode cX12_nextRow 80 = .ok (.iaload, 1) := by decide +kernel
theorem dX12_nextRow_81 : decode cX12_nextRow 81 = .ok (.iastore, 1) := by decide +kernel
theorem dX12_nextRow_82 : decode cX12_nextRow 82 = .ok (.aload_n 0, 1) := by decide +kernel
theorem dX12_nextRow_83 : decode cX12_nextRow 83 = .ok (.getfield 99, 3) := by decide +kernel
theorem dX12_nextRow_86 : decode cX12_nextRow 86 = .ok (.iload_n 3, 1) := by decide +kernel
theorem dX12_nextRow_87 : decode cX12_nextRow 87 = .ok (.iload 4, 2) := by decide +kernel
theorem dX12_nextRow_89 : decode cX12_nextRow 89 = .ok (.iastore, 1) := by decide +kernel
theorem dX12_nextRow_90 : decode cX12_nextRow 90 = .ok (.iload_n 2, 1) := by decide +kernel
theorem dX12_nextRow_91 : decode cX12_nextRow 91 = .ok (.iconst 1, 1) := by decide +kernel
theorem dX12_nextRow_92 : decode cX12_nextRow 92 = .ok (.iadd, 1) := by decide +kernel
theorem dX12_nextRow_93 : decode cX12_nextRow 93 = .ok (.istore 5, 2) := by decide +kernel
theorem dX12_nextRow_95 : decode cX12_nextRow 95 = .ok (.iload_n 1, 1) := by decide +kernel
theorem dX12_nextRow_96 : decode cX12_nextRow 96 = .ok (.iconst 1, 1) := by decide +kernel
theorem dX12_nextRow_97 : decode cX12_nextRow 97 = .ok (.isub, 1) := by decide +kernel
theorem dX12_nextRow_98 : decode cX12_nextRow 98 = .ok (.istore 6, 2) := by decide +kernel
theorem dX12_nextRow_100 : decode cX12_nextRow 100 = .ok (.iload 5, 2) := by decide +kernel
theorem dX12_nextRow_102 : decode cX12_nextRow 102 = .ok (.iload 6, 2) := by decide +kernel
theorem dX12_nextRow_104 : decode cX12_nextRow 104 = .ok (.if_icmp .ge 44, 3) := by decide +kernel
theorem dX12_nextRow_107 : decode cX12_nextRow 107 = .ok (.aload_n 0, 1) := by decide +kernel
theorem dX12_nextRow_108 : decode cX12_nextRow 108 = .ok (.getfield 99, 3) := by decide +kernel
theorem dX12_nextRow_111 : decode cX12_nextRow 111 = .ok (.iload 5, 2) := by decide +kernel
theorem dX12_nextRow_113 : decode cX12_nextRow 113 = .ok (.iaload, 1) := by decide +kernel
theorem dX12_nextRow_114 : decode cX12_nextRow 114 = .ok (.istore 4, 2) := by decide +kernel
theorem dX12_nextRow_116 : decode cX12_nextRow 116 = .ok (.aload_n 0, 1) := by decide +kernel
theorem dX12_nextRow_117 : decode cX12_nextRow 117 = .ok (.getfield 99, 3) := by decide +kernel
theorem dX12_nextRow_120 : decode cX12_nextRow 120 = .ok (.iload 5, 2) := by decide +kernel
theorem dX12_nextRow_122 : decode cX12_nextRow 122 = .ok (.aload_n 0, 1) := by decide +kernel
theorem dX12_nextRow_123 : decode cX12_nextRow 123 = .ok (.getfield 99, 3) := by decide +kernel
theorem dX12_nextRow_126 : decode cX12_nextRow 126 = .ok (.iload 6, 2) := by decide +kernel
theorem dX12_nextRow_128 : decode cX12_nextRow 128 = .ok (.iaload, 1) := by decide +kernel
theorem dX12_nextRow_129 : decode cX12_nextRow 129 = .ok (.iastore, 1) := by decide +kernel
theorem dX12_nextRow_130 : decode cX12_nextRow 130 = .ok (.aload_n 0, 1) := by decide +kernel
theorem dX12_nextRow_131 : decode cX12_nextRow 131 = .ok (.getfield 99, 3) := by decide +kernel
theorem dX12_nextRow_134 : decode cX12_nextRow 134 = .ok (.iload 6, 2) := by decide +kernel
theorem dX12_nextRow_136 : decode cX12_nextRow 136 = .ok (.iload 4, 2) := by decide +kernel
theorem dX12_nextRow_138 : decode cX12_nextRow 138 = .ok (.iastore, 1) := by decide +kernel
theorem dX12_nextRow_139 : decode cX12_nextRow 139 = .ok (.iinc 5 1, 3) := by decide +kernel
theorem dX12_nextRow_142 : decode cX12_nextRow 142 = .ok (.iinc 6 (-1), 3) := by decide +kernel
theorem dX12_nextRow_145 : decode cX12_nextRow 145 = .ok (.goto (-45), 3) := by decide +kernel
theorem dX12_nextRow_148 : decode cX12_nextRow 148 = .ok (.iconst 1, 1) := by decide +kernel
theorem dX12_nextRow_149 : decode cX12_nextRow 149 = .ok (.ireturn, 1) := by decide +kernel
def bX12_nextRow_0 (rc : Nat → ox_K) : ox_K := o_il 1 (o_ic (2) (o_isub (o_is 2 (rc 4))))
def bX12_nextRow_4 (rc : Nat → ox_K) : ox_K := o_keep [0, 1, 2] (o_il 2 (o_iflt (rc 31) (o_al 0 (o_getr 12 55 (o_il 2 (o_ia (o_al 0 (o_getr 12 55 (o_il 2 (o_ic (1) (o_iadd (o_ia (o_icle (rc 31) (o_inc 2 (-1) (rc 4)))))))))))))))
def bX12_nextRow_31 (rc : Nat → ox_K) : ox_K := o_il 2 (o_ifge (rc 37) (o_ic (0) (o_zret)))
def bX12_nextRow_37 (rc : Nat → ox_K) : ox_K := o_il 1 (o_ic (1) (o_isub (o_is 3 (rc 41))))
def bX12_nextRow_41 (rc : Nat → ox_K) : ox_K := o_keep [0, 1, 2, 3] (o_al 0 (o_getr 12 55 (o_il 3 (o_ia (o_al 0 (o_getr 12 55 (o_il 2 (o_ia (o_icge (rc 62) (o_inc 3 (-1) (rc 41)))))))))))
def bX12_nextRow_62 (rc : Nat → ox_K) : ox_K := o_al 0 (o_getr 12 55 (o_il 2 (o_ia (o_is 4 (o_al 0 (o_getr 12 55 (o_il 2 (o_al 0 (o_getr 12 55 (o_il 3 (o_ia (o_iast (o_al 0 (o_getr 12 55 (o_il 3 (o_il 4 (o_iast (o_il 2 (o_ic (1) (o_iadd (o_is 5 (o_il 1 (o_ic (1) (o_isub (o_is 6 (rc 100))))))))))))))))))))))))))
def bX12_nextRow_100 (rc : Nat → ox_K) : ox_K := o_keep [0, 5, 6] (o_il 5 (o_il 6 (o_icge (rc 148) (o_al 0 (o_getr 12 55 (o_il 5 (o_ia (o_is 4 (o_al 0 (o_getr 12 55 (o_il 5 (o_al 0 (o_getr 12 55 (o_il 6 (o_ia (o_iast (o_al 0 (o_getr 12 55 (o_il 6 (o_il 4 (o_iast (o_inc 5 (1) (o_inc 6 (-1) (rc 100))))))))))))))))))))))))
def bX12_nextRow_148 (rc : Nat → ox_K) : ox_K := o_ic (1) (o_zret)
section SX12_nextRow
variable {p : Program} {l : Launch} {e : Env} {R : Room} {s : State} {m : MethodId} {args : Array Value} {below : List Frame} {meth : Method} {c : Code} {g : ox_G} {c0 t0 dp  : Nat} {rc : Nat → ox_K}
set_option maxRecDepth 100000 in
theorem kX12_nextRow_0 (C : ox_C p s m args c g 7 cX12_nextRow RX12) (hr : meth.sig.returnType = (some .boolean)) (hlk : meth.locks = false) (hnm : meth.name = "nextRow") (hR : R.frames = dp ∧ R.locals = 60 * dp) (hrc : ∀ b, ox_S p l e R s m args below meth c g 7 c0 t0 (ox_QM g below args s c0 t0) b (rc b)) : ox_S p l e R s m args below meth c g 7 c0 t0 (ox_QM g below args s c0 t0) 0 (bX12_nextRow_0 rc) := by
  refine s_iload_n (pc := 0) C dX12_nextRow_0 rfl ?_
  refine s_iconst (pc := 1) C dX12_nextRow_1 (by decide) ?_
  refine s_isub (pc := 2) C dX12_nextRow_2 ?_
  refine s_istore_n (pc := 3) C dX12_nextRow_3 rfl (by decide) ?_
  exact hrc 4
set_option maxRecDepth 100000 in
theorem kX12_nextRow_4 (C : ox_C p s m args c g 7 cX12_nextRow RX12) (hr : meth.sig.returnType = (some .boolean)) (hlk : meth.locks = false) (hnm : meth.name = "nextRow") (hR : R.frames = dp ∧ R.locals = 60 * dp) (hrc : ∀ b, ox_S p l e R s m args below meth c g 7 c0 t0 (ox_QM g below args s c0 t0) b (rc b)) : ox_S p l e R s m args below meth c g 7 c0 t0 (ox_QM g below args s c0 t0) 4 (bX12_nextRow_4 rc) := by
  refine s_keep ?_
  refine s_iload_n (pc := 4) C dX12_nextRow_4 rfl ?_
  refine s_iflt (pc := 5) 31 C dX12_nextRow_5 (by decide) (hrc 31) ?_
  refine s_aload_n (pc := 8) C dX12_nextRow_8 rfl ?_
  refine s_getr (pc := 9) (j := 55) (q := (RX12, TX12, 59)) C rfl (by decide) rfl wF_X12_99 dX12_nextRow_9 ?_
  refine s_iload_n (pc := 12) C dX12_nextRow_12 rfl ?_
  refine s_ia (pc := 13) C dX12_nextRow_13 ?_
  refine s_aload_n (pc := 14) C dX12_nextRow_14 rfl ?_
  refine s_getr (pc := 15) (j := 55) (q := (RX12, TX12, 59)) C rfl (by decide) rfl wF_X12_99 dX12_nextRow_15 ?_
  refine s_iload_n (pc := 18) C dX12_nextRow_18 rfl ?_
  refine s_iconst (pc := 19) C dX12_nextRow_19 (by decide) ?_
  refine s_iadd (pc := 20) C dX12_nextRow_20 ?_
  refine s_ia (pc := 21) C dX12_nextRow_21 ?_
  refine s_icmple (pc := 22) 31 C dX12_nextRow_22 (by decide) (hrc 31) ?_
  refine s_iinc (pc := 25) C dX12_nextRow_25 (by decide) (by decide) ?_
  exact s_goto (pc := 28) 4 C dX12_nextRow_28 (by decide) (hrc 4)
set_option maxRecDepth 100000 in
theorem kX12_nextRow_31 (C : ox_C p s m args c g 7 cX12_nextRow RX12) (hr : meth.sig.returnType = (some .boolean)) (hlk : meth.locks = false) (hnm : meth.name = "nextRow") (hR : R.frames = dp ∧ R.locals = 60 * dp) (hrc : ∀ b, ox_S p l e R s m args below meth c g 7 c0 t0 (ox_QM g below args s c0 t0) b (rc b)) : ox_S p l e R s m args below meth c g 7 c0 t0 (ox_QM g below args s c0 t0) 31 (bX12_nextRow_31 rc) := by
  refine s_iload_n (pc := 31) C dX12_nextRow_31 rfl ?_
  refine s_ifge (pc := 32) 37 C dX12_nextRow_32 (by decide) (hrc 37) ?_
  refine s_iconst (pc := 35) C dX12_nextRow_35 (by decide) ?_
  exact s_zret (pc := 36) C hr (by decide) hlk dX12_nextRow_36
set_option maxRecDepth 100000 in
theorem kX12_nextRow_37 (C : ox_C p s m args c g 7 cX12_nextRow RX12) (hr : meth.sig.returnType = (some .boolean)) (hlk : meth.locks = false) (hnm : meth.name = "nextRow") (hR : R.frames = dp ∧ R.locals = 60 * dp) (hrc : ∀ b, ox_S p l e R s m args below meth c g 7 c0 t0 (ox_QM g below args s c0 t0) b (rc b)) : ox_S p l e R s m args below meth c g 7 c0 t0 (ox_QM g below args s c0 t0) 37 (bX12_nextRow_37 rc) := by
  refine s_iload_n (pc := 37) C dX12_nextRow_37 rfl ?_
  refine s_iconst (pc := 38) C dX12_nextRow_38 (by decide) ?_
  refine s_isub (pc := 39) C dX12_nextRow_39 ?_
  refine s_istore_n (pc := 40) C dX12_nextRow_40 rfl (by decide) ?_
  exact hrc 41
set_option maxRecDepth 100000 in
theorem kX12_nextRow_41 (C : ox_C p s m args c g 7 cX12_nextRow RX12) (hr : meth.sig.returnType = (some .boolean)) (hlk : meth.locks = false) (hnm : meth.name = "nextRow") (hR : R.frames = dp ∧ R.locals = 60 * dp) (hrc : ∀ b, ox_S p l e R s m args below meth c g 7 c0 t0 (ox_QM g below args s c0 t0) b (rc b)) : ox_S p l e R s m args below meth c g 7 c0 t0 (ox_QM g below args s c0 t0) 41 (bX12_nextRow_41 rc) := by
  refine s_keep ?_
  refine s_aload_n (pc := 41) C dX12_nextRow_41 rfl ?_
  refine s_getr (pc := 42) (j := 55) (q := (RX12, TX12, 59)) C rfl (by decide) rfl wF_X12_99 dX12_nextRow_42 ?_
  refine s_iload_n (pc := 45) C dX12_nextRow_45 rfl ?_
  refine s_ia (pc := 46) C dX12_nextRow_46 ?_
  refine s_aload_n (pc := 47) C dX12_nextRow_47 rfl ?_
  refine s_getr (pc := 48) (j := 55) (q := (RX12, TX12, 59)) C rfl (by decide) rfl wF_X12_99 dX12_nextRow_48 ?_
  refine s_iload_n (pc := 51) C dX12_nextRow_51 rfl ?_
  refine s_ia (pc := 52) C dX12_nextRow_52 ?_
  refine s_icmpge (pc := 53) 62 C dX12_nextRow_53 (by decide) (hrc 62) ?_
  refine s_iinc (pc := 56) C dX12_nextRow_56 (by decide) (by decide) ?_
  exact s_goto (pc := 59) 41 C dX12_nextRow_59 (by decide) (hrc 41)
set_option maxRecDepth 100000 in
theorem kX12_nextRow_62 (C : ox_C p s m args c g 7 cX12_nextRow RX12) (hr : meth.sig.returnType = (some .boolean)) (hlk : meth.locks = false) (hnm : meth.name = "nextRow") (hR : R.frames = dp ∧ R.locals = 60 * dp) (hrc : ∀ b, ox_S p l e R s m args below meth c g 7 c0 t0 (ox_QM g below args s c0 t0) b (rc b)) : ox_S p l e R s m args below meth c g 7 c0 t0 (ox_QM g below args s c0 t0) 62 (bX12_nextRow_62 rc) := by
  refine s_aload_n (pc := 62) C dX12_nextRow_62 rfl ?_
  refine s_getr (pc := 63) (j := 55) (q := (RX12, TX12, 59)) C rfl (by decide) rfl wF_X12_99 dX12_nextRow_63 ?_
  refine s_iload_n (pc := 66) C dX12_nextRow_66 rfl ?_
  refine s_ia (pc := 67) C dX12_nextRow_67 ?_
  refine s_istore (pc := 68) C dX12_nextRow_68 (by decide) ?_
  refine s_aload_n (pc := 70) C dX12_nextRow_70 rfl ?_
  refine s_getr (pc := 71) (j := 55) (q := (RX12, TX12, 59)) C rfl (by decide) rfl wF_X12_99 dX12_nextRow_71 ?_
  refine s_iload_n (pc := 74) C dX12_nextRow_74 rfl ?_
  refine s_aload_n (pc := 75) C dX12_nextRow_75 rfl ?_
  refine s_getr (pc := 76) (j := 55) (q := (RX12, TX12, 59)) C rfl (by decide) rfl wF_X12_99 dX12_nextRow_76 ?_
  refine s_iload_n (pc := 79) C dX12_nextRow_79 rfl ?_
  refine s_ia (pc := 80) C dX12_nextRow_80 ?_
  refine s_iast (pc := 81) C dX12_nextRow_81 ?_
  refine s_aload_n (pc := 82) C dX12_nextRow_82 rfl ?_
  refine s_getr (pc := 83) (j := 55) (q := (RX12, TX12, 59)) C rfl (by decide) rfl wF_X12_99 dX12_nextRow_83 ?_
  refine s_iload_n (pc := 86) C dX12_nextRow_86 rfl ?_
  refine s_iload (pc := 87) C dX12_nextRow_87 ?_
  refine s_iast (pc := 89) C dX12_nextRow_89 ?_
  refine s_iload_n (pc := 90) C dX12_nextRow_90 rfl ?_
  refine s_iconst (pc := 91) C dX12_nextRow_91 (by decide) ?_
  refine s_iadd (pc := 92) C dX12_nextRow_92 ?_
  refine s_istore (pc := 93) C dX12_nextRow_93 (by decide) ?_
  refine s_iload_n (pc := 95) C dX12_nextRow_95 rfl ?_
  refine s_iconst (pc := 96) C dX12_nextRow_96 (by decide) ?_
  refine s_isub (pc := 97) C dX12_nextRow_97 ?_
  refine s_istore (pc := 98) C dX12_nextRow_98 (by decide) ?_
  exact hrc 100
set_option maxRecDepth 100000 in
theorem kX12_nextRow_100 (C : ox_C p s m args c g 7 cX12_nextRow RX12) (hr : meth.sig.returnType = (some .boolean)) (hlk : meth.locks = false) (hnm : meth.name = "nextRow") (hR : R.frames = dp ∧ R.locals = 60 * dp) (hrc : ∀ b, ox_S p l e R s m args below meth c g 7 c0 t0 (ox_QM g below args s c0 t0) b (rc b)) : ox_S p l e R s m args below meth c g 7 c0 t0 (ox_QM g below args s c0 t0) 100 (bX12_nextRow_100 rc) := by
  refine s_keep ?_
  refine s_iload (pc := 100) C dX12_nextRow_100 ?_
  refine s_iload (pc := 102) C dX12_nextRow_102 ?_
  refine s_icmpge (pc := 104) 148 C dX12_nextRow_104 (by decide) (hrc 148) ?_
  refine s_aload_n (pc := 107) C dX12_nextRow_107 rfl ?_
  refine s_getr (pc := 108) (j := 55) (q := (RX12, TX12, 59)) C rfl (by decide) rfl wF_X12_99 dX12_nextRow_108 ?_
  refine s_iload (pc := 111) C dX12_nextRow_111 ?_
  refine s_ia (pc := 113) C dX12_nextRow_113 ?_
  refine s_istore (pc := 114) C dX12_nextRow_114 (by decide) ?_
  refine s_aload_n (pc := 116) C dX12_nextRow_116 rfl ?_
  refine s_getr (pc := 117) (j := 55) (q := (RX12, TX12, 59)) C rfl (by decide) rfl wF_X12_99 dX12_nextRow_117 ?_
  refine s_iload (pc := 120) C dX12_nextRow_120 ?_
  refine s_aload_n (pc := 122) C dX12_nextRow_122 rfl ?_
  refine s_getr (pc := 123) (j := 55) (q := (RX12, TX12, 59)) C rfl (by decide) rfl wF_X12_99 dX12_nextRow_123 ?_
  refine s_iload (pc := 126) C dX12_nextRow_126 ?_
  refine s_ia (pc := 128) C dX12_nextRow_128 ?_
  refine s_iast (pc := 129) C dX12_nextRow_129 ?_
  refine s_aload_n (pc := 130) C dX12_nextRow_130 rfl ?_
  refine s_getr (pc := 131) (j := 55) (q := (RX12, TX12, 59)) C rfl (by decide) rfl wF_X12_99 dX12_nextRow_131 ?_
  refine s_iload (pc := 134) C dX12_nextRow_134 ?_
  refine s_iload (pc := 136) C dX12_nextRow_136 ?_
  refine s_iast (pc := 138) C dX12_nextRow_138 ?_
  refine s_iinc (pc := 139) C dX12_nextRow_139 (by decide) (by decide) ?_
  refine s_iinc (pc := 142) C dX12_nextRow_142 (by decide) (by decide) ?_
  exact s_goto (pc := 145) 100 C dX12_nextRow_145 (by decide) (hrc 100)
set_option maxRecDepth 100000 in
theorem kX12_nextRow_148 (C : ox_C p s m args c g 7 cX12_nextRow RX12) (hr : meth.sig.returnType = (some .boolean)) (hlk : meth.locks = false) (hnm : meth.name = "nextRow") (hR : R.frames = dp ∧ R.locals = 60 * dp) (hrc : ∀ b, ox_S p l e R s m args below meth c g 7 c0 t0 (ox_QM g below args s c0 t0) b (rc b)) : ox_S p l e R s m args below meth c g 7 c0 t0 (ox_QM g below args s c0 t0) 148 (bX12_nextRow_148 rc) := by
  refine s_iconst (pc := 148) C dX12_nextRow_148 (by decide) ?_
  exact s_zret (pc := 149) C hr (by decide) hlk dX12_nextRow_149
end SX12_nextRow
def bsX12_nextRow (b : Nat) (rc : Nat → ox_K) : ox_K := if b = 0 then bX12_nextRow_0 rc else if b = 4 then bX12_nextRow_4 rc else if b = 31 then bX12_nextRow_31 rc else if b = 37 then bX12_nextRow_37 rc else if b = 41 then bX12_nextRow_41 rc else if b = 62 then bX12_nextRow_62 rc else if b = 100 then bX12_nextRow_100 rc else if b = 148 then bX12_nextRow_148 rc else ox_no
theorem mX12_nextRow {dp  : Nat} {f : ox_F} (hf : ∀ as h r, f as h = some r → ox_cs as ≤ 7 ∧ ox_le h r.2 ∧ ∃ n, ox_run (bsX12_nextRow) n 0 (lv_args 0 as) [] h = some r) : ox_Sem yX12_nextRow cX12_nextRow 7 (some .boolean) dp f := by
  refine ox_meth (bs := bsX12_nextRow) (by decide) hf ?_
  intro p l e R s m args below meth c g c0 t0 C hr hlk hnm hR rc hrc b
  unfold bsX12_nextRow
  refine ox_br (kX12_nextRow_0 C hr hlk hnm hR hrc) ?_
  refine ox_br (kX12_nextRow_4 C hr hlk hnm hR hrc) ?_
  refine ox_br (kX12_nextRow_31 C hr hlk hnm hR hrc) ?_
  refine ox_br (kX12_nextRow_37 C hr hlk hnm hR hrc) ?_
  refine ox_br (kX12_nextRow_41 C hr hlk hnm hR hrc) ?_
  refine ox_br (kX12_nextRow_62 C hr hlk hnm hR hrc) ?_
  refine ox_br (kX12_nextRow_100 C hr hlk hnm hR hrc) ?_
  refine ox_br (kX12_nextRow_148 C hr hlk hnm hR hrc) ?_
  exact s_no
theorem dX12_orders_0 : decode cX12_orders 0 = .ok (.aload_n 0, 1) := by decide +kernel
theorem dX12_orders_1 : decode cX12_orders 1 = .ok (.iconst 0, 1) := by decide +kernel
theorem dX12_orders_2 : decode cX12_orders 2 = .ok (.putfield 108, 3) := by decide +kernel
theorem dX12_orders_5 : decode cX12_orders 5 = .ok (.iload_n 1, 1) := by decide +kernel
theorem dX12_orders_6 : decode cX12_orders 6 = .ok (.invokestatic 121, 3) := by decide +kernel
theorem dX12_orders_9 : decode cX12_orders 9 = .ok (.ifCond .eq 31, 3) := by decide +kernel
theorem dX12_orders_12 : decode cX12_orders 12 = .ok (.iload_n 3, 1) := by decide +kernel
theorem dX12_orders_13 : decode cX12_orders 13 = .ok (.i2l, 1) := by decide +kernel
theorem dX12_orders_14 : decode cX12_orders 14 = .ok (.lconst 1, 1) := by decide +kernel
theorem dX12_orders_15 : decode cX12_orders 15 = .ok (.ldc2_w 115, 3) := by decide +kernel
theorem dX12_orders_18 : decode cX12_orders 18 = .ok (.invokestatic 117, 3) := by decide +kernel
theorem dX12_orders_21 : decode cX12_orders 21 = .ok (.ifCond .eq 19, 3) := by decide +kernel
theorem dX12_orders_24 : decode cX12_orders 24 = .ok (.iload 4, 2) := by decide +kernel
theorem dX12_orders_26 : decode cX12_orders 26 = .ok (.i2l, 1) := by decide +kernel
theorem dX12_orders_27 : decode cX12_orders 27 = .ok (.ldc2_w 320, 3) := by decide +kernel
theorem dX12_orders_30 : decode cX12_orders 30 = .ok (.iload_n 3, 1) := by decide +kernel
theorem dX12_orders_31 : decode cX12_orders 31 = .ok (.iconst 1, 1) := by decide +kernel
theorem dX12_orders_32 : decode cX12_orders 32 = .ok (.isub, 1) := by decide +kernel
theorem dX12_orders_33 : decode cX12_orders 33 = .ok (.i2l, 1) := by decide +kernel
theorem dX12_orders_34 : decode cX12_orders 34 = .ok (.invokestatic 117, 3) := by decide +kernel
theorem dX12_orders_37 : decode cX12_orders 37 = .ok (.ifCond .ne 6, 3) := by decide +kernel
theorem dX12_orders_40 : decode cX12_orders 40 = .ok (.ldc 127, 2) := by decide +kernel
theorem dX12_orders_42 : decode cX12_orders 42 = .ok (.ireturn, 1) := by decide +kernel
theorem dX12_orders_43 : decode cX12_orders 43 = .ok (.aload_n 0, 1) := by decide +kernel
theorem dX12_orders_44 : decode cX12_orders 44 = .ok (.iload_n 1, 1) := by decide +kernel
theorem dX12_orders_45 : decode cX12_orders 45 = .ok (.iload_n 2, 1) := by decide +kernel
theorem dX12_orders_46 : decode cX12_orders 46 = .ok (.iconst 3, 1) := by decide +kernel
theorem dX12_orders_47 : decode cX12_orders 47 = .ok (.iload_n 3, 1) := by decide +kernel
theorem dX12_orders_48 : decode cX12_orders 48 = .ok (.imul, 1) := by decide +kernel
theorem dX12_orders_49 : decode cX12_orders 49 = .ok (.invokevirtual 314, 3) := by decide +kernel
theorem dX12_orders_52 : decode cX12_orders 52 = .ok (.istore 5, 2) := by decide +kernel
theorem dX12_orders_54 : decode cX12_orders 54 = .ok (.iload 5, 2) := by decide +kernel
theorem dX12_orders_56 : decode cX12_orders 56 = .ok (.ifCond .ge 6, 3) := by decide +kernel
theorem dX12_orders_59 : decode cX12_orders 59 = .ok (.iload 5, 2) := by decide +kernel
theorem dX12_orders_61 : decode cX12_orders 61 = .ok (.ireturn, 1) := by decide +kernel
theorem dX12_orders_62 : decode cX12_orders 62 = .ok (.bipush 60, 2) := by decide +kernel
theorem dX12_orders_64 : decode cX12_orders 64 = .ok (.iload_n 1, 1) := by decide +kernel
theorem dX12_orders_65 : decode cX12_orders 65 = .ok (.imul, 1) := by decide +kernel
theorem dX12_orders_66 : decode cX12_orders 66 = .ok (.iload_n 2, 1) := by decide +kernel
theorem dX12_orders_67 : decode cX12_orders 67 = .ok (.iadd, 1) := by decide +kernel
theorem dX12_orders_68 : decode cX12_orders 68 = .ok (.istore 6, 2) := by decide +kernel
theorem dX12_orders_70 : decode cX12_orders 70 = .ok (.iconst 0, 1) := by decide +kernel
theorem dX12_orders_71 : decode cX12_orders 71 = .ok (.istore 7, 2) := by decide +kernel
theorem dX12_orders_73 : decode cX12_orders 73 = .ok (.iload 7, 2) := by decide +kernel
theorem dX12_orders_75 : decode cX12_orders 75 = .ok (.iload_n 3, 1) := by decide +kernel
theorem dX12_orders_76 : decode cX12_orders 76 = .ok (.if_icmp .ge 94, 3) := by decide +kernel
theorem dX12_orders_79 : decode cX12_orders 79 = .ok (.aload_n 0, 1) := by decide +kernel
theorem dX12_orders_80 : decode cX12_orders 80 = .ok (.getfield 16, 3) := by decide +kernel
theorem dX12_orders_83 : decode cX12_orders 83 = .ok (.iload 6, 2) := by decide +kernel
theorem dX12_orders_85 : decode cX12_orders 85 = .ok (.iconst 3, 1) := by decide +kernel
theorem dX12_orders_86 : decode cX12_orders 86 = .ok (.iload 7, 2) := by decide +kernel
theorem dX12_orders_88 : decode cX12_orders 88 = .ok (.imul, 1) := by decide +kernel
theorem dX12_orders_89 : decode cX12_orders 89 = .ok (.iadd, 1) := by decide +kernel
theorem dX12_orders_90 : decode cX12_orders 90 = .ok (.iaload, 1) := by decide +kernel
theorem dX12_orders_91 : decode cX12_orders 91 = .ok (.i2l, 1) := by decide +kernel
theorem dX12_orders_92 : decode cX12_orders 92 = .ok (.lconst 0, 1) := by decide +kernel
theorem dX12_orders_93 : decode cX12_orders 93 = .ok (.ldc2_w 255, 3) := by decide +kernel
theorem dX12_orders_96 : decode cX12_orders 96 = .ok (.invokestatic 117, 3) := by decide +kernel
theorem dX12_orders_99 : decode cX12_orders 99 = .ok (.ifCond .eq 53, 3) := by decide +kernel
theorem dX12_orders_102 : decode cX12_orders 102 = .ok (.aload_n 0, 1) := by decide +kernel
theorem dX12_orders_103 : decode cX12_orders 103 = .ok (.getfield 16, 3) := by decide +kernel
theorem dX12_orders_106 : decode cX12_orders 106 = .ok (.iload 6, 2) := by decide +kernel
theorem dX12_orders_108 : decode cX12_orders 108 = .ok (.iconst 3, 1) := by decide +kernel
theorem dX12_orders_109 : decode cX12_orders 109 = .ok (.iload 7, 2) := by decide +kernel
theorem dX12_orders_111 : decode cX12_orders 111 = .ok (.imul, 1) := by decide +kernel
theorem dX12_orders_112 : decode cX12_orders 112 = .ok (.iadd, 1) := by decide +kernel
theorem dX12_orders_113 : decode cX12_orders 113 = .ok (.iconst 1, 1) := by decide +kernel
theorem dX12_orders_114 : decode cX12_orders 114 = .ok (.iadd, 1) := by decide +kernel
theorem dX12_orders_115 : decode cX12_orders 115 = .ok (.iaload, 1) := by decide +kernel
theorem dX12_orders_116 : decode cX12_orders 116 = .ok (.i2l, 1) := by decide +kernel
theorem dX12_orders_117 : decode cX12_orders 117 = .ok (.lconst 1, 1) := by decide +kernel
theorem dX12_orders_118 : decode cX12_orders 118 = .ok (.ldc2_w 318, 3) := by decide +kernel
theorem dX12_orders_121 : decode cX12_orders 121 = .ok (.invokestatic 117, 3) := by decide +kernel
theorem dX12_orders_124 : decode cX12_orders 124 = .ok (.ifCond .eq 28, 3) := by decide +kernel
theorem dX12_orders_127 : decode cX12_orders 127 = .ok (.aload_n 0, 1) := by decide +kernel
theorem dX12_orders_128 : decode cX12_orders 128 = .ok (.getfield 16, 3) := by decide +kernel
theorem dX12_orders_131 : decode cX12_orders 131 = .ok (.iload 6, 2) := by decide +kernel
theorem dX12_orders_133 : decode cX12_orders 133 = .ok (.iconst 3, 1) := by decide +kernel
theorem dX12_orders_134 : decode cX12_orders 134 = .ok (.iload 7, 2) := by decide +kernel
theorem dX12_orders_136 : decode cX12_orders 136 = .ok (.imul, 1) := by decide +kernel
theorem dX12_orders_137 : decode cX12_orders 137 = .ok (.iadd, 1) := by decide +kernel
theorem dX12_orders_138 : decode cX12_orders 138 = .ok (.iconst 2, 1) := by decide +kernel
theorem dX12_orders_139 : decode cX12_orders 139 = .ok (.iadd, 1) := by decide +kernel
theorem dX12_orders_140 : decode cX12_orders 140 = .ok (.iaload, 1) := by decide +kernel
theorem dX12_orders_141 : decode cX12_orders 141 = .ok (.i2l, 1) := by decide +kernel
theorem dX12_orders_142 : decode cX12_orders 142 = .ok (.lconst 0, 1) := by decide +kernel
theorem dX12_orders_143 : decode cX12_orders 143 = .ok (.ldc2_w 224, 3) := by decide +kernel
theorem dX12_orders_146 : decode cX12_orders 146 = .ok (.invokestatic 117, 3) := by decide +kernel
theorem dX12_orders_149 : decode cX12_orders 149 = .ok (.ifCond .ne 6, 3) := by decide +kernel
theorem dX12_orders_152 : decode cX12_orders 152 = .ok (.ldc 127, 2) := by decide +kernel
theorem dX12_orders_154 : decode cX12_orders 154 = .ok (.ireturn, 1) := by decide +kernel
theorem dX12_orders_155 : decode cX12_orders 155 = .ok (.aload_n 0, 1) := by decide +kernel
theorem dX12_orders_156 : decode cX12_orders 156 = .ok (.getfield 99, 3) := by decide +kernel
theorem dX12_orders_159 : decode cX12_orders 159 = .ok (.iload 7, 2) := by decide +kernel
theorem dX12_orders_161 : decode cX12_orders 161 = .ok (.iload 7, 2) := by decide +kernel
theorem dX12_orders_163 : decode cX12_orders 163 = .ok (.iastore, 1) := by decide +kernel
theorem dX12_orders_164 : decode cX12_orders 164 = .ok (.iinc 7 1, 3) := by decide +kernel
theorem dX12_orders_167 : decode cX12_orders 167 = .ok (.goto (-94), 3) := by decide +kernel
theorem dX12_orders_170 : decode cX12_orders 170 = .ok (.aload_n 0, 1) := by decide +kernel
theorem dX12_orders_171 : decode cX12_orders 171 = .ok (.iconst 0, 1) := by decide +kernel
theorem dX12_orders_172 : decode cX12_orders 172 = .ok (.putfield 111, 3) := by decide +kernel
theorem dX12_orders_175 : decode cX12_orders 175 = .ok (.iconst (-1), 1) := by decide +kernel
theorem dX12_orders_176 : decode cX12_orders 176 = .ok (.istore 7, 2) := by decide +kernel
theorem dX12_orders_178 : decode cX12_orders 178 = .ok (.iconst 1, 1) := by decide +kernel
theorem dX12_orders_179 : decode cX12_orders 179 = .ok (.istore 8, 2) := by decide +kernel
theorem dX12_orders_181 : decode cX12_orders 181 = .ok (.iload 8, 2) := by decide +kernel
theorem dX12_orders_183 : decode cX12_orders 183 = .ok (.ifCond .eq 67, 3) := by decide +kernel
theorem dX12_orders_186 : decode cX12_orders 186 = .ok (.aload_n 0, 1) := by decide +kernel
theorem dX12_orders_187 : decode cX12_orders 187 = .ok (.iload 6, 2) := by decide +kernel
theorem dX12_orders_189 : decode cX12_orders 189 = .ok (.iload_n 3, 1) := by decide +kernel
theorem dX12_orders_190 : decode cX12_orders 190 = .ok (.invokevirtual 322, 3) := by decide +kernel
theorem dX12_orders_193 : decode cX12_orders 193 = .ok (.istore 9, 2) := by decide +kernel
theorem dX12_orders_195 : decode cX12_orders 195 = .ok (.iload 7, 2) := by decide +kernel
theorem dX12_orders_197 : decode cX12_orders 197 = .ok (.ifCond .lt 10, 3) := by decide +kernel
theorem dX12_orders_200 : decode cX12_orders 200 = .ok (.iload 9, 2) := by decide +kernel
theorem dX12_orders_202 : decode cX12_orders 202 = .ok (.iload 7, 2) := by decide +kernel
theorem dX12_orders_204 : decode cX12_orders 204 = .ok (.if_icmp .ge 36, 3) := by decide +kernel
theorem dX12_orders_207 : decode cX12_orders 207 = .ok (.iload 9, 2) := by decide +kernel
theorem dX12_orders_209 : decode cX12_orders 209 = .ok (.istore 7, 2) := by decide +kernel
theorem dX12_orders_211 : decode cX12_orders 211 = .ok (.iconst 0, 1) := by decide +kernel
theorem dX12_orders_212 : decode cX12_orders 212 = .ok (.istore 10, 2) := by decide +kernel
theorem dX12_orders_214 : decode cX12_orders 214 = .ok (.iload 10, 2) := by decide +kernel
theorem dX12_orders_216 : decode cX12_orders 216 = .ok (.iload_n 3, 1) := by decide +kernel
theorem dX12_orders_217 : decode cX12_orders 217 = .ok (.if_icmp .ge 23, 3) := by decide +kernel
theorem dX12_orders_220 : decode cX12_orders 220 = .ok (.aload_n 0, 1) := by decide +kernel
theorem dX12_orders_221 : decode cX12_orders 221 = .ok (.getfield 102, 3) := by decide +kernel
theorem dX12_orders_224 : decode cX12_orders 224 = .ok (.iload 10, 2) := by decide +kernel
theorem dX12_orders_226 : decode cX12_orders 226 = .ok (.aload_n 0, 1) := by decide +kernel
theorem dX12_orders_227 : decode cX12_orders 227 = .ok (.getfield 99, 3) := by decide +kernel
theorem dX12_orders_230 : decode cX12_orders 230 = .ok (.iload 10, 2) := by decide +kernel
theorem dX12_orders_232 : decode cX12_orders 232 = .ok (.iaload, 1) := by decide +kernel
theorem dX12_orders_233 : decode cX12_orders 233 = .ok (.iastore, 1) := by decide +kernel
theorem dX12_orders_234 : decode cX12_orders 234 = .ok (.iinc 10 1, 3) := by decide +kernel
theorem dX12_orders_237 : decode cX12_orders 237 = .ok (.goto (-23), 3) := by decide +kernel
theorem dX12_orders_240 : decode cX12_orders 240 = .ok (.aload_n 0, 1) := by decide +kernel
theorem dX12_orders_241 : decode cX12_orders 241 = .ok (.iload_n 3, 1) := by decide +kernel
theorem dX12_orders_242 : decode cX12_orders 242 = .ok (.invokevirtual 325, 3) := by decide +kernel
theorem dX12_orders_245 : decode cX12_orders 245 = .ok (.istore 8, 2) := by decide +kernel
theorem dX12_orders_247 : decode cX12_orders 247 = .ok (.goto (-66), 3) := by decide +kernel
theorem dX12_orders_250 : decode cX12_orders 250 = .ok (.iload 4, 2) := by decide +kernel
theorem dX12_orders_252 : decode cX12_orders 252 = .ok (.iconst (-1), 1) := by decide +kernel
theorem dX12_orders_253 : decode cX12_orders 253 = .ok (.if_icmp .ne 8, 3) := by decide +kernel
theorem dX12_orders_256 : decode cX12_orders 256 = .ok (.iload 7, 2) := by decide +kernel
theorem dX12_orders_258 : decode cX12_orders 258 = .ok (.goto 10, 3) := by decide +kernel
theorem dX12_orders_261 : decode cX12_orders 261 = .ok (.aload_n 0, 1) := by decide +kernel
theorem dX12_orders_262 : decode cX12_orders 262 = .ok (.getfield 102, 3) := by decide +kernel
theorem dX12_orders_265 : decode cX12_orders 265 = .ok (.iload 4, 2) := by decide +kernel
theorem dX12_orders_267 : decode cX12_orders 267 = .ok (.iaload, 1) := by decide +kernel
theorem dX12_orders_268 : decode cX12_orders 268 = .ok (.ireturn, 1) := by decide +kernel
def bX12_orders_0 (f1 f2 f3 f4 f5 : ox_F) (rc : Nat → ox_K) : ox_K := o_al 0 (o_ic (0) (o_puti 12 0 (o_il 1 (o_ct f1 1 (o_ifeq (rc 40) (o_il 3 (o_i2l (o_lc (1) (o_lc (7) (o_ct f2 3 (o_ifeq (rc 40) (o_il 4 (o_i2l (o_lc (-1) (o_il 3 (o_ic (1) (o_isub (o_i2l (o_ct f2 3 (o_ifne (rc 43) (rc 40)))))))))))))))))))))
def bX12_orders_40 (f1 f2 f3 f4 f5 : ox_F) (rc : Nat → ox_K) : ox_K := o_ic (-1000001) (o_iret)
def bX12_orders_43 (f1 f2 f3 f4 f5 : ox_F) (rc : Nat → ox_K) : ox_K := o_al 0 (o_il 1 (o_il 2 (o_ic (3) (o_il 3 (o_imul (o_cv f3 12 3 (o_is 5 (o_il 5 (o_ifge (rc 62) (o_il 5 (o_iret)))))))))))
def bX12_orders_62 (f1 f2 f3 f4 f5 : ox_F) (rc : Nat → ox_K) : ox_K := o_ic (60) (o_il 1 (o_imul (o_il 2 (o_iadd (o_is 6 (o_ic (0) (o_is 7 (rc 73))))))))
def bX12_orders_73 (f1 f2 f3 f4 f5 : ox_F) (rc : Nat → ox_K) : ox_K := o_keep [0, 3, 4, 6, 7] (o_il 7 (o_il 3 (o_icge (rc 170) (o_al 0 (o_getr 12 4 (o_il 6 (o_ic (3) (o_il 7 (o_imul (o_iadd (o_ia (o_i2l (o_lc (0) (o_lc (15) (o_ct f2 3 (o_ifeq (rc 152) (o_al 0 (o_getr 12 4 (o_il 6 (o_ic (3) (o_il 7 (o_imul (o_iadd (o_ic (1) (o_iadd (o_ia (o_i2l (o_lc (1) (o_lc (99) (o_ct f2 3 (o_ifeq (rc 152) (o_al 0 (o_getr 12 4 (o_il 6 (o_ic (3) (o_il 7 (o_imul (o_iadd (o_ic (2) (o_iadd (o_ia (o_i2l (o_lc (0) (o_lc (999) (o_ct f2 3 (o_ifne (rc 155) (rc 152)))))))))))))))))))))))))))))))))))))))))))))))
def bX12_orders_152 (f1 f2 f3 f4 f5 : ox_F) (rc : Nat → ox_K) : ox_K := o_ic (-1000001) (o_iret)
def bX12_orders_155 (f1 f2 f3 f4 f5 : ox_F) (rc : Nat → ox_K) : ox_K := o_al 0 (o_getr 12 55 (o_il 7 (o_il 7 (o_iast (o_inc 7 (1) (rc 73))))))
def bX12_orders_170 (f1 f2 f3 f4 f5 : ox_F) (rc : Nat → ox_K) : ox_K := o_al 0 (o_ic (0) (o_puti 12 1 (o_ic (-1) (o_is 7 (o_ic (1) (o_is 8 (rc 181)))))))
def bX12_orders_181 (f1 f2 f3 f4 f5 : ox_F) (rc : Nat → ox_K) : ox_K := o_keep [0, 3, 4, 6, 7, 8] (o_il 8 (o_ifeq (rc 250) (o_al 0 (o_il 6 (o_il 3 (o_cv f4 12 2 (o_is 9 (o_il 7 (o_iflt (rc 207) (o_il 9 (o_il 7 (o_icge (rc 240) (rc 207)))))))))))))
def bX12_orders_207 (f1 f2 f3 f4 f5 : ox_F) (rc : Nat → ox_K) : ox_K := o_il 9 (o_is 7 (o_ic (0) (o_is 10 (rc 214))))
def bX12_orders_214 (f1 f2 f3 f4 f5 : ox_F) (rc : Nat → ox_K) : ox_K := o_keep [0, 3, 4, 6, 7, 10] (o_il 10 (o_il 3 (o_icge (rc 240) (o_al 0 (o_getr 12 56 (o_il 10 (o_al 0 (o_getr 12 55 (o_il 10 (o_ia (o_iast (o_inc 10 (1) (rc 214)))))))))))))
def bX12_orders_240 (f1 f2 f3 f4 f5 : ox_F) (rc : Nat → ox_K) : ox_K := o_al 0 (o_il 3 (o_cv f5 12 1 (o_is 8 (rc 181))))
def bX12_orders_250 (f1 f2 f3 f4 f5 : ox_F) (rc : Nat → ox_K) : ox_K := o_il 4 (o_ic (-1) (o_icne (rc 261) (o_il 7 (rc 268))))
def bX12_orders_261 (f1 f2 f3 f4 f5 : ox_F) (rc : Nat → ox_K) : ox_K := o_al 0 (o_getr 12 56 (o_il 4 (o_ia (rc 268))))
def bX12_orders_268 (f1 f2 f3 f4 f5 : ox_F) (rc : Nat → ox_K) : ox_K := o_iret
section SX12_orders
variable {p : Program} {l : Launch} {e : Env} {R : Room} {s : State} {m : MethodId} {args : Array Value} {below : List Frame} {meth : Method} {c : Code} {g : ox_G} {c0 t0 dp d1 d2 d3 d4 d5 : Nat} {rc : Nat → ox_K} {f1 f2 f3 f4 f5 : ox_F}
set_option maxRecDepth 100000 in
theorem kX12_orders_0 (C : ox_C p s m args c g 11 cX12_orders RX12) (hr : meth.sig.returnType = (some .int)) (hlk : meth.locks = false) (hnm : meth.name = "orders") (hR : R.frames = dp ∧ R.locals = 60 * dp) (h1 : ox_Sem yX12_isSheet cX12_isSheet 1 (some .boolean) d1 f1) (e1 : d1 + 1 ≤ dp) (h2 : ox_Sem yX12_in cX12_in 6 (some .boolean) d2 f2) (e2 : d2 + 1 ≤ dp) (h3 : ox_Sem yX12_lookItems cX12_lookItems 4 (some .int) d3 f3) (e3 : d3 + 1 ≤ dp) (h4 : ox_Sem yX12_costOf cX12_costOf 7 (some .int) d4 f4) (e4 : d4 + 1 ≤ dp) (h5 : ox_Sem yX12_nextRow cX12_nextRow 7 (some .boolean) d5 f5) (e5 : d5 + 1 ≤ dp) (hrc : ∀ b, ox_S p l e R s m args below meth c g 11 c0 t0 (ox_QM g below args s c0 t0) b (rc b)) : ox_S p l e R s m args below meth c g 11 c0 t0 (ox_QM g below args s c0 t0) 0 (bX12_orders_0 f1 f2 f3 f4 f5 rc) := by
  refine s_aload_n (pc := 0) C dX12_orders_0 rfl ?_
  refine s_iconst (pc := 1) C dX12_orders_1 (by decide) ?_
  refine s_puti (pc := 2) (j := 0) (q := (RX12, TX12, 59)) C rfl (by decide) rfl (Or.inl rfl) wF_X12_108 dX12_orders_2 ?_
  refine s_iload_n (pc := 5) C dX12_orders_5 rfl ?_
  refine s_ct (pc := 6) C h1 wM_X12_121 wT_X12_isSheet wN_X12 wC_X12_isSheet (by decide +kernel) (ox_lv hR e1 (by decide)) dX12_orders_6 ?_
  refine s_ifeq (pc := 9) 40 C dX12_orders_9 (by decide) (hrc 40) ?_
  refine s_iload_n (pc := 12) C dX12_orders_12 rfl ?_
  refine s_i2l (pc := 13) C dX12_orders_13 ?_
  refine s_lconst (pc := 14) C dX12_orders_14 (by decide) ?_
  refine s_ldc2 (pc := 15) C wL_X12_115 dX12_orders_15 ?_
  refine s_ct (pc := 18) C h2 wM_X12_117 wT_X12_in wN_X12 wC_X12_in (by decide +kernel) (ox_lv hR e2 (by decide)) dX12_orders_18 ?_
  refine s_ifeq (pc := 21) 40 C dX12_orders_21 (by decide) (hrc 40) ?_
  refine s_iload (pc := 24) C dX12_orders_24 ?_
  refine s_i2l (pc := 26) C dX12_orders_26 ?_
  refine s_ldc2 (pc := 27) C wL_X12_320 dX12_orders_27 ?_
  refine s_iload_n (pc := 30) C dX12_orders_30 rfl ?_
  refine s_iconst (pc := 31) C dX12_orders_31 (by decide) ?_
  refine s_isub (pc := 32) C dX12_orders_32 ?_
  refine s_i2l (pc := 33) C dX12_orders_33 ?_
  refine s_ct (pc := 34) C h2 wM_X12_117 wT_X12_in wN_X12 wC_X12_in (by decide +kernel) (ox_lv hR e2 (by decide)) dX12_orders_34 ?_
  refine s_ifne (pc := 37) 43 C dX12_orders_37 (by decide) (hrc 43) ?_
  exact hrc 40
set_option maxRecDepth 100000 in
theorem kX12_orders_40 (C : ox_C p s m args c g 11 cX12_orders RX12) (hr : meth.sig.returnType = (some .int)) (hlk : meth.locks = false) (hnm : meth.name = "orders") (hR : R.frames = dp ∧ R.locals = 60 * dp) (h1 : ox_Sem yX12_isSheet cX12_isSheet 1 (some .boolean) d1 f1) (e1 : d1 + 1 ≤ dp) (h2 : ox_Sem yX12_in cX12_in 6 (some .boolean) d2 f2) (e2 : d2 + 1 ≤ dp) (h3 : ox_Sem yX12_lookItems cX12_lookItems 4 (some .int) d3 f3) (e3 : d3 + 1 ≤ dp) (h4 : ox_Sem yX12_costOf cX12_costOf 7 (some .int) d4 f4) (e4 : d4 + 1 ≤ dp) (h5 : ox_Sem yX12_nextRow cX12_nextRow 7 (some .boolean) d5 f5) (e5 : d5 + 1 ≤ dp) (hrc : ∀ b, ox_S p l e R s m args below meth c g 11 c0 t0 (ox_QM g below args s c0 t0) b (rc b)) : ox_S p l e R s m args below meth c g 11 c0 t0 (ox_QM g below args s c0 t0) 40 (bX12_orders_40 f1 f2 f3 f4 f5 rc) := by
  refine s_ldc (pc := 40) C wK_X12_127 dX12_orders_40 ?_
  exact s_iret (pc := 42) C hr hlk dX12_orders_42
set_option maxRecDepth 100000 in
theorem kX12_orders_43 (C : ox_C p s m args c g 11 cX12_orders RX12) (hr : meth.sig.returnType = (some .int)) (hlk : meth.locks = false) (hnm : meth.name = "orders") (hR : R.frames = dp ∧ R.locals = 60 * dp) (h1 : ox_Sem yX12_isSheet cX12_isSheet 1 (some .boolean) d1 f1) (e1 : d1 + 1 ≤ dp) (h2 : ox_Sem yX12_in cX12_in 6 (some .boolean) d2 f2) (e2 : d2 + 1 ≤ dp) (h3 : ox_Sem yX12_lookItems cX12_lookItems 4 (some .int) d3 f3) (e3 : d3 + 1 ≤ dp) (h4 : ox_Sem yX12_costOf cX12_costOf 7 (some .int) d4 f4) (e4 : d4 + 1 ≤ dp) (h5 : ox_Sem yX12_nextRow cX12_nextRow 7 (some .boolean) d5 f5) (e5 : d5 + 1 ≤ dp) (hrc : ∀ b, ox_S p l e R s m args below meth c g 11 c0 t0 (ox_QM g below args s c0 t0) b (rc b)) : ox_S p l e R s m args below meth c g 11 c0 t0 (ox_QM g below args s c0 t0) 43 (bX12_orders_43 f1 f2 f3 f4 f5 rc) := by
  refine s_aload_n (pc := 43) C dX12_orders_43 rfl ?_
  refine s_iload_n (pc := 44) C dX12_orders_44 rfl ?_
  refine s_iload_n (pc := 45) C dX12_orders_45 rfl ?_
  refine s_iconst (pc := 46) C dX12_orders_46 (by decide) ?_
  refine s_iload_n (pc := 47) C dX12_orders_47 rfl ?_
  refine s_imul (pc := 48) C dX12_orders_48 ?_
  refine s_cv (pc := 49) (q := (RX12, TX12, 59)) C h3 rfl wM_X12_314 wI_X12_lookItems wS_X12_lookItems wN_X12 wC_X12_lookItems (by decide +kernel) (ox_lv hR e3 (by decide)) dX12_orders_49 ?_
  refine s_istore (pc := 52) C dX12_orders_52 (by decide) ?_
  refine s_iload (pc := 54) C dX12_orders_54 ?_
  refine s_ifge (pc := 56) 62 C dX12_orders_56 (by decide) (hrc 62) ?_
  refine s_iload (pc := 59) C dX12_orders_59 ?_
  exact s_iret (pc := 61) C hr hlk dX12_orders_61
set_option maxRecDepth 100000 in
theorem kX12_orders_62 (C : ox_C p s m args c g 11 cX12_orders RX12) (hr : meth.sig.returnType = (some .int)) (hlk : meth.locks = false) (hnm : meth.name = "orders") (hR : R.frames = dp ∧ R.locals = 60 * dp) (h1 : ox_Sem yX12_isSheet cX12_isSheet 1 (some .boolean) d1 f1) (e1 : d1 + 1 ≤ dp) (h2 : ox_Sem yX12_in cX12_in 6 (some .boolean) d2 f2) (e2 : d2 + 1 ≤ dp) (h3 : ox_Sem yX12_lookItems cX12_lookItems 4 (some .int) d3 f3) (e3 : d3 + 1 ≤ dp) (h4 : ox_Sem yX12_costOf cX12_costOf 7 (some .int) d4 f4) (e4 : d4 + 1 ≤ dp) (h5 : ox_Sem yX12_nextRow cX12_nextRow 7 (some .boolean) d5 f5) (e5 : d5 + 1 ≤ dp) (hrc : ∀ b, ox_S p l e R s m args below meth c g 11 c0 t0 (ox_QM g below args s c0 t0) b (rc b)) : ox_S p l e R s m args below meth c g 11 c0 t0 (ox_QM g below args s c0 t0) 62 (bX12_orders_62 f1 f2 f3 f4 f5 rc) := by
  refine s_bipush (pc := 62) C dX12_orders_62 (by decide) ?_
  refine s_iload_n (pc := 64) C dX12_orders_64 rfl ?_
  refine s_imul (pc := 65) C dX12_orders_65 ?_
  refine s_iload_n (pc := 66) C dX12_orders_66 rfl ?_
  refine s_iadd (pc := 67) C dX12_orders_67 ?_
  refine s_istore (pc := 68) C dX12_orders_68 (by decide) ?_
  refine s_iconst (pc := 70) C dX12_orders_70 (by decide) ?_
  refine s_istore (pc := 71) C dX12_orders_71 (by decide) ?_
  exact hrc 73
set_option maxRecDepth 100000 in
theorem kX12_orders_73 (C : ox_C p s m args c g 11 cX12_orders RX12) (hr : meth.sig.returnType = (some .int)) (hlk : meth.locks = false) (hnm : meth.name = "orders") (hR : R.frames = dp ∧ R.locals = 60 * dp) (h1 : ox_Sem yX12_isSheet cX12_isSheet 1 (some .boolean) d1 f1) (e1 : d1 + 1 ≤ dp) (h2 : ox_Sem yX12_in cX12_in 6 (some .boolean) d2 f2) (e2 : d2 + 1 ≤ dp) (h3 : ox_Sem yX12_lookItems cX12_lookItems 4 (some .int) d3 f3) (e3 : d3 + 1 ≤ dp) (h4 : ox_Sem yX12_costOf cX12_costOf 7 (some .int) d4 f4) (e4 : d4 + 1 ≤ dp) (h5 : ox_Sem yX12_nextRow cX12_nextRow 7 (some .boolean) d5 f5) (e5 : d5 + 1 ≤ dp) (hrc : ∀ b, ox_S p l e R s m args below meth c g 11 c0 t0 (ox_QM g below args s c0 t0) b (rc b)) : ox_S p l e R s m args below meth c g 11 c0 t0 (ox_QM g below args s c0 t0) 73 (bX12_orders_73 f1 f2 f3 f4 f5 rc) := by
  refine s_keep ?_
  refine s_iload (pc := 73) C dX12_orders_73 ?_
  refine s_iload_n (pc := 75) C dX12_orders_75 rfl ?_
  refine s_icmpge (pc := 76) 170 C dX12_orders_76 (by decide) (hrc 170) ?_
  refine s_aload_n (pc := 79) C dX12_orders_79 rfl ?_
  refine s_getr (pc := 80) (j := 4) (q := (RX12, TX12, 59)) C rfl (by decide) rfl wF_X12_16 dX12_orders_80 ?_
  refine s_iload (pc := 83) C dX12_orders_83 ?_
  refine s_iconst (pc := 85) C dX12_orders_85 (by decide) ?_
  refine s_iload (pc := 86) C dX12_orders_86 ?_
  refine s_imul (pc := 88) C dX12_orders_88 ?_
  refine s_iadd (pc := 89) C dX12_orders_89 ?_
  refine s_ia (pc := 90) C dX12_orders_90 ?_
  refine s_i2l (pc := 91) C dX12_orders_91 ?_
  refine s_lconst (pc := 92) C dX12_orders_92 (by decide) ?_
  refine s_ldc2 (pc := 93) C wL_X12_255 dX12_orders_93 ?_
  refine s_ct (pc := 96) C h2 wM_X12_117 wT_X12_in wN_X12 wC_X12_in (by decide +kernel) (ox_lv hR e2 (by decide)) dX12_orders_96 ?_
  refine s_ifeq (pc := 99) 152 C dX12_orders_99 (by decide) (hrc 152) ?_
  refine s_aload_n (pc := 102) C dX12_orders_102 rfl ?_
  refine s_getr (pc := 103) (j := 4) (q := (RX12, TX12, 59)) C rfl (by decide) rfl wF_X12_16 dX12_orders_103 ?_
  refine s_iload (pc := 106) C dX12_orders_106 ?_
  refine s_iconst (pc := 108) C dX12_orders_108 (by decide) ?_
  refine s_iload (pc := 109) C dX12_orders_109 ?_
  refine s_imul (pc := 111) C dX12_orders_111 ?_
  refine s_iadd (pc := 112) C dX12_orders_112 ?_
  refine s_iconst (pc := 113) C dX12_orders_113 (by decide) ?_
  refine s_iadd (pc := 114) C dX12_orders_114 ?_
  refine s_ia (pc := 115) C dX12_orders_115 ?_
  refine s_i2l (pc := 116) C dX12_orders_116 ?_
  refine s_lconst (pc := 117) C dX12_orders_117 (by decide) ?_
  refine s_ldc2 (pc := 118) C wL_X12_318 dX12_orders_118 ?_
  refine s_ct (pc := 121) C h2 wM_X12_117 wT_X12_in wN_X12 wC_X12_in (by decide +kernel) (ox_lv hR e2 (by decide)) dX12_orders_121 ?_
  refine s_ifeq (pc := 124) 152 C dX12_orders_124 (by decide) (hrc 152) ?_
  refine s_aload_n (pc := 127) C dX12_orders_127 rfl ?_
  refine s_getr (pc := 128) (j := 4) (q := (RX12, TX12, 59)) C rfl (by decide) rfl wF_X12_16 dX12_orders_128 ?_
  refine s_iload (pc := 131) C dX12_orders_131 ?_
  refine s_iconst (pc := 133) C dX12_orders_133 (by decide) ?_
  refine s_iload (pc := 134) C dX12_orders_134 ?_
  refine s_imul (pc := 136) C dX12_orders_136 ?_
  refine s_iadd (pc := 137) C dX12_orders_137 ?_
  refine s_iconst (pc := 138) C dX12_orders_138 (by decide) ?_
  refine s_iadd (pc := 139) C dX12_orders_139 ?_
  refine s_ia (pc := 140) C dX12_orders_140 ?_
  refine s_i2l (pc := 141) C dX12_orders_141 ?_
  refine s_lconst (pc := 142) C dX12_orders_142 (by decide) ?_
  refine s_ldc2 (pc := 143) C wL_X12_224 dX12_orders_143 ?_
  refine s_ct (pc := 146) C h2 wM_X12_117 wT_X12_in wN_X12 wC_X12_in (by decide +kernel) (ox_lv hR e2 (by decide)) dX12_orders_146 ?_
  refine s_ifne (pc := 149) 155 C dX12_orders_149 (by decide) (hrc 155) ?_
  exact hrc 152
set_option maxRecDepth 100000 in
theorem kX12_orders_152 (C : ox_C p s m args c g 11 cX12_orders RX12) (hr : meth.sig.returnType = (some .int)) (hlk : meth.locks = false) (hnm : meth.name = "orders") (hR : R.frames = dp ∧ R.locals = 60 * dp) (h1 : ox_Sem yX12_isSheet cX12_isSheet 1 (some .boolean) d1 f1) (e1 : d1 + 1 ≤ dp) (h2 : ox_Sem yX12_in cX12_in 6 (some .boolean) d2 f2) (e2 : d2 + 1 ≤ dp) (h3 : ox_Sem yX12_lookItems cX12_lookItems 4 (some .int) d3 f3) (e3 : d3 + 1 ≤ dp) (h4 : ox_Sem yX12_costOf cX12_costOf 7 (some .int) d4 f4) (e4 : d4 + 1 ≤ dp) (h5 : ox_Sem yX12_nextRow cX12_nextRow 7 (some .boolean) d5 f5) (e5 : d5 + 1 ≤ dp) (hrc : ∀ b, ox_S p l e R s m args below meth c g 11 c0 t0 (ox_QM g below args s c0 t0) b (rc b)) : ox_S p l e R s m args below meth c g 11 c0 t0 (ox_QM g below args s c0 t0) 152 (bX12_orders_152 f1 f2 f3 f4 f5 rc) := by
  refine s_ldc (pc := 152) C wK_X12_127 dX12_orders_152 ?_
  exact s_iret (pc := 154) C hr hlk dX12_orders_154
set_option maxRecDepth 100000 in
theorem kX12_orders_155 (C : ox_C p s m args c g 11 cX12_orders RX12) (hr : meth.sig.returnType = (some .int)) (hlk : meth.locks = false) (hnm : meth.name = "orders") (hR : R.frames = dp ∧ R.locals = 60 * dp) (h1 : ox_Sem yX12_isSheet cX12_isSheet 1 (some .boolean) d1 f1) (e1 : d1 + 1 ≤ dp) (h2 : ox_Sem yX12_in cX12_in 6 (some .boolean) d2 f2) (e2 : d2 + 1 ≤ dp) (h3 : ox_Sem yX12_lookItems cX12_lookItems 4 (some .int) d3 f3) (e3 : d3 + 1 ≤ dp) (h4 : ox_Sem yX12_costOf cX12_costOf 7 (some .int) d4 f4) (e4 : d4 + 1 ≤ dp) (h5 : ox_Sem yX12_nextRow cX12_nextRow 7 (some .boolean) d5 f5) (e5 : d5 + 1 ≤ dp) (hrc : ∀ b, ox_S p l e R s m args below meth c g 11 c0 t0 (ox_QM g below args s c0 t0) b (rc b)) : ox_S p l e R s m args below meth c g 11 c0 t0 (ox_QM g below args s c0 t0) 155 (bX12_orders_155 f1 f2 f3 f4 f5 rc) := by
  refine s_aload_n (pc := 155) C dX12_orders_155 rfl ?_
  refine s_getr (pc := 156) (j := 55) (q := (RX12, TX12, 59)) C rfl (by decide) rfl wF_X12_99 dX12_orders_156 ?_
  refine s_iload (pc := 159) C dX12_orders_159 ?_
  refine s_iload (pc := 161) C dX12_orders_161 ?_
  refine s_iast (pc := 163) C dX12_orders_163 ?_
  refine s_iinc (pc := 164) C dX12_orders_164 (by decide) (by decide) ?_
  exact s_goto (pc := 167) 73 C dX12_orders_167 (by decide) (hrc 73)
set_option maxRecDepth 100000 in
theorem kX12_orders_170 (C : ox_C p s m args c g 11 cX12_orders RX12) (hr : meth.sig.returnType = (some .int)) (hlk : meth.locks = false) (hnm : meth.name = "orders") (hR : R.frames = dp ∧ R.locals = 60 * dp) (h1 : ox_Sem yX12_isSheet cX12_isSheet 1 (some .boolean) d1 f1) (e1 : d1 + 1 ≤ dp) (h2 : ox_Sem yX12_in cX12_in 6 (some .boolean) d2 f2) (e2 : d2 + 1 ≤ dp) (h3 : ox_Sem yX12_lookItems cX12_lookItems 4 (some .int) d3 f3) (e3 : d3 + 1 ≤ dp) (h4 : ox_Sem yX12_costOf cX12_costOf 7 (some .int) d4 f4) (e4 : d4 + 1 ≤ dp) (h5 : ox_Sem yX12_nextRow cX12_nextRow 7 (some .boolean) d5 f5) (e5 : d5 + 1 ≤ dp) (hrc : ∀ b, ox_S p l e R s m args below meth c g 11 c0 t0 (ox_QM g below args s c0 t0) b (rc b)) : ox_S p l e R s m args below meth c g 11 c0 t0 (ox_QM g below args s c0 t0) 170 (bX12_orders_170 f1 f2 f3 f4 f5 rc) := by
  refine s_aload_n (pc := 170) C dX12_orders_170 rfl ?_
  refine s_iconst (pc := 171) C dX12_orders_171 (by decide) ?_
  refine s_puti (pc := 172) (j := 1) (q := (RX12, TX12, 59)) C rfl (by decide) rfl (Or.inl rfl) wF_X12_111 dX12_orders_172 ?_
  refine s_iconst (pc := 175) C dX12_orders_175 (by decide) ?_
  refine s_istore (pc := 176) C dX12_orders_176 (by decide) ?_
  refine s_iconst (pc := 178) C dX12_orders_178 (by decide) ?_
  refine s_istore (pc := 179) C dX12_orders_179 (by decide) ?_
  exact hrc 181
set_option maxRecDepth 100000 in
theorem kX12_orders_181 (C : ox_C p s m args c g 11 cX12_orders RX12) (hr : meth.sig.returnType = (some .int)) (hlk : meth.locks = false) (hnm : meth.name = "orders") (hR : R.frames = dp ∧ R.locals = 60 * dp) (h1 : ox_Sem yX12_isSheet cX12_isSheet 1 (some .boolean) d1 f1) (e1 : d1 + 1 ≤ dp) (h2 : ox_Sem yX12_in cX12_in 6 (some .boolean) d2 f2) (e2 : d2 + 1 ≤ dp) (h3 : ox_Sem yX12_lookItems cX12_lookItems 4 (some .int) d3 f3) (e3 : d3 + 1 ≤ dp) (h4 : ox_Sem yX12_costOf cX12_costOf 7 (some .int) d4 f4) (e4 : d4 + 1 ≤ dp) (h5 : ox_Sem yX12_nextRow cX12_nextRow 7 (some .boolean) d5 f5) (e5 : d5 + 1 ≤ dp) (hrc : ∀ b, ox_S p l e R s m args below meth c g 11 c0 t0 (ox_QM g below args s c0 t0) b (rc b)) : ox_S p l e R s m args below meth c g 11 c0 t0 (ox_QM g below args s c0 t0) 181 (bX12_orders_181 f1 f2 f3 f4 f5 rc) := by
  refine s_keep ?_
  refine s_iload (pc := 181) C dX12_orders_181 ?_
  refine s_ifeq (pc := 183) 250 C dX12_orders_183 (by decide) (hrc 250) ?_
  refine s_aload_n (pc := 186) C dX12_orders_186 rfl ?_
  refine s_iload (pc := 187) C dX12_orders_187 ?_
  refine s_iload_n (pc := 189) C dX12_orders_189 rfl ?_
  refine s_cv (pc := 190) (q := (RX12, TX12, 59)) C h4 rfl wM_X12_322 wI_X12_costOf wS_X12_costOf wN_X12 wC_X12_costOf (by decide +kernel) (ox_lv hR e4 (by decide)) dX12_orders_190 ?_
  refine s_istore (pc := 193) C dX12_orders_193 (by decide) ?_
  refine s_iload (pc := 195) C dX12_orders_195 ?_
  refine s_iflt (pc := 197) 207 C dX12_orders_197 (by decide) (hrc 207) ?_
  refine s_iload (pc := 200) C dX12_orders_200 ?_
  refine s_iload (pc := 202) C dX12_orders_202 ?_
  refine s_icmpge (pc := 204) 240 C dX12_orders_204 (by decide) (hrc 240) ?_
  exact hrc 207
set_option maxRecDepth 100000 in
theorem kX12_orders_207 (C : ox_C p s m args c g 11 cX12_orders RX12) (hr : meth.sig.returnType = (some .int)) (hlk : meth.locks = false) (hnm : meth.name = "orders") (hR : R.frames = dp ∧ R.locals = 60 * dp) (h1 : ox_Sem yX12_isSheet cX12_isSheet 1 (some .boolean) d1 f1) (e1 : d1 + 1 ≤ dp) (h2 : ox_Sem yX12_in cX12_in 6 (some .boolean) d2 f2) (e2 : d2 + 1 ≤ dp) (h3 : ox_Sem yX12_lookItems cX12_lookItems 4 (some .int) d3 f3) (e3 : d3 + 1 ≤ dp) (h4 : ox_Sem yX12_costOf cX12_costOf 7 (some .int) d4 f4) (e4 : d4 + 1 ≤ dp) (h5 : ox_Sem yX12_nextRow cX12_nextRow 7 (some .boolean) d5 f5) (e5 : d5 + 1 ≤ dp) (hrc : ∀ b, ox_S p l e R s m args below meth c g 11 c0 t0 (ox_QM g below args s c0 t0) b (rc b)) : ox_S p l e R s m args below meth c g 11 c0 t0 (ox_QM g below args s c0 t0) 207 (bX12_orders_207 f1 f2 f3 f4 f5 rc) := by
  refine s_iload (pc := 207) C dX12_orders_207 ?_
  refine s_istore (pc := 209) C dX12_orders_209 (by decide) ?_
  refine s_iconst (pc := 211) C dX12_orders_211 (by decide) ?_
  refine s_istore (pc := 212) C dX12_orders_212 (by decide) ?_
  exact hrc 214
set_option maxRecDepth 100000 in
theorem kX12_orders_214 (C : ox_C p s m args c g 11 cX12_orders RX12) (hr : meth.sig.returnType = (some .int)) (hlk : meth.locks = false) (hnm : meth.name = "orders") (hR : R.frames = dp ∧ R.locals = 60 * dp) (h1 : ox_Sem yX12_isSheet cX12_isSheet 1 (some .boolean) d1 f1) (e1 : d1 + 1 ≤ dp) (h2 : ox_Sem yX12_in cX12_in 6 (some .boolean) d2 f2) (e2 : d2 + 1 ≤ dp) (h3 : ox_Sem yX12_lookItems cX12_lookItems 4 (some .int) d3 f3) (e3 : d3 + 1 ≤ dp) (h4 : ox_Sem yX12_costOf cX12_costOf 7 (some .int) d4 f4) (e4 : d4 + 1 ≤ dp) (h5 : ox_Sem yX12_nextRow cX12_nextRow 7 (some .boolean) d5 f5) (e5 : d5 + 1 ≤ dp) (hrc : ∀ b, ox_S p l e R s m args below meth c g 11 c0 t0 (ox_QM g below args s c0 t0) b (rc b)) : ox_S p l e R s m args below meth c g 11 c0 t0 (ox_QM g below args s c0 t0) 214 (bX12_orders_214 f1 f2 f3 f4 f5 rc) := by
  refine s_keep ?_
  refine s_iload (pc := 214) C dX12_orders_214 ?_
  refine s_iload_n (pc := 216) C dX12_orders_216 rfl ?_
  refine s_icmpge (pc := 217) 240 C dX12_orders_217 (by decide) (hrc 240) ?_
  refine s_aload_n (pc := 220) C dX12_orders_220 rfl ?_
  refine s_getr (pc := 221) (j := 56) (q := (RX12, TX12, 59)) C rfl (by decide) rfl wF_X12_102 dX12_orders_221 ?_
  refine s_iload (pc := 224) C dX12_orders_224 ?_
  refine s_aload_n (pc := 226) C dX12_orders_226 rfl ?_
  refine s_getr (pc := 227) (j := 55) (q := (RX12, TX12, 59)) C rfl (by decide) rfl wF_X12_99 dX12_orders_227 ?_
  refine s_iload (pc := 230) C dX12_orders_230 ?_
  refine s_ia (pc := 232) C dX12_orders_232 ?_
  refine s_iast (pc := 233) C dX12_orders_233 ?_
  refine s_iinc (pc := 234) C dX12_orders_234 (by decide) (by decide) ?_
  exact s_goto (pc := 237) 214 C dX12_orders_237 (by decide) (hrc 214)
set_option maxRecDepth 100000 in
theorem kX12_orders_240 (C : ox_C p s m args c g 11 cX12_orders RX12) (hr : meth.sig.returnType = (some .int)) (hlk : meth.locks = false) (hnm : meth.name = "orders") (hR : R.frames = dp ∧ R.locals = 60 * dp) (h1 : ox_Sem yX12_isSheet cX12_isSheet 1 (some .boolean) d1 f1) (e1 : d1 + 1 ≤ dp) (h2 : ox_Sem yX12_in cX12_in 6 (some .boolean) d2 f2) (e2 : d2 + 1 ≤ dp) (h3 : ox_Sem yX12_lookItems cX12_lookItems 4 (some .int) d3 f3) (e3 : d3 + 1 ≤ dp) (h4 : ox_Sem yX12_costOf cX12_costOf 7 (some .int) d4 f4) (e4 : d4 + 1 ≤ dp) (h5 : ox_Sem yX12_nextRow cX12_nextRow 7 (some .boolean) d5 f5) (e5 : d5 + 1 ≤ dp) (hrc : ∀ b, ox_S p l e R s m args below meth c g 11 c0 t0 (ox_QM g below args s c0 t0) b (rc b)) : ox_S p l e R s m args below meth c g 11 c0 t0 (ox_QM g below args s c0 t0) 240 (bX12_orders_240 f1 f2 f3 f4 f5 rc) := by
  refine s_aload_n (pc := 240) C dX12_orders_240 rfl ?_
  refine s_iload_n (pc := 241) C dX12_orders_241 rfl ?_
  refine s_cv (pc := 242) (q := (RX12, TX12, 59)) C h5 rfl wM_X12_325 wI_X12_nextRow wS_X12_nextRow wN_X12 wC_X12_nextRow (by decide +kernel) (ox_lv hR e5 (by decide)) dX12_orders_242 ?_
  refine s_istore (pc := 245) C dX12_orders_245 (by decide) ?_
  exact s_goto (pc := 247) 181 C dX12_orders_247 (by decide) (hrc 181)
set_option maxRecDepth 100000 in
theorem kX12_orders_250 (C : ox_C p s m args c g 11 cX12_orders RX12) (hr : meth.sig.returnType = (some .int)) (hlk : meth.locks = false) (hnm : meth.name = "orders") (hR : R.frames = dp ∧ R.locals = 60 * dp) (h1 : ox_Sem yX12_isSheet cX12_isSheet 1 (some .boolean) d1 f1) (e1 : d1 + 1 ≤ dp) (h2 : ox_Sem yX12_in cX12_in 6 (some .boolean) d2 f2) (e2 : d2 + 1 ≤ dp) (h3 : ox_Sem yX12_lookItems cX12_lookItems 4 (some .int) d3 f3) (e3 : d3 + 1 ≤ dp) (h4 : ox_Sem yX12_costOf cX12_costOf 7 (some .int) d4 f4) (e4 : d4 + 1 ≤ dp) (h5 : ox_Sem yX12_nextRow cX12_nextRow 7 (some .boolean) d5 f5) (e5 : d5 + 1 ≤ dp) (hrc : ∀ b, ox_S p l e R s m args below meth c g 11 c0 t0 (ox_QM g below args s c0 t0) b (rc b)) : ox_S p l e R s m args below meth c g 11 c0 t0 (ox_QM g below args s c0 t0) 250 (bX12_orders_250 f1 f2 f3 f4 f5 rc) := by
  refine s_iload (pc := 250) C dX12_orders_250 ?_
  refine s_iconst (pc := 252) C dX12_orders_252 (by decide) ?_
  refine s_icmpne (pc := 253) 261 C dX12_orders_253 (by decide) (hrc 261) ?_
  refine s_iload (pc := 256) C dX12_orders_256 ?_
  exact s_goto (pc := 258) 268 C dX12_orders_258 (by decide) (hrc 268)
set_option maxRecDepth 100000 in
theorem kX12_orders_261 (C : ox_C p s m args c g 11 cX12_orders RX12) (hr : meth.sig.returnType = (some .int)) (hlk : meth.locks = false) (hnm : meth.name = "orders") (hR : R.frames = dp ∧ R.locals = 60 * dp) (h1 : ox_Sem yX12_isSheet cX12_isSheet 1 (some .boolean) d1 f1) (e1 : d1 + 1 ≤ dp) (h2 : ox_Sem yX12_in cX12_in 6 (some .boolean) d2 f2) (e2 : d2 + 1 ≤ dp) (h3 : ox_Sem yX12_lookItems cX12_lookItems 4 (some .int) d3 f3) (e3 : d3 + 1 ≤ dp) (h4 : ox_Sem yX12_costOf cX12_costOf 7 (some .int) d4 f4) (e4 : d4 + 1 ≤ dp) (h5 : ox_Sem yX12_nextRow cX12_nextRow 7 (some .boolean) d5 f5) (e5 : d5 + 1 ≤ dp) (hrc : ∀ b, ox_S p l e R s m args below meth c g 11 c0 t0 (ox_QM g below args s c0 t0) b (rc b)) : ox_S p l e R s m args below meth c g 11 c0 t0 (ox_QM g below args s c0 t0) 261 (bX12_orders_261 f1 f2 f3 f4 f5 rc) := by
  refine s_aload_n (pc := 261) C dX12_orders_261 rfl ?_
  refine s_getr (pc := 262) (j := 56) (q := (RX12, TX12, 59)) C rfl (by decide) rfl wF_X12_102 dX12_orders_262 ?_
  refine s_iload (pc := 265) C dX12_orders_265 ?_
  refine s_ia (pc := 267) C dX12_orders_267 ?_
  exact hrc 268
set_option maxRecDepth 100000 in
theorem kX12_orders_268 (C : ox_C p s m args c g 11 cX12_orders RX12) (hr : meth.sig.returnType = (some .int)) (hlk : meth.locks = false) (hnm : meth.name = "orders") (hR : R.frames = dp ∧ R.locals = 60 * dp) (h1 : ox_Sem yX12_isSheet cX12_isSheet 1 (some .boolean) d1 f1) (e1 : d1 + 1 ≤ dp) (h2 : ox_Sem yX12_in cX12_in 6 (some .boolean) d2 f2) (e2 : d2 + 1 ≤ dp) (h3 : ox_Sem yX12_lookItems cX12_lookItems 4 (some .int) d3 f3) (e3 : d3 + 1 ≤ dp) (h4 : ox_Sem yX12_costOf cX12_costOf 7 (some .int) d4 f4) (e4 : d4 + 1 ≤ dp) (h5 : ox_Sem yX12_nextRow cX12_nextRow 7 (some .boolean) d5 f5) (e5 : d5 + 1 ≤ dp) (hrc : ∀ b, ox_S p l e R s m args below meth c g 11 c0 t0 (ox_QM g below args s c0 t0) b (rc b)) : ox_S p l e R s m args below meth c g 11 c0 t0 (ox_QM g below args s c0 t0) 268 (bX12_orders_268 f1 f2 f3 f4 f5 rc) := by
  exact s_iret (pc := 268) C hr hlk dX12_orders_268
end SX12_orders
def bsX12_orders (f1 f2 f3 f4 f5 : ox_F) (b : Nat) (rc : Nat → ox_K) : ox_K := if b = 0 then bX12_orders_0 f1 f2 f3 f4 f5 rc else if b = 40 then bX12_orders_40 f1 f2 f3 f4 f5 rc else if b = 43 then bX12_orders_43 f1 f2 f3 f4 f5 rc else if b = 62 then bX12_orders_62 f1 f2 f3 f4 f5 rc else if b = 73 then bX12_orders_73 f1 f2 f3 f4 f5 rc else if b = 152 then bX12_orders_152 f1 f2 f3 f4 f5 rc else if b = 155 then bX12_orders_155 f1 f2 f3 f4 f5 rc else if b = 170 then bX12_orders_170 f1 f2 f3 f4 f5 rc else if b = 181 then bX12_orders_181 f1 f2 f3 f4 f5 rc else if b = 207 then bX12_orders_207 f1 f2 f3 f4 f5 rc else if b = 214 then bX12_orders_214 f1 f2 f3 f4 f5 rc else if b = 240 then bX12_orders_240 f1 f2 f3 f4 f5 rc else if b = 250 then bX12_orders_250 f1 f2 f3 f4 f5 rc else if b = 261 then bX12_orders_261 f1 f2 f3 f4 f5 rc else if b = 268 then bX12_orders_268 f1 f2 f3 f4 f5 rc else ox_no
theorem mX12_orders {dp d1 d2 d3 d4 d5 : Nat} {f1 f2 f3 f4 f5 f : ox_F} (h1 : ox_Sem yX12_isSheet cX12_isSheet 1 (some .boolean) d1 f1) (e1 : d1 + 1 ≤ dp) (h2 : ox_Sem yX12_in cX12_in 6 (some .boolean) d2 f2) (e2 : d2 + 1 ≤ dp) (h3 : ox_Sem yX12_lookItems cX12_lookItems 4 (some .int) d3 f3) (e3 : d3 + 1 ≤ dp) (h4 : ox_Sem yX12_costOf cX12_costOf 7 (some .int) d4 f4) (e4 : d4 + 1 ≤ dp) (h5 : ox_Sem yX12_nextRow cX12_nextRow 7 (some .boolean) d5 f5) (e5 : d5 + 1 ≤ dp) (hf : ∀ as h r, f as h = some r → ox_cs as ≤ 11 ∧ ox_le h r.2 ∧ ∃ n, ox_run (bsX12_orders f1 f2 f3 f4 f5) n 0 (lv_args 0 as) [] h = some r) : ox_Sem yX12_orders cX12_orders 11 (some .int) dp f := by
  refine ox_meth (bs := bsX12_orders f1 f2 f3 f4 f5) (by decide) hf ?_
  intro p l e R s m args below meth c g c0 t0 C hr hlk hnm hR rc hrc b
  unfold bsX12_orders
  refine ox_br (kX12_orders_0 C hr hlk hnm hR h1 e1 h2 e2 h3 e3 h4 e4 h5 e5 hrc) ?_
  refine ox_br (kX12_orders_40 C hr hlk hnm hR h1 e1 h2 e2 h3 e3 h4 e4 h5 e5 hrc) ?_
  refine ox_br (kX12_orders_43 C hr hlk hnm hR h1 e1 h2 e2 h3 e3 h4 e4 h5 e5 hrc) ?_
  refine ox_br (kX12_orders_62 C hr hlk hnm hR h1 e1 h2 e2 h3 e3 h4 e4 h5 e5 hrc) ?_
  refine ox_br (kX12_orders_73 C hr hlk hnm hR h1 e1 h2 e2 h3 e3 h4 e4 h5 e5 hrc) ?_
  refine ox_br (kX12_orders_152 C hr hlk hnm hR h1 e1 h2 e2 h3 e3 h4 e4 h5 e5 hrc) ?_
  refine ox_br (kX12_orders_155 C hr hlk hnm hR h1 e1 h2 e2 h3 e3 h4 e4 h5 e5 hrc) ?_
  refine ox_br (kX12_orders_170 C hr hlk hnm hR h1 e1 h2 e2 h3 e3 h4 e4 h5 e5 hrc) ?_
  refine ox_br (kX12_orders_181 C hr hlk hnm hR h1 e1 h2 e2 h3 e3 h4 e4 h5 e5 hrc) ?_
  refine ox_br (kX12_orders_207 C hr hlk hnm hR h1 e1 h2 e2 h3 e3 h4 e4 h5 e5 hrc) ?_
  refine ox_br (kX12_orders_214 C hr hlk hnm hR h1 e1 h2 e2 h3 e3 h4 e4 h5 e5 hrc) ?_
  refine ox_br (kX12_orders_240 C hr hlk hnm hR h1 e1 h2 e2 h3 e3 h4 e4 h5 e5 hrc) ?_
  refine ox_br (kX12_orders_250 C hr hlk hnm hR h1 e1 h2 e2 h3 e3 h4 e4 h5 e5 hrc) ?_
  refine ox_br (kX12_orders_261 C hr hlk hnm hR h1 e1 h2 e2 h3 e3 h4 e4 h5 e5 hrc) ?_
  refine ox_br (kX12_orders_268 C hr hlk hnm hR h1 e1 h2 e2 h3 e3 h4 e4 h5 e5 hrc) ?_
  exact s_no
theorem dX12_isOf_0 : decode cX12_isOf 0 = .ok (.iload_n 1, 1) := by decide +kernel
theorem dX12_isOf_1 : decode cX12_isOf 1 = .ok (.ifCond .eq 18, 3) := by decide +kernel
theorem dX12_isOf_4 : decode cX12_isOf 4 = .ok (.iload_n 0, 1) := by decide +kernel
theorem dX12_isOf_5 : decode cX12_isOf 5 = .ok (.iload_n 1, 1) := by decide +kernel
theorem dX12_isOf_6 : decode cX12_isOf 6 = .ok (.if_icmp .eq 13, 3) := by decide +kernel
theorem dX12_isOf_9 : decode cX12_isOf 9 = .ok (.iload_n 1, 1) := by decide +kernel
theorem dX12_isOf_10 : decode cX12_isOf 10 = .ok (.iconst 1, 1) := by decide +kernel
theorem dX12_isOf_11 : decode cX12_isOf 11 = .ok (.if_icmp .ne 12, 3) := by decide +kernel
theorem dX12_isOf_14 : decode cX12_isOf 14 = .ok (.iload_n 0, 1) := by decide +kernel
theorem dX12_isOf_15 : decode cX12_isOf 15 = .ok (.iconst 2, 1) := by decide +kernel
theorem dX12_isOf_16 : decode cX12_isOf 16 = .ok (.if_icmp .ne 7, 3) := by decide +kernel
theorem dX12_isOf_19 : decode cX12_isOf 19 = .ok (.iconst 1, 1) := by decide +kernel
theorem dX12_isOf_20 : decode cX12_isOf 20 = .ok (.goto 4, 3) := by decide +kernel
theorem dX12_isOf_23 : decode cX12_isOf 23 = .ok (.iconst 0, 1) := by decide +kernel
theorem dX12_isOf_24 : decode cX12_isOf 24 = .ok (.ireturn, 1) := by decide +kernel
def bX12_isOf_0 (rc : Nat → ox_K) : ox_K := o_il 1 (o_ifeq (rc 19) (o_il 0 (o_il 1 (o_iceq (rc 19) (o_il 1 (o_ic (1) (o_icne (rc 23) (o_il 0 (o_ic (2) (o_icne (rc 23) (rc 19)))))))))))
def bX12_isOf_19 (rc : Nat → ox_K) : ox_K := o_ic (1) (rc 24)
def bX12_isOf_23 (rc : Nat → ox_K) : ox_K := o_ic (0) (rc 24)
def bX12_isOf_24 (rc : Nat → ox_K) : ox_K := o_zret
section SX12_isOf
variable {p : Program} {l : Launch} {e : Env} {R : Room} {s : State} {m : MethodId} {args : Array Value} {below : List Frame} {meth : Method} {c : Code} {g : ox_G} {c0 t0 dp  : Nat} {rc : Nat → ox_K}
set_option maxRecDepth 100000 in
theorem kX12_isOf_0 (C : ox_C p s m args c g 2 cX12_isOf RX12) (hr : meth.sig.returnType = (some .boolean)) (hlk : meth.locks = false) (hnm : meth.name = "isOf") (hR : R.frames = dp ∧ R.locals = 60 * dp) (hrc : ∀ b, ox_S p l e R s m args below meth c g 2 c0 t0 (ox_QM g below args s c0 t0) b (rc b)) : ox_S p l e R s m args below meth c g 2 c0 t0 (ox_QM g below args s c0 t0) 0 (bX12_isOf_0 rc) := by
  refine s_iload_n (pc := 0) C dX12_isOf_0 rfl ?_
  refine s_ifeq (pc := 1) 19 C dX12_isOf_1 (by decide) (hrc 19) ?_
  refine s_iload_n (pc := 4) C dX12_isOf_4 rfl ?_
  refine s_iload_n (pc := 5) C dX12_isOf_5 rfl ?_
  refine s_icmpeq (pc := 6) 19 C dX12_isOf_6 (by decide) (hrc 19) ?_
  refine s_iload_n (pc := 9) C dX12_isOf_9 rfl ?_
  refine s_iconst (pc := 10) C dX12_isOf_10 (by decide) ?_
  refine s_icmpne (pc := 11) 23 C dX12_isOf_11 (by decide) (hrc 23) ?_
  refine s_iload_n (pc := 14) C dX12_isOf_14 rfl ?_
  refine s_iconst (pc := 15) C dX12_isOf_15 (by decide) ?_
  refine s_icmpne (pc := 16) 23 C dX12_isOf_16 (by decide) (hrc 23) ?_
  exact hrc 19
set_option maxRecDepth 100000 in
theorem kX12_isOf_19 (C : ox_C p s m args c g 2 cX12_isOf RX12) (hr : meth.sig.returnType = (some .boolean)) (hlk : meth.locks = false) (hnm : meth.name = "isOf") (hR : R.frames = dp ∧ R.locals = 60 * dp) (hrc : ∀ b, ox_S p l e R s m args below meth c g 2 c0 t0 (ox_QM g below args s c0 t0) b (rc b)) : ox_S p l e R s m args below meth c g 2 c0 t0 (ox_QM g below args s c0 t0) 19 (bX12_isOf_19 rc) := by
  refine s_iconst (pc := 19) C dX12_isOf_19 (by decide) ?_
  exact s_goto (pc := 20) 24 C dX12_isOf_20 (by decide) (hrc 24)
set_option maxRecDepth 100000 in
theorem kX12_isOf_23 (C : ox_C p s m args c g 2 cX12_isOf RX12) (hr : meth.sig.returnType = (some .boolean)) (hlk : meth.locks = false) (hnm : meth.name = "isOf") (hR : R.frames = dp ∧ R.locals = 60 * dp) (hrc : ∀ b, ox_S p l e R s m args below meth c g 2 c0 t0 (ox_QM g below args s c0 t0) b (rc b)) : ox_S p l e R s m args below meth c g 2 c0 t0 (ox_QM g below args s c0 t0) 23 (bX12_isOf_23 rc) := by
  refine s_iconst (pc := 23) C dX12_isOf_23 (by decide) ?_
  exact hrc 24
set_option maxRecDepth 100000 in
theorem kX12_isOf_24 (C : ox_C p s m args c g 2 cX12_isOf RX12) (hr : meth.sig.returnType = (some .boolean)) (hlk : meth.locks = false) (hnm : meth.name = "isOf") (hR : R.frames = dp ∧ R.locals = 60 * dp) (hrc : ∀ b, ox_S p l e R s m args below meth c g 2 c0 t0 (ox_QM g below args s c0 t0) b (rc b)) : ox_S p l e R s m args below meth c g 2 c0 t0 (ox_QM g below args s c0 t0) 24 (bX12_isOf_24 rc) := by
  exact s_zret (pc := 24) C hr (by decide) hlk dX12_isOf_24
end SX12_isOf
def bsX12_isOf (b : Nat) (rc : Nat → ox_K) : ox_K := if b = 0 then bX12_isOf_0 rc else if b = 19 then bX12_isOf_19 rc else if b = 23 then bX12_isOf_23 rc else if b = 24 then bX12_isOf_24 rc else ox_no
theorem mX12_isOf {dp  : Nat} {f : ox_F} (hf : ∀ as h r, f as h = some r → ox_cs as ≤ 2 ∧ ox_le h r.2 ∧ ∃ n, ox_run (bsX12_isOf) n 0 (lv_args 0 as) [] h = some r) : ox_Sem yX12_isOf cX12_isOf 2 (some .boolean) dp f := by
  refine ox_meth (bs := bsX12_isOf) (by decide) hf ?_
  intro p l e R s m args below meth c g c0 t0 C hr hlk hnm hR rc hrc b
  unfold bsX12_isOf
  refine ox_br (kX12_isOf_0 C hr hlk hnm hR hrc) ?_
  refine ox_br (kX12_isOf_19 C hr hlk hnm hR hrc) ?_
  refine ox_br (kX12_isOf_23 C hr hlk hnm hR hrc) ?_
  refine ox_br (kX12_isOf_24 C hr hlk hnm hR hrc) ?_
  exact s_no
theorem dX12_kind_0 : decode cX12_kind 0 = .ok (.aload_n 0, 1) := by decide +kernel
theorem dX12_kind_1 : decode cX12_kind 1 = .ok (.iconst 0, 1) := by decide +kernel
theorem dX12_kind_2 : decode cX12_kind 2 = .ok (.putfield 108, 3) := by decide +kernel
theorem dX12_kind_5 : decode cX12_kind 5 = .ok (.aload_n 0, 1) := by decide +kernel
theorem dX12_kind_6 : decode cX12_kind 6 = .ok (.iload_n 1, 1) := by decide +kernel
theorem dX12_kind_7 : decode cX12_kind 7 = .ok (.invokevirtual 300, 3) := by decide +kernel
theorem dX12_kind_10 : decode cX12_kind 10 = .ok (.ifCond .eq 11, 3) := by decide +kernel
theorem dX12_kind_13 : decode cX12_kind 13 = .ok (.aload_n 0, 1) := by decide +kernel
theorem dX12_kind_14 : decode cX12_kind 14 = .ok (.iload_n 1, 1) := by decide +kernel
theorem dX12_kind_15 : decode cX12_kind 15 = .ok (.invokevirtual 309, 3) := by decide +kernel
theorem dX12_kind_18 : decode cX12_kind 18 = .ok (.goto 5, 3) := by decide +kernel
theorem dX12_kind_21 : decode cX12_kind 21 = .ok (.ldc 127, 2) := by decide +kernel
theorem dX12_kind_23 : decode cX12_kind 23 = .ok (.ireturn, 1) := by decide +kernel
def bX12_kind_0 (f1 f2 : ox_F) (rc : Nat → ox_K) : ox_K := o_al 0 (o_ic (0) (o_puti 12 0 (o_al 0 (o_il 1 (o_cv f1 12 1 (o_ifeq (rc 21) (o_al 0 (o_il 1 (o_cv f2 12 1 (rc 23))))))))))
def bX12_kind_21 (f1 f2 : ox_F) (rc : Nat → ox_K) : ox_K := o_ic (-1000001) (rc 23)
def bX12_kind_23 (f1 f2 : ox_F) (rc : Nat → ox_K) : ox_K := o_iret
section SX12_kind
variable {p : Program} {l : Launch} {e : Env} {R : Room} {s : State} {m : MethodId} {args : Array Value} {below : List Frame} {meth : Method} {c : Code} {g : ox_G} {c0 t0 dp d1 d2 : Nat} {rc : Nat → ox_K} {f1 f2 : ox_F}
set_option maxRecDepth 100000 in
theorem kX12_kind_0 (C : ox_C p s m args c g 2 cX12_kind RX12) (hr : meth.sig.returnType = (some .int)) (hlk : meth.locks = false) (hnm : meth.name = "kind") (hR : R.frames = dp ∧ R.locals = 60 * dp) (h1 : ox_Sem yX12_isBar cX12_isBar 2 (some .boolean) d1 f1) (e1 : d1 + 1 ≤ dp) (h2 : ox_Sem yX12_kindOf cX12_kindOf 3 (some .int) d2 f2) (e2 : d2 + 1 ≤ dp) (hrc : ∀ b, ox_S p l e R s m args below meth c g 2 c0 t0 (ox_QM g below args s c0 t0) b (rc b)) : ox_S p l e R s m args below meth c g 2 c0 t0 (ox_QM g below args s c0 t0) 0 (bX12_kind_0 f1 f2 rc) := by
  refine s_aload_n (pc := 0) C dX12_kind_0 rfl ?_
  refine s_iconst (pc := 1) C dX12_kind_1 (by decide) ?_
  refine s_puti (pc := 2) (j := 0) (q := (RX12, TX12, 59)) C rfl (by decide) rfl (Or.inl rfl) wF_X12_108 dX12_kind_2 ?_
  refine s_aload_n (pc := 5) C dX12_kind_5 rfl ?_
  refine s_iload_n (pc := 6) C dX12_kind_6 rfl ?_
  refine s_cv (pc := 7) (q := (RX12, TX12, 59)) C h1 rfl wM_X12_300 wI_X12_isBar wS_X12_isBar wN_X12 wC_X12_isBar (by decide +kernel) (ox_lv hR e1 (by decide)) dX12_kind_7 ?_
  refine s_ifeq (pc := 10) 21 C dX12_kind_10 (by decide) (hrc 21) ?_
  refine s_aload_n (pc := 13) C dX12_kind_13 rfl ?_
  refine s_iload_n (pc := 14) C dX12_kind_14 rfl ?_
  refine s_cv (pc := 15) (q := (RX12, TX12, 59)) C h2 rfl wM_X12_309 wI_X12_kindOf wS_X12_kindOf wN_X12 wC_X12_kindOf (by decide +kernel) (ox_lv hR e2 (by decide)) dX12_kind_15 ?_
  exact s_goto (pc := 18) 23 C dX12_kind_18 (by decide) (hrc 23)
set_option maxRecDepth 100000 in
theorem kX12_kind_21 (C : ox_C p s m args c g 2 cX12_kind RX12) (hr : meth.sig.returnType = (some .int)) (hlk : meth.locks = false) (hnm : meth.name = "kind") (hR : R.frames = dp ∧ R.locals = 60 * dp) (h1 : ox_Sem yX12_isBar cX12_isBar 2 (some .boolean) d1 f1) (e1 : d1 + 1 ≤ dp) (h2 : ox_Sem yX12_kindOf cX12_kindOf 3 (some .int) d2 f2) (e2 : d2 + 1 ≤ dp) (hrc : ∀ b, ox_S p l e R s m args below meth c g 2 c0 t0 (ox_QM g below args s c0 t0) b (rc b)) : ox_S p l e R s m args below meth c g 2 c0 t0 (ox_QM g below args s c0 t0) 21 (bX12_kind_21 f1 f2 rc) := by
  refine s_ldc (pc := 21) C wK_X12_127 dX12_kind_21 ?_
  exact hrc 23
set_option maxRecDepth 100000 in
theorem kX12_kind_23 (C : ox_C p s m args c g 2 cX12_kind RX12) (hr : meth.sig.returnType = (some .int)) (hlk : meth.locks = false) (hnm : meth.name = "kind") (hR : R.frames = dp ∧ R.locals = 60 * dp) (h1 : ox_Sem yX12_isBar cX12_isBar 2 (some .boolean) d1 f1) (e1 : d1 + 1 ≤ dp) (h2 : ox_Sem yX12_kindOf cX12_kindOf 3 (some .int) d2 f2) (e2 : d2 + 1 ≤ dp) (hrc : ∀ b, ox_S p l e R s m args below meth c g 2 c0 t0 (ox_QM g below args s c0 t0) b (rc b)) : ox_S p l e R s m args below meth c g 2 c0 t0 (ox_QM g below args s c0 t0) 23 (bX12_kind_23 f1 f2 rc) := by
  exact s_iret (pc := 23) C hr hlk dX12_kind_23
end SX12_kind
def bsX12_kind (f1 f2 : ox_F) (b : Nat) (rc : Nat → ox_K) : ox_K := if b = 0 then bX12_kind_0 f1 f2 rc else if b = 21 then bX12_kind_21 f1 f2 rc else if b = 23 then bX12_kind_23 f1 f2 rc else ox_no
theorem mX12_kind {dp d1 d2 : Nat} {f1 f2 f : ox_F} (h1 : ox_Sem yX12_isBar cX12_isBar 2 (some .boolean) d1 f1) (e1 : d1 + 1 ≤ dp) (h2 : ox_Sem yX12_kindOf cX12_kindOf 3 (some .int) d2 f2) (e2 : d2 + 1 ≤ dp) (hf : ∀ as h r, f as h = some r → ox_cs as ≤ 2 ∧ ox_le h r.2 ∧ ∃ n, ox_run (bsX12_kind f1 f2) n 0 (lv_args 0 as) [] h = some r) : ox_Sem yX12_kind cX12_kind 2 (some .int) dp f := by
  refine ox_meth (bs := bsX12_kind f1 f2) (by decide) hf ?_
  intro p l e R s m args below meth c g c0 t0 C hr hlk hnm hR rc hrc b
  unfold bsX12_kind
  refine ox_br (kX12_kind_0 C hr hlk hnm hR h1 e1 h2 e2 hrc) ?_
  refine ox_br (kX12_kind_21 C hr hlk hnm hR h1 e1 h2 e2 hrc) ?_
  refine ox_br (kX12_kind_23 C hr hlk hnm hR h1 e1 h2 e2 hrc) ?_
  exact s_no
theorem dX12_as_0 : decode cX12_as 0 = .ok (.aload_n 0, 1) := by decide +kernel
theorem dX12_as_1 : decode cX12_as 1 = .ok (.iconst 0, 1) := by decide +kernel
theorem dX12_as_2 : decode cX12_as 2 = .ok (.putfield 108, 3) := by decide +kernel
theorem dX12_as_5 : decode cX12_as 5 = .ok (.aload_n 0, 1) := by decide +kernel
theorem dX12_as_6 : decode cX12_as 6 = .ok (.iload_n 1, 1) := by decide +kernel
theorem dX12_as_7 : decode cX12_as 7 = .ok (.invokevirtual 300, 3) := by decide +kernel
theorem dX12_as_10 : decode cX12_as 10 = .ok (.ifCond .eq 15, 3) := by decide +kernel
theorem dX12_as_13 : decode cX12_as 13 = .ok (.iload_n 2, 1) := by decide +kernel
theorem dX12_as_14 : decode cX12_as 14 = .ok (.i2l, 1) := by decide +kernel
theorem dX12_as_15 : decode cX12_as 15 = .ok (.lconst 0, 1) := by decide +kernel
theorem dX12_as_16 : decode cX12_as 16 = .ok (.ldc2_w 328, 3) := by decide +kernel
theorem dX12_as_19 : decode cX12_as 19 = .ok (.invokestatic 117, 3) := by decide +kernel
theorem dX12_as_22 : decode cX12_as 22 = .ok (.ifCond .ne 6, 3) := by decide +kernel
theorem dX12_as_25 : decode cX12_as 25 = .ok (.ldc 127, 2) := by decide +kernel
theorem dX12_as_27 : decode cX12_as 27 = .ok (.ireturn, 1) := by decide +kernel
theorem dX12_as_28 : decode cX12_as 28 = .ok (.aload_n 0, 1) := by decide +kernel
theorem dX12_as_29 : decode cX12_as 29 = .ok (.iconst 0, 1) := by decide +kernel
theorem dX12_as_30 : decode cX12_as 30 = .ok (.putfield 111, 3) := by decide +kernel
theorem dX12_as_33 : decode cX12_as 33 = .ok (.aload_n 0, 1) := by decide +kernel
theorem dX12_as_34 : decode cX12_as 34 = .ok (.iload_n 1, 1) := by decide +kernel
theorem dX12_as_35 : decode cX12_as 35 = .ok (.invokevirtual 309, 3) := by decide +kernel
theorem dX12_as_38 : decode cX12_as 38 = .ok (.iload_n 2, 1) := by decide +kernel
theorem dX12_as_39 : decode cX12_as 39 = .ok (.invokestatic 330, 3) := by decide +kernel
theorem dX12_as_42 : decode cX12_as 42 = .ok (.ifCond .eq 12, 3) := by decide +kernel
theorem dX12_as_45 : decode cX12_as 45 = .ok (.aload_n 0, 1) := by decide +kernel
theorem dX12_as_46 : decode cX12_as 46 = .ok (.iload_n 1, 1) := by decide +kernel
theorem dX12_as_47 : decode cX12_as 47 = .ok (.iconst 0, 1) := by decide +kernel
theorem dX12_as_48 : decode cX12_as 48 = .ok (.invokevirtual 303, 3) := by decide +kernel
theorem dX12_as_51 : decode cX12_as 51 = .ok (.goto 8, 3) := by decide +kernel
theorem dX12_as_54 : decode cX12_as 54 = .ok (.aload_n 0, 1) := by decide +kernel
theorem dX12_as_55 : decode cX12_as 55 = .ok (.iconst 3, 1) := by decide +kernel
theorem dX12_as_56 : decode cX12_as 56 = .ok (.invokevirtual 128, 3) := by decide +kernel
theorem dX12_as_59 : decode cX12_as 59 = .ok (.ireturn, 1) := by decide +kernel
def bX12_as_0 (f1 f2 f3 f4 f5 f6 : ox_F) (rc : Nat → ox_K) : ox_K := o_al 0 (o_ic (0) (o_puti 12 0 (o_al 0 (o_il 1 (o_cv f1 12 1 (o_ifeq (rc 25) (o_il 2 (o_i2l (o_lc (0) (o_lc (4) (o_ct f2 3 (o_ifne (rc 28) (rc 25)))))))))))))
def bX12_as_25 (f1 f2 f3 f4 f5 f6 : ox_F) (rc : Nat → ox_K) : ox_K := o_ic (-1000001) (o_iret)
def bX12_as_28 (f1 f2 f3 f4 f5 f6 : ox_F) (rc : Nat → ox_K) : ox_K := o_al 0 (o_ic (0) (o_puti 12 1 (o_al 0 (o_il 1 (o_cv f3 12 1 (o_il 2 (o_ct f4 2 (o_ifeq (rc 54) (o_al 0 (o_il 1 (o_ic (0) (o_cv f5 12 2 (rc 59)))))))))))))
def bX12_as_54 (f1 f2 f3 f4 f5 f6 : ox_F) (rc : Nat → ox_K) : ox_K := o_al 0 (o_ic (3) (o_cv f6 12 1 (rc 59)))
def bX12_as_59 (f1 f2 f3 f4 f5 f6 : ox_F) (rc : Nat → ox_K) : ox_K := o_iret
section SX12_as
variable {p : Program} {l : Launch} {e : Env} {R : Room} {s : State} {m : MethodId} {args : Array Value} {below : List Frame} {meth : Method} {c : Code} {g : ox_G} {c0 t0 dp d1 d2 d3 d4 d5 d6 : Nat} {rc : Nat → ox_K} {f1 f2 f3 f4 f5 f6 : ox_F}
set_option maxRecDepth 100000 in
theorem kX12_as_0 (C : ox_C p s m args c g 3 cX12_as RX12) (hr : meth.sig.returnType = (some .int)) (hlk : meth.locks = false) (hnm : meth.name = "as") (hR : R.frames = dp ∧ R.locals = 60 * dp) (h1 : ox_Sem yX12_isBar cX12_isBar 2 (some .boolean) d1 f1) (e1 : d1 + 1 ≤ dp) (h2 : ox_Sem yX12_in cX12_in 6 (some .boolean) d2 f2) (e2 : d2 + 1 ≤ dp) (h3 : ox_Sem yX12_kindOf cX12_kindOf 3 (some .int) d3 f3) (e3 : d3 + 1 ≤ dp) (h4 : ox_Sem yX12_isOf cX12_isOf 2 (some .boolean) d4 f4) (e4 : d4 + 1 ≤ dp) (h5 : ox_Sem yX12_of cX12_of 3 (some .int) d5 f5) (e5 : d5 + 1 ≤ dp) (h6 : ox_Sem yX12_finding cX12_finding 2 (some .int) d6 f6) (e6 : d6 + 1 ≤ dp) (hrc : ∀ b, ox_S p l e R s m args below meth c g 3 c0 t0 (ox_QM g below args s c0 t0) b (rc b)) : ox_S p l e R s m args below meth c g 3 c0 t0 (ox_QM g below args s c0 t0) 0 (bX12_as_0 f1 f2 f3 f4 f5 f6 rc) := by
  refine s_aload_n (pc := 0) C dX12_as_0 rfl ?_
  refine s_iconst (pc := 1) C dX12_as_1 (by decide) ?_
  refine s_puti (pc := 2) (j := 0) (q := (RX12, TX12, 59)) C rfl (by decide) rfl (Or.inl rfl) wF_X12_108 dX12_as_2 ?_
  refine s_aload_n (pc := 5) C dX12_as_5 rfl ?_
  refine s_iload_n (pc := 6) C dX12_as_6 rfl ?_
  refine s_cv (pc := 7) (q := (RX12, TX12, 59)) C h1 rfl wM_X12_300 wI_X12_isBar wS_X12_isBar wN_X12 wC_X12_isBar (by decide +kernel) (ox_lv hR e1 (by decide)) dX12_as_7 ?_
  refine s_ifeq (pc := 10) 25 C dX12_as_10 (by decide) (hrc 25) ?_
  refine s_iload_n (pc := 13) C dX12_as_13 rfl ?_
  refine s_i2l (pc := 14) C dX12_as_14 ?_
  refine s_lconst (pc := 15) C dX12_as_15 (by decide) ?_
  refine s_ldc2 (pc := 16) C wL_X12_328 dX12_as_16 ?_
  refine s_ct (pc := 19) C h2 wM_X12_117 wT_X12_in wN_X12 wC_X12_in (by decide +kernel) (ox_lv hR e2 (by decide)) dX12_as_19 ?_
  refine s_ifne (pc := 22) 28 C dX12_as_22 (by decide) (hrc 28) ?_
  exact hrc 25
set_option maxRecDepth 100000 in
theorem kX12_as_25 (C : ox_C p s m args c g 3 cX12_as RX12) (hr : meth.sig.returnType = (some .int)) (hlk : meth.locks = false) (hnm : meth.name = "as") (hR : R.frames = dp ∧ R.locals = 60 * dp) (h1 : ox_Sem yX12_isBar cX12_isBar 2 (some .boolean) d1 f1) (e1 : d1 + 1 ≤ dp) (h2 : ox_Sem yX12_in cX12_in 6 (some .boolean) d2 f2) (e2 : d2 + 1 ≤ dp) (h3 : ox_Sem yX12_kindOf cX12_kindOf 3 (some .int) d3 f3) (e3 : d3 + 1 ≤ dp) (h4 : ox_Sem yX12_isOf cX12_isOf 2 (some .boolean) d4 f4) (e4 : d4 + 1 ≤ dp) (h5 : ox_Sem yX12_of cX12_of 3 (some .int) d5 f5) (e5 : d5 + 1 ≤ dp) (h6 : ox_Sem yX12_finding cX12_finding 2 (some .int) d6 f6) (e6 : d6 + 1 ≤ dp) (hrc : ∀ b, ox_S p l e R s m args below meth c g 3 c0 t0 (ox_QM g below args s c0 t0) b (rc b)) : ox_S p l e R s m args below meth c g 3 c0 t0 (ox_QM g below args s c0 t0) 25 (bX12_as_25 f1 f2 f3 f4 f5 f6 rc) := by
  refine s_ldc (pc := 25) C wK_X12_127 dX12_as_25 ?_
  exact s_iret (pc := 27) C hr hlk dX12_as_27
set_option maxRecDepth 100000 in
theorem kX12_as_28 (C : ox_C p s m args c g 3 cX12_as RX12) (hr : meth.sig.returnType = (some .int)) (hlk : meth.locks = false) (hnm : meth.name = "as") (hR : R.frames = dp ∧ R.locals = 60 * dp) (h1 : ox_Sem yX12_isBar cX12_isBar 2 (some .boolean) d1 f1) (e1 : d1 + 1 ≤ dp) (h2 : ox_Sem yX12_in cX12_in 6 (some .boolean) d2 f2) (e2 : d2 + 1 ≤ dp) (h3 : ox_Sem yX12_kindOf cX12_kindOf 3 (some .int) d3 f3) (e3 : d3 + 1 ≤ dp) (h4 : ox_Sem yX12_isOf cX12_isOf 2 (some .boolean) d4 f4) (e4 : d4 + 1 ≤ dp) (h5 : ox_Sem yX12_of cX12_of 3 (some .int) d5 f5) (e5 : d5 + 1 ≤ dp) (h6 : ox_Sem yX12_finding cX12_finding 2 (some .int) d6 f6) (e6 : d6 + 1 ≤ dp) (hrc : ∀ b, ox_S p l e R s m args below meth c g 3 c0 t0 (ox_QM g below args s c0 t0) b (rc b)) : ox_S p l e R s m args below meth c g 3 c0 t0 (ox_QM g below args s c0 t0) 28 (bX12_as_28 f1 f2 f3 f4 f5 f6 rc) := by
  refine s_aload_n (pc := 28) C dX12_as_28 rfl ?_
  refine s_iconst (pc := 29) C dX12_as_29 (by decide) ?_
  refine s_puti (pc := 30) (j := 1) (q := (RX12, TX12, 59)) C rfl (by decide) rfl (Or.inl rfl) wF_X12_111 dX12_as_30 ?_
  refine s_aload_n (pc := 33) C dX12_as_33 rfl ?_
  refine s_iload_n (pc := 34) C dX12_as_34 rfl ?_
  refine s_cv (pc := 35) (q := (RX12, TX12, 59)) C h3 rfl wM_X12_309 wI_X12_kindOf wS_X12_kindOf wN_X12 wC_X12_kindOf (by decide +kernel) (ox_lv hR e3 (by decide)) dX12_as_35 ?_
  refine s_iload_n (pc := 38) C dX12_as_38 rfl ?_
  refine s_ct (pc := 39) C h4 wM_X12_330 wT_X12_isOf wN_X12 wC_X12_isOf (by decide +kernel) (ox_lv hR e4 (by decide)) dX12_as_39 ?_
  refine s_ifeq (pc := 42) 54 C dX12_as_42 (by decide) (hrc 54) ?_
  refine s_aload_n (pc := 45) C dX12_as_45 rfl ?_
  refine s_iload_n (pc := 46) C dX12_as_46 rfl ?_
  refine s_iconst (pc := 47) C dX12_as_47 (by decide) ?_
  refine s_cv (pc := 48) (q := (RX12, TX12, 59)) C h5 rfl wM_X12_303 wI_X12_of wS_X12_of wN_X12 wC_X12_of (by decide +kernel) (ox_lv hR e5 (by decide)) dX12_as_48 ?_
  exact s_goto (pc := 51) 59 C dX12_as_51 (by decide) (hrc 59)
set_option maxRecDepth 100000 in
theorem kX12_as_54 (C : ox_C p s m args c g 3 cX12_as RX12) (hr : meth.sig.returnType = (some .int)) (hlk : meth.locks = false) (hnm : meth.name = "as") (hR : R.frames = dp ∧ R.locals = 60 * dp) (h1 : ox_Sem yX12_isBar cX12_isBar 2 (some .boolean) d1 f1) (e1 : d1 + 1 ≤ dp) (h2 : ox_Sem yX12_in cX12_in 6 (some .boolean) d2 f2) (e2 : d2 + 1 ≤ dp) (h3 : ox_Sem yX12_kindOf cX12_kindOf 3 (some .int) d3 f3) (e3 : d3 + 1 ≤ dp) (h4 : ox_Sem yX12_isOf cX12_isOf 2 (some .boolean) d4 f4) (e4 : d4 + 1 ≤ dp) (h5 : ox_Sem yX12_of cX12_of 3 (some .int) d5 f5) (e5 : d5 + 1 ≤ dp) (h6 : ox_Sem yX12_finding cX12_finding 2 (some .int) d6 f6) (e6 : d6 + 1 ≤ dp) (hrc : ∀ b, ox_S p l e R s m args below meth c g 3 c0 t0 (ox_QM g below args s c0 t0) b (rc b)) : ox_S p l e R s m args below meth c g 3 c0 t0 (ox_QM g below args s c0 t0) 54 (bX12_as_54 f1 f2 f3 f4 f5 f6 rc) := by
  refine s_aload_n (pc := 54) C dX12_as_54 rfl ?_
  refine s_iconst (pc := 55) C dX12_as_55 (by decide) ?_
  refine s_cv (pc := 56) (q := (RX12, TX12, 59)) C h6 rfl wM_X12_128 wI_X12_finding wS_X12_finding wN_X12 wC_X12_finding (by decide +kernel) (ox_lv hR e6 (by decide)) dX12_as_56 ?_
  exact hrc 59
set_option maxRecDepth 100000 in
theorem kX12_as_59 (C : ox_C p s m args c g 3 cX12_as RX12) (hr : meth.sig.returnType = (some .int)) (hlk : meth.locks = false) (hnm : meth.name = "as") (hR : R.frames = dp ∧ R.locals = 60 * dp) (h1 : ox_Sem yX12_isBar cX12_isBar 2 (some .boolean) d1 f1) (e1 : d1 + 1 ≤ dp) (h2 : ox_Sem yX12_in cX12_in 6 (some .boolean) d2 f2) (e2 : d2 + 1 ≤ dp) (h3 : ox_Sem yX12_kindOf cX12_kindOf 3 (some .int) d3 f3) (e3 : d3 + 1 ≤ dp) (h4 : ox_Sem yX12_isOf cX12_isOf 2 (some .boolean) d4 f4) (e4 : d4 + 1 ≤ dp) (h5 : ox_Sem yX12_of cX12_of 3 (some .int) d5 f5) (e5 : d5 + 1 ≤ dp) (h6 : ox_Sem yX12_finding cX12_finding 2 (some .int) d6 f6) (e6 : d6 + 1 ≤ dp) (hrc : ∀ b, ox_S p l e R s m args below meth c g 3 c0 t0 (ox_QM g below args s c0 t0) b (rc b)) : ox_S p l e R s m args below meth c g 3 c0 t0 (ox_QM g below args s c0 t0) 59 (bX12_as_59 f1 f2 f3 f4 f5 f6 rc) := by
  exact s_iret (pc := 59) C hr hlk dX12_as_59
end SX12_as
def bsX12_as (f1 f2 f3 f4 f5 f6 : ox_F) (b : Nat) (rc : Nat → ox_K) : ox_K := if b = 0 then bX12_as_0 f1 f2 f3 f4 f5 f6 rc else if b = 25 then bX12_as_25 f1 f2 f3 f4 f5 f6 rc else if b = 28 then bX12_as_28 f1 f2 f3 f4 f5 f6 rc else if b = 54 then bX12_as_54 f1 f2 f3 f4 f5 f6 rc else if b = 59 then bX12_as_59 f1 f2 f3 f4 f5 f6 rc else ox_no
theorem mX12_as {dp d1 d2 d3 d4 d5 d6 : Nat} {f1 f2 f3 f4 f5 f6 f : ox_F} (h1 : ox_Sem yX12_isBar cX12_isBar 2 (some .boolean) d1 f1) (e1 : d1 + 1 ≤ dp) (h2 : ox_Sem yX12_in cX12_in 6 (some .boolean) d2 f2) (e2 : d2 + 1 ≤ dp) (h3 : ox_Sem yX12_kindOf cX12_kindOf 3 (some .int) d3 f3) (e3 : d3 + 1 ≤ dp) (h4 : ox_Sem yX12_isOf cX12_isOf 2 (some .boolean) d4 f4) (e4 : d4 + 1 ≤ dp) (h5 : ox_Sem yX12_of cX12_of 3 (some .int) d5 f5) (e5 : d5 + 1 ≤ dp) (h6 : ox_Sem yX12_finding cX12_finding 2 (some .int) d6 f6) (e6 : d6 + 1 ≤ dp) (hf : ∀ as h r, f as h = some r → ox_cs as ≤ 3 ∧ ox_le h r.2 ∧ ∃ n, ox_run (bsX12_as f1 f2 f3 f4 f5 f6) n 0 (lv_args 0 as) [] h = some r) : ox_Sem yX12_as cX12_as 3 (some .int) dp f := by
  refine ox_meth (bs := bsX12_as f1 f2 f3 f4 f5 f6) (by decide) hf ?_
  intro p l e R s m args below meth c g c0 t0 C hr hlk hnm hR rc hrc b
  unfold bsX12_as
  refine ox_br (kX12_as_0 C hr hlk hnm hR h1 e1 h2 e2 h3 e3 h4 e4 h5 e5 h6 e6 hrc) ?_
  refine ox_br (kX12_as_25 C hr hlk hnm hR h1 e1 h2 e2 h3 e3 h4 e4 h5 e5 h6 e6 hrc) ?_
  refine ox_br (kX12_as_28 C hr hlk hnm hR h1 e1 h2 e2 h3 e3 h4 e4 h5 e5 h6 e6 hrc) ?_
  refine ox_br (kX12_as_54 C hr hlk hnm hR h1 e1 h2 e2 h3 e3 h4 e4 h5 e5 h6 e6 hrc) ?_
  refine ox_br (kX12_as_59 C hr hlk hnm hR h1 e1 h2 e2 h3 e3 h4 e4 h5 e5 h6 e6 hrc) ?_
  exact s_no
theorem dX12_began_0 : decode cX12_began 0 = .ok (.aload_n 0, 1) := by decide +kernel
theorem dX12_began_1 : decode cX12_began 1 = .ok (.getfield 334, 3) := by decide +kernel
theorem dX12_began_4 : decode cX12_began 4 = .ok (.bipush 16, 2) := by decide +kernel
theorem dX12_began_6 : decode cX12_began 6 = .ok (.if_icmp .ge 23, 3) := by decide +kernel
theorem dX12_began_9 : decode cX12_began 9 = .ok (.aload_n 0, 1) := by decide +kernel
theorem dX12_began_10 : decode cX12_began 10 = .ok (.getfield 105, 3) := by decide +kernel
theorem dX12_began_13 : decode cX12_began 13 = .ok (.aload_n 0, 1) := by decide +kernel
theorem dX12_began_14 : decode cX12_began 14 = .ok (.getfield 334, 3) := by decide +kernel
theorem dX12_began_17 : decode cX12_began 17 = .ok (.iload_n 1, 1) := by decide +kernel
theorem dX12_began_18 : decode cX12_began 18 = .ok (.iastore, 1) := by decide +kernel
theorem dX12_began_19 : decode cX12_began 19 = .ok (.aload_n 0, 1) := by decide +kernel
theorem dX12_began_20 : decode cX12_began 20 = .ok (.dup, 1) := by decide +kernel
theorem dX12_began_21 : decode cX12_began 21 = .ok (.getfield 334, 3) := by decide +kernel
theorem dX12_began_24 : decode cX12_began 24 = .ok (.iconst 1, 1) := by decide +kernel
theorem dX12_began_25 : decode cX12_began 25 = .ok (.iadd, 1) := by decide +kernel
theorem dX12_began_26 : decode cX12_began 26 = .ok (.putfield 334, 3) := by decide +kernel
theorem dX12_began_29 : decode cX12_began 29 = .ok (.return_, 1) := by decide +kernel
def bX12_began_0 (rc : Nat → ox_K) : ox_K := o_al 0 (o_geti 12 58 (o_ic (16) (o_icge (rc 29) (o_al 0 (o_getr 12 57 (o_al 0 (o_geti 12 58 (o_il 1 (o_iast (o_al 0 (o_dup (o_geti 12 58 (o_ic (1) (o_iadd (o_puti 12 58 (rc 29))))))))))))))))
def bX12_began_29 (rc : Nat → ox_K) : ox_K := o_ret
section SX12_began
variable {p : Program} {l : Launch} {e : Env} {R : Room} {s : State} {m : MethodId} {args : Array Value} {below : List Frame} {meth : Method} {c : Code} {g : ox_G} {c0 t0 dp  : Nat} {rc : Nat → ox_K}
set_option maxRecDepth 100000 in
theorem kX12_began_0 (C : ox_C p s m args c g 2 cX12_began RX12) (hr : meth.sig.returnType = none) (hlk : meth.locks = false) (hnm : meth.name = "began") (hR : R.frames = dp ∧ R.locals = 60 * dp) (hrc : ∀ b, ox_S p l e R s m args below meth c g 2 c0 t0 (ox_QM g below args s c0 t0) b (rc b)) : ox_S p l e R s m args below meth c g 2 c0 t0 (ox_QM g below args s c0 t0) 0 (bX12_began_0 rc) := by
  refine s_aload_n (pc := 0) C dX12_began_0 rfl ?_
  refine s_geti (pc := 1) (j := 58) (q := (RX12, TX12, 59)) C rfl (by decide) rfl wF_X12_334 dX12_began_1 ?_
  refine s_bipush (pc := 4) C dX12_began_4 (by decide) ?_
  refine s_icmpge (pc := 6) 29 C dX12_began_6 (by decide) (hrc 29) ?_
  refine s_aload_n (pc := 9) C dX12_began_9 rfl ?_
  refine s_getr (pc := 10) (j := 57) (q := (RX12, TX12, 59)) C rfl (by decide) rfl wF_X12_105 dX12_began_10 ?_
  refine s_aload_n (pc := 13) C dX12_began_13 rfl ?_
  refine s_geti (pc := 14) (j := 58) (q := (RX12, TX12, 59)) C rfl (by decide) rfl wF_X12_334 dX12_began_14 ?_
  refine s_iload_n (pc := 17) C dX12_began_17 rfl ?_
  refine s_iast (pc := 18) C dX12_began_18 ?_
  refine s_aload_n (pc := 19) C dX12_began_19 rfl ?_
  refine s_dup (pc := 20) C dX12_began_20 ?_
  refine s_geti (pc := 21) (j := 58) (q := (RX12, TX12, 59)) C rfl (by decide) rfl wF_X12_334 dX12_began_21 ?_
  refine s_iconst (pc := 24) C dX12_began_24 (by decide) ?_
  refine s_iadd (pc := 25) C dX12_began_25 ?_
  refine s_puti (pc := 26) (j := 58) (q := (RX12, TX12, 59)) C rfl (by decide) rfl (Or.inl rfl) wF_X12_334 dX12_began_26 ?_
  exact hrc 29
set_option maxRecDepth 100000 in
theorem kX12_began_29 (C : ox_C p s m args c g 2 cX12_began RX12) (hr : meth.sig.returnType = none) (hlk : meth.locks = false) (hnm : meth.name = "began") (hR : R.frames = dp ∧ R.locals = 60 * dp) (hrc : ∀ b, ox_S p l e R s m args below meth c g 2 c0 t0 (ox_QM g below args s c0 t0) b (rc b)) : ox_S p l e R s m args below meth c g 2 c0 t0 (ox_QM g below args s c0 t0) 29 (bX12_began_29 rc) := by
  exact s_ret (pc := 29) C hr hlk dX12_began_29
end SX12_began
def bsX12_began (b : Nat) (rc : Nat → ox_K) : ox_K := if b = 0 then bX12_began_0 rc else if b = 29 then bX12_began_29 rc else ox_no
theorem mX12_began {dp  : Nat} {f : ox_F} (hf : ∀ as h r, f as h = some r → ox_cs as ≤ 2 ∧ ox_le h r.2 ∧ ∃ n, ox_run (bsX12_began) n 0 (lv_args 0 as) [] h = some r) : ox_Sem yX12_began cX12_began 2 none dp f := by
  refine ox_meth (bs := bsX12_began) (by decide) hf ?_
  intro p l e R s m args below meth c g c0 t0 C hr hlk hnm hR rc hrc b
  unfold bsX12_began
  refine ox_br (kX12_began_0 C hr hlk hnm hR hrc) ?_
  refine ox_br (kX12_began_29 C hr hlk hnm hR hrc) ?_
  exact s_no
theorem dX12_fullSize_0 : decode cX12_fullSize 0 = .ok (.iload_n 2, 1) := by decide +kernel
theorem dX12_fullSize_1 : decode cX12_fullSize 1 = .ok (.iconst 2, 1) := by decide +kernel
theorem dX12_fullSize_2 : decode cX12_fullSize 2 = .ok (.if_icmp .ne 9, 3) := by decide +kernel
theorem dX12_fullSize_5 : decode cX12_fullSize 5 = .ok (.aload_n 0, 1) := by decide +kernel
theorem dX12_fullSize_6 : decode cX12_fullSize 6 = .ok (.bipush 12, 2) := by decide +kernel
theorem dX12_fullSize_8 : decode cX12_fullSize 8 = .ok (.invokevirtual 337, 3) := by decide +kernel
theorem dX12_fullSize_11 : decode cX12_fullSize 11 = .ok (.iload_n 2, 1) := by decide +kernel
theorem dX12_fullSize_12 : decode cX12_fullSize 12 = .ok (.iconst 1, 1) := by decide +kernel
theorem dX12_fullSize_13 : decode cX12_fullSize 13 = .ok (.invokestatic 330, 3) := by decide +kernel
theorem dX12_fullSize_16 : decode cX12_fullSize 16 = .ok (.ifCond .eq 9, 3) := by decide +kernel
theorem dX12_fullSize_19 : decode cX12_fullSize 19 = .ok (.aload_n 0, 1) := by decide +kernel
theorem dX12_fullSize_20 : decode cX12_fullSize 20 = .ok (.bipush 11, 2) := by decide +kernel
theorem dX12_fullSize_22 : decode cX12_fullSize 22 = .ok (.invokevirtual 337, 3) := by decide +kernel
theorem dX12_fullSize_25 : decode cX12_fullSize 25 = .ok (.aload_n 0, 1) := by decide +kernel
theorem dX12_fullSize_26 : decode cX12_fullSize 26 = .ok (.bipush 10, 2) := by decide +kernel
theorem dX12_fullSize_28 : decode cX12_fullSize 28 = .ok (.invokevirtual 337, 3) := by decide +kernel
theorem dX12_fullSize_31 : decode cX12_fullSize 31 = .ok (.aload_n 0, 1) := by decide +kernel
theorem dX12_fullSize_32 : decode cX12_fullSize 32 = .ok (.iload_n 1, 1) := by decide +kernel
theorem dX12_fullSize_33 : decode cX12_fullSize 33 = .ok (.iconst 0, 1) := by decide +kernel
theorem dX12_fullSize_34 : decode cX12_fullSize 34 = .ok (.invokevirtual 303, 3) := by decide +kernel
theorem dX12_fullSize_37 : decode cX12_fullSize 37 = .ok (.iload_n 2, 1) := by decide +kernel
theorem dX12_fullSize_38 : decode cX12_fullSize 38 = .ok (.iconst 1, 1) := by decide +kernel
theorem dX12_fullSize_39 : decode cX12_fullSize 39 = .ok (.invokestatic 330, 3) := by decide +kernel
theorem dX12_fullSize_42 : decode cX12_fullSize 42 = .ok (.ifCond .eq 12, 3) := by decide +kernel
theorem dX12_fullSize_45 : decode cX12_fullSize 45 = .ok (.aload_n 0, 1) := by decide +kernel
theorem dX12_fullSize_46 : decode cX12_fullSize 46 = .ok (.iload_n 1, 1) := by decide +kernel
theorem dX12_fullSize_47 : decode cX12_fullSize 47 = .ok (.iconst 1, 1) := by decide +kernel
theorem dX12_fullSize_48 : decode cX12_fullSize 48 = .ok (.invokevirtual 303, 3) := by decide +kernel
theorem dX12_fullSize_51 : decode cX12_fullSize 51 = .ok (.goto 4, 3) := by decide +kernel
theorem dX12_fullSize_54 : decode cX12_fullSize 54 = .ok (.iconst 0, 1) := by decide +kernel
theorem dX12_fullSize_55 : decode cX12_fullSize 55 = .ok (.iadd, 1) := by decide +kernel
theorem dX12_fullSize_56 : decode cX12_fullSize 56 = .ok (.istore_n 3, 1) := by decide +kernel
theorem dX12_fullSize_57 : decode cX12_fullSize 57 = .ok (.iload_n 2, 1) := by decide +kernel
theorem dX12_fullSize_58 : decode cX12_fullSize 58 = .ok (.iconst 2, 1) := by decide +kernel
theorem dX12_fullSize_59 : decode cX12_fullSize 59 = .ok (.if_icmp .ne 9, 3) := by decide +kernel
theorem dX12_fullSize_62 : decode cX12_fullSize 62 = .ok (.iconst 2, 1) := by decide +kernel
theorem dX12_fullSize_63 : decode cX12_fullSize 63 = .ok (.iload_n 3, 1) := by decide +kernel
theorem dX12_fullSize_64 : decode cX12_fullSize 64 = .ok (.imul, 1) := by decide +kernel
theorem dX12_fullSize_65 : decode cX12_fullSize 65 = .ok (.goto 4, 3) := by decide +kernel
theorem dX12_fullSize_68 : decode cX12_fullSize 68 = .ok (.iload_n 3, 1) := by decide +kernel
theorem dX12_fullSize_69 : decode cX12_fullSize 69 = .ok (.ireturn, 1) := by decide +kernel
def bX12_fullSize_0 (f1 f2 f3 : ox_F) (rc : Nat → ox_K) : ox_K := o_il 2 (o_ic (2) (o_icne (rc 11) (o_al 0 (o_ic (12) (o_cv f1 12 1 (rc 11))))))
def bX12_fullSize_11 (f1 f2 f3 : ox_F) (rc : Nat → ox_K) : ox_K := o_il 2 (o_ic (1) (o_ct f2 2 (o_ifeq (rc 25) (o_al 0 (o_ic (11) (o_cv f1 12 1 (rc 25)))))))
def bX12_fullSize_25 (f1 f2 f3 : ox_F) (rc : Nat → ox_K) : ox_K := o_al 0 (o_ic (10) (o_cv f1 12 1 (o_al 0 (o_il 1 (o_ic (0) (o_cv f3 12 2 (o_il 2 (o_ic (1) (o_ct f2 2 (o_ifeq (rc 54) (o_al 0 (o_il 1 (o_ic (1) (o_cv f3 12 2 (rc 55)))))))))))))))
def bX12_fullSize_54 (f1 f2 f3 : ox_F) (rc : Nat → ox_K) : ox_K := o_ic (0) (rc 55)
def bX12_fullSize_55 (f1 f2 f3 : ox_F) (rc : Nat → ox_K) : ox_K := o_iadd (o_is 3 (o_il 2 (o_ic (2) (o_icne (rc 68) (o_ic (2) (o_il 3 (o_imul (rc 69))))))))
def bX12_fullSize_68 (f1 f2 f3 : ox_F) (rc : Nat → ox_K) : ox_K := o_il 3 (rc 69)
def bX12_fullSize_69 (f1 f2 f3 : ox_F) (rc : Nat → ox_K) : ox_K := o_iret
section SX12_fullSize
variable {p : Program} {l : Launch} {e : Env} {R : Room} {s : State} {m : MethodId} {args : Array Value} {below : List Frame} {meth : Method} {c : Code} {g : ox_G} {c0 t0 dp d1 d2 d3 : Nat} {rc : Nat → ox_K} {f1 f2 f3 : ox_F}
set_option maxRecDepth 100000 in
theorem kX12_fullSize_0 (C : ox_C p s m args c g 4 cX12_fullSize RX12) (hr : meth.sig.returnType = (some .int)) (hlk : meth.locks = false) (hnm : meth.name = "fullSize") (hR : R.frames = dp ∧ R.locals = 60 * dp) (h1 : ox_Sem yX12_began cX12_began 2 none d1 f1) (e1 : d1 + 1 ≤ dp) (h2 : ox_Sem yX12_isOf cX12_isOf 2 (some .boolean) d2 f2) (e2 : d2 + 1 ≤ dp) (h3 : ox_Sem yX12_of cX12_of 3 (some .int) d3 f3) (e3 : d3 + 1 ≤ dp) (hrc : ∀ b, ox_S p l e R s m args below meth c g 4 c0 t0 (ox_QM g below args s c0 t0) b (rc b)) : ox_S p l e R s m args below meth c g 4 c0 t0 (ox_QM g below args s c0 t0) 0 (bX12_fullSize_0 f1 f2 f3 rc) := by
  refine s_iload_n (pc := 0) C dX12_fullSize_0 rfl ?_
  refine s_iconst (pc := 1) C dX12_fullSize_1 (by decide) ?_
  refine s_icmpne (pc := 2) 11 C dX12_fullSize_2 (by decide) (hrc 11) ?_
  refine s_aload_n (pc := 5) C dX12_fullSize_5 rfl ?_
  refine s_bipush (pc := 6) C dX12_fullSize_6 (by decide) ?_
  refine s_cv (pc := 8) (q := (RX12, TX12, 59)) C h1 rfl wM_X12_337 wI_X12_began wS_X12_began wN_X12 wC_X12_began (by decide +kernel) (ox_lv hR e1 (by decide)) dX12_fullSize_8 ?_
  exact hrc 11
set_option maxRecDepth 100000 in
theorem kX12_fullSize_11 (C : ox_C p s m args c g 4 cX12_fullSize RX12) (hr : meth.sig.returnType = (some .int)) (hlk : meth.locks = false) (hnm : meth.name = "fullSize") (hR : R.frames = dp ∧ R.locals = 60 * dp) (h1 : ox_Sem yX12_began cX12_began 2 none d1 f1) (e1 : d1 + 1 ≤ dp) (h2 : ox_Sem yX12_isOf cX12_isOf 2 (some .boolean) d2 f2) (e2 : d2 + 1 ≤ dp) (h3 : ox_Sem yX12_of cX12_of 3 (some .int) d3 f3) (e3 : d3 + 1 ≤ dp) (hrc : ∀ b, ox_S p l e R s m args below meth c g 4 c0 t0 (ox_QM g below args s c0 t0) b (rc b)) : ox_S p l e R s m args below meth c g 4 c0 t0 (ox_QM g below args s c0 t0) 11 (bX12_fullSize_11 f1 f2 f3 rc) := by
  refine s_iload_n (pc := 11) C dX12_fullSize_11 rfl ?_
  refine s_iconst (pc := 12) C dX12_fullSize_12 (by decide) ?_
  refine s_ct (pc := 13) C h2 wM_X12_330 wT_X12_isOf wN_X12 wC_X12_isOf (by decide +kernel) (ox_lv hR e2 (by decide)) dX12_fullSize_13 ?_
  refine s_ifeq (pc := 16) 25 C dX12_fullSize_16 (by decide) (hrc 25) ?_
  refine s_aload_n (pc := 19) C dX12_fullSize_19 rfl ?_
  refine s_bipush (pc := 20) C dX12_fullSize_20 (by decide) ?_
  refine s_cv (pc := 22) (q := (RX12, TX12, 59)) C h1 rfl wM_X12_337 wI_X12_began wS_X12_began wN_X12 wC_X12_began (by decide +kernel) (ox_lv hR e1 (by decide)) dX12_fullSize_22 ?_
  exact hrc 25
set_option maxRecDepth 100000 in
theorem kX12_fullSize_25 (C : ox_C p s m args c g 4 cX12_fullSize RX12) (hr : meth.sig.returnType = (some .int)) (hlk : meth.locks = false) (hnm : meth.name = "fullSize") (hR : R.frames = dp ∧ R.locals = 60 * dp) (h1 : ox_Sem yX12_began cX12_began 2 none d1 f1) (e1 : d1 + 1 ≤ dp) (h2 : ox_Sem yX12_isOf cX12_isOf 2 (some .boolean) d2 f2) (e2 : d2 + 1 ≤ dp) (h3 : ox_Sem yX12_of cX12_of 3 (some .int) d3 f3) (e3 : d3 + 1 ≤ dp) (hrc : ∀ b, ox_S p l e R s m args below meth c g 4 c0 t0 (ox_QM g below args s c0 t0) b (rc b)) : ox_S p l e R s m args below meth c g 4 c0 t0 (ox_QM g below args s c0 t0) 25 (bX12_fullSize_25 f1 f2 f3 rc) := by
  refine s_aload_n (pc := 25) C dX12_fullSize_25 rfl ?_
  refine s_bipush (pc := 26) C dX12_fullSize_26 (by decide) ?_
  refine s_cv (pc := 28) (q := (RX12, TX12, 59)) C h1 rfl wM_X12_337 wI_X12_began wS_X12_began wN_X12 wC_X12_began (by decide +kernel) (ox_lv hR e1 (by decide)) dX12_fullSize_28 ?_
  refine s_aload_n (pc := 31) C dX12_fullSize_31 rfl ?_
  refine s_iload_n (pc := 32) C dX12_fullSize_32 rfl ?_
  refine s_iconst (pc := 33) C dX12_fullSize_33 (by decide) ?_
  refine s_cv (pc := 34) (q := (RX12, TX12, 59)) C h3 rfl wM_X12_303 wI_X12_of wS_X12_of wN_X12 wC_X12_of (by decide +kernel) (ox_lv hR e3 (by decide)) dX12_fullSize_34 ?_
  refine s_iload_n (pc := 37) C dX12_fullSize_37 rfl ?_
  refine s_iconst (pc := 38) C dX12_fullSize_38 (by decide) ?_
  refine s_ct (pc := 39) C h2 wM_X12_330 wT_X12_isOf wN_X12 wC_X12_isOf (by decide +kernel) (ox_lv hR e2 (by decide)) dX12_fullSize_39 ?_
  refine s_ifeq (pc := 42) 54 C dX12_fullSize_42 (by decide) (hrc 54) ?_
  refine s_aload_n (pc := 45) C dX12_fullSize_45 rfl ?_
  refine s_iload_n (pc := 46) C dX12_fullSize_46 rfl ?_
  refine s_iconst (pc := 47) C dX12_fullSize_47 (by decide) ?_
  refine s_cv (pc := 48) (q := (RX12, TX12, 59)) C h3 rfl wM_X12_303 wI_X12_of wS_X12_of wN_X12 wC_X12_of (by decide +kernel) (ox_lv hR e3 (by decide)) dX12_fullSize_48 ?_
  exact s_goto (pc := 51) 55 C dX12_fullSize_51 (by decide) (hrc 55)
set_option maxRecDepth 100000 in
theorem kX12_fullSize_54 (C : ox_C p s m args c g 4 cX12_fullSize RX12) (hr : meth.sig.returnType = (some .int)) (hlk : meth.locks = false) (hnm : meth.name = "fullSize") (hR : R.frames = dp ∧ R.locals = 60 * dp) (h1 : ox_Sem yX12_began cX12_began 2 none d1 f1) (e1 : d1 + 1 ≤ dp) (h2 : ox_Sem yX12_isOf cX12_isOf 2 (some .boolean) d2 f2) (e2 : d2 + 1 ≤ dp) (h3 : ox_Sem yX12_of cX12_of 3 (some .int) d3 f3) (e3 : d3 + 1 ≤ dp) (hrc : ∀ b, ox_S p l e R s m args below meth c g 4 c0 t0 (ox_QM g below args s c0 t0) b (rc b)) : ox_S p l e R s m args below meth c g 4 c0 t0 (ox_QM g below args s c0 t0) 54 (bX12_fullSize_54 f1 f2 f3 rc) := by
  refine s_iconst (pc := 54) C dX12_fullSize_54 (by decide) ?_
  exact hrc 55
set_option maxRecDepth 100000 in
theorem kX12_fullSize_55 (C : ox_C p s m args c g 4 cX12_fullSize RX12) (hr : meth.sig.returnType = (some .int)) (hlk : meth.locks = false) (hnm : meth.name = "fullSize") (hR : R.frames = dp ∧ R.locals = 60 * dp) (h1 : ox_Sem yX12_began cX12_began 2 none d1 f1) (e1 : d1 + 1 ≤ dp) (h2 : ox_Sem yX12_isOf cX12_isOf 2 (some .boolean) d2 f2) (e2 : d2 + 1 ≤ dp) (h3 : ox_Sem yX12_of cX12_of 3 (some .int) d3 f3) (e3 : d3 + 1 ≤ dp) (hrc : ∀ b, ox_S p l e R s m args below meth c g 4 c0 t0 (ox_QM g below args s c0 t0) b (rc b)) : ox_S p l e R s m args below meth c g 4 c0 t0 (ox_QM g below args s c0 t0) 55 (bX12_fullSize_55 f1 f2 f3 rc) := by
  refine s_iadd (pc := 55) C dX12_fullSize_55 ?_
  refine s_istore_n (pc := 56) C dX12_fullSize_56 rfl (by decide) ?_
  refine s_iload_n (pc := 57) C dX12_fullSize_57 rfl ?_
  refine s_iconst (pc := 58) C dX12_fullSize_58 (by decide) ?_
  refine s_icmpne (pc := 59) 68 C dX12_fullSize_59 (by decide) (hrc 68) ?_
  refine s_iconst (pc := 62) C dX12_fullSize_62 (by decide) ?_
  refine s_iload_n (pc := 63) C dX12_fullSize_63 rfl ?_
  refine s_imul (pc := 64) C dX12_fullSize_64 ?_
  exact s_goto (pc := 65) 69 C dX12_fullSize_65 (by decide) (hrc 69)
set_option maxRecDepth 100000 in
theorem kX12_fullSize_68 (C : ox_C p s m args c g 4 cX12_fullSize RX12) (hr : meth.sig.returnType = (some .int)) (hlk : meth.locks = false) (hnm : meth.name = "fullSize") (hR : R.frames = dp ∧ R.locals = 60 * dp) (h1 : ox_Sem yX12_began cX12_began 2 none d1 f1) (e1 : d1 + 1 ≤ dp) (h2 : ox_Sem yX12_isOf cX12_isOf 2 (some .boolean) d2 f2) (e2 : d2 + 1 ≤ dp) (h3 : ox_Sem yX12_of cX12_of 3 (some .int) d3 f3) (e3 : d3 + 1 ≤ dp) (hrc : ∀ b, ox_S p l e R s m args below meth c g 4 c0 t0 (ox_QM g below args s c0 t0) b (rc b)) : ox_S p l e R s m args below meth c g 4 c0 t0 (ox_QM g below args s c0 t0) 68 (bX12_fullSize_68 f1 f2 f3 rc) := by
  refine s_iload_n (pc := 68) C dX12_fullSize_68 rfl ?_
  exact hrc 69
set_option maxRecDepth 100000 in
theorem kX12_fullSize_69 (C : ox_C p s m args c g 4 cX12_fullSize RX12) (hr : meth.sig.returnType = (some .int)) (hlk : meth.locks = false) (hnm : meth.name = "fullSize") (hR : R.frames = dp ∧ R.locals = 60 * dp) (h1 : ox_Sem yX12_began cX12_began 2 none d1 f1) (e1 : d1 + 1 ≤ dp) (h2 : ox_Sem yX12_isOf cX12_isOf 2 (some .boolean) d2 f2) (e2 : d2 + 1 ≤ dp) (h3 : ox_Sem yX12_of cX12_of 3 (some .int) d3 f3) (e3 : d3 + 1 ≤ dp) (hrc : ∀ b, ox_S p l e R s m args below meth c g 4 c0 t0 (ox_QM g below args s c0 t0) b (rc b)) : ox_S p l e R s m args below meth c g 4 c0 t0 (ox_QM g below args s c0 t0) 69 (bX12_fullSize_69 f1 f2 f3 rc) := by
  exact s_iret (pc := 69) C hr hlk dX12_fullSize_69
end SX12_fullSize
def bsX12_fullSize (f1 f2 f3 : ox_F) (b : Nat) (rc : Nat → ox_K) : ox_K := if b = 0 then bX12_fullSize_0 f1 f2 f3 rc else if b = 11 then bX12_fullSize_11 f1 f2 f3 rc else if b = 25 then bX12_fullSize_25 f1 f2 f3 rc else if b = 54 then bX12_fullSize_54 f1 f2 f3 rc else if b = 55 then bX12_fullSize_55 f1 f2 f3 rc else if b = 68 then bX12_fullSize_68 f1 f2 f3 rc else if b = 69 then bX12_fullSize_69 f1 f2 f3 rc else ox_no
theorem mX12_fullSize {dp d1 d2 d3 : Nat} {f1 f2 f3 f : ox_F} (h1 : ox_Sem yX12_began cX12_began 2 none d1 f1) (e1 : d1 + 1 ≤ dp) (h2 : ox_Sem yX12_isOf cX12_isOf 2 (some .boolean) d2 f2) (e2 : d2 + 1 ≤ dp) (h3 : ox_Sem yX12_of cX12_of 3 (some .int) d3 f3) (e3 : d3 + 1 ≤ dp) (hf : ∀ as h r, f as h = some r → ox_cs as ≤ 4 ∧ ox_le h r.2 ∧ ∃ n, ox_run (bsX12_fullSize f1 f2 f3) n 0 (lv_args 0 as) [] h = some r) : ox_Sem yX12_fullSize cX12_fullSize 4 (some .int) dp f := by
  refine ox_meth (bs := bsX12_fullSize f1 f2 f3) (by decide) hf ?_
  intro p l e R s m args below meth c g c0 t0 C hr hlk hnm hR rc hrc b
  unfold bsX12_fullSize
  refine ox_br (kX12_fullSize_0 C hr hlk hnm hR h1 e1 h2 e2 h3 e3 hrc) ?_
  refine ox_br (kX12_fullSize_11 C hr hlk hnm hR h1 e1 h2 e2 h3 e3 hrc) ?_
  refine ox_br (kX12_fullSize_25 C hr hlk hnm hR h1 e1 h2 e2 h3 e3 hrc) ?_
  refine ox_br (kX12_fullSize_54 C hr hlk hnm hR h1 e1 h2 e2 h3 e3 hrc) ?_
  refine ox_br (kX12_fullSize_55 C hr hlk hnm hR h1 e1 h2 e2 h3 e3 hrc) ?_
  refine ox_br (kX12_fullSize_68 C hr hlk hnm hR h1 e1 h2 e2 h3 e3 hrc) ?_
  refine ox_br (kX12_fullSize_69 C hr hlk hnm hR h1 e1 h2 e2 h3 e3 hrc) ?_
  exact s_no
theorem dX12_markOf_0 : decode cX12_markOf 0 = .ok (.iload_n 2, 1) := by decide +kernel
theorem dX12_markOf_1 : decode cX12_markOf 1 = .ok (.iconst 2, 1) := by decide +kernel
theorem dX12_markOf_2 : decode cX12_markOf 2 = .ok (.if_icmp .ne 9, 3) := by decide +kernel
theorem dX12_markOf_5 : decode cX12_markOf 5 = .ok (.aload_n 0, 1) := by decide +kernel
theorem dX12_markOf_6 : decode cX12_markOf 6 = .ok (.bipush 22, 2) := by decide +kernel
theorem dX12_markOf_8 : decode cX12_markOf 8 = .ok (.invokevirtual 337, 3) := by decide +kernel
theorem dX12_markOf_11 : decode cX12_markOf 11 = .ok (.iload_n 2, 1) := by decide +kernel
theorem dX12_markOf_12 : decode cX12_markOf 12 = .ok (.iconst 1, 1) := by decide +kernel
theorem dX12_markOf_13 : decode cX12_markOf 13 = .ok (.invokestatic 330, 3) := by decide +kernel
theorem dX12_markOf_16 : decode cX12_markOf 16 = .ok (.ifCond .eq 9, 3) := by decide +kernel
theorem dX12_markOf_19 : decode cX12_markOf 19 = .ok (.aload_n 0, 1) := by decide +kernel
theorem dX12_markOf_20 : decode cX12_markOf 20 = .ok (.bipush 21, 2) := by decide +kernel
theorem dX12_markOf_22 : decode cX12_markOf 22 = .ok (.invokevirtual 337, 3) := by decide +kernel
theorem dX12_markOf_25 : decode cX12_markOf 25 = .ok (.iload_n 2, 1) := by decide +kernel
theorem dX12_markOf_26 : decode cX12_markOf 26 = .ok (.iconst 4, 1) := by decide +kernel
theorem dX12_markOf_27 : decode cX12_markOf 27 = .ok (.if_icmp .ne 9, 3) := by decide +kernel
theorem dX12_markOf_30 : decode cX12_markOf 30 = .ok (.aload_n 0, 1) := by decide +kernel
theorem dX12_markOf_31 : decode cX12_markOf 31 = .ok (.bipush 23, 2) := by decide +kernel
theorem dX12_markOf_33 : decode cX12_markOf 33 = .ok (.invokevirtual 337, 3) := by decide +kernel
theorem dX12_markOf_36 : decode cX12_markOf 36 = .ok (.aload_n 0, 1) := by decide +kernel
theorem dX12_markOf_37 : decode cX12_markOf 37 = .ok (.bipush 20, 2) := by decide +kernel
theorem dX12_markOf_39 : decode cX12_markOf 39 = .ok (.invokevirtual 337, 3) := by decide +kernel
theorem dX12_markOf_42 : decode cX12_markOf 42 = .ok (.aload_n 0, 1) := by decide +kernel
theorem dX12_markOf_43 : decode cX12_markOf 43 = .ok (.iload_n 1, 1) := by decide +kernel
theorem dX12_markOf_44 : decode cX12_markOf 44 = .ok (.iconst 5, 1) := by decide +kernel
theorem dX12_markOf_45 : decode cX12_markOf 45 = .ok (.invokevirtual 303, 3) := by decide +kernel
theorem dX12_markOf_48 : decode cX12_markOf 48 = .ok (.iload_n 2, 1) := by decide +kernel
theorem dX12_markOf_49 : decode cX12_markOf 49 = .ok (.iconst 1, 1) := by decide +kernel
theorem dX12_markOf_50 : decode cX12_markOf 50 = .ok (.invokestatic 330, 3) := by decide +kernel
theorem dX12_markOf_53 : decode cX12_markOf 53 = .ok (.ifCond .eq 9, 3) := by decide +kernel
theorem dX12_markOf_56 : decode cX12_markOf 56 = .ok (.sipush 1000, 3) := by decide +kernel
theorem dX12_markOf_59 : decode cX12_markOf 59 = .ok (.goto 4, 3) := by decide +kernel
theorem dX12_markOf_62 : decode cX12_markOf 62 = .ok (.iconst 0, 1) := by decide +kernel
theorem dX12_markOf_63 : decode cX12_markOf 63 = .ok (.iadd, 1) := by decide +kernel
theorem dX12_markOf_64 : decode cX12_markOf 64 = .ok (.istore_n 3, 1) := by decide +kernel
theorem dX12_markOf_65 : decode cX12_markOf 65 = .ok (.iload_n 2, 1) := by decide +kernel
theorem dX12_markOf_66 : decode cX12_markOf 66 = .ok (.iconst 2, 1) := by decide +kernel
theorem dX12_markOf_67 : decode cX12_markOf 67 = .ok (.if_icmp .ne 14, 3) := by decide +kernel
theorem dX12_markOf_70 : decode cX12_markOf 70 = .ok (.iload_n 3, 1) := by decide +kernel
theorem dX12_markOf_71 : decode cX12_markOf 71 = .ok (.aload_n 0, 1) := by decide +kernel
theorem dX12_markOf_72 : decode cX12_markOf 72 = .ok (.iload_n 1, 1) := by decide +kernel
theorem dX12_markOf_73 : decode cX12_markOf 73 = .ok (.iload_n 2, 1) := by decide +kernel
theorem dX12_markOf_74 : decode cX12_markOf 74 = .ok (.invokevirtual 340, 3) := by decide +kernel
theorem dX12_markOf_77 : decode cX12_markOf 77 = .ok (.iadd, 1) := by decide +kernel
theorem dX12_markOf_78 : decode cX12_markOf 78 = .ok (.goto 20, 3) := by decide +kernel
theorem dX12_markOf_81 : decode cX12_markOf 81 = .ok (.iload_n 2, 1) := by decide +kernel
theorem dX12_markOf_82 : decode cX12_markOf 82 = .ok (.iconst 4, 1) := by decide +kernel
theorem dX12_markOf_83 : decode cX12_markOf 83 = .ok (.if_icmp .ne 14, 3) := by decide +kernel
theorem dX12_markOf_86 : decode cX12_markOf 86 = .ok (.iload_n 3, 1) := by decide +kernel
theorem dX12_markOf_87 : decode cX12_markOf 87 = .ok (.aload_n 0, 1) := by decide +kernel
theorem dX12_markOf_88 : decode cX12_markOf 88 = .ok (.iload_n 1, 1) := by decide +kernel
theorem dX12_markOf_89 : decode cX12_markOf 89 = .ok (.iconst 3, 1) := by decide +kernel
theorem dX12_markOf_90 : decode cX12_markOf 90 = .ok (.invokevirtual 303, 3) := by decide +kernel
theorem dX12_markOf_93 : decode cX12_markOf 93 = .ok (.iadd, 1) := by decide +kernel
theorem dX12_markOf_94 : decode cX12_markOf 94 = .ok (.goto 4, 3) := by decide +kernel
theorem dX12_markOf_97 : decode cX12_markOf 97 = .ok (.iload_n 3, 1) := by decide +kernel
theorem dX12_markOf_98 : decode cX12_markOf 98 = .ok (.ireturn, 1) := by decide +kernel
def bX12_markOf_0 (f1 f2 f3 f4 : ox_F) (rc : Nat → ox_K) : ox_K := o_il 2 (o_ic (2) (o_icne (rc 11) (o_al 0 (o_ic (22) (o_cv f1 12 1 (rc 11))))))
def bX12_markOf_11 (f1 f2 f3 f4 : ox_F) (rc : Nat → ox_K) : ox_K := o_il 2 (o_ic (1) (o_ct f2 2 (o_ifeq (rc 25) (o_al 0 (o_ic (21) (o_cv f1 12 1 (rc 25)))))))
def bX12_markOf_25 (f1 f2 f3 f4 : ox_F) (rc : Nat → ox_K) : ox_K := o_il 2 (o_ic (4) (o_icne (rc 36) (o_al 0 (o_ic (23) (o_cv f1 12 1 (rc 36))))))
def bX12_markOf_36 (f1 f2 f3 f4 : ox_F) (rc : Nat → ox_K) : ox_K := o_al 0 (o_ic (20) (o_cv f1 12 1 (o_al 0 (o_il 1 (o_ic (5) (o_cv f3 12 2 (o_il 2 (o_ic (1) (o_ct f2 2 (o_ifeq (rc 62) (o_ic (1000) (rc 63))))))))))))
def bX12_markOf_62 (f1 f2 f3 f4 : ox_F) (rc : Nat → ox_K) : ox_K := o_ic (0) (rc 63)
def bX12_markOf_63 (f1 f2 f3 f4 : ox_F) (rc : Nat → ox_K) : ox_K := o_iadd (o_is 3 (o_il 2 (o_ic (2) (o_icne (rc 81) (o_il 3 (o_al 0 (o_il 1 (o_il 2 (o_cv f4 12 2 (o_iadd (rc 98)))))))))))
def bX12_markOf_81 (f1 f2 f3 f4 : ox_F) (rc : Nat → ox_K) : ox_K := o_il 2 (o_ic (4) (o_icne (rc 97) (o_il 3 (o_al 0 (o_il 1 (o_ic (3) (o_cv f3 12 2 (o_iadd (rc 98)))))))))
def bX12_markOf_97 (f1 f2 f3 f4 : ox_F) (rc : Nat → ox_K) : ox_K := o_il 3 (rc 98)
def bX12_markOf_98 (f1 f2 f3 f4 : ox_F) (rc : Nat → ox_K) : ox_K := o_iret
section SX12_markOf
variable {p : Program} {l : Launch} {e : Env} {R : Room} {s : State} {m : MethodId} {args : Array Value} {below : List Frame} {meth : Method} {c : Code} {g : ox_G} {c0 t0 dp d1 d2 d3 d4 : Nat} {rc : Nat → ox_K} {f1 f2 f3 f4 : ox_F}
set_option maxRecDepth 100000 in
theorem kX12_markOf_0 (C : ox_C p s m args c g 4 cX12_markOf RX12) (hr : meth.sig.returnType = (some .int)) (hlk : meth.locks = false) (hnm : meth.name = "markOf") (hR : R.frames = dp ∧ R.locals = 60 * dp) (h1 : ox_Sem yX12_began cX12_began 2 none d1 f1) (e1 : d1 + 1 ≤ dp) (h2 : ox_Sem yX12_isOf cX12_isOf 2 (some .boolean) d2 f2) (e2 : d2 + 1 ≤ dp) (h3 : ox_Sem yX12_of cX12_of 3 (some .int) d3 f3) (e3 : d3 + 1 ≤ dp) (h4 : ox_Sem yX12_fullSize cX12_fullSize 4 (some .int) d4 f4) (e4 : d4 + 1 ≤ dp) (hrc : ∀ b, ox_S p l e R s m args below meth c g 4 c0 t0 (ox_QM g below args s c0 t0) b (rc b)) : ox_S p l e R s m args below meth c g 4 c0 t0 (ox_QM g below args s c0 t0) 0 (bX12_markOf_0 f1 f2 f3 f4 rc) := by
  refine s_iload_n (pc := 0) C dX12_markOf_0 rfl ?_
  refine s_iconst (pc := 1) C dX12_markOf_1 (by decide) ?_
  refine s_icmpne (pc := 2) 11 C dX12_markOf_2 (by decide) (hrc 11) ?_
  refine s_aload_n (pc := 5) C dX12_markOf_5 rfl ?_
  refine s_bipush (pc := 6) C dX12_markOf_6 (by decide) ?_
  refine s_cv (pc := 8) (q := (RX12, TX12, 59)) C h1 rfl wM_X12_337 wI_X12_began wS_X12_began wN_X12 wC_X12_began (by decide +kernel) (ox_lv hR e1 (by decide)) dX12_markOf_8 ?_
  exact hrc 11
set_option maxRecDepth 100000 in
theorem kX12_markOf_11 (C : ox_C p s m args c g 4 cX12_markOf RX12) (hr : meth.sig.returnType = (some .int)) (hlk : meth.locks = false) (hnm : meth.name = "markOf") (hR : R.frames = dp ∧ R.locals = 60 * dp) (h1 : ox_Sem yX12_began cX12_began 2 none d1 f1) (e1 : d1 + 1 ≤ dp) (h2 : ox_Sem yX12_isOf cX12_isOf 2 (some .boolean) d2 f2) (e2 : d2 + 1 ≤ dp) (h3 : ox_Sem yX12_of cX12_of 3 (some .int) d3 f3) (e3 : d3 + 1 ≤ dp) (h4 : ox_Sem yX12_fullSize cX12_fullSize 4 (some .int) d4 f4) (e4 : d4 + 1 ≤ dp) (hrc : ∀ b, ox_S p l e R s m args below meth c g 4 c0 t0 (ox_QM g below args s c0 t0) b (rc b)) : ox_S p l e R s m args below meth c g 4 c0 t0 (ox_QM g below args s c0 t0) 11 (bX12_markOf_11 f1 f2 f3 f4 rc) := by
  refine s_iload_n (pc := 11) C dX12_markOf_11 rfl ?_
  refine s_iconst (pc := 12) C dX12_markOf_12 (by decide) ?_
  refine s_ct (pc := 13) C h2 wM_X12_330 wT_X12_isOf wN_X12 wC_X12_isOf (by decide +kernel) (ox_lv hR e2 (by decide)) dX12_markOf_13 ?_
  refine s_ifeq (pc := 16) 25 C dX12_markOf_16 (by decide) (hrc 25) ?_
  refine s_aload_n (pc := 19) C dX12_markOf_19 rfl ?_
  refine s_bipush (pc := 20) C dX12_markOf_20 (by decide) ?_
  refine s_cv (pc := 22) (q := (RX12, TX12, 59)) C h1 rfl wM_X12_337 wI_X12_began wS_X12_began wN_X12 wC_X12_began (by decide +kernel) (ox_lv hR e1 (by decide)) dX12_markOf_22 ?_
  exact hrc 25
set_option maxRecDepth 100000 in
theorem kX12_markOf_25 (C : ox_C p s m args c g 4 cX12_markOf RX12) (hr : meth.sig.returnType = (some .int)) (hlk : meth.locks = false) (hnm : meth.name = "markOf") (hR : R.frames = dp ∧ R.locals = 60 * dp) (h1 : ox_Sem yX12_began cX12_began 2 none d1 f1) (e1 : d1 + 1 ≤ dp) (h2 : ox_Sem yX12_isOf cX12_isOf 2 (some .boolean) d2 f2) (e2 : d2 + 1 ≤ dp) (h3 : ox_Sem yX12_of cX12_of 3 (some .int) d3 f3) (e3 : d3 + 1 ≤ dp) (h4 : ox_Sem yX12_fullSize cX12_fullSize 4 (some .int) d4 f4) (e4 : d4 + 1 ≤ dp) (hrc : ∀ b, ox_S p l e R s m args below meth c g 4 c0 t0 (ox_QM g below args s c0 t0) b (rc b)) : ox_S p l e R s m args below meth c g 4 c0 t0 (ox_QM g below args s c0 t0) 25 (bX12_markOf_25 f1 f2 f3 f4 rc) := by
  refine s_iload_n (pc := 25) C dX12_markOf_25 rfl ?_
  refine s_iconst (pc := 26) C dX12_markOf_26 (by decide) ?_
  refine s_icmpne (pc := 27) 36 C dX12_markOf_27 (by decide) (hrc 36) ?_
  refine s_aload_n (pc := 30) C dX12_markOf_30 rfl ?_
  refine s_bipush (pc := 31) C dX12_markOf_31 (by decide) ?_
  refine s_cv (pc := 33) (q := (RX12, TX12, 59)) C h1 rfl wM_X12_337 wI_X12_began wS_X12_began wN_X12 wC_X12_began (by decide +kernel) (ox_lv hR e1 (by decide)) dX12_markOf_33 ?_
  exact hrc 36
set_option maxRecDepth 100000 in
theorem kX12_markOf_36 (C : ox_C p s m args c g 4 cX12_markOf RX12) (hr : meth.sig.returnType = (some .int)) (hlk : meth.locks = false) (hnm : meth.name = "markOf") (hR : R.frames = dp ∧ R.locals = 60 * dp) (h1 : ox_Sem yX12_began cX12_began 2 none d1 f1) (e1 : d1 + 1 ≤ dp) (h2 : ox_Sem yX12_isOf cX12_isOf 2 (some .boolean) d2 f2) (e2 : d2 + 1 ≤ dp) (h3 : ox_Sem yX12_of cX12_of 3 (some .int) d3 f3) (e3 : d3 + 1 ≤ dp) (h4 : ox_Sem yX12_fullSize cX12_fullSize 4 (some .int) d4 f4) (e4 : d4 + 1 ≤ dp) (hrc : ∀ b, ox_S p l e R s m args below meth c g 4 c0 t0 (ox_QM g below args s c0 t0) b (rc b)) : ox_S p l e R s m args below meth c g 4 c0 t0 (ox_QM g below args s c0 t0) 36 (bX12_markOf_36 f1 f2 f3 f4 rc) := by
  refine s_aload_n (pc := 36) C dX12_markOf_36 rfl ?_
  refine s_bipush (pc := 37) C dX12_markOf_37 (by decide) ?_
  refine s_cv (pc := 39) (q := (RX12, TX12, 59)) C h1 rfl wM_X12_337 wI_X12_began wS_X12_began wN_X12 wC_X12_began (by decide +kernel) (ox_lv hR e1 (by decide)) dX12_markOf_39 ?_
  refine s_aload_n (pc := 42) C dX12_markOf_42 rfl ?_
  refine s_iload_n (pc := 43) C dX12_markOf_43 rfl ?_
  refine s_iconst (pc := 44) C dX12_markOf_44 (by decide) ?_
  refine s_cv (pc := 45) (q := (RX12, TX12, 59)) C h3 rfl wM_X12_303 wI_X12_of wS_X12_of wN_X12 wC_X12_of (by decide +kernel) (ox_lv hR e3 (by decide)) dX12_markOf_45 ?_
  refine s_iload_n (pc := 48) C dX12_markOf_48 rfl ?_
  refine s_iconst (pc := 49) C dX12_markOf_49 (by decide) ?_
  refine s_ct (pc := 50) C h2 wM_X12_330 wT_X12_isOf wN_X12 wC_X12_isOf (by decide +kernel) (ox_lv hR e2 (by decide)) dX12_markOf_50 ?_
  refine s_ifeq (pc := 53) 62 C dX12_markOf_53 (by decide) (hrc 62) ?_
  refine s_sipush (pc := 56) C dX12_markOf_56 (by decide) ?_
  exact s_goto (pc := 59) 63 C dX12_markOf_59 (by decide) (hrc 63)
set_option maxRecDepth 100000 in
theorem kX12_markOf_62 (C : ox_C p s m args c g 4 cX12_markOf RX12) (hr : meth.sig.returnType = (some .int)) (hlk : meth.locks = false) (hnm : meth.name = "markOf") (hR : R.frames = dp ∧ R.locals = 60 * dp) (h1 : ox_Sem yX12_began cX12_began 2 none d1 f1) (e1 : d1 + 1 ≤ dp) (h2 : ox_Sem yX12_isOf cX12_isOf 2 (some .boolean) d2 f2) (e2 : d2 + 1 ≤ dp) (h3 : ox_Sem yX12_of cX12_of 3 (some .int) d3 f3) (e3 : d3 + 1 ≤ dp) (h4 : ox_Sem yX12_fullSize cX12_fullSize 4 (some .int) d4 f4) (e4 : d4 + 1 ≤ dp) (hrc : ∀ b, ox_S p l e R s m args below meth c g 4 c0 t0 (ox_QM g below args s c0 t0) b (rc b)) : ox_S p l e R s m args below meth c g 4 c0 t0 (ox_QM g below args s c0 t0) 62 (bX12_markOf_62 f1 f2 f3 f4 rc) := by
  refine s_iconst (pc := 62) C dX12_markOf_62 (by decide) ?_
  exact hrc 63
set_option maxRecDepth 100000 in
theorem kX12_markOf_63 (C : ox_C p s m args c g 4 cX12_markOf RX12) (hr : meth.sig.returnType = (some .int)) (hlk : meth.locks = false) (hnm : meth.name = "markOf") (hR : R.frames = dp ∧ R.locals = 60 * dp) (h1 : ox_Sem yX12_began cX12_began 2 none d1 f1) (e1 : d1 + 1 ≤ dp) (h2 : ox_Sem yX12_isOf cX12_isOf 2 (some .boolean) d2 f2) (e2 : d2 + 1 ≤ dp) (h3 : ox_Sem yX12_of cX12_of 3 (some .int) d3 f3) (e3 : d3 + 1 ≤ dp) (h4 : ox_Sem yX12_fullSize cX12_fullSize 4 (some .int) d4 f4) (e4 : d4 + 1 ≤ dp) (hrc : ∀ b, ox_S p l e R s m args below meth c g 4 c0 t0 (ox_QM g below args s c0 t0) b (rc b)) : ox_S p l e R s m args below meth c g 4 c0 t0 (ox_QM g below args s c0 t0) 63 (bX12_markOf_63 f1 f2 f3 f4 rc) := by
  refine s_iadd (pc := 63) C dX12_markOf_63 ?_
  refine s_istore_n (pc := 64) C dX12_markOf_64 rfl (by decide) ?_
  refine s_iload_n (pc := 65) C dX12_markOf_65 rfl ?_
  refine s_iconst (pc := 66) C dX12_markOf_66 (by decide) ?_
  refine s_icmpne (pc := 67) 81 C dX12_markOf_67 (by decide) (hrc 81) ?_
  refine s_iload_n (pc := 70) C dX12_markOf_70 rfl ?_
  refine s_aload_n (pc := 71) C dX12_markOf_71 rfl ?_
  refine s_iload_n (pc := 72) C dX12_markOf_72 rfl ?_
  refine s_iload_n (pc := 73) C dX12_markOf_73 rfl ?_
  refine s_cv (pc := 74) (q := (RX12, TX12, 59)) C h4 rfl wM_X12_340 wI_X12_fullSize wS_X12_fullSize wN_X12 wC_X12_fullSize (by decide +kernel) (ox_lv hR e4 (by decide)) dX12_markOf_74 ?_
  refine s_iadd (pc := 77) C dX12_markOf_77 ?_
  exact s_goto (pc := 78) 98 C dX12_markOf_78 (by decide) (hrc 98)
set_option maxRecDepth 100000 in
theorem kX12_markOf_81 (C : ox_C p s m args c g 4 cX12_markOf RX12) (hr : meth.sig.returnType = (some .int)) (hlk : meth.locks = false) (hnm : meth.name = "markOf") (hR : R.frames = dp ∧ R.locals = 60 * dp) (h1 : ox_Sem yX12_began cX12_began 2 none d1 f1) (e1 : d1 + 1 ≤ dp) (h2 : ox_Sem yX12_isOf cX12_isOf 2 (some .boolean) d2 f2) (e2 : d2 + 1 ≤ dp) (h3 : ox_Sem yX12_of cX12_of 3 (some .int) d3 f3) (e3 : d3 + 1 ≤ dp) (h4 : ox_Sem yX12_fullSize cX12_fullSize 4 (some .int) d4 f4) (e4 : d4 + 1 ≤ dp) (hrc : ∀ b, ox_S p l e R s m args below meth c g 4 c0 t0 (ox_QM g below args s c0 t0) b (rc b)) : ox_S p l e R s m args below meth c g 4 c0 t0 (ox_QM g below args s c0 t0) 81 (bX12_markOf_81 f1 f2 f3 f4 rc) := by
  refine s_iload_n (pc := 81) C dX12_markOf_81 rfl ?_
  refine s_iconst (pc := 82) C dX12_markOf_82 (by decide) ?_
  refine s_icmpne (pc := 83) 97 C dX12_markOf_83 (by decide) (hrc 97) ?_
  refine s_iload_n (pc := 86) C dX12_markOf_86 rfl ?_
  refine s_aload_n (pc := 87) C dX12_markOf_87 rfl ?_
  refine s_iload_n (pc := 88) C dX12_markOf_88 rfl ?_
  refine s_iconst (pc := 89) C dX12_markOf_89 (by decide) ?_
  refine s_cv (pc := 90) (q := (RX12, TX12, 59)) C h3 rfl wM_X12_303 wI_X12_of wS_X12_of wN_X12 wC_X12_of (by decide +kernel) (ox_lv hR e3 (by decide)) dX12_markOf_90 ?_
  refine s_iadd (pc := 93) C dX12_markOf_93 ?_
  exact s_goto (pc := 94) 98 C dX12_markOf_94 (by decide) (hrc 98)
set_option maxRecDepth 100000 in
theorem kX12_markOf_97 (C : ox_C p s m args c g 4 cX12_markOf RX12) (hr : meth.sig.returnType = (some .int)) (hlk : meth.locks = false) (hnm : meth.name = "markOf") (hR : R.frames = dp ∧ R.locals = 60 * dp) (h1 : ox_Sem yX12_began cX12_began 2 none d1 f1) (e1 : d1 + 1 ≤ dp) (h2 : ox_Sem yX12_isOf cX12_isOf 2 (some .boolean) d2 f2) (e2 : d2 + 1 ≤ dp) (h3 : ox_Sem yX12_of cX12_of 3 (some .int) d3 f3) (e3 : d3 + 1 ≤ dp) (h4 : ox_Sem yX12_fullSize cX12_fullSize 4 (some .int) d4 f4) (e4 : d4 + 1 ≤ dp) (hrc : ∀ b, ox_S p l e R s m args below meth c g 4 c0 t0 (ox_QM g below args s c0 t0) b (rc b)) : ox_S p l e R s m args below meth c g 4 c0 t0 (ox_QM g below args s c0 t0) 97 (bX12_markOf_97 f1 f2 f3 f4 rc) := by
  refine s_iload_n (pc := 97) C dX12_markOf_97 rfl ?_
  exact hrc 98
set_option maxRecDepth 100000 in
theorem kX12_markOf_98 (C : ox_C p s m args c g 4 cX12_markOf RX12) (hr : meth.sig.returnType = (some .int)) (hlk : meth.locks = false) (hnm : meth.name = "markOf") (hR : R.frames = dp ∧ R.locals = 60 * dp) (h1 : ox_Sem yX12_began cX12_began 2 none d1 f1) (e1 : d1 + 1 ≤ dp) (h2 : ox_Sem yX12_isOf cX12_isOf 2 (some .boolean) d2 f2) (e2 : d2 + 1 ≤ dp) (h3 : ox_Sem yX12_of cX12_of 3 (some .int) d3 f3) (e3 : d3 + 1 ≤ dp) (h4 : ox_Sem yX12_fullSize cX12_fullSize 4 (some .int) d4 f4) (e4 : d4 + 1 ≤ dp) (hrc : ∀ b, ox_S p l e R s m args below meth c g 4 c0 t0 (ox_QM g below args s c0 t0) b (rc b)) : ox_S p l e R s m args below meth c g 4 c0 t0 (ox_QM g below args s c0 t0) 98 (bX12_markOf_98 f1 f2 f3 f4 rc) := by
  exact s_iret (pc := 98) C hr hlk dX12_markOf_98
end SX12_markOf
def bsX12_markOf (f1 f2 f3 f4 : ox_F) (b : Nat) (rc : Nat → ox_K) : ox_K := if b = 0 then bX12_markOf_0 f1 f2 f3 f4 rc else if b = 11 then bX12_markOf_11 f1 f2 f3 f4 rc else if b = 25 then bX12_markOf_25 f1 f2 f3 f4 rc else if b = 36 then bX12_markOf_36 f1 f2 f3 f4 rc else if b = 62 then bX12_markOf_62 f1 f2 f3 f4 rc else if b = 63 then bX12_markOf_63 f1 f2 f3 f4 rc else if b = 81 then bX12_markOf_81 f1 f2 f3 f4 rc else if b = 97 then bX12_markOf_97 f1 f2 f3 f4 rc else if b = 98 then bX12_markOf_98 f1 f2 f3 f4 rc else ox_no
theorem mX12_markOf {dp d1 d2 d3 d4 : Nat} {f1 f2 f3 f4 f : ox_F} (h1 : ox_Sem yX12_began cX12_began 2 none d1 f1) (e1 : d1 + 1 ≤ dp) (h2 : ox_Sem yX12_isOf cX12_isOf 2 (some .boolean) d2 f2) (e2 : d2 + 1 ≤ dp) (h3 : ox_Sem yX12_of cX12_of 3 (some .int) d3 f3) (e3 : d3 + 1 ≤ dp) (h4 : ox_Sem yX12_fullSize cX12_fullSize 4 (some .int) d4 f4) (e4 : d4 + 1 ≤ dp) (hf : ∀ as h r, f as h = some r → ox_cs as ≤ 4 ∧ ox_le h r.2 ∧ ∃ n, ox_run (bsX12_markOf f1 f2 f3 f4) n 0 (lv_args 0 as) [] h = some r) : ox_Sem yX12_markOf cX12_markOf 4 (some .int) dp f := by
  refine ox_meth (bs := bsX12_markOf f1 f2 f3 f4) (by decide) hf ?_
  intro p l e R s m args below meth c g c0 t0 C hr hlk hnm hR rc hrc b
  unfold bsX12_markOf
  refine ox_br (kX12_markOf_0 C hr hlk hnm hR h1 e1 h2 e2 h3 e3 h4 e4 hrc) ?_
  refine ox_br (kX12_markOf_11 C hr hlk hnm hR h1 e1 h2 e2 h3 e3 h4 e4 hrc) ?_
  refine ox_br (kX12_markOf_25 C hr hlk hnm hR h1 e1 h2 e2 h3 e3 h4 e4 hrc) ?_
  refine ox_br (kX12_markOf_36 C hr hlk hnm hR h1 e1 h2 e2 h3 e3 h4 e4 hrc) ?_
  refine ox_br (kX12_markOf_62 C hr hlk hnm hR h1 e1 h2 e2 h3 e3 h4 e4 hrc) ?_
  refine ox_br (kX12_markOf_63 C hr hlk hnm hR h1 e1 h2 e2 h3 e3 h4 e4 hrc) ?_
  refine ox_br (kX12_markOf_81 C hr hlk hnm hR h1 e1 h2 e2 h3 e3 h4 e4 hrc) ?_
  refine ox_br (kX12_markOf_97 C hr hlk hnm hR h1 e1 h2 e2 h3 e3 h4 e4 hrc) ?_
  refine ox_br (kX12_markOf_98 C hr hlk hnm hR h1 e1 h2 e2 h3 e3 h4 e4 hrc) ?_
  exact s_no
theorem dX12_sizeOf_0 : decode cX12_sizeOf 0 = .ok (.iload_n 2, 1) := by decide +kernel
theorem dX12_sizeOf_1 : decode cX12_sizeOf 1 = .ok (.iconst 3, 1) := by decide +kernel
theorem dX12_sizeOf_2 : decode cX12_sizeOf 2 = .ok (.if_icmp .ge 10, 3) := by decide +kernel
theorem dX12_sizeOf_5 : decode cX12_sizeOf 5 = .ok (.aload_n 0, 1) := by decide +kernel
theorem dX12_sizeOf_6 : decode cX12_sizeOf 6 = .ok (.iload_n 1, 1) := by decide +kernel
theorem dX12_sizeOf_7 : decode cX12_sizeOf 7 = .ok (.iload_n 2, 1) := by decide +kernel
theorem dX12_sizeOf_8 : decode cX12_sizeOf 8 = .ok (.invokevirtual 340, 3) := by decide +kernel
theorem dX12_sizeOf_11 : decode cX12_sizeOf 11 = .ok (.ireturn, 1) := by decide +kernel
theorem dX12_sizeOf_12 : decode cX12_sizeOf 12 = .ok (.aload_n 0, 1) := by decide +kernel
theorem dX12_sizeOf_13 : decode cX12_sizeOf 13 = .ok (.iload_n 2, 1) := by decide +kernel
theorem dX12_sizeOf_14 : decode cX12_sizeOf 14 = .ok (.iconst 3, 1) := by decide +kernel
theorem dX12_sizeOf_15 : decode cX12_sizeOf 15 = .ok (.if_icmp .ne 8, 3) := by decide +kernel
theorem dX12_sizeOf_18 : decode cX12_sizeOf 18 = .ok (.bipush 13, 2) := by decide +kernel
theorem dX12_sizeOf_20 : decode cX12_sizeOf 20 = .ok (.goto 5, 3) := by decide +kernel
theorem dX12_sizeOf_23 : decode cX12_sizeOf 23 = .ok (.bipush 14, 2) := by decide +kernel
theorem dX12_sizeOf_25 : decode cX12_sizeOf 25 = .ok (.invokevirtual 337, 3) := by decide +kernel
theorem dX12_sizeOf_28 : decode cX12_sizeOf 28 = .ok (.aload_n 0, 1) := by decide +kernel
theorem dX12_sizeOf_29 : decode cX12_sizeOf 29 = .ok (.bipush 10, 2) := by decide +kernel
theorem dX12_sizeOf_31 : decode cX12_sizeOf 31 = .ok (.invokevirtual 337, 3) := by decide +kernel
theorem dX12_sizeOf_34 : decode cX12_sizeOf 34 = .ok (.iload_n 2, 1) := by decide +kernel
theorem dX12_sizeOf_35 : decode cX12_sizeOf 35 = .ok (.iconst 3, 1) := by decide +kernel
theorem dX12_sizeOf_36 : decode cX12_sizeOf 36 = .ok (.if_icmp .ne 19, 3) := by decide +kernel
theorem dX12_sizeOf_39 : decode cX12_sizeOf 39 = .ok (.aload_n 0, 1) := by decide +kernel
theorem dX12_sizeOf_40 : decode cX12_sizeOf 40 = .ok (.iload_n 1, 1) := by decide +kernel
theorem dX12_sizeOf_41 : decode cX12_sizeOf 41 = .ok (.iconst 0, 1) := by decide +kernel
theorem dX12_sizeOf_42 : decode cX12_sizeOf 42 = .ok (.invokevirtual 303, 3) := by decide +kernel
theorem dX12_sizeOf_45 : decode cX12_sizeOf 45 = .ok (.aload_n 0, 1) := by decide +kernel
theorem dX12_sizeOf_46 : decode cX12_sizeOf 46 = .ok (.iload_n 1, 1) := by decide +kernel
theorem dX12_sizeOf_47 : decode cX12_sizeOf 47 = .ok (.iload_n 2, 1) := by decide +kernel
theorem dX12_sizeOf_48 : decode cX12_sizeOf 48 = .ok (.invokevirtual 343, 3) := by decide +kernel
theorem dX12_sizeOf_51 : decode cX12_sizeOf 51 = .ok (.isub, 1) := by decide +kernel
theorem dX12_sizeOf_52 : decode cX12_sizeOf 52 = .ok (.goto 10, 3) := by decide +kernel
theorem dX12_sizeOf_55 : decode cX12_sizeOf 55 = .ok (.aload_n 0, 1) := by decide +kernel
theorem dX12_sizeOf_56 : decode cX12_sizeOf 56 = .ok (.iload_n 1, 1) := by decide +kernel
theorem dX12_sizeOf_57 : decode cX12_sizeOf 57 = .ok (.iconst 0, 1) := by decide +kernel
theorem dX12_sizeOf_58 : decode cX12_sizeOf 58 = .ok (.invokevirtual 303, 3) := by decide +kernel
theorem dX12_sizeOf_61 : decode cX12_sizeOf 61 = .ok (.ineg, 1) := by decide +kernel
theorem dX12_sizeOf_62 : decode cX12_sizeOf 62 = .ok (.ireturn, 1) := by decide +kernel
def bX12_sizeOf_0 (f1 f2 f3 f4 : ox_F) (rc : Nat → ox_K) : ox_K := o_il 2 (o_ic (3) (o_icge (rc 12) (o_al 0 (o_il 1 (o_il 2 (o_cv f1 12 2 (o_iret)))))))
def bX12_sizeOf_12 (f1 f2 f3 f4 : ox_F) (rc : Nat → ox_K) : ox_K := o_al 0 (o_il 2 (o_ic (3) (o_icne (rc 23) (o_ic (13) (rc 25)))))
def bX12_sizeOf_23 (f1 f2 f3 f4 : ox_F) (rc : Nat → ox_K) : ox_K := o_ic (14) (rc 25)
def bX12_sizeOf_25 (f1 f2 f3 f4 : ox_F) (rc : Nat → ox_K) : ox_K := o_cv f2 12 1 (o_al 0 (o_ic (10) (o_cv f2 12 1 (o_il 2 (o_ic (3) (o_icne (rc 55) (o_al 0 (o_il 1 (o_ic (0) (o_cv f3 12 2 (o_al 0 (o_il 1 (o_il 2 (o_cv f4 12 2 (o_isub (rc 62))))))))))))))))
def bX12_sizeOf_55 (f1 f2 f3 f4 : ox_F) (rc : Nat → ox_K) : ox_K := o_al 0 (o_il 1 (o_ic (0) (o_cv f3 12 2 (o_ineg (rc 62)))))
def bX12_sizeOf_62 (f1 f2 f3 f4 : ox_F) (rc : Nat → ox_K) : ox_K := o_iret
section SX12_sizeOf
variable {p : Program} {l : Launch} {e : Env} {R : Room} {s : State} {m : MethodId} {args : Array Value} {below : List Frame} {meth : Method} {c : Code} {g : ox_G} {c0 t0 dp d1 d2 d3 d4 : Nat} {rc : Nat → ox_K} {f1 f2 f3 f4 : ox_F}
set_option maxRecDepth 100000 in
theorem kX12_sizeOf_0 (C : ox_C p s m args c g 3 cX12_sizeOf RX12) (hr : meth.sig.returnType = (some .int)) (hlk : meth.locks = false) (hnm : meth.name = "sizeOf") (hR : R.frames = dp ∧ R.locals = 60 * dp) (h1 : ox_Sem yX12_fullSize cX12_fullSize 4 (some .int) d1 f1) (e1 : d1 + 1 ≤ dp) (h2 : ox_Sem yX12_began cX12_began 2 none d2 f2) (e2 : d2 + 1 ≤ dp) (h3 : ox_Sem yX12_of cX12_of 3 (some .int) d3 f3) (e3 : d3 + 1 ≤ dp) (h4 : ox_Sem yX12_markOf cX12_markOf 4 (some .int) d4 f4) (e4 : d4 + 1 ≤ dp) (hrc : ∀ b, ox_S p l e R s m args below meth c g 3 c0 t0 (ox_QM g below args s c0 t0) b (rc b)) : ox_S p l e R s m args below meth c g 3 c0 t0 (ox_QM g below args s c0 t0) 0 (bX12_sizeOf_0 f1 f2 f3 f4 rc) := by
  refine s_iload_n (pc := 0) C dX12_sizeOf_0 rfl ?_
  refine s_iconst (pc := 1) C dX12_sizeOf_1 (by decide) ?_
  refine s_icmpge (pc := 2) 12 C dX12_sizeOf_2 (by decide) (hrc 12) ?_
  refine s_aload_n (pc := 5) C dX12_sizeOf_5 rfl ?_
  refine s_iload_n (pc := 6) C dX12_sizeOf_6 rfl ?_
  refine s_iload_n (pc := 7) C dX12_sizeOf_7 rfl ?_
  refine s_cv (pc := 8) (q := (RX12, TX12, 59)) C h1 rfl wM_X12_340 wI_X12_fullSize wS_X12_fullSize wN_X12 wC_X12_fullSize (by decide +kernel) (ox_lv hR e1 (by decide)) dX12_sizeOf_8 ?_
  exact s_iret (pc := 11) C hr hlk dX12_sizeOf_11
set_option maxRecDepth 100000 in
theorem kX12_sizeOf_12 (C : ox_C p s m args c g 3 cX12_sizeOf RX12) (hr : meth.sig.returnType = (some .int)) (hlk : meth.locks = false) (hnm : meth.name = "sizeOf") (hR : R.frames = dp ∧ R.locals = 60 * dp) (h1 : ox_Sem yX12_fullSize cX12_fullSize 4 (some .int) d1 f1) (e1 : d1 + 1 ≤ dp) (h2 : ox_Sem yX12_began cX12_began 2 none d2 f2) (e2 : d2 + 1 ≤ dp) (h3 : ox_Sem yX12_of cX12_of 3 (some .int) d3 f3) (e3 : d3 + 1 ≤ dp) (h4 : ox_Sem yX12_markOf cX12_markOf 4 (some .int) d4 f4) (e4 : d4 + 1 ≤ dp) (hrc : ∀ b, ox_S p l e R s m args below meth c g 3 c0 t0 (ox_QM g below args s c0 t0) b (rc b)) : ox_S p l e R s m args below meth c g 3 c0 t0 (ox_QM g below args s c0 t0) 12 (bX12_sizeOf_12 f1 f2 f3 f4 rc) := by
  refine s_aload_n (pc := 12) C dX12_sizeOf_12 rfl ?_
  refine s_iload_n (pc := 13) C dX12_sizeOf_13 rfl ?_
  refine s_iconst (pc := 14) C dX12_sizeOf_14 (by decide) ?_
  refine s_icmpne (pc := 15) 23 C dX12_sizeOf_15 (by decide) (hrc 23) ?_
  refine s_bipush (pc := 18) C dX12_sizeOf_18 (by decide) ?_
  exact s_goto (pc := 20) 25 C dX12_sizeOf_20 (by decide) (hrc 25)
set_option maxRecDepth 100000 in
theorem kX12_sizeOf_23 (C : ox_C p s m args c g 3 cX12_sizeOf RX12) (hr : meth.sig.returnType = (some .int)) (hlk : meth.locks = false) (hnm : meth.name = "sizeOf") (hR : R.frames = dp ∧ R.locals = 60 * dp) (h1 : ox_Sem yX12_fullSize cX12_fullSize 4 (some .int) d1 f1) (e1 : d1 + 1 ≤ dp) (h2 : ox_Sem yX12_began cX12_began 2 none d2 f2) (e2 : d2 + 1 ≤ dp) (h3 : ox_Sem yX12_of cX12_of 3 (some .int) d3 f3) (e3 : d3 + 1 ≤ dp) (h4 : ox_Sem yX12_markOf cX12_markOf 4 (some .int) d4 f4) (e4 : d4 + 1 ≤ dp) (hrc : ∀ b, ox_S p l e R s m args below meth c g 3 c0 t0 (ox_QM g below args s c0 t0) b (rc b)) : ox_S p l e R s m args below meth c g 3 c0 t0 (ox_QM g below args s c0 t0) 23 (bX12_sizeOf_23 f1 f2 f3 f4 rc) := by
  refine s_bipush (pc := 23) C dX12_sizeOf_23 (by decide) ?_
  exact hrc 25
set_option maxRecDepth 100000 in
theorem kX12_sizeOf_25 (C : ox_C p s m args c g 3 cX12_sizeOf RX12) (hr : meth.sig.returnType = (some .int)) (hlk : meth.locks = false) (hnm : meth.name = "sizeOf") (hR : R.frames = dp ∧ R.locals = 60 * dp) (h1 : ox_Sem yX12_fullSize cX12_fullSize 4 (some .int) d1 f1) (e1 : d1 + 1 ≤ dp) (h2 : ox_Sem yX12_began cX12_began 2 none d2 f2) (e2 : d2 + 1 ≤ dp) (h3 : ox_Sem yX12_of cX12_of 3 (some .int) d3 f3) (e3 : d3 + 1 ≤ dp) (h4 : ox_Sem yX12_markOf cX12_markOf 4 (some .int) d4 f4) (e4 : d4 + 1 ≤ dp) (hrc : ∀ b, ox_S p l e R s m args below meth c g 3 c0 t0 (ox_QM g below args s c0 t0) b (rc b)) : ox_S p l e R s m args below meth c g 3 c0 t0 (ox_QM g below args s c0 t0) 25 (bX12_sizeOf_25 f1 f2 f3 f4 rc) := by
  refine s_cv (pc := 25) (q := (RX12, TX12, 59)) C h2 rfl wM_X12_337 wI_X12_began wS_X12_began wN_X12 wC_X12_began (by decide +kernel) (ox_lv hR e2 (by decide)) dX12_sizeOf_25 ?_
  refine s_aload_n (pc := 28) C dX12_sizeOf_28 rfl ?_
  refine s_bipush (pc := 29) C dX12_sizeOf_29 (by decide) ?_
  refine s_cv (pc := 31) (q := (RX12, TX12, 59)) C h2 rfl wM_X12_337 wI_X12_began wS_X12_began wN_X12 wC_X12_began (by decide +kernel) (ox_lv hR e2 (by decide)) dX12_sizeOf_31 ?_
  refine s_iload_n (pc := 34) C dX12_sizeOf_34 rfl ?_
  refine s_iconst (pc := 35) C dX12_sizeOf_35 (by decide) ?_
  refine s_icmpne (pc := 36) 55 C dX12_sizeOf_36 (by decide) (hrc 55) ?_
  refine s_aload_n (pc := 39) C dX12_sizeOf_39 rfl ?_
  refine s_iload_n (pc := 40) C dX12_sizeOf_40 rfl ?_
  refine s_iconst (pc := 41) C dX12_sizeOf_41 (by decide) ?_
  refine s_cv (pc := 42) (q := (RX12, TX12, 59)) C h3 rfl wM_X12_303 wI_X12_of wS_X12_of wN_X12 wC_X12_of (by decide +kernel) (ox_lv hR e3 (by decide)) dX12_sizeOf_42 ?_
  refine s_aload_n (pc := 45) C dX12_sizeOf_45 rfl ?_
  refine s_iload_n (pc := 46) C dX12_sizeOf_46 rfl ?_
  refine s_iload_n (pc := 47) C dX12_sizeOf_47 rfl ?_
  refine s_cv (pc := 48) (q := (RX12, TX12, 59)) C h4 rfl wM_X12_343 wI_X12_markOf wS_X12_markOf wN_X12 wC_X12_markOf (by decide +kernel) (ox_lv hR e4 (by decide)) dX12_sizeOf_48 ?_
  refine s_isub (pc := 51) C dX12_sizeOf_51 ?_
  exact s_goto (pc := 52) 62 C dX12_sizeOf_52 (by decide) (hrc 62)
set_option maxRecDepth 100000 in
theorem kX12_sizeOf_55 (C : ox_C p s m args c g 3 cX12_sizeOf RX12) (hr : meth.sig.returnType = (some .int)) (hlk : meth.locks = false) (hnm : meth.name = "sizeOf") (hR : R.frames = dp ∧ R.locals = 60 * dp) (h1 : ox_Sem yX12_fullSize cX12_fullSize 4 (some .int) d1 f1) (e1 : d1 + 1 ≤ dp) (h2 : ox_Sem yX12_began cX12_began 2 none d2 f2) (e2 : d2 + 1 ≤ dp) (h3 : ox_Sem yX12_of cX12_of 3 (some .int) d3 f3) (e3 : d3 + 1 ≤ dp) (h4 : ox_Sem yX12_markOf cX12_markOf 4 (some .int) d4 f4) (e4 : d4 + 1 ≤ dp) (hrc : ∀ b, ox_S p l e R s m args below meth c g 3 c0 t0 (ox_QM g below args s c0 t0) b (rc b)) : ox_S p l e R s m args below meth c g 3 c0 t0 (ox_QM g below args s c0 t0) 55 (bX12_sizeOf_55 f1 f2 f3 f4 rc) := by
  refine s_aload_n (pc := 55) C dX12_sizeOf_55 rfl ?_
  refine s_iload_n (pc := 56) C dX12_sizeOf_56 rfl ?_
  refine s_iconst (pc := 57) C dX12_sizeOf_57 (by decide) ?_
  refine s_cv (pc := 58) (q := (RX12, TX12, 59)) C h3 rfl wM_X12_303 wI_X12_of wS_X12_of wN_X12 wC_X12_of (by decide +kernel) (ox_lv hR e3 (by decide)) dX12_sizeOf_58 ?_
  refine s_ineg (pc := 61) C dX12_sizeOf_61 ?_
  exact hrc 62
set_option maxRecDepth 100000 in
theorem kX12_sizeOf_62 (C : ox_C p s m args c g 3 cX12_sizeOf RX12) (hr : meth.sig.returnType = (some .int)) (hlk : meth.locks = false) (hnm : meth.name = "sizeOf") (hR : R.frames = dp ∧ R.locals = 60 * dp) (h1 : ox_Sem yX12_fullSize cX12_fullSize 4 (some .int) d1 f1) (e1 : d1 + 1 ≤ dp) (h2 : ox_Sem yX12_began cX12_began 2 none d2 f2) (e2 : d2 + 1 ≤ dp) (h3 : ox_Sem yX12_of cX12_of 3 (some .int) d3 f3) (e3 : d3 + 1 ≤ dp) (h4 : ox_Sem yX12_markOf cX12_markOf 4 (some .int) d4 f4) (e4 : d4 + 1 ≤ dp) (hrc : ∀ b, ox_S p l e R s m args below meth c g 3 c0 t0 (ox_QM g below args s c0 t0) b (rc b)) : ox_S p l e R s m args below meth c g 3 c0 t0 (ox_QM g below args s c0 t0) 62 (bX12_sizeOf_62 f1 f2 f3 f4 rc) := by
  exact s_iret (pc := 62) C hr hlk dX12_sizeOf_62
end SX12_sizeOf
def bsX12_sizeOf (f1 f2 f3 f4 : ox_F) (b : Nat) (rc : Nat → ox_K) : ox_K := if b = 0 then bX12_sizeOf_0 f1 f2 f3 f4 rc else if b = 12 then bX12_sizeOf_12 f1 f2 f3 f4 rc else if b = 23 then bX12_sizeOf_23 f1 f2 f3 f4 rc else if b = 25 then bX12_sizeOf_25 f1 f2 f3 f4 rc else if b = 55 then bX12_sizeOf_55 f1 f2 f3 f4 rc else if b = 62 then bX12_sizeOf_62 f1 f2 f3 f4 rc else ox_no
theorem mX12_sizeOf {dp d1 d2 d3 d4 : Nat} {f1 f2 f3 f4 f : ox_F} (h1 : ox_Sem yX12_fullSize cX12_fullSize 4 (some .int) d1 f1) (e1 : d1 + 1 ≤ dp) (h2 : ox_Sem yX12_began cX12_began 2 none d2 f2) (e2 : d2 + 1 ≤ dp) (h3 : ox_Sem yX12_of cX12_of 3 (some .int) d3 f3) (e3 : d3 + 1 ≤ dp) (h4 : ox_Sem yX12_markOf cX12_markOf 4 (some .int) d4 f4) (e4 : d4 + 1 ≤ dp) (hf : ∀ as h r, f as h = some r → ox_cs as ≤ 3 ∧ ox_le h r.2 ∧ ∃ n, ox_run (bsX12_sizeOf f1 f2 f3 f4) n 0 (lv_args 0 as) [] h = some r) : ox_Sem yX12_sizeOf cX12_sizeOf 3 (some .int) dp f := by
  refine ox_meth (bs := bsX12_sizeOf f1 f2 f3 f4) (by decide) hf ?_
  intro p l e R s m args below meth c g c0 t0 C hr hlk hnm hR rc hrc b
  unfold bsX12_sizeOf
  refine ox_br (kX12_sizeOf_0 C hr hlk hnm hR h1 e1 h2 e2 h3 e3 h4 e4 hrc) ?_
  refine ox_br (kX12_sizeOf_12 C hr hlk hnm hR h1 e1 h2 e2 h3 e3 h4 e4 hrc) ?_
  refine ox_br (kX12_sizeOf_23 C hr hlk hnm hR h1 e1 h2 e2 h3 e3 h4 e4 hrc) ?_
  refine ox_br (kX12_sizeOf_25 C hr hlk hnm hR h1 e1 h2 e2 h3 e3 h4 e4 hrc) ?_
  refine ox_br (kX12_sizeOf_55 C hr hlk hnm hR h1 e1 h2 e2 h3 e3 h4 e4 hrc) ?_
  refine ox_br (kX12_sizeOf_62 C hr hlk hnm hR h1 e1 h2 e2 h3 e3 h4 e4 hrc) ?_
  exact s_no
theorem dX12_ask_0 : decode cX12_ask 0 = .ok (.aload_n 0, 1) := by decide +kernel
theorem dX12_ask_1 : decode cX12_ask 1 = .ok (.iconst 0, 1) := by decide +kernel
theorem dX12_ask_2 : decode cX12_ask 2 = .ok (.putfield 108, 3) := by decide +kernel
theorem dX12_ask_5 : decode cX12_ask 5 = .ok (.aload_n 0, 1) := by decide +kernel
theorem dX12_ask_6 : decode cX12_ask 6 = .ok (.iload_n 1, 1) := by decide +kernel
theorem dX12_ask_7 : decode cX12_ask 7 = .ok (.invokevirtual 300, 3) := by decide +kernel
theorem dX12_ask_10 : decode cX12_ask 10 = .ok (.ifCond .eq 13, 3) := by decide +kernel
theorem dX12_ask_13 : decode cX12_ask 13 = .ok (.iload_n 2, 1) := by decide +kernel
theorem dX12_ask_14 : decode cX12_ask 14 = .ok (.i2l, 1) := by decide +kernel
theorem dX12_ask_15 : decode cX12_ask 15 = .ok (.lconst 0, 1) := by decide +kernel
theorem dX12_ask_16 : decode cX12_ask 16 = .ok (.lconst 1, 1) := by decide +kernel
theorem dX12_ask_17 : decode cX12_ask 17 = .ok (.invokestatic 117, 3) := by decide +kernel
theorem dX12_ask_20 : decode cX12_ask 20 = .ok (.ifCond .ne 6, 3) := by decide +kernel
theorem dX12_ask_23 : decode cX12_ask 23 = .ok (.ldc 127, 2) := by decide +kernel
theorem dX12_ask_25 : decode cX12_ask 25 = .ok (.ireturn, 1) := by decide +kernel
theorem dX12_ask_26 : decode cX12_ask 26 = .ok (.aload_n 0, 1) := by decide +kernel
theorem dX12_ask_27 : decode cX12_ask 27 = .ok (.iconst 0, 1) := by decide +kernel
theorem dX12_ask_28 : decode cX12_ask 28 = .ok (.putfield 334, 3) := by decide +kernel
theorem dX12_ask_31 : decode cX12_ask 31 = .ok (.aload_n 0, 1) := by decide +kernel
theorem dX12_ask_32 : decode cX12_ask 32 = .ok (.iload_n 1, 1) := by decide +kernel
theorem dX12_ask_33 : decode cX12_ask 33 = .ok (.invokevirtual 309, 3) := by decide +kernel
theorem dX12_ask_36 : decode cX12_ask 36 = .ok (.istore_n 3, 1) := by decide +kernel
theorem dX12_ask_37 : decode cX12_ask 37 = .ok (.iload_n 2, 1) := by decide +kernel
theorem dX12_ask_38 : decode cX12_ask 38 = .ok (.ifCond .ne 12, 3) := by decide +kernel
theorem dX12_ask_41 : decode cX12_ask 41 = .ok (.aload_n 0, 1) := by decide +kernel
theorem dX12_ask_42 : decode cX12_ask 42 = .ok (.iload_n 1, 1) := by decide +kernel
theorem dX12_ask_43 : decode cX12_ask 43 = .ok (.iload_n 3, 1) := by decide +kernel
theorem dX12_ask_44 : decode cX12_ask 44 = .ok (.invokevirtual 346, 3) := by decide +kernel
theorem dX12_ask_47 : decode cX12_ask 47 = .ok (.goto 9, 3) := by decide +kernel
theorem dX12_ask_50 : decode cX12_ask 50 = .ok (.aload_n 0, 1) := by decide +kernel
theorem dX12_ask_51 : decode cX12_ask 51 = .ok (.iload_n 1, 1) := by decide +kernel
theorem dX12_ask_52 : decode cX12_ask 52 = .ok (.iload_n 3, 1) := by decide +kernel
theorem dX12_ask_53 : decode cX12_ask 53 = .ok (.invokevirtual 343, 3) := by decide +kernel
theorem dX12_ask_56 : decode cX12_ask 56 = .ok (.ireturn, 1) := by decide +kernel
def bX12_ask_0 (f1 f2 f3 f4 f5 : ox_F) (rc : Nat → ox_K) : ox_K := o_al 0 (o_ic (0) (o_puti 12 0 (o_al 0 (o_il 1 (o_cv f1 12 1 (o_ifeq (rc 23) (o_il 2 (o_i2l (o_lc (0) (o_lc (1) (o_ct f2 3 (o_ifne (rc 26) (rc 23)))))))))))))
def bX12_ask_23 (f1 f2 f3 f4 f5 : ox_F) (rc : Nat → ox_K) : ox_K := o_ic (-1000001) (o_iret)
def bX12_ask_26 (f1 f2 f3 f4 f5 : ox_F) (rc : Nat → ox_K) : ox_K := o_al 0 (o_ic (0) (o_puti 12 58 (o_al 0 (o_il 1 (o_cv f3 12 1 (o_is 3 (o_il 2 (o_ifne (rc 50) (o_al 0 (o_il 1 (o_il 3 (o_cv f4 12 2 (rc 56)))))))))))))
def bX12_ask_50 (f1 f2 f3 f4 f5 : ox_F) (rc : Nat → ox_K) : ox_K := o_al 0 (o_il 1 (o_il 3 (o_cv f5 12 2 (rc 56))))
def bX12_ask_56 (f1 f2 f3 f4 f5 : ox_F) (rc : Nat → ox_K) : ox_K := o_iret
section SX12_ask
variable {p : Program} {l : Launch} {e : Env} {R : Room} {s : State} {m : MethodId} {args : Array Value} {below : List Frame} {meth : Method} {c : Code} {g : ox_G} {c0 t0 dp d1 d2 d3 d4 d5 : Nat} {rc : Nat → ox_K} {f1 f2 f3 f4 f5 : ox_F}
set_option maxRecDepth 100000 in
theorem kX12_ask_0 (C : ox_C p s m args c g 4 cX12_ask RX12) (hr : meth.sig.returnType = (some .int)) (hlk : meth.locks = false) (hnm : meth.name = "ask") (hR : R.frames = dp ∧ R.locals = 60 * dp) (h1 : ox_Sem yX12_isBar cX12_isBar 2 (some .boolean) d1 f1) (e1 : d1 + 1 ≤ dp) (h2 : ox_Sem yX12_in cX12_in 6 (some .boolean) d2 f2) (e2 : d2 + 1 ≤ dp) (h3 : ox_Sem yX12_kindOf cX12_kindOf 3 (some .int) d3 f3) (e3 : d3 + 1 ≤ dp) (h4 : ox_Sem yX12_sizeOf cX12_sizeOf 3 (some .int) d4 f4) (e4 : d4 + 1 ≤ dp) (h5 : ox_Sem yX12_markOf cX12_markOf 4 (some .int) d5 f5) (e5 : d5 + 1 ≤ dp) (hrc : ∀ b, ox_S p l e R s m args below meth c g 4 c0 t0 (ox_QM g below args s c0 t0) b (rc b)) : ox_S p l e R s m args below meth c g 4 c0 t0 (ox_QM g below args s c0 t0) 0 (bX12_ask_0 f1 f2 f3 f4 f5 rc) := by
  refine s_aload_n (pc := 0) C dX12_ask_0 rfl ?_
  refine s_iconst (pc := 1) C dX12_ask_1 (by decide) ?_
  refine s_puti (pc := 2) (j := 0) (q := (RX12, TX12, 59)) C rfl (by decide) rfl (Or.inl rfl) wF_X12_108 dX12_ask_2 ?_
  refine s_aload_n (pc := 5) C dX12_ask_5 rfl ?_
  refine s_iload_n (pc := 6) C dX12_ask_6 rfl ?_
  refine s_cv (pc := 7) (q := (RX12, TX12, 59)) C h1 rfl wM_X12_300 wI_X12_isBar wS_X12_isBar wN_X12 wC_X12_isBar (by decide +kernel) (ox_lv hR e1 (by decide)) dX12_ask_7 ?_
  refine s_ifeq (pc := 10) 23 C dX12_ask_10 (by decide) (hrc 23) ?_
  refine s_iload_n (pc := 13) C dX12_ask_13 rfl ?_
  refine s_i2l (pc := 14) C dX12_ask_14 ?_
  refine s_lconst (pc := 15) C dX12_ask_15 (by decide) ?_
  refine s_lconst (pc := 16) C dX12_ask_16 (by decide) ?_
  refine s_ct (pc := 17) C h2 wM_X12_117 wT_X12_in wN_X12 wC_X12_in (by decide +kernel) (ox_lv hR e2 (by decide)) dX12_ask_17 ?_
  refine s_ifne (pc := 20) 26 C dX12_ask_20 (by decide) (hrc 26) ?_
  exact hrc 23
set_option maxRecDepth 100000 in
theorem kX12_ask_23 (C : ox_C p s m args c g 4 cX12_ask RX12) (hr : meth.sig.returnType = (some .int)) (hlk : meth.locks = false) (hnm : meth.name = "ask") (hR : R.frames = dp ∧ R.locals = 60 * dp) (h1 : ox_Sem yX12_isBar cX12_isBar 2 (some .boolean) d1 f1) (e1 : d1 + 1 ≤ dp) (h2 : ox_Sem yX12_in cX12_in 6 (some .boolean) d2 f2) (e2 : d2 + 1 ≤ dp) (h3 : ox_Sem yX12_kindOf cX12_kindOf 3 (some .int) d3 f3) (e3 : d3 + 1 ≤ dp) (h4 : ox_Sem yX12_sizeOf cX12_sizeOf 3 (some .int) d4 f4) (e4 : d4 + 1 ≤ dp) (h5 : ox_Sem yX12_markOf cX12_markOf 4 (some .int) d5 f5) (e5 : d5 + 1 ≤ dp) (hrc : ∀ b, ox_S p l e R s m args below meth c g 4 c0 t0 (ox_QM g below args s c0 t0) b (rc b)) : ox_S p l e R s m args below meth c g 4 c0 t0 (ox_QM g below args s c0 t0) 23 (bX12_ask_23 f1 f2 f3 f4 f5 rc) := by
  refine s_ldc (pc := 23) C wK_X12_127 dX12_ask_23 ?_
  exact s_iret (pc := 25) C hr hlk dX12_ask_25
set_option maxRecDepth 100000 in
theorem kX12_ask_26 (C : ox_C p s m args c g 4 cX12_ask RX12) (hr : meth.sig.returnType = (some .int)) (hlk : meth.locks = false) (hnm : meth.name = "ask") (hR : R.frames = dp ∧ R.locals = 60 * dp) (h1 : ox_Sem yX12_isBar cX12_isBar 2 (some .boolean) d1 f1) (e1 : d1 + 1 ≤ dp) (h2 : ox_Sem yX12_in cX12_in 6 (some .boolean) d2 f2) (e2 : d2 + 1 ≤ dp) (h3 : ox_Sem yX12_kindOf cX12_kindOf 3 (some .int) d3 f3) (e3 : d3 + 1 ≤ dp) (h4 : ox_Sem yX12_sizeOf cX12_sizeOf 3 (some .int) d4 f4) (e4 : d4 + 1 ≤ dp) (h5 : ox_Sem yX12_markOf cX12_markOf 4 (some .int) d5 f5) (e5 : d5 + 1 ≤ dp) (hrc : ∀ b, ox_S p l e R s m args below meth c g 4 c0 t0 (ox_QM g below args s c0 t0) b (rc b)) : ox_S p l e R s m args below meth c g 4 c0 t0 (ox_QM g below args s c0 t0) 26 (bX12_ask_26 f1 f2 f3 f4 f5 rc) := by
  refine s_aload_n (pc := 26) C dX12_ask_26 rfl ?_
  refine s_iconst (pc := 27) C dX12_ask_27 (by decide) ?_
  refine s_puti (pc := 28) (j := 58) (q := (RX12, TX12, 59)) C rfl (by decide) rfl (Or.inl rfl) wF_X12_334 dX12_ask_28 ?_
  refine s_aload_n (pc := 31) C dX12_ask_31 rfl ?_
  refine s_iload_n (pc := 32) C dX12_ask_32 rfl ?_
  refine s_cv (pc := 33) (q := (RX12, TX12, 59)) C h3 rfl wM_X12_309 wI_X12_kindOf wS_X12_kindOf wN_X12 wC_X12_kindOf (by decide +kernel) (ox_lv hR e3 (by decide)) dX12_ask_33 ?_
  refine s_istore_n (pc := 36) C dX12_ask_36 rfl (by decide) ?_
  refine s_iload_n (pc := 37) C dX12_ask_37 rfl ?_
  refine s_ifne (pc := 38) 50 C dX12_ask_38 (by decide) (hrc 50) ?_
  refine s_aload_n (pc := 41) C dX12_ask_41 rfl ?_
  refine s_iload_n (pc := 42) C dX12_ask_42 rfl ?_
  refine s_iload_n (pc := 43) C dX12_ask_43 rfl ?_
  refine s_cv (pc := 44) (q := (RX12, TX12, 59)) C h4 rfl wM_X12_346 wI_X12_sizeOf wS_X12_sizeOf wN_X12 wC_X12_sizeOf (by decide +kernel) (ox_lv hR e4 (by decide)) dX12_ask_44 ?_
  exact s_goto (pc := 47) 56 C dX12_ask_47 (by decide) (hrc 56)
set_option maxRecDepth 100000 in
theorem kX12_ask_50 (C : ox_C p s m args c g 4 cX12_ask RX12) (hr : meth.sig.returnType = (some .int)) (hlk : meth.locks = false) (hnm : meth.name = "ask") (hR : R.frames = dp ∧ R.locals = 60 * dp) (h1 : ox_Sem yX12_isBar cX12_isBar 2 (some .boolean) d1 f1) (e1 : d1 + 1 ≤ dp) (h2 : ox_Sem yX12_in cX12_in 6 (some .boolean) d2 f2) (e2 : d2 + 1 ≤ dp) (h3 : ox_Sem yX12_kindOf cX12_kindOf 3 (some .int) d3 f3) (e3 : d3 + 1 ≤ dp) (h4 : ox_Sem yX12_sizeOf cX12_sizeOf 3 (some .int) d4 f4) (e4 : d4 + 1 ≤ dp) (h5 : ox_Sem yX12_markOf cX12_markOf 4 (some .int) d5 f5) (e5 : d5 + 1 ≤ dp) (hrc : ∀ b, ox_S p l e R s m args below meth c g 4 c0 t0 (ox_QM g below args s c0 t0) b (rc b)) : ox_S p l e R s m args below meth c g 4 c0 t0 (ox_QM g below args s c0 t0) 50 (bX12_ask_50 f1 f2 f3 f4 f5 rc) := by
  refine s_aload_n (pc := 50) C dX12_ask_50 rfl ?_
  refine s_iload_n (pc := 51) C dX12_ask_51 rfl ?_
  refine s_iload_n (pc := 52) C dX12_ask_52 rfl ?_
  refine s_cv (pc := 53) (q := (RX12, TX12, 59)) C h5 rfl wM_X12_343 wI_X12_markOf wS_X12_markOf wN_X12 wC_X12_markOf (by decide +kernel) (ox_lv hR e5 (by decide)) dX12_ask_53 ?_
  exact hrc 56
set_option maxRecDepth 100000 in
theorem kX12_ask_56 (C : ox_C p s m args c g 4 cX12_ask RX12) (hr : meth.sig.returnType = (some .int)) (hlk : meth.locks = false) (hnm : meth.name = "ask") (hR : R.frames = dp ∧ R.locals = 60 * dp) (h1 : ox_Sem yX12_isBar cX12_isBar 2 (some .boolean) d1 f1) (e1 : d1 + 1 ≤ dp) (h2 : ox_Sem yX12_in cX12_in 6 (some .boolean) d2 f2) (e2 : d2 + 1 ≤ dp) (h3 : ox_Sem yX12_kindOf cX12_kindOf 3 (some .int) d3 f3) (e3 : d3 + 1 ≤ dp) (h4 : ox_Sem yX12_sizeOf cX12_sizeOf 3 (some .int) d4 f4) (e4 : d4 + 1 ≤ dp) (h5 : ox_Sem yX12_markOf cX12_markOf 4 (some .int) d5 f5) (e5 : d5 + 1 ≤ dp) (hrc : ∀ b, ox_S p l e R s m args below meth c g 4 c0 t0 (ox_QM g below args s c0 t0) b (rc b)) : ox_S p l e R s m args below meth c g 4 c0 t0 (ox_QM g below args s c0 t0) 56 (bX12_ask_56 f1 f2 f3 f4 f5 rc) := by
  exact s_iret (pc := 56) C hr hlk dX12_ask_56
end SX12_ask
def bsX12_ask (f1 f2 f3 f4 f5 : ox_F) (b : Nat) (rc : Nat → ox_K) : ox_K := if b = 0 then bX12_ask_0 f1 f2 f3 f4 f5 rc else if b = 23 then bX12_ask_23 f1 f2 f3 f4 f5 rc else if b = 26 then bX12_ask_26 f1 f2 f3 f4 f5 rc else if b = 50 then bX12_ask_50 f1 f2 f3 f4 f5 rc else if b = 56 then bX12_ask_56 f1 f2 f3 f4 f5 rc else ox_no
theorem mX12_ask {dp d1 d2 d3 d4 d5 : Nat} {f1 f2 f3 f4 f5 f : ox_F} (h1 : ox_Sem yX12_isBar cX12_isBar 2 (some .boolean) d1 f1) (e1 : d1 + 1 ≤ dp) (h2 : ox_Sem yX12_in cX12_in 6 (some .boolean) d2 f2) (e2 : d2 + 1 ≤ dp) (h3 : ox_Sem yX12_kindOf cX12_kindOf 3 (some .int) d3 f3) (e3 : d3 + 1 ≤ dp) (h4 : ox_Sem yX12_sizeOf cX12_sizeOf 3 (some .int) d4 f4) (e4 : d4 + 1 ≤ dp) (h5 : ox_Sem yX12_markOf cX12_markOf 4 (some .int) d5 f5) (e5 : d5 + 1 ≤ dp) (hf : ∀ as h r, f as h = some r → ox_cs as ≤ 4 ∧ ox_le h r.2 ∧ ∃ n, ox_run (bsX12_ask f1 f2 f3 f4 f5) n 0 (lv_args 0 as) [] h = some r) : ox_Sem yX12_ask cX12_ask 4 (some .int) dp f := by
  refine ox_meth (bs := bsX12_ask f1 f2 f3 f4 f5) (by decide) hf ?_
  intro p l e R s m args below meth c g c0 t0 C hr hlk hnm hR rc hrc b
  unfold bsX12_ask
  refine ox_br (kX12_ask_0 C hr hlk hnm hR h1 e1 h2 e2 h3 e3 h4 e4 h5 e5 hrc) ?_
  refine ox_br (kX12_ask_23 C hr hlk hnm hR h1 e1 h2 e2 h3 e3 h4 e4 h5 e5 hrc) ?_
  refine ox_br (kX12_ask_26 C hr hlk hnm hR h1 e1 h2 e2 h3 e3 h4 e4 h5 e5 hrc) ?_
  refine ox_br (kX12_ask_50 C hr hlk hnm hR h1 e1 h2 e2 h3 e3 h4 e4 h5 e5 hrc) ?_
  refine ox_br (kX12_ask_56 C hr hlk hnm hR h1 e1 h2 e2 h3 e3 h4 e4 h5 e5 hrc) ?_
  exact s_no
theorem dX12_trace_0 : decode cX12_trace 0 = .ok (.aload_n 0, 1) := by decide +kernel
theorem dX12_trace_1 : decode cX12_trace 1 = .ok (.iconst 0, 1) := by decide +kernel
theorem dX12_trace_2 : decode cX12_trace 2 = .ok (.putfield 108, 3) := by decide +kernel
theorem dX12_trace_5 : decode cX12_trace 5 = .ok (.iload_n 1, 1) := by decide +kernel
theorem dX12_trace_6 : decode cX12_trace 6 = .ok (.i2l, 1) := by decide +kernel
theorem dX12_trace_7 : decode cX12_trace 7 = .ok (.lconst 0, 1) := by decide +kernel
theorem dX12_trace_8 : decode cX12_trace 8 = .ok (.aload_n 0, 1) := by decide +kernel
theorem dX12_trace_9 : decode cX12_trace 9 = .ok (.getfield 334, 3) := by decide +kernel
theorem dX12_trace_12 : decode cX12_trace 12 = .ok (.iconst 1, 1) := by decide +kernel
theorem dX12_trace_13 : decode cX12_trace 13 = .ok (.isub, 1) := by decide +kernel
theorem dX12_trace_14 : decode cX12_trace 14 = .ok (.i2l, 1) := by decide +kernel
theorem dX12_trace_15 : decode cX12_trace 15 = .ok (.invokestatic 117, 3) := by decide +kernel
theorem dX12_trace_18 : decode cX12_trace 18 = .ok (.ifCond .eq 12, 3) := by decide +kernel
theorem dX12_trace_21 : decode cX12_trace 21 = .ok (.aload_n 0, 1) := by decide +kernel
theorem dX12_trace_22 : decode cX12_trace 22 = .ok (.getfield 105, 3) := by decide +kernel
theorem dX12_trace_25 : decode cX12_trace 25 = .ok (.iload_n 1, 1) := by decide +kernel
theorem dX12_trace_26 : decode cX12_trace 26 = .ok (.iaload, 1) := by decide +kernel
theorem dX12_trace_27 : decode cX12_trace 27 = .ok (.goto 5, 3) := by decide +kernel
theorem dX12_trace_30 : decode cX12_trace 30 = .ok (.ldc 143, 2) := by decide +kernel
theorem dX12_trace_32 : decode cX12_trace 32 = .ok (.ireturn, 1) := by decide +kernel
def bX12_trace_0 (f1 : ox_F) (rc : Nat → ox_K) : ox_K := o_al 0 (o_ic (0) (o_puti 12 0 (o_il 1 (o_i2l (o_lc (0) (o_al 0 (o_geti 12 58 (o_ic (1) (o_isub (o_i2l (o_ct f1 3 (o_ifeq (rc 30) (o_al 0 (o_getr 12 57 (o_il 1 (o_ia (rc 32)))))))))))))))))
def bX12_trace_30 (f1 : ox_F) (rc : Nat → ox_K) : ox_K := o_ic (-1000000) (rc 32)
def bX12_trace_32 (f1 : ox_F) (rc : Nat → ox_K) : ox_K := o_iret
section SX12_trace
variable {p : Program} {l : Launch} {e : Env} {R : Room} {s : State} {m : MethodId} {args : Array Value} {below : List Frame} {meth : Method} {c : Code} {g : ox_G} {c0 t0 dp d1 : Nat} {rc : Nat → ox_K} {f1 : ox_F}
set_option maxRecDepth 100000 in
theorem kX12_trace_0 (C : ox_C p s m args c g 2 cX12_trace RX12) (hr : meth.sig.returnType = (some .int)) (hlk : meth.locks = false) (hnm : meth.name = "trace") (hR : R.frames = dp ∧ R.locals = 60 * dp) (h1 : ox_Sem yX12_in cX12_in 6 (some .boolean) d1 f1) (e1 : d1 + 1 ≤ dp) (hrc : ∀ b, ox_S p l e R s m args below meth c g 2 c0 t0 (ox_QM g below args s c0 t0) b (rc b)) : ox_S p l e R s m args below meth c g 2 c0 t0 (ox_QM g below args s c0 t0) 0 (bX12_trace_0 f1 rc) := by
  refine s_aload_n (pc := 0) C dX12_trace_0 rfl ?_
  refine s_iconst (pc := 1) C dX12_trace_1 (by decide) ?_
  refine s_puti (pc := 2) (j := 0) (q := (RX12, TX12, 59)) C rfl (by decide) rfl (Or.inl rfl) wF_X12_108 dX12_trace_2 ?_
  refine s_iload_n (pc := 5) C dX12_trace_5 rfl ?_
  refine s_i2l (pc := 6) C dX12_trace_6 ?_
  refine s_lconst (pc := 7) C dX12_trace_7 (by decide) ?_
  refine s_aload_n (pc := 8) C dX12_trace_8 rfl ?_
  refine s_geti (pc := 9) (j := 58) (q := (RX12, TX12, 59)) C rfl (by decide) rfl wF_X12_334 dX12_trace_9 ?_
  refine s_iconst (pc := 12) C dX12_trace_12 (by decide) ?_
  refine s_isub (pc := 13) C dX12_trace_13 ?_
  refine s_i2l (pc := 14) C dX12_trace_14 ?_
  refine s_ct (pc := 15) C h1 wM_X12_117 wT_X12_in wN_X12 wC_X12_in (by decide +kernel) (ox_lv hR e1 (by decide)) dX12_trace_15 ?_
  refine s_ifeq (pc := 18) 30 C dX12_trace_18 (by decide) (hrc 30) ?_
  refine s_aload_n (pc := 21) C dX12_trace_21 rfl ?_
  refine s_getr (pc := 22) (j := 57) (q := (RX12, TX12, 59)) C rfl (by decide) rfl wF_X12_105 dX12_trace_22 ?_
  refine s_iload_n (pc := 25) C dX12_trace_25 rfl ?_
  refine s_ia (pc := 26) C dX12_trace_26 ?_
  exact s_goto (pc := 27) 32 C dX12_trace_27 (by decide) (hrc 32)
set_option maxRecDepth 100000 in
theorem kX12_trace_30 (C : ox_C p s m args c g 2 cX12_trace RX12) (hr : meth.sig.returnType = (some .int)) (hlk : meth.locks = false) (hnm : meth.name = "trace") (hR : R.frames = dp ∧ R.locals = 60 * dp) (h1 : ox_Sem yX12_in cX12_in 6 (some .boolean) d1 f1) (e1 : d1 + 1 ≤ dp) (hrc : ∀ b, ox_S p l e R s m args below meth c g 2 c0 t0 (ox_QM g below args s c0 t0) b (rc b)) : ox_S p l e R s m args below meth c g 2 c0 t0 (ox_QM g below args s c0 t0) 30 (bX12_trace_30 f1 rc) := by
  refine s_ldc (pc := 30) C wK_X12_143 dX12_trace_30 ?_
  exact hrc 32
set_option maxRecDepth 100000 in
theorem kX12_trace_32 (C : ox_C p s m args c g 2 cX12_trace RX12) (hr : meth.sig.returnType = (some .int)) (hlk : meth.locks = false) (hnm : meth.name = "trace") (hR : R.frames = dp ∧ R.locals = 60 * dp) (h1 : ox_Sem yX12_in cX12_in 6 (some .boolean) d1 f1) (e1 : d1 + 1 ≤ dp) (hrc : ∀ b, ox_S p l e R s m args below meth c g 2 c0 t0 (ox_QM g below args s c0 t0) b (rc b)) : ox_S p l e R s m args below meth c g 2 c0 t0 (ox_QM g below args s c0 t0) 32 (bX12_trace_32 f1 rc) := by
  exact s_iret (pc := 32) C hr hlk dX12_trace_32
end SX12_trace
def bsX12_trace (f1 : ox_F) (b : Nat) (rc : Nat → ox_K) : ox_K := if b = 0 then bX12_trace_0 f1 rc else if b = 30 then bX12_trace_30 f1 rc else if b = 32 then bX12_trace_32 f1 rc else ox_no
theorem mX12_trace {dp d1 : Nat} {f1 f : ox_F} (h1 : ox_Sem yX12_in cX12_in 6 (some .boolean) d1 f1) (e1 : d1 + 1 ≤ dp) (hf : ∀ as h r, f as h = some r → ox_cs as ≤ 2 ∧ ox_le h r.2 ∧ ∃ n, ox_run (bsX12_trace f1) n 0 (lv_args 0 as) [] h = some r) : ox_Sem yX12_trace cX12_trace 2 (some .int) dp f := by
  refine ox_meth (bs := bsX12_trace f1) (by decide) hf ?_
  intro p l e R s m args below meth c g c0 t0 C hr hlk hnm hR rc hrc b
  unfold bsX12_trace
  refine ox_br (kX12_trace_0 C hr hlk hnm hR h1 e1 hrc) ?_
  refine ox_br (kX12_trace_30 C hr hlk hnm hR h1 e1 hrc) ?_
  refine ox_br (kX12_trace_32 C hr hlk hnm hR h1 e1 hrc) ?_
  exact s_no
theorem dX12_count_0 : decode cX12_count 0 = .ok (.aload_n 0, 1) := by decide +kernel
theorem dX12_count_1 : decode cX12_count 1 = .ok (.iconst 0, 1) := by decide +kernel
theorem dX12_count_2 : decode cX12_count 2 = .ok (.putfield 108, 3) := by decide +kernel
theorem dX12_count_5 : decode cX12_count 5 = .ok (.iconst 0, 1) := by decide +kernel
theorem dX12_count_6 : decode cX12_count 6 = .ok (.istore_n 2, 1) := by decide +kernel
theorem dX12_count_7 : decode cX12_count 7 = .ok (.iload_n 1, 1) := by decide +kernel
theorem dX12_count_8 : decode cX12_count 8 = .ok (.tableswitch 176 0 7 #[48, 81, 86, 91, 96, 101, 136, 171], 48) := by decide +kernel
theorem dX12_count_56 : decode cX12_count 56 = .ok (.iconst 0, 1) := by decide +kernel
theorem dX12_count_57 : decode cX12_count 57 = .ok (.istore_n 3, 1) := by decide +kernel
theorem dX12_count_58 : decode cX12_count 58 = .ok (.iload_n 3, 1) := by decide +kernel
theorem dX12_count_59 : decode cX12_count 59 = .ok (.bipush 8, 2) := by decide +kernel
theorem dX12_count_61 : decode cX12_count 61 = .ok (.if_icmp .ge 26, 3) := by decide +kernel
theorem dX12_count_64 : decode cX12_count 64 = .ok (.iload_n 2, 1) := by decide +kernel
theorem dX12_count_65 : decode cX12_count 65 = .ok (.aload_n 0, 1) := by decide +kernel
theorem dX12_count_66 : decode cX12_count 66 = .ok (.getfield 7, 3) := by decide +kernel
theorem dX12_count_69 : decode cX12_count 69 = .ok (.iload_n 3, 1) := by decide +kernel
theorem dX12_count_70 : decode cX12_count 70 = .ok (.iaload, 1) := by decide +kernel
theorem dX12_count_71 : decode cX12_count 71 = .ok (.ifCond .lt 7, 3) := by decide +kernel
theorem dX12_count_74 : decode cX12_count 74 = .ok (.iconst 1, 1) := by decide +kernel
theorem dX12_count_75 : decode cX12_count 75 = .ok (.goto 4, 3) := by decide +kernel
theorem dX12_count_78 : decode cX12_count 78 = .ok (.iconst 0, 1) := by decide +kernel
theorem dX12_count_79 : decode cX12_count 79 = .ok (.iadd, 1) := by decide +kernel
theorem dX12_count_80 : decode cX12_count 80 = .ok (.istore_n 2, 1) := by decide +kernel
theorem dX12_count_81 : decode cX12_count 81 = .ok (.iinc 3 1, 3) := by decide +kernel
theorem dX12_count_84 : decode cX12_count 84 = .ok (.goto (-26), 3) := by decide +kernel
theorem dX12_count_87 : decode cX12_count 87 = .ok (.iload_n 2, 1) := by decide +kernel
theorem dX12_count_88 : decode cX12_count 88 = .ok (.ireturn, 1) := by decide +kernel
theorem dX12_count_89 : decode cX12_count 89 = .ok (.aload_n 0, 1) := by decide +kernel
theorem dX12_count_90 : decode cX12_count 90 = .ok (.getfield 199, 3) := by decide +kernel
theorem dX12_count_93 : decode cX12_count 93 = .ok (.ireturn, 1) := by decide +kernel
theorem dX12_count_94 : decode cX12_count 94 = .ok (.aload_n 0, 1) := by decide +kernel
theorem dX12_count_95 : decode cX12_count 95 = .ok (.getfield 283, 3) := by decide +kernel
theorem dX12_count_98 : decode cX12_count 98 = .ok (.ireturn, 1) := by decide +kernel
theorem dX12_count_99 : decode cX12_count 99 = .ok (.aload_n 0, 1) := by decide +kernel
theorem dX12_count_100 : decode cX12_count 100 = .ok (.getfield 278, 3) := by decide +kernel
theorem dX12_count_103 : decode cX12_count 103 = .ok (.ireturn, 1) := by decide +kernel
theorem dX12_count_104 : decode cX12_count 104 = .ok (.aload_n 0, 1) := by decide +kernel
theorem dX12_count_105 : decode cX12_count 105 = .ok (.getfield 275, 3) := by decide +kernel
theorem dX12_count_108 : decode cX12_count 108 = .ok (.ireturn, 1) := by decide +kernel
theorem dX12_count_109 : decode cX12_count 109 = .ok (.iconst 0, 1) := by decide +kernel
theorem dX12_count_110 : decode cX12_count 110 = .ok (.istore_n 3, 1) := by decide +kernel
theorem dX12_count_111 : decode cX12_count 111 = .ok (.iload_n 3, 1) := by decide +kernel
theorem dX12_count_112 : decode cX12_count 112 = .ok (.aload_n 0, 1) := by decide +kernel
theorem dX12_count_113 : decode cX12_count 113 = .ok (.getfield 58, 3) := by decide +kernel
theorem dX12_count_116 : decode cX12_count 116 = .ok (.if_icmp .ge 26, 3) := by decide +kernel
theorem dX12_count_119 : decode cX12_count 119 = .ok (.iload_n 2, 1) := by decide +kernel
theorem dX12_count_120 : decode cX12_count 120 = .ok (.aload_n 0, 1) := by decide +kernel
theorem dX12_count_121 : decode cX12_count 121 = .ok (.getfield 62, 3) := by decide +kernel
theorem dX12_count_124 : decode cX12_count 124 = .ok (.iload_n 3, 1) := by decide +kernel
theorem dX12_count_125 : decode cX12_count 125 = .ok (.iaload, 1) := by decide +kernel
theorem dX12_count_126 : decode cX12_count 126 = .ok (.ifCond .le 7, 3) := by decide +kernel
theorem dX12_count_129 : decode cX12_count 129 = .ok (.iconst 1, 1) := by decide +kernel
theorem dX12_count_130 : decode cX12_count 130 = .ok (.goto 4, 3) := by decide +kernel
theorem dX12_count_133 : decode cX12_count 133 = .ok (.iconst 0, 1) := by decide +kernel
theorem dX12_count_134 : decode cX12_count 134 = .ok (.iadd, 1) := by decide +kernel
theorem dX12_count_135 : decode cX12_count 135 = .ok (.istore_n 2, 1) := by decide +kernel
theorem dX12_count_136 : decode cX12_count 136 = .ok (.iinc 3 1, 3) := by decide +kernel
theorem dX12_count_139 : decode cX12_count 139 = .ok (.goto (-28), 3) := by decide +kernel
theorem dX12_count_142 : decode cX12_count 142 = .ok (.iload_n 2, 1) := by decide +kernel
theorem dX12_count_143 : decode cX12_count 143 = .ok (.ireturn, 1) := by decide +kernel
theorem dX12_count_144 : decode cX12_count 144 = .ok (.iconst 0, 1) := by decide +kernel
theorem dX12_count_145 : decode cX12_count 145 = .ok (.istore_n 3, 1) := by decide +kernel
theorem dX12_count_146 : decode cX12_count 146 = .ok (.iload_n 3, 1) := by decide +kernel
theorem dX12_count_147 : decode cX12_count 147 = .ok (.aload_n 0, 1) := by decide +kernel
theorem dX12_count_148 : decode cX12_count 148 = .ok (.getfield 291, 3) := by decide +kernel
theorem dX12_count_151 : decode cX12_count 151 = .ok (.if_icmp .ge 26, 3) := by decide +kernel
theorem dX12_count_154 : decode cX12_count 154 = .ok (.iload_n 2, 1) := by decide +kernel
theorem dX12_count_155 : decode cX12_count 155 = .ok (.aload_n 0, 1) := by decide +kernel
theorem dX12_count_156 : decode cX12_count 156 = .ok (.iload_n 3, 1) := by decide +kernel
theorem dX12_count_157 : decode cX12_count 157 = .ok (.invokevirtual 309, 3) := by decide +kernel
theorem dX12_count_160 : decode cX12_count 160 = .ok (.iconst 4, 1) := by decide +kernel
theorem dX12_count_161 : decode cX12_count 161 = .ok (.if_icmp .ne 7, 3) := by decide +kernel
theorem dX12_count_164 : decode cX12_count 164 = .ok (.iconst 1, 1) := by decide +kernel
theorem dX12_count_165 : decode cX12_count 165 = .ok (.goto 4, 3) := by decide +kernel
theorem dX12_count_168 : decode cX12_count 168 = .ok (.iconst 0, 1) := by decide +kernel
theorem dX12_count_169 : decode cX12_count 169 = .ok (.iadd, 1) := by decide +kernel
theorem dX12_count_170 : decode cX12_count 170 = .ok (.istore_n 2, 1) := by decide +kernel
theorem dX12_count_171 : decode cX12_count 171 = .ok (.iinc 3 1, 3) := by decide +kernel
theorem dX12_count_174 : decode cX12_count 174 = .ok (.goto (-28), 3) := by decide +kernel
theorem dX12_count_177 : decode cX12_count 177 = .ok (.iload_n 2, 1) := by decide +kernel
theorem dX12_count_178 : decode cX12_count 178 = .ok (.ireturn, 1) := by decide +kernel
theorem dX12_count_179 : decode cX12_count 179 = .ok (.aload_n 0, 1) := by decide +kernel
theorem dX12_count_180 : decode cX12_count 180 = .ok (.getfield 134, 3) := by decide +kernel
theorem dX12_count_183 : decode cX12_count 183 = .ok (.ireturn, 1) := by decide +kernel
theorem dX12_count_184 : decode cX12_count 184 = .ok (.ldc 127, 2) := by decide +kernel
theorem dX12_count_186 : decode cX12_count 186 = .ok (.ireturn, 1) := by decide +kernel
def bX12_count_0 (f1 : ox_F) (rc : Nat → ox_K) : ox_K := o_al 0 (o_ic (0) (o_puti 12 0 (o_ic (0) (o_is 2 (o_il 1 (o_tsw 0 [rc 56, rc 89, rc 94, rc 99, rc 104, rc 109, rc 144, rc 179] (rc 184)))))))
def bX12_count_56 (f1 : ox_F) (rc : Nat → ox_K) : ox_K := o_ic (0) (o_is 3 (rc 58))
def bX12_count_58 (f1 : ox_F) (rc : Nat → ox_K) : ox_K := o_keep [0, 2, 3] (o_il 3 (o_ic (8) (o_icge (rc 87) (o_il 2 (o_al 0 (o_getr 12 2 (o_il 3 (o_ia (o_iflt (rc 78) (o_ic (1) (rc 79)))))))))))
def bX12_count_78 (f1 : ox_F) (rc : Nat → ox_K) : ox_K := o_ic (0) (rc 79)
def bX12_count_79 (f1 : ox_F) (rc : Nat → ox_K) : ox_K := o_iadd (o_is 2 (o_inc 3 (1) (rc 58)))
def bX12_count_87 (f1 : ox_F) (rc : Nat → ox_K) : ox_K := o_il 2 (o_iret)
def bX12_count_89 (f1 : ox_F) (rc : Nat → ox_K) : ox_K := o_al 0 (o_geti 12 5 (o_iret))
def bX12_count_94 (f1 : ox_F) (rc : Nat → ox_K) : ox_K := o_al 0 (o_geti 12 47 (o_iret))
def bX12_count_99 (f1 : ox_F) (rc : Nat → ox_K) : ox_K := o_al 0 (o_geti 12 45 (o_iret))
def bX12_count_104 (f1 : ox_F) (rc : Nat → ox_K) : ox_K := o_al 0 (o_geti 12 46 (o_iret))
def bX12_count_109 (f1 : ox_F) (rc : Nat → ox_K) : ox_K := o_ic (0) (o_is 3 (rc 111))
def bX12_count_111 (f1 : ox_F) (rc : Nat → ox_K) : ox_K := o_keep [0, 2, 3] (o_il 3 (o_al 0 (o_geti 12 33 (o_icge (rc 142) (o_il 2 (o_al 0 (o_getr 12 35 (o_il 3 (o_ia (o_ifle (rc 133) (o_ic (1) (rc 134))))))))))))
def bX12_count_133 (f1 : ox_F) (rc : Nat → ox_K) : ox_K := o_ic (0) (rc 134)
def bX12_count_134 (f1 : ox_F) (rc : Nat → ox_K) : ox_K := o_iadd (o_is 2 (o_inc 3 (1) (rc 111)))
def bX12_count_142 (f1 : ox_F) (rc : Nat → ox_K) : ox_K := o_il 2 (o_iret)
def bX12_count_144 (f1 : ox_F) (rc : Nat → ox_K) : ox_K := o_ic (0) (o_is 3 (rc 146))
def bX12_count_146 (f1 : ox_F) (rc : Nat → ox_K) : ox_K := o_keep [0, 2, 3] (o_il 3 (o_al 0 (o_geti 12 48 (o_icge (rc 177) (o_il 2 (o_al 0 (o_il 3 (o_cv f1 12 1 (o_ic (4) (o_icne (rc 168) (o_ic (1) (rc 169))))))))))))
def bX12_count_168 (f1 : ox_F) (rc : Nat → ox_K) : ox_K := o_ic (0) (rc 169)
def bX12_count_169 (f1 : ox_F) (rc : Nat → ox_K) : ox_K := o_iadd (o_is 2 (o_inc 3 (1) (rc 146)))
def bX12_count_177 (f1 : ox_F) (rc : Nat → ox_K) : ox_K := o_il 2 (o_iret)
def bX12_count_179 (f1 : ox_F) (rc : Nat → ox_K) : ox_K := o_al 0 (o_geti 12 14 (o_iret))
def bX12_count_184 (f1 : ox_F) (rc : Nat → ox_K) : ox_K := o_ic (-1000001) (o_iret)
section SX12_count
variable {p : Program} {l : Launch} {e : Env} {R : Room} {s : State} {m : MethodId} {args : Array Value} {below : List Frame} {meth : Method} {c : Code} {g : ox_G} {c0 t0 dp d1 : Nat} {rc : Nat → ox_K} {f1 : ox_F}
set_option maxRecDepth 100000 in
theorem kX12_count_0 (C : ox_C p s m args c g 4 cX12_count RX12) (hr : meth.sig.returnType = (some .int)) (hlk : meth.locks = false) (hnm : meth.name = "count") (hR : R.frames = dp ∧ R.locals = 60 * dp) (h1 : ox_Sem yX12_kindOf cX12_kindOf 3 (some .int) d1 f1) (e1 : d1 + 1 ≤ dp) (hrc : ∀ b, ox_S p l e R s m args below meth c g 4 c0 t0 (ox_QM g below args s c0 t0) b (rc b)) : ox_S p l e R s m args below meth c g 4 c0 t0 (ox_QM g below args s c0 t0) 0 (bX12_count_0 f1 rc) := by
  refine s_aload_n (pc := 0) C dX12_count_0 rfl ?_
  refine s_iconst (pc := 1) C dX12_count_1 (by decide) ?_
  refine s_puti (pc := 2) (j := 0) (q := (RX12, TX12, 59)) C rfl (by decide) rfl (Or.inl rfl) wF_X12_108 dX12_count_2 ?_
  refine s_iconst (pc := 5) C dX12_count_5 (by decide) ?_
  refine s_istore_n (pc := 6) C dX12_count_6 rfl (by decide) ?_
  refine s_iload_n (pc := 7) C dX12_count_7 rfl ?_
  exact s_tsw (pc := 8) 184 [56, 89, 94, 99, 104, 109, 144, 179] C dX12_count_8 (by decide) rfl (by decide +kernel) (hrc 184) (ox_ts hrc [56, 89, 94, 99, 104, 109, 144, 179]) rfl
set_option maxRecDepth 100000 in
theorem kX12_count_56 (C : ox_C p s m args c g 4 cX12_count RX12) (hr : meth.sig.returnType = (some .int)) (hlk : meth.locks = false) (hnm : meth.name = "count") (hR : R.frames = dp ∧ R.locals = 60 * dp) (h1 : ox_Sem yX12_kindOf cX12_kindOf 3 (some .int) d1 f1) (e1 : d1 + 1 ≤ dp) (hrc : ∀ b, ox_S p l e R s m args below meth c g 4 c0 t0 (ox_QM g below args s c0 t0) b (rc b)) : ox_S p l e R s m args below meth c g 4 c0 t0 (ox_QM g below args s c0 t0) 56 (bX12_count_56 f1 rc) := by
  refine s_iconst (pc := 56) C dX12_count_56 (by decide) ?_
  refine s_istore_n (pc := 57) C dX12_count_57 rfl (by decide) ?_
  exact hrc 58
set_option maxRecDepth 100000 in
theorem kX12_count_58 (C : ox_C p s m args c g 4 cX12_count RX12) (hr : meth.sig.returnType = (some .int)) (hlk : meth.locks = false) (hnm : meth.name = "count") (hR : R.frames = dp ∧ R.locals = 60 * dp) (h1 : ox_Sem yX12_kindOf cX12_kindOf 3 (some .int) d1 f1) (e1 : d1 + 1 ≤ dp) (hrc : ∀ b, ox_S p l e R s m args below meth c g 4 c0 t0 (ox_QM g below args s c0 t0) b (rc b)) : ox_S p l e R s m args below meth c g 4 c0 t0 (ox_QM g below args s c0 t0) 58 (bX12_count_58 f1 rc) := by
  refine s_keep ?_
  refine s_iload_n (pc := 58) C dX12_count_58 rfl ?_
  refine s_bipush (pc := 59) C dX12_count_59 (by decide) ?_
  refine s_icmpge (pc := 61) 87 C dX12_count_61 (by decide) (hrc 87) ?_
  refine s_iload_n (pc := 64) C dX12_count_64 rfl ?_
  refine s_aload_n (pc := 65) C dX12_count_65 rfl ?_
  refine s_getr (pc := 66) (j := 2) (q := (RX12, TX12, 59)) C rfl (by decide) rfl wF_X12_7 dX12_count_66 ?_
  refine s_iload_n (pc := 69) C dX12_count_69 rfl ?_
  refine s_ia (pc := 70) C dX12_count_70 ?_
  refine s_iflt (pc := 71) 78 C dX12_count_71 (by decide) (hrc 78) ?_
  refine s_iconst (pc := 74) C dX12_count_74 (by decide) ?_
  exact s_goto (pc := 75) 79 C dX12_count_75 (by decide) (hrc 79)
set_option maxRecDepth 100000 in
theorem kX12_count_78 (C : ox_C p s m args c g 4 cX12_count RX12) (hr : meth.sig.returnType = (some .int)) (hlk : meth.locks = false) (hnm : meth.name = "count") (hR : R.frames = dp ∧ R.locals = 60 * dp) (h1 : ox_Sem yX12_kindOf cX12_kindOf 3 (some .int) d1 f1) (e1 : d1 + 1 ≤ dp) (hrc : ∀ b, ox_S p l e R s m args below meth c g 4 c0 t0 (ox_QM g below args s c0 t0) b (rc b)) : ox_S p l e R s m args below meth c g 4 c0 t0 (ox_QM g below args s c0 t0) 78 (bX12_count_78 f1 rc) := by
  refine s_iconst (pc := 78) C dX12_count_78 (by decide) ?_
  exact hrc 79
set_option maxRecDepth 100000 in
theorem kX12_count_79 (C : ox_C p s m args c g 4 cX12_count RX12) (hr : meth.sig.returnType = (some .int)) (hlk : meth.locks = false) (hnm : meth.name = "count") (hR : R.frames = dp ∧ R.locals = 60 * dp) (h1 : ox_Sem yX12_kindOf cX12_kindOf 3 (some .int) d1 f1) (e1 : d1 + 1 ≤ dp) (hrc : ∀ b, ox_S p l e R s m args below meth c g 4 c0 t0 (ox_QM g below args s c0 t0) b (rc b)) : ox_S p l e R s m args below meth c g 4 c0 t0 (ox_QM g below args s c0 t0) 79 (bX12_count_79 f1 rc) := by
  refine s_iadd (pc := 79) C dX12_count_79 ?_
  refine s_istore_n (pc := 80) C dX12_count_80 rfl (by decide) ?_
  refine s_iinc (pc := 81) C dX12_count_81 (by decide) (by decide) ?_
  exact s_goto (pc := 84) 58 C dX12_count_84 (by decide) (hrc 58)
set_option maxRecDepth 100000 in
theorem kX12_count_87 (C : ox_C p s m args c g 4 cX12_count RX12) (hr : meth.sig.returnType = (some .int)) (hlk : meth.locks = false) (hnm : meth.name = "count") (hR : R.frames = dp ∧ R.locals = 60 * dp) (h1 : ox_Sem yX12_kindOf cX12_kindOf 3 (some .int) d1 f1) (e1 : d1 + 1 ≤ dp) (hrc : ∀ b, ox_S p l e R s m args below meth c g 4 c0 t0 (ox_QM g below args s c0 t0) b (rc b)) : ox_S p l e R s m args below meth c g 4 c0 t0 (ox_QM g below args s c0 t0) 87 (bX12_count_87 f1 rc) := by
  refine s_iload_n (pc := 87) C dX12_count_87 rfl ?_
  exact s_iret (pc := 88) C hr hlk dX12_count_88
set_option maxRecDepth 100000 in
theorem kX12_count_89 (C : ox_C p s m args c g 4 cX12_count RX12) (hr : meth.sig.returnType = (some .int)) (hlk : meth.locks = false) (hnm : meth.name = "count") (hR : R.frames = dp ∧ R.locals = 60 * dp) (h1 : ox_Sem yX12_kindOf cX12_kindOf 3 (some .int) d1 f1) (e1 : d1 + 1 ≤ dp) (hrc : ∀ b, ox_S p l e R s m args below meth c g 4 c0 t0 (ox_QM g below args s c0 t0) b (rc b)) : ox_S p l e R s m args below meth c g 4 c0 t0 (ox_QM g below args s c0 t0) 89 (bX12_count_89 f1 rc) := by
  refine s_aload_n (pc := 89) C dX12_count_89 rfl ?_
  refine s_geti (pc := 90) (j := 5) (q := (RX12, TX12, 59)) C rfl (by decide) rfl wF_X12_199 dX12_count_90 ?_
  exact s_iret (pc := 93) C hr hlk dX12_count_93
set_option maxRecDepth 100000 in
theorem kX12_count_94 (C : ox_C p s m args c g 4 cX12_count RX12) (hr : meth.sig.returnType = (some .int)) (hlk : meth.locks = false) (hnm : meth.name = "count") (hR : R.frames = dp ∧ R.locals = 60 * dp) (h1 : ox_Sem yX12_kindOf cX12_kindOf 3 (some .int) d1 f1) (e1 : d1 + 1 ≤ dp) (hrc : ∀ b, ox_S p l e R s m args below meth c g 4 c0 t0 (ox_QM g below args s c0 t0) b (rc b)) : ox_S p l e R s m args below meth c g 4 c0 t0 (ox_QM g below args s c0 t0) 94 (bX12_count_94 f1 rc) := by
  refine s_aload_n (pc := 94) C dX12_count_94 rfl ?_
  refine s_geti (pc := 95) (j := 47) (q := (RX12, TX12, 59)) C rfl (by decide) rfl wF_X12_283 dX12_count_95 ?_
  exact s_iret (pc := 98) C hr hlk dX12_count_98
set_option maxRecDepth 100000 in
theorem kX12_count_99 (C : ox_C p s m args c g 4 cX12_count RX12) (hr : meth.sig.returnType = (some .int)) (hlk : meth.locks = false) (hnm : meth.name = "count") (hR : R.frames = dp ∧ R.locals = 60 * dp) (h1 : ox_Sem yX12_kindOf cX12_kindOf 3 (some .int) d1 f1) (e1 : d1 + 1 ≤ dp) (hrc : ∀ b, ox_S p l e R s m args below meth c g 4 c0 t0 (ox_QM g below args s c0 t0) b (rc b)) : ox_S p l e R s m args below meth c g 4 c0 t0 (ox_QM g below args s c0 t0) 99 (bX12_count_99 f1 rc) := by
  refine s_aload_n (pc := 99) C dX12_count_99 rfl ?_
  refine s_geti (pc := 100) (j := 45) (q := (RX12, TX12, 59)) C rfl (by decide) rfl wF_X12_278 dX12_count_100 ?_
  exact s_iret (pc := 103) C hr hlk dX12_count_103
set_option maxRecDepth 100000 in
theorem kX12_count_104 (C : ox_C p s m args c g 4 cX12_count RX12) (hr : meth.sig.returnType = (some .int)) (hlk : meth.locks = false) (hnm : meth.name = "count") (hR : R.frames = dp ∧ R.locals = 60 * dp) (h1 : ox_Sem yX12_kindOf cX12_kindOf 3 (some .int) d1 f1) (e1 : d1 + 1 ≤ dp) (hrc : ∀ b, ox_S p l e R s m args below meth c g 4 c0 t0 (ox_QM g below args s c0 t0) b (rc b)) : ox_S p l e R s m args below meth c g 4 c0 t0 (ox_QM g below args s c0 t0) 104 (bX12_count_104 f1 rc) := by
  refine s_aload_n (pc := 104) C dX12_count_104 rfl ?_
  refine s_geti (pc := 105) (j := 46) (q := (RX12, TX12, 59)) C rfl (by decide) rfl wF_X12_275 dX12_count_105 ?_
  exact s_iret (pc := 108) C hr hlk dX12_count_108
set_option maxRecDepth 100000 in
theorem kX12_count_109 (C : ox_C p s m args c g 4 cX12_count RX12) (hr : meth.sig.returnType = (some .int)) (hlk : meth.locks = false) (hnm : meth.name = "count") (hR : R.frames = dp ∧ R.locals = 60 * dp) (h1 : ox_Sem yX12_kindOf cX12_kindOf 3 (some .int) d1 f1) (e1 : d1 + 1 ≤ dp) (hrc : ∀ b, ox_S p l e R s m args below meth c g 4 c0 t0 (ox_QM g below args s c0 t0) b (rc b)) : ox_S p l e R s m args below meth c g 4 c0 t0 (ox_QM g below args s c0 t0) 109 (bX12_count_109 f1 rc) := by
  refine s_iconst (pc := 109) C dX12_count_109 (by decide) ?_
  refine s_istore_n (pc := 110) C dX12_count_110 rfl (by decide) ?_
  exact hrc 111
set_option maxRecDepth 100000 in
theorem kX12_count_111 (C : ox_C p s m args c g 4 cX12_count RX12) (hr : meth.sig.returnType = (some .int)) (hlk : meth.locks = false) (hnm : meth.name = "count") (hR : R.frames = dp ∧ R.locals = 60 * dp) (h1 : ox_Sem yX12_kindOf cX12_kindOf 3 (some .int) d1 f1) (e1 : d1 + 1 ≤ dp) (hrc : ∀ b, ox_S p l e R s m args below meth c g 4 c0 t0 (ox_QM g below args s c0 t0) b (rc b)) : ox_S p l e R s m args below meth c g 4 c0 t0 (ox_QM g below args s c0 t0) 111 (bX12_count_111 f1 rc) := by
  refine s_keep ?_
  refine s_iload_n (pc := 111) C dX12_count_111 rfl ?_
  refine s_aload_n (pc := 112) C dX12_count_112 rfl ?_
  refine s_geti (pc := 113) (j := 33) (q := (RX12, TX12, 59)) C rfl (by decide) rfl wF_X12_58 dX12_count_113 ?_
  refine s_icmpge (pc := 116) 142 C dX12_count_116 (by decide) (hrc 142) ?_
  refine s_iload_n (pc := 119) C dX12_count_119 rfl ?_
  refine s_aload_n (pc := 120) C dX12_count_120 rfl ?_
  refine s_getr (pc := 121) (j := 35) (q := (RX12, TX12, 59)) C rfl (by decide) rfl wF_X12_62 dX12_count_121 ?_
  refine s_iload_n (pc := 124) C dX12_count_124 rfl ?_
  refine s_ia (pc := 125) C dX12_count_125 ?_
  refine s_ifle (pc := 126) 133 C dX12_count_126 (by decide) (hrc 133) ?_
  refine s_iconst (pc := 129) C dX12_count_129 (by decide) ?_
  exact s_goto (pc := 130) 134 C dX12_count_130 (by decide) (hrc 134)
set_option maxRecDepth 100000 in
theorem kX12_count_133 (C : ox_C p s m args c g 4 cX12_count RX12) (hr : meth.sig.returnType = (some .int)) (hlk : meth.locks = false) (hnm : meth.name = "count") (hR : R.frames = dp ∧ R.locals = 60 * dp) (h1 : ox_Sem yX12_kindOf cX12_kindOf 3 (some .int) d1 f1) (e1 : d1 + 1 ≤ dp) (hrc : ∀ b, ox_S p l e R s m args below meth c g 4 c0 t0 (ox_QM g below args s c0 t0) b (rc b)) : ox_S p l e R s m args below meth c g 4 c0 t0 (ox_QM g below args s c0 t0) 133 (bX12_count_133 f1 rc) := by
  refine s_iconst (pc := 133) C dX12_count_133 (by decide) ?_
  exact hrc 134
set_option maxRecDepth 100000 in
theorem kX12_count_134 (C : ox_C p s m args c g 4 cX12_count RX12) (hr : meth.sig.returnType = (some .int)) (hlk : meth.locks = false) (hnm : meth.name = "count") (hR : R.frames = dp ∧ R.locals = 60 * dp) (h1 : ox_Sem yX12_kindOf cX12_kindOf 3 (some .int) d1 f1) (e1 : d1 + 1 ≤ dp) (hrc : ∀ b, ox_S p l e R s m args below meth c g 4 c0 t0 (ox_QM g below args s c0 t0) b (rc b)) : ox_S p l e R s m args below meth c g 4 c0 t0 (ox_QM g below args s c0 t0) 134 (bX12_count_134 f1 rc) := by
  refine s_iadd (pc := 134) C dX12_count_134 ?_
  refine s_istore_n (pc := 135) C dX12_count_135 rfl (by decide) ?_
  refine s_iinc (pc := 136) C dX12_count_136 (by decide) (by decide) ?_
  exact s_goto (pc := 139) 111 C dX12_count_139 (by decide) (hrc 111)
set_option maxRecDepth 100000 in
theorem kX12_count_142 (C : ox_C p s m args c g 4 cX12_count RX12) (hr : meth.sig.returnType = (some .int)) (hlk : meth.locks = false) (hnm : meth.name = "count") (hR : R.frames = dp ∧ R.locals = 60 * dp) (h1 : ox_Sem yX12_kindOf cX12_kindOf 3 (some .int) d1 f1) (e1 : d1 + 1 ≤ dp) (hrc : ∀ b, ox_S p l e R s m args below meth c g 4 c0 t0 (ox_QM g below args s c0 t0) b (rc b)) : ox_S p l e R s m args below meth c g 4 c0 t0 (ox_QM g below args s c0 t0) 142 (bX12_count_142 f1 rc) := by
  refine s_iload_n (pc := 142) C dX12_count_142 rfl ?_
  exact s_iret (pc := 143) C hr hlk dX12_count_143
set_option maxRecDepth 100000 in
theorem kX12_count_144 (C : ox_C p s m args c g 4 cX12_count RX12) (hr : meth.sig.returnType = (some .int)) (hlk : meth.locks = false) (hnm : meth.name = "count") (hR : R.frames = dp ∧ R.locals = 60 * dp) (h1 : ox_Sem yX12_kindOf cX12_kindOf 3 (some .int) d1 f1) (e1 : d1 + 1 ≤ dp) (hrc : ∀ b, ox_S p l e R s m args below meth c g 4 c0 t0 (ox_QM g below args s c0 t0) b (rc b)) : ox_S p l e R s m args below meth c g 4 c0 t0 (ox_QM g below args s c0 t0) 144 (bX12_count_144 f1 rc) := by
  refine s_iconst (pc := 144) C dX12_count_144 (by decide) ?_
  refine s_istore_n (pc := 145) C dX12_count_145 rfl (by decide) ?_
  exact hrc 146
set_option maxRecDepth 100000 in
theorem kX12_count_146 (C : ox_C p s m args c g 4 cX12_count RX12) (hr : meth.sig.returnType = (some .int)) (hlk : meth.locks = false) (hnm : meth.name = "count") (hR : R.frames = dp ∧ R.locals = 60 * dp) (h1 : ox_Sem yX12_kindOf cX12_kindOf 3 (some .int) d1 f1) (e1 : d1 + 1 ≤ dp) (hrc : ∀ b, ox_S p l e R s m args below meth c g 4 c0 t0 (ox_QM g below args s c0 t0) b (rc b)) : ox_S p l e R s m args below meth c g 4 c0 t0 (ox_QM g below args s c0 t0) 146 (bX12_count_146 f1 rc) := by
  refine s_keep ?_
  refine s_iload_n (pc := 146) C dX12_count_146 rfl ?_
  refine s_aload_n (pc := 147) C dX12_count_147 rfl ?_
  refine s_geti (pc := 148) (j := 48) (q := (RX12, TX12, 59)) C rfl (by decide) rfl wF_X12_291 dX12_count_148 ?_
  refine s_icmpge (pc := 151) 177 C dX12_count_151 (by decide) (hrc 177) ?_
  refine s_iload_n (pc := 154) C dX12_count_154 rfl ?_
  refine s_aload_n (pc := 155) C dX12_count_155 rfl ?_
  refine s_iload_n (pc := 156) C dX12_count_156 rfl ?_
  refine s_cv (pc := 157) (q := (RX12, TX12, 59)) C h1 rfl wM_X12_309 wI_X12_kindOf wS_X12_kindOf wN_X12 wC_X12_kindOf (by decide +kernel) (ox_lv hR e1 (by decide)) dX12_count_157 ?_
  refine s_iconst (pc := 160) C dX12_count_160 (by decide) ?_
  refine s_icmpne (pc := 161) 168 C dX12_count_161 (by decide) (hrc 168) ?_
  refine s_iconst (pc := 164) C dX12_count_164 (by decide) ?_
  exact s_goto (pc := 165) 169 C dX12_count_165 (by decide) (hrc 169)
set_option maxRecDepth 100000 in
theorem kX12_count_168 (C : ox_C p s m args c g 4 cX12_count RX12) (hr : meth.sig.returnType = (some .int)) (hlk : meth.locks = false) (hnm : meth.name = "count") (hR : R.frames = dp ∧ R.locals = 60 * dp) (h1 : ox_Sem yX12_kindOf cX12_kindOf 3 (some .int) d1 f1) (e1 : d1 + 1 ≤ dp) (hrc : ∀ b, ox_S p l e R s m args below meth c g 4 c0 t0 (ox_QM g below args s c0 t0) b (rc b)) : ox_S p l e R s m args below meth c g 4 c0 t0 (ox_QM g below args s c0 t0) 168 (bX12_count_168 f1 rc) := by
  refine s_iconst (pc := 168) C dX12_count_168 (by decide) ?_
  exact hrc 169
set_option maxRecDepth 100000 in
theorem kX12_count_169 (C : ox_C p s m args c g 4 cX12_count RX12) (hr : meth.sig.returnType = (some .int)) (hlk : meth.locks = false) (hnm : meth.name = "count") (hR : R.frames = dp ∧ R.locals = 60 * dp) (h1 : ox_Sem yX12_kindOf cX12_kindOf 3 (some .int) d1 f1) (e1 : d1 + 1 ≤ dp) (hrc : ∀ b, ox_S p l e R s m args below meth c g 4 c0 t0 (ox_QM g below args s c0 t0) b (rc b)) : ox_S p l e R s m args below meth c g 4 c0 t0 (ox_QM g below args s c0 t0) 169 (bX12_count_169 f1 rc) := by
  refine s_iadd (pc := 169) C dX12_count_169 ?_
  refine s_istore_n (pc := 170) C dX12_count_170 rfl (by decide) ?_
  refine s_iinc (pc := 171) C dX12_count_171 (by decide) (by decide) ?_
  exact s_goto (pc := 174) 146 C dX12_count_174 (by decide) (hrc 146)
set_option maxRecDepth 100000 in
theorem kX12_count_177 (C : ox_C p s m args c g 4 cX12_count RX12) (hr : meth.sig.returnType = (some .int)) (hlk : meth.locks = false) (hnm : meth.name = "count") (hR : R.frames = dp ∧ R.locals = 60 * dp) (h1 : ox_Sem yX12_kindOf cX12_kindOf 3 (some .int) d1 f1) (e1 : d1 + 1 ≤ dp) (hrc : ∀ b, ox_S p l e R s m args below meth c g 4 c0 t0 (ox_QM g below args s c0 t0) b (rc b)) : ox_S p l e R s m args below meth c g 4 c0 t0 (ox_QM g below args s c0 t0) 177 (bX12_count_177 f1 rc) := by
  refine s_iload_n (pc := 177) C dX12_count_177 rfl ?_
  exact s_iret (pc := 178) C hr hlk dX12_count_178
set_option maxRecDepth 100000 in
theorem kX12_count_179 (C : ox_C p s m args c g 4 cX12_count RX12) (hr : meth.sig.returnType = (some .int)) (hlk : meth.locks = false) (hnm : meth.name = "count") (hR : R.frames = dp ∧ R.locals = 60 * dp) (h1 : ox_Sem yX12_kindOf cX12_kindOf 3 (some .int) d1 f1) (e1 : d1 + 1 ≤ dp) (hrc : ∀ b, ox_S p l e R s m args below meth c g 4 c0 t0 (ox_QM g below args s c0 t0) b (rc b)) : ox_S p l e R s m args below meth c g 4 c0 t0 (ox_QM g below args s c0 t0) 179 (bX12_count_179 f1 rc) := by
  refine s_aload_n (pc := 179) C dX12_count_179 rfl ?_
  refine s_geti (pc := 180) (j := 14) (q := (RX12, TX12, 59)) C rfl (by decide) rfl wF_X12_134 dX12_count_180 ?_
  exact s_iret (pc := 183) C hr hlk dX12_count_183
set_option maxRecDepth 100000 in
theorem kX12_count_184 (C : ox_C p s m args c g 4 cX12_count RX12) (hr : meth.sig.returnType = (some .int)) (hlk : meth.locks = false) (hnm : meth.name = "count") (hR : R.frames = dp ∧ R.locals = 60 * dp) (h1 : ox_Sem yX12_kindOf cX12_kindOf 3 (some .int) d1 f1) (e1 : d1 + 1 ≤ dp) (hrc : ∀ b, ox_S p l e R s m args below meth c g 4 c0 t0 (ox_QM g below args s c0 t0) b (rc b)) : ox_S p l e R s m args below meth c g 4 c0 t0 (ox_QM g below args s c0 t0) 184 (bX12_count_184 f1 rc) := by
  refine s_ldc (pc := 184) C wK_X12_127 dX12_count_184 ?_
  exact s_iret (pc := 186) C hr hlk dX12_count_186
end SX12_count
def bsX12_count (f1 : ox_F) (b : Nat) (rc : Nat → ox_K) : ox_K := if b = 0 then bX12_count_0 f1 rc else if b = 56 then bX12_count_56 f1 rc else if b = 58 then bX12_count_58 f1 rc else if b = 78 then bX12_count_78 f1 rc else if b = 79 then bX12_count_79 f1 rc else if b = 87 then bX12_count_87 f1 rc else if b = 89 then bX12_count_89 f1 rc else if b = 94 then bX12_count_94 f1 rc else if b = 99 then bX12_count_99 f1 rc else if b = 104 then bX12_count_104 f1 rc else if b = 109 then bX12_count_109 f1 rc else if b = 111 then bX12_count_111 f1 rc else if b = 133 then bX12_count_133 f1 rc else if b = 134 then bX12_count_134 f1 rc else if b = 142 then bX12_count_142 f1 rc else if b = 144 then bX12_count_144 f1 rc else if b = 146 then bX12_count_146 f1 rc else if b = 168 then bX12_count_168 f1 rc else if b = 169 then bX12_count_169 f1 rc else if b = 177 then bX12_count_177 f1 rc else if b = 179 then bX12_count_179 f1 rc else if b = 184 then bX12_count_184 f1 rc else ox_no
theorem mX12_count {dp d1 : Nat} {f1 f : ox_F} (h1 : ox_Sem yX12_kindOf cX12_kindOf 3 (some .int) d1 f1) (e1 : d1 + 1 ≤ dp) (hf : ∀ as h r, f as h = some r → ox_cs as ≤ 4 ∧ ox_le h r.2 ∧ ∃ n, ox_run (bsX12_count f1) n 0 (lv_args 0 as) [] h = some r) : ox_Sem yX12_count cX12_count 4 (some .int) dp f := by
  refine ox_meth (bs := bsX12_count f1) (by decide) hf ?_
  intro p l e R s m args below meth c g c0 t0 C hr hlk hnm hR rc hrc b
  unfold bsX12_count
  refine ox_br (kX12_count_0 C hr hlk hnm hR h1 e1 hrc) ?_
  refine ox_br (kX12_count_56 C hr hlk hnm hR h1 e1 hrc) ?_
  refine ox_br (kX12_count_58 C hr hlk hnm hR h1 e1 hrc) ?_
  refine ox_br (kX12_count_78 C hr hlk hnm hR h1 e1 hrc) ?_
  refine ox_br (kX12_count_79 C hr hlk hnm hR h1 e1 hrc) ?_
  refine ox_br (kX12_count_87 C hr hlk hnm hR h1 e1 hrc) ?_
  refine ox_br (kX12_count_89 C hr hlk hnm hR h1 e1 hrc) ?_
  refine ox_br (kX12_count_94 C hr hlk hnm hR h1 e1 hrc) ?_
  refine ox_br (kX12_count_99 C hr hlk hnm hR h1 e1 hrc) ?_
  refine ox_br (kX12_count_104 C hr hlk hnm hR h1 e1 hrc) ?_
  refine ox_br (kX12_count_109 C hr hlk hnm hR h1 e1 hrc) ?_
  refine ox_br (kX12_count_111 C hr hlk hnm hR h1 e1 hrc) ?_
  refine ox_br (kX12_count_133 C hr hlk hnm hR h1 e1 hrc) ?_
  refine ox_br (kX12_count_134 C hr hlk hnm hR h1 e1 hrc) ?_
  refine ox_br (kX12_count_142 C hr hlk hnm hR h1 e1 hrc) ?_
  refine ox_br (kX12_count_144 C hr hlk hnm hR h1 e1 hrc) ?_
  refine ox_br (kX12_count_146 C hr hlk hnm hR h1 e1 hrc) ?_
  refine ox_br (kX12_count_168 C hr hlk hnm hR h1 e1 hrc) ?_
  refine ox_br (kX12_count_169 C hr hlk hnm hR h1 e1 hrc) ?_
  refine ox_br (kX12_count_177 C hr hlk hnm hR h1 e1 hrc) ?_
  refine ox_br (kX12_count_179 C hr hlk hnm hR h1 e1 hrc) ?_
  refine ox_br (kX12_count_184 C hr hlk hnm hR h1 e1 hrc) ?_
  exact s_no
theorem dX12_status_0 : decode cX12_status 0 = .ok (.aload_n 0, 1) := by decide +kernel
theorem dX12_status_1 : decode cX12_status 1 = .ok (.iconst 0, 1) := by decide +kernel
theorem dX12_status_2 : decode cX12_status 2 = .ok (.putfield 108, 3) := by decide +kernel
theorem dX12_status_5 : decode cX12_status 5 = .ok (.aload_n 0, 1) := by decide +kernel
theorem dX12_status_6 : decode cX12_status 6 = .ok (.getfield 111, 3) := by decide +kernel
theorem dX12_status_9 : decode cX12_status 9 = .ok (.ireturn, 1) := by decide +kernel
def bX12_status_0 (rc : Nat → ox_K) : ox_K := o_al 0 (o_ic (0) (o_puti 12 0 (o_al 0 (o_geti 12 1 (o_iret)))))
section SX12_status
variable {p : Program} {l : Launch} {e : Env} {R : Room} {s : State} {m : MethodId} {args : Array Value} {below : List Frame} {meth : Method} {c : Code} {g : ox_G} {c0 t0 dp  : Nat} {rc : Nat → ox_K}
set_option maxRecDepth 100000 in
theorem kX12_status_0 (C : ox_C p s m args c g 1 cX12_status RX12) (hr : meth.sig.returnType = (some .int)) (hlk : meth.locks = false) (hnm : meth.name = "status") (hR : R.frames = dp ∧ R.locals = 60 * dp) (hrc : ∀ b, ox_S p l e R s m args below meth c g 1 c0 t0 (ox_QM g below args s c0 t0) b (rc b)) : ox_S p l e R s m args below meth c g 1 c0 t0 (ox_QM g below args s c0 t0) 0 (bX12_status_0 rc) := by
  refine s_aload_n (pc := 0) C dX12_status_0 rfl ?_
  refine s_iconst (pc := 1) C dX12_status_1 (by decide) ?_
  refine s_puti (pc := 2) (j := 0) (q := (RX12, TX12, 59)) C rfl (by decide) rfl (Or.inl rfl) wF_X12_108 dX12_status_2 ?_
  refine s_aload_n (pc := 5) C dX12_status_5 rfl ?_
  refine s_geti (pc := 6) (j := 1) (q := (RX12, TX12, 59)) C rfl (by decide) rfl wF_X12_111 dX12_status_6 ?_
  exact s_iret (pc := 9) C hr hlk dX12_status_9
end SX12_status
def bsX12_status (b : Nat) (rc : Nat → ox_K) : ox_K := if b = 0 then bX12_status_0 rc else ox_no
theorem mX12_status {dp  : Nat} {f : ox_F} (hf : ∀ as h r, f as h = some r → ox_cs as ≤ 1 ∧ ox_le h r.2 ∧ ∃ n, ox_run (bsX12_status) n 0 (lv_args 0 as) [] h = some r) : ox_Sem yX12_status cX12_status 1 (some .int) dp f := by
  refine ox_meth (bs := bsX12_status) (by decide) hf ?_
  intro p l e R s m args below meth c g c0 t0 C hr hlk hnm hR rc hrc b
  unfold bsX12_status
  refine ox_br (kX12_status_0 C hr hlk hnm hR hrc) ?_
  exact s_no
