theorem f108_0 : pm_fetch 108 0 = some (.aload_n 0, 1) := rfl
theorem f108_1 : pm_fetch 108 1 = some (.invokespecial 1, 3) := rfl
theorem f108_4 : pm_fetch 108 4 = some (.aload_n 0, 1) := rfl
theorem f108_5 : pm_fetch 108 5 = some (.bipush 6, 2) := rfl
theorem f108_7 : pm_fetch 108 7 = some (.newarray .int, 2) := rfl
theorem f108_9 : pm_fetch 108 9 = some (.putfield 7, 3) := rfl
theorem f108_12 : pm_fetch 108 12 = some (.aload_n 0, 1) := rfl
theorem f108_13 : pm_fetch 108 13 = some (.bipush 6, 2) := rfl
theorem f108_15 : pm_fetch 108 15 = some (.newarray .int, 2) := rfl
theorem f108_17 : pm_fetch 108 17 = some (.putfield 13, 3) := rfl
theorem f108_20 : pm_fetch 108 20 = some (.aload_n 0, 1) := rfl
theorem f108_21 : pm_fetch 108 21 = some (.bipush 18, 2) := rfl
theorem f108_23 : pm_fetch 108 23 = some (.newarray .int, 2) := rfl
theorem f108_25 : pm_fetch 108 25 = some (.putfield 16, 3) := rfl
theorem f108_28 : pm_fetch 108 28 = some (.aload_n 0, 1) := rfl
theorem f108_29 : pm_fetch 108 29 = some (.bipush 6, 2) := rfl
theorem f108_31 : pm_fetch 108 31 = some (.newarray .int, 2) := rfl
theorem f108_33 : pm_fetch 108 33 = some (.putfield 19, 3) := rfl
theorem f108_36 : pm_fetch 108 36 = some (.aload_n 0, 1) := rfl
theorem f108_37 : pm_fetch 108 37 = some (.sipush 160, 3) := rfl
theorem f108_40 : pm_fetch 108 40 = some (.newarray .int, 2) := rfl
theorem f108_42 : pm_fetch 108 42 = some (.putfield 22, 3) := rfl
theorem f108_45 : pm_fetch 108 45 = some (.aload_n 0, 1) := rfl
theorem f108_46 : pm_fetch 108 46 = some (.sipush 1200, 3) := rfl
theorem f108_49 : pm_fetch 108 49 = some (.newarray .int, 2) := rfl
theorem f108_51 : pm_fetch 108 51 = some (.putfield 25, 3) := rfl
theorem f108_54 : pm_fetch 108 54 = some (.aload_n 0, 1) := rfl
theorem f108_55 : pm_fetch 108 55 = some (.bipush 24, 2) := rfl
theorem f108_57 : pm_fetch 108 57 = some (.newarray .int, 2) := rfl
theorem f108_59 : pm_fetch 108 59 = some (.putfield 28, 3) := rfl
theorem f108_62 : pm_fetch 108 62 = some (.aload_n 0, 1) := rfl
theorem f108_63 : pm_fetch 108 63 = some (.bipush 24, 2) := rfl
theorem f108_65 : pm_fetch 108 65 = some (.newarray .int, 2) := rfl
theorem f108_67 : pm_fetch 108 67 = some (.putfield 31, 3) := rfl
theorem f108_70 : pm_fetch 108 70 = some (.aload_n 0, 1) := rfl
theorem f108_71 : pm_fetch 108 71 = some (.iconst 2, 1) := rfl
theorem f108_72 : pm_fetch 108 72 = some (.newarray .long, 2) := rfl
theorem f108_74 : pm_fetch 108 74 = some (.putfield 34, 3) := rfl
theorem f108_77 : pm_fetch 108 77 = some (.aload_n 0, 1) := rfl
theorem f108_78 : pm_fetch 108 78 = some (.iconst 3, 1) := rfl
theorem f108_79 : pm_fetch 108 79 = some (.newarray .int, 2) := rfl
theorem f108_81 : pm_fetch 108 81 = some (.putfield 38, 3) := rfl
theorem f108_84 : pm_fetch 108 84 = some (.aload_n 0, 1) := rfl
theorem f108_85 : pm_fetch 108 85 = some (.iconst 4, 1) := rfl
theorem f108_86 : pm_fetch 108 86 = some (.newarray .int, 2) := rfl
theorem f108_88 : pm_fetch 108 88 = some (.dup, 1) := rfl
theorem f108_89 : pm_fetch 108 89 = some (.iconst 0, 1) := rfl
theorem f108_90 : pm_fetch 108 90 = some (.iconst (-1), 1) := rfl
theorem f108_91 : pm_fetch 108 91 = some (.iastore, 1) := rfl
theorem f108_92 : pm_fetch 108 92 = some (.dup, 1) := rfl
theorem f108_93 : pm_fetch 108 93 = some (.iconst 1, 1) := rfl
theorem f108_94 : pm_fetch 108 94 = some (.iconst (-1), 1) := rfl
theorem f108_95 : pm_fetch 108 95 = some (.iastore, 1) := rfl
theorem f108_96 : pm_fetch 108 96 = some (.dup, 1) := rfl
theorem f108_97 : pm_fetch 108 97 = some (.iconst 2, 1) := rfl
theorem f108_98 : pm_fetch 108 98 = some (.iconst (-1), 1) := rfl
theorem f108_99 : pm_fetch 108 99 = some (.iastore, 1) := rfl
theorem f108_100 : pm_fetch 108 100 = some (.dup, 1) := rfl
theorem f108_101 : pm_fetch 108 101 = some (.iconst 3, 1) := rfl
theorem f108_102 : pm_fetch 108 102 = some (.iconst (-1), 1) := rfl
theorem f108_103 : pm_fetch 108 103 = some (.iastore, 1) := rfl
theorem f108_104 : pm_fetch 108 104 = some (.putfield 41, 3) := rfl
theorem f108_107 : pm_fetch 108 107 = some (.aload_n 0, 1) := rfl
theorem f108_108 : pm_fetch 108 108 = some (.iconst 4, 1) := rfl
theorem f108_109 : pm_fetch 108 109 = some (.newarray .int, 2) := rfl
theorem f108_111 : pm_fetch 108 111 = some (.putfield 44, 3) := rfl
theorem f108_114 : pm_fetch 108 114 = some (.aload_n 0, 1) := rfl
theorem f108_115 : pm_fetch 108 115 = some (.sipush 160, 3) := rfl
theorem f108_118 : pm_fetch 108 118 = some (.newarray .int, 2) := rfl
theorem f108_120 : pm_fetch 108 120 = some (.putfield 47, 3) := rfl
theorem f108_123 : pm_fetch 108 123 = some (.aload_n 0, 1) := rfl
theorem f108_124 : pm_fetch 108 124 = some (.bipush 42, 2) := rfl
theorem f108_126 : pm_fetch 108 126 = some (.newarray .int, 2) := rfl
theorem f108_128 : pm_fetch 108 128 = some (.dup, 1) := rfl
theorem f108_129 : pm_fetch 108 129 = some (.iconst 0, 1) := rfl
theorem f108_130 : pm_fetch 108 130 = some (.bipush 119, 2) := rfl
theorem f108_132 : pm_fetch 108 132 = some (.iastore, 1) := rfl
theorem f108_133 : pm_fetch 108 133 = some (.dup, 1) := rfl
theorem f108_134 : pm_fetch 108 134 = some (.iconst 1, 1) := rfl
theorem f108_135 : pm_fetch 108 135 = some (.bipush 97, 2) := rfl
theorem f108_137 : pm_fetch 108 137 = some (.iastore, 1) := rfl
theorem f108_138 : pm_fetch 108 138 = some (.dup, 1) := rfl
theorem f108_139 : pm_fetch 108 139 = some (.iconst 2, 1) := rfl
theorem f108_140 : pm_fetch 108 140 = some (.bipush 108, 2) := rfl
theorem f108_142 : pm_fetch 108 142 = some (.iastore, 1) := rfl
theorem f108_143 : pm_fetch 108 143 = some (.dup, 1) := rfl
theorem f108_144 : pm_fetch 108 144 = some (.iconst 3, 1) := rfl
theorem f108_145 : pm_fetch 108 145 = some (.bipush 107, 2) := rfl
theorem f108_147 : pm_fetch 108 147 = some (.iastore, 1) := rfl
theorem f108_148 : pm_fetch 108 148 = some (.dup, 1) := rfl
theorem f108_149 : pm_fetch 108 149 = some (.iconst 4, 1) := rfl
theorem f108_150 : pm_fetch 108 150 = some (.bipush 115, 2) := rfl
theorem f108_152 : pm_fetch 108 152 = some (.iastore, 1) := rfl
theorem f108_153 : pm_fetch 108 153 = some (.dup, 1) := rfl
theorem f108_154 : pm_fetch 108 154 = some (.iconst 5, 1) := rfl
theorem f108_155 : pm_fetch 108 155 = some (.bipush 32, 2) := rfl
theorem f108_157 : pm_fetch 108 157 = some (.iastore, 1) := rfl
theorem f108_158 : pm_fetch 108 158 = some (.dup, 1) := rfl
theorem f108_159 : pm_fetch 108 159 = some (.bipush 6, 2) := rfl
theorem f108_161 : pm_fetch 108 161 = some (.bipush 50, 2) := rfl
theorem f108_163 : pm_fetch 108 163 = some (.iastore, 1) := rfl
theorem f108_164 : pm_fetch 108 164 = some (.dup, 1) := rfl
theorem f108_165 : pm_fetch 108 165 = some (.bipush 7, 2) := rfl
theorem f108_167 : pm_fetch 108 167 = some (.bipush 32, 2) := rfl
theorem f108_169 : pm_fetch 108 169 = some (.iastore, 1) := rfl
theorem f108_170 : pm_fetch 108 170 = some (.dup, 1) := rfl
theorem f108_171 : pm_fetch 108 171 = some (.bipush 8, 2) := rfl
theorem f108_173 : pm_fetch 108 173 = some (.bipush 59, 2) := rfl
theorem f108_175 : pm_fetch 108 175 = some (.iastore, 1) := rfl
theorem f108_176 : pm_fetch 108 176 = some (.dup, 1) := rfl
theorem f108_177 : pm_fetch 108 177 = some (.bipush 9, 2) := rfl
theorem f108_179 : pm_fetch 108 179 = some (.bipush 32, 2) := rfl
theorem f108_181 : pm_fetch 108 181 = some (.iastore, 1) := rfl
theorem f108_182 : pm_fetch 108 182 = some (.dup, 1) := rfl
theorem f108_183 : pm_fetch 108 183 = some (.bipush 10, 2) := rfl
theorem f108_185 : pm_fetch 108 185 = some (.bipush 103, 2) := rfl
theorem f108_187 : pm_fetch 108 187 = some (.iastore, 1) := rfl
theorem f108_188 : pm_fetch 108 188 = some (.dup, 1) := rfl
theorem f108_189 : pm_fetch 108 189 = some (.bipush 11, 2) := rfl
theorem f108_191 : pm_fetch 108 191 = some (.bipush 114, 2) := rfl
theorem f108_193 : pm_fetch 108 193 = some (.iastore, 1) := rfl
theorem f108_194 : pm_fetch 108 194 = some (.dup, 1) := rfl
theorem f108_195 : pm_fetch 108 195 = some (.bipush 12, 2) := rfl
theorem f108_197 : pm_fetch 108 197 = some (.bipush 111, 2) := rfl
theorem f108_199 : pm_fetch 108 199 = some (.iastore, 1) := rfl
theorem f108_200 : pm_fetch 108 200 = some (.dup, 1) := rfl
theorem f108_201 : pm_fetch 108 201 = some (.bipush 13, 2) := rfl
theorem f108_203 : pm_fetch 108 203 = some (.bipush 119, 2) := rfl
theorem f108_205 : pm_fetch 108 205 = some (.iastore, 1) := rfl
theorem f108_206 : pm_fetch 108 206 = some (.dup, 1) := rfl
theorem f108_207 : pm_fetch 108 207 = some (.bipush 14, 2) := rfl
theorem f108_209 : pm_fetch 108 209 = some (.bipush 115, 2) := rfl
theorem f108_211 : pm_fetch 108 211 = some (.iastore, 1) := rfl
theorem f108_212 : pm_fetch 108 212 = some (.dup, 1) := rfl
theorem f108_213 : pm_fetch 108 213 = some (.bipush 15, 2) := rfl
theorem f108_215 : pm_fetch 108 215 = some (.bipush 32, 2) := rfl
theorem f108_217 : pm_fetch 108 217 = some (.iastore, 1) := rfl
theorem f108_218 : pm_fetch 108 218 = some (.dup, 1) := rfl
theorem f108_219 : pm_fetch 108 219 = some (.bipush 16, 2) := rfl
theorem f108_221 : pm_fetch 108 221 = some (.bipush 49, 2) := rfl
theorem f108_223 : pm_fetch 108 223 = some (.iastore, 1) := rfl
theorem f108_224 : pm_fetch 108 224 = some (.dup, 1) := rfl
theorem f108_225 : pm_fetch 108 225 = some (.bipush 17, 2) := rfl
theorem f108_227 : pm_fetch 108 227 = some (.bipush 32, 2) := rfl
theorem f108_229 : pm_fetch 108 229 = some (.iastore, 1) := rfl
theorem f108_230 : pm_fetch 108 230 = some (.dup, 1) := rfl
theorem f108_231 : pm_fetch 108 231 = some (.bipush 18, 2) := rfl
theorem f108_233 : pm_fetch 108 233 = some (.bipush 45, 2) := rfl
theorem f108_235 : pm_fetch 108 235 = some (.iastore, 1) := rfl
theorem f108_236 : pm_fetch 108 236 = some (.dup, 1) := rfl
theorem f108_237 : pm_fetch 108 237 = some (.bipush 19, 2) := rfl
theorem f108_239 : pm_fetch 108 239 = some (.bipush 32, 2) := rfl
theorem f108_241 : pm_fetch 108 241 = some (.iastore, 1) := rfl
theorem f108_242 : pm_fetch 108 242 = some (.dup, 1) := rfl
theorem f108_243 : pm_fetch 108 243 = some (.bipush 20, 2) := rfl
theorem f108_245 : pm_fetch 108 245 = some (.bipush 57, 2) := rfl
theorem f108_247 : pm_fetch 108 247 = some (.iastore, 1) := rfl
theorem f108_248 : pm_fetch 108 248 = some (.dup, 1) := rfl
theorem f108_249 : pm_fetch 108 249 = some (.bipush 21, 2) := rfl
theorem f108_251 : pm_fetch 108 251 = some (.bipush 32, 2) := rfl
theorem f108_253 : pm_fetch 108 253 = some (.iastore, 1) := rfl
theorem f108_254 : pm_fetch 108 254 = some (.dup, 1) := rfl
theorem f108_255 : pm_fetch 108 255 = some (.bipush 22, 2) := rfl
theorem f108_257 : pm_fetch 108 257 = some (.bipush 42, 2) := rfl
theorem f108_259 : pm_fetch 108 259 = some (.iastore, 1) := rfl
theorem f108_260 : pm_fetch 108 260 = some (.dup, 1) := rfl
theorem f108_261 : pm_fetch 108 261 = some (.bipush 23, 2) := rfl
theorem f108_263 : pm_fetch 108 263 = some (.bipush 32, 2) := rfl
theorem f108_265 : pm_fetch 108 265 = some (.iastore, 1) := rfl
theorem f108_266 : pm_fetch 108 266 = some (.dup, 1) := rfl
theorem f108_267 : pm_fetch 108 267 = some (.bipush 24, 2) := rfl
theorem f108_269 : pm_fetch 108 269 = some (.bipush 99, 2) := rfl
theorem f108_271 : pm_fetch 108 271 = some (.iastore, 1) := rfl
theorem f108_272 : pm_fetch 108 272 = some (.dup, 1) := rfl
theorem f108_273 : pm_fetch 108 273 = some (.bipush 25, 2) := rfl
theorem f108_275 : pm_fetch 108 275 = some (.bipush 108, 2) := rfl
theorem f108_277 : pm_fetch 108 277 = some (.iastore, 1) := rfl
theorem f108_278 : pm_fetch 108 278 = some (.dup, 1) := rfl
theorem f108_279 : pm_fetch 108 279 = some (.bipush 26, 2) := rfl
theorem f108_281 : pm_fetch 108 281 = some (.bipush 111, 2) := rfl
theorem f108_283 : pm_fetch 108 283 = some (.iastore, 1) := rfl
theorem f108_284 : pm_fetch 108 284 = some (.dup, 1) := rfl
theorem f108_285 : pm_fetch 108 285 = some (.bipush 27, 2) := rfl
theorem f108_287 : pm_fetch 108 287 = some (.bipush 118, 2) := rfl
theorem f108_289 : pm_fetch 108 289 = some (.iastore, 1) := rfl
theorem f108_290 : pm_fetch 108 290 = some (.dup, 1) := rfl
theorem f108_291 : pm_fetch 108 291 = some (.bipush 28, 2) := rfl
theorem f108_293 : pm_fetch 108 293 = some (.bipush 101, 2) := rfl
theorem f108_295 : pm_fetch 108 295 = some (.iastore, 1) := rfl
theorem f108_296 : pm_fetch 108 296 = some (.dup, 1) := rfl
theorem f108_297 : pm_fetch 108 297 = some (.bipush 29, 2) := rfl
theorem f108_299 : pm_fetch 108 299 = some (.bipush 114, 2) := rfl
set_option maxRecDepth 100000 in
theorem f108_301 : pm_fetch 108 301 = some (.iastore, 1) := by decide +kernel
set_option maxRecDepth 100000 in
theorem f108_302 : pm_fetch 108 302 = some (.dup, 1) := by decide +kernel
set_option maxRecDepth 100000 in
theorem f108_303 : pm_fetch 108 303 = some (.bipush 30, 2) := by decide +kernel
set_option maxRecDepth 100000 in
theorem f108_305 : pm_fetch 108 305 = some (.bipush 32, 2) := by decide +kernel
set_option maxRecDepth 100000 in
theorem f108_307 : pm_fetch 108 307 = some (.iastore, 1) := by decide +kernel
set_option maxRecDepth 100000 in
theorem f108_308 : pm_fetch 108 308 = some (.dup, 1) := by decide +kernel
set_option maxRecDepth 100000 in
theorem f108_309 : pm_fetch 108 309 = some (.bipush 31, 2) := by decide +kernel
set_option maxRecDepth 100000 in
theorem f108_311 : pm_fetch 108 311 = some (.bipush 59, 2) := by decide +kernel
set_option maxRecDepth 100000 in
theorem f108_313 : pm_fetch 108 313 = some (.iastore, 1) := by decide +kernel
set_option maxRecDepth 100000 in
theorem f108_314 : pm_fetch 108 314 = some (.dup, 1) := by decide +kernel
set_option maxRecDepth 100000 in
theorem f108_315 : pm_fetch 108 315 = some (.bipush 32, 2) := by decide +kernel
set_option maxRecDepth 100000 in
theorem f108_317 : pm_fetch 108 317 = some (.bipush 32, 2) := by decide +kernel
set_option maxRecDepth 100000 in
theorem f108_319 : pm_fetch 108 319 = some (.iastore, 1) := by decide +kernel
set_option maxRecDepth 100000 in
theorem f108_320 : pm_fetch 108 320 = some (.dup, 1) := by decide +kernel
set_option maxRecDepth 100000 in
theorem f108_321 : pm_fetch 108 321 = some (.bipush 33, 2) := by decide +kernel
set_option maxRecDepth 100000 in
theorem f108_323 : pm_fetch 108 323 = some (.bipush 110, 2) := by decide +kernel
set_option maxRecDepth 100000 in
theorem f108_325 : pm_fetch 108 325 = some (.iastore, 1) := by decide +kernel
set_option maxRecDepth 100000 in
theorem f108_326 : pm_fetch 108 326 = some (.dup, 1) := by decide +kernel
set_option maxRecDepth 100000 in
theorem f108_327 : pm_fetch 108 327 = some (.bipush 34, 2) := by decide +kernel
set_option maxRecDepth 100000 in
theorem f108_329 : pm_fetch 108 329 = some (.bipush 101, 2) := by decide +kernel
set_option maxRecDepth 100000 in
theorem f108_331 : pm_fetch 108 331 = some (.iastore, 1) := by decide +kernel
set_option maxRecDepth 100000 in
theorem f108_332 : pm_fetch 108 332 = some (.dup, 1) := by decide +kernel
set_option maxRecDepth 100000 in
theorem f108_333 : pm_fetch 108 333 = some (.bipush 35, 2) := by decide +kernel
set_option maxRecDepth 100000 in
theorem f108_335 : pm_fetch 108 335 = some (.bipush 101, 2) := by decide +kernel
set_option maxRecDepth 100000 in
theorem f108_337 : pm_fetch 108 337 = some (.iastore, 1) := by decide +kernel
set_option maxRecDepth 100000 in
theorem f108_338 : pm_fetch 108 338 = some (.dup, 1) := by decide +kernel
set_option maxRecDepth 100000 in
theorem f108_339 : pm_fetch 108 339 = some (.bipush 36, 2) := by decide +kernel
set_option maxRecDepth 100000 in
theorem f108_341 : pm_fetch 108 341 = some (.bipush 100, 2) := by decide +kernel
set_option maxRecDepth 100000 in
theorem f108_343 : pm_fetch 108 343 = some (.iastore, 1) := by decide +kernel
set_option maxRecDepth 100000 in
theorem f108_344 : pm_fetch 108 344 = some (.dup, 1) := by decide +kernel
set_option maxRecDepth 100000 in
theorem f108_345 : pm_fetch 108 345 = some (.bipush 37, 2) := by decide +kernel
set_option maxRecDepth 100000 in
theorem f108_347 : pm_fetch 108 347 = some (.bipush 115, 2) := by decide +kernel
set_option maxRecDepth 100000 in
theorem f108_349 : pm_fetch 108 349 = some (.iastore, 1) := by decide +kernel
set_option maxRecDepth 100000 in
theorem f108_350 : pm_fetch 108 350 = some (.dup, 1) := by decide +kernel
set_option maxRecDepth 100000 in
theorem f108_351 : pm_fetch 108 351 = some (.bipush 38, 2) := by decide +kernel
set_option maxRecDepth 100000 in
theorem f108_353 : pm_fetch 108 353 = some (.bipush 32, 2) := by decide +kernel
set_option maxRecDepth 100000 in
theorem f108_355 : pm_fetch 108 355 = some (.iastore, 1) := by decide +kernel
set_option maxRecDepth 100000 in
theorem f108_356 : pm_fetch 108 356 = some (.dup, 1) := by decide +kernel
set_option maxRecDepth 100000 in
theorem f108_357 : pm_fetch 108 357 = some (.bipush 39, 2) := by decide +kernel
set_option maxRecDepth 100000 in
theorem f108_359 : pm_fetch 108 359 = some (.bipush 49, 2) := by decide +kernel
set_option maxRecDepth 100000 in
theorem f108_361 : pm_fetch 108 361 = some (.iastore, 1) := by decide +kernel
set_option maxRecDepth 100000 in
theorem f108_362 : pm_fetch 108 362 = some (.dup, 1) := by decide +kernel
set_option maxRecDepth 100000 in
theorem f108_363 : pm_fetch 108 363 = some (.bipush 40, 2) := by decide +kernel
set_option maxRecDepth 100000 in
theorem f108_365 : pm_fetch 108 365 = some (.bipush 32, 2) := by decide +kernel
set_option maxRecDepth 100000 in
theorem f108_367 : pm_fetch 108 367 = some (.iastore, 1) := by decide +kernel
set_option maxRecDepth 100000 in
theorem f108_368 : pm_fetch 108 368 = some (.dup, 1) := by decide +kernel
set_option maxRecDepth 100000 in
theorem f108_369 : pm_fetch 108 369 = some (.bipush 41, 2) := by decide +kernel
set_option maxRecDepth 100000 in
theorem f108_371 : pm_fetch 108 371 = some (.bipush 59, 2) := by decide +kernel
set_option maxRecDepth 100000 in
theorem f108_373 : pm_fetch 108 373 = some (.iastore, 1) := by decide +kernel
set_option maxRecDepth 100000 in
theorem f108_374 : pm_fetch 108 374 = some (.putfield 50, 3) := by decide +kernel
set_option maxRecDepth 100000 in
theorem f108_377 : pm_fetch 108 377 = some (.aload_n 0, 1) := by decide +kernel
set_option maxRecDepth 100000 in
theorem f108_378 : pm_fetch 108 378 = some (.bipush 96, 2) := by decide +kernel
set_option maxRecDepth 100000 in
theorem f108_380 : pm_fetch 108 380 = some (.newarray .int, 2) := by decide +kernel
set_option maxRecDepth 100000 in
theorem f108_382 : pm_fetch 108 382 = some (.dup, 1) := by decide +kernel
set_option maxRecDepth 100000 in
theorem f108_383 : pm_fetch 108 383 = some (.iconst 0, 1) := by decide +kernel
set_option maxRecDepth 100000 in
theorem f108_384 : pm_fetch 108 384 = some (.bipush 119, 2) := by decide +kernel
set_option maxRecDepth 100000 in
theorem f108_386 : pm_fetch 108 386 = some (.iastore, 1) := by decide +kernel
set_option maxRecDepth 100000 in
theorem f108_387 : pm_fetch 108 387 = some (.dup, 1) := by decide +kernel
set_option maxRecDepth 100000 in
theorem f108_388 : pm_fetch 108 388 = some (.iconst 1, 1) := by decide +kernel
set_option maxRecDepth 100000 in
theorem f108_389 : pm_fetch 108 389 = some (.bipush 97, 2) := by decide +kernel
set_option maxRecDepth 100000 in
theorem f108_391 : pm_fetch 108 391 = some (.iastore, 1) := by decide +kernel
set_option maxRecDepth 100000 in
theorem f108_392 : pm_fetch 108 392 = some (.dup, 1) := by decide +kernel
set_option maxRecDepth 100000 in
theorem f108_393 : pm_fetch 108 393 = some (.iconst 2, 1) := by decide +kernel
set_option maxRecDepth 100000 in
theorem f108_394 : pm_fetch 108 394 = some (.bipush 108, 2) := by decide +kernel
set_option maxRecDepth 100000 in
theorem f108_396 : pm_fetch 108 396 = some (.iastore, 1) := by decide +kernel
set_option maxRecDepth 100000 in
theorem f108_397 : pm_fetch 108 397 = some (.dup, 1) := by decide +kernel
set_option maxRecDepth 100000 in
theorem f108_398 : pm_fetch 108 398 = some (.iconst 3, 1) := by decide +kernel
set_option maxRecDepth 100000 in
theorem f108_399 : pm_fetch 108 399 = some (.bipush 107, 2) := by decide +kernel
set_option maxRecDepth 100000 in
theorem f108_401 : pm_fetch 108 401 = some (.iastore, 1) := by decide +kernel
set_option maxRecDepth 100000 in
theorem f108_402 : pm_fetch 108 402 = some (.dup, 1) := by decide +kernel
set_option maxRecDepth 100000 in
theorem f108_403 : pm_fetch 108 403 = some (.iconst 4, 1) := by decide +kernel
set_option maxRecDepth 100000 in
theorem f108_404 : pm_fetch 108 404 = some (.bipush 115, 2) := by decide +kernel
set_option maxRecDepth 100000 in
theorem f108_406 : pm_fetch 108 406 = some (.iastore, 1) := by decide +kernel
set_option maxRecDepth 100000 in
theorem f108_407 : pm_fetch 108 407 = some (.dup, 1) := by decide +kernel
set_option maxRecDepth 100000 in
theorem f108_408 : pm_fetch 108 408 = some (.iconst 5, 1) := by decide +kernel
set_option maxRecDepth 100000 in
theorem f108_409 : pm_fetch 108 409 = some (.bipush 32, 2) := by decide +kernel
set_option maxRecDepth 100000 in
theorem f108_411 : pm_fetch 108 411 = some (.iastore, 1) := by decide +kernel
set_option maxRecDepth 100000 in
theorem f108_412 : pm_fetch 108 412 = some (.dup, 1) := by decide +kernel
set_option maxRecDepth 100000 in
theorem f108_413 : pm_fetch 108 413 = some (.bipush 6, 2) := by decide +kernel
set_option maxRecDepth 100000 in
theorem f108_415 : pm_fetch 108 415 = some (.bipush 32, 2) := by decide +kernel
set_option maxRecDepth 100000 in
theorem f108_417 : pm_fetch 108 417 = some (.iastore, 1) := by decide +kernel
set_option maxRecDepth 100000 in
theorem f108_418 : pm_fetch 108 418 = some (.dup, 1) := by decide +kernel
set_option maxRecDepth 100000 in
theorem f108_419 : pm_fetch 108 419 = some (.bipush 7, 2) := by decide +kernel
set_option maxRecDepth 100000 in
theorem f108_421 : pm_fetch 108 421 = some (.bipush 32, 2) := by decide +kernel
set_option maxRecDepth 100000 in
theorem f108_423 : pm_fetch 108 423 = some (.iastore, 1) := by decide +kernel
set_option maxRecDepth 100000 in
theorem f108_424 : pm_fetch 108 424 = some (.dup, 1) := by decide +kernel
set_option maxRecDepth 100000 in
theorem f108_425 : pm_fetch 108 425 = some (.bipush 8, 2) := by decide +kernel
set_option maxRecDepth 100000 in
theorem f108_427 : pm_fetch 108 427 = some (.bipush 103, 2) := by decide +kernel
set_option maxRecDepth 100000 in
theorem f108_429 : pm_fetch 108 429 = some (.iastore, 1) := by decide +kernel
set_option maxRecDepth 100000 in
theorem f108_430 : pm_fetch 108 430 = some (.dup, 1) := by decide +kernel
set_option maxRecDepth 100000 in
theorem f108_431 : pm_fetch 108 431 = some (.bipush 9, 2) := by decide +kernel
set_option maxRecDepth 100000 in
theorem f108_433 : pm_fetch 108 433 = some (.bipush 114, 2) := by decide +kernel
set_option maxRecDepth 100000 in
theorem f108_435 : pm_fetch 108 435 = some (.iastore, 1) := by decide +kernel
set_option maxRecDepth 100000 in
theorem f108_436 : pm_fetch 108 436 = some (.dup, 1) := by decide +kernel
set_option maxRecDepth 100000 in
theorem f108_437 : pm_fetch 108 437 = some (.bipush 10, 2) := by decide +kernel
set_option maxRecDepth 100000 in
theorem f108_439 : pm_fetch 108 439 = some (.bipush 111, 2) := by decide +kernel
set_option maxRecDepth 100000 in
theorem f108_441 : pm_fetch 108 441 = some (.iastore, 1) := by decide +kernel
set_option maxRecDepth 100000 in
theorem f108_442 : pm_fetch 108 442 = some (.dup, 1) := by decide +kernel
set_option maxRecDepth 100000 in
theorem f108_443 : pm_fetch 108 443 = some (.bipush 11, 2) := by decide +kernel
set_option maxRecDepth 100000 in
theorem f108_445 : pm_fetch 108 445 = some (.bipush 119, 2) := by decide +kernel
set_option maxRecDepth 100000 in
theorem f108_447 : pm_fetch 108 447 = some (.iastore, 1) := by decide +kernel
set_option maxRecDepth 100000 in
theorem f108_448 : pm_fetch 108 448 = some (.dup, 1) := by decide +kernel
set_option maxRecDepth 100000 in
theorem f108_449 : pm_fetch 108 449 = some (.bipush 12, 2) := by decide +kernel
set_option maxRecDepth 100000 in
theorem f108_451 : pm_fetch 108 451 = some (.bipush 115, 2) := by decide +kernel
set_option maxRecDepth 100000 in
theorem f108_453 : pm_fetch 108 453 = some (.iastore, 1) := by decide +kernel
set_option maxRecDepth 100000 in
theorem f108_454 : pm_fetch 108 454 = some (.dup, 1) := by decide +kernel
set_option maxRecDepth 100000 in
theorem f108_455 : pm_fetch 108 455 = some (.bipush 13, 2) := by decide +kernel
set_option maxRecDepth 100000 in
theorem f108_457 : pm_fetch 108 457 = some (.bipush 32, 2) := by decide +kernel
set_option maxRecDepth 100000 in
theorem f108_459 : pm_fetch 108 459 = some (.iastore, 1) := by decide +kernel
set_option maxRecDepth 100000 in
theorem f108_460 : pm_fetch 108 460 = some (.dup, 1) := by decide +kernel
set_option maxRecDepth 100000 in
theorem f108_461 : pm_fetch 108 461 = some (.bipush 14, 2) := by decide +kernel
set_option maxRecDepth 100000 in
theorem f108_463 : pm_fetch 108 463 = some (.bipush 32, 2) := by decide +kernel
set_option maxRecDepth 100000 in
theorem f108_465 : pm_fetch 108 465 = some (.iastore, 1) := by decide +kernel
set_option maxRecDepth 100000 in
theorem f108_466 : pm_fetch 108 466 = some (.dup, 1) := by decide +kernel
set_option maxRecDepth 100000 in
theorem f108_467 : pm_fetch 108 467 = some (.bipush 15, 2) := by decide +kernel
set_option maxRecDepth 100000 in
theorem f108_469 : pm_fetch 108 469 = some (.bipush 32, 2) := by decide +kernel
set_option maxRecDepth 100000 in
theorem f108_471 : pm_fetch 108 471 = some (.iastore, 1) := by decide +kernel
set_option maxRecDepth 100000 in
theorem f108_472 : pm_fetch 108 472 = some (.dup, 1) := by decide +kernel
set_option maxRecDepth 100000 in
theorem f108_473 : pm_fetch 108 473 = some (.bipush 16, 2) := by decide +kernel
set_option maxRecDepth 100000 in
theorem f108_475 : pm_fetch 108 475 = some (.bipush 110, 2) := by decide +kernel
set_option maxRecDepth 100000 in
theorem f108_477 : pm_fetch 108 477 = some (.iastore, 1) := by decide +kernel
set_option maxRecDepth 100000 in
theorem f108_478 : pm_fetch 108 478 = some (.dup, 1) := by decide +kernel
set_option maxRecDepth 100000 in
theorem f108_479 : pm_fetch 108 479 = some (.bipush 17, 2) := by decide +kernel
set_option maxRecDepth 100000 in
theorem f108_481 : pm_fetch 108 481 = some (.bipush 101, 2) := by decide +kernel
set_option maxRecDepth 100000 in
theorem f108_483 : pm_fetch 108 483 = some (.iastore, 1) := by decide +kernel
set_option maxRecDepth 100000 in
theorem f108_484 : pm_fetch 108 484 = some (.dup, 1) := by decide +kernel
set_option maxRecDepth 100000 in
theorem f108_485 : pm_fetch 108 485 = some (.bipush 18, 2) := by decide +kernel
set_option maxRecDepth 100000 in
theorem f108_487 : pm_fetch 108 487 = some (.bipush 101, 2) := by decide +kernel
set_option maxRecDepth 100000 in
theorem f108_489 : pm_fetch 108 489 = some (.iastore, 1) := by decide +kernel
set_option maxRecDepth 100000 in
theorem f108_490 : pm_fetch 108 490 = some (.dup, 1) := by decide +kernel
set_option maxRecDepth 100000 in
theorem f108_491 : pm_fetch 108 491 = some (.bipush 19, 2) := by decide +kernel
set_option maxRecDepth 100000 in
theorem f108_493 : pm_fetch 108 493 = some (.bipush 100, 2) := by decide +kernel
set_option maxRecDepth 100000 in
theorem f108_495 : pm_fetch 108 495 = some (.iastore, 1) := by decide +kernel
set_option maxRecDepth 100000 in
theorem f108_496 : pm_fetch 108 496 = some (.dup, 1) := by decide +kernel
set_option maxRecDepth 100000 in
theorem f108_497 : pm_fetch 108 497 = some (.bipush 20, 2) := by decide +kernel
set_option maxRecDepth 100000 in
theorem f108_499 : pm_fetch 108 499 = some (.bipush 115, 2) := by decide +kernel
set_option maxRecDepth 100000 in
theorem f108_501 : pm_fetch 108 501 = some (.iastore, 1) := by decide +kernel
set_option maxRecDepth 100000 in
theorem f108_502 : pm_fetch 108 502 = some (.dup, 1) := by decide +kernel
set_option maxRecDepth 100000 in
theorem f108_503 : pm_fetch 108 503 = some (.bipush 21, 2) := by decide +kernel
set_option maxRecDepth 100000 in
theorem f108_505 : pm_fetch 108 505 = some (.bipush 32, 2) := by decide +kernel
set_option maxRecDepth 100000 in
theorem f108_507 : pm_fetch 108 507 = some (.iastore, 1) := by decide +kernel
set_option maxRecDepth 100000 in
theorem f108_508 : pm_fetch 108 508 = some (.dup, 1) := by decide +kernel
set_option maxRecDepth 100000 in
theorem f108_509 : pm_fetch 108 509 = some (.bipush 22, 2) := by decide +kernel
set_option maxRecDepth 100000 in
theorem f108_511 : pm_fetch 108 511 = some (.bipush 32, 2) := by decide +kernel
set_option maxRecDepth 100000 in
theorem f108_513 : pm_fetch 108 513 = some (.iastore, 1) := by decide +kernel
set_option maxRecDepth 100000 in
theorem f108_514 : pm_fetch 108 514 = some (.dup, 1) := by decide +kernel
set_option maxRecDepth 100000 in
theorem f108_515 : pm_fetch 108 515 = some (.bipush 23, 2) := by decide +kernel
set_option maxRecDepth 100000 in
theorem f108_517 : pm_fetch 108 517 = some (.bipush 32, 2) := by decide +kernel
set_option maxRecDepth 100000 in
theorem f108_519 : pm_fetch 108 519 = some (.iastore, 1) := by decide +kernel
set_option maxRecDepth 100000 in
theorem f108_520 : pm_fetch 108 520 = some (.dup, 1) := by decide +kernel
set_option maxRecDepth 100000 in
theorem f108_521 : pm_fetch 108 521 = some (.bipush 24, 2) := by decide +kernel
set_option maxRecDepth 100000 in
theorem f108_523 : pm_fetch 108 523 = some (.bipush 104, 2) := by decide +kernel
set_option maxRecDepth 100000 in
theorem f108_525 : pm_fetch 108 525 = some (.iastore, 1) := by decide +kernel
set_option maxRecDepth 100000 in
theorem f108_526 : pm_fetch 108 526 = some (.dup, 1) := by decide +kernel
set_option maxRecDepth 100000 in
theorem f108_527 : pm_fetch 108 527 = some (.bipush 25, 2) := by decide +kernel
set_option maxRecDepth 100000 in
theorem f108_529 : pm_fetch 108 529 = some (.bipush 105, 2) := by decide +kernel
set_option maxRecDepth 100000 in
theorem f108_531 : pm_fetch 108 531 = some (.iastore, 1) := by decide +kernel
set_option maxRecDepth 100000 in
theorem f108_532 : pm_fetch 108 532 = some (.dup, 1) := by decide +kernel
set_option maxRecDepth 100000 in
theorem f108_533 : pm_fetch 108 533 = some (.bipush 26, 2) := by decide +kernel
set_option maxRecDepth 100000 in
theorem f108_535 : pm_fetch 108 535 = some (.bipush 103, 2) := by decide +kernel
set_option maxRecDepth 100000 in
theorem f108_537 : pm_fetch 108 537 = some (.iastore, 1) := by decide +kernel
set_option maxRecDepth 100000 in
theorem f108_538 : pm_fetch 108 538 = some (.dup, 1) := by decide +kernel
set_option maxRecDepth 100000 in
theorem f108_539 : pm_fetch 108 539 = some (.bipush 27, 2) := by decide +kernel
set_option maxRecDepth 100000 in
theorem f108_541 : pm_fetch 108 541 = some (.bipush 104, 2) := by decide +kernel
set_option maxRecDepth 100000 in
theorem f108_543 : pm_fetch 108 543 = some (.iastore, 1) := by decide +kernel
set_option maxRecDepth 100000 in
theorem f108_544 : pm_fetch 108 544 = some (.dup, 1) := by decide +kernel
set_option maxRecDepth 100000 in
theorem f108_545 : pm_fetch 108 545 = some (.bipush 28, 2) := by decide +kernel
set_option maxRecDepth 100000 in
theorem f108_547 : pm_fetch 108 547 = some (.bipush 32, 2) := by decide +kernel
set_option maxRecDepth 100000 in
theorem f108_549 : pm_fetch 108 549 = some (.iastore, 1) := by decide +kernel
set_option maxRecDepth 100000 in
theorem f108_550 : pm_fetch 108 550 = some (.dup, 1) := by decide +kernel
set_option maxRecDepth 100000 in
theorem f108_551 : pm_fetch 108 551 = some (.bipush 29, 2) := by decide +kernel
set_option maxRecDepth 100000 in
theorem f108_553 : pm_fetch 108 553 = some (.bipush 32, 2) := by decide +kernel
set_option maxRecDepth 100000 in
theorem f108_555 : pm_fetch 108 555 = some (.iastore, 1) := by decide +kernel
set_option maxRecDepth 100000 in
theorem f108_556 : pm_fetch 108 556 = some (.dup, 1) := by decide +kernel
set_option maxRecDepth 100000 in
theorem f108_557 : pm_fetch 108 557 = some (.bipush 30, 2) := by decide +kernel
set_option maxRecDepth 100000 in
theorem f108_559 : pm_fetch 108 559 = some (.bipush 32, 2) := by decide +kernel
set_option maxRecDepth 100000 in
theorem f108_561 : pm_fetch 108 561 = some (.iastore, 1) := by decide +kernel
set_option maxRecDepth 100000 in
theorem f108_562 : pm_fetch 108 562 = some (.dup, 1) := by decide +kernel
set_option maxRecDepth 100000 in
theorem f108_563 : pm_fetch 108 563 = some (.bipush 31, 2) := by decide +kernel
set_option maxRecDepth 100000 in
theorem f108_565 : pm_fetch 108 565 = some (.bipush 32, 2) := by decide +kernel
set_option maxRecDepth 100000 in
theorem f108_567 : pm_fetch 108 567 = some (.iastore, 1) := by decide +kernel
set_option maxRecDepth 100000 in
theorem f108_568 : pm_fetch 108 568 = some (.dup, 1) := by decide +kernel
set_option maxRecDepth 100000 in
theorem f108_569 : pm_fetch 108 569 = some (.bipush 32, 2) := by decide +kernel
set_option maxRecDepth 100000 in
theorem f108_571 : pm_fetch 108 571 = some (.bipush 97, 2) := by decide +kernel
set_option maxRecDepth 100000 in
theorem f108_573 : pm_fetch 108 573 = some (.iastore, 1) := by decide +kernel
set_option maxRecDepth 100000 in
theorem f108_574 : pm_fetch 108 574 = some (.dup, 1) := by decide +kernel
set_option maxRecDepth 100000 in
theorem f108_575 : pm_fetch 108 575 = some (.bipush 33, 2) := by decide +kernel
set_option maxRecDepth 100000 in
theorem f108_577 : pm_fetch 108 577 = some (.bipush 116, 2) := by decide +kernel
set_option maxRecDepth 100000 in
theorem f108_579 : pm_fetch 108 579 = some (.iastore, 1) := by decide +kernel
set_option maxRecDepth 100000 in
theorem f108_580 : pm_fetch 108 580 = some (.dup, 1) := by decide +kernel
set_option maxRecDepth 100000 in
theorem f108_581 : pm_fetch 108 581 = some (.bipush 34, 2) := by decide +kernel
set_option maxRecDepth 100000 in
theorem f108_583 : pm_fetch 108 583 = some (.bipush 32, 2) := by decide +kernel
set_option maxRecDepth 100000 in
theorem f108_585 : pm_fetch 108 585 = some (.iastore, 1) := by decide +kernel
set_option maxRecDepth 100000 in
theorem f108_586 : pm_fetch 108 586 = some (.dup, 1) := by decide +kernel
set_option maxRecDepth 100000 in
theorem f108_587 : pm_fetch 108 587 = some (.bipush 35, 2) := by decide +kernel
set_option maxRecDepth 100000 in
theorem f108_589 : pm_fetch 108 589 = some (.bipush 32, 2) := by decide +kernel
set_option maxRecDepth 100000 in
theorem f108_591 : pm_fetch 108 591 = some (.iastore, 1) := by decide +kernel
set_option maxRecDepth 100000 in
theorem f108_592 : pm_fetch 108 592 = some (.dup, 1) := by decide +kernel
set_option maxRecDepth 100000 in
theorem f108_593 : pm_fetch 108 593 = some (.bipush 36, 2) := by decide +kernel
set_option maxRecDepth 100000 in
theorem f108_595 : pm_fetch 108 595 = some (.bipush 32, 2) := by decide +kernel
set_option maxRecDepth 100000 in
theorem f108_597 : pm_fetch 108 597 = some (.iastore, 1) := by decide +kernel
set_option maxRecDepth 100000 in
theorem f108_598 : pm_fetch 108 598 = some (.dup, 1) := by decide +kernel
set_option maxRecDepth 100000 in
theorem f108_599 : pm_fetch 108 599 = some (.bipush 37, 2) := by decide +kernel
set_option maxRecDepth 100000 in
theorem f108_601 : pm_fetch 108 601 = some (.bipush 32, 2) := by decide +kernel
set_option maxRecDepth 100000 in
theorem f108_603 : pm_fetch 108 603 = some (.iastore, 1) := by decide +kernel
set_option maxRecDepth 100000 in
theorem f108_604 : pm_fetch 108 604 = some (.dup, 1) := by decide +kernel
set_option maxRecDepth 100000 in
theorem f108_605 : pm_fetch 108 605 = some (.bipush 38, 2) := by decide +kernel
set_option maxRecDepth 100000 in
theorem f108_607 : pm_fetch 108 607 = some (.bipush 32, 2) := by decide +kernel
set_option maxRecDepth 100000 in
theorem f108_609 : pm_fetch 108 609 = some (.iastore, 1) := by decide +kernel
set_option maxRecDepth 100000 in
theorem f108_610 : pm_fetch 108 610 = some (.dup, 1) := by decide +kernel
set_option maxRecDepth 100000 in
theorem f108_611 : pm_fetch 108 611 = some (.bipush 39, 2) := by decide +kernel
set_option maxRecDepth 100000 in
theorem f108_613 : pm_fetch 108 613 = some (.bipush 32, 2) := by decide +kernel
set_option maxRecDepth 100000 in
theorem f108_615 : pm_fetch 108 615 = some (.iastore, 1) := by decide +kernel
set_option maxRecDepth 100000 in
theorem f108_616 : pm_fetch 108 616 = some (.dup, 1) := by decide +kernel
set_option maxRecDepth 100000 in
theorem f108_617 : pm_fetch 108 617 = some (.bipush 40, 2) := by decide +kernel
set_option maxRecDepth 100000 in
theorem f108_619 : pm_fetch 108 619 = some (.bipush 108, 2) := by decide +kernel
set_option maxRecDepth 100000 in
theorem f108_621 : pm_fetch 108 621 = some (.iastore, 1) := by decide +kernel
set_option maxRecDepth 100000 in
theorem f108_622 : pm_fetch 108 622 = some (.dup, 1) := by decide +kernel
set_option maxRecDepth 100000 in
theorem f108_623 : pm_fetch 108 623 = some (.bipush 41, 2) := by decide +kernel
set_option maxRecDepth 100000 in
theorem f108_625 : pm_fetch 108 625 = some (.bipush 111, 2) := by decide +kernel
set_option maxRecDepth 100000 in
theorem f108_627 : pm_fetch 108 627 = some (.iastore, 1) := by decide +kernel
set_option maxRecDepth 100000 in
theorem f108_628 : pm_fetch 108 628 = some (.dup, 1) := by decide +kernel
set_option maxRecDepth 100000 in
theorem f108_629 : pm_fetch 108 629 = some (.bipush 42, 2) := by decide +kernel
set_option maxRecDepth 100000 in
theorem f108_631 : pm_fetch 108 631 = some (.bipush 110, 2) := by decide +kernel
set_option maxRecDepth 100000 in
theorem f108_633 : pm_fetch 108 633 = some (.iastore, 1) := by decide +kernel
set_option maxRecDepth 100000 in
theorem f108_634 : pm_fetch 108 634 = some (.dup, 1) := by decide +kernel
set_option maxRecDepth 100000 in
theorem f108_635 : pm_fetch 108 635 = some (.bipush 43, 2) := by decide +kernel
set_option maxRecDepth 100000 in
theorem f108_637 : pm_fetch 108 637 = some (.bipush 103, 2) := by decide +kernel
set_option maxRecDepth 100000 in
theorem f108_639 : pm_fetch 108 639 = some (.iastore, 1) := by decide +kernel
set_option maxRecDepth 100000 in
theorem f108_640 : pm_fetch 108 640 = some (.dup, 1) := by decide +kernel
set_option maxRecDepth 100000 in
theorem f108_641 : pm_fetch 108 641 = some (.bipush 44, 2) := by decide +kernel
set_option maxRecDepth 100000 in
theorem f108_643 : pm_fetch 108 643 = some (.bipush 32, 2) := by decide +kernel
set_option maxRecDepth 100000 in
theorem f108_645 : pm_fetch 108 645 = some (.iastore, 1) := by decide +kernel
set_option maxRecDepth 100000 in
theorem f108_646 : pm_fetch 108 646 = some (.dup, 1) := by decide +kernel
set_option maxRecDepth 100000 in
theorem f108_647 : pm_fetch 108 647 = some (.bipush 45, 2) := by decide +kernel
set_option maxRecDepth 100000 in
theorem f108_649 : pm_fetch 108 649 = some (.bipush 32, 2) := by decide +kernel
set_option maxRecDepth 100000 in
theorem f108_651 : pm_fetch 108 651 = some (.iastore, 1) := by decide +kernel
set_option maxRecDepth 100000 in
theorem f108_652 : pm_fetch 108 652 = some (.dup, 1) := by decide +kernel
set_option maxRecDepth 100000 in
theorem f108_653 : pm_fetch 108 653 = some (.bipush 46, 2) := by decide +kernel
set_option maxRecDepth 100000 in
theorem f108_655 : pm_fetch 108 655 = some (.bipush 32, 2) := by decide +kernel
set_option maxRecDepth 100000 in
theorem f108_657 : pm_fetch 108 657 = some (.iastore, 1) := by decide +kernel
set_option maxRecDepth 100000 in
theorem f108_658 : pm_fetch 108 658 = some (.dup, 1) := by decide +kernel
set_option maxRecDepth 100000 in
theorem f108_659 : pm_fetch 108 659 = some (.bipush 47, 2) := by decide +kernel
set_option maxRecDepth 100000 in
theorem f108_661 : pm_fetch 108 661 = some (.bipush 32, 2) := by decide +kernel
set_option maxRecDepth 100000 in
theorem f108_663 : pm_fetch 108 663 = some (.iastore, 1) := by decide +kernel
set_option maxRecDepth 100000 in
theorem f108_664 : pm_fetch 108 664 = some (.dup, 1) := by decide +kernel
set_option maxRecDepth 100000 in
theorem f108_665 : pm_fetch 108 665 = some (.bipush 48, 2) := by decide +kernel
set_option maxRecDepth 100000 in
theorem f108_667 : pm_fetch 108 667 = some (.bipush 99, 2) := by decide +kernel
set_option maxRecDepth 100000 in
theorem f108_669 : pm_fetch 108 669 = some (.iastore, 1) := by decide +kernel
set_option maxRecDepth 100000 in
theorem f108_670 : pm_fetch 108 670 = some (.dup, 1) := by decide +kernel
set_option maxRecDepth 100000 in
theorem f108_671 : pm_fetch 108 671 = some (.bipush 49, 2) := by decide +kernel
set_option maxRecDepth 100000 in
theorem f108_673 : pm_fetch 108 673 = some (.bipush 108, 2) := by decide +kernel
set_option maxRecDepth 100000 in
theorem f108_675 : pm_fetch 108 675 = some (.iastore, 1) := by decide +kernel
set_option maxRecDepth 100000 in
theorem f108_676 : pm_fetch 108 676 = some (.dup, 1) := by decide +kernel
set_option maxRecDepth 100000 in
theorem f108_677 : pm_fetch 108 677 = some (.bipush 50, 2) := by decide +kernel
set_option maxRecDepth 100000 in
theorem f108_679 : pm_fetch 108 679 = some (.bipush 111, 2) := by decide +kernel
set_option maxRecDepth 100000 in
theorem f108_681 : pm_fetch 108 681 = some (.iastore, 1) := by decide +kernel
set_option maxRecDepth 100000 in
theorem f108_682 : pm_fetch 108 682 = some (.dup, 1) := by decide +kernel
set_option maxRecDepth 100000 in
theorem f108_683 : pm_fetch 108 683 = some (.bipush 51, 2) := by decide +kernel
set_option maxRecDepth 100000 in
theorem f108_685 : pm_fetch 108 685 = some (.bipush 118, 2) := by decide +kernel
set_option maxRecDepth 100000 in
theorem f108_687 : pm_fetch 108 687 = some (.iastore, 1) := by decide +kernel
set_option maxRecDepth 100000 in
theorem f108_688 : pm_fetch 108 688 = some (.dup, 1) := by decide +kernel
set_option maxRecDepth 100000 in
theorem f108_689 : pm_fetch 108 689 = some (.bipush 52, 2) := by decide +kernel
set_option maxRecDepth 100000 in
theorem f108_691 : pm_fetch 108 691 = some (.bipush 101, 2) := by decide +kernel
set_option maxRecDepth 100000 in
theorem f108_693 : pm_fetch 108 693 = some (.iastore, 1) := by decide +kernel
set_option maxRecDepth 100000 in
theorem f108_694 : pm_fetch 108 694 = some (.dup, 1) := by decide +kernel
set_option maxRecDepth 100000 in
theorem f108_695 : pm_fetch 108 695 = some (.bipush 53, 2) := by decide +kernel
set_option maxRecDepth 100000 in
theorem f108_697 : pm_fetch 108 697 = some (.bipush 114, 2) := by decide +kernel
set_option maxRecDepth 100000 in
theorem f108_699 : pm_fetch 108 699 = some (.iastore, 1) := by decide +kernel
set_option maxRecDepth 100000 in
theorem f108_700 : pm_fetch 108 700 = some (.dup, 1) := by decide +kernel
set_option maxRecDepth 100000 in
theorem f108_701 : pm_fetch 108 701 = some (.bipush 54, 2) := by decide +kernel
set_option maxRecDepth 100000 in
theorem f108_703 : pm_fetch 108 703 = some (.bipush 32, 2) := by decide +kernel
set_option maxRecDepth 100000 in
theorem f108_705 : pm_fetch 108 705 = some (.iastore, 1) := by decide +kernel
set_option maxRecDepth 100000 in
theorem f108_706 : pm_fetch 108 706 = some (.dup, 1) := by decide +kernel
set_option maxRecDepth 100000 in
theorem f108_707 : pm_fetch 108 707 = some (.bipush 55, 2) := by decide +kernel
set_option maxRecDepth 100000 in
theorem f108_709 : pm_fetch 108 709 = some (.bipush 32, 2) := by decide +kernel
set_option maxRecDepth 100000 in
theorem f108_711 : pm_fetch 108 711 = some (.iastore, 1) := by decide +kernel
set_option maxRecDepth 100000 in
theorem f108_712 : pm_fetch 108 712 = some (.dup, 1) := by decide +kernel
set_option maxRecDepth 100000 in
theorem f108_713 : pm_fetch 108 713 = some (.bipush 56, 2) := by decide +kernel
set_option maxRecDepth 100000 in
theorem f108_715 : pm_fetch 108 715 = some (.bipush 121, 2) := by decide +kernel
set_option maxRecDepth 100000 in
theorem f108_717 : pm_fetch 108 717 = some (.iastore, 1) := by decide +kernel
set_option maxRecDepth 100000 in
theorem f108_718 : pm_fetch 108 718 = some (.dup, 1) := by decide +kernel
set_option maxRecDepth 100000 in
theorem f108_719 : pm_fetch 108 719 = some (.bipush 57, 2) := by decide +kernel
set_option maxRecDepth 100000 in
theorem f108_721 : pm_fetch 108 721 = some (.bipush 101, 2) := by decide +kernel
set_option maxRecDepth 100000 in
theorem f108_723 : pm_fetch 108 723 = some (.iastore, 1) := by decide +kernel
set_option maxRecDepth 100000 in
theorem f108_724 : pm_fetch 108 724 = some (.dup, 1) := by decide +kernel
set_option maxRecDepth 100000 in
theorem f108_725 : pm_fetch 108 725 = some (.bipush 58, 2) := by decide +kernel
set_option maxRecDepth 100000 in
theorem f108_727 : pm_fetch 108 727 = some (.bipush 97, 2) := by decide +kernel
set_option maxRecDepth 100000 in
theorem f108_729 : pm_fetch 108 729 = some (.iastore, 1) := by decide +kernel
set_option maxRecDepth 100000 in
theorem f108_730 : pm_fetch 108 730 = some (.dup, 1) := by decide +kernel
set_option maxRecDepth 100000 in
theorem f108_731 : pm_fetch 108 731 = some (.bipush 59, 2) := by decide +kernel
set_option maxRecDepth 100000 in
theorem f108_733 : pm_fetch 108 733 = some (.bipush 114, 2) := by decide +kernel
set_option maxRecDepth 100000 in
theorem f108_735 : pm_fetch 108 735 = some (.iastore, 1) := by decide +kernel
set_option maxRecDepth 100000 in
theorem f108_736 : pm_fetch 108 736 = some (.dup, 1) := by decide +kernel
set_option maxRecDepth 100000 in
theorem f108_737 : pm_fetch 108 737 = some (.bipush 60, 2) := by decide +kernel
set_option maxRecDepth 100000 in
theorem f108_739 : pm_fetch 108 739 = some (.bipush 32, 2) := by decide +kernel
set_option maxRecDepth 100000 in
theorem f108_741 : pm_fetch 108 741 = some (.iastore, 1) := by decide +kernel
set_option maxRecDepth 100000 in
theorem f108_742 : pm_fetch 108 742 = some (.dup, 1) := by decide +kernel
set_option maxRecDepth 100000 in
theorem f108_743 : pm_fetch 108 743 = some (.bipush 61, 2) := by decide +kernel
set_option maxRecDepth 100000 in
theorem f108_745 : pm_fetch 108 745 = some (.bipush 32, 2) := by decide +kernel
set_option maxRecDepth 100000 in
theorem f108_747 : pm_fetch 108 747 = some (.iastore, 1) := by decide +kernel
set_option maxRecDepth 100000 in
theorem f108_748 : pm_fetch 108 748 = some (.dup, 1) := by decide +kernel
set_option maxRecDepth 100000 in
theorem f108_749 : pm_fetch 108 749 = some (.bipush 62, 2) := by decide +kernel
set_option maxRecDepth 100000 in
theorem f108_751 : pm_fetch 108 751 = some (.bipush 32, 2) := by decide +kernel
set_option maxRecDepth 100000 in
theorem f108_753 : pm_fetch 108 753 = some (.iastore, 1) := by decide +kernel
set_option maxRecDepth 100000 in
theorem f108_754 : pm_fetch 108 754 = some (.dup, 1) := by decide +kernel
set_option maxRecDepth 100000 in
theorem f108_755 : pm_fetch 108 755 = some (.bipush 63, 2) := by decide +kernel
set_option maxRecDepth 100000 in
theorem f108_757 : pm_fetch 108 757 = some (.bipush 32, 2) := by decide +kernel
set_option maxRecDepth 100000 in
theorem f108_759 : pm_fetch 108 759 = some (.iastore, 1) := by decide +kernel
set_option maxRecDepth 100000 in
theorem f108_760 : pm_fetch 108 760 = some (.dup, 1) := by decide +kernel
set_option maxRecDepth 100000 in
theorem f108_761 : pm_fetch 108 761 = some (.bipush 64, 2) := by decide +kernel
set_option maxRecDepth 100000 in
theorem f108_763 : pm_fetch 108 763 = some (.bipush 109, 2) := by decide +kernel
set_option maxRecDepth 100000 in
theorem f108_765 : pm_fetch 108 765 = some (.iastore, 1) := by decide +kernel
set_option maxRecDepth 100000 in
theorem f108_766 : pm_fetch 108 766 = some (.dup, 1) := by decide +kernel
set_option maxRecDepth 100000 in
theorem f108_767 : pm_fetch 108 767 = some (.bipush 65, 2) := by decide +kernel
set_option maxRecDepth 100000 in
theorem f108_769 : pm_fetch 108 769 = some (.bipush 111, 2) := by decide +kernel
set_option maxRecDepth 100000 in
theorem f108_771 : pm_fetch 108 771 = some (.iastore, 1) := by decide +kernel
set_option maxRecDepth 100000 in
theorem f108_772 : pm_fetch 108 772 = some (.dup, 1) := by decide +kernel
set_option maxRecDepth 100000 in
theorem f108_773 : pm_fetch 108 773 = some (.bipush 66, 2) := by decide +kernel
set_option maxRecDepth 100000 in
theorem f108_775 : pm_fetch 108 775 = some (.bipush 114, 2) := by decide +kernel
set_option maxRecDepth 100000 in
theorem f108_777 : pm_fetch 108 777 = some (.iastore, 1) := by decide +kernel
set_option maxRecDepth 100000 in
theorem f108_778 : pm_fetch 108 778 = some (.dup, 1) := by decide +kernel
set_option maxRecDepth 100000 in
theorem f108_779 : pm_fetch 108 779 = some (.bipush 67, 2) := by decide +kernel
set_option maxRecDepth 100000 in
theorem f108_781 : pm_fetch 108 781 = some (.bipush 101, 2) := by decide +kernel
set_option maxRecDepth 100000 in
theorem f108_783 : pm_fetch 108 783 = some (.iastore, 1) := by decide +kernel
set_option maxRecDepth 100000 in
theorem f108_784 : pm_fetch 108 784 = some (.dup, 1) := by decide +kernel
set_option maxRecDepth 100000 in
theorem f108_785 : pm_fetch 108 785 = some (.bipush 68, 2) := by decide +kernel
set_option maxRecDepth 100000 in
theorem f108_787 : pm_fetch 108 787 = some (.bipush 32, 2) := by decide +kernel
set_option maxRecDepth 100000 in
theorem f108_789 : pm_fetch 108 789 = some (.iastore, 1) := by decide +kernel
set_option maxRecDepth 100000 in
theorem f108_790 : pm_fetch 108 790 = some (.dup, 1) := by decide +kernel
set_option maxRecDepth 100000 in
theorem f108_791 : pm_fetch 108 791 = some (.bipush 69, 2) := by decide +kernel
set_option maxRecDepth 100000 in
theorem f108_793 : pm_fetch 108 793 = some (.bipush 32, 2) := by decide +kernel
set_option maxRecDepth 100000 in
theorem f108_795 : pm_fetch 108 795 = some (.iastore, 1) := by decide +kernel
set_option maxRecDepth 100000 in
theorem f108_796 : pm_fetch 108 796 = some (.dup, 1) := by decide +kernel
set_option maxRecDepth 100000 in
theorem f108_797 : pm_fetch 108 797 = some (.bipush 70, 2) := by decide +kernel
set_option maxRecDepth 100000 in
theorem f108_799 : pm_fetch 108 799 = some (.bipush 32, 2) := by decide +kernel
set_option maxRecDepth 100000 in
theorem f108_801 : pm_fetch 108 801 = some (.iastore, 1) := by decide +kernel
set_option maxRecDepth 100000 in
theorem f108_802 : pm_fetch 108 802 = some (.dup, 1) := by decide +kernel
set_option maxRecDepth 100000 in
theorem f108_803 : pm_fetch 108 803 = some (.bipush 71, 2) := by decide +kernel
set_option maxRecDepth 100000 in
theorem f108_805 : pm_fetch 108 805 = some (.bipush 32, 2) := by decide +kernel
set_option maxRecDepth 100000 in
theorem f108_807 : pm_fetch 108 807 = some (.iastore, 1) := by decide +kernel
set_option maxRecDepth 100000 in
theorem f108_808 : pm_fetch 108 808 = some (.dup, 1) := by decide +kernel
set_option maxRecDepth 100000 in
theorem f108_809 : pm_fetch 108 809 = some (.bipush 72, 2) := by decide +kernel
set_option maxRecDepth 100000 in
theorem f108_811 : pm_fetch 108 811 = some (.bipush 111, 2) := by decide +kernel
set_option maxRecDepth 100000 in
theorem f108_813 : pm_fetch 108 813 = some (.iastore, 1) := by decide +kernel
set_option maxRecDepth 100000 in
theorem f108_814 : pm_fetch 108 814 = some (.dup, 1) := by decide +kernel
set_option maxRecDepth 100000 in
theorem f108_815 : pm_fetch 108 815 = some (.bipush 73, 2) := by decide +kernel
set_option maxRecDepth 100000 in
theorem f108_817 : pm_fetch 108 817 = some (.bipush 114, 2) := by decide +kernel
set_option maxRecDepth 100000 in
theorem f108_819 : pm_fetch 108 819 = some (.iastore, 1) := by decide +kernel
set_option maxRecDepth 100000 in
theorem f108_820 : pm_fetch 108 820 = some (.dup, 1) := by decide +kernel
set_option maxRecDepth 100000 in
theorem f108_821 : pm_fetch 108 821 = some (.bipush 74, 2) := by decide +kernel
set_option maxRecDepth 100000 in
theorem f108_823 : pm_fetch 108 823 = some (.bipush 32, 2) := by decide +kernel
set_option maxRecDepth 100000 in
theorem f108_825 : pm_fetch 108 825 = some (.iastore, 1) := by decide +kernel
set_option maxRecDepth 100000 in
theorem f108_826 : pm_fetch 108 826 = some (.dup, 1) := by decide +kernel
set_option maxRecDepth 100000 in
theorem f108_827 : pm_fetch 108 827 = some (.bipush 75, 2) := by decide +kernel
set_option maxRecDepth 100000 in
theorem f108_829 : pm_fetch 108 829 = some (.bipush 32, 2) := by decide +kernel
set_option maxRecDepth 100000 in
theorem f108_831 : pm_fetch 108 831 = some (.iastore, 1) := by decide +kernel
set_option maxRecDepth 100000 in
theorem f108_832 : pm_fetch 108 832 = some (.dup, 1) := by decide +kernel
set_option maxRecDepth 100000 in
theorem f108_833 : pm_fetch 108 833 = some (.bipush 76, 2) := by decide +kernel
set_option maxRecDepth 100000 in
theorem f108_835 : pm_fetch 108 835 = some (.bipush 32, 2) := by decide +kernel
set_option maxRecDepth 100000 in
theorem f108_837 : pm_fetch 108 837 = some (.iastore, 1) := by decide +kernel
set_option maxRecDepth 100000 in
theorem f108_838 : pm_fetch 108 838 = some (.dup, 1) := by decide +kernel
set_option maxRecDepth 100000 in
theorem f108_839 : pm_fetch 108 839 = some (.bipush 77, 2) := by decide +kernel
set_option maxRecDepth 100000 in
theorem f108_841 : pm_fetch 108 841 = some (.bipush 32, 2) := by decide +kernel
set_option maxRecDepth 100000 in
theorem f108_843 : pm_fetch 108 843 = some (.iastore, 1) := by decide +kernel
set_option maxRecDepth 100000 in
theorem f108_844 : pm_fetch 108 844 = some (.dup, 1) := by decide +kernel
set_option maxRecDepth 100000 in
theorem f108_845 : pm_fetch 108 845 = some (.bipush 78, 2) := by decide +kernel
set_option maxRecDepth 100000 in
theorem f108_847 : pm_fetch 108 847 = some (.bipush 32, 2) := by decide +kernel
set_option maxRecDepth 100000 in
theorem f108_849 : pm_fetch 108 849 = some (.iastore, 1) := by decide +kernel
set_option maxRecDepth 100000 in
theorem f108_850 : pm_fetch 108 850 = some (.dup, 1) := by decide +kernel
set_option maxRecDepth 100000 in
theorem f108_851 : pm_fetch 108 851 = some (.bipush 79, 2) := by decide +kernel
set_option maxRecDepth 100000 in
theorem f108_853 : pm_fetch 108 853 = some (.bipush 32, 2) := by decide +kernel
set_option maxRecDepth 100000 in
theorem f108_855 : pm_fetch 108 855 = some (.iastore, 1) := by decide +kernel
set_option maxRecDepth 100000 in
theorem f108_856 : pm_fetch 108 856 = some (.dup, 1) := by decide +kernel
set_option maxRecDepth 100000 in
theorem f108_857 : pm_fetch 108 857 = some (.bipush 80, 2) := by decide +kernel
set_option maxRecDepth 100000 in
theorem f108_859 : pm_fetch 108 859 = some (.bipush 97, 2) := by decide +kernel
set_option maxRecDepth 100000 in
theorem f108_861 : pm_fetch 108 861 = some (.iastore, 1) := by decide +kernel
set_option maxRecDepth 100000 in
theorem f108_862 : pm_fetch 108 862 = some (.dup, 1) := by decide +kernel
set_option maxRecDepth 100000 in
theorem f108_863 : pm_fetch 108 863 = some (.bipush 81, 2) := by decide +kernel
set_option maxRecDepth 100000 in
theorem f108_865 : pm_fetch 108 865 = some (.bipush 110, 2) := by decide +kernel
set_option maxRecDepth 100000 in
theorem f108_867 : pm_fetch 108 867 = some (.iastore, 1) := by decide +kernel
set_option maxRecDepth 100000 in
theorem f108_868 : pm_fetch 108 868 = some (.dup, 1) := by decide +kernel
set_option maxRecDepth 100000 in
theorem f108_869 : pm_fetch 108 869 = some (.bipush 82, 2) := by decide +kernel
set_option maxRecDepth 100000 in
theorem f108_871 : pm_fetch 108 871 = some (.bipush 100, 2) := by decide +kernel
set_option maxRecDepth 100000 in
theorem f108_873 : pm_fetch 108 873 = some (.iastore, 1) := by decide +kernel
set_option maxRecDepth 100000 in
theorem f108_874 : pm_fetch 108 874 = some (.dup, 1) := by decide +kernel
set_option maxRecDepth 100000 in
theorem f108_875 : pm_fetch 108 875 = some (.bipush 83, 2) := by decide +kernel
set_option maxRecDepth 100000 in
theorem f108_877 : pm_fetch 108 877 = some (.bipush 32, 2) := by decide +kernel
set_option maxRecDepth 100000 in
theorem f108_879 : pm_fetch 108 879 = some (.iastore, 1) := by decide +kernel
set_option maxRecDepth 100000 in
theorem f108_880 : pm_fetch 108 880 = some (.dup, 1) := by decide +kernel
set_option maxRecDepth 100000 in
theorem f108_881 : pm_fetch 108 881 = some (.bipush 84, 2) := by decide +kernel
set_option maxRecDepth 100000 in
theorem f108_883 : pm_fetch 108 883 = some (.bipush 32, 2) := by decide +kernel
set_option maxRecDepth 100000 in
theorem f108_885 : pm_fetch 108 885 = some (.iastore, 1) := by decide +kernel
set_option maxRecDepth 100000 in
theorem f108_886 : pm_fetch 108 886 = some (.dup, 1) := by decide +kernel
set_option maxRecDepth 100000 in
theorem f108_887 : pm_fetch 108 887 = some (.bipush 85, 2) := by decide +kernel
set_option maxRecDepth 100000 in
theorem f108_889 : pm_fetch 108 889 = some (.bipush 32, 2) := by decide +kernel
set_option maxRecDepth 100000 in
theorem f108_891 : pm_fetch 108 891 = some (.iastore, 1) := by decide +kernel
set_option maxRecDepth 100000 in
theorem f108_892 : pm_fetch 108 892 = some (.dup, 1) := by decide +kernel
set_option maxRecDepth 100000 in
theorem f108_893 : pm_fetch 108 893 = some (.bipush 86, 2) := by decide +kernel
set_option maxRecDepth 100000 in
theorem f108_895 : pm_fetch 108 895 = some (.bipush 32, 2) := by decide +kernel
set_option maxRecDepth 100000 in
theorem f108_897 : pm_fetch 108 897 = some (.iastore, 1) := by decide +kernel
set_option maxRecDepth 100000 in
theorem f108_898 : pm_fetch 108 898 = some (.dup, 1) := by decide +kernel
set_option maxRecDepth 100000 in
theorem f108_899 : pm_fetch 108 899 = some (.bipush 87, 2) := by decide +kernel
set_option maxRecDepth 100000 in
theorem f108_901 : pm_fetch 108 901 = some (.bipush 32, 2) := by decide +kernel
set_option maxRecDepth 100000 in
theorem f108_903 : pm_fetch 108 903 = some (.iastore, 1) := by decide +kernel
set_option maxRecDepth 100000 in
theorem f108_904 : pm_fetch 108 904 = some (.dup, 1) := by decide +kernel
set_option maxRecDepth 100000 in
theorem f108_905 : pm_fetch 108 905 = some (.bipush 88, 2) := by decide +kernel
set_option maxRecDepth 100000 in
theorem f108_907 : pm_fetch 108 907 = some (.bipush 110, 2) := by decide +kernel
set_option maxRecDepth 100000 in
theorem f108_909 : pm_fetch 108 909 = some (.iastore, 1) := by decide +kernel
set_option maxRecDepth 100000 in
theorem f108_910 : pm_fetch 108 910 = some (.dup, 1) := by decide +kernel
set_option maxRecDepth 100000 in
theorem f108_911 : pm_fetch 108 911 = some (.bipush 89, 2) := by decide +kernel
set_option maxRecDepth 100000 in
theorem f108_913 : pm_fetch 108 913 = some (.bipush 111, 2) := by decide +kernel
set_option maxRecDepth 100000 in
theorem f108_915 : pm_fetch 108 915 = some (.iastore, 1) := by decide +kernel
set_option maxRecDepth 100000 in
theorem f108_916 : pm_fetch 108 916 = some (.dup, 1) := by decide +kernel
set_option maxRecDepth 100000 in
theorem f108_917 : pm_fetch 108 917 = some (.bipush 90, 2) := by decide +kernel
set_option maxRecDepth 100000 in
theorem f108_919 : pm_fetch 108 919 = some (.bipush 116, 2) := by decide +kernel
set_option maxRecDepth 100000 in
theorem f108_921 : pm_fetch 108 921 = some (.iastore, 1) := by decide +kernel
set_option maxRecDepth 100000 in
theorem f108_922 : pm_fetch 108 922 = some (.dup, 1) := by decide +kernel
set_option maxRecDepth 100000 in
theorem f108_923 : pm_fetch 108 923 = some (.bipush 91, 2) := by decide +kernel
set_option maxRecDepth 100000 in
theorem f108_925 : pm_fetch 108 925 = some (.bipush 32, 2) := by decide +kernel
set_option maxRecDepth 100000 in
theorem f108_927 : pm_fetch 108 927 = some (.iastore, 1) := by decide +kernel
set_option maxRecDepth 100000 in
theorem f108_928 : pm_fetch 108 928 = some (.dup, 1) := by decide +kernel
set_option maxRecDepth 100000 in
theorem f108_929 : pm_fetch 108 929 = some (.bipush 92, 2) := by decide +kernel
set_option maxRecDepth 100000 in
theorem f108_931 : pm_fetch 108 931 = some (.bipush 32, 2) := by decide +kernel
set_option maxRecDepth 100000 in
theorem f108_933 : pm_fetch 108 933 = some (.iastore, 1) := by decide +kernel
set_option maxRecDepth 100000 in
theorem f108_934 : pm_fetch 108 934 = some (.dup, 1) := by decide +kernel
set_option maxRecDepth 100000 in
theorem f108_935 : pm_fetch 108 935 = some (.bipush 93, 2) := by decide +kernel
set_option maxRecDepth 100000 in
theorem f108_937 : pm_fetch 108 937 = some (.bipush 32, 2) := by decide +kernel
set_option maxRecDepth 100000 in
theorem f108_939 : pm_fetch 108 939 = some (.iastore, 1) := by decide +kernel
set_option maxRecDepth 100000 in
theorem f108_940 : pm_fetch 108 940 = some (.dup, 1) := by decide +kernel
set_option maxRecDepth 100000 in
theorem f108_941 : pm_fetch 108 941 = some (.bipush 94, 2) := by decide +kernel
set_option maxRecDepth 100000 in
theorem f108_943 : pm_fetch 108 943 = some (.bipush 32, 2) := by decide +kernel
set_option maxRecDepth 100000 in
theorem f108_945 : pm_fetch 108 945 = some (.iastore, 1) := by decide +kernel
set_option maxRecDepth 100000 in
theorem f108_946 : pm_fetch 108 946 = some (.dup, 1) := by decide +kernel
set_option maxRecDepth 100000 in
theorem f108_947 : pm_fetch 108 947 = some (.bipush 95, 2) := by decide +kernel
set_option maxRecDepth 100000 in
theorem f108_949 : pm_fetch 108 949 = some (.bipush 32, 2) := by decide +kernel
set_option maxRecDepth 100000 in
theorem f108_951 : pm_fetch 108 951 = some (.iastore, 1) := by decide +kernel
set_option maxRecDepth 100000 in
theorem f108_952 : pm_fetch 108 952 = some (.putfield 53, 3) := by decide +kernel
set_option maxRecDepth 100000 in
theorem f108_955 : pm_fetch 108 955 = some (.aload_n 0, 1) := by decide +kernel
set_option maxRecDepth 100000 in
theorem f108_956 : pm_fetch 108 956 = some (.sipush 200, 3) := by decide +kernel
set_option maxRecDepth 100000 in
theorem f108_959 : pm_fetch 108 959 = some (.newarray .int, 2) := by decide +kernel
set_option maxRecDepth 100000 in
theorem f108_961 : pm_fetch 108 961 = some (.putfield 56, 3) := by decide +kernel
set_option maxRecDepth 100000 in
theorem f108_964 : pm_fetch 108 964 = some (.aload_n 0, 1) := by decide +kernel
set_option maxRecDepth 100000 in
theorem f108_965 : pm_fetch 108 965 = some (.sipush 200, 3) := by decide +kernel
set_option maxRecDepth 100000 in
theorem f108_968 : pm_fetch 108 968 = some (.newarray .int, 2) := by decide +kernel
set_option maxRecDepth 100000 in
theorem f108_970 : pm_fetch 108 970 = some (.putfield 59, 3) := by decide +kernel
set_option maxRecDepth 100000 in
theorem f108_973 : pm_fetch 108 973 = some (.aload_n 0, 1) := by decide +kernel
set_option maxRecDepth 100000 in
theorem f108_974 : pm_fetch 108 974 = some (.bipush 6, 2) := by decide +kernel
set_option maxRecDepth 100000 in
theorem f108_976 : pm_fetch 108 976 = some (.newarray .int, 2) := by decide +kernel
set_option maxRecDepth 100000 in
theorem f108_978 : pm_fetch 108 978 = some (.putfield 62, 3) := by decide +kernel
set_option maxRecDepth 100000 in
theorem f108_981 : pm_fetch 108 981 = some (.aload_n 0, 1) := by decide +kernel
set_option maxRecDepth 100000 in
theorem f108_982 : pm_fetch 108 982 = some (.bipush 25, 2) := by decide +kernel
set_option maxRecDepth 100000 in
theorem f108_984 : pm_fetch 108 984 = some (.newarray .int, 2) := by decide +kernel
set_option maxRecDepth 100000 in
theorem f108_986 : pm_fetch 108 986 = some (.putfield 65, 3) := by decide +kernel
set_option maxRecDepth 100000 in
theorem f108_989 : pm_fetch 108 989 = some (.aload_n 0, 1) := by decide +kernel
set_option maxRecDepth 100000 in
theorem f108_990 : pm_fetch 108 990 = some (.bipush 40, 2) := by decide +kernel
set_option maxRecDepth 100000 in
theorem f108_992 : pm_fetch 108 992 = some (.newarray .int, 2) := by decide +kernel
set_option maxRecDepth 100000 in
theorem f108_994 : pm_fetch 108 994 = some (.putfield 68, 3) := by decide +kernel
set_option maxRecDepth 100000 in
theorem f108_997 : pm_fetch 108 997 = some (.iconst 0, 1) := by decide +kernel
set_option maxRecDepth 100000 in
theorem f108_998 : pm_fetch 108 998 = some (.istore_n 1, 1) := by decide +kernel
set_option maxRecDepth 100000 in
theorem f108_999 : pm_fetch 108 999 = some (.iload_n 1, 1) := by decide +kernel
set_option maxRecDepth 100000 in
theorem f108_1000 : pm_fetch 108 1000 = some (.bipush 42, 2) := by decide +kernel
set_option maxRecDepth 100000 in
theorem f108_1002 : pm_fetch 108 1002 = some (.if_icmp .ge 21, 3) := by decide +kernel
set_option maxRecDepth 100000 in
theorem f108_1005 : pm_fetch 108 1005 = some (.aload_n 0, 1) := by decide +kernel
set_option maxRecDepth 100000 in
theorem f108_1006 : pm_fetch 108 1006 = some (.getfield 22, 3) := by decide +kernel
set_option maxRecDepth 100000 in
theorem f108_1009 : pm_fetch 108 1009 = some (.iload_n 1, 1) := by decide +kernel
set_option maxRecDepth 100000 in
theorem f108_1010 : pm_fetch 108 1010 = some (.aload_n 0, 1) := by decide +kernel
set_option maxRecDepth 100000 in
theorem f108_1011 : pm_fetch 108 1011 = some (.getfield 50, 3) := by decide +kernel
set_option maxRecDepth 100000 in
theorem f108_1014 : pm_fetch 108 1014 = some (.iload_n 1, 1) := by decide +kernel
set_option maxRecDepth 100000 in
theorem f108_1015 : pm_fetch 108 1015 = some (.iaload, 1) := by decide +kernel
set_option maxRecDepth 100000 in
theorem f108_1016 : pm_fetch 108 1016 = some (.iastore, 1) := by decide +kernel
set_option maxRecDepth 100000 in
theorem f108_1017 : pm_fetch 108 1017 = some (.iinc 1 1, 3) := by decide +kernel
set_option maxRecDepth 100000 in
theorem f108_1020 : pm_fetch 108 1020 = some (.goto (-21), 3) := by decide +kernel
set_option maxRecDepth 100000 in
theorem f108_1023 : pm_fetch 108 1023 = some (.aload_n 0, 1) := by decide +kernel
set_option maxRecDepth 100000 in
theorem f108_1024 : pm_fetch 108 1024 = some (.bipush 42, 2) := by decide +kernel
set_option maxRecDepth 100000 in
theorem f108_1026 : pm_fetch 108 1026 = some (.putfield 71, 3) := by decide +kernel
set_option maxRecDepth 100000 in
theorem f108_1029 : pm_fetch 108 1029 = some (.aload_n 0, 1) := by decide +kernel
set_option maxRecDepth 100000 in
theorem f108_1030 : pm_fetch 108 1030 = some (.invokevirtual 75, 3) := by decide +kernel
set_option maxRecDepth 100000 in
theorem f108_1033 : pm_fetch 108 1033 = some (.pop, 1) := by decide +kernel
set_option maxRecDepth 100000 in
theorem f108_1034 : pm_fetch 108 1034 = some (.return_, 1) := by decide +kernel
/-- DunesWalkedModel.<init>()V -/
def M_init_999 : Nat → pm_H → Nat → Int32 → Option (pm_H × Unit)
  | 0, _, _, _ => none
  | n + 1, h, l0, l1 => if 42 ≤ l1 then (bnd (op_S h l0 6 9 (.int 42)) fun h2q => grd (op_is h2q l0 6) <| bn2 (M_text h2q l0) fun h3q x4q => some (h3q, ())) else (bnd (op_A h l0 6 8) fun x6q => bnd (op_A h l0 6 21) fun x7q => bnd x7q fun u8q => bnd (op_aI h u8q l1) fun x9q => bnd x6q fun u10q => bnd (op_sI h u10q l1 x9q) fun h11q => nmd (l1 + 1) fun y12q => M_init_999 n h11q l0 y12q)
def M_init (h : pm_H) (t : Nat) : Option (pm_H × Unit) := bnd (op_nI h 6) fun h1q => nmd (List.length h) fun b2q => bnd (op_S h1q t 6 1 (.ref b2q)) fun h3q => bnd (op_nI h3q 6) fun h4q => nmd (List.length h3q) fun b5q => bnd (op_S h4q t 6 2 (.ref b5q)) fun h6q => bnd (op_nI h6q 18) fun h7q => nmd (List.length h6q) fun b8q => bnd (op_S h7q t 6 3 (.ref b8q)) fun h9q => bnd (op_nI h9q 6) fun h10q => nmd (List.length h9q) fun b11q => bnd (op_S h10q t 6 4 (.ref b11q)) fun h12q => bnd (op_nI h12q 160) fun h13q => nmd (List.length h12q) fun b14q => bnd (op_S h13q t 6 8 (.ref b14q)) fun h15q => bnd (op_nI h15q 1200) fun h16q => nmd (List.length h15q) fun b17q => bnd (op_S h16q t 6 10 (.ref b17q)) fun h18q => bnd (op_nI h18q 24) fun h19q => nmd (List.length h18q) fun b20q => bnd (op_S h19q t 6 11 (.ref b20q)) fun h21q => bnd (op_nI h21q 24) fun h22q => nmd (List.length h21q) fun b23q => bnd (op_S h22q t 6 15 (.ref b23q)) fun h24q => bnd (op_nJ h24q 2) fun h25q => nmd (List.length h24q) fun b26q => bnd (op_S h25q t 6 16 (.ref b26q)) fun h27q => bnd (op_nI h27q 3) fun h28q => nmd (List.length h27q) fun b29q => bnd (op_S h28q t 6 17 (.ref b29q)) fun h30q => bnd (op_nI h30q 4) fun h31q => nmd (List.length h30q) fun b32q => bnd (op_sI h31q b32q 0 (-1)) fun h33q => bnd (op_sI h33q b32q 1 (-1)) fun h34q => bnd (op_sI h34q b32q 2 (-1)) fun h35q => bnd (op_sI h35q b32q 3 (-1)) fun h36q => bnd (op_S h36q t 6 18 (.ref b32q)) fun h37q => bnd (op_nI h37q 4) fun h38q => nmd (List.length h37q) fun b39q => bnd (op_S h38q t 6 19 (.ref b39q)) fun h40q => bnd (op_nI h40q 160) fun h41q => nmd (List.length h40q) fun b42q => bnd (op_S h41q t 6 20 (.ref b42q)) fun h43q => bnd (op_nI h43q 42) fun h44q => nmd (List.length h43q) fun b45q => bnd (op_sI h44q b45q 0 119) fun h46q => bnd (op_sI h46q b45q 1 97) fun h47q => bnd (op_sI h47q b45q 2 108) fun h48q => bnd (op_sI h48q b45q 3 107) fun h49q => bnd (op_sI h49q b45q 4 115) fun h50q => bnd (op_sI h50q b45q 5 32) fun h51q => bnd (op_sI h51q b45q 6 50) fun h52q => bnd (op_sI h52q b45q 7 32) fun h53q => bnd (op_sI h53q b45q 8 59) fun h54q => bnd (op_sI h54q b45q 9 32) fun h55q => bnd (op_sI h55q b45q 10 103) fun h56q => bnd (op_sI h56q b45q 11 114) fun h57q => bnd (op_sI h57q b45q 12 111) fun h58q => bnd (op_sI h58q b45q 13 119) fun h59q => bnd (op_sI h59q b45q 14 115) fun h60q => bnd (op_sI h60q b45q 15 32) fun h61q => bnd (op_sI h61q b45q 16 49) fun h62q => bnd (op_sI h62q b45q 17 32) fun h63q => bnd (op_sI h63q b45q 18 45) fun h64q => bnd (op_sI h64q b45q 19 32) fun h65q => bnd (op_sI h65q b45q 20 57) fun h66q => bnd (op_sI h66q b45q 21 32) fun h67q => bnd (op_sI h67q b45q 22 42) fun h68q => bnd (op_sI h68q b45q 23 32) fun h69q => bnd (op_sI h69q b45q 24 99) fun h70q => bnd (op_sI h70q b45q 25 108) fun h71q => bnd (op_sI h71q b45q 26 111) fun h72q => bnd (op_sI h72q b45q 27 118) fun h73q => bnd (op_sI h73q b45q 28 101) fun h74q => bnd (op_sI h74q b45q 29 114) fun h75q => bnd (op_sI h75q b45q 30 32) fun h76q => bnd (op_sI h76q b45q 31 59) fun h77q => bnd (op_sI h77q b45q 32 32) fun h78q => bnd (op_sI h78q b45q 33 110) fun h79q => bnd (op_sI h79q b45q 34 101) fun h80q => bnd (op_sI h80q b45q 35 101) fun h81q => bnd (op_sI h81q b45q 36 100) fun h82q => bnd (op_sI h82q b45q 37 115) fun h83q => bnd (op_sI h83q b45q 38 32) fun h84q => bnd (op_sI h84q b45q 39 49) fun h85q => bnd (op_sI h85q b45q 40 32) fun h86q => bnd (op_sI h86q b45q 41 59) fun h87q => bnd (op_S h87q t 6 21 (.ref b45q)) fun h88q => bnd (op_nI h88q 96) fun h89q => nmd (List.length h88q) fun b90q => bnd (op_sI h89q b90q 0 119) fun h91q => bnd (op_sI h91q b90q 1 97) fun h92q => bnd (op_sI h92q b90q 2 108) fun h93q => bnd (op_sI h93q b90q 3 107) fun h94q => bnd (op_sI h94q b90q 4 115) fun h95q => bnd (op_sI h95q b90q 5 32) fun h96q => bnd (op_sI h96q b90q 6 32) fun h97q => bnd (op_sI h97q b90q 7 32) fun h98q => bnd (op_sI h98q b90q 8 103) fun h99q => bnd (op_sI h99q b90q 9 114) fun h100q => bnd (op_sI h100q b90q 10 111) fun h101q => bnd (op_sI h101q b90q 11 119) fun h102q => bnd (op_sI h102q b90q 12 115) fun h103q => bnd (op_sI h103q b90q 13 32) fun h104q => bnd (op_sI h104q b90q 14 32) fun h105q => bnd (op_sI h105q b90q 15 32) fun h106q => bnd (op_sI h106q b90q 16 110) fun h107q => bnd (op_sI h107q b90q 17 101) fun h108q => bnd (op_sI h108q b90q 18 101) fun h109q => bnd (op_sI h109q b90q 19 100) fun h110q => bnd (op_sI h110q b90q 20 115) fun h111q => bnd (op_sI h111q b90q 21 32) fun h112q => bnd (op_sI h112q b90q 22 32) fun h113q => bnd (op_sI h113q b90q 23 32) fun h114q => bnd (op_sI h114q b90q 24 104) fun h115q => bnd (op_sI h115q b90q 25 105) fun h116q => bnd (op_sI h116q b90q 26 103) fun h117q => bnd (op_sI h117q b90q 27 104) fun h118q => bnd (op_sI h118q b90q 28 32) fun h119q => bnd (op_sI h119q b90q 29 32) fun h120q => bnd (op_sI h120q b90q 30 32) fun h121q => bnd (op_sI h121q b90q 31 32) fun h122q => bnd (op_sI h122q b90q 32 97) fun h123q => bnd (op_sI h123q b90q 33 116) fun h124q => bnd (op_sI h124q b90q 34 32) fun h125q => bnd (op_sI h125q b90q 35 32) fun h126q => bnd (op_sI h126q b90q 36 32) fun h127q => bnd (op_sI h127q b90q 37 32) fun h128q => bnd (op_sI h128q b90q 38 32) fun h129q => bnd (op_sI h129q b90q 39 32) fun h130q => bnd (op_sI h130q b90q 40 108) fun h131q => bnd (op_sI h131q b90q 41 111) fun h132q => bnd (op_sI h132q b90q 42 110) fun h133q => bnd (op_sI h133q b90q 43 103) fun h134q => bnd (op_sI h134q b90q 44 32) fun h135q => bnd (op_sI h135q b90q 45 32) fun h136q => bnd (op_sI h136q b90q 46 32) fun h137q => bnd (op_sI h137q b90q 47 32) fun h138q => bnd (op_sI h138q b90q 48 99) fun h139q => bnd (op_sI h139q b90q 49 108) fun h140q => bnd (op_sI h140q b90q 50 111) fun h141q => bnd (op_sI h141q b90q 51 118) fun h142q => bnd (op_sI h142q b90q 52 101) fun h143q => bnd (op_sI h143q b90q 53 114) fun h144q => bnd (op_sI h144q b90q 54 32) fun h145q => bnd (op_sI h145q b90q 55 32) fun h146q => bnd (op_sI h146q b90q 56 121) fun h147q => bnd (op_sI h147q b90q 57 101) fun h148q => bnd (op_sI h148q b90q 58 97) fun h149q => bnd (op_sI h149q b90q 59 114) fun h150q => bnd (op_sI h150q b90q 60 32) fun h151q => bnd (op_sI h151q b90q 61 32) fun h152q => bnd (op_sI h152q b90q 62 32) fun h153q => bnd (op_sI h153q b90q 63 32) fun h154q => bnd (op_sI h154q b90q 64 109) fun h155q => bnd (op_sI h155q b90q 65 111) fun h156q => bnd (op_sI h156q b90q 66 114) fun h157q => bnd (op_sI h157q b90q 67 101) fun h158q => bnd (op_sI h158q b90q 68 32) fun h159q => bnd (op_sI h159q b90q 69 32) fun h160q => bnd (op_sI h160q b90q 70 32) fun h161q => bnd (op_sI h161q b90q 71 32) fun h162q => bnd (op_sI h162q b90q 72 111) fun h163q => bnd (op_sI h163q b90q 73 114) fun h164q => bnd (op_sI h164q b90q 74 32) fun h165q => bnd (op_sI h165q b90q 75 32) fun h166q => bnd (op_sI h166q b90q 76 32) fun h167q => bnd (op_sI h167q b90q 77 32) fun h168q => bnd (op_sI h168q b90q 78 32) fun h169q => bnd (op_sI h169q b90q 79 32) fun h170q => bnd (op_sI h170q b90q 80 97) fun h171q => bnd (op_sI h171q b90q 81 110) fun h172q => bnd (op_sI h172q b90q 82 100) fun h173q => bnd (op_sI h173q b90q 83 32) fun h174q => bnd (op_sI h174q b90q 84 32) fun h175q => bnd (op_sI h175q b90q 85 32) fun h176q => bnd (op_sI h176q b90q 86 32) fun h177q => bnd (op_sI h177q b90q 87 32) fun h178q => bnd (op_sI h178q b90q 88 110) fun h179q => bnd (op_sI h179q b90q 89 111) fun h180q => bnd (op_sI h180q b90q 90 116) fun h181q => bnd (op_sI h181q b90q 91 32) fun h182q => bnd (op_sI h182q b90q 92 32) fun h183q => bnd (op_sI h183q b90q 93 32) fun h184q => bnd (op_sI h184q b90q 94 32) fun h185q => bnd (op_sI h185q b90q 95 32) fun h186q => bnd (op_S h186q t 6 26 (.ref b90q)) fun h187q => bnd (op_nI h187q 200) fun h188q => nmd (List.length h187q) fun b189q => bnd (op_S h188q t 6 27 (.ref b189q)) fun h190q => bnd (op_nI h190q 200) fun h191q => nmd (List.length h190q) fun b192q => bnd (op_S h191q t 6 31 (.ref b192q)) fun h193q => bnd (op_nI h193q 6) fun h194q => nmd (List.length h193q) fun b195q => bnd (op_S h194q t 6 32 (.ref b195q)) fun h196q => bnd (op_nI h196q 25) fun h197q => nmd (List.length h196q) fun b198q => bnd (op_S h197q t 6 33 (.ref b198q)) fun h199q => bnd (op_nI h199q 40) fun h200q => nmd (List.length h199q) fun b201q => bnd (op_S h200q t 6 34 (.ref b201q)) fun h202q => M_init_999 1000 h202q t 0
theorem P_M_init_999 {d : Nat} {h' : pm_H} {r : Unit} (n : Nat) : ∀ (h : pm_H) (l0 : Nat) (l1 : Int32), M_init_999 n h l0 l1 = some (h', r) → pm_run (pm_ev (d + 5)) 108 999 [.ref l0, .int l1] [] h (fun r1 h1 => r1 = none ∧ h1 = h') := by
  induction n with
  | zero => intro h l0 l1 hB; cases hB
  | succ n ih =>
    intro h l0 l1 hB
    unfold M_init_999 at hB
    refine r_iload_n f108_999 rfl ?_
    refine r_bipush f108_1000 cb_42 ?_
    by_cases c1q : 42 ≤ l1
    · rw [if_pos c1q] at hB
      refine r_ic_t (t := 1023) f108_1002 (by decide) c1q ?_
      refine r_aload_nN f108_1023 rfl ?_
      refine r_bipush f108_1024 cb_42 ?_
      replace hB := bnd_some hB
      obtain ⟨h2q, eh2q, hB⟩ := hB
      refine r_put f108_1026 fa_6_71 ty_6_9 rfl rfl (no_fin (nf_6_9)) eh2q ?_
      refine r_aload_nN f108_1029 rfl ?_
      replace hB := grd_some hB
      obtain ⟨g5q, hB⟩ := hB
      replace hB := bn2_some hB
      obtain ⟨h3q, x4q, eh3q, hB⟩ := hB
      refine r_virtV (as := []) (q := pm_m_133) f108_1030 ca_6_75 rfl rfl rfl (cs_len (Nat.le_of_ble_eq_true rfl)) g5q (P_M_text (d := d + 0) eh3q) ?_
      refine r_popI f108_1033 ?_
      exact r_vret pm_m_108 f108_1034 rfl rfl (zV hB)
    · rw [if_neg c1q] at hB
      refine r_ic_f 1023 f108_1002 (by decide) c1q ?_
      refine r_aload_nN f108_1005 rfl ?_
      replace hB := bnd_some hB
      obtain ⟨x6q, ex6q, hB⟩ := hB
      refine r_getA f108_1006 fa_6_22 ex6q ?_
      refine r_iload_n f108_1009 rfl ?_
      refine r_aload_nN f108_1010 rfl ?_
      replace hB := bnd_some hB
      obtain ⟨x7q, ex7q, hB⟩ := hB
      refine r_getA f108_1011 fa_6_50 ex7q ?_
      refine r_iload_n f108_1014 rfl ?_
      replace hB := bnd_some hB
      obtain ⟨u8q, rfl, hB⟩ := hB
      replace hB := bnd_some hB
      obtain ⟨x9q, ex9q, hB⟩ := hB
      refine r_aI f108_1015 ex9q ?_
      replace hB := bnd_some hB
      obtain ⟨u10q, rfl, hB⟩ := hB
      replace hB := bnd_some hB
      obtain ⟨h11q, eh11q, hB⟩ := hB
      refine r_sI f108_1016 eh11q ?_
      obtain ⟨y12q, hy12q⟩ : ∃ z, z = l1 + 1 := ⟨_, rfl⟩
      replace hB := nmd_at hy12q hB
      refine r_iinc (L' := [.ref l0, .int y12q]) (x := y12q) f108_1017 rfl (hy12q.trans (congrArg (l1 + ·) ci_1.symm)) rfl ?_
      refine r_goto (t := 999) f108_1020 (by decide) ?_
      exact pm_weak (L' := [.ref l0, .int y12q]) ⟨.inr rfl, .inr rfl, trivial⟩ (ih h11q l0 y12q hB)
theorem P_M_init {d : Nat} {h h' : pm_H} {r : Unit} {t : Nat} (hB : M_init h t = some (h', r)) : pm_ev (d + 6) 108 [.ref t] h none h' := by
  unfold M_init at hB
  refine pm_ev_mk (L := [.ref t, pm_J]) pm_m_108 rfl (Nat.le_of_ble_eq_true rfl) rfl ?_
  refine r_aload_nN f108_0 rfl ?_
  refine r_obj f108_1 (e := 786) rfl (cs_len (Nat.le_of_ble_eq_true rfl)) ?_
  refine r_aload_nN f108_4 rfl ?_
  refine r_bipush f108_5 cb_6 ?_
  replace hB := bnd_some hB
  obtain ⟨h1q, eh1q, hB⟩ := hB
  refine r_nI f108_7 eh1q ?_
  obtain ⟨b2q, hb2q⟩ : ∃ z, z = List.length h := ⟨_, rfl⟩
  replace hB := nmd_at hb2q hB
  rw [← hb2q]
  replace hB := bnd_some hB
  obtain ⟨h3q, eh3q, hB⟩ := hB
  refine r_put f108_9 fa_6_7 ty_6_1 rfl rfl (fun _ => ⟨in_108, rfl⟩) eh3q ?_
  refine r_aload_nN f108_12 rfl ?_
  refine r_bipush f108_13 cb_6 ?_
  replace hB := bnd_some hB
  obtain ⟨h4q, eh4q, hB⟩ := hB
  refine r_nI f108_15 eh4q ?_
  obtain ⟨b5q, hb5q⟩ : ∃ z, z = List.length h3q := ⟨_, rfl⟩
  replace hB := nmd_at hb5q hB
  rw [← hb5q]
  replace hB := bnd_some hB
  obtain ⟨h6q, eh6q, hB⟩ := hB
  refine r_put f108_17 fa_6_13 ty_6_2 rfl rfl (fun _ => ⟨in_108, rfl⟩) eh6q ?_
  refine r_aload_nN f108_20 rfl ?_
  refine r_bipush f108_21 cb_18 ?_
  replace hB := bnd_some hB
  obtain ⟨h7q, eh7q, hB⟩ := hB
  refine r_nI f108_23 eh7q ?_
  obtain ⟨b8q, hb8q⟩ : ∃ z, z = List.length h6q := ⟨_, rfl⟩
  replace hB := nmd_at hb8q hB
  rw [← hb8q]
  replace hB := bnd_some hB
  obtain ⟨h9q, eh9q, hB⟩ := hB
  refine r_put f108_25 fa_6_16 ty_6_3 rfl rfl (fun _ => ⟨in_108, rfl⟩) eh9q ?_
  refine r_aload_nN f108_28 rfl ?_
  refine r_bipush f108_29 cb_6 ?_
  replace hB := bnd_some hB
  obtain ⟨h10q, eh10q, hB⟩ := hB
  refine r_nI f108_31 eh10q ?_
  obtain ⟨b11q, hb11q⟩ : ∃ z, z = List.length h9q := ⟨_, rfl⟩
  replace hB := nmd_at hb11q hB
  rw [← hb11q]
  replace hB := bnd_some hB
  obtain ⟨h12q, eh12q, hB⟩ := hB
  refine r_put f108_33 fa_6_19 ty_6_4 rfl rfl (fun _ => ⟨in_108, rfl⟩) eh12q ?_
  refine r_aload_nN f108_36 rfl ?_
  refine r_sipush f108_37 cs_160 ?_
  replace hB := bnd_some hB
  obtain ⟨h13q, eh13q, hB⟩ := hB
  refine r_nI f108_40 eh13q ?_
  obtain ⟨b14q, hb14q⟩ : ∃ z, z = List.length h12q := ⟨_, rfl⟩
  replace hB := nmd_at hb14q hB
  rw [← hb14q]
  replace hB := bnd_some hB
  obtain ⟨h15q, eh15q, hB⟩ := hB
  refine r_put f108_42 fa_6_22 ty_6_8 rfl rfl (fun _ => ⟨in_108, rfl⟩) eh15q ?_
  refine r_aload_nN f108_45 rfl ?_
  refine r_sipush f108_46 cs_1200 ?_
  replace hB := bnd_some hB
  obtain ⟨h16q, eh16q, hB⟩ := hB
  refine r_nI f108_49 eh16q ?_
  obtain ⟨b17q, hb17q⟩ : ∃ z, z = List.length h15q := ⟨_, rfl⟩
  replace hB := nmd_at hb17q hB
  rw [← hb17q]
  replace hB := bnd_some hB
  obtain ⟨h18q, eh18q, hB⟩ := hB
  refine r_put f108_51 fa_6_25 ty_6_10 rfl rfl (fun _ => ⟨in_108, rfl⟩) eh18q ?_
  refine r_aload_nN f108_54 rfl ?_
  refine r_bipush f108_55 cb_24 ?_
  replace hB := bnd_some hB
  obtain ⟨h19q, eh19q, hB⟩ := hB
  refine r_nI f108_57 eh19q ?_
  obtain ⟨b20q, hb20q⟩ : ∃ z, z = List.length h18q := ⟨_, rfl⟩
  replace hB := nmd_at hb20q hB
  rw [← hb20q]
  replace hB := bnd_some hB
  obtain ⟨h21q, eh21q, hB⟩ := hB
  refine r_put f108_59 fa_6_28 ty_6_11 rfl rfl (fun _ => ⟨in_108, rfl⟩) eh21q ?_
  refine r_aload_nN f108_62 rfl ?_
  refine r_bipush f108_63 cb_24 ?_
  replace hB := bnd_some hB
  obtain ⟨h22q, eh22q, hB⟩ := hB
  refine r_nI f108_65 eh22q ?_
  obtain ⟨b23q, hb23q⟩ : ∃ z, z = List.length h21q := ⟨_, rfl⟩
  replace hB := nmd_at hb23q hB
  rw [← hb23q]
  replace hB := bnd_some hB
  obtain ⟨h24q, eh24q, hB⟩ := hB
  refine r_put f108_67 fa_6_31 ty_6_15 rfl rfl (fun _ => ⟨in_108, rfl⟩) eh24q ?_
  refine r_aload_nN f108_70 rfl ?_
  refine r_iconst f108_71 ci_2 ?_
  replace hB := bnd_some hB
  obtain ⟨h25q, eh25q, hB⟩ := hB
  refine r_nJ f108_72 eh25q ?_
  obtain ⟨b26q, hb26q⟩ : ∃ z, z = List.length h24q := ⟨_, rfl⟩
  replace hB := nmd_at hb26q hB
  rw [← hb26q]
  replace hB := bnd_some hB
  obtain ⟨h27q, eh27q, hB⟩ := hB
  refine r_put f108_74 fa_6_34 ty_6_16 rfl rfl (fun _ => ⟨in_108, rfl⟩) eh27q ?_
  refine r_aload_nN f108_77 rfl ?_
  refine r_iconst f108_78 ci_3 ?_
  replace hB := bnd_some hB
  obtain ⟨h28q, eh28q, hB⟩ := hB
  refine r_nI f108_79 eh28q ?_
  obtain ⟨b29q, hb29q⟩ : ∃ z, z = List.length h27q := ⟨_, rfl⟩
  replace hB := nmd_at hb29q hB
  rw [← hb29q]
  replace hB := bnd_some hB
  obtain ⟨h30q, eh30q, hB⟩ := hB
  refine r_put f108_81 fa_6_38 ty_6_17 rfl rfl (fun _ => ⟨in_108, rfl⟩) eh30q ?_
  refine r_aload_nN f108_84 rfl ?_
  refine r_iconst f108_85 ci_4 ?_
  replace hB := bnd_some hB
  obtain ⟨h31q, eh31q, hB⟩ := hB
  refine r_nI f108_86 eh31q ?_
  obtain ⟨b32q, hb32q⟩ : ∃ z, z = List.length h30q := ⟨_, rfl⟩
  replace hB := nmd_at hb32q hB
  rw [← hb32q]
  refine r_dupN f108_88 ?_
  refine r_iconst f108_89 ci_0 ?_
  refine r_iconst f108_90 ci_m1 ?_
  replace hB := bnd_some hB
  obtain ⟨h33q, eh33q, hB⟩ := hB
  refine r_sI f108_91 eh33q ?_
  refine r_dupN f108_92 ?_
  refine r_iconst f108_93 ci_1 ?_
  refine r_iconst f108_94 ci_m1 ?_
  replace hB := bnd_some hB
  obtain ⟨h34q, eh34q, hB⟩ := hB
  refine r_sI f108_95 eh34q ?_
  refine r_dupN f108_96 ?_
  refine r_iconst f108_97 ci_2 ?_
  refine r_iconst f108_98 ci_m1 ?_
  replace hB := bnd_some hB
  obtain ⟨h35q, eh35q, hB⟩ := hB
  refine r_sI f108_99 eh35q ?_
  refine r_dupN f108_100 ?_
  refine r_iconst f108_101 ci_3 ?_
  refine r_iconst f108_102 ci_m1 ?_
  replace hB := bnd_some hB
  obtain ⟨h36q, eh36q, hB⟩ := hB
  refine r_sI f108_103 eh36q ?_
  replace hB := bnd_some hB
  obtain ⟨h37q, eh37q, hB⟩ := hB
  refine r_put f108_104 fa_6_41 ty_6_18 rfl rfl (fun _ => ⟨in_108, rfl⟩) eh37q ?_
  refine r_aload_nN f108_107 rfl ?_
  refine r_iconst f108_108 ci_4 ?_
  replace hB := bnd_some hB
  obtain ⟨h38q, eh38q, hB⟩ := hB
  refine r_nI f108_109 eh38q ?_
  obtain ⟨b39q, hb39q⟩ : ∃ z, z = List.length h37q := ⟨_, rfl⟩
  replace hB := nmd_at hb39q hB
  rw [← hb39q]
  replace hB := bnd_some hB
  obtain ⟨h40q, eh40q, hB⟩ := hB
  refine r_put f108_111 fa_6_44 ty_6_19 rfl rfl (fun _ => ⟨in_108, rfl⟩) eh40q ?_
  refine r_aload_nN f108_114 rfl ?_
  refine r_sipush f108_115 cs_160 ?_
  replace hB := bnd_some hB
  obtain ⟨h41q, eh41q, hB⟩ := hB
  refine r_nI f108_118 eh41q ?_
  obtain ⟨b42q, hb42q⟩ : ∃ z, z = List.length h40q := ⟨_, rfl⟩
  replace hB := nmd_at hb42q hB
  rw [← hb42q]
  replace hB := bnd_some hB
  obtain ⟨h43q, eh43q, hB⟩ := hB
  refine r_put f108_120 fa_6_47 ty_6_20 rfl rfl (fun _ => ⟨in_108, rfl⟩) eh43q ?_
  refine r_aload_nN f108_123 rfl ?_
  refine r_bipush f108_124 cb_42 ?_
  replace hB := bnd_some hB
  obtain ⟨h44q, eh44q, hB⟩ := hB
  refine r_nI f108_126 eh44q ?_
  obtain ⟨b45q, hb45q⟩ : ∃ z, z = List.length h43q := ⟨_, rfl⟩
  replace hB := nmd_at hb45q hB
  rw [← hb45q]
  refine r_dupN f108_128 ?_
  refine r_iconst f108_129 ci_0 ?_
  refine r_bipush f108_130 cb_119 ?_
  replace hB := bnd_some hB
  obtain ⟨h46q, eh46q, hB⟩ := hB
  refine r_sI f108_132 eh46q ?_
  refine r_dupN f108_133 ?_
  refine r_iconst f108_134 ci_1 ?_
  refine r_bipush f108_135 cb_97 ?_
  replace hB := bnd_some hB
  obtain ⟨h47q, eh47q, hB⟩ := hB
  refine r_sI f108_137 eh47q ?_
  refine r_dupN f108_138 ?_
  refine r_iconst f108_139 ci_2 ?_
  refine r_bipush f108_140 cb_108 ?_
  replace hB := bnd_some hB
  obtain ⟨h48q, eh48q, hB⟩ := hB
  refine r_sI f108_142 eh48q ?_
  refine r_dupN f108_143 ?_
  refine r_iconst f108_144 ci_3 ?_
  refine r_bipush f108_145 cb_107 ?_
  replace hB := bnd_some hB
  obtain ⟨h49q, eh49q, hB⟩ := hB
  refine r_sI f108_147 eh49q ?_
  refine r_dupN f108_148 ?_
  refine r_iconst f108_149 ci_4 ?_
  refine r_bipush f108_150 cb_115 ?_
  replace hB := bnd_some hB
  obtain ⟨h50q, eh50q, hB⟩ := hB
  refine r_sI f108_152 eh50q ?_
  refine r_dupN f108_153 ?_
  refine r_iconst f108_154 ci_5 ?_
  refine r_bipush f108_155 cb_32 ?_
  replace hB := bnd_some hB
  obtain ⟨h51q, eh51q, hB⟩ := hB
  refine r_sI f108_157 eh51q ?_
  refine r_dupN f108_158 ?_
  refine r_bipush f108_159 cb_6 ?_
  refine r_bipush f108_161 cb_50 ?_
  replace hB := bnd_some hB
  obtain ⟨h52q, eh52q, hB⟩ := hB
  refine r_sI f108_163 eh52q ?_
  refine r_dupN f108_164 ?_
  refine r_bipush f108_165 cb_7 ?_
  refine r_bipush f108_167 cb_32 ?_
  replace hB := bnd_some hB
  obtain ⟨h53q, eh53q, hB⟩ := hB
  refine r_sI f108_169 eh53q ?_
  refine r_dupN f108_170 ?_
  refine r_bipush f108_171 cb_8 ?_
  refine r_bipush f108_173 cb_59 ?_
  replace hB := bnd_some hB
  obtain ⟨h54q, eh54q, hB⟩ := hB
  refine r_sI f108_175 eh54q ?_
  refine r_dupN f108_176 ?_
  refine r_bipush f108_177 cb_9 ?_
  refine r_bipush f108_179 cb_32 ?_
  replace hB := bnd_some hB
  obtain ⟨h55q, eh55q, hB⟩ := hB
  refine r_sI f108_181 eh55q ?_
  refine r_dupN f108_182 ?_
  refine r_bipush f108_183 cb_10 ?_
  refine r_bipush f108_185 cb_103 ?_
  replace hB := bnd_some hB
  obtain ⟨h56q, eh56q, hB⟩ := hB
  refine r_sI f108_187 eh56q ?_
  refine r_dupN f108_188 ?_
  refine r_bipush f108_189 cb_11 ?_
  refine r_bipush f108_191 cb_114 ?_
  replace hB := bnd_some hB
  obtain ⟨h57q, eh57q, hB⟩ := hB
  refine r_sI f108_193 eh57q ?_
  refine r_dupN f108_194 ?_
  refine r_bipush f108_195 cb_12 ?_
  refine r_bipush f108_197 cb_111 ?_
  replace hB := bnd_some hB
  obtain ⟨h58q, eh58q, hB⟩ := hB
  refine r_sI f108_199 eh58q ?_
  refine r_dupN f108_200 ?_
  refine r_bipush f108_201 cb_13 ?_
  refine r_bipush f108_203 cb_119 ?_
  replace hB := bnd_some hB
  obtain ⟨h59q, eh59q, hB⟩ := hB
  refine r_sI f108_205 eh59q ?_
  refine r_dupN f108_206 ?_
  refine r_bipush f108_207 cb_14 ?_
  refine r_bipush f108_209 cb_115 ?_
  replace hB := bnd_some hB
  obtain ⟨h60q, eh60q, hB⟩ := hB
  refine r_sI f108_211 eh60q ?_
  refine r_dupN f108_212 ?_
  refine r_bipush f108_213 cb_15 ?_
  refine r_bipush f108_215 cb_32 ?_
  replace hB := bnd_some hB
  obtain ⟨h61q, eh61q, hB⟩ := hB
  refine r_sI f108_217 eh61q ?_
  refine r_dupN f108_218 ?_
  refine r_bipush f108_219 cb_16 ?_
  refine r_bipush f108_221 cb_49 ?_
  replace hB := bnd_some hB
  obtain ⟨h62q, eh62q, hB⟩ := hB
  refine r_sI f108_223 eh62q ?_
  refine r_dupN f108_224 ?_
  refine r_bipush f108_225 cb_17 ?_
  refine r_bipush f108_227 cb_32 ?_
  replace hB := bnd_some hB
  obtain ⟨h63q, eh63q, hB⟩ := hB
  refine r_sI f108_229 eh63q ?_
  refine r_dupN f108_230 ?_
  refine r_bipush f108_231 cb_18 ?_
  refine r_bipush f108_233 cb_45 ?_
  replace hB := bnd_some hB
  obtain ⟨h64q, eh64q, hB⟩ := hB
  refine r_sI f108_235 eh64q ?_
  refine r_dupN f108_236 ?_
  refine r_bipush f108_237 cb_19 ?_
  refine r_bipush f108_239 cb_32 ?_
  replace hB := bnd_some hB
  obtain ⟨h65q, eh65q, hB⟩ := hB
  refine r_sI f108_241 eh65q ?_
  refine r_dupN f108_242 ?_
  refine r_bipush f108_243 cb_20 ?_
  refine r_bipush f108_245 cb_57 ?_
  replace hB := bnd_some hB
  obtain ⟨h66q, eh66q, hB⟩ := hB
  refine r_sI f108_247 eh66q ?_
  refine r_dupN f108_248 ?_
  refine r_bipush f108_249 cb_21 ?_
  refine r_bipush f108_251 cb_32 ?_
  replace hB := bnd_some hB
  obtain ⟨h67q, eh67q, hB⟩ := hB
  refine r_sI f108_253 eh67q ?_
  refine r_dupN f108_254 ?_
  refine r_bipush f108_255 cb_22 ?_
  refine r_bipush f108_257 cb_42 ?_
  replace hB := bnd_some hB
  obtain ⟨h68q, eh68q, hB⟩ := hB
  refine r_sI f108_259 eh68q ?_
  refine r_dupN f108_260 ?_
  refine r_bipush f108_261 cb_23 ?_
  refine r_bipush f108_263 cb_32 ?_
  replace hB := bnd_some hB
  obtain ⟨h69q, eh69q, hB⟩ := hB
  refine r_sI f108_265 eh69q ?_
  refine r_dupN f108_266 ?_
  refine r_bipush f108_267 cb_24 ?_
  refine r_bipush f108_269 cb_99 ?_
  replace hB := bnd_some hB
  obtain ⟨h70q, eh70q, hB⟩ := hB
  refine r_sI f108_271 eh70q ?_
  refine r_dupN f108_272 ?_
  refine r_bipush f108_273 cb_25 ?_
  refine r_bipush f108_275 cb_108 ?_
  replace hB := bnd_some hB
  obtain ⟨h71q, eh71q, hB⟩ := hB
  refine r_sI f108_277 eh71q ?_
  refine r_dupN f108_278 ?_
  refine r_bipush f108_279 cb_26 ?_
  refine r_bipush f108_281 cb_111 ?_
  replace hB := bnd_some hB
  obtain ⟨h72q, eh72q, hB⟩ := hB
  refine r_sI f108_283 eh72q ?_
  refine r_dupN f108_284 ?_
  refine r_bipush f108_285 cb_27 ?_
  refine r_bipush f108_287 cb_118 ?_
  replace hB := bnd_some hB
  obtain ⟨h73q, eh73q, hB⟩ := hB
  refine r_sI f108_289 eh73q ?_
  refine r_dupN f108_290 ?_
  refine r_bipush f108_291 cb_28 ?_
  refine r_bipush f108_293 cb_101 ?_
  replace hB := bnd_some hB
  obtain ⟨h74q, eh74q, hB⟩ := hB
  refine r_sI f108_295 eh74q ?_
  refine r_dupN f108_296 ?_
  refine r_bipush f108_297 cb_29 ?_
  refine r_bipush f108_299 cb_114 ?_
  replace hB := bnd_some hB
  obtain ⟨h75q, eh75q, hB⟩ := hB
  refine r_sI f108_301 eh75q ?_
  refine r_dupN f108_302 ?_
  refine r_bipush f108_303 cb_30 ?_
  refine r_bipush f108_305 cb_32 ?_
  replace hB := bnd_some hB
  obtain ⟨h76q, eh76q, hB⟩ := hB
  refine r_sI f108_307 eh76q ?_
  refine r_dupN f108_308 ?_
  refine r_bipush f108_309 cb_31 ?_
  refine r_bipush f108_311 cb_59 ?_
  replace hB := bnd_some hB
  obtain ⟨h77q, eh77q, hB⟩ := hB
  refine r_sI f108_313 eh77q ?_
  refine r_dupN f108_314 ?_
  refine r_bipush f108_315 cb_32 ?_
  refine r_bipush f108_317 cb_32 ?_
  replace hB := bnd_some hB
  obtain ⟨h78q, eh78q, hB⟩ := hB
  refine r_sI f108_319 eh78q ?_
  refine r_dupN f108_320 ?_
  refine r_bipush f108_321 cb_33 ?_
  refine r_bipush f108_323 cb_110 ?_
  replace hB := bnd_some hB
  obtain ⟨h79q, eh79q, hB⟩ := hB
  refine r_sI f108_325 eh79q ?_
  refine r_dupN f108_326 ?_
  refine r_bipush f108_327 cb_34 ?_
  refine r_bipush f108_329 cb_101 ?_
  replace hB := bnd_some hB
  obtain ⟨h80q, eh80q, hB⟩ := hB
  refine r_sI f108_331 eh80q ?_
  refine r_dupN f108_332 ?_
  refine r_bipush f108_333 cb_35 ?_
  refine r_bipush f108_335 cb_101 ?_
  replace hB := bnd_some hB
  obtain ⟨h81q, eh81q, hB⟩ := hB
  refine r_sI f108_337 eh81q ?_
  refine r_dupN f108_338 ?_
  refine r_bipush f108_339 cb_36 ?_
  refine r_bipush f108_341 cb_100 ?_
  replace hB := bnd_some hB
  obtain ⟨h82q, eh82q, hB⟩ := hB
  refine r_sI f108_343 eh82q ?_
  refine r_dupN f108_344 ?_
  refine r_bipush f108_345 cb_37 ?_
  refine r_bipush f108_347 cb_115 ?_
  replace hB := bnd_some hB
  obtain ⟨h83q, eh83q, hB⟩ := hB
  refine r_sI f108_349 eh83q ?_
  refine r_dupN f108_350 ?_
  refine r_bipush f108_351 cb_38 ?_
  refine r_bipush f108_353 cb_32 ?_
  replace hB := bnd_some hB
  obtain ⟨h84q, eh84q, hB⟩ := hB
  refine r_sI f108_355 eh84q ?_
  refine r_dupN f108_356 ?_
  refine r_bipush f108_357 cb_39 ?_
  refine r_bipush f108_359 cb_49 ?_
  replace hB := bnd_some hB
  obtain ⟨h85q, eh85q, hB⟩ := hB
  refine r_sI f108_361 eh85q ?_
  refine r_dupN f108_362 ?_
  refine r_bipush f108_363 cb_40 ?_
  refine r_bipush f108_365 cb_32 ?_
  replace hB := bnd_some hB
  obtain ⟨h86q, eh86q, hB⟩ := hB
  refine r_sI f108_367 eh86q ?_
  refine r_dupN f108_368 ?_
  refine r_bipush f108_369 cb_41 ?_
  refine r_bipush f108_371 cb_59 ?_
  replace hB := bnd_some hB
  obtain ⟨h87q, eh87q, hB⟩ := hB
  refine r_sI f108_373 eh87q ?_
  replace hB := bnd_some hB
  obtain ⟨h88q, eh88q, hB⟩ := hB
  refine r_put f108_374 fa_6_50 ty_6_21 rfl rfl (fun _ => ⟨in_108, rfl⟩) eh88q ?_
  refine r_aload_nN f108_377 rfl ?_
  refine r_bipush f108_378 cb_96 ?_
  replace hB := bnd_some hB
  obtain ⟨h89q, eh89q, hB⟩ := hB
  refine r_nI f108_380 eh89q ?_
  obtain ⟨b90q, hb90q⟩ : ∃ z, z = List.length h88q := ⟨_, rfl⟩
  replace hB := nmd_at hb90q hB
  rw [← hb90q]
  refine r_dupN f108_382 ?_
  refine r_iconst f108_383 ci_0 ?_
  refine r_bipush f108_384 cb_119 ?_
  replace hB := bnd_some hB
  obtain ⟨h91q, eh91q, hB⟩ := hB
  refine r_sI f108_386 eh91q ?_
  refine r_dupN f108_387 ?_
  refine r_iconst f108_388 ci_1 ?_
  refine r_bipush f108_389 cb_97 ?_
  replace hB := bnd_some hB
  obtain ⟨h92q, eh92q, hB⟩ := hB
  refine r_sI f108_391 eh92q ?_
  refine r_dupN f108_392 ?_
  refine r_iconst f108_393 ci_2 ?_
  refine r_bipush f108_394 cb_108 ?_
  replace hB := bnd_some hB
  obtain ⟨h93q, eh93q, hB⟩ := hB
  refine r_sI f108_396 eh93q ?_
  refine r_dupN f108_397 ?_
  refine r_iconst f108_398 ci_3 ?_
  refine r_bipush f108_399 cb_107 ?_
  replace hB := bnd_some hB
  obtain ⟨h94q, eh94q, hB⟩ := hB
  refine r_sI f108_401 eh94q ?_
  refine r_dupN f108_402 ?_
  refine r_iconst f108_403 ci_4 ?_
  refine r_bipush f108_404 cb_115 ?_
  replace hB := bnd_some hB
  obtain ⟨h95q, eh95q, hB⟩ := hB
  refine r_sI f108_406 eh95q ?_
  refine r_dupN f108_407 ?_
  refine r_iconst f108_408 ci_5 ?_
  refine r_bipush f108_409 cb_32 ?_
  replace hB := bnd_some hB
  obtain ⟨h96q, eh96q, hB⟩ := hB
  refine r_sI f108_411 eh96q ?_
  refine r_dupN f108_412 ?_
  refine r_bipush f108_413 cb_6 ?_
  refine r_bipush f108_415 cb_32 ?_
  replace hB := bnd_some hB
  obtain ⟨h97q, eh97q, hB⟩ := hB
  refine r_sI f108_417 eh97q ?_
  refine r_dupN f108_418 ?_
  refine r_bipush f108_419 cb_7 ?_
  refine r_bipush f108_421 cb_32 ?_
  replace hB := bnd_some hB
  obtain ⟨h98q, eh98q, hB⟩ := hB
  refine r_sI f108_423 eh98q ?_
  refine r_dupN f108_424 ?_
  refine r_bipush f108_425 cb_8 ?_
  refine r_bipush f108_427 cb_103 ?_
  replace hB := bnd_some hB
  obtain ⟨h99q, eh99q, hB⟩ := hB
  refine r_sI f108_429 eh99q ?_
  refine r_dupN f108_430 ?_
  refine r_bipush f108_431 cb_9 ?_
  refine r_bipush f108_433 cb_114 ?_
  replace hB := bnd_some hB
  obtain ⟨h100q, eh100q, hB⟩ := hB
  refine r_sI f108_435 eh100q ?_
  refine r_dupN f108_436 ?_
  refine r_bipush f108_437 cb_10 ?_
  refine r_bipush f108_439 cb_111 ?_
  replace hB := bnd_some hB
  obtain ⟨h101q, eh101q, hB⟩ := hB
  refine r_sI f108_441 eh101q ?_
  refine r_dupN f108_442 ?_
  refine r_bipush f108_443 cb_11 ?_
  refine r_bipush f108_445 cb_119 ?_
  replace hB := bnd_some hB
  obtain ⟨h102q, eh102q, hB⟩ := hB
  refine r_sI f108_447 eh102q ?_
  refine r_dupN f108_448 ?_
  refine r_bipush f108_449 cb_12 ?_
  refine r_bipush f108_451 cb_115 ?_
  replace hB := bnd_some hB
  obtain ⟨h103q, eh103q, hB⟩ := hB
  refine r_sI f108_453 eh103q ?_
  refine r_dupN f108_454 ?_
  refine r_bipush f108_455 cb_13 ?_
  refine r_bipush f108_457 cb_32 ?_
  replace hB := bnd_some hB
  obtain ⟨h104q, eh104q, hB⟩ := hB
  refine r_sI f108_459 eh104q ?_
  refine r_dupN f108_460 ?_
  refine r_bipush f108_461 cb_14 ?_
  refine r_bipush f108_463 cb_32 ?_
  replace hB := bnd_some hB
  obtain ⟨h105q, eh105q, hB⟩ := hB
  refine r_sI f108_465 eh105q ?_
  refine r_dupN f108_466 ?_
  refine r_bipush f108_467 cb_15 ?_
  refine r_bipush f108_469 cb_32 ?_
  replace hB := bnd_some hB
  obtain ⟨h106q, eh106q, hB⟩ := hB
  refine r_sI f108_471 eh106q ?_
  refine r_dupN f108_472 ?_
  refine r_bipush f108_473 cb_16 ?_
  refine r_bipush f108_475 cb_110 ?_
  replace hB := bnd_some hB
  obtain ⟨h107q, eh107q, hB⟩ := hB
  refine r_sI f108_477 eh107q ?_
  refine r_dupN f108_478 ?_
  refine r_bipush f108_479 cb_17 ?_
  refine r_bipush f108_481 cb_101 ?_
  replace hB := bnd_some hB
  obtain ⟨h108q, eh108q, hB⟩ := hB
  refine r_sI f108_483 eh108q ?_
  refine r_dupN f108_484 ?_
  refine r_bipush f108_485 cb_18 ?_
  refine r_bipush f108_487 cb_101 ?_
  replace hB := bnd_some hB
  obtain ⟨h109q, eh109q, hB⟩ := hB
  refine r_sI f108_489 eh109q ?_
  refine r_dupN f108_490 ?_
  refine r_bipush f108_491 cb_19 ?_
  refine r_bipush f108_493 cb_100 ?_
  replace hB := bnd_some hB
  obtain ⟨h110q, eh110q, hB⟩ := hB
  refine r_sI f108_495 eh110q ?_
  refine r_dupN f108_496 ?_
  refine r_bipush f108_497 cb_20 ?_
  refine r_bipush f108_499 cb_115 ?_
  replace hB := bnd_some hB
  obtain ⟨h111q, eh111q, hB⟩ := hB
  refine r_sI f108_501 eh111q ?_
  refine r_dupN f108_502 ?_
  refine r_bipush f108_503 cb_21 ?_
  refine r_bipush f108_505 cb_32 ?_
  replace hB := bnd_some hB
  obtain ⟨h112q, eh112q, hB⟩ := hB
  refine r_sI f108_507 eh112q ?_
  refine r_dupN f108_508 ?_
  refine r_bipush f108_509 cb_22 ?_
  refine r_bipush f108_511 cb_32 ?_
  replace hB := bnd_some hB
  obtain ⟨h113q, eh113q, hB⟩ := hB
  refine r_sI f108_513 eh113q ?_
  refine r_dupN f108_514 ?_
  refine r_bipush f108_515 cb_23 ?_
  refine r_bipush f108_517 cb_32 ?_
  replace hB := bnd_some hB
  obtain ⟨h114q, eh114q, hB⟩ := hB
  refine r_sI f108_519 eh114q ?_
  refine r_dupN f108_520 ?_
  refine r_bipush f108_521 cb_24 ?_
  refine r_bipush f108_523 cb_104 ?_
  replace hB := bnd_some hB
  obtain ⟨h115q, eh115q, hB⟩ := hB
  refine r_sI f108_525 eh115q ?_
  refine r_dupN f108_526 ?_
  refine r_bipush f108_527 cb_25 ?_
  refine r_bipush f108_529 cb_105 ?_
  replace hB := bnd_some hB
  obtain ⟨h116q, eh116q, hB⟩ := hB
  refine r_sI f108_531 eh116q ?_
  refine r_dupN f108_532 ?_
  refine r_bipush f108_533 cb_26 ?_
  refine r_bipush f108_535 cb_103 ?_
  replace hB := bnd_some hB
  obtain ⟨h117q, eh117q, hB⟩ := hB
  refine r_sI f108_537 eh117q ?_
  refine r_dupN f108_538 ?_
  refine r_bipush f108_539 cb_27 ?_
  refine r_bipush f108_541 cb_104 ?_
  replace hB := bnd_some hB
  obtain ⟨h118q, eh118q, hB⟩ := hB
  refine r_sI f108_543 eh118q ?_
  refine r_dupN f108_544 ?_
  refine r_bipush f108_545 cb_28 ?_
  refine r_bipush f108_547 cb_32 ?_
  replace hB := bnd_some hB
  obtain ⟨h119q, eh119q, hB⟩ := hB
  refine r_sI f108_549 eh119q ?_
  refine r_dupN f108_550 ?_
  refine r_bipush f108_551 cb_29 ?_
  refine r_bipush f108_553 cb_32 ?_
  replace hB := bnd_some hB
  obtain ⟨h120q, eh120q, hB⟩ := hB
  refine r_sI f108_555 eh120q ?_
  refine r_dupN f108_556 ?_
  refine r_bipush f108_557 cb_30 ?_
  refine r_bipush f108_559 cb_32 ?_
  replace hB := bnd_some hB
  obtain ⟨h121q, eh121q, hB⟩ := hB
  refine r_sI f108_561 eh121q ?_
  refine r_dupN f108_562 ?_
  refine r_bipush f108_563 cb_31 ?_
  refine r_bipush f108_565 cb_32 ?_
  replace hB := bnd_some hB
  obtain ⟨h122q, eh122q, hB⟩ := hB
  refine r_sI f108_567 eh122q ?_
  refine r_dupN f108_568 ?_
  refine r_bipush f108_569 cb_32 ?_
  refine r_bipush f108_571 cb_97 ?_
  replace hB := bnd_some hB
  obtain ⟨h123q, eh123q, hB⟩ := hB
  refine r_sI f108_573 eh123q ?_
  refine r_dupN f108_574 ?_
  refine r_bipush f108_575 cb_33 ?_
  refine r_bipush f108_577 cb_116 ?_
  replace hB := bnd_some hB
  obtain ⟨h124q, eh124q, hB⟩ := hB
  refine r_sI f108_579 eh124q ?_
  refine r_dupN f108_580 ?_
  refine r_bipush f108_581 cb_34 ?_
  refine r_bipush f108_583 cb_32 ?_
  replace hB := bnd_some hB
  obtain ⟨h125q, eh125q, hB⟩ := hB
  refine r_sI f108_585 eh125q ?_
  refine r_dupN f108_586 ?_
  refine r_bipush f108_587 cb_35 ?_
  refine r_bipush f108_589 cb_32 ?_
  replace hB := bnd_some hB
  obtain ⟨h126q, eh126q, hB⟩ := hB
  refine r_sI f108_591 eh126q ?_
  refine r_dupN f108_592 ?_
  refine r_bipush f108_593 cb_36 ?_
  refine r_bipush f108_595 cb_32 ?_
  replace hB := bnd_some hB
  obtain ⟨h127q, eh127q, hB⟩ := hB
  refine r_sI f108_597 eh127q ?_
  refine r_dupN f108_598 ?_
  refine r_bipush f108_599 cb_37 ?_
  refine r_bipush f108_601 cb_32 ?_
  replace hB := bnd_some hB
  obtain ⟨h128q, eh128q, hB⟩ := hB
  refine r_sI f108_603 eh128q ?_
  refine r_dupN f108_604 ?_
  refine r_bipush f108_605 cb_38 ?_
  refine r_bipush f108_607 cb_32 ?_
  replace hB := bnd_some hB
  obtain ⟨h129q, eh129q, hB⟩ := hB
  refine r_sI f108_609 eh129q ?_
  refine r_dupN f108_610 ?_
  refine r_bipush f108_611 cb_39 ?_
  refine r_bipush f108_613 cb_32 ?_
  replace hB := bnd_some hB
  obtain ⟨h130q, eh130q, hB⟩ := hB
  refine r_sI f108_615 eh130q ?_
  refine r_dupN f108_616 ?_
  refine r_bipush f108_617 cb_40 ?_
  refine r_bipush f108_619 cb_108 ?_
  replace hB := bnd_some hB
  obtain ⟨h131q, eh131q, hB⟩ := hB
  refine r_sI f108_621 eh131q ?_
  refine r_dupN f108_622 ?_
  refine r_bipush f108_623 cb_41 ?_
  refine r_bipush f108_625 cb_111 ?_
  replace hB := bnd_some hB
  obtain ⟨h132q, eh132q, hB⟩ := hB
  refine r_sI f108_627 eh132q ?_
  refine r_dupN f108_628 ?_
  refine r_bipush f108_629 cb_42 ?_
  refine r_bipush f108_631 cb_110 ?_
  replace hB := bnd_some hB
  obtain ⟨h133q, eh133q, hB⟩ := hB
  refine r_sI f108_633 eh133q ?_
  refine r_dupN f108_634 ?_
  refine r_bipush f108_635 cb_43 ?_
  refine r_bipush f108_637 cb_103 ?_
  replace hB := bnd_some hB
  obtain ⟨h134q, eh134q, hB⟩ := hB
  refine r_sI f108_639 eh134q ?_
  refine r_dupN f108_640 ?_
  refine r_bipush f108_641 cb_44 ?_
  refine r_bipush f108_643 cb_32 ?_
  replace hB := bnd_some hB
  obtain ⟨h135q, eh135q, hB⟩ := hB
  refine r_sI f108_645 eh135q ?_
  refine r_dupN f108_646 ?_
  refine r_bipush f108_647 cb_45 ?_
  refine r_bipush f108_649 cb_32 ?_
  replace hB := bnd_some hB
  obtain ⟨h136q, eh136q, hB⟩ := hB
  refine r_sI f108_651 eh136q ?_
  refine r_dupN f108_652 ?_
  refine r_bipush f108_653 cb_46 ?_
  refine r_bipush f108_655 cb_32 ?_
  replace hB := bnd_some hB
  obtain ⟨h137q, eh137q, hB⟩ := hB
  refine r_sI f108_657 eh137q ?_
  refine r_dupN f108_658 ?_
  refine r_bipush f108_659 cb_47 ?_
  refine r_bipush f108_661 cb_32 ?_
  replace hB := bnd_some hB
  obtain ⟨h138q, eh138q, hB⟩ := hB
  refine r_sI f108_663 eh138q ?_
  refine r_dupN f108_664 ?_
  refine r_bipush f108_665 cb_48 ?_
  refine r_bipush f108_667 cb_99 ?_
  replace hB := bnd_some hB
  obtain ⟨h139q, eh139q, hB⟩ := hB
  refine r_sI f108_669 eh139q ?_
  refine r_dupN f108_670 ?_
  refine r_bipush f108_671 cb_49 ?_
  refine r_bipush f108_673 cb_108 ?_
  replace hB := bnd_some hB
  obtain ⟨h140q, eh140q, hB⟩ := hB
  refine r_sI f108_675 eh140q ?_
  refine r_dupN f108_676 ?_
  refine r_bipush f108_677 cb_50 ?_
  refine r_bipush f108_679 cb_111 ?_
  replace hB := bnd_some hB
  obtain ⟨h141q, eh141q, hB⟩ := hB
  refine r_sI f108_681 eh141q ?_
  refine r_dupN f108_682 ?_
  refine r_bipush f108_683 cb_51 ?_
  refine r_bipush f108_685 cb_118 ?_
  replace hB := bnd_some hB
  obtain ⟨h142q, eh142q, hB⟩ := hB
  refine r_sI f108_687 eh142q ?_
  refine r_dupN f108_688 ?_
  refine r_bipush f108_689 cb_52 ?_
  refine r_bipush f108_691 cb_101 ?_
  replace hB := bnd_some hB
  obtain ⟨h143q, eh143q, hB⟩ := hB
  refine r_sI f108_693 eh143q ?_
  refine r_dupN f108_694 ?_
  refine r_bipush f108_695 cb_53 ?_
  refine r_bipush f108_697 cb_114 ?_
  replace hB := bnd_some hB
  obtain ⟨h144q, eh144q, hB⟩ := hB
  refine r_sI f108_699 eh144q ?_
  refine r_dupN f108_700 ?_
  refine r_bipush f108_701 cb_54 ?_
  refine r_bipush f108_703 cb_32 ?_
  replace hB := bnd_some hB
  obtain ⟨h145q, eh145q, hB⟩ := hB
  refine r_sI f108_705 eh145q ?_
  refine r_dupN f108_706 ?_
  refine r_bipush f108_707 cb_55 ?_
  refine r_bipush f108_709 cb_32 ?_
  replace hB := bnd_some hB
  obtain ⟨h146q, eh146q, hB⟩ := hB
  refine r_sI f108_711 eh146q ?_
  refine r_dupN f108_712 ?_
  refine r_bipush f108_713 cb_56 ?_
  refine r_bipush f108_715 cb_121 ?_
  replace hB := bnd_some hB
  obtain ⟨h147q, eh147q, hB⟩ := hB
  refine r_sI f108_717 eh147q ?_
  refine r_dupN f108_718 ?_
  refine r_bipush f108_719 cb_57 ?_
  refine r_bipush f108_721 cb_101 ?_
  replace hB := bnd_some hB
  obtain ⟨h148q, eh148q, hB⟩ := hB
  refine r_sI f108_723 eh148q ?_
  refine r_dupN f108_724 ?_
  refine r_bipush f108_725 cb_58 ?_
  refine r_bipush f108_727 cb_97 ?_
  replace hB := bnd_some hB
  obtain ⟨h149q, eh149q, hB⟩ := hB
  refine r_sI f108_729 eh149q ?_
  refine r_dupN f108_730 ?_
  refine r_bipush f108_731 cb_59 ?_
  refine r_bipush f108_733 cb_114 ?_
  replace hB := bnd_some hB
  obtain ⟨h150q, eh150q, hB⟩ := hB
  refine r_sI f108_735 eh150q ?_
  refine r_dupN f108_736 ?_
  refine r_bipush f108_737 cb_60 ?_
  refine r_bipush f108_739 cb_32 ?_
  replace hB := bnd_some hB
  obtain ⟨h151q, eh151q, hB⟩ := hB
  refine r_sI f108_741 eh151q ?_
  refine r_dupN f108_742 ?_
  refine r_bipush f108_743 cb_61 ?_
  refine r_bipush f108_745 cb_32 ?_
  replace hB := bnd_some hB
  obtain ⟨h152q, eh152q, hB⟩ := hB
  refine r_sI f108_747 eh152q ?_
  refine r_dupN f108_748 ?_
  refine r_bipush f108_749 cb_62 ?_
  refine r_bipush f108_751 cb_32 ?_
  replace hB := bnd_some hB
  obtain ⟨h153q, eh153q, hB⟩ := hB
  refine r_sI f108_753 eh153q ?_
  refine r_dupN f108_754 ?_
  refine r_bipush f108_755 cb_63 ?_
  refine r_bipush f108_757 cb_32 ?_
  replace hB := bnd_some hB
  obtain ⟨h154q, eh154q, hB⟩ := hB
  refine r_sI f108_759 eh154q ?_
  refine r_dupN f108_760 ?_
  refine r_bipush f108_761 cb_64 ?_
  refine r_bipush f108_763 cb_109 ?_
  replace hB := bnd_some hB
  obtain ⟨h155q, eh155q, hB⟩ := hB
  refine r_sI f108_765 eh155q ?_
  refine r_dupN f108_766 ?_
  refine r_bipush f108_767 cb_65 ?_
  refine r_bipush f108_769 cb_111 ?_
  replace hB := bnd_some hB
  obtain ⟨h156q, eh156q, hB⟩ := hB
  refine r_sI f108_771 eh156q ?_
  refine r_dupN f108_772 ?_
  refine r_bipush f108_773 cb_66 ?_
  refine r_bipush f108_775 cb_114 ?_
  replace hB := bnd_some hB
  obtain ⟨h157q, eh157q, hB⟩ := hB
  refine r_sI f108_777 eh157q ?_
  refine r_dupN f108_778 ?_
  refine r_bipush f108_779 cb_67 ?_
  refine r_bipush f108_781 cb_101 ?_
  replace hB := bnd_some hB
  obtain ⟨h158q, eh158q, hB⟩ := hB
  refine r_sI f108_783 eh158q ?_
  refine r_dupN f108_784 ?_
  refine r_bipush f108_785 cb_68 ?_
  refine r_bipush f108_787 cb_32 ?_
  replace hB := bnd_some hB
  obtain ⟨h159q, eh159q, hB⟩ := hB
  refine r_sI f108_789 eh159q ?_
  refine r_dupN f108_790 ?_
  refine r_bipush f108_791 cb_69 ?_
  refine r_bipush f108_793 cb_32 ?_
  replace hB := bnd_some hB
  obtain ⟨h160q, eh160q, hB⟩ := hB
  refine r_sI f108_795 eh160q ?_
  refine r_dupN f108_796 ?_
  refine r_bipush f108_797 cb_70 ?_
  refine r_bipush f108_799 cb_32 ?_
  replace hB := bnd_some hB
  obtain ⟨h161q, eh161q, hB⟩ := hB
  refine r_sI f108_801 eh161q ?_
  refine r_dupN f108_802 ?_
  refine r_bipush f108_803 cb_71 ?_
  refine r_bipush f108_805 cb_32 ?_
  replace hB := bnd_some hB
  obtain ⟨h162q, eh162q, hB⟩ := hB
  refine r_sI f108_807 eh162q ?_
  refine r_dupN f108_808 ?_
  refine r_bipush f108_809 cb_72 ?_
  refine r_bipush f108_811 cb_111 ?_
  replace hB := bnd_some hB
  obtain ⟨h163q, eh163q, hB⟩ := hB
  refine r_sI f108_813 eh163q ?_
  refine r_dupN f108_814 ?_
  refine r_bipush f108_815 cb_73 ?_
  refine r_bipush f108_817 cb_114 ?_
  replace hB := bnd_some hB
  obtain ⟨h164q, eh164q, hB⟩ := hB
  refine r_sI f108_819 eh164q ?_
  refine r_dupN f108_820 ?_
  refine r_bipush f108_821 cb_74 ?_
  refine r_bipush f108_823 cb_32 ?_
  replace hB := bnd_some hB
  obtain ⟨h165q, eh165q, hB⟩ := hB
  refine r_sI f108_825 eh165q ?_
  refine r_dupN f108_826 ?_
  refine r_bipush f108_827 cb_75 ?_
  refine r_bipush f108_829 cb_32 ?_
  replace hB := bnd_some hB
  obtain ⟨h166q, eh166q, hB⟩ := hB
  refine r_sI f108_831 eh166q ?_
  refine r_dupN f108_832 ?_
  refine r_bipush f108_833 cb_76 ?_
  refine r_bipush f108_835 cb_32 ?_
  replace hB := bnd_some hB
  obtain ⟨h167q, eh167q, hB⟩ := hB
  refine r_sI f108_837 eh167q ?_
  refine r_dupN f108_838 ?_
  refine r_bipush f108_839 cb_77 ?_
  refine r_bipush f108_841 cb_32 ?_
  replace hB := bnd_some hB
  obtain ⟨h168q, eh168q, hB⟩ := hB
  refine r_sI f108_843 eh168q ?_
  refine r_dupN f108_844 ?_
  refine r_bipush f108_845 cb_78 ?_
  refine r_bipush f108_847 cb_32 ?_
  replace hB := bnd_some hB
  obtain ⟨h169q, eh169q, hB⟩ := hB
  refine r_sI f108_849 eh169q ?_
  refine r_dupN f108_850 ?_
  refine r_bipush f108_851 cb_79 ?_
  refine r_bipush f108_853 cb_32 ?_
  replace hB := bnd_some hB
  obtain ⟨h170q, eh170q, hB⟩ := hB
  refine r_sI f108_855 eh170q ?_
  refine r_dupN f108_856 ?_
  refine r_bipush f108_857 cb_80 ?_
  refine r_bipush f108_859 cb_97 ?_
  replace hB := bnd_some hB
  obtain ⟨h171q, eh171q, hB⟩ := hB
  refine r_sI f108_861 eh171q ?_
  refine r_dupN f108_862 ?_
  refine r_bipush f108_863 cb_81 ?_
  refine r_bipush f108_865 cb_110 ?_
  replace hB := bnd_some hB
  obtain ⟨h172q, eh172q, hB⟩ := hB
  refine r_sI f108_867 eh172q ?_
  refine r_dupN f108_868 ?_
  refine r_bipush f108_869 cb_82 ?_
  refine r_bipush f108_871 cb_100 ?_
  replace hB := bnd_some hB
  obtain ⟨h173q, eh173q, hB⟩ := hB
  refine r_sI f108_873 eh173q ?_
  refine r_dupN f108_874 ?_
  refine r_bipush f108_875 cb_83 ?_
  refine r_bipush f108_877 cb_32 ?_
  replace hB := bnd_some hB
  obtain ⟨h174q, eh174q, hB⟩ := hB
  refine r_sI f108_879 eh174q ?_
  refine r_dupN f108_880 ?_
  refine r_bipush f108_881 cb_84 ?_
  refine r_bipush f108_883 cb_32 ?_
  replace hB := bnd_some hB
  obtain ⟨h175q, eh175q, hB⟩ := hB
  refine r_sI f108_885 eh175q ?_
  refine r_dupN f108_886 ?_
  refine r_bipush f108_887 cb_85 ?_
  refine r_bipush f108_889 cb_32 ?_
  replace hB := bnd_some hB
  obtain ⟨h176q, eh176q, hB⟩ := hB
  refine r_sI f108_891 eh176q ?_
  refine r_dupN f108_892 ?_
  refine r_bipush f108_893 cb_86 ?_
  refine r_bipush f108_895 cb_32 ?_
  replace hB := bnd_some hB
  obtain ⟨h177q, eh177q, hB⟩ := hB
  refine r_sI f108_897 eh177q ?_
  refine r_dupN f108_898 ?_
  refine r_bipush f108_899 cb_87 ?_
  refine r_bipush f108_901 cb_32 ?_
  replace hB := bnd_some hB
  obtain ⟨h178q, eh178q, hB⟩ := hB
  refine r_sI f108_903 eh178q ?_
  refine r_dupN f108_904 ?_
  refine r_bipush f108_905 cb_88 ?_
  refine r_bipush f108_907 cb_110 ?_
  replace hB := bnd_some hB
  obtain ⟨h179q, eh179q, hB⟩ := hB
  refine r_sI f108_909 eh179q ?_
  refine r_dupN f108_910 ?_
  refine r_bipush f108_911 cb_89 ?_
  refine r_bipush f108_913 cb_111 ?_
  replace hB := bnd_some hB
  obtain ⟨h180q, eh180q, hB⟩ := hB
  refine r_sI f108_915 eh180q ?_
  refine r_dupN f108_916 ?_
  refine r_bipush f108_917 cb_90 ?_
  refine r_bipush f108_919 cb_116 ?_
  replace hB := bnd_some hB
  obtain ⟨h181q, eh181q, hB⟩ := hB
  refine r_sI f108_921 eh181q ?_
  refine r_dupN f108_922 ?_
  refine r_bipush f108_923 cb_91 ?_
  refine r_bipush f108_925 cb_32 ?_
  replace hB := bnd_some hB
  obtain ⟨h182q, eh182q, hB⟩ := hB
  refine r_sI f108_927 eh182q ?_
  refine r_dupN f108_928 ?_
  refine r_bipush f108_929 cb_92 ?_
  refine r_bipush f108_931 cb_32 ?_
  replace hB := bnd_some hB
  obtain ⟨h183q, eh183q, hB⟩ := hB
  refine r_sI f108_933 eh183q ?_
  refine r_dupN f108_934 ?_
  refine r_bipush f108_935 cb_93 ?_
  refine r_bipush f108_937 cb_32 ?_
  replace hB := bnd_some hB
  obtain ⟨h184q, eh184q, hB⟩ := hB
  refine r_sI f108_939 eh184q ?_
  refine r_dupN f108_940 ?_
  refine r_bipush f108_941 cb_94 ?_
  refine r_bipush f108_943 cb_32 ?_
  replace hB := bnd_some hB
  obtain ⟨h185q, eh185q, hB⟩ := hB
  refine r_sI f108_945 eh185q ?_
  refine r_dupN f108_946 ?_
  refine r_bipush f108_947 cb_95 ?_
  refine r_bipush f108_949 cb_32 ?_
  replace hB := bnd_some hB
  obtain ⟨h186q, eh186q, hB⟩ := hB
  refine r_sI f108_951 eh186q ?_
  replace hB := bnd_some hB
  obtain ⟨h187q, eh187q, hB⟩ := hB
  refine r_put f108_952 fa_6_53 ty_6_26 rfl rfl (fun _ => ⟨in_108, rfl⟩) eh187q ?_
  refine r_aload_nN f108_955 rfl ?_
  refine r_sipush f108_956 cs_200 ?_
  replace hB := bnd_some hB
  obtain ⟨h188q, eh188q, hB⟩ := hB
  refine r_nI f108_959 eh188q ?_
  obtain ⟨b189q, hb189q⟩ : ∃ z, z = List.length h187q := ⟨_, rfl⟩
  replace hB := nmd_at hb189q hB
  rw [← hb189q]
  replace hB := bnd_some hB
  obtain ⟨h190q, eh190q, hB⟩ := hB
  refine r_put f108_961 fa_6_56 ty_6_27 rfl rfl (fun _ => ⟨in_108, rfl⟩) eh190q ?_
  refine r_aload_nN f108_964 rfl ?_
  refine r_sipush f108_965 cs_200 ?_
  replace hB := bnd_some hB
  obtain ⟨h191q, eh191q, hB⟩ := hB
  refine r_nI f108_968 eh191q ?_
  obtain ⟨b192q, hb192q⟩ : ∃ z, z = List.length h190q := ⟨_, rfl⟩
  replace hB := nmd_at hb192q hB
  rw [← hb192q]
  replace hB := bnd_some hB
  obtain ⟨h193q, eh193q, hB⟩ := hB
  refine r_put f108_970 fa_6_59 ty_6_31 rfl rfl (fun _ => ⟨in_108, rfl⟩) eh193q ?_
  refine r_aload_nN f108_973 rfl ?_
  refine r_bipush f108_974 cb_6 ?_
  replace hB := bnd_some hB
  obtain ⟨h194q, eh194q, hB⟩ := hB
  refine r_nI f108_976 eh194q ?_
  obtain ⟨b195q, hb195q⟩ : ∃ z, z = List.length h193q := ⟨_, rfl⟩
  replace hB := nmd_at hb195q hB
  rw [← hb195q]
  replace hB := bnd_some hB
  obtain ⟨h196q, eh196q, hB⟩ := hB
  refine r_put f108_978 fa_6_62 ty_6_32 rfl rfl (fun _ => ⟨in_108, rfl⟩) eh196q ?_
  refine r_aload_nN f108_981 rfl ?_
  refine r_bipush f108_982 cb_25 ?_
  replace hB := bnd_some hB
  obtain ⟨h197q, eh197q, hB⟩ := hB
  refine r_nI f108_984 eh197q ?_
  obtain ⟨b198q, hb198q⟩ : ∃ z, z = List.length h196q := ⟨_, rfl⟩
  replace hB := nmd_at hb198q hB
  rw [← hb198q]
  replace hB := bnd_some hB
  obtain ⟨h199q, eh199q, hB⟩ := hB
  refine r_put f108_986 fa_6_65 ty_6_33 rfl rfl (fun _ => ⟨in_108, rfl⟩) eh199q ?_
  refine r_aload_nN f108_989 rfl ?_
  refine r_bipush f108_990 cb_40 ?_
  replace hB := bnd_some hB
  obtain ⟨h200q, eh200q, hB⟩ := hB
  refine r_nI f108_992 eh200q ?_
  obtain ⟨b201q, hb201q⟩ : ∃ z, z = List.length h199q := ⟨_, rfl⟩
  replace hB := nmd_at hb201q hB
  rw [← hb201q]
  replace hB := bnd_some hB
  obtain ⟨h202q, eh202q, hB⟩ := hB
  refine r_put f108_994 fa_6_68 ty_6_34 rfl rfl (fun _ => ⟨in_108, rfl⟩) eh202q ?_
  refine r_iconst f108_997 ci_0 ?_
  refine r_istore_n (L' := [.ref t, .int 0]) (x := 0) f108_998 rfl (Nat.le_of_ble_eq_true rfl) rfl ?_
  exact pm_weak (L' := [.ref t, .int 0]) ⟨.inr rfl, .inr rfl, trivial⟩ (P_M_init_999 (d := d) 1000 h202q t 0 hB)
