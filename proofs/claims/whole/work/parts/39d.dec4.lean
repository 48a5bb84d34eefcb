theorem d_L_law_0 : decode code 0 = .ok (.new 7, 3) := by decide +kernel
theorem d_L_law_3 : decode code 3 = .ok (.dup, 1) := by decide +kernel
theorem d_L_law_4 : decode code 4 = .ok (.aload_n 0, 1) := by decide +kernel
theorem d_L_law_5 : decode code 5 = .ok (.iconst 0, 1) := by decide +kernel
theorem d_L_law_6 : decode code 6 = .ok (.invokestatic 9, 3) := by decide +kernel
theorem d_L_law_9 : decode code 9 = .ok (.invokespecial 15, 3) := by decide +kernel
theorem d_L_law_12 : decode code 12 = .ok (.astore_n 1, 1) := by decide +kernel
theorem d_L_law_13 : decode code 13 = .ok (.new 18, 3) := by decide +kernel
theorem d_L_law_16 : decode code 16 = .ok (.dup, 1) := by decide +kernel
theorem d_L_law_17 : decode code 17 = .ok (.aload_n 0, 1) := by decide +kernel
theorem d_L_law_18 : decode code 18 = .ok (.iconst 0, 1) := by decide +kernel
theorem d_L_law_19 : decode code 19 = .ok (.invokestatic 9, 3) := by decide +kernel
theorem d_L_law_22 : decode code 22 = .ok (.invokespecial 20, 3) := by decide +kernel
theorem d_L_law_25 : decode code 25 = .ok (.astore_n 2, 1) := by decide +kernel
theorem d_L_law_26 : decode code 26 = .ok (.iconst 1, 1) := by decide +kernel
theorem d_L_law_27 : decode code 27 = .ok (.istore_n 3, 1) := by decide +kernel
theorem d_L_law_28 : decode code 28 = .ok (.iload_n 3, 1) := by decide +kernel
theorem d_L_law_29 : decode code 29 = .ok (.aload_n 0, 1) := by decide +kernel
theorem d_L_law_30 : decode code 30 = .ok (.arraylength, 1) := by decide +kernel
theorem d_L_law_31 : decode code 31 = .ok (.bipush 6, 2) := by decide +kernel
theorem d_L_law_33 : decode code 33 = .ok (.isub, 1) := by decide +kernel
theorem d_L_law_34 : decode code 34 = .ok (.if_icmp .gt 661, 3) := by decide +kernel
theorem d_L_law_37 : decode code 37 = .ok (.aload_n 0, 1) := by decide +kernel
theorem d_L_law_38 : decode code 38 = .ok (.iload_n 3, 1) := by decide +kernel
theorem d_L_law_39 : decode code 39 = .ok (.iaload, 1) := by decide +kernel
theorem d_L_law_40 : decode code 40 = .ok (.bipush 31, 2) := by decide +kernel
theorem d_L_law_42 : decode code 42 = .ok (.iand, 1) := by decide +kernel
theorem d_L_law_43 : decode code 43 = .ok (.tableswitch 646 0 16 #[81, 115, 158, 171, 214, 248, 311, 354, 387, 410, 443, 466, 490, 514, 557, 580, 603], 81) := by decide +kernel
theorem d_L_law_124 : decode code 124 = .ok (.aload_n 1, 1) := by decide +kernel
theorem d_L_law_125 : decode code 125 = .ok (.aload_n 0, 1) := by decide +kernel
theorem d_L_law_126 : decode code 126 = .ok (.iload_n 3, 1) := by decide +kernel
theorem d_L_law_127 : decode code 127 = .ok (.iconst 1, 1) := by decide +kernel
theorem d_L_law_128 : decode code 128 = .ok (.iadd, 1) := by decide +kernel
theorem d_L_law_129 : decode code 129 = .ok (.iaload, 1) := by decide +kernel
theorem d_L_law_130 : decode code 130 = .ok (.aload_n 0, 1) := by decide +kernel
theorem d_L_law_131 : decode code 131 = .ok (.iload_n 3, 1) := by decide +kernel
theorem d_L_law_132 : decode code 132 = .ok (.iconst 2, 1) := by decide +kernel
theorem d_L_law_133 : decode code 133 = .ok (.iadd, 1) := by decide +kernel
theorem d_L_law_134 : decode code 134 = .ok (.iaload, 1) := by decide +kernel
theorem d_L_law_135 : decode code 135 = .ok (.invokevirtual 21, 3) := by decide +kernel
theorem d_L_law_138 : decode code 138 = .ok (.aload_n 2, 1) := by decide +kernel
theorem d_L_law_139 : decode code 139 = .ok (.aload_n 0, 1) := by decide +kernel
theorem d_L_law_140 : decode code 140 = .ok (.iload_n 3, 1) := by decide +kernel
theorem d_L_law_141 : decode code 141 = .ok (.iconst 1, 1) := by decide +kernel
theorem d_L_law_142 : decode code 142 = .ok (.iadd, 1) := by decide +kernel
theorem d_L_law_143 : decode code 143 = .ok (.iaload, 1) := by decide +kernel
theorem d_L_law_144 : decode code 144 = .ok (.aload_n 0, 1) := by decide +kernel
theorem d_L_law_145 : decode code 145 = .ok (.iload_n 3, 1) := by decide +kernel
theorem d_L_law_146 : decode code 146 = .ok (.iconst 2, 1) := by decide +kernel
theorem d_L_law_147 : decode code 147 = .ok (.iadd, 1) := by decide +kernel
theorem d_L_law_148 : decode code 148 = .ok (.iaload, 1) := by decide +kernel
theorem d_L_law_149 : decode code 149 = .ok (.invokevirtual 25, 3) := by decide +kernel
theorem d_L_law_152 : decode code 152 = .ok (.lcmp, 1) := by decide +kernel
theorem d_L_law_153 : decode code 153 = .ok (.ifCond .eq 536, 3) := by decide +kernel
theorem d_L_law_156 : decode code 156 = .ok (.iconst 0, 1) := by decide +kernel
theorem d_L_law_157 : decode code 157 = .ok (.ireturn, 1) := by decide +kernel
theorem d_L_law_158 : decode code 158 = .ok (.aload_n 1, 1) := by decide +kernel
theorem d_L_law_159 : decode code 159 = .ok (.aload_n 0, 1) := by decide +kernel
theorem d_L_law_160 : decode code 160 = .ok (.iload_n 3, 1) := by decide +kernel
theorem d_L_law_161 : decode code 161 = .ok (.iconst 1, 1) := by decide +kernel
theorem d_L_law_162 : decode code 162 = .ok (.iadd, 1) := by decide +kernel
theorem d_L_law_163 : decode code 163 = .ok (.iaload, 1) := by decide +kernel
theorem d_L_law_164 : decode code 164 = .ok (.aload_n 0, 1) := by decide +kernel
theorem d_L_law_165 : decode code 165 = .ok (.iload_n 3, 1) := by decide +kernel
theorem d_L_law_166 : decode code 166 = .ok (.iconst 2, 1) := by decide +kernel
theorem d_L_law_167 : decode code 167 = .ok (.iadd, 1) := by decide +kernel
theorem d_L_law_168 : decode code 168 = .ok (.iaload, 1) := by decide +kernel
theorem d_L_law_169 : decode code 169 = .ok (.aload_n 0, 1) := by decide +kernel
theorem d_L_law_170 : decode code 170 = .ok (.iload_n 3, 1) := by decide +kernel
theorem d_L_law_171 : decode code 171 = .ok (.iconst 3, 1) := by decide +kernel
theorem d_L_law_172 : decode code 172 = .ok (.iadd, 1) := by decide +kernel
theorem d_L_law_173 : decode code 173 = .ok (.iaload, 1) := by decide +kernel
theorem d_L_law_174 : decode code 174 = .ok (.invokevirtual 26, 3) := by decide +kernel
theorem d_L_law_177 : decode code 177 = .ok (.aload_n 2, 1) := by decide +kernel
theorem d_L_law_178 : decode code 178 = .ok (.aload_n 0, 1) := by decide +kernel
theorem d_L_law_179 : decode code 179 = .ok (.iload_n 3, 1) := by decide +kernel
theorem d_L_law_180 : decode code 180 = .ok (.iconst 1, 1) := by decide +kernel
theorem d_L_law_181 : decode code 181 = .ok (.iadd, 1) := by decide +kernel
theorem d_L_law_182 : decode code 182 = .ok (.iaload, 1) := by decide +kernel
theorem d_L_law_183 : decode code 183 = .ok (.aload_n 0, 1) := by decide +kernel
theorem d_L_law_184 : decode code 184 = .ok (.iload_n 3, 1) := by decide +kernel
theorem d_L_law_185 : decode code 185 = .ok (.iconst 2, 1) := by decide +kernel
theorem d_L_law_186 : decode code 186 = .ok (.iadd, 1) := by decide +kernel
theorem d_L_law_187 : decode code 187 = .ok (.iaload, 1) := by decide +kernel
theorem d_L_law_188 : decode code 188 = .ok (.aload_n 0, 1) := by decide +kernel
theorem d_L_law_189 : decode code 189 = .ok (.iload_n 3, 1) := by decide +kernel
theorem d_L_law_190 : decode code 190 = .ok (.iconst 3, 1) := by decide +kernel
theorem d_L_law_191 : decode code 191 = .ok (.iadd, 1) := by decide +kernel
theorem d_L_law_192 : decode code 192 = .ok (.iaload, 1) := by decide +kernel
theorem d_L_law_193 : decode code 193 = .ok (.invokevirtual 30, 3) := by decide +kernel
theorem d_L_law_196 : decode code 196 = .ok (.if_icmp .eq 493, 3) := by decide +kernel
theorem d_L_law_199 : decode code 199 = .ok (.iconst 0, 1) := by decide +kernel
theorem d_L_law_200 : decode code 200 = .ok (.ireturn, 1) := by decide +kernel
theorem d_L_law_201 : decode code 201 = .ok (.aload_n 1, 1) := by decide +kernel
theorem d_L_law_202 : decode code 202 = .ok (.invokevirtual 31, 3) := by decide +kernel
theorem d_L_law_205 : decode code 205 = .ok (.aload_n 2, 1) := by decide +kernel
theorem d_L_law_206 : decode code 206 = .ok (.invokevirtual 35, 3) := by decide +kernel
theorem d_L_law_209 : decode code 209 = .ok (.if_icmp .eq 480, 3) := by decide +kernel
theorem d_L_law_212 : decode code 212 = .ok (.iconst 0, 1) := by decide +kernel
theorem d_L_law_213 : decode code 213 = .ok (.ireturn, 1) := by decide +kernel
theorem d_L_law_214 : decode code 214 = .ok (.aload_n 1, 1) := by decide +kernel
theorem d_L_law_215 : decode code 215 = .ok (.aload_n 0, 1) := by decide +kernel
theorem d_L_law_216 : decode code 216 = .ok (.iload_n 3, 1) := by decide +kernel
theorem d_L_law_217 : decode code 217 = .ok (.iconst 1, 1) := by decide +kernel
theorem d_L_law_218 : decode code 218 = .ok (.iadd, 1) := by decide +kernel
theorem d_L_law_219 : decode code 219 = .ok (.iaload, 1) := by decide +kernel
theorem d_L_law_220 : decode code 220 = .ok (.aload_n 0, 1) := by decide +kernel
theorem d_L_law_221 : decode code 221 = .ok (.iload_n 3, 1) := by decide +kernel
theorem d_L_law_222 : decode code 222 = .ok (.iconst 2, 1) := by decide +kernel
theorem d_L_law_223 : decode code 223 = .ok (.iadd, 1) := by decide +kernel
theorem d_L_law_224 : decode code 224 = .ok (.iaload, 1) := by decide +kernel
theorem d_L_law_225 : decode code 225 = .ok (.aload_n 0, 1) := by decide +kernel
theorem d_L_law_226 : decode code 226 = .ok (.iload_n 3, 1) := by decide +kernel
theorem d_L_law_227 : decode code 227 = .ok (.iconst 3, 1) := by decide +kernel
theorem d_L_law_228 : decode code 228 = .ok (.iadd, 1) := by decide +kernel
theorem d_L_law_229 : decode code 229 = .ok (.iaload, 1) := by decide +kernel
theorem d_L_law_230 : decode code 230 = .ok (.invokevirtual 36, 3) := by decide +kernel
theorem d_L_law_233 : decode code 233 = .ok (.aload_n 2, 1) := by decide +kernel
theorem d_L_law_234 : decode code 234 = .ok (.aload_n 0, 1) := by decide +kernel
theorem d_L_law_235 : decode code 235 = .ok (.iload_n 3, 1) := by decide +kernel
theorem d_L_law_236 : decode code 236 = .ok (.iconst 1, 1) := by decide +kernel
theorem d_L_law_237 : decode code 237 = .ok (.iadd, 1) := by decide +kernel
theorem d_L_law_238 : decode code 238 = .ok (.iaload, 1) := by decide +kernel
theorem d_L_law_239 : decode code 239 = .ok (.aload_n 0, 1) := by decide +kernel
theorem d_L_law_240 : decode code 240 = .ok (.iload_n 3, 1) := by decide +kernel
theorem d_L_law_241 : decode code 241 = .ok (.iconst 2, 1) := by decide +kernel
theorem d_L_law_242 : decode code 242 = .ok (.iadd, 1) := by decide +kernel
theorem d_L_law_243 : decode code 243 = .ok (.iaload, 1) := by decide +kernel
theorem d_L_law_244 : decode code 244 = .ok (.aload_n 0, 1) := by decide +kernel
theorem d_L_law_245 : decode code 245 = .ok (.iload_n 3, 1) := by decide +kernel
theorem d_L_law_246 : decode code 246 = .ok (.iconst 3, 1) := by decide +kernel
theorem d_L_law_247 : decode code 247 = .ok (.iadd, 1) := by decide +kernel
theorem d_L_law_248 : decode code 248 = .ok (.iaload, 1) := by decide +kernel
theorem d_L_law_249 : decode code 249 = .ok (.invokevirtual 40, 3) := by decide +kernel
theorem d_L_law_252 : decode code 252 = .ok (.if_icmp .eq 437, 3) := by decide +kernel
theorem d_L_law_255 : decode code 255 = .ok (.iconst 0, 1) := by decide +kernel
theorem d_L_law_256 : decode code 256 = .ok (.ireturn, 1) := by decide +kernel
theorem d_L_law_257 : decode code 257 = .ok (.aload_n 1, 1) := by decide +kernel
theorem d_L_law_258 : decode code 258 = .ok (.aload_n 0, 1) := by decide +kernel
theorem d_L_law_259 : decode code 259 = .ok (.iload_n 3, 1) := by decide +kernel
theorem d_L_law_260 : decode code 260 = .ok (.iconst 1, 1) := by decide +kernel
theorem d_L_law_261 : decode code 261 = .ok (.iadd, 1) := by decide +kernel
theorem d_L_law_262 : decode code 262 = .ok (.iaload, 1) := by decide +kernel
theorem d_L_law_263 : decode code 263 = .ok (.aload_n 0, 1) := by decide +kernel
theorem d_L_law_264 : decode code 264 = .ok (.iload_n 3, 1) := by decide +kernel
theorem d_L_law_265 : decode code 265 = .ok (.iconst 2, 1) := by decide +kernel
theorem d_L_law_266 : decode code 266 = .ok (.iadd, 1) := by decide +kernel
theorem d_L_law_267 : decode code 267 = .ok (.iaload, 1) := by decide +kernel
theorem d_L_law_268 : decode code 268 = .ok (.invokevirtual 41, 3) := by decide +kernel
theorem d_L_law_271 : decode code 271 = .ok (.aload_n 2, 1) := by decide +kernel
theorem d_L_law_272 : decode code 272 = .ok (.aload_n 0, 1) := by decide +kernel
theorem d_L_law_273 : decode code 273 = .ok (.iload_n 3, 1) := by decide +kernel
theorem d_L_law_274 : decode code 274 = .ok (.iconst 1, 1) := by decide +kernel
theorem d_L_law_275 : decode code 275 = .ok (.iadd, 1) := by decide +kernel
theorem d_L_law_276 : decode code 276 = .ok (.iaload, 1) := by decide +kernel
theorem d_L_law_277 : decode code 277 = .ok (.aload_n 0, 1) := by decide +kernel
theorem d_L_law_278 : decode code 278 = .ok (.iload_n 3, 1) := by decide +kernel
theorem d_L_law_279 : decode code 279 = .ok (.iconst 2, 1) := by decide +kernel
theorem d_L_law_280 : decode code 280 = .ok (.iadd, 1) := by decide +kernel
theorem d_L_law_281 : decode code 281 = .ok (.iaload, 1) := by decide +kernel
theorem d_L_law_282 : decode code 282 = .ok (.invokevirtual 44, 3) := by decide +kernel
theorem d_L_law_285 : decode code 285 = .ok (.lcmp, 1) := by decide +kernel
theorem d_L_law_286 : decode code 286 = .ok (.ifCond .eq 403, 3) := by decide +kernel
theorem d_L_law_289 : decode code 289 = .ok (.iconst 0, 1) := by decide +kernel
theorem d_L_law_290 : decode code 290 = .ok (.ireturn, 1) := by decide +kernel
theorem d_L_law_291 : decode code 291 = .ok (.aload_n 1, 1) := by decide +kernel
theorem d_L_law_292 : decode code 292 = .ok (.aload_n 0, 1) := by decide +kernel
theorem d_L_law_293 : decode code 293 = .ok (.iload_n 3, 1) := by decide +kernel
theorem d_L_law_294 : decode code 294 = .ok (.iconst 1, 1) := by decide +kernel
theorem d_L_law_295 : decode code 295 = .ok (.iadd, 1) := by decide +kernel
theorem d_L_law_296 : decode code 296 = .ok (.iaload, 1) := by decide +kernel
theorem d_L_law_297 : decode code 297 = .ok (.aload_n 0, 1) := by decide +kernel
theorem d_L_law_298 : decode code 298 = .ok (.iload_n 3, 1) := by decide +kernel
theorem d_L_law_299 : decode code 299 = .ok (.iconst 2, 1) := by decide +kernel
theorem d_L_law_300 : decode code 300 = .ok (.iadd, 1) := by decide +kernel
theorem d_L_law_301 : decode code 301 = .ok (.iaload, 1) := by decide +kernel
theorem d_L_law_302 : decode code 302 = .ok (.aload_n 0, 1) := by decide +kernel
theorem d_L_law_303 : decode code 303 = .ok (.iload_n 3, 1) := by decide +kernel
theorem d_L_law_304 : decode code 304 = .ok (.iconst 3, 1) := by decide +kernel
theorem d_L_law_305 : decode code 305 = .ok (.iadd, 1) := by decide +kernel
theorem d_L_law_306 : decode code 306 = .ok (.iaload, 1) := by decide +kernel
theorem d_L_law_307 : decode code 307 = .ok (.aload_n 0, 1) := by decide +kernel
theorem d_L_law_308 : decode code 308 = .ok (.iload_n 3, 1) := by decide +kernel
theorem d_L_law_309 : decode code 309 = .ok (.iconst 4, 1) := by decide +kernel
theorem d_L_law_310 : decode code 310 = .ok (.iadd, 1) := by decide +kernel
theorem d_L_law_311 : decode code 311 = .ok (.iaload, 1) := by decide +kernel
theorem d_L_law_312 : decode code 312 = .ok (.aload_n 0, 1) := by decide +kernel
theorem d_L_law_313 : decode code 313 = .ok (.iload_n 3, 1) := by decide +kernel
theorem d_L_law_314 : decode code 314 = .ok (.iconst 5, 1) := by decide +kernel
theorem d_L_law_315 : decode code 315 = .ok (.iadd, 1) := by decide +kernel
theorem d_L_law_316 : decode code 316 = .ok (.iaload, 1) := by decide +kernel
theorem d_L_law_317 : decode code 317 = .ok (.invokevirtual 45, 3) := by decide +kernel
theorem d_L_law_320 : decode code 320 = .ok (.aload_n 2, 1) := by decide +kernel
theorem d_L_law_321 : decode code 321 = .ok (.aload_n 0, 1) := by decide +kernel
theorem d_L_law_322 : decode code 322 = .ok (.iload_n 3, 1) := by decide +kernel
theorem d_L_law_323 : decode code 323 = .ok (.iconst 1, 1) := by decide +kernel
theorem d_L_law_324 : decode code 324 = .ok (.iadd, 1) := by decide +kernel
theorem d_L_law_325 : decode code 325 = .ok (.iaload, 1) := by decide +kernel
theorem d_L_law_326 : decode code 326 = .ok (.aload_n 0, 1) := by decide +kernel
theorem d_L_law_327 : decode code 327 = .ok (.iload_n 3, 1) := by decide +kernel
theorem d_L_law_328 : decode code 328 = .ok (.iconst 2, 1) := by decide +kernel
theorem d_L_law_329 : decode code 329 = .ok (.iadd, 1) := by decide +kernel
theorem d_L_law_330 : decode code 330 = .ok (.iaload, 1) := by decide +kernel
theorem d_L_law_331 : decode code 331 = .ok (.aload_n 0, 1) := by decide +kernel
theorem d_L_law_332 : decode code 332 = .ok (.iload_n 3, 1) := by decide +kernel
theorem d_L_law_333 : decode code 333 = .ok (.iconst 3, 1) := by decide +kernel
theorem d_L_law_334 : decode code 334 = .ok (.iadd, 1) := by decide +kernel
theorem d_L_law_335 : decode code 335 = .ok (.iaload, 1) := by decide +kernel
theorem d_L_law_336 : decode code 336 = .ok (.aload_n 0, 1) := by decide +kernel
theorem d_L_law_337 : decode code 337 = .ok (.iload_n 3, 1) := by decide +kernel
theorem d_L_law_338 : decode code 338 = .ok (.iconst 4, 1) := by decide +kernel
theorem d_L_law_339 : decode code 339 = .ok (.iadd, 1) := by decide +kernel
theorem d_L_law_340 : decode code 340 = .ok (.iaload, 1) := by decide +kernel
theorem d_L_law_341 : decode code 341 = .ok (.aload_n 0, 1) := by decide +kernel
theorem d_L_law_342 : decode code 342 = .ok (.iload_n 3, 1) := by decide +kernel
theorem d_L_law_343 : decode code 343 = .ok (.iconst 5, 1) := by decide +kernel
theorem d_L_law_344 : decode code 344 = .ok (.iadd, 1) := by decide +kernel
theorem d_L_law_345 : decode code 345 = .ok (.iaload, 1) := by decide +kernel
theorem d_L_law_346 : decode code 346 = .ok (.invokevirtual 49, 3) := by decide +kernel
theorem d_L_law_349 : decode code 349 = .ok (.if_icmp .eq 340, 3) := by decide +kernel
theorem d_L_law_352 : decode code 352 = .ok (.iconst 0, 1) := by decide +kernel
theorem d_L_law_353 : decode code 353 = .ok (.ireturn, 1) := by decide +kernel
theorem d_L_law_354 : decode code 354 = .ok (.aload_n 1, 1) := by decide +kernel
theorem d_L_law_355 : decode code 355 = .ok (.aload_n 0, 1) := by decide +kernel
theorem d_L_law_356 : decode code 356 = .ok (.iload_n 3, 1) := by decide +kernel
theorem d_L_law_357 : decode code 357 = .ok (.iconst 1, 1) := by decide +kernel
theorem d_L_law_358 : decode code 358 = .ok (.iadd, 1) := by decide +kernel
theorem d_L_law_359 : decode code 359 = .ok (.iaload, 1) := by decide +kernel
theorem d_L_law_360 : decode code 360 = .ok (.aload_n 0, 1) := by decide +kernel
theorem d_L_law_361 : decode code 361 = .ok (.iload_n 3, 1) := by decide +kernel
theorem d_L_law_362 : decode code 362 = .ok (.iconst 2, 1) := by decide +kernel
theorem d_L_law_363 : decode code 363 = .ok (.iadd, 1) := by decide +kernel
theorem d_L_law_364 : decode code 364 = .ok (.iaload, 1) := by decide +kernel
theorem d_L_law_365 : decode code 365 = .ok (.aload_n 0, 1) := by decide +kernel
theorem d_L_law_366 : decode code 366 = .ok (.iload_n 3, 1) := by decide +kernel
theorem d_L_law_367 : decode code 367 = .ok (.iconst 3, 1) := by decide +kernel
theorem d_L_law_368 : decode code 368 = .ok (.iadd, 1) := by decide +kernel
theorem d_L_law_369 : decode code 369 = .ok (.iaload, 1) := by decide +kernel
theorem d_L_law_370 : decode code 370 = .ok (.invokevirtual 50, 3) := by decide +kernel
theorem d_L_law_373 : decode code 373 = .ok (.aload_n 2, 1) := by decide +kernel
theorem d_L_law_374 : decode code 374 = .ok (.aload_n 0, 1) := by decide +kernel
theorem d_L_law_375 : decode code 375 = .ok (.iload_n 3, 1) := by decide +kernel
theorem d_L_law_376 : decode code 376 = .ok (.iconst 1, 1) := by decide +kernel
theorem d_L_law_377 : decode code 377 = .ok (.iadd, 1) := by decide +kernel
theorem d_L_law_378 : decode code 378 = .ok (.iaload, 1) := by decide +kernel
theorem d_L_law_379 : decode code 379 = .ok (.aload_n 0, 1) := by decide +kernel
theorem d_L_law_380 : decode code 380 = .ok (.iload_n 3, 1) := by decide +kernel
theorem d_L_law_381 : decode code 381 = .ok (.iconst 2, 1) := by decide +kernel
theorem d_L_law_382 : decode code 382 = .ok (.iadd, 1) := by decide +kernel
theorem d_L_law_383 : decode code 383 = .ok (.iaload, 1) := by decide +kernel
theorem d_L_law_384 : decode code 384 = .ok (.aload_n 0, 1) := by decide +kernel
theorem d_L_law_385 : decode code 385 = .ok (.iload_n 3, 1) := by decide +kernel
theorem d_L_law_386 : decode code 386 = .ok (.iconst 3, 1) := by decide +kernel
theorem d_L_law_387 : decode code 387 = .ok (.iadd, 1) := by decide +kernel
theorem d_L_law_388 : decode code 388 = .ok (.iaload, 1) := by decide +kernel
theorem d_L_law_389 : decode code 389 = .ok (.invokevirtual 53, 3) := by decide +kernel
theorem d_L_law_392 : decode code 392 = .ok (.if_icmp .eq 297, 3) := by decide +kernel
theorem d_L_law_395 : decode code 395 = .ok (.iconst 0, 1) := by decide +kernel
theorem d_L_law_396 : decode code 396 = .ok (.ireturn, 1) := by decide +kernel
theorem d_L_law_397 : decode code 397 = .ok (.aload_n 1, 1) := by decide +kernel
theorem d_L_law_398 : decode code 398 = .ok (.aload_n 0, 1) := by decide +kernel
theorem d_L_law_399 : decode code 399 = .ok (.iload_n 3, 1) := by decide +kernel
theorem d_L_law_400 : decode code 400 = .ok (.iconst 1, 1) := by decide +kernel
theorem d_L_law_401 : decode code 401 = .ok (.iadd, 1) := by decide +kernel
theorem d_L_law_402 : decode code 402 = .ok (.iaload, 1) := by decide +kernel
theorem d_L_law_403 : decode code 403 = .ok (.aload_n 0, 1) := by decide +kernel
theorem d_L_law_404 : decode code 404 = .ok (.iload_n 3, 1) := by decide +kernel
theorem d_L_law_405 : decode code 405 = .ok (.iconst 2, 1) := by decide +kernel
theorem d_L_law_406 : decode code 406 = .ok (.iadd, 1) := by decide +kernel
theorem d_L_law_407 : decode code 407 = .ok (.iaload, 1) := by decide +kernel
theorem d_L_law_408 : decode code 408 = .ok (.invokevirtual 54, 3) := by decide +kernel
theorem d_L_law_411 : decode code 411 = .ok (.aload_n 2, 1) := by decide +kernel
theorem d_L_law_412 : decode code 412 = .ok (.aload_n 0, 1) := by decide +kernel
theorem d_L_law_413 : decode code 413 = .ok (.iload_n 3, 1) := by decide +kernel
theorem d_L_law_414 : decode code 414 = .ok (.iconst 1, 1) := by decide +kernel
theorem d_L_law_415 : decode code 415 = .ok (.iadd, 1) := by decide +kernel
theorem d_L_law_416 : decode code 416 = .ok (.iaload, 1) := by decide +kernel
theorem d_L_law_417 : decode code 417 = .ok (.aload_n 0, 1) := by decide +kernel
theorem d_L_law_418 : decode code 418 = .ok (.iload_n 3, 1) := by decide +kernel
theorem d_L_law_419 : decode code 419 = .ok (.iconst 2, 1) := by decide +kernel
theorem d_L_law_420 : decode code 420 = .ok (.iadd, 1) := by decide +kernel
theorem d_L_law_421 : decode code 421 = .ok (.iaload, 1) := by decide +kernel
theorem d_L_law_422 : decode code 422 = .ok (.invokevirtual 58, 3) := by decide +kernel
theorem d_L_law_425 : decode code 425 = .ok (.if_icmp .eq 264, 3) := by decide +kernel
theorem d_L_law_428 : decode code 428 = .ok (.iconst 0, 1) := by decide +kernel
theorem d_L_law_429 : decode code 429 = .ok (.ireturn, 1) := by decide +kernel
theorem d_L_law_430 : decode code 430 = .ok (.aload_n 1, 1) := by decide +kernel
theorem d_L_law_431 : decode code 431 = .ok (.aload_n 0, 1) := by decide +kernel
theorem d_L_law_432 : decode code 432 = .ok (.iload_n 3, 1) := by decide +kernel
theorem d_L_law_433 : decode code 433 = .ok (.iconst 1, 1) := by decide +kernel
theorem d_L_law_434 : decode code 434 = .ok (.iadd, 1) := by decide +kernel
theorem d_L_law_435 : decode code 435 = .ok (.iaload, 1) := by decide +kernel
theorem d_L_law_436 : decode code 436 = .ok (.invokevirtual 59, 3) := by decide +kernel
theorem d_L_law_439 : decode code 439 = .ok (.aload_n 2, 1) := by decide +kernel
theorem d_L_law_440 : decode code 440 = .ok (.aload_n 0, 1) := by decide +kernel
theorem d_L_law_441 : decode code 441 = .ok (.iload_n 3, 1) := by decide +kernel
theorem d_L_law_442 : decode code 442 = .ok (.iconst 1, 1) := by decide +kernel
theorem d_L_law_443 : decode code 443 = .ok (.iadd, 1) := by decide +kernel
theorem d_L_law_444 : decode code 444 = .ok (.iaload, 1) := by decide +kernel
theorem d_L_law_445 : decode code 445 = .ok (.invokevirtual 63, 3) := by decide +kernel
theorem d_L_law_448 : decode code 448 = .ok (.if_icmp .eq 241, 3) := by decide +kernel
theorem d_L_law_451 : decode code 451 = .ok (.iconst 0, 1) := by decide +kernel
theorem d_L_law_452 : decode code 452 = .ok (.ireturn, 1) := by decide +kernel
theorem d_L_law_453 : decode code 453 = .ok (.aload_n 1, 1) := by decide +kernel
theorem d_L_law_454 : decode code 454 = .ok (.aload_n 0, 1) := by decide +kernel
theorem d_L_law_455 : decode code 455 = .ok (.iload_n 3, 1) := by decide +kernel
theorem d_L_law_456 : decode code 456 = .ok (.iconst 1, 1) := by decide +kernel
theorem d_L_law_457 : decode code 457 = .ok (.iadd, 1) := by decide +kernel
theorem d_L_law_458 : decode code 458 = .ok (.iaload, 1) := by decide +kernel
theorem d_L_law_459 : decode code 459 = .ok (.aload_n 0, 1) := by decide +kernel
theorem d_L_law_460 : decode code 460 = .ok (.iload_n 3, 1) := by decide +kernel
theorem d_L_law_461 : decode code 461 = .ok (.iconst 2, 1) := by decide +kernel
theorem d_L_law_462 : decode code 462 = .ok (.iadd, 1) := by decide +kernel
theorem d_L_law_463 : decode code 463 = .ok (.iaload, 1) := by decide +kernel
theorem d_L_law_464 : decode code 464 = .ok (.invokevirtual 64, 3) := by decide +kernel
theorem d_L_law_467 : decode code 467 = .ok (.aload_n 2, 1) := by decide +kernel
theorem d_L_law_468 : decode code 468 = .ok (.aload_n 0, 1) := by decide +kernel
theorem d_L_law_469 : decode code 469 = .ok (.iload_n 3, 1) := by decide +kernel
theorem d_L_law_470 : decode code 470 = .ok (.iconst 1, 1) := by decide +kernel
theorem d_L_law_471 : decode code 471 = .ok (.iadd, 1) := by decide +kernel
theorem d_L_law_472 : decode code 472 = .ok (.iaload, 1) := by decide +kernel
theorem d_L_law_473 : decode code 473 = .ok (.aload_n 0, 1) := by decide +kernel
theorem d_L_law_474 : decode code 474 = .ok (.iload_n 3, 1) := by decide +kernel
theorem d_L_law_475 : decode code 475 = .ok (.iconst 2, 1) := by decide +kernel
theorem d_L_law_476 : decode code 476 = .ok (.iadd, 1) := by decide +kernel
theorem d_L_law_477 : decode code 477 = .ok (.iaload, 1) := by decide +kernel
theorem d_L_law_478 : decode code 478 = .ok (.invokevirtual 67, 3) := by decide +kernel
theorem d_L_law_481 : decode code 481 = .ok (.if_icmp .eq 208, 3) := by decide +kernel
theorem d_L_law_484 : decode code 484 = .ok (.iconst 0, 1) := by decide +kernel
theorem d_L_law_485 : decode code 485 = .ok (.ireturn, 1) := by decide +kernel
theorem d_L_law_486 : decode code 486 = .ok (.aload_n 1, 1) := by decide +kernel
theorem d_L_law_487 : decode code 487 = .ok (.aload_n 0, 1) := by decide +kernel
theorem d_L_law_488 : decode code 488 = .ok (.iload_n 3, 1) := by decide +kernel
theorem d_L_law_489 : decode code 489 = .ok (.iconst 1, 1) := by decide +kernel
theorem d_L_law_490 : decode code 490 = .ok (.iadd, 1) := by decide +kernel
theorem d_L_law_491 : decode code 491 = .ok (.iaload, 1) := by decide +kernel
theorem d_L_law_492 : decode code 492 = .ok (.invokevirtual 68, 3) := by decide +kernel
theorem d_L_law_495 : decode code 495 = .ok (.aload_n 2, 1) := by decide +kernel
theorem d_L_law_496 : decode code 496 = .ok (.aload_n 0, 1) := by decide +kernel
theorem d_L_law_497 : decode code 497 = .ok (.iload_n 3, 1) := by decide +kernel
theorem d_L_law_498 : decode code 498 = .ok (.iconst 1, 1) := by decide +kernel
theorem d_L_law_499 : decode code 499 = .ok (.iadd, 1) := by decide +kernel
theorem d_L_law_500 : decode code 500 = .ok (.iaload, 1) := by decide +kernel
theorem d_L_law_501 : decode code 501 = .ok (.invokevirtual 71, 3) := by decide +kernel
theorem d_L_law_504 : decode code 504 = .ok (.if_icmp .eq 185, 3) := by decide +kernel
theorem d_L_law_507 : decode code 507 = .ok (.iconst 0, 1) := by decide +kernel
theorem d_L_law_508 : decode code 508 = .ok (.ireturn, 1) := by decide +kernel
theorem d_L_law_509 : decode code 509 = .ok (.aload_n 1, 1) := by decide +kernel
theorem d_L_law_510 : decode code 510 = .ok (.aload_n 0, 1) := by decide +kernel
theorem d_L_law_511 : decode code 511 = .ok (.iload_n 3, 1) := by decide +kernel
theorem d_L_law_512 : decode code 512 = .ok (.iconst 1, 1) := by decide +kernel
theorem d_L_law_513 : decode code 513 = .ok (.iadd, 1) := by decide +kernel
theorem d_L_law_514 : decode code 514 = .ok (.iaload, 1) := by decide +kernel
theorem d_L_law_515 : decode code 515 = .ok (.invokevirtual 72, 3) := by decide +kernel
theorem d_L_law_518 : decode code 518 = .ok (.aload_n 2, 1) := by decide +kernel
theorem d_L_law_519 : decode code 519 = .ok (.aload_n 0, 1) := by decide +kernel
theorem d_L_law_520 : decode code 520 = .ok (.iload_n 3, 1) := by decide +kernel
theorem d_L_law_521 : decode code 521 = .ok (.iconst 1, 1) := by decide +kernel
theorem d_L_law_522 : decode code 522 = .ok (.iadd, 1) := by decide +kernel
theorem d_L_law_523 : decode code 523 = .ok (.iaload, 1) := by decide +kernel
theorem d_L_law_524 : decode code 524 = .ok (.invokevirtual 76, 3) := by decide +kernel
theorem d_L_law_527 : decode code 527 = .ok (.lcmp, 1) := by decide +kernel
theorem d_L_law_528 : decode code 528 = .ok (.ifCond .eq 161, 3) := by decide +kernel
theorem d_L_law_531 : decode code 531 = .ok (.iconst 0, 1) := by decide +kernel
theorem d_L_law_532 : decode code 532 = .ok (.ireturn, 1) := by decide +kernel
theorem d_L_law_533 : decode code 533 = .ok (.aload_n 1, 1) := by decide +kernel
theorem d_L_law_534 : decode code 534 = .ok (.aload_n 0, 1) := by decide +kernel
theorem d_L_law_535 : decode code 535 = .ok (.iload_n 3, 1) := by decide +kernel
theorem d_L_law_536 : decode code 536 = .ok (.iconst 1, 1) := by decide +kernel
theorem d_L_law_537 : decode code 537 = .ok (.iadd, 1) := by decide +kernel
theorem d_L_law_538 : decode code 538 = .ok (.iaload, 1) := by decide +kernel
theorem d_L_law_539 : decode code 539 = .ok (.invokevirtual 77, 3) := by decide +kernel
theorem d_L_law_542 : decode code 542 = .ok (.aload_n 2, 1) := by decide +kernel
theorem d_L_law_543 : decode code 543 = .ok (.aload_n 0, 1) := by decide +kernel
theorem d_L_law_544 : decode code 544 = .ok (.iload_n 3, 1) := by decide +kernel
theorem d_L_law_545 : decode code 545 = .ok (.iconst 1, 1) := by decide +kernel
theorem d_L_law_546 : decode code 546 = .ok (.iadd, 1) := by decide +kernel
theorem d_L_law_547 : decode code 547 = .ok (.iaload, 1) := by decide +kernel
theorem d_L_law_548 : decode code 548 = .ok (.invokevirtual 80, 3) := by decide +kernel
theorem d_L_law_551 : decode code 551 = .ok (.lcmp, 1) := by decide +kernel
theorem d_L_law_552 : decode code 552 = .ok (.ifCond .eq 137, 3) := by decide +kernel
theorem d_L_law_555 : decode code 555 = .ok (.iconst 0, 1) := by decide +kernel
theorem d_L_law_556 : decode code 556 = .ok (.ireturn, 1) := by decide +kernel
theorem d_L_law_557 : decode code 557 = .ok (.aload_n 1, 1) := by decide +kernel
theorem d_L_law_558 : decode code 558 = .ok (.aload_n 0, 1) := by decide +kernel
theorem d_L_law_559 : decode code 559 = .ok (.iload_n 3, 1) := by decide +kernel
theorem d_L_law_560 : decode code 560 = .ok (.iconst 1, 1) := by decide +kernel
theorem d_L_law_561 : decode code 561 = .ok (.iadd, 1) := by decide +kernel
theorem d_L_law_562 : decode code 562 = .ok (.iaload, 1) := by decide +kernel
theorem d_L_law_563 : decode code 563 = .ok (.aload_n 0, 1) := by decide +kernel
theorem d_L_law_564 : decode code 564 = .ok (.iload_n 3, 1) := by decide +kernel
theorem d_L_law_565 : decode code 565 = .ok (.iconst 2, 1) := by decide +kernel
theorem d_L_law_566 : decode code 566 = .ok (.iadd, 1) := by decide +kernel
theorem d_L_law_567 : decode code 567 = .ok (.iaload, 1) := by decide +kernel
theorem d_L_law_568 : decode code 568 = .ok (.aload_n 0, 1) := by decide +kernel
theorem d_L_law_569 : decode code 569 = .ok (.iload_n 3, 1) := by decide +kernel
theorem d_L_law_570 : decode code 570 = .ok (.iconst 3, 1) := by decide +kernel
theorem d_L_law_571 : decode code 571 = .ok (.iadd, 1) := by decide +kernel
theorem d_L_law_572 : decode code 572 = .ok (.iaload, 1) := by decide +kernel
theorem d_L_law_573 : decode code 573 = .ok (.invokevirtual 81, 3) := by decide +kernel
theorem d_L_law_576 : decode code 576 = .ok (.aload_n 2, 1) := by decide +kernel
theorem d_L_law_577 : decode code 577 = .ok (.aload_n 0, 1) := by decide +kernel
theorem d_L_law_578 : decode code 578 = .ok (.iload_n 3, 1) := by decide +kernel
theorem d_L_law_579 : decode code 579 = .ok (.iconst 1, 1) := by decide +kernel
theorem d_L_law_580 : decode code 580 = .ok (.iadd, 1) := by decide +kernel
theorem d_L_law_581 : decode code 581 = .ok (.iaload, 1) := by decide +kernel
theorem d_L_law_582 : decode code 582 = .ok (.aload_n 0, 1) := by decide +kernel
theorem d_L_law_583 : decode code 583 = .ok (.iload_n 3, 1) := by decide +kernel
theorem d_L_law_584 : decode code 584 = .ok (.iconst 2, 1) := by decide +kernel
theorem d_L_law_585 : decode code 585 = .ok (.iadd, 1) := by decide +kernel
theorem d_L_law_586 : decode code 586 = .ok (.iaload, 1) := by decide +kernel
theorem d_L_law_587 : decode code 587 = .ok (.aload_n 0, 1) := by decide +kernel
theorem d_L_law_588 : decode code 588 = .ok (.iload_n 3, 1) := by decide +kernel
theorem d_L_law_589 : decode code 589 = .ok (.iconst 3, 1) := by decide +kernel
theorem d_L_law_590 : decode code 590 = .ok (.iadd, 1) := by decide +kernel
theorem d_L_law_591 : decode code 591 = .ok (.iaload, 1) := by decide +kernel
theorem d_L_law_592 : decode code 592 = .ok (.invokevirtual 84, 3) := by decide +kernel
theorem d_L_law_595 : decode code 595 = .ok (.if_icmp .eq 94, 3) := by decide +kernel
theorem d_L_law_598 : decode code 598 = .ok (.iconst 0, 1) := by decide +kernel
theorem d_L_law_599 : decode code 599 = .ok (.ireturn, 1) := by decide +kernel
theorem d_L_law_600 : decode code 600 = .ok (.aload_n 1, 1) := by decide +kernel
theorem d_L_law_601 : decode code 601 = .ok (.aload_n 0, 1) := by decide +kernel
theorem d_L_law_602 : decode code 602 = .ok (.iload_n 3, 1) := by decide +kernel
theorem d_L_law_603 : decode code 603 = .ok (.iconst 1, 1) := by decide +kernel
theorem d_L_law_604 : decode code 604 = .ok (.iadd, 1) := by decide +kernel
theorem d_L_law_605 : decode code 605 = .ok (.iaload, 1) := by decide +kernel
theorem d_L_law_606 : decode code 606 = .ok (.invokevirtual 85, 3) := by decide +kernel
theorem d_L_law_609 : decode code 609 = .ok (.aload_n 2, 1) := by decide +kernel
theorem d_L_law_610 : decode code 610 = .ok (.aload_n 0, 1) := by decide +kernel
theorem d_L_law_611 : decode code 611 = .ok (.iload_n 3, 1) := by decide +kernel
theorem d_L_law_612 : decode code 612 = .ok (.iconst 1, 1) := by decide +kernel
theorem d_L_law_613 : decode code 613 = .ok (.iadd, 1) := by decide +kernel
theorem d_L_law_614 : decode code 614 = .ok (.iaload, 1) := by decide +kernel
theorem d_L_law_615 : decode code 615 = .ok (.invokevirtual 88, 3) := by decide +kernel
theorem d_L_law_618 : decode code 618 = .ok (.if_icmp .eq 71, 3) := by decide +kernel
theorem d_L_law_621 : decode code 621 = .ok (.iconst 0, 1) := by decide +kernel
theorem d_L_law_622 : decode code 622 = .ok (.ireturn, 1) := by decide +kernel
theorem d_L_law_623 : decode code 623 = .ok (.aload_n 1, 1) := by decide +kernel
theorem d_L_law_624 : decode code 624 = .ok (.aload_n 0, 1) := by decide +kernel
theorem d_L_law_625 : decode code 625 = .ok (.iload_n 3, 1) := by decide +kernel
theorem d_L_law_626 : decode code 626 = .ok (.iconst 1, 1) := by decide +kernel
theorem d_L_law_627 : decode code 627 = .ok (.iadd, 1) := by decide +kernel
theorem d_L_law_628 : decode code 628 = .ok (.iaload, 1) := by decide +kernel
theorem d_L_law_629 : decode code 629 = .ok (.invokevirtual 89, 3) := by decide +kernel
theorem d_L_law_632 : decode code 632 = .ok (.aload_n 2, 1) := by decide +kernel
theorem d_L_law_633 : decode code 633 = .ok (.aload_n 0, 1) := by decide +kernel
theorem d_L_law_634 : decode code 634 = .ok (.iload_n 3, 1) := by decide +kernel
theorem d_L_law_635 : decode code 635 = .ok (.iconst 1, 1) := by decide +kernel
theorem d_L_law_636 : decode code 636 = .ok (.iadd, 1) := by decide +kernel
theorem d_L_law_637 : decode code 637 = .ok (.iaload, 1) := by decide +kernel
theorem d_L_law_638 : decode code 638 = .ok (.invokevirtual 92, 3) := by decide +kernel
theorem d_L_law_641 : decode code 641 = .ok (.if_icmp .eq 48, 3) := by decide +kernel
theorem d_L_law_644 : decode code 644 = .ok (.iconst 0, 1) := by decide +kernel
theorem d_L_law_645 : decode code 645 = .ok (.ireturn, 1) := by decide +kernel
theorem d_L_law_646 : decode code 646 = .ok (.aload_n 1, 1) := by decide +kernel
theorem d_L_law_647 : decode code 647 = .ok (.aload_n 0, 1) := by decide +kernel
theorem d_L_law_648 : decode code 648 = .ok (.iload_n 3, 1) := by decide +kernel
theorem d_L_law_649 : decode code 649 = .ok (.iconst 1, 1) := by decide +kernel
theorem d_L_law_650 : decode code 650 = .ok (.iadd, 1) := by decide +kernel
theorem d_L_law_651 : decode code 651 = .ok (.iaload, 1) := by decide +kernel
theorem d_L_law_652 : decode code 652 = .ok (.aload_n 0, 1) := by decide +kernel
theorem d_L_law_653 : decode code 653 = .ok (.iload_n 3, 1) := by decide +kernel
theorem d_L_law_654 : decode code 654 = .ok (.iconst 2, 1) := by decide +kernel
theorem d_L_law_655 : decode code 655 = .ok (.iadd, 1) := by decide +kernel
theorem d_L_law_656 : decode code 656 = .ok (.iaload, 1) := by decide +kernel
theorem d_L_law_657 : decode code 657 = .ok (.aload_n 0, 1) := by decide +kernel
theorem d_L_law_658 : decode code 658 = .ok (.iload_n 3, 1) := by decide +kernel
theorem d_L_law_659 : decode code 659 = .ok (.iconst 3, 1) := by decide +kernel
theorem d_L_law_660 : decode code 660 = .ok (.iadd, 1) := by decide +kernel
theorem d_L_law_661 : decode code 661 = .ok (.iaload, 1) := by decide +kernel
theorem d_L_law_662 : decode code 662 = .ok (.invokevirtual 93, 3) := by decide +kernel
theorem d_L_law_665 : decode code 665 = .ok (.aload_n 2, 1) := by decide +kernel
theorem d_L_law_666 : decode code 666 = .ok (.aload_n 0, 1) := by decide +kernel
theorem d_L_law_667 : decode code 667 = .ok (.iload_n 3, 1) := by decide +kernel
theorem d_L_law_668 : decode code 668 = .ok (.iconst 1, 1) := by decide +kernel
theorem d_L_law_669 : decode code 669 = .ok (.iadd, 1) := by decide +kernel
theorem d_L_law_670 : decode code 670 = .ok (.iaload, 1) := by decide +kernel
theorem d_L_law_671 : decode code 671 = .ok (.aload_n 0, 1) := by decide +kernel
theorem d_L_law_672 : decode code 672 = .ok (.iload_n 3, 1) := by decide +kernel
theorem d_L_law_673 : decode code 673 = .ok (.iconst 2, 1) := by decide +kernel
theorem d_L_law_674 : decode code 674 = .ok (.iadd, 1) := by decide +kernel
theorem d_L_law_675 : decode code 675 = .ok (.iaload, 1) := by decide +kernel
theorem d_L_law_676 : decode code 676 = .ok (.aload_n 0, 1) := by decide +kernel
theorem d_L_law_677 : decode code 677 = .ok (.iload_n 3, 1) := by decide +kernel
theorem d_L_law_678 : decode code 678 = .ok (.iconst 3, 1) := by decide +kernel
theorem d_L_law_679 : decode code 679 = .ok (.iadd, 1) := by decide +kernel
theorem d_L_law_680 : decode code 680 = .ok (.iaload, 1) := by decide +kernel
theorem d_L_law_681 : decode code 681 = .ok (.invokevirtual 96, 3) := by decide +kernel
theorem d_L_law_684 : decode code 684 = .ok (.if_icmp .eq 5, 3) := by decide +kernel
theorem d_L_law_687 : decode code 687 = .ok (.iconst 0, 1) := by decide +kernel
theorem d_L_law_688 : decode code 688 = .ok (.ireturn, 1) := by decide +kernel
theorem d_L_law_689 : decode code 689 = .ok (.iinc 3 6, 3) := by decide +kernel
theorem d_L_law_692 : decode code 692 = .ok (.goto (-664), 3) := by decide +kernel
theorem d_L_law_695 : decode code 695 = .ok (.iconst 1, 1) := by decide +kernel
theorem d_L_law_696 : decode code 696 = .ok (.ireturn, 1) := by decide +kernel
