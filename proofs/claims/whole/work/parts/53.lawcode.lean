/-! Part 53: decode rows of law. -/
theorem dd_L_law_0 : decode code 0 = .ok (.new 7, 3) := by decide +kernel
theorem dd_L_law_3 : decode code 3 = .ok (.dup, 1) := by decide +kernel
theorem dd_L_law_4 : decode code 4 = .ok (.aload_n 0, 1) := by decide +kernel
theorem dd_L_law_5 : decode code 5 = .ok (.iconst 0, 1) := by decide +kernel
theorem dd_L_law_6 : decode code 6 = .ok (.invokestatic 9, 3) := by decide +kernel
theorem dd_L_law_9 : decode code 9 = .ok (.invokespecial 15, 3) := by decide +kernel
theorem dd_L_law_12 : decode code 12 = .ok (.astore_n 1, 1) := by decide +kernel
theorem dd_L_law_13 : decode code 13 = .ok (.new 18, 3) := by decide +kernel
theorem dd_L_law_16 : decode code 16 = .ok (.dup, 1) := by decide +kernel
theorem dd_L_law_17 : decode code 17 = .ok (.aload_n 0, 1) := by decide +kernel
theorem dd_L_law_18 : decode code 18 = .ok (.iconst 0, 1) := by decide +kernel
theorem dd_L_law_19 : decode code 19 = .ok (.invokestatic 9, 3) := by decide +kernel
theorem dd_L_law_22 : decode code 22 = .ok (.invokespecial 20, 3) := by decide +kernel
theorem dd_L_law_25 : decode code 25 = .ok (.astore_n 2, 1) := by decide +kernel
theorem dd_L_law_26 : decode code 26 = .ok (.iconst 1, 1) := by decide +kernel
theorem dd_L_law_27 : decode code 27 = .ok (.istore_n 3, 1) := by decide +kernel
theorem dd_L_law_28 : decode code 28 = .ok (.iload_n 3, 1) := by decide +kernel
theorem dd_L_law_29 : decode code 29 = .ok (.aload_n 0, 1) := by decide +kernel
theorem dd_L_law_30 : decode code 30 = .ok (.arraylength, 1) := by decide +kernel
theorem dd_L_law_31 : decode code 31 = .ok (.iconst 4, 1) := by decide +kernel
theorem dd_L_law_32 : decode code 32 = .ok (.isub, 1) := by decide +kernel
theorem dd_L_law_33 : decode code 33 = .ok (.if_icmp .gt 738, 3) := by decide +kernel
theorem dd_L_law_36 : decode code 36 = .ok (.aload_n 0, 1) := by decide +kernel
theorem dd_L_law_37 : decode code 37 = .ok (.iload_n 3, 1) := by decide +kernel
theorem dd_L_law_38 : decode code 38 = .ok (.iaload, 1) := by decide +kernel
theorem dd_L_law_39 : decode code 39 = .ok (.bipush 31, 2) := by decide +kernel
theorem dd_L_law_41 : decode code 41 = .ok (.iand, 1) := by decide +kernel
theorem dd_L_law_42 : decode code 42 = .ok (.tableswitch 723 0 19 #[94, 127, 160, 219, 282, 341, 374, 397, 420, 443, 492, 505, 528, 581, 595, 618, 641, 664, 687, 710], 94) := by decide +kernel
theorem dd_L_law_136 : decode code 136 = .ok (.aload_n 1, 1) := by decide +kernel
theorem dd_L_law_137 : decode code 137 = .ok (.aload_n 0, 1) := by decide +kernel
theorem dd_L_law_138 : decode code 138 = .ok (.iload_n 3, 1) := by decide +kernel
theorem dd_L_law_139 : decode code 139 = .ok (.iconst 1, 1) := by decide +kernel
theorem dd_L_law_140 : decode code 140 = .ok (.iadd, 1) := by decide +kernel
theorem dd_L_law_141 : decode code 141 = .ok (.iaload, 1) := by decide +kernel
theorem dd_L_law_142 : decode code 142 = .ok (.aload_n 0, 1) := by decide +kernel
theorem dd_L_law_143 : decode code 143 = .ok (.iload_n 3, 1) := by decide +kernel
theorem dd_L_law_144 : decode code 144 = .ok (.iconst 2, 1) := by decide +kernel
theorem dd_L_law_145 : decode code 145 = .ok (.iadd, 1) := by decide +kernel
theorem dd_L_law_146 : decode code 146 = .ok (.iaload, 1) := by decide +kernel
theorem dd_L_law_147 : decode code 147 = .ok (.invokevirtual 21, 3) := by decide +kernel
theorem dd_L_law_150 : decode code 150 = .ok (.aload_n 2, 1) := by decide +kernel
theorem dd_L_law_151 : decode code 151 = .ok (.aload_n 0, 1) := by decide +kernel
theorem dd_L_law_152 : decode code 152 = .ok (.iload_n 3, 1) := by decide +kernel
theorem dd_L_law_153 : decode code 153 = .ok (.iconst 1, 1) := by decide +kernel
theorem dd_L_law_154 : decode code 154 = .ok (.iadd, 1) := by decide +kernel
theorem dd_L_law_155 : decode code 155 = .ok (.iaload, 1) := by decide +kernel
theorem dd_L_law_156 : decode code 156 = .ok (.aload_n 0, 1) := by decide +kernel
theorem dd_L_law_157 : decode code 157 = .ok (.iload_n 3, 1) := by decide +kernel
theorem dd_L_law_158 : decode code 158 = .ok (.iconst 2, 1) := by decide +kernel
theorem dd_L_law_159 : decode code 159 = .ok (.iadd, 1) := by decide +kernel
theorem dd_L_law_160 : decode code 160 = .ok (.iaload, 1) := by decide +kernel
theorem dd_L_law_161 : decode code 161 = .ok (.invokevirtual 25, 3) := by decide +kernel
theorem dd_L_law_164 : decode code 164 = .ok (.if_icmp .eq 601, 3) := by decide +kernel
theorem dd_L_law_167 : decode code 167 = .ok (.iconst 0, 1) := by decide +kernel
theorem dd_L_law_168 : decode code 168 = .ok (.ireturn, 1) := by decide +kernel
theorem dd_L_law_169 : decode code 169 = .ok (.aload_n 1, 1) := by decide +kernel
theorem dd_L_law_170 : decode code 170 = .ok (.aload_n 0, 1) := by decide +kernel
theorem dd_L_law_171 : decode code 171 = .ok (.iload_n 3, 1) := by decide +kernel
theorem dd_L_law_172 : decode code 172 = .ok (.iconst 1, 1) := by decide +kernel
theorem dd_L_law_173 : decode code 173 = .ok (.iadd, 1) := by decide +kernel
theorem dd_L_law_174 : decode code 174 = .ok (.iaload, 1) := by decide +kernel
theorem dd_L_law_175 : decode code 175 = .ok (.aload_n 0, 1) := by decide +kernel
theorem dd_L_law_176 : decode code 176 = .ok (.iload_n 3, 1) := by decide +kernel
theorem dd_L_law_177 : decode code 177 = .ok (.iconst 2, 1) := by decide +kernel
theorem dd_L_law_178 : decode code 178 = .ok (.iadd, 1) := by decide +kernel
theorem dd_L_law_179 : decode code 179 = .ok (.iaload, 1) := by decide +kernel
theorem dd_L_law_180 : decode code 180 = .ok (.invokevirtual 26, 3) := by decide +kernel
theorem dd_L_law_183 : decode code 183 = .ok (.aload_n 2, 1) := by decide +kernel
theorem dd_L_law_184 : decode code 184 = .ok (.aload_n 0, 1) := by decide +kernel
theorem dd_L_law_185 : decode code 185 = .ok (.iload_n 3, 1) := by decide +kernel
theorem dd_L_law_186 : decode code 186 = .ok (.iconst 1, 1) := by decide +kernel
theorem dd_L_law_187 : decode code 187 = .ok (.iadd, 1) := by decide +kernel
theorem dd_L_law_188 : decode code 188 = .ok (.iaload, 1) := by decide +kernel
theorem dd_L_law_189 : decode code 189 = .ok (.aload_n 0, 1) := by decide +kernel
theorem dd_L_law_190 : decode code 190 = .ok (.iload_n 3, 1) := by decide +kernel
theorem dd_L_law_191 : decode code 191 = .ok (.iconst 2, 1) := by decide +kernel
theorem dd_L_law_192 : decode code 192 = .ok (.iadd, 1) := by decide +kernel
theorem dd_L_law_193 : decode code 193 = .ok (.iaload, 1) := by decide +kernel
theorem dd_L_law_194 : decode code 194 = .ok (.invokevirtual 29, 3) := by decide +kernel
theorem dd_L_law_197 : decode code 197 = .ok (.if_icmp .eq 568, 3) := by decide +kernel
theorem dd_L_law_200 : decode code 200 = .ok (.iconst 0, 1) := by decide +kernel
theorem dd_L_law_201 : decode code 201 = .ok (.ireturn, 1) := by decide +kernel
theorem dd_L_law_202 : decode code 202 = .ok (.aload_n 1, 1) := by decide +kernel
theorem dd_L_law_203 : decode code 203 = .ok (.aload_n 0, 1) := by decide +kernel
theorem dd_L_law_204 : decode code 204 = .ok (.iload_n 3, 1) := by decide +kernel
theorem dd_L_law_205 : decode code 205 = .ok (.iconst 1, 1) := by decide +kernel
theorem dd_L_law_206 : decode code 206 = .ok (.iadd, 1) := by decide +kernel
theorem dd_L_law_207 : decode code 207 = .ok (.iaload, 1) := by decide +kernel
theorem dd_L_law_208 : decode code 208 = .ok (.aload_n 0, 1) := by decide +kernel
theorem dd_L_law_209 : decode code 209 = .ok (.iload_n 3, 1) := by decide +kernel
theorem dd_L_law_210 : decode code 210 = .ok (.iconst 2, 1) := by decide +kernel
theorem dd_L_law_211 : decode code 211 = .ok (.iadd, 1) := by decide +kernel
theorem dd_L_law_212 : decode code 212 = .ok (.iaload, 1) := by decide +kernel
theorem dd_L_law_213 : decode code 213 = .ok (.ifCond .eq 7, 3) := by decide +kernel
theorem dd_L_law_216 : decode code 216 = .ok (.iconst 1, 1) := by decide +kernel
theorem dd_L_law_217 : decode code 217 = .ok (.goto 4, 3) := by decide +kernel
theorem dd_L_law_220 : decode code 220 = .ok (.iconst 0, 1) := by decide +kernel
theorem dd_L_law_221 : decode code 221 = .ok (.aload_n 0, 1) := by decide +kernel
theorem dd_L_law_222 : decode code 222 = .ok (.iload_n 3, 1) := by decide +kernel
theorem dd_L_law_223 : decode code 223 = .ok (.iconst 3, 1) := by decide +kernel
theorem dd_L_law_224 : decode code 224 = .ok (.iadd, 1) := by decide +kernel
theorem dd_L_law_225 : decode code 225 = .ok (.iaload, 1) := by decide +kernel
theorem dd_L_law_226 : decode code 226 = .ok (.invokevirtual 30, 3) := by decide +kernel
theorem dd_L_law_229 : decode code 229 = .ok (.aload_n 2, 1) := by decide +kernel
theorem dd_L_law_230 : decode code 230 = .ok (.aload_n 0, 1) := by decide +kernel
theorem dd_L_law_231 : decode code 231 = .ok (.iload_n 3, 1) := by decide +kernel
theorem dd_L_law_232 : decode code 232 = .ok (.iconst 1, 1) := by decide +kernel
theorem dd_L_law_233 : decode code 233 = .ok (.iadd, 1) := by decide +kernel
theorem dd_L_law_234 : decode code 234 = .ok (.iaload, 1) := by decide +kernel
theorem dd_L_law_235 : decode code 235 = .ok (.aload_n 0, 1) := by decide +kernel
theorem dd_L_law_236 : decode code 236 = .ok (.iload_n 3, 1) := by decide +kernel
theorem dd_L_law_237 : decode code 237 = .ok (.iconst 2, 1) := by decide +kernel
theorem dd_L_law_238 : decode code 238 = .ok (.iadd, 1) := by decide +kernel
theorem dd_L_law_239 : decode code 239 = .ok (.iaload, 1) := by decide +kernel
theorem dd_L_law_240 : decode code 240 = .ok (.ifCond .eq 7, 3) := by decide +kernel
theorem dd_L_law_243 : decode code 243 = .ok (.iconst 1, 1) := by decide +kernel
theorem dd_L_law_244 : decode code 244 = .ok (.goto 4, 3) := by decide +kernel
theorem dd_L_law_247 : decode code 247 = .ok (.iconst 0, 1) := by decide +kernel
theorem dd_L_law_248 : decode code 248 = .ok (.aload_n 0, 1) := by decide +kernel
theorem dd_L_law_249 : decode code 249 = .ok (.iload_n 3, 1) := by decide +kernel
theorem dd_L_law_250 : decode code 250 = .ok (.iconst 3, 1) := by decide +kernel
theorem dd_L_law_251 : decode code 251 = .ok (.iadd, 1) := by decide +kernel
theorem dd_L_law_252 : decode code 252 = .ok (.iaload, 1) := by decide +kernel
theorem dd_L_law_253 : decode code 253 = .ok (.invokevirtual 34, 3) := by decide +kernel
theorem dd_L_law_256 : decode code 256 = .ok (.if_icmp .eq 509, 3) := by decide +kernel
theorem dd_L_law_259 : decode code 259 = .ok (.iconst 0, 1) := by decide +kernel
theorem dd_L_law_260 : decode code 260 = .ok (.ireturn, 1) := by decide +kernel
theorem dd_L_law_261 : decode code 261 = .ok (.aload_n 1, 1) := by decide +kernel
theorem dd_L_law_262 : decode code 262 = .ok (.aload_n 0, 1) := by decide +kernel
theorem dd_L_law_263 : decode code 263 = .ok (.iload_n 3, 1) := by decide +kernel
theorem dd_L_law_264 : decode code 264 = .ok (.iconst 1, 1) := by decide +kernel
theorem dd_L_law_265 : decode code 265 = .ok (.iadd, 1) := by decide +kernel
theorem dd_L_law_266 : decode code 266 = .ok (.iaload, 1) := by decide +kernel
theorem dd_L_law_267 : decode code 267 = .ok (.aload_n 0, 1) := by decide +kernel
theorem dd_L_law_268 : decode code 268 = .ok (.iload_n 3, 1) := by decide +kernel
theorem dd_L_law_269 : decode code 269 = .ok (.iconst 2, 1) := by decide +kernel
theorem dd_L_law_270 : decode code 270 = .ok (.iadd, 1) := by decide +kernel
theorem dd_L_law_271 : decode code 271 = .ok (.iaload, 1) := by decide +kernel
theorem dd_L_law_272 : decode code 272 = .ok (.i2l, 1) := by decide +kernel
theorem dd_L_law_273 : decode code 273 = .ok (.bipush 32, 2) := by decide +kernel
theorem dd_L_law_275 : decode code 275 = .ok (.lshl, 1) := by decide +kernel
theorem dd_L_law_276 : decode code 276 = .ok (.aload_n 0, 1) := by decide +kernel
theorem dd_L_law_277 : decode code 277 = .ok (.iload_n 3, 1) := by decide +kernel
theorem dd_L_law_278 : decode code 278 = .ok (.iconst 3, 1) := by decide +kernel
theorem dd_L_law_279 : decode code 279 = .ok (.iadd, 1) := by decide +kernel
theorem dd_L_law_280 : decode code 280 = .ok (.iaload, 1) := by decide +kernel
theorem dd_L_law_281 : decode code 281 = .ok (.i2l, 1) := by decide +kernel
theorem dd_L_law_282 : decode code 282 = .ok (.ldc2_w 35, 3) := by decide +kernel
theorem dd_L_law_285 : decode code 285 = .ok (.land, 1) := by decide +kernel
theorem dd_L_law_286 : decode code 286 = .ok (.lor, 1) := by decide +kernel
theorem dd_L_law_287 : decode code 287 = .ok (.invokevirtual 37, 3) := by decide +kernel
theorem dd_L_law_290 : decode code 290 = .ok (.aload_n 2, 1) := by decide +kernel
theorem dd_L_law_291 : decode code 291 = .ok (.aload_n 0, 1) := by decide +kernel
theorem dd_L_law_292 : decode code 292 = .ok (.iload_n 3, 1) := by decide +kernel
theorem dd_L_law_293 : decode code 293 = .ok (.iconst 1, 1) := by decide +kernel
theorem dd_L_law_294 : decode code 294 = .ok (.iadd, 1) := by decide +kernel
theorem dd_L_law_295 : decode code 295 = .ok (.iaload, 1) := by decide +kernel
theorem dd_L_law_296 : decode code 296 = .ok (.aload_n 0, 1) := by decide +kernel
theorem dd_L_law_297 : decode code 297 = .ok (.iload_n 3, 1) := by decide +kernel
theorem dd_L_law_298 : decode code 298 = .ok (.iconst 2, 1) := by decide +kernel
theorem dd_L_law_299 : decode code 299 = .ok (.iadd, 1) := by decide +kernel
theorem dd_L_law_300 : decode code 300 = .ok (.iaload, 1) := by decide +kernel
theorem dd_L_law_301 : decode code 301 = .ok (.i2l, 1) := by decide +kernel
theorem dd_L_law_302 : decode code 302 = .ok (.bipush 32, 2) := by decide +kernel
theorem dd_L_law_304 : decode code 304 = .ok (.lshl, 1) := by decide +kernel
theorem dd_L_law_305 : decode code 305 = .ok (.aload_n 0, 1) := by decide +kernel
theorem dd_L_law_306 : decode code 306 = .ok (.iload_n 3, 1) := by decide +kernel
theorem dd_L_law_307 : decode code 307 = .ok (.iconst 3, 1) := by decide +kernel
theorem dd_L_law_308 : decode code 308 = .ok (.iadd, 1) := by decide +kernel
theorem dd_L_law_309 : decode code 309 = .ok (.iaload, 1) := by decide +kernel
theorem dd_L_law_310 : decode code 310 = .ok (.i2l, 1) := by decide +kernel
theorem dd_L_law_311 : decode code 311 = .ok (.ldc2_w 35, 3) := by decide +kernel
theorem dd_L_law_314 : decode code 314 = .ok (.land, 1) := by decide +kernel
theorem dd_L_law_315 : decode code 315 = .ok (.lor, 1) := by decide +kernel
theorem dd_L_law_316 : decode code 316 = .ok (.invokevirtual 41, 3) := by decide +kernel
theorem dd_L_law_319 : decode code 319 = .ok (.if_icmp .eq 446, 3) := by decide +kernel
theorem dd_L_law_322 : decode code 322 = .ok (.iconst 0, 1) := by decide +kernel
theorem dd_L_law_323 : decode code 323 = .ok (.ireturn, 1) := by decide +kernel
theorem dd_L_law_324 : decode code 324 = .ok (.aload_n 1, 1) := by decide +kernel
theorem dd_L_law_325 : decode code 325 = .ok (.aload_n 0, 1) := by decide +kernel
theorem dd_L_law_326 : decode code 326 = .ok (.iload_n 3, 1) := by decide +kernel
theorem dd_L_law_327 : decode code 327 = .ok (.iconst 1, 1) := by decide +kernel
theorem dd_L_law_328 : decode code 328 = .ok (.iadd, 1) := by decide +kernel
theorem dd_L_law_329 : decode code 329 = .ok (.iaload, 1) := by decide +kernel
theorem dd_L_law_330 : decode code 330 = .ok (.aload_n 0, 1) := by decide +kernel
theorem dd_L_law_331 : decode code 331 = .ok (.iload_n 3, 1) := by decide +kernel
theorem dd_L_law_332 : decode code 332 = .ok (.iconst 2, 1) := by decide +kernel
theorem dd_L_law_333 : decode code 333 = .ok (.iadd, 1) := by decide +kernel
theorem dd_L_law_334 : decode code 334 = .ok (.iaload, 1) := by decide +kernel
theorem dd_L_law_335 : decode code 335 = .ok (.aload_n 0, 1) := by decide +kernel
theorem dd_L_law_336 : decode code 336 = .ok (.iload_n 3, 1) := by decide +kernel
theorem dd_L_law_337 : decode code 337 = .ok (.iconst 3, 1) := by decide +kernel
theorem dd_L_law_338 : decode code 338 = .ok (.iadd, 1) := by decide +kernel
theorem dd_L_law_339 : decode code 339 = .ok (.iaload, 1) := by decide +kernel
theorem dd_L_law_340 : decode code 340 = .ok (.ifCond .eq 7, 3) := by decide +kernel
theorem dd_L_law_343 : decode code 343 = .ok (.iconst 1, 1) := by decide +kernel
theorem dd_L_law_344 : decode code 344 = .ok (.goto 4, 3) := by decide +kernel
theorem dd_L_law_347 : decode code 347 = .ok (.iconst 0, 1) := by decide +kernel
theorem dd_L_law_348 : decode code 348 = .ok (.invokevirtual 42, 3) := by decide +kernel
theorem dd_L_law_351 : decode code 351 = .ok (.aload_n 2, 1) := by decide +kernel
theorem dd_L_law_352 : decode code 352 = .ok (.aload_n 0, 1) := by decide +kernel
theorem dd_L_law_353 : decode code 353 = .ok (.iload_n 3, 1) := by decide +kernel
theorem dd_L_law_354 : decode code 354 = .ok (.iconst 1, 1) := by decide +kernel
theorem dd_L_law_355 : decode code 355 = .ok (.iadd, 1) := by decide +kernel
theorem dd_L_law_356 : decode code 356 = .ok (.iaload, 1) := by decide +kernel
theorem dd_L_law_357 : decode code 357 = .ok (.aload_n 0, 1) := by decide +kernel
theorem dd_L_law_358 : decode code 358 = .ok (.iload_n 3, 1) := by decide +kernel
theorem dd_L_law_359 : decode code 359 = .ok (.iconst 2, 1) := by decide +kernel
theorem dd_L_law_360 : decode code 360 = .ok (.iadd, 1) := by decide +kernel
theorem dd_L_law_361 : decode code 361 = .ok (.iaload, 1) := by decide +kernel
theorem dd_L_law_362 : decode code 362 = .ok (.aload_n 0, 1) := by decide +kernel
theorem dd_L_law_363 : decode code 363 = .ok (.iload_n 3, 1) := by decide +kernel
theorem dd_L_law_364 : decode code 364 = .ok (.iconst 3, 1) := by decide +kernel
theorem dd_L_law_365 : decode code 365 = .ok (.iadd, 1) := by decide +kernel
theorem dd_L_law_366 : decode code 366 = .ok (.iaload, 1) := by decide +kernel
theorem dd_L_law_367 : decode code 367 = .ok (.ifCond .eq 7, 3) := by decide +kernel
theorem dd_L_law_370 : decode code 370 = .ok (.iconst 1, 1) := by decide +kernel
theorem dd_L_law_371 : decode code 371 = .ok (.goto 4, 3) := by decide +kernel
theorem dd_L_law_374 : decode code 374 = .ok (.iconst 0, 1) := by decide +kernel
theorem dd_L_law_375 : decode code 375 = .ok (.invokevirtual 46, 3) := by decide +kernel
theorem dd_L_law_378 : decode code 378 = .ok (.if_icmp .eq 387, 3) := by decide +kernel
theorem dd_L_law_381 : decode code 381 = .ok (.iconst 0, 1) := by decide +kernel
theorem dd_L_law_382 : decode code 382 = .ok (.ireturn, 1) := by decide +kernel
theorem dd_L_law_383 : decode code 383 = .ok (.aload_n 1, 1) := by decide +kernel
theorem dd_L_law_384 : decode code 384 = .ok (.aload_n 0, 1) := by decide +kernel
theorem dd_L_law_385 : decode code 385 = .ok (.iload_n 3, 1) := by decide +kernel
theorem dd_L_law_386 : decode code 386 = .ok (.iconst 1, 1) := by decide +kernel
theorem dd_L_law_387 : decode code 387 = .ok (.iadd, 1) := by decide +kernel
theorem dd_L_law_388 : decode code 388 = .ok (.iaload, 1) := by decide +kernel
theorem dd_L_law_389 : decode code 389 = .ok (.aload_n 0, 1) := by decide +kernel
theorem dd_L_law_390 : decode code 390 = .ok (.iload_n 3, 1) := by decide +kernel
theorem dd_L_law_391 : decode code 391 = .ok (.iconst 2, 1) := by decide +kernel
theorem dd_L_law_392 : decode code 392 = .ok (.iadd, 1) := by decide +kernel
theorem dd_L_law_393 : decode code 393 = .ok (.iaload, 1) := by decide +kernel
theorem dd_L_law_394 : decode code 394 = .ok (.invokevirtual 47, 3) := by decide +kernel
theorem dd_L_law_397 : decode code 397 = .ok (.aload_n 2, 1) := by decide +kernel
theorem dd_L_law_398 : decode code 398 = .ok (.aload_n 0, 1) := by decide +kernel
theorem dd_L_law_399 : decode code 399 = .ok (.iload_n 3, 1) := by decide +kernel
theorem dd_L_law_400 : decode code 400 = .ok (.iconst 1, 1) := by decide +kernel
theorem dd_L_law_401 : decode code 401 = .ok (.iadd, 1) := by decide +kernel
theorem dd_L_law_402 : decode code 402 = .ok (.iaload, 1) := by decide +kernel
theorem dd_L_law_403 : decode code 403 = .ok (.aload_n 0, 1) := by decide +kernel
theorem dd_L_law_404 : decode code 404 = .ok (.iload_n 3, 1) := by decide +kernel
theorem dd_L_law_405 : decode code 405 = .ok (.iconst 2, 1) := by decide +kernel
theorem dd_L_law_406 : decode code 406 = .ok (.iadd, 1) := by decide +kernel
theorem dd_L_law_407 : decode code 407 = .ok (.iaload, 1) := by decide +kernel
theorem dd_L_law_408 : decode code 408 = .ok (.invokevirtual 50, 3) := by decide +kernel
theorem dd_L_law_411 : decode code 411 = .ok (.if_icmp .eq 354, 3) := by decide +kernel
theorem dd_L_law_414 : decode code 414 = .ok (.iconst 0, 1) := by decide +kernel
theorem dd_L_law_415 : decode code 415 = .ok (.ireturn, 1) := by decide +kernel
theorem dd_L_law_416 : decode code 416 = .ok (.aload_n 1, 1) := by decide +kernel
theorem dd_L_law_417 : decode code 417 = .ok (.aload_n 0, 1) := by decide +kernel
theorem dd_L_law_418 : decode code 418 = .ok (.iload_n 3, 1) := by decide +kernel
theorem dd_L_law_419 : decode code 419 = .ok (.iconst 1, 1) := by decide +kernel
theorem dd_L_law_420 : decode code 420 = .ok (.iadd, 1) := by decide +kernel
theorem dd_L_law_421 : decode code 421 = .ok (.iaload, 1) := by decide +kernel
theorem dd_L_law_422 : decode code 422 = .ok (.invokevirtual 51, 3) := by decide +kernel
theorem dd_L_law_425 : decode code 425 = .ok (.aload_n 2, 1) := by decide +kernel
theorem dd_L_law_426 : decode code 426 = .ok (.aload_n 0, 1) := by decide +kernel
theorem dd_L_law_427 : decode code 427 = .ok (.iload_n 3, 1) := by decide +kernel
theorem dd_L_law_428 : decode code 428 = .ok (.iconst 1, 1) := by decide +kernel
theorem dd_L_law_429 : decode code 429 = .ok (.iadd, 1) := by decide +kernel
theorem dd_L_law_430 : decode code 430 = .ok (.iaload, 1) := by decide +kernel
theorem dd_L_law_431 : decode code 431 = .ok (.invokevirtual 55, 3) := by decide +kernel
theorem dd_L_law_434 : decode code 434 = .ok (.if_icmp .eq 331, 3) := by decide +kernel
theorem dd_L_law_437 : decode code 437 = .ok (.iconst 0, 1) := by decide +kernel
theorem dd_L_law_438 : decode code 438 = .ok (.ireturn, 1) := by decide +kernel
theorem dd_L_law_439 : decode code 439 = .ok (.aload_n 1, 1) := by decide +kernel
theorem dd_L_law_440 : decode code 440 = .ok (.aload_n 0, 1) := by decide +kernel
theorem dd_L_law_441 : decode code 441 = .ok (.iload_n 3, 1) := by decide +kernel
theorem dd_L_law_442 : decode code 442 = .ok (.iconst 1, 1) := by decide +kernel
theorem dd_L_law_443 : decode code 443 = .ok (.iadd, 1) := by decide +kernel
theorem dd_L_law_444 : decode code 444 = .ok (.iaload, 1) := by decide +kernel
theorem dd_L_law_445 : decode code 445 = .ok (.invokevirtual 56, 3) := by decide +kernel
theorem dd_L_law_448 : decode code 448 = .ok (.aload_n 2, 1) := by decide +kernel
theorem dd_L_law_449 : decode code 449 = .ok (.aload_n 0, 1) := by decide +kernel
theorem dd_L_law_450 : decode code 450 = .ok (.iload_n 3, 1) := by decide +kernel
theorem dd_L_law_451 : decode code 451 = .ok (.iconst 1, 1) := by decide +kernel
theorem dd_L_law_452 : decode code 452 = .ok (.iadd, 1) := by decide +kernel
theorem dd_L_law_453 : decode code 453 = .ok (.iaload, 1) := by decide +kernel
theorem dd_L_law_454 : decode code 454 = .ok (.invokevirtual 59, 3) := by decide +kernel
theorem dd_L_law_457 : decode code 457 = .ok (.if_icmp .eq 308, 3) := by decide +kernel
theorem dd_L_law_460 : decode code 460 = .ok (.iconst 0, 1) := by decide +kernel
theorem dd_L_law_461 : decode code 461 = .ok (.ireturn, 1) := by decide +kernel
theorem dd_L_law_462 : decode code 462 = .ok (.aload_n 1, 1) := by decide +kernel
theorem dd_L_law_463 : decode code 463 = .ok (.aload_n 0, 1) := by decide +kernel
theorem dd_L_law_464 : decode code 464 = .ok (.iload_n 3, 1) := by decide +kernel
theorem dd_L_law_465 : decode code 465 = .ok (.iconst 1, 1) := by decide +kernel
theorem dd_L_law_466 : decode code 466 = .ok (.iadd, 1) := by decide +kernel
theorem dd_L_law_467 : decode code 467 = .ok (.iaload, 1) := by decide +kernel
theorem dd_L_law_468 : decode code 468 = .ok (.invokevirtual 60, 3) := by decide +kernel
theorem dd_L_law_471 : decode code 471 = .ok (.aload_n 2, 1) := by decide +kernel
theorem dd_L_law_472 : decode code 472 = .ok (.aload_n 0, 1) := by decide +kernel
theorem dd_L_law_473 : decode code 473 = .ok (.iload_n 3, 1) := by decide +kernel
theorem dd_L_law_474 : decode code 474 = .ok (.iconst 1, 1) := by decide +kernel
theorem dd_L_law_475 : decode code 475 = .ok (.iadd, 1) := by decide +kernel
theorem dd_L_law_476 : decode code 476 = .ok (.iaload, 1) := by decide +kernel
theorem dd_L_law_477 : decode code 477 = .ok (.invokevirtual 63, 3) := by decide +kernel
theorem dd_L_law_480 : decode code 480 = .ok (.if_icmp .eq 285, 3) := by decide +kernel
theorem dd_L_law_483 : decode code 483 = .ok (.iconst 0, 1) := by decide +kernel
theorem dd_L_law_484 : decode code 484 = .ok (.ireturn, 1) := by decide +kernel
theorem dd_L_law_485 : decode code 485 = .ok (.aload_n 1, 1) := by decide +kernel
theorem dd_L_law_486 : decode code 486 = .ok (.aload_n 0, 1) := by decide +kernel
theorem dd_L_law_487 : decode code 487 = .ok (.iload_n 3, 1) := by decide +kernel
theorem dd_L_law_488 : decode code 488 = .ok (.iconst 1, 1) := by decide +kernel
theorem dd_L_law_489 : decode code 489 = .ok (.iadd, 1) := by decide +kernel
theorem dd_L_law_490 : decode code 490 = .ok (.iaload, 1) := by decide +kernel
theorem dd_L_law_491 : decode code 491 = .ok (.aload_n 0, 1) := by decide +kernel
theorem dd_L_law_492 : decode code 492 = .ok (.iload_n 3, 1) := by decide +kernel
theorem dd_L_law_493 : decode code 493 = .ok (.iconst 2, 1) := by decide +kernel
theorem dd_L_law_494 : decode code 494 = .ok (.iadd, 1) := by decide +kernel
theorem dd_L_law_495 : decode code 495 = .ok (.iaload, 1) := by decide +kernel
theorem dd_L_law_496 : decode code 496 = .ok (.ifCond .eq 7, 3) := by decide +kernel
theorem dd_L_law_499 : decode code 499 = .ok (.iconst 1, 1) := by decide +kernel
theorem dd_L_law_500 : decode code 500 = .ok (.goto 4, 3) := by decide +kernel
theorem dd_L_law_503 : decode code 503 = .ok (.iconst 0, 1) := by decide +kernel
theorem dd_L_law_504 : decode code 504 = .ok (.invokevirtual 64, 3) := by decide +kernel
theorem dd_L_law_507 : decode code 507 = .ok (.aload_n 2, 1) := by decide +kernel
theorem dd_L_law_508 : decode code 508 = .ok (.aload_n 0, 1) := by decide +kernel
theorem dd_L_law_509 : decode code 509 = .ok (.iload_n 3, 1) := by decide +kernel
theorem dd_L_law_510 : decode code 510 = .ok (.iconst 1, 1) := by decide +kernel
theorem dd_L_law_511 : decode code 511 = .ok (.iadd, 1) := by decide +kernel
theorem dd_L_law_512 : decode code 512 = .ok (.iaload, 1) := by decide +kernel
theorem dd_L_law_513 : decode code 513 = .ok (.aload_n 0, 1) := by decide +kernel
theorem dd_L_law_514 : decode code 514 = .ok (.iload_n 3, 1) := by decide +kernel
theorem dd_L_law_515 : decode code 515 = .ok (.iconst 2, 1) := by decide +kernel
theorem dd_L_law_516 : decode code 516 = .ok (.iadd, 1) := by decide +kernel
theorem dd_L_law_517 : decode code 517 = .ok (.iaload, 1) := by decide +kernel
theorem dd_L_law_518 : decode code 518 = .ok (.ifCond .eq 7, 3) := by decide +kernel
theorem dd_L_law_521 : decode code 521 = .ok (.iconst 1, 1) := by decide +kernel
theorem dd_L_law_522 : decode code 522 = .ok (.goto 4, 3) := by decide +kernel
theorem dd_L_law_525 : decode code 525 = .ok (.iconst 0, 1) := by decide +kernel
theorem dd_L_law_526 : decode code 526 = .ok (.invokevirtual 68, 3) := by decide +kernel
theorem dd_L_law_529 : decode code 529 = .ok (.if_icmp .eq 236, 3) := by decide +kernel
theorem dd_L_law_532 : decode code 532 = .ok (.iconst 0, 1) := by decide +kernel
theorem dd_L_law_533 : decode code 533 = .ok (.ireturn, 1) := by decide +kernel
theorem dd_L_law_534 : decode code 534 = .ok (.aload_n 1, 1) := by decide +kernel
theorem dd_L_law_535 : decode code 535 = .ok (.invokevirtual 69, 3) := by decide +kernel
theorem dd_L_law_538 : decode code 538 = .ok (.aload_n 2, 1) := by decide +kernel
theorem dd_L_law_539 : decode code 539 = .ok (.invokevirtual 73, 3) := by decide +kernel
theorem dd_L_law_542 : decode code 542 = .ok (.if_icmp .eq 223, 3) := by decide +kernel
theorem dd_L_law_545 : decode code 545 = .ok (.iconst 0, 1) := by decide +kernel
theorem dd_L_law_546 : decode code 546 = .ok (.ireturn, 1) := by decide +kernel
theorem dd_L_law_547 : decode code 547 = .ok (.aload_n 1, 1) := by decide +kernel
theorem dd_L_law_548 : decode code 548 = .ok (.aload_n 0, 1) := by decide +kernel
theorem dd_L_law_549 : decode code 549 = .ok (.iload_n 3, 1) := by decide +kernel
theorem dd_L_law_550 : decode code 550 = .ok (.iconst 1, 1) := by decide +kernel
theorem dd_L_law_551 : decode code 551 = .ok (.iadd, 1) := by decide +kernel
theorem dd_L_law_552 : decode code 552 = .ok (.iaload, 1) := by decide +kernel
theorem dd_L_law_553 : decode code 553 = .ok (.invokevirtual 74, 3) := by decide +kernel
theorem dd_L_law_556 : decode code 556 = .ok (.aload_n 2, 1) := by decide +kernel
theorem dd_L_law_557 : decode code 557 = .ok (.aload_n 0, 1) := by decide +kernel
theorem dd_L_law_558 : decode code 558 = .ok (.iload_n 3, 1) := by decide +kernel
theorem dd_L_law_559 : decode code 559 = .ok (.iconst 1, 1) := by decide +kernel
theorem dd_L_law_560 : decode code 560 = .ok (.iadd, 1) := by decide +kernel
theorem dd_L_law_561 : decode code 561 = .ok (.iaload, 1) := by decide +kernel
theorem dd_L_law_562 : decode code 562 = .ok (.invokevirtual 77, 3) := by decide +kernel
theorem dd_L_law_565 : decode code 565 = .ok (.if_icmp .eq 200, 3) := by decide +kernel
theorem dd_L_law_568 : decode code 568 = .ok (.iconst 0, 1) := by decide +kernel
theorem dd_L_law_569 : decode code 569 = .ok (.ireturn, 1) := by decide +kernel
theorem dd_L_law_570 : decode code 570 = .ok (.aload_n 1, 1) := by decide +kernel
theorem dd_L_law_571 : decode code 571 = .ok (.aload_n 0, 1) := by decide +kernel
theorem dd_L_law_572 : decode code 572 = .ok (.iload_n 3, 1) := by decide +kernel
theorem dd_L_law_573 : decode code 573 = .ok (.iconst 1, 1) := by decide +kernel
theorem dd_L_law_574 : decode code 574 = .ok (.iadd, 1) := by decide +kernel
theorem dd_L_law_575 : decode code 575 = .ok (.iaload, 1) := by decide +kernel
theorem dd_L_law_576 : decode code 576 = .ok (.i2l, 1) := by decide +kernel
theorem dd_L_law_577 : decode code 577 = .ok (.bipush 32, 2) := by decide +kernel
theorem dd_L_law_579 : decode code 579 = .ok (.lshl, 1) := by decide +kernel
theorem dd_L_law_580 : decode code 580 = .ok (.aload_n 0, 1) := by decide +kernel
theorem dd_L_law_581 : decode code 581 = .ok (.iload_n 3, 1) := by decide +kernel
theorem dd_L_law_582 : decode code 582 = .ok (.iconst 2, 1) := by decide +kernel
theorem dd_L_law_583 : decode code 583 = .ok (.iadd, 1) := by decide +kernel
theorem dd_L_law_584 : decode code 584 = .ok (.iaload, 1) := by decide +kernel
theorem dd_L_law_585 : decode code 585 = .ok (.i2l, 1) := by decide +kernel
theorem dd_L_law_586 : decode code 586 = .ok (.ldc2_w 35, 3) := by decide +kernel
theorem dd_L_law_589 : decode code 589 = .ok (.land, 1) := by decide +kernel
theorem dd_L_law_590 : decode code 590 = .ok (.lor, 1) := by decide +kernel
theorem dd_L_law_591 : decode code 591 = .ok (.invokevirtual 78, 3) := by decide +kernel
theorem dd_L_law_594 : decode code 594 = .ok (.aload_n 2, 1) := by decide +kernel
theorem dd_L_law_595 : decode code 595 = .ok (.aload_n 0, 1) := by decide +kernel
theorem dd_L_law_596 : decode code 596 = .ok (.iload_n 3, 1) := by decide +kernel
theorem dd_L_law_597 : decode code 597 = .ok (.iconst 1, 1) := by decide +kernel
theorem dd_L_law_598 : decode code 598 = .ok (.iadd, 1) := by decide +kernel
theorem dd_L_law_599 : decode code 599 = .ok (.iaload, 1) := by decide +kernel
theorem dd_L_law_600 : decode code 600 = .ok (.i2l, 1) := by decide +kernel
theorem dd_L_law_601 : decode code 601 = .ok (.bipush 32, 2) := by decide +kernel
theorem dd_L_law_603 : decode code 603 = .ok (.lshl, 1) := by decide +kernel
theorem dd_L_law_604 : decode code 604 = .ok (.aload_n 0, 1) := by decide +kernel
theorem dd_L_law_605 : decode code 605 = .ok (.iload_n 3, 1) := by decide +kernel
theorem dd_L_law_606 : decode code 606 = .ok (.iconst 2, 1) := by decide +kernel
theorem dd_L_law_607 : decode code 607 = .ok (.iadd, 1) := by decide +kernel
theorem dd_L_law_608 : decode code 608 = .ok (.iaload, 1) := by decide +kernel
theorem dd_L_law_609 : decode code 609 = .ok (.i2l, 1) := by decide +kernel
theorem dd_L_law_610 : decode code 610 = .ok (.ldc2_w 35, 3) := by decide +kernel
theorem dd_L_law_613 : decode code 613 = .ok (.land, 1) := by decide +kernel
theorem dd_L_law_614 : decode code 614 = .ok (.lor, 1) := by decide +kernel
theorem dd_L_law_615 : decode code 615 = .ok (.invokevirtual 82, 3) := by decide +kernel
theorem dd_L_law_618 : decode code 618 = .ok (.if_icmp .eq 147, 3) := by decide +kernel
theorem dd_L_law_621 : decode code 621 = .ok (.iconst 0, 1) := by decide +kernel
theorem dd_L_law_622 : decode code 622 = .ok (.ireturn, 1) := by decide +kernel
theorem dd_L_law_623 : decode code 623 = .ok (.aload_n 1, 1) := by decide +kernel
theorem dd_L_law_624 : decode code 624 = .ok (.invokevirtual 83, 3) := by decide +kernel
theorem dd_L_law_627 : decode code 627 = .ok (.aload_n 2, 1) := by decide +kernel
theorem dd_L_law_628 : decode code 628 = .ok (.invokevirtual 87, 3) := by decide +kernel
theorem dd_L_law_631 : decode code 631 = .ok (.lcmp, 1) := by decide +kernel
theorem dd_L_law_632 : decode code 632 = .ok (.ifCond .eq 133, 3) := by decide +kernel
theorem dd_L_law_635 : decode code 635 = .ok (.iconst 0, 1) := by decide +kernel
theorem dd_L_law_636 : decode code 636 = .ok (.ireturn, 1) := by decide +kernel
theorem dd_L_law_637 : decode code 637 = .ok (.aload_n 1, 1) := by decide +kernel
theorem dd_L_law_638 : decode code 638 = .ok (.aload_n 0, 1) := by decide +kernel
theorem dd_L_law_639 : decode code 639 = .ok (.iload_n 3, 1) := by decide +kernel
theorem dd_L_law_640 : decode code 640 = .ok (.iconst 1, 1) := by decide +kernel
theorem dd_L_law_641 : decode code 641 = .ok (.iadd, 1) := by decide +kernel
theorem dd_L_law_642 : decode code 642 = .ok (.iaload, 1) := by decide +kernel
theorem dd_L_law_643 : decode code 643 = .ok (.invokevirtual 88, 3) := by decide +kernel
theorem dd_L_law_646 : decode code 646 = .ok (.aload_n 2, 1) := by decide +kernel
theorem dd_L_law_647 : decode code 647 = .ok (.aload_n 0, 1) := by decide +kernel
theorem dd_L_law_648 : decode code 648 = .ok (.iload_n 3, 1) := by decide +kernel
theorem dd_L_law_649 : decode code 649 = .ok (.iconst 1, 1) := by decide +kernel
theorem dd_L_law_650 : decode code 650 = .ok (.iadd, 1) := by decide +kernel
theorem dd_L_law_651 : decode code 651 = .ok (.iaload, 1) := by decide +kernel
theorem dd_L_law_652 : decode code 652 = .ok (.invokevirtual 92, 3) := by decide +kernel
theorem dd_L_law_655 : decode code 655 = .ok (.if_icmp .eq 110, 3) := by decide +kernel
theorem dd_L_law_658 : decode code 658 = .ok (.iconst 0, 1) := by decide +kernel
theorem dd_L_law_659 : decode code 659 = .ok (.ireturn, 1) := by decide +kernel
theorem dd_L_law_660 : decode code 660 = .ok (.aload_n 1, 1) := by decide +kernel
theorem dd_L_law_661 : decode code 661 = .ok (.aload_n 0, 1) := by decide +kernel
theorem dd_L_law_662 : decode code 662 = .ok (.iload_n 3, 1) := by decide +kernel
theorem dd_L_law_663 : decode code 663 = .ok (.iconst 1, 1) := by decide +kernel
theorem dd_L_law_664 : decode code 664 = .ok (.iadd, 1) := by decide +kernel
theorem dd_L_law_665 : decode code 665 = .ok (.iaload, 1) := by decide +kernel
theorem dd_L_law_666 : decode code 666 = .ok (.invokevirtual 93, 3) := by decide +kernel
theorem dd_L_law_669 : decode code 669 = .ok (.aload_n 2, 1) := by decide +kernel
theorem dd_L_law_670 : decode code 670 = .ok (.aload_n 0, 1) := by decide +kernel
theorem dd_L_law_671 : decode code 671 = .ok (.iload_n 3, 1) := by decide +kernel
theorem dd_L_law_672 : decode code 672 = .ok (.iconst 1, 1) := by decide +kernel
theorem dd_L_law_673 : decode code 673 = .ok (.iadd, 1) := by decide +kernel
theorem dd_L_law_674 : decode code 674 = .ok (.iaload, 1) := by decide +kernel
theorem dd_L_law_675 : decode code 675 = .ok (.invokevirtual 96, 3) := by decide +kernel
theorem dd_L_law_678 : decode code 678 = .ok (.if_icmp .eq 87, 3) := by decide +kernel
theorem dd_L_law_681 : decode code 681 = .ok (.iconst 0, 1) := by decide +kernel
theorem dd_L_law_682 : decode code 682 = .ok (.ireturn, 1) := by decide +kernel
theorem dd_L_law_683 : decode code 683 = .ok (.aload_n 1, 1) := by decide +kernel
theorem dd_L_law_684 : decode code 684 = .ok (.aload_n 0, 1) := by decide +kernel
theorem dd_L_law_685 : decode code 685 = .ok (.iload_n 3, 1) := by decide +kernel
theorem dd_L_law_686 : decode code 686 = .ok (.iconst 1, 1) := by decide +kernel
theorem dd_L_law_687 : decode code 687 = .ok (.iadd, 1) := by decide +kernel
theorem dd_L_law_688 : decode code 688 = .ok (.iaload, 1) := by decide +kernel
theorem dd_L_law_689 : decode code 689 = .ok (.invokevirtual 97, 3) := by decide +kernel
theorem dd_L_law_692 : decode code 692 = .ok (.aload_n 2, 1) := by decide +kernel
theorem dd_L_law_693 : decode code 693 = .ok (.aload_n 0, 1) := by decide +kernel
theorem dd_L_law_694 : decode code 694 = .ok (.iload_n 3, 1) := by decide +kernel
theorem dd_L_law_695 : decode code 695 = .ok (.iconst 1, 1) := by decide +kernel
theorem dd_L_law_696 : decode code 696 = .ok (.iadd, 1) := by decide +kernel
theorem dd_L_law_697 : decode code 697 = .ok (.iaload, 1) := by decide +kernel
theorem dd_L_law_698 : decode code 698 = .ok (.invokevirtual 100, 3) := by decide +kernel
theorem dd_L_law_701 : decode code 701 = .ok (.if_icmp .eq 64, 3) := by decide +kernel
theorem dd_L_law_704 : decode code 704 = .ok (.iconst 0, 1) := by decide +kernel
theorem dd_L_law_705 : decode code 705 = .ok (.ireturn, 1) := by decide +kernel
theorem dd_L_law_706 : decode code 706 = .ok (.aload_n 1, 1) := by decide +kernel
theorem dd_L_law_707 : decode code 707 = .ok (.aload_n 0, 1) := by decide +kernel
theorem dd_L_law_708 : decode code 708 = .ok (.iload_n 3, 1) := by decide +kernel
theorem dd_L_law_709 : decode code 709 = .ok (.iconst 1, 1) := by decide +kernel
theorem dd_L_law_710 : decode code 710 = .ok (.iadd, 1) := by decide +kernel
theorem dd_L_law_711 : decode code 711 = .ok (.iaload, 1) := by decide +kernel
theorem dd_L_law_712 : decode code 712 = .ok (.invokevirtual 101, 3) := by decide +kernel
theorem dd_L_law_715 : decode code 715 = .ok (.aload_n 2, 1) := by decide +kernel
theorem dd_L_law_716 : decode code 716 = .ok (.aload_n 0, 1) := by decide +kernel
theorem dd_L_law_717 : decode code 717 = .ok (.iload_n 3, 1) := by decide +kernel
theorem dd_L_law_718 : decode code 718 = .ok (.iconst 1, 1) := by decide +kernel
theorem dd_L_law_719 : decode code 719 = .ok (.iadd, 1) := by decide +kernel
theorem dd_L_law_720 : decode code 720 = .ok (.iaload, 1) := by decide +kernel
theorem dd_L_law_721 : decode code 721 = .ok (.invokevirtual 104, 3) := by decide +kernel
theorem dd_L_law_724 : decode code 724 = .ok (.if_icmp .eq 41, 3) := by decide +kernel
theorem dd_L_law_727 : decode code 727 = .ok (.iconst 0, 1) := by decide +kernel
theorem dd_L_law_728 : decode code 728 = .ok (.ireturn, 1) := by decide +kernel
theorem dd_L_law_729 : decode code 729 = .ok (.aload_n 1, 1) := by decide +kernel
theorem dd_L_law_730 : decode code 730 = .ok (.aload_n 0, 1) := by decide +kernel
theorem dd_L_law_731 : decode code 731 = .ok (.iload_n 3, 1) := by decide +kernel
theorem dd_L_law_732 : decode code 732 = .ok (.iconst 1, 1) := by decide +kernel
theorem dd_L_law_733 : decode code 733 = .ok (.iadd, 1) := by decide +kernel
theorem dd_L_law_734 : decode code 734 = .ok (.iaload, 1) := by decide +kernel
theorem dd_L_law_735 : decode code 735 = .ok (.invokevirtual 105, 3) := by decide +kernel
theorem dd_L_law_738 : decode code 738 = .ok (.aload_n 2, 1) := by decide +kernel
theorem dd_L_law_739 : decode code 739 = .ok (.aload_n 0, 1) := by decide +kernel
theorem dd_L_law_740 : decode code 740 = .ok (.iload_n 3, 1) := by decide +kernel
theorem dd_L_law_741 : decode code 741 = .ok (.iconst 1, 1) := by decide +kernel
theorem dd_L_law_742 : decode code 742 = .ok (.iadd, 1) := by decide +kernel
theorem dd_L_law_743 : decode code 743 = .ok (.iaload, 1) := by decide +kernel
theorem dd_L_law_744 : decode code 744 = .ok (.invokevirtual 108, 3) := by decide +kernel
theorem dd_L_law_747 : decode code 747 = .ok (.if_icmp .eq 18, 3) := by decide +kernel
theorem dd_L_law_750 : decode code 750 = .ok (.iconst 0, 1) := by decide +kernel
theorem dd_L_law_751 : decode code 751 = .ok (.ireturn, 1) := by decide +kernel
theorem dd_L_law_752 : decode code 752 = .ok (.aload_n 1, 1) := by decide +kernel
theorem dd_L_law_753 : decode code 753 = .ok (.invokevirtual 109, 3) := by decide +kernel
theorem dd_L_law_756 : decode code 756 = .ok (.aload_n 2, 1) := by decide +kernel
theorem dd_L_law_757 : decode code 757 = .ok (.invokevirtual 112, 3) := by decide +kernel
theorem dd_L_law_760 : decode code 760 = .ok (.if_icmp .eq 5, 3) := by decide +kernel
theorem dd_L_law_763 : decode code 763 = .ok (.iconst 0, 1) := by decide +kernel
theorem dd_L_law_764 : decode code 764 = .ok (.ireturn, 1) := by decide +kernel
theorem dd_L_law_765 : decode code 765 = .ok (.iinc 3 4, 3) := by decide +kernel
theorem dd_L_law_768 : decode code 768 = .ok (.goto (-740), 3) := by decide +kernel
theorem dd_L_law_771 : decode code 771 = .ok (.iconst 1, 1) := by decide +kernel
theorem dd_L_law_772 : decode code 772 = .ok (.ireturn, 1) := by decide +kernel
