theorem d_Law_cell_0 : decode b_Law_cell 0 = .ok (.iload_n 1, 1) := by decide +kernel
theorem d_Law_cell_1 : decode b_Law_cell 1 = .ok (.aload_n 0, 1) := by decide +kernel
theorem d_Law_cell_2 : decode b_Law_cell 2 = .ok (.arraylength, 1) := by decide +kernel
theorem d_Law_cell_3 : decode b_Law_cell 3 = .ok (.if_icmp .ge 9, 3) := by decide +kernel
theorem d_Law_cell_6 : decode b_Law_cell 6 = .ok (.aload_n 0, 1) := by decide +kernel
theorem d_Law_cell_7 : decode b_Law_cell 7 = .ok (.iload_n 1, 1) := by decide +kernel
theorem d_Law_cell_8 : decode b_Law_cell 8 = .ok (.iaload, 1) := by decide +kernel
theorem d_Law_cell_9 : decode b_Law_cell 9 = .ok (.goto 4, 3) := by decide +kernel
theorem d_Law_cell_12 : decode b_Law_cell 12 = .ok (.iconst 0, 1) := by decide +kernel
theorem d_Law_cell_13 : decode b_Law_cell 13 = .ok (.ireturn, 1) := by decide +kernel
theorem d_law_0 : decode code 0 = .ok (.new 7, 3) := by decide +kernel
theorem d_law_3 : decode code 3 = .ok (.dup, 1) := by decide +kernel
theorem d_law_4 : decode code 4 = .ok (.aload_n 0, 1) := by decide +kernel
theorem d_law_5 : decode code 5 = .ok (.iconst 0, 1) := by decide +kernel
theorem d_law_6 : decode code 6 = .ok (.invokestatic 9, 3) := by decide +kernel
theorem d_law_9 : decode code 9 = .ok (.aload_n 0, 1) := by decide +kernel
theorem d_law_10 : decode code 10 = .ok (.iconst 1, 1) := by decide +kernel
theorem d_law_11 : decode code 11 = .ok (.invokestatic 9, 3) := by decide +kernel
theorem d_law_14 : decode code 14 = .ok (.invokespecial 15, 3) := by decide +kernel
theorem d_law_17 : decode code 17 = .ok (.astore_n 1, 1) := by decide +kernel
theorem d_law_18 : decode code 18 = .ok (.new 18, 3) := by decide +kernel
theorem d_law_21 : decode code 21 = .ok (.dup, 1) := by decide +kernel
theorem d_law_22 : decode code 22 = .ok (.aload_n 0, 1) := by decide +kernel
theorem d_law_23 : decode code 23 = .ok (.iconst 0, 1) := by decide +kernel
theorem d_law_24 : decode code 24 = .ok (.invokestatic 9, 3) := by decide +kernel
theorem d_law_27 : decode code 27 = .ok (.aload_n 0, 1) := by decide +kernel
theorem d_law_28 : decode code 28 = .ok (.iconst 1, 1) := by decide +kernel
theorem d_law_29 : decode code 29 = .ok (.invokestatic 9, 3) := by decide +kernel
theorem d_law_32 : decode code 32 = .ok (.invokespecial 20, 3) := by decide +kernel
theorem d_law_35 : decode code 35 = .ok (.astore_n 2, 1) := by decide +kernel
theorem d_law_36 : decode code 36 = .ok (.iconst 2, 1) := by decide +kernel
theorem d_law_37 : decode code 37 = .ok (.istore_n 3, 1) := by decide +kernel
theorem d_law_38 : decode code 38 = .ok (.iload_n 3, 1) := by decide +kernel
theorem d_law_39 : decode code 39 = .ok (.aload_n 0, 1) := by decide +kernel
theorem d_law_40 : decode code 40 = .ok (.arraylength, 1) := by decide +kernel
theorem d_law_41 : decode code 41 = .ok (.iconst 5, 1) := by decide +kernel
theorem d_law_42 : decode code 42 = .ok (.isub, 1) := by decide +kernel
theorem d_law_43 : decode code 43 = .ok (.if_icmp .gt 886, 3) := by decide +kernel
theorem d_law_46 : decode code 46 = .ok (.aload_n 0, 1) := by decide +kernel
theorem d_law_47 : decode code 47 = .ok (.iload_n 3, 1) := by decide +kernel
theorem d_law_48 : decode code 48 = .ok (.iaload, 1) := by decide +kernel
theorem d_law_49 : decode code 49 = .ok (.bipush 31, 2) := by decide +kernel
theorem d_law_51 : decode code 51 = .ok (.iand, 1) := by decide +kernel
theorem d_law_52 : decode code 52 = .ok (.tableswitch 871 0 19 #[96, 129, 202, 275, 308, 331, 364, 427, 451, 485, 519, 542, 555, 608, 652, 725, 748, 811, 834, 848], 96) := by decide +kernel
theorem d_law_148 : decode code 148 = .ok (.aload_n 1, 1) := by decide +kernel
theorem d_law_149 : decode code 149 = .ok (.aload_n 0, 1) := by decide +kernel
theorem d_law_150 : decode code 150 = .ok (.iload_n 3, 1) := by decide +kernel
theorem d_law_151 : decode code 151 = .ok (.iconst 1, 1) := by decide +kernel
theorem d_law_152 : decode code 152 = .ok (.iadd, 1) := by decide +kernel
theorem d_law_153 : decode code 153 = .ok (.iaload, 1) := by decide +kernel
theorem d_law_154 : decode code 154 = .ok (.aload_n 0, 1) := by decide +kernel
theorem d_law_155 : decode code 155 = .ok (.iload_n 3, 1) := by decide +kernel
theorem d_law_156 : decode code 156 = .ok (.iconst 2, 1) := by decide +kernel
theorem d_law_157 : decode code 157 = .ok (.iadd, 1) := by decide +kernel
theorem d_law_158 : decode code 158 = .ok (.iaload, 1) := by decide +kernel
theorem d_law_159 : decode code 159 = .ok (.invokevirtual 21, 3) := by decide +kernel
theorem d_law_162 : decode code 162 = .ok (.aload_n 2, 1) := by decide +kernel
theorem d_law_163 : decode code 163 = .ok (.aload_n 0, 1) := by decide +kernel
theorem d_law_164 : decode code 164 = .ok (.iload_n 3, 1) := by decide +kernel
theorem d_law_165 : decode code 165 = .ok (.iconst 1, 1) := by decide +kernel
theorem d_law_166 : decode code 166 = .ok (.iadd, 1) := by decide +kernel
theorem d_law_167 : decode code 167 = .ok (.iaload, 1) := by decide +kernel
theorem d_law_168 : decode code 168 = .ok (.aload_n 0, 1) := by decide +kernel
theorem d_law_169 : decode code 169 = .ok (.iload_n 3, 1) := by decide +kernel
theorem d_law_170 : decode code 170 = .ok (.iconst 2, 1) := by decide +kernel
theorem d_law_171 : decode code 171 = .ok (.iadd, 1) := by decide +kernel
theorem d_law_172 : decode code 172 = .ok (.iaload, 1) := by decide +kernel
theorem d_law_173 : decode code 173 = .ok (.invokevirtual 25, 3) := by decide +kernel
theorem d_law_176 : decode code 176 = .ok (.if_icmp .eq 747, 3) := by decide +kernel
theorem d_law_179 : decode code 179 = .ok (.iconst 0, 1) := by decide +kernel
theorem d_law_180 : decode code 180 = .ok (.ireturn, 1) := by decide +kernel
theorem d_law_181 : decode code 181 = .ok (.aload_n 1, 1) := by decide +kernel
theorem d_law_182 : decode code 182 = .ok (.aload_n 0, 1) := by decide +kernel
theorem d_law_183 : decode code 183 = .ok (.iload_n 3, 1) := by decide +kernel
theorem d_law_184 : decode code 184 = .ok (.iconst 1, 1) := by decide +kernel
theorem d_law_185 : decode code 185 = .ok (.iadd, 1) := by decide +kernel
theorem d_law_186 : decode code 186 = .ok (.iaload, 1) := by decide +kernel
theorem d_law_187 : decode code 187 = .ok (.aload_n 0, 1) := by decide +kernel
theorem d_law_188 : decode code 188 = .ok (.iload_n 3, 1) := by decide +kernel
theorem d_law_189 : decode code 189 = .ok (.iconst 2, 1) := by decide +kernel
theorem d_law_190 : decode code 190 = .ok (.iadd, 1) := by decide +kernel
theorem d_law_191 : decode code 191 = .ok (.iaload, 1) := by decide +kernel
theorem d_law_192 : decode code 192 = .ok (.i2l, 1) := by decide +kernel
theorem d_law_193 : decode code 193 = .ok (.bipush 32, 2) := by decide +kernel
theorem d_law_195 : decode code 195 = .ok (.lshl, 1) := by decide +kernel
theorem d_law_196 : decode code 196 = .ok (.aload_n 0, 1) := by decide +kernel
theorem d_law_197 : decode code 197 = .ok (.iload_n 3, 1) := by decide +kernel
theorem d_law_198 : decode code 198 = .ok (.iconst 3, 1) := by decide +kernel
theorem d_law_199 : decode code 199 = .ok (.iadd, 1) := by decide +kernel
theorem d_law_200 : decode code 200 = .ok (.iaload, 1) := by decide +kernel
theorem d_law_201 : decode code 201 = .ok (.i2l, 1) := by decide +kernel
theorem d_law_202 : decode code 202 = .ok (.ldc2_w 26, 3) := by decide +kernel
theorem d_law_205 : decode code 205 = .ok (.land, 1) := by decide +kernel
theorem d_law_206 : decode code 206 = .ok (.lor, 1) := by decide +kernel
theorem d_law_207 : decode code 207 = .ok (.aload_n 0, 1) := by decide +kernel
theorem d_law_208 : decode code 208 = .ok (.iload_n 3, 1) := by decide +kernel
theorem d_law_209 : decode code 209 = .ok (.iconst 4, 1) := by decide +kernel
theorem d_law_210 : decode code 210 = .ok (.iadd, 1) := by decide +kernel
theorem d_law_211 : decode code 211 = .ok (.iaload, 1) := by decide +kernel
theorem d_law_212 : decode code 212 = .ok (.invokevirtual 28, 3) := by decide +kernel
theorem d_law_215 : decode code 215 = .ok (.aload_n 2, 1) := by decide +kernel
theorem d_law_216 : decode code 216 = .ok (.aload_n 0, 1) := by decide +kernel
theorem d_law_217 : decode code 217 = .ok (.iload_n 3, 1) := by decide +kernel
theorem d_law_218 : decode code 218 = .ok (.iconst 1, 1) := by decide +kernel
theorem d_law_219 : decode code 219 = .ok (.iadd, 1) := by decide +kernel
theorem d_law_220 : decode code 220 = .ok (.iaload, 1) := by decide +kernel
theorem d_law_221 : decode code 221 = .ok (.aload_n 0, 1) := by decide +kernel
theorem d_law_222 : decode code 222 = .ok (.iload_n 3, 1) := by decide +kernel
theorem d_law_223 : decode code 223 = .ok (.iconst 2, 1) := by decide +kernel
theorem d_law_224 : decode code 224 = .ok (.iadd, 1) := by decide +kernel
theorem d_law_225 : decode code 225 = .ok (.iaload, 1) := by decide +kernel
theorem d_law_226 : decode code 226 = .ok (.i2l, 1) := by decide +kernel
theorem d_law_227 : decode code 227 = .ok (.bipush 32, 2) := by decide +kernel
theorem d_law_229 : decode code 229 = .ok (.lshl, 1) := by decide +kernel
theorem d_law_230 : decode code 230 = .ok (.aload_n 0, 1) := by decide +kernel
theorem d_law_231 : decode code 231 = .ok (.iload_n 3, 1) := by decide +kernel
theorem d_law_232 : decode code 232 = .ok (.iconst 3, 1) := by decide +kernel
theorem d_law_233 : decode code 233 = .ok (.iadd, 1) := by decide +kernel
theorem d_law_234 : decode code 234 = .ok (.iaload, 1) := by decide +kernel
theorem d_law_235 : decode code 235 = .ok (.i2l, 1) := by decide +kernel
theorem d_law_236 : decode code 236 = .ok (.ldc2_w 26, 3) := by decide +kernel
theorem d_law_239 : decode code 239 = .ok (.land, 1) := by decide +kernel
theorem d_law_240 : decode code 240 = .ok (.lor, 1) := by decide +kernel
theorem d_law_241 : decode code 241 = .ok (.aload_n 0, 1) := by decide +kernel
theorem d_law_242 : decode code 242 = .ok (.iload_n 3, 1) := by decide +kernel
theorem d_law_243 : decode code 243 = .ok (.iconst 4, 1) := by decide +kernel
theorem d_law_244 : decode code 244 = .ok (.iadd, 1) := by decide +kernel
theorem d_law_245 : decode code 245 = .ok (.iaload, 1) := by decide +kernel
theorem d_law_246 : decode code 246 = .ok (.invokevirtual 32, 3) := by decide +kernel
theorem d_law_249 : decode code 249 = .ok (.if_icmp .eq 674, 3) := by decide +kernel
theorem d_law_252 : decode code 252 = .ok (.iconst 0, 1) := by decide +kernel
theorem d_law_253 : decode code 253 = .ok (.ireturn, 1) := by decide +kernel
theorem d_law_254 : decode code 254 = .ok (.aload_n 1, 1) := by decide +kernel
theorem d_law_255 : decode code 255 = .ok (.aload_n 0, 1) := by decide +kernel
theorem d_law_256 : decode code 256 = .ok (.iload_n 3, 1) := by decide +kernel
theorem d_law_257 : decode code 257 = .ok (.iconst 1, 1) := by decide +kernel
theorem d_law_258 : decode code 258 = .ok (.iadd, 1) := by decide +kernel
theorem d_law_259 : decode code 259 = .ok (.iaload, 1) := by decide +kernel
theorem d_law_260 : decode code 260 = .ok (.aload_n 0, 1) := by decide +kernel
theorem d_law_261 : decode code 261 = .ok (.iload_n 3, 1) := by decide +kernel
theorem d_law_262 : decode code 262 = .ok (.iconst 2, 1) := by decide +kernel
theorem d_law_263 : decode code 263 = .ok (.iadd, 1) := by decide +kernel
theorem d_law_264 : decode code 264 = .ok (.iaload, 1) := by decide +kernel
theorem d_law_265 : decode code 265 = .ok (.aload_n 0, 1) := by decide +kernel
theorem d_law_266 : decode code 266 = .ok (.iload_n 3, 1) := by decide +kernel
theorem d_law_267 : decode code 267 = .ok (.iconst 3, 1) := by decide +kernel
theorem d_law_268 : decode code 268 = .ok (.iadd, 1) := by decide +kernel
theorem d_law_269 : decode code 269 = .ok (.iaload, 1) := by decide +kernel
theorem d_law_270 : decode code 270 = .ok (.i2l, 1) := by decide +kernel
theorem d_law_271 : decode code 271 = .ok (.bipush 32, 2) := by decide +kernel
theorem d_law_273 : decode code 273 = .ok (.lshl, 1) := by decide +kernel
theorem d_law_274 : decode code 274 = .ok (.aload_n 0, 1) := by decide +kernel
theorem d_law_275 : decode code 275 = .ok (.iload_n 3, 1) := by decide +kernel
theorem d_law_276 : decode code 276 = .ok (.iconst 4, 1) := by decide +kernel
theorem d_law_277 : decode code 277 = .ok (.iadd, 1) := by decide +kernel
theorem d_law_278 : decode code 278 = .ok (.iaload, 1) := by decide +kernel
theorem d_law_279 : decode code 279 = .ok (.i2l, 1) := by decide +kernel
theorem d_law_280 : decode code 280 = .ok (.ldc2_w 26, 3) := by decide +kernel
theorem d_law_283 : decode code 283 = .ok (.land, 1) := by decide +kernel
theorem d_law_284 : decode code 284 = .ok (.lor, 1) := by decide +kernel
theorem d_law_285 : decode code 285 = .ok (.invokevirtual 33, 3) := by decide +kernel
theorem d_law_288 : decode code 288 = .ok (.aload_n 2, 1) := by decide +kernel
theorem d_law_289 : decode code 289 = .ok (.aload_n 0, 1) := by decide +kernel
theorem d_law_290 : decode code 290 = .ok (.iload_n 3, 1) := by decide +kernel
theorem d_law_291 : decode code 291 = .ok (.iconst 1, 1) := by decide +kernel
theorem d_law_292 : decode code 292 = .ok (.iadd, 1) := by decide +kernel
theorem d_law_293 : decode code 293 = .ok (.iaload, 1) := by decide +kernel
theorem d_law_294 : decode code 294 = .ok (.aload_n 0, 1) := by decide +kernel
theorem d_law_295 : decode code 295 = .ok (.iload_n 3, 1) := by decide +kernel
theorem d_law_296 : decode code 296 = .ok (.iconst 2, 1) := by decide +kernel
theorem d_law_297 : decode code 297 = .ok (.iadd, 1) := by decide +kernel
theorem d_law_298 : decode code 298 = .ok (.iaload, 1) := by decide +kernel
theorem d_law_299 : decode code 299 = .ok (.aload_n 0, 1) := by decide +kernel
theorem d_law_300 : decode code 300 = .ok (.iload_n 3, 1) := by decide +kernel
theorem d_law_301 : decode code 301 = .ok (.iconst 3, 1) := by decide +kernel
theorem d_law_302 : decode code 302 = .ok (.iadd, 1) := by decide +kernel
theorem d_law_303 : decode code 303 = .ok (.iaload, 1) := by decide +kernel
theorem d_law_304 : decode code 304 = .ok (.i2l, 1) := by decide +kernel
theorem d_law_305 : decode code 305 = .ok (.bipush 32, 2) := by decide +kernel
theorem d_law_307 : decode code 307 = .ok (.lshl, 1) := by decide +kernel
theorem d_law_308 : decode code 308 = .ok (.aload_n 0, 1) := by decide +kernel
theorem d_law_309 : decode code 309 = .ok (.iload_n 3, 1) := by decide +kernel
theorem d_law_310 : decode code 310 = .ok (.iconst 4, 1) := by decide +kernel
theorem d_law_311 : decode code 311 = .ok (.iadd, 1) := by decide +kernel
theorem d_law_312 : decode code 312 = .ok (.iaload, 1) := by decide +kernel
theorem d_law_313 : decode code 313 = .ok (.i2l, 1) := by decide +kernel
theorem d_law_314 : decode code 314 = .ok (.ldc2_w 26, 3) := by decide +kernel
theorem d_law_317 : decode code 317 = .ok (.land, 1) := by decide +kernel
theorem d_law_318 : decode code 318 = .ok (.lor, 1) := by decide +kernel
theorem d_law_319 : decode code 319 = .ok (.invokevirtual 37, 3) := by decide +kernel
theorem d_law_322 : decode code 322 = .ok (.if_icmp .eq 601, 3) := by decide +kernel
theorem d_law_325 : decode code 325 = .ok (.iconst 0, 1) := by decide +kernel
theorem d_law_326 : decode code 326 = .ok (.ireturn, 1) := by decide +kernel
theorem d_law_327 : decode code 327 = .ok (.aload_n 1, 1) := by decide +kernel
theorem d_law_328 : decode code 328 = .ok (.aload_n 0, 1) := by decide +kernel
theorem d_law_329 : decode code 329 = .ok (.iload_n 3, 1) := by decide +kernel
theorem d_law_330 : decode code 330 = .ok (.iconst 1, 1) := by decide +kernel
theorem d_law_331 : decode code 331 = .ok (.iadd, 1) := by decide +kernel
theorem d_law_332 : decode code 332 = .ok (.iaload, 1) := by decide +kernel
theorem d_law_333 : decode code 333 = .ok (.aload_n 0, 1) := by decide +kernel
theorem d_law_334 : decode code 334 = .ok (.iload_n 3, 1) := by decide +kernel
theorem d_law_335 : decode code 335 = .ok (.iconst 2, 1) := by decide +kernel
theorem d_law_336 : decode code 336 = .ok (.iadd, 1) := by decide +kernel
theorem d_law_337 : decode code 337 = .ok (.iaload, 1) := by decide +kernel
theorem d_law_338 : decode code 338 = .ok (.invokevirtual 38, 3) := by decide +kernel
theorem d_law_341 : decode code 341 = .ok (.aload_n 2, 1) := by decide +kernel
theorem d_law_342 : decode code 342 = .ok (.aload_n 0, 1) := by decide +kernel
theorem d_law_343 : decode code 343 = .ok (.iload_n 3, 1) := by decide +kernel
theorem d_law_344 : decode code 344 = .ok (.iconst 1, 1) := by decide +kernel
theorem d_law_345 : decode code 345 = .ok (.iadd, 1) := by decide +kernel
theorem d_law_346 : decode code 346 = .ok (.iaload, 1) := by decide +kernel
theorem d_law_347 : decode code 347 = .ok (.aload_n 0, 1) := by decide +kernel
theorem d_law_348 : decode code 348 = .ok (.iload_n 3, 1) := by decide +kernel
theorem d_law_349 : decode code 349 = .ok (.iconst 2, 1) := by decide +kernel
theorem d_law_350 : decode code 350 = .ok (.iadd, 1) := by decide +kernel
theorem d_law_351 : decode code 351 = .ok (.iaload, 1) := by decide +kernel
theorem d_law_352 : decode code 352 = .ok (.invokevirtual 41, 3) := by decide +kernel
theorem d_law_355 : decode code 355 = .ok (.if_icmp .eq 568, 3) := by decide +kernel
theorem d_law_358 : decode code 358 = .ok (.iconst 0, 1) := by decide +kernel
theorem d_law_359 : decode code 359 = .ok (.ireturn, 1) := by decide +kernel
theorem d_law_360 : decode code 360 = .ok (.aload_n 1, 1) := by decide +kernel
theorem d_law_361 : decode code 361 = .ok (.aload_n 0, 1) := by decide +kernel
theorem d_law_362 : decode code 362 = .ok (.iload_n 3, 1) := by decide +kernel
theorem d_law_363 : decode code 363 = .ok (.iconst 1, 1) := by decide +kernel
theorem d_law_364 : decode code 364 = .ok (.iadd, 1) := by decide +kernel
theorem d_law_365 : decode code 365 = .ok (.iaload, 1) := by decide +kernel
theorem d_law_366 : decode code 366 = .ok (.invokevirtual 42, 3) := by decide +kernel
theorem d_law_369 : decode code 369 = .ok (.aload_n 2, 1) := by decide +kernel
theorem d_law_370 : decode code 370 = .ok (.aload_n 0, 1) := by decide +kernel
theorem d_law_371 : decode code 371 = .ok (.iload_n 3, 1) := by decide +kernel
theorem d_law_372 : decode code 372 = .ok (.iconst 1, 1) := by decide +kernel
theorem d_law_373 : decode code 373 = .ok (.iadd, 1) := by decide +kernel
theorem d_law_374 : decode code 374 = .ok (.iaload, 1) := by decide +kernel
theorem d_law_375 : decode code 375 = .ok (.invokevirtual 46, 3) := by decide +kernel
theorem d_law_378 : decode code 378 = .ok (.if_icmp .eq 545, 3) := by decide +kernel
theorem d_law_381 : decode code 381 = .ok (.iconst 0, 1) := by decide +kernel
theorem d_law_382 : decode code 382 = .ok (.ireturn, 1) := by decide +kernel
theorem d_law_383 : decode code 383 = .ok (.aload_n 1, 1) := by decide +kernel
theorem d_law_384 : decode code 384 = .ok (.aload_n 0, 1) := by decide +kernel
theorem d_law_385 : decode code 385 = .ok (.iload_n 3, 1) := by decide +kernel
theorem d_law_386 : decode code 386 = .ok (.iconst 1, 1) := by decide +kernel
theorem d_law_387 : decode code 387 = .ok (.iadd, 1) := by decide +kernel
theorem d_law_388 : decode code 388 = .ok (.iaload, 1) := by decide +kernel
theorem d_law_389 : decode code 389 = .ok (.aload_n 0, 1) := by decide +kernel
theorem d_law_390 : decode code 390 = .ok (.iload_n 3, 1) := by decide +kernel
theorem d_law_391 : decode code 391 = .ok (.iconst 2, 1) := by decide +kernel
theorem d_law_392 : decode code 392 = .ok (.iadd, 1) := by decide +kernel
theorem d_law_393 : decode code 393 = .ok (.iaload, 1) := by decide +kernel
theorem d_law_394 : decode code 394 = .ok (.invokevirtual 47, 3) := by decide +kernel
theorem d_law_397 : decode code 397 = .ok (.aload_n 2, 1) := by decide +kernel
theorem d_law_398 : decode code 398 = .ok (.aload_n 0, 1) := by decide +kernel
theorem d_law_399 : decode code 399 = .ok (.iload_n 3, 1) := by decide +kernel
theorem d_law_400 : decode code 400 = .ok (.iconst 1, 1) := by decide +kernel
theorem d_law_401 : decode code 401 = .ok (.iadd, 1) := by decide +kernel
theorem d_law_402 : decode code 402 = .ok (.iaload, 1) := by decide +kernel
theorem d_law_403 : decode code 403 = .ok (.aload_n 0, 1) := by decide +kernel
theorem d_law_404 : decode code 404 = .ok (.iload_n 3, 1) := by decide +kernel
theorem d_law_405 : decode code 405 = .ok (.iconst 2, 1) := by decide +kernel
theorem d_law_406 : decode code 406 = .ok (.iadd, 1) := by decide +kernel
theorem d_law_407 : decode code 407 = .ok (.iaload, 1) := by decide +kernel
theorem d_law_408 : decode code 408 = .ok (.invokevirtual 50, 3) := by decide +kernel
theorem d_law_411 : decode code 411 = .ok (.if_icmp .eq 512, 3) := by decide +kernel
theorem d_law_414 : decode code 414 = .ok (.iconst 0, 1) := by decide +kernel
theorem d_law_415 : decode code 415 = .ok (.ireturn, 1) := by decide +kernel
theorem d_law_416 : decode code 416 = .ok (.aload_n 1, 1) := by decide +kernel
theorem d_law_417 : decode code 417 = .ok (.aload_n 0, 1) := by decide +kernel
theorem d_law_418 : decode code 418 = .ok (.iload_n 3, 1) := by decide +kernel
theorem d_law_419 : decode code 419 = .ok (.iconst 1, 1) := by decide +kernel
theorem d_law_420 : decode code 420 = .ok (.iadd, 1) := by decide +kernel
theorem d_law_421 : decode code 421 = .ok (.iaload, 1) := by decide +kernel
theorem d_law_422 : decode code 422 = .ok (.aload_n 0, 1) := by decide +kernel
theorem d_law_423 : decode code 423 = .ok (.iload_n 3, 1) := by decide +kernel
theorem d_law_424 : decode code 424 = .ok (.iconst 2, 1) := by decide +kernel
theorem d_law_425 : decode code 425 = .ok (.iadd, 1) := by decide +kernel
theorem d_law_426 : decode code 426 = .ok (.iaload, 1) := by decide +kernel
theorem d_law_427 : decode code 427 = .ok (.i2l, 1) := by decide +kernel
theorem d_law_428 : decode code 428 = .ok (.bipush 32, 2) := by decide +kernel
theorem d_law_430 : decode code 430 = .ok (.lshl, 1) := by decide +kernel
theorem d_law_431 : decode code 431 = .ok (.aload_n 0, 1) := by decide +kernel
theorem d_law_432 : decode code 432 = .ok (.iload_n 3, 1) := by decide +kernel
theorem d_law_433 : decode code 433 = .ok (.iconst 3, 1) := by decide +kernel
theorem d_law_434 : decode code 434 = .ok (.iadd, 1) := by decide +kernel
theorem d_law_435 : decode code 435 = .ok (.iaload, 1) := by decide +kernel
theorem d_law_436 : decode code 436 = .ok (.i2l, 1) := by decide +kernel
theorem d_law_437 : decode code 437 = .ok (.ldc2_w 26, 3) := by decide +kernel
theorem d_law_440 : decode code 440 = .ok (.land, 1) := by decide +kernel
theorem d_law_441 : decode code 441 = .ok (.lor, 1) := by decide +kernel
theorem d_law_442 : decode code 442 = .ok (.invokevirtual 51, 3) := by decide +kernel
theorem d_law_445 : decode code 445 = .ok (.aload_n 2, 1) := by decide +kernel
theorem d_law_446 : decode code 446 = .ok (.aload_n 0, 1) := by decide +kernel
theorem d_law_447 : decode code 447 = .ok (.iload_n 3, 1) := by decide +kernel
theorem d_law_448 : decode code 448 = .ok (.iconst 1, 1) := by decide +kernel
theorem d_law_449 : decode code 449 = .ok (.iadd, 1) := by decide +kernel
theorem d_law_450 : decode code 450 = .ok (.iaload, 1) := by decide +kernel
theorem d_law_451 : decode code 451 = .ok (.aload_n 0, 1) := by decide +kernel
theorem d_law_452 : decode code 452 = .ok (.iload_n 3, 1) := by decide +kernel
theorem d_law_453 : decode code 453 = .ok (.iconst 2, 1) := by decide +kernel
theorem d_law_454 : decode code 454 = .ok (.iadd, 1) := by decide +kernel
theorem d_law_455 : decode code 455 = .ok (.iaload, 1) := by decide +kernel
theorem d_law_456 : decode code 456 = .ok (.i2l, 1) := by decide +kernel
theorem d_law_457 : decode code 457 = .ok (.bipush 32, 2) := by decide +kernel
theorem d_law_459 : decode code 459 = .ok (.lshl, 1) := by decide +kernel
theorem d_law_460 : decode code 460 = .ok (.aload_n 0, 1) := by decide +kernel
theorem d_law_461 : decode code 461 = .ok (.iload_n 3, 1) := by decide +kernel
theorem d_law_462 : decode code 462 = .ok (.iconst 3, 1) := by decide +kernel
theorem d_law_463 : decode code 463 = .ok (.iadd, 1) := by decide +kernel
theorem d_law_464 : decode code 464 = .ok (.iaload, 1) := by decide +kernel
theorem d_law_465 : decode code 465 = .ok (.i2l, 1) := by decide +kernel
theorem d_law_466 : decode code 466 = .ok (.ldc2_w 26, 3) := by decide +kernel
theorem d_law_469 : decode code 469 = .ok (.land, 1) := by decide +kernel
theorem d_law_470 : decode code 470 = .ok (.lor, 1) := by decide +kernel
theorem d_law_471 : decode code 471 = .ok (.invokevirtual 55, 3) := by decide +kernel
theorem d_law_474 : decode code 474 = .ok (.if_icmp .eq 449, 3) := by decide +kernel
theorem d_law_477 : decode code 477 = .ok (.iconst 0, 1) := by decide +kernel
theorem d_law_478 : decode code 478 = .ok (.ireturn, 1) := by decide +kernel
theorem d_law_479 : decode code 479 = .ok (.aload_n 1, 1) := by decide +kernel
theorem d_law_480 : decode code 480 = .ok (.aload_n 0, 1) := by decide +kernel
theorem d_law_481 : decode code 481 = .ok (.iload_n 3, 1) := by decide +kernel
theorem d_law_482 : decode code 482 = .ok (.iconst 1, 1) := by decide +kernel
theorem d_law_483 : decode code 483 = .ok (.iadd, 1) := by decide +kernel
theorem d_law_484 : decode code 484 = .ok (.iaload, 1) := by decide +kernel
theorem d_law_485 : decode code 485 = .ok (.invokevirtual 56, 3) := by decide +kernel
theorem d_law_488 : decode code 488 = .ok (.aload_n 2, 1) := by decide +kernel
theorem d_law_489 : decode code 489 = .ok (.aload_n 0, 1) := by decide +kernel
theorem d_law_490 : decode code 490 = .ok (.iload_n 3, 1) := by decide +kernel
theorem d_law_491 : decode code 491 = .ok (.iconst 1, 1) := by decide +kernel
theorem d_law_492 : decode code 492 = .ok (.iadd, 1) := by decide +kernel
theorem d_law_493 : decode code 493 = .ok (.iaload, 1) := by decide +kernel
theorem d_law_494 : decode code 494 = .ok (.invokevirtual 60, 3) := by decide +kernel
theorem d_law_497 : decode code 497 = .ok (.lcmp, 1) := by decide +kernel
theorem d_law_498 : decode code 498 = .ok (.ifCond .eq 425, 3) := by decide +kernel
theorem d_law_501 : decode code 501 = .ok (.iconst 0, 1) := by decide +kernel
theorem d_law_502 : decode code 502 = .ok (.ireturn, 1) := by decide +kernel
theorem d_law_503 : decode code 503 = .ok (.aload_n 1, 1) := by decide +kernel
theorem d_law_504 : decode code 504 = .ok (.aload_n 0, 1) := by decide +kernel
theorem d_law_505 : decode code 505 = .ok (.iload_n 3, 1) := by decide +kernel
theorem d_law_506 : decode code 506 = .ok (.iconst 1, 1) := by decide +kernel
theorem d_law_507 : decode code 507 = .ok (.iadd, 1) := by decide +kernel
theorem d_law_508 : decode code 508 = .ok (.iaload, 1) := by decide +kernel
theorem d_law_509 : decode code 509 = .ok (.aload_n 0, 1) := by decide +kernel
theorem d_law_510 : decode code 510 = .ok (.iload_n 3, 1) := by decide +kernel
theorem d_law_511 : decode code 511 = .ok (.iconst 2, 1) := by decide +kernel
theorem d_law_512 : decode code 512 = .ok (.iadd, 1) := by decide +kernel
theorem d_law_513 : decode code 513 = .ok (.iaload, 1) := by decide +kernel
theorem d_law_514 : decode code 514 = .ok (.invokevirtual 61, 3) := by decide +kernel
theorem d_law_517 : decode code 517 = .ok (.aload_n 2, 1) := by decide +kernel
theorem d_law_518 : decode code 518 = .ok (.aload_n 0, 1) := by decide +kernel
theorem d_law_519 : decode code 519 = .ok (.iload_n 3, 1) := by decide +kernel
theorem d_law_520 : decode code 520 = .ok (.iconst 1, 1) := by decide +kernel
theorem d_law_521 : decode code 521 = .ok (.iadd, 1) := by decide +kernel
theorem d_law_522 : decode code 522 = .ok (.iaload, 1) := by decide +kernel
theorem d_law_523 : decode code 523 = .ok (.aload_n 0, 1) := by decide +kernel
theorem d_law_524 : decode code 524 = .ok (.iload_n 3, 1) := by decide +kernel
theorem d_law_525 : decode code 525 = .ok (.iconst 2, 1) := by decide +kernel
theorem d_law_526 : decode code 526 = .ok (.iadd, 1) := by decide +kernel
theorem d_law_527 : decode code 527 = .ok (.iaload, 1) := by decide +kernel
theorem d_law_528 : decode code 528 = .ok (.invokevirtual 65, 3) := by decide +kernel
theorem d_law_531 : decode code 531 = .ok (.lcmp, 1) := by decide +kernel
theorem d_law_532 : decode code 532 = .ok (.ifCond .eq 391, 3) := by decide +kernel
theorem d_law_535 : decode code 535 = .ok (.iconst 0, 1) := by decide +kernel
theorem d_law_536 : decode code 536 = .ok (.ireturn, 1) := by decide +kernel
theorem d_law_537 : decode code 537 = .ok (.aload_n 1, 1) := by decide +kernel
theorem d_law_538 : decode code 538 = .ok (.aload_n 0, 1) := by decide +kernel
theorem d_law_539 : decode code 539 = .ok (.iload_n 3, 1) := by decide +kernel
theorem d_law_540 : decode code 540 = .ok (.iconst 1, 1) := by decide +kernel
theorem d_law_541 : decode code 541 = .ok (.iadd, 1) := by decide +kernel
theorem d_law_542 : decode code 542 = .ok (.iaload, 1) := by decide +kernel
theorem d_law_543 : decode code 543 = .ok (.aload_n 0, 1) := by decide +kernel
theorem d_law_544 : decode code 544 = .ok (.iload_n 3, 1) := by decide +kernel
theorem d_law_545 : decode code 545 = .ok (.iconst 2, 1) := by decide +kernel
theorem d_law_546 : decode code 546 = .ok (.iadd, 1) := by decide +kernel
theorem d_law_547 : decode code 547 = .ok (.iaload, 1) := by decide +kernel
theorem d_law_548 : decode code 548 = .ok (.invokevirtual 66, 3) := by decide +kernel
theorem d_law_551 : decode code 551 = .ok (.aload_n 2, 1) := by decide +kernel
theorem d_law_552 : decode code 552 = .ok (.aload_n 0, 1) := by decide +kernel
theorem d_law_553 : decode code 553 = .ok (.iload_n 3, 1) := by decide +kernel
theorem d_law_554 : decode code 554 = .ok (.iconst 1, 1) := by decide +kernel
theorem d_law_555 : decode code 555 = .ok (.iadd, 1) := by decide +kernel
theorem d_law_556 : decode code 556 = .ok (.iaload, 1) := by decide +kernel
theorem d_law_557 : decode code 557 = .ok (.aload_n 0, 1) := by decide +kernel
theorem d_law_558 : decode code 558 = .ok (.iload_n 3, 1) := by decide +kernel
theorem d_law_559 : decode code 559 = .ok (.iconst 2, 1) := by decide +kernel
theorem d_law_560 : decode code 560 = .ok (.iadd, 1) := by decide +kernel
theorem d_law_561 : decode code 561 = .ok (.iaload, 1) := by decide +kernel
theorem d_law_562 : decode code 562 = .ok (.invokevirtual 69, 3) := by decide +kernel
theorem d_law_565 : decode code 565 = .ok (.lcmp, 1) := by decide +kernel
theorem d_law_566 : decode code 566 = .ok (.ifCond .eq 357, 3) := by decide +kernel
theorem d_law_569 : decode code 569 = .ok (.iconst 0, 1) := by decide +kernel
theorem d_law_570 : decode code 570 = .ok (.ireturn, 1) := by decide +kernel
theorem d_law_571 : decode code 571 = .ok (.aload_n 1, 1) := by decide +kernel
theorem d_law_572 : decode code 572 = .ok (.aload_n 0, 1) := by decide +kernel
theorem d_law_573 : decode code 573 = .ok (.iload_n 3, 1) := by decide +kernel
theorem d_law_574 : decode code 574 = .ok (.iconst 1, 1) := by decide +kernel
theorem d_law_575 : decode code 575 = .ok (.iadd, 1) := by decide +kernel
theorem d_law_576 : decode code 576 = .ok (.iaload, 1) := by decide +kernel
theorem d_law_577 : decode code 577 = .ok (.invokevirtual 70, 3) := by decide +kernel
theorem d_law_580 : decode code 580 = .ok (.aload_n 2, 1) := by decide +kernel
theorem d_law_581 : decode code 581 = .ok (.aload_n 0, 1) := by decide +kernel
theorem d_law_582 : decode code 582 = .ok (.iload_n 3, 1) := by decide +kernel
theorem d_law_583 : decode code 583 = .ok (.iconst 1, 1) := by decide +kernel
theorem d_law_584 : decode code 584 = .ok (.iadd, 1) := by decide +kernel
theorem d_law_585 : decode code 585 = .ok (.iaload, 1) := by decide +kernel
theorem d_law_586 : decode code 586 = .ok (.invokevirtual 73, 3) := by decide +kernel
theorem d_law_589 : decode code 589 = .ok (.if_icmp .eq 334, 3) := by decide +kernel
theorem d_law_592 : decode code 592 = .ok (.iconst 0, 1) := by decide +kernel
theorem d_law_593 : decode code 593 = .ok (.ireturn, 1) := by decide +kernel
theorem d_law_594 : decode code 594 = .ok (.aload_n 1, 1) := by decide +kernel
theorem d_law_595 : decode code 595 = .ok (.invokevirtual 74, 3) := by decide +kernel
theorem d_law_598 : decode code 598 = .ok (.aload_n 2, 1) := by decide +kernel
theorem d_law_599 : decode code 599 = .ok (.invokevirtual 78, 3) := by decide +kernel
theorem d_law_602 : decode code 602 = .ok (.if_icmp .eq 321, 3) := by decide +kernel
theorem d_law_605 : decode code 605 = .ok (.iconst 0, 1) := by decide +kernel
theorem d_law_606 : decode code 606 = .ok (.ireturn, 1) := by decide +kernel
theorem d_law_607 : decode code 607 = .ok (.aload_n 1, 1) := by decide +kernel
theorem d_law_608 : decode code 608 = .ok (.aload_n 0, 1) := by decide +kernel
theorem d_law_609 : decode code 609 = .ok (.iload_n 3, 1) := by decide +kernel
theorem d_law_610 : decode code 610 = .ok (.iconst 1, 1) := by decide +kernel
theorem d_law_611 : decode code 611 = .ok (.iadd, 1) := by decide +kernel
theorem d_law_612 : decode code 612 = .ok (.iaload, 1) := by decide +kernel
theorem d_law_613 : decode code 613 = .ok (.aload_n 0, 1) := by decide +kernel
theorem d_law_614 : decode code 614 = .ok (.iload_n 3, 1) := by decide +kernel
theorem d_law_615 : decode code 615 = .ok (.iconst 2, 1) := by decide +kernel
theorem d_law_616 : decode code 616 = .ok (.iadd, 1) := by decide +kernel
theorem d_law_617 : decode code 617 = .ok (.iaload, 1) := by decide +kernel
theorem d_law_618 : decode code 618 = .ok (.aload_n 0, 1) := by decide +kernel
theorem d_law_619 : decode code 619 = .ok (.iload_n 3, 1) := by decide +kernel
theorem d_law_620 : decode code 620 = .ok (.iconst 3, 1) := by decide +kernel
theorem d_law_621 : decode code 621 = .ok (.iadd, 1) := by decide +kernel
theorem d_law_622 : decode code 622 = .ok (.iaload, 1) := by decide +kernel
theorem d_law_623 : decode code 623 = .ok (.aload_n 0, 1) := by decide +kernel
theorem d_law_624 : decode code 624 = .ok (.iload_n 3, 1) := by decide +kernel
theorem d_law_625 : decode code 625 = .ok (.iconst 4, 1) := by decide +kernel
theorem d_law_626 : decode code 626 = .ok (.iadd, 1) := by decide +kernel
theorem d_law_627 : decode code 627 = .ok (.iaload, 1) := by decide +kernel
theorem d_law_628 : decode code 628 = .ok (.invokevirtual 79, 3) := by decide +kernel
theorem d_law_631 : decode code 631 = .ok (.aload_n 2, 1) := by decide +kernel
theorem d_law_632 : decode code 632 = .ok (.aload_n 0, 1) := by decide +kernel
theorem d_law_633 : decode code 633 = .ok (.iload_n 3, 1) := by decide +kernel
theorem d_law_634 : decode code 634 = .ok (.iconst 1, 1) := by decide +kernel
theorem d_law_635 : decode code 635 = .ok (.iadd, 1) := by decide +kernel
theorem d_law_636 : decode code 636 = .ok (.iaload, 1) := by decide +kernel
theorem d_law_637 : decode code 637 = .ok (.aload_n 0, 1) := by decide +kernel
theorem d_law_638 : decode code 638 = .ok (.iload_n 3, 1) := by decide +kernel
theorem d_law_639 : decode code 639 = .ok (.iconst 2, 1) := by decide +kernel
theorem d_law_640 : decode code 640 = .ok (.iadd, 1) := by decide +kernel
theorem d_law_641 : decode code 641 = .ok (.iaload, 1) := by decide +kernel
theorem d_law_642 : decode code 642 = .ok (.aload_n 0, 1) := by decide +kernel
theorem d_law_643 : decode code 643 = .ok (.iload_n 3, 1) := by decide +kernel
theorem d_law_644 : decode code 644 = .ok (.iconst 3, 1) := by decide +kernel
theorem d_law_645 : decode code 645 = .ok (.iadd, 1) := by decide +kernel
theorem d_law_646 : decode code 646 = .ok (.iaload, 1) := by decide +kernel
theorem d_law_647 : decode code 647 = .ok (.aload_n 0, 1) := by decide +kernel
theorem d_law_648 : decode code 648 = .ok (.iload_n 3, 1) := by decide +kernel
theorem d_law_649 : decode code 649 = .ok (.iconst 4, 1) := by decide +kernel
theorem d_law_650 : decode code 650 = .ok (.iadd, 1) := by decide +kernel
theorem d_law_651 : decode code 651 = .ok (.iaload, 1) := by decide +kernel
theorem d_law_652 : decode code 652 = .ok (.invokevirtual 83, 3) := by decide +kernel
theorem d_law_655 : decode code 655 = .ok (.if_icmp .eq 268, 3) := by decide +kernel
theorem d_law_658 : decode code 658 = .ok (.iconst 0, 1) := by decide +kernel
theorem d_law_659 : decode code 659 = .ok (.ireturn, 1) := by decide +kernel
theorem d_law_660 : decode code 660 = .ok (.aload_n 1, 1) := by decide +kernel
theorem d_law_661 : decode code 661 = .ok (.aload_n 0, 1) := by decide +kernel
theorem d_law_662 : decode code 662 = .ok (.iload_n 3, 1) := by decide +kernel
theorem d_law_663 : decode code 663 = .ok (.iconst 1, 1) := by decide +kernel
theorem d_law_664 : decode code 664 = .ok (.iadd, 1) := by decide +kernel
theorem d_law_665 : decode code 665 = .ok (.iaload, 1) := by decide +kernel
theorem d_law_666 : decode code 666 = .ok (.aload_n 0, 1) := by decide +kernel
theorem d_law_667 : decode code 667 = .ok (.iload_n 3, 1) := by decide +kernel
theorem d_law_668 : decode code 668 = .ok (.iconst 2, 1) := by decide +kernel
theorem d_law_669 : decode code 669 = .ok (.iadd, 1) := by decide +kernel
theorem d_law_670 : decode code 670 = .ok (.iaload, 1) := by decide +kernel
theorem d_law_671 : decode code 671 = .ok (.aload_n 0, 1) := by decide +kernel
theorem d_law_672 : decode code 672 = .ok (.iload_n 3, 1) := by decide +kernel
theorem d_law_673 : decode code 673 = .ok (.iconst 3, 1) := by decide +kernel
theorem d_law_674 : decode code 674 = .ok (.iadd, 1) := by decide +kernel
theorem d_law_675 : decode code 675 = .ok (.iaload, 1) := by decide +kernel
theorem d_law_676 : decode code 676 = .ok (.invokevirtual 84, 3) := by decide +kernel
theorem d_law_679 : decode code 679 = .ok (.aload_n 2, 1) := by decide +kernel
theorem d_law_680 : decode code 680 = .ok (.aload_n 0, 1) := by decide +kernel
theorem d_law_681 : decode code 681 = .ok (.iload_n 3, 1) := by decide +kernel
theorem d_law_682 : decode code 682 = .ok (.iconst 1, 1) := by decide +kernel
theorem d_law_683 : decode code 683 = .ok (.iadd, 1) := by decide +kernel
theorem d_law_684 : decode code 684 = .ok (.iaload, 1) := by decide +kernel
theorem d_law_685 : decode code 685 = .ok (.aload_n 0, 1) := by decide +kernel
theorem d_law_686 : decode code 686 = .ok (.iload_n 3, 1) := by decide +kernel
theorem d_law_687 : decode code 687 = .ok (.iconst 2, 1) := by decide +kernel
theorem d_law_688 : decode code 688 = .ok (.iadd, 1) := by decide +kernel
theorem d_law_689 : decode code 689 = .ok (.iaload, 1) := by decide +kernel
theorem d_law_690 : decode code 690 = .ok (.aload_n 0, 1) := by decide +kernel
theorem d_law_691 : decode code 691 = .ok (.iload_n 3, 1) := by decide +kernel
theorem d_law_692 : decode code 692 = .ok (.iconst 3, 1) := by decide +kernel
theorem d_law_693 : decode code 693 = .ok (.iadd, 1) := by decide +kernel
theorem d_law_694 : decode code 694 = .ok (.iaload, 1) := by decide +kernel
theorem d_law_695 : decode code 695 = .ok (.invokevirtual 88, 3) := by decide +kernel
theorem d_law_698 : decode code 698 = .ok (.lcmp, 1) := by decide +kernel
theorem d_law_699 : decode code 699 = .ok (.ifCond .eq 224, 3) := by decide +kernel
theorem d_law_702 : decode code 702 = .ok (.iconst 0, 1) := by decide +kernel
theorem d_law_703 : decode code 703 = .ok (.ireturn, 1) := by decide +kernel
theorem d_law_704 : decode code 704 = .ok (.aload_n 1, 1) := by decide +kernel
theorem d_law_705 : decode code 705 = .ok (.aload_n 0, 1) := by decide +kernel
theorem d_law_706 : decode code 706 = .ok (.iload_n 3, 1) := by decide +kernel
theorem d_law_707 : decode code 707 = .ok (.iconst 1, 1) := by decide +kernel
theorem d_law_708 : decode code 708 = .ok (.iadd, 1) := by decide +kernel
theorem d_law_709 : decode code 709 = .ok (.iaload, 1) := by decide +kernel
theorem d_law_710 : decode code 710 = .ok (.aload_n 0, 1) := by decide +kernel
theorem d_law_711 : decode code 711 = .ok (.iload_n 3, 1) := by decide +kernel
theorem d_law_712 : decode code 712 = .ok (.iconst 2, 1) := by decide +kernel
theorem d_law_713 : decode code 713 = .ok (.iadd, 1) := by decide +kernel
theorem d_law_714 : decode code 714 = .ok (.iaload, 1) := by decide +kernel
theorem d_law_715 : decode code 715 = .ok (.aload_n 0, 1) := by decide +kernel
theorem d_law_716 : decode code 716 = .ok (.iload_n 3, 1) := by decide +kernel
theorem d_law_717 : decode code 717 = .ok (.iconst 3, 1) := by decide +kernel
theorem d_law_718 : decode code 718 = .ok (.iadd, 1) := by decide +kernel
theorem d_law_719 : decode code 719 = .ok (.iaload, 1) := by decide +kernel
theorem d_law_720 : decode code 720 = .ok (.i2l, 1) := by decide +kernel
theorem d_law_721 : decode code 721 = .ok (.bipush 32, 2) := by decide +kernel
theorem d_law_723 : decode code 723 = .ok (.lshl, 1) := by decide +kernel
theorem d_law_724 : decode code 724 = .ok (.aload_n 0, 1) := by decide +kernel
theorem d_law_725 : decode code 725 = .ok (.iload_n 3, 1) := by decide +kernel
theorem d_law_726 : decode code 726 = .ok (.iconst 4, 1) := by decide +kernel
theorem d_law_727 : decode code 727 = .ok (.iadd, 1) := by decide +kernel
theorem d_law_728 : decode code 728 = .ok (.iaload, 1) := by decide +kernel
theorem d_law_729 : decode code 729 = .ok (.i2l, 1) := by decide +kernel
theorem d_law_730 : decode code 730 = .ok (.ldc2_w 26, 3) := by decide +kernel
theorem d_law_733 : decode code 733 = .ok (.land, 1) := by decide +kernel
theorem d_law_734 : decode code 734 = .ok (.lor, 1) := by decide +kernel
theorem d_law_735 : decode code 735 = .ok (.invokevirtual 89, 3) := by decide +kernel
theorem d_law_738 : decode code 738 = .ok (.aload_n 2, 1) := by decide +kernel
theorem d_law_739 : decode code 739 = .ok (.aload_n 0, 1) := by decide +kernel
theorem d_law_740 : decode code 740 = .ok (.iload_n 3, 1) := by decide +kernel
theorem d_law_741 : decode code 741 = .ok (.iconst 1, 1) := by decide +kernel
theorem d_law_742 : decode code 742 = .ok (.iadd, 1) := by decide +kernel
theorem d_law_743 : decode code 743 = .ok (.iaload, 1) := by decide +kernel
theorem d_law_744 : decode code 744 = .ok (.aload_n 0, 1) := by decide +kernel
theorem d_law_745 : decode code 745 = .ok (.iload_n 3, 1) := by decide +kernel
theorem d_law_746 : decode code 746 = .ok (.iconst 2, 1) := by decide +kernel
theorem d_law_747 : decode code 747 = .ok (.iadd, 1) := by decide +kernel
theorem d_law_748 : decode code 748 = .ok (.iaload, 1) := by decide +kernel
theorem d_law_749 : decode code 749 = .ok (.aload_n 0, 1) := by decide +kernel
theorem d_law_750 : decode code 750 = .ok (.iload_n 3, 1) := by decide +kernel
theorem d_law_751 : decode code 751 = .ok (.iconst 3, 1) := by decide +kernel
theorem d_law_752 : decode code 752 = .ok (.iadd, 1) := by decide +kernel
theorem d_law_753 : decode code 753 = .ok (.iaload, 1) := by decide +kernel
theorem d_law_754 : decode code 754 = .ok (.i2l, 1) := by decide +kernel
theorem d_law_755 : decode code 755 = .ok (.bipush 32, 2) := by decide +kernel
theorem d_law_757 : decode code 757 = .ok (.lshl, 1) := by decide +kernel
theorem d_law_758 : decode code 758 = .ok (.aload_n 0, 1) := by decide +kernel
theorem d_law_759 : decode code 759 = .ok (.iload_n 3, 1) := by decide +kernel
theorem d_law_760 : decode code 760 = .ok (.iconst 4, 1) := by decide +kernel
theorem d_law_761 : decode code 761 = .ok (.iadd, 1) := by decide +kernel
theorem d_law_762 : decode code 762 = .ok (.iaload, 1) := by decide +kernel
theorem d_law_763 : decode code 763 = .ok (.i2l, 1) := by decide +kernel
theorem d_law_764 : decode code 764 = .ok (.ldc2_w 26, 3) := by decide +kernel
theorem d_law_767 : decode code 767 = .ok (.land, 1) := by decide +kernel
theorem d_law_768 : decode code 768 = .ok (.lor, 1) := by decide +kernel
theorem d_law_769 : decode code 769 = .ok (.invokevirtual 92, 3) := by decide +kernel
theorem d_law_772 : decode code 772 = .ok (.if_icmp .eq 151, 3) := by decide +kernel
theorem d_law_775 : decode code 775 = .ok (.iconst 0, 1) := by decide +kernel
theorem d_law_776 : decode code 776 = .ok (.ireturn, 1) := by decide +kernel
theorem d_law_777 : decode code 777 = .ok (.aload_n 1, 1) := by decide +kernel
theorem d_law_778 : decode code 778 = .ok (.aload_n 0, 1) := by decide +kernel
theorem d_law_779 : decode code 779 = .ok (.iload_n 3, 1) := by decide +kernel
theorem d_law_780 : decode code 780 = .ok (.iconst 1, 1) := by decide +kernel
theorem d_law_781 : decode code 781 = .ok (.iadd, 1) := by decide +kernel
theorem d_law_782 : decode code 782 = .ok (.iaload, 1) := by decide +kernel
theorem d_law_783 : decode code 783 = .ok (.invokevirtual 93, 3) := by decide +kernel
theorem d_law_786 : decode code 786 = .ok (.aload_n 2, 1) := by decide +kernel
theorem d_law_787 : decode code 787 = .ok (.aload_n 0, 1) := by decide +kernel
theorem d_law_788 : decode code 788 = .ok (.iload_n 3, 1) := by decide +kernel
theorem d_law_789 : decode code 789 = .ok (.iconst 1, 1) := by decide +kernel
theorem d_law_790 : decode code 790 = .ok (.iadd, 1) := by decide +kernel
theorem d_law_791 : decode code 791 = .ok (.iaload, 1) := by decide +kernel
theorem d_law_792 : decode code 792 = .ok (.invokevirtual 97, 3) := by decide +kernel
theorem d_law_795 : decode code 795 = .ok (.if_icmp .eq 128, 3) := by decide +kernel
theorem d_law_798 : decode code 798 = .ok (.iconst 0, 1) := by decide +kernel
theorem d_law_799 : decode code 799 = .ok (.ireturn, 1) := by decide +kernel
theorem d_law_800 : decode code 800 = .ok (.aload_n 1, 1) := by decide +kernel
theorem d_law_801 : decode code 801 = .ok (.aload_n 0, 1) := by decide +kernel
theorem d_law_802 : decode code 802 = .ok (.iload_n 3, 1) := by decide +kernel
theorem d_law_803 : decode code 803 = .ok (.iconst 1, 1) := by decide +kernel
theorem d_law_804 : decode code 804 = .ok (.iadd, 1) := by decide +kernel
theorem d_law_805 : decode code 805 = .ok (.iaload, 1) := by decide +kernel
theorem d_law_806 : decode code 806 = .ok (.aload_n 0, 1) := by decide +kernel
theorem d_law_807 : decode code 807 = .ok (.iload_n 3, 1) := by decide +kernel
theorem d_law_808 : decode code 808 = .ok (.iconst 2, 1) := by decide +kernel
theorem d_law_809 : decode code 809 = .ok (.iadd, 1) := by decide +kernel
theorem d_law_810 : decode code 810 = .ok (.iaload, 1) := by decide +kernel
theorem d_law_811 : decode code 811 = .ok (.i2l, 1) := by decide +kernel
theorem d_law_812 : decode code 812 = .ok (.bipush 32, 2) := by decide +kernel
theorem d_law_814 : decode code 814 = .ok (.lshl, 1) := by decide +kernel
theorem d_law_815 : decode code 815 = .ok (.aload_n 0, 1) := by decide +kernel
theorem d_law_816 : decode code 816 = .ok (.iload_n 3, 1) := by decide +kernel
theorem d_law_817 : decode code 817 = .ok (.iconst 3, 1) := by decide +kernel
theorem d_law_818 : decode code 818 = .ok (.iadd, 1) := by decide +kernel
theorem d_law_819 : decode code 819 = .ok (.iaload, 1) := by decide +kernel
theorem d_law_820 : decode code 820 = .ok (.i2l, 1) := by decide +kernel
theorem d_law_821 : decode code 821 = .ok (.ldc2_w 26, 3) := by decide +kernel
theorem d_law_824 : decode code 824 = .ok (.land, 1) := by decide +kernel
theorem d_law_825 : decode code 825 = .ok (.lor, 1) := by decide +kernel
theorem d_law_826 : decode code 826 = .ok (.invokevirtual 98, 3) := by decide +kernel
theorem d_law_829 : decode code 829 = .ok (.aload_n 2, 1) := by decide +kernel
theorem d_law_830 : decode code 830 = .ok (.aload_n 0, 1) := by decide +kernel
theorem d_law_831 : decode code 831 = .ok (.iload_n 3, 1) := by decide +kernel
theorem d_law_832 : decode code 832 = .ok (.iconst 1, 1) := by decide +kernel
theorem d_law_833 : decode code 833 = .ok (.iadd, 1) := by decide +kernel
theorem d_law_834 : decode code 834 = .ok (.iaload, 1) := by decide +kernel
theorem d_law_835 : decode code 835 = .ok (.aload_n 0, 1) := by decide +kernel
theorem d_law_836 : decode code 836 = .ok (.iload_n 3, 1) := by decide +kernel
theorem d_law_837 : decode code 837 = .ok (.iconst 2, 1) := by decide +kernel
theorem d_law_838 : decode code 838 = .ok (.iadd, 1) := by decide +kernel
theorem d_law_839 : decode code 839 = .ok (.iaload, 1) := by decide +kernel
theorem d_law_840 : decode code 840 = .ok (.i2l, 1) := by decide +kernel
theorem d_law_841 : decode code 841 = .ok (.bipush 32, 2) := by decide +kernel
theorem d_law_843 : decode code 843 = .ok (.lshl, 1) := by decide +kernel
theorem d_law_844 : decode code 844 = .ok (.aload_n 0, 1) := by decide +kernel
theorem d_law_845 : decode code 845 = .ok (.iload_n 3, 1) := by decide +kernel
theorem d_law_846 : decode code 846 = .ok (.iconst 3, 1) := by decide +kernel
theorem d_law_847 : decode code 847 = .ok (.iadd, 1) := by decide +kernel
theorem d_law_848 : decode code 848 = .ok (.iaload, 1) := by decide +kernel
theorem d_law_849 : decode code 849 = .ok (.i2l, 1) := by decide +kernel
theorem d_law_850 : decode code 850 = .ok (.ldc2_w 26, 3) := by decide +kernel
theorem d_law_853 : decode code 853 = .ok (.land, 1) := by decide +kernel
theorem d_law_854 : decode code 854 = .ok (.lor, 1) := by decide +kernel
theorem d_law_855 : decode code 855 = .ok (.invokevirtual 101, 3) := by decide +kernel
theorem d_law_858 : decode code 858 = .ok (.if_icmp .eq 65, 3) := by decide +kernel
theorem d_law_861 : decode code 861 = .ok (.iconst 0, 1) := by decide +kernel
theorem d_law_862 : decode code 862 = .ok (.ireturn, 1) := by decide +kernel
theorem d_law_863 : decode code 863 = .ok (.aload_n 1, 1) := by decide +kernel
theorem d_law_864 : decode code 864 = .ok (.aload_n 0, 1) := by decide +kernel
theorem d_law_865 : decode code 865 = .ok (.iload_n 3, 1) := by decide +kernel
theorem d_law_866 : decode code 866 = .ok (.iconst 1, 1) := by decide +kernel
theorem d_law_867 : decode code 867 = .ok (.iadd, 1) := by decide +kernel
theorem d_law_868 : decode code 868 = .ok (.iaload, 1) := by decide +kernel
theorem d_law_869 : decode code 869 = .ok (.invokevirtual 102, 3) := by decide +kernel
theorem d_law_872 : decode code 872 = .ok (.aload_n 2, 1) := by decide +kernel
theorem d_law_873 : decode code 873 = .ok (.aload_n 0, 1) := by decide +kernel
theorem d_law_874 : decode code 874 = .ok (.iload_n 3, 1) := by decide +kernel
theorem d_law_875 : decode code 875 = .ok (.iconst 1, 1) := by decide +kernel
theorem d_law_876 : decode code 876 = .ok (.iadd, 1) := by decide +kernel
theorem d_law_877 : decode code 877 = .ok (.iaload, 1) := by decide +kernel
theorem d_law_878 : decode code 878 = .ok (.invokevirtual 105, 3) := by decide +kernel
theorem d_law_881 : decode code 881 = .ok (.if_icmp .eq 42, 3) := by decide +kernel
theorem d_law_884 : decode code 884 = .ok (.iconst 0, 1) := by decide +kernel
theorem d_law_885 : decode code 885 = .ok (.ireturn, 1) := by decide +kernel
theorem d_law_886 : decode code 886 = .ok (.aload_n 1, 1) := by decide +kernel
theorem d_law_887 : decode code 887 = .ok (.invokevirtual 106, 3) := by decide +kernel
theorem d_law_890 : decode code 890 = .ok (.aload_n 2, 1) := by decide +kernel
theorem d_law_891 : decode code 891 = .ok (.invokevirtual 110, 3) := by decide +kernel
theorem d_law_894 : decode code 894 = .ok (.lcmp, 1) := by decide +kernel
theorem d_law_895 : decode code 895 = .ok (.ifCond .eq 28, 3) := by decide +kernel
theorem d_law_898 : decode code 898 = .ok (.iconst 0, 1) := by decide +kernel
theorem d_law_899 : decode code 899 = .ok (.ireturn, 1) := by decide +kernel
theorem d_law_900 : decode code 900 = .ok (.aload_n 1, 1) := by decide +kernel
theorem d_law_901 : decode code 901 = .ok (.aload_n 0, 1) := by decide +kernel
theorem d_law_902 : decode code 902 = .ok (.iload_n 3, 1) := by decide +kernel
theorem d_law_903 : decode code 903 = .ok (.iconst 1, 1) := by decide +kernel
theorem d_law_904 : decode code 904 = .ok (.iadd, 1) := by decide +kernel
theorem d_law_905 : decode code 905 = .ok (.iaload, 1) := by decide +kernel
theorem d_law_906 : decode code 906 = .ok (.invokevirtual 111, 3) := by decide +kernel
theorem d_law_909 : decode code 909 = .ok (.aload_n 2, 1) := by decide +kernel
theorem d_law_910 : decode code 910 = .ok (.aload_n 0, 1) := by decide +kernel
theorem d_law_911 : decode code 911 = .ok (.iload_n 3, 1) := by decide +kernel
theorem d_law_912 : decode code 912 = .ok (.iconst 1, 1) := by decide +kernel
theorem d_law_913 : decode code 913 = .ok (.iadd, 1) := by decide +kernel
theorem d_law_914 : decode code 914 = .ok (.iaload, 1) := by decide +kernel
theorem d_law_915 : decode code 915 = .ok (.invokevirtual 114, 3) := by decide +kernel
theorem d_law_918 : decode code 918 = .ok (.if_icmp .eq 5, 3) := by decide +kernel
theorem d_law_921 : decode code 921 = .ok (.iconst 0, 1) := by decide +kernel
theorem d_law_922 : decode code 922 = .ok (.ireturn, 1) := by decide +kernel
theorem d_law_923 : decode code 923 = .ok (.iinc 3 5, 3) := by decide +kernel
theorem d_law_926 : decode code 926 = .ok (.goto (-888), 3) := by decide +kernel
theorem d_law_929 : decode code 929 = .ok (.iconst 1, 1) := by decide +kernel
theorem d_law_930 : decode code 930 = .ok (.ireturn, 1) := by decide +kernel
