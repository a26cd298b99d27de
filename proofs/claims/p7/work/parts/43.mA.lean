set_option maxRecDepth 1000000 in
theorem dL_law_0 : decode code 0 = .ok (.new 7, 3) := by decide +kernel
set_option maxRecDepth 1000000 in
theorem dL_law_3 : decode code 3 = .ok (.dup, 1) := by decide +kernel
set_option maxRecDepth 1000000 in
theorem dL_law_4 : decode code 4 = .ok (.invokespecial 9, 3) := by decide +kernel
set_option maxRecDepth 1000000 in
theorem dL_law_7 : decode code 7 = .ok (.astore_n 1, 1) := by decide +kernel
set_option maxRecDepth 1000000 in
theorem dL_law_8 : decode code 8 = .ok (.new 10, 3) := by decide +kernel
set_option maxRecDepth 1000000 in
theorem dL_law_11 : decode code 11 = .ok (.dup, 1) := by decide +kernel
set_option maxRecDepth 1000000 in
theorem dL_law_12 : decode code 12 = .ok (.invokespecial 12, 3) := by decide +kernel
set_option maxRecDepth 1000000 in
theorem dL_law_15 : decode code 15 = .ok (.astore_n 2, 1) := by decide +kernel
set_option maxRecDepth 1000000 in
theorem dL_law_16 : decode code 16 = .ok (.iconst 0, 1) := by decide +kernel
set_option maxRecDepth 1000000 in
theorem dL_law_17 : decode code 17 = .ok (.istore_n 3, 1) := by decide +kernel
set_option maxRecDepth 1000000 in
theorem dL_law_18 : decode code 18 = .ok (.iload_n 3, 1) := by decide +kernel
set_option maxRecDepth 1000000 in
theorem dL_law_19 : decode code 19 = .ok (.aload_n 0, 1) := by decide +kernel
set_option maxRecDepth 1000000 in
theorem dL_law_20 : decode code 20 = .ok (.arraylength, 1) := by decide +kernel
set_option maxRecDepth 1000000 in
theorem dL_law_21 : decode code 21 = .ok (.bipush 6, 2) := by decide +kernel
set_option maxRecDepth 1000000 in
theorem dL_law_23 : decode code 23 = .ok (.isub, 1) := by decide +kernel
set_option maxRecDepth 1000000 in
theorem dL_law_24 : decode code 24 = .ok (.if_icmp .gt 1458, 3) := by decide +kernel
set_option maxRecDepth 1000000 in
theorem dL_law_27 : decode code 27 = .ok (.aload_n 0, 1) := by decide +kernel
set_option maxRecDepth 1000000 in
theorem dL_law_28 : decode code 28 = .ok (.iload_n 3, 1) := by decide +kernel
set_option maxRecDepth 1000000 in
theorem dL_law_29 : decode code 29 = .ok (.iaload, 1) := by decide +kernel
set_option maxRecDepth 1000000 in
theorem dL_law_30 : decode code 30 = .ok (.bipush 63, 2) := by decide +kernel
set_option maxRecDepth 1000000 in
theorem dL_law_32 : decode code 32 = .ok (.iand, 1) := by decide +kernel
set_option maxRecDepth 1000000 in
theorem dL_law_33 : decode code 33 = .ok (.tableswitch 1443 0 35 #[159, 172, 215, 288, 321, 384, 447, 470, 529, 592, 625, 648, 681, 714, 757, 780, 813, 856, 889, 932, 955, 978, 1021, 1054, 1097, 1120, 1143, 1176, 1199, 1232, 1255, 1278, 1321, 1354, 1377, 1420], 159) := by decide +kernel
set_option maxRecDepth 1000000 in
theorem dL_law_192 : decode code 192 = .ok (.aload_n 1, 1) := by decide +kernel
set_option maxRecDepth 1000000 in
theorem dL_law_193 : decode code 193 = .ok (.invokevirtual 13, 3) := by decide +kernel
set_option maxRecDepth 1000000 in
theorem dL_law_196 : decode code 196 = .ok (.pop, 1) := by decide +kernel
set_option maxRecDepth 1000000 in
theorem dL_law_197 : decode code 197 = .ok (.aload_n 2, 1) := by decide +kernel
set_option maxRecDepth 1000000 in
theorem dL_law_198 : decode code 198 = .ok (.invokevirtual 17, 3) := by decide +kernel
set_option maxRecDepth 1000000 in
theorem dL_law_201 : decode code 201 = .ok (.pop, 1) := by decide +kernel
set_option maxRecDepth 1000000 in
theorem dL_law_202 : decode code 202 = .ok (.goto 1274, 3) := by decide +kernel
set_option maxRecDepth 1000000 in
theorem dL_law_205 : decode code 205 = .ok (.aload_n 1, 1) := by decide +kernel
set_option maxRecDepth 1000000 in
theorem dL_law_206 : decode code 206 = .ok (.aload_n 0, 1) := by decide +kernel
set_option maxRecDepth 1000000 in
theorem dL_law_207 : decode code 207 = .ok (.iload_n 3, 1) := by decide +kernel
set_option maxRecDepth 1000000 in
theorem dL_law_208 : decode code 208 = .ok (.iconst 1, 1) := by decide +kernel
set_option maxRecDepth 1000000 in
theorem dL_law_209 : decode code 209 = .ok (.iadd, 1) := by decide +kernel
set_option maxRecDepth 1000000 in
theorem dL_law_210 : decode code 210 = .ok (.iaload, 1) := by decide +kernel
set_option maxRecDepth 1000000 in
theorem dL_law_211 : decode code 211 = .ok (.aload_n 0, 1) := by decide +kernel
set_option maxRecDepth 1000000 in
theorem dL_law_212 : decode code 212 = .ok (.iload_n 3, 1) := by decide +kernel
set_option maxRecDepth 1000000 in
theorem dL_law_213 : decode code 213 = .ok (.iconst 2, 1) := by decide +kernel
set_option maxRecDepth 1000000 in
theorem dL_law_214 : decode code 214 = .ok (.iadd, 1) := by decide +kernel
set_option maxRecDepth 1000000 in
theorem dL_law_215 : decode code 215 = .ok (.iaload, 1) := by decide +kernel
set_option maxRecDepth 1000000 in
theorem dL_law_216 : decode code 216 = .ok (.aload_n 0, 1) := by decide +kernel
set_option maxRecDepth 1000000 in
theorem dL_law_217 : decode code 217 = .ok (.iload_n 3, 1) := by decide +kernel
set_option maxRecDepth 1000000 in
theorem dL_law_218 : decode code 218 = .ok (.iconst 3, 1) := by decide +kernel
set_option maxRecDepth 1000000 in
theorem dL_law_219 : decode code 219 = .ok (.iadd, 1) := by decide +kernel
set_option maxRecDepth 1000000 in
theorem dL_law_220 : decode code 220 = .ok (.iaload, 1) := by decide +kernel
set_option maxRecDepth 1000000 in
theorem dL_law_221 : decode code 221 = .ok (.invokevirtual 18, 3) := by decide +kernel
set_option maxRecDepth 1000000 in
theorem dL_law_224 : decode code 224 = .ok (.pop, 1) := by decide +kernel
set_option maxRecDepth 1000000 in
theorem dL_law_225 : decode code 225 = .ok (.aload_n 2, 1) := by decide +kernel
set_option maxRecDepth 1000000 in
theorem dL_law_226 : decode code 226 = .ok (.aload_n 0, 1) := by decide +kernel
set_option maxRecDepth 1000000 in
theorem dL_law_227 : decode code 227 = .ok (.iload_n 3, 1) := by decide +kernel
set_option maxRecDepth 1000000 in
theorem dL_law_228 : decode code 228 = .ok (.iconst 1, 1) := by decide +kernel
set_option maxRecDepth 1000000 in
theorem dL_law_229 : decode code 229 = .ok (.iadd, 1) := by decide +kernel
set_option maxRecDepth 1000000 in
theorem dL_law_230 : decode code 230 = .ok (.iaload, 1) := by decide +kernel
set_option maxRecDepth 1000000 in
theorem dL_law_231 : decode code 231 = .ok (.aload_n 0, 1) := by decide +kernel
set_option maxRecDepth 1000000 in
theorem dL_law_232 : decode code 232 = .ok (.iload_n 3, 1) := by decide +kernel
set_option maxRecDepth 1000000 in
theorem dL_law_233 : decode code 233 = .ok (.iconst 2, 1) := by decide +kernel
set_option maxRecDepth 1000000 in
theorem dL_law_234 : decode code 234 = .ok (.iadd, 1) := by decide +kernel
set_option maxRecDepth 1000000 in
theorem dL_law_235 : decode code 235 = .ok (.iaload, 1) := by decide +kernel
set_option maxRecDepth 1000000 in
theorem dL_law_236 : decode code 236 = .ok (.aload_n 0, 1) := by decide +kernel
set_option maxRecDepth 1000000 in
theorem dL_law_237 : decode code 237 = .ok (.iload_n 3, 1) := by decide +kernel
set_option maxRecDepth 1000000 in
theorem dL_law_238 : decode code 238 = .ok (.iconst 3, 1) := by decide +kernel
set_option maxRecDepth 1000000 in
theorem dL_law_239 : decode code 239 = .ok (.iadd, 1) := by decide +kernel
set_option maxRecDepth 1000000 in
theorem dL_law_240 : decode code 240 = .ok (.iaload, 1) := by decide +kernel
set_option maxRecDepth 1000000 in
theorem dL_law_241 : decode code 241 = .ok (.invokevirtual 22, 3) := by decide +kernel
set_option maxRecDepth 1000000 in
theorem dL_law_244 : decode code 244 = .ok (.pop, 1) := by decide +kernel
set_option maxRecDepth 1000000 in
theorem dL_law_245 : decode code 245 = .ok (.goto 1231, 3) := by decide +kernel
set_option maxRecDepth 1000000 in
theorem dL_law_248 : decode code 248 = .ok (.aload_n 1, 1) := by decide +kernel
set_option maxRecDepth 1000000 in
theorem dL_law_249 : decode code 249 = .ok (.aload_n 0, 1) := by decide +kernel
set_option maxRecDepth 1000000 in
theorem dL_law_250 : decode code 250 = .ok (.iload_n 3, 1) := by decide +kernel
set_option maxRecDepth 1000000 in
theorem dL_law_251 : decode code 251 = .ok (.iconst 1, 1) := by decide +kernel
set_option maxRecDepth 1000000 in
theorem dL_law_252 : decode code 252 = .ok (.iadd, 1) := by decide +kernel
set_option maxRecDepth 1000000 in
theorem dL_law_253 : decode code 253 = .ok (.iaload, 1) := by decide +kernel
set_option maxRecDepth 1000000 in
theorem dL_law_254 : decode code 254 = .ok (.aload_n 0, 1) := by decide +kernel
set_option maxRecDepth 1000000 in
theorem dL_law_255 : decode code 255 = .ok (.iload_n 3, 1) := by decide +kernel
set_option maxRecDepth 1000000 in
theorem dL_law_256 : decode code 256 = .ok (.iconst 2, 1) := by decide +kernel
set_option maxRecDepth 1000000 in
theorem dL_law_257 : decode code 257 = .ok (.iadd, 1) := by decide +kernel
set_option maxRecDepth 1000000 in
theorem dL_law_258 : decode code 258 = .ok (.iaload, 1) := by decide +kernel
set_option maxRecDepth 1000000 in
theorem dL_law_259 : decode code 259 = .ok (.aload_n 0, 1) := by decide +kernel
set_option maxRecDepth 1000000 in
theorem dL_law_260 : decode code 260 = .ok (.iload_n 3, 1) := by decide +kernel
set_option maxRecDepth 1000000 in
theorem dL_law_261 : decode code 261 = .ok (.iconst 3, 1) := by decide +kernel
set_option maxRecDepth 1000000 in
theorem dL_law_262 : decode code 262 = .ok (.iadd, 1) := by decide +kernel
set_option maxRecDepth 1000000 in
theorem dL_law_263 : decode code 263 = .ok (.iaload, 1) := by decide +kernel
set_option maxRecDepth 1000000 in
theorem dL_law_264 : decode code 264 = .ok (.i2l, 1) := by decide +kernel
set_option maxRecDepth 1000000 in
theorem dL_law_265 : decode code 265 = .ok (.bipush 32, 2) := by decide +kernel
set_option maxRecDepth 1000000 in
theorem dL_law_267 : decode code 267 = .ok (.lshl, 1) := by decide +kernel
set_option maxRecDepth 1000000 in
theorem dL_law_268 : decode code 268 = .ok (.aload_n 0, 1) := by decide +kernel
set_option maxRecDepth 1000000 in
theorem dL_law_269 : decode code 269 = .ok (.iload_n 3, 1) := by decide +kernel
set_option maxRecDepth 1000000 in
theorem dL_law_270 : decode code 270 = .ok (.iconst 4, 1) := by decide +kernel
set_option maxRecDepth 1000000 in
theorem dL_law_271 : decode code 271 = .ok (.iadd, 1) := by decide +kernel
set_option maxRecDepth 1000000 in
theorem dL_law_272 : decode code 272 = .ok (.iaload, 1) := by decide +kernel
set_option maxRecDepth 1000000 in
theorem dL_law_273 : decode code 273 = .ok (.i2l, 1) := by decide +kernel
set_option maxRecDepth 1000000 in
theorem dL_law_274 : decode code 274 = .ok (.ldc2_w 23, 3) := by decide +kernel
set_option maxRecDepth 1000000 in
theorem dL_law_277 : decode code 277 = .ok (.land, 1) := by decide +kernel
set_option maxRecDepth 1000000 in
theorem dL_law_278 : decode code 278 = .ok (.lor, 1) := by decide +kernel
set_option maxRecDepth 1000000 in
theorem dL_law_279 : decode code 279 = .ok (.invokevirtual 25, 3) := by decide +kernel
set_option maxRecDepth 1000000 in
theorem dL_law_282 : decode code 282 = .ok (.pop, 1) := by decide +kernel
set_option maxRecDepth 1000000 in
theorem dL_law_283 : decode code 283 = .ok (.aload_n 2, 1) := by decide +kernel
set_option maxRecDepth 1000000 in
theorem dL_law_284 : decode code 284 = .ok (.aload_n 0, 1) := by decide +kernel
set_option maxRecDepth 1000000 in
theorem dL_law_285 : decode code 285 = .ok (.iload_n 3, 1) := by decide +kernel
set_option maxRecDepth 1000000 in
theorem dL_law_286 : decode code 286 = .ok (.iconst 1, 1) := by decide +kernel
set_option maxRecDepth 1000000 in
theorem dL_law_287 : decode code 287 = .ok (.iadd, 1) := by decide +kernel
set_option maxRecDepth 1000000 in
theorem dL_law_288 : decode code 288 = .ok (.iaload, 1) := by decide +kernel
set_option maxRecDepth 1000000 in
theorem dL_law_289 : decode code 289 = .ok (.aload_n 0, 1) := by decide +kernel
set_option maxRecDepth 1000000 in
theorem dL_law_290 : decode code 290 = .ok (.iload_n 3, 1) := by decide +kernel
set_option maxRecDepth 1000000 in
theorem dL_law_291 : decode code 291 = .ok (.iconst 2, 1) := by decide +kernel
set_option maxRecDepth 1000000 in
theorem dL_law_292 : decode code 292 = .ok (.iadd, 1) := by decide +kernel
set_option maxRecDepth 1000000 in
theorem dL_law_293 : decode code 293 = .ok (.iaload, 1) := by decide +kernel
set_option maxRecDepth 1000000 in
theorem dL_law_294 : decode code 294 = .ok (.aload_n 0, 1) := by decide +kernel
set_option maxRecDepth 1000000 in
theorem dL_law_295 : decode code 295 = .ok (.iload_n 3, 1) := by decide +kernel
set_option maxRecDepth 1000000 in
theorem dL_law_296 : decode code 296 = .ok (.iconst 3, 1) := by decide +kernel
set_option maxRecDepth 1000000 in
theorem dL_law_297 : decode code 297 = .ok (.iadd, 1) := by decide +kernel
set_option maxRecDepth 1000000 in
theorem dL_law_298 : decode code 298 = .ok (.iaload, 1) := by decide +kernel
set_option maxRecDepth 1000000 in
theorem dL_law_299 : decode code 299 = .ok (.i2l, 1) := by decide +kernel
set_option maxRecDepth 1000000 in
theorem dL_law_300 : decode code 300 = .ok (.bipush 32, 2) := by decide +kernel
set_option maxRecDepth 1000000 in
theorem dL_law_302 : decode code 302 = .ok (.lshl, 1) := by decide +kernel
set_option maxRecDepth 1000000 in
theorem dL_law_303 : decode code 303 = .ok (.aload_n 0, 1) := by decide +kernel
set_option maxRecDepth 1000000 in
theorem dL_law_304 : decode code 304 = .ok (.iload_n 3, 1) := by decide +kernel
set_option maxRecDepth 1000000 in
theorem dL_law_305 : decode code 305 = .ok (.iconst 4, 1) := by decide +kernel
set_option maxRecDepth 1000000 in
theorem dL_law_306 : decode code 306 = .ok (.iadd, 1) := by decide +kernel
set_option maxRecDepth 1000000 in
theorem dL_law_307 : decode code 307 = .ok (.iaload, 1) := by decide +kernel
set_option maxRecDepth 1000000 in
theorem dL_law_308 : decode code 308 = .ok (.i2l, 1) := by decide +kernel
set_option maxRecDepth 1000000 in
theorem dL_law_309 : decode code 309 = .ok (.ldc2_w 23, 3) := by decide +kernel
set_option maxRecDepth 1000000 in
theorem dL_law_312 : decode code 312 = .ok (.land, 1) := by decide +kernel
set_option maxRecDepth 1000000 in
theorem dL_law_313 : decode code 313 = .ok (.lor, 1) := by decide +kernel
set_option maxRecDepth 1000000 in
theorem dL_law_314 : decode code 314 = .ok (.invokevirtual 29, 3) := by decide +kernel
set_option maxRecDepth 1000000 in
theorem dL_law_317 : decode code 317 = .ok (.pop, 1) := by decide +kernel
set_option maxRecDepth 1000000 in
theorem dL_law_318 : decode code 318 = .ok (.goto 1158, 3) := by decide +kernel
set_option maxRecDepth 1000000 in
theorem dL_law_321 : decode code 321 = .ok (.aload_n 1, 1) := by decide +kernel
set_option maxRecDepth 1000000 in
theorem dL_law_322 : decode code 322 = .ok (.aload_n 0, 1) := by decide +kernel
set_option maxRecDepth 1000000 in
theorem dL_law_323 : decode code 323 = .ok (.iload_n 3, 1) := by decide +kernel
set_option maxRecDepth 1000000 in
theorem dL_law_324 : decode code 324 = .ok (.iconst 1, 1) := by decide +kernel
set_option maxRecDepth 1000000 in
theorem dL_law_325 : decode code 325 = .ok (.iadd, 1) := by decide +kernel
set_option maxRecDepth 1000000 in
theorem dL_law_326 : decode code 326 = .ok (.iaload, 1) := by decide +kernel
set_option maxRecDepth 1000000 in
theorem dL_law_327 : decode code 327 = .ok (.aload_n 0, 1) := by decide +kernel
set_option maxRecDepth 1000000 in
theorem dL_law_328 : decode code 328 = .ok (.iload_n 3, 1) := by decide +kernel
set_option maxRecDepth 1000000 in
theorem dL_law_329 : decode code 329 = .ok (.iconst 2, 1) := by decide +kernel
set_option maxRecDepth 1000000 in
theorem dL_law_330 : decode code 330 = .ok (.iadd, 1) := by decide +kernel
set_option maxRecDepth 1000000 in
theorem dL_law_331 : decode code 331 = .ok (.iaload, 1) := by decide +kernel
set_option maxRecDepth 1000000 in
theorem dL_law_332 : decode code 332 = .ok (.invokevirtual 30, 3) := by decide +kernel
set_option maxRecDepth 1000000 in
theorem dL_law_335 : decode code 335 = .ok (.pop2, 1) := by decide +kernel
set_option maxRecDepth 1000000 in
theorem dL_law_336 : decode code 336 = .ok (.aload_n 2, 1) := by decide +kernel
set_option maxRecDepth 1000000 in
theorem dL_law_337 : decode code 337 = .ok (.aload_n 0, 1) := by decide +kernel
set_option maxRecDepth 1000000 in
theorem dL_law_338 : decode code 338 = .ok (.iload_n 3, 1) := by decide +kernel
set_option maxRecDepth 1000000 in
theorem dL_law_339 : decode code 339 = .ok (.iconst 1, 1) := by decide +kernel
set_option maxRecDepth 1000000 in
theorem dL_law_340 : decode code 340 = .ok (.iadd, 1) := by decide +kernel
set_option maxRecDepth 1000000 in
theorem dL_law_341 : decode code 341 = .ok (.iaload, 1) := by decide +kernel
set_option maxRecDepth 1000000 in
theorem dL_law_342 : decode code 342 = .ok (.aload_n 0, 1) := by decide +kernel
set_option maxRecDepth 1000000 in
theorem dL_law_343 : decode code 343 = .ok (.iload_n 3, 1) := by decide +kernel
set_option maxRecDepth 1000000 in
theorem dL_law_344 : decode code 344 = .ok (.iconst 2, 1) := by decide +kernel
set_option maxRecDepth 1000000 in
theorem dL_law_345 : decode code 345 = .ok (.iadd, 1) := by decide +kernel
set_option maxRecDepth 1000000 in
theorem dL_law_346 : decode code 346 = .ok (.iaload, 1) := by decide +kernel
set_option maxRecDepth 1000000 in
theorem dL_law_347 : decode code 347 = .ok (.invokevirtual 34, 3) := by decide +kernel
set_option maxRecDepth 1000000 in
theorem dL_law_350 : decode code 350 = .ok (.pop2, 1) := by decide +kernel
set_option maxRecDepth 1000000 in
theorem dL_law_351 : decode code 351 = .ok (.goto 1125, 3) := by decide +kernel
set_option maxRecDepth 1000000 in
theorem dL_law_354 : decode code 354 = .ok (.aload_n 1, 1) := by decide +kernel
set_option maxRecDepth 1000000 in
theorem dL_law_355 : decode code 355 = .ok (.aload_n 0, 1) := by decide +kernel
set_option maxRecDepth 1000000 in
theorem dL_law_356 : decode code 356 = .ok (.iload_n 3, 1) := by decide +kernel
set_option maxRecDepth 1000000 in
theorem dL_law_357 : decode code 357 = .ok (.iconst 1, 1) := by decide +kernel
set_option maxRecDepth 1000000 in
theorem dL_law_358 : decode code 358 = .ok (.iadd, 1) := by decide +kernel
set_option maxRecDepth 1000000 in
theorem dL_law_359 : decode code 359 = .ok (.iaload, 1) := by decide +kernel
set_option maxRecDepth 1000000 in
theorem dL_law_360 : decode code 360 = .ok (.aload_n 0, 1) := by decide +kernel
set_option maxRecDepth 1000000 in
theorem dL_law_361 : decode code 361 = .ok (.iload_n 3, 1) := by decide +kernel
set_option maxRecDepth 1000000 in
theorem dL_law_362 : decode code 362 = .ok (.iconst 2, 1) := by decide +kernel
set_option maxRecDepth 1000000 in
theorem dL_law_363 : decode code 363 = .ok (.iadd, 1) := by decide +kernel
set_option maxRecDepth 1000000 in
theorem dL_law_364 : decode code 364 = .ok (.iaload, 1) := by decide +kernel
set_option maxRecDepth 1000000 in
theorem dL_law_365 : decode code 365 = .ok (.aload_n 0, 1) := by decide +kernel
set_option maxRecDepth 1000000 in
theorem dL_law_366 : decode code 366 = .ok (.iload_n 3, 1) := by decide +kernel
set_option maxRecDepth 1000000 in
theorem dL_law_367 : decode code 367 = .ok (.iconst 3, 1) := by decide +kernel
set_option maxRecDepth 1000000 in
theorem dL_law_368 : decode code 368 = .ok (.iadd, 1) := by decide +kernel
set_option maxRecDepth 1000000 in
theorem dL_law_369 : decode code 369 = .ok (.iaload, 1) := by decide +kernel
set_option maxRecDepth 1000000 in
theorem dL_law_370 : decode code 370 = .ok (.aload_n 0, 1) := by decide +kernel
set_option maxRecDepth 1000000 in
theorem dL_law_371 : decode code 371 = .ok (.iload_n 3, 1) := by decide +kernel
set_option maxRecDepth 1000000 in
theorem dL_law_372 : decode code 372 = .ok (.iconst 4, 1) := by decide +kernel
set_option maxRecDepth 1000000 in
theorem dL_law_373 : decode code 373 = .ok (.iadd, 1) := by decide +kernel
set_option maxRecDepth 1000000 in
theorem dL_law_374 : decode code 374 = .ok (.iaload, 1) := by decide +kernel
set_option maxRecDepth 1000000 in
theorem dL_law_375 : decode code 375 = .ok (.aload_n 0, 1) := by decide +kernel
set_option maxRecDepth 1000000 in
theorem dL_law_376 : decode code 376 = .ok (.iload_n 3, 1) := by decide +kernel
set_option maxRecDepth 1000000 in
theorem dL_law_377 : decode code 377 = .ok (.iconst 5, 1) := by decide +kernel
set_option maxRecDepth 1000000 in
theorem dL_law_378 : decode code 378 = .ok (.iadd, 1) := by decide +kernel
set_option maxRecDepth 1000000 in
theorem dL_law_379 : decode code 379 = .ok (.iaload, 1) := by decide +kernel
set_option maxRecDepth 1000000 in
theorem dL_law_380 : decode code 380 = .ok (.invokevirtual 35, 3) := by decide +kernel
set_option maxRecDepth 1000000 in
theorem dL_law_383 : decode code 383 = .ok (.pop, 1) := by decide +kernel
set_option maxRecDepth 1000000 in
theorem dL_law_384 : decode code 384 = .ok (.aload_n 2, 1) := by decide +kernel
set_option maxRecDepth 1000000 in
theorem dL_law_385 : decode code 385 = .ok (.aload_n 0, 1) := by decide +kernel
set_option maxRecDepth 1000000 in
theorem dL_law_386 : decode code 386 = .ok (.iload_n 3, 1) := by decide +kernel
set_option maxRecDepth 1000000 in
theorem dL_law_387 : decode code 387 = .ok (.iconst 1, 1) := by decide +kernel
set_option maxRecDepth 1000000 in
theorem dL_law_388 : decode code 388 = .ok (.iadd, 1) := by decide +kernel
set_option maxRecDepth 1000000 in
theorem dL_law_389 : decode code 389 = .ok (.iaload, 1) := by decide +kernel
set_option maxRecDepth 1000000 in
theorem dL_law_390 : decode code 390 = .ok (.aload_n 0, 1) := by decide +kernel
set_option maxRecDepth 1000000 in
theorem dL_law_391 : decode code 391 = .ok (.iload_n 3, 1) := by decide +kernel
set_option maxRecDepth 1000000 in
theorem dL_law_392 : decode code 392 = .ok (.iconst 2, 1) := by decide +kernel
set_option maxRecDepth 1000000 in
theorem dL_law_393 : decode code 393 = .ok (.iadd, 1) := by decide +kernel
set_option maxRecDepth 1000000 in
theorem dL_law_394 : decode code 394 = .ok (.iaload, 1) := by decide +kernel
set_option maxRecDepth 1000000 in
theorem dL_law_395 : decode code 395 = .ok (.aload_n 0, 1) := by decide +kernel
set_option maxRecDepth 1000000 in
theorem dL_law_396 : decode code 396 = .ok (.iload_n 3, 1) := by decide +kernel
set_option maxRecDepth 1000000 in
theorem dL_law_397 : decode code 397 = .ok (.iconst 3, 1) := by decide +kernel
set_option maxRecDepth 1000000 in
theorem dL_law_398 : decode code 398 = .ok (.iadd, 1) := by decide +kernel
set_option maxRecDepth 1000000 in
theorem dL_law_399 : decode code 399 = .ok (.iaload, 1) := by decide +kernel
set_option maxRecDepth 1000000 in
theorem dL_law_400 : decode code 400 = .ok (.aload_n 0, 1) := by decide +kernel
set_option maxRecDepth 1000000 in
theorem dL_law_401 : decode code 401 = .ok (.iload_n 3, 1) := by decide +kernel
set_option maxRecDepth 1000000 in
theorem dL_law_402 : decode code 402 = .ok (.iconst 4, 1) := by decide +kernel
set_option maxRecDepth 1000000 in
theorem dL_law_403 : decode code 403 = .ok (.iadd, 1) := by decide +kernel
set_option maxRecDepth 1000000 in
theorem dL_law_404 : decode code 404 = .ok (.iaload, 1) := by decide +kernel
set_option maxRecDepth 1000000 in
theorem dL_law_405 : decode code 405 = .ok (.aload_n 0, 1) := by decide +kernel
set_option maxRecDepth 1000000 in
theorem dL_law_406 : decode code 406 = .ok (.iload_n 3, 1) := by decide +kernel
set_option maxRecDepth 1000000 in
theorem dL_law_407 : decode code 407 = .ok (.iconst 5, 1) := by decide +kernel
set_option maxRecDepth 1000000 in
theorem dL_law_408 : decode code 408 = .ok (.iadd, 1) := by decide +kernel
set_option maxRecDepth 1000000 in
theorem dL_law_409 : decode code 409 = .ok (.iaload, 1) := by decide +kernel
set_option maxRecDepth 1000000 in
theorem dL_law_410 : decode code 410 = .ok (.invokevirtual 39, 3) := by decide +kernel
set_option maxRecDepth 1000000 in
theorem dL_law_413 : decode code 413 = .ok (.pop, 1) := by decide +kernel
set_option maxRecDepth 1000000 in
theorem dL_law_414 : decode code 414 = .ok (.goto 1062, 3) := by decide +kernel
set_option maxRecDepth 1000000 in
theorem dL_law_417 : decode code 417 = .ok (.aload_n 1, 1) := by decide +kernel
set_option maxRecDepth 1000000 in
theorem dL_law_418 : decode code 418 = .ok (.aload_n 0, 1) := by decide +kernel
set_option maxRecDepth 1000000 in
theorem dL_law_419 : decode code 419 = .ok (.iload_n 3, 1) := by decide +kernel
set_option maxRecDepth 1000000 in
theorem dL_law_420 : decode code 420 = .ok (.iconst 1, 1) := by decide +kernel
set_option maxRecDepth 1000000 in
theorem dL_law_421 : decode code 421 = .ok (.iadd, 1) := by decide +kernel
set_option maxRecDepth 1000000 in
theorem dL_law_422 : decode code 422 = .ok (.iaload, 1) := by decide +kernel
set_option maxRecDepth 1000000 in
theorem dL_law_423 : decode code 423 = .ok (.i2l, 1) := by decide +kernel
set_option maxRecDepth 1000000 in
theorem dL_law_424 : decode code 424 = .ok (.bipush 32, 2) := by decide +kernel
set_option maxRecDepth 1000000 in
theorem dL_law_426 : decode code 426 = .ok (.lshl, 1) := by decide +kernel
set_option maxRecDepth 1000000 in
theorem dL_law_427 : decode code 427 = .ok (.aload_n 0, 1) := by decide +kernel
set_option maxRecDepth 1000000 in
theorem dL_law_428 : decode code 428 = .ok (.iload_n 3, 1) := by decide +kernel
set_option maxRecDepth 1000000 in
theorem dL_law_429 : decode code 429 = .ok (.iconst 2, 1) := by decide +kernel
set_option maxRecDepth 1000000 in
theorem dL_law_430 : decode code 430 = .ok (.iadd, 1) := by decide +kernel
set_option maxRecDepth 1000000 in
theorem dL_law_431 : decode code 431 = .ok (.iaload, 1) := by decide +kernel
set_option maxRecDepth 1000000 in
theorem dL_law_432 : decode code 432 = .ok (.i2l, 1) := by decide +kernel
set_option maxRecDepth 1000000 in
theorem dL_law_433 : decode code 433 = .ok (.ldc2_w 23, 3) := by decide +kernel
set_option maxRecDepth 1000000 in
theorem dL_law_436 : decode code 436 = .ok (.land, 1) := by decide +kernel
set_option maxRecDepth 1000000 in
theorem dL_law_437 : decode code 437 = .ok (.lor, 1) := by decide +kernel
set_option maxRecDepth 1000000 in
theorem dL_law_438 : decode code 438 = .ok (.aload_n 0, 1) := by decide +kernel
set_option maxRecDepth 1000000 in
theorem dL_law_439 : decode code 439 = .ok (.iload_n 3, 1) := by decide +kernel
set_option maxRecDepth 1000000 in
theorem dL_law_440 : decode code 440 = .ok (.iconst 3, 1) := by decide +kernel
set_option maxRecDepth 1000000 in
theorem dL_law_441 : decode code 441 = .ok (.iadd, 1) := by decide +kernel
set_option maxRecDepth 1000000 in
theorem dL_law_442 : decode code 442 = .ok (.iaload, 1) := by decide +kernel
set_option maxRecDepth 1000000 in
theorem dL_law_443 : decode code 443 = .ok (.invokevirtual 40, 3) := by decide +kernel
set_option maxRecDepth 1000000 in
theorem dL_law_446 : decode code 446 = .ok (.aload_n 2, 1) := by decide +kernel
set_option maxRecDepth 1000000 in
theorem dL_law_447 : decode code 447 = .ok (.aload_n 0, 1) := by decide +kernel
set_option maxRecDepth 1000000 in
theorem dL_law_448 : decode code 448 = .ok (.iload_n 3, 1) := by decide +kernel
set_option maxRecDepth 1000000 in
theorem dL_law_449 : decode code 449 = .ok (.iconst 1, 1) := by decide +kernel
set_option maxRecDepth 1000000 in
theorem dL_law_450 : decode code 450 = .ok (.iadd, 1) := by decide +kernel
set_option maxRecDepth 1000000 in
theorem dL_law_451 : decode code 451 = .ok (.iaload, 1) := by decide +kernel
set_option maxRecDepth 1000000 in
theorem dL_law_452 : decode code 452 = .ok (.i2l, 1) := by decide +kernel
set_option maxRecDepth 1000000 in
theorem dL_law_453 : decode code 453 = .ok (.bipush 32, 2) := by decide +kernel
set_option maxRecDepth 1000000 in
theorem dL_law_455 : decode code 455 = .ok (.lshl, 1) := by decide +kernel
set_option maxRecDepth 1000000 in
theorem dL_law_456 : decode code 456 = .ok (.aload_n 0, 1) := by decide +kernel
set_option maxRecDepth 1000000 in
theorem dL_law_457 : decode code 457 = .ok (.iload_n 3, 1) := by decide +kernel
set_option maxRecDepth 1000000 in
theorem dL_law_458 : decode code 458 = .ok (.iconst 2, 1) := by decide +kernel
set_option maxRecDepth 1000000 in
theorem dL_law_459 : decode code 459 = .ok (.iadd, 1) := by decide +kernel
set_option maxRecDepth 1000000 in
theorem dL_law_460 : decode code 460 = .ok (.iaload, 1) := by decide +kernel
set_option maxRecDepth 1000000 in
theorem dL_law_461 : decode code 461 = .ok (.i2l, 1) := by decide +kernel
set_option maxRecDepth 1000000 in
theorem dL_law_462 : decode code 462 = .ok (.ldc2_w 23, 3) := by decide +kernel
set_option maxRecDepth 1000000 in
theorem dL_law_465 : decode code 465 = .ok (.land, 1) := by decide +kernel
set_option maxRecDepth 1000000 in
theorem dL_law_466 : decode code 466 = .ok (.lor, 1) := by decide +kernel
set_option maxRecDepth 1000000 in
theorem dL_law_467 : decode code 467 = .ok (.aload_n 0, 1) := by decide +kernel
set_option maxRecDepth 1000000 in
theorem dL_law_468 : decode code 468 = .ok (.iload_n 3, 1) := by decide +kernel
set_option maxRecDepth 1000000 in
theorem dL_law_469 : decode code 469 = .ok (.iconst 3, 1) := by decide +kernel
set_option maxRecDepth 1000000 in
theorem dL_law_470 : decode code 470 = .ok (.iadd, 1) := by decide +kernel
set_option maxRecDepth 1000000 in
theorem dL_law_471 : decode code 471 = .ok (.iaload, 1) := by decide +kernel
set_option maxRecDepth 1000000 in
theorem dL_law_472 : decode code 472 = .ok (.invokevirtual 44, 3) := by decide +kernel
set_option maxRecDepth 1000000 in
theorem dL_law_475 : decode code 475 = .ok (.if_icmp .eq 1001, 3) := by decide +kernel
set_option maxRecDepth 1000000 in
theorem dL_law_478 : decode code 478 = .ok (.iconst 0, 1) := by decide +kernel
set_option maxRecDepth 1000000 in
theorem dL_law_479 : decode code 479 = .ok (.ireturn, 1) := by decide +kernel
set_option maxRecDepth 1000000 in
theorem dL_law_480 : decode code 480 = .ok (.aload_n 1, 1) := by decide +kernel
set_option maxRecDepth 1000000 in
theorem dL_law_481 : decode code 481 = .ok (.aload_n 0, 1) := by decide +kernel
set_option maxRecDepth 1000000 in
theorem dL_law_482 : decode code 482 = .ok (.iload_n 3, 1) := by decide +kernel
set_option maxRecDepth 1000000 in
theorem dL_law_483 : decode code 483 = .ok (.iconst 1, 1) := by decide +kernel
set_option maxRecDepth 1000000 in
theorem dL_law_484 : decode code 484 = .ok (.iadd, 1) := by decide +kernel
set_option maxRecDepth 1000000 in
theorem dL_law_485 : decode code 485 = .ok (.iaload, 1) := by decide +kernel
set_option maxRecDepth 1000000 in
theorem dL_law_486 : decode code 486 = .ok (.invokevirtual 45, 3) := by decide +kernel
set_option maxRecDepth 1000000 in
theorem dL_law_489 : decode code 489 = .ok (.pop, 1) := by decide +kernel
set_option maxRecDepth 1000000 in
theorem dL_law_490 : decode code 490 = .ok (.aload_n 2, 1) := by decide +kernel
set_option maxRecDepth 1000000 in
theorem dL_law_491 : decode code 491 = .ok (.aload_n 0, 1) := by decide +kernel
set_option maxRecDepth 1000000 in
theorem dL_law_492 : decode code 492 = .ok (.iload_n 3, 1) := by decide +kernel
set_option maxRecDepth 1000000 in
theorem dL_law_493 : decode code 493 = .ok (.iconst 1, 1) := by decide +kernel
set_option maxRecDepth 1000000 in
theorem dL_law_494 : decode code 494 = .ok (.iadd, 1) := by decide +kernel
set_option maxRecDepth 1000000 in
theorem dL_law_495 : decode code 495 = .ok (.iaload, 1) := by decide +kernel
set_option maxRecDepth 1000000 in
theorem dL_law_496 : decode code 496 = .ok (.invokevirtual 49, 3) := by decide +kernel
set_option maxRecDepth 1000000 in
theorem dL_law_499 : decode code 499 = .ok (.pop, 1) := by decide +kernel
set_option maxRecDepth 1000000 in
theorem dL_law_500 : decode code 500 = .ok (.goto 976, 3) := by decide +kernel
set_option maxRecDepth 1000000 in
theorem dL_law_503 : decode code 503 = .ok (.aload_n 1, 1) := by decide +kernel
