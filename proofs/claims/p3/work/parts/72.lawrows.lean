/-! THE LAW: its rows -/
theorem m190_0 : smI 190 0 = some (.new 7, 3, 0, 6, 11, 0) := by decide +kernel
theorem m190_3 : smI 190 3 = some (.dup, 4, 0, 0, 0, 0) := by decide +kernel
theorem m190_4 : smI 190 4 = some (.invokespecial 9, 7, 10, 53, 0, 0) := by decide +kernel
theorem m190_7 : smI 190 7 = some (.astore_n 1, 8, 0, 0, 0, 0) := by decide +kernel
theorem m190_8 : smI 190 8 = some (.new 10, 11, 0, 7, 25, 0) := by decide +kernel
theorem m190_11 : smI 190 11 = some (.dup, 12, 0, 0, 0, 0) := by decide +kernel
theorem m190_12 : smI 190 12 = some (.invokespecial 12, 15, 10, 106, 0, 0) := by decide +kernel
theorem m190_15 : smI 190 15 = some (.astore_n 2, 16, 0, 0, 0, 0) := by decide +kernel
theorem m190_16 : smI 190 16 = some (.iconst 0, 17, 0, 0, 0, 0) := by decide +kernel
theorem m190_17 : smI 190 17 = some (.istore_n 3, 18, 0, 0, 0, 0) := by decide +kernel
theorem m190_18 : smI 190 18 = some (.iload_n 3, 19, 0, 0, 0, 0) := by decide +kernel
theorem m190_19 : smI 190 19 = some (.aload_n 0, 20, 0, 0, 0, 0) := by decide +kernel
theorem m190_20 : smI 190 20 = some (.arraylength, 21, 0, 0, 0, 0) := by decide +kernel
theorem m190_21 : smI 190 21 = some (.bipush 6, 23, 0, 0, 0, 6) := by decide +kernel
theorem m190_23 : smI 190 23 = some (.isub, 24, 0, 0, 0, 0) := by decide +kernel
theorem m190_24 : smI 190 24 = some (.if_icmp .gt 1410, 27, 0, 1434, 0, 0) := by decide +kernel
theorem m190_27 : smI 190 27 = some (.aload_n 0, 28, 0, 0, 0, 0) := by decide +kernel
theorem m190_28 : smI 190 28 = some (.iload_n 3, 29, 0, 0, 0, 0) := by decide +kernel
theorem m190_29 : smI 190 29 = some (.iaload, 30, 0, 0, 0, 0) := by decide +kernel
theorem m190_30 : smI 190 30 = some (.bipush 63, 32, 0, 0, 0, 63) := by decide +kernel
theorem m190_32 : smI 190 32 = some (.iand, 33, 0, 0, 0, 0) := by decide +kernel
theorem m190_33 : smI 190 33 = some (.tableswitch 1395 0 39 #[175, 208, 231, 254, 297, 330, 373, 406, 439, 502, 525, 578, 601, 624, 637, 680, 703, 716, 749, 782, 815, 838, 871, 904, 937, 960, 1003, 1026, 1069, 1092, 1135, 1178, 1241, 1264, 1287, 1300, 1313, 1336, 1349, 1372], 208, 0, 0, 0, 0) := by decide +kernel
theorem m190_208 : smI 190 208 = some (.aload_n 1, 209, 0, 0, 0, 0) := by decide +kernel
theorem m190_209 : smI 190 209 = some (.aload_n 0, 210, 0, 0, 0, 0) := by decide +kernel
theorem m190_210 : smI 190 210 = some (.iload_n 3, 211, 0, 0, 0, 0) := by decide +kernel
theorem m190_211 : smI 190 211 = some (.iconst 1, 212, 0, 0, 0, 1) := by decide +kernel
theorem m190_212 : smI 190 212 = some (.iadd, 213, 0, 0, 0, 0) := by decide +kernel
theorem m190_213 : smI 190 213 = some (.iaload, 214, 0, 0, 0, 0) := by decide +kernel
theorem m190_214 : smI 190 214 = some (.aload_n 0, 215, 0, 0, 0, 0) := by decide +kernel
theorem m190_215 : smI 190 215 = some (.iload_n 3, 216, 0, 0, 0, 0) := by decide +kernel
theorem m190_216 : smI 190 216 = some (.iconst 2, 217, 0, 0, 0, 2) := by decide +kernel
theorem m190_217 : smI 190 217 = some (.iadd, 218, 0, 0, 0, 0) := by decide +kernel
theorem m190_218 : smI 190 218 = some (.iaload, 219, 0, 0, 0, 0) := by decide +kernel
theorem m190_219 : smI 190 219 = some (.invokevirtual 13, 222, 20, 56, 2, 0) := by decide +kernel
theorem m190_222 : smI 190 222 = some (.pop, 223, 0, 0, 0, 0) := by decide +kernel
theorem m190_223 : smI 190 223 = some (.aload_n 2, 224, 0, 0, 0, 0) := by decide +kernel
theorem m190_224 : smI 190 224 = some (.aload_n 0, 225, 0, 0, 0, 0) := by decide +kernel
theorem m190_225 : smI 190 225 = some (.iload_n 3, 226, 0, 0, 0, 0) := by decide +kernel
theorem m190_226 : smI 190 226 = some (.iconst 1, 227, 0, 0, 0, 1) := by decide +kernel
theorem m190_227 : smI 190 227 = some (.iadd, 228, 0, 0, 0, 0) := by decide +kernel
theorem m190_228 : smI 190 228 = some (.iaload, 229, 0, 0, 0, 0) := by decide +kernel
theorem m190_229 : smI 190 229 = some (.aload_n 0, 230, 0, 0, 0, 0) := by decide +kernel
theorem m190_230 : smI 190 230 = some (.iload_n 3, 231, 0, 0, 0, 0) := by decide +kernel
theorem m190_231 : smI 190 231 = some (.iconst 2, 232, 0, 0, 0, 2) := by decide +kernel
theorem m190_232 : smI 190 232 = some (.iadd, 233, 0, 0, 0, 0) := by decide +kernel
theorem m190_233 : smI 190 233 = some (.iaload, 234, 0, 0, 0, 0) := by decide +kernel
theorem m190_234 : smI 190 234 = some (.invokevirtual 17, 237, 20, 115, 2, 0) := by decide +kernel
theorem m190_237 : smI 190 237 = some (.pop, 238, 0, 0, 0, 0) := by decide +kernel
theorem m190_238 : smI 190 238 = some (.goto 1190, 241, 0, 1428, 0, 0) := by decide +kernel
theorem m190_241 : smI 190 241 = some (.aload_n 1, 242, 0, 0, 0, 0) := by decide +kernel
theorem m190_242 : smI 190 242 = some (.aload_n 0, 243, 0, 0, 0, 0) := by decide +kernel
theorem m190_243 : smI 190 243 = some (.iload_n 3, 244, 0, 0, 0, 0) := by decide +kernel
theorem m190_244 : smI 190 244 = some (.iconst 1, 245, 0, 0, 0, 1) := by decide +kernel
theorem m190_245 : smI 190 245 = some (.iadd, 246, 0, 0, 0, 0) := by decide +kernel
theorem m190_246 : smI 190 246 = some (.iaload, 247, 0, 0, 0, 0) := by decide +kernel
theorem m190_247 : smI 190 247 = some (.invokevirtual 18, 250, 20, 57, 1, 0) := by decide +kernel
theorem m190_250 : smI 190 250 = some (.aload_n 2, 251, 0, 0, 0, 0) := by decide +kernel
theorem m190_251 : smI 190 251 = some (.aload_n 0, 252, 0, 0, 0, 0) := by decide +kernel
theorem m190_252 : smI 190 252 = some (.iload_n 3, 253, 0, 0, 0, 0) := by decide +kernel
theorem m190_253 : smI 190 253 = some (.iconst 1, 254, 0, 0, 0, 1) := by decide +kernel
theorem m190_254 : smI 190 254 = some (.iadd, 255, 0, 0, 0, 0) := by decide +kernel
theorem m190_255 : smI 190 255 = some (.iaload, 256, 0, 0, 0, 0) := by decide +kernel
theorem m190_256 : smI 190 256 = some (.invokevirtual 22, 259, 20, 116, 1, 0) := by decide +kernel
theorem m190_259 : smI 190 259 = some (.if_icmp .eq 1169, 262, 0, 1428, 0, 0) := by decide +kernel
theorem m190_262 : smI 190 262 = some (.iconst 0, 263, 0, 0, 0, 0) := by decide +kernel
theorem m190_263 : smI 190 263 = some (.ireturn, 264, 0, 0, 0, 0) := by decide +kernel
theorem m190_264 : smI 190 264 = some (.aload_n 1, 265, 0, 0, 0, 0) := by decide +kernel
theorem m190_265 : smI 190 265 = some (.aload_n 0, 266, 0, 0, 0, 0) := by decide +kernel
theorem m190_266 : smI 190 266 = some (.iload_n 3, 267, 0, 0, 0, 0) := by decide +kernel
theorem m190_267 : smI 190 267 = some (.iconst 1, 268, 0, 0, 0, 1) := by decide +kernel
theorem m190_268 : smI 190 268 = some (.iadd, 269, 0, 0, 0, 0) := by decide +kernel
theorem m190_269 : smI 190 269 = some (.iaload, 270, 0, 0, 0, 0) := by decide +kernel
theorem m190_270 : smI 190 270 = some (.invokevirtual 23, 273, 20, 58, 1, 0) := by decide +kernel
theorem m190_273 : smI 190 273 = some (.pop, 274, 0, 0, 0, 0) := by decide +kernel
theorem m190_274 : smI 190 274 = some (.aload_n 2, 275, 0, 0, 0, 0) := by decide +kernel
theorem m190_275 : smI 190 275 = some (.aload_n 0, 276, 0, 0, 0, 0) := by decide +kernel
theorem m190_276 : smI 190 276 = some (.iload_n 3, 277, 0, 0, 0, 0) := by decide +kernel
theorem m190_277 : smI 190 277 = some (.iconst 1, 278, 0, 0, 0, 1) := by decide +kernel
theorem m190_278 : smI 190 278 = some (.iadd, 279, 0, 0, 0, 0) := by decide +kernel
theorem m190_279 : smI 190 279 = some (.iaload, 280, 0, 0, 0, 0) := by decide +kernel
theorem m190_280 : smI 190 280 = some (.invokevirtual 26, 283, 20, 117, 1, 0) := by decide +kernel
theorem m190_283 : smI 190 283 = some (.pop, 284, 0, 0, 0, 0) := by decide +kernel
theorem m190_284 : smI 190 284 = some (.goto 1144, 287, 0, 1428, 0, 0) := by decide +kernel
theorem m190_287 : smI 190 287 = some (.aload_n 1, 288, 0, 0, 0, 0) := by decide +kernel
theorem m190_288 : smI 190 288 = some (.aload_n 0, 289, 0, 0, 0, 0) := by decide +kernel
theorem m190_289 : smI 190 289 = some (.iload_n 3, 290, 0, 0, 0, 0) := by decide +kernel
theorem m190_290 : smI 190 290 = some (.iconst 1, 291, 0, 0, 0, 1) := by decide +kernel
theorem m190_291 : smI 190 291 = some (.iadd, 292, 0, 0, 0, 0) := by decide +kernel
theorem m190_292 : smI 190 292 = some (.iaload, 293, 0, 0, 0, 0) := by decide +kernel
theorem m190_293 : smI 190 293 = some (.aload_n 0, 294, 0, 0, 0, 0) := by decide +kernel
theorem m190_294 : smI 190 294 = some (.iload_n 3, 295, 0, 0, 0, 0) := by decide +kernel
theorem m190_295 : smI 190 295 = some (.iconst 2, 296, 0, 0, 0, 2) := by decide +kernel
theorem m190_296 : smI 190 296 = some (.iadd, 297, 0, 0, 0, 0) := by decide +kernel
theorem m190_297 : smI 190 297 = some (.iaload, 298, 0, 0, 0, 0) := by decide +kernel
theorem m190_298 : smI 190 298 = some (.aload_n 0, 299, 0, 0, 0, 0) := by decide +kernel
theorem m190_299 : smI 190 299 = some (.iload_n 3, 300, 0, 0, 0, 0) := by decide +kernel
theorem m190_300 : smI 190 300 = some (.iconst 3, 301, 0, 0, 0, 3) := by decide +kernel
theorem m190_301 : smI 190 301 = some (.iadd, 302, 0, 0, 0, 0) := by decide +kernel
theorem m190_302 : smI 190 302 = some (.iaload, 303, 0, 0, 0, 0) := by decide +kernel
theorem m190_303 : smI 190 303 = some (.invokevirtual 27, 306, 20, 59, 3, 0) := by decide +kernel
theorem m190_306 : smI 190 306 = some (.pop, 307, 0, 0, 0, 0) := by decide +kernel
theorem m190_307 : smI 190 307 = some (.aload_n 2, 308, 0, 0, 0, 0) := by decide +kernel
theorem m190_308 : smI 190 308 = some (.aload_n 0, 309, 0, 0, 0, 0) := by decide +kernel
theorem m190_309 : smI 190 309 = some (.iload_n 3, 310, 0, 0, 0, 0) := by decide +kernel
theorem m190_310 : smI 190 310 = some (.iconst 1, 311, 0, 0, 0, 1) := by decide +kernel
theorem m190_311 : smI 190 311 = some (.iadd, 312, 0, 0, 0, 0) := by decide +kernel
theorem m190_312 : smI 190 312 = some (.iaload, 313, 0, 0, 0, 0) := by decide +kernel
theorem m190_313 : smI 190 313 = some (.aload_n 0, 314, 0, 0, 0, 0) := by decide +kernel
theorem m190_314 : smI 190 314 = some (.iload_n 3, 315, 0, 0, 0, 0) := by decide +kernel
theorem m190_315 : smI 190 315 = some (.iconst 2, 316, 0, 0, 0, 2) := by decide +kernel
theorem m190_316 : smI 190 316 = some (.iadd, 317, 0, 0, 0, 0) := by decide +kernel
theorem m190_317 : smI 190 317 = some (.iaload, 318, 0, 0, 0, 0) := by decide +kernel
theorem m190_318 : smI 190 318 = some (.aload_n 0, 319, 0, 0, 0, 0) := by decide +kernel
theorem m190_319 : smI 190 319 = some (.iload_n 3, 320, 0, 0, 0, 0) := by decide +kernel
theorem m190_320 : smI 190 320 = some (.iconst 3, 321, 0, 0, 0, 3) := by decide +kernel
theorem m190_321 : smI 190 321 = some (.iadd, 322, 0, 0, 0, 0) := by decide +kernel
theorem m190_322 : smI 190 322 = some (.iaload, 323, 0, 0, 0, 0) := by decide +kernel
theorem m190_323 : smI 190 323 = some (.invokevirtual 31, 326, 20, 118, 3, 0) := by decide +kernel
theorem m190_326 : smI 190 326 = some (.pop, 327, 0, 0, 0, 0) := by decide +kernel
theorem m190_327 : smI 190 327 = some (.goto 1101, 330, 0, 1428, 0, 0) := by decide +kernel
theorem m190_330 : smI 190 330 = some (.aload_n 1, 331, 0, 0, 0, 0) := by decide +kernel
theorem m190_331 : smI 190 331 = some (.aload_n 0, 332, 0, 0, 0, 0) := by decide +kernel
theorem m190_332 : smI 190 332 = some (.iload_n 3, 333, 0, 0, 0, 0) := by decide +kernel
theorem m190_333 : smI 190 333 = some (.iconst 1, 334, 0, 0, 0, 1) := by decide +kernel
theorem m190_334 : smI 190 334 = some (.iadd, 335, 0, 0, 0, 0) := by decide +kernel
theorem m190_335 : smI 190 335 = some (.iaload, 336, 0, 0, 0, 0) := by decide +kernel
theorem m190_336 : smI 190 336 = some (.aload_n 0, 337, 0, 0, 0, 0) := by decide +kernel
theorem m190_337 : smI 190 337 = some (.iload_n 3, 338, 0, 0, 0, 0) := by decide +kernel
theorem m190_338 : smI 190 338 = some (.iconst 2, 339, 0, 0, 0, 2) := by decide +kernel
theorem m190_339 : smI 190 339 = some (.iadd, 340, 0, 0, 0, 0) := by decide +kernel
theorem m190_340 : smI 190 340 = some (.iaload, 341, 0, 0, 0, 0) := by decide +kernel
theorem m190_341 : smI 190 341 = some (.invokevirtual 32, 344, 20, 61, 2, 0) := by decide +kernel
theorem m190_344 : smI 190 344 = some (.pop, 345, 0, 0, 0, 0) := by decide +kernel
theorem m190_345 : smI 190 345 = some (.aload_n 2, 346, 0, 0, 0, 0) := by decide +kernel
theorem m190_346 : smI 190 346 = some (.aload_n 0, 347, 0, 0, 0, 0) := by decide +kernel
theorem m190_347 : smI 190 347 = some (.iload_n 3, 348, 0, 0, 0, 0) := by decide +kernel
theorem m190_348 : smI 190 348 = some (.iconst 1, 349, 0, 0, 0, 1) := by decide +kernel
theorem m190_349 : smI 190 349 = some (.iadd, 350, 0, 0, 0, 0) := by decide +kernel
theorem m190_350 : smI 190 350 = some (.iaload, 351, 0, 0, 0, 0) := by decide +kernel
theorem m190_351 : smI 190 351 = some (.aload_n 0, 352, 0, 0, 0, 0) := by decide +kernel
theorem m190_352 : smI 190 352 = some (.iload_n 3, 353, 0, 0, 0, 0) := by decide +kernel
theorem m190_353 : smI 190 353 = some (.iconst 2, 354, 0, 0, 0, 2) := by decide +kernel
theorem m190_354 : smI 190 354 = some (.iadd, 355, 0, 0, 0, 0) := by decide +kernel
theorem m190_355 : smI 190 355 = some (.iaload, 356, 0, 0, 0, 0) := by decide +kernel
theorem m190_356 : smI 190 356 = some (.invokevirtual 35, 359, 20, 133, 2, 0) := by decide +kernel
theorem m190_359 : smI 190 359 = some (.pop, 360, 0, 0, 0, 0) := by decide +kernel
theorem m190_360 : smI 190 360 = some (.goto 1068, 363, 0, 1428, 0, 0) := by decide +kernel
theorem m190_363 : smI 190 363 = some (.aload_n 1, 364, 0, 0, 0, 0) := by decide +kernel
theorem m190_364 : smI 190 364 = some (.aload_n 0, 365, 0, 0, 0, 0) := by decide +kernel
theorem m190_365 : smI 190 365 = some (.iload_n 3, 366, 0, 0, 0, 0) := by decide +kernel
theorem m190_366 : smI 190 366 = some (.iconst 1, 367, 0, 0, 0, 1) := by decide +kernel
theorem m190_367 : smI 190 367 = some (.iadd, 368, 0, 0, 0, 0) := by decide +kernel
theorem m190_368 : smI 190 368 = some (.iaload, 369, 0, 0, 0, 0) := by decide +kernel
theorem m190_369 : smI 190 369 = some (.aload_n 0, 370, 0, 0, 0, 0) := by decide +kernel
theorem m190_370 : smI 190 370 = some (.iload_n 3, 371, 0, 0, 0, 0) := by decide +kernel
theorem m190_371 : smI 190 371 = some (.iconst 2, 372, 0, 0, 0, 2) := by decide +kernel
theorem m190_372 : smI 190 372 = some (.iadd, 373, 0, 0, 0, 0) := by decide +kernel
theorem m190_373 : smI 190 373 = some (.iaload, 374, 0, 0, 0, 0) := by decide +kernel
theorem m190_374 : smI 190 374 = some (.aload_n 0, 375, 0, 0, 0, 0) := by decide +kernel
theorem m190_375 : smI 190 375 = some (.iload_n 3, 376, 0, 0, 0, 0) := by decide +kernel
theorem m190_376 : smI 190 376 = some (.iconst 3, 377, 0, 0, 0, 3) := by decide +kernel
theorem m190_377 : smI 190 377 = some (.iadd, 378, 0, 0, 0, 0) := by decide +kernel
theorem m190_378 : smI 190 378 = some (.iaload, 379, 0, 0, 0, 0) := by decide +kernel
theorem m190_379 : smI 190 379 = some (.invokevirtual 36, 382, 20, 63, 3, 0) := by decide +kernel
theorem m190_382 : smI 190 382 = some (.pop, 383, 0, 0, 0, 0) := by decide +kernel
theorem m190_383 : smI 190 383 = some (.aload_n 2, 384, 0, 0, 0, 0) := by decide +kernel
theorem m190_384 : smI 190 384 = some (.aload_n 0, 385, 0, 0, 0, 0) := by decide +kernel
theorem m190_385 : smI 190 385 = some (.iload_n 3, 386, 0, 0, 0, 0) := by decide +kernel
theorem m190_386 : smI 190 386 = some (.iconst 1, 387, 0, 0, 0, 1) := by decide +kernel
theorem m190_387 : smI 190 387 = some (.iadd, 388, 0, 0, 0, 0) := by decide +kernel
theorem m190_388 : smI 190 388 = some (.iaload, 389, 0, 0, 0, 0) := by decide +kernel
theorem m190_389 : smI 190 389 = some (.aload_n 0, 390, 0, 0, 0, 0) := by decide +kernel
theorem m190_390 : smI 190 390 = some (.iload_n 3, 391, 0, 0, 0, 0) := by decide +kernel
theorem m190_391 : smI 190 391 = some (.iconst 2, 392, 0, 0, 0, 2) := by decide +kernel
theorem m190_392 : smI 190 392 = some (.iadd, 393, 0, 0, 0, 0) := by decide +kernel
theorem m190_393 : smI 190 393 = some (.iaload, 394, 0, 0, 0, 0) := by decide +kernel
theorem m190_394 : smI 190 394 = some (.aload_n 0, 395, 0, 0, 0, 0) := by decide +kernel
theorem m190_395 : smI 190 395 = some (.iload_n 3, 396, 0, 0, 0, 0) := by decide +kernel
theorem m190_396 : smI 190 396 = some (.iconst 3, 397, 0, 0, 0, 3) := by decide +kernel
theorem m190_397 : smI 190 397 = some (.iadd, 398, 0, 0, 0, 0) := by decide +kernel
theorem m190_398 : smI 190 398 = some (.iaload, 399, 0, 0, 0, 0) := by decide +kernel
theorem m190_399 : smI 190 399 = some (.invokevirtual 39, 402, 20, 134, 3, 0) := by decide +kernel
theorem m190_402 : smI 190 402 = some (.pop, 403, 0, 0, 0, 0) := by decide +kernel
theorem m190_403 : smI 190 403 = some (.goto 1025, 406, 0, 1428, 0, 0) := by decide +kernel
theorem m190_406 : smI 190 406 = some (.aload_n 1, 407, 0, 0, 0, 0) := by decide +kernel
theorem m190_407 : smI 190 407 = some (.aload_n 0, 408, 0, 0, 0, 0) := by decide +kernel
theorem m190_408 : smI 190 408 = some (.iload_n 3, 409, 0, 0, 0, 0) := by decide +kernel
theorem m190_409 : smI 190 409 = some (.iconst 1, 410, 0, 0, 0, 1) := by decide +kernel
theorem m190_410 : smI 190 410 = some (.iadd, 411, 0, 0, 0, 0) := by decide +kernel
theorem m190_411 : smI 190 411 = some (.iaload, 412, 0, 0, 0, 0) := by decide +kernel
theorem m190_412 : smI 190 412 = some (.aload_n 0, 413, 0, 0, 0, 0) := by decide +kernel
theorem m190_413 : smI 190 413 = some (.iload_n 3, 414, 0, 0, 0, 0) := by decide +kernel
theorem m190_414 : smI 190 414 = some (.iconst 2, 415, 0, 0, 0, 2) := by decide +kernel
theorem m190_415 : smI 190 415 = some (.iadd, 416, 0, 0, 0, 0) := by decide +kernel
theorem m190_416 : smI 190 416 = some (.iaload, 417, 0, 0, 0, 0) := by decide +kernel
theorem m190_417 : smI 190 417 = some (.invokevirtual 40, 420, 20, 64, 2, 0) := by decide +kernel
theorem m190_420 : smI 190 420 = some (.pop, 421, 0, 0, 0, 0) := by decide +kernel
theorem m190_421 : smI 190 421 = some (.aload_n 2, 422, 0, 0, 0, 0) := by decide +kernel
theorem m190_422 : smI 190 422 = some (.aload_n 0, 423, 0, 0, 0, 0) := by decide +kernel
theorem m190_423 : smI 190 423 = some (.iload_n 3, 424, 0, 0, 0, 0) := by decide +kernel
theorem m190_424 : smI 190 424 = some (.iconst 1, 425, 0, 0, 0, 1) := by decide +kernel
theorem m190_425 : smI 190 425 = some (.iadd, 426, 0, 0, 0, 0) := by decide +kernel
theorem m190_426 : smI 190 426 = some (.iaload, 427, 0, 0, 0, 0) := by decide +kernel
theorem m190_427 : smI 190 427 = some (.aload_n 0, 428, 0, 0, 0, 0) := by decide +kernel
theorem m190_428 : smI 190 428 = some (.iload_n 3, 429, 0, 0, 0, 0) := by decide +kernel
theorem m190_429 : smI 190 429 = some (.iconst 2, 430, 0, 0, 0, 2) := by decide +kernel
theorem m190_430 : smI 190 430 = some (.iadd, 431, 0, 0, 0, 0) := by decide +kernel
theorem m190_431 : smI 190 431 = some (.iaload, 432, 0, 0, 0, 0) := by decide +kernel
theorem m190_432 : smI 190 432 = some (.invokevirtual 43, 435, 20, 135, 2, 0) := by decide +kernel
theorem m190_435 : smI 190 435 = some (.pop, 436, 0, 0, 0, 0) := by decide +kernel
theorem m190_436 : smI 190 436 = some (.goto 992, 439, 0, 1428, 0, 0) := by decide +kernel
theorem m190_439 : smI 190 439 = some (.aload_n 1, 440, 0, 0, 0, 0) := by decide +kernel
theorem m190_440 : smI 190 440 = some (.aload_n 0, 441, 0, 0, 0, 0) := by decide +kernel
theorem m190_441 : smI 190 441 = some (.iload_n 3, 442, 0, 0, 0, 0) := by decide +kernel
theorem m190_442 : smI 190 442 = some (.iconst 1, 443, 0, 0, 0, 1) := by decide +kernel
theorem m190_443 : smI 190 443 = some (.iadd, 444, 0, 0, 0, 0) := by decide +kernel
theorem m190_444 : smI 190 444 = some (.iaload, 445, 0, 0, 0, 0) := by decide +kernel
theorem m190_445 : smI 190 445 = some (.aload_n 0, 446, 0, 0, 0, 0) := by decide +kernel
theorem m190_446 : smI 190 446 = some (.iload_n 3, 447, 0, 0, 0, 0) := by decide +kernel
theorem m190_447 : smI 190 447 = some (.iconst 2, 448, 0, 0, 0, 2) := by decide +kernel
theorem m190_448 : smI 190 448 = some (.iadd, 449, 0, 0, 0, 0) := by decide +kernel
theorem m190_449 : smI 190 449 = some (.iaload, 450, 0, 0, 0, 0) := by decide +kernel
theorem m190_450 : smI 190 450 = some (.invokevirtual 44, 453, 20, 66, 2, 0) := by decide +kernel
theorem m190_453 : smI 190 453 = some (.pop, 454, 0, 0, 0, 0) := by decide +kernel
theorem m190_454 : smI 190 454 = some (.aload_n 2, 455, 0, 0, 0, 0) := by decide +kernel
theorem m190_455 : smI 190 455 = some (.aload_n 0, 456, 0, 0, 0, 0) := by decide +kernel
theorem m190_456 : smI 190 456 = some (.iload_n 3, 457, 0, 0, 0, 0) := by decide +kernel
theorem m190_457 : smI 190 457 = some (.iconst 1, 458, 0, 0, 0, 1) := by decide +kernel
theorem m190_458 : smI 190 458 = some (.iadd, 459, 0, 0, 0, 0) := by decide +kernel
theorem m190_459 : smI 190 459 = some (.iaload, 460, 0, 0, 0, 0) := by decide +kernel
theorem m190_460 : smI 190 460 = some (.aload_n 0, 461, 0, 0, 0, 0) := by decide +kernel
theorem m190_461 : smI 190 461 = some (.iload_n 3, 462, 0, 0, 0, 0) := by decide +kernel
theorem m190_462 : smI 190 462 = some (.iconst 2, 463, 0, 0, 0, 2) := by decide +kernel
theorem m190_463 : smI 190 463 = some (.iadd, 464, 0, 0, 0, 0) := by decide +kernel
theorem m190_464 : smI 190 464 = some (.iaload, 465, 0, 0, 0, 0) := by decide +kernel
theorem m190_465 : smI 190 465 = some (.invokevirtual 47, 468, 20, 137, 2, 0) := by decide +kernel
theorem m190_468 : smI 190 468 = some (.pop, 469, 0, 0, 0, 0) := by decide +kernel
theorem m190_469 : smI 190 469 = some (.goto 959, 472, 0, 1428, 0, 0) := by decide +kernel
theorem m190_472 : smI 190 472 = some (.aload_n 1, 473, 0, 0, 0, 0) := by decide +kernel
theorem m190_473 : smI 190 473 = some (.aload_n 0, 474, 0, 0, 0, 0) := by decide +kernel
theorem m190_474 : smI 190 474 = some (.iload_n 3, 475, 0, 0, 0, 0) := by decide +kernel
theorem m190_475 : smI 190 475 = some (.iconst 1, 476, 0, 0, 0, 1) := by decide +kernel
theorem m190_476 : smI 190 476 = some (.iadd, 477, 0, 0, 0, 0) := by decide +kernel
theorem m190_477 : smI 190 477 = some (.iaload, 478, 0, 0, 0, 0) := by decide +kernel
theorem m190_478 : smI 190 478 = some (.i2l, 479, 0, 0, 0, 0) := by decide +kernel
theorem m190_479 : smI 190 479 = some (.bipush 32, 481, 0, 0, 0, 32) := by decide +kernel
theorem m190_481 : smI 190 481 = some (.lshl, 482, 0, 0, 0, 0) := by decide +kernel
theorem m190_482 : smI 190 482 = some (.aload_n 0, 483, 0, 0, 0, 0) := by decide +kernel
theorem m190_483 : smI 190 483 = some (.iload_n 3, 484, 0, 0, 0, 0) := by decide +kernel
theorem m190_484 : smI 190 484 = some (.iconst 2, 485, 0, 0, 0, 2) := by decide +kernel
theorem m190_485 : smI 190 485 = some (.iadd, 486, 0, 0, 0, 0) := by decide +kernel
theorem m190_486 : smI 190 486 = some (.iaload, 487, 0, 0, 0, 0) := by decide +kernel
theorem m190_487 : smI 190 487 = some (.i2l, 488, 0, 0, 0, 0) := by decide +kernel
theorem m190_488 : smI 190 488 = some (.ldc2_w 48, 491, 0, 4294967295, 0, 0) := by decide +kernel
theorem m190_491 : smI 190 491 = some (.land, 492, 0, 0, 0, 0) := by decide +kernel
theorem m190_492 : smI 190 492 = some (.lor, 493, 0, 0, 0, 0) := by decide +kernel
theorem m190_493 : smI 190 493 = some (.aload_n 0, 494, 0, 0, 0, 0) := by decide +kernel
theorem m190_494 : smI 190 494 = some (.iload_n 3, 495, 0, 0, 0, 0) := by decide +kernel
theorem m190_495 : smI 190 495 = some (.iconst 3, 496, 0, 0, 0, 3) := by decide +kernel
theorem m190_496 : smI 190 496 = some (.iadd, 497, 0, 0, 0, 0) := by decide +kernel
theorem m190_497 : smI 190 497 = some (.iaload, 498, 0, 0, 0, 0) := by decide +kernel
theorem m190_498 : smI 190 498 = some (.invokevirtual 50, 501, 20, 67, 2, 0) := by decide +kernel
theorem m190_501 : smI 190 501 = some (.pop, 502, 0, 0, 0, 0) := by decide +kernel
theorem m190_502 : smI 190 502 = some (.aload_n 2, 503, 0, 0, 0, 0) := by decide +kernel
theorem m190_503 : smI 190 503 = some (.aload_n 0, 504, 0, 0, 0, 0) := by decide +kernel
theorem m190_504 : smI 190 504 = some (.iload_n 3, 505, 0, 0, 0, 0) := by decide +kernel
theorem m190_505 : smI 190 505 = some (.iconst 1, 506, 0, 0, 0, 1) := by decide +kernel
theorem m190_506 : smI 190 506 = some (.iadd, 507, 0, 0, 0, 0) := by decide +kernel
theorem m190_507 : smI 190 507 = some (.iaload, 508, 0, 0, 0, 0) := by decide +kernel
theorem m190_508 : smI 190 508 = some (.i2l, 509, 0, 0, 0, 0) := by decide +kernel
theorem m190_509 : smI 190 509 = some (.bipush 32, 511, 0, 0, 0, 32) := by decide +kernel
theorem m190_511 : smI 190 511 = some (.lshl, 512, 0, 0, 0, 0) := by decide +kernel
theorem m190_512 : smI 190 512 = some (.aload_n 0, 513, 0, 0, 0, 0) := by decide +kernel
theorem m190_513 : smI 190 513 = some (.iload_n 3, 514, 0, 0, 0, 0) := by decide +kernel
theorem m190_514 : smI 190 514 = some (.iconst 2, 515, 0, 0, 0, 2) := by decide +kernel
theorem m190_515 : smI 190 515 = some (.iadd, 516, 0, 0, 0, 0) := by decide +kernel
theorem m190_516 : smI 190 516 = some (.iaload, 517, 0, 0, 0, 0) := by decide +kernel
theorem m190_517 : smI 190 517 = some (.i2l, 518, 0, 0, 0, 0) := by decide +kernel
theorem m190_518 : smI 190 518 = some (.ldc2_w 48, 521, 0, 4294967295, 0, 0) := by decide +kernel
theorem m190_521 : smI 190 521 = some (.land, 522, 0, 0, 0, 0) := by decide +kernel
theorem m190_522 : smI 190 522 = some (.lor, 523, 0, 0, 0, 0) := by decide +kernel
theorem m190_523 : smI 190 523 = some (.aload_n 0, 524, 0, 0, 0, 0) := by decide +kernel
theorem m190_524 : smI 190 524 = some (.iload_n 3, 525, 0, 0, 0, 0) := by decide +kernel
theorem m190_525 : smI 190 525 = some (.iconst 3, 526, 0, 0, 0, 3) := by decide +kernel
theorem m190_526 : smI 190 526 = some (.iadd, 527, 0, 0, 0, 0) := by decide +kernel
theorem m190_527 : smI 190 527 = some (.iaload, 528, 0, 0, 0, 0) := by decide +kernel
theorem m190_528 : smI 190 528 = some (.invokevirtual 54, 531, 20, 139, 2, 0) := by decide +kernel
theorem m190_531 : smI 190 531 = some (.pop, 532, 0, 0, 0, 0) := by decide +kernel
theorem m190_532 : smI 190 532 = some (.goto 896, 535, 0, 1428, 0, 0) := by decide +kernel
theorem m190_535 : smI 190 535 = some (.aload_n 1, 536, 0, 0, 0, 0) := by decide +kernel
theorem m190_536 : smI 190 536 = some (.aload_n 0, 537, 0, 0, 0, 0) := by decide +kernel
theorem m190_537 : smI 190 537 = some (.iload_n 3, 538, 0, 0, 0, 0) := by decide +kernel
theorem m190_538 : smI 190 538 = some (.iconst 1, 539, 0, 0, 0, 1) := by decide +kernel
theorem m190_539 : smI 190 539 = some (.iadd, 540, 0, 0, 0, 0) := by decide +kernel
theorem m190_540 : smI 190 540 = some (.iaload, 541, 0, 0, 0, 0) := by decide +kernel
theorem m190_541 : smI 190 541 = some (.invokevirtual 55, 544, 20, 68, 1, 0) := by decide +kernel
theorem m190_544 : smI 190 544 = some (.pop, 545, 0, 0, 0, 0) := by decide +kernel
theorem m190_545 : smI 190 545 = some (.aload_n 2, 546, 0, 0, 0, 0) := by decide +kernel
theorem m190_546 : smI 190 546 = some (.aload_n 0, 547, 0, 0, 0, 0) := by decide +kernel
theorem m190_547 : smI 190 547 = some (.iload_n 3, 548, 0, 0, 0, 0) := by decide +kernel
theorem m190_548 : smI 190 548 = some (.iconst 1, 549, 0, 0, 0, 1) := by decide +kernel
theorem m190_549 : smI 190 549 = some (.iadd, 550, 0, 0, 0, 0) := by decide +kernel
theorem m190_550 : smI 190 550 = some (.iaload, 551, 0, 0, 0, 0) := by decide +kernel
theorem m190_551 : smI 190 551 = some (.invokevirtual 58, 554, 20, 140, 1, 0) := by decide +kernel
theorem m190_554 : smI 190 554 = some (.pop, 555, 0, 0, 0, 0) := by decide +kernel
theorem m190_555 : smI 190 555 = some (.goto 873, 558, 0, 1428, 0, 0) := by decide +kernel
theorem m190_558 : smI 190 558 = some (.aload_n 1, 559, 0, 0, 0, 0) := by decide +kernel
theorem m190_559 : smI 190 559 = some (.aload_n 0, 560, 0, 0, 0, 0) := by decide +kernel
theorem m190_560 : smI 190 560 = some (.iload_n 3, 561, 0, 0, 0, 0) := by decide +kernel
theorem m190_561 : smI 190 561 = some (.iconst 1, 562, 0, 0, 0, 1) := by decide +kernel
theorem m190_562 : smI 190 562 = some (.iadd, 563, 0, 0, 0, 0) := by decide +kernel
theorem m190_563 : smI 190 563 = some (.iaload, 564, 0, 0, 0, 0) := by decide +kernel
theorem m190_564 : smI 190 564 = some (.aload_n 0, 565, 0, 0, 0, 0) := by decide +kernel
theorem m190_565 : smI 190 565 = some (.iload_n 3, 566, 0, 0, 0, 0) := by decide +kernel
theorem m190_566 : smI 190 566 = some (.iconst 2, 567, 0, 0, 0, 2) := by decide +kernel
theorem m190_567 : smI 190 567 = some (.iadd, 568, 0, 0, 0, 0) := by decide +kernel
theorem m190_568 : smI 190 568 = some (.iaload, 569, 0, 0, 0, 0) := by decide +kernel
theorem m190_569 : smI 190 569 = some (.aload_n 0, 570, 0, 0, 0, 0) := by decide +kernel
theorem m190_570 : smI 190 570 = some (.iload_n 3, 571, 0, 0, 0, 0) := by decide +kernel
theorem m190_571 : smI 190 571 = some (.iconst 3, 572, 0, 0, 0, 3) := by decide +kernel
theorem m190_572 : smI 190 572 = some (.iadd, 573, 0, 0, 0, 0) := by decide +kernel
theorem m190_573 : smI 190 573 = some (.iaload, 574, 0, 0, 0, 0) := by decide +kernel
theorem m190_574 : smI 190 574 = some (.aload_n 0, 575, 0, 0, 0, 0) := by decide +kernel
theorem m190_575 : smI 190 575 = some (.iload_n 3, 576, 0, 0, 0, 0) := by decide +kernel
theorem m190_576 : smI 190 576 = some (.iconst 4, 577, 0, 0, 0, 4) := by decide +kernel
theorem m190_577 : smI 190 577 = some (.iadd, 578, 0, 0, 0, 0) := by decide +kernel
theorem m190_578 : smI 190 578 = some (.iaload, 579, 0, 0, 0, 0) := by decide +kernel
theorem m190_579 : smI 190 579 = some (.invokevirtual 59, 582, 20, 69, 4, 0) := by decide +kernel
theorem m190_582 : smI 190 582 = some (.pop, 583, 0, 0, 0, 0) := by decide +kernel
theorem m190_583 : smI 190 583 = some (.aload_n 2, 584, 0, 0, 0, 0) := by decide +kernel
theorem m190_584 : smI 190 584 = some (.aload_n 0, 585, 0, 0, 0, 0) := by decide +kernel
theorem m190_585 : smI 190 585 = some (.iload_n 3, 586, 0, 0, 0, 0) := by decide +kernel
theorem m190_586 : smI 190 586 = some (.iconst 1, 587, 0, 0, 0, 1) := by decide +kernel
theorem m190_587 : smI 190 587 = some (.iadd, 588, 0, 0, 0, 0) := by decide +kernel
theorem m190_588 : smI 190 588 = some (.iaload, 589, 0, 0, 0, 0) := by decide +kernel
theorem m190_589 : smI 190 589 = some (.aload_n 0, 590, 0, 0, 0, 0) := by decide +kernel
theorem m190_590 : smI 190 590 = some (.iload_n 3, 591, 0, 0, 0, 0) := by decide +kernel
theorem m190_591 : smI 190 591 = some (.iconst 2, 592, 0, 0, 0, 2) := by decide +kernel
theorem m190_592 : smI 190 592 = some (.iadd, 593, 0, 0, 0, 0) := by decide +kernel
theorem m190_593 : smI 190 593 = some (.iaload, 594, 0, 0, 0, 0) := by decide +kernel
theorem m190_594 : smI 190 594 = some (.aload_n 0, 595, 0, 0, 0, 0) := by decide +kernel
theorem m190_595 : smI 190 595 = some (.iload_n 3, 596, 0, 0, 0, 0) := by decide +kernel
theorem m190_596 : smI 190 596 = some (.iconst 3, 597, 0, 0, 0, 3) := by decide +kernel
theorem m190_597 : smI 190 597 = some (.iadd, 598, 0, 0, 0, 0) := by decide +kernel
theorem m190_598 : smI 190 598 = some (.iaload, 599, 0, 0, 0, 0) := by decide +kernel
theorem m190_599 : smI 190 599 = some (.aload_n 0, 600, 0, 0, 0, 0) := by decide +kernel
theorem m190_600 : smI 190 600 = some (.iload_n 3, 601, 0, 0, 0, 0) := by decide +kernel
theorem m190_601 : smI 190 601 = some (.iconst 4, 602, 0, 0, 0, 4) := by decide +kernel
theorem m190_602 : smI 190 602 = some (.iadd, 603, 0, 0, 0, 0) := by decide +kernel
theorem m190_603 : smI 190 603 = some (.iaload, 604, 0, 0, 0, 0) := by decide +kernel
theorem m190_604 : smI 190 604 = some (.invokevirtual 63, 607, 20, 138, 4, 0) := by decide +kernel
theorem m190_607 : smI 190 607 = some (.pop, 608, 0, 0, 0, 0) := by decide +kernel
theorem m190_608 : smI 190 608 = some (.goto 820, 611, 0, 1428, 0, 0) := by decide +kernel
theorem m190_611 : smI 190 611 = some (.aload_n 1, 612, 0, 0, 0, 0) := by decide +kernel
theorem m190_612 : smI 190 612 = some (.aload_n 0, 613, 0, 0, 0, 0) := by decide +kernel
theorem m190_613 : smI 190 613 = some (.iload_n 3, 614, 0, 0, 0, 0) := by decide +kernel
theorem m190_614 : smI 190 614 = some (.iconst 1, 615, 0, 0, 0, 1) := by decide +kernel
theorem m190_615 : smI 190 615 = some (.iadd, 616, 0, 0, 0, 0) := by decide +kernel
theorem m190_616 : smI 190 616 = some (.iaload, 617, 0, 0, 0, 0) := by decide +kernel
theorem m190_617 : smI 190 617 = some (.invokevirtual 64, 620, 20, 70, 1, 0) := by decide +kernel
theorem m190_620 : smI 190 620 = some (.pop, 621, 0, 0, 0, 0) := by decide +kernel
theorem m190_621 : smI 190 621 = some (.aload_n 2, 622, 0, 0, 0, 0) := by decide +kernel
theorem m190_622 : smI 190 622 = some (.aload_n 0, 623, 0, 0, 0, 0) := by decide +kernel
theorem m190_623 : smI 190 623 = some (.iload_n 3, 624, 0, 0, 0, 0) := by decide +kernel
theorem m190_624 : smI 190 624 = some (.iconst 1, 625, 0, 0, 0, 1) := by decide +kernel
theorem m190_625 : smI 190 625 = some (.iadd, 626, 0, 0, 0, 0) := by decide +kernel
theorem m190_626 : smI 190 626 = some (.iaload, 627, 0, 0, 0, 0) := by decide +kernel
theorem m190_627 : smI 190 627 = some (.invokevirtual 67, 630, 20, 148, 1, 0) := by decide +kernel
theorem m190_630 : smI 190 630 = some (.pop, 631, 0, 0, 0, 0) := by decide +kernel
theorem m190_631 : smI 190 631 = some (.goto 797, 634, 0, 1428, 0, 0) := by decide +kernel
theorem m190_634 : smI 190 634 = some (.aload_n 1, 635, 0, 0, 0, 0) := by decide +kernel
theorem m190_635 : smI 190 635 = some (.aload_n 0, 636, 0, 0, 0, 0) := by decide +kernel
theorem m190_636 : smI 190 636 = some (.iload_n 3, 637, 0, 0, 0, 0) := by decide +kernel
theorem m190_637 : smI 190 637 = some (.iconst 1, 638, 0, 0, 0, 1) := by decide +kernel
theorem m190_638 : smI 190 638 = some (.iadd, 639, 0, 0, 0, 0) := by decide +kernel
theorem m190_639 : smI 190 639 = some (.iaload, 640, 0, 0, 0, 0) := by decide +kernel
theorem m190_640 : smI 190 640 = some (.invokevirtual 68, 643, 20, 72, 1, 0) := by decide +kernel
theorem m190_643 : smI 190 643 = some (.pop, 644, 0, 0, 0, 0) := by decide +kernel
theorem m190_644 : smI 190 644 = some (.aload_n 2, 645, 0, 0, 0, 0) := by decide +kernel
theorem m190_645 : smI 190 645 = some (.aload_n 0, 646, 0, 0, 0, 0) := by decide +kernel
theorem m190_646 : smI 190 646 = some (.iload_n 3, 647, 0, 0, 0, 0) := by decide +kernel
theorem m190_647 : smI 190 647 = some (.iconst 1, 648, 0, 0, 0, 1) := by decide +kernel
theorem m190_648 : smI 190 648 = some (.iadd, 649, 0, 0, 0, 0) := by decide +kernel
theorem m190_649 : smI 190 649 = some (.iaload, 650, 0, 0, 0, 0) := by decide +kernel
theorem m190_650 : smI 190 650 = some (.invokevirtual 71, 653, 20, 150, 1, 0) := by decide +kernel
theorem m190_653 : smI 190 653 = some (.pop, 654, 0, 0, 0, 0) := by decide +kernel
theorem m190_654 : smI 190 654 = some (.goto 774, 657, 0, 1428, 0, 0) := by decide +kernel
theorem m190_657 : smI 190 657 = some (.aload_n 1, 658, 0, 0, 0, 0) := by decide +kernel
theorem m190_658 : smI 190 658 = some (.invokevirtual 72, 661, 20, 73, 0, 0) := by decide +kernel
theorem m190_661 : smI 190 661 = some (.pop, 662, 0, 0, 0, 0) := by decide +kernel
theorem m190_662 : smI 190 662 = some (.aload_n 2, 663, 0, 0, 0, 0) := by decide +kernel
theorem m190_663 : smI 190 663 = some (.invokevirtual 76, 666, 20, 151, 0, 0) := by decide +kernel
theorem m190_666 : smI 190 666 = some (.pop, 667, 0, 0, 0, 0) := by decide +kernel
theorem m190_667 : smI 190 667 = some (.goto 761, 670, 0, 1428, 0, 0) := by decide +kernel
theorem m190_670 : smI 190 670 = some (.aload_n 1, 671, 0, 0, 0, 0) := by decide +kernel
theorem m190_671 : smI 190 671 = some (.aload_n 0, 672, 0, 0, 0, 0) := by decide +kernel
theorem m190_672 : smI 190 672 = some (.iload_n 3, 673, 0, 0, 0, 0) := by decide +kernel
theorem m190_673 : smI 190 673 = some (.iconst 1, 674, 0, 0, 0, 1) := by decide +kernel
theorem m190_674 : smI 190 674 = some (.iadd, 675, 0, 0, 0, 0) := by decide +kernel
theorem m190_675 : smI 190 675 = some (.iaload, 676, 0, 0, 0, 0) := by decide +kernel
theorem m190_676 : smI 190 676 = some (.aload_n 0, 677, 0, 0, 0, 0) := by decide +kernel
theorem m190_677 : smI 190 677 = some (.iload_n 3, 678, 0, 0, 0, 0) := by decide +kernel
theorem m190_678 : smI 190 678 = some (.iconst 2, 679, 0, 0, 0, 2) := by decide +kernel
theorem m190_679 : smI 190 679 = some (.iadd, 680, 0, 0, 0, 0) := by decide +kernel
theorem m190_680 : smI 190 680 = some (.iaload, 681, 0, 0, 0, 0) := by decide +kernel
theorem m190_681 : smI 190 681 = some (.aload_n 0, 682, 0, 0, 0, 0) := by decide +kernel
theorem m190_682 : smI 190 682 = some (.iload_n 3, 683, 0, 0, 0, 0) := by decide +kernel
theorem m190_683 : smI 190 683 = some (.iconst 3, 684, 0, 0, 0, 3) := by decide +kernel
theorem m190_684 : smI 190 684 = some (.iadd, 685, 0, 0, 0, 0) := by decide +kernel
theorem m190_685 : smI 190 685 = some (.iaload, 686, 0, 0, 0, 0) := by decide +kernel
theorem m190_686 : smI 190 686 = some (.invokevirtual 77, 689, 20, 75, 3, 0) := by decide +kernel
theorem m190_689 : smI 190 689 = some (.pop, 690, 0, 0, 0, 0) := by decide +kernel
theorem m190_690 : smI 190 690 = some (.aload_n 2, 691, 0, 0, 0, 0) := by decide +kernel
theorem m190_691 : smI 190 691 = some (.aload_n 0, 692, 0, 0, 0, 0) := by decide +kernel
theorem m190_692 : smI 190 692 = some (.iload_n 3, 693, 0, 0, 0, 0) := by decide +kernel
theorem m190_693 : smI 190 693 = some (.iconst 1, 694, 0, 0, 0, 1) := by decide +kernel
theorem m190_694 : smI 190 694 = some (.iadd, 695, 0, 0, 0, 0) := by decide +kernel
theorem m190_695 : smI 190 695 = some (.iaload, 696, 0, 0, 0, 0) := by decide +kernel
theorem m190_696 : smI 190 696 = some (.aload_n 0, 697, 0, 0, 0, 0) := by decide +kernel
theorem m190_697 : smI 190 697 = some (.iload_n 3, 698, 0, 0, 0, 0) := by decide +kernel
theorem m190_698 : smI 190 698 = some (.iconst 2, 699, 0, 0, 0, 2) := by decide +kernel
theorem m190_699 : smI 190 699 = some (.iadd, 700, 0, 0, 0, 0) := by decide +kernel
theorem m190_700 : smI 190 700 = some (.iaload, 701, 0, 0, 0, 0) := by decide +kernel
theorem m190_701 : smI 190 701 = some (.aload_n 0, 702, 0, 0, 0, 0) := by decide +kernel
theorem m190_702 : smI 190 702 = some (.iload_n 3, 703, 0, 0, 0, 0) := by decide +kernel
theorem m190_703 : smI 190 703 = some (.iconst 3, 704, 0, 0, 0, 3) := by decide +kernel
theorem m190_704 : smI 190 704 = some (.iadd, 705, 0, 0, 0, 0) := by decide +kernel
theorem m190_705 : smI 190 705 = some (.iaload, 706, 0, 0, 0, 0) := by decide +kernel
theorem m190_706 : smI 190 706 = some (.invokevirtual 80, 709, 20, 152, 3, 0) := by decide +kernel
theorem m190_709 : smI 190 709 = some (.pop, 710, 0, 0, 0, 0) := by decide +kernel
theorem m190_710 : smI 190 710 = some (.goto 718, 713, 0, 1428, 0, 0) := by decide +kernel
theorem m190_713 : smI 190 713 = some (.aload_n 1, 714, 0, 0, 0, 0) := by decide +kernel
theorem m190_714 : smI 190 714 = some (.aload_n 0, 715, 0, 0, 0, 0) := by decide +kernel
theorem m190_715 : smI 190 715 = some (.iload_n 3, 716, 0, 0, 0, 0) := by decide +kernel
theorem m190_716 : smI 190 716 = some (.iconst 1, 717, 0, 0, 0, 1) := by decide +kernel
theorem m190_717 : smI 190 717 = some (.iadd, 718, 0, 0, 0, 0) := by decide +kernel
theorem m190_718 : smI 190 718 = some (.iaload, 719, 0, 0, 0, 0) := by decide +kernel
theorem m190_719 : smI 190 719 = some (.invokevirtual 81, 722, 20, 76, 1, 0) := by decide +kernel
theorem m190_722 : smI 190 722 = some (.pop, 723, 0, 0, 0, 0) := by decide +kernel
theorem m190_723 : smI 190 723 = some (.aload_n 2, 724, 0, 0, 0, 0) := by decide +kernel
theorem m190_724 : smI 190 724 = some (.aload_n 0, 725, 0, 0, 0, 0) := by decide +kernel
theorem m190_725 : smI 190 725 = some (.iload_n 3, 726, 0, 0, 0, 0) := by decide +kernel
theorem m190_726 : smI 190 726 = some (.iconst 1, 727, 0, 0, 0, 1) := by decide +kernel
theorem m190_727 : smI 190 727 = some (.iadd, 728, 0, 0, 0, 0) := by decide +kernel
theorem m190_728 : smI 190 728 = some (.iaload, 729, 0, 0, 0, 0) := by decide +kernel
theorem m190_729 : smI 190 729 = some (.invokevirtual 84, 732, 20, 153, 1, 0) := by decide +kernel
theorem m190_732 : smI 190 732 = some (.pop, 733, 0, 0, 0, 0) := by decide +kernel
theorem m190_733 : smI 190 733 = some (.goto 695, 736, 0, 1428, 0, 0) := by decide +kernel
theorem m190_736 : smI 190 736 = some (.aload_n 1, 737, 0, 0, 0, 0) := by decide +kernel
theorem m190_737 : smI 190 737 = some (.invokevirtual 85, 740, 20, 77, 0, 0) := by decide +kernel
theorem m190_740 : smI 190 740 = some (.pop, 741, 0, 0, 0, 0) := by decide +kernel
theorem m190_741 : smI 190 741 = some (.aload_n 2, 742, 0, 0, 0, 0) := by decide +kernel
theorem m190_742 : smI 190 742 = some (.invokevirtual 88, 745, 20, 156, 0, 0) := by decide +kernel
theorem m190_745 : smI 190 745 = some (.pop, 746, 0, 0, 0, 0) := by decide +kernel
theorem m190_746 : smI 190 746 = some (.goto 682, 749, 0, 1428, 0, 0) := by decide +kernel
theorem m190_749 : smI 190 749 = some (.aload_n 1, 750, 0, 0, 0, 0) := by decide +kernel
theorem m190_750 : smI 190 750 = some (.aload_n 0, 751, 0, 0, 0, 0) := by decide +kernel
theorem m190_751 : smI 190 751 = some (.iload_n 3, 752, 0, 0, 0, 0) := by decide +kernel
theorem m190_752 : smI 190 752 = some (.iconst 1, 753, 0, 0, 0, 1) := by decide +kernel
theorem m190_753 : smI 190 753 = some (.iadd, 754, 0, 0, 0, 0) := by decide +kernel
theorem m190_754 : smI 190 754 = some (.iaload, 755, 0, 0, 0, 0) := by decide +kernel
theorem m190_755 : smI 190 755 = some (.aload_n 0, 756, 0, 0, 0, 0) := by decide +kernel
theorem m190_756 : smI 190 756 = some (.iload_n 3, 757, 0, 0, 0, 0) := by decide +kernel
theorem m190_757 : smI 190 757 = some (.iconst 2, 758, 0, 0, 0, 2) := by decide +kernel
theorem m190_758 : smI 190 758 = some (.iadd, 759, 0, 0, 0, 0) := by decide +kernel
theorem m190_759 : smI 190 759 = some (.iaload, 760, 0, 0, 0, 0) := by decide +kernel
theorem m190_760 : smI 190 760 = some (.invokevirtual 89, 763, 20, 78, 2, 0) := by decide +kernel
theorem m190_763 : smI 190 763 = some (.pop, 764, 0, 0, 0, 0) := by decide +kernel
theorem m190_764 : smI 190 764 = some (.aload_n 2, 765, 0, 0, 0, 0) := by decide +kernel
theorem m190_765 : smI 190 765 = some (.aload_n 0, 766, 0, 0, 0, 0) := by decide +kernel
theorem m190_766 : smI 190 766 = some (.iload_n 3, 767, 0, 0, 0, 0) := by decide +kernel
theorem m190_767 : smI 190 767 = some (.iconst 1, 768, 0, 0, 0, 1) := by decide +kernel
theorem m190_768 : smI 190 768 = some (.iadd, 769, 0, 0, 0, 0) := by decide +kernel
theorem m190_769 : smI 190 769 = some (.iaload, 770, 0, 0, 0, 0) := by decide +kernel
theorem m190_770 : smI 190 770 = some (.aload_n 0, 771, 0, 0, 0, 0) := by decide +kernel
theorem m190_771 : smI 190 771 = some (.iload_n 3, 772, 0, 0, 0, 0) := by decide +kernel
theorem m190_772 : smI 190 772 = some (.iconst 2, 773, 0, 0, 0, 2) := by decide +kernel
theorem m190_773 : smI 190 773 = some (.iadd, 774, 0, 0, 0, 0) := by decide +kernel
theorem m190_774 : smI 190 774 = some (.iaload, 775, 0, 0, 0, 0) := by decide +kernel
theorem m190_775 : smI 190 775 = some (.invokevirtual 92, 778, 20, 158, 2, 0) := by decide +kernel
theorem m190_778 : smI 190 778 = some (.pop, 779, 0, 0, 0, 0) := by decide +kernel
theorem m190_779 : smI 190 779 = some (.goto 649, 782, 0, 1428, 0, 0) := by decide +kernel
theorem m190_782 : smI 190 782 = some (.aload_n 1, 783, 0, 0, 0, 0) := by decide +kernel
theorem m190_783 : smI 190 783 = some (.aload_n 0, 784, 0, 0, 0, 0) := by decide +kernel
theorem m190_784 : smI 190 784 = some (.iload_n 3, 785, 0, 0, 0, 0) := by decide +kernel
theorem m190_785 : smI 190 785 = some (.iconst 1, 786, 0, 0, 0, 1) := by decide +kernel
theorem m190_786 : smI 190 786 = some (.iadd, 787, 0, 0, 0, 0) := by decide +kernel
theorem m190_787 : smI 190 787 = some (.iaload, 788, 0, 0, 0, 0) := by decide +kernel
theorem m190_788 : smI 190 788 = some (.aload_n 0, 789, 0, 0, 0, 0) := by decide +kernel
theorem m190_789 : smI 190 789 = some (.iload_n 3, 790, 0, 0, 0, 0) := by decide +kernel
theorem m190_790 : smI 190 790 = some (.iconst 2, 791, 0, 0, 0, 2) := by decide +kernel
theorem m190_791 : smI 190 791 = some (.iadd, 792, 0, 0, 0, 0) := by decide +kernel
theorem m190_792 : smI 190 792 = some (.iaload, 793, 0, 0, 0, 0) := by decide +kernel
theorem m190_793 : smI 190 793 = some (.invokevirtual 93, 796, 20, 80, 2, 0) := by decide +kernel
theorem m190_796 : smI 190 796 = some (.pop, 797, 0, 0, 0, 0) := by decide +kernel
theorem m190_797 : smI 190 797 = some (.aload_n 2, 798, 0, 0, 0, 0) := by decide +kernel
theorem m190_798 : smI 190 798 = some (.aload_n 0, 799, 0, 0, 0, 0) := by decide +kernel
theorem m190_799 : smI 190 799 = some (.iload_n 3, 800, 0, 0, 0, 0) := by decide +kernel
theorem m190_800 : smI 190 800 = some (.iconst 1, 801, 0, 0, 0, 1) := by decide +kernel
theorem m190_801 : smI 190 801 = some (.iadd, 802, 0, 0, 0, 0) := by decide +kernel
theorem m190_802 : smI 190 802 = some (.iaload, 803, 0, 0, 0, 0) := by decide +kernel
theorem m190_803 : smI 190 803 = some (.aload_n 0, 804, 0, 0, 0, 0) := by decide +kernel
theorem m190_804 : smI 190 804 = some (.iload_n 3, 805, 0, 0, 0, 0) := by decide +kernel
theorem m190_805 : smI 190 805 = some (.iconst 2, 806, 0, 0, 0, 2) := by decide +kernel
theorem m190_806 : smI 190 806 = some (.iadd, 807, 0, 0, 0, 0) := by decide +kernel
theorem m190_807 : smI 190 807 = some (.iaload, 808, 0, 0, 0, 0) := by decide +kernel
theorem m190_808 : smI 190 808 = some (.invokevirtual 96, 811, 20, 159, 2, 0) := by decide +kernel
theorem m190_811 : smI 190 811 = some (.pop, 812, 0, 0, 0, 0) := by decide +kernel
theorem m190_812 : smI 190 812 = some (.goto 616, 815, 0, 1428, 0, 0) := by decide +kernel
theorem m190_815 : smI 190 815 = some (.aload_n 1, 816, 0, 0, 0, 0) := by decide +kernel
theorem m190_816 : smI 190 816 = some (.aload_n 0, 817, 0, 0, 0, 0) := by decide +kernel
theorem m190_817 : smI 190 817 = some (.iload_n 3, 818, 0, 0, 0, 0) := by decide +kernel
theorem m190_818 : smI 190 818 = some (.iconst 1, 819, 0, 0, 0, 1) := by decide +kernel
theorem m190_819 : smI 190 819 = some (.iadd, 820, 0, 0, 0, 0) := by decide +kernel
theorem m190_820 : smI 190 820 = some (.iaload, 821, 0, 0, 0, 0) := by decide +kernel
theorem m190_821 : smI 190 821 = some (.aload_n 0, 822, 0, 0, 0, 0) := by decide +kernel
theorem m190_822 : smI 190 822 = some (.iload_n 3, 823, 0, 0, 0, 0) := by decide +kernel
theorem m190_823 : smI 190 823 = some (.iconst 2, 824, 0, 0, 0, 2) := by decide +kernel
theorem m190_824 : smI 190 824 = some (.iadd, 825, 0, 0, 0, 0) := by decide +kernel
theorem m190_825 : smI 190 825 = some (.iaload, 826, 0, 0, 0, 0) := by decide +kernel
theorem m190_826 : smI 190 826 = some (.invokevirtual 97, 829, 20, 82, 2, 0) := by decide +kernel
theorem m190_829 : smI 190 829 = some (.pop, 830, 0, 0, 0, 0) := by decide +kernel
theorem m190_830 : smI 190 830 = some (.aload_n 2, 831, 0, 0, 0, 0) := by decide +kernel
theorem m190_831 : smI 190 831 = some (.aload_n 0, 832, 0, 0, 0, 0) := by decide +kernel
theorem m190_832 : smI 190 832 = some (.iload_n 3, 833, 0, 0, 0, 0) := by decide +kernel
theorem m190_833 : smI 190 833 = some (.iconst 1, 834, 0, 0, 0, 1) := by decide +kernel
theorem m190_834 : smI 190 834 = some (.iadd, 835, 0, 0, 0, 0) := by decide +kernel
theorem m190_835 : smI 190 835 = some (.iaload, 836, 0, 0, 0, 0) := by decide +kernel
theorem m190_836 : smI 190 836 = some (.aload_n 0, 837, 0, 0, 0, 0) := by decide +kernel
theorem m190_837 : smI 190 837 = some (.iload_n 3, 838, 0, 0, 0, 0) := by decide +kernel
theorem m190_838 : smI 190 838 = some (.iconst 2, 839, 0, 0, 0, 2) := by decide +kernel
theorem m190_839 : smI 190 839 = some (.iadd, 840, 0, 0, 0, 0) := by decide +kernel
theorem m190_840 : smI 190 840 = some (.iaload, 841, 0, 0, 0, 0) := by decide +kernel
theorem m190_841 : smI 190 841 = some (.invokevirtual 100, 844, 20, 162, 2, 0) := by decide +kernel
theorem m190_844 : smI 190 844 = some (.pop, 845, 0, 0, 0, 0) := by decide +kernel
theorem m190_845 : smI 190 845 = some (.goto 583, 848, 0, 1428, 0, 0) := by decide +kernel
theorem m190_848 : smI 190 848 = some (.aload_n 1, 849, 0, 0, 0, 0) := by decide +kernel
theorem m190_849 : smI 190 849 = some (.aload_n 0, 850, 0, 0, 0, 0) := by decide +kernel
theorem m190_850 : smI 190 850 = some (.iload_n 3, 851, 0, 0, 0, 0) := by decide +kernel
theorem m190_851 : smI 190 851 = some (.iconst 1, 852, 0, 0, 0, 1) := by decide +kernel
theorem m190_852 : smI 190 852 = some (.iadd, 853, 0, 0, 0, 0) := by decide +kernel
theorem m190_853 : smI 190 853 = some (.iaload, 854, 0, 0, 0, 0) := by decide +kernel
theorem m190_854 : smI 190 854 = some (.invokevirtual 101, 857, 20, 83, 1, 0) := by decide +kernel
theorem m190_857 : smI 190 857 = some (.pop, 858, 0, 0, 0, 0) := by decide +kernel
theorem m190_858 : smI 190 858 = some (.aload_n 2, 859, 0, 0, 0, 0) := by decide +kernel
theorem m190_859 : smI 190 859 = some (.aload_n 0, 860, 0, 0, 0, 0) := by decide +kernel
theorem m190_860 : smI 190 860 = some (.iload_n 3, 861, 0, 0, 0, 0) := by decide +kernel
theorem m190_861 : smI 190 861 = some (.iconst 1, 862, 0, 0, 0, 1) := by decide +kernel
theorem m190_862 : smI 190 862 = some (.iadd, 863, 0, 0, 0, 0) := by decide +kernel
theorem m190_863 : smI 190 863 = some (.iaload, 864, 0, 0, 0, 0) := by decide +kernel
theorem m190_864 : smI 190 864 = some (.invokevirtual 104, 867, 20, 163, 1, 0) := by decide +kernel
theorem m190_867 : smI 190 867 = some (.pop, 868, 0, 0, 0, 0) := by decide +kernel
theorem m190_868 : smI 190 868 = some (.goto 560, 871, 0, 1428, 0, 0) := by decide +kernel
theorem m190_871 : smI 190 871 = some (.aload_n 1, 872, 0, 0, 0, 0) := by decide +kernel
theorem m190_872 : smI 190 872 = some (.aload_n 0, 873, 0, 0, 0, 0) := by decide +kernel
theorem m190_873 : smI 190 873 = some (.iload_n 3, 874, 0, 0, 0, 0) := by decide +kernel
theorem m190_874 : smI 190 874 = some (.iconst 1, 875, 0, 0, 0, 1) := by decide +kernel
theorem m190_875 : smI 190 875 = some (.iadd, 876, 0, 0, 0, 0) := by decide +kernel
theorem m190_876 : smI 190 876 = some (.iaload, 877, 0, 0, 0, 0) := by decide +kernel
theorem m190_877 : smI 190 877 = some (.aload_n 0, 878, 0, 0, 0, 0) := by decide +kernel
theorem m190_878 : smI 190 878 = some (.iload_n 3, 879, 0, 0, 0, 0) := by decide +kernel
theorem m190_879 : smI 190 879 = some (.iconst 2, 880, 0, 0, 0, 2) := by decide +kernel
theorem m190_880 : smI 190 880 = some (.iadd, 881, 0, 0, 0, 0) := by decide +kernel
theorem m190_881 : smI 190 881 = some (.iaload, 882, 0, 0, 0, 0) := by decide +kernel
theorem m190_882 : smI 190 882 = some (.invokevirtual 105, 885, 20, 84, 2, 0) := by decide +kernel
theorem m190_885 : smI 190 885 = some (.pop, 886, 0, 0, 0, 0) := by decide +kernel
theorem m190_886 : smI 190 886 = some (.aload_n 2, 887, 0, 0, 0, 0) := by decide +kernel
theorem m190_887 : smI 190 887 = some (.aload_n 0, 888, 0, 0, 0, 0) := by decide +kernel
theorem m190_888 : smI 190 888 = some (.iload_n 3, 889, 0, 0, 0, 0) := by decide +kernel
theorem m190_889 : smI 190 889 = some (.iconst 1, 890, 0, 0, 0, 1) := by decide +kernel
theorem m190_890 : smI 190 890 = some (.iadd, 891, 0, 0, 0, 0) := by decide +kernel
theorem m190_891 : smI 190 891 = some (.iaload, 892, 0, 0, 0, 0) := by decide +kernel
theorem m190_892 : smI 190 892 = some (.aload_n 0, 893, 0, 0, 0, 0) := by decide +kernel
theorem m190_893 : smI 190 893 = some (.iload_n 3, 894, 0, 0, 0, 0) := by decide +kernel
theorem m190_894 : smI 190 894 = some (.iconst 2, 895, 0, 0, 0, 2) := by decide +kernel
theorem m190_895 : smI 190 895 = some (.iadd, 896, 0, 0, 0, 0) := by decide +kernel
theorem m190_896 : smI 190 896 = some (.iaload, 897, 0, 0, 0, 0) := by decide +kernel
theorem m190_897 : smI 190 897 = some (.invokevirtual 108, 900, 20, 164, 2, 0) := by decide +kernel
theorem m190_900 : smI 190 900 = some (.pop, 901, 0, 0, 0, 0) := by decide +kernel
theorem m190_901 : smI 190 901 = some (.goto 527, 904, 0, 1428, 0, 0) := by decide +kernel
theorem m190_904 : smI 190 904 = some (.aload_n 1, 905, 0, 0, 0, 0) := by decide +kernel
theorem m190_905 : smI 190 905 = some (.aload_n 0, 906, 0, 0, 0, 0) := by decide +kernel
theorem m190_906 : smI 190 906 = some (.iload_n 3, 907, 0, 0, 0, 0) := by decide +kernel
theorem m190_907 : smI 190 907 = some (.iconst 1, 908, 0, 0, 0, 1) := by decide +kernel
theorem m190_908 : smI 190 908 = some (.iadd, 909, 0, 0, 0, 0) := by decide +kernel
theorem m190_909 : smI 190 909 = some (.iaload, 910, 0, 0, 0, 0) := by decide +kernel
theorem m190_910 : smI 190 910 = some (.aload_n 0, 911, 0, 0, 0, 0) := by decide +kernel
theorem m190_911 : smI 190 911 = some (.iload_n 3, 912, 0, 0, 0, 0) := by decide +kernel
theorem m190_912 : smI 190 912 = some (.iconst 2, 913, 0, 0, 0, 2) := by decide +kernel
theorem m190_913 : smI 190 913 = some (.iadd, 914, 0, 0, 0, 0) := by decide +kernel
theorem m190_914 : smI 190 914 = some (.iaload, 915, 0, 0, 0, 0) := by decide +kernel
theorem m190_915 : smI 190 915 = some (.invokevirtual 109, 918, 20, 85, 2, 0) := by decide +kernel
theorem m190_918 : smI 190 918 = some (.pop, 919, 0, 0, 0, 0) := by decide +kernel
theorem m190_919 : smI 190 919 = some (.aload_n 2, 920, 0, 0, 0, 0) := by decide +kernel
theorem m190_920 : smI 190 920 = some (.aload_n 0, 921, 0, 0, 0, 0) := by decide +kernel
theorem m190_921 : smI 190 921 = some (.iload_n 3, 922, 0, 0, 0, 0) := by decide +kernel
theorem m190_922 : smI 190 922 = some (.iconst 1, 923, 0, 0, 0, 1) := by decide +kernel
theorem m190_923 : smI 190 923 = some (.iadd, 924, 0, 0, 0, 0) := by decide +kernel
theorem m190_924 : smI 190 924 = some (.iaload, 925, 0, 0, 0, 0) := by decide +kernel
theorem m190_925 : smI 190 925 = some (.aload_n 0, 926, 0, 0, 0, 0) := by decide +kernel
theorem m190_926 : smI 190 926 = some (.iload_n 3, 927, 0, 0, 0, 0) := by decide +kernel
theorem m190_927 : smI 190 927 = some (.iconst 2, 928, 0, 0, 0, 2) := by decide +kernel
theorem m190_928 : smI 190 928 = some (.iadd, 929, 0, 0, 0, 0) := by decide +kernel
theorem m190_929 : smI 190 929 = some (.iaload, 930, 0, 0, 0, 0) := by decide +kernel
theorem m190_930 : smI 190 930 = some (.invokevirtual 112, 933, 20, 165, 2, 0) := by decide +kernel
theorem m190_933 : smI 190 933 = some (.pop, 934, 0, 0, 0, 0) := by decide +kernel
theorem m190_934 : smI 190 934 = some (.goto 494, 937, 0, 1428, 0, 0) := by decide +kernel
theorem m190_937 : smI 190 937 = some (.aload_n 1, 938, 0, 0, 0, 0) := by decide +kernel
theorem m190_938 : smI 190 938 = some (.aload_n 0, 939, 0, 0, 0, 0) := by decide +kernel
theorem m190_939 : smI 190 939 = some (.iload_n 3, 940, 0, 0, 0, 0) := by decide +kernel
theorem m190_940 : smI 190 940 = some (.iconst 1, 941, 0, 0, 0, 1) := by decide +kernel
theorem m190_941 : smI 190 941 = some (.iadd, 942, 0, 0, 0, 0) := by decide +kernel
theorem m190_942 : smI 190 942 = some (.iaload, 943, 0, 0, 0, 0) := by decide +kernel
theorem m190_943 : smI 190 943 = some (.aload_n 0, 944, 0, 0, 0, 0) := by decide +kernel
theorem m190_944 : smI 190 944 = some (.iload_n 3, 945, 0, 0, 0, 0) := by decide +kernel
theorem m190_945 : smI 190 945 = some (.iconst 2, 946, 0, 0, 0, 2) := by decide +kernel
theorem m190_946 : smI 190 946 = some (.iadd, 947, 0, 0, 0, 0) := by decide +kernel
theorem m190_947 : smI 190 947 = some (.iaload, 948, 0, 0, 0, 0) := by decide +kernel
theorem m190_948 : smI 190 948 = some (.invokevirtual 113, 951, 20, 86, 2, 0) := by decide +kernel
theorem m190_951 : smI 190 951 = some (.pop, 952, 0, 0, 0, 0) := by decide +kernel
theorem m190_952 : smI 190 952 = some (.aload_n 2, 953, 0, 0, 0, 0) := by decide +kernel
theorem m190_953 : smI 190 953 = some (.aload_n 0, 954, 0, 0, 0, 0) := by decide +kernel
theorem m190_954 : smI 190 954 = some (.iload_n 3, 955, 0, 0, 0, 0) := by decide +kernel
theorem m190_955 : smI 190 955 = some (.iconst 1, 956, 0, 0, 0, 1) := by decide +kernel
theorem m190_956 : smI 190 956 = some (.iadd, 957, 0, 0, 0, 0) := by decide +kernel
theorem m190_957 : smI 190 957 = some (.iaload, 958, 0, 0, 0, 0) := by decide +kernel
theorem m190_958 : smI 190 958 = some (.aload_n 0, 959, 0, 0, 0, 0) := by decide +kernel
theorem m190_959 : smI 190 959 = some (.iload_n 3, 960, 0, 0, 0, 0) := by decide +kernel
theorem m190_960 : smI 190 960 = some (.iconst 2, 961, 0, 0, 0, 2) := by decide +kernel
theorem m190_961 : smI 190 961 = some (.iadd, 962, 0, 0, 0, 0) := by decide +kernel
theorem m190_962 : smI 190 962 = some (.iaload, 963, 0, 0, 0, 0) := by decide +kernel
theorem m190_963 : smI 190 963 = some (.invokevirtual 116, 966, 20, 166, 2, 0) := by decide +kernel
theorem m190_966 : smI 190 966 = some (.pop, 967, 0, 0, 0, 0) := by decide +kernel
theorem m190_967 : smI 190 967 = some (.goto 461, 970, 0, 1428, 0, 0) := by decide +kernel
theorem m190_970 : smI 190 970 = some (.aload_n 1, 971, 0, 0, 0, 0) := by decide +kernel
theorem m190_971 : smI 190 971 = some (.aload_n 0, 972, 0, 0, 0, 0) := by decide +kernel
theorem m190_972 : smI 190 972 = some (.iload_n 3, 973, 0, 0, 0, 0) := by decide +kernel
theorem m190_973 : smI 190 973 = some (.iconst 1, 974, 0, 0, 0, 1) := by decide +kernel
theorem m190_974 : smI 190 974 = some (.iadd, 975, 0, 0, 0, 0) := by decide +kernel
theorem m190_975 : smI 190 975 = some (.iaload, 976, 0, 0, 0, 0) := by decide +kernel
theorem m190_976 : smI 190 976 = some (.invokevirtual 117, 979, 20, 87, 1, 0) := by decide +kernel
theorem m190_979 : smI 190 979 = some (.pop, 980, 0, 0, 0, 0) := by decide +kernel
theorem m190_980 : smI 190 980 = some (.aload_n 2, 981, 0, 0, 0, 0) := by decide +kernel
theorem m190_981 : smI 190 981 = some (.aload_n 0, 982, 0, 0, 0, 0) := by decide +kernel
theorem m190_982 : smI 190 982 = some (.iload_n 3, 983, 0, 0, 0, 0) := by decide +kernel
theorem m190_983 : smI 190 983 = some (.iconst 1, 984, 0, 0, 0, 1) := by decide +kernel
theorem m190_984 : smI 190 984 = some (.iadd, 985, 0, 0, 0, 0) := by decide +kernel
theorem m190_985 : smI 190 985 = some (.iaload, 986, 0, 0, 0, 0) := by decide +kernel
theorem m190_986 : smI 190 986 = some (.invokevirtual 120, 989, 20, 167, 1, 0) := by decide +kernel
theorem m190_989 : smI 190 989 = some (.pop, 990, 0, 0, 0, 0) := by decide +kernel
theorem m190_990 : smI 190 990 = some (.goto 438, 993, 0, 1428, 0, 0) := by decide +kernel
theorem m190_993 : smI 190 993 = some (.aload_n 1, 994, 0, 0, 0, 0) := by decide +kernel
theorem m190_994 : smI 190 994 = some (.aload_n 0, 995, 0, 0, 0, 0) := by decide +kernel
theorem m190_995 : smI 190 995 = some (.iload_n 3, 996, 0, 0, 0, 0) := by decide +kernel
theorem m190_996 : smI 190 996 = some (.iconst 1, 997, 0, 0, 0, 1) := by decide +kernel
theorem m190_997 : smI 190 997 = some (.iadd, 998, 0, 0, 0, 0) := by decide +kernel
theorem m190_998 : smI 190 998 = some (.iaload, 999, 0, 0, 0, 0) := by decide +kernel
theorem m190_999 : smI 190 999 = some (.aload_n 0, 1000, 0, 0, 0, 0) := by decide +kernel
theorem m190_1000 : smI 190 1000 = some (.iload_n 3, 1001, 0, 0, 0, 0) := by decide +kernel
theorem m190_1001 : smI 190 1001 = some (.iconst 2, 1002, 0, 0, 0, 2) := by decide +kernel
theorem m190_1002 : smI 190 1002 = some (.iadd, 1003, 0, 0, 0, 0) := by decide +kernel
theorem m190_1003 : smI 190 1003 = some (.iaload, 1004, 0, 0, 0, 0) := by decide +kernel
theorem m190_1004 : smI 190 1004 = some (.aload_n 0, 1005, 0, 0, 0, 0) := by decide +kernel
theorem m190_1005 : smI 190 1005 = some (.iload_n 3, 1006, 0, 0, 0, 0) := by decide +kernel
theorem m190_1006 : smI 190 1006 = some (.iconst 3, 1007, 0, 0, 0, 3) := by decide +kernel
theorem m190_1007 : smI 190 1007 = some (.iadd, 1008, 0, 0, 0, 0) := by decide +kernel
theorem m190_1008 : smI 190 1008 = some (.iaload, 1009, 0, 0, 0, 0) := by decide +kernel
theorem m190_1009 : smI 190 1009 = some (.invokevirtual 121, 1012, 20, 89, 3, 0) := by decide +kernel
theorem m190_1012 : smI 190 1012 = some (.pop, 1013, 0, 0, 0, 0) := by decide +kernel
theorem m190_1013 : smI 190 1013 = some (.aload_n 2, 1014, 0, 0, 0, 0) := by decide +kernel
theorem m190_1014 : smI 190 1014 = some (.aload_n 0, 1015, 0, 0, 0, 0) := by decide +kernel
theorem m190_1015 : smI 190 1015 = some (.iload_n 3, 1016, 0, 0, 0, 0) := by decide +kernel
theorem m190_1016 : smI 190 1016 = some (.iconst 1, 1017, 0, 0, 0, 1) := by decide +kernel
theorem m190_1017 : smI 190 1017 = some (.iadd, 1018, 0, 0, 0, 0) := by decide +kernel
theorem m190_1018 : smI 190 1018 = some (.iaload, 1019, 0, 0, 0, 0) := by decide +kernel
theorem m190_1019 : smI 190 1019 = some (.aload_n 0, 1020, 0, 0, 0, 0) := by decide +kernel
theorem m190_1020 : smI 190 1020 = some (.iload_n 3, 1021, 0, 0, 0, 0) := by decide +kernel
theorem m190_1021 : smI 190 1021 = some (.iconst 2, 1022, 0, 0, 0, 2) := by decide +kernel
theorem m190_1022 : smI 190 1022 = some (.iadd, 1023, 0, 0, 0, 0) := by decide +kernel
theorem m190_1023 : smI 190 1023 = some (.iaload, 1024, 0, 0, 0, 0) := by decide +kernel
theorem m190_1024 : smI 190 1024 = some (.aload_n 0, 1025, 0, 0, 0, 0) := by decide +kernel
theorem m190_1025 : smI 190 1025 = some (.iload_n 3, 1026, 0, 0, 0, 0) := by decide +kernel
theorem m190_1026 : smI 190 1026 = some (.iconst 3, 1027, 0, 0, 0, 3) := by decide +kernel
theorem m190_1027 : smI 190 1027 = some (.iadd, 1028, 0, 0, 0, 0) := by decide +kernel
theorem m190_1028 : smI 190 1028 = some (.iaload, 1029, 0, 0, 0, 0) := by decide +kernel
theorem m190_1029 : smI 190 1029 = some (.invokevirtual 124, 1032, 20, 169, 3, 0) := by decide +kernel
theorem m190_1032 : smI 190 1032 = some (.pop, 1033, 0, 0, 0, 0) := by decide +kernel
theorem m190_1033 : smI 190 1033 = some (.goto 395, 1036, 0, 1428, 0, 0) := by decide +kernel
theorem m190_1036 : smI 190 1036 = some (.aload_n 1, 1037, 0, 0, 0, 0) := by decide +kernel
theorem m190_1037 : smI 190 1037 = some (.aload_n 0, 1038, 0, 0, 0, 0) := by decide +kernel
theorem m190_1038 : smI 190 1038 = some (.iload_n 3, 1039, 0, 0, 0, 0) := by decide +kernel
theorem m190_1039 : smI 190 1039 = some (.iconst 1, 1040, 0, 0, 0, 1) := by decide +kernel
theorem m190_1040 : smI 190 1040 = some (.iadd, 1041, 0, 0, 0, 0) := by decide +kernel
theorem m190_1041 : smI 190 1041 = some (.iaload, 1042, 0, 0, 0, 0) := by decide +kernel
theorem m190_1042 : smI 190 1042 = some (.invokevirtual 125, 1045, 20, 90, 1, 0) := by decide +kernel
theorem m190_1045 : smI 190 1045 = some (.pop, 1046, 0, 0, 0, 0) := by decide +kernel
theorem m190_1046 : smI 190 1046 = some (.aload_n 2, 1047, 0, 0, 0, 0) := by decide +kernel
theorem m190_1047 : smI 190 1047 = some (.aload_n 0, 1048, 0, 0, 0, 0) := by decide +kernel
theorem m190_1048 : smI 190 1048 = some (.iload_n 3, 1049, 0, 0, 0, 0) := by decide +kernel
theorem m190_1049 : smI 190 1049 = some (.iconst 1, 1050, 0, 0, 0, 1) := by decide +kernel
theorem m190_1050 : smI 190 1050 = some (.iadd, 1051, 0, 0, 0, 0) := by decide +kernel
theorem m190_1051 : smI 190 1051 = some (.iaload, 1052, 0, 0, 0, 0) := by decide +kernel
theorem m190_1052 : smI 190 1052 = some (.invokevirtual 128, 1055, 20, 170, 1, 0) := by decide +kernel
theorem m190_1055 : smI 190 1055 = some (.pop, 1056, 0, 0, 0, 0) := by decide +kernel
theorem m190_1056 : smI 190 1056 = some (.goto 372, 1059, 0, 1428, 0, 0) := by decide +kernel
theorem m190_1059 : smI 190 1059 = some (.aload_n 1, 1060, 0, 0, 0, 0) := by decide +kernel
theorem m190_1060 : smI 190 1060 = some (.aload_n 0, 1061, 0, 0, 0, 0) := by decide +kernel
theorem m190_1061 : smI 190 1061 = some (.iload_n 3, 1062, 0, 0, 0, 0) := by decide +kernel
theorem m190_1062 : smI 190 1062 = some (.iconst 1, 1063, 0, 0, 0, 1) := by decide +kernel
theorem m190_1063 : smI 190 1063 = some (.iadd, 1064, 0, 0, 0, 0) := by decide +kernel
theorem m190_1064 : smI 190 1064 = some (.iaload, 1065, 0, 0, 0, 0) := by decide +kernel
theorem m190_1065 : smI 190 1065 = some (.aload_n 0, 1066, 0, 0, 0, 0) := by decide +kernel
theorem m190_1066 : smI 190 1066 = some (.iload_n 3, 1067, 0, 0, 0, 0) := by decide +kernel
theorem m190_1067 : smI 190 1067 = some (.iconst 2, 1068, 0, 0, 0, 2) := by decide +kernel
theorem m190_1068 : smI 190 1068 = some (.iadd, 1069, 0, 0, 0, 0) := by decide +kernel
theorem m190_1069 : smI 190 1069 = some (.iaload, 1070, 0, 0, 0, 0) := by decide +kernel
theorem m190_1070 : smI 190 1070 = some (.aload_n 0, 1071, 0, 0, 0, 0) := by decide +kernel
theorem m190_1071 : smI 190 1071 = some (.iload_n 3, 1072, 0, 0, 0, 0) := by decide +kernel
theorem m190_1072 : smI 190 1072 = some (.iconst 3, 1073, 0, 0, 0, 3) := by decide +kernel
theorem m190_1073 : smI 190 1073 = some (.iadd, 1074, 0, 0, 0, 0) := by decide +kernel
theorem m190_1074 : smI 190 1074 = some (.iaload, 1075, 0, 0, 0, 0) := by decide +kernel
theorem m190_1075 : smI 190 1075 = some (.invokevirtual 129, 1078, 20, 93, 3, 0) := by decide +kernel
theorem m190_1078 : smI 190 1078 = some (.pop, 1079, 0, 0, 0, 0) := by decide +kernel
theorem m190_1079 : smI 190 1079 = some (.aload_n 2, 1080, 0, 0, 0, 0) := by decide +kernel
theorem m190_1080 : smI 190 1080 = some (.aload_n 0, 1081, 0, 0, 0, 0) := by decide +kernel
theorem m190_1081 : smI 190 1081 = some (.iload_n 3, 1082, 0, 0, 0, 0) := by decide +kernel
theorem m190_1082 : smI 190 1082 = some (.iconst 1, 1083, 0, 0, 0, 1) := by decide +kernel
theorem m190_1083 : smI 190 1083 = some (.iadd, 1084, 0, 0, 0, 0) := by decide +kernel
theorem m190_1084 : smI 190 1084 = some (.iaload, 1085, 0, 0, 0, 0) := by decide +kernel
theorem m190_1085 : smI 190 1085 = some (.aload_n 0, 1086, 0, 0, 0, 0) := by decide +kernel
theorem m190_1086 : smI 190 1086 = some (.iload_n 3, 1087, 0, 0, 0, 0) := by decide +kernel
theorem m190_1087 : smI 190 1087 = some (.iconst 2, 1088, 0, 0, 0, 2) := by decide +kernel
theorem m190_1088 : smI 190 1088 = some (.iadd, 1089, 0, 0, 0, 0) := by decide +kernel
theorem m190_1089 : smI 190 1089 = some (.iaload, 1090, 0, 0, 0, 0) := by decide +kernel
theorem m190_1090 : smI 190 1090 = some (.aload_n 0, 1091, 0, 0, 0, 0) := by decide +kernel
theorem m190_1091 : smI 190 1091 = some (.iload_n 3, 1092, 0, 0, 0, 0) := by decide +kernel
theorem m190_1092 : smI 190 1092 = some (.iconst 3, 1093, 0, 0, 0, 3) := by decide +kernel
theorem m190_1093 : smI 190 1093 = some (.iadd, 1094, 0, 0, 0, 0) := by decide +kernel
theorem m190_1094 : smI 190 1094 = some (.iaload, 1095, 0, 0, 0, 0) := by decide +kernel
theorem m190_1095 : smI 190 1095 = some (.invokevirtual 132, 1098, 20, 176, 3, 0) := by decide +kernel
theorem m190_1098 : smI 190 1098 = some (.pop, 1099, 0, 0, 0, 0) := by decide +kernel
theorem m190_1099 : smI 190 1099 = some (.goto 329, 1102, 0, 1428, 0, 0) := by decide +kernel
theorem m190_1102 : smI 190 1102 = some (.aload_n 1, 1103, 0, 0, 0, 0) := by decide +kernel
theorem m190_1103 : smI 190 1103 = some (.aload_n 0, 1104, 0, 0, 0, 0) := by decide +kernel
theorem m190_1104 : smI 190 1104 = some (.iload_n 3, 1105, 0, 0, 0, 0) := by decide +kernel
theorem m190_1105 : smI 190 1105 = some (.iconst 1, 1106, 0, 0, 0, 1) := by decide +kernel
theorem m190_1106 : smI 190 1106 = some (.iadd, 1107, 0, 0, 0, 0) := by decide +kernel
theorem m190_1107 : smI 190 1107 = some (.iaload, 1108, 0, 0, 0, 0) := by decide +kernel
theorem m190_1108 : smI 190 1108 = some (.invokevirtual 133, 1111, 20, 94, 1, 0) := by decide +kernel
theorem m190_1111 : smI 190 1111 = some (.pop, 1112, 0, 0, 0, 0) := by decide +kernel
theorem m190_1112 : smI 190 1112 = some (.aload_n 2, 1113, 0, 0, 0, 0) := by decide +kernel
theorem m190_1113 : smI 190 1113 = some (.aload_n 0, 1114, 0, 0, 0, 0) := by decide +kernel
theorem m190_1114 : smI 190 1114 = some (.iload_n 3, 1115, 0, 0, 0, 0) := by decide +kernel
theorem m190_1115 : smI 190 1115 = some (.iconst 1, 1116, 0, 0, 0, 1) := by decide +kernel
theorem m190_1116 : smI 190 1116 = some (.iadd, 1117, 0, 0, 0, 0) := by decide +kernel
theorem m190_1117 : smI 190 1117 = some (.iaload, 1118, 0, 0, 0, 0) := by decide +kernel
theorem m190_1118 : smI 190 1118 = some (.invokevirtual 136, 1121, 20, 177, 1, 0) := by decide +kernel
theorem m190_1121 : smI 190 1121 = some (.pop, 1122, 0, 0, 0, 0) := by decide +kernel
theorem m190_1122 : smI 190 1122 = some (.goto 306, 1125, 0, 1428, 0, 0) := by decide +kernel
theorem m190_1125 : smI 190 1125 = some (.aload_n 1, 1126, 0, 0, 0, 0) := by decide +kernel
theorem m190_1126 : smI 190 1126 = some (.aload_n 0, 1127, 0, 0, 0, 0) := by decide +kernel
theorem m190_1127 : smI 190 1127 = some (.iload_n 3, 1128, 0, 0, 0, 0) := by decide +kernel
theorem m190_1128 : smI 190 1128 = some (.iconst 1, 1129, 0, 0, 0, 1) := by decide +kernel
theorem m190_1129 : smI 190 1129 = some (.iadd, 1130, 0, 0, 0, 0) := by decide +kernel
theorem m190_1130 : smI 190 1130 = some (.iaload, 1131, 0, 0, 0, 0) := by decide +kernel
theorem m190_1131 : smI 190 1131 = some (.aload_n 0, 1132, 0, 0, 0, 0) := by decide +kernel
theorem m190_1132 : smI 190 1132 = some (.iload_n 3, 1133, 0, 0, 0, 0) := by decide +kernel
theorem m190_1133 : smI 190 1133 = some (.iconst 2, 1134, 0, 0, 0, 2) := by decide +kernel
theorem m190_1134 : smI 190 1134 = some (.iadd, 1135, 0, 0, 0, 0) := by decide +kernel
theorem m190_1135 : smI 190 1135 = some (.iaload, 1136, 0, 0, 0, 0) := by decide +kernel
theorem m190_1136 : smI 190 1136 = some (.aload_n 0, 1137, 0, 0, 0, 0) := by decide +kernel
theorem m190_1137 : smI 190 1137 = some (.iload_n 3, 1138, 0, 0, 0, 0) := by decide +kernel
theorem m190_1138 : smI 190 1138 = some (.iconst 3, 1139, 0, 0, 0, 3) := by decide +kernel
theorem m190_1139 : smI 190 1139 = some (.iadd, 1140, 0, 0, 0, 0) := by decide +kernel
theorem m190_1140 : smI 190 1140 = some (.iaload, 1141, 0, 0, 0, 0) := by decide +kernel
theorem m190_1141 : smI 190 1141 = some (.invokevirtual 137, 1144, 20, 95, 3, 0) := by decide +kernel
theorem m190_1144 : smI 190 1144 = some (.pop, 1145, 0, 0, 0, 0) := by decide +kernel
theorem m190_1145 : smI 190 1145 = some (.aload_n 2, 1146, 0, 0, 0, 0) := by decide +kernel
theorem m190_1146 : smI 190 1146 = some (.aload_n 0, 1147, 0, 0, 0, 0) := by decide +kernel
theorem m190_1147 : smI 190 1147 = some (.iload_n 3, 1148, 0, 0, 0, 0) := by decide +kernel
theorem m190_1148 : smI 190 1148 = some (.iconst 1, 1149, 0, 0, 0, 1) := by decide +kernel
theorem m190_1149 : smI 190 1149 = some (.iadd, 1150, 0, 0, 0, 0) := by decide +kernel
theorem m190_1150 : smI 190 1150 = some (.iaload, 1151, 0, 0, 0, 0) := by decide +kernel
theorem m190_1151 : smI 190 1151 = some (.aload_n 0, 1152, 0, 0, 0, 0) := by decide +kernel
theorem m190_1152 : smI 190 1152 = some (.iload_n 3, 1153, 0, 0, 0, 0) := by decide +kernel
theorem m190_1153 : smI 190 1153 = some (.iconst 2, 1154, 0, 0, 0, 2) := by decide +kernel
theorem m190_1154 : smI 190 1154 = some (.iadd, 1155, 0, 0, 0, 0) := by decide +kernel
theorem m190_1155 : smI 190 1155 = some (.iaload, 1156, 0, 0, 0, 0) := by decide +kernel
theorem m190_1156 : smI 190 1156 = some (.aload_n 0, 1157, 0, 0, 0, 0) := by decide +kernel
theorem m190_1157 : smI 190 1157 = some (.iload_n 3, 1158, 0, 0, 0, 0) := by decide +kernel
theorem m190_1158 : smI 190 1158 = some (.iconst 3, 1159, 0, 0, 0, 3) := by decide +kernel
theorem m190_1159 : smI 190 1159 = some (.iadd, 1160, 0, 0, 0, 0) := by decide +kernel
theorem m190_1160 : smI 190 1160 = some (.iaload, 1161, 0, 0, 0, 0) := by decide +kernel
theorem m190_1161 : smI 190 1161 = some (.invokevirtual 140, 1164, 20, 179, 3, 0) := by decide +kernel
theorem m190_1164 : smI 190 1164 = some (.pop, 1165, 0, 0, 0, 0) := by decide +kernel
theorem m190_1165 : smI 190 1165 = some (.goto 263, 1168, 0, 1428, 0, 0) := by decide +kernel
theorem m190_1168 : smI 190 1168 = some (.aload_n 1, 1169, 0, 0, 0, 0) := by decide +kernel
theorem m190_1169 : smI 190 1169 = some (.aload_n 0, 1170, 0, 0, 0, 0) := by decide +kernel
theorem m190_1170 : smI 190 1170 = some (.iload_n 3, 1171, 0, 0, 0, 0) := by decide +kernel
theorem m190_1171 : smI 190 1171 = some (.iconst 1, 1172, 0, 0, 0, 1) := by decide +kernel
theorem m190_1172 : smI 190 1172 = some (.iadd, 1173, 0, 0, 0, 0) := by decide +kernel
theorem m190_1173 : smI 190 1173 = some (.iaload, 1174, 0, 0, 0, 0) := by decide +kernel
theorem m190_1174 : smI 190 1174 = some (.aload_n 0, 1175, 0, 0, 0, 0) := by decide +kernel
theorem m190_1175 : smI 190 1175 = some (.iload_n 3, 1176, 0, 0, 0, 0) := by decide +kernel
theorem m190_1176 : smI 190 1176 = some (.iconst 2, 1177, 0, 0, 0, 2) := by decide +kernel
theorem m190_1177 : smI 190 1177 = some (.iadd, 1178, 0, 0, 0, 0) := by decide +kernel
theorem m190_1178 : smI 190 1178 = some (.iaload, 1179, 0, 0, 0, 0) := by decide +kernel
theorem m190_1179 : smI 190 1179 = some (.aload_n 0, 1180, 0, 0, 0, 0) := by decide +kernel
theorem m190_1180 : smI 190 1180 = some (.iload_n 3, 1181, 0, 0, 0, 0) := by decide +kernel
theorem m190_1181 : smI 190 1181 = some (.iconst 3, 1182, 0, 0, 0, 3) := by decide +kernel
theorem m190_1182 : smI 190 1182 = some (.iadd, 1183, 0, 0, 0, 0) := by decide +kernel
theorem m190_1183 : smI 190 1183 = some (.iaload, 1184, 0, 0, 0, 0) := by decide +kernel
theorem m190_1184 : smI 190 1184 = some (.invokevirtual 141, 1187, 20, 96, 3, 0) := by decide +kernel
theorem m190_1187 : smI 190 1187 = some (.pop, 1188, 0, 0, 0, 0) := by decide +kernel
theorem m190_1188 : smI 190 1188 = some (.aload_n 2, 1189, 0, 0, 0, 0) := by decide +kernel
theorem m190_1189 : smI 190 1189 = some (.aload_n 0, 1190, 0, 0, 0, 0) := by decide +kernel
theorem m190_1190 : smI 190 1190 = some (.iload_n 3, 1191, 0, 0, 0, 0) := by decide +kernel
theorem m190_1191 : smI 190 1191 = some (.iconst 1, 1192, 0, 0, 0, 1) := by decide +kernel
theorem m190_1192 : smI 190 1192 = some (.iadd, 1193, 0, 0, 0, 0) := by decide +kernel
theorem m190_1193 : smI 190 1193 = some (.iaload, 1194, 0, 0, 0, 0) := by decide +kernel
theorem m190_1194 : smI 190 1194 = some (.aload_n 0, 1195, 0, 0, 0, 0) := by decide +kernel
theorem m190_1195 : smI 190 1195 = some (.iload_n 3, 1196, 0, 0, 0, 0) := by decide +kernel
theorem m190_1196 : smI 190 1196 = some (.iconst 2, 1197, 0, 0, 0, 2) := by decide +kernel
theorem m190_1197 : smI 190 1197 = some (.iadd, 1198, 0, 0, 0, 0) := by decide +kernel
theorem m190_1198 : smI 190 1198 = some (.iaload, 1199, 0, 0, 0, 0) := by decide +kernel
theorem m190_1199 : smI 190 1199 = some (.aload_n 0, 1200, 0, 0, 0, 0) := by decide +kernel
theorem m190_1200 : smI 190 1200 = some (.iload_n 3, 1201, 0, 0, 0, 0) := by decide +kernel
theorem m190_1201 : smI 190 1201 = some (.iconst 3, 1202, 0, 0, 0, 3) := by decide +kernel
theorem m190_1202 : smI 190 1202 = some (.iadd, 1203, 0, 0, 0, 0) := by decide +kernel
theorem m190_1203 : smI 190 1203 = some (.iaload, 1204, 0, 0, 0, 0) := by decide +kernel
theorem m190_1204 : smI 190 1204 = some (.invokevirtual 144, 1207, 20, 180, 3, 0) := by decide +kernel
theorem m190_1207 : smI 190 1207 = some (.pop, 1208, 0, 0, 0, 0) := by decide +kernel
theorem m190_1208 : smI 190 1208 = some (.goto 220, 1211, 0, 1428, 0, 0) := by decide +kernel
theorem m190_1211 : smI 190 1211 = some (.aload_n 1, 1212, 0, 0, 0, 0) := by decide +kernel
theorem m190_1212 : smI 190 1212 = some (.aload_n 0, 1213, 0, 0, 0, 0) := by decide +kernel
theorem m190_1213 : smI 190 1213 = some (.iload_n 3, 1214, 0, 0, 0, 0) := by decide +kernel
theorem m190_1214 : smI 190 1214 = some (.iconst 1, 1215, 0, 0, 0, 1) := by decide +kernel
theorem m190_1215 : smI 190 1215 = some (.iadd, 1216, 0, 0, 0, 0) := by decide +kernel
theorem m190_1216 : smI 190 1216 = some (.iaload, 1217, 0, 0, 0, 0) := by decide +kernel
theorem m190_1217 : smI 190 1217 = some (.aload_n 0, 1218, 0, 0, 0, 0) := by decide +kernel
theorem m190_1218 : smI 190 1218 = some (.iload_n 3, 1219, 0, 0, 0, 0) := by decide +kernel
theorem m190_1219 : smI 190 1219 = some (.iconst 2, 1220, 0, 0, 0, 2) := by decide +kernel
theorem m190_1220 : smI 190 1220 = some (.iadd, 1221, 0, 0, 0, 0) := by decide +kernel
theorem m190_1221 : smI 190 1221 = some (.iaload, 1222, 0, 0, 0, 0) := by decide +kernel
theorem m190_1222 : smI 190 1222 = some (.aload_n 0, 1223, 0, 0, 0, 0) := by decide +kernel
theorem m190_1223 : smI 190 1223 = some (.iload_n 3, 1224, 0, 0, 0, 0) := by decide +kernel
theorem m190_1224 : smI 190 1224 = some (.iconst 3, 1225, 0, 0, 0, 3) := by decide +kernel
theorem m190_1225 : smI 190 1225 = some (.iadd, 1226, 0, 0, 0, 0) := by decide +kernel
theorem m190_1226 : smI 190 1226 = some (.iaload, 1227, 0, 0, 0, 0) := by decide +kernel
theorem m190_1227 : smI 190 1227 = some (.aload_n 0, 1228, 0, 0, 0, 0) := by decide +kernel
theorem m190_1228 : smI 190 1228 = some (.iload_n 3, 1229, 0, 0, 0, 0) := by decide +kernel
theorem m190_1229 : smI 190 1229 = some (.iconst 4, 1230, 0, 0, 0, 4) := by decide +kernel
theorem m190_1230 : smI 190 1230 = some (.iadd, 1231, 0, 0, 0, 0) := by decide +kernel
theorem m190_1231 : smI 190 1231 = some (.iaload, 1232, 0, 0, 0, 0) := by decide +kernel
theorem m190_1232 : smI 190 1232 = some (.aload_n 0, 1233, 0, 0, 0, 0) := by decide +kernel
theorem m190_1233 : smI 190 1233 = some (.iload_n 3, 1234, 0, 0, 0, 0) := by decide +kernel
theorem m190_1234 : smI 190 1234 = some (.iconst 5, 1235, 0, 0, 0, 5) := by decide +kernel
theorem m190_1235 : smI 190 1235 = some (.iadd, 1236, 0, 0, 0, 0) := by decide +kernel
theorem m190_1236 : smI 190 1236 = some (.iaload, 1237, 0, 0, 0, 0) := by decide +kernel
theorem m190_1237 : smI 190 1237 = some (.invokevirtual 145, 1240, 20, 97, 5, 0) := by decide +kernel
theorem m190_1240 : smI 190 1240 = some (.pop, 1241, 0, 0, 0, 0) := by decide +kernel
theorem m190_1241 : smI 190 1241 = some (.aload_n 2, 1242, 0, 0, 0, 0) := by decide +kernel
theorem m190_1242 : smI 190 1242 = some (.aload_n 0, 1243, 0, 0, 0, 0) := by decide +kernel
theorem m190_1243 : smI 190 1243 = some (.iload_n 3, 1244, 0, 0, 0, 0) := by decide +kernel
theorem m190_1244 : smI 190 1244 = some (.iconst 1, 1245, 0, 0, 0, 1) := by decide +kernel
theorem m190_1245 : smI 190 1245 = some (.iadd, 1246, 0, 0, 0, 0) := by decide +kernel
theorem m190_1246 : smI 190 1246 = some (.iaload, 1247, 0, 0, 0, 0) := by decide +kernel
theorem m190_1247 : smI 190 1247 = some (.aload_n 0, 1248, 0, 0, 0, 0) := by decide +kernel
theorem m190_1248 : smI 190 1248 = some (.iload_n 3, 1249, 0, 0, 0, 0) := by decide +kernel
theorem m190_1249 : smI 190 1249 = some (.iconst 2, 1250, 0, 0, 0, 2) := by decide +kernel
theorem m190_1250 : smI 190 1250 = some (.iadd, 1251, 0, 0, 0, 0) := by decide +kernel
theorem m190_1251 : smI 190 1251 = some (.iaload, 1252, 0, 0, 0, 0) := by decide +kernel
theorem m190_1252 : smI 190 1252 = some (.aload_n 0, 1253, 0, 0, 0, 0) := by decide +kernel
theorem m190_1253 : smI 190 1253 = some (.iload_n 3, 1254, 0, 0, 0, 0) := by decide +kernel
theorem m190_1254 : smI 190 1254 = some (.iconst 3, 1255, 0, 0, 0, 3) := by decide +kernel
theorem m190_1255 : smI 190 1255 = some (.iadd, 1256, 0, 0, 0, 0) := by decide +kernel
theorem m190_1256 : smI 190 1256 = some (.iaload, 1257, 0, 0, 0, 0) := by decide +kernel
theorem m190_1257 : smI 190 1257 = some (.aload_n 0, 1258, 0, 0, 0, 0) := by decide +kernel
theorem m190_1258 : smI 190 1258 = some (.iload_n 3, 1259, 0, 0, 0, 0) := by decide +kernel
theorem m190_1259 : smI 190 1259 = some (.iconst 4, 1260, 0, 0, 0, 4) := by decide +kernel
theorem m190_1260 : smI 190 1260 = some (.iadd, 1261, 0, 0, 0, 0) := by decide +kernel
theorem m190_1261 : smI 190 1261 = some (.iaload, 1262, 0, 0, 0, 0) := by decide +kernel
theorem m190_1262 : smI 190 1262 = some (.aload_n 0, 1263, 0, 0, 0, 0) := by decide +kernel
theorem m190_1263 : smI 190 1263 = some (.iload_n 3, 1264, 0, 0, 0, 0) := by decide +kernel
theorem m190_1264 : smI 190 1264 = some (.iconst 5, 1265, 0, 0, 0, 5) := by decide +kernel
theorem m190_1265 : smI 190 1265 = some (.iadd, 1266, 0, 0, 0, 0) := by decide +kernel
theorem m190_1266 : smI 190 1266 = some (.iaload, 1267, 0, 0, 0, 0) := by decide +kernel
theorem m190_1267 : smI 190 1267 = some (.invokevirtual 149, 1270, 20, 181, 5, 0) := by decide +kernel
theorem m190_1270 : smI 190 1270 = some (.pop, 1271, 0, 0, 0, 0) := by decide +kernel
theorem m190_1271 : smI 190 1271 = some (.goto 157, 1274, 0, 1428, 0, 0) := by decide +kernel
theorem m190_1274 : smI 190 1274 = some (.aload_n 1, 1275, 0, 0, 0, 0) := by decide +kernel
theorem m190_1275 : smI 190 1275 = some (.aload_n 0, 1276, 0, 0, 0, 0) := by decide +kernel
theorem m190_1276 : smI 190 1276 = some (.iload_n 3, 1277, 0, 0, 0, 0) := by decide +kernel
theorem m190_1277 : smI 190 1277 = some (.iconst 1, 1278, 0, 0, 0, 1) := by decide +kernel
theorem m190_1278 : smI 190 1278 = some (.iadd, 1279, 0, 0, 0, 0) := by decide +kernel
theorem m190_1279 : smI 190 1279 = some (.iaload, 1280, 0, 0, 0, 0) := by decide +kernel
theorem m190_1280 : smI 190 1280 = some (.invokevirtual 150, 1283, 20, 98, 1, 0) := by decide +kernel
theorem m190_1283 : smI 190 1283 = some (.pop, 1284, 0, 0, 0, 0) := by decide +kernel
theorem m190_1284 : smI 190 1284 = some (.aload_n 2, 1285, 0, 0, 0, 0) := by decide +kernel
theorem m190_1285 : smI 190 1285 = some (.aload_n 0, 1286, 0, 0, 0, 0) := by decide +kernel
theorem m190_1286 : smI 190 1286 = some (.iload_n 3, 1287, 0, 0, 0, 0) := by decide +kernel
theorem m190_1287 : smI 190 1287 = some (.iconst 1, 1288, 0, 0, 0, 1) := by decide +kernel
theorem m190_1288 : smI 190 1288 = some (.iadd, 1289, 0, 0, 0, 0) := by decide +kernel
theorem m190_1289 : smI 190 1289 = some (.iaload, 1290, 0, 0, 0, 0) := by decide +kernel
theorem m190_1290 : smI 190 1290 = some (.invokevirtual 153, 1293, 20, 182, 1, 0) := by decide +kernel
theorem m190_1293 : smI 190 1293 = some (.pop, 1294, 0, 0, 0, 0) := by decide +kernel
theorem m190_1294 : smI 190 1294 = some (.goto 134, 1297, 0, 1428, 0, 0) := by decide +kernel
theorem m190_1297 : smI 190 1297 = some (.aload_n 1, 1298, 0, 0, 0, 0) := by decide +kernel
theorem m190_1298 : smI 190 1298 = some (.aload_n 0, 1299, 0, 0, 0, 0) := by decide +kernel
theorem m190_1299 : smI 190 1299 = some (.iload_n 3, 1300, 0, 0, 0, 0) := by decide +kernel
theorem m190_1300 : smI 190 1300 = some (.iconst 1, 1301, 0, 0, 0, 1) := by decide +kernel
theorem m190_1301 : smI 190 1301 = some (.iadd, 1302, 0, 0, 0, 0) := by decide +kernel
theorem m190_1302 : smI 190 1302 = some (.iaload, 1303, 0, 0, 0, 0) := by decide +kernel
theorem m190_1303 : smI 190 1303 = some (.invokevirtual 154, 1306, 20, 99, 1, 0) := by decide +kernel
theorem m190_1306 : smI 190 1306 = some (.pop, 1307, 0, 0, 0, 0) := by decide +kernel
theorem m190_1307 : smI 190 1307 = some (.aload_n 2, 1308, 0, 0, 0, 0) := by decide +kernel
theorem m190_1308 : smI 190 1308 = some (.aload_n 0, 1309, 0, 0, 0, 0) := by decide +kernel
theorem m190_1309 : smI 190 1309 = some (.iload_n 3, 1310, 0, 0, 0, 0) := by decide +kernel
theorem m190_1310 : smI 190 1310 = some (.iconst 1, 1311, 0, 0, 0, 1) := by decide +kernel
theorem m190_1311 : smI 190 1311 = some (.iadd, 1312, 0, 0, 0, 0) := by decide +kernel
theorem m190_1312 : smI 190 1312 = some (.iaload, 1313, 0, 0, 0, 0) := by decide +kernel
theorem m190_1313 : smI 190 1313 = some (.invokevirtual 157, 1316, 20, 183, 1, 0) := by decide +kernel
theorem m190_1316 : smI 190 1316 = some (.pop, 1317, 0, 0, 0, 0) := by decide +kernel
theorem m190_1317 : smI 190 1317 = some (.goto 111, 1320, 0, 1428, 0, 0) := by decide +kernel
theorem m190_1320 : smI 190 1320 = some (.aload_n 1, 1321, 0, 0, 0, 0) := by decide +kernel
theorem m190_1321 : smI 190 1321 = some (.invokevirtual 158, 1324, 20, 100, 0, 0) := by decide +kernel
theorem m190_1324 : smI 190 1324 = some (.pop, 1325, 0, 0, 0, 0) := by decide +kernel
theorem m190_1325 : smI 190 1325 = some (.aload_n 2, 1326, 0, 0, 0, 0) := by decide +kernel
theorem m190_1326 : smI 190 1326 = some (.invokevirtual 161, 1329, 20, 184, 0, 0) := by decide +kernel
theorem m190_1329 : smI 190 1329 = some (.pop, 1330, 0, 0, 0, 0) := by decide +kernel
theorem m190_1330 : smI 190 1330 = some (.goto 98, 1333, 0, 1428, 0, 0) := by decide +kernel
theorem m190_1333 : smI 190 1333 = some (.aload_n 1, 1334, 0, 0, 0, 0) := by decide +kernel
theorem m190_1334 : smI 190 1334 = some (.invokevirtual 162, 1337, 20, 101, 0, 0) := by decide +kernel
theorem m190_1337 : smI 190 1337 = some (.pop, 1338, 0, 0, 0, 0) := by decide +kernel
theorem m190_1338 : smI 190 1338 = some (.aload_n 2, 1339, 0, 0, 0, 0) := by decide +kernel
theorem m190_1339 : smI 190 1339 = some (.invokevirtual 165, 1342, 20, 185, 0, 0) := by decide +kernel
theorem m190_1342 : smI 190 1342 = some (.pop, 1343, 0, 0, 0, 0) := by decide +kernel
theorem m190_1343 : smI 190 1343 = some (.goto 85, 1346, 0, 1428, 0, 0) := by decide +kernel
theorem m190_1346 : smI 190 1346 = some (.aload_n 1, 1347, 0, 0, 0, 0) := by decide +kernel
theorem m190_1347 : smI 190 1347 = some (.aload_n 0, 1348, 0, 0, 0, 0) := by decide +kernel
theorem m190_1348 : smI 190 1348 = some (.iload_n 3, 1349, 0, 0, 0, 0) := by decide +kernel
theorem m190_1349 : smI 190 1349 = some (.iconst 1, 1350, 0, 0, 0, 1) := by decide +kernel
theorem m190_1350 : smI 190 1350 = some (.iadd, 1351, 0, 0, 0, 0) := by decide +kernel
theorem m190_1351 : smI 190 1351 = some (.iaload, 1352, 0, 0, 0, 0) := by decide +kernel
theorem m190_1352 : smI 190 1352 = some (.invokevirtual 166, 1355, 20, 102, 1, 0) := by decide +kernel
theorem m190_1355 : smI 190 1355 = some (.pop, 1356, 0, 0, 0, 0) := by decide +kernel
theorem m190_1356 : smI 190 1356 = some (.aload_n 2, 1357, 0, 0, 0, 0) := by decide +kernel
theorem m190_1357 : smI 190 1357 = some (.aload_n 0, 1358, 0, 0, 0, 0) := by decide +kernel
theorem m190_1358 : smI 190 1358 = some (.iload_n 3, 1359, 0, 0, 0, 0) := by decide +kernel
theorem m190_1359 : smI 190 1359 = some (.iconst 1, 1360, 0, 0, 0, 1) := by decide +kernel
theorem m190_1360 : smI 190 1360 = some (.iadd, 1361, 0, 0, 0, 0) := by decide +kernel
theorem m190_1361 : smI 190 1361 = some (.iaload, 1362, 0, 0, 0, 0) := by decide +kernel
theorem m190_1362 : smI 190 1362 = some (.invokevirtual 169, 1365, 20, 186, 1, 0) := by decide +kernel
theorem m190_1365 : smI 190 1365 = some (.pop, 1366, 0, 0, 0, 0) := by decide +kernel
theorem m190_1366 : smI 190 1366 = some (.goto 62, 1369, 0, 1428, 0, 0) := by decide +kernel
theorem m190_1369 : smI 190 1369 = some (.aload_n 1, 1370, 0, 0, 0, 0) := by decide +kernel
theorem m190_1370 : smI 190 1370 = some (.invokevirtual 170, 1373, 20, 103, 0, 0) := by decide +kernel
theorem m190_1373 : smI 190 1373 = some (.pop, 1374, 0, 0, 0, 0) := by decide +kernel
theorem m190_1374 : smI 190 1374 = some (.aload_n 2, 1375, 0, 0, 0, 0) := by decide +kernel
theorem m190_1375 : smI 190 1375 = some (.invokevirtual 173, 1378, 20, 187, 0, 0) := by decide +kernel
theorem m190_1378 : smI 190 1378 = some (.pop, 1379, 0, 0, 0, 0) := by decide +kernel
theorem m190_1379 : smI 190 1379 = some (.goto 49, 1382, 0, 1428, 0, 0) := by decide +kernel
theorem m190_1382 : smI 190 1382 = some (.aload_n 1, 1383, 0, 0, 0, 0) := by decide +kernel
theorem m190_1383 : smI 190 1383 = some (.aload_n 0, 1384, 0, 0, 0, 0) := by decide +kernel
theorem m190_1384 : smI 190 1384 = some (.iload_n 3, 1385, 0, 0, 0, 0) := by decide +kernel
theorem m190_1385 : smI 190 1385 = some (.iconst 1, 1386, 0, 0, 0, 1) := by decide +kernel
theorem m190_1386 : smI 190 1386 = some (.iadd, 1387, 0, 0, 0, 0) := by decide +kernel
theorem m190_1387 : smI 190 1387 = some (.iaload, 1388, 0, 0, 0, 0) := by decide +kernel
theorem m190_1388 : smI 190 1388 = some (.invokevirtual 174, 1391, 20, 104, 1, 0) := by decide +kernel
theorem m190_1391 : smI 190 1391 = some (.pop, 1392, 0, 0, 0, 0) := by decide +kernel
theorem m190_1392 : smI 190 1392 = some (.aload_n 2, 1393, 0, 0, 0, 0) := by decide +kernel
theorem m190_1393 : smI 190 1393 = some (.aload_n 0, 1394, 0, 0, 0, 0) := by decide +kernel
theorem m190_1394 : smI 190 1394 = some (.iload_n 3, 1395, 0, 0, 0, 0) := by decide +kernel
theorem m190_1395 : smI 190 1395 = some (.iconst 1, 1396, 0, 0, 0, 1) := by decide +kernel
theorem m190_1396 : smI 190 1396 = some (.iadd, 1397, 0, 0, 0, 0) := by decide +kernel
theorem m190_1397 : smI 190 1397 = some (.iaload, 1398, 0, 0, 0, 0) := by decide +kernel
theorem m190_1398 : smI 190 1398 = some (.invokevirtual 177, 1401, 20, 188, 1, 0) := by decide +kernel
theorem m190_1401 : smI 190 1401 = some (.pop, 1402, 0, 0, 0, 0) := by decide +kernel
theorem m190_1402 : smI 190 1402 = some (.goto 26, 1405, 0, 1428, 0, 0) := by decide +kernel
theorem m190_1405 : smI 190 1405 = some (.aload_n 1, 1406, 0, 0, 0, 0) := by decide +kernel
theorem m190_1406 : smI 190 1406 = some (.aload_n 0, 1407, 0, 0, 0, 0) := by decide +kernel
theorem m190_1407 : smI 190 1407 = some (.iload_n 3, 1408, 0, 0, 0, 0) := by decide +kernel
theorem m190_1408 : smI 190 1408 = some (.iconst 1, 1409, 0, 0, 0, 1) := by decide +kernel
theorem m190_1409 : smI 190 1409 = some (.iadd, 1410, 0, 0, 0, 0) := by decide +kernel
theorem m190_1410 : smI 190 1410 = some (.iaload, 1411, 0, 0, 0, 0) := by decide +kernel
theorem m190_1411 : smI 190 1411 = some (.invokevirtual 178, 1414, 20, 105, 1, 0) := by decide +kernel
theorem m190_1414 : smI 190 1414 = some (.pop, 1415, 0, 0, 0, 0) := by decide +kernel
theorem m190_1415 : smI 190 1415 = some (.aload_n 2, 1416, 0, 0, 0, 0) := by decide +kernel
theorem m190_1416 : smI 190 1416 = some (.aload_n 0, 1417, 0, 0, 0, 0) := by decide +kernel
theorem m190_1417 : smI 190 1417 = some (.iload_n 3, 1418, 0, 0, 0, 0) := by decide +kernel
theorem m190_1418 : smI 190 1418 = some (.iconst 1, 1419, 0, 0, 0, 1) := by decide +kernel
theorem m190_1419 : smI 190 1419 = some (.iadd, 1420, 0, 0, 0, 0) := by decide +kernel
theorem m190_1420 : smI 190 1420 = some (.iaload, 1421, 0, 0, 0, 0) := by decide +kernel
theorem m190_1421 : smI 190 1421 = some (.invokevirtual 181, 1424, 20, 189, 1, 0) := by decide +kernel
theorem m190_1424 : smI 190 1424 = some (.pop, 1425, 0, 0, 0, 0) := by decide +kernel
theorem m190_1425 : smI 190 1425 = some (.goto 3, 1428, 0, 1428, 0, 0) := by decide +kernel
theorem m190_1428 : smI 190 1428 = some (.iinc 3 6, 1431, 0, 0, 0, 6) := by decide +kernel
theorem m190_1431 : smI 190 1431 = some (.goto (-1413), 1434, 0, 18, 0, 0) := by decide +kernel
theorem m190_1434 : smI 190 1434 = some (.iconst 1, 1435, 0, 0, 0, 1) := by decide +kernel
theorem m190_1435 : smI 190 1435 = some (.ireturn, 1436, 0, 0, 0, 0) := by decide +kernel
theorem rt_190 : mRt 190 = some .boolean := by decide +kernel
theorem mx_190 : mMx 190 = 4 := by decide +kernel
