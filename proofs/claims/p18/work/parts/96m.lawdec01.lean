theorem dLW_law_226 : decode cLW_law 226 = .ok (.aload_n 0, 1) := by decide +kernel
theorem dLW_law_227 : decode cLW_law 227 = .ok (.iload_n 3, 1) := by decide +kernel
theorem dLW_law_228 : decode cLW_law 228 = .ok (.iconst 1, 1) := by decide +kernel
theorem dLW_law_229 : decode cLW_law 229 = .ok (.iadd, 1) := by decide +kernel
theorem dLW_law_230 : decode cLW_law 230 = .ok (.iaload, 1) := by decide +kernel
theorem dLW_law_231 : decode cLW_law 231 = .ok (.aload_n 0, 1) := by decide +kernel
theorem dLW_law_232 : decode cLW_law 232 = .ok (.iload_n 3, 1) := by decide +kernel
theorem dLW_law_233 : decode cLW_law 233 = .ok (.iconst 2, 1) := by decide +kernel
theorem dLW_law_234 : decode cLW_law 234 = .ok (.iadd, 1) := by decide +kernel
theorem dLW_law_235 : decode cLW_law 235 = .ok (.iaload, 1) := by decide +kernel
theorem dLW_law_236 : decode cLW_law 236 = .ok (.aload_n 0, 1) := by decide +kernel
theorem dLW_law_237 : decode cLW_law 237 = .ok (.iload_n 3, 1) := by decide +kernel
theorem dLW_law_238 : decode cLW_law 238 = .ok (.iconst 3, 1) := by decide +kernel
theorem dLW_law_239 : decode cLW_law 239 = .ok (.iadd, 1) := by decide +kernel
theorem dLW_law_240 : decode cLW_law 240 = .ok (.iaload, 1) := by decide +kernel
theorem dLW_law_241 : decode cLW_law 241 = .ok (.invokevirtual 31, 3) := by decide +kernel
theorem dLW_law_244 : decode cLW_law 244 = .ok (.pop, 1) := by decide +kernel
theorem dLW_law_245 : decode cLW_law 245 = .ok (.goto 370, 3) := by decide +kernel
theorem dLW_law_248 : decode cLW_law 248 = .ok (.aload_n 1, 1) := by decide +kernel
theorem dLW_law_249 : decode cLW_law 249 = .ok (.aload_n 0, 1) := by decide +kernel
theorem dLW_law_250 : decode cLW_law 250 = .ok (.iload_n 3, 1) := by decide +kernel
theorem dLW_law_251 : decode cLW_law 251 = .ok (.iconst 1, 1) := by decide +kernel
theorem dLW_law_252 : decode cLW_law 252 = .ok (.iadd, 1) := by decide +kernel
theorem dLW_law_253 : decode cLW_law 253 = .ok (.iaload, 1) := by decide +kernel
theorem dLW_law_254 : decode cLW_law 254 = .ok (.aload_n 0, 1) := by decide +kernel
theorem dLW_law_255 : decode cLW_law 255 = .ok (.iload_n 3, 1) := by decide +kernel
theorem dLW_law_256 : decode cLW_law 256 = .ok (.iconst 2, 1) := by decide +kernel
theorem dLW_law_257 : decode cLW_law 257 = .ok (.iadd, 1) := by decide +kernel
theorem dLW_law_258 : decode cLW_law 258 = .ok (.iaload, 1) := by decide +kernel
theorem dLW_law_259 : decode cLW_law 259 = .ok (.aload_n 0, 1) := by decide +kernel
theorem dLW_law_260 : decode cLW_law 260 = .ok (.iload_n 3, 1) := by decide +kernel
theorem dLW_law_261 : decode cLW_law 261 = .ok (.iconst 3, 1) := by decide +kernel
theorem dLW_law_262 : decode cLW_law 262 = .ok (.iadd, 1) := by decide +kernel
theorem dLW_law_263 : decode cLW_law 263 = .ok (.iaload, 1) := by decide +kernel
theorem dLW_law_264 : decode cLW_law 264 = .ok (.ifCond .eq 7, 3) := by decide +kernel
theorem dLW_law_267 : decode cLW_law 267 = .ok (.iconst 1, 1) := by decide +kernel
theorem dLW_law_268 : decode cLW_law 268 = .ok (.goto 4, 3) := by decide +kernel
theorem dLW_law_271 : decode cLW_law 271 = .ok (.iconst 0, 1) := by decide +kernel
theorem dLW_law_272 : decode cLW_law 272 = .ok (.invokevirtual 32, 3) := by decide +kernel
theorem dLW_law_275 : decode cLW_law 275 = .ok (.pop, 1) := by decide +kernel
theorem dLW_law_276 : decode cLW_law 276 = .ok (.aload_n 2, 1) := by decide +kernel
theorem dLW_law_277 : decode cLW_law 277 = .ok (.aload_n 0, 1) := by decide +kernel
theorem dLW_law_278 : decode cLW_law 278 = .ok (.iload_n 3, 1) := by decide +kernel
theorem dLW_law_279 : decode cLW_law 279 = .ok (.iconst 1, 1) := by decide +kernel
theorem dLW_law_280 : decode cLW_law 280 = .ok (.iadd, 1) := by decide +kernel
theorem dLW_law_281 : decode cLW_law 281 = .ok (.iaload, 1) := by decide +kernel
theorem dLW_law_282 : decode cLW_law 282 = .ok (.aload_n 0, 1) := by decide +kernel
theorem dLW_law_283 : decode cLW_law 283 = .ok (.iload_n 3, 1) := by decide +kernel
theorem dLW_law_284 : decode cLW_law 284 = .ok (.iconst 2, 1) := by decide +kernel
theorem dLW_law_285 : decode cLW_law 285 = .ok (.iadd, 1) := by decide +kernel
theorem dLW_law_286 : decode cLW_law 286 = .ok (.iaload, 1) := by decide +kernel
theorem dLW_law_287 : decode cLW_law 287 = .ok (.aload_n 0, 1) := by decide +kernel
theorem dLW_law_288 : decode cLW_law 288 = .ok (.iload_n 3, 1) := by decide +kernel
theorem dLW_law_289 : decode cLW_law 289 = .ok (.iconst 3, 1) := by decide +kernel
theorem dLW_law_290 : decode cLW_law 290 = .ok (.iadd, 1) := by decide +kernel
theorem dLW_law_291 : decode cLW_law 291 = .ok (.iaload, 1) := by decide +kernel
theorem dLW_law_292 : decode cLW_law 292 = .ok (.ifCond .eq 7, 3) := by decide +kernel
theorem dLW_law_295 : decode cLW_law 295 = .ok (.iconst 1, 1) := by decide +kernel
theorem dLW_law_296 : decode cLW_law 296 = .ok (.goto 4, 3) := by decide +kernel
theorem dLW_law_299 : decode cLW_law 299 = .ok (.iconst 0, 1) := by decide +kernel
theorem dLW_law_300 : decode cLW_law 300 = .ok (.invokevirtual 36, 3) := by decide +kernel
theorem dLW_law_303 : decode cLW_law 303 = .ok (.pop, 1) := by decide +kernel
theorem dLW_law_304 : decode cLW_law 304 = .ok (.goto 311, 3) := by decide +kernel
theorem dLW_law_307 : decode cLW_law 307 = .ok (.aload_n 1, 1) := by decide +kernel
theorem dLW_law_308 : decode cLW_law 308 = .ok (.invokevirtual 37, 3) := by decide +kernel
theorem dLW_law_311 : decode cLW_law 311 = .ok (.pop, 1) := by decide +kernel
theorem dLW_law_312 : decode cLW_law 312 = .ok (.aload_n 2, 1) := by decide +kernel
theorem dLW_law_313 : decode cLW_law 313 = .ok (.invokevirtual 40, 3) := by decide +kernel
theorem dLW_law_316 : decode cLW_law 316 = .ok (.pop, 1) := by decide +kernel
theorem dLW_law_317 : decode cLW_law 317 = .ok (.goto 298, 3) := by decide +kernel
theorem dLW_law_320 : decode cLW_law 320 = .ok (.aload_n 1, 1) := by decide +kernel
theorem dLW_law_321 : decode cLW_law 321 = .ok (.invokevirtual 41, 3) := by decide +kernel
theorem dLW_law_324 : decode cLW_law 324 = .ok (.pop, 1) := by decide +kernel
theorem dLW_law_325 : decode cLW_law 325 = .ok (.aload_n 2, 1) := by decide +kernel
theorem dLW_law_326 : decode cLW_law 326 = .ok (.invokevirtual 44, 3) := by decide +kernel
theorem dLW_law_329 : decode cLW_law 329 = .ok (.pop, 1) := by decide +kernel
theorem dLW_law_330 : decode cLW_law 330 = .ok (.goto 285, 3) := by decide +kernel
theorem dLW_law_333 : decode cLW_law 333 = .ok (.aload_n 1, 1) := by decide +kernel
theorem dLW_law_334 : decode cLW_law 334 = .ok (.invokevirtual 45, 3) := by decide +kernel
theorem dLW_law_337 : decode cLW_law 337 = .ok (.pop, 1) := by decide +kernel
theorem dLW_law_338 : decode cLW_law 338 = .ok (.aload_n 2, 1) := by decide +kernel
theorem dLW_law_339 : decode cLW_law 339 = .ok (.invokevirtual 48, 3) := by decide +kernel
theorem dLW_law_342 : decode cLW_law 342 = .ok (.pop, 1) := by decide +kernel
theorem dLW_law_343 : decode cLW_law 343 = .ok (.goto 272, 3) := by decide +kernel
theorem dLW_law_346 : decode cLW_law 346 = .ok (.aload_n 1, 1) := by decide +kernel
theorem dLW_law_347 : decode cLW_law 347 = .ok (.aload_n 0, 1) := by decide +kernel
theorem dLW_law_348 : decode cLW_law 348 = .ok (.iload_n 3, 1) := by decide +kernel
theorem dLW_law_349 : decode cLW_law 349 = .ok (.iconst 1, 1) := by decide +kernel
theorem dLW_law_350 : decode cLW_law 350 = .ok (.iadd, 1) := by decide +kernel
theorem dLW_law_351 : decode cLW_law 351 = .ok (.iaload, 1) := by decide +kernel
