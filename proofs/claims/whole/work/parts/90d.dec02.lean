theorem dl_248 : decode code 248 = .ok (.ifCond .eq 5, 3) := by decide +kernel
theorem dl_251 : decode code 251 = .ok (.iconst 0, 1) := by decide +kernel
theorem dl_252 : decode code 252 = .ok (.ireturn, 1) := by decide +kernel
theorem dl_253 : decode code 253 = .ok (.goto 649, 3) := by decide +kernel
theorem dl_256 : decode code 256 = .ok (.aload_n 1, 1) := by decide +kernel
theorem dl_257 : decode code 257 = .ok (.aload_n 0, 1) := by decide +kernel
theorem dl_258 : decode code 258 = .ok (.iload 4, 2) := by decide +kernel
theorem dl_260 : decode code 260 = .ok (.iconst 1, 1) := by decide +kernel
theorem dl_261 : decode code 261 = .ok (.iadd, 1) := by decide +kernel
theorem dl_262 : decode code 262 = .ok (.iaload, 1) := by decide +kernel
theorem dl_263 : decode code 263 = .ok (.aload_n 0, 1) := by decide +kernel
theorem dl_264 : decode code 264 = .ok (.iload 4, 2) := by decide +kernel
theorem dl_266 : decode code 266 = .ok (.iconst 2, 1) := by decide +kernel
theorem dl_267 : decode code 267 = .ok (.iadd, 1) := by decide +kernel
theorem dl_268 : decode code 268 = .ok (.iaload, 1) := by decide +kernel
theorem dl_269 : decode code 269 = .ok (.aload_n 3, 1) := by decide +kernel
theorem dl_270 : decode code 270 = .ok (.invokestatic 70, 3) := by decide +kernel
theorem dl_273 : decode code 273 = .ok (.istore 5, 2) := by decide +kernel
theorem dl_275 : decode code 275 = .ok (.aload_n 2, 1) := by decide +kernel
theorem dl_276 : decode code 276 = .ok (.aload_n 0, 1) := by decide +kernel
theorem dl_277 : decode code 277 = .ok (.iload 4, 2) := by decide +kernel
theorem dl_279 : decode code 279 = .ok (.iconst 1, 1) := by decide +kernel
theorem dl_280 : decode code 280 = .ok (.iadd, 1) := by decide +kernel
theorem dl_281 : decode code 281 = .ok (.iaload, 1) := by decide +kernel
theorem dl_282 : decode code 282 = .ok (.aload_n 0, 1) := by decide +kernel
theorem dl_283 : decode code 283 = .ok (.iload 4, 2) := by decide +kernel
theorem dl_285 : decode code 285 = .ok (.iconst 2, 1) := by decide +kernel
theorem dl_286 : decode code 286 = .ok (.iadd, 1) := by decide +kernel
theorem dl_287 : decode code 287 = .ok (.iaload, 1) := by decide +kernel
theorem dl_288 : decode code 288 = .ok (.invokevirtual 72, 3) := by decide +kernel
theorem dl_291 : decode code 291 = .ok (.istore 6, 2) := by decide +kernel
theorem dl_293 : decode code 293 = .ok (.aload_n 2, 1) := by decide +kernel
theorem dl_294 : decode code 294 = .ok (.invokevirtual 62, 3) := by decide +kernel
theorem dl_297 : decode code 297 = .ok (.iload 5, 2) := by decide +kernel
theorem dl_299 : decode code 299 = .ok (.if_icmp .eq 5, 3) := by decide +kernel
theorem dl_302 : decode code 302 = .ok (.iconst 0, 1) := by decide +kernel
theorem dl_303 : decode code 303 = .ok (.ireturn, 1) := by decide +kernel
theorem dl_304 : decode code 304 = .ok (.iload 5, 2) := by decide +kernel
theorem dl_306 : decode code 306 = .ok (.ifCond .ne 15, 3) := by decide +kernel
theorem dl_309 : decode code 309 = .ok (.aload_n 3, 1) := by decide +kernel
theorem dl_310 : decode code 310 = .ok (.iconst 0, 1) := by decide +kernel
theorem dl_311 : decode code 311 = .ok (.laload, 1) := by decide +kernel
theorem dl_312 : decode code 312 = .ok (.iload 6, 2) := by decide +kernel
theorem dl_314 : decode code 314 = .ok (.i2l, 1) := by decide +kernel
theorem dl_315 : decode code 315 = .ok (.lcmp, 1) := by decide +kernel
theorem dl_316 : decode code 316 = .ok (.ifCond .eq 5, 3) := by decide +kernel
theorem dl_319 : decode code 319 = .ok (.iconst 0, 1) := by decide +kernel
theorem dl_320 : decode code 320 = .ok (.ireturn, 1) := by decide +kernel
theorem dl_321 : decode code 321 = .ok (.goto 581, 3) := by decide +kernel
theorem dl_324 : decode code 324 = .ok (.aload_n 1, 1) := by decide +kernel
theorem dl_325 : decode code 325 = .ok (.aload_n 0, 1) := by decide +kernel
theorem dl_326 : decode code 326 = .ok (.iload 4, 2) := by decide +kernel
theorem dl_328 : decode code 328 = .ok (.iconst 1, 1) := by decide +kernel
theorem dl_329 : decode code 329 = .ok (.iadd, 1) := by decide +kernel
theorem dl_330 : decode code 330 = .ok (.iaload, 1) := by decide +kernel
theorem dl_331 : decode code 331 = .ok (.aload_n 0, 1) := by decide +kernel
theorem dl_332 : decode code 332 = .ok (.iload 4, 2) := by decide +kernel
theorem dl_334 : decode code 334 = .ok (.iconst 2, 1) := by decide +kernel
theorem dl_335 : decode code 335 = .ok (.iadd, 1) := by decide +kernel
theorem dl_336 : decode code 336 = .ok (.iaload, 1) := by decide +kernel
