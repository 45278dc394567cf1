theorem dL_texts_189 : decode cL_texts 189 = .ok (.aload_n 0, 1) := by decide +kernel
theorem dL_texts_190 : decode cL_texts 190 = .ok (.ldc2_w 142, 3) := by decide +kernel
theorem dL_texts_193 : decode cL_texts 193 = .ok (.lconst 0, 1) := by decide +kernel
theorem dL_texts_194 : decode cL_texts 194 = .ok (.iconst 0, 1) := by decide +kernel
theorem dL_texts_195 : decode cL_texts 195 = .ok (.iconst 3, 1) := by decide +kernel
theorem dL_texts_196 : decode cL_texts 196 = .ok (.invokestatic 118, 3) := by decide +kernel
theorem dL_texts_199 : decode cL_texts 199 = .ok (.ifCond .eq 48, 3) := by decide +kernel
theorem dL_texts_202 : decode cL_texts 202 = .ok (.aload_n 0, 1) := by decide +kernel
theorem dL_texts_203 : decode cL_texts 203 = .ok (.ldc2_w 144, 3) := by decide +kernel
theorem dL_texts_206 : decode cL_texts 206 = .ok (.ldc2_w 130, 3) := by decide +kernel
theorem dL_texts_209 : decode cL_texts 209 = .ok (.iconst 0, 1) := by decide +kernel
theorem dL_texts_210 : decode cL_texts 210 = .ok (.iconst 3, 1) := by decide +kernel
theorem dL_texts_211 : decode cL_texts 211 = .ok (.invokestatic 118, 3) := by decide +kernel
theorem dL_texts_214 : decode cL_texts 214 = .ok (.ifCond .eq 33, 3) := by decide +kernel
theorem dL_texts_217 : decode cL_texts 217 = .ok (.aload_n 0, 1) := by decide +kernel
theorem dL_texts_218 : decode cL_texts 218 = .ok (.ldc2_w 144, 3) := by decide +kernel
theorem dL_texts_221 : decode cL_texts 221 = .ok (.ldc2_w 140, 3) := by decide +kernel
theorem dL_texts_224 : decode cL_texts 224 = .ok (.bipush (-4), 2) := by decide +kernel
theorem dL_texts_226 : decode cL_texts 226 = .ok (.bipush (-4), 2) := by decide +kernel
theorem dL_texts_228 : decode cL_texts 228 = .ok (.invokestatic 118, 3) := by decide +kernel
theorem dL_texts_231 : decode cL_texts 231 = .ok (.ifCond .eq 16, 3) := by decide +kernel
theorem dL_texts_234 : decode cL_texts 234 = .ok (.aload_n 0, 1) := by decide +kernel
theorem dL_texts_235 : decode cL_texts 235 = .ok (.ldc2_w 146, 3) := by decide +kernel
theorem dL_texts_238 : decode cL_texts 238 = .ok (.lconst 0, 1) := by decide +kernel
theorem dL_texts_239 : decode cL_texts 239 = .ok (.iconst 0, 1) := by decide +kernel
theorem dL_texts_240 : decode cL_texts 240 = .ok (.iconst 1, 1) := by decide +kernel
theorem dL_texts_241 : decode cL_texts 241 = .ok (.invokestatic 118, 3) := by decide +kernel
theorem dL_texts_244 : decode cL_texts 244 = .ok (.ifCond .ne 5, 3) := by decide +kernel
theorem dL_texts_247 : decode cL_texts 247 = .ok (.iconst 0, 1) := by decide +kernel
theorem dL_texts_248 : decode cL_texts 248 = .ok (.ireturn, 1) := by decide +kernel
theorem dL_texts_249 : decode cL_texts 249 = .ok (.aload_n 0, 1) := by decide +kernel
theorem dL_texts_250 : decode cL_texts 250 = .ok (.ldc2_w 148, 3) := by decide +kernel
theorem dL_texts_253 : decode cL_texts 253 = .ok (.ldc2_w 150, 3) := by decide +kernel
theorem dL_texts_256 : decode cL_texts 256 = .ok (.iconst 0, 1) := by decide +kernel
theorem dL_texts_257 : decode cL_texts 257 = .ok (.iconst 1, 1) := by decide +kernel
theorem dL_texts_258 : decode cL_texts 258 = .ok (.invokestatic 118, 3) := by decide +kernel
theorem dL_texts_261 : decode cL_texts 261 = .ok (.ifCond .eq 46, 3) := by decide +kernel
theorem dL_texts_264 : decode cL_texts 264 = .ok (.aload_n 0, 1) := by decide +kernel
theorem dL_texts_265 : decode cL_texts 265 = .ok (.ldc2_w 152, 3) := by decide +kernel
theorem dL_texts_268 : decode cL_texts 268 = .ok (.lconst 0, 1) := by decide +kernel
theorem dL_texts_269 : decode cL_texts 269 = .ok (.iconst 0, 1) := by decide +kernel
theorem dL_texts_270 : decode cL_texts 270 = .ok (.iconst 1, 1) := by decide +kernel
theorem dL_texts_271 : decode cL_texts 271 = .ok (.invokestatic 118, 3) := by decide +kernel
theorem dL_texts_274 : decode cL_texts 274 = .ok (.ifCond .eq 33, 3) := by decide +kernel
theorem dL_texts_277 : decode cL_texts 277 = .ok (.aload_n 0, 1) := by decide +kernel
theorem dL_texts_278 : decode cL_texts 278 = .ok (.ldc2_w 154, 3) := by decide +kernel
theorem dL_texts_281 : decode cL_texts 281 = .ok (.ldc2_w 156, 3) := by decide +kernel
theorem dL_texts_284 : decode cL_texts 284 = .ok (.bipush 6, 2) := by decide +kernel
theorem dL_texts_286 : decode cL_texts 286 = .ok (.iconst 2, 1) := by decide +kernel
theorem dL_texts_287 : decode cL_texts 287 = .ok (.invokestatic 118, 3) := by decide +kernel
theorem dL_texts_290 : decode cL_texts 290 = .ok (.ifCond .eq 17, 3) := by decide +kernel
theorem dL_texts_293 : decode cL_texts 293 = .ok (.aload_n 0, 1) := by decide +kernel
theorem dL_texts_294 : decode cL_texts 294 = .ok (.ldc2_w 158, 3) := by decide +kernel
theorem dL_texts_297 : decode cL_texts 297 = .ok (.lconst 0, 1) := by decide +kernel
theorem dL_texts_298 : decode cL_texts 298 = .ok (.bipush 6, 2) := by decide +kernel
theorem dL_texts_300 : decode cL_texts 300 = .ok (.iconst 1, 1) := by decide +kernel
theorem dL_texts_301 : decode cL_texts 301 = .ok (.invokestatic 118, 3) := by decide +kernel
theorem dL_texts_304 : decode cL_texts 304 = .ok (.ifCond .ne 5, 3) := by decide +kernel
theorem dL_texts_307 : decode cL_texts 307 = .ok (.iconst 0, 1) := by decide +kernel
theorem dL_texts_308 : decode cL_texts 308 = .ok (.ireturn, 1) := by decide +kernel
theorem dL_texts_309 : decode cL_texts 309 = .ok (.aload_n 0, 1) := by decide +kernel
theorem dL_texts_310 : decode cL_texts 310 = .ok (.lconst 0, 1) := by decide +kernel
theorem dL_texts_311 : decode cL_texts 311 = .ok (.lconst 0, 1) := by decide +kernel
theorem dL_texts_312 : decode cL_texts 312 = .ok (.bipush (-4), 2) := by decide +kernel
theorem dL_texts_314 : decode cL_texts 314 = .ok (.bipush (-4), 2) := by decide +kernel
theorem dL_texts_316 : decode cL_texts 316 = .ok (.invokestatic 118, 3) := by decide +kernel
theorem dL_texts_319 : decode cL_texts 319 = .ok (.ifCond .eq 45, 3) := by decide +kernel
theorem dL_texts_322 : decode cL_texts 322 = .ok (.aload_n 0, 1) := by decide +kernel
theorem dL_texts_323 : decode cL_texts 323 = .ok (.ldc2_w 160, 3) := by decide +kernel
theorem dL_texts_326 : decode cL_texts 326 = .ok (.lconst 0, 1) := by decide +kernel
theorem dL_texts_327 : decode cL_texts 327 = .ok (.iconst 0, 1) := by decide +kernel
theorem dL_texts_328 : decode cL_texts 328 = .ok (.iconst 1, 1) := by decide +kernel
theorem dL_texts_329 : decode cL_texts 329 = .ok (.invokestatic 118, 3) := by decide +kernel
theorem dL_texts_332 : decode cL_texts 332 = .ok (.ifCond .eq 32, 3) := by decide +kernel
theorem dL_texts_335 : decode cL_texts 335 = .ok (.aload_n 0, 1) := by decide +kernel
theorem dL_texts_336 : decode cL_texts 336 = .ok (.ldc2_w 162, 3) := by decide +kernel
theorem dL_texts_339 : decode cL_texts 339 = .ok (.lconst 0, 1) := by decide +kernel
theorem dL_texts_340 : decode cL_texts 340 = .ok (.iconst 0, 1) := by decide +kernel
theorem dL_texts_341 : decode cL_texts 341 = .ok (.iconst 1, 1) := by decide +kernel
theorem dL_texts_342 : decode cL_texts 342 = .ok (.invokestatic 118, 3) := by decide +kernel
theorem dL_texts_345 : decode cL_texts 345 = .ok (.ifCond .eq 19, 3) := by decide +kernel
theorem dL_texts_348 : decode cL_texts 348 = .ok (.aload_n 0, 1) := by decide +kernel
theorem dL_texts_349 : decode cL_texts 349 = .ok (.ldc2_w 164, 3) := by decide +kernel
theorem dL_texts_352 : decode cL_texts 352 = .ok (.ldc2_w 166, 3) := by decide +kernel
theorem dL_texts_355 : decode cL_texts 355 = .ok (.bipush 8, 2) := by decide +kernel
theorem dL_texts_357 : decode cL_texts 357 = .ok (.iconst 1, 1) := by decide +kernel
theorem dL_texts_358 : decode cL_texts 358 = .ok (.invokestatic 118, 3) := by decide +kernel
theorem dL_texts_361 : decode cL_texts 361 = .ok (.ifCond .ne 5, 3) := by decide +kernel
theorem dL_texts_364 : decode cL_texts 364 = .ok (.iconst 0, 1) := by decide +kernel
theorem dL_texts_365 : decode cL_texts 365 = .ok (.ireturn, 1) := by decide +kernel
theorem dL_texts_366 : decode cL_texts 366 = .ok (.aload_n 0, 1) := by decide +kernel
theorem dL_texts_367 : decode cL_texts 367 = .ok (.ldc2_w 168, 3) := by decide +kernel
