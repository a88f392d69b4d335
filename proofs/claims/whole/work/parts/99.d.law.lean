/-! ===== own: the law: its cases ===== -/
theorem dL_law_0 : decode cL_law 0 = .ok (.new 7, 3) := by decide +kernel
theorem dL_law_3 : decode cL_law 3 = .ok (.dup, 1) := by decide +kernel
theorem dL_law_4 : decode cL_law 4 = .ok (.invokespecial 9, 3) := by decide +kernel
theorem dL_law_7 : decode cL_law 7 = .ok (.astore_n 1, 1) := by decide +kernel
theorem dL_law_8 : decode cL_law 8 = .ok (.new 10, 3) := by decide +kernel
theorem dL_law_11 : decode cL_law 11 = .ok (.dup, 1) := by decide +kernel
theorem dL_law_12 : decode cL_law 12 = .ok (.invokespecial 12, 3) := by decide +kernel
theorem dL_law_15 : decode cL_law 15 = .ok (.astore_n 2, 1) := by decide +kernel
theorem dL_law_16 : decode cL_law 16 = .ok (.iconst 0, 1) := by decide +kernel
theorem dL_law_17 : decode cL_law 17 = .ok (.istore_n 3, 1) := by decide +kernel
theorem dL_law_18 : decode cL_law 18 = .ok (.iload_n 3, 1) := by decide +kernel
theorem dL_law_19 : decode cL_law 19 = .ok (.aload_n 0, 1) := by decide +kernel
theorem dL_law_20 : decode cL_law 20 = .ok (.arraylength, 1) := by decide +kernel
theorem dL_law_21 : decode cL_law 21 = .ok (.iconst 4, 1) := by decide +kernel
theorem dL_law_22 : decode cL_law 22 = .ok (.isub, 1) := by decide +kernel
theorem dL_law_23 : decode cL_law 23 = .ok (.if_icmp .gt 780, 3) := by decide +kernel
theorem dL_law_26 : decode cL_law 26 = .ok (.aload_n 0, 1) := by decide +kernel
theorem dL_law_27 : decode cL_law 27 = .ok (.iload_n 3, 1) := by decide +kernel
theorem dL_law_28 : decode cL_law 28 = .ok (.iaload, 1) := by decide +kernel
theorem dL_law_29 : decode cL_law 29 = .ok (.bipush 31, 2) := by decide +kernel
theorem dL_law_31 : decode cL_law 31 = .ok (.iand, 1) := by decide +kernel
theorem dL_law_32 : decode cL_law 32 = .ok (.tableswitch 765 0 26 #[124, 167, 200, 233, 266, 289, 312, 325, 338, 361, 374, 397, 440, 473, 506, 519, 532, 545, 568, 601, 624, 647, 660, 683, 696, 719, 742], 124) := by decide +kernel
theorem dL_law_156 : decode cL_law 156 = .ok (.aload_n 1, 1) := by decide +kernel
theorem dL_law_157 : decode cL_law 157 = .ok (.aload_n 0, 1) := by decide +kernel
theorem dL_law_158 : decode cL_law 158 = .ok (.iload_n 3, 1) := by decide +kernel
theorem dL_law_159 : decode cL_law 159 = .ok (.iconst 1, 1) := by decide +kernel
theorem dL_law_160 : decode cL_law 160 = .ok (.iadd, 1) := by decide +kernel
theorem dL_law_161 : decode cL_law 161 = .ok (.iaload, 1) := by decide +kernel
theorem dL_law_162 : decode cL_law 162 = .ok (.aload_n 0, 1) := by decide +kernel
theorem dL_law_163 : decode cL_law 163 = .ok (.iload_n 3, 1) := by decide +kernel
theorem dL_law_164 : decode cL_law 164 = .ok (.iconst 2, 1) := by decide +kernel
theorem dL_law_165 : decode cL_law 165 = .ok (.iadd, 1) := by decide +kernel
theorem dL_law_166 : decode cL_law 166 = .ok (.iaload, 1) := by decide +kernel
theorem dL_law_167 : decode cL_law 167 = .ok (.aload_n 0, 1) := by decide +kernel
theorem dL_law_168 : decode cL_law 168 = .ok (.iload_n 3, 1) := by decide +kernel
theorem dL_law_169 : decode cL_law 169 = .ok (.iconst 3, 1) := by decide +kernel
theorem dL_law_170 : decode cL_law 170 = .ok (.iadd, 1) := by decide +kernel
theorem dL_law_171 : decode cL_law 171 = .ok (.iaload, 1) := by decide +kernel
theorem dL_law_172 : decode cL_law 172 = .ok (.invokevirtual 13, 3) := by decide +kernel
theorem dL_law_175 : decode cL_law 175 = .ok (.aload_n 2, 1) := by decide +kernel
theorem dL_law_176 : decode cL_law 176 = .ok (.aload_n 0, 1) := by decide +kernel
theorem dL_law_177 : decode cL_law 177 = .ok (.iload_n 3, 1) := by decide +kernel
theorem dL_law_178 : decode cL_law 178 = .ok (.iconst 1, 1) := by decide +kernel
theorem dL_law_179 : decode cL_law 179 = .ok (.iadd, 1) := by decide +kernel
theorem dL_law_180 : decode cL_law 180 = .ok (.iaload, 1) := by decide +kernel
theorem dL_law_181 : decode cL_law 181 = .ok (.aload_n 0, 1) := by decide +kernel
theorem dL_law_182 : decode cL_law 182 = .ok (.iload_n 3, 1) := by decide +kernel
theorem dL_law_183 : decode cL_law 183 = .ok (.iconst 2, 1) := by decide +kernel
theorem dL_law_184 : decode cL_law 184 = .ok (.iadd, 1) := by decide +kernel
theorem dL_law_185 : decode cL_law 185 = .ok (.iaload, 1) := by decide +kernel
theorem dL_law_186 : decode cL_law 186 = .ok (.aload_n 0, 1) := by decide +kernel
theorem dL_law_187 : decode cL_law 187 = .ok (.iload_n 3, 1) := by decide +kernel
theorem dL_law_188 : decode cL_law 188 = .ok (.iconst 3, 1) := by decide +kernel
theorem dL_law_189 : decode cL_law 189 = .ok (.iadd, 1) := by decide +kernel
theorem dL_law_190 : decode cL_law 190 = .ok (.iaload, 1) := by decide +kernel
theorem dL_law_191 : decode cL_law 191 = .ok (.invokevirtual 17, 3) := by decide +kernel
theorem dL_law_194 : decode cL_law 194 = .ok (.if_icmp .eq 603, 3) := by decide +kernel
theorem dL_law_197 : decode cL_law 197 = .ok (.iconst 0, 1) := by decide +kernel
theorem dL_law_198 : decode cL_law 198 = .ok (.ireturn, 1) := by decide +kernel
theorem dL_law_199 : decode cL_law 199 = .ok (.aload_n 1, 1) := by decide +kernel
theorem dL_law_200 : decode cL_law 200 = .ok (.aload_n 0, 1) := by decide +kernel
theorem dL_law_201 : decode cL_law 201 = .ok (.iload_n 3, 1) := by decide +kernel
theorem dL_law_202 : decode cL_law 202 = .ok (.iconst 1, 1) := by decide +kernel
theorem dL_law_203 : decode cL_law 203 = .ok (.iadd, 1) := by decide +kernel
theorem dL_law_204 : decode cL_law 204 = .ok (.iaload, 1) := by decide +kernel
theorem dL_law_205 : decode cL_law 205 = .ok (.aload_n 0, 1) := by decide +kernel
theorem dL_law_206 : decode cL_law 206 = .ok (.iload_n 3, 1) := by decide +kernel
theorem dL_law_207 : decode cL_law 207 = .ok (.iconst 2, 1) := by decide +kernel
theorem dL_law_208 : decode cL_law 208 = .ok (.iadd, 1) := by decide +kernel
theorem dL_law_209 : decode cL_law 209 = .ok (.iaload, 1) := by decide +kernel
theorem dL_law_210 : decode cL_law 210 = .ok (.invokevirtual 18, 3) := by decide +kernel
theorem dL_law_213 : decode cL_law 213 = .ok (.aload_n 2, 1) := by decide +kernel
theorem dL_law_214 : decode cL_law 214 = .ok (.aload_n 0, 1) := by decide +kernel
theorem dL_law_215 : decode cL_law 215 = .ok (.iload_n 3, 1) := by decide +kernel
theorem dL_law_216 : decode cL_law 216 = .ok (.iconst 1, 1) := by decide +kernel
theorem dL_law_217 : decode cL_law 217 = .ok (.iadd, 1) := by decide +kernel
theorem dL_law_218 : decode cL_law 218 = .ok (.iaload, 1) := by decide +kernel
theorem dL_law_219 : decode cL_law 219 = .ok (.aload_n 0, 1) := by decide +kernel
theorem dL_law_220 : decode cL_law 220 = .ok (.iload_n 3, 1) := by decide +kernel
theorem dL_law_221 : decode cL_law 221 = .ok (.iconst 2, 1) := by decide +kernel
theorem dL_law_222 : decode cL_law 222 = .ok (.iadd, 1) := by decide +kernel
theorem dL_law_223 : decode cL_law 223 = .ok (.iaload, 1) := by decide +kernel
theorem dL_law_224 : decode cL_law 224 = .ok (.invokevirtual 22, 3) := by decide +kernel
theorem dL_law_227 : decode cL_law 227 = .ok (.if_icmp .eq 570, 3) := by decide +kernel
theorem dL_law_230 : decode cL_law 230 = .ok (.iconst 0, 1) := by decide +kernel
theorem dL_law_231 : decode cL_law 231 = .ok (.ireturn, 1) := by decide +kernel
theorem dL_law_232 : decode cL_law 232 = .ok (.aload_n 1, 1) := by decide +kernel
theorem dL_law_233 : decode cL_law 233 = .ok (.aload_n 0, 1) := by decide +kernel
theorem dL_law_234 : decode cL_law 234 = .ok (.iload_n 3, 1) := by decide +kernel
theorem dL_law_235 : decode cL_law 235 = .ok (.iconst 1, 1) := by decide +kernel
theorem dL_law_236 : decode cL_law 236 = .ok (.iadd, 1) := by decide +kernel
theorem dL_law_237 : decode cL_law 237 = .ok (.iaload, 1) := by decide +kernel
theorem dL_law_238 : decode cL_law 238 = .ok (.aload_n 0, 1) := by decide +kernel
theorem dL_law_239 : decode cL_law 239 = .ok (.iload_n 3, 1) := by decide +kernel
theorem dL_law_240 : decode cL_law 240 = .ok (.iconst 2, 1) := by decide +kernel
theorem dL_law_241 : decode cL_law 241 = .ok (.iadd, 1) := by decide +kernel
theorem dL_law_242 : decode cL_law 242 = .ok (.iaload, 1) := by decide +kernel
theorem dL_law_243 : decode cL_law 243 = .ok (.invokevirtual 23, 3) := by decide +kernel
theorem dL_law_246 : decode cL_law 246 = .ok (.aload_n 2, 1) := by decide +kernel
theorem dL_law_247 : decode cL_law 247 = .ok (.aload_n 0, 1) := by decide +kernel
theorem dL_law_248 : decode cL_law 248 = .ok (.iload_n 3, 1) := by decide +kernel
theorem dL_law_249 : decode cL_law 249 = .ok (.iconst 1, 1) := by decide +kernel
theorem dL_law_250 : decode cL_law 250 = .ok (.iadd, 1) := by decide +kernel
theorem dL_law_251 : decode cL_law 251 = .ok (.iaload, 1) := by decide +kernel
theorem dL_law_252 : decode cL_law 252 = .ok (.aload_n 0, 1) := by decide +kernel
theorem dL_law_253 : decode cL_law 253 = .ok (.iload_n 3, 1) := by decide +kernel
theorem dL_law_254 : decode cL_law 254 = .ok (.iconst 2, 1) := by decide +kernel
theorem dL_law_255 : decode cL_law 255 = .ok (.iadd, 1) := by decide +kernel
theorem dL_law_256 : decode cL_law 256 = .ok (.iaload, 1) := by decide +kernel
theorem dL_law_257 : decode cL_law 257 = .ok (.invokevirtual 26, 3) := by decide +kernel
theorem dL_law_260 : decode cL_law 260 = .ok (.if_icmp .eq 537, 3) := by decide +kernel
theorem dL_law_263 : decode cL_law 263 = .ok (.iconst 0, 1) := by decide +kernel
theorem dL_law_264 : decode cL_law 264 = .ok (.ireturn, 1) := by decide +kernel
theorem dL_law_265 : decode cL_law 265 = .ok (.aload_n 1, 1) := by decide +kernel
theorem dL_law_266 : decode cL_law 266 = .ok (.aload_n 0, 1) := by decide +kernel
theorem dL_law_267 : decode cL_law 267 = .ok (.iload_n 3, 1) := by decide +kernel
theorem dL_law_268 : decode cL_law 268 = .ok (.iconst 1, 1) := by decide +kernel
theorem dL_law_269 : decode cL_law 269 = .ok (.iadd, 1) := by decide +kernel
theorem dL_law_270 : decode cL_law 270 = .ok (.iaload, 1) := by decide +kernel
theorem dL_law_271 : decode cL_law 271 = .ok (.aload_n 0, 1) := by decide +kernel
theorem dL_law_272 : decode cL_law 272 = .ok (.iload_n 3, 1) := by decide +kernel
theorem dL_law_273 : decode cL_law 273 = .ok (.iconst 2, 1) := by decide +kernel
theorem dL_law_274 : decode cL_law 274 = .ok (.iadd, 1) := by decide +kernel
theorem dL_law_275 : decode cL_law 275 = .ok (.iaload, 1) := by decide +kernel
theorem dL_law_276 : decode cL_law 276 = .ok (.invokevirtual 27, 3) := by decide +kernel
theorem dL_law_279 : decode cL_law 279 = .ok (.aload_n 2, 1) := by decide +kernel
theorem dL_law_280 : decode cL_law 280 = .ok (.aload_n 0, 1) := by decide +kernel
theorem dL_law_281 : decode cL_law 281 = .ok (.iload_n 3, 1) := by decide +kernel
theorem dL_law_282 : decode cL_law 282 = .ok (.iconst 1, 1) := by decide +kernel
theorem dL_law_283 : decode cL_law 283 = .ok (.iadd, 1) := by decide +kernel
theorem dL_law_284 : decode cL_law 284 = .ok (.iaload, 1) := by decide +kernel
theorem dL_law_285 : decode cL_law 285 = .ok (.aload_n 0, 1) := by decide +kernel
theorem dL_law_286 : decode cL_law 286 = .ok (.iload_n 3, 1) := by decide +kernel
theorem dL_law_287 : decode cL_law 287 = .ok (.iconst 2, 1) := by decide +kernel
theorem dL_law_288 : decode cL_law 288 = .ok (.iadd, 1) := by decide +kernel
theorem dL_law_289 : decode cL_law 289 = .ok (.iaload, 1) := by decide +kernel
theorem dL_law_290 : decode cL_law 290 = .ok (.invokevirtual 30, 3) := by decide +kernel
theorem dL_law_293 : decode cL_law 293 = .ok (.if_icmp .eq 504, 3) := by decide +kernel
theorem dL_law_296 : decode cL_law 296 = .ok (.iconst 0, 1) := by decide +kernel
theorem dL_law_297 : decode cL_law 297 = .ok (.ireturn, 1) := by decide +kernel
theorem dL_law_298 : decode cL_law 298 = .ok (.aload_n 1, 1) := by decide +kernel
theorem dL_law_299 : decode cL_law 299 = .ok (.aload_n 0, 1) := by decide +kernel
theorem dL_law_300 : decode cL_law 300 = .ok (.iload_n 3, 1) := by decide +kernel
theorem dL_law_301 : decode cL_law 301 = .ok (.iconst 1, 1) := by decide +kernel
theorem dL_law_302 : decode cL_law 302 = .ok (.iadd, 1) := by decide +kernel
theorem dL_law_303 : decode cL_law 303 = .ok (.iaload, 1) := by decide +kernel
theorem dL_law_304 : decode cL_law 304 = .ok (.invokevirtual 31, 3) := by decide +kernel
theorem dL_law_307 : decode cL_law 307 = .ok (.aload_n 2, 1) := by decide +kernel
theorem dL_law_308 : decode cL_law 308 = .ok (.aload_n 0, 1) := by decide +kernel
theorem dL_law_309 : decode cL_law 309 = .ok (.iload_n 3, 1) := by decide +kernel
theorem dL_law_310 : decode cL_law 310 = .ok (.iconst 1, 1) := by decide +kernel
theorem dL_law_311 : decode cL_law 311 = .ok (.iadd, 1) := by decide +kernel
theorem dL_law_312 : decode cL_law 312 = .ok (.iaload, 1) := by decide +kernel
theorem dL_law_313 : decode cL_law 313 = .ok (.invokevirtual 35, 3) := by decide +kernel
theorem dL_law_316 : decode cL_law 316 = .ok (.if_icmp .eq 481, 3) := by decide +kernel
theorem dL_law_319 : decode cL_law 319 = .ok (.iconst 0, 1) := by decide +kernel
theorem dL_law_320 : decode cL_law 320 = .ok (.ireturn, 1) := by decide +kernel
theorem dL_law_321 : decode cL_law 321 = .ok (.aload_n 1, 1) := by decide +kernel
theorem dL_law_322 : decode cL_law 322 = .ok (.aload_n 0, 1) := by decide +kernel
theorem dL_law_323 : decode cL_law 323 = .ok (.iload_n 3, 1) := by decide +kernel
theorem dL_law_324 : decode cL_law 324 = .ok (.iconst 1, 1) := by decide +kernel
theorem dL_law_325 : decode cL_law 325 = .ok (.iadd, 1) := by decide +kernel
theorem dL_law_326 : decode cL_law 326 = .ok (.iaload, 1) := by decide +kernel
theorem dL_law_327 : decode cL_law 327 = .ok (.invokevirtual 36, 3) := by decide +kernel
theorem dL_law_330 : decode cL_law 330 = .ok (.aload_n 2, 1) := by decide +kernel
theorem dL_law_331 : decode cL_law 331 = .ok (.aload_n 0, 1) := by decide +kernel
theorem dL_law_332 : decode cL_law 332 = .ok (.iload_n 3, 1) := by decide +kernel
theorem dL_law_333 : decode cL_law 333 = .ok (.iconst 1, 1) := by decide +kernel
theorem dL_law_334 : decode cL_law 334 = .ok (.iadd, 1) := by decide +kernel
theorem dL_law_335 : decode cL_law 335 = .ok (.iaload, 1) := by decide +kernel
theorem dL_law_336 : decode cL_law 336 = .ok (.invokevirtual 39, 3) := by decide +kernel
theorem dL_law_339 : decode cL_law 339 = .ok (.if_icmp .eq 458, 3) := by decide +kernel
theorem dL_law_342 : decode cL_law 342 = .ok (.iconst 0, 1) := by decide +kernel
theorem dL_law_343 : decode cL_law 343 = .ok (.ireturn, 1) := by decide +kernel
theorem dL_law_344 : decode cL_law 344 = .ok (.aload_n 1, 1) := by decide +kernel
theorem dL_law_345 : decode cL_law 345 = .ok (.invokevirtual 40, 3) := by decide +kernel
theorem dL_law_348 : decode cL_law 348 = .ok (.aload_n 2, 1) := by decide +kernel
theorem dL_law_349 : decode cL_law 349 = .ok (.invokevirtual 44, 3) := by decide +kernel
theorem dL_law_352 : decode cL_law 352 = .ok (.if_icmp .eq 445, 3) := by decide +kernel
theorem dL_law_355 : decode cL_law 355 = .ok (.iconst 0, 1) := by decide +kernel
theorem dL_law_356 : decode cL_law 356 = .ok (.ireturn, 1) := by decide +kernel
theorem dL_law_357 : decode cL_law 357 = .ok (.aload_n 1, 1) := by decide +kernel
theorem dL_law_358 : decode cL_law 358 = .ok (.invokevirtual 45, 3) := by decide +kernel
theorem dL_law_361 : decode cL_law 361 = .ok (.aload_n 2, 1) := by decide +kernel
theorem dL_law_362 : decode cL_law 362 = .ok (.invokevirtual 48, 3) := by decide +kernel
theorem dL_law_365 : decode cL_law 365 = .ok (.if_icmp .eq 432, 3) := by decide +kernel
theorem dL_law_368 : decode cL_law 368 = .ok (.iconst 0, 1) := by decide +kernel
theorem dL_law_369 : decode cL_law 369 = .ok (.ireturn, 1) := by decide +kernel
theorem dL_law_370 : decode cL_law 370 = .ok (.aload_n 1, 1) := by decide +kernel
theorem dL_law_371 : decode cL_law 371 = .ok (.aload_n 0, 1) := by decide +kernel
theorem dL_law_372 : decode cL_law 372 = .ok (.iload_n 3, 1) := by decide +kernel
theorem dL_law_373 : decode cL_law 373 = .ok (.iconst 1, 1) := by decide +kernel
theorem dL_law_374 : decode cL_law 374 = .ok (.iadd, 1) := by decide +kernel
theorem dL_law_375 : decode cL_law 375 = .ok (.iaload, 1) := by decide +kernel
theorem dL_law_376 : decode cL_law 376 = .ok (.invokevirtual 49, 3) := by decide +kernel
theorem dL_law_379 : decode cL_law 379 = .ok (.aload_n 2, 1) := by decide +kernel
theorem dL_law_380 : decode cL_law 380 = .ok (.aload_n 0, 1) := by decide +kernel
theorem dL_law_381 : decode cL_law 381 = .ok (.iload_n 3, 1) := by decide +kernel
theorem dL_law_382 : decode cL_law 382 = .ok (.iconst 1, 1) := by decide +kernel
theorem dL_law_383 : decode cL_law 383 = .ok (.iadd, 1) := by decide +kernel
theorem dL_law_384 : decode cL_law 384 = .ok (.iaload, 1) := by decide +kernel
theorem dL_law_385 : decode cL_law 385 = .ok (.invokevirtual 52, 3) := by decide +kernel
theorem dL_law_388 : decode cL_law 388 = .ok (.if_icmp .eq 409, 3) := by decide +kernel
theorem dL_law_391 : decode cL_law 391 = .ok (.iconst 0, 1) := by decide +kernel
theorem dL_law_392 : decode cL_law 392 = .ok (.ireturn, 1) := by decide +kernel
theorem dL_law_393 : decode cL_law 393 = .ok (.aload_n 1, 1) := by decide +kernel
theorem dL_law_394 : decode cL_law 394 = .ok (.invokevirtual 53, 3) := by decide +kernel
theorem dL_law_397 : decode cL_law 397 = .ok (.aload_n 2, 1) := by decide +kernel
theorem dL_law_398 : decode cL_law 398 = .ok (.invokevirtual 56, 3) := by decide +kernel
theorem dL_law_401 : decode cL_law 401 = .ok (.if_icmp .eq 396, 3) := by decide +kernel
theorem dL_law_404 : decode cL_law 404 = .ok (.iconst 0, 1) := by decide +kernel
theorem dL_law_405 : decode cL_law 405 = .ok (.ireturn, 1) := by decide +kernel
theorem dL_law_406 : decode cL_law 406 = .ok (.aload_n 1, 1) := by decide +kernel
theorem dL_law_407 : decode cL_law 407 = .ok (.aload_n 0, 1) := by decide +kernel
theorem dL_law_408 : decode cL_law 408 = .ok (.iload_n 3, 1) := by decide +kernel
theorem dL_law_409 : decode cL_law 409 = .ok (.iconst 1, 1) := by decide +kernel
theorem dL_law_410 : decode cL_law 410 = .ok (.iadd, 1) := by decide +kernel
theorem dL_law_411 : decode cL_law 411 = .ok (.iaload, 1) := by decide +kernel
theorem dL_law_412 : decode cL_law 412 = .ok (.invokevirtual 57, 3) := by decide +kernel
theorem dL_law_415 : decode cL_law 415 = .ok (.aload_n 2, 1) := by decide +kernel
theorem dL_law_416 : decode cL_law 416 = .ok (.aload_n 0, 1) := by decide +kernel
theorem dL_law_417 : decode cL_law 417 = .ok (.iload_n 3, 1) := by decide +kernel
theorem dL_law_418 : decode cL_law 418 = .ok (.iconst 1, 1) := by decide +kernel
theorem dL_law_419 : decode cL_law 419 = .ok (.iadd, 1) := by decide +kernel
theorem dL_law_420 : decode cL_law 420 = .ok (.iaload, 1) := by decide +kernel
theorem dL_law_421 : decode cL_law 421 = .ok (.invokevirtual 60, 3) := by decide +kernel
theorem dL_law_424 : decode cL_law 424 = .ok (.if_icmp .eq 373, 3) := by decide +kernel
theorem dL_law_427 : decode cL_law 427 = .ok (.iconst 0, 1) := by decide +kernel
theorem dL_law_428 : decode cL_law 428 = .ok (.ireturn, 1) := by decide +kernel
theorem dL_law_429 : decode cL_law 429 = .ok (.aload_n 1, 1) := by decide +kernel
theorem dL_law_430 : decode cL_law 430 = .ok (.aload_n 0, 1) := by decide +kernel
theorem dL_law_431 : decode cL_law 431 = .ok (.iload_n 3, 1) := by decide +kernel
theorem dL_law_432 : decode cL_law 432 = .ok (.iconst 1, 1) := by decide +kernel
theorem dL_law_433 : decode cL_law 433 = .ok (.iadd, 1) := by decide +kernel
theorem dL_law_434 : decode cL_law 434 = .ok (.iaload, 1) := by decide +kernel
theorem dL_law_435 : decode cL_law 435 = .ok (.aload_n 0, 1) := by decide +kernel
theorem dL_law_436 : decode cL_law 436 = .ok (.iload_n 3, 1) := by decide +kernel
theorem dL_law_437 : decode cL_law 437 = .ok (.iconst 2, 1) := by decide +kernel
theorem dL_law_438 : decode cL_law 438 = .ok (.iadd, 1) := by decide +kernel
theorem dL_law_439 : decode cL_law 439 = .ok (.iaload, 1) := by decide +kernel
theorem dL_law_440 : decode cL_law 440 = .ok (.aload_n 0, 1) := by decide +kernel
theorem dL_law_441 : decode cL_law 441 = .ok (.iload_n 3, 1) := by decide +kernel
theorem dL_law_442 : decode cL_law 442 = .ok (.iconst 3, 1) := by decide +kernel
theorem dL_law_443 : decode cL_law 443 = .ok (.iadd, 1) := by decide +kernel
theorem dL_law_444 : decode cL_law 444 = .ok (.iaload, 1) := by decide +kernel
theorem dL_law_445 : decode cL_law 445 = .ok (.invokevirtual 61, 3) := by decide +kernel
theorem dL_law_448 : decode cL_law 448 = .ok (.aload_n 2, 1) := by decide +kernel
theorem dL_law_449 : decode cL_law 449 = .ok (.aload_n 0, 1) := by decide +kernel
theorem dL_law_450 : decode cL_law 450 = .ok (.iload_n 3, 1) := by decide +kernel
theorem dL_law_451 : decode cL_law 451 = .ok (.iconst 1, 1) := by decide +kernel
theorem dL_law_452 : decode cL_law 452 = .ok (.iadd, 1) := by decide +kernel
theorem dL_law_453 : decode cL_law 453 = .ok (.iaload, 1) := by decide +kernel
theorem dL_law_454 : decode cL_law 454 = .ok (.aload_n 0, 1) := by decide +kernel
theorem dL_law_455 : decode cL_law 455 = .ok (.iload_n 3, 1) := by decide +kernel
theorem dL_law_456 : decode cL_law 456 = .ok (.iconst 2, 1) := by decide +kernel
theorem dL_law_457 : decode cL_law 457 = .ok (.iadd, 1) := by decide +kernel
theorem dL_law_458 : decode cL_law 458 = .ok (.iaload, 1) := by decide +kernel
theorem dL_law_459 : decode cL_law 459 = .ok (.aload_n 0, 1) := by decide +kernel
theorem dL_law_460 : decode cL_law 460 = .ok (.iload_n 3, 1) := by decide +kernel
theorem dL_law_461 : decode cL_law 461 = .ok (.iconst 3, 1) := by decide +kernel
theorem dL_law_462 : decode cL_law 462 = .ok (.iadd, 1) := by decide +kernel
theorem dL_law_463 : decode cL_law 463 = .ok (.iaload, 1) := by decide +kernel
theorem dL_law_464 : decode cL_law 464 = .ok (.invokevirtual 64, 3) := by decide +kernel
theorem dL_law_467 : decode cL_law 467 = .ok (.if_icmp .eq 330, 3) := by decide +kernel
theorem dL_law_470 : decode cL_law 470 = .ok (.iconst 0, 1) := by decide +kernel
theorem dL_law_471 : decode cL_law 471 = .ok (.ireturn, 1) := by decide +kernel
theorem dL_law_472 : decode cL_law 472 = .ok (.aload_n 1, 1) := by decide +kernel
theorem dL_law_473 : decode cL_law 473 = .ok (.aload_n 0, 1) := by decide +kernel
theorem dL_law_474 : decode cL_law 474 = .ok (.iload_n 3, 1) := by decide +kernel
theorem dL_law_475 : decode cL_law 475 = .ok (.iconst 1, 1) := by decide +kernel
theorem dL_law_476 : decode cL_law 476 = .ok (.iadd, 1) := by decide +kernel
theorem dL_law_477 : decode cL_law 477 = .ok (.iaload, 1) := by decide +kernel
theorem dL_law_478 : decode cL_law 478 = .ok (.aload_n 0, 1) := by decide +kernel
theorem dL_law_479 : decode cL_law 479 = .ok (.iload_n 3, 1) := by decide +kernel
theorem dL_law_480 : decode cL_law 480 = .ok (.iconst 2, 1) := by decide +kernel
theorem dL_law_481 : decode cL_law 481 = .ok (.iadd, 1) := by decide +kernel
theorem dL_law_482 : decode cL_law 482 = .ok (.iaload, 1) := by decide +kernel
theorem dL_law_483 : decode cL_law 483 = .ok (.invokevirtual 65, 3) := by decide +kernel
theorem dL_law_486 : decode cL_law 486 = .ok (.aload_n 2, 1) := by decide +kernel
theorem dL_law_487 : decode cL_law 487 = .ok (.aload_n 0, 1) := by decide +kernel
theorem dL_law_488 : decode cL_law 488 = .ok (.iload_n 3, 1) := by decide +kernel
theorem dL_law_489 : decode cL_law 489 = .ok (.iconst 1, 1) := by decide +kernel
theorem dL_law_490 : decode cL_law 490 = .ok (.iadd, 1) := by decide +kernel
theorem dL_law_491 : decode cL_law 491 = .ok (.iaload, 1) := by decide +kernel
theorem dL_law_492 : decode cL_law 492 = .ok (.aload_n 0, 1) := by decide +kernel
theorem dL_law_493 : decode cL_law 493 = .ok (.iload_n 3, 1) := by decide +kernel
theorem dL_law_494 : decode cL_law 494 = .ok (.iconst 2, 1) := by decide +kernel
theorem dL_law_495 : decode cL_law 495 = .ok (.iadd, 1) := by decide +kernel
theorem dL_law_496 : decode cL_law 496 = .ok (.iaload, 1) := by decide +kernel
theorem dL_law_497 : decode cL_law 497 = .ok (.invokevirtual 68, 3) := by decide +kernel
theorem dL_law_500 : decode cL_law 500 = .ok (.if_icmp .eq 297, 3) := by decide +kernel
theorem dL_law_503 : decode cL_law 503 = .ok (.iconst 0, 1) := by decide +kernel
theorem dL_law_504 : decode cL_law 504 = .ok (.ireturn, 1) := by decide +kernel
theorem dL_law_505 : decode cL_law 505 = .ok (.aload_n 1, 1) := by decide +kernel
theorem dL_law_506 : decode cL_law 506 = .ok (.aload_n 0, 1) := by decide +kernel
theorem dL_law_507 : decode cL_law 507 = .ok (.iload_n 3, 1) := by decide +kernel
theorem dL_law_508 : decode cL_law 508 = .ok (.iconst 1, 1) := by decide +kernel
theorem dL_law_509 : decode cL_law 509 = .ok (.iadd, 1) := by decide +kernel
theorem dL_law_510 : decode cL_law 510 = .ok (.iaload, 1) := by decide +kernel
theorem dL_law_511 : decode cL_law 511 = .ok (.aload_n 0, 1) := by decide +kernel
theorem dL_law_512 : decode cL_law 512 = .ok (.iload_n 3, 1) := by decide +kernel
theorem dL_law_513 : decode cL_law 513 = .ok (.iconst 2, 1) := by decide +kernel
theorem dL_law_514 : decode cL_law 514 = .ok (.iadd, 1) := by decide +kernel
theorem dL_law_515 : decode cL_law 515 = .ok (.iaload, 1) := by decide +kernel
theorem dL_law_516 : decode cL_law 516 = .ok (.invokevirtual 69, 3) := by decide +kernel
theorem dL_law_519 : decode cL_law 519 = .ok (.aload_n 2, 1) := by decide +kernel
theorem dL_law_520 : decode cL_law 520 = .ok (.aload_n 0, 1) := by decide +kernel
theorem dL_law_521 : decode cL_law 521 = .ok (.iload_n 3, 1) := by decide +kernel
theorem dL_law_522 : decode cL_law 522 = .ok (.iconst 1, 1) := by decide +kernel
theorem dL_law_523 : decode cL_law 523 = .ok (.iadd, 1) := by decide +kernel
theorem dL_law_524 : decode cL_law 524 = .ok (.iaload, 1) := by decide +kernel
theorem dL_law_525 : decode cL_law 525 = .ok (.aload_n 0, 1) := by decide +kernel
theorem dL_law_526 : decode cL_law 526 = .ok (.iload_n 3, 1) := by decide +kernel
theorem dL_law_527 : decode cL_law 527 = .ok (.iconst 2, 1) := by decide +kernel
theorem dL_law_528 : decode cL_law 528 = .ok (.iadd, 1) := by decide +kernel
theorem dL_law_529 : decode cL_law 529 = .ok (.iaload, 1) := by decide +kernel
theorem dL_law_530 : decode cL_law 530 = .ok (.invokevirtual 72, 3) := by decide +kernel
theorem dL_law_533 : decode cL_law 533 = .ok (.if_icmp .eq 264, 3) := by decide +kernel
theorem dL_law_536 : decode cL_law 536 = .ok (.iconst 0, 1) := by decide +kernel
theorem dL_law_537 : decode cL_law 537 = .ok (.ireturn, 1) := by decide +kernel
theorem dL_law_538 : decode cL_law 538 = .ok (.aload_n 1, 1) := by decide +kernel
theorem dL_law_539 : decode cL_law 539 = .ok (.invokevirtual 73, 3) := by decide +kernel
theorem dL_law_542 : decode cL_law 542 = .ok (.aload_n 2, 1) := by decide +kernel
theorem dL_law_543 : decode cL_law 543 = .ok (.invokevirtual 76, 3) := by decide +kernel
theorem dL_law_546 : decode cL_law 546 = .ok (.if_icmp .eq 251, 3) := by decide +kernel
theorem dL_law_549 : decode cL_law 549 = .ok (.iconst 0, 1) := by decide +kernel
theorem dL_law_550 : decode cL_law 550 = .ok (.ireturn, 1) := by decide +kernel
theorem dL_law_551 : decode cL_law 551 = .ok (.aload_n 1, 1) := by decide +kernel
theorem dL_law_552 : decode cL_law 552 = .ok (.invokevirtual 77, 3) := by decide +kernel
theorem dL_law_555 : decode cL_law 555 = .ok (.aload_n 2, 1) := by decide +kernel
theorem dL_law_556 : decode cL_law 556 = .ok (.invokevirtual 80, 3) := by decide +kernel
theorem dL_law_559 : decode cL_law 559 = .ok (.if_icmp .eq 238, 3) := by decide +kernel
theorem dL_law_562 : decode cL_law 562 = .ok (.iconst 0, 1) := by decide +kernel
theorem dL_law_563 : decode cL_law 563 = .ok (.ireturn, 1) := by decide +kernel
theorem dL_law_564 : decode cL_law 564 = .ok (.aload_n 1, 1) := by decide +kernel
theorem dL_law_565 : decode cL_law 565 = .ok (.invokevirtual 81, 3) := by decide +kernel
theorem dL_law_568 : decode cL_law 568 = .ok (.aload_n 2, 1) := by decide +kernel
theorem dL_law_569 : decode cL_law 569 = .ok (.invokevirtual 84, 3) := by decide +kernel
theorem dL_law_572 : decode cL_law 572 = .ok (.if_icmp .eq 225, 3) := by decide +kernel
theorem dL_law_575 : decode cL_law 575 = .ok (.iconst 0, 1) := by decide +kernel
theorem dL_law_576 : decode cL_law 576 = .ok (.ireturn, 1) := by decide +kernel
theorem dL_law_577 : decode cL_law 577 = .ok (.aload_n 1, 1) := by decide +kernel
theorem dL_law_578 : decode cL_law 578 = .ok (.aload_n 0, 1) := by decide +kernel
theorem dL_law_579 : decode cL_law 579 = .ok (.iload_n 3, 1) := by decide +kernel
theorem dL_law_580 : decode cL_law 580 = .ok (.iconst 1, 1) := by decide +kernel
theorem dL_law_581 : decode cL_law 581 = .ok (.iadd, 1) := by decide +kernel
theorem dL_law_582 : decode cL_law 582 = .ok (.iaload, 1) := by decide +kernel
theorem dL_law_583 : decode cL_law 583 = .ok (.invokevirtual 85, 3) := by decide +kernel
theorem dL_law_586 : decode cL_law 586 = .ok (.aload_n 2, 1) := by decide +kernel
theorem dL_law_587 : decode cL_law 587 = .ok (.aload_n 0, 1) := by decide +kernel
theorem dL_law_588 : decode cL_law 588 = .ok (.iload_n 3, 1) := by decide +kernel
theorem dL_law_589 : decode cL_law 589 = .ok (.iconst 1, 1) := by decide +kernel
theorem dL_law_590 : decode cL_law 590 = .ok (.iadd, 1) := by decide +kernel
theorem dL_law_591 : decode cL_law 591 = .ok (.iaload, 1) := by decide +kernel
theorem dL_law_592 : decode cL_law 592 = .ok (.invokevirtual 88, 3) := by decide +kernel
theorem dL_law_595 : decode cL_law 595 = .ok (.if_icmp .eq 202, 3) := by decide +kernel
theorem dL_law_598 : decode cL_law 598 = .ok (.iconst 0, 1) := by decide +kernel
theorem dL_law_599 : decode cL_law 599 = .ok (.ireturn, 1) := by decide +kernel
theorem dL_law_600 : decode cL_law 600 = .ok (.aload_n 1, 1) := by decide +kernel
theorem dL_law_601 : decode cL_law 601 = .ok (.aload_n 0, 1) := by decide +kernel
theorem dL_law_602 : decode cL_law 602 = .ok (.iload_n 3, 1) := by decide +kernel
theorem dL_law_603 : decode cL_law 603 = .ok (.iconst 1, 1) := by decide +kernel
theorem dL_law_604 : decode cL_law 604 = .ok (.iadd, 1) := by decide +kernel
theorem dL_law_605 : decode cL_law 605 = .ok (.iaload, 1) := by decide +kernel
theorem dL_law_606 : decode cL_law 606 = .ok (.aload_n 0, 1) := by decide +kernel
theorem dL_law_607 : decode cL_law 607 = .ok (.iload_n 3, 1) := by decide +kernel
theorem dL_law_608 : decode cL_law 608 = .ok (.iconst 2, 1) := by decide +kernel
theorem dL_law_609 : decode cL_law 609 = .ok (.iadd, 1) := by decide +kernel
theorem dL_law_610 : decode cL_law 610 = .ok (.iaload, 1) := by decide +kernel
theorem dL_law_611 : decode cL_law 611 = .ok (.invokevirtual 89, 3) := by decide +kernel
theorem dL_law_614 : decode cL_law 614 = .ok (.aload_n 2, 1) := by decide +kernel
theorem dL_law_615 : decode cL_law 615 = .ok (.aload_n 0, 1) := by decide +kernel
theorem dL_law_616 : decode cL_law 616 = .ok (.iload_n 3, 1) := by decide +kernel
theorem dL_law_617 : decode cL_law 617 = .ok (.iconst 1, 1) := by decide +kernel
theorem dL_law_618 : decode cL_law 618 = .ok (.iadd, 1) := by decide +kernel
theorem dL_law_619 : decode cL_law 619 = .ok (.iaload, 1) := by decide +kernel
theorem dL_law_620 : decode cL_law 620 = .ok (.aload_n 0, 1) := by decide +kernel
theorem dL_law_621 : decode cL_law 621 = .ok (.iload_n 3, 1) := by decide +kernel
theorem dL_law_622 : decode cL_law 622 = .ok (.iconst 2, 1) := by decide +kernel
theorem dL_law_623 : decode cL_law 623 = .ok (.iadd, 1) := by decide +kernel
theorem dL_law_624 : decode cL_law 624 = .ok (.iaload, 1) := by decide +kernel
theorem dL_law_625 : decode cL_law 625 = .ok (.invokevirtual 92, 3) := by decide +kernel
theorem dL_law_628 : decode cL_law 628 = .ok (.if_icmp .eq 169, 3) := by decide +kernel
theorem dL_law_631 : decode cL_law 631 = .ok (.iconst 0, 1) := by decide +kernel
theorem dL_law_632 : decode cL_law 632 = .ok (.ireturn, 1) := by decide +kernel
theorem dL_law_633 : decode cL_law 633 = .ok (.aload_n 1, 1) := by decide +kernel
theorem dL_law_634 : decode cL_law 634 = .ok (.aload_n 0, 1) := by decide +kernel
theorem dL_law_635 : decode cL_law 635 = .ok (.iload_n 3, 1) := by decide +kernel
theorem dL_law_636 : decode cL_law 636 = .ok (.iconst 1, 1) := by decide +kernel
theorem dL_law_637 : decode cL_law 637 = .ok (.iadd, 1) := by decide +kernel
theorem dL_law_638 : decode cL_law 638 = .ok (.iaload, 1) := by decide +kernel
theorem dL_law_639 : decode cL_law 639 = .ok (.invokevirtual 93, 3) := by decide +kernel
theorem dL_law_642 : decode cL_law 642 = .ok (.aload_n 2, 1) := by decide +kernel
theorem dL_law_643 : decode cL_law 643 = .ok (.aload_n 0, 1) := by decide +kernel
theorem dL_law_644 : decode cL_law 644 = .ok (.iload_n 3, 1) := by decide +kernel
theorem dL_law_645 : decode cL_law 645 = .ok (.iconst 1, 1) := by decide +kernel
theorem dL_law_646 : decode cL_law 646 = .ok (.iadd, 1) := by decide +kernel
theorem dL_law_647 : decode cL_law 647 = .ok (.iaload, 1) := by decide +kernel
theorem dL_law_648 : decode cL_law 648 = .ok (.invokevirtual 96, 3) := by decide +kernel
theorem dL_law_651 : decode cL_law 651 = .ok (.if_icmp .eq 146, 3) := by decide +kernel
theorem dL_law_654 : decode cL_law 654 = .ok (.iconst 0, 1) := by decide +kernel
theorem dL_law_655 : decode cL_law 655 = .ok (.ireturn, 1) := by decide +kernel
theorem dL_law_656 : decode cL_law 656 = .ok (.aload_n 1, 1) := by decide +kernel
theorem dL_law_657 : decode cL_law 657 = .ok (.aload_n 0, 1) := by decide +kernel
theorem dL_law_658 : decode cL_law 658 = .ok (.iload_n 3, 1) := by decide +kernel
theorem dL_law_659 : decode cL_law 659 = .ok (.iconst 1, 1) := by decide +kernel
theorem dL_law_660 : decode cL_law 660 = .ok (.iadd, 1) := by decide +kernel
theorem dL_law_661 : decode cL_law 661 = .ok (.iaload, 1) := by decide +kernel
theorem dL_law_662 : decode cL_law 662 = .ok (.invokevirtual 97, 3) := by decide +kernel
theorem dL_law_665 : decode cL_law 665 = .ok (.aload_n 2, 1) := by decide +kernel
theorem dL_law_666 : decode cL_law 666 = .ok (.aload_n 0, 1) := by decide +kernel
theorem dL_law_667 : decode cL_law 667 = .ok (.iload_n 3, 1) := by decide +kernel
theorem dL_law_668 : decode cL_law 668 = .ok (.iconst 1, 1) := by decide +kernel
theorem dL_law_669 : decode cL_law 669 = .ok (.iadd, 1) := by decide +kernel
theorem dL_law_670 : decode cL_law 670 = .ok (.iaload, 1) := by decide +kernel
theorem dL_law_671 : decode cL_law 671 = .ok (.invokevirtual 100, 3) := by decide +kernel
theorem dL_law_674 : decode cL_law 674 = .ok (.if_icmp .eq 123, 3) := by decide +kernel
theorem dL_law_677 : decode cL_law 677 = .ok (.iconst 0, 1) := by decide +kernel
theorem dL_law_678 : decode cL_law 678 = .ok (.ireturn, 1) := by decide +kernel
theorem dL_law_679 : decode cL_law 679 = .ok (.aload_n 1, 1) := by decide +kernel
theorem dL_law_680 : decode cL_law 680 = .ok (.invokevirtual 101, 3) := by decide +kernel
theorem dL_law_683 : decode cL_law 683 = .ok (.aload_n 2, 1) := by decide +kernel
theorem dL_law_684 : decode cL_law 684 = .ok (.invokevirtual 104, 3) := by decide +kernel
theorem dL_law_687 : decode cL_law 687 = .ok (.if_icmp .eq 110, 3) := by decide +kernel
theorem dL_law_690 : decode cL_law 690 = .ok (.iconst 0, 1) := by decide +kernel
theorem dL_law_691 : decode cL_law 691 = .ok (.ireturn, 1) := by decide +kernel
theorem dL_law_692 : decode cL_law 692 = .ok (.aload_n 1, 1) := by decide +kernel
theorem dL_law_693 : decode cL_law 693 = .ok (.aload_n 0, 1) := by decide +kernel
theorem dL_law_694 : decode cL_law 694 = .ok (.iload_n 3, 1) := by decide +kernel
theorem dL_law_695 : decode cL_law 695 = .ok (.iconst 1, 1) := by decide +kernel
theorem dL_law_696 : decode cL_law 696 = .ok (.iadd, 1) := by decide +kernel
theorem dL_law_697 : decode cL_law 697 = .ok (.iaload, 1) := by decide +kernel
theorem dL_law_698 : decode cL_law 698 = .ok (.invokevirtual 105, 3) := by decide +kernel
theorem dL_law_701 : decode cL_law 701 = .ok (.aload_n 2, 1) := by decide +kernel
theorem dL_law_702 : decode cL_law 702 = .ok (.aload_n 0, 1) := by decide +kernel
theorem dL_law_703 : decode cL_law 703 = .ok (.iload_n 3, 1) := by decide +kernel
theorem dL_law_704 : decode cL_law 704 = .ok (.iconst 1, 1) := by decide +kernel
theorem dL_law_705 : decode cL_law 705 = .ok (.iadd, 1) := by decide +kernel
theorem dL_law_706 : decode cL_law 706 = .ok (.iaload, 1) := by decide +kernel
theorem dL_law_707 : decode cL_law 707 = .ok (.invokevirtual 108, 3) := by decide +kernel
theorem dL_law_710 : decode cL_law 710 = .ok (.if_icmp .eq 87, 3) := by decide +kernel
theorem dL_law_713 : decode cL_law 713 = .ok (.iconst 0, 1) := by decide +kernel
theorem dL_law_714 : decode cL_law 714 = .ok (.ireturn, 1) := by decide +kernel
theorem dL_law_715 : decode cL_law 715 = .ok (.aload_n 1, 1) := by decide +kernel
theorem dL_law_716 : decode cL_law 716 = .ok (.invokevirtual 109, 3) := by decide +kernel
theorem dL_law_719 : decode cL_law 719 = .ok (.aload_n 2, 1) := by decide +kernel
theorem dL_law_720 : decode cL_law 720 = .ok (.invokevirtual 112, 3) := by decide +kernel
theorem dL_law_723 : decode cL_law 723 = .ok (.if_icmp .eq 74, 3) := by decide +kernel
theorem dL_law_726 : decode cL_law 726 = .ok (.iconst 0, 1) := by decide +kernel
theorem dL_law_727 : decode cL_law 727 = .ok (.ireturn, 1) := by decide +kernel
theorem dL_law_728 : decode cL_law 728 = .ok (.aload_n 1, 1) := by decide +kernel
theorem dL_law_729 : decode cL_law 729 = .ok (.aload_n 0, 1) := by decide +kernel
theorem dL_law_730 : decode cL_law 730 = .ok (.iload_n 3, 1) := by decide +kernel
theorem dL_law_731 : decode cL_law 731 = .ok (.iconst 1, 1) := by decide +kernel
theorem dL_law_732 : decode cL_law 732 = .ok (.iadd, 1) := by decide +kernel
theorem dL_law_733 : decode cL_law 733 = .ok (.iaload, 1) := by decide +kernel
theorem dL_law_734 : decode cL_law 734 = .ok (.invokevirtual 113, 3) := by decide +kernel
theorem dL_law_737 : decode cL_law 737 = .ok (.aload_n 2, 1) := by decide +kernel
theorem dL_law_738 : decode cL_law 738 = .ok (.aload_n 0, 1) := by decide +kernel
theorem dL_law_739 : decode cL_law 739 = .ok (.iload_n 3, 1) := by decide +kernel
theorem dL_law_740 : decode cL_law 740 = .ok (.iconst 1, 1) := by decide +kernel
theorem dL_law_741 : decode cL_law 741 = .ok (.iadd, 1) := by decide +kernel
theorem dL_law_742 : decode cL_law 742 = .ok (.iaload, 1) := by decide +kernel
theorem dL_law_743 : decode cL_law 743 = .ok (.invokevirtual 116, 3) := by decide +kernel
theorem dL_law_746 : decode cL_law 746 = .ok (.if_icmp .eq 51, 3) := by decide +kernel
theorem dL_law_749 : decode cL_law 749 = .ok (.iconst 0, 1) := by decide +kernel
theorem dL_law_750 : decode cL_law 750 = .ok (.ireturn, 1) := by decide +kernel
theorem dL_law_751 : decode cL_law 751 = .ok (.aload_n 1, 1) := by decide +kernel
theorem dL_law_752 : decode cL_law 752 = .ok (.aload_n 0, 1) := by decide +kernel
theorem dL_law_753 : decode cL_law 753 = .ok (.iload_n 3, 1) := by decide +kernel
theorem dL_law_754 : decode cL_law 754 = .ok (.iconst 1, 1) := by decide +kernel
theorem dL_law_755 : decode cL_law 755 = .ok (.iadd, 1) := by decide +kernel
theorem dL_law_756 : decode cL_law 756 = .ok (.iaload, 1) := by decide +kernel
theorem dL_law_757 : decode cL_law 757 = .ok (.invokevirtual 117, 3) := by decide +kernel
theorem dL_law_760 : decode cL_law 760 = .ok (.aload_n 2, 1) := by decide +kernel
theorem dL_law_761 : decode cL_law 761 = .ok (.aload_n 0, 1) := by decide +kernel
theorem dL_law_762 : decode cL_law 762 = .ok (.iload_n 3, 1) := by decide +kernel
theorem dL_law_763 : decode cL_law 763 = .ok (.iconst 1, 1) := by decide +kernel
theorem dL_law_764 : decode cL_law 764 = .ok (.iadd, 1) := by decide +kernel
theorem dL_law_765 : decode cL_law 765 = .ok (.iaload, 1) := by decide +kernel
theorem dL_law_766 : decode cL_law 766 = .ok (.invokevirtual 120, 3) := by decide +kernel
theorem dL_law_769 : decode cL_law 769 = .ok (.if_icmp .eq 28, 3) := by decide +kernel
theorem dL_law_772 : decode cL_law 772 = .ok (.iconst 0, 1) := by decide +kernel
theorem dL_law_773 : decode cL_law 773 = .ok (.ireturn, 1) := by decide +kernel
theorem dL_law_774 : decode cL_law 774 = .ok (.aload_n 1, 1) := by decide +kernel
theorem dL_law_775 : decode cL_law 775 = .ok (.aload_n 0, 1) := by decide +kernel
theorem dL_law_776 : decode cL_law 776 = .ok (.iload_n 3, 1) := by decide +kernel
theorem dL_law_777 : decode cL_law 777 = .ok (.iconst 1, 1) := by decide +kernel
theorem dL_law_778 : decode cL_law 778 = .ok (.iadd, 1) := by decide +kernel
theorem dL_law_779 : decode cL_law 779 = .ok (.iaload, 1) := by decide +kernel
theorem dL_law_780 : decode cL_law 780 = .ok (.invokevirtual 121, 3) := by decide +kernel
theorem dL_law_783 : decode cL_law 783 = .ok (.aload_n 2, 1) := by decide +kernel
theorem dL_law_784 : decode cL_law 784 = .ok (.aload_n 0, 1) := by decide +kernel
theorem dL_law_785 : decode cL_law 785 = .ok (.iload_n 3, 1) := by decide +kernel
theorem dL_law_786 : decode cL_law 786 = .ok (.iconst 1, 1) := by decide +kernel
theorem dL_law_787 : decode cL_law 787 = .ok (.iadd, 1) := by decide +kernel
theorem dL_law_788 : decode cL_law 788 = .ok (.iaload, 1) := by decide +kernel
theorem dL_law_789 : decode cL_law 789 = .ok (.invokevirtual 124, 3) := by decide +kernel
theorem dL_law_792 : decode cL_law 792 = .ok (.if_icmp .eq 5, 3) := by decide +kernel
theorem dL_law_795 : decode cL_law 795 = .ok (.iconst 0, 1) := by decide +kernel
theorem dL_law_796 : decode cL_law 796 = .ok (.ireturn, 1) := by decide +kernel
theorem dL_law_797 : decode cL_law 797 = .ok (.iinc 3 4, 3) := by decide +kernel
theorem dL_law_800 : decode cL_law 800 = .ok (.goto (-782), 3) := by decide +kernel
theorem dL_law_803 : decode cL_law 803 = .ok (.iconst 1, 1) := by decide +kernel
theorem dL_law_804 : decode cL_law 804 = .ok (.ireturn, 1) := by decide +kernel
section LC
variable {b L : Nat} {xs : Nat → Int32} {d : List Nat} {T : vT} {M : vM} {n m i : Nat}
abbrev lcL (i : Nat) : List (Option vA) := [none, some (vR 0), some (vR 200), some (vI i)]
theorem y_plate (hL : L ≤ 2048) (hi : (i : Int) ≤ L - 4) (h : RQ d T M n m) (kk : ∀ (d1 : List Nat) (T1 : vT) (M1 : vM), RR d1 T1 M1 → vY b L xs 797 (lcL i) [] d1 T1 M1) : vY b L xs 156 (lcL i) [] d T M := by
  refine vY.aload_n (a := 0) dL_law_156 rfl ?_
  refine vY.arg (k := 1) rfl (by omega) hL dL_law_157 dL_law_158 dL_law_159 dL_law_160 dL_law_161 ?_
  refine vY.arg (k := 2) rfl (by omega) hL dL_law_162 dL_law_163 dL_law_164 dL_law_165 dL_law_166 ?_
  refine vY.arg (k := 3) rfl (by omega) hL dL_law_167 dL_law_168 dL_law_169 dL_law_170 dL_law_171 ?_
  refine vY.call (d1 := d) (bb := 0) (ci := 6) (As := [vI (xs (i + 1)).toInt, vI (xs (i + 2)).toInt, vI (xs (i + 3)).toInt]) (rest := []) dL_law_172 ml_L_13 cw_X6_plate iw_X6_plate rfl rfl (t_plate h) rfl rfl ⟨by decide, by decide⟩ (Nat.le_of_ble_eq_true rfl) h.D.rg ?_
  intro r T1 M1 hc2
  refine vY.aload_n (a := 200) dL_law_175 rfl ?_
  refine vY.arg (k := 1) rfl (by omega) hL dL_law_176 dL_law_177 dL_law_178 dL_law_179 dL_law_180 ?_
  refine vY.arg (k := 2) rfl (by omega) hL dL_law_181 dL_law_182 dL_law_183 dL_law_184 dL_law_185 ?_
  refine vY.arg (k := 3) rfl (by omega) hL dL_law_186 dL_law_187 dL_law_188 dL_law_189 dL_law_190 ?_
  refine vY.call (d1 := d) (bb := 200) (ci := 7) (As := [vI (xs (i + 1)).toInt, vI (xs (i + 2)).toInt, vI (xs (i + 3)).toInt]) (rest := [vI r]) dL_law_191 ml_L_17 cw_X7_plate iw_X7_plate rfl rfl hc2 rfl rfl ⟨by decide, by decide⟩ (Nat.le_of_ble_eq_true rfl) ⟨Nat.le_refl _, Nat.le_refl _, h.D.rg.2.2.1, h.D.rg.2.2.2⟩ ?_
  rintro r2 T2 M2 ⟨rfl, hR⟩
  refine vY.same (tgt := 797) dL_law_194 (by decide) ?_
  exact kk _ _ _ hR
theorem y_turn (hL : L ≤ 2048) (hi : (i : Int) ≤ L - 4) (h : RQ d T M n m) (kk : ∀ (d1 : List Nat) (T1 : vT) (M1 : vM), RR d1 T1 M1 → vY b L xs 797 (lcL i) [] d1 T1 M1) : vY b L xs 199 (lcL i) [] d T M := by
  refine vY.aload_n (a := 0) dL_law_199 rfl ?_
  refine vY.arg (k := 1) rfl (by omega) hL dL_law_200 dL_law_201 dL_law_202 dL_law_203 dL_law_204 ?_
  refine vY.arg (k := 2) rfl (by omega) hL dL_law_205 dL_law_206 dL_law_207 dL_law_208 dL_law_209 ?_
  refine vY.call (d1 := d) (bb := 0) (ci := 6) (As := [vI (xs (i + 1)).toInt, vI (xs (i + 2)).toInt]) (rest := []) dL_law_210 ml_L_18 cw_X6_turn iw_X6_turn rfl rfl (t_turn h) rfl rfl ⟨by decide, by decide⟩ (Nat.le_of_ble_eq_true rfl) h.D.rg ?_
  intro r T1 M1 hc2
  refine vY.aload_n (a := 200) dL_law_213 rfl ?_
  refine vY.arg (k := 1) rfl (by omega) hL dL_law_214 dL_law_215 dL_law_216 dL_law_217 dL_law_218 ?_
  refine vY.arg (k := 2) rfl (by omega) hL dL_law_219 dL_law_220 dL_law_221 dL_law_222 dL_law_223 ?_
  refine vY.call (d1 := d) (bb := 200) (ci := 7) (As := [vI (xs (i + 1)).toInt, vI (xs (i + 2)).toInt]) (rest := [vI r]) dL_law_224 ml_L_22 cw_X7_turn iw_X7_turn rfl rfl hc2 rfl rfl ⟨by decide, by decide⟩ (Nat.le_of_ble_eq_true rfl) ⟨Nat.le_refl _, Nat.le_refl _, h.D.rg.2.2.1, h.D.rg.2.2.2⟩ ?_
  rintro r2 T2 M2 ⟨rfl, hR⟩
  refine vY.same (tgt := 797) dL_law_227 (by decide) ?_
  exact kk _ _ _ hR
theorem y_set (hL : L ≤ 2048) (hi : (i : Int) ≤ L - 4) (h : RQ d T M n m) (kk : ∀ (d1 : List Nat) (T1 : vT) (M1 : vM), RR d1 T1 M1 → vY b L xs 797 (lcL i) [] d1 T1 M1) : vY b L xs 232 (lcL i) [] d T M := by
  refine vY.aload_n (a := 0) dL_law_232 rfl ?_
  refine vY.arg (k := 1) rfl (by omega) hL dL_law_233 dL_law_234 dL_law_235 dL_law_236 dL_law_237 ?_
  refine vY.arg (k := 2) rfl (by omega) hL dL_law_238 dL_law_239 dL_law_240 dL_law_241 dL_law_242 ?_
  refine vY.call (d1 := d) (bb := 0) (ci := 6) (As := [vI (xs (i + 1)).toInt, vI (xs (i + 2)).toInt]) (rest := []) dL_law_243 ml_L_23 cw_X6_set iw_X6_set rfl rfl (t_setw h) rfl rfl ⟨by decide, by decide⟩ (Nat.le_of_ble_eq_true rfl) h.D.rg ?_
  intro r T1 M1 hc2
  refine vY.aload_n (a := 200) dL_law_246 rfl ?_
  refine vY.arg (k := 1) rfl (by omega) hL dL_law_247 dL_law_248 dL_law_249 dL_law_250 dL_law_251 ?_
  refine vY.arg (k := 2) rfl (by omega) hL dL_law_252 dL_law_253 dL_law_254 dL_law_255 dL_law_256 ?_
  refine vY.call (d1 := d) (bb := 200) (ci := 7) (As := [vI (xs (i + 1)).toInt, vI (xs (i + 2)).toInt]) (rest := [vI r]) dL_law_257 ml_L_26 cw_X7_set iw_X7_set rfl rfl hc2 rfl rfl ⟨by decide, by decide⟩ (Nat.le_of_ble_eq_true rfl) ⟨Nat.le_refl _, Nat.le_refl _, h.D.rg.2.2.1, h.D.rg.2.2.2⟩ ?_
  rintro r2 T2 M2 ⟨rfl, hR⟩
  refine vY.same (tgt := 797) dL_law_260 (by decide) ?_
  exact kk _ _ _ hR
theorem y_about (hL : L ≤ 2048) (hi : (i : Int) ≤ L - 4) (h : RQ d T M n m) (kk : ∀ (d1 : List Nat) (T1 : vT) (M1 : vM), RR d1 T1 M1 → vY b L xs 797 (lcL i) [] d1 T1 M1) : vY b L xs 265 (lcL i) [] d T M := by
  refine vY.aload_n (a := 0) dL_law_265 rfl ?_
  refine vY.arg (k := 1) rfl (by omega) hL dL_law_266 dL_law_267 dL_law_268 dL_law_269 dL_law_270 ?_
  refine vY.arg (k := 2) rfl (by omega) hL dL_law_271 dL_law_272 dL_law_273 dL_law_274 dL_law_275 ?_
  refine vY.call (d1 := d) (bb := 0) (ci := 6) (As := [vI (xs (i + 1)).toInt, vI (xs (i + 2)).toInt]) (rest := []) dL_law_276 ml_L_27 cw_X6_about iw_X6_about rfl rfl (t_about h) rfl rfl ⟨by decide, by decide⟩ (Nat.le_of_ble_eq_true rfl) h.D.rg ?_
  intro r T1 M1 hc2
  refine vY.aload_n (a := 200) dL_law_279 rfl ?_
  refine vY.arg (k := 1) rfl (by omega) hL dL_law_280 dL_law_281 dL_law_282 dL_law_283 dL_law_284 ?_
  refine vY.arg (k := 2) rfl (by omega) hL dL_law_285 dL_law_286 dL_law_287 dL_law_288 dL_law_289 ?_
  refine vY.call (d1 := d) (bb := 200) (ci := 7) (As := [vI (xs (i + 1)).toInt, vI (xs (i + 2)).toInt]) (rest := [vI r]) dL_law_290 ml_L_30 cw_X7_about iw_X7_about rfl rfl hc2 rfl rfl ⟨by decide, by decide⟩ (Nat.le_of_ble_eq_true rfl) ⟨Nat.le_refl _, Nat.le_refl _, h.D.rg.2.2.1, h.D.rg.2.2.2⟩ ?_
  rintro r2 T2 M2 ⟨rfl, hR⟩
  refine vY.same (tgt := 797) dL_law_293 (by decide) ?_
  exact kk _ _ _ hR
theorem y_tick (hL : L ≤ 2048) (hi : (i : Int) ≤ L - 4) (h : RQ d T M n m) (kk : ∀ (d1 : List Nat) (T1 : vT) (M1 : vM), RR d1 T1 M1 → vY b L xs 797 (lcL i) [] d1 T1 M1) : vY b L xs 298 (lcL i) [] d T M := by
  refine vY.aload_n (a := 0) dL_law_298 rfl ?_
  refine vY.arg (k := 1) rfl (by omega) hL dL_law_299 dL_law_300 dL_law_301 dL_law_302 dL_law_303 ?_
  refine vY.call (d1 := d) (bb := 0) (ci := 6) (As := [vI (xs (i + 1)).toInt]) (rest := []) dL_law_304 ml_L_31 cw_X6_tick iw_X6_tick rfl rfl (t_tick h) rfl rfl ⟨by decide, by decide⟩ (Nat.le_of_ble_eq_true rfl) h.D.rg ?_
  intro r T1 M1 hc2
  refine vY.aload_n (a := 200) dL_law_307 rfl ?_
  refine vY.arg (k := 1) rfl (by omega) hL dL_law_308 dL_law_309 dL_law_310 dL_law_311 dL_law_312 ?_
  refine vY.call (d1 := d) (bb := 200) (ci := 7) (As := [vI (xs (i + 1)).toInt]) (rest := [vI r]) dL_law_313 ml_L_35 cw_X7_tick iw_X7_tick rfl rfl hc2 rfl rfl ⟨by decide, by decide⟩ (Nat.le_of_ble_eq_true rfl) ⟨Nat.le_refl _, Nat.le_refl _, h.D.rg.2.2.1, h.D.rg.2.2.2⟩ ?_
  rintro r2 T2 M2 ⟨rfl, hR⟩
  refine vY.same (tgt := 797) dL_law_316 (by decide) ?_
  exact kk _ _ _ hR
theorem y_say (hL : L ≤ 2048) (hi : (i : Int) ≤ L - 4) (h : RQ d T M n m) (kk : ∀ (d1 : List Nat) (T1 : vT) (M1 : vM), RR d1 T1 M1 → vY b L xs 797 (lcL i) [] d1 T1 M1) : vY b L xs 321 (lcL i) [] d T M := by
  refine vY.aload_n (a := 0) dL_law_321 rfl ?_
  refine vY.arg (k := 1) rfl (by omega) hL dL_law_322 dL_law_323 dL_law_324 dL_law_325 dL_law_326 ?_
  refine vY.call (d1 := d) (bb := 0) (ci := 6) (As := [vI (xs (i + 1)).toInt]) (rest := []) dL_law_327 ml_L_36 cw_X6_say iw_X6_say rfl rfl (t_say h) rfl rfl ⟨by decide, by decide⟩ (Nat.le_of_ble_eq_true rfl) h.D.rg ?_
  intro r T1 M1 hc2
  refine vY.aload_n (a := 200) dL_law_330 rfl ?_
  refine vY.arg (k := 1) rfl (by omega) hL dL_law_331 dL_law_332 dL_law_333 dL_law_334 dL_law_335 ?_
  refine vY.call (d1 := d) (bb := 200) (ci := 7) (As := [vI (xs (i + 1)).toInt]) (rest := [vI r]) dL_law_336 ml_L_39 cw_X7_say iw_X7_say rfl rfl hc2 rfl rfl ⟨by decide, by decide⟩ (Nat.le_of_ble_eq_true rfl) ⟨Nat.le_refl _, Nat.le_refl _, h.D.rg.2.2.1, h.D.rg.2.2.2⟩ ?_
  rintro r2 T2 M2 ⟨rfl, hR⟩
  refine vY.same (tgt := 797) dL_law_339 (by decide) ?_
  exact kk _ _ _ hR
theorem y_wipe (hL : L ≤ 2048) (hi : (i : Int) ≤ L - 4) (h : RQ d T M n m) (kk : ∀ (d1 : List Nat) (T1 : vT) (M1 : vM), RR d1 T1 M1 → vY b L xs 797 (lcL i) [] d1 T1 M1) : vY b L xs 344 (lcL i) [] d T M := by
  refine vY.aload_n (a := 0) dL_law_344 rfl ?_
  refine vY.call (d1 := d) (bb := 0) (ci := 6) (As := []) (rest := []) dL_law_345 ml_L_40 cw_X6_wipe iw_X6_wipe rfl rfl (t_wipe h) rfl rfl ⟨by decide, by decide⟩ (Nat.le_of_ble_eq_true rfl) h.D.rg ?_
  intro r T1 M1 hc2
  refine vY.aload_n (a := 200) dL_law_348 rfl ?_
  refine vY.call (d1 := d) (bb := 200) (ci := 7) (As := []) (rest := [vI r]) dL_law_349 ml_L_44 cw_X7_wipe iw_X7_wipe rfl rfl hc2 rfl rfl ⟨by decide, by decide⟩ (Nat.le_of_ble_eq_true rfl) ⟨Nat.le_refl _, Nat.le_refl _, h.D.rg.2.2.1, h.D.rg.2.2.2⟩ ?_
  rintro r2 T2 M2 ⟨rfl, hR⟩
  refine vY.same (tgt := 797) dL_law_352 (by decide) ?_
  exact kk _ _ _ hR
theorem y_fault (hL : L ≤ 2048) (hi : (i : Int) ≤ L - 4) (h : RQ d T M n m) (kk : ∀ (d1 : List Nat) (T1 : vT) (M1 : vM), RR d1 T1 M1 → vY b L xs 797 (lcL i) [] d1 T1 M1) : vY b L xs 357 (lcL i) [] d T M := by
  refine vY.aload_n (a := 0) dL_law_357 rfl ?_
  refine vY.call (d1 := d) (bb := 0) (ci := 6) (As := []) (rest := []) dL_law_358 ml_L_45 cw_X6_fault iw_X6_fault rfl rfl (t_fault h) rfl rfl ⟨by decide, by decide⟩ (Nat.le_of_ble_eq_true rfl) h.D.rg ?_
  intro r T1 M1 hc2
  refine vY.aload_n (a := 200) dL_law_361 rfl ?_
  refine vY.call (d1 := d) (bb := 200) (ci := 7) (As := []) (rest := [vI r]) dL_law_362 ml_L_48 cw_X7_fault iw_X7_fault rfl rfl hc2 rfl rfl ⟨by decide, by decide⟩ (Nat.le_of_ble_eq_true rfl) ⟨Nat.le_refl _, Nat.le_refl _, h.D.rg.2.2.1, h.D.rg.2.2.2⟩ ?_
  rintro r2 T2 M2 ⟨rfl, hR⟩
  refine vY.same (tgt := 797) dL_law_365 (by decide) ?_
  exact kk _ _ _ hR
theorem y_judge (hL : L ≤ 2048) (hi : (i : Int) ≤ L - 4) (h : RQ d T M n m) (kk : ∀ (d1 : List Nat) (T1 : vT) (M1 : vM), RR d1 T1 M1 → vY b L xs 797 (lcL i) [] d1 T1 M1) : vY b L xs 370 (lcL i) [] d T M := by
  refine vY.aload_n (a := 0) dL_law_370 rfl ?_
  refine vY.arg (k := 1) rfl (by omega) hL dL_law_371 dL_law_372 dL_law_373 dL_law_374 dL_law_375 ?_
  refine vY.call (d1 := d) (bb := 0) (ci := 6) (As := [vI (xs (i + 1)).toInt]) (rest := []) dL_law_376 ml_L_49 cw_X6_judge iw_X6_judge rfl rfl (t_judge h) rfl rfl ⟨by decide, by decide⟩ (Nat.le_of_ble_eq_true rfl) h.D.rg ?_
  intro r T1 M1 hc2
  refine vY.aload_n (a := 200) dL_law_379 rfl ?_
  refine vY.arg (k := 1) rfl (by omega) hL dL_law_380 dL_law_381 dL_law_382 dL_law_383 dL_law_384 ?_
  refine vY.call (d1 := d) (bb := 200) (ci := 7) (As := [vI (xs (i + 1)).toInt]) (rest := [vI r]) dL_law_385 ml_L_52 cw_X7_judge iw_X7_judge rfl rfl hc2 rfl rfl ⟨by decide, by decide⟩ (Nat.le_of_ble_eq_true rfl) ⟨Nat.le_refl _, Nat.le_refl _, h.D.rg.2.2.1, h.D.rg.2.2.2⟩ ?_
  rintro r2 T2 M2 ⟨rfl, hR⟩
  refine vY.same (tgt := 797) dL_law_388 (by decide) ?_
  exact kk _ _ _ hR
theorem y_show (hL : L ≤ 2048) (hi : (i : Int) ≤ L - 4) (h : RQ d T M n m) (kk : ∀ (d1 : List Nat) (T1 : vT) (M1 : vM), RR d1 T1 M1 → vY b L xs 797 (lcL i) [] d1 T1 M1) : vY b L xs 393 (lcL i) [] d T M := by
  refine vY.aload_n (a := 0) dL_law_393 rfl ?_
  refine vY.call (d1 := d) (bb := 0) (ci := 6) (As := []) (rest := []) dL_law_394 ml_L_53 cw_X6_show iw_X6_show rfl rfl (t_show h) rfl rfl ⟨by decide, by decide⟩ (Nat.le_of_ble_eq_true rfl) h.D.rg ?_
  intro r T1 M1 hc2
  refine vY.aload_n (a := 200) dL_law_397 rfl ?_
  refine vY.call (d1 := d) (bb := 200) (ci := 7) (As := []) (rest := [vI r]) dL_law_398 ml_L_56 cw_X7_show iw_X7_show rfl rfl hc2 rfl rfl ⟨by decide, by decide⟩ (Nat.le_of_ble_eq_true rfl) ⟨Nat.le_refl _, Nat.le_refl _, h.D.rg.2.2.1, h.D.rg.2.2.2⟩ ?_
  rintro r2 T2 M2 ⟨rfl, hR⟩
  refine vY.same (tgt := 797) dL_law_401 (by decide) ?_
  exact kk _ _ _ hR
theorem y_lasts (hL : L ≤ 2048) (hi : (i : Int) ≤ L - 4) (h : RQ d T M n m) (kk : ∀ (d1 : List Nat) (T1 : vT) (M1 : vM), RR d1 T1 M1 → vY b L xs 797 (lcL i) [] d1 T1 M1) : vY b L xs 406 (lcL i) [] d T M := by
  refine vY.aload_n (a := 0) dL_law_406 rfl ?_
  refine vY.arg (k := 1) rfl (by omega) hL dL_law_407 dL_law_408 dL_law_409 dL_law_410 dL_law_411 ?_
  refine vY.call (d1 := d) (bb := 0) (ci := 6) (As := [vI (xs (i + 1)).toInt]) (rest := []) dL_law_412 ml_L_57 cw_X6_lasts iw_X6_lasts rfl rfl (t_lasts h) rfl rfl ⟨by decide, by decide⟩ (Nat.le_of_ble_eq_true rfl) h.D.rg ?_
  intro r T1 M1 hc2
  refine vY.aload_n (a := 200) dL_law_415 rfl ?_
  refine vY.arg (k := 1) rfl (by omega) hL dL_law_416 dL_law_417 dL_law_418 dL_law_419 dL_law_420 ?_
  refine vY.call (d1 := d) (bb := 200) (ci := 7) (As := [vI (xs (i + 1)).toInt]) (rest := [vI r]) dL_law_421 ml_L_60 cw_X7_lasts iw_X7_lasts rfl rfl hc2 rfl rfl ⟨by decide, by decide⟩ (Nat.le_of_ble_eq_true rfl) ⟨Nat.le_refl _, Nat.le_refl _, h.D.rg.2.2.1, h.D.rg.2.2.2⟩ ?_
  rintro r2 T2 M2 ⟨rfl, hR⟩
  refine vY.same (tgt := 797) dL_law_424 (by decide) ?_
  exact kk _ _ _ hR
theorem y_at (hL : L ≤ 2048) (hi : (i : Int) ≤ L - 4) (h : RQ d T M n m) (kk : ∀ (d1 : List Nat) (T1 : vT) (M1 : vM), RR d1 T1 M1 → vY b L xs 797 (lcL i) [] d1 T1 M1) : vY b L xs 429 (lcL i) [] d T M := by
  refine vY.aload_n (a := 0) dL_law_429 rfl ?_
  refine vY.arg (k := 1) rfl (by omega) hL dL_law_430 dL_law_431 dL_law_432 dL_law_433 dL_law_434 ?_
  refine vY.arg (k := 2) rfl (by omega) hL dL_law_435 dL_law_436 dL_law_437 dL_law_438 dL_law_439 ?_
  refine vY.arg (k := 3) rfl (by omega) hL dL_law_440 dL_law_441 dL_law_442 dL_law_443 dL_law_444 ?_
  refine vY.call (d1 := d) (bb := 0) (ci := 6) (As := [vI (xs (i + 1)).toInt, vI (xs (i + 2)).toInt, vI (xs (i + 3)).toInt]) (rest := []) dL_law_445 ml_L_61 cw_X6_at iw_X6_at rfl rfl (t_at h) rfl rfl ⟨by decide, by decide⟩ (Nat.le_of_ble_eq_true rfl) h.D.rg ?_
  intro r T1 M1 hc2
  refine vY.aload_n (a := 200) dL_law_448 rfl ?_
  refine vY.arg (k := 1) rfl (by omega) hL dL_law_449 dL_law_450 dL_law_451 dL_law_452 dL_law_453 ?_
  refine vY.arg (k := 2) rfl (by omega) hL dL_law_454 dL_law_455 dL_law_456 dL_law_457 dL_law_458 ?_
  refine vY.arg (k := 3) rfl (by omega) hL dL_law_459 dL_law_460 dL_law_461 dL_law_462 dL_law_463 ?_
  refine vY.call (d1 := d) (bb := 200) (ci := 7) (As := [vI (xs (i + 1)).toInt, vI (xs (i + 2)).toInt, vI (xs (i + 3)).toInt]) (rest := [vI r]) dL_law_464 ml_L_64 cw_X7_at iw_X7_at rfl rfl hc2 rfl rfl ⟨by decide, by decide⟩ (Nat.le_of_ble_eq_true rfl) ⟨Nat.le_refl _, Nat.le_refl _, h.D.rg.2.2.1, h.D.rg.2.2.2⟩ ?_
  rintro r2 T2 M2 ⟨rfl, hR⟩
  refine vY.same (tgt := 797) dL_law_467 (by decide) ?_
  exact kk _ _ _ hR
theorem y_round (hL : L ≤ 2048) (hi : (i : Int) ≤ L - 4) (h : RQ d T M n m) (kk : ∀ (d1 : List Nat) (T1 : vT) (M1 : vM), RR d1 T1 M1 → vY b L xs 797 (lcL i) [] d1 T1 M1) : vY b L xs 472 (lcL i) [] d T M := by
  refine vY.aload_n (a := 0) dL_law_472 rfl ?_
  refine vY.arg (k := 1) rfl (by omega) hL dL_law_473 dL_law_474 dL_law_475 dL_law_476 dL_law_477 ?_
  refine vY.arg (k := 2) rfl (by omega) hL dL_law_478 dL_law_479 dL_law_480 dL_law_481 dL_law_482 ?_
  refine vY.call (d1 := d) (bb := 0) (ci := 6) (As := [vI (xs (i + 1)).toInt, vI (xs (i + 2)).toInt]) (rest := []) dL_law_483 ml_L_65 cw_X6_round iw_X6_round rfl rfl (t_round h) rfl rfl ⟨by decide, by decide⟩ (Nat.le_of_ble_eq_true rfl) h.D.rg ?_
  intro r T1 M1 hc2
  refine vY.aload_n (a := 200) dL_law_486 rfl ?_
  refine vY.arg (k := 1) rfl (by omega) hL dL_law_487 dL_law_488 dL_law_489 dL_law_490 dL_law_491 ?_
  refine vY.arg (k := 2) rfl (by omega) hL dL_law_492 dL_law_493 dL_law_494 dL_law_495 dL_law_496 ?_
  refine vY.call (d1 := d) (bb := 200) (ci := 7) (As := [vI (xs (i + 1)).toInt, vI (xs (i + 2)).toInt]) (rest := [vI r]) dL_law_497 ml_L_68 cw_X7_round iw_X7_round rfl rfl hc2 rfl rfl ⟨by decide, by decide⟩ (Nat.le_of_ble_eq_true rfl) ⟨Nat.le_refl _, Nat.le_refl _, h.D.rg.2.2.1, h.D.rg.2.2.2⟩ ?_
  rintro r2 T2 M2 ⟨rfl, hR⟩
  refine vY.same (tgt := 797) dL_law_500 (by decide) ?_
  exact kk _ _ _ hR
theorem y_sticks (hL : L ≤ 2048) (hi : (i : Int) ≤ L - 4) (h : RQ d T M n m) (kk : ∀ (d1 : List Nat) (T1 : vT) (M1 : vM), RR d1 T1 M1 → vY b L xs 797 (lcL i) [] d1 T1 M1) : vY b L xs 505 (lcL i) [] d T M := by
  refine vY.aload_n (a := 0) dL_law_505 rfl ?_
  refine vY.arg (k := 1) rfl (by omega) hL dL_law_506 dL_law_507 dL_law_508 dL_law_509 dL_law_510 ?_
  refine vY.arg (k := 2) rfl (by omega) hL dL_law_511 dL_law_512 dL_law_513 dL_law_514 dL_law_515 ?_
  refine vY.call (d1 := d) (bb := 0) (ci := 6) (As := [vI (xs (i + 1)).toInt, vI (xs (i + 2)).toInt]) (rest := []) dL_law_516 ml_L_69 cw_X6_sticks iw_X6_sticks rfl rfl (t_sticks h) rfl rfl ⟨by decide, by decide⟩ (Nat.le_of_ble_eq_true rfl) h.D.rg ?_
  intro r T1 M1 hc2
  refine vY.aload_n (a := 200) dL_law_519 rfl ?_
  refine vY.arg (k := 1) rfl (by omega) hL dL_law_520 dL_law_521 dL_law_522 dL_law_523 dL_law_524 ?_
  refine vY.arg (k := 2) rfl (by omega) hL dL_law_525 dL_law_526 dL_law_527 dL_law_528 dL_law_529 ?_
  refine vY.call (d1 := d) (bb := 200) (ci := 7) (As := [vI (xs (i + 1)).toInt, vI (xs (i + 2)).toInt]) (rest := [vI r]) dL_law_530 ml_L_72 cw_X7_sticks iw_X7_sticks rfl rfl hc2 rfl rfl ⟨by decide, by decide⟩ (Nat.le_of_ble_eq_true rfl) ⟨Nat.le_refl _, Nat.le_refl _, h.D.rg.2.2.1, h.D.rg.2.2.2⟩ ?_
  rintro r2 T2 M2 ⟨rfl, hR⟩
  refine vY.same (tgt := 797) dL_law_533 (by decide) ?_
  exact kk _ _ _ hR
theorem y_kept (hL : L ≤ 2048) (hi : (i : Int) ≤ L - 4) (h : RQ d T M n m) (kk : ∀ (d1 : List Nat) (T1 : vT) (M1 : vM), RR d1 T1 M1 → vY b L xs 797 (lcL i) [] d1 T1 M1) : vY b L xs 538 (lcL i) [] d T M := by
  obtain ⟨d1, hg, ht⟩ := t_kept h
  refine vY.aload_n (a := 0) dL_law_538 rfl ?_
  refine vY.call (d1 := d1) (bb := 0) (ci := 6) (As := []) (rest := []) dL_law_539 ml_L_73 cw_X6_kept iw_X6_kept rfl rfl ht rfl rfl ⟨by decide, by decide⟩ (Nat.le_of_ble_eq_true rfl) hg ?_
  intro r T1 M1 hc2
  refine vY.aload_n (a := 200) dL_law_542 rfl ?_
  refine vY.call (d1 := d1) (bb := 200) (ci := 7) (As := []) (rest := [vI r]) dL_law_543 ml_L_76 cw_X7_kept iw_X7_kept rfl rfl hc2 rfl rfl ⟨by decide, by decide⟩ (Nat.le_of_ble_eq_true rfl) ⟨Nat.le_refl _, Nat.le_refl _, hg.2.2.1, hg.2.2.2⟩ ?_
  rintro r2 T2 M2 ⟨rfl, hR⟩
  refine vY.same (tgt := 797) dL_law_546 (by decide) ?_
  exact kk _ _ _ hR
theorem y_longest (hL : L ≤ 2048) (hi : (i : Int) ≤ L - 4) (h : RQ d T M n m) (kk : ∀ (d1 : List Nat) (T1 : vT) (M1 : vM), RR d1 T1 M1 → vY b L xs 797 (lcL i) [] d1 T1 M1) : vY b L xs 551 (lcL i) [] d T M := by
  obtain ⟨d1, hg, ht⟩ := t_longest h
  refine vY.aload_n (a := 0) dL_law_551 rfl ?_
  refine vY.call (d1 := d1) (bb := 0) (ci := 6) (As := []) (rest := []) dL_law_552 ml_L_77 cw_X6_longest iw_X6_longest rfl rfl ht rfl rfl ⟨by decide, by decide⟩ (Nat.le_of_ble_eq_true rfl) hg ?_
  intro r T1 M1 hc2
  refine vY.aload_n (a := 200) dL_law_555 rfl ?_
  refine vY.call (d1 := d1) (bb := 200) (ci := 7) (As := []) (rest := [vI r]) dL_law_556 ml_L_80 cw_X7_longest iw_X7_longest rfl rfl hc2 rfl rfl ⟨by decide, by decide⟩ (Nat.le_of_ble_eq_true rfl) ⟨Nat.le_refl _, Nat.le_refl _, hg.2.2.1, hg.2.2.2⟩ ?_
  rintro r2 T2 M2 ⟨rfl, hR⟩
  refine vY.same (tgt := 797) dL_law_559 (by decide) ?_
  exact kk _ _ _ hR
theorem y_step (hL : L ≤ 2048) (hi : (i : Int) ≤ L - 4) (h : RQ d T M n m) (kk : ∀ (d1 : List Nat) (T1 : vT) (M1 : vM), RR d1 T1 M1 → vY b L xs 797 (lcL i) [] d1 T1 M1) : vY b L xs 564 (lcL i) [] d T M := by
  obtain ⟨d1, hg, ht⟩ := t_step h
  refine vY.aload_n (a := 0) dL_law_564 rfl ?_
  refine vY.call (d1 := d1) (bb := 0) (ci := 6) (As := []) (rest := []) dL_law_565 ml_L_81 cw_X6_step iw_X6_step rfl rfl ht rfl rfl ⟨by decide, by decide⟩ (Nat.le_of_ble_eq_true rfl) hg ?_
  intro r T1 M1 hc2
  refine vY.aload_n (a := 200) dL_law_568 rfl ?_
  refine vY.call (d1 := d1) (bb := 200) (ci := 7) (As := []) (rest := [vI r]) dL_law_569 ml_L_84 cw_X7_step iw_X7_step rfl rfl hc2 rfl rfl ⟨by decide, by decide⟩ (Nat.le_of_ble_eq_true rfl) ⟨Nat.le_refl _, Nat.le_refl _, hg.2.2.1, hg.2.2.2⟩ ?_
  rintro r2 T2 M2 ⟨rfl, hR⟩
  refine vY.same (tgt := 797) dL_law_572 (by decide) ?_
  exact kk _ _ _ hR
theorem y_bow (hL : L ≤ 2048) (hi : (i : Int) ≤ L - 4) (h : RQ d T M n m) (kk : ∀ (d1 : List Nat) (T1 : vT) (M1 : vM), RR d1 T1 M1 → vY b L xs 797 (lcL i) [] d1 T1 M1) : vY b L xs 577 (lcL i) [] d T M := by
  obtain ⟨d1, hg, ht⟩ := t_bow (k := (xs (i + 1)).toInt) h
  refine vY.aload_n (a := 0) dL_law_577 rfl ?_
  refine vY.arg (k := 1) rfl (by omega) hL dL_law_578 dL_law_579 dL_law_580 dL_law_581 dL_law_582 ?_
  refine vY.call (d1 := d1) (bb := 0) (ci := 6) (As := [vI (xs (i + 1)).toInt]) (rest := []) dL_law_583 ml_L_85 cw_X6_bow iw_X6_bow rfl rfl ht rfl rfl ⟨by decide, by decide⟩ (Nat.le_of_ble_eq_true rfl) hg ?_
  intro r T1 M1 hc2
  refine vY.aload_n (a := 200) dL_law_586 rfl ?_
  refine vY.arg (k := 1) rfl (by omega) hL dL_law_587 dL_law_588 dL_law_589 dL_law_590 dL_law_591 ?_
  refine vY.call (d1 := d1) (bb := 200) (ci := 7) (As := [vI (xs (i + 1)).toInt]) (rest := [vI r]) dL_law_592 ml_L_88 cw_X7_bow iw_X7_bow rfl rfl hc2 rfl rfl ⟨by decide, by decide⟩ (Nat.le_of_ble_eq_true rfl) ⟨Nat.le_refl _, Nat.le_refl _, hg.2.2.1, hg.2.2.2⟩ ?_
  rintro r2 T2 M2 ⟨rfl, hR⟩
  refine vY.same (tgt := 797) dL_law_595 (by decide) ?_
  exact kk _ _ _ hR
theorem y_gasps (hL : L ≤ 2048) (hi : (i : Int) ≤ L - 4) (h : RQ d T M n m) (kk : ∀ (d1 : List Nat) (T1 : vT) (M1 : vM), RR d1 T1 M1 → vY b L xs 797 (lcL i) [] d1 T1 M1) : vY b L xs 600 (lcL i) [] d T M := by
  obtain ⟨d1, hg, ht⟩ := t_gasps (k := (xs (i + 1)).toInt) (w := (xs (i + 2)).toInt) h
  refine vY.aload_n (a := 0) dL_law_600 rfl ?_
  refine vY.arg (k := 1) rfl (by omega) hL dL_law_601 dL_law_602 dL_law_603 dL_law_604 dL_law_605 ?_
  refine vY.arg (k := 2) rfl (by omega) hL dL_law_606 dL_law_607 dL_law_608 dL_law_609 dL_law_610 ?_
  refine vY.call (d1 := d1) (bb := 0) (ci := 6) (As := [vI (xs (i + 1)).toInt, vI (xs (i + 2)).toInt]) (rest := []) dL_law_611 ml_L_89 cw_X6_gasps iw_X6_gasps rfl rfl ht rfl rfl ⟨by decide, by decide⟩ (Nat.le_of_ble_eq_true rfl) hg ?_
  intro r T1 M1 hc2
  refine vY.aload_n (a := 200) dL_law_614 rfl ?_
  refine vY.arg (k := 1) rfl (by omega) hL dL_law_615 dL_law_616 dL_law_617 dL_law_618 dL_law_619 ?_
  refine vY.arg (k := 2) rfl (by omega) hL dL_law_620 dL_law_621 dL_law_622 dL_law_623 dL_law_624 ?_
  refine vY.call (d1 := d1) (bb := 200) (ci := 7) (As := [vI (xs (i + 1)).toInt, vI (xs (i + 2)).toInt]) (rest := [vI r]) dL_law_625 ml_L_92 cw_X7_gasps iw_X7_gasps rfl rfl hc2 rfl rfl ⟨by decide, by decide⟩ (Nat.le_of_ble_eq_true rfl) ⟨Nat.le_refl _, Nat.le_refl _, hg.2.2.1, hg.2.2.2⟩ ?_
  rintro r2 T2 M2 ⟨rfl, hR⟩
  refine vY.same (tgt := 797) dL_law_628 (by decide) ?_
  exact kk _ _ _ hR
theorem y_load (hL : L ≤ 2048) (hi : (i : Int) ≤ L - 4) (h : RQ d T M n m) (kk : ∀ (d1 : List Nat) (T1 : vT) (M1 : vM), RR d1 T1 M1 → vY b L xs 797 (lcL i) [] d1 T1 M1) : vY b L xs 633 (lcL i) [] d T M := by
  refine vY.aload_n (a := 0) dL_law_633 rfl ?_
  refine vY.arg (k := 1) rfl (by omega) hL dL_law_634 dL_law_635 dL_law_636 dL_law_637 dL_law_638 ?_
  refine vY.call (d1 := d) (bb := 0) (ci := 6) (As := [vI (xs (i + 1)).toInt]) (rest := []) dL_law_639 ml_L_93 cw_X6_load iw_X6_load rfl rfl (t_load h) rfl rfl ⟨by decide, by decide⟩ (Nat.le_of_ble_eq_true rfl) h.D.rg ?_
  intro r T1 M1 hc2
  refine vY.aload_n (a := 200) dL_law_642 rfl ?_
  refine vY.arg (k := 1) rfl (by omega) hL dL_law_643 dL_law_644 dL_law_645 dL_law_646 dL_law_647 ?_
  refine vY.call (d1 := d) (bb := 200) (ci := 7) (As := [vI (xs (i + 1)).toInt]) (rest := [vI r]) dL_law_648 ml_L_96 cw_X7_load iw_X7_load rfl rfl hc2 rfl rfl ⟨by decide, by decide⟩ (Nat.le_of_ble_eq_true rfl) ⟨Nat.le_refl _, Nat.le_refl _, h.D.rg.2.2.1, h.D.rg.2.2.2⟩ ?_
  rintro r2 T2 M2 ⟨rfl, hR⟩
  refine vY.same (tgt := 797) dL_law_651 (by decide) ?_
  exact kk _ _ _ hR
theorem y_setUp (hL : L ≤ 2048) (hi : (i : Int) ≤ L - 4) (h : RQ d T M n m) (kk : ∀ (d1 : List Nat) (T1 : vT) (M1 : vM), RR d1 T1 M1 → vY b L xs 797 (lcL i) [] d1 T1 M1) : vY b L xs 656 (lcL i) [] d T M := by
  refine vY.aload_n (a := 0) dL_law_656 rfl ?_
  refine vY.arg (k := 1) rfl (by omega) hL dL_law_657 dL_law_658 dL_law_659 dL_law_660 dL_law_661 ?_
  refine vY.call (d1 := d) (bb := 0) (ci := 6) (As := [vI (xs (i + 1)).toInt]) (rest := []) dL_law_662 ml_L_97 cw_X6_setUp iw_X6_setUp rfl rfl (t_setUp h (i32_rg _).2) rfl rfl ⟨by decide, by decide⟩ (Nat.le_of_ble_eq_true rfl) h.D.rg ?_
  intro r T1 M1 hc2
  refine vY.aload_n (a := 200) dL_law_665 rfl ?_
  refine vY.arg (k := 1) rfl (by omega) hL dL_law_666 dL_law_667 dL_law_668 dL_law_669 dL_law_670 ?_
  refine vY.call (d1 := d) (bb := 200) (ci := 7) (As := [vI (xs (i + 1)).toInt]) (rest := [vI r]) dL_law_671 ml_L_100 cw_X7_setUp iw_X7_setUp rfl rfl hc2 rfl rfl ⟨by decide, by decide⟩ (Nat.le_of_ble_eq_true rfl) ⟨Nat.le_refl _, Nat.le_refl _, h.D.rg.2.2.1, h.D.rg.2.2.2⟩ ?_
  rintro r2 T2 M2 ⟨rfl, hR⟩
  refine vY.same (tgt := 797) dL_law_674 (by decide) ?_
  exact kk _ _ _ hR
theorem y_bestOrder (hL : L ≤ 2048) (hi : (i : Int) ≤ L - 4) (h : RQ d T M n m) (kk : ∀ (d1 : List Nat) (T1 : vT) (M1 : vM), RR d1 T1 M1 → vY b L xs 797 (lcL i) [] d1 T1 M1) : vY b L xs 679 (lcL i) [] d T M := by
  refine vY.aload_n (a := 0) dL_law_679 rfl ?_
  refine vY.call (d1 := d) (bb := 0) (ci := 6) (As := []) (rest := []) dL_law_680 ml_L_101 cw_X6_bestOrder iw_X6_bestOrder rfl rfl (t_bestOrder h) rfl rfl ⟨by decide, by decide⟩ (Nat.le_of_ble_eq_true rfl) h.D.rg ?_
  intro r T1 M1 hc2
  refine vY.aload_n (a := 200) dL_law_683 rfl ?_
  refine vY.call (d1 := d) (bb := 200) (ci := 7) (As := []) (rest := [vI r]) dL_law_684 ml_L_104 cw_X7_bestOrder iw_X7_bestOrder rfl rfl hc2 rfl rfl ⟨by decide, by decide⟩ (Nat.le_of_ble_eq_true rfl) ⟨Nat.le_refl _, Nat.le_refl _, h.D.rg.2.2.1, h.D.rg.2.2.2⟩ ?_
  rintro r2 T2 M2 ⟨rfl, hR⟩
  refine vY.same (tgt := 797) dL_law_687 (by decide) ?_
  exact kk _ _ _ hR
theorem y_film (hL : L ≤ 2048) (hi : (i : Int) ≤ L - 4) (h : RQ d T M n m) (kk : ∀ (d1 : List Nat) (T1 : vT) (M1 : vM), RR d1 T1 M1 → vY b L xs 797 (lcL i) [] d1 T1 M1) : vY b L xs 692 (lcL i) [] d T M := by
  refine vY.aload_n (a := 0) dL_law_692 rfl ?_
  refine vY.arg (k := 1) rfl (by omega) hL dL_law_693 dL_law_694 dL_law_695 dL_law_696 dL_law_697 ?_
  refine vY.call (d1 := d) (bb := 0) (ci := 6) (As := [vI (xs (i + 1)).toInt]) (rest := []) dL_law_698 ml_L_105 cw_X6_film iw_X6_film rfl rfl (t_film h) rfl rfl ⟨by decide, by decide⟩ (Nat.le_of_ble_eq_true rfl) h.D.rg ?_
  intro r T1 M1 hc2
  refine vY.aload_n (a := 200) dL_law_701 rfl ?_
  refine vY.arg (k := 1) rfl (by omega) hL dL_law_702 dL_law_703 dL_law_704 dL_law_705 dL_law_706 ?_
  refine vY.call (d1 := d) (bb := 200) (ci := 7) (As := [vI (xs (i + 1)).toInt]) (rest := [vI r]) dL_law_707 ml_L_108 cw_X7_film iw_X7_film rfl rfl hc2 rfl rfl ⟨by decide, by decide⟩ (Nat.le_of_ble_eq_true rfl) ⟨Nat.le_refl _, Nat.le_refl _, h.D.rg.2.2.1, h.D.rg.2.2.2⟩ ?_
  rintro r2 T2 M2 ⟨rfl, hR⟩
  refine vY.same (tgt := 797) dL_law_710 (by decide) ?_
  exact kk _ _ _ hR
theorem y_whose (hL : L ≤ 2048) (hi : (i : Int) ≤ L - 4) (h : RQ d T M n m) (kk : ∀ (d1 : List Nat) (T1 : vT) (M1 : vM), RR d1 T1 M1 → vY b L xs 797 (lcL i) [] d1 T1 M1) : vY b L xs 715 (lcL i) [] d T M := by
  refine vY.aload_n (a := 0) dL_law_715 rfl ?_
  refine vY.call (d1 := d) (bb := 0) (ci := 6) (As := []) (rest := []) dL_law_716 ml_L_109 cw_X6_whose iw_X6_whose rfl rfl (t_whose h) rfl rfl ⟨by decide, by decide⟩ (Nat.le_of_ble_eq_true rfl) h.D.rg ?_
  intro r T1 M1 hc2
  refine vY.aload_n (a := 200) dL_law_719 rfl ?_
  refine vY.call (d1 := d) (bb := 200) (ci := 7) (As := []) (rest := [vI r]) dL_law_720 ml_L_112 cw_X7_whose iw_X7_whose rfl rfl hc2 rfl rfl ⟨by decide, by decide⟩ (Nat.le_of_ble_eq_true rfl) ⟨Nat.le_refl _, Nat.le_refl _, h.D.rg.2.2.1, h.D.rg.2.2.2⟩ ?_
  rintro r2 T2 M2 ⟨rfl, hR⟩
  refine vY.same (tgt := 797) dL_law_723 (by decide) ?_
  exact kk _ _ _ hR
theorem y_image (hL : L ≤ 2048) (hi : (i : Int) ≤ L - 4) (h : RQ d T M n m) (kk : ∀ (d1 : List Nat) (T1 : vT) (M1 : vM), RR d1 T1 M1 → vY b L xs 797 (lcL i) [] d1 T1 M1) : vY b L xs 728 (lcL i) [] d T M := by
  obtain ⟨d1, hg, ht⟩ := t_image (k := (xs (i + 1)).toInt) h
  refine vY.aload_n (a := 0) dL_law_728 rfl ?_
  refine vY.arg (k := 1) rfl (by omega) hL dL_law_729 dL_law_730 dL_law_731 dL_law_732 dL_law_733 ?_
  refine vY.call (d1 := d1) (bb := 0) (ci := 6) (As := [vI (xs (i + 1)).toInt]) (rest := []) dL_law_734 ml_L_113 cw_X6_image iw_X6_image rfl rfl ht rfl rfl ⟨by decide, by decide⟩ (Nat.le_of_ble_eq_true rfl) hg ?_
  intro r T1 M1 hc2
  refine vY.aload_n (a := 200) dL_law_737 rfl ?_
  refine vY.arg (k := 1) rfl (by omega) hL dL_law_738 dL_law_739 dL_law_740 dL_law_741 dL_law_742 ?_
  refine vY.call (d1 := d1) (bb := 200) (ci := 7) (As := [vI (xs (i + 1)).toInt]) (rest := [vI r]) dL_law_743 ml_L_116 cw_X7_image iw_X7_image rfl rfl hc2 rfl rfl ⟨by decide, by decide⟩ (Nat.le_of_ble_eq_true rfl) ⟨Nat.le_refl _, Nat.le_refl _, hg.2.2.1, hg.2.2.2⟩ ?_
  rintro r2 T2 M2 ⟨rfl, hR⟩
  refine vY.same (tgt := 797) dL_law_746 (by decide) ?_
  exact kk _ _ _ hR
theorem y_restore (hL : L ≤ 2048) (hi : (i : Int) ≤ L - 4) (h : RQ d T M n m) (kk : ∀ (d1 : List Nat) (T1 : vT) (M1 : vM), RR d1 T1 M1 → vY b L xs 797 (lcL i) [] d1 T1 M1) : vY b L xs 751 (lcL i) [] d T M := by
  refine vY.aload_n (a := 0) dL_law_751 rfl ?_
  refine vY.arg (k := 1) rfl (by omega) hL dL_law_752 dL_law_753 dL_law_754 dL_law_755 dL_law_756 ?_
  refine vY.call (d1 := d) (bb := 0) (ci := 6) (As := [vI (xs (i + 1)).toInt]) (rest := []) dL_law_757 ml_L_117 cw_X6_restore iw_X6_restore rfl rfl (t_restore h) rfl rfl ⟨by decide, by decide⟩ (Nat.le_of_ble_eq_true rfl) h.D.rg ?_
  intro r T1 M1 hc2
  refine vY.aload_n (a := 200) dL_law_760 rfl ?_
  refine vY.arg (k := 1) rfl (by omega) hL dL_law_761 dL_law_762 dL_law_763 dL_law_764 dL_law_765 ?_
  refine vY.call (d1 := d) (bb := 200) (ci := 7) (As := [vI (xs (i + 1)).toInt]) (rest := [vI r]) dL_law_766 ml_L_120 cw_X7_restore iw_X7_restore rfl rfl hc2 rfl rfl ⟨by decide, by decide⟩ (Nat.le_of_ble_eq_true rfl) ⟨Nat.le_refl _, Nat.le_refl _, h.D.rg.2.2.1, h.D.rg.2.2.2⟩ ?_
  rintro r2 T2 M2 ⟨rfl, hR⟩
  refine vY.same (tgt := 797) dL_law_769 (by decide) ?_
  exact kk _ _ _ hR
theorem y_told (hL : L ≤ 2048) (hi : (i : Int) ≤ L - 4) (h : RQ d T M n m) (kk : ∀ (d1 : List Nat) (T1 : vT) (M1 : vM), RR d1 T1 M1 → vY b L xs 797 (lcL i) [] d1 T1 M1) : vY b L xs 774 (lcL i) [] d T M := by
  refine vY.aload_n (a := 0) dL_law_774 rfl ?_
  refine vY.arg (k := 1) rfl (by omega) hL dL_law_775 dL_law_776 dL_law_777 dL_law_778 dL_law_779 ?_
  refine vY.call (d1 := d) (bb := 0) (ci := 6) (As := [vI (xs (i + 1)).toInt]) (rest := []) dL_law_780 ml_L_121 cw_X6_told iw_X6_told rfl rfl (t_told h) rfl rfl ⟨by decide, by decide⟩ (Nat.le_of_ble_eq_true rfl) h.D.rg ?_
  intro r T1 M1 hc2
  refine vY.aload_n (a := 200) dL_law_783 rfl ?_
  refine vY.arg (k := 1) rfl (by omega) hL dL_law_784 dL_law_785 dL_law_786 dL_law_787 dL_law_788 ?_
  refine vY.call (d1 := d) (bb := 200) (ci := 7) (As := [vI (xs (i + 1)).toInt]) (rest := [vI r]) dL_law_789 ml_L_124 cw_X7_told iw_X7_told rfl rfl hc2 rfl rfl ⟨by decide, by decide⟩ (Nat.le_of_ble_eq_true rfl) ⟨Nat.le_refl _, Nat.le_refl _, h.D.rg.2.2.1, h.D.rg.2.2.2⟩ ?_
  rintro r2 T2 M2 ⟨rfl, hR⟩
  refine vY.same (tgt := 797) dL_law_792 (by decide) ?_
  exact kk _ _ _ hR
end LC
theorem law_loop {b L : Nat} {xs : Nat → Int32} (hL : L ≤ 2048) : ∀ (k i : Nat) (d : List Nat) (T : vT) (M : vM), i ≤ L → L + 1 ≤ i + k → RR d T M → vY b L xs 18 (lcL i) [] d T M := by
  intro k
  induction k with
  | zero => intro i d T M h1 h2; omega
  | succ k ih =>
    intro i d T M hi hk hR
    refine vY.head (tgt := 803) rfl hL (by omega) dL_law_18 dL_law_19 dL_law_20 dL_law_21 dL_law_22 dL_law_23 (by decide) (fun _ => vY.yes dL_law_803 dL_law_804) (fun hlt => ?_)
    have nx : ∀ (d1 : List Nat) (T1 : vT) (M1 : vM), RR d1 T1 M1 → vY b L xs 797 (lcL i) [] d1 T1 M1 := fun d1 T1 M1 h1 => by
      refine vY.iinc (L' := [none, some (vR 0), some (vR 200), some (vI ((i : Int) + 4))]) dL_law_797 (by decide) (by decide) rfl ⟨by omega, by omega⟩ rfl ?_
      rw [show (i : Int) + 4 = ((i + 4 : Nat) : Int) by omega]
      refine vY.goto (tgt := 18) dL_law_800 (by decide) ?_
      exact ih (i + 4) d1 T1 M1 (by omega) (by omega) h1
    obtain ⟨n, m, h⟩ := hR
    refine vY.sw (tgt := 797) rfl (by omega) hL dL_law_26 dL_law_27 dL_law_28 dL_law_29 dL_law_31 dL_law_32 (by decide) (fun j hj => ?_) (nx d T M ⟨n, m, h⟩)
    match j, hj with
    | 0, _ => exact ⟨156, by decide, y_plate hL hlt h nx⟩
    | 1, _ => exact ⟨199, by decide, y_turn hL hlt h nx⟩
    | 2, _ => exact ⟨232, by decide, y_set hL hlt h nx⟩
    | 3, _ => exact ⟨265, by decide, y_about hL hlt h nx⟩
    | 4, _ => exact ⟨298, by decide, y_tick hL hlt h nx⟩
    | 5, _ => exact ⟨321, by decide, y_say hL hlt h nx⟩
    | 6, _ => exact ⟨344, by decide, y_wipe hL hlt h nx⟩
    | 7, _ => exact ⟨357, by decide, y_fault hL hlt h nx⟩
    | 8, _ => exact ⟨370, by decide, y_judge hL hlt h nx⟩
    | 9, _ => exact ⟨393, by decide, y_show hL hlt h nx⟩
    | 10, _ => exact ⟨406, by decide, y_lasts hL hlt h nx⟩
    | 11, _ => exact ⟨429, by decide, y_at hL hlt h nx⟩
    | 12, _ => exact ⟨472, by decide, y_round hL hlt h nx⟩
    | 13, _ => exact ⟨505, by decide, y_sticks hL hlt h nx⟩
    | 14, _ => exact ⟨538, by decide, y_kept hL hlt h nx⟩
    | 15, _ => exact ⟨551, by decide, y_longest hL hlt h nx⟩
    | 16, _ => exact ⟨564, by decide, y_step hL hlt h nx⟩
    | 17, _ => exact ⟨577, by decide, y_bow hL hlt h nx⟩
    | 18, _ => exact ⟨600, by decide, y_gasps hL hlt h nx⟩
    | 19, _ => exact ⟨633, by decide, y_load hL hlt h nx⟩
    | 20, _ => exact ⟨656, by decide, y_setUp hL hlt h nx⟩
    | 21, _ => exact ⟨679, by decide, y_bestOrder hL hlt h nx⟩
    | 22, _ => exact ⟨692, by decide, y_film hL hlt h nx⟩
    | 23, _ => exact ⟨715, by decide, y_whose hL hlt h nx⟩
    | 24, _ => exact ⟨728, by decide, y_image hL hlt h nx⟩
    | 25, _ => exact ⟨751, by decide, y_restore hL hlt h nx⟩
    | 26, _ => exact ⟨774, by decide, y_told hL hlt h nx⟩
    | j + 27, hj => omega
