theorem dqL_law_0 : decode cqL_law 0 = .ok (.new 7, 3) := by decide +kernel
theorem dqL_law_3 : decode cqL_law 3 = .ok (.dup, 1) := by decide +kernel
theorem dqL_law_4 : decode cqL_law 4 = .ok (.invokespecial 9, 3) := by decide +kernel
theorem dqL_law_7 : decode cqL_law 7 = .ok (.astore_n 1, 1) := by decide +kernel
theorem dqL_law_8 : decode cqL_law 8 = .ok (.new 10, 3) := by decide +kernel
theorem dqL_law_11 : decode cqL_law 11 = .ok (.dup, 1) := by decide +kernel
theorem dqL_law_12 : decode cqL_law 12 = .ok (.invokespecial 12, 3) := by decide +kernel
theorem dqL_law_15 : decode cqL_law 15 = .ok (.astore_n 2, 1) := by decide +kernel
theorem dqL_law_16 : decode cqL_law 16 = .ok (.iconst 0, 1) := by decide +kernel
theorem dqL_law_17 : decode cqL_law 17 = .ok (.istore_n 3, 1) := by decide +kernel
theorem dqL_law_18 : decode cqL_law 18 = .ok (.iload_n 3, 1) := by decide +kernel
theorem dqL_law_19 : decode cqL_law 19 = .ok (.aload_n 0, 1) := by decide +kernel
theorem dqL_law_20 : decode cqL_law 20 = .ok (.arraylength, 1) := by decide +kernel
theorem dqL_law_21 : decode cqL_law 21 = .ok (.iconst 5, 1) := by decide +kernel
theorem dqL_law_22 : decode cqL_law 22 = .ok (.isub, 1) := by decide +kernel
theorem dqL_law_23 : decode cqL_law 23 = .ok (.if_icmp .gt 741, 3) := by decide +kernel
theorem dqL_law_26 : decode cqL_law 26 = .ok (.aload_n 0, 1) := by decide +kernel
theorem dqL_law_27 : decode cqL_law 27 = .ok (.iload_n 3, 1) := by decide +kernel
theorem dqL_law_28 : decode cqL_law 28 = .ok (.iaload, 1) := by decide +kernel
theorem dqL_law_29 : decode cqL_law 29 = .ok (.bipush 31, 2) := by decide +kernel
theorem dqL_law_31 : decode cqL_law 31 = .ok (.iand, 1) := by decide +kernel
theorem dqL_law_32 : decode cqL_law 32 = .ok (.tableswitch 726 0 21 #[104, 137, 160, 173, 196, 229, 282, 315, 358, 381, 430, 453, 496, 509, 532, 565, 588, 611, 634, 657, 680, 693], 104) := by decide +kernel
theorem dqL_law_136 : decode cqL_law 136 = .ok (.aload_n 1, 1) := by decide +kernel
theorem dqL_law_137 : decode cqL_law 137 = .ok (.aload_n 0, 1) := by decide +kernel
theorem dqL_law_138 : decode cqL_law 138 = .ok (.iload_n 3, 1) := by decide +kernel
theorem dqL_law_139 : decode cqL_law 139 = .ok (.iconst 1, 1) := by decide +kernel
theorem dqL_law_140 : decode cqL_law 140 = .ok (.iadd, 1) := by decide +kernel
theorem dqL_law_141 : decode cqL_law 141 = .ok (.iaload, 1) := by decide +kernel
theorem dqL_law_142 : decode cqL_law 142 = .ok (.aload_n 0, 1) := by decide +kernel
theorem dqL_law_143 : decode cqL_law 143 = .ok (.iload_n 3, 1) := by decide +kernel
theorem dqL_law_144 : decode cqL_law 144 = .ok (.iconst 2, 1) := by decide +kernel
theorem dqL_law_145 : decode cqL_law 145 = .ok (.iadd, 1) := by decide +kernel
theorem dqL_law_146 : decode cqL_law 146 = .ok (.iaload, 1) := by decide +kernel
theorem dqL_law_147 : decode cqL_law 147 = .ok (.invokevirtual 13, 3) := by decide +kernel
theorem dqL_law_150 : decode cqL_law 150 = .ok (.pop, 1) := by decide +kernel
theorem dqL_law_151 : decode cqL_law 151 = .ok (.aload_n 2, 1) := by decide +kernel
theorem dqL_law_152 : decode cqL_law 152 = .ok (.aload_n 0, 1) := by decide +kernel
theorem dqL_law_153 : decode cqL_law 153 = .ok (.iload_n 3, 1) := by decide +kernel
theorem dqL_law_154 : decode cqL_law 154 = .ok (.iconst 1, 1) := by decide +kernel
theorem dqL_law_155 : decode cqL_law 155 = .ok (.iadd, 1) := by decide +kernel
theorem dqL_law_156 : decode cqL_law 156 = .ok (.iaload, 1) := by decide +kernel
theorem dqL_law_157 : decode cqL_law 157 = .ok (.aload_n 0, 1) := by decide +kernel
theorem dqL_law_158 : decode cqL_law 158 = .ok (.iload_n 3, 1) := by decide +kernel
theorem dqL_law_159 : decode cqL_law 159 = .ok (.iconst 2, 1) := by decide +kernel
theorem dqL_law_160 : decode cqL_law 160 = .ok (.iadd, 1) := by decide +kernel
theorem dqL_law_161 : decode cqL_law 161 = .ok (.iaload, 1) := by decide +kernel
theorem dqL_law_162 : decode cqL_law 162 = .ok (.invokevirtual 17, 3) := by decide +kernel
theorem dqL_law_165 : decode cqL_law 165 = .ok (.pop, 1) := by decide +kernel
theorem dqL_law_166 : decode cqL_law 166 = .ok (.goto 592, 3) := by decide +kernel
theorem dqL_law_169 : decode cqL_law 169 = .ok (.aload_n 1, 1) := by decide +kernel
theorem dqL_law_170 : decode cqL_law 170 = .ok (.aload_n 0, 1) := by decide +kernel
theorem dqL_law_171 : decode cqL_law 171 = .ok (.iload_n 3, 1) := by decide +kernel
theorem dqL_law_172 : decode cqL_law 172 = .ok (.iconst 1, 1) := by decide +kernel
theorem dqL_law_173 : decode cqL_law 173 = .ok (.iadd, 1) := by decide +kernel
theorem dqL_law_174 : decode cqL_law 174 = .ok (.iaload, 1) := by decide +kernel
theorem dqL_law_175 : decode cqL_law 175 = .ok (.invokevirtual 18, 3) := by decide +kernel
theorem dqL_law_178 : decode cqL_law 178 = .ok (.pop, 1) := by decide +kernel
theorem dqL_law_179 : decode cqL_law 179 = .ok (.aload_n 2, 1) := by decide +kernel
theorem dqL_law_180 : decode cqL_law 180 = .ok (.aload_n 0, 1) := by decide +kernel
theorem dqL_law_181 : decode cqL_law 181 = .ok (.iload_n 3, 1) := by decide +kernel
theorem dqL_law_182 : decode cqL_law 182 = .ok (.iconst 1, 1) := by decide +kernel
theorem dqL_law_183 : decode cqL_law 183 = .ok (.iadd, 1) := by decide +kernel
theorem dqL_law_184 : decode cqL_law 184 = .ok (.iaload, 1) := by decide +kernel
theorem dqL_law_185 : decode cqL_law 185 = .ok (.invokevirtual 22, 3) := by decide +kernel
theorem dqL_law_188 : decode cqL_law 188 = .ok (.pop, 1) := by decide +kernel
theorem dqL_law_189 : decode cqL_law 189 = .ok (.goto 569, 3) := by decide +kernel
theorem dqL_law_192 : decode cqL_law 192 = .ok (.aload_n 1, 1) := by decide +kernel
theorem dqL_law_193 : decode cqL_law 193 = .ok (.invokevirtual 23, 3) := by decide +kernel
theorem dqL_law_196 : decode cqL_law 196 = .ok (.aload_n 2, 1) := by decide +kernel
theorem dqL_law_197 : decode cqL_law 197 = .ok (.invokevirtual 27, 3) := by decide +kernel
theorem dqL_law_200 : decode cqL_law 200 = .ok (.if_icmp .eq 558, 3) := by decide +kernel
theorem dqL_law_203 : decode cqL_law 203 = .ok (.iconst 0, 1) := by decide +kernel
theorem dqL_law_204 : decode cqL_law 204 = .ok (.ireturn, 1) := by decide +kernel
theorem dqL_law_205 : decode cqL_law 205 = .ok (.aload_n 1, 1) := by decide +kernel
theorem dqL_law_206 : decode cqL_law 206 = .ok (.aload_n 0, 1) := by decide +kernel
theorem dqL_law_207 : decode cqL_law 207 = .ok (.iload_n 3, 1) := by decide +kernel
theorem dqL_law_208 : decode cqL_law 208 = .ok (.iconst 1, 1) := by decide +kernel
theorem dqL_law_209 : decode cqL_law 209 = .ok (.iadd, 1) := by decide +kernel
theorem dqL_law_210 : decode cqL_law 210 = .ok (.iaload, 1) := by decide +kernel
theorem dqL_law_211 : decode cqL_law 211 = .ok (.invokevirtual 28, 3) := by decide +kernel
theorem dqL_law_214 : decode cqL_law 214 = .ok (.pop2, 1) := by decide +kernel
theorem dqL_law_215 : decode cqL_law 215 = .ok (.aload_n 2, 1) := by decide +kernel
theorem dqL_law_216 : decode cqL_law 216 = .ok (.aload_n 0, 1) := by decide +kernel
theorem dqL_law_217 : decode cqL_law 217 = .ok (.iload_n 3, 1) := by decide +kernel
theorem dqL_law_218 : decode cqL_law 218 = .ok (.iconst 1, 1) := by decide +kernel
theorem dqL_law_219 : decode cqL_law 219 = .ok (.iadd, 1) := by decide +kernel
theorem dqL_law_220 : decode cqL_law 220 = .ok (.iaload, 1) := by decide +kernel
theorem dqL_law_221 : decode cqL_law 221 = .ok (.invokevirtual 32, 3) := by decide +kernel
theorem dqL_law_224 : decode cqL_law 224 = .ok (.pop2, 1) := by decide +kernel
theorem dqL_law_225 : decode cqL_law 225 = .ok (.goto 533, 3) := by decide +kernel
theorem dqL_law_228 : decode cqL_law 228 = .ok (.aload_n 1, 1) := by decide +kernel
theorem dqL_law_229 : decode cqL_law 229 = .ok (.aload_n 0, 1) := by decide +kernel
theorem dqL_law_230 : decode cqL_law 230 = .ok (.iload_n 3, 1) := by decide +kernel
theorem dqL_law_231 : decode cqL_law 231 = .ok (.iconst 1, 1) := by decide +kernel
theorem dqL_law_232 : decode cqL_law 232 = .ok (.iadd, 1) := by decide +kernel
theorem dqL_law_233 : decode cqL_law 233 = .ok (.iaload, 1) := by decide +kernel
theorem dqL_law_234 : decode cqL_law 234 = .ok (.aload_n 0, 1) := by decide +kernel
theorem dqL_law_235 : decode cqL_law 235 = .ok (.iload_n 3, 1) := by decide +kernel
theorem dqL_law_236 : decode cqL_law 236 = .ok (.iconst 2, 1) := by decide +kernel
theorem dqL_law_237 : decode cqL_law 237 = .ok (.iadd, 1) := by decide +kernel
theorem dqL_law_238 : decode cqL_law 238 = .ok (.iaload, 1) := by decide +kernel
theorem dqL_law_239 : decode cqL_law 239 = .ok (.invokevirtual 33, 3) := by decide +kernel
theorem dqL_law_242 : decode cqL_law 242 = .ok (.pop, 1) := by decide +kernel
theorem dqL_law_243 : decode cqL_law 243 = .ok (.aload_n 2, 1) := by decide +kernel
theorem dqL_law_244 : decode cqL_law 244 = .ok (.aload_n 0, 1) := by decide +kernel
theorem dqL_law_245 : decode cqL_law 245 = .ok (.iload_n 3, 1) := by decide +kernel
theorem dqL_law_246 : decode cqL_law 246 = .ok (.iconst 1, 1) := by decide +kernel
theorem dqL_law_247 : decode cqL_law 247 = .ok (.iadd, 1) := by decide +kernel
theorem dqL_law_248 : decode cqL_law 248 = .ok (.iaload, 1) := by decide +kernel
theorem dqL_law_249 : decode cqL_law 249 = .ok (.aload_n 0, 1) := by decide +kernel
theorem dqL_law_250 : decode cqL_law 250 = .ok (.iload_n 3, 1) := by decide +kernel
theorem dqL_law_251 : decode cqL_law 251 = .ok (.iconst 2, 1) := by decide +kernel
theorem dqL_law_252 : decode cqL_law 252 = .ok (.iadd, 1) := by decide +kernel
theorem dqL_law_253 : decode cqL_law 253 = .ok (.iaload, 1) := by decide +kernel
theorem dqL_law_254 : decode cqL_law 254 = .ok (.invokevirtual 36, 3) := by decide +kernel
theorem dqL_law_257 : decode cqL_law 257 = .ok (.pop, 1) := by decide +kernel
theorem dqL_law_258 : decode cqL_law 258 = .ok (.goto 500, 3) := by decide +kernel
theorem dqL_law_261 : decode cqL_law 261 = .ok (.aload_n 1, 1) := by decide +kernel
theorem dqL_law_262 : decode cqL_law 262 = .ok (.aload_n 0, 1) := by decide +kernel
theorem dqL_law_263 : decode cqL_law 263 = .ok (.iload_n 3, 1) := by decide +kernel
theorem dqL_law_264 : decode cqL_law 264 = .ok (.iconst 1, 1) := by decide +kernel
theorem dqL_law_265 : decode cqL_law 265 = .ok (.iadd, 1) := by decide +kernel
theorem dqL_law_266 : decode cqL_law 266 = .ok (.iaload, 1) := by decide +kernel
theorem dqL_law_267 : decode cqL_law 267 = .ok (.aload_n 0, 1) := by decide +kernel
theorem dqL_law_268 : decode cqL_law 268 = .ok (.iload_n 3, 1) := by decide +kernel
theorem dqL_law_269 : decode cqL_law 269 = .ok (.iconst 2, 1) := by decide +kernel
theorem dqL_law_270 : decode cqL_law 270 = .ok (.iadd, 1) := by decide +kernel
theorem dqL_law_271 : decode cqL_law 271 = .ok (.iaload, 1) := by decide +kernel
theorem dqL_law_272 : decode cqL_law 272 = .ok (.aload_n 0, 1) := by decide +kernel
theorem dqL_law_273 : decode cqL_law 273 = .ok (.iload_n 3, 1) := by decide +kernel
theorem dqL_law_274 : decode cqL_law 274 = .ok (.iconst 3, 1) := by decide +kernel
theorem dqL_law_275 : decode cqL_law 275 = .ok (.iadd, 1) := by decide +kernel
theorem dqL_law_276 : decode cqL_law 276 = .ok (.iaload, 1) := by decide +kernel
theorem dqL_law_277 : decode cqL_law 277 = .ok (.aload_n 0, 1) := by decide +kernel
theorem dqL_law_278 : decode cqL_law 278 = .ok (.iload_n 3, 1) := by decide +kernel
theorem dqL_law_279 : decode cqL_law 279 = .ok (.iconst 4, 1) := by decide +kernel
theorem dqL_law_280 : decode cqL_law 280 = .ok (.iadd, 1) := by decide +kernel
theorem dqL_law_281 : decode cqL_law 281 = .ok (.iaload, 1) := by decide +kernel
theorem dqL_law_282 : decode cqL_law 282 = .ok (.invokevirtual 37, 3) := by decide +kernel
theorem dqL_law_285 : decode cqL_law 285 = .ok (.pop, 1) := by decide +kernel
theorem dqL_law_286 : decode cqL_law 286 = .ok (.aload_n 2, 1) := by decide +kernel
theorem dqL_law_287 : decode cqL_law 287 = .ok (.aload_n 0, 1) := by decide +kernel
theorem dqL_law_288 : decode cqL_law 288 = .ok (.iload_n 3, 1) := by decide +kernel
theorem dqL_law_289 : decode cqL_law 289 = .ok (.iconst 1, 1) := by decide +kernel
theorem dqL_law_290 : decode cqL_law 290 = .ok (.iadd, 1) := by decide +kernel
theorem dqL_law_291 : decode cqL_law 291 = .ok (.iaload, 1) := by decide +kernel
theorem dqL_law_292 : decode cqL_law 292 = .ok (.aload_n 0, 1) := by decide +kernel
theorem dqL_law_293 : decode cqL_law 293 = .ok (.iload_n 3, 1) := by decide +kernel
theorem dqL_law_294 : decode cqL_law 294 = .ok (.iconst 2, 1) := by decide +kernel
theorem dqL_law_295 : decode cqL_law 295 = .ok (.iadd, 1) := by decide +kernel
theorem dqL_law_296 : decode cqL_law 296 = .ok (.iaload, 1) := by decide +kernel
theorem dqL_law_297 : decode cqL_law 297 = .ok (.aload_n 0, 1) := by decide +kernel
theorem dqL_law_298 : decode cqL_law 298 = .ok (.iload_n 3, 1) := by decide +kernel
theorem dqL_law_299 : decode cqL_law 299 = .ok (.iconst 3, 1) := by decide +kernel
theorem dqL_law_300 : decode cqL_law 300 = .ok (.iadd, 1) := by decide +kernel
theorem dqL_law_301 : decode cqL_law 301 = .ok (.iaload, 1) := by decide +kernel
theorem dqL_law_302 : decode cqL_law 302 = .ok (.aload_n 0, 1) := by decide +kernel
theorem dqL_law_303 : decode cqL_law 303 = .ok (.iload_n 3, 1) := by decide +kernel
theorem dqL_law_304 : decode cqL_law 304 = .ok (.iconst 4, 1) := by decide +kernel
theorem dqL_law_305 : decode cqL_law 305 = .ok (.iadd, 1) := by decide +kernel
theorem dqL_law_306 : decode cqL_law 306 = .ok (.iaload, 1) := by decide +kernel
theorem dqL_law_307 : decode cqL_law 307 = .ok (.invokevirtual 41, 3) := by decide +kernel
theorem dqL_law_310 : decode cqL_law 310 = .ok (.pop, 1) := by decide +kernel
theorem dqL_law_311 : decode cqL_law 311 = .ok (.goto 447, 3) := by decide +kernel
theorem dqL_law_314 : decode cqL_law 314 = .ok (.aload_n 1, 1) := by decide +kernel
theorem dqL_law_315 : decode cqL_law 315 = .ok (.aload_n 0, 1) := by decide +kernel
theorem dqL_law_316 : decode cqL_law 316 = .ok (.iload_n 3, 1) := by decide +kernel
theorem dqL_law_317 : decode cqL_law 317 = .ok (.iconst 1, 1) := by decide +kernel
theorem dqL_law_318 : decode cqL_law 318 = .ok (.iadd, 1) := by decide +kernel
theorem dqL_law_319 : decode cqL_law 319 = .ok (.iaload, 1) := by decide +kernel
theorem dqL_law_320 : decode cqL_law 320 = .ok (.aload_n 0, 1) := by decide +kernel
theorem dqL_law_321 : decode cqL_law 321 = .ok (.iload_n 3, 1) := by decide +kernel
theorem dqL_law_322 : decode cqL_law 322 = .ok (.iconst 2, 1) := by decide +kernel
theorem dqL_law_323 : decode cqL_law 323 = .ok (.iadd, 1) := by decide +kernel
theorem dqL_law_324 : decode cqL_law 324 = .ok (.iaload, 1) := by decide +kernel
theorem dqL_law_325 : decode cqL_law 325 = .ok (.invokevirtual 42, 3) := by decide +kernel
theorem dqL_law_328 : decode cqL_law 328 = .ok (.pop, 1) := by decide +kernel
theorem dqL_law_329 : decode cqL_law 329 = .ok (.aload_n 2, 1) := by decide +kernel
theorem dqL_law_330 : decode cqL_law 330 = .ok (.aload_n 0, 1) := by decide +kernel
theorem dqL_law_331 : decode cqL_law 331 = .ok (.iload_n 3, 1) := by decide +kernel
theorem dqL_law_332 : decode cqL_law 332 = .ok (.iconst 1, 1) := by decide +kernel
theorem dqL_law_333 : decode cqL_law 333 = .ok (.iadd, 1) := by decide +kernel
theorem dqL_law_334 : decode cqL_law 334 = .ok (.iaload, 1) := by decide +kernel
theorem dqL_law_335 : decode cqL_law 335 = .ok (.aload_n 0, 1) := by decide +kernel
theorem dqL_law_336 : decode cqL_law 336 = .ok (.iload_n 3, 1) := by decide +kernel
theorem dqL_law_337 : decode cqL_law 337 = .ok (.iconst 2, 1) := by decide +kernel
theorem dqL_law_338 : decode cqL_law 338 = .ok (.iadd, 1) := by decide +kernel
theorem dqL_law_339 : decode cqL_law 339 = .ok (.iaload, 1) := by decide +kernel
theorem dqL_law_340 : decode cqL_law 340 = .ok (.invokevirtual 45, 3) := by decide +kernel
theorem dqL_law_343 : decode cqL_law 343 = .ok (.pop, 1) := by decide +kernel
theorem dqL_law_344 : decode cqL_law 344 = .ok (.goto 414, 3) := by decide +kernel
theorem dqL_law_347 : decode cqL_law 347 = .ok (.aload_n 1, 1) := by decide +kernel
theorem dqL_law_348 : decode cqL_law 348 = .ok (.aload_n 0, 1) := by decide +kernel
theorem dqL_law_349 : decode cqL_law 349 = .ok (.iload_n 3, 1) := by decide +kernel
theorem dqL_law_350 : decode cqL_law 350 = .ok (.iconst 1, 1) := by decide +kernel
theorem dqL_law_351 : decode cqL_law 351 = .ok (.iadd, 1) := by decide +kernel
theorem dqL_law_352 : decode cqL_law 352 = .ok (.iaload, 1) := by decide +kernel
theorem dqL_law_353 : decode cqL_law 353 = .ok (.aload_n 0, 1) := by decide +kernel
theorem dqL_law_354 : decode cqL_law 354 = .ok (.iload_n 3, 1) := by decide +kernel
theorem dqL_law_355 : decode cqL_law 355 = .ok (.iconst 2, 1) := by decide +kernel
theorem dqL_law_356 : decode cqL_law 356 = .ok (.iadd, 1) := by decide +kernel
theorem dqL_law_357 : decode cqL_law 357 = .ok (.iaload, 1) := by decide +kernel
theorem dqL_law_358 : decode cqL_law 358 = .ok (.aload_n 0, 1) := by decide +kernel
theorem dqL_law_359 : decode cqL_law 359 = .ok (.iload_n 3, 1) := by decide +kernel
theorem dqL_law_360 : decode cqL_law 360 = .ok (.iconst 3, 1) := by decide +kernel
theorem dqL_law_361 : decode cqL_law 361 = .ok (.iadd, 1) := by decide +kernel
theorem dqL_law_362 : decode cqL_law 362 = .ok (.iaload, 1) := by decide +kernel
theorem dqL_law_363 : decode cqL_law 363 = .ok (.invokevirtual 46, 3) := by decide +kernel
theorem dqL_law_366 : decode cqL_law 366 = .ok (.pop, 1) := by decide +kernel
theorem dqL_law_367 : decode cqL_law 367 = .ok (.aload_n 2, 1) := by decide +kernel
theorem dqL_law_368 : decode cqL_law 368 = .ok (.aload_n 0, 1) := by decide +kernel
theorem dqL_law_369 : decode cqL_law 369 = .ok (.iload_n 3, 1) := by decide +kernel
theorem dqL_law_370 : decode cqL_law 370 = .ok (.iconst 1, 1) := by decide +kernel
theorem dqL_law_371 : decode cqL_law 371 = .ok (.iadd, 1) := by decide +kernel
theorem dqL_law_372 : decode cqL_law 372 = .ok (.iaload, 1) := by decide +kernel
theorem dqL_law_373 : decode cqL_law 373 = .ok (.aload_n 0, 1) := by decide +kernel
theorem dqL_law_374 : decode cqL_law 374 = .ok (.iload_n 3, 1) := by decide +kernel
theorem dqL_law_375 : decode cqL_law 375 = .ok (.iconst 2, 1) := by decide +kernel
theorem dqL_law_376 : decode cqL_law 376 = .ok (.iadd, 1) := by decide +kernel
theorem dqL_law_377 : decode cqL_law 377 = .ok (.iaload, 1) := by decide +kernel
theorem dqL_law_378 : decode cqL_law 378 = .ok (.aload_n 0, 1) := by decide +kernel
theorem dqL_law_379 : decode cqL_law 379 = .ok (.iload_n 3, 1) := by decide +kernel
theorem dqL_law_380 : decode cqL_law 380 = .ok (.iconst 3, 1) := by decide +kernel
theorem dqL_law_381 : decode cqL_law 381 = .ok (.iadd, 1) := by decide +kernel
theorem dqL_law_382 : decode cqL_law 382 = .ok (.iaload, 1) := by decide +kernel
theorem dqL_law_383 : decode cqL_law 383 = .ok (.invokevirtual 50, 3) := by decide +kernel
theorem dqL_law_386 : decode cqL_law 386 = .ok (.pop, 1) := by decide +kernel
theorem dqL_law_387 : decode cqL_law 387 = .ok (.goto 371, 3) := by decide +kernel
theorem dqL_law_390 : decode cqL_law 390 = .ok (.aload_n 1, 1) := by decide +kernel
theorem dqL_law_391 : decode cqL_law 391 = .ok (.aload_n 0, 1) := by decide +kernel
theorem dqL_law_392 : decode cqL_law 392 = .ok (.iload_n 3, 1) := by decide +kernel
theorem dqL_law_393 : decode cqL_law 393 = .ok (.iconst 1, 1) := by decide +kernel
theorem dqL_law_394 : decode cqL_law 394 = .ok (.iadd, 1) := by decide +kernel
theorem dqL_law_395 : decode cqL_law 395 = .ok (.iaload, 1) := by decide +kernel
theorem dqL_law_396 : decode cqL_law 396 = .ok (.invokevirtual 51, 3) := by decide +kernel
theorem dqL_law_399 : decode cqL_law 399 = .ok (.pop, 1) := by decide +kernel
theorem dqL_law_400 : decode cqL_law 400 = .ok (.aload_n 2, 1) := by decide +kernel
theorem dqL_law_401 : decode cqL_law 401 = .ok (.aload_n 0, 1) := by decide +kernel
theorem dqL_law_402 : decode cqL_law 402 = .ok (.iload_n 3, 1) := by decide +kernel
theorem dqL_law_403 : decode cqL_law 403 = .ok (.iconst 1, 1) := by decide +kernel
theorem dqL_law_404 : decode cqL_law 404 = .ok (.iadd, 1) := by decide +kernel
theorem dqL_law_405 : decode cqL_law 405 = .ok (.iaload, 1) := by decide +kernel
theorem dqL_law_406 : decode cqL_law 406 = .ok (.invokevirtual 54, 3) := by decide +kernel
theorem dqL_law_409 : decode cqL_law 409 = .ok (.pop, 1) := by decide +kernel
theorem dqL_law_410 : decode cqL_law 410 = .ok (.goto 348, 3) := by decide +kernel
theorem dqL_law_413 : decode cqL_law 413 = .ok (.aload_n 1, 1) := by decide +kernel
theorem dqL_law_414 : decode cqL_law 414 = .ok (.aload_n 0, 1) := by decide +kernel
theorem dqL_law_415 : decode cqL_law 415 = .ok (.iload_n 3, 1) := by decide +kernel
theorem dqL_law_416 : decode cqL_law 416 = .ok (.iconst 1, 1) := by decide +kernel
theorem dqL_law_417 : decode cqL_law 417 = .ok (.iadd, 1) := by decide +kernel
theorem dqL_law_418 : decode cqL_law 418 = .ok (.iaload, 1) := by decide +kernel
theorem dqL_law_419 : decode cqL_law 419 = .ok (.aload_n 0, 1) := by decide +kernel
theorem dqL_law_420 : decode cqL_law 420 = .ok (.iload_n 3, 1) := by decide +kernel
theorem dqL_law_421 : decode cqL_law 421 = .ok (.iconst 2, 1) := by decide +kernel
theorem dqL_law_422 : decode cqL_law 422 = .ok (.iadd, 1) := by decide +kernel
theorem dqL_law_423 : decode cqL_law 423 = .ok (.iaload, 1) := by decide +kernel
theorem dqL_law_424 : decode cqL_law 424 = .ok (.ifCond .eq 7, 3) := by decide +kernel
theorem dqL_law_427 : decode cqL_law 427 = .ok (.iconst 1, 1) := by decide +kernel
theorem dqL_law_428 : decode cqL_law 428 = .ok (.goto 4, 3) := by decide +kernel
theorem dqL_law_431 : decode cqL_law 431 = .ok (.iconst 0, 1) := by decide +kernel
theorem dqL_law_432 : decode cqL_law 432 = .ok (.invokevirtual 55, 3) := by decide +kernel
theorem dqL_law_435 : decode cqL_law 435 = .ok (.pop, 1) := by decide +kernel
theorem dqL_law_436 : decode cqL_law 436 = .ok (.aload_n 2, 1) := by decide +kernel
theorem dqL_law_437 : decode cqL_law 437 = .ok (.aload_n 0, 1) := by decide +kernel
theorem dqL_law_438 : decode cqL_law 438 = .ok (.iload_n 3, 1) := by decide +kernel
theorem dqL_law_439 : decode cqL_law 439 = .ok (.iconst 1, 1) := by decide +kernel
theorem dqL_law_440 : decode cqL_law 440 = .ok (.iadd, 1) := by decide +kernel
theorem dqL_law_441 : decode cqL_law 441 = .ok (.iaload, 1) := by decide +kernel
theorem dqL_law_442 : decode cqL_law 442 = .ok (.aload_n 0, 1) := by decide +kernel
theorem dqL_law_443 : decode cqL_law 443 = .ok (.iload_n 3, 1) := by decide +kernel
theorem dqL_law_444 : decode cqL_law 444 = .ok (.iconst 2, 1) := by decide +kernel
theorem dqL_law_445 : decode cqL_law 445 = .ok (.iadd, 1) := by decide +kernel
theorem dqL_law_446 : decode cqL_law 446 = .ok (.iaload, 1) := by decide +kernel
theorem dqL_law_447 : decode cqL_law 447 = .ok (.ifCond .eq 7, 3) := by decide +kernel
theorem dqL_law_450 : decode cqL_law 450 = .ok (.iconst 1, 1) := by decide +kernel
theorem dqL_law_451 : decode cqL_law 451 = .ok (.goto 4, 3) := by decide +kernel
theorem dqL_law_454 : decode cqL_law 454 = .ok (.iconst 0, 1) := by decide +kernel
theorem dqL_law_455 : decode cqL_law 455 = .ok (.invokevirtual 59, 3) := by decide +kernel
theorem dqL_law_458 : decode cqL_law 458 = .ok (.pop, 1) := by decide +kernel
theorem dqL_law_459 : decode cqL_law 459 = .ok (.goto 299, 3) := by decide +kernel
theorem dqL_law_462 : decode cqL_law 462 = .ok (.aload_n 1, 1) := by decide +kernel
theorem dqL_law_463 : decode cqL_law 463 = .ok (.aload_n 0, 1) := by decide +kernel
theorem dqL_law_464 : decode cqL_law 464 = .ok (.iload_n 3, 1) := by decide +kernel
theorem dqL_law_465 : decode cqL_law 465 = .ok (.iconst 1, 1) := by decide +kernel
theorem dqL_law_466 : decode cqL_law 466 = .ok (.iadd, 1) := by decide +kernel
theorem dqL_law_467 : decode cqL_law 467 = .ok (.iaload, 1) := by decide +kernel
theorem dqL_law_468 : decode cqL_law 468 = .ok (.invokevirtual 60, 3) := by decide +kernel
theorem dqL_law_471 : decode cqL_law 471 = .ok (.pop, 1) := by decide +kernel
theorem dqL_law_472 : decode cqL_law 472 = .ok (.aload_n 2, 1) := by decide +kernel
theorem dqL_law_473 : decode cqL_law 473 = .ok (.aload_n 0, 1) := by decide +kernel
theorem dqL_law_474 : decode cqL_law 474 = .ok (.iload_n 3, 1) := by decide +kernel
theorem dqL_law_475 : decode cqL_law 475 = .ok (.iconst 1, 1) := by decide +kernel
theorem dqL_law_476 : decode cqL_law 476 = .ok (.iadd, 1) := by decide +kernel
theorem dqL_law_477 : decode cqL_law 477 = .ok (.iaload, 1) := by decide +kernel
theorem dqL_law_478 : decode cqL_law 478 = .ok (.invokevirtual 63, 3) := by decide +kernel
theorem dqL_law_481 : decode cqL_law 481 = .ok (.pop, 1) := by decide +kernel
theorem dqL_law_482 : decode cqL_law 482 = .ok (.goto 276, 3) := by decide +kernel
theorem dqL_law_485 : decode cqL_law 485 = .ok (.aload_n 1, 1) := by decide +kernel
theorem dqL_law_486 : decode cqL_law 486 = .ok (.aload_n 0, 1) := by decide +kernel
theorem dqL_law_487 : decode cqL_law 487 = .ok (.iload_n 3, 1) := by decide +kernel
theorem dqL_law_488 : decode cqL_law 488 = .ok (.iconst 1, 1) := by decide +kernel
theorem dqL_law_489 : decode cqL_law 489 = .ok (.iadd, 1) := by decide +kernel
theorem dqL_law_490 : decode cqL_law 490 = .ok (.iaload, 1) := by decide +kernel
theorem dqL_law_491 : decode cqL_law 491 = .ok (.aload_n 0, 1) := by decide +kernel
theorem dqL_law_492 : decode cqL_law 492 = .ok (.iload_n 3, 1) := by decide +kernel
theorem dqL_law_493 : decode cqL_law 493 = .ok (.iconst 2, 1) := by decide +kernel
theorem dqL_law_494 : decode cqL_law 494 = .ok (.iadd, 1) := by decide +kernel
theorem dqL_law_495 : decode cqL_law 495 = .ok (.iaload, 1) := by decide +kernel
theorem dqL_law_496 : decode cqL_law 496 = .ok (.aload_n 0, 1) := by decide +kernel
theorem dqL_law_497 : decode cqL_law 497 = .ok (.iload_n 3, 1) := by decide +kernel
theorem dqL_law_498 : decode cqL_law 498 = .ok (.iconst 3, 1) := by decide +kernel
theorem dqL_law_499 : decode cqL_law 499 = .ok (.iadd, 1) := by decide +kernel
theorem dqL_law_500 : decode cqL_law 500 = .ok (.iaload, 1) := by decide +kernel
theorem dqL_law_501 : decode cqL_law 501 = .ok (.invokevirtual 64, 3) := by decide +kernel
theorem dqL_law_504 : decode cqL_law 504 = .ok (.pop, 1) := by decide +kernel
theorem dqL_law_505 : decode cqL_law 505 = .ok (.aload_n 2, 1) := by decide +kernel
theorem dqL_law_506 : decode cqL_law 506 = .ok (.aload_n 0, 1) := by decide +kernel
theorem dqL_law_507 : decode cqL_law 507 = .ok (.iload_n 3, 1) := by decide +kernel
theorem dqL_law_508 : decode cqL_law 508 = .ok (.iconst 1, 1) := by decide +kernel
theorem dqL_law_509 : decode cqL_law 509 = .ok (.iadd, 1) := by decide +kernel
theorem dqL_law_510 : decode cqL_law 510 = .ok (.iaload, 1) := by decide +kernel
theorem dqL_law_511 : decode cqL_law 511 = .ok (.aload_n 0, 1) := by decide +kernel
theorem dqL_law_512 : decode cqL_law 512 = .ok (.iload_n 3, 1) := by decide +kernel
theorem dqL_law_513 : decode cqL_law 513 = .ok (.iconst 2, 1) := by decide +kernel
theorem dqL_law_514 : decode cqL_law 514 = .ok (.iadd, 1) := by decide +kernel
theorem dqL_law_515 : decode cqL_law 515 = .ok (.iaload, 1) := by decide +kernel
theorem dqL_law_516 : decode cqL_law 516 = .ok (.aload_n 0, 1) := by decide +kernel
theorem dqL_law_517 : decode cqL_law 517 = .ok (.iload_n 3, 1) := by decide +kernel
theorem dqL_law_518 : decode cqL_law 518 = .ok (.iconst 3, 1) := by decide +kernel
theorem dqL_law_519 : decode cqL_law 519 = .ok (.iadd, 1) := by decide +kernel
theorem dqL_law_520 : decode cqL_law 520 = .ok (.iaload, 1) := by decide +kernel
theorem dqL_law_521 : decode cqL_law 521 = .ok (.invokevirtual 67, 3) := by decide +kernel
theorem dqL_law_524 : decode cqL_law 524 = .ok (.pop, 1) := by decide +kernel
theorem dqL_law_525 : decode cqL_law 525 = .ok (.goto 233, 3) := by decide +kernel
theorem dqL_law_528 : decode cqL_law 528 = .ok (.aload_n 1, 1) := by decide +kernel
theorem dqL_law_529 : decode cqL_law 529 = .ok (.invokevirtual 68, 3) := by decide +kernel
theorem dqL_law_532 : decode cqL_law 532 = .ok (.pop, 1) := by decide +kernel
theorem dqL_law_533 : decode cqL_law 533 = .ok (.aload_n 2, 1) := by decide +kernel
theorem dqL_law_534 : decode cqL_law 534 = .ok (.invokevirtual 71, 3) := by decide +kernel
theorem dqL_law_537 : decode cqL_law 537 = .ok (.pop, 1) := by decide +kernel
theorem dqL_law_538 : decode cqL_law 538 = .ok (.goto 220, 3) := by decide +kernel
theorem dqL_law_541 : decode cqL_law 541 = .ok (.aload_n 1, 1) := by decide +kernel
theorem dqL_law_542 : decode cqL_law 542 = .ok (.aload_n 0, 1) := by decide +kernel
theorem dqL_law_543 : decode cqL_law 543 = .ok (.iload_n 3, 1) := by decide +kernel
theorem dqL_law_544 : decode cqL_law 544 = .ok (.iconst 1, 1) := by decide +kernel
theorem dqL_law_545 : decode cqL_law 545 = .ok (.iadd, 1) := by decide +kernel
theorem dqL_law_546 : decode cqL_law 546 = .ok (.iaload, 1) := by decide +kernel
theorem dqL_law_547 : decode cqL_law 547 = .ok (.invokevirtual 72, 3) := by decide +kernel
theorem dqL_law_550 : decode cqL_law 550 = .ok (.pop2, 1) := by decide +kernel
theorem dqL_law_551 : decode cqL_law 551 = .ok (.aload_n 2, 1) := by decide +kernel
theorem dqL_law_552 : decode cqL_law 552 = .ok (.aload_n 0, 1) := by decide +kernel
theorem dqL_law_553 : decode cqL_law 553 = .ok (.iload_n 3, 1) := by decide +kernel
theorem dqL_law_554 : decode cqL_law 554 = .ok (.iconst 1, 1) := by decide +kernel
theorem dqL_law_555 : decode cqL_law 555 = .ok (.iadd, 1) := by decide +kernel
theorem dqL_law_556 : decode cqL_law 556 = .ok (.iaload, 1) := by decide +kernel
theorem dqL_law_557 : decode cqL_law 557 = .ok (.invokevirtual 75, 3) := by decide +kernel
theorem dqL_law_560 : decode cqL_law 560 = .ok (.pop2, 1) := by decide +kernel
theorem dqL_law_561 : decode cqL_law 561 = .ok (.goto 197, 3) := by decide +kernel
theorem dqL_law_564 : decode cqL_law 564 = .ok (.aload_n 1, 1) := by decide +kernel
theorem dqL_law_565 : decode cqL_law 565 = .ok (.aload_n 0, 1) := by decide +kernel
theorem dqL_law_566 : decode cqL_law 566 = .ok (.iload_n 3, 1) := by decide +kernel
theorem dqL_law_567 : decode cqL_law 567 = .ok (.iconst 1, 1) := by decide +kernel
theorem dqL_law_568 : decode cqL_law 568 = .ok (.iadd, 1) := by decide +kernel
theorem dqL_law_569 : decode cqL_law 569 = .ok (.iaload, 1) := by decide +kernel
theorem dqL_law_570 : decode cqL_law 570 = .ok (.aload_n 0, 1) := by decide +kernel
theorem dqL_law_571 : decode cqL_law 571 = .ok (.iload_n 3, 1) := by decide +kernel
theorem dqL_law_572 : decode cqL_law 572 = .ok (.iconst 2, 1) := by decide +kernel
theorem dqL_law_573 : decode cqL_law 573 = .ok (.iadd, 1) := by decide +kernel
theorem dqL_law_574 : decode cqL_law 574 = .ok (.iaload, 1) := by decide +kernel
theorem dqL_law_575 : decode cqL_law 575 = .ok (.invokevirtual 76, 3) := by decide +kernel
theorem dqL_law_578 : decode cqL_law 578 = .ok (.pop2, 1) := by decide +kernel
theorem dqL_law_579 : decode cqL_law 579 = .ok (.aload_n 2, 1) := by decide +kernel
theorem dqL_law_580 : decode cqL_law 580 = .ok (.aload_n 0, 1) := by decide +kernel
theorem dqL_law_581 : decode cqL_law 581 = .ok (.iload_n 3, 1) := by decide +kernel
theorem dqL_law_582 : decode cqL_law 582 = .ok (.iconst 1, 1) := by decide +kernel
theorem dqL_law_583 : decode cqL_law 583 = .ok (.iadd, 1) := by decide +kernel
theorem dqL_law_584 : decode cqL_law 584 = .ok (.iaload, 1) := by decide +kernel
theorem dqL_law_585 : decode cqL_law 585 = .ok (.aload_n 0, 1) := by decide +kernel
theorem dqL_law_586 : decode cqL_law 586 = .ok (.iload_n 3, 1) := by decide +kernel
theorem dqL_law_587 : decode cqL_law 587 = .ok (.iconst 2, 1) := by decide +kernel
theorem dqL_law_588 : decode cqL_law 588 = .ok (.iadd, 1) := by decide +kernel
theorem dqL_law_589 : decode cqL_law 589 = .ok (.iaload, 1) := by decide +kernel
theorem dqL_law_590 : decode cqL_law 590 = .ok (.invokevirtual 80, 3) := by decide +kernel
theorem dqL_law_593 : decode cqL_law 593 = .ok (.pop2, 1) := by decide +kernel
theorem dqL_law_594 : decode cqL_law 594 = .ok (.goto 164, 3) := by decide +kernel
theorem dqL_law_597 : decode cqL_law 597 = .ok (.aload_n 1, 1) := by decide +kernel
theorem dqL_law_598 : decode cqL_law 598 = .ok (.aload_n 0, 1) := by decide +kernel
theorem dqL_law_599 : decode cqL_law 599 = .ok (.iload_n 3, 1) := by decide +kernel
theorem dqL_law_600 : decode cqL_law 600 = .ok (.iconst 1, 1) := by decide +kernel
theorem dqL_law_601 : decode cqL_law 601 = .ok (.iadd, 1) := by decide +kernel
theorem dqL_law_602 : decode cqL_law 602 = .ok (.iaload, 1) := by decide +kernel
theorem dqL_law_603 : decode cqL_law 603 = .ok (.invokevirtual 81, 3) := by decide +kernel
theorem dqL_law_606 : decode cqL_law 606 = .ok (.pop, 1) := by decide +kernel
theorem dqL_law_607 : decode cqL_law 607 = .ok (.aload_n 2, 1) := by decide +kernel
theorem dqL_law_608 : decode cqL_law 608 = .ok (.aload_n 0, 1) := by decide +kernel
theorem dqL_law_609 : decode cqL_law 609 = .ok (.iload_n 3, 1) := by decide +kernel
theorem dqL_law_610 : decode cqL_law 610 = .ok (.iconst 1, 1) := by decide +kernel
theorem dqL_law_611 : decode cqL_law 611 = .ok (.iadd, 1) := by decide +kernel
theorem dqL_law_612 : decode cqL_law 612 = .ok (.iaload, 1) := by decide +kernel
theorem dqL_law_613 : decode cqL_law 613 = .ok (.invokevirtual 84, 3) := by decide +kernel
theorem dqL_law_616 : decode cqL_law 616 = .ok (.pop, 1) := by decide +kernel
theorem dqL_law_617 : decode cqL_law 617 = .ok (.goto 141, 3) := by decide +kernel
theorem dqL_law_620 : decode cqL_law 620 = .ok (.aload_n 1, 1) := by decide +kernel
theorem dqL_law_621 : decode cqL_law 621 = .ok (.aload_n 0, 1) := by decide +kernel
theorem dqL_law_622 : decode cqL_law 622 = .ok (.iload_n 3, 1) := by decide +kernel
theorem dqL_law_623 : decode cqL_law 623 = .ok (.iconst 1, 1) := by decide +kernel
theorem dqL_law_624 : decode cqL_law 624 = .ok (.iadd, 1) := by decide +kernel
theorem dqL_law_625 : decode cqL_law 625 = .ok (.iaload, 1) := by decide +kernel
theorem dqL_law_626 : decode cqL_law 626 = .ok (.invokevirtual 85, 3) := by decide +kernel
theorem dqL_law_629 : decode cqL_law 629 = .ok (.pop, 1) := by decide +kernel
theorem dqL_law_630 : decode cqL_law 630 = .ok (.aload_n 2, 1) := by decide +kernel
theorem dqL_law_631 : decode cqL_law 631 = .ok (.aload_n 0, 1) := by decide +kernel
theorem dqL_law_632 : decode cqL_law 632 = .ok (.iload_n 3, 1) := by decide +kernel
theorem dqL_law_633 : decode cqL_law 633 = .ok (.iconst 1, 1) := by decide +kernel
theorem dqL_law_634 : decode cqL_law 634 = .ok (.iadd, 1) := by decide +kernel
theorem dqL_law_635 : decode cqL_law 635 = .ok (.iaload, 1) := by decide +kernel
theorem dqL_law_636 : decode cqL_law 636 = .ok (.invokevirtual 88, 3) := by decide +kernel
theorem dqL_law_639 : decode cqL_law 639 = .ok (.pop, 1) := by decide +kernel
theorem dqL_law_640 : decode cqL_law 640 = .ok (.goto 118, 3) := by decide +kernel
theorem dqL_law_643 : decode cqL_law 643 = .ok (.aload_n 1, 1) := by decide +kernel
theorem dqL_law_644 : decode cqL_law 644 = .ok (.aload_n 0, 1) := by decide +kernel
theorem dqL_law_645 : decode cqL_law 645 = .ok (.iload_n 3, 1) := by decide +kernel
theorem dqL_law_646 : decode cqL_law 646 = .ok (.iconst 1, 1) := by decide +kernel
theorem dqL_law_647 : decode cqL_law 647 = .ok (.iadd, 1) := by decide +kernel
theorem dqL_law_648 : decode cqL_law 648 = .ok (.iaload, 1) := by decide +kernel
theorem dqL_law_649 : decode cqL_law 649 = .ok (.invokevirtual 89, 3) := by decide +kernel
theorem dqL_law_652 : decode cqL_law 652 = .ok (.pop, 1) := by decide +kernel
theorem dqL_law_653 : decode cqL_law 653 = .ok (.aload_n 2, 1) := by decide +kernel
theorem dqL_law_654 : decode cqL_law 654 = .ok (.aload_n 0, 1) := by decide +kernel
theorem dqL_law_655 : decode cqL_law 655 = .ok (.iload_n 3, 1) := by decide +kernel
theorem dqL_law_656 : decode cqL_law 656 = .ok (.iconst 1, 1) := by decide +kernel
theorem dqL_law_657 : decode cqL_law 657 = .ok (.iadd, 1) := by decide +kernel
theorem dqL_law_658 : decode cqL_law 658 = .ok (.iaload, 1) := by decide +kernel
theorem dqL_law_659 : decode cqL_law 659 = .ok (.invokevirtual 92, 3) := by decide +kernel
theorem dqL_law_662 : decode cqL_law 662 = .ok (.pop, 1) := by decide +kernel
theorem dqL_law_663 : decode cqL_law 663 = .ok (.goto 95, 3) := by decide +kernel
theorem dqL_law_666 : decode cqL_law 666 = .ok (.aload_n 1, 1) := by decide +kernel
theorem dqL_law_667 : decode cqL_law 667 = .ok (.aload_n 0, 1) := by decide +kernel
theorem dqL_law_668 : decode cqL_law 668 = .ok (.iload_n 3, 1) := by decide +kernel
theorem dqL_law_669 : decode cqL_law 669 = .ok (.iconst 1, 1) := by decide +kernel
theorem dqL_law_670 : decode cqL_law 670 = .ok (.iadd, 1) := by decide +kernel
theorem dqL_law_671 : decode cqL_law 671 = .ok (.iaload, 1) := by decide +kernel
theorem dqL_law_672 : decode cqL_law 672 = .ok (.invokevirtual 93, 3) := by decide +kernel
theorem dqL_law_675 : decode cqL_law 675 = .ok (.pop, 1) := by decide +kernel
theorem dqL_law_676 : decode cqL_law 676 = .ok (.aload_n 2, 1) := by decide +kernel
theorem dqL_law_677 : decode cqL_law 677 = .ok (.aload_n 0, 1) := by decide +kernel
theorem dqL_law_678 : decode cqL_law 678 = .ok (.iload_n 3, 1) := by decide +kernel
theorem dqL_law_679 : decode cqL_law 679 = .ok (.iconst 1, 1) := by decide +kernel
theorem dqL_law_680 : decode cqL_law 680 = .ok (.iadd, 1) := by decide +kernel
theorem dqL_law_681 : decode cqL_law 681 = .ok (.iaload, 1) := by decide +kernel
theorem dqL_law_682 : decode cqL_law 682 = .ok (.invokevirtual 96, 3) := by decide +kernel
theorem dqL_law_685 : decode cqL_law 685 = .ok (.pop, 1) := by decide +kernel
theorem dqL_law_686 : decode cqL_law 686 = .ok (.goto 72, 3) := by decide +kernel
theorem dqL_law_689 : decode cqL_law 689 = .ok (.aload_n 1, 1) := by decide +kernel
theorem dqL_law_690 : decode cqL_law 690 = .ok (.aload_n 0, 1) := by decide +kernel
theorem dqL_law_691 : decode cqL_law 691 = .ok (.iload_n 3, 1) := by decide +kernel
theorem dqL_law_692 : decode cqL_law 692 = .ok (.iconst 1, 1) := by decide +kernel
theorem dqL_law_693 : decode cqL_law 693 = .ok (.iadd, 1) := by decide +kernel
theorem dqL_law_694 : decode cqL_law 694 = .ok (.iaload, 1) := by decide +kernel
theorem dqL_law_695 : decode cqL_law 695 = .ok (.invokevirtual 97, 3) := by decide +kernel
theorem dqL_law_698 : decode cqL_law 698 = .ok (.pop, 1) := by decide +kernel
theorem dqL_law_699 : decode cqL_law 699 = .ok (.aload_n 2, 1) := by decide +kernel
theorem dqL_law_700 : decode cqL_law 700 = .ok (.aload_n 0, 1) := by decide +kernel
theorem dqL_law_701 : decode cqL_law 701 = .ok (.iload_n 3, 1) := by decide +kernel
theorem dqL_law_702 : decode cqL_law 702 = .ok (.iconst 1, 1) := by decide +kernel
theorem dqL_law_703 : decode cqL_law 703 = .ok (.iadd, 1) := by decide +kernel
theorem dqL_law_704 : decode cqL_law 704 = .ok (.iaload, 1) := by decide +kernel
theorem dqL_law_705 : decode cqL_law 705 = .ok (.invokevirtual 100, 3) := by decide +kernel
theorem dqL_law_708 : decode cqL_law 708 = .ok (.pop, 1) := by decide +kernel
theorem dqL_law_709 : decode cqL_law 709 = .ok (.goto 49, 3) := by decide +kernel
theorem dqL_law_712 : decode cqL_law 712 = .ok (.aload_n 1, 1) := by decide +kernel
theorem dqL_law_713 : decode cqL_law 713 = .ok (.invokevirtual 101, 3) := by decide +kernel
theorem dqL_law_716 : decode cqL_law 716 = .ok (.pop2, 1) := by decide +kernel
theorem dqL_law_717 : decode cqL_law 717 = .ok (.aload_n 2, 1) := by decide +kernel
theorem dqL_law_718 : decode cqL_law 718 = .ok (.invokevirtual 105, 3) := by decide +kernel
theorem dqL_law_721 : decode cqL_law 721 = .ok (.pop2, 1) := by decide +kernel
theorem dqL_law_722 : decode cqL_law 722 = .ok (.goto 36, 3) := by decide +kernel
theorem dqL_law_725 : decode cqL_law 725 = .ok (.aload_n 1, 1) := by decide +kernel
theorem dqL_law_726 : decode cqL_law 726 = .ok (.aload_n 0, 1) := by decide +kernel
theorem dqL_law_727 : decode cqL_law 727 = .ok (.iload_n 3, 1) := by decide +kernel
theorem dqL_law_728 : decode cqL_law 728 = .ok (.iconst 1, 1) := by decide +kernel
theorem dqL_law_729 : decode cqL_law 729 = .ok (.iadd, 1) := by decide +kernel
theorem dqL_law_730 : decode cqL_law 730 = .ok (.iaload, 1) := by decide +kernel
theorem dqL_law_731 : decode cqL_law 731 = .ok (.aload_n 0, 1) := by decide +kernel
theorem dqL_law_732 : decode cqL_law 732 = .ok (.iload_n 3, 1) := by decide +kernel
theorem dqL_law_733 : decode cqL_law 733 = .ok (.iconst 2, 1) := by decide +kernel
theorem dqL_law_734 : decode cqL_law 734 = .ok (.iadd, 1) := by decide +kernel
theorem dqL_law_735 : decode cqL_law 735 = .ok (.iaload, 1) := by decide +kernel
theorem dqL_law_736 : decode cqL_law 736 = .ok (.invokevirtual 106, 3) := by decide +kernel
theorem dqL_law_739 : decode cqL_law 739 = .ok (.pop, 1) := by decide +kernel
theorem dqL_law_740 : decode cqL_law 740 = .ok (.aload_n 2, 1) := by decide +kernel
theorem dqL_law_741 : decode cqL_law 741 = .ok (.aload_n 0, 1) := by decide +kernel
theorem dqL_law_742 : decode cqL_law 742 = .ok (.iload_n 3, 1) := by decide +kernel
theorem dqL_law_743 : decode cqL_law 743 = .ok (.iconst 1, 1) := by decide +kernel
theorem dqL_law_744 : decode cqL_law 744 = .ok (.iadd, 1) := by decide +kernel
theorem dqL_law_745 : decode cqL_law 745 = .ok (.iaload, 1) := by decide +kernel
theorem dqL_law_746 : decode cqL_law 746 = .ok (.aload_n 0, 1) := by decide +kernel
theorem dqL_law_747 : decode cqL_law 747 = .ok (.iload_n 3, 1) := by decide +kernel
theorem dqL_law_748 : decode cqL_law 748 = .ok (.iconst 2, 1) := by decide +kernel
theorem dqL_law_749 : decode cqL_law 749 = .ok (.iadd, 1) := by decide +kernel
theorem dqL_law_750 : decode cqL_law 750 = .ok (.iaload, 1) := by decide +kernel
theorem dqL_law_751 : decode cqL_law 751 = .ok (.invokevirtual 109, 3) := by decide +kernel
theorem dqL_law_754 : decode cqL_law 754 = .ok (.pop, 1) := by decide +kernel
theorem dqL_law_755 : decode cqL_law 755 = .ok (.goto 3, 3) := by decide +kernel
theorem dqL_law_758 : decode cqL_law 758 = .ok (.iinc 3 5, 3) := by decide +kernel
theorem dqL_law_761 : decode cqL_law 761 = .ok (.goto (-743), 3) := by decide +kernel
theorem dqL_law_764 : decode cqL_law 764 = .ok (.iconst 1, 1) := by decide +kernel
theorem dqL_law_765 : decode cqL_law 765 = .ok (.ireturn, 1) := by decide +kernel
theorem dqJ_floorDiv_0 : decode cqJ_floorDiv 0 = .ok (.lload_n 0, 1) := by decide +kernel
theorem dqJ_floorDiv_1 : decode cqJ_floorDiv 1 = .ok (.lload_n 2, 1) := by decide +kernel
theorem dqJ_floorDiv_2 : decode cqJ_floorDiv 2 = .ok (.ldiv, 1) := by decide +kernel
theorem dqJ_floorDiv_3 : decode cqJ_floorDiv 3 = .ok (.lstore 4, 2) := by decide +kernel
theorem dqJ_floorDiv_5 : decode cqJ_floorDiv 5 = .ok (.lload_n 0, 1) := by decide +kernel
theorem dqJ_floorDiv_6 : decode cqJ_floorDiv 6 = .ok (.lload_n 2, 1) := by decide +kernel
theorem dqJ_floorDiv_7 : decode cqJ_floorDiv 7 = .ok (.lxor, 1) := by decide +kernel
theorem dqJ_floorDiv_8 : decode cqJ_floorDiv 8 = .ok (.lconst 0, 1) := by decide +kernel
theorem dqJ_floorDiv_9 : decode cqJ_floorDiv 9 = .ok (.lcmp, 1) := by decide +kernel
theorem dqJ_floorDiv_10 : decode cqJ_floorDiv 10 = .ok (.ifCond .ge 17, 3) := by decide +kernel
theorem dqJ_floorDiv_13 : decode cqJ_floorDiv 13 = .ok (.lload 4, 2) := by decide +kernel
theorem dqJ_floorDiv_15 : decode cqJ_floorDiv 15 = .ok (.lload_n 2, 1) := by decide +kernel
theorem dqJ_floorDiv_16 : decode cqJ_floorDiv 16 = .ok (.lmul, 1) := by decide +kernel
theorem dqJ_floorDiv_17 : decode cqJ_floorDiv 17 = .ok (.lload_n 0, 1) := by decide +kernel
theorem dqJ_floorDiv_18 : decode cqJ_floorDiv 18 = .ok (.lcmp, 1) := by decide +kernel
theorem dqJ_floorDiv_19 : decode cqJ_floorDiv 19 = .ok (.ifCond .eq 8, 3) := by decide +kernel
theorem dqJ_floorDiv_22 : decode cqJ_floorDiv 22 = .ok (.lload 4, 2) := by decide +kernel
theorem dqJ_floorDiv_24 : decode cqJ_floorDiv 24 = .ok (.lconst 1, 1) := by decide +kernel
theorem dqJ_floorDiv_25 : decode cqJ_floorDiv 25 = .ok (.lsub, 1) := by decide +kernel
theorem dqJ_floorDiv_26 : decode cqJ_floorDiv 26 = .ok (.lreturn, 1) := by decide +kernel
theorem dqJ_floorDiv_27 : decode cqJ_floorDiv 27 = .ok (.lload 4, 2) := by decide +kernel
theorem dqJ_floorDiv_29 : decode cqJ_floorDiv 29 = .ok (.lreturn, 1) := by decide +kernel
