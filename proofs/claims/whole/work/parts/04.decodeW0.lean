theorem dc_W_law_0 : decode bc_W_law 0 = .ok (.new 7, 3) := by decide +kernel
theorem dc_W_law_3 : decode bc_W_law 3 = .ok (.dup, 1) := by decide +kernel
theorem dc_W_law_4 : decode bc_W_law 4 = .ok (.invokespecial 9, 3) := by decide +kernel
theorem dc_W_law_7 : decode bc_W_law 7 = .ok (.astore_n 1, 1) := by decide +kernel
theorem dc_W_law_8 : decode bc_W_law 8 = .ok (.new 10, 3) := by decide +kernel
theorem dc_W_law_11 : decode bc_W_law 11 = .ok (.dup, 1) := by decide +kernel
theorem dc_W_law_12 : decode bc_W_law 12 = .ok (.invokespecial 12, 3) := by decide +kernel
theorem dc_W_law_15 : decode bc_W_law 15 = .ok (.astore_n 2, 1) := by decide +kernel
theorem dc_W_law_16 : decode bc_W_law 16 = .ok (.iconst 0, 1) := by decide +kernel
theorem dc_W_law_17 : decode bc_W_law 17 = .ok (.istore_n 3, 1) := by decide +kernel
theorem dc_W_law_18 : decode bc_W_law 18 = .ok (.iload_n 3, 1) := by decide +kernel
theorem dc_W_law_19 : decode bc_W_law 19 = .ok (.aload_n 0, 1) := by decide +kernel
theorem dc_W_law_20 : decode bc_W_law 20 = .ok (.arraylength, 1) := by decide +kernel
theorem dc_W_law_21 : decode bc_W_law 21 = .ok (.bipush 8, 2) := by decide +kernel
theorem dc_W_law_23 : decode bc_W_law 23 = .ok (.isub, 1) := by decide +kernel
theorem dc_W_law_24 : decode bc_W_law 24 = .ok (.if_icmp .gt 1337, 3) := by decide +kernel
theorem dc_W_law_27 : decode bc_W_law 27 = .ok (.aload_n 0, 1) := by decide +kernel
theorem dc_W_law_28 : decode bc_W_law 28 = .ok (.iload_n 3, 1) := by decide +kernel
theorem dc_W_law_29 : decode bc_W_law 29 = .ok (.iaload, 1) := by decide +kernel
theorem dc_W_law_30 : decode bc_W_law 30 = .ok (.bipush 31, 2) := by decide +kernel
theorem dc_W_law_32 : decode bc_W_law 32 = .ok (.iand, 1) := by decide +kernel
theorem dc_W_law_33 : decode bc_W_law 33 = .ok (.tableswitch 1322 0 25 #[119, 172, 195, 268, 331, 364, 387, 421, 516, 560, 643, 750, 784, 818, 851, 884, 918, 961, 995, 1028, 1051, 1074, 1138, 1241, 1265, 1299], 119) := by decide +kernel
theorem dc_W_law_152 : decode bc_W_law 152 = .ok (.aload_n 1, 1) := by decide +kernel
theorem dc_W_law_153 : decode bc_W_law 153 = .ok (.aload_n 0, 1) := by decide +kernel
theorem dc_W_law_154 : decode bc_W_law 154 = .ok (.iload_n 3, 1) := by decide +kernel
theorem dc_W_law_155 : decode bc_W_law 155 = .ok (.iconst 1, 1) := by decide +kernel
theorem dc_W_law_156 : decode bc_W_law 156 = .ok (.iadd, 1) := by decide +kernel
theorem dc_W_law_157 : decode bc_W_law 157 = .ok (.iaload, 1) := by decide +kernel
theorem dc_W_law_158 : decode bc_W_law 158 = .ok (.i2l, 1) := by decide +kernel
theorem dc_W_law_159 : decode bc_W_law 159 = .ok (.bipush 32, 2) := by decide +kernel
theorem dc_W_law_161 : decode bc_W_law 161 = .ok (.lshl, 1) := by decide +kernel
theorem dc_W_law_162 : decode bc_W_law 162 = .ok (.aload_n 0, 1) := by decide +kernel
theorem dc_W_law_163 : decode bc_W_law 163 = .ok (.iload_n 3, 1) := by decide +kernel
theorem dc_W_law_164 : decode bc_W_law 164 = .ok (.iconst 2, 1) := by decide +kernel
theorem dc_W_law_165 : decode bc_W_law 165 = .ok (.iadd, 1) := by decide +kernel
theorem dc_W_law_166 : decode bc_W_law 166 = .ok (.iaload, 1) := by decide +kernel
theorem dc_W_law_167 : decode bc_W_law 167 = .ok (.i2l, 1) := by decide +kernel
theorem dc_W_law_168 : decode bc_W_law 168 = .ok (.ldc2_w 13, 3) := by decide +kernel
theorem dc_W_law_171 : decode bc_W_law 171 = .ok (.land, 1) := by decide +kernel
theorem dc_W_law_172 : decode bc_W_law 172 = .ok (.lor, 1) := by decide +kernel
theorem dc_W_law_173 : decode bc_W_law 173 = .ok (.invokevirtual 15, 3) := by decide +kernel
theorem dc_W_law_176 : decode bc_W_law 176 = .ok (.aload_n 2, 1) := by decide +kernel
theorem dc_W_law_177 : decode bc_W_law 177 = .ok (.aload_n 0, 1) := by decide +kernel
theorem dc_W_law_178 : decode bc_W_law 178 = .ok (.iload_n 3, 1) := by decide +kernel
theorem dc_W_law_179 : decode bc_W_law 179 = .ok (.iconst 1, 1) := by decide +kernel
theorem dc_W_law_180 : decode bc_W_law 180 = .ok (.iadd, 1) := by decide +kernel
theorem dc_W_law_181 : decode bc_W_law 181 = .ok (.iaload, 1) := by decide +kernel
theorem dc_W_law_182 : decode bc_W_law 182 = .ok (.i2l, 1) := by decide +kernel
theorem dc_W_law_183 : decode bc_W_law 183 = .ok (.bipush 32, 2) := by decide +kernel
theorem dc_W_law_185 : decode bc_W_law 185 = .ok (.lshl, 1) := by decide +kernel
theorem dc_W_law_186 : decode bc_W_law 186 = .ok (.aload_n 0, 1) := by decide +kernel
theorem dc_W_law_187 : decode bc_W_law 187 = .ok (.iload_n 3, 1) := by decide +kernel
theorem dc_W_law_188 : decode bc_W_law 188 = .ok (.iconst 2, 1) := by decide +kernel
theorem dc_W_law_189 : decode bc_W_law 189 = .ok (.iadd, 1) := by decide +kernel
theorem dc_W_law_190 : decode bc_W_law 190 = .ok (.iaload, 1) := by decide +kernel
theorem dc_W_law_191 : decode bc_W_law 191 = .ok (.i2l, 1) := by decide +kernel
theorem dc_W_law_192 : decode bc_W_law 192 = .ok (.ldc2_w 13, 3) := by decide +kernel
theorem dc_W_law_195 : decode bc_W_law 195 = .ok (.land, 1) := by decide +kernel
theorem dc_W_law_196 : decode bc_W_law 196 = .ok (.lor, 1) := by decide +kernel
theorem dc_W_law_197 : decode bc_W_law 197 = .ok (.invokevirtual 19, 3) := by decide +kernel
theorem dc_W_law_200 : decode bc_W_law 200 = .ok (.if_icmp .eq 1155, 3) := by decide +kernel
theorem dc_W_law_203 : decode bc_W_law 203 = .ok (.iconst 0, 1) := by decide +kernel
theorem dc_W_law_204 : decode bc_W_law 204 = .ok (.ireturn, 1) := by decide +kernel
theorem dc_W_law_205 : decode bc_W_law 205 = .ok (.aload_n 1, 1) := by decide +kernel
theorem dc_W_law_206 : decode bc_W_law 206 = .ok (.aload_n 0, 1) := by decide +kernel
theorem dc_W_law_207 : decode bc_W_law 207 = .ok (.iload_n 3, 1) := by decide +kernel
theorem dc_W_law_208 : decode bc_W_law 208 = .ok (.iconst 1, 1) := by decide +kernel
theorem dc_W_law_209 : decode bc_W_law 209 = .ok (.iadd, 1) := by decide +kernel
theorem dc_W_law_210 : decode bc_W_law 210 = .ok (.iaload, 1) := by decide +kernel
theorem dc_W_law_211 : decode bc_W_law 211 = .ok (.invokevirtual 20, 3) := by decide +kernel
theorem dc_W_law_214 : decode bc_W_law 214 = .ok (.aload_n 2, 1) := by decide +kernel
theorem dc_W_law_215 : decode bc_W_law 215 = .ok (.aload_n 0, 1) := by decide +kernel
theorem dc_W_law_216 : decode bc_W_law 216 = .ok (.iload_n 3, 1) := by decide +kernel
theorem dc_W_law_217 : decode bc_W_law 217 = .ok (.iconst 1, 1) := by decide +kernel
theorem dc_W_law_218 : decode bc_W_law 218 = .ok (.iadd, 1) := by decide +kernel
theorem dc_W_law_219 : decode bc_W_law 219 = .ok (.iaload, 1) := by decide +kernel
theorem dc_W_law_220 : decode bc_W_law 220 = .ok (.invokevirtual 24, 3) := by decide +kernel
theorem dc_W_law_223 : decode bc_W_law 223 = .ok (.if_icmp .eq 1132, 3) := by decide +kernel
theorem dc_W_law_226 : decode bc_W_law 226 = .ok (.iconst 0, 1) := by decide +kernel
theorem dc_W_law_227 : decode bc_W_law 227 = .ok (.ireturn, 1) := by decide +kernel
theorem dc_W_law_228 : decode bc_W_law 228 = .ok (.aload_n 1, 1) := by decide +kernel
theorem dc_W_law_229 : decode bc_W_law 229 = .ok (.aload_n 0, 1) := by decide +kernel
theorem dc_W_law_230 : decode bc_W_law 230 = .ok (.iload_n 3, 1) := by decide +kernel
theorem dc_W_law_231 : decode bc_W_law 231 = .ok (.iconst 1, 1) := by decide +kernel
theorem dc_W_law_232 : decode bc_W_law 232 = .ok (.iadd, 1) := by decide +kernel
theorem dc_W_law_233 : decode bc_W_law 233 = .ok (.iaload, 1) := by decide +kernel
theorem dc_W_law_234 : decode bc_W_law 234 = .ok (.aload_n 0, 1) := by decide +kernel
theorem dc_W_law_235 : decode bc_W_law 235 = .ok (.iload_n 3, 1) := by decide +kernel
theorem dc_W_law_236 : decode bc_W_law 236 = .ok (.iconst 2, 1) := by decide +kernel
theorem dc_W_law_237 : decode bc_W_law 237 = .ok (.iadd, 1) := by decide +kernel
theorem dc_W_law_238 : decode bc_W_law 238 = .ok (.iaload, 1) := by decide +kernel
theorem dc_W_law_239 : decode bc_W_law 239 = .ok (.aload_n 0, 1) := by decide +kernel
theorem dc_W_law_240 : decode bc_W_law 240 = .ok (.iload_n 3, 1) := by decide +kernel
theorem dc_W_law_241 : decode bc_W_law 241 = .ok (.iconst 3, 1) := by decide +kernel
theorem dc_W_law_242 : decode bc_W_law 242 = .ok (.iadd, 1) := by decide +kernel
theorem dc_W_law_243 : decode bc_W_law 243 = .ok (.iaload, 1) := by decide +kernel
theorem dc_W_law_244 : decode bc_W_law 244 = .ok (.i2l, 1) := by decide +kernel
theorem dc_W_law_245 : decode bc_W_law 245 = .ok (.bipush 32, 2) := by decide +kernel
theorem dc_W_law_247 : decode bc_W_law 247 = .ok (.lshl, 1) := by decide +kernel
theorem dc_W_law_248 : decode bc_W_law 248 = .ok (.aload_n 0, 1) := by decide +kernel
theorem dc_W_law_249 : decode bc_W_law 249 = .ok (.iload_n 3, 1) := by decide +kernel
theorem dc_W_law_250 : decode bc_W_law 250 = .ok (.iconst 4, 1) := by decide +kernel
theorem dc_W_law_251 : decode bc_W_law 251 = .ok (.iadd, 1) := by decide +kernel
theorem dc_W_law_252 : decode bc_W_law 252 = .ok (.iaload, 1) := by decide +kernel
theorem dc_W_law_253 : decode bc_W_law 253 = .ok (.i2l, 1) := by decide +kernel
theorem dc_W_law_254 : decode bc_W_law 254 = .ok (.ldc2_w 13, 3) := by decide +kernel
theorem dc_W_law_257 : decode bc_W_law 257 = .ok (.land, 1) := by decide +kernel
theorem dc_W_law_258 : decode bc_W_law 258 = .ok (.lor, 1) := by decide +kernel
theorem dc_W_law_259 : decode bc_W_law 259 = .ok (.invokevirtual 25, 3) := by decide +kernel
theorem dc_W_law_262 : decode bc_W_law 262 = .ok (.aload_n 2, 1) := by decide +kernel
theorem dc_W_law_263 : decode bc_W_law 263 = .ok (.aload_n 0, 1) := by decide +kernel
theorem dc_W_law_264 : decode bc_W_law 264 = .ok (.iload_n 3, 1) := by decide +kernel
theorem dc_W_law_265 : decode bc_W_law 265 = .ok (.iconst 1, 1) := by decide +kernel
theorem dc_W_law_266 : decode bc_W_law 266 = .ok (.iadd, 1) := by decide +kernel
theorem dc_W_law_267 : decode bc_W_law 267 = .ok (.iaload, 1) := by decide +kernel
theorem dc_W_law_268 : decode bc_W_law 268 = .ok (.aload_n 0, 1) := by decide +kernel
theorem dc_W_law_269 : decode bc_W_law 269 = .ok (.iload_n 3, 1) := by decide +kernel
theorem dc_W_law_270 : decode bc_W_law 270 = .ok (.iconst 2, 1) := by decide +kernel
theorem dc_W_law_271 : decode bc_W_law 271 = .ok (.iadd, 1) := by decide +kernel
theorem dc_W_law_272 : decode bc_W_law 272 = .ok (.iaload, 1) := by decide +kernel
theorem dc_W_law_273 : decode bc_W_law 273 = .ok (.aload_n 0, 1) := by decide +kernel
theorem dc_W_law_274 : decode bc_W_law 274 = .ok (.iload_n 3, 1) := by decide +kernel
theorem dc_W_law_275 : decode bc_W_law 275 = .ok (.iconst 3, 1) := by decide +kernel
theorem dc_W_law_276 : decode bc_W_law 276 = .ok (.iadd, 1) := by decide +kernel
theorem dc_W_law_277 : decode bc_W_law 277 = .ok (.iaload, 1) := by decide +kernel
theorem dc_W_law_278 : decode bc_W_law 278 = .ok (.i2l, 1) := by decide +kernel
theorem dc_W_law_279 : decode bc_W_law 279 = .ok (.bipush 32, 2) := by decide +kernel
theorem dc_W_law_281 : decode bc_W_law 281 = .ok (.lshl, 1) := by decide +kernel
theorem dc_W_law_282 : decode bc_W_law 282 = .ok (.aload_n 0, 1) := by decide +kernel
theorem dc_W_law_283 : decode bc_W_law 283 = .ok (.iload_n 3, 1) := by decide +kernel
theorem dc_W_law_284 : decode bc_W_law 284 = .ok (.iconst 4, 1) := by decide +kernel
theorem dc_W_law_285 : decode bc_W_law 285 = .ok (.iadd, 1) := by decide +kernel
theorem dc_W_law_286 : decode bc_W_law 286 = .ok (.iaload, 1) := by decide +kernel
theorem dc_W_law_287 : decode bc_W_law 287 = .ok (.i2l, 1) := by decide +kernel
theorem dc_W_law_288 : decode bc_W_law 288 = .ok (.ldc2_w 13, 3) := by decide +kernel
theorem dc_W_law_291 : decode bc_W_law 291 = .ok (.land, 1) := by decide +kernel
theorem dc_W_law_292 : decode bc_W_law 292 = .ok (.lor, 1) := by decide +kernel
theorem dc_W_law_293 : decode bc_W_law 293 = .ok (.invokevirtual 29, 3) := by decide +kernel
theorem dc_W_law_296 : decode bc_W_law 296 = .ok (.if_icmp .eq 1059, 3) := by decide +kernel
theorem dc_W_law_299 : decode bc_W_law 299 = .ok (.iconst 0, 1) := by decide +kernel
theorem dc_W_law_300 : decode bc_W_law 300 = .ok (.ireturn, 1) := by decide +kernel
theorem dc_W_law_301 : decode bc_W_law 301 = .ok (.aload_n 1, 1) := by decide +kernel
theorem dc_W_law_302 : decode bc_W_law 302 = .ok (.aload_n 0, 1) := by decide +kernel
theorem dc_W_law_303 : decode bc_W_law 303 = .ok (.iload_n 3, 1) := by decide +kernel
theorem dc_W_law_304 : decode bc_W_law 304 = .ok (.iconst 1, 1) := by decide +kernel
theorem dc_W_law_305 : decode bc_W_law 305 = .ok (.iadd, 1) := by decide +kernel
theorem dc_W_law_306 : decode bc_W_law 306 = .ok (.iaload, 1) := by decide +kernel
theorem dc_W_law_307 : decode bc_W_law 307 = .ok (.aload_n 0, 1) := by decide +kernel
theorem dc_W_law_308 : decode bc_W_law 308 = .ok (.iload_n 3, 1) := by decide +kernel
theorem dc_W_law_309 : decode bc_W_law 309 = .ok (.iconst 2, 1) := by decide +kernel
theorem dc_W_law_310 : decode bc_W_law 310 = .ok (.iadd, 1) := by decide +kernel
theorem dc_W_law_311 : decode bc_W_law 311 = .ok (.iaload, 1) := by decide +kernel
theorem dc_W_law_312 : decode bc_W_law 312 = .ok (.i2l, 1) := by decide +kernel
theorem dc_W_law_313 : decode bc_W_law 313 = .ok (.bipush 32, 2) := by decide +kernel
theorem dc_W_law_315 : decode bc_W_law 315 = .ok (.lshl, 1) := by decide +kernel
theorem dc_W_law_316 : decode bc_W_law 316 = .ok (.aload_n 0, 1) := by decide +kernel
theorem dc_W_law_317 : decode bc_W_law 317 = .ok (.iload_n 3, 1) := by decide +kernel
theorem dc_W_law_318 : decode bc_W_law 318 = .ok (.iconst 3, 1) := by decide +kernel
theorem dc_W_law_319 : decode bc_W_law 319 = .ok (.iadd, 1) := by decide +kernel
theorem dc_W_law_320 : decode bc_W_law 320 = .ok (.iaload, 1) := by decide +kernel
theorem dc_W_law_321 : decode bc_W_law 321 = .ok (.i2l, 1) := by decide +kernel
theorem dc_W_law_322 : decode bc_W_law 322 = .ok (.ldc2_w 13, 3) := by decide +kernel
theorem dc_W_law_325 : decode bc_W_law 325 = .ok (.land, 1) := by decide +kernel
theorem dc_W_law_326 : decode bc_W_law 326 = .ok (.lor, 1) := by decide +kernel
theorem dc_W_law_327 : decode bc_W_law 327 = .ok (.invokevirtual 30, 3) := by decide +kernel
theorem dc_W_law_330 : decode bc_W_law 330 = .ok (.aload_n 2, 1) := by decide +kernel
theorem dc_W_law_331 : decode bc_W_law 331 = .ok (.aload_n 0, 1) := by decide +kernel
theorem dc_W_law_332 : decode bc_W_law 332 = .ok (.iload_n 3, 1) := by decide +kernel
theorem dc_W_law_333 : decode bc_W_law 333 = .ok (.iconst 1, 1) := by decide +kernel
theorem dc_W_law_334 : decode bc_W_law 334 = .ok (.iadd, 1) := by decide +kernel
theorem dc_W_law_335 : decode bc_W_law 335 = .ok (.iaload, 1) := by decide +kernel
theorem dc_W_law_336 : decode bc_W_law 336 = .ok (.aload_n 0, 1) := by decide +kernel
theorem dc_W_law_337 : decode bc_W_law 337 = .ok (.iload_n 3, 1) := by decide +kernel
theorem dc_W_law_338 : decode bc_W_law 338 = .ok (.iconst 2, 1) := by decide +kernel
theorem dc_W_law_339 : decode bc_W_law 339 = .ok (.iadd, 1) := by decide +kernel
theorem dc_W_law_340 : decode bc_W_law 340 = .ok (.iaload, 1) := by decide +kernel
theorem dc_W_law_341 : decode bc_W_law 341 = .ok (.i2l, 1) := by decide +kernel
theorem dc_W_law_342 : decode bc_W_law 342 = .ok (.bipush 32, 2) := by decide +kernel
theorem dc_W_law_344 : decode bc_W_law 344 = .ok (.lshl, 1) := by decide +kernel
theorem dc_W_law_345 : decode bc_W_law 345 = .ok (.aload_n 0, 1) := by decide +kernel
theorem dc_W_law_346 : decode bc_W_law 346 = .ok (.iload_n 3, 1) := by decide +kernel
theorem dc_W_law_347 : decode bc_W_law 347 = .ok (.iconst 3, 1) := by decide +kernel
theorem dc_W_law_348 : decode bc_W_law 348 = .ok (.iadd, 1) := by decide +kernel
theorem dc_W_law_349 : decode bc_W_law 349 = .ok (.iaload, 1) := by decide +kernel
theorem dc_W_law_350 : decode bc_W_law 350 = .ok (.i2l, 1) := by decide +kernel
theorem dc_W_law_351 : decode bc_W_law 351 = .ok (.ldc2_w 13, 3) := by decide +kernel
theorem dc_W_law_354 : decode bc_W_law 354 = .ok (.land, 1) := by decide +kernel
theorem dc_W_law_355 : decode bc_W_law 355 = .ok (.lor, 1) := by decide +kernel
theorem dc_W_law_356 : decode bc_W_law 356 = .ok (.invokevirtual 34, 3) := by decide +kernel
theorem dc_W_law_359 : decode bc_W_law 359 = .ok (.if_icmp .eq 996, 3) := by decide +kernel
theorem dc_W_law_362 : decode bc_W_law 362 = .ok (.iconst 0, 1) := by decide +kernel
theorem dc_W_law_363 : decode bc_W_law 363 = .ok (.ireturn, 1) := by decide +kernel
theorem dc_W_law_364 : decode bc_W_law 364 = .ok (.aload_n 1, 1) := by decide +kernel
theorem dc_W_law_365 : decode bc_W_law 365 = .ok (.aload_n 0, 1) := by decide +kernel
theorem dc_W_law_366 : decode bc_W_law 366 = .ok (.iload_n 3, 1) := by decide +kernel
theorem dc_W_law_367 : decode bc_W_law 367 = .ok (.iconst 1, 1) := by decide +kernel
theorem dc_W_law_368 : decode bc_W_law 368 = .ok (.iadd, 1) := by decide +kernel
theorem dc_W_law_369 : decode bc_W_law 369 = .ok (.iaload, 1) := by decide +kernel
theorem dc_W_law_370 : decode bc_W_law 370 = .ok (.aload_n 0, 1) := by decide +kernel
theorem dc_W_law_371 : decode bc_W_law 371 = .ok (.iload_n 3, 1) := by decide +kernel
theorem dc_W_law_372 : decode bc_W_law 372 = .ok (.iconst 2, 1) := by decide +kernel
theorem dc_W_law_373 : decode bc_W_law 373 = .ok (.iadd, 1) := by decide +kernel
theorem dc_W_law_374 : decode bc_W_law 374 = .ok (.iaload, 1) := by decide +kernel
theorem dc_W_law_375 : decode bc_W_law 375 = .ok (.invokevirtual 35, 3) := by decide +kernel
theorem dc_W_law_378 : decode bc_W_law 378 = .ok (.aload_n 2, 1) := by decide +kernel
theorem dc_W_law_379 : decode bc_W_law 379 = .ok (.aload_n 0, 1) := by decide +kernel
theorem dc_W_law_380 : decode bc_W_law 380 = .ok (.iload_n 3, 1) := by decide +kernel
theorem dc_W_law_381 : decode bc_W_law 381 = .ok (.iconst 1, 1) := by decide +kernel
theorem dc_W_law_382 : decode bc_W_law 382 = .ok (.iadd, 1) := by decide +kernel
theorem dc_W_law_383 : decode bc_W_law 383 = .ok (.iaload, 1) := by decide +kernel
theorem dc_W_law_384 : decode bc_W_law 384 = .ok (.aload_n 0, 1) := by decide +kernel
theorem dc_W_law_385 : decode bc_W_law 385 = .ok (.iload_n 3, 1) := by decide +kernel
theorem dc_W_law_386 : decode bc_W_law 386 = .ok (.iconst 2, 1) := by decide +kernel
theorem dc_W_law_387 : decode bc_W_law 387 = .ok (.iadd, 1) := by decide +kernel
theorem dc_W_law_388 : decode bc_W_law 388 = .ok (.iaload, 1) := by decide +kernel
theorem dc_W_law_389 : decode bc_W_law 389 = .ok (.invokevirtual 39, 3) := by decide +kernel
theorem dc_W_law_392 : decode bc_W_law 392 = .ok (.if_icmp .eq 963, 3) := by decide +kernel
theorem dc_W_law_395 : decode bc_W_law 395 = .ok (.iconst 0, 1) := by decide +kernel
theorem dc_W_law_396 : decode bc_W_law 396 = .ok (.ireturn, 1) := by decide +kernel
theorem dc_W_law_397 : decode bc_W_law 397 = .ok (.aload_n 1, 1) := by decide +kernel
theorem dc_W_law_398 : decode bc_W_law 398 = .ok (.aload_n 0, 1) := by decide +kernel
theorem dc_W_law_399 : decode bc_W_law 399 = .ok (.iload_n 3, 1) := by decide +kernel
theorem dc_W_law_400 : decode bc_W_law 400 = .ok (.iconst 1, 1) := by decide +kernel
theorem dc_W_law_401 : decode bc_W_law 401 = .ok (.iadd, 1) := by decide +kernel
theorem dc_W_law_402 : decode bc_W_law 402 = .ok (.iaload, 1) := by decide +kernel
theorem dc_W_law_403 : decode bc_W_law 403 = .ok (.invokevirtual 40, 3) := by decide +kernel
theorem dc_W_law_406 : decode bc_W_law 406 = .ok (.aload_n 2, 1) := by decide +kernel
theorem dc_W_law_407 : decode bc_W_law 407 = .ok (.aload_n 0, 1) := by decide +kernel
theorem dc_W_law_408 : decode bc_W_law 408 = .ok (.iload_n 3, 1) := by decide +kernel
theorem dc_W_law_409 : decode bc_W_law 409 = .ok (.iconst 1, 1) := by decide +kernel
theorem dc_W_law_410 : decode bc_W_law 410 = .ok (.iadd, 1) := by decide +kernel
theorem dc_W_law_411 : decode bc_W_law 411 = .ok (.iaload, 1) := by decide +kernel
theorem dc_W_law_412 : decode bc_W_law 412 = .ok (.invokevirtual 43, 3) := by decide +kernel
theorem dc_W_law_415 : decode bc_W_law 415 = .ok (.if_icmp .eq 940, 3) := by decide +kernel
theorem dc_W_law_418 : decode bc_W_law 418 = .ok (.iconst 0, 1) := by decide +kernel
theorem dc_W_law_419 : decode bc_W_law 419 = .ok (.ireturn, 1) := by decide +kernel
theorem dc_W_law_420 : decode bc_W_law 420 = .ok (.aload_n 1, 1) := by decide +kernel
theorem dc_W_law_421 : decode bc_W_law 421 = .ok (.aload_n 0, 1) := by decide +kernel
theorem dc_W_law_422 : decode bc_W_law 422 = .ok (.iload_n 3, 1) := by decide +kernel
theorem dc_W_law_423 : decode bc_W_law 423 = .ok (.iconst 1, 1) := by decide +kernel
theorem dc_W_law_424 : decode bc_W_law 424 = .ok (.iadd, 1) := by decide +kernel
theorem dc_W_law_425 : decode bc_W_law 425 = .ok (.iaload, 1) := by decide +kernel
theorem dc_W_law_426 : decode bc_W_law 426 = .ok (.aload_n 0, 1) := by decide +kernel
theorem dc_W_law_427 : decode bc_W_law 427 = .ok (.iload_n 3, 1) := by decide +kernel
theorem dc_W_law_428 : decode bc_W_law 428 = .ok (.iconst 2, 1) := by decide +kernel
theorem dc_W_law_429 : decode bc_W_law 429 = .ok (.iadd, 1) := by decide +kernel
theorem dc_W_law_430 : decode bc_W_law 430 = .ok (.iaload, 1) := by decide +kernel
theorem dc_W_law_431 : decode bc_W_law 431 = .ok (.invokevirtual 44, 3) := by decide +kernel
theorem dc_W_law_434 : decode bc_W_law 434 = .ok (.aload_n 2, 1) := by decide +kernel
theorem dc_W_law_435 : decode bc_W_law 435 = .ok (.aload_n 0, 1) := by decide +kernel
theorem dc_W_law_436 : decode bc_W_law 436 = .ok (.iload_n 3, 1) := by decide +kernel
theorem dc_W_law_437 : decode bc_W_law 437 = .ok (.iconst 1, 1) := by decide +kernel
theorem dc_W_law_438 : decode bc_W_law 438 = .ok (.iadd, 1) := by decide +kernel
theorem dc_W_law_439 : decode bc_W_law 439 = .ok (.iaload, 1) := by decide +kernel
theorem dc_W_law_440 : decode bc_W_law 440 = .ok (.aload_n 0, 1) := by decide +kernel
theorem dc_W_law_441 : decode bc_W_law 441 = .ok (.iload_n 3, 1) := by decide +kernel
theorem dc_W_law_442 : decode bc_W_law 442 = .ok (.iconst 2, 1) := by decide +kernel
theorem dc_W_law_443 : decode bc_W_law 443 = .ok (.iadd, 1) := by decide +kernel
theorem dc_W_law_444 : decode bc_W_law 444 = .ok (.iaload, 1) := by decide +kernel
theorem dc_W_law_445 : decode bc_W_law 445 = .ok (.invokevirtual 48, 3) := by decide +kernel
