theorem qd_L_0 : decode code 0 = .ok (.new 7, 3) := by decide +kernel
theorem qd_L_3 : decode code 3 = .ok (.dup, 1) := by decide +kernel
theorem qd_L_4 : decode code 4 = .ok (.invokespecial 9, 3) := by decide +kernel
theorem qd_L_7 : decode code 7 = .ok (.astore_n 1, 1) := by decide +kernel
theorem qd_L_8 : decode code 8 = .ok (.new 10, 3) := by decide +kernel
theorem qd_L_11 : decode code 11 = .ok (.dup, 1) := by decide +kernel
theorem qd_L_12 : decode code 12 = .ok (.invokespecial 12, 3) := by decide +kernel
theorem qd_L_15 : decode code 15 = .ok (.astore_n 2, 1) := by decide +kernel
theorem qd_L_16 : decode code 16 = .ok (.iconst 0, 1) := by decide +kernel
theorem qd_L_17 : decode code 17 = .ok (.istore_n 3, 1) := by decide +kernel
theorem qd_L_18 : decode code 18 = .ok (.iload_n 3, 1) := by decide +kernel
theorem qd_L_19 : decode code 19 = .ok (.aload_n 0, 1) := by decide +kernel
theorem qd_L_20 : decode code 20 = .ok (.arraylength, 1) := by decide +kernel
theorem qd_L_21 : decode code 21 = .ok (.iconst 4, 1) := by decide +kernel
theorem qd_L_22 : decode code 22 = .ok (.isub, 1) := by decide +kernel
theorem qd_L_23 : decode code 23 = .ok (.if_icmp .gt 684, 3) := by decide +kernel
theorem qd_L_26 : decode code 26 = .ok (.aload_n 0, 1) := by decide +kernel
theorem qd_L_27 : decode code 27 = .ok (.iload_n 3, 1) := by decide +kernel
theorem qd_L_28 : decode code 28 = .ok (.iaload, 1) := by decide +kernel
theorem qd_L_29 : decode code 29 = .ok (.bipush 31, 2) := by decide +kernel
theorem qd_L_31 : decode code 31 = .ok (.iand, 1) := by decide +kernel
theorem qd_L_32 : decode code 32 = .ok (.tableswitch 669 0 18 #[92, 105, 138, 171, 214, 237, 280, 313, 346, 369, 392, 425, 458, 491, 524, 557, 590, 623, 646], 92) := by decide +kernel
theorem qd_L_124 : decode code 124 = .ok (.aload_n 1, 1) := by decide +kernel
theorem qd_L_125 : decode code 125 = .ok (.invokevirtual 13, 3) := by decide +kernel
theorem qd_L_128 : decode code 128 = .ok (.aload_n 2, 1) := by decide +kernel
theorem qd_L_129 : decode code 129 = .ok (.invokevirtual 17, 3) := by decide +kernel
theorem qd_L_132 : decode code 132 = .ok (.if_icmp .eq 569, 3) := by decide +kernel
theorem qd_L_135 : decode code 135 = .ok (.iconst 0, 1) := by decide +kernel
theorem qd_L_136 : decode code 136 = .ok (.ireturn, 1) := by decide +kernel
theorem qd_L_137 : decode code 137 = .ok (.aload_n 1, 1) := by decide +kernel
theorem qd_L_138 : decode code 138 = .ok (.aload_n 0, 1) := by decide +kernel
theorem qd_L_139 : decode code 139 = .ok (.iload_n 3, 1) := by decide +kernel
theorem qd_L_140 : decode code 140 = .ok (.iconst 1, 1) := by decide +kernel
theorem qd_L_141 : decode code 141 = .ok (.iadd, 1) := by decide +kernel
theorem qd_L_142 : decode code 142 = .ok (.iaload, 1) := by decide +kernel
theorem qd_L_143 : decode code 143 = .ok (.aload_n 0, 1) := by decide +kernel
theorem qd_L_144 : decode code 144 = .ok (.iload_n 3, 1) := by decide +kernel
theorem qd_L_145 : decode code 145 = .ok (.iconst 2, 1) := by decide +kernel
theorem qd_L_146 : decode code 146 = .ok (.iadd, 1) := by decide +kernel
theorem qd_L_147 : decode code 147 = .ok (.iaload, 1) := by decide +kernel
theorem qd_L_148 : decode code 148 = .ok (.invokevirtual 18, 3) := by decide +kernel
theorem qd_L_151 : decode code 151 = .ok (.aload_n 2, 1) := by decide +kernel
theorem qd_L_152 : decode code 152 = .ok (.aload_n 0, 1) := by decide +kernel
theorem qd_L_153 : decode code 153 = .ok (.iload_n 3, 1) := by decide +kernel
theorem qd_L_154 : decode code 154 = .ok (.iconst 1, 1) := by decide +kernel
theorem qd_L_155 : decode code 155 = .ok (.iadd, 1) := by decide +kernel
theorem qd_L_156 : decode code 156 = .ok (.iaload, 1) := by decide +kernel
theorem qd_L_157 : decode code 157 = .ok (.aload_n 0, 1) := by decide +kernel
theorem qd_L_158 : decode code 158 = .ok (.iload_n 3, 1) := by decide +kernel
theorem qd_L_159 : decode code 159 = .ok (.iconst 2, 1) := by decide +kernel
theorem qd_L_160 : decode code 160 = .ok (.iadd, 1) := by decide +kernel
theorem qd_L_161 : decode code 161 = .ok (.iaload, 1) := by decide +kernel
theorem qd_L_162 : decode code 162 = .ok (.invokevirtual 22, 3) := by decide +kernel
theorem qd_L_165 : decode code 165 = .ok (.if_icmp .eq 536, 3) := by decide +kernel
theorem qd_L_168 : decode code 168 = .ok (.iconst 0, 1) := by decide +kernel
theorem qd_L_169 : decode code 169 = .ok (.ireturn, 1) := by decide +kernel
theorem qd_L_170 : decode code 170 = .ok (.aload_n 1, 1) := by decide +kernel
theorem qd_L_171 : decode code 171 = .ok (.aload_n 0, 1) := by decide +kernel
theorem qd_L_172 : decode code 172 = .ok (.iload_n 3, 1) := by decide +kernel
theorem qd_L_173 : decode code 173 = .ok (.iconst 1, 1) := by decide +kernel
theorem qd_L_174 : decode code 174 = .ok (.iadd, 1) := by decide +kernel
theorem qd_L_175 : decode code 175 = .ok (.iaload, 1) := by decide +kernel
theorem qd_L_176 : decode code 176 = .ok (.aload_n 0, 1) := by decide +kernel
theorem qd_L_177 : decode code 177 = .ok (.iload_n 3, 1) := by decide +kernel
theorem qd_L_178 : decode code 178 = .ok (.iconst 2, 1) := by decide +kernel
theorem qd_L_179 : decode code 179 = .ok (.iadd, 1) := by decide +kernel
theorem qd_L_180 : decode code 180 = .ok (.iaload, 1) := by decide +kernel
theorem qd_L_181 : decode code 181 = .ok (.invokevirtual 23, 3) := by decide +kernel
theorem qd_L_184 : decode code 184 = .ok (.aload_n 2, 1) := by decide +kernel
theorem qd_L_185 : decode code 185 = .ok (.aload_n 0, 1) := by decide +kernel
theorem qd_L_186 : decode code 186 = .ok (.iload_n 3, 1) := by decide +kernel
theorem qd_L_187 : decode code 187 = .ok (.iconst 1, 1) := by decide +kernel
theorem qd_L_188 : decode code 188 = .ok (.iadd, 1) := by decide +kernel
theorem qd_L_189 : decode code 189 = .ok (.iaload, 1) := by decide +kernel
theorem qd_L_190 : decode code 190 = .ok (.aload_n 0, 1) := by decide +kernel
theorem qd_L_191 : decode code 191 = .ok (.iload_n 3, 1) := by decide +kernel
theorem qd_L_192 : decode code 192 = .ok (.iconst 2, 1) := by decide +kernel
theorem qd_L_193 : decode code 193 = .ok (.iadd, 1) := by decide +kernel
theorem qd_L_194 : decode code 194 = .ok (.iaload, 1) := by decide +kernel
theorem qd_L_195 : decode code 195 = .ok (.invokevirtual 26, 3) := by decide +kernel
theorem qd_L_198 : decode code 198 = .ok (.if_icmp .eq 503, 3) := by decide +kernel
theorem qd_L_201 : decode code 201 = .ok (.iconst 0, 1) := by decide +kernel
theorem qd_L_202 : decode code 202 = .ok (.ireturn, 1) := by decide +kernel
theorem qd_L_203 : decode code 203 = .ok (.aload_n 1, 1) := by decide +kernel
theorem qd_L_204 : decode code 204 = .ok (.aload_n 0, 1) := by decide +kernel
theorem qd_L_205 : decode code 205 = .ok (.iload_n 3, 1) := by decide +kernel
theorem qd_L_206 : decode code 206 = .ok (.iconst 1, 1) := by decide +kernel
theorem qd_L_207 : decode code 207 = .ok (.iadd, 1) := by decide +kernel
theorem qd_L_208 : decode code 208 = .ok (.iaload, 1) := by decide +kernel
theorem qd_L_209 : decode code 209 = .ok (.aload_n 0, 1) := by decide +kernel
theorem qd_L_210 : decode code 210 = .ok (.iload_n 3, 1) := by decide +kernel
theorem qd_L_211 : decode code 211 = .ok (.iconst 2, 1) := by decide +kernel
theorem qd_L_212 : decode code 212 = .ok (.iadd, 1) := by decide +kernel
theorem qd_L_213 : decode code 213 = .ok (.iaload, 1) := by decide +kernel
theorem qd_L_214 : decode code 214 = .ok (.aload_n 0, 1) := by decide +kernel
theorem qd_L_215 : decode code 215 = .ok (.iload_n 3, 1) := by decide +kernel
theorem qd_L_216 : decode code 216 = .ok (.iconst 3, 1) := by decide +kernel
theorem qd_L_217 : decode code 217 = .ok (.iadd, 1) := by decide +kernel
theorem qd_L_218 : decode code 218 = .ok (.iaload, 1) := by decide +kernel
theorem qd_L_219 : decode code 219 = .ok (.invokevirtual 27, 3) := by decide +kernel
theorem qd_L_222 : decode code 222 = .ok (.aload_n 2, 1) := by decide +kernel
theorem qd_L_223 : decode code 223 = .ok (.aload_n 0, 1) := by decide +kernel
theorem qd_L_224 : decode code 224 = .ok (.iload_n 3, 1) := by decide +kernel
theorem qd_L_225 : decode code 225 = .ok (.iconst 1, 1) := by decide +kernel
theorem qd_L_226 : decode code 226 = .ok (.iadd, 1) := by decide +kernel
theorem qd_L_227 : decode code 227 = .ok (.iaload, 1) := by decide +kernel
theorem qd_L_228 : decode code 228 = .ok (.aload_n 0, 1) := by decide +kernel
theorem qd_L_229 : decode code 229 = .ok (.iload_n 3, 1) := by decide +kernel
theorem qd_L_230 : decode code 230 = .ok (.iconst 2, 1) := by decide +kernel
theorem qd_L_231 : decode code 231 = .ok (.iadd, 1) := by decide +kernel
theorem qd_L_232 : decode code 232 = .ok (.iaload, 1) := by decide +kernel
theorem qd_L_233 : decode code 233 = .ok (.aload_n 0, 1) := by decide +kernel
theorem qd_L_234 : decode code 234 = .ok (.iload_n 3, 1) := by decide +kernel
theorem qd_L_235 : decode code 235 = .ok (.iconst 3, 1) := by decide +kernel
theorem qd_L_236 : decode code 236 = .ok (.iadd, 1) := by decide +kernel
theorem qd_L_237 : decode code 237 = .ok (.iaload, 1) := by decide +kernel
theorem qd_L_238 : decode code 238 = .ok (.invokevirtual 31, 3) := by decide +kernel
theorem qd_L_241 : decode code 241 = .ok (.if_icmp .eq 460, 3) := by decide +kernel
theorem qd_L_244 : decode code 244 = .ok (.iconst 0, 1) := by decide +kernel
theorem qd_L_245 : decode code 245 = .ok (.ireturn, 1) := by decide +kernel
theorem qd_L_246 : decode code 246 = .ok (.aload_n 1, 1) := by decide +kernel
theorem qd_L_247 : decode code 247 = .ok (.aload_n 0, 1) := by decide +kernel
theorem qd_L_248 : decode code 248 = .ok (.iload_n 3, 1) := by decide +kernel
theorem qd_L_249 : decode code 249 = .ok (.iconst 1, 1) := by decide +kernel
theorem qd_L_250 : decode code 250 = .ok (.iadd, 1) := by decide +kernel
theorem qd_L_251 : decode code 251 = .ok (.iaload, 1) := by decide +kernel
theorem qd_L_252 : decode code 252 = .ok (.invokevirtual 32, 3) := by decide +kernel
theorem qd_L_255 : decode code 255 = .ok (.aload_n 2, 1) := by decide +kernel
theorem qd_L_256 : decode code 256 = .ok (.aload_n 0, 1) := by decide +kernel
theorem qd_L_257 : decode code 257 = .ok (.iload_n 3, 1) := by decide +kernel
theorem qd_L_258 : decode code 258 = .ok (.iconst 1, 1) := by decide +kernel
theorem qd_L_259 : decode code 259 = .ok (.iadd, 1) := by decide +kernel
theorem qd_L_260 : decode code 260 = .ok (.iaload, 1) := by decide +kernel
theorem qd_L_261 : decode code 261 = .ok (.invokevirtual 36, 3) := by decide +kernel
theorem qd_L_264 : decode code 264 = .ok (.if_icmp .eq 437, 3) := by decide +kernel
theorem qd_L_267 : decode code 267 = .ok (.iconst 0, 1) := by decide +kernel
theorem qd_L_268 : decode code 268 = .ok (.ireturn, 1) := by decide +kernel
theorem qd_L_269 : decode code 269 = .ok (.aload_n 1, 1) := by decide +kernel
theorem qd_L_270 : decode code 270 = .ok (.aload_n 0, 1) := by decide +kernel
theorem qd_L_271 : decode code 271 = .ok (.iload_n 3, 1) := by decide +kernel
theorem qd_L_272 : decode code 272 = .ok (.iconst 1, 1) := by decide +kernel
theorem qd_L_273 : decode code 273 = .ok (.iadd, 1) := by decide +kernel
theorem qd_L_274 : decode code 274 = .ok (.iaload, 1) := by decide +kernel
theorem qd_L_275 : decode code 275 = .ok (.aload_n 0, 1) := by decide +kernel
theorem qd_L_276 : decode code 276 = .ok (.iload_n 3, 1) := by decide +kernel
theorem qd_L_277 : decode code 277 = .ok (.iconst 2, 1) := by decide +kernel
theorem qd_L_278 : decode code 278 = .ok (.iadd, 1) := by decide +kernel
theorem qd_L_279 : decode code 279 = .ok (.iaload, 1) := by decide +kernel
theorem qd_L_280 : decode code 280 = .ok (.aload_n 0, 1) := by decide +kernel
theorem qd_L_281 : decode code 281 = .ok (.iload_n 3, 1) := by decide +kernel
theorem qd_L_282 : decode code 282 = .ok (.iconst 3, 1) := by decide +kernel
theorem qd_L_283 : decode code 283 = .ok (.iadd, 1) := by decide +kernel
theorem qd_L_284 : decode code 284 = .ok (.iaload, 1) := by decide +kernel
theorem qd_L_285 : decode code 285 = .ok (.invokevirtual 37, 3) := by decide +kernel
theorem qd_L_288 : decode code 288 = .ok (.aload_n 2, 1) := by decide +kernel
theorem qd_L_289 : decode code 289 = .ok (.aload_n 0, 1) := by decide +kernel
theorem qd_L_290 : decode code 290 = .ok (.iload_n 3, 1) := by decide +kernel
theorem qd_L_291 : decode code 291 = .ok (.iconst 1, 1) := by decide +kernel
theorem qd_L_292 : decode code 292 = .ok (.iadd, 1) := by decide +kernel
theorem qd_L_293 : decode code 293 = .ok (.iaload, 1) := by decide +kernel
theorem qd_L_294 : decode code 294 = .ok (.aload_n 0, 1) := by decide +kernel
theorem qd_L_295 : decode code 295 = .ok (.iload_n 3, 1) := by decide +kernel
theorem qd_L_296 : decode code 296 = .ok (.iconst 2, 1) := by decide +kernel
theorem qd_L_297 : decode code 297 = .ok (.iadd, 1) := by decide +kernel
theorem qd_L_298 : decode code 298 = .ok (.iaload, 1) := by decide +kernel
theorem qd_L_299 : decode code 299 = .ok (.aload_n 0, 1) := by decide +kernel
theorem qd_L_300 : decode code 300 = .ok (.iload_n 3, 1) := by decide +kernel
theorem qd_L_301 : decode code 301 = .ok (.iconst 3, 1) := by decide +kernel
theorem qd_L_302 : decode code 302 = .ok (.iadd, 1) := by decide +kernel
theorem qd_L_303 : decode code 303 = .ok (.iaload, 1) := by decide +kernel
theorem qd_L_304 : decode code 304 = .ok (.invokevirtual 40, 3) := by decide +kernel
theorem qd_L_307 : decode code 307 = .ok (.if_icmp .eq 394, 3) := by decide +kernel
theorem qd_L_310 : decode code 310 = .ok (.iconst 0, 1) := by decide +kernel
theorem qd_L_311 : decode code 311 = .ok (.ireturn, 1) := by decide +kernel
theorem qd_L_312 : decode code 312 = .ok (.aload_n 1, 1) := by decide +kernel
theorem qd_L_313 : decode code 313 = .ok (.aload_n 0, 1) := by decide +kernel
theorem qd_L_314 : decode code 314 = .ok (.iload_n 3, 1) := by decide +kernel
theorem qd_L_315 : decode code 315 = .ok (.iconst 1, 1) := by decide +kernel
theorem qd_L_316 : decode code 316 = .ok (.iadd, 1) := by decide +kernel
theorem qd_L_317 : decode code 317 = .ok (.iaload, 1) := by decide +kernel
theorem qd_L_318 : decode code 318 = .ok (.aload_n 0, 1) := by decide +kernel
theorem qd_L_319 : decode code 319 = .ok (.iload_n 3, 1) := by decide +kernel
theorem qd_L_320 : decode code 320 = .ok (.iconst 2, 1) := by decide +kernel
theorem qd_L_321 : decode code 321 = .ok (.iadd, 1) := by decide +kernel
theorem qd_L_322 : decode code 322 = .ok (.iaload, 1) := by decide +kernel
theorem qd_L_323 : decode code 323 = .ok (.invokevirtual 41, 3) := by decide +kernel
theorem qd_L_326 : decode code 326 = .ok (.aload_n 2, 1) := by decide +kernel
theorem qd_L_327 : decode code 327 = .ok (.aload_n 0, 1) := by decide +kernel
theorem qd_L_328 : decode code 328 = .ok (.iload_n 3, 1) := by decide +kernel
theorem qd_L_329 : decode code 329 = .ok (.iconst 1, 1) := by decide +kernel
theorem qd_L_330 : decode code 330 = .ok (.iadd, 1) := by decide +kernel
theorem qd_L_331 : decode code 331 = .ok (.iaload, 1) := by decide +kernel
theorem qd_L_332 : decode code 332 = .ok (.aload_n 0, 1) := by decide +kernel
theorem qd_L_333 : decode code 333 = .ok (.iload_n 3, 1) := by decide +kernel
theorem qd_L_334 : decode code 334 = .ok (.iconst 2, 1) := by decide +kernel
theorem qd_L_335 : decode code 335 = .ok (.iadd, 1) := by decide +kernel
theorem qd_L_336 : decode code 336 = .ok (.iaload, 1) := by decide +kernel
theorem qd_L_337 : decode code 337 = .ok (.invokevirtual 44, 3) := by decide +kernel
theorem qd_L_340 : decode code 340 = .ok (.if_icmp .eq 361, 3) := by decide +kernel
theorem qd_L_343 : decode code 343 = .ok (.iconst 0, 1) := by decide +kernel
theorem qd_L_344 : decode code 344 = .ok (.ireturn, 1) := by decide +kernel
theorem qd_L_345 : decode code 345 = .ok (.aload_n 1, 1) := by decide +kernel
theorem qd_L_346 : decode code 346 = .ok (.aload_n 0, 1) := by decide +kernel
theorem qd_L_347 : decode code 347 = .ok (.iload_n 3, 1) := by decide +kernel
theorem qd_L_348 : decode code 348 = .ok (.iconst 1, 1) := by decide +kernel
theorem qd_L_349 : decode code 349 = .ok (.iadd, 1) := by decide +kernel
theorem qd_L_350 : decode code 350 = .ok (.iaload, 1) := by decide +kernel
theorem qd_L_351 : decode code 351 = .ok (.aload_n 0, 1) := by decide +kernel
theorem qd_L_352 : decode code 352 = .ok (.iload_n 3, 1) := by decide +kernel
theorem qd_L_353 : decode code 353 = .ok (.iconst 2, 1) := by decide +kernel
theorem qd_L_354 : decode code 354 = .ok (.iadd, 1) := by decide +kernel
theorem qd_L_355 : decode code 355 = .ok (.iaload, 1) := by decide +kernel
theorem qd_L_356 : decode code 356 = .ok (.invokevirtual 45, 3) := by decide +kernel
theorem qd_L_359 : decode code 359 = .ok (.aload_n 2, 1) := by decide +kernel
theorem qd_L_360 : decode code 360 = .ok (.aload_n 0, 1) := by decide +kernel
theorem qd_L_361 : decode code 361 = .ok (.iload_n 3, 1) := by decide +kernel
theorem qd_L_362 : decode code 362 = .ok (.iconst 1, 1) := by decide +kernel
theorem qd_L_363 : decode code 363 = .ok (.iadd, 1) := by decide +kernel
theorem qd_L_364 : decode code 364 = .ok (.iaload, 1) := by decide +kernel
theorem qd_L_365 : decode code 365 = .ok (.aload_n 0, 1) := by decide +kernel
theorem qd_L_366 : decode code 366 = .ok (.iload_n 3, 1) := by decide +kernel
theorem qd_L_367 : decode code 367 = .ok (.iconst 2, 1) := by decide +kernel
theorem qd_L_368 : decode code 368 = .ok (.iadd, 1) := by decide +kernel
theorem qd_L_369 : decode code 369 = .ok (.iaload, 1) := by decide +kernel
theorem qd_L_370 : decode code 370 = .ok (.invokevirtual 48, 3) := by decide +kernel
theorem qd_L_373 : decode code 373 = .ok (.if_icmp .eq 328, 3) := by decide +kernel
theorem qd_L_376 : decode code 376 = .ok (.iconst 0, 1) := by decide +kernel
theorem qd_L_377 : decode code 377 = .ok (.ireturn, 1) := by decide +kernel
theorem qd_L_378 : decode code 378 = .ok (.aload_n 1, 1) := by decide +kernel
theorem qd_L_379 : decode code 379 = .ok (.aload_n 0, 1) := by decide +kernel
theorem qd_L_380 : decode code 380 = .ok (.iload_n 3, 1) := by decide +kernel
theorem qd_L_381 : decode code 381 = .ok (.iconst 1, 1) := by decide +kernel
theorem qd_L_382 : decode code 382 = .ok (.iadd, 1) := by decide +kernel
theorem qd_L_383 : decode code 383 = .ok (.iaload, 1) := by decide +kernel
theorem qd_L_384 : decode code 384 = .ok (.invokevirtual 49, 3) := by decide +kernel
theorem qd_L_387 : decode code 387 = .ok (.aload_n 2, 1) := by decide +kernel
theorem qd_L_388 : decode code 388 = .ok (.aload_n 0, 1) := by decide +kernel
theorem qd_L_389 : decode code 389 = .ok (.iload_n 3, 1) := by decide +kernel
theorem qd_L_390 : decode code 390 = .ok (.iconst 1, 1) := by decide +kernel
theorem qd_L_391 : decode code 391 = .ok (.iadd, 1) := by decide +kernel
theorem qd_L_392 : decode code 392 = .ok (.iaload, 1) := by decide +kernel
theorem qd_L_393 : decode code 393 = .ok (.invokevirtual 52, 3) := by decide +kernel
theorem qd_L_396 : decode code 396 = .ok (.if_icmp .eq 305, 3) := by decide +kernel
theorem qd_L_399 : decode code 399 = .ok (.iconst 0, 1) := by decide +kernel
theorem qd_L_400 : decode code 400 = .ok (.ireturn, 1) := by decide +kernel
theorem qd_L_401 : decode code 401 = .ok (.aload_n 1, 1) := by decide +kernel
theorem qd_L_402 : decode code 402 = .ok (.aload_n 0, 1) := by decide +kernel
theorem qd_L_403 : decode code 403 = .ok (.iload_n 3, 1) := by decide +kernel
theorem qd_L_404 : decode code 404 = .ok (.iconst 1, 1) := by decide +kernel
theorem qd_L_405 : decode code 405 = .ok (.iadd, 1) := by decide +kernel
theorem qd_L_406 : decode code 406 = .ok (.iaload, 1) := by decide +kernel
theorem qd_L_407 : decode code 407 = .ok (.invokevirtual 53, 3) := by decide +kernel
theorem qd_L_410 : decode code 410 = .ok (.aload_n 2, 1) := by decide +kernel
theorem qd_L_411 : decode code 411 = .ok (.aload_n 0, 1) := by decide +kernel
theorem qd_L_412 : decode code 412 = .ok (.iload_n 3, 1) := by decide +kernel
theorem qd_L_413 : decode code 413 = .ok (.iconst 1, 1) := by decide +kernel
theorem qd_L_414 : decode code 414 = .ok (.iadd, 1) := by decide +kernel
theorem qd_L_415 : decode code 415 = .ok (.iaload, 1) := by decide +kernel
theorem qd_L_416 : decode code 416 = .ok (.invokevirtual 56, 3) := by decide +kernel
theorem qd_L_419 : decode code 419 = .ok (.if_icmp .eq 282, 3) := by decide +kernel
theorem qd_L_422 : decode code 422 = .ok (.iconst 0, 1) := by decide +kernel
theorem qd_L_423 : decode code 423 = .ok (.ireturn, 1) := by decide +kernel
theorem qd_L_424 : decode code 424 = .ok (.aload_n 1, 1) := by decide +kernel
theorem qd_L_425 : decode code 425 = .ok (.aload_n 0, 1) := by decide +kernel
theorem qd_L_426 : decode code 426 = .ok (.iload_n 3, 1) := by decide +kernel
theorem qd_L_427 : decode code 427 = .ok (.iconst 1, 1) := by decide +kernel
theorem qd_L_428 : decode code 428 = .ok (.iadd, 1) := by decide +kernel
theorem qd_L_429 : decode code 429 = .ok (.iaload, 1) := by decide +kernel
theorem qd_L_430 : decode code 430 = .ok (.aload_n 0, 1) := by decide +kernel
theorem qd_L_431 : decode code 431 = .ok (.iload_n 3, 1) := by decide +kernel
theorem qd_L_432 : decode code 432 = .ok (.iconst 2, 1) := by decide +kernel
theorem qd_L_433 : decode code 433 = .ok (.iadd, 1) := by decide +kernel
theorem qd_L_434 : decode code 434 = .ok (.iaload, 1) := by decide +kernel
theorem qd_L_435 : decode code 435 = .ok (.invokevirtual 57, 3) := by decide +kernel
theorem qd_L_438 : decode code 438 = .ok (.aload_n 2, 1) := by decide +kernel
theorem qd_L_439 : decode code 439 = .ok (.aload_n 0, 1) := by decide +kernel
theorem qd_L_440 : decode code 440 = .ok (.iload_n 3, 1) := by decide +kernel
theorem qd_L_441 : decode code 441 = .ok (.iconst 1, 1) := by decide +kernel
theorem qd_L_442 : decode code 442 = .ok (.iadd, 1) := by decide +kernel
theorem qd_L_443 : decode code 443 = .ok (.iaload, 1) := by decide +kernel
theorem qd_L_444 : decode code 444 = .ok (.aload_n 0, 1) := by decide +kernel
theorem qd_L_445 : decode code 445 = .ok (.iload_n 3, 1) := by decide +kernel
theorem qd_L_446 : decode code 446 = .ok (.iconst 2, 1) := by decide +kernel
theorem qd_L_447 : decode code 447 = .ok (.iadd, 1) := by decide +kernel
theorem qd_L_448 : decode code 448 = .ok (.iaload, 1) := by decide +kernel
theorem qd_L_449 : decode code 449 = .ok (.invokevirtual 60, 3) := by decide +kernel
theorem qd_L_452 : decode code 452 = .ok (.if_icmp .eq 249, 3) := by decide +kernel
theorem qd_L_455 : decode code 455 = .ok (.iconst 0, 1) := by decide +kernel
theorem qd_L_456 : decode code 456 = .ok (.ireturn, 1) := by decide +kernel
theorem qd_L_457 : decode code 457 = .ok (.aload_n 1, 1) := by decide +kernel
theorem qd_L_458 : decode code 458 = .ok (.aload_n 0, 1) := by decide +kernel
theorem qd_L_459 : decode code 459 = .ok (.iload_n 3, 1) := by decide +kernel
theorem qd_L_460 : decode code 460 = .ok (.iconst 1, 1) := by decide +kernel
theorem qd_L_461 : decode code 461 = .ok (.iadd, 1) := by decide +kernel
theorem qd_L_462 : decode code 462 = .ok (.iaload, 1) := by decide +kernel
theorem qd_L_463 : decode code 463 = .ok (.aload_n 0, 1) := by decide +kernel
theorem qd_L_464 : decode code 464 = .ok (.iload_n 3, 1) := by decide +kernel
theorem qd_L_465 : decode code 465 = .ok (.iconst 2, 1) := by decide +kernel
theorem qd_L_466 : decode code 466 = .ok (.iadd, 1) := by decide +kernel
theorem qd_L_467 : decode code 467 = .ok (.iaload, 1) := by decide +kernel
theorem qd_L_468 : decode code 468 = .ok (.invokevirtual 61, 3) := by decide +kernel
theorem qd_L_471 : decode code 471 = .ok (.aload_n 2, 1) := by decide +kernel
theorem qd_L_472 : decode code 472 = .ok (.aload_n 0, 1) := by decide +kernel
theorem qd_L_473 : decode code 473 = .ok (.iload_n 3, 1) := by decide +kernel
theorem qd_L_474 : decode code 474 = .ok (.iconst 1, 1) := by decide +kernel
theorem qd_L_475 : decode code 475 = .ok (.iadd, 1) := by decide +kernel
theorem qd_L_476 : decode code 476 = .ok (.iaload, 1) := by decide +kernel
theorem qd_L_477 : decode code 477 = .ok (.aload_n 0, 1) := by decide +kernel
theorem qd_L_478 : decode code 478 = .ok (.iload_n 3, 1) := by decide +kernel
theorem qd_L_479 : decode code 479 = .ok (.iconst 2, 1) := by decide +kernel
theorem qd_L_480 : decode code 480 = .ok (.iadd, 1) := by decide +kernel
theorem qd_L_481 : decode code 481 = .ok (.iaload, 1) := by decide +kernel
theorem qd_L_482 : decode code 482 = .ok (.invokevirtual 64, 3) := by decide +kernel
theorem qd_L_485 : decode code 485 = .ok (.if_icmp .eq 216, 3) := by decide +kernel
theorem qd_L_488 : decode code 488 = .ok (.iconst 0, 1) := by decide +kernel
theorem qd_L_489 : decode code 489 = .ok (.ireturn, 1) := by decide +kernel
theorem qd_L_490 : decode code 490 = .ok (.aload_n 1, 1) := by decide +kernel
theorem qd_L_491 : decode code 491 = .ok (.aload_n 0, 1) := by decide +kernel
theorem qd_L_492 : decode code 492 = .ok (.iload_n 3, 1) := by decide +kernel
theorem qd_L_493 : decode code 493 = .ok (.iconst 1, 1) := by decide +kernel
theorem qd_L_494 : decode code 494 = .ok (.iadd, 1) := by decide +kernel
theorem qd_L_495 : decode code 495 = .ok (.iaload, 1) := by decide +kernel
theorem qd_L_496 : decode code 496 = .ok (.aload_n 0, 1) := by decide +kernel
theorem qd_L_497 : decode code 497 = .ok (.iload_n 3, 1) := by decide +kernel
theorem qd_L_498 : decode code 498 = .ok (.iconst 2, 1) := by decide +kernel
theorem qd_L_499 : decode code 499 = .ok (.iadd, 1) := by decide +kernel
theorem qd_L_500 : decode code 500 = .ok (.iaload, 1) := by decide +kernel
theorem qd_L_501 : decode code 501 = .ok (.invokevirtual 65, 3) := by decide +kernel
theorem qd_L_504 : decode code 504 = .ok (.aload_n 2, 1) := by decide +kernel
theorem qd_L_505 : decode code 505 = .ok (.aload_n 0, 1) := by decide +kernel
theorem qd_L_506 : decode code 506 = .ok (.iload_n 3, 1) := by decide +kernel
theorem qd_L_507 : decode code 507 = .ok (.iconst 1, 1) := by decide +kernel
theorem qd_L_508 : decode code 508 = .ok (.iadd, 1) := by decide +kernel
theorem qd_L_509 : decode code 509 = .ok (.iaload, 1) := by decide +kernel
theorem qd_L_510 : decode code 510 = .ok (.aload_n 0, 1) := by decide +kernel
theorem qd_L_511 : decode code 511 = .ok (.iload_n 3, 1) := by decide +kernel
theorem qd_L_512 : decode code 512 = .ok (.iconst 2, 1) := by decide +kernel
theorem qd_L_513 : decode code 513 = .ok (.iadd, 1) := by decide +kernel
theorem qd_L_514 : decode code 514 = .ok (.iaload, 1) := by decide +kernel
theorem qd_L_515 : decode code 515 = .ok (.invokevirtual 68, 3) := by decide +kernel
theorem qd_L_518 : decode code 518 = .ok (.if_icmp .eq 183, 3) := by decide +kernel
theorem qd_L_521 : decode code 521 = .ok (.iconst 0, 1) := by decide +kernel
theorem qd_L_522 : decode code 522 = .ok (.ireturn, 1) := by decide +kernel
theorem qd_L_523 : decode code 523 = .ok (.aload_n 1, 1) := by decide +kernel
theorem qd_L_524 : decode code 524 = .ok (.aload_n 0, 1) := by decide +kernel
theorem qd_L_525 : decode code 525 = .ok (.iload_n 3, 1) := by decide +kernel
theorem qd_L_526 : decode code 526 = .ok (.iconst 1, 1) := by decide +kernel
theorem qd_L_527 : decode code 527 = .ok (.iadd, 1) := by decide +kernel
theorem qd_L_528 : decode code 528 = .ok (.iaload, 1) := by decide +kernel
theorem qd_L_529 : decode code 529 = .ok (.aload_n 0, 1) := by decide +kernel
theorem qd_L_530 : decode code 530 = .ok (.iload_n 3, 1) := by decide +kernel
theorem qd_L_531 : decode code 531 = .ok (.iconst 2, 1) := by decide +kernel
theorem qd_L_532 : decode code 532 = .ok (.iadd, 1) := by decide +kernel
theorem qd_L_533 : decode code 533 = .ok (.iaload, 1) := by decide +kernel
theorem qd_L_534 : decode code 534 = .ok (.invokevirtual 69, 3) := by decide +kernel
theorem qd_L_537 : decode code 537 = .ok (.aload_n 2, 1) := by decide +kernel
theorem qd_L_538 : decode code 538 = .ok (.aload_n 0, 1) := by decide +kernel
theorem qd_L_539 : decode code 539 = .ok (.iload_n 3, 1) := by decide +kernel
theorem qd_L_540 : decode code 540 = .ok (.iconst 1, 1) := by decide +kernel
theorem qd_L_541 : decode code 541 = .ok (.iadd, 1) := by decide +kernel
theorem qd_L_542 : decode code 542 = .ok (.iaload, 1) := by decide +kernel
theorem qd_L_543 : decode code 543 = .ok (.aload_n 0, 1) := by decide +kernel
theorem qd_L_544 : decode code 544 = .ok (.iload_n 3, 1) := by decide +kernel
theorem qd_L_545 : decode code 545 = .ok (.iconst 2, 1) := by decide +kernel
theorem qd_L_546 : decode code 546 = .ok (.iadd, 1) := by decide +kernel
theorem qd_L_547 : decode code 547 = .ok (.iaload, 1) := by decide +kernel
theorem qd_L_548 : decode code 548 = .ok (.invokevirtual 72, 3) := by decide +kernel
theorem qd_L_551 : decode code 551 = .ok (.if_icmp .eq 150, 3) := by decide +kernel
theorem qd_L_554 : decode code 554 = .ok (.iconst 0, 1) := by decide +kernel
theorem qd_L_555 : decode code 555 = .ok (.ireturn, 1) := by decide +kernel
theorem qd_L_556 : decode code 556 = .ok (.aload_n 1, 1) := by decide +kernel
theorem qd_L_557 : decode code 557 = .ok (.aload_n 0, 1) := by decide +kernel
theorem qd_L_558 : decode code 558 = .ok (.iload_n 3, 1) := by decide +kernel
theorem qd_L_559 : decode code 559 = .ok (.iconst 1, 1) := by decide +kernel
theorem qd_L_560 : decode code 560 = .ok (.iadd, 1) := by decide +kernel
theorem qd_L_561 : decode code 561 = .ok (.iaload, 1) := by decide +kernel
theorem qd_L_562 : decode code 562 = .ok (.aload_n 0, 1) := by decide +kernel
theorem qd_L_563 : decode code 563 = .ok (.iload_n 3, 1) := by decide +kernel
theorem qd_L_564 : decode code 564 = .ok (.iconst 2, 1) := by decide +kernel
theorem qd_L_565 : decode code 565 = .ok (.iadd, 1) := by decide +kernel
theorem qd_L_566 : decode code 566 = .ok (.iaload, 1) := by decide +kernel
theorem qd_L_567 : decode code 567 = .ok (.invokevirtual 73, 3) := by decide +kernel
theorem qd_L_570 : decode code 570 = .ok (.aload_n 2, 1) := by decide +kernel
theorem qd_L_571 : decode code 571 = .ok (.aload_n 0, 1) := by decide +kernel
theorem qd_L_572 : decode code 572 = .ok (.iload_n 3, 1) := by decide +kernel
theorem qd_L_573 : decode code 573 = .ok (.iconst 1, 1) := by decide +kernel
theorem qd_L_574 : decode code 574 = .ok (.iadd, 1) := by decide +kernel
theorem qd_L_575 : decode code 575 = .ok (.iaload, 1) := by decide +kernel
theorem qd_L_576 : decode code 576 = .ok (.aload_n 0, 1) := by decide +kernel
theorem qd_L_577 : decode code 577 = .ok (.iload_n 3, 1) := by decide +kernel
theorem qd_L_578 : decode code 578 = .ok (.iconst 2, 1) := by decide +kernel
theorem qd_L_579 : decode code 579 = .ok (.iadd, 1) := by decide +kernel
theorem qd_L_580 : decode code 580 = .ok (.iaload, 1) := by decide +kernel
theorem qd_L_581 : decode code 581 = .ok (.invokevirtual 76, 3) := by decide +kernel
theorem qd_L_584 : decode code 584 = .ok (.if_icmp .eq 117, 3) := by decide +kernel
theorem qd_L_587 : decode code 587 = .ok (.iconst 0, 1) := by decide +kernel
theorem qd_L_588 : decode code 588 = .ok (.ireturn, 1) := by decide +kernel
theorem qd_L_589 : decode code 589 = .ok (.aload_n 1, 1) := by decide +kernel
theorem qd_L_590 : decode code 590 = .ok (.aload_n 0, 1) := by decide +kernel
theorem qd_L_591 : decode code 591 = .ok (.iload_n 3, 1) := by decide +kernel
theorem qd_L_592 : decode code 592 = .ok (.iconst 1, 1) := by decide +kernel
theorem qd_L_593 : decode code 593 = .ok (.iadd, 1) := by decide +kernel
theorem qd_L_594 : decode code 594 = .ok (.iaload, 1) := by decide +kernel
theorem qd_L_595 : decode code 595 = .ok (.aload_n 0, 1) := by decide +kernel
theorem qd_L_596 : decode code 596 = .ok (.iload_n 3, 1) := by decide +kernel
theorem qd_L_597 : decode code 597 = .ok (.iconst 2, 1) := by decide +kernel
theorem qd_L_598 : decode code 598 = .ok (.iadd, 1) := by decide +kernel
theorem qd_L_599 : decode code 599 = .ok (.iaload, 1) := by decide +kernel
theorem qd_L_600 : decode code 600 = .ok (.invokevirtual 77, 3) := by decide +kernel
theorem qd_L_603 : decode code 603 = .ok (.aload_n 2, 1) := by decide +kernel
theorem qd_L_604 : decode code 604 = .ok (.aload_n 0, 1) := by decide +kernel
theorem qd_L_605 : decode code 605 = .ok (.iload_n 3, 1) := by decide +kernel
theorem qd_L_606 : decode code 606 = .ok (.iconst 1, 1) := by decide +kernel
theorem qd_L_607 : decode code 607 = .ok (.iadd, 1) := by decide +kernel
theorem qd_L_608 : decode code 608 = .ok (.iaload, 1) := by decide +kernel
theorem qd_L_609 : decode code 609 = .ok (.aload_n 0, 1) := by decide +kernel
theorem qd_L_610 : decode code 610 = .ok (.iload_n 3, 1) := by decide +kernel
theorem qd_L_611 : decode code 611 = .ok (.iconst 2, 1) := by decide +kernel
theorem qd_L_612 : decode code 612 = .ok (.iadd, 1) := by decide +kernel
theorem qd_L_613 : decode code 613 = .ok (.iaload, 1) := by decide +kernel
theorem qd_L_614 : decode code 614 = .ok (.invokevirtual 80, 3) := by decide +kernel
theorem qd_L_617 : decode code 617 = .ok (.if_icmp .eq 84, 3) := by decide +kernel
theorem qd_L_620 : decode code 620 = .ok (.iconst 0, 1) := by decide +kernel
theorem qd_L_621 : decode code 621 = .ok (.ireturn, 1) := by decide +kernel
theorem qd_L_622 : decode code 622 = .ok (.aload_n 1, 1) := by decide +kernel
theorem qd_L_623 : decode code 623 = .ok (.aload_n 0, 1) := by decide +kernel
theorem qd_L_624 : decode code 624 = .ok (.iload_n 3, 1) := by decide +kernel
theorem qd_L_625 : decode code 625 = .ok (.iconst 1, 1) := by decide +kernel
theorem qd_L_626 : decode code 626 = .ok (.iadd, 1) := by decide +kernel
theorem qd_L_627 : decode code 627 = .ok (.iaload, 1) := by decide +kernel
theorem qd_L_628 : decode code 628 = .ok (.aload_n 0, 1) := by decide +kernel
theorem qd_L_629 : decode code 629 = .ok (.iload_n 3, 1) := by decide +kernel
theorem qd_L_630 : decode code 630 = .ok (.iconst 2, 1) := by decide +kernel
theorem qd_L_631 : decode code 631 = .ok (.iadd, 1) := by decide +kernel
theorem qd_L_632 : decode code 632 = .ok (.iaload, 1) := by decide +kernel
theorem qd_L_633 : decode code 633 = .ok (.invokevirtual 81, 3) := by decide +kernel
theorem qd_L_636 : decode code 636 = .ok (.aload_n 2, 1) := by decide +kernel
theorem qd_L_637 : decode code 637 = .ok (.aload_n 0, 1) := by decide +kernel
theorem qd_L_638 : decode code 638 = .ok (.iload_n 3, 1) := by decide +kernel
theorem qd_L_639 : decode code 639 = .ok (.iconst 1, 1) := by decide +kernel
theorem qd_L_640 : decode code 640 = .ok (.iadd, 1) := by decide +kernel
theorem qd_L_641 : decode code 641 = .ok (.iaload, 1) := by decide +kernel
theorem qd_L_642 : decode code 642 = .ok (.aload_n 0, 1) := by decide +kernel
theorem qd_L_643 : decode code 643 = .ok (.iload_n 3, 1) := by decide +kernel
theorem qd_L_644 : decode code 644 = .ok (.iconst 2, 1) := by decide +kernel
theorem qd_L_645 : decode code 645 = .ok (.iadd, 1) := by decide +kernel
theorem qd_L_646 : decode code 646 = .ok (.iaload, 1) := by decide +kernel
theorem qd_L_647 : decode code 647 = .ok (.invokevirtual 84, 3) := by decide +kernel
theorem qd_L_650 : decode code 650 = .ok (.if_icmp .eq 51, 3) := by decide +kernel
theorem qd_L_653 : decode code 653 = .ok (.iconst 0, 1) := by decide +kernel
theorem qd_L_654 : decode code 654 = .ok (.ireturn, 1) := by decide +kernel
theorem qd_L_655 : decode code 655 = .ok (.aload_n 1, 1) := by decide +kernel
theorem qd_L_656 : decode code 656 = .ok (.aload_n 0, 1) := by decide +kernel
theorem qd_L_657 : decode code 657 = .ok (.iload_n 3, 1) := by decide +kernel
theorem qd_L_658 : decode code 658 = .ok (.iconst 1, 1) := by decide +kernel
theorem qd_L_659 : decode code 659 = .ok (.iadd, 1) := by decide +kernel
theorem qd_L_660 : decode code 660 = .ok (.iaload, 1) := by decide +kernel
theorem qd_L_661 : decode code 661 = .ok (.invokevirtual 85, 3) := by decide +kernel
theorem qd_L_664 : decode code 664 = .ok (.aload_n 2, 1) := by decide +kernel
theorem qd_L_665 : decode code 665 = .ok (.aload_n 0, 1) := by decide +kernel
theorem qd_L_666 : decode code 666 = .ok (.iload_n 3, 1) := by decide +kernel
theorem qd_L_667 : decode code 667 = .ok (.iconst 1, 1) := by decide +kernel
theorem qd_L_668 : decode code 668 = .ok (.iadd, 1) := by decide +kernel
theorem qd_L_669 : decode code 669 = .ok (.iaload, 1) := by decide +kernel
theorem qd_L_670 : decode code 670 = .ok (.invokevirtual 88, 3) := by decide +kernel
theorem qd_L_673 : decode code 673 = .ok (.if_icmp .eq 28, 3) := by decide +kernel
theorem qd_L_676 : decode code 676 = .ok (.iconst 0, 1) := by decide +kernel
theorem qd_L_677 : decode code 677 = .ok (.ireturn, 1) := by decide +kernel
theorem qd_L_678 : decode code 678 = .ok (.aload_n 1, 1) := by decide +kernel
theorem qd_L_679 : decode code 679 = .ok (.aload_n 0, 1) := by decide +kernel
theorem qd_L_680 : decode code 680 = .ok (.iload_n 3, 1) := by decide +kernel
theorem qd_L_681 : decode code 681 = .ok (.iconst 1, 1) := by decide +kernel
theorem qd_L_682 : decode code 682 = .ok (.iadd, 1) := by decide +kernel
theorem qd_L_683 : decode code 683 = .ok (.iaload, 1) := by decide +kernel
theorem qd_L_684 : decode code 684 = .ok (.invokevirtual 89, 3) := by decide +kernel
theorem qd_L_687 : decode code 687 = .ok (.aload_n 2, 1) := by decide +kernel
theorem qd_L_688 : decode code 688 = .ok (.aload_n 0, 1) := by decide +kernel
theorem qd_L_689 : decode code 689 = .ok (.iload_n 3, 1) := by decide +kernel
theorem qd_L_690 : decode code 690 = .ok (.iconst 1, 1) := by decide +kernel
theorem qd_L_691 : decode code 691 = .ok (.iadd, 1) := by decide +kernel
theorem qd_L_692 : decode code 692 = .ok (.iaload, 1) := by decide +kernel
theorem qd_L_693 : decode code 693 = .ok (.invokevirtual 92, 3) := by decide +kernel
theorem qd_L_696 : decode code 696 = .ok (.if_icmp .eq 5, 3) := by decide +kernel
theorem qd_L_699 : decode code 699 = .ok (.iconst 0, 1) := by decide +kernel
theorem qd_L_700 : decode code 700 = .ok (.ireturn, 1) := by decide +kernel
theorem qd_L_701 : decode code 701 = .ok (.iinc 3 4, 3) := by decide +kernel
theorem qd_L_704 : decode code 704 = .ok (.goto (-686), 3) := by decide +kernel
theorem qd_L_707 : decode code 707 = .ok (.iconst 1, 1) := by decide +kernel
theorem qd_L_708 : decode code 708 = .ok (.ireturn, 1) := by decide +kernel
/-- one call of the script on both: the states behind it, if both answer, and alike -/
def qlaw (o a b c : Int32) (S T : (Nat → Nat → Int32)) : Option ((Nat → Nat → Int32) × (Nat → Nat → Int32)) := if o = 0 then (f_X_clear S).bind (fun p => (f_M_clear T).bind (fun q => if p.1 = q.1 then some (p.2, q.2) else none)) else (if o = 1 then (f_X_declare S a b).bind (fun p => (f_M_declare T a b).bind (fun q => if p.1 = q.1 then some (p.2, q.2) else none)) else (if o = 2 then (f_X_inherit S a b).bind (fun p => (f_M_inherit T a b).bind (fun q => if p.1 = q.1 then some (p.2, q.2) else none)) else (if o = 3 then (f_X_bind S a b c).bind (fun p => (f_M_bind T a b c).bind (fun q => if p.1 = q.1 then some (p.2, q.2) else none)) else (if o = 4 then (f_X_plain S a).bind (fun p => (f_M_plain T a).bind (fun q => if p.1 = q.1 then some (p.2, q.2) else none)) else (if o = 5 then (f_X_of S a b c).bind (fun p => (f_M_of T a b c).bind (fun q => if p.1 = q.1 then some (p.2, q.2) else none)) else (if o = 6 then (f_X_wild S a b).bind (fun p => (f_M_wild T a b).bind (fun q => if p.1 = q.1 then some (p.2, q.2) else none)) else (if o = 7 then (f_X_variable S a b).bind (fun p => (f_M_variable T a b).bind (fun q => if p.1 = q.1 then some (p.2, q.2) else none)) else (if o = 8 then (f_X_row S a).bind (fun p => (f_M_row T a).bind (fun q => if p.1 = q.1 then some (p.2, q.2) else none)) else (if o = 9 then (f_X_count S a).bind (fun p => (f_M_count T a).bind (fun q => if p = q then some (S, T) else none)) else (if o = 10 then (f_X_told S a b).bind (fun p => (f_M_told T a b).bind (fun q => if p = q then some (S, T) else none)) else (if o = 11 then (f_X_known S a b).bind (fun p => (f_M_known T a b).bind (fun q => if p = q.1 then some (S, q.2) else none)) else (if o = 12 then (f_X_below S a b).bind (fun p => (f_M_below T a b).bind (fun q => if p = q.1 then some (S, q.2) else none)) else (if o = 13 then (f_X_apart S a b).bind (fun p => (f_M_apart T a b).bind (fun q => if p = q.1 then some (S, q.2) else none)) else (if o = 14 then (f_X_is S a b).bind (fun p => (f_M_is T a b).bind (fun q => if p.1 = q.1 then some (p.2, q.2) else none)) else (if o = 15 then (f_X_may S a b).bind (fun p => (f_M_may T a b).bind (fun q => if p.1 = q.1 then some (p.2, q.2) else none)) else (if o = 16 then (f_X_as S a b).bind (fun p => (f_M_as T a b).bind (fun q => if p.1 = q.1 then some (p.2, q.2) else none)) else (if o = 17 then (f_X_erased S a).bind (fun p => (f_M_erased T a).bind (fun q => if p.1 = q.1 then some (p.2, q.2) else none)) else (if o = 18 then (f_X_good S a).bind (fun p => (f_M_good T a).bind (fun q => if p.1 = q.1 then some (p.2, q.2) else none)) else (some (S, T))))))))))))))))))))
/-- n calls, whatever they are: both answer, and alike -/
def qOk : Nat → (Nat → Nat → Int32) → (Nat → Nat → Int32) → Prop
  | 0, _, _ => True
  | n + 1, S, T => ∀ o a b c : Int32, ∃ q, qlaw o a b c S T = some q ∧ qOk n q.1 q.2
theorem qw_lt {i L : Nat} {x : Int32} (hL : L ≤ 2048) (hi : i ≤ 4096) (ex : x = nI i) (h : ¬ Int32.ofNat L - 4 < x) : i + 4 ≤ L := by
  have e4 : (4 : Int32) = nI 4 := by decide +kernel
  rw [Int32.lt_iff_toInt_lt, ex, e4, show Int32.ofNat L = nI L from rfl, pk_sub_toInt (by omega) (by omega), nI_toInt (by omega)] at h
  omega
def qLW (D : va_G) (u v : Nat → Nat) (cI cZ : ClassId) (A : Nat → Prop) (H0 : Heap) (S T : (Nat → Nat → Int32)) (H : Heap) (locs : List Loc) : Prop := va_P D qcl (xw u cI S ++ mw v cI cZ T) H ∧ va_D A (xw u cI S ++ mw v cI cZ T) ∧ va_S A H0 H locs
section qLawCalls
variable {p : Program} {l : Launch} {e : Env} {R : Room} {s : State} {m : MethodId} {args : Array Value} {below : List Frame} {meth : Method} {c : Code} {H : Heap} {locs : List Loc} {cells slots : Nat} {Q : State → Prop} {cc : ByteArray} {nL pc : Nat} {own : String} {ls : Array Slot} {rest : List Value} {D : va_G} {u v : Nat → Nat} {cI cZ : ClassId} {A : Nat → Prop} {S S2 T T2 : (Nat → Nat → Int32)}
set_option maxRecDepth 100000 in
set_option maxHeartbeats 4000000 in
theorem q_callx (F : CallFix p m c cc nL s args qtb own) (hK : va_K D qcl [(cI, .int), (cZ, .boolean)] s) (hN : qnests xns s) (hA : ∀ q, s.heap.size ≤ q → A q) (w : qLW D u v cI cZ A s.heap S T H locs) {y : MethodName} {b : ByteArray} {n : Nat} {ret : Option FieldType} {rm : Room} {r : Int32} {As : List Value} {index : Nat} (hM : xMi l y b n ret rm D u cI S (.ref (u 0) :: As) r S2) (h1 : Cond.methodLink own index y ∈ qtb) (h2 : Cond.instanceMethod y ∈ qtb) (h3 : Cond.selects "CaptureSubtypes" y y ∈ qtb) (h4 : Cond.initialized "CaptureSubtypes" ∈ qtb) (h5 : Cond.code y b n ret ∈ qtb) (hy : y.cls = "CaptureSubtypes" ∧ y.cls ≠ "java/lang/invoke/MethodHandle" ∧ y.cls ≠ "java/lang/invoke/VarHandle" ∧ (parseMethodDescriptor y.desc).map (fun d => d.parameters.length) = some As.length) (hc0 : rm.cells = 0) (hs0 : rm.slots = 0) (hR : rm.frames + 1 ≤ R.frames ∧ 8 + (n + 11) + rm.locals ≤ R.locals) (hcs : cells ≤ R.cells ∧ slots ≤ R.slots) (hsz : ls.size = nL) {st0 : List Value} (hst : st0 = As.reverse ++ .ref (u 0) :: rest) (hro : (rest.map fun v => v.category).sum ≤ 8) (hd : decode cc pc = .ok (.invokevirtual index, 3)) (kk : ∀ (H1 : Heap) (locs1 : List Loc), qLW D u v cI cZ A s.heap S2 T H1 locs1 → W p l e R s m args below meth c H1 locs1 cells slots Q (F0 m (pc + 3) ls (.int r :: rest))) : W p l e R s m args below meth c H locs cells slots Q (F0 m pc ls st0) := by
  subst hst
  obtain ⟨hP, hD, hS⟩ := w
  have hPc := hP.sub (ws' := xw u cI S) [0, 1, 2, 3, 4, 5, 6, 7, 8, 9, 10, 11, 12, 13, 14, 15, 16, 17, 18, 19, 20, 21, 22] rfl
  have hDc := hD.sub (ws' := xw u cI S) [0, 1, 2, 3, 4, 5, 6, 7, 8, 9, 10, 11, 12, 13, 14, 15, 16, 17, 18, 19, 20, 21, 22] (by decide) rfl
  have hFc := va_free (wc := xw u cI S) hD hS hA [0, 1, 2, 3, 4, 5, 6, 7, 8, 9, 10, 11, 12, 13, 14, 15, 16, 17, 18, 19, 20, 21, 22] rfl
  refine va_calli (va_runV (As := As) (rest := rest) F (hM H.size) (cwV As.length F.2.2.2.2 (q_goodV h1 h2 h3 h4 h5) rfl hc0 hs0 hy hR) ⟨x_blind, va_recv (ci := 5) (q0 := 0) hK hPc rfl rfl, fun U hU hW => ⟨rfl, by rw [hU], by rw [hU]; exact hPc, va_K.moved hW.alike (hK.sub [0] rfl), hDc.weaken (fun _ _ _ _ => trivial), x_nests hW hN⟩⟩ rfl rfl hsz rfl (lv_room hro) hd hcs) hS (fun q _ h => hFc q h) hFc (fun r1 un t H1 locs1 ht hvm hw hB hz1 hk1 hS => ?_)
  subst hw
  obtain ⟨hP, hD⟩ := va_join (wr := mw v cI cZ T) (w1 := xw u cI S2) hP hD [0, 1, 2, 3, 4, 5, 6, 7, 8, 9, 10, 11, 12, 13, 14, 15, 16, 17, 18, 19, 20, 21, 22] [23, 24, 25, 26, 27, 28, 29, 30, 31, 32, 33, 34, 35, 36, 37, 38, 39, 40, 41, 42, 43, 44, 45, 46, 47, 48, 49, 50] rfl rfl (by decide) (by decide) hk1 hFc (ht ▸ hB) (x_D _ hDc.self)
  exact kk H1 locs1 ⟨hP.sub (ws' := xw u cI S2 ++ mw v cI cZ T) [28, 29, 30, 31, 32, 33, 34, 35, 36, 37, 38, 39, 40, 41, 42, 43, 44, 45, 46, 47, 48, 49, 50, 0, 1, 2, 3, 4, 5, 6, 7, 8, 9, 10, 11, 12, 13, 14, 15, 16, 17, 18, 19, 20, 21, 22, 23, 24, 25, 26, 27] rfl, hD.sub (ws' := xw u cI S2 ++ mw v cI cZ T) [28, 29, 30, 31, 32, 33, 34, 35, 36, 37, 38, 39, 40, 41, 42, 43, 44, 45, 46, 47, 48, 49, 50, 0, 1, 2, 3, 4, 5, 6, 7, 8, 9, 10, 11, 12, 13, 14, 15, 16, 17, 18, 19, 20, 21, 22, 23, 24, 25, 26, 27] (by decide) rfl, hS⟩
set_option maxRecDepth 100000 in
set_option maxHeartbeats 4000000 in
theorem q_callm (F : CallFix p m c cc nL s args qtb own) (hK : va_K D qcl [(cI, .int), (cZ, .boolean)] s) (hN : qnests mns s) (hA : ∀ q, s.heap.size ≤ q → A q) (w : qLW D u v cI cZ A s.heap S T H locs) {y : MethodName} {b : ByteArray} {n : Nat} {ret : Option FieldType} {rm : Room} {r : Int32} {As : List Value} {index : Nat} (hM : mMi l y b n ret rm D v cI cZ T (.ref (v 0) :: As) r T2) (h1 : Cond.methodLink own index y ∈ qtb) (h2 : Cond.instanceMethod y ∈ qtb) (h3 : Cond.selects "CaptureSubtypesModel" y y ∈ qtb) (h4 : Cond.initialized "CaptureSubtypesModel" ∈ qtb) (h5 : Cond.code y b n ret ∈ qtb) (hy : y.cls = "CaptureSubtypesModel" ∧ y.cls ≠ "java/lang/invoke/MethodHandle" ∧ y.cls ≠ "java/lang/invoke/VarHandle" ∧ (parseMethodDescriptor y.desc).map (fun d => d.parameters.length) = some As.length) (hc0 : rm.cells = 0) (hs0 : rm.slots = 0) (hR : rm.frames + 1 ≤ R.frames ∧ 8 + (n + 11) + rm.locals ≤ R.locals) (hcs : cells ≤ R.cells ∧ slots ≤ R.slots) (hsz : ls.size = nL) {st0 : List Value} (hst : st0 = As.reverse ++ .ref (v 0) :: rest) (hro : (rest.map fun v => v.category).sum ≤ 8) (hd : decode cc pc = .ok (.invokevirtual index, 3)) (kk : ∀ (H1 : Heap) (locs1 : List Loc), qLW D u v cI cZ A s.heap S T2 H1 locs1 → W p l e R s m args below meth c H1 locs1 cells slots Q (F0 m (pc + 3) ls (.int r :: rest))) : W p l e R s m args below meth c H locs cells slots Q (F0 m pc ls st0) := by
  subst hst
  obtain ⟨hP, hD, hS⟩ := w
  have hPc := hP.sub (ws' := mw v cI cZ T) [23, 24, 25, 26, 27, 28, 29, 30, 31, 32, 33, 34, 35, 36, 37, 38, 39, 40, 41, 42, 43, 44, 45, 46, 47, 48, 49, 50] rfl
  have hDc := hD.sub (ws' := mw v cI cZ T) [23, 24, 25, 26, 27, 28, 29, 30, 31, 32, 33, 34, 35, 36, 37, 38, 39, 40, 41, 42, 43, 44, 45, 46, 47, 48, 49, 50] (by decide) rfl
  have hFc := va_free (wc := mw v cI cZ T) hD hS hA [23, 24, 25, 26, 27, 28, 29, 30, 31, 32, 33, 34, 35, 36, 37, 38, 39, 40, 41, 42, 43, 44, 45, 46, 47, 48, 49, 50] rfl
  refine va_calli (va_runV (As := As) (rest := rest) F (hM H.size) (cwV As.length F.2.2.2.2 (q_goodV h1 h2 h3 h4 h5) rfl hc0 hs0 hy hR) ⟨m_blind, va_recv (ci := 6) (q0 := 0) hK hPc rfl rfl, fun U hU hW => ⟨rfl, by rw [hU], by rw [hU]; exact hPc, va_K.moved hW.alike hK, hDc.weaken (fun _ _ _ _ => trivial), m_nests hW hN⟩⟩ rfl rfl hsz rfl (lv_room hro) hd hcs) hS (fun q _ h => hFc q h) hFc (fun r1 un t H1 locs1 ht hvm hw hB hz1 hk1 hS => ?_)
  subst hw
  obtain ⟨hP, hD⟩ := va_join (wr := xw u cI S) (w1 := mw v cI cZ T2) hP hD [23, 24, 25, 26, 27, 28, 29, 30, 31, 32, 33, 34, 35, 36, 37, 38, 39, 40, 41, 42, 43, 44, 45, 46, 47, 48, 49, 50] [0, 1, 2, 3, 4, 5, 6, 7, 8, 9, 10, 11, 12, 13, 14, 15, 16, 17, 18, 19, 20, 21, 22] rfl rfl (by decide) (by decide) hk1 hFc (ht ▸ hB) (m_D _ hDc.self)
  exact kk H1 locs1 ⟨hP, hD, hS⟩
end qLawCalls
set_option maxRecDepth 100000 in
set_option maxHeartbeats 4000000 in
theorem q_loop {p : Program} {l : Launch} {e : Env} {s : State} {m : MethodId} {below : List Frame} {meth : Method} {c : Code} {D : va_G} {u v : Nat → Nat} {cI cZ : ClassId} {b L : Nat} {xs : Nat → Int32} (hL : L ≤ 4) (C0 : lw_At p s m meth c b L xs) (hK : va_K D qcl [(cI, .int), (cZ, .boolean)] s) (hNx : qnests xns s) (hNm : qnests mns s) : ∀ (n i : Nat) (x3 : Int32) (S T : (Nat → Nat → Int32)), i ≤ L → L < i + 4 * n + 4 → x3 = nI i → qOk n S T → ∀ (H : Heap) (locs : List Loc) (ls : Array Slot), qLW D u v cI cZ (fun q : Nat => s.heap.size ≤ q) s.heap S T H locs → lv_has ls 4 [(0, .ref b), (1, .ref (u 0)), (2, .ref (v 0)), (3, .int x3)] → W p l e room_1 s m #[Value.ref b] below meth c H locs 51 108040 (lw_Z below #[Value.ref b] s) (F0 m 18 ls []) := by
  obtain ⟨hx, hb, hr, hml, hown, hts0, hX, hbl, hlocks, hgv⟩ := C0
  have hts : ∀ w ∈ qtb, w.before #[Value.ref b] s = true := fun w h => hts0 w (qw_tbl h)
  have F : CallFix p m c code 4 s #[Value.ref b] qtb "CaptureSubtypesLaw" := ⟨hx, hb, hml, hown, hts⟩
  have hA : ∀ q : Nat, s.heap.size ≤ q → (fun q : Nat => s.heap.size ≤ q) q := fun _ h => h
  have hbA : ¬ (fun q : Nat => s.heap.size ≤ q) b := Nat.not_le.mpr hbl
  intro n
  induction n with
  | zero =>
    intro i x3 S T hi hin ex3 hO H locs ls w hl
    refine lv_iload_n hx hb qd_L_18 rfl (lv_at hl 3 rfl) ?_
    refine lv_aload_n hx hb qd_L_19 rfl (lv_at hl 0 rfl) ?_
    refine va_slen hx hb hX hbl hbA w.2.2 qd_L_20 ?_
    refine lv_iconst (v := 4) hx hb qd_L_21 (by decide) ?_
    refine lv_isub hx hb qd_L_22 ?_
    refine lv_icmp_gt (tgt := 707) hx hb qd_L_23 (by decide) (fun hc => ?_) (fun hc => ?_)
    · refine lv_iconst (v := 1) hx hb qd_L_707 (by decide) ?_
      refine va_forget (fun q hq => w.2.2.2.2 q hq) ?_
      refine W.widen (k := 600000) (n := 7302250) (by decide) (by decide) ?_
      exact lw_ret hx hb hr hlocks qd_L_708
    · exact absurd (qw_lt (by omega) (by omega) ex3 hc) (by omega)
  | succ n ih =>
    intro i x3 S T hi hin ex3 hO H locs ls w hl
    refine lv_iload_n hx hb qd_L_18 rfl (lv_at hl 3 rfl) ?_
    refine lv_aload_n hx hb qd_L_19 rfl (lv_at hl 0 rfl) ?_
    refine va_slen hx hb hX hbl hbA w.2.2 qd_L_20 ?_
    refine lv_iconst (v := 4) hx hb qd_L_21 (by decide) ?_
    refine lv_isub hx hb qd_L_22 ?_
    refine lv_icmp_gt (tgt := 707) hx hb qd_L_23 (by decide) (fun hc => ?_) (fun hc => ?_)
    · refine lv_iconst (v := 1) hx hb qd_L_707 (by decide) ?_
      refine va_forget (fun q hq => w.2.2.2.2 q hq) ?_
      refine W.widen (k := 600000) (n := 7302250) (by decide) (by decide) ?_
      exact lw_ret hx hb hr hlocks qd_L_708
    · have hlt : i + 4 ≤ L := qw_lt (by omega) (by omega) ex3 hc
      have h0 : vp_in (x3) L := by rw [ex3]; exact vp_in_nI (by omega) (by omega)
      have h1 : vp_in (x3 + 1) L := by rw [ex3, show ((1 : Int32)) = nI 1 by decide +kernel, nI_add]; exact vp_in_nI (by omega) (by omega)
      have h2 : vp_in (x3 + 2) L := by rw [ex3, show ((2 : Int32)) = nI 2 by decide +kernel, nI_add]; exact vp_in_nI (by omega) (by omega)
      have h3 : vp_in (x3 + 3) L := by rw [ex3, show ((3 : Int32)) = nI 3 by decide +kernel, nI_add]; exact vp_in_nI (by omega) (by omega)
      refine lv_aload_n hx hb qd_L_26 rfl (lv_at hl 0 rfl) ?_
      refine lv_iload_n hx hb qd_L_27 rfl (lv_at hl 3 rfl) ?_
      refine va_sld hx hb hX hbl hbA w.2.2 h0 qd_L_28 ?_
      refine lv_bipush (v := 31) hx hb qd_L_29 (by decide) ?_
      refine lv_iand hx hb qd_L_31 ?_
      obtain ⟨q9, hM, hO⟩ := hO (xs x3.toNatClampNeg &&& 31) (xs (x3 + 1).toNatClampNeg) (xs (x3 + 2).toNatClampNeg) (xs (x3 + 3).toNatClampNeg)
      have tail : ∀ (H : Heap) (locs : List Loc), qLW D u v cI cZ (fun q : Nat => s.heap.size ≤ q) s.heap q9.1 q9.2 H locs → W p l e room_1 s m #[Value.ref b] below meth c H locs 51 108040 (lw_Z below #[Value.ref b] s) (F0 m 701 ls []) := fun H locs w => by
        obtain ⟨x4, ex4⟩ : ∃ y : Int32, y = x3 + 4 := ⟨_, rfl⟩
        refine lv_iinc (v := x4) (lv' := [(3, .int x4), (0, .ref b), (1, .ref (u 0)), (2, .ref (v 0))]) hx hb qd_L_701 hl (k := 3) rfl (by rw [ex4]; rfl) (by decide) rfl (fun ls hl => ?_)
        refine lv_goto (tgt := 18) hx hb qd_L_704 (by decide) ?_
        exact ih (i + 4) x4 q9.1 q9.2 (by omega) (by omega) (by rw [ex4, ex3, show (4 : Int32) = nI 4 by decide +kernel, nI_add]) hO H locs ls w (lv_sub hl [1, 2, 3, 0] rfl)
      unfold qlaw at hM
      by_cases hs0 : (xs x3.toNatClampNeg &&& 31) = 0
      · rw [if_pos hs0] at hM
        rw [hs0]
        refine lv_tableIn (tgt := 124) hx hb qd_L_32 (by decide) (by decide) rfl (by decide) ?_
        refine lv_aload_n hx hb qd_L_124 rfl (lv_at hl 1 rfl) ?_
        obtain ⟨p1, hp1, hM⟩ := qbd hM
        refine q_callx F hK hNx hA w (c_X_clear l D u cI hp1) qk_183 qk_184 qk_185 qk_1 qk_186 qv_X_clear rfl rfl (by exact ⟨Nat.le_of_ble_eq_true rfl, Nat.le_of_ble_eq_true rfl⟩) (by exact ⟨Nat.le_of_ble_eq_true rfl, Nat.le_of_ble_eq_true rfl⟩) hl.1 rfl (Nat.le_of_ble_eq_true rfl) qd_L_125 (fun H locs w => ?_)
        refine lv_aload_n hx hb qd_L_128 rfl (lv_at hl 2 rfl) ?_
        obtain ⟨p2, hp2, hM⟩ := qbd hM
        refine q_callm F hK hNm hA w (c_M_clear l D v cI cZ hp2) qk_753 qk_754 qk_755 qk_8 qk_756 qv_M_clear rfl rfl (by exact ⟨Nat.le_of_ble_eq_true rfl, Nat.le_of_ble_eq_true rfl⟩) (by exact ⟨Nat.le_of_ble_eq_true rfl, Nat.le_of_ble_eq_true rfl⟩) hl.1 rfl (Nat.le_of_ble_eq_true rfl) qd_L_129 (fun H locs w => ?_)
        refine lv_icmp_eq (tgt := 701) hx hb qd_L_132 (by decide) (fun he => ?_) (fun he => ?_)
        · rw [if_pos he] at hM
          cases hM
          exact tail _ _ w
        · rw [if_neg he] at hM
          cases hM
      · rw [if_neg hs0] at hM
        by_cases hs1 : (xs x3.toNatClampNeg &&& 31) = 1
        · rw [if_pos hs1] at hM
          rw [hs1]
          refine lv_tableIn (tgt := 137) hx hb qd_L_32 (by decide) (by decide) rfl (by decide) ?_
          refine lv_aload_n hx hb qd_L_137 rfl (lv_at hl 1 rfl) ?_
          refine lv_aload_n hx hb qd_L_138 rfl (lv_at hl 0 rfl) ?_
          refine lv_iload_n hx hb qd_L_139 rfl (lv_at hl 3 rfl) ?_
          refine lv_iconst (v := 1) hx hb qd_L_140 (by decide) ?_
          refine lv_iadd hx hb qd_L_141 ?_
          refine va_sld hx hb hX hbl hbA w.2.2 h1 qd_L_142 ?_
          refine lv_aload_n hx hb qd_L_143 rfl (lv_at hl 0 rfl) ?_
          refine lv_iload_n hx hb qd_L_144 rfl (lv_at hl 3 rfl) ?_
          refine lv_iconst (v := 2) hx hb qd_L_145 (by decide) ?_
          refine lv_iadd hx hb qd_L_146 ?_
          refine va_sld hx hb hX hbl hbA w.2.2 h2 qd_L_147 ?_
          obtain ⟨p1, hp1, hM⟩ := qbd hM
          refine q_callx F hK hNx hA w (c_X_declare l D u cI hp1) qk_189 qk_190 qk_191 qk_1 qk_192 qv_X_declare rfl rfl (by exact ⟨Nat.le_of_ble_eq_true rfl, Nat.le_of_ble_eq_true rfl⟩) (by exact ⟨Nat.le_of_ble_eq_true rfl, Nat.le_of_ble_eq_true rfl⟩) hl.1 rfl (Nat.le_of_ble_eq_true rfl) qd_L_148 (fun H locs w => ?_)
          refine lv_aload_n hx hb qd_L_151 rfl (lv_at hl 2 rfl) ?_
          refine lv_aload_n hx hb qd_L_152 rfl (lv_at hl 0 rfl) ?_
          refine lv_iload_n hx hb qd_L_153 rfl (lv_at hl 3 rfl) ?_
          refine lv_iconst (v := 1) hx hb qd_L_154 (by decide) ?_
          refine lv_iadd hx hb qd_L_155 ?_
          refine va_sld hx hb hX hbl hbA w.2.2 h1 qd_L_156 ?_
          refine lv_aload_n hx hb qd_L_157 rfl (lv_at hl 0 rfl) ?_
          refine lv_iload_n hx hb qd_L_158 rfl (lv_at hl 3 rfl) ?_
          refine lv_iconst (v := 2) hx hb qd_L_159 (by decide) ?_
          refine lv_iadd hx hb qd_L_160 ?_
          refine va_sld hx hb hX hbl hbA w.2.2 h2 qd_L_161 ?_
          obtain ⟨p2, hp2, hM⟩ := qbd hM
          refine q_callm F hK hNm hA w (c_M_declare l D v cI cZ hp2) qk_757 qk_758 qk_759 qk_8 qk_760 qv_M_declare rfl rfl (by exact ⟨Nat.le_of_ble_eq_true rfl, Nat.le_of_ble_eq_true rfl⟩) (by exact ⟨Nat.le_of_ble_eq_true rfl, Nat.le_of_ble_eq_true rfl⟩) hl.1 rfl (Nat.le_of_ble_eq_true rfl) qd_L_162 (fun H locs w => ?_)
          refine lv_icmp_eq (tgt := 701) hx hb qd_L_165 (by decide) (fun he => ?_) (fun he => ?_)
          · rw [if_pos he] at hM
            cases hM
            exact tail _ _ w
          · rw [if_neg he] at hM
            cases hM
        · rw [if_neg hs1] at hM
          by_cases hs2 : (xs x3.toNatClampNeg &&& 31) = 2
          · rw [if_pos hs2] at hM
            rw [hs2]
            refine lv_tableIn (tgt := 170) hx hb qd_L_32 (by decide) (by decide) rfl (by decide) ?_
            refine lv_aload_n hx hb qd_L_170 rfl (lv_at hl 1 rfl) ?_
            refine lv_aload_n hx hb qd_L_171 rfl (lv_at hl 0 rfl) ?_
            refine lv_iload_n hx hb qd_L_172 rfl (lv_at hl 3 rfl) ?_
            refine lv_iconst (v := 1) hx hb qd_L_173 (by decide) ?_
            refine lv_iadd hx hb qd_L_174 ?_
            refine va_sld hx hb hX hbl hbA w.2.2 h1 qd_L_175 ?_
            refine lv_aload_n hx hb qd_L_176 rfl (lv_at hl 0 rfl) ?_
            refine lv_iload_n hx hb qd_L_177 rfl (lv_at hl 3 rfl) ?_
            refine lv_iconst (v := 2) hx hb qd_L_178 (by decide) ?_
            refine lv_iadd hx hb qd_L_179 ?_
            refine va_sld hx hb hX hbl hbA w.2.2 h2 qd_L_180 ?_
            obtain ⟨p1, hp1, hM⟩ := qbd hM
            refine q_callx F hK hNx hA w (c_X_inherit l D u cI hp1) qk_249 qk_250 qk_251 qk_1 qk_252 qv_X_inherit rfl rfl (by exact ⟨Nat.le_of_ble_eq_true rfl, Nat.le_of_ble_eq_true rfl⟩) (by exact ⟨Nat.le_of_ble_eq_true rfl, Nat.le_of_ble_eq_true rfl⟩) hl.1 rfl (Nat.le_of_ble_eq_true rfl) qd_L_181 (fun H locs w => ?_)
            refine lv_aload_n hx hb qd_L_184 rfl (lv_at hl 2 rfl) ?_
            refine lv_aload_n hx hb qd_L_185 rfl (lv_at hl 0 rfl) ?_
            refine lv_iload_n hx hb qd_L_186 rfl (lv_at hl 3 rfl) ?_
            refine lv_iconst (v := 1) hx hb qd_L_187 (by decide) ?_
            refine lv_iadd hx hb qd_L_188 ?_
            refine va_sld hx hb hX hbl hbA w.2.2 h1 qd_L_189 ?_
            refine lv_aload_n hx hb qd_L_190 rfl (lv_at hl 0 rfl) ?_
            refine lv_iload_n hx hb qd_L_191 rfl (lv_at hl 3 rfl) ?_
            refine lv_iconst (v := 2) hx hb qd_L_192 (by decide) ?_
            refine lv_iadd hx hb qd_L_193 ?_
            refine va_sld hx hb hX hbl hbA w.2.2 h2 qd_L_194 ?_
            obtain ⟨p2, hp2, hM⟩ := qbd hM
            refine q_callm F hK hNm hA w (c_M_inherit l D v cI cZ hp2) qk_976 qk_977 qk_978 qk_8 qk_979 qv_M_inherit rfl rfl (by exact ⟨Nat.le_of_ble_eq_true rfl, Nat.le_of_ble_eq_true rfl⟩) (by exact ⟨Nat.le_of_ble_eq_true rfl, Nat.le_of_ble_eq_true rfl⟩) hl.1 rfl (Nat.le_of_ble_eq_true rfl) qd_L_195 (fun H locs w => ?_)
            refine lv_icmp_eq (tgt := 701) hx hb qd_L_198 (by decide) (fun he => ?_) (fun he => ?_)
            · rw [if_pos he] at hM
              cases hM
              exact tail _ _ w
            · rw [if_neg he] at hM
              cases hM
          · rw [if_neg hs2] at hM
            by_cases hs3 : (xs x3.toNatClampNeg &&& 31) = 3
            · rw [if_pos hs3] at hM
              rw [hs3]
              refine lv_tableIn (tgt := 203) hx hb qd_L_32 (by decide) (by decide) rfl (by decide) ?_
              refine lv_aload_n hx hb qd_L_203 rfl (lv_at hl 1 rfl) ?_
              refine lv_aload_n hx hb qd_L_204 rfl (lv_at hl 0 rfl) ?_
              refine lv_iload_n hx hb qd_L_205 rfl (lv_at hl 3 rfl) ?_
              refine lv_iconst (v := 1) hx hb qd_L_206 (by decide) ?_
              refine lv_iadd hx hb qd_L_207 ?_
              refine va_sld hx hb hX hbl hbA w.2.2 h1 qd_L_208 ?_
              refine lv_aload_n hx hb qd_L_209 rfl (lv_at hl 0 rfl) ?_
              refine lv_iload_n hx hb qd_L_210 rfl (lv_at hl 3 rfl) ?_
              refine lv_iconst (v := 2) hx hb qd_L_211 (by decide) ?_
              refine lv_iadd hx hb qd_L_212 ?_
              refine va_sld hx hb hX hbl hbA w.2.2 h2 qd_L_213 ?_
              refine lv_aload_n hx hb qd_L_214 rfl (lv_at hl 0 rfl) ?_
              refine lv_iload_n hx hb qd_L_215 rfl (lv_at hl 3 rfl) ?_
              refine lv_iconst (v := 3) hx hb qd_L_216 (by decide) ?_
              refine lv_iadd hx hb qd_L_217 ?_
              refine va_sld hx hb hX hbl hbA w.2.2 h3 qd_L_218 ?_
              obtain ⟨p1, hp1, hM⟩ := qbd hM
              refine q_callx F hK hNx hA w (c_X_bind l D u cI hp1) qk_361 qk_362 qk_363 qk_1 qk_364 qv_X_bind rfl rfl (by exact ⟨Nat.le_of_ble_eq_true rfl, Nat.le_of_ble_eq_true rfl⟩) (by exact ⟨Nat.le_of_ble_eq_true rfl, Nat.le_of_ble_eq_true rfl⟩) hl.1 rfl (Nat.le_of_ble_eq_true rfl) qd_L_219 (fun H locs w => ?_)
              refine lv_aload_n hx hb qd_L_222 rfl (lv_at hl 2 rfl) ?_
              refine lv_aload_n hx hb qd_L_223 rfl (lv_at hl 0 rfl) ?_
              refine lv_iload_n hx hb qd_L_224 rfl (lv_at hl 3 rfl) ?_
              refine lv_iconst (v := 1) hx hb qd_L_225 (by decide) ?_
              refine lv_iadd hx hb qd_L_226 ?_
              refine va_sld hx hb hX hbl hbA w.2.2 h1 qd_L_227 ?_
              refine lv_aload_n hx hb qd_L_228 rfl (lv_at hl 0 rfl) ?_
              refine lv_iload_n hx hb qd_L_229 rfl (lv_at hl 3 rfl) ?_
              refine lv_iconst (v := 2) hx hb qd_L_230 (by decide) ?_
              refine lv_iadd hx hb qd_L_231 ?_
              refine va_sld hx hb hX hbl hbA w.2.2 h2 qd_L_232 ?_
              refine lv_aload_n hx hb qd_L_233 rfl (lv_at hl 0 rfl) ?_
              refine lv_iload_n hx hb qd_L_234 rfl (lv_at hl 3 rfl) ?_
              refine lv_iconst (v := 3) hx hb qd_L_235 (by decide) ?_
              refine lv_iadd hx hb qd_L_236 ?_
              refine va_sld hx hb hX hbl hbA w.2.2 h3 qd_L_237 ?_
              obtain ⟨p2, hp2, hM⟩ := qbd hM
              refine q_callm F hK hNm hA w (c_M_bind l D v cI cZ hp2) qk_988 qk_989 qk_990 qk_8 qk_991 qv_M_bind rfl rfl (by exact ⟨Nat.le_of_ble_eq_true rfl, Nat.le_of_ble_eq_true rfl⟩) (by exact ⟨Nat.le_of_ble_eq_true rfl, Nat.le_of_ble_eq_true rfl⟩) hl.1 rfl (Nat.le_of_ble_eq_true rfl) qd_L_238 (fun H locs w => ?_)
              refine lv_icmp_eq (tgt := 701) hx hb qd_L_241 (by decide) (fun he => ?_) (fun he => ?_)
              · rw [if_pos he] at hM
                cases hM
                exact tail _ _ w
              · rw [if_neg he] at hM
                cases hM
            · rw [if_neg hs3] at hM
              by_cases hs4 : (xs x3.toNatClampNeg &&& 31) = 4
              · rw [if_pos hs4] at hM
                rw [hs4]
                refine lv_tableIn (tgt := 246) hx hb qd_L_32 (by decide) (by decide) rfl (by decide) ?_
                refine lv_aload_n hx hb qd_L_246 rfl (lv_at hl 1 rfl) ?_
                refine lv_aload_n hx hb qd_L_247 rfl (lv_at hl 0 rfl) ?_
                refine lv_iload_n hx hb qd_L_248 rfl (lv_at hl 3 rfl) ?_
                refine lv_iconst (v := 1) hx hb qd_L_249 (by decide) ?_
                refine lv_iadd hx hb qd_L_250 ?_
                refine va_sld hx hb hX hbl hbA w.2.2 h1 qd_L_251 ?_
                obtain ⟨p1, hp1, hM⟩ := qbd hM
                refine q_callx F hK hNx hA w (c_X_plain l D u cI hp1) qk_385 qk_386 qk_387 qk_1 qk_388 qv_X_plain rfl rfl (by exact ⟨Nat.le_of_ble_eq_true rfl, Nat.le_of_ble_eq_true rfl⟩) (by exact ⟨Nat.le_of_ble_eq_true rfl, Nat.le_of_ble_eq_true rfl⟩) hl.1 rfl (Nat.le_of_ble_eq_true rfl) qd_L_252 (fun H locs w => ?_)
                refine lv_aload_n hx hb qd_L_255 rfl (lv_at hl 2 rfl) ?_
                refine lv_aload_n hx hb qd_L_256 rfl (lv_at hl 0 rfl) ?_
                refine lv_iload_n hx hb qd_L_257 rfl (lv_at hl 3 rfl) ?_
                refine lv_iconst (v := 1) hx hb qd_L_258 (by decide) ?_
                refine lv_iadd hx hb qd_L_259 ?_
                refine va_sld hx hb hX hbl hbA w.2.2 h1 qd_L_260 ?_
                obtain ⟨p2, hp2, hM⟩ := qbd hM
                refine q_callm F hK hNm hA w (c_M_plain l D v cI cZ hp2) qk_764 qk_765 qk_766 qk_8 qk_767 qv_M_plain rfl rfl (by exact ⟨Nat.le_of_ble_eq_true rfl, Nat.le_of_ble_eq_true rfl⟩) (by exact ⟨Nat.le_of_ble_eq_true rfl, Nat.le_of_ble_eq_true rfl⟩) hl.1 rfl (Nat.le_of_ble_eq_true rfl) qd_L_261 (fun H locs w => ?_)
                refine lv_icmp_eq (tgt := 701) hx hb qd_L_264 (by decide) (fun he => ?_) (fun he => ?_)
                · rw [if_pos he] at hM
                  cases hM
                  exact tail _ _ w
                · rw [if_neg he] at hM
                  cases hM
              · rw [if_neg hs4] at hM
                by_cases hs5 : (xs x3.toNatClampNeg &&& 31) = 5
                · rw [if_pos hs5] at hM
                  rw [hs5]
                  refine lv_tableIn (tgt := 269) hx hb qd_L_32 (by decide) (by decide) rfl (by decide) ?_
                  refine lv_aload_n hx hb qd_L_269 rfl (lv_at hl 1 rfl) ?_
                  refine lv_aload_n hx hb qd_L_270 rfl (lv_at hl 0 rfl) ?_
                  refine lv_iload_n hx hb qd_L_271 rfl (lv_at hl 3 rfl) ?_
                  refine lv_iconst (v := 1) hx hb qd_L_272 (by decide) ?_
                  refine lv_iadd hx hb qd_L_273 ?_
                  refine va_sld hx hb hX hbl hbA w.2.2 h1 qd_L_274 ?_
                  refine lv_aload_n hx hb qd_L_275 rfl (lv_at hl 0 rfl) ?_
                  refine lv_iload_n hx hb qd_L_276 rfl (lv_at hl 3 rfl) ?_
                  refine lv_iconst (v := 2) hx hb qd_L_277 (by decide) ?_
                  refine lv_iadd hx hb qd_L_278 ?_
                  refine va_sld hx hb hX hbl hbA w.2.2 h2 qd_L_279 ?_
                  refine lv_aload_n hx hb qd_L_280 rfl (lv_at hl 0 rfl) ?_
                  refine lv_iload_n hx hb qd_L_281 rfl (lv_at hl 3 rfl) ?_
                  refine lv_iconst (v := 3) hx hb qd_L_282 (by decide) ?_
                  refine lv_iadd hx hb qd_L_283 ?_
                  refine va_sld hx hb hX hbl hbA w.2.2 h3 qd_L_284 ?_
                  obtain ⟨p1, hp1, hM⟩ := qbd hM
                  refine q_callx F hK hNx hA w (c_X_of l D u cI hp1) qk_391 qk_392 qk_393 qk_1 qk_394 qv_X_of rfl rfl (by exact ⟨Nat.le_of_ble_eq_true rfl, Nat.le_of_ble_eq_true rfl⟩) (by exact ⟨Nat.le_of_ble_eq_true rfl, Nat.le_of_ble_eq_true rfl⟩) hl.1 rfl (Nat.le_of_ble_eq_true rfl) qd_L_285 (fun H locs w => ?_)
                  refine lv_aload_n hx hb qd_L_288 rfl (lv_at hl 2 rfl) ?_
                  refine lv_aload_n hx hb qd_L_289 rfl (lv_at hl 0 rfl) ?_
                  refine lv_iload_n hx hb qd_L_290 rfl (lv_at hl 3 rfl) ?_
                  refine lv_iconst (v := 1) hx hb qd_L_291 (by decide) ?_
                  refine lv_iadd hx hb qd_L_292 ?_
                  refine va_sld hx hb hX hbl hbA w.2.2 h1 qd_L_293 ?_
                  refine lv_aload_n hx hb qd_L_294 rfl (lv_at hl 0 rfl) ?_
                  refine lv_iload_n hx hb qd_L_295 rfl (lv_at hl 3 rfl) ?_
                  refine lv_iconst (v := 2) hx hb qd_L_296 (by decide) ?_
                  refine lv_iadd hx hb qd_L_297 ?_
                  refine va_sld hx hb hX hbl hbA w.2.2 h2 qd_L_298 ?_
                  refine lv_aload_n hx hb qd_L_299 rfl (lv_at hl 0 rfl) ?_
                  refine lv_iload_n hx hb qd_L_300 rfl (lv_at hl 3 rfl) ?_
                  refine lv_iconst (v := 3) hx hb qd_L_301 (by decide) ?_
                  refine lv_iadd hx hb qd_L_302 ?_
                  refine va_sld hx hb hX hbl hbA w.2.2 h3 qd_L_303 ?_
                  obtain ⟨p2, hp2, hM⟩ := qbd hM
                  refine q_callm F hK hNm hA w (c_M_of l D v cI cZ hp2) qk_784 qk_785 qk_786 qk_8 qk_787 qv_M_of rfl rfl (by exact ⟨Nat.le_of_ble_eq_true rfl, Nat.le_of_ble_eq_true rfl⟩) (by exact ⟨Nat.le_of_ble_eq_true rfl, Nat.le_of_ble_eq_true rfl⟩) hl.1 rfl (Nat.le_of_ble_eq_true rfl) qd_L_304 (fun H locs w => ?_)
                  refine lv_icmp_eq (tgt := 701) hx hb qd_L_307 (by decide) (fun he => ?_) (fun he => ?_)
                  · rw [if_pos he] at hM
                    cases hM
                    exact tail _ _ w
                  · rw [if_neg he] at hM
                    cases hM
                · rw [if_neg hs5] at hM
                  by_cases hs6 : (xs x3.toNatClampNeg &&& 31) = 6
                  · rw [if_pos hs6] at hM
                    rw [hs6]
                    refine lv_tableIn (tgt := 312) hx hb qd_L_32 (by decide) (by decide) rfl (by decide) ?_
                    refine lv_aload_n hx hb qd_L_312 rfl (lv_at hl 1 rfl) ?_
                    refine lv_aload_n hx hb qd_L_313 rfl (lv_at hl 0 rfl) ?_
                    refine lv_iload_n hx hb qd_L_314 rfl (lv_at hl 3 rfl) ?_
                    refine lv_iconst (v := 1) hx hb qd_L_315 (by decide) ?_
                    refine lv_iadd hx hb qd_L_316 ?_
                    refine va_sld hx hb hX hbl hbA w.2.2 h1 qd_L_317 ?_
                    refine lv_aload_n hx hb qd_L_318 rfl (lv_at hl 0 rfl) ?_
                    refine lv_iload_n hx hb qd_L_319 rfl (lv_at hl 3 rfl) ?_
                    refine lv_iconst (v := 2) hx hb qd_L_320 (by decide) ?_
                    refine lv_iadd hx hb qd_L_321 ?_
                    refine va_sld hx hb hX hbl hbA w.2.2 h2 qd_L_322 ?_
                    obtain ⟨p1, hp1, hM⟩ := qbd hM
                    refine q_callx F hK hNx hA w (c_X_wild l D u cI hp1) qk_403 qk_404 qk_405 qk_1 qk_406 qv_X_wild rfl rfl (by exact ⟨Nat.le_of_ble_eq_true rfl, Nat.le_of_ble_eq_true rfl⟩) (by exact ⟨Nat.le_of_ble_eq_true rfl, Nat.le_of_ble_eq_true rfl⟩) hl.1 rfl (Nat.le_of_ble_eq_true rfl) qd_L_323 (fun H locs w => ?_)
                    refine lv_aload_n hx hb qd_L_326 rfl (lv_at hl 2 rfl) ?_
                    refine lv_aload_n hx hb qd_L_327 rfl (lv_at hl 0 rfl) ?_
                    refine lv_iload_n hx hb qd_L_328 rfl (lv_at hl 3 rfl) ?_
                    refine lv_iconst (v := 1) hx hb qd_L_329 (by decide) ?_
                    refine lv_iadd hx hb qd_L_330 ?_
                    refine va_sld hx hb hX hbl hbA w.2.2 h1 qd_L_331 ?_
                    refine lv_aload_n hx hb qd_L_332 rfl (lv_at hl 0 rfl) ?_
                    refine lv_iload_n hx hb qd_L_333 rfl (lv_at hl 3 rfl) ?_
                    refine lv_iconst (v := 2) hx hb qd_L_334 (by decide) ?_
                    refine lv_iadd hx hb qd_L_335 ?_
                    refine va_sld hx hb hX hbl hbA w.2.2 h2 qd_L_336 ?_
                    obtain ⟨p2, hp2, hM⟩ := qbd hM
                    refine q_callm F hK hNm hA w (c_M_wild l D v cI cZ hp2) qk_796 qk_797 qk_798 qk_8 qk_799 qv_M_wild rfl rfl (by exact ⟨Nat.le_of_ble_eq_true rfl, Nat.le_of_ble_eq_true rfl⟩) (by exact ⟨Nat.le_of_ble_eq_true rfl, Nat.le_of_ble_eq_true rfl⟩) hl.1 rfl (Nat.le_of_ble_eq_true rfl) qd_L_337 (fun H locs w => ?_)
                    refine lv_icmp_eq (tgt := 701) hx hb qd_L_340 (by decide) (fun he => ?_) (fun he => ?_)
                    · rw [if_pos he] at hM
                      cases hM
                      exact tail _ _ w
                    · rw [if_neg he] at hM
                      cases hM
                  · rw [if_neg hs6] at hM
                    by_cases hs7 : (xs x3.toNatClampNeg &&& 31) = 7
                    · rw [if_pos hs7] at hM
                      rw [hs7]
                      refine lv_tableIn (tgt := 345) hx hb qd_L_32 (by decide) (by decide) rfl (by decide) ?_
                      refine lv_aload_n hx hb qd_L_345 rfl (lv_at hl 1 rfl) ?_
                      refine lv_aload_n hx hb qd_L_346 rfl (lv_at hl 0 rfl) ?_
                      refine lv_iload_n hx hb qd_L_347 rfl (lv_at hl 3 rfl) ?_
                      refine lv_iconst (v := 1) hx hb qd_L_348 (by decide) ?_
                      refine lv_iadd hx hb qd_L_349 ?_
                      refine va_sld hx hb hX hbl hbA w.2.2 h1 qd_L_350 ?_
                      refine lv_aload_n hx hb qd_L_351 rfl (lv_at hl 0 rfl) ?_
                      refine lv_iload_n hx hb qd_L_352 rfl (lv_at hl 3 rfl) ?_
                      refine lv_iconst (v := 2) hx hb qd_L_353 (by decide) ?_
                      refine lv_iadd hx hb qd_L_354 ?_
                      refine va_sld hx hb hX hbl hbA w.2.2 h2 qd_L_355 ?_
                      obtain ⟨p1, hp1, hM⟩ := qbd hM
                      refine q_callx F hK hNx hA w (c_X_variable l D u cI hp1) qk_407 qk_408 qk_409 qk_1 qk_410 qv_X_variable rfl rfl (by exact ⟨Nat.le_of_ble_eq_true rfl, Nat.le_of_ble_eq_true rfl⟩) (by exact ⟨Nat.le_of_ble_eq_true rfl, Nat.le_of_ble_eq_true rfl⟩) hl.1 rfl (Nat.le_of_ble_eq_true rfl) qd_L_356 (fun H locs w => ?_)
                      refine lv_aload_n hx hb qd_L_359 rfl (lv_at hl 2 rfl) ?_
                      refine lv_aload_n hx hb qd_L_360 rfl (lv_at hl 0 rfl) ?_
                      refine lv_iload_n hx hb qd_L_361 rfl (lv_at hl 3 rfl) ?_
                      refine lv_iconst (v := 1) hx hb qd_L_362 (by decide) ?_
                      refine lv_iadd hx hb qd_L_363 ?_
                      refine va_sld hx hb hX hbl hbA w.2.2 h1 qd_L_364 ?_
                      refine lv_aload_n hx hb qd_L_365 rfl (lv_at hl 0 rfl) ?_
                      refine lv_iload_n hx hb qd_L_366 rfl (lv_at hl 3 rfl) ?_
                      refine lv_iconst (v := 2) hx hb qd_L_367 (by decide) ?_
                      refine lv_iadd hx hb qd_L_368 ?_
                      refine va_sld hx hb hX hbl hbA w.2.2 h2 qd_L_369 ?_
                      obtain ⟨p2, hp2, hM⟩ := qbd hM
                      refine q_callm F hK hNm hA w (c_M_variable l D v cI cZ hp2) qk_800 qk_801 qk_802 qk_8 qk_803 qv_M_variable rfl rfl (by exact ⟨Nat.le_of_ble_eq_true rfl, Nat.le_of_ble_eq_true rfl⟩) (by exact ⟨Nat.le_of_ble_eq_true rfl, Nat.le_of_ble_eq_true rfl⟩) hl.1 rfl (Nat.le_of_ble_eq_true rfl) qd_L_370 (fun H locs w => ?_)
                      refine lv_icmp_eq (tgt := 701) hx hb qd_L_373 (by decide) (fun he => ?_) (fun he => ?_)
                      · rw [if_pos he] at hM
                        cases hM
                        exact tail _ _ w
                      · rw [if_neg he] at hM
                        cases hM
                    · rw [if_neg hs7] at hM
                      by_cases hs8 : (xs x3.toNatClampNeg &&& 31) = 8
                      · rw [if_pos hs8] at hM
                        rw [hs8]
                        refine lv_tableIn (tgt := 378) hx hb qd_L_32 (by decide) (by decide) rfl (by decide) ?_
                        refine lv_aload_n hx hb qd_L_378 rfl (lv_at hl 1 rfl) ?_
                        refine lv_aload_n hx hb qd_L_379 rfl (lv_at hl 0 rfl) ?_
                        refine lv_iload_n hx hb qd_L_380 rfl (lv_at hl 3 rfl) ?_
                        refine lv_iconst (v := 1) hx hb qd_L_381 (by decide) ?_
                        refine lv_iadd hx hb qd_L_382 ?_
                        refine va_sld hx hb hX hbl hbA w.2.2 h1 qd_L_383 ?_
                        obtain ⟨p1, hp1, hM⟩ := qbd hM
                        refine q_callx F hK hNx hA w (c_X_row l D u cI hp1) qk_411 qk_412 qk_413 qk_1 qk_414 qv_X_row rfl rfl (by exact ⟨Nat.le_of_ble_eq_true rfl, Nat.le_of_ble_eq_true rfl⟩) (by exact ⟨Nat.le_of_ble_eq_true rfl, Nat.le_of_ble_eq_true rfl⟩) hl.1 rfl (Nat.le_of_ble_eq_true rfl) qd_L_384 (fun H locs w => ?_)
                        refine lv_aload_n hx hb qd_L_387 rfl (lv_at hl 2 rfl) ?_
                        refine lv_aload_n hx hb qd_L_388 rfl (lv_at hl 0 rfl) ?_
                        refine lv_iload_n hx hb qd_L_389 rfl (lv_at hl 3 rfl) ?_
                        refine lv_iconst (v := 1) hx hb qd_L_390 (by decide) ?_
                        refine lv_iadd hx hb qd_L_391 ?_
                        refine va_sld hx hb hX hbl hbA w.2.2 h1 qd_L_392 ?_
                        obtain ⟨p2, hp2, hM⟩ := qbd hM
                        refine q_callm F hK hNm hA w (c_M_row l D v cI cZ hp2) qk_804 qk_805 qk_806 qk_8 qk_807 qv_M_row rfl rfl (by exact ⟨Nat.le_of_ble_eq_true rfl, Nat.le_of_ble_eq_true rfl⟩) (by exact ⟨Nat.le_of_ble_eq_true rfl, Nat.le_of_ble_eq_true rfl⟩) hl.1 rfl (Nat.le_of_ble_eq_true rfl) qd_L_393 (fun H locs w => ?_)
                        refine lv_icmp_eq (tgt := 701) hx hb qd_L_396 (by decide) (fun he => ?_) (fun he => ?_)
                        · rw [if_pos he] at hM
                          cases hM
                          exact tail _ _ w
                        · rw [if_neg he] at hM
                          cases hM
                      · rw [if_neg hs8] at hM
                        by_cases hs9 : (xs x3.toNatClampNeg &&& 31) = 9
                        · rw [if_pos hs9] at hM
                          rw [hs9]
                          refine lv_tableIn (tgt := 401) hx hb qd_L_32 (by decide) (by decide) rfl (by decide) ?_
                          refine lv_aload_n hx hb qd_L_401 rfl (lv_at hl 1 rfl) ?_
                          refine lv_aload_n hx hb qd_L_402 rfl (lv_at hl 0 rfl) ?_
                          refine lv_iload_n hx hb qd_L_403 rfl (lv_at hl 3 rfl) ?_
                          refine lv_iconst (v := 1) hx hb qd_L_404 (by decide) ?_
                          refine lv_iadd hx hb qd_L_405 ?_
                          refine va_sld hx hb hX hbl hbA w.2.2 h1 qd_L_406 ?_
                          obtain ⟨p1, hp1, hM⟩ := qbd hM
                          refine q_callx F hK hNx hA w (c_X_count l D u cI hp1) qk_419 qk_420 qk_421 qk_1 qk_422 qv_X_count rfl rfl (by exact ⟨Nat.le_of_ble_eq_true rfl, Nat.le_of_ble_eq_true rfl⟩) (by exact ⟨Nat.le_of_ble_eq_true rfl, Nat.le_of_ble_eq_true rfl⟩) hl.1 rfl (Nat.le_of_ble_eq_true rfl) qd_L_407 (fun H locs w => ?_)
                          refine lv_aload_n hx hb qd_L_410 rfl (lv_at hl 2 rfl) ?_
                          refine lv_aload_n hx hb qd_L_411 rfl (lv_at hl 0 rfl) ?_
                          refine lv_iload_n hx hb qd_L_412 rfl (lv_at hl 3 rfl) ?_
                          refine lv_iconst (v := 1) hx hb qd_L_413 (by decide) ?_
                          refine lv_iadd hx hb qd_L_414 ?_
                          refine va_sld hx hb hX hbl hbA w.2.2 h1 qd_L_415 ?_
                          obtain ⟨p2, hp2, hM⟩ := qbd hM
                          refine q_callm F hK hNm hA w (c_M_count l D v cI cZ hp2) qk_808 qk_809 qk_810 qk_8 qk_811 qv_M_count rfl rfl (by exact ⟨Nat.le_of_ble_eq_true rfl, Nat.le_of_ble_eq_true rfl⟩) (by exact ⟨Nat.le_of_ble_eq_true rfl, Nat.le_of_ble_eq_true rfl⟩) hl.1 rfl (Nat.le_of_ble_eq_true rfl) qd_L_416 (fun H locs w => ?_)
                          refine lv_icmp_eq (tgt := 701) hx hb qd_L_419 (by decide) (fun he => ?_) (fun he => ?_)
                          · rw [if_pos he] at hM
                            cases hM
                            exact tail _ _ w
                          · rw [if_neg he] at hM
                            cases hM
                        · rw [if_neg hs9] at hM
                          by_cases hs10 : (xs x3.toNatClampNeg &&& 31) = 10
                          · rw [if_pos hs10] at hM
                            rw [hs10]
                            refine lv_tableIn (tgt := 424) hx hb qd_L_32 (by decide) (by decide) rfl (by decide) ?_
                            refine lv_aload_n hx hb qd_L_424 rfl (lv_at hl 1 rfl) ?_
                            refine lv_aload_n hx hb qd_L_425 rfl (lv_at hl 0 rfl) ?_
                            refine lv_iload_n hx hb qd_L_426 rfl (lv_at hl 3 rfl) ?_
                            refine lv_iconst (v := 1) hx hb qd_L_427 (by decide) ?_
                            refine lv_iadd hx hb qd_L_428 ?_
                            refine va_sld hx hb hX hbl hbA w.2.2 h1 qd_L_429 ?_
                            refine lv_aload_n hx hb qd_L_430 rfl (lv_at hl 0 rfl) ?_
                            refine lv_iload_n hx hb qd_L_431 rfl (lv_at hl 3 rfl) ?_
                            refine lv_iconst (v := 2) hx hb qd_L_432 (by decide) ?_
                            refine lv_iadd hx hb qd_L_433 ?_
                            refine va_sld hx hb hX hbl hbA w.2.2 h2 qd_L_434 ?_
                            obtain ⟨p1, hp1, hM⟩ := qbd hM
                            refine q_callx F hK hNx hA w (c_X_told l D u cI hp1) qk_423 qk_424 qk_425 qk_1 qk_426 qv_X_told rfl rfl (by exact ⟨Nat.le_of_ble_eq_true rfl, Nat.le_of_ble_eq_true rfl⟩) (by exact ⟨Nat.le_of_ble_eq_true rfl, Nat.le_of_ble_eq_true rfl⟩) hl.1 rfl (Nat.le_of_ble_eq_true rfl) qd_L_435 (fun H locs w => ?_)
                            refine lv_aload_n hx hb qd_L_438 rfl (lv_at hl 2 rfl) ?_
                            refine lv_aload_n hx hb qd_L_439 rfl (lv_at hl 0 rfl) ?_
                            refine lv_iload_n hx hb qd_L_440 rfl (lv_at hl 3 rfl) ?_
                            refine lv_iconst (v := 1) hx hb qd_L_441 (by decide) ?_
                            refine lv_iadd hx hb qd_L_442 ?_
                            refine va_sld hx hb hX hbl hbA w.2.2 h1 qd_L_443 ?_
                            refine lv_aload_n hx hb qd_L_444 rfl (lv_at hl 0 rfl) ?_
                            refine lv_iload_n hx hb qd_L_445 rfl (lv_at hl 3 rfl) ?_
                            refine lv_iconst (v := 2) hx hb qd_L_446 (by decide) ?_
                            refine lv_iadd hx hb qd_L_447 ?_
                            refine va_sld hx hb hX hbl hbA w.2.2 h2 qd_L_448 ?_
                            obtain ⟨p2, hp2, hM⟩ := qbd hM
                            refine q_callm F hK hNm hA w (c_M_told l D v cI cZ hp2) qk_812 qk_813 qk_814 qk_8 qk_815 qv_M_told rfl rfl (by exact ⟨Nat.le_of_ble_eq_true rfl, Nat.le_of_ble_eq_true rfl⟩) (by exact ⟨Nat.le_of_ble_eq_true rfl, Nat.le_of_ble_eq_true rfl⟩) hl.1 rfl (Nat.le_of_ble_eq_true rfl) qd_L_449 (fun H locs w => ?_)
                            refine lv_icmp_eq (tgt := 701) hx hb qd_L_452 (by decide) (fun he => ?_) (fun he => ?_)
                            · rw [if_pos he] at hM
                              cases hM
                              exact tail _ _ w
                            · rw [if_neg he] at hM
                              cases hM
                          · rw [if_neg hs10] at hM
                            by_cases hs11 : (xs x3.toNatClampNeg &&& 31) = 11
                            · rw [if_pos hs11] at hM
                              rw [hs11]
                              refine lv_tableIn (tgt := 457) hx hb qd_L_32 (by decide) (by decide) rfl (by decide) ?_
                              refine lv_aload_n hx hb qd_L_457 rfl (lv_at hl 1 rfl) ?_
                              refine lv_aload_n hx hb qd_L_458 rfl (lv_at hl 0 rfl) ?_
                              refine lv_iload_n hx hb qd_L_459 rfl (lv_at hl 3 rfl) ?_
                              refine lv_iconst (v := 1) hx hb qd_L_460 (by decide) ?_
                              refine lv_iadd hx hb qd_L_461 ?_
                              refine va_sld hx hb hX hbl hbA w.2.2 h1 qd_L_462 ?_
                              refine lv_aload_n hx hb qd_L_463 rfl (lv_at hl 0 rfl) ?_
                              refine lv_iload_n hx hb qd_L_464 rfl (lv_at hl 3 rfl) ?_
                              refine lv_iconst (v := 2) hx hb qd_L_465 (by decide) ?_
                              refine lv_iadd hx hb qd_L_466 ?_
                              refine va_sld hx hb hX hbl hbA w.2.2 h2 qd_L_467 ?_
                              obtain ⟨p1, hp1, hM⟩ := qbd hM
                              refine q_callx F hK hNx hA w (c_X_known l D u cI hp1) qk_432 qk_433 qk_434 qk_1 qk_435 qv_X_known rfl rfl (by exact ⟨Nat.le_of_ble_eq_true rfl, Nat.le_of_ble_eq_true rfl⟩) (by exact ⟨Nat.le_of_ble_eq_true rfl, Nat.le_of_ble_eq_true rfl⟩) hl.1 rfl (Nat.le_of_ble_eq_true rfl) qd_L_468 (fun H locs w => ?_)
                              refine lv_aload_n hx hb qd_L_471 rfl (lv_at hl 2 rfl) ?_
                              refine lv_aload_n hx hb qd_L_472 rfl (lv_at hl 0 rfl) ?_
                              refine lv_iload_n hx hb qd_L_473 rfl (lv_at hl 3 rfl) ?_
                              refine lv_iconst (v := 1) hx hb qd_L_474 (by decide) ?_
                              refine lv_iadd hx hb qd_L_475 ?_
                              refine va_sld hx hb hX hbl hbA w.2.2 h1 qd_L_476 ?_
                              refine lv_aload_n hx hb qd_L_477 rfl (lv_at hl 0 rfl) ?_
                              refine lv_iload_n hx hb qd_L_478 rfl (lv_at hl 3 rfl) ?_
                              refine lv_iconst (v := 2) hx hb qd_L_479 (by decide) ?_
                              refine lv_iadd hx hb qd_L_480 ?_
                              refine va_sld hx hb hX hbl hbA w.2.2 h2 qd_L_481 ?_
                              obtain ⟨p2, hp2, hM⟩ := qbd hM
                              refine q_callm F hK hNm hA w (c_M_known l D v cI cZ hp2) qk_816 qk_817 qk_818 qk_8 qk_819 qv_M_known rfl rfl (by exact ⟨Nat.le_of_ble_eq_true rfl, Nat.le_of_ble_eq_true rfl⟩) (by exact ⟨Nat.le_of_ble_eq_true rfl, Nat.le_of_ble_eq_true rfl⟩) hl.1 rfl (Nat.le_of_ble_eq_true rfl) qd_L_482 (fun H locs w => ?_)
                              refine lv_icmp_eq (tgt := 701) hx hb qd_L_485 (by decide) (fun he => ?_) (fun he => ?_)
                              · rw [if_pos he] at hM
                                cases hM
                                exact tail _ _ w
                              · rw [if_neg he] at hM
                                cases hM
                            · rw [if_neg hs11] at hM
                              by_cases hs12 : (xs x3.toNatClampNeg &&& 31) = 12
                              · rw [if_pos hs12] at hM
                                rw [hs12]
                                refine lv_tableIn (tgt := 490) hx hb qd_L_32 (by decide) (by decide) rfl (by decide) ?_
                                refine lv_aload_n hx hb qd_L_490 rfl (lv_at hl 1 rfl) ?_
                                refine lv_aload_n hx hb qd_L_491 rfl (lv_at hl 0 rfl) ?_
                                refine lv_iload_n hx hb qd_L_492 rfl (lv_at hl 3 rfl) ?_
                                refine lv_iconst (v := 1) hx hb qd_L_493 (by decide) ?_
                                refine lv_iadd hx hb qd_L_494 ?_
                                refine va_sld hx hb hX hbl hbA w.2.2 h1 qd_L_495 ?_
                                refine lv_aload_n hx hb qd_L_496 rfl (lv_at hl 0 rfl) ?_
                                refine lv_iload_n hx hb qd_L_497 rfl (lv_at hl 3 rfl) ?_
                                refine lv_iconst (v := 2) hx hb qd_L_498 (by decide) ?_
                                refine lv_iadd hx hb qd_L_499 ?_
                                refine va_sld hx hb hX hbl hbA w.2.2 h2 qd_L_500 ?_
                                obtain ⟨p1, hp1, hM⟩ := qbd hM
                                refine q_callx F hK hNx hA w (c_X_below l D u cI hp1) qk_444 qk_445 qk_446 qk_1 qk_447 qv_X_below rfl rfl (by exact ⟨Nat.le_of_ble_eq_true rfl, Nat.le_of_ble_eq_true rfl⟩) (by exact ⟨Nat.le_of_ble_eq_true rfl, Nat.le_of_ble_eq_true rfl⟩) hl.1 rfl (Nat.le_of_ble_eq_true rfl) qd_L_501 (fun H locs w => ?_)
                                refine lv_aload_n hx hb qd_L_504 rfl (lv_at hl 2 rfl) ?_
                                refine lv_aload_n hx hb qd_L_505 rfl (lv_at hl 0 rfl) ?_
                                refine lv_iload_n hx hb qd_L_506 rfl (lv_at hl 3 rfl) ?_
                                refine lv_iconst (v := 1) hx hb qd_L_507 (by decide) ?_
                                refine lv_iadd hx hb qd_L_508 ?_
                                refine va_sld hx hb hX hbl hbA w.2.2 h1 qd_L_509 ?_
                                refine lv_aload_n hx hb qd_L_510 rfl (lv_at hl 0 rfl) ?_
                                refine lv_iload_n hx hb qd_L_511 rfl (lv_at hl 3 rfl) ?_
                                refine lv_iconst (v := 2) hx hb qd_L_512 (by decide) ?_
                                refine lv_iadd hx hb qd_L_513 ?_
                                refine va_sld hx hb hX hbl hbA w.2.2 h2 qd_L_514 ?_
                                obtain ⟨p2, hp2, hM⟩ := qbd hM
                                refine q_callm F hK hNm hA w (c_M_below l D v cI cZ hp2) qk_836 qk_837 qk_838 qk_8 qk_839 qv_M_below rfl rfl (by exact ⟨Nat.le_of_ble_eq_true rfl, Nat.le_of_ble_eq_true rfl⟩) (by exact ⟨Nat.le_of_ble_eq_true rfl, Nat.le_of_ble_eq_true rfl⟩) hl.1 rfl (Nat.le_of_ble_eq_true rfl) qd_L_515 (fun H locs w => ?_)
                                refine lv_icmp_eq (tgt := 701) hx hb qd_L_518 (by decide) (fun he => ?_) (fun he => ?_)
                                · rw [if_pos he] at hM
                                  cases hM
                                  exact tail _ _ w
                                · rw [if_neg he] at hM
                                  cases hM
                              · rw [if_neg hs12] at hM
                                by_cases hs13 : (xs x3.toNatClampNeg &&& 31) = 13
                                · rw [if_pos hs13] at hM
                                  rw [hs13]
                                  refine lv_tableIn (tgt := 523) hx hb qd_L_32 (by decide) (by decide) rfl (by decide) ?_
                                  refine lv_aload_n hx hb qd_L_523 rfl (lv_at hl 1 rfl) ?_
                                  refine lv_aload_n hx hb qd_L_524 rfl (lv_at hl 0 rfl) ?_
                                  refine lv_iload_n hx hb qd_L_525 rfl (lv_at hl 3 rfl) ?_
                                  refine lv_iconst (v := 1) hx hb qd_L_526 (by decide) ?_
                                  refine lv_iadd hx hb qd_L_527 ?_
                                  refine va_sld hx hb hX hbl hbA w.2.2 h1 qd_L_528 ?_
                                  refine lv_aload_n hx hb qd_L_529 rfl (lv_at hl 0 rfl) ?_
                                  refine lv_iload_n hx hb qd_L_530 rfl (lv_at hl 3 rfl) ?_
                                  refine lv_iconst (v := 2) hx hb qd_L_531 (by decide) ?_
                                  refine lv_iadd hx hb qd_L_532 ?_
                                  refine va_sld hx hb hX hbl hbA w.2.2 h2 qd_L_533 ?_
                                  obtain ⟨p1, hp1, hM⟩ := qbd hM
                                  refine q_callx F hK hNx hA w (c_X_apart l D u cI hp1) qk_449 qk_450 qk_451 qk_1 qk_452 qv_X_apart rfl rfl (by exact ⟨Nat.le_of_ble_eq_true rfl, Nat.le_of_ble_eq_true rfl⟩) (by exact ⟨Nat.le_of_ble_eq_true rfl, Nat.le_of_ble_eq_true rfl⟩) hl.1 rfl (Nat.le_of_ble_eq_true rfl) qd_L_534 (fun H locs w => ?_)
                                  refine lv_aload_n hx hb qd_L_537 rfl (lv_at hl 2 rfl) ?_
                                  refine lv_aload_n hx hb qd_L_538 rfl (lv_at hl 0 rfl) ?_
                                  refine lv_iload_n hx hb qd_L_539 rfl (lv_at hl 3 rfl) ?_
                                  refine lv_iconst (v := 1) hx hb qd_L_540 (by decide) ?_
                                  refine lv_iadd hx hb qd_L_541 ?_
                                  refine va_sld hx hb hX hbl hbA w.2.2 h1 qd_L_542 ?_
                                  refine lv_aload_n hx hb qd_L_543 rfl (lv_at hl 0 rfl) ?_
                                  refine lv_iload_n hx hb qd_L_544 rfl (lv_at hl 3 rfl) ?_
                                  refine lv_iconst (v := 2) hx hb qd_L_545 (by decide) ?_
                                  refine lv_iadd hx hb qd_L_546 ?_
                                  refine va_sld hx hb hX hbl hbA w.2.2 h2 qd_L_547 ?_
                                  obtain ⟨p2, hp2, hM⟩ := qbd hM
                                  refine q_callm F hK hNm hA w (c_M_apart l D v cI cZ hp2) qk_840 qk_841 qk_842 qk_8 qk_843 qv_M_apart rfl rfl (by exact ⟨Nat.le_of_ble_eq_true rfl, Nat.le_of_ble_eq_true rfl⟩) (by exact ⟨Nat.le_of_ble_eq_true rfl, Nat.le_of_ble_eq_true rfl⟩) hl.1 rfl (Nat.le_of_ble_eq_true rfl) qd_L_548 (fun H locs w => ?_)
                                  refine lv_icmp_eq (tgt := 701) hx hb qd_L_551 (by decide) (fun he => ?_) (fun he => ?_)
                                  · rw [if_pos he] at hM
                                    cases hM
                                    exact tail _ _ w
                                  · rw [if_neg he] at hM
                                    cases hM
                                · rw [if_neg hs13] at hM
                                  by_cases hs14 : (xs x3.toNatClampNeg &&& 31) = 14
                                  · rw [if_pos hs14] at hM
                                    rw [hs14]
                                    refine lv_tableIn (tgt := 556) hx hb qd_L_32 (by decide) (by decide) rfl (by decide) ?_
                                    refine lv_aload_n hx hb qd_L_556 rfl (lv_at hl 1 rfl) ?_
                                    refine lv_aload_n hx hb qd_L_557 rfl (lv_at hl 0 rfl) ?_
                                    refine lv_iload_n hx hb qd_L_558 rfl (lv_at hl 3 rfl) ?_
                                    refine lv_iconst (v := 1) hx hb qd_L_559 (by decide) ?_
                                    refine lv_iadd hx hb qd_L_560 ?_
                                    refine va_sld hx hb hX hbl hbA w.2.2 h1 qd_L_561 ?_
                                    refine lv_aload_n hx hb qd_L_562 rfl (lv_at hl 0 rfl) ?_
                                    refine lv_iload_n hx hb qd_L_563 rfl (lv_at hl 3 rfl) ?_
                                    refine lv_iconst (v := 2) hx hb qd_L_564 (by decide) ?_
                                    refine lv_iadd hx hb qd_L_565 ?_
                                    refine va_sld hx hb hX hbl hbA w.2.2 h2 qd_L_566 ?_
                                    obtain ⟨p1, hp1, hM⟩ := qbd hM
                                    refine q_callx F hK hNx hA w (c_X_is l D u cI hp1) qk_454 qk_455 qk_456 qk_1 qk_457 qv_X_is rfl rfl (by exact ⟨Nat.le_of_ble_eq_true rfl, Nat.le_of_ble_eq_true rfl⟩) (by exact ⟨Nat.le_of_ble_eq_true rfl, Nat.le_of_ble_eq_true rfl⟩) hl.1 rfl (Nat.le_of_ble_eq_true rfl) qd_L_567 (fun H locs w => ?_)
                                    refine lv_aload_n hx hb qd_L_570 rfl (lv_at hl 2 rfl) ?_
                                    refine lv_aload_n hx hb qd_L_571 rfl (lv_at hl 0 rfl) ?_
                                    refine lv_iload_n hx hb qd_L_572 rfl (lv_at hl 3 rfl) ?_
                                    refine lv_iconst (v := 1) hx hb qd_L_573 (by decide) ?_
                                    refine lv_iadd hx hb qd_L_574 ?_
                                    refine va_sld hx hb hX hbl hbA w.2.2 h1 qd_L_575 ?_
                                    refine lv_aload_n hx hb qd_L_576 rfl (lv_at hl 0 rfl) ?_
                                    refine lv_iload_n hx hb qd_L_577 rfl (lv_at hl 3 rfl) ?_
                                    refine lv_iconst (v := 2) hx hb qd_L_578 (by decide) ?_
                                    refine lv_iadd hx hb qd_L_579 ?_
                                    refine va_sld hx hb hX hbl hbA w.2.2 h2 qd_L_580 ?_
                                    obtain ⟨p2, hp2, hM⟩ := qbd hM
                                    refine q_callm F hK hNm hA w (c_M_is l D v cI cZ hp2) qk_856 qk_857 qk_858 qk_8 qk_859 qv_M_is rfl rfl (by exact ⟨Nat.le_of_ble_eq_true rfl, Nat.le_of_ble_eq_true rfl⟩) (by exact ⟨Nat.le_of_ble_eq_true rfl, Nat.le_of_ble_eq_true rfl⟩) hl.1 rfl (Nat.le_of_ble_eq_true rfl) qd_L_581 (fun H locs w => ?_)
                                    refine lv_icmp_eq (tgt := 701) hx hb qd_L_584 (by decide) (fun he => ?_) (fun he => ?_)
                                    · rw [if_pos he] at hM
                                      cases hM
                                      exact tail _ _ w
                                    · rw [if_neg he] at hM
                                      cases hM
                                  · rw [if_neg hs14] at hM
                                    by_cases hs15 : (xs x3.toNatClampNeg &&& 31) = 15
                                    · rw [if_pos hs15] at hM
                                      rw [hs15]
                                      refine lv_tableIn (tgt := 589) hx hb qd_L_32 (by decide) (by decide) rfl (by decide) ?_
                                      refine lv_aload_n hx hb qd_L_589 rfl (lv_at hl 1 rfl) ?_
                                      refine lv_aload_n hx hb qd_L_590 rfl (lv_at hl 0 rfl) ?_
                                      refine lv_iload_n hx hb qd_L_591 rfl (lv_at hl 3 rfl) ?_
                                      refine lv_iconst (v := 1) hx hb qd_L_592 (by decide) ?_
                                      refine lv_iadd hx hb qd_L_593 ?_
                                      refine va_sld hx hb hX hbl hbA w.2.2 h1 qd_L_594 ?_
                                      refine lv_aload_n hx hb qd_L_595 rfl (lv_at hl 0 rfl) ?_
                                      refine lv_iload_n hx hb qd_L_596 rfl (lv_at hl 3 rfl) ?_
                                      refine lv_iconst (v := 2) hx hb qd_L_597 (by decide) ?_
                                      refine lv_iadd hx hb qd_L_598 ?_
                                      refine va_sld hx hb hX hbl hbA w.2.2 h2 qd_L_599 ?_
                                      obtain ⟨p1, hp1, hM⟩ := qbd hM
                                      refine q_callx F hK hNx hA w (c_X_may l D u cI hp1) qk_543 qk_544 qk_545 qk_1 qk_546 qv_X_may rfl rfl (by exact ⟨Nat.le_of_ble_eq_true rfl, Nat.le_of_ble_eq_true rfl⟩) (by exact ⟨Nat.le_of_ble_eq_true rfl, Nat.le_of_ble_eq_true rfl⟩) hl.1 rfl (Nat.le_of_ble_eq_true rfl) qd_L_600 (fun H locs w => ?_)
                                      refine lv_aload_n hx hb qd_L_603 rfl (lv_at hl 2 rfl) ?_
                                      refine lv_aload_n hx hb qd_L_604 rfl (lv_at hl 0 rfl) ?_
                                      refine lv_iload_n hx hb qd_L_605 rfl (lv_at hl 3 rfl) ?_
                                      refine lv_iconst (v := 1) hx hb qd_L_606 (by decide) ?_
                                      refine lv_iadd hx hb qd_L_607 ?_
                                      refine va_sld hx hb hX hbl hbA w.2.2 h1 qd_L_608 ?_
                                      refine lv_aload_n hx hb qd_L_609 rfl (lv_at hl 0 rfl) ?_
                                      refine lv_iload_n hx hb qd_L_610 rfl (lv_at hl 3 rfl) ?_
                                      refine lv_iconst (v := 2) hx hb qd_L_611 (by decide) ?_
                                      refine lv_iadd hx hb qd_L_612 ?_
                                      refine va_sld hx hb hX hbl hbA w.2.2 h2 qd_L_613 ?_
                                      obtain ⟨p2, hp2, hM⟩ := qbd hM
                                      refine q_callm F hK hNm hA w (c_M_may l D v cI cZ hp2) qk_944 qk_945 qk_946 qk_8 qk_947 qv_M_may rfl rfl (by exact ⟨Nat.le_of_ble_eq_true rfl, Nat.le_of_ble_eq_true rfl⟩) (by exact ⟨Nat.le_of_ble_eq_true rfl, Nat.le_of_ble_eq_true rfl⟩) hl.1 rfl (Nat.le_of_ble_eq_true rfl) qd_L_614 (fun H locs w => ?_)
                                      refine lv_icmp_eq (tgt := 701) hx hb qd_L_617 (by decide) (fun he => ?_) (fun he => ?_)
                                      · rw [if_pos he] at hM
                                        cases hM
                                        exact tail _ _ w
                                      · rw [if_neg he] at hM
                                        cases hM
                                    · rw [if_neg hs15] at hM
                                      by_cases hs16 : (xs x3.toNatClampNeg &&& 31) = 16
                                      · rw [if_pos hs16] at hM
                                        rw [hs16]
                                        refine lv_tableIn (tgt := 622) hx hb qd_L_32 (by decide) (by decide) rfl (by decide) ?_
                                        refine lv_aload_n hx hb qd_L_622 rfl (lv_at hl 1 rfl) ?_
                                        refine lv_aload_n hx hb qd_L_623 rfl (lv_at hl 0 rfl) ?_
                                        refine lv_iload_n hx hb qd_L_624 rfl (lv_at hl 3 rfl) ?_
                                        refine lv_iconst (v := 1) hx hb qd_L_625 (by decide) ?_
                                        refine lv_iadd hx hb qd_L_626 ?_
                                        refine va_sld hx hb hX hbl hbA w.2.2 h1 qd_L_627 ?_
                                        refine lv_aload_n hx hb qd_L_628 rfl (lv_at hl 0 rfl) ?_
                                        refine lv_iload_n hx hb qd_L_629 rfl (lv_at hl 3 rfl) ?_
                                        refine lv_iconst (v := 2) hx hb qd_L_630 (by decide) ?_
                                        refine lv_iadd hx hb qd_L_631 ?_
                                        refine va_sld hx hb hX hbl hbA w.2.2 h2 qd_L_632 ?_
                                        obtain ⟨p1, hp1, hM⟩ := qbd hM
                                        refine q_callx F hK hNx hA w (c_X_as l D u cI hp1) qk_605 qk_606 qk_607 qk_1 qk_608 qv_X_as rfl rfl (by exact ⟨Nat.le_of_ble_eq_true rfl, Nat.le_of_ble_eq_true rfl⟩) (by exact ⟨Nat.le_of_ble_eq_true rfl, Nat.le_of_ble_eq_true rfl⟩) hl.1 rfl (Nat.le_of_ble_eq_true rfl) qd_L_633 (fun H locs w => ?_)
                                        refine lv_aload_n hx hb qd_L_636 rfl (lv_at hl 2 rfl) ?_
                                        refine lv_aload_n hx hb qd_L_637 rfl (lv_at hl 0 rfl) ?_
                                        refine lv_iload_n hx hb qd_L_638 rfl (lv_at hl 3 rfl) ?_
                                        refine lv_iconst (v := 1) hx hb qd_L_639 (by decide) ?_
                                        refine lv_iadd hx hb qd_L_640 ?_
                                        refine va_sld hx hb hX hbl hbA w.2.2 h1 qd_L_641 ?_
                                        refine lv_aload_n hx hb qd_L_642 rfl (lv_at hl 0 rfl) ?_
                                        refine lv_iload_n hx hb qd_L_643 rfl (lv_at hl 3 rfl) ?_
                                        refine lv_iconst (v := 2) hx hb qd_L_644 (by decide) ?_
                                        refine lv_iadd hx hb qd_L_645 ?_
                                        refine va_sld hx hb hX hbl hbA w.2.2 h2 qd_L_646 ?_
                                        obtain ⟨p2, hp2, hM⟩ := qbd hM
                                        refine q_callm F hK hNm hA w (c_M_as l D v cI cZ hp2) qk_960 qk_961 qk_962 qk_8 qk_963 qv_M_as rfl rfl (by exact ⟨Nat.le_of_ble_eq_true rfl, Nat.le_of_ble_eq_true rfl⟩) (by exact ⟨Nat.le_of_ble_eq_true rfl, Nat.le_of_ble_eq_true rfl⟩) hl.1 rfl (Nat.le_of_ble_eq_true rfl) qd_L_647 (fun H locs w => ?_)
                                        refine lv_icmp_eq (tgt := 701) hx hb qd_L_650 (by decide) (fun he => ?_) (fun he => ?_)
                                        · rw [if_pos he] at hM
                                          cases hM
                                          exact tail _ _ w
                                        · rw [if_neg he] at hM
                                          cases hM
                                      · rw [if_neg hs16] at hM
                                        by_cases hs17 : (xs x3.toNatClampNeg &&& 31) = 17
                                        · rw [if_pos hs17] at hM
                                          rw [hs17]
                                          refine lv_tableIn (tgt := 655) hx hb qd_L_32 (by decide) (by decide) rfl (by decide) ?_
                                          refine lv_aload_n hx hb qd_L_655 rfl (lv_at hl 1 rfl) ?_
                                          refine lv_aload_n hx hb qd_L_656 rfl (lv_at hl 0 rfl) ?_
                                          refine lv_iload_n hx hb qd_L_657 rfl (lv_at hl 3 rfl) ?_
                                          refine lv_iconst (v := 1) hx hb qd_L_658 (by decide) ?_
                                          refine lv_iadd hx hb qd_L_659 ?_
                                          refine va_sld hx hb hX hbl hbA w.2.2 h1 qd_L_660 ?_
                                          obtain ⟨p1, hp1, hM⟩ := qbd hM
                                          refine q_callx F hK hNx hA w (c_X_erased l D u cI hp1) qk_615 qk_616 qk_617 qk_1 qk_618 qv_X_erased rfl rfl (by exact ⟨Nat.le_of_ble_eq_true rfl, Nat.le_of_ble_eq_true rfl⟩) (by exact ⟨Nat.le_of_ble_eq_true rfl, Nat.le_of_ble_eq_true rfl⟩) hl.1 rfl (Nat.le_of_ble_eq_true rfl) qd_L_661 (fun H locs w => ?_)
                                          refine lv_aload_n hx hb qd_L_664 rfl (lv_at hl 2 rfl) ?_
                                          refine lv_aload_n hx hb qd_L_665 rfl (lv_at hl 0 rfl) ?_
                                          refine lv_iload_n hx hb qd_L_666 rfl (lv_at hl 3 rfl) ?_
                                          refine lv_iconst (v := 1) hx hb qd_L_667 (by decide) ?_
                                          refine lv_iadd hx hb qd_L_668 ?_
                                          refine va_sld hx hb hX hbl hbA w.2.2 h1 qd_L_669 ?_
                                          obtain ⟨p2, hp2, hM⟩ := qbd hM
                                          refine q_callm F hK hNm hA w (c_M_erased l D v cI cZ hp2) qk_968 qk_969 qk_970 qk_8 qk_971 qv_M_erased rfl rfl (by exact ⟨Nat.le_of_ble_eq_true rfl, Nat.le_of_ble_eq_true rfl⟩) (by exact ⟨Nat.le_of_ble_eq_true rfl, Nat.le_of_ble_eq_true rfl⟩) hl.1 rfl (Nat.le_of_ble_eq_true rfl) qd_L_670 (fun H locs w => ?_)
                                          refine lv_icmp_eq (tgt := 701) hx hb qd_L_673 (by decide) (fun he => ?_) (fun he => ?_)
                                          · rw [if_pos he] at hM
                                            cases hM
                                            exact tail _ _ w
                                          · rw [if_neg he] at hM
                                            cases hM
                                        · rw [if_neg hs17] at hM
                                          by_cases hs18 : (xs x3.toNatClampNeg &&& 31) = 18
                                          · rw [if_pos hs18] at hM
                                            rw [hs18]
                                            refine lv_tableIn (tgt := 678) hx hb qd_L_32 (by decide) (by decide) rfl (by decide) ?_
                                            refine lv_aload_n hx hb qd_L_678 rfl (lv_at hl 1 rfl) ?_
                                            refine lv_aload_n hx hb qd_L_679 rfl (lv_at hl 0 rfl) ?_
                                            refine lv_iload_n hx hb qd_L_680 rfl (lv_at hl 3 rfl) ?_
                                            refine lv_iconst (v := 1) hx hb qd_L_681 (by decide) ?_
                                            refine lv_iadd hx hb qd_L_682 ?_
                                            refine va_sld hx hb hX hbl hbA w.2.2 h1 qd_L_683 ?_
                                            obtain ⟨p1, hp1, hM⟩ := qbd hM
                                            refine q_callx F hK hNx hA w (c_X_good l D u cI hp1) qk_620 qk_621 qk_622 qk_1 qk_623 qv_X_good rfl rfl (by exact ⟨Nat.le_of_ble_eq_true rfl, Nat.le_of_ble_eq_true rfl⟩) (by exact ⟨Nat.le_of_ble_eq_true rfl, Nat.le_of_ble_eq_true rfl⟩) hl.1 rfl (Nat.le_of_ble_eq_true rfl) qd_L_684 (fun H locs w => ?_)
                                            refine lv_aload_n hx hb qd_L_687 rfl (lv_at hl 2 rfl) ?_
                                            refine lv_aload_n hx hb qd_L_688 rfl (lv_at hl 0 rfl) ?_
                                            refine lv_iload_n hx hb qd_L_689 rfl (lv_at hl 3 rfl) ?_
                                            refine lv_iconst (v := 1) hx hb qd_L_690 (by decide) ?_
                                            refine lv_iadd hx hb qd_L_691 ?_
                                            refine va_sld hx hb hX hbl hbA w.2.2 h1 qd_L_692 ?_
                                            obtain ⟨p2, hp2, hM⟩ := qbd hM
                                            refine q_callm F hK hNm hA w (c_M_good l D v cI cZ hp2) qk_972 qk_973 qk_974 qk_8 qk_975 qv_M_good rfl rfl (by exact ⟨Nat.le_of_ble_eq_true rfl, Nat.le_of_ble_eq_true rfl⟩) (by exact ⟨Nat.le_of_ble_eq_true rfl, Nat.le_of_ble_eq_true rfl⟩) hl.1 rfl (Nat.le_of_ble_eq_true rfl) qd_L_693 (fun H locs w => ?_)
                                            refine lv_icmp_eq (tgt := 701) hx hb qd_L_696 (by decide) (fun he => ?_) (fun he => ?_)
                                            · rw [if_pos he] at hM
                                              cases hM
                                              exact tail _ _ w
                                            · rw [if_neg he] at hM
                                              cases hM
                                          · rw [if_neg hs18] at hM
                                            cases hM
                                            refine lv_tableOut (tgt := 701) hx hb qd_L_32 (by have z0 := lv_neT hs0 (a := 0) rfl; have z1 := lv_neT hs1 (a := 1) rfl; have z2 := lv_neT hs2 (a := 2) rfl; have z3 := lv_neT hs3 (a := 3) rfl; have z4 := lv_neT hs4 (a := 4) rfl; have z5 := lv_neT hs5 (a := 5) rfl; have z6 := lv_neT hs6 (a := 6) rfl; have z7 := lv_neT hs7 (a := 7) rfl; have z8 := lv_neT hs8 (a := 8) rfl; have z9 := lv_neT hs9 (a := 9) rfl; have z10 := lv_neT hs10 (a := 10) rfl; have z11 := lv_neT hs11 (a := 11) rfl; have z12 := lv_neT hs12 (a := 12) rfl; have z13 := lv_neT hs13 (a := 13) rfl; have z14 := lv_neT hs14 (a := 14) rfl; have z15 := lv_neT hs15 (a := 15) rfl; have z16 := lv_neT hs16 (a := 16) rfl; have z17 := lv_neT hs17 (a := 17) rfl; have z18 := lv_neT hs18 (a := 18) rfl; omega) (by decide) ?_
                                            exact tail _ _ w
