theorem d_Mo_perform_4 : decode b_Mo_perform 4 = .ok (.iadd, 1) := by decide +kernel
theorem d_Mo_perform_5 : decode b_Mo_perform 5 = .ok (.istore 6, 2) := by decide +kernel
theorem d_Mo_perform_7 : decode b_Mo_perform 7 = .ok (.aload_n 0, 1) := by decide +kernel
theorem d_Mo_perform_8 : decode b_Mo_perform 8 = .ok (.getfield 52, 3) := by decide +kernel
theorem d_Mo_perform_11 : decode b_Mo_perform 11 = .ok (.iload_n 1, 1) := by decide +kernel
theorem d_Mo_perform_12 : decode b_Mo_perform 12 = .ok (.iconst 4, 1) := by decide +kernel
theorem d_Mo_perform_13 : decode b_Mo_perform 13 = .ok (.imul, 1) := by decide +kernel
theorem d_Mo_perform_14 : decode b_Mo_perform 14 = .ok (.iload 4, 2) := by decide +kernel
theorem d_Mo_perform_16 : decode b_Mo_perform 16 = .ok (.iadd, 1) := by decide +kernel
theorem d_Mo_perform_17 : decode b_Mo_perform 17 = .ok (.iaload, 1) := by decide +kernel
theorem d_Mo_perform_18 : decode b_Mo_perform 18 = .ok (.istore 7, 2) := by decide +kernel
theorem d_Mo_perform_20 : decode b_Mo_perform 20 = .ok (.iload_n 2, 1) := by decide +kernel
theorem d_Mo_perform_21 : decode b_Mo_perform 21 = .ok (.tableswitch 435 1 21 #[99, 110, 124, 138, 152, 166, 187, 187, 435, 435, 247, 435, 269, 269, 342, 370, 370, 370, 370, 435, 394], 99) := by decide +kernel
theorem d_Mo_perform_120 : decode b_Mo_perform 120 = .ok (.aload_n 0, 1) := by decide +kernel
theorem d_Mo_perform_121 : decode b_Mo_perform 121 = .ok (.getfield 52, 3) := by decide +kernel
theorem d_Mo_perform_124 : decode b_Mo_perform 124 = .ok (.iload 6, 2) := by decide +kernel
theorem d_Mo_perform_126 : decode b_Mo_perform 126 = .ok (.iload 5, 2) := by decide +kernel
theorem d_Mo_perform_128 : decode b_Mo_perform 128 = .ok (.iastore, 1) := by decide +kernel
theorem d_Mo_perform_129 : decode b_Mo_perform 129 = .ok (.iconst 0, 1) := by decide +kernel
theorem d_Mo_perform_130 : decode b_Mo_perform 130 = .ok (.ireturn, 1) := by decide +kernel
theorem d_Mo_perform_131 : decode b_Mo_perform 131 = .ok (.aload_n 0, 1) := by decide +kernel
theorem d_Mo_perform_132 : decode b_Mo_perform 132 = .ok (.getfield 52, 3) := by decide +kernel
theorem d_Mo_perform_135 : decode b_Mo_perform 135 = .ok (.iload 6, 2) := by decide +kernel
theorem d_Mo_perform_137 : decode b_Mo_perform 137 = .ok (.iload 7, 2) := by decide +kernel
theorem d_Mo_perform_139 : decode b_Mo_perform 139 = .ok (.iload 5, 2) := by decide +kernel
theorem d_Mo_perform_141 : decode b_Mo_perform 141 = .ok (.iadd, 1) := by decide +kernel
theorem d_Mo_perform_142 : decode b_Mo_perform 142 = .ok (.iastore, 1) := by decide +kernel
theorem d_Mo_perform_143 : decode b_Mo_perform 143 = .ok (.iconst 0, 1) := by decide +kernel
theorem d_Mo_perform_144 : decode b_Mo_perform 144 = .ok (.ireturn, 1) := by decide +kernel
theorem d_Mo_perform_145 : decode b_Mo_perform 145 = .ok (.aload_n 0, 1) := by decide +kernel
theorem d_Mo_perform_146 : decode b_Mo_perform 146 = .ok (.getfield 52, 3) := by decide +kernel
theorem d_Mo_perform_149 : decode b_Mo_perform 149 = .ok (.iload 6, 2) := by decide +kernel
theorem d_Mo_perform_151 : decode b_Mo_perform 151 = .ok (.dup2, 1) := by decide +kernel
theorem d_Mo_perform_152 : decode b_Mo_perform 152 = .ok (.iaload, 1) := by decide +kernel
theorem d_Mo_perform_153 : decode b_Mo_perform 153 = .ok (.iload 7, 2) := by decide +kernel
theorem d_Mo_perform_155 : decode b_Mo_perform 155 = .ok (.iadd, 1) := by decide +kernel
theorem d_Mo_perform_156 : decode b_Mo_perform 156 = .ok (.iastore, 1) := by decide +kernel
theorem d_Mo_perform_157 : decode b_Mo_perform 157 = .ok (.iconst 0, 1) := by decide +kernel
theorem d_Mo_perform_158 : decode b_Mo_perform 158 = .ok (.ireturn, 1) := by decide +kernel
theorem d_Mo_perform_159 : decode b_Mo_perform 159 = .ok (.aload_n 0, 1) := by decide +kernel
theorem d_Mo_perform_160 : decode b_Mo_perform 160 = .ok (.getfield 52, 3) := by decide +kernel
theorem d_Mo_perform_163 : decode b_Mo_perform 163 = .ok (.iload 6, 2) := by decide +kernel
theorem d_Mo_perform_165 : decode b_Mo_perform 165 = .ok (.dup2, 1) := by decide +kernel
theorem d_Mo_perform_166 : decode b_Mo_perform 166 = .ok (.iaload, 1) := by decide +kernel
theorem d_Mo_perform_167 : decode b_Mo_perform 167 = .ok (.iload 7, 2) := by decide +kernel
theorem d_Mo_perform_169 : decode b_Mo_perform 169 = .ok (.isub, 1) := by decide +kernel
theorem d_Mo_perform_170 : decode b_Mo_perform 170 = .ok (.iastore, 1) := by decide +kernel
theorem d_Mo_perform_171 : decode b_Mo_perform 171 = .ok (.iconst 0, 1) := by decide +kernel
theorem d_Mo_perform_172 : decode b_Mo_perform 172 = .ok (.ireturn, 1) := by decide +kernel
theorem d_Mo_perform_173 : decode b_Mo_perform 173 = .ok (.aload_n 0, 1) := by decide +kernel
theorem d_Mo_perform_174 : decode b_Mo_perform 174 = .ok (.getfield 52, 3) := by decide +kernel
theorem d_Mo_perform_177 : decode b_Mo_perform 177 = .ok (.iload 6, 2) := by decide +kernel
theorem d_Mo_perform_179 : decode b_Mo_perform 179 = .ok (.dup2, 1) := by decide +kernel
theorem d_Mo_perform_180 : decode b_Mo_perform 180 = .ok (.iaload, 1) := by decide +kernel
theorem d_Mo_perform_181 : decode b_Mo_perform 181 = .ok (.iload 7, 2) := by decide +kernel
theorem d_Mo_perform_183 : decode b_Mo_perform 183 = .ok (.imul, 1) := by decide +kernel
theorem d_Mo_perform_184 : decode b_Mo_perform 184 = .ok (.iastore, 1) := by decide +kernel
theorem d_Mo_perform_185 : decode b_Mo_perform 185 = .ok (.iconst 0, 1) := by decide +kernel
theorem d_Mo_perform_186 : decode b_Mo_perform 186 = .ok (.ireturn, 1) := by decide +kernel
theorem d_Mo_perform_187 : decode b_Mo_perform 187 = .ok (.iload 7, 2) := by decide +kernel
theorem d_Mo_perform_189 : decode b_Mo_perform 189 = .ok (.ifCond .ne 5, 3) := by decide +kernel
theorem d_Mo_perform_192 : decode b_Mo_perform 192 = .ok (.iconst 1, 1) := by decide +kernel
theorem d_Mo_perform_193 : decode b_Mo_perform 193 = .ok (.ireturn, 1) := by decide +kernel
theorem d_Mo_perform_194 : decode b_Mo_perform 194 = .ok (.aload_n 0, 1) := by decide +kernel
theorem d_Mo_perform_195 : decode b_Mo_perform 195 = .ok (.getfield 52, 3) := by decide +kernel
theorem d_Mo_perform_198 : decode b_Mo_perform 198 = .ok (.iload 6, 2) := by decide +kernel
theorem d_Mo_perform_200 : decode b_Mo_perform 200 = .ok (.dup2, 1) := by decide +kernel
theorem d_Mo_perform_201 : decode b_Mo_perform 201 = .ok (.iaload, 1) := by decide +kernel
theorem d_Mo_perform_202 : decode b_Mo_perform 202 = .ok (.iload 7, 2) := by decide +kernel
theorem d_Mo_perform_204 : decode b_Mo_perform 204 = .ok (.idiv, 1) := by decide +kernel
theorem d_Mo_perform_205 : decode b_Mo_perform 205 = .ok (.iastore, 1) := by decide +kernel
theorem d_Mo_perform_206 : decode b_Mo_perform 206 = .ok (.iconst 0, 1) := by decide +kernel
theorem d_Mo_perform_207 : decode b_Mo_perform 207 = .ok (.ireturn, 1) := by decide +kernel
theorem d_Mo_perform_208 : decode b_Mo_perform 208 = .ok (.aload_n 0, 1) := by decide +kernel
theorem d_Mo_perform_209 : decode b_Mo_perform 209 = .ok (.iload_n 1, 1) := by decide +kernel
theorem d_Mo_perform_210 : decode b_Mo_perform 210 = .ok (.iload 7, 2) := by decide +kernel
theorem d_Mo_perform_212 : decode b_Mo_perform 212 = .ok (.iload 5, 2) := by decide +kernel
theorem d_Mo_perform_214 : decode b_Mo_perform 214 = .ok (.iadd, 1) := by decide +kernel
theorem d_Mo_perform_215 : decode b_Mo_perform 215 = .ok (.invokevirtual 131, 3) := by decide +kernel
theorem d_Mo_perform_218 : decode b_Mo_perform 218 = .ok (.istore 8, 2) := by decide +kernel
theorem d_Mo_perform_220 : decode b_Mo_perform 220 = .ok (.iload 8, 2) := by decide +kernel
theorem d_Mo_perform_222 : decode b_Mo_perform 222 = .ok (.ifCond .ge 7, 3) := by decide +kernel
theorem d_Mo_perform_225 : decode b_Mo_perform 225 = .ok (.iload 8, 2) := by decide +kernel
theorem d_Mo_perform_227 : decode b_Mo_perform 227 = .ok (.ineg, 1) := by decide +kernel
theorem d_Mo_perform_228 : decode b_Mo_perform 228 = .ok (.ireturn, 1) := by decide +kernel
theorem d_Mo_perform_229 : decode b_Mo_perform 229 = .ok (.iload_n 2, 1) := by decide +kernel
theorem d_Mo_perform_230 : decode b_Mo_perform 230 = .ok (.bipush 7, 2) := by decide +kernel
theorem d_Mo_perform_232 : decode b_Mo_perform 232 = .ok (.if_icmp .ne 20, 3) := by decide +kernel
theorem d_Mo_perform_235 : decode b_Mo_perform 235 = .ok (.aload_n 0, 1) := by decide +kernel
theorem d_Mo_perform_236 : decode b_Mo_perform 236 = .ok (.getfield 52, 3) := by decide +kernel
theorem d_Mo_perform_239 : decode b_Mo_perform 239 = .ok (.iload 6, 2) := by decide +kernel
theorem d_Mo_perform_241 : decode b_Mo_perform 241 = .ok (.aload_n 0, 1) := by decide +kernel
theorem d_Mo_perform_242 : decode b_Mo_perform 242 = .ok (.getfield 58, 3) := by decide +kernel
theorem d_Mo_perform_245 : decode b_Mo_perform 245 = .ok (.iload 8, 2) := by decide +kernel
theorem d_Mo_perform_247 : decode b_Mo_perform 247 = .ok (.iaload, 1) := by decide +kernel
theorem d_Mo_perform_248 : decode b_Mo_perform 248 = .ok (.iastore, 1) := by decide +kernel
theorem d_Mo_perform_249 : decode b_Mo_perform 249 = .ok (.goto 17, 3) := by decide +kernel
theorem d_Mo_perform_252 : decode b_Mo_perform 252 = .ok (.aload_n 0, 1) := by decide +kernel
theorem d_Mo_perform_253 : decode b_Mo_perform 253 = .ok (.getfield 58, 3) := by decide +kernel
theorem d_Mo_perform_256 : decode b_Mo_perform 256 = .ok (.iload 8, 2) := by decide +kernel
theorem d_Mo_perform_258 : decode b_Mo_perform 258 = .ok (.aload_n 0, 1) := by decide +kernel
theorem d_Mo_perform_259 : decode b_Mo_perform 259 = .ok (.getfield 52, 3) := by decide +kernel
theorem d_Mo_perform_262 : decode b_Mo_perform 262 = .ok (.iload 6, 2) := by decide +kernel
theorem d_Mo_perform_264 : decode b_Mo_perform 264 = .ok (.iaload, 1) := by decide +kernel
theorem d_Mo_perform_265 : decode b_Mo_perform 265 = .ok (.iastore, 1) := by decide +kernel
theorem d_Mo_perform_266 : decode b_Mo_perform 266 = .ok (.iconst 0, 1) := by decide +kernel
theorem d_Mo_perform_267 : decode b_Mo_perform 267 = .ok (.ireturn, 1) := by decide +kernel
theorem d_Mo_perform_268 : decode b_Mo_perform 268 = .ok (.aload_n 0, 1) := by decide +kernel
theorem d_Mo_perform_269 : decode b_Mo_perform 269 = .ok (.getfield 28, 3) := by decide +kernel
theorem d_Mo_perform_272 : decode b_Mo_perform 272 = .ok (.iload_n 1, 1) := by decide +kernel
theorem d_Mo_perform_273 : decode b_Mo_perform 273 = .ok (.iload 5, 2) := by decide +kernel
theorem d_Mo_perform_275 : decode b_Mo_perform 275 = .ok (.ifCond .ge 7, 3) := by decide +kernel
theorem d_Mo_perform_278 : decode b_Mo_perform 278 = .ok (.iconst (-1), 1) := by decide +kernel
theorem d_Mo_perform_279 : decode b_Mo_perform 279 = .ok (.goto 8, 3) := by decide +kernel
theorem d_Mo_perform_282 : decode b_Mo_perform 282 = .ok (.iload 5, 2) := by decide +kernel
theorem d_Mo_perform_284 : decode b_Mo_perform 284 = .ok (.bipush 31, 2) := by decide +kernel
theorem d_Mo_perform_286 : decode b_Mo_perform 286 = .ok (.iand, 1) := by decide +kernel
theorem d_Mo_perform_287 : decode b_Mo_perform 287 = .ok (.iastore, 1) := by decide +kernel
theorem d_Mo_perform_288 : decode b_Mo_perform 288 = .ok (.iconst 0, 1) := by decide +kernel
theorem d_Mo_perform_289 : decode b_Mo_perform 289 = .ok (.ireturn, 1) := by decide +kernel
theorem d_Mo_perform_290 : decode b_Mo_perform 290 = .ok (.aload_n 0, 1) := by decide +kernel
theorem d_Mo_perform_291 : decode b_Mo_perform 291 = .ok (.iload 5, 2) := by decide +kernel
theorem d_Mo_perform_293 : decode b_Mo_perform 293 = .ok (.iconst 3, 1) := by decide +kernel
theorem d_Mo_perform_294 : decode b_Mo_perform 294 = .ok (.invokevirtual 102, 3) := by decide +kernel
theorem d_Mo_perform_297 : decode b_Mo_perform 297 = .ok (.ifCond .eq 5, 3) := by decide +kernel
theorem d_Mo_perform_300 : decode b_Mo_perform 300 = .ok (.iconst 4, 1) := by decide +kernel
theorem d_Mo_perform_301 : decode b_Mo_perform 301 = .ok (.ireturn, 1) := by decide +kernel
theorem d_Mo_perform_302 : decode b_Mo_perform 302 = .ok (.aload_n 0, 1) := by decide +kernel
theorem d_Mo_perform_303 : decode b_Mo_perform 303 = .ok (.getfield 55, 3) := by decide +kernel
theorem d_Mo_perform_306 : decode b_Mo_perform 306 = .ok (.iload_n 1, 1) := by decide +kernel
theorem d_Mo_perform_307 : decode b_Mo_perform 307 = .ok (.iconst 4, 1) := by decide +kernel
theorem d_Mo_perform_308 : decode b_Mo_perform 308 = .ok (.imul, 1) := by decide +kernel
theorem d_Mo_perform_309 : decode b_Mo_perform 309 = .ok (.iload 5, 2) := by decide +kernel
theorem d_Mo_perform_311 : decode b_Mo_perform 311 = .ok (.iadd, 1) := by decide +kernel
theorem d_Mo_perform_312 : decode b_Mo_perform 312 = .ok (.iaload, 1) := by decide +kernel
theorem d_Mo_perform_313 : decode b_Mo_perform 313 = .ok (.ifCond .ge 7, 3) := by decide +kernel
theorem d_Mo_perform_316 : decode b_Mo_perform 316 = .ok (.iconst 0, 1) := by decide +kernel
theorem d_Mo_perform_317 : decode b_Mo_perform 317 = .ok (.goto 4, 3) := by decide +kernel
theorem d_Mo_perform_320 : decode b_Mo_perform 320 = .ok (.iconst 1, 1) := by decide +kernel
theorem d_Mo_perform_321 : decode b_Mo_perform 321 = .ok (.istore 9, 2) := by decide +kernel
theorem d_Mo_perform_323 : decode b_Mo_perform 323 = .ok (.iload_n 2, 1) := by decide +kernel
theorem d_Mo_perform_324 : decode b_Mo_perform 324 = .ok (.bipush 14, 2) := by decide +kernel
theorem d_Mo_perform_326 : decode b_Mo_perform 326 = .ok (.if_icmp .ne 10, 3) := by decide +kernel
theorem d_Mo_perform_329 : decode b_Mo_perform 329 = .ok (.aload_n 0, 1) := by decide +kernel
theorem d_Mo_perform_330 : decode b_Mo_perform 330 = .ok (.iload_n 1, 1) := by decide +kernel
theorem d_Mo_perform_331 : decode b_Mo_perform 331 = .ok (.iload 5, 2) := by decide +kernel
theorem d_Mo_perform_333 : decode b_Mo_perform 333 = .ok (.invokevirtual 110, 3) := by decide +kernel
theorem d_Mo_perform_336 : decode b_Mo_perform 336 = .ok (.aload_n 0, 1) := by decide +kernel
theorem d_Mo_perform_337 : decode b_Mo_perform 337 = .ok (.getfield 52, 3) := by decide +kernel
theorem d_Mo_perform_340 : decode b_Mo_perform 340 = .ok (.iload 6, 2) := by decide +kernel
theorem d_Mo_perform_342 : decode b_Mo_perform 342 = .ok (.iload_n 2, 1) := by decide +kernel
theorem d_Mo_perform_343 : decode b_Mo_perform 343 = .ok (.bipush 13, 2) := by decide +kernel
theorem d_Mo_perform_345 : decode b_Mo_perform 345 = .ok (.if_icmp .ne 13, 3) := by decide +kernel
theorem d_Mo_perform_348 : decode b_Mo_perform 348 = .ok (.aload_n 0, 1) := by decide +kernel
theorem d_Mo_perform_349 : decode b_Mo_perform 349 = .ok (.iload_n 1, 1) := by decide +kernel
theorem d_Mo_perform_350 : decode b_Mo_perform 350 = .ok (.iload 5, 2) := by decide +kernel
theorem d_Mo_perform_352 : decode b_Mo_perform 352 = .ok (.invokevirtual 135, 3) := by decide +kernel
theorem d_Mo_perform_355 : decode b_Mo_perform 355 = .ok (.goto 5, 3) := by decide +kernel
theorem d_Mo_perform_358 : decode b_Mo_perform 358 = .ok (.iload 9, 2) := by decide +kernel
theorem d_Mo_perform_360 : decode b_Mo_perform 360 = .ok (.iastore, 1) := by decide +kernel
theorem d_Mo_perform_361 : decode b_Mo_perform 361 = .ok (.iconst 0, 1) := by decide +kernel
theorem d_Mo_perform_362 : decode b_Mo_perform 362 = .ok (.ireturn, 1) := by decide +kernel
theorem d_Mo_perform_363 : decode b_Mo_perform 363 = .ok (.aload_n 0, 1) := by decide +kernel
theorem d_Mo_perform_364 : decode b_Mo_perform 364 = .ok (.getfield 52, 3) := by decide +kernel
theorem d_Mo_perform_367 : decode b_Mo_perform 367 = .ok (.iload 6, 2) := by decide +kernel
theorem d_Mo_perform_369 : decode b_Mo_perform 369 = .ok (.aload_n 0, 1) := by decide +kernel
theorem d_Mo_perform_370 : decode b_Mo_perform 370 = .ok (.iload_n 1, 1) := by decide +kernel
theorem d_Mo_perform_371 : decode b_Mo_perform 371 = .ok (.iload 5, 2) := by decide +kernel
theorem d_Mo_perform_373 : decode b_Mo_perform 373 = .ok (.bipush 31, 2) := by decide +kernel
theorem d_Mo_perform_375 : decode b_Mo_perform 375 = .ok (.iand, 1) := by decide +kernel
theorem d_Mo_perform_376 : decode b_Mo_perform 376 = .ok (.iload 7, 2) := by decide +kernel
theorem d_Mo_perform_378 : decode b_Mo_perform 378 = .ok (.aload_n 0, 1) := by decide +kernel
theorem d_Mo_perform_379 : decode b_Mo_perform 379 = .ok (.getfield 52, 3) := by decide +kernel
theorem d_Mo_perform_382 : decode b_Mo_perform 382 = .ok (.iload 6, 2) := by decide +kernel
theorem d_Mo_perform_384 : decode b_Mo_perform 384 = .ok (.iaload, 1) := by decide +kernel
theorem d_Mo_perform_385 : decode b_Mo_perform 385 = .ok (.invokevirtual 138, 3) := by decide +kernel
theorem d_Mo_perform_388 : decode b_Mo_perform 388 = .ok (.iastore, 1) := by decide +kernel
theorem d_Mo_perform_389 : decode b_Mo_perform 389 = .ok (.iconst 0, 1) := by decide +kernel
theorem d_Mo_perform_390 : decode b_Mo_perform 390 = .ok (.ireturn, 1) := by decide +kernel
theorem d_Mo_perform_391 : decode b_Mo_perform 391 = .ok (.aload_n 0, 1) := by decide +kernel
theorem d_Mo_perform_392 : decode b_Mo_perform 392 = .ok (.iload 5, 2) := by decide +kernel
theorem d_Mo_perform_394 : decode b_Mo_perform 394 = .ok (.iconst 3, 1) := by decide +kernel
theorem d_Mo_perform_395 : decode b_Mo_perform 395 = .ok (.invokevirtual 102, 3) := by decide +kernel
theorem d_Mo_perform_398 : decode b_Mo_perform 398 = .ok (.ifCond .eq 7, 3) := by decide +kernel
theorem d_Mo_perform_401 : decode b_Mo_perform 401 = .ok (.iconst 4, 1) := by decide +kernel
theorem d_Mo_perform_402 : decode b_Mo_perform 402 = .ok (.goto 12, 3) := by decide +kernel
theorem d_Mo_perform_405 : decode b_Mo_perform 405 = .ok (.aload_n 0, 1) := by decide +kernel
theorem d_Mo_perform_406 : decode b_Mo_perform 406 = .ok (.iload_n 1, 1) := by decide +kernel
theorem d_Mo_perform_407 : decode b_Mo_perform 407 = .ok (.iload_n 2, 1) := by decide +kernel
theorem d_Mo_perform_408 : decode b_Mo_perform 408 = .ok (.iload_n 3, 1) := by decide +kernel
theorem d_Mo_perform_409 : decode b_Mo_perform 409 = .ok (.iload 5, 2) := by decide +kernel
theorem d_Mo_perform_411 : decode b_Mo_perform 411 = .ok (.invokevirtual 142, 3) := by decide +kernel
theorem d_Mo_perform_414 : decode b_Mo_perform 414 = .ok (.ireturn, 1) := by decide +kernel
theorem d_Mo_perform_415 : decode b_Mo_perform 415 = .ok (.aload_n 0, 1) := by decide +kernel
theorem d_Mo_perform_416 : decode b_Mo_perform 416 = .ok (.iload_n 1, 1) := by decide +kernel
theorem d_Mo_perform_417 : decode b_Mo_perform 417 = .ok (.invokevirtual 145, 3) := by decide +kernel
theorem d_Mo_perform_420 : decode b_Mo_perform 420 = .ok (.istore 10, 2) := by decide +kernel
theorem d_Mo_perform_422 : decode b_Mo_perform 422 = .ok (.aload_n 0, 1) := by decide +kernel
theorem d_Mo_perform_423 : decode b_Mo_perform 423 = .ok (.getfield 52, 3) := by decide +kernel
theorem d_Mo_perform_426 : decode b_Mo_perform 426 = .ok (.iload 6, 2) := by decide +kernel
theorem d_Mo_perform_428 : decode b_Mo_perform 428 = .ok (.iload 10, 2) := by decide +kernel
theorem d_Mo_perform_430 : decode b_Mo_perform 430 = .ok (.iastore, 1) := by decide +kernel
theorem d_Mo_perform_431 : decode b_Mo_perform 431 = .ok (.iload 10, 2) := by decide +kernel
theorem d_Mo_perform_433 : decode b_Mo_perform 433 = .ok (.ifCond .lt 21, 3) := by decide +kernel
theorem d_Mo_perform_436 : decode b_Mo_perform 436 = .ok (.aload_n 0, 1) := by decide +kernel
theorem d_Mo_perform_437 : decode b_Mo_perform 437 = .ok (.getfield 52, 3) := by decide +kernel
theorem d_Mo_perform_440 : decode b_Mo_perform 440 = .ok (.iload_n 1, 1) := by decide +kernel
theorem d_Mo_perform_441 : decode b_Mo_perform 441 = .ok (.iconst 4, 1) := by decide +kernel
theorem d_Mo_perform_442 : decode b_Mo_perform 442 = .ok (.imul, 1) := by decide +kernel
theorem d_Mo_perform_443 : decode b_Mo_perform 443 = .ok (.iload 4, 2) := by decide +kernel
theorem d_Mo_perform_445 : decode b_Mo_perform 445 = .ok (.iadd, 1) := by decide +kernel
theorem d_Mo_perform_446 : decode b_Mo_perform 446 = .ok (.aload_n 0, 1) := by decide +kernel
theorem d_Mo_perform_447 : decode b_Mo_perform 447 = .ok (.getfield 43, 3) := by decide +kernel
theorem d_Mo_perform_450 : decode b_Mo_perform 450 = .ok (.iload 10, 2) := by decide +kernel
theorem d_Mo_perform_452 : decode b_Mo_perform 452 = .ok (.iaload, 1) := by decide +kernel
theorem d_Mo_perform_453 : decode b_Mo_perform 453 = .ok (.iastore, 1) := by decide +kernel
theorem d_Mo_perform_454 : decode b_Mo_perform 454 = .ok (.iconst 0, 1) := by decide +kernel
theorem d_Mo_perform_455 : decode b_Mo_perform 455 = .ok (.ireturn, 1) := by decide +kernel
theorem d_Mo_perform_456 : decode b_Mo_perform 456 = .ok (.iconst 0, 1) := by decide +kernel
theorem d_Mo_perform_457 : decode b_Mo_perform 457 = .ok (.ireturn, 1) := by decide +kernel
theorem d_Mo_share_0 : decode b_Mo_share 0 = .ok (.iload_n 2, 1) := by decide +kernel
theorem d_Mo_share_1 : decode b_Mo_share 1 = .ok (.bipush 16, 2) := by decide +kernel
theorem d_Mo_share_3 : decode b_Mo_share 3 = .ok (.if_icmp .ne 23, 3) := by decide +kernel
theorem d_Mo_share_6 : decode b_Mo_share 6 = .ok (.aload_n 0, 1) := by decide +kernel
theorem d_Mo_share_7 : decode b_Mo_share 7 = .ok (.iload_n 1, 1) := by decide +kernel
theorem d_Mo_share_8 : decode b_Mo_share 8 = .ok (.iload 4, 2) := by decide +kernel
theorem d_Mo_share_10 : decode b_Mo_share 10 = .ok (.aload_n 0, 1) := by decide +kernel
theorem d_Mo_share_11 : decode b_Mo_share 11 = .ok (.getfield 52, 3) := by decide +kernel
theorem d_Mo_share_14 : decode b_Mo_share 14 = .ok (.iload_n 1, 1) := by decide +kernel
theorem d_Mo_share_15 : decode b_Mo_share 15 = .ok (.iconst 4, 1) := by decide +kernel
theorem d_Mo_share_16 : decode b_Mo_share 16 = .ok (.imul, 1) := by decide +kernel
theorem d_Mo_share_17 : decode b_Mo_share 17 = .ok (.iload_n 3, 1) := by decide +kernel
theorem d_Mo_share_18 : decode b_Mo_share 18 = .ok (.iadd, 1) := by decide +kernel
theorem d_Mo_share_19 : decode b_Mo_share 19 = .ok (.iaload, 1) := by decide +kernel
theorem d_Mo_share_20 : decode b_Mo_share 20 = .ok (.invokevirtual 148, 3) := by decide +kernel
theorem d_Mo_share_23 : decode b_Mo_share 23 = .ok (.goto 79, 3) := by decide +kernel
theorem d_Mo_share_26 : decode b_Mo_share 26 = .ok (.iload_n 2, 1) := by decide +kernel
theorem d_Mo_share_27 : decode b_Mo_share 27 = .ok (.bipush 17, 2) := by decide +kernel
theorem d_Mo_share_29 : decode b_Mo_share 29 = .ok (.if_icmp .ne 14, 3) := by decide +kernel
theorem d_Mo_share_32 : decode b_Mo_share 32 = .ok (.aload_n 0, 1) := by decide +kernel
theorem d_Mo_share_33 : decode b_Mo_share 33 = .ok (.iload_n 1, 1) := by decide +kernel
theorem d_Mo_share_34 : decode b_Mo_share 34 = .ok (.iload 4, 2) := by decide +kernel
theorem d_Mo_share_36 : decode b_Mo_share 36 = .ok (.iload_n 3, 1) := by decide +kernel
theorem d_Mo_share_37 : decode b_Mo_share 37 = .ok (.invokevirtual 152, 3) := by decide +kernel
theorem d_Mo_share_40 : decode b_Mo_share 40 = .ok (.goto 62, 3) := by decide +kernel
theorem d_Mo_share_43 : decode b_Mo_share 43 = .ok (.iload_n 2, 1) := by decide +kernel
theorem d_Mo_share_44 : decode b_Mo_share 44 = .ok (.bipush 19, 2) := by decide +kernel
theorem d_Mo_share_46 : decode b_Mo_share 46 = .ok (.if_icmp .ne 25, 3) := by decide +kernel
theorem d_Mo_share_49 : decode b_Mo_share 49 = .ok (.aload_n 0, 1) := by decide +kernel
theorem d_Mo_share_50 : decode b_Mo_share 50 = .ok (.getfield 77, 3) := by decide +kernel
theorem d_Mo_share_53 : decode b_Mo_share 53 = .ok (.iload 4, 2) := by decide +kernel
theorem d_Mo_share_55 : decode b_Mo_share 55 = .ok (.iaload, 1) := by decide +kernel
theorem d_Mo_share_56 : decode b_Mo_share 56 = .ok (.iload_n 1, 1) := by decide +kernel
theorem d_Mo_share_57 : decode b_Mo_share 57 = .ok (.if_icmp .eq 5, 3) := by decide +kernel
theorem d_Mo_share_60 : decode b_Mo_share 60 = .ok (.iconst 5, 1) := by decide +kernel
theorem d_Mo_share_61 : decode b_Mo_share 61 = .ok (.ireturn, 1) := by decide +kernel
theorem d_Mo_share_62 : decode b_Mo_share 62 = .ok (.aload_n 0, 1) := by decide +kernel
theorem d_Mo_share_63 : decode b_Mo_share 63 = .ok (.iload 4, 2) := by decide +kernel
theorem d_Mo_share_65 : decode b_Mo_share 65 = .ok (.invokevirtual 113, 3) := by decide +kernel
theorem d_Mo_share_68 : decode b_Mo_share 68 = .ok (.goto 34, 3) := by decide +kernel
theorem d_Mo_share_71 : decode b_Mo_share 71 = .ok (.aload_n 0, 1) := by decide +kernel
theorem d_Mo_share_72 : decode b_Mo_share 72 = .ok (.getfield 77, 3) := by decide +kernel
theorem d_Mo_share_75 : decode b_Mo_share 75 = .ok (.iload 4, 2) := by decide +kernel
theorem d_Mo_share_77 : decode b_Mo_share 77 = .ok (.iaload, 1) := by decide +kernel
theorem d_Mo_share_78 : decode b_Mo_share 78 = .ok (.ifCond .ge 14, 3) := by decide +kernel
theorem d_Mo_share_81 : decode b_Mo_share 81 = .ok (.aload_n 0, 1) := by decide +kernel
theorem d_Mo_share_82 : decode b_Mo_share 82 = .ok (.getfield 77, 3) := by decide +kernel
theorem d_Mo_share_85 : decode b_Mo_share 85 = .ok (.iload 4, 2) := by decide +kernel
theorem d_Mo_share_87 : decode b_Mo_share 87 = .ok (.iload_n 1, 1) := by decide +kernel
theorem d_Mo_share_88 : decode b_Mo_share 88 = .ok (.iastore, 1) := by decide +kernel
theorem d_Mo_share_89 : decode b_Mo_share 89 = .ok (.goto 13, 3) := by decide +kernel
theorem d_Mo_share_92 : decode b_Mo_share 92 = .ok (.aload_n 0, 1) := by decide +kernel
theorem d_Mo_share_93 : decode b_Mo_share 93 = .ok (.iload_n 1, 1) := by decide +kernel
theorem d_Mo_share_94 : decode b_Mo_share 94 = .ok (.bipush 10, 2) := by decide +kernel
theorem d_Mo_share_96 : decode b_Mo_share 96 = .ok (.iload 4, 2) := by decide +kernel
theorem d_Mo_share_98 : decode b_Mo_share 98 = .ok (.iadd, 1) := by decide +kernel
theorem d_Mo_share_99 : decode b_Mo_share 99 = .ok (.invokevirtual 128, 3) := by decide +kernel
theorem d_Mo_share_102 : decode b_Mo_share 102 = .ok (.iconst 0, 1) := by decide +kernel
theorem d_Mo_share_103 : decode b_Mo_share 103 = .ok (.ireturn, 1) := by decide +kernel
theorem d_Mo_step_0 : decode b_Mo_step 0 = .ok (.aload_n 0, 1) := by decide +kernel
theorem d_Mo_step_1 : decode b_Mo_step 1 = .ok (.getfield 80, 3) := by decide +kernel
theorem d_Mo_step_4 : decode b_Mo_step 4 = .ok (.iload_n 1, 1) := by decide +kernel
theorem d_Mo_step_5 : decode b_Mo_step 5 = .ok (.iaload, 1) := by decide +kernel
theorem d_Mo_step_6 : decode b_Mo_step 6 = .ok (.istore_n 2, 1) := by decide +kernel
theorem d_Mo_step_7 : decode b_Mo_step 7 = .ok (.aload_n 0, 1) := by decide +kernel
theorem d_Mo_step_8 : decode b_Mo_step 8 = .ok (.getfield 25, 3) := by decide +kernel
theorem d_Mo_step_11 : decode b_Mo_step 11 = .ok (.iload_n 2, 1) := by decide +kernel
theorem d_Mo_step_12 : decode b_Mo_step 12 = .ok (.iaload, 1) := by decide +kernel
theorem d_Mo_step_13 : decode b_Mo_step 13 = .ok (.istore_n 3, 1) := by decide +kernel
theorem d_Mo_step_14 : decode b_Mo_step 14 = .ok (.aload_n 0, 1) := by decide +kernel
theorem d_Mo_step_15 : decode b_Mo_step 15 = .ok (.getfield 7, 3) := by decide +kernel
theorem d_Mo_step_18 : decode b_Mo_step 18 = .ok (.iload_n 3, 1) := by decide +kernel
theorem d_Mo_step_19 : decode b_Mo_step 19 = .ok (.iaload, 1) := by decide +kernel
theorem d_Mo_step_20 : decode b_Mo_step 20 = .ok (.istore 4, 2) := by decide +kernel
theorem d_Mo_step_22 : decode b_Mo_step 22 = .ok (.aload_n 0, 1) := by decide +kernel
theorem d_Mo_step_23 : decode b_Mo_step 23 = .ok (.dup, 1) := by decide +kernel
theorem d_Mo_step_24 : decode b_Mo_step 24 = .ok (.getfield 155, 3) := by decide +kernel
theorem d_Mo_step_27 : decode b_Mo_step 27 = .ok (.iconst 1, 1) := by decide +kernel
theorem d_Mo_step_28 : decode b_Mo_step 28 = .ok (.iadd, 1) := by decide +kernel
theorem d_Mo_step_29 : decode b_Mo_step 29 = .ok (.putfield 155, 3) := by decide +kernel
theorem d_Mo_step_32 : decode b_Mo_step 32 = .ok (.aload_n 0, 1) := by decide +kernel
theorem d_Mo_step_33 : decode b_Mo_step 33 = .ok (.getfield 83, 3) := by decide +kernel
theorem d_Mo_step_36 : decode b_Mo_step 36 = .ok (.iload_n 1, 1) := by decide +kernel
theorem d_Mo_step_37 : decode b_Mo_step 37 = .ok (.dup2, 1) := by decide +kernel
theorem d_Mo_step_38 : decode b_Mo_step 38 = .ok (.iaload, 1) := by decide +kernel
theorem d_Mo_step_39 : decode b_Mo_step 39 = .ok (.iconst 1, 1) := by decide +kernel
theorem d_Mo_step_40 : decode b_Mo_step 40 = .ok (.isub, 1) := by decide +kernel
theorem d_Mo_step_41 : decode b_Mo_step 41 = .ok (.iastore, 1) := by decide +kernel
theorem d_Mo_step_42 : decode b_Mo_step 42 = .ok (.iload 4, 2) := by decide +kernel
theorem d_Mo_step_44 : decode b_Mo_step 44 = .ok (.ifCond .eq 10, 3) := by decide +kernel
theorem d_Mo_step_47 : decode b_Mo_step 47 = .ok (.iload 4, 2) := by decide +kernel
theorem d_Mo_step_49 : decode b_Mo_step 49 = .ok (.bipush 20, 2) := by decide +kernel
theorem d_Mo_step_51 : decode b_Mo_step 51 = .ok (.if_icmp .ne 47, 3) := by decide +kernel
theorem d_Mo_step_54 : decode b_Mo_step 54 = .ok (.aload_n 0, 1) := by decide +kernel
theorem d_Mo_step_55 : decode b_Mo_step 55 = .ok (.getfield 25, 3) := by decide +kernel
theorem d_Mo_step_58 : decode b_Mo_step 58 = .ok (.iload_n 2, 1) := by decide +kernel
theorem d_Mo_step_59 : decode b_Mo_step 59 = .ok (.iload_n 3, 1) := by decide +kernel
theorem d_Mo_step_60 : decode b_Mo_step 60 = .ok (.iconst 1, 1) := by decide +kernel
theorem d_Mo_step_61 : decode b_Mo_step 61 = .ok (.iadd, 1) := by decide +kernel
theorem d_Mo_step_62 : decode b_Mo_step 62 = .ok (.bipush 31, 2) := by decide +kernel
theorem d_Mo_step_64 : decode b_Mo_step 64 = .ok (.iand, 1) := by decide +kernel
theorem d_Mo_step_65 : decode b_Mo_step 65 = .ok (.iastore, 1) := by decide +kernel
theorem d_Mo_step_66 : decode b_Mo_step 66 = .ok (.aload_n 0, 1) := by decide +kernel
theorem d_Mo_step_67 : decode b_Mo_step 67 = .ok (.iload_n 2, 1) := by decide +kernel
theorem d_Mo_step_68 : decode b_Mo_step 68 = .ok (.iload 4, 2) := by decide +kernel
theorem d_Mo_step_70 : decode b_Mo_step 70 = .ok (.ifCond .ne 7, 3) := by decide +kernel
theorem d_Mo_step_73 : decode b_Mo_step 73 = .ok (.iconst 0, 1) := by decide +kernel
theorem d_Mo_step_74 : decode b_Mo_step 74 = .ok (.goto 18, 3) := by decide +kernel
theorem d_Mo_step_77 : decode b_Mo_step 77 = .ok (.aload_n 0, 1) := by decide +kernel
theorem d_Mo_step_78 : decode b_Mo_step 78 = .ok (.getfield 52, 3) := by decide +kernel
theorem d_Mo_step_81 : decode b_Mo_step 81 = .ok (.iload_n 2, 1) := by decide +kernel
theorem d_Mo_step_82 : decode b_Mo_step 82 = .ok (.iconst 4, 1) := by decide +kernel
theorem d_Mo_step_83 : decode b_Mo_step 83 = .ok (.imul, 1) := by decide +kernel
theorem d_Mo_step_84 : decode b_Mo_step 84 = .ok (.aload_n 0, 1) := by decide +kernel
theorem d_Mo_step_85 : decode b_Mo_step 85 = .ok (.getfield 13, 3) := by decide +kernel
theorem d_Mo_step_88 : decode b_Mo_step 88 = .ok (.iload_n 3, 1) := by decide +kernel
theorem d_Mo_step_89 : decode b_Mo_step 89 = .ok (.iaload, 1) := by decide +kernel
theorem d_Mo_step_90 : decode b_Mo_step 90 = .ok (.iadd, 1) := by decide +kernel
theorem d_Mo_step_91 : decode b_Mo_step 91 = .ok (.iaload, 1) := by decide +kernel
theorem d_Mo_step_92 : decode b_Mo_step 92 = .ok (.invokevirtual 119, 3) := by decide +kernel
theorem d_Mo_step_95 : decode b_Mo_step 95 = .ok (.goto 146, 3) := by decide +kernel
theorem d_Mo_step_98 : decode b_Mo_step 98 = .ok (.iload 4, 2) := by decide +kernel
theorem d_Mo_step_100 : decode b_Mo_step 100 = .ok (.bipush 9, 2) := by decide +kernel
theorem d_Mo_step_102 : decode b_Mo_step 102 = .ok (.if_icmp .ne 36, 3) := by decide +kernel
theorem d_Mo_step_105 : decode b_Mo_step 105 = .ok (.aload_n 0, 1) := by decide +kernel
theorem d_Mo_step_106 : decode b_Mo_step 106 = .ok (.getfield 52, 3) := by decide +kernel
theorem d_Mo_step_109 : decode b_Mo_step 109 = .ok (.iload_n 2, 1) := by decide +kernel
theorem d_Mo_step_110 : decode b_Mo_step 110 = .ok (.iconst 4, 1) := by decide +kernel
theorem d_Mo_step_111 : decode b_Mo_step 111 = .ok (.imul, 1) := by decide +kernel
theorem d_Mo_step_112 : decode b_Mo_step 112 = .ok (.aload_n 0, 1) := by decide +kernel
theorem d_Mo_step_113 : decode b_Mo_step 113 = .ok (.getfield 13, 3) := by decide +kernel
theorem d_Mo_step_116 : decode b_Mo_step 116 = .ok (.iload_n 3, 1) := by decide +kernel
theorem d_Mo_step_117 : decode b_Mo_step 117 = .ok (.iaload, 1) := by decide +kernel
theorem d_Mo_step_118 : decode b_Mo_step 118 = .ok (.iadd, 1) := by decide +kernel
theorem d_Mo_step_119 : decode b_Mo_step 119 = .ok (.iaload, 1) := by decide +kernel
theorem d_Mo_step_120 : decode b_Mo_step 120 = .ok (.aload_n 0, 1) := by decide +kernel
theorem d_Mo_step_121 : decode b_Mo_step 121 = .ok (.getfield 52, 3) := by decide +kernel
theorem d_Mo_step_124 : decode b_Mo_step 124 = .ok (.iload_n 2, 1) := by decide +kernel
theorem d_Mo_step_125 : decode b_Mo_step 125 = .ok (.iconst 4, 1) := by decide +kernel
theorem d_Mo_step_126 : decode b_Mo_step 126 = .ok (.imul, 1) := by decide +kernel
theorem d_Mo_step_127 : decode b_Mo_step 127 = .ok (.aload_n 0, 1) := by decide +kernel
theorem d_Mo_step_128 : decode b_Mo_step 128 = .ok (.getfield 16, 3) := by decide +kernel
theorem d_Mo_step_131 : decode b_Mo_step 131 = .ok (.iload_n 3, 1) := by decide +kernel
theorem d_Mo_step_132 : decode b_Mo_step 132 = .ok (.iaload, 1) := by decide +kernel
theorem d_Mo_step_133 : decode b_Mo_step 133 = .ok (.iadd, 1) := by decide +kernel
theorem d_Mo_step_134 : decode b_Mo_step 134 = .ok (.iaload, 1) := by decide +kernel
theorem d_Mo_step_135 : decode b_Mo_step 135 = .ok (.if_icmp .lt 28, 3) := by decide +kernel
theorem d_Mo_step_138 : decode b_Mo_step 138 = .ok (.iload 4, 2) := by decide +kernel
theorem d_Mo_step_140 : decode b_Mo_step 140 = .ok (.bipush 10, 2) := by decide +kernel
theorem d_Mo_step_142 : decode b_Mo_step 142 = .ok (.if_icmp .ne 25, 3) := by decide +kernel
theorem d_Mo_step_145 : decode b_Mo_step 145 = .ok (.aload_n 0, 1) := by decide +kernel
theorem d_Mo_step_146 : decode b_Mo_step 146 = .ok (.getfield 52, 3) := by decide +kernel
theorem d_Mo_step_149 : decode b_Mo_step 149 = .ok (.iload_n 2, 1) := by decide +kernel
theorem d_Mo_step_150 : decode b_Mo_step 150 = .ok (.iconst 4, 1) := by decide +kernel
theorem d_Mo_step_151 : decode b_Mo_step 151 = .ok (.imul, 1) := by decide +kernel
theorem d_Mo_step_152 : decode b_Mo_step 152 = .ok (.aload_n 0, 1) := by decide +kernel
theorem d_Mo_step_153 : decode b_Mo_step 153 = .ok (.getfield 13, 3) := by decide +kernel
theorem d_Mo_step_156 : decode b_Mo_step 156 = .ok (.iload_n 3, 1) := by decide +kernel
theorem d_Mo_step_157 : decode b_Mo_step 157 = .ok (.iaload, 1) := by decide +kernel
theorem d_Mo_step_158 : decode b_Mo_step 158 = .ok (.iadd, 1) := by decide +kernel
theorem d_Mo_step_159 : decode b_Mo_step 159 = .ok (.iaload, 1) := by decide +kernel
theorem d_Mo_step_160 : decode b_Mo_step 160 = .ok (.ifCond .ne 7, 3) := by decide +kernel
theorem d_Mo_step_163 : decode b_Mo_step 163 = .ok (.iconst 1, 1) := by decide +kernel
theorem d_Mo_step_164 : decode b_Mo_step 164 = .ok (.goto 4, 3) := by decide +kernel
theorem d_Mo_step_167 : decode b_Mo_step 167 = .ok (.iconst 0, 1) := by decide +kernel
theorem d_Mo_step_168 : decode b_Mo_step 168 = .ok (.istore 5, 2) := by decide +kernel
theorem d_Mo_step_170 : decode b_Mo_step 170 = .ok (.aload_n 0, 1) := by decide +kernel
theorem d_Mo_step_171 : decode b_Mo_step 171 = .ok (.iload_n 2, 1) := by decide +kernel
theorem d_Mo_step_172 : decode b_Mo_step 172 = .ok (.iload 4, 2) := by decide +kernel
theorem d_Mo_step_174 : decode b_Mo_step 174 = .ok (.aload_n 0, 1) := by decide +kernel
theorem d_Mo_step_175 : decode b_Mo_step 175 = .ok (.getfield 13, 3) := by decide +kernel
theorem d_Mo_step_178 : decode b_Mo_step 178 = .ok (.iload_n 3, 1) := by decide +kernel
theorem d_Mo_step_179 : decode b_Mo_step 179 = .ok (.iaload, 1) := by decide +kernel
theorem d_Mo_step_180 : decode b_Mo_step 180 = .ok (.aload_n 0, 1) := by decide +kernel
theorem d_Mo_step_181 : decode b_Mo_step 181 = .ok (.getfield 16, 3) := by decide +kernel
theorem d_Mo_step_184 : decode b_Mo_step 184 = .ok (.iload_n 3, 1) := by decide +kernel
theorem d_Mo_step_185 : decode b_Mo_step 185 = .ok (.iaload, 1) := by decide +kernel
theorem d_Mo_step_186 : decode b_Mo_step 186 = .ok (.aload_n 0, 1) := by decide +kernel
theorem d_Mo_step_187 : decode b_Mo_step 187 = .ok (.getfield 19, 3) := by decide +kernel
theorem d_Mo_step_190 : decode b_Mo_step 190 = .ok (.iload_n 3, 1) := by decide +kernel
theorem d_Mo_step_191 : decode b_Mo_step 191 = .ok (.iaload, 1) := by decide +kernel
theorem d_Mo_step_192 : decode b_Mo_step 192 = .ok (.invokevirtual 158, 3) := by decide +kernel
theorem d_Mo_step_195 : decode b_Mo_step 195 = .ok (.istore 6, 2) := by decide +kernel
theorem d_Mo_step_197 : decode b_Mo_step 197 = .ok (.iload 6, 2) := by decide +kernel
theorem d_Mo_step_199 : decode b_Mo_step 199 = .ok (.ifCond .eq 13, 3) := by decide +kernel
theorem d_Mo_step_202 : decode b_Mo_step 202 = .ok (.aload_n 0, 1) := by decide +kernel
theorem d_Mo_step_203 : decode b_Mo_step 203 = .ok (.iload_n 2, 1) := by decide +kernel
theorem d_Mo_step_204 : decode b_Mo_step 204 = .ok (.iload 6, 2) := by decide +kernel
theorem d_Mo_step_206 : decode b_Mo_step 206 = .ok (.invokevirtual 162, 3) := by decide +kernel
theorem d_Mo_step_209 : decode b_Mo_step 209 = .ok (.goto 32, 3) := by decide +kernel
theorem d_Mo_step_212 : decode b_Mo_step 212 = .ok (.aload_n 0, 1) := by decide +kernel
theorem d_Mo_step_213 : decode b_Mo_step 213 = .ok (.getfield 25, 3) := by decide +kernel
theorem d_Mo_step_216 : decode b_Mo_step 216 = .ok (.iload_n 2, 1) := by decide +kernel
theorem d_Mo_step_217 : decode b_Mo_step 217 = .ok (.iload 5, 2) := by decide +kernel
theorem d_Mo_step_219 : decode b_Mo_step 219 = .ok (.ifCond .eq 15, 3) := by decide +kernel
theorem d_Mo_step_222 : decode b_Mo_step 222 = .ok (.aload_n 0, 1) := by decide +kernel
theorem d_Mo_step_223 : decode b_Mo_step 223 = .ok (.getfield 19, 3) := by decide +kernel
theorem d_Mo_step_226 : decode b_Mo_step 226 = .ok (.iload_n 3, 1) := by decide +kernel
theorem d_Mo_step_227 : decode b_Mo_step 227 = .ok (.iaload, 1) := by decide +kernel
theorem d_Mo_step_228 : decode b_Mo_step 228 = .ok (.bipush 31, 2) := by decide +kernel
theorem d_Mo_step_230 : decode b_Mo_step 230 = .ok (.iand, 1) := by decide +kernel
theorem d_Mo_step_231 : decode b_Mo_step 231 = .ok (.goto 9, 3) := by decide +kernel
theorem d_Mo_step_234 : decode b_Mo_step 234 = .ok (.iload_n 3, 1) := by decide +kernel
theorem d_Mo_step_235 : decode b_Mo_step 235 = .ok (.iconst 1, 1) := by decide +kernel
theorem d_Mo_step_236 : decode b_Mo_step 236 = .ok (.iadd, 1) := by decide +kernel
theorem d_Mo_step_237 : decode b_Mo_step 237 = .ok (.bipush 31, 2) := by decide +kernel
theorem d_Mo_step_239 : decode b_Mo_step 239 = .ok (.iand, 1) := by decide +kernel
theorem d_Mo_step_240 : decode b_Mo_step 240 = .ok (.iastore, 1) := by decide +kernel
theorem d_Mo_step_241 : decode b_Mo_step 241 = .ok (.aload_n 0, 1) := by decide +kernel
theorem d_Mo_step_242 : decode b_Mo_step 242 = .ok (.getfield 22, 3) := by decide +kernel
theorem d_Mo_step_245 : decode b_Mo_step 245 = .ok (.iload_n 2, 1) := by decide +kernel
theorem d_Mo_step_246 : decode b_Mo_step 246 = .ok (.iaload, 1) := by decide +kernel
theorem d_Mo_step_247 : decode b_Mo_step 247 = .ok (.iconst 1, 1) := by decide +kernel
theorem d_Mo_step_248 : decode b_Mo_step 248 = .ok (.if_icmp .ne 20, 3) := by decide +kernel
theorem d_Mo_step_251 : decode b_Mo_step 251 = .ok (.aload_n 0, 1) := by decide +kernel
theorem d_Mo_step_252 : decode b_Mo_step 252 = .ok (.getfield 83, 3) := by decide +kernel
theorem d_Mo_step_255 : decode b_Mo_step 255 = .ok (.iload_n 1, 1) := by decide +kernel
theorem d_Mo_step_256 : decode b_Mo_step 256 = .ok (.iaload, 1) := by decide +kernel
theorem d_Mo_step_257 : decode b_Mo_step 257 = .ok (.ifCond .le 11, 3) := by decide +kernel
theorem d_Mo_step_260 : decode b_Mo_step 260 = .ok (.iload 4, 2) := by decide +kernel
theorem d_Mo_step_262 : decode b_Mo_step 262 = .ok (.bipush 12, 2) := by decide +kernel
theorem d_Mo_step_264 : decode b_Mo_step 264 = .ok (.if_icmp .eq 4, 3) := by decide +kernel
theorem d_Mo_step_267 : decode b_Mo_step 267 = .ok (.return_, 1) := by decide +kernel
theorem d_Mo_step_268 : decode b_Mo_step 268 = .ok (.aload_n 0, 1) := by decide +kernel
theorem d_Mo_step_269 : decode b_Mo_step 269 = .ok (.getfield 80, 3) := by decide +kernel
theorem d_Mo_step_272 : decode b_Mo_step 272 = .ok (.iload_n 1, 1) := by decide +kernel
theorem d_Mo_step_273 : decode b_Mo_step 273 = .ok (.iconst (-1), 1) := by decide +kernel
theorem d_Mo_step_274 : decode b_Mo_step 274 = .ok (.iastore, 1) := by decide +kernel
theorem d_Mo_step_275 : decode b_Mo_step 275 = .ok (.aload_n 0, 1) := by decide +kernel
theorem d_Mo_step_276 : decode b_Mo_step 276 = .ok (.getfield 22, 3) := by decide +kernel
theorem d_Mo_step_279 : decode b_Mo_step 279 = .ok (.iload_n 2, 1) := by decide +kernel
theorem d_Mo_step_280 : decode b_Mo_step 280 = .ok (.iaload, 1) := by decide +kernel
theorem d_Mo_step_281 : decode b_Mo_step 281 = .ok (.iconst 1, 1) := by decide +kernel
theorem d_Mo_step_282 : decode b_Mo_step 282 = .ok (.if_icmp .ne 8, 3) := by decide +kernel
theorem d_Mo_step_285 : decode b_Mo_step 285 = .ok (.aload_n 0, 1) := by decide +kernel
theorem d_Mo_step_286 : decode b_Mo_step 286 = .ok (.iload_n 2, 1) := by decide +kernel
theorem d_Mo_step_287 : decode b_Mo_step 287 = .ok (.invokevirtual 98, 3) := by decide +kernel
theorem d_Mo_step_290 : decode b_Mo_step 290 = .ok (.return_, 1) := by decide +kernel
theorem d_Mo_tick_0 : decode b_Mo_tick 0 = .ok (.aload_n 0, 1) := by decide +kernel
theorem d_Mo_tick_1 : decode b_Mo_tick 1 = .ok (.dup, 1) := by decide +kernel
theorem d_Mo_tick_2 : decode b_Mo_tick 2 = .ok (.getfield 165, 3) := by decide +kernel
theorem d_Mo_tick_5 : decode b_Mo_tick 5 = .ok (.iconst 1, 1) := by decide +kernel
theorem d_Mo_tick_6 : decode b_Mo_tick 6 = .ok (.iadd, 1) := by decide +kernel
theorem d_Mo_tick_7 : decode b_Mo_tick 7 = .ok (.putfield 165, 3) := by decide +kernel
theorem d_Mo_tick_10 : decode b_Mo_tick 10 = .ok (.iconst 0, 1) := by decide +kernel
theorem d_Mo_tick_11 : decode b_Mo_tick 11 = .ok (.istore_n 1, 1) := by decide +kernel
theorem d_Mo_tick_12 : decode b_Mo_tick 12 = .ok (.iload_n 1, 1) := by decide +kernel
theorem d_Mo_tick_13 : decode b_Mo_tick 13 = .ok (.iconst 2, 1) := by decide +kernel
theorem d_Mo_tick_14 : decode b_Mo_tick 14 = .ok (.if_icmp .ge 94, 3) := by decide +kernel
theorem d_Mo_tick_17 : decode b_Mo_tick 17 = .ok (.aload_n 0, 1) := by decide +kernel
theorem d_Mo_tick_18 : decode b_Mo_tick 18 = .ok (.getfield 80, 3) := by decide +kernel
theorem d_Mo_tick_21 : decode b_Mo_tick 21 = .ok (.iload_n 1, 1) := by decide +kernel
theorem d_Mo_tick_22 : decode b_Mo_tick 22 = .ok (.iaload, 1) := by decide +kernel
theorem d_Mo_tick_23 : decode b_Mo_tick 23 = .ok (.ifCond .ge 52, 3) := by decide +kernel
theorem d_Mo_tick_26 : decode b_Mo_tick 26 = .ok (.aload_n 0, 1) := by decide +kernel
theorem d_Mo_tick_27 : decode b_Mo_tick 27 = .ok (.getfield 68, 3) := by decide +kernel
theorem d_Mo_tick_30 : decode b_Mo_tick 30 = .ok (.iload_n 1, 1) := by decide +kernel
theorem d_Mo_tick_31 : decode b_Mo_tick 31 = .ok (.iaload, 1) := by decide +kernel
theorem d_Mo_tick_32 : decode b_Mo_tick 32 = .ok (.ifCond .le 43, 3) := by decide +kernel
theorem d_Mo_tick_35 : decode b_Mo_tick 35 = .ok (.aload_n 0, 1) := by decide +kernel
theorem d_Mo_tick_36 : decode b_Mo_tick 36 = .ok (.getfield 80, 3) := by decide +kernel
theorem d_Mo_tick_39 : decode b_Mo_tick 39 = .ok (.iload_n 1, 1) := by decide +kernel
theorem d_Mo_tick_40 : decode b_Mo_tick 40 = .ok (.aload_n 0, 1) := by decide +kernel
theorem d_Mo_tick_41 : decode b_Mo_tick 41 = .ok (.iload_n 1, 1) := by decide +kernel
theorem d_Mo_tick_42 : decode b_Mo_tick 42 = .ok (.invokevirtual 106, 3) := by decide +kernel
theorem d_Mo_tick_45 : decode b_Mo_tick 45 = .ok (.iastore, 1) := by decide +kernel
theorem d_Mo_tick_46 : decode b_Mo_tick 46 = .ok (.aload_n 0, 1) := by decide +kernel
theorem d_Mo_tick_47 : decode b_Mo_tick 47 = .ok (.getfield 22, 3) := by decide +kernel
theorem d_Mo_tick_50 : decode b_Mo_tick 50 = .ok (.aload_n 0, 1) := by decide +kernel
theorem d_Mo_tick_51 : decode b_Mo_tick 51 = .ok (.getfield 80, 3) := by decide +kernel
theorem d_Mo_tick_54 : decode b_Mo_tick 54 = .ok (.iload_n 1, 1) := by decide +kernel
theorem d_Mo_tick_55 : decode b_Mo_tick 55 = .ok (.iaload, 1) := by decide +kernel
theorem d_Mo_tick_56 : decode b_Mo_tick 56 = .ok (.iconst 1, 1) := by decide +kernel
theorem d_Mo_tick_57 : decode b_Mo_tick 57 = .ok (.iastore, 1) := by decide +kernel
theorem d_Mo_tick_58 : decode b_Mo_tick 58 = .ok (.aload_n 0, 1) := by decide +kernel
theorem d_Mo_tick_59 : decode b_Mo_tick 59 = .ok (.getfield 83, 3) := by decide +kernel
theorem d_Mo_tick_62 : decode b_Mo_tick 62 = .ok (.iload_n 1, 1) := by decide +kernel
theorem d_Mo_tick_63 : decode b_Mo_tick 63 = .ok (.iconst 3, 1) := by decide +kernel
theorem d_Mo_tick_64 : decode b_Mo_tick 64 = .ok (.iastore, 1) := by decide +kernel
theorem d_Mo_tick_65 : decode b_Mo_tick 65 = .ok (.aload_n 0, 1) := by decide +kernel
theorem d_Mo_tick_66 : decode b_Mo_tick 66 = .ok (.dup, 1) := by decide +kernel
theorem d_Mo_tick_67 : decode b_Mo_tick 67 = .ok (.getfield 168, 3) := by decide +kernel
theorem d_Mo_tick_70 : decode b_Mo_tick 70 = .ok (.iconst 1, 1) := by decide +kernel
theorem d_Mo_tick_71 : decode b_Mo_tick 71 = .ok (.iadd, 1) := by decide +kernel
theorem d_Mo_tick_72 : decode b_Mo_tick 72 = .ok (.putfield 168, 3) := by decide +kernel
theorem d_Mo_tick_75 : decode b_Mo_tick 75 = .ok (.aload_n 0, 1) := by decide +kernel
theorem d_Mo_tick_76 : decode b_Mo_tick 76 = .ok (.getfield 80, 3) := by decide +kernel
theorem d_Mo_tick_79 : decode b_Mo_tick 79 = .ok (.iload_n 1, 1) := by decide +kernel
theorem d_Mo_tick_80 : decode b_Mo_tick 80 = .ok (.iaload, 1) := by decide +kernel
theorem d_Mo_tick_81 : decode b_Mo_tick 81 = .ok (.ifCond .ge 16, 3) := by decide +kernel
theorem d_Mo_tick_84 : decode b_Mo_tick 84 = .ok (.aload_n 0, 1) := by decide +kernel
theorem d_Mo_tick_85 : decode b_Mo_tick 85 = .ok (.dup, 1) := by decide +kernel
theorem d_Mo_tick_86 : decode b_Mo_tick 86 = .ok (.getfield 171, 3) := by decide +kernel
theorem d_Mo_tick_89 : decode b_Mo_tick 89 = .ok (.iconst 1, 1) := by decide +kernel
theorem d_Mo_tick_90 : decode b_Mo_tick 90 = .ok (.iadd, 1) := by decide +kernel
theorem d_Mo_tick_91 : decode b_Mo_tick 91 = .ok (.putfield 171, 3) := by decide +kernel
theorem d_Mo_tick_94 : decode b_Mo_tick 94 = .ok (.goto 8, 3) := by decide +kernel
theorem d_Mo_tick_97 : decode b_Mo_tick 97 = .ok (.aload_n 0, 1) := by decide +kernel
theorem d_Mo_tick_98 : decode b_Mo_tick 98 = .ok (.iload_n 1, 1) := by decide +kernel
theorem d_Mo_tick_99 : decode b_Mo_tick 99 = .ok (.invokevirtual 174, 3) := by decide +kernel
theorem d_Mo_tick_102 : decode b_Mo_tick 102 = .ok (.iinc 1 1, 3) := by decide +kernel
theorem d_Mo_tick_105 : decode b_Mo_tick 105 = .ok (.goto (-93), 3) := by decide +kernel
theorem d_Mo_tick_108 : decode b_Mo_tick 108 = .ok (.return_, 1) := by decide +kernel
theorem d_Mo_many_0 : decode b_Mo_many 0 = .ok (.iconst 0, 1) := by decide +kernel
theorem d_Mo_many_1 : decode b_Mo_many 1 = .ok (.istore_n 2, 1) := by decide +kernel
theorem d_Mo_many_2 : decode b_Mo_many 2 = .ok (.iconst 0, 1) := by decide +kernel
theorem d_Mo_many_3 : decode b_Mo_many 3 = .ok (.istore_n 3, 1) := by decide +kernel
theorem d_Mo_many_4 : decode b_Mo_many 4 = .ok (.iload_n 3, 1) := by decide +kernel
theorem d_Mo_many_5 : decode b_Mo_many 5 = .ok (.bipush 6, 2) := by decide +kernel
theorem d_Mo_many_7 : decode b_Mo_many 7 = .ok (.if_icmp .ge 22, 3) := by decide +kernel
theorem d_Mo_many_10 : decode b_Mo_many 10 = .ok (.aload_n 0, 1) := by decide +kernel
theorem d_Mo_many_11 : decode b_Mo_many 11 = .ok (.getfield 22, 3) := by decide +kernel
theorem d_Mo_many_14 : decode b_Mo_many 14 = .ok (.iload_n 3, 1) := by decide +kernel
theorem d_Mo_many_15 : decode b_Mo_many 15 = .ok (.iaload, 1) := by decide +kernel
theorem d_Mo_many_16 : decode b_Mo_many 16 = .ok (.iload_n 1, 1) := by decide +kernel
theorem d_Mo_many_17 : decode b_Mo_many 17 = .ok (.if_icmp .ne 6, 3) := by decide +kernel
theorem d_Mo_many_20 : decode b_Mo_many 20 = .ok (.iinc 2 1, 3) := by decide +kernel
theorem d_Mo_many_23 : decode b_Mo_many 23 = .ok (.iinc 3 1, 3) := by decide +kernel
theorem d_Mo_many_26 : decode b_Mo_many 26 = .ok (.goto (-22), 3) := by decide +kernel
theorem d_Mo_many_29 : decode b_Mo_many 29 = .ok (.iload_n 2, 1) := by decide +kernel
theorem d_Mo_many_30 : decode b_Mo_many 30 = .ok (.ireturn, 1) := by decide +kernel
theorem d_Mo_run_0 : decode b_Mo_run 0 = .ok (.aload_n 0, 1) := by decide +kernel
theorem d_Mo_run_1 : decode b_Mo_run 1 = .ok (.iload_n 1, 1) := by decide +kernel
theorem d_Mo_run_2 : decode b_Mo_run 2 = .ok (.iconst 1, 1) := by decide +kernel
theorem d_Mo_run_3 : decode b_Mo_run 3 = .ok (.if_icmp .lt 10, 3) := by decide +kernel
theorem d_Mo_run_6 : decode b_Mo_run 6 = .ok (.iload_n 1, 1) := by decide +kernel
theorem d_Mo_run_7 : decode b_Mo_run 7 = .ok (.sipush 300, 3) := by decide +kernel
theorem d_Mo_run_10 : decode b_Mo_run 10 = .ok (.if_icmp .le 7, 3) := by decide +kernel
theorem d_Mo_run_13 : decode b_Mo_run 13 = .ok (.iconst 1, 1) := by decide +kernel
theorem d_Mo_run_14 : decode b_Mo_run 14 = .ok (.goto 4, 3) := by decide +kernel
theorem d_Mo_run_17 : decode b_Mo_run 17 = .ok (.iconst 0, 1) := by decide +kernel
theorem d_Mo_run_18 : decode b_Mo_run 18 = .ok (.putfield 90, 3) := by decide +kernel
theorem d_Mo_run_21 : decode b_Mo_run 21 = .ok (.iconst 0, 1) := by decide +kernel
theorem d_Mo_run_22 : decode b_Mo_run 22 = .ok (.istore_n 2, 1) := by decide +kernel
theorem d_Mo_run_23 : decode b_Mo_run 23 = .ok (.aload_n 0, 1) := by decide +kernel
theorem d_Mo_run_24 : decode b_Mo_run 24 = .ok (.getfield 90, 3) := by decide +kernel
theorem d_Mo_run_27 : decode b_Mo_run 27 = .ok (.ifCond .ne 60, 3) := by decide +kernel
theorem d_Mo_run_30 : decode b_Mo_run 30 = .ok (.iload_n 2, 1) := by decide +kernel
theorem d_Mo_run_31 : decode b_Mo_run 31 = .ok (.iload_n 1, 1) := by decide +kernel
theorem d_Mo_run_32 : decode b_Mo_run 32 = .ok (.if_icmp .ge 55, 3) := by decide +kernel
theorem d_Mo_run_35 : decode b_Mo_run 35 = .ok (.aload_n 0, 1) := by decide +kernel
theorem d_Mo_run_36 : decode b_Mo_run 36 = .ok (.iconst 0, 1) := by decide +kernel
theorem d_Mo_run_37 : decode b_Mo_run 37 = .ok (.invokevirtual 177, 3) := by decide +kernel
theorem d_Mo_run_40 : decode b_Mo_run 40 = .ok (.aload_n 0, 1) := by decide +kernel
theorem d_Mo_run_41 : decode b_Mo_run 41 = .ok (.iconst 1, 1) := by decide +kernel
theorem d_Mo_run_42 : decode b_Mo_run 42 = .ok (.invokevirtual 177, 3) := by decide +kernel
theorem d_Mo_run_45 : decode b_Mo_run 45 = .ok (.iadd, 1) := by decide +kernel
theorem d_Mo_run_46 : decode b_Mo_run 46 = .ok (.aload_n 0, 1) := by decide +kernel
theorem d_Mo_run_47 : decode b_Mo_run 47 = .ok (.iconst 2, 1) := by decide +kernel
theorem d_Mo_run_48 : decode b_Mo_run 48 = .ok (.invokevirtual 177, 3) := by decide +kernel
theorem d_Mo_run_51 : decode b_Mo_run 51 = .ok (.iadd, 1) := by decide +kernel
theorem d_Mo_run_52 : decode b_Mo_run 52 = .ok (.ifCond .le 35, 3) := by decide +kernel
theorem d_Mo_run_55 : decode b_Mo_run 55 = .ok (.aload_n 0, 1) := by decide +kernel
theorem d_Mo_run_56 : decode b_Mo_run 56 = .ok (.iconst 0, 1) := by decide +kernel
theorem d_Mo_run_57 : decode b_Mo_run 57 = .ok (.invokevirtual 177, 3) := by decide +kernel
theorem d_Mo_run_60 : decode b_Mo_run 60 = .ok (.aload_n 0, 1) := by decide +kernel
theorem d_Mo_run_61 : decode b_Mo_run 61 = .ok (.iconst 1, 1) := by decide +kernel
theorem d_Mo_run_62 : decode b_Mo_run 62 = .ok (.invokevirtual 177, 3) := by decide +kernel
theorem d_Mo_run_65 : decode b_Mo_run 65 = .ok (.iadd, 1) := by decide +kernel
theorem d_Mo_run_66 : decode b_Mo_run 66 = .ok (.ifCond .ne 11, 3) := by decide +kernel
theorem d_Mo_run_69 : decode b_Mo_run 69 = .ok (.aload_n 0, 1) := by decide +kernel
theorem d_Mo_run_70 : decode b_Mo_run 70 = .ok (.iconst 2, 1) := by decide +kernel
theorem d_Mo_run_71 : decode b_Mo_run 71 = .ok (.putfield 90, 3) := by decide +kernel
theorem d_Mo_run_74 : decode b_Mo_run 74 = .ok (.goto (-51), 3) := by decide +kernel
theorem d_Mo_run_77 : decode b_Mo_run 77 = .ok (.aload_n 0, 1) := by decide +kernel
theorem d_Mo_run_78 : decode b_Mo_run 78 = .ok (.invokevirtual 180, 3) := by decide +kernel
theorem d_Mo_run_81 : decode b_Mo_run 81 = .ok (.iinc 2 1, 3) := by decide +kernel
theorem d_Mo_run_84 : decode b_Mo_run 84 = .ok (.goto (-61), 3) := by decide +kernel
theorem d_Mo_run_87 : decode b_Mo_run 87 = .ok (.aload_n 0, 1) := by decide +kernel
theorem d_Mo_run_88 : decode b_Mo_run 88 = .ok (.getfield 90, 3) := by decide +kernel
theorem d_Mo_run_91 : decode b_Mo_run 91 = .ok (.ifCond .ne 7, 3) := by decide +kernel
theorem d_Mo_run_94 : decode b_Mo_run 94 = .ok (.iload_n 2, 1) := by decide +kernel
theorem d_Mo_run_95 : decode b_Mo_run 95 = .ok (.goto 4, 3) := by decide +kernel
theorem d_Mo_run_98 : decode b_Mo_run 98 = .ok (.iconst 0, 1) := by decide +kernel
theorem d_Mo_run_99 : decode b_Mo_run 99 = .ok (.ireturn, 1) := by decide +kernel
theorem d_Mo_guest_0 : decode b_Mo_guest 0 = .ok (.aload_n 0, 1) := by decide +kernel
theorem d_Mo_guest_1 : decode b_Mo_guest 1 = .ok (.aload_n 0, 1) := by decide +kernel
theorem d_Mo_guest_2 : decode b_Mo_guest 2 = .ok (.iload_n 1, 1) := by decide +kernel
theorem d_Mo_guest_3 : decode b_Mo_guest 3 = .ok (.iconst 5, 1) := by decide +kernel
theorem d_Mo_guest_4 : decode b_Mo_guest 4 = .ok (.invokevirtual 102, 3) := by decide +kernel
theorem d_Mo_guest_7 : decode b_Mo_guest 7 = .ok (.ifCond .ne 7, 3) := by decide +kernel
theorem d_Mo_guest_10 : decode b_Mo_guest 10 = .ok (.iload_n 2, 1) := by decide +kernel
theorem d_Mo_guest_11 : decode b_Mo_guest 11 = .ok (.ifCond .eq 7, 3) := by decide +kernel
theorem d_Mo_guest_14 : decode b_Mo_guest 14 = .ok (.iconst 1, 1) := by decide +kernel
theorem d_Mo_guest_15 : decode b_Mo_guest 15 = .ok (.goto 17, 3) := by decide +kernel
theorem d_Mo_guest_18 : decode b_Mo_guest 18 = .ok (.aload_n 0, 1) := by decide +kernel
theorem d_Mo_guest_19 : decode b_Mo_guest 19 = .ok (.getfield 22, 3) := by decide +kernel
theorem d_Mo_guest_22 : decode b_Mo_guest 22 = .ok (.iload_n 1, 1) := by decide +kernel
theorem d_Mo_guest_23 : decode b_Mo_guest 23 = .ok (.iaload, 1) := by decide +kernel
theorem d_Mo_guest_24 : decode b_Mo_guest 24 = .ok (.ifCond .ge 7, 3) := by decide +kernel
theorem d_Mo_guest_27 : decode b_Mo_guest 27 = .ok (.iconst 2, 1) := by decide +kernel
theorem d_Mo_guest_28 : decode b_Mo_guest 28 = .ok (.goto 4, 3) := by decide +kernel
theorem d_Mo_guest_31 : decode b_Mo_guest 31 = .ok (.iconst 0, 1) := by decide +kernel
theorem d_Mo_guest_32 : decode b_Mo_guest 32 = .ok (.putfield 90, 3) := by decide +kernel
theorem d_Mo_guest_35 : decode b_Mo_guest 35 = .ok (.aload_n 0, 1) := by decide +kernel
theorem d_Mo_guest_36 : decode b_Mo_guest 36 = .ok (.getfield 90, 3) := by decide +kernel
theorem d_Mo_guest_39 : decode b_Mo_guest 39 = .ok (.ifCond .ne 7, 3) := by decide +kernel
theorem d_Mo_guest_42 : decode b_Mo_guest 42 = .ok (.iconst 1, 1) := by decide +kernel
theorem d_Mo_guest_43 : decode b_Mo_guest 43 = .ok (.goto 4, 3) := by decide +kernel
theorem d_Mo_guest_46 : decode b_Mo_guest 46 = .ok (.iconst 0, 1) := by decide +kernel
theorem d_Mo_guest_47 : decode b_Mo_guest 47 = .ok (.ireturn, 1) := by decide +kernel
theorem d_Mo_register_0 : decode b_Mo_register 0 = .ok (.aload_n 0, 1) := by decide +kernel
theorem d_Mo_register_1 : decode b_Mo_register 1 = .ok (.iload_n 1, 1) := by decide +kernel
theorem d_Mo_register_2 : decode b_Mo_register 2 = .ok (.aload_n 0, 1) := by decide +kernel
theorem d_Mo_register_3 : decode b_Mo_register 3 = .ok (.iload_n 2, 1) := by decide +kernel
theorem d_Mo_register_4 : decode b_Mo_register 4 = .ok (.iconst 3, 1) := by decide +kernel
theorem d_Mo_register_5 : decode b_Mo_register 5 = .ok (.invokevirtual 102, 3) := by decide +kernel
theorem d_Mo_register_8 : decode b_Mo_register 8 = .ok (.invokevirtual 183, 3) := by decide +kernel
theorem d_Mo_register_11 : decode b_Mo_register 11 = .ok (.ifCond .eq 16, 3) := by decide +kernel
theorem d_Mo_register_14 : decode b_Mo_register 14 = .ok (.aload_n 0, 1) := by decide +kernel
theorem d_Mo_register_15 : decode b_Mo_register 15 = .ok (.getfield 52, 3) := by decide +kernel
theorem d_Mo_register_18 : decode b_Mo_register 18 = .ok (.iload_n 1, 1) := by decide +kernel
theorem d_Mo_register_19 : decode b_Mo_register 19 = .ok (.iconst 4, 1) := by decide +kernel
theorem d_Mo_register_20 : decode b_Mo_register 20 = .ok (.imul, 1) := by decide +kernel
theorem d_Mo_register_21 : decode b_Mo_register 21 = .ok (.iload_n 2, 1) := by decide +kernel
theorem d_Mo_register_22 : decode b_Mo_register 22 = .ok (.iadd, 1) := by decide +kernel
theorem d_Mo_register_23 : decode b_Mo_register 23 = .ok (.iaload, 1) := by decide +kernel
theorem d_Mo_register_24 : decode b_Mo_register 24 = .ok (.goto 4, 3) := by decide +kernel
theorem d_Mo_register_27 : decode b_Mo_register 27 = .ok (.iconst 0, 1) := by decide +kernel
theorem d_Mo_register_28 : decode b_Mo_register 28 = .ok (.ireturn, 1) := by decide +kernel
theorem d_Mo_told_0 : decode b_Mo_told 0 = .ok (.aload_n 0, 1) := by decide +kernel
theorem d_Mo_told_1 : decode b_Mo_told 1 = .ok (.iload_n 1, 1) := by decide +kernel
theorem d_Mo_told_2 : decode b_Mo_told 2 = .ok (.aload_n 0, 1) := by decide +kernel
theorem d_Mo_told_3 : decode b_Mo_told 3 = .ok (.iload_n 2, 1) := by decide +kernel
theorem d_Mo_told_4 : decode b_Mo_told 4 = .ok (.bipush 8, 2) := by decide +kernel
theorem d_Mo_told_6 : decode b_Mo_told 6 = .ok (.invokevirtual 102, 3) := by decide +kernel
theorem d_Mo_told_9 : decode b_Mo_told 9 = .ok (.invokevirtual 183, 3) := by decide +kernel
theorem d_Mo_told_12 : decode b_Mo_told 12 = .ok (.ifCond .ne 5, 3) := by decide +kernel
theorem d_Mo_told_15 : decode b_Mo_told 15 = .ok (.iconst 0, 1) := by decide +kernel
theorem d_Mo_told_16 : decode b_Mo_told 16 = .ok (.ireturn, 1) := by decide +kernel
theorem d_Mo_told_17 : decode b_Mo_told 17 = .ok (.iload_n 2, 1) := by decide +kernel
theorem d_Mo_told_18 : decode b_Mo_told 18 = .ok (.tableswitch 102 0 7 #[46, 53, 60, 67, 74, 81, 88, 95], 46) := by decide +kernel
theorem d_Mo_told_64 : decode b_Mo_told 64 = .ok (.aload_n 0, 1) := by decide +kernel
theorem d_Mo_told_65 : decode b_Mo_told 65 = .ok (.getfield 22, 3) := by decide +kernel
theorem d_Mo_told_68 : decode b_Mo_told 68 = .ok (.iload_n 1, 1) := by decide +kernel
theorem d_Mo_told_69 : decode b_Mo_told 69 = .ok (.iaload, 1) := by decide +kernel
theorem d_Mo_told_70 : decode b_Mo_told 70 = .ok (.ireturn, 1) := by decide +kernel
theorem d_Mo_told_71 : decode b_Mo_told 71 = .ok (.aload_n 0, 1) := by decide +kernel
theorem d_Mo_told_72 : decode b_Mo_told 72 = .ok (.getfield 25, 3) := by decide +kernel
theorem d_Mo_told_75 : decode b_Mo_told 75 = .ok (.iload_n 1, 1) := by decide +kernel
theorem d_Mo_told_76 : decode b_Mo_told 76 = .ok (.iaload, 1) := by decide +kernel
theorem d_Mo_told_77 : decode b_Mo_told 77 = .ok (.ireturn, 1) := by decide +kernel
theorem d_Mo_told_78 : decode b_Mo_told 78 = .ok (.aload_n 0, 1) := by decide +kernel
theorem d_Mo_told_79 : decode b_Mo_told 79 = .ok (.getfield 28, 3) := by decide +kernel
theorem d_Mo_told_82 : decode b_Mo_told 82 = .ok (.iload_n 1, 1) := by decide +kernel
theorem d_Mo_told_83 : decode b_Mo_told 83 = .ok (.iaload, 1) := by decide +kernel
theorem d_Mo_told_84 : decode b_Mo_told 84 = .ok (.ireturn, 1) := by decide +kernel
theorem d_Mo_told_85 : decode b_Mo_told 85 = .ok (.aload_n 0, 1) := by decide +kernel
theorem d_Mo_told_86 : decode b_Mo_told 86 = .ok (.getfield 31, 3) := by decide +kernel
theorem d_Mo_told_89 : decode b_Mo_told 89 = .ok (.iload_n 1, 1) := by decide +kernel
theorem d_Mo_told_90 : decode b_Mo_told 90 = .ok (.iaload, 1) := by decide +kernel
theorem d_Mo_told_91 : decode b_Mo_told 91 = .ok (.ireturn, 1) := by decide +kernel
theorem d_Mo_told_92 : decode b_Mo_told 92 = .ok (.aload_n 0, 1) := by decide +kernel
theorem d_Mo_told_93 : decode b_Mo_told 93 = .ok (.getfield 34, 3) := by decide +kernel
theorem d_Mo_told_96 : decode b_Mo_told 96 = .ok (.iload_n 1, 1) := by decide +kernel
theorem d_Mo_told_97 : decode b_Mo_told 97 = .ok (.iaload, 1) := by decide +kernel
theorem d_Mo_told_98 : decode b_Mo_told 98 = .ok (.ireturn, 1) := by decide +kernel
theorem d_Mo_told_99 : decode b_Mo_told 99 = .ok (.aload_n 0, 1) := by decide +kernel
theorem d_Mo_told_100 : decode b_Mo_told 100 = .ok (.getfield 37, 3) := by decide +kernel
theorem d_Mo_told_103 : decode b_Mo_told 103 = .ok (.iload_n 1, 1) := by decide +kernel
theorem d_Mo_told_104 : decode b_Mo_told 104 = .ok (.iaload, 1) := by decide +kernel
theorem d_Mo_told_105 : decode b_Mo_told 105 = .ok (.ireturn, 1) := by decide +kernel
theorem d_Mo_told_106 : decode b_Mo_told 106 = .ok (.aload_n 0, 1) := by decide +kernel
theorem d_Mo_told_107 : decode b_Mo_told 107 = .ok (.getfield 40, 3) := by decide +kernel
theorem d_Mo_told_110 : decode b_Mo_told 110 = .ok (.iload_n 1, 1) := by decide +kernel
theorem d_Mo_told_111 : decode b_Mo_told 111 = .ok (.iaload, 1) := by decide +kernel
theorem d_Mo_told_112 : decode b_Mo_told 112 = .ok (.ireturn, 1) := by decide +kernel
theorem d_Mo_told_113 : decode b_Mo_told 113 = .ok (.aload_n 0, 1) := by decide +kernel
theorem d_Mo_told_114 : decode b_Mo_told 114 = .ok (.getfield 43, 3) := by decide +kernel
theorem d_Mo_told_117 : decode b_Mo_told 117 = .ok (.iload_n 1, 1) := by decide +kernel
theorem d_Mo_told_118 : decode b_Mo_told 118 = .ok (.iaload, 1) := by decide +kernel
theorem d_Mo_told_119 : decode b_Mo_told 119 = .ok (.ireturn, 1) := by decide +kernel
theorem d_Mo_told_120 : decode b_Mo_told 120 = .ok (.aload_n 0, 1) := by decide +kernel
theorem d_Mo_told_121 : decode b_Mo_told 121 = .ok (.getfield 46, 3) := by decide +kernel
theorem d_Mo_told_124 : decode b_Mo_told 124 = .ok (.iload_n 1, 1) := by decide +kernel
theorem d_Mo_told_125 : decode b_Mo_told 125 = .ok (.iaload, 1) := by decide +kernel
theorem d_Mo_told_126 : decode b_Mo_told 126 = .ok (.ireturn, 1) := by decide +kernel
theorem d_Mo_page_0 : decode b_Mo_page 0 = .ok (.aload_n 0, 1) := by decide +kernel
theorem d_Mo_page_1 : decode b_Mo_page 1 = .ok (.iload_n 1, 1) := by decide +kernel
theorem d_Mo_page_2 : decode b_Mo_page 2 = .ok (.aload_n 0, 1) := by decide +kernel
theorem d_Mo_page_3 : decode b_Mo_page 3 = .ok (.iload_n 2, 1) := by decide +kernel
theorem d_Mo_page_4 : decode b_Mo_page 4 = .ok (.iconst 3, 1) := by decide +kernel
theorem d_Mo_page_5 : decode b_Mo_page 5 = .ok (.invokevirtual 102, 3) := by decide +kernel
theorem d_Mo_page_8 : decode b_Mo_page 8 = .ok (.invokevirtual 183, 3) := by decide +kernel
theorem d_Mo_page_11 : decode b_Mo_page 11 = .ok (.ifCond .eq 16, 3) := by decide +kernel
theorem d_Mo_page_14 : decode b_Mo_page 14 = .ok (.aload_n 0, 1) := by decide +kernel
theorem d_Mo_page_15 : decode b_Mo_page 15 = .ok (.getfield 55, 3) := by decide +kernel
theorem d_Mo_page_18 : decode b_Mo_page 18 = .ok (.iload_n 1, 1) := by decide +kernel
theorem d_Mo_page_19 : decode b_Mo_page 19 = .ok (.iconst 4, 1) := by decide +kernel
theorem d_Mo_page_20 : decode b_Mo_page 20 = .ok (.imul, 1) := by decide +kernel
theorem d_Mo_page_21 : decode b_Mo_page 21 = .ok (.iload_n 2, 1) := by decide +kernel
theorem d_Mo_page_22 : decode b_Mo_page 22 = .ok (.iadd, 1) := by decide +kernel
theorem d_Mo_page_23 : decode b_Mo_page 23 = .ok (.iaload, 1) := by decide +kernel
theorem d_Mo_page_24 : decode b_Mo_page 24 = .ok (.goto 4, 3) := by decide +kernel
theorem d_Mo_page_27 : decode b_Mo_page 27 = .ok (.iconst 0, 1) := by decide +kernel
theorem d_Mo_page_28 : decode b_Mo_page 28 = .ok (.ireturn, 1) := by decide +kernel
theorem d_Mo_memory_0 : decode b_Mo_memory 0 = .ok (.aload_n 0, 1) := by decide +kernel
theorem d_Mo_memory_1 : decode b_Mo_memory 1 = .ok (.aload_n 0, 1) := by decide +kernel
theorem d_Mo_memory_2 : decode b_Mo_memory 2 = .ok (.iload_n 1, 1) := by decide +kernel
theorem d_Mo_memory_3 : decode b_Mo_memory 3 = .ok (.bipush 11, 2) := by decide +kernel
theorem d_Mo_memory_5 : decode b_Mo_memory 5 = .ok (.invokevirtual 102, 3) := by decide +kernel
theorem d_Mo_memory_8 : decode b_Mo_memory 8 = .ok (.ifCond .ne 13, 3) := by decide +kernel
theorem d_Mo_memory_11 : decode b_Mo_memory 11 = .ok (.aload_n 0, 1) := by decide +kernel
theorem d_Mo_memory_12 : decode b_Mo_memory 12 = .ok (.iload_n 2, 1) := by decide +kernel
theorem d_Mo_memory_13 : decode b_Mo_memory 13 = .ok (.bipush 7, 2) := by decide +kernel
theorem d_Mo_memory_15 : decode b_Mo_memory 15 = .ok (.invokevirtual 102, 3) := by decide +kernel
theorem d_Mo_memory_18 : decode b_Mo_memory 18 = .ok (.ifCond .eq 7, 3) := by decide +kernel
theorem d_Mo_memory_21 : decode b_Mo_memory 21 = .ok (.iconst 1, 1) := by decide +kernel
theorem d_Mo_memory_22 : decode b_Mo_memory 22 = .ok (.goto 4, 3) := by decide +kernel
theorem d_Mo_memory_25 : decode b_Mo_memory 25 = .ok (.iconst 0, 1) := by decide +kernel
theorem d_Mo_memory_26 : decode b_Mo_memory 26 = .ok (.putfield 90, 3) := by decide +kernel
theorem d_Mo_memory_29 : decode b_Mo_memory 29 = .ok (.aload_n 0, 1) := by decide +kernel
theorem d_Mo_memory_30 : decode b_Mo_memory 30 = .ok (.getfield 90, 3) := by decide +kernel
theorem d_Mo_memory_33 : decode b_Mo_memory 33 = .ok (.ifCond .ne 17, 3) := by decide +kernel
theorem d_Mo_memory_36 : decode b_Mo_memory 36 = .ok (.aload_n 0, 1) := by decide +kernel
theorem d_Mo_memory_37 : decode b_Mo_memory 37 = .ok (.getfield 58, 3) := by decide +kernel
theorem d_Mo_memory_40 : decode b_Mo_memory 40 = .ok (.iload_n 1, 1) := by decide +kernel
theorem d_Mo_memory_41 : decode b_Mo_memory 41 = .ok (.bipush 8, 2) := by decide +kernel
theorem d_Mo_memory_43 : decode b_Mo_memory 43 = .ok (.imul, 1) := by decide +kernel
theorem d_Mo_memory_44 : decode b_Mo_memory 44 = .ok (.iload_n 2, 1) := by decide +kernel
theorem d_Mo_memory_45 : decode b_Mo_memory 45 = .ok (.iadd, 1) := by decide +kernel
theorem d_Mo_memory_46 : decode b_Mo_memory 46 = .ok (.iaload, 1) := by decide +kernel
theorem d_Mo_memory_47 : decode b_Mo_memory 47 = .ok (.goto 4, 3) := by decide +kernel
theorem d_Mo_memory_50 : decode b_Mo_memory 50 = .ok (.iconst 0, 1) := by decide +kernel
theorem d_Mo_memory_51 : decode b_Mo_memory 51 = .ok (.ireturn, 1) := by decide +kernel
theorem d_Mo_object_0 : decode b_Mo_object 0 = .ok (.aload_n 0, 1) := by decide +kernel
theorem d_Mo_object_1 : decode b_Mo_object 1 = .ok (.aload_n 0, 1) := by decide +kernel
theorem d_Mo_object_2 : decode b_Mo_object 2 = .ok (.iload_n 1, 1) := by decide +kernel
theorem d_Mo_object_3 : decode b_Mo_object 3 = .ok (.iconst 3, 1) := by decide +kernel
theorem d_Mo_object_4 : decode b_Mo_object 4 = .ok (.invokevirtual 102, 3) := by decide +kernel
theorem d_Mo_object_7 : decode b_Mo_object 7 = .ok (.ifCond .ne 12, 3) := by decide +kernel
theorem d_Mo_object_10 : decode b_Mo_object 10 = .ok (.aload_n 0, 1) := by decide +kernel
theorem d_Mo_object_11 : decode b_Mo_object 11 = .ok (.iload_n 2, 1) := by decide +kernel
theorem d_Mo_object_12 : decode b_Mo_object 12 = .ok (.iconst 4, 1) := by decide +kernel
theorem d_Mo_object_13 : decode b_Mo_object 13 = .ok (.invokevirtual 102, 3) := by decide +kernel
theorem d_Mo_object_16 : decode b_Mo_object 16 = .ok (.ifCond .eq 7, 3) := by decide +kernel
theorem d_Mo_object_19 : decode b_Mo_object 19 = .ok (.iconst 1, 1) := by decide +kernel
theorem d_Mo_object_20 : decode b_Mo_object 20 = .ok (.goto 4, 3) := by decide +kernel
theorem d_Mo_object_23 : decode b_Mo_object 23 = .ok (.iconst 0, 1) := by decide +kernel
theorem d_Mo_object_24 : decode b_Mo_object 24 = .ok (.putfield 90, 3) := by decide +kernel
theorem d_Mo_object_27 : decode b_Mo_object 27 = .ok (.aload_n 0, 1) := by decide +kernel
theorem d_Mo_object_28 : decode b_Mo_object 28 = .ok (.getfield 90, 3) := by decide +kernel
theorem d_Mo_object_31 : decode b_Mo_object 31 = .ok (.ifCond .eq 5, 3) := by decide +kernel
theorem d_Mo_object_34 : decode b_Mo_object 34 = .ok (.iconst 0, 1) := by decide +kernel
theorem d_Mo_object_35 : decode b_Mo_object 35 = .ok (.ireturn, 1) := by decide +kernel
theorem d_Mo_object_36 : decode b_Mo_object 36 = .ok (.iload_n 2, 1) := by decide +kernel
theorem d_Mo_object_37 : decode b_Mo_object 37 = .ok (.tableswitch 64 0 3 #[31, 38, 48, 55], 31) := by decide +kernel
theorem d_Mo_object_68 : decode b_Mo_object 68 = .ok (.aload_n 0, 1) := by decide +kernel
theorem d_Mo_object_69 : decode b_Mo_object 69 = .ok (.getfield 77, 3) := by decide +kernel
theorem d_Mo_object_72 : decode b_Mo_object 72 = .ok (.iload_n 1, 1) := by decide +kernel
theorem d_Mo_object_73 : decode b_Mo_object 73 = .ok (.iaload, 1) := by decide +kernel
theorem d_Mo_object_74 : decode b_Mo_object 74 = .ok (.ireturn, 1) := by decide +kernel
theorem d_Mo_object_75 : decode b_Mo_object 75 = .ok (.aload_n 0, 1) := by decide +kernel
theorem d_Mo_object_76 : decode b_Mo_object 76 = .ok (.getfield 68, 3) := by decide +kernel
theorem d_Mo_object_79 : decode b_Mo_object 79 = .ok (.bipush 10, 2) := by decide +kernel
theorem d_Mo_object_81 : decode b_Mo_object 81 = .ok (.iload_n 1, 1) := by decide +kernel
theorem d_Mo_object_82 : decode b_Mo_object 82 = .ok (.iadd, 1) := by decide +kernel
theorem d_Mo_object_83 : decode b_Mo_object 83 = .ok (.iaload, 1) := by decide +kernel
theorem d_Mo_object_84 : decode b_Mo_object 84 = .ok (.ireturn, 1) := by decide +kernel
theorem d_Mo_object_85 : decode b_Mo_object 85 = .ok (.aload_n 0, 1) := by decide +kernel
theorem d_Mo_object_86 : decode b_Mo_object 86 = .ok (.getfield 74, 3) := by decide +kernel
theorem d_Mo_object_89 : decode b_Mo_object 89 = .ok (.iload_n 1, 1) := by decide +kernel
theorem d_Mo_object_90 : decode b_Mo_object 90 = .ok (.iaload, 1) := by decide +kernel
theorem d_Mo_object_91 : decode b_Mo_object 91 = .ok (.ireturn, 1) := by decide +kernel
theorem d_Mo_object_92 : decode b_Mo_object 92 = .ok (.aload_n 0, 1) := by decide +kernel
theorem d_Mo_object_93 : decode b_Mo_object 93 = .ok (.getfield 68, 3) := by decide +kernel
theorem d_Mo_object_96 : decode b_Mo_object 96 = .ok (.iconst 2, 1) := by decide +kernel
theorem d_Mo_object_97 : decode b_Mo_object 97 = .ok (.iload_n 1, 1) := by decide +kernel
theorem d_Mo_object_98 : decode b_Mo_object 98 = .ok (.iadd, 1) := by decide +kernel
theorem d_Mo_object_99 : decode b_Mo_object 99 = .ok (.iaload, 1) := by decide +kernel
theorem d_Mo_object_100 : decode b_Mo_object 100 = .ok (.ireturn, 1) := by decide +kernel
theorem d_Mo_object_101 : decode b_Mo_object 101 = .ok (.aload_n 0, 1) := by decide +kernel
theorem d_Mo_object_102 : decode b_Mo_object 102 = .ok (.getfield 68, 3) := by decide +kernel
theorem d_Mo_object_105 : decode b_Mo_object 105 = .ok (.bipush 6, 2) := by decide +kernel
theorem d_Mo_object_107 : decode b_Mo_object 107 = .ok (.iload_n 1, 1) := by decide +kernel
theorem d_Mo_object_108 : decode b_Mo_object 108 = .ok (.iadd, 1) := by decide +kernel
theorem d_Mo_object_109 : decode b_Mo_object 109 = .ok (.iaload, 1) := by decide +kernel
theorem d_Mo_object_110 : decode b_Mo_object 110 = .ok (.ireturn, 1) := by decide +kernel
theorem d_Mo_written_0 : decode b_Mo_written 0 = .ok (.aload_n 0, 1) := by decide +kernel
theorem d_Mo_written_1 : decode b_Mo_written 1 = .ok (.aload_n 0, 1) := by decide +kernel
theorem d_Mo_written_2 : decode b_Mo_written 2 = .ok (.iload_n 1, 1) := by decide +kernel
theorem d_Mo_written_3 : decode b_Mo_written 3 = .ok (.bipush 31, 2) := by decide +kernel
theorem d_Mo_written_5 : decode b_Mo_written 5 = .ok (.invokevirtual 102, 3) := by decide +kernel
theorem d_Mo_written_8 : decode b_Mo_written 8 = .ok (.ifCond .ne 12, 3) := by decide +kernel
theorem d_Mo_written_11 : decode b_Mo_written 11 = .ok (.aload_n 0, 1) := by decide +kernel
theorem d_Mo_written_12 : decode b_Mo_written 12 = .ok (.iload_n 2, 1) := by decide +kernel
theorem d_Mo_written_13 : decode b_Mo_written 13 = .ok (.iconst 3, 1) := by decide +kernel
theorem d_Mo_written_14 : decode b_Mo_written 14 = .ok (.invokevirtual 102, 3) := by decide +kernel
theorem d_Mo_written_17 : decode b_Mo_written 17 = .ok (.ifCond .eq 7, 3) := by decide +kernel
theorem d_Mo_written_20 : decode b_Mo_written 20 = .ok (.iconst 1, 1) := by decide +kernel
theorem d_Mo_written_21 : decode b_Mo_written 21 = .ok (.goto 4, 3) := by decide +kernel
theorem d_Mo_written_24 : decode b_Mo_written 24 = .ok (.iconst 0, 1) := by decide +kernel
theorem d_Mo_written_25 : decode b_Mo_written 25 = .ok (.putfield 90, 3) := by decide +kernel
theorem d_Mo_written_28 : decode b_Mo_written 28 = .ok (.aload_n 0, 1) := by decide +kernel
theorem d_Mo_written_29 : decode b_Mo_written 29 = .ok (.getfield 90, 3) := by decide +kernel
theorem d_Mo_written_32 : decode b_Mo_written 32 = .ok (.ifCond .eq 5, 3) := by decide +kernel
theorem d_Mo_written_35 : decode b_Mo_written 35 = .ok (.iconst 0, 1) := by decide +kernel
theorem d_Mo_written_36 : decode b_Mo_written 36 = .ok (.ireturn, 1) := by decide +kernel
theorem d_Mo_written_37 : decode b_Mo_written 37 = .ok (.iload_n 2, 1) := by decide +kernel
theorem d_Mo_written_38 : decode b_Mo_written 38 = .ok (.ifCond .ne 12, 3) := by decide +kernel
theorem d_Mo_written_41 : decode b_Mo_written 41 = .ok (.aload_n 0, 1) := by decide +kernel
theorem d_Mo_written_42 : decode b_Mo_written 42 = .ok (.getfield 7, 3) := by decide +kernel
theorem d_Mo_written_45 : decode b_Mo_written 45 = .ok (.iload_n 1, 1) := by decide +kernel
theorem d_Mo_written_46 : decode b_Mo_written 46 = .ok (.iaload, 1) := by decide +kernel
theorem d_Mo_written_47 : decode b_Mo_written 47 = .ok (.goto 37, 3) := by decide +kernel
theorem d_Mo_written_50 : decode b_Mo_written 50 = .ok (.iload_n 2, 1) := by decide +kernel
theorem d_Mo_written_51 : decode b_Mo_written 51 = .ok (.iconst 1, 1) := by decide +kernel
theorem d_Mo_written_52 : decode b_Mo_written 52 = .ok (.if_icmp .ne 12, 3) := by decide +kernel
theorem d_Mo_written_55 : decode b_Mo_written 55 = .ok (.aload_n 0, 1) := by decide +kernel
theorem d_Mo_written_56 : decode b_Mo_written 56 = .ok (.getfield 13, 3) := by decide +kernel
theorem d_Mo_written_59 : decode b_Mo_written 59 = .ok (.iload_n 1, 1) := by decide +kernel
theorem d_Mo_written_60 : decode b_Mo_written 60 = .ok (.iaload, 1) := by decide +kernel
theorem d_Mo_written_61 : decode b_Mo_written 61 = .ok (.goto 23, 3) := by decide +kernel
theorem d_Mo_written_64 : decode b_Mo_written 64 = .ok (.iload_n 2, 1) := by decide +kernel
theorem d_Mo_written_65 : decode b_Mo_written 65 = .ok (.iconst 2, 1) := by decide +kernel
theorem d_Mo_written_66 : decode b_Mo_written 66 = .ok (.if_icmp .ne 12, 3) := by decide +kernel
theorem d_Mo_written_69 : decode b_Mo_written 69 = .ok (.aload_n 0, 1) := by decide +kernel
theorem d_Mo_written_70 : decode b_Mo_written 70 = .ok (.getfield 16, 3) := by decide +kernel
theorem d_Mo_written_73 : decode b_Mo_written 73 = .ok (.iload_n 1, 1) := by decide +kernel
theorem d_Mo_written_74 : decode b_Mo_written 74 = .ok (.iaload, 1) := by decide +kernel
theorem d_Mo_written_75 : decode b_Mo_written 75 = .ok (.goto 9, 3) := by decide +kernel
theorem d_Mo_written_78 : decode b_Mo_written 78 = .ok (.aload_n 0, 1) := by decide +kernel
theorem d_Mo_written_79 : decode b_Mo_written 79 = .ok (.getfield 19, 3) := by decide +kernel
theorem d_Mo_written_82 : decode b_Mo_written 82 = .ok (.iload_n 1, 1) := by decide +kernel
theorem d_Mo_written_83 : decode b_Mo_written 83 = .ok (.iaload, 1) := by decide +kernel
theorem d_Mo_written_84 : decode b_Mo_written 84 = .ok (.ireturn, 1) := by decide +kernel
theorem d_Mo_count_0 : decode b_Mo_count 0 = .ok (.aload_n 0, 1) := by decide +kernel
theorem d_Mo_count_1 : decode b_Mo_count 1 = .ok (.iconst 0, 1) := by decide +kernel
theorem d_Mo_count_2 : decode b_Mo_count 2 = .ok (.putfield 90, 3) := by decide +kernel
theorem d_Mo_count_5 : decode b_Mo_count 5 = .ok (.iconst 0, 1) := by decide +kernel
theorem d_Mo_count_6 : decode b_Mo_count 6 = .ok (.istore_n 2, 1) := by decide +kernel
theorem d_Mo_count_7 : decode b_Mo_count 7 = .ok (.iconst 0, 1) := by decide +kernel
theorem d_Mo_count_8 : decode b_Mo_count 8 = .ok (.istore_n 3, 1) := by decide +kernel
theorem d_Mo_count_9 : decode b_Mo_count 9 = .ok (.iload_n 3, 1) := by decide +kernel
theorem d_Mo_count_10 : decode b_Mo_count 10 = .ok (.bipush 12, 2) := by decide +kernel
theorem d_Mo_count_12 : decode b_Mo_count 12 = .ok (.if_icmp .ge 21, 3) := by decide +kernel
theorem d_Mo_count_15 : decode b_Mo_count 15 = .ok (.aload_n 0, 1) := by decide +kernel
theorem d_Mo_count_16 : decode b_Mo_count 16 = .ok (.getfield 61, 3) := by decide +kernel
theorem d_Mo_count_19 : decode b_Mo_count 19 = .ok (.iload_n 3, 1) := by decide +kernel
theorem d_Mo_count_20 : decode b_Mo_count 20 = .ok (.baload, 1) := by decide +kernel
theorem d_Mo_count_21 : decode b_Mo_count 21 = .ok (.ifCond .ne 6, 3) := by decide +kernel
theorem d_Mo_count_24 : decode b_Mo_count 24 = .ok (.iinc 2 1, 3) := by decide +kernel
theorem d_Mo_count_27 : decode b_Mo_count 27 = .ok (.iinc 3 1, 3) := by decide +kernel
theorem d_Mo_count_30 : decode b_Mo_count 30 = .ok (.goto (-21), 3) := by decide +kernel
theorem d_Mo_count_33 : decode b_Mo_count 33 = .ok (.iload_n 1, 1) := by decide +kernel
theorem d_Mo_count_34 : decode b_Mo_count 34 = .ok (.tableswitch 159 0 21 #[102, 107, 112, 117, 122, 127, 129, 134, 159, 159, 139, 139, 159, 159, 159, 159, 159, 159, 159, 159, 149, 149], 102) := by decide +kernel
theorem d_Mo_count_136 : decode b_Mo_count 136 = .ok (.aload_n 0, 1) := by decide +kernel
theorem d_Mo_count_137 : decode b_Mo_count 137 = .ok (.getfield 165, 3) := by decide +kernel
theorem d_Mo_count_140 : decode b_Mo_count 140 = .ok (.ireturn, 1) := by decide +kernel
theorem d_Mo_count_141 : decode b_Mo_count 141 = .ok (.aload_n 0, 1) := by decide +kernel
theorem d_Mo_count_142 : decode b_Mo_count 142 = .ok (.getfield 155, 3) := by decide +kernel
theorem d_Mo_count_145 : decode b_Mo_count 145 = .ok (.ireturn, 1) := by decide +kernel
theorem d_Mo_count_146 : decode b_Mo_count 146 = .ok (.aload_n 0, 1) := by decide +kernel
theorem d_Mo_count_147 : decode b_Mo_count 147 = .ok (.getfield 116, 3) := by decide +kernel
theorem d_Mo_count_150 : decode b_Mo_count 150 = .ok (.ireturn, 1) := by decide +kernel
theorem d_Mo_count_151 : decode b_Mo_count 151 = .ok (.aload_n 0, 1) := by decide +kernel
theorem d_Mo_count_152 : decode b_Mo_count 152 = .ok (.getfield 122, 3) := by decide +kernel
theorem d_Mo_count_155 : decode b_Mo_count 155 = .ok (.ireturn, 1) := by decide +kernel
theorem d_Mo_count_156 : decode b_Mo_count 156 = .ok (.aload_n 0, 1) := by decide +kernel
theorem d_Mo_count_157 : decode b_Mo_count 157 = .ok (.getfield 125, 3) := by decide +kernel
theorem d_Mo_count_160 : decode b_Mo_count 160 = .ok (.ireturn, 1) := by decide +kernel
theorem d_Mo_count_161 : decode b_Mo_count 161 = .ok (.iload_n 2, 1) := by decide +kernel
theorem d_Mo_count_162 : decode b_Mo_count 162 = .ok (.ireturn, 1) := by decide +kernel
theorem d_Mo_count_163 : decode b_Mo_count 163 = .ok (.aload_n 0, 1) := by decide +kernel
theorem d_Mo_count_164 : decode b_Mo_count 164 = .ok (.getfield 171, 3) := by decide +kernel
theorem d_Mo_count_167 : decode b_Mo_count 167 = .ok (.ireturn, 1) := by decide +kernel
theorem d_Mo_count_168 : decode b_Mo_count 168 = .ok (.aload_n 0, 1) := by decide +kernel
theorem d_Mo_count_169 : decode b_Mo_count 169 = .ok (.getfield 168, 3) := by decide +kernel
theorem d_Mo_count_172 : decode b_Mo_count 172 = .ok (.ireturn, 1) := by decide +kernel
theorem d_Mo_count_173 : decode b_Mo_count 173 = .ok (.aload_n 0, 1) := by decide +kernel
theorem d_Mo_count_174 : decode b_Mo_count 174 = .ok (.getfield 80, 3) := by decide +kernel
theorem d_Mo_count_177 : decode b_Mo_count 177 = .ok (.iload_n 1, 1) := by decide +kernel
theorem d_Mo_count_178 : decode b_Mo_count 178 = .ok (.bipush 10, 2) := by decide +kernel
theorem d_Mo_count_180 : decode b_Mo_count 180 = .ok (.isub, 1) := by decide +kernel
theorem d_Mo_count_181 : decode b_Mo_count 181 = .ok (.iaload, 1) := by decide +kernel
theorem d_Mo_count_182 : decode b_Mo_count 182 = .ok (.ireturn, 1) := by decide +kernel
theorem d_Mo_count_183 : decode b_Mo_count 183 = .ok (.aload_n 0, 1) := by decide +kernel
theorem d_Mo_count_184 : decode b_Mo_count 184 = .ok (.getfield 68, 3) := by decide +kernel
theorem d_Mo_count_187 : decode b_Mo_count 187 = .ok (.iload_n 1, 1) := by decide +kernel
theorem d_Mo_count_188 : decode b_Mo_count 188 = .ok (.bipush 20, 2) := by decide +kernel
theorem d_Mo_count_190 : decode b_Mo_count 190 = .ok (.isub, 1) := by decide +kernel
theorem d_Mo_count_191 : decode b_Mo_count 191 = .ok (.iaload, 1) := by decide +kernel
theorem d_Mo_count_192 : decode b_Mo_count 192 = .ok (.ireturn, 1) := by decide +kernel
theorem d_Mo_count_193 : decode b_Mo_count 193 = .ok (.bipush (-2), 2) := by decide +kernel
theorem d_Mo_count_195 : decode b_Mo_count 195 = .ok (.ireturn, 1) := by decide +kernel
