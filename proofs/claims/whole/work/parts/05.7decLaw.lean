theorem dL_law_0 : decode code 0 = .ok (.new 7, 3) := by decide +kernel
theorem dL_law_3 : decode code 3 = .ok (.dup, 1) := by decide +kernel
theorem dL_law_4 : decode code 4 = .ok (.invokespecial 9, 3) := by decide +kernel
theorem dL_law_7 : decode code 7 = .ok (.astore_n 1, 1) := by decide +kernel
theorem dL_law_8 : decode code 8 = .ok (.new 10, 3) := by decide +kernel
theorem dL_law_11 : decode code 11 = .ok (.dup, 1) := by decide +kernel
theorem dL_law_12 : decode code 12 = .ok (.invokespecial 12, 3) := by decide +kernel
theorem dL_law_15 : decode code 15 = .ok (.astore_n 2, 1) := by decide +kernel
theorem dL_law_16 : decode code 16 = .ok (.iconst 0, 1) := by decide +kernel
theorem dL_law_17 : decode code 17 = .ok (.istore_n 3, 1) := by decide +kernel
theorem dL_law_18 : decode code 18 = .ok (.iload_n 3, 1) := by decide +kernel
theorem dL_law_19 : decode code 19 = .ok (.aload_n 0, 1) := by decide +kernel
theorem dL_law_20 : decode code 20 = .ok (.arraylength, 1) := by decide +kernel
theorem dL_law_21 : decode code 21 = .ok (.iconst 3, 1) := by decide +kernel
theorem dL_law_22 : decode code 22 = .ok (.isub, 1) := by decide +kernel
theorem dL_law_23 : decode code 23 = .ok (.if_icmp .gt 385, 3) := by decide +kernel
theorem dL_law_26 : decode code 26 = .ok (.aload_n 0, 1) := by decide +kernel
theorem dL_law_27 : decode code 27 = .ok (.iload_n 3, 1) := by decide +kernel
theorem dL_law_28 : decode code 28 = .ok (.iaload, 1) := by decide +kernel
theorem dL_law_29 : decode code 29 = .ok (.bipush 15, 2) := by decide +kernel
theorem dL_law_31 : decode code 31 = .ok (.iand, 1) := by decide +kernel
theorem dL_law_32 : decode code 32 = .ok (.tableswitch 370 0 11 #[64, 87, 120, 143, 166, 189, 222, 245, 268, 301, 334, 347], 64) := by decide +kernel
theorem dL_law_96 : decode code 96 = .ok (.aload_n 1, 1) := by decide +kernel
theorem dL_law_97 : decode code 97 = .ok (.aload_n 0, 1) := by decide +kernel
theorem dL_law_98 : decode code 98 = .ok (.iload_n 3, 1) := by decide +kernel
theorem dL_law_99 : decode code 99 = .ok (.iconst 1, 1) := by decide +kernel
theorem dL_law_100 : decode code 100 = .ok (.iadd, 1) := by decide +kernel
theorem dL_law_101 : decode code 101 = .ok (.iaload, 1) := by decide +kernel
theorem dL_law_102 : decode code 102 = .ok (.invokevirtual 13, 3) := by decide +kernel
theorem dL_law_105 : decode code 105 = .ok (.aload_n 2, 1) := by decide +kernel
theorem dL_law_106 : decode code 106 = .ok (.aload_n 0, 1) := by decide +kernel
theorem dL_law_107 : decode code 107 = .ok (.iload_n 3, 1) := by decide +kernel
theorem dL_law_108 : decode code 108 = .ok (.iconst 1, 1) := by decide +kernel
theorem dL_law_109 : decode code 109 = .ok (.iadd, 1) := by decide +kernel
theorem dL_law_110 : decode code 110 = .ok (.iaload, 1) := by decide +kernel
theorem dL_law_111 : decode code 111 = .ok (.invokevirtual 17, 3) := by decide +kernel
theorem dL_law_114 : decode code 114 = .ok (.if_icmp .eq 288, 3) := by decide +kernel
theorem dL_law_117 : decode code 117 = .ok (.iconst 0, 1) := by decide +kernel
theorem dL_law_118 : decode code 118 = .ok (.ireturn, 1) := by decide +kernel
theorem dL_law_119 : decode code 119 = .ok (.aload_n 1, 1) := by decide +kernel
theorem dL_law_120 : decode code 120 = .ok (.aload_n 0, 1) := by decide +kernel
theorem dL_law_121 : decode code 121 = .ok (.iload_n 3, 1) := by decide +kernel
theorem dL_law_122 : decode code 122 = .ok (.iconst 1, 1) := by decide +kernel
theorem dL_law_123 : decode code 123 = .ok (.iadd, 1) := by decide +kernel
theorem dL_law_124 : decode code 124 = .ok (.iaload, 1) := by decide +kernel
theorem dL_law_125 : decode code 125 = .ok (.aload_n 0, 1) := by decide +kernel
theorem dL_law_126 : decode code 126 = .ok (.iload_n 3, 1) := by decide +kernel
theorem dL_law_127 : decode code 127 = .ok (.iconst 2, 1) := by decide +kernel
theorem dL_law_128 : decode code 128 = .ok (.iadd, 1) := by decide +kernel
theorem dL_law_129 : decode code 129 = .ok (.iaload, 1) := by decide +kernel
theorem dL_law_130 : decode code 130 = .ok (.invokevirtual 18, 3) := by decide +kernel
theorem dL_law_133 : decode code 133 = .ok (.aload_n 2, 1) := by decide +kernel
theorem dL_law_134 : decode code 134 = .ok (.aload_n 0, 1) := by decide +kernel
theorem dL_law_135 : decode code 135 = .ok (.iload_n 3, 1) := by decide +kernel
theorem dL_law_136 : decode code 136 = .ok (.iconst 1, 1) := by decide +kernel
theorem dL_law_137 : decode code 137 = .ok (.iadd, 1) := by decide +kernel
theorem dL_law_138 : decode code 138 = .ok (.iaload, 1) := by decide +kernel
theorem dL_law_139 : decode code 139 = .ok (.aload_n 0, 1) := by decide +kernel
theorem dL_law_140 : decode code 140 = .ok (.iload_n 3, 1) := by decide +kernel
theorem dL_law_141 : decode code 141 = .ok (.iconst 2, 1) := by decide +kernel
theorem dL_law_142 : decode code 142 = .ok (.iadd, 1) := by decide +kernel
theorem dL_law_143 : decode code 143 = .ok (.iaload, 1) := by decide +kernel
theorem dL_law_144 : decode code 144 = .ok (.invokevirtual 22, 3) := by decide +kernel
theorem dL_law_147 : decode code 147 = .ok (.if_icmp .eq 255, 3) := by decide +kernel
theorem dL_law_150 : decode code 150 = .ok (.iconst 0, 1) := by decide +kernel
theorem dL_law_151 : decode code 151 = .ok (.ireturn, 1) := by decide +kernel
theorem dL_law_152 : decode code 152 = .ok (.aload_n 1, 1) := by decide +kernel
theorem dL_law_153 : decode code 153 = .ok (.aload_n 0, 1) := by decide +kernel
theorem dL_law_154 : decode code 154 = .ok (.iload_n 3, 1) := by decide +kernel
theorem dL_law_155 : decode code 155 = .ok (.iconst 1, 1) := by decide +kernel
theorem dL_law_156 : decode code 156 = .ok (.iadd, 1) := by decide +kernel
theorem dL_law_157 : decode code 157 = .ok (.iaload, 1) := by decide +kernel
theorem dL_law_158 : decode code 158 = .ok (.invokevirtual 23, 3) := by decide +kernel
theorem dL_law_161 : decode code 161 = .ok (.aload_n 2, 1) := by decide +kernel
theorem dL_law_162 : decode code 162 = .ok (.aload_n 0, 1) := by decide +kernel
theorem dL_law_163 : decode code 163 = .ok (.iload_n 3, 1) := by decide +kernel
theorem dL_law_164 : decode code 164 = .ok (.iconst 1, 1) := by decide +kernel
theorem dL_law_165 : decode code 165 = .ok (.iadd, 1) := by decide +kernel
theorem dL_law_166 : decode code 166 = .ok (.iaload, 1) := by decide +kernel
theorem dL_law_167 : decode code 167 = .ok (.invokevirtual 26, 3) := by decide +kernel
theorem dL_law_170 : decode code 170 = .ok (.if_icmp .eq 232, 3) := by decide +kernel
theorem dL_law_173 : decode code 173 = .ok (.iconst 0, 1) := by decide +kernel
theorem dL_law_174 : decode code 174 = .ok (.ireturn, 1) := by decide +kernel
theorem dL_law_175 : decode code 175 = .ok (.aload_n 1, 1) := by decide +kernel
theorem dL_law_176 : decode code 176 = .ok (.aload_n 0, 1) := by decide +kernel
theorem dL_law_177 : decode code 177 = .ok (.iload_n 3, 1) := by decide +kernel
theorem dL_law_178 : decode code 178 = .ok (.iconst 1, 1) := by decide +kernel
theorem dL_law_179 : decode code 179 = .ok (.iadd, 1) := by decide +kernel
theorem dL_law_180 : decode code 180 = .ok (.iaload, 1) := by decide +kernel
theorem dL_law_181 : decode code 181 = .ok (.invokevirtual 27, 3) := by decide +kernel
theorem dL_law_184 : decode code 184 = .ok (.aload_n 2, 1) := by decide +kernel
theorem dL_law_185 : decode code 185 = .ok (.aload_n 0, 1) := by decide +kernel
theorem dL_law_186 : decode code 186 = .ok (.iload_n 3, 1) := by decide +kernel
theorem dL_law_187 : decode code 187 = .ok (.iconst 1, 1) := by decide +kernel
theorem dL_law_188 : decode code 188 = .ok (.iadd, 1) := by decide +kernel
theorem dL_law_189 : decode code 189 = .ok (.iaload, 1) := by decide +kernel
theorem dL_law_190 : decode code 190 = .ok (.invokevirtual 31, 3) := by decide +kernel
theorem dL_law_193 : decode code 193 = .ok (.if_icmp .eq 209, 3) := by decide +kernel
theorem dL_law_196 : decode code 196 = .ok (.iconst 0, 1) := by decide +kernel
theorem dL_law_197 : decode code 197 = .ok (.ireturn, 1) := by decide +kernel
theorem dL_law_198 : decode code 198 = .ok (.aload_n 1, 1) := by decide +kernel
theorem dL_law_199 : decode code 199 = .ok (.aload_n 0, 1) := by decide +kernel
theorem dL_law_200 : decode code 200 = .ok (.iload_n 3, 1) := by decide +kernel
theorem dL_law_201 : decode code 201 = .ok (.iconst 1, 1) := by decide +kernel
theorem dL_law_202 : decode code 202 = .ok (.iadd, 1) := by decide +kernel
theorem dL_law_203 : decode code 203 = .ok (.iaload, 1) := by decide +kernel
theorem dL_law_204 : decode code 204 = .ok (.invokevirtual 32, 3) := by decide +kernel
theorem dL_law_207 : decode code 207 = .ok (.aload_n 2, 1) := by decide +kernel
theorem dL_law_208 : decode code 208 = .ok (.aload_n 0, 1) := by decide +kernel
theorem dL_law_209 : decode code 209 = .ok (.iload_n 3, 1) := by decide +kernel
theorem dL_law_210 : decode code 210 = .ok (.iconst 1, 1) := by decide +kernel
theorem dL_law_211 : decode code 211 = .ok (.iadd, 1) := by decide +kernel
theorem dL_law_212 : decode code 212 = .ok (.iaload, 1) := by decide +kernel
theorem dL_law_213 : decode code 213 = .ok (.invokevirtual 35, 3) := by decide +kernel
theorem dL_law_216 : decode code 216 = .ok (.if_icmp .eq 186, 3) := by decide +kernel
theorem dL_law_219 : decode code 219 = .ok (.iconst 0, 1) := by decide +kernel
theorem dL_law_220 : decode code 220 = .ok (.ireturn, 1) := by decide +kernel
theorem dL_law_221 : decode code 221 = .ok (.aload_n 1, 1) := by decide +kernel
theorem dL_law_222 : decode code 222 = .ok (.aload_n 0, 1) := by decide +kernel
theorem dL_law_223 : decode code 223 = .ok (.iload_n 3, 1) := by decide +kernel
theorem dL_law_224 : decode code 224 = .ok (.iconst 1, 1) := by decide +kernel
theorem dL_law_225 : decode code 225 = .ok (.iadd, 1) := by decide +kernel
theorem dL_law_226 : decode code 226 = .ok (.iaload, 1) := by decide +kernel
theorem dL_law_227 : decode code 227 = .ok (.aload_n 0, 1) := by decide +kernel
theorem dL_law_228 : decode code 228 = .ok (.iload_n 3, 1) := by decide +kernel
theorem dL_law_229 : decode code 229 = .ok (.iconst 2, 1) := by decide +kernel
theorem dL_law_230 : decode code 230 = .ok (.iadd, 1) := by decide +kernel
theorem dL_law_231 : decode code 231 = .ok (.iaload, 1) := by decide +kernel
theorem dL_law_232 : decode code 232 = .ok (.invokevirtual 36, 3) := by decide +kernel
theorem dL_law_235 : decode code 235 = .ok (.aload_n 2, 1) := by decide +kernel
theorem dL_law_236 : decode code 236 = .ok (.aload_n 0, 1) := by decide +kernel
theorem dL_law_237 : decode code 237 = .ok (.iload_n 3, 1) := by decide +kernel
theorem dL_law_238 : decode code 238 = .ok (.iconst 1, 1) := by decide +kernel
theorem dL_law_239 : decode code 239 = .ok (.iadd, 1) := by decide +kernel
theorem dL_law_240 : decode code 240 = .ok (.iaload, 1) := by decide +kernel
theorem dL_law_241 : decode code 241 = .ok (.aload_n 0, 1) := by decide +kernel
theorem dL_law_242 : decode code 242 = .ok (.iload_n 3, 1) := by decide +kernel
theorem dL_law_243 : decode code 243 = .ok (.iconst 2, 1) := by decide +kernel
theorem dL_law_244 : decode code 244 = .ok (.iadd, 1) := by decide +kernel
theorem dL_law_245 : decode code 245 = .ok (.iaload, 1) := by decide +kernel
theorem dL_law_246 : decode code 246 = .ok (.invokevirtual 40, 3) := by decide +kernel
theorem dL_law_249 : decode code 249 = .ok (.if_icmp .eq 153, 3) := by decide +kernel
theorem dL_law_252 : decode code 252 = .ok (.iconst 0, 1) := by decide +kernel
theorem dL_law_253 : decode code 253 = .ok (.ireturn, 1) := by decide +kernel
theorem dL_law_254 : decode code 254 = .ok (.aload_n 1, 1) := by decide +kernel
theorem dL_law_255 : decode code 255 = .ok (.aload_n 0, 1) := by decide +kernel
theorem dL_law_256 : decode code 256 = .ok (.iload_n 3, 1) := by decide +kernel
theorem dL_law_257 : decode code 257 = .ok (.iconst 1, 1) := by decide +kernel
theorem dL_law_258 : decode code 258 = .ok (.iadd, 1) := by decide +kernel
theorem dL_law_259 : decode code 259 = .ok (.iaload, 1) := by decide +kernel
theorem dL_law_260 : decode code 260 = .ok (.invokevirtual 41, 3) := by decide +kernel
theorem dL_law_263 : decode code 263 = .ok (.aload_n 2, 1) := by decide +kernel
theorem dL_law_264 : decode code 264 = .ok (.aload_n 0, 1) := by decide +kernel
theorem dL_law_265 : decode code 265 = .ok (.iload_n 3, 1) := by decide +kernel
theorem dL_law_266 : decode code 266 = .ok (.iconst 1, 1) := by decide +kernel
theorem dL_law_267 : decode code 267 = .ok (.iadd, 1) := by decide +kernel
theorem dL_law_268 : decode code 268 = .ok (.iaload, 1) := by decide +kernel
theorem dL_law_269 : decode code 269 = .ok (.invokevirtual 44, 3) := by decide +kernel
theorem dL_law_272 : decode code 272 = .ok (.if_icmp .eq 130, 3) := by decide +kernel
theorem dL_law_275 : decode code 275 = .ok (.iconst 0, 1) := by decide +kernel
theorem dL_law_276 : decode code 276 = .ok (.ireturn, 1) := by decide +kernel
theorem dL_law_277 : decode code 277 = .ok (.aload_n 1, 1) := by decide +kernel
theorem dL_law_278 : decode code 278 = .ok (.aload_n 0, 1) := by decide +kernel
theorem dL_law_279 : decode code 279 = .ok (.iload_n 3, 1) := by decide +kernel
theorem dL_law_280 : decode code 280 = .ok (.iconst 1, 1) := by decide +kernel
theorem dL_law_281 : decode code 281 = .ok (.iadd, 1) := by decide +kernel
theorem dL_law_282 : decode code 282 = .ok (.iaload, 1) := by decide +kernel
theorem dL_law_283 : decode code 283 = .ok (.invokevirtual 45, 3) := by decide +kernel
theorem dL_law_286 : decode code 286 = .ok (.aload_n 2, 1) := by decide +kernel
theorem dL_law_287 : decode code 287 = .ok (.aload_n 0, 1) := by decide +kernel
theorem dL_law_288 : decode code 288 = .ok (.iload_n 3, 1) := by decide +kernel
theorem dL_law_289 : decode code 289 = .ok (.iconst 1, 1) := by decide +kernel
theorem dL_law_290 : decode code 290 = .ok (.iadd, 1) := by decide +kernel
theorem dL_law_291 : decode code 291 = .ok (.iaload, 1) := by decide +kernel
theorem dL_law_292 : decode code 292 = .ok (.invokevirtual 48, 3) := by decide +kernel
theorem dL_law_295 : decode code 295 = .ok (.if_icmp .eq 107, 3) := by decide +kernel
theorem dL_law_298 : decode code 298 = .ok (.iconst 0, 1) := by decide +kernel
theorem dL_law_299 : decode code 299 = .ok (.ireturn, 1) := by decide +kernel
theorem dL_law_300 : decode code 300 = .ok (.aload_n 1, 1) := by decide +kernel
theorem dL_law_301 : decode code 301 = .ok (.aload_n 0, 1) := by decide +kernel
theorem dL_law_302 : decode code 302 = .ok (.iload_n 3, 1) := by decide +kernel
theorem dL_law_303 : decode code 303 = .ok (.iconst 1, 1) := by decide +kernel
theorem dL_law_304 : decode code 304 = .ok (.iadd, 1) := by decide +kernel
theorem dL_law_305 : decode code 305 = .ok (.iaload, 1) := by decide +kernel
theorem dL_law_306 : decode code 306 = .ok (.aload_n 0, 1) := by decide +kernel
theorem dL_law_307 : decode code 307 = .ok (.iload_n 3, 1) := by decide +kernel
theorem dL_law_308 : decode code 308 = .ok (.iconst 2, 1) := by decide +kernel
theorem dL_law_309 : decode code 309 = .ok (.iadd, 1) := by decide +kernel
theorem dL_law_310 : decode code 310 = .ok (.iaload, 1) := by decide +kernel
theorem dL_law_311 : decode code 311 = .ok (.invokevirtual 49, 3) := by decide +kernel
theorem dL_law_314 : decode code 314 = .ok (.aload_n 2, 1) := by decide +kernel
theorem dL_law_315 : decode code 315 = .ok (.aload_n 0, 1) := by decide +kernel
theorem dL_law_316 : decode code 316 = .ok (.iload_n 3, 1) := by decide +kernel
theorem dL_law_317 : decode code 317 = .ok (.iconst 1, 1) := by decide +kernel
theorem dL_law_318 : decode code 318 = .ok (.iadd, 1) := by decide +kernel
theorem dL_law_319 : decode code 319 = .ok (.iaload, 1) := by decide +kernel
theorem dL_law_320 : decode code 320 = .ok (.aload_n 0, 1) := by decide +kernel
theorem dL_law_321 : decode code 321 = .ok (.iload_n 3, 1) := by decide +kernel
theorem dL_law_322 : decode code 322 = .ok (.iconst 2, 1) := by decide +kernel
theorem dL_law_323 : decode code 323 = .ok (.iadd, 1) := by decide +kernel
theorem dL_law_324 : decode code 324 = .ok (.iaload, 1) := by decide +kernel
theorem dL_law_325 : decode code 325 = .ok (.invokevirtual 52, 3) := by decide +kernel
theorem dL_law_328 : decode code 328 = .ok (.if_icmp .eq 74, 3) := by decide +kernel
theorem dL_law_331 : decode code 331 = .ok (.iconst 0, 1) := by decide +kernel
theorem dL_law_332 : decode code 332 = .ok (.ireturn, 1) := by decide +kernel
theorem dL_law_333 : decode code 333 = .ok (.aload_n 1, 1) := by decide +kernel
theorem dL_law_334 : decode code 334 = .ok (.aload_n 0, 1) := by decide +kernel
theorem dL_law_335 : decode code 335 = .ok (.iload_n 3, 1) := by decide +kernel
theorem dL_law_336 : decode code 336 = .ok (.iconst 1, 1) := by decide +kernel
theorem dL_law_337 : decode code 337 = .ok (.iadd, 1) := by decide +kernel
theorem dL_law_338 : decode code 338 = .ok (.iaload, 1) := by decide +kernel
theorem dL_law_339 : decode code 339 = .ok (.aload_n 0, 1) := by decide +kernel
theorem dL_law_340 : decode code 340 = .ok (.iload_n 3, 1) := by decide +kernel
theorem dL_law_341 : decode code 341 = .ok (.iconst 2, 1) := by decide +kernel
theorem dL_law_342 : decode code 342 = .ok (.iadd, 1) := by decide +kernel
theorem dL_law_343 : decode code 343 = .ok (.iaload, 1) := by decide +kernel
theorem dL_law_344 : decode code 344 = .ok (.invokevirtual 53, 3) := by decide +kernel
theorem dL_law_347 : decode code 347 = .ok (.aload_n 2, 1) := by decide +kernel
theorem dL_law_348 : decode code 348 = .ok (.aload_n 0, 1) := by decide +kernel
theorem dL_law_349 : decode code 349 = .ok (.iload_n 3, 1) := by decide +kernel
theorem dL_law_350 : decode code 350 = .ok (.iconst 1, 1) := by decide +kernel
theorem dL_law_351 : decode code 351 = .ok (.iadd, 1) := by decide +kernel
theorem dL_law_352 : decode code 352 = .ok (.iaload, 1) := by decide +kernel
theorem dL_law_353 : decode code 353 = .ok (.aload_n 0, 1) := by decide +kernel
theorem dL_law_354 : decode code 354 = .ok (.iload_n 3, 1) := by decide +kernel
theorem dL_law_355 : decode code 355 = .ok (.iconst 2, 1) := by decide +kernel
theorem dL_law_356 : decode code 356 = .ok (.iadd, 1) := by decide +kernel
theorem dL_law_357 : decode code 357 = .ok (.iaload, 1) := by decide +kernel
theorem dL_law_358 : decode code 358 = .ok (.invokevirtual 56, 3) := by decide +kernel
theorem dL_law_361 : decode code 361 = .ok (.if_icmp .eq 41, 3) := by decide +kernel
theorem dL_law_364 : decode code 364 = .ok (.iconst 0, 1) := by decide +kernel
theorem dL_law_365 : decode code 365 = .ok (.ireturn, 1) := by decide +kernel
theorem dL_law_366 : decode code 366 = .ok (.aload_n 1, 1) := by decide +kernel
theorem dL_law_367 : decode code 367 = .ok (.invokevirtual 57, 3) := by decide +kernel
theorem dL_law_370 : decode code 370 = .ok (.aload_n 2, 1) := by decide +kernel
theorem dL_law_371 : decode code 371 = .ok (.invokevirtual 61, 3) := by decide +kernel
theorem dL_law_374 : decode code 374 = .ok (.if_icmp .eq 28, 3) := by decide +kernel
theorem dL_law_377 : decode code 377 = .ok (.iconst 0, 1) := by decide +kernel
theorem dL_law_378 : decode code 378 = .ok (.ireturn, 1) := by decide +kernel
theorem dL_law_379 : decode code 379 = .ok (.aload_n 1, 1) := by decide +kernel
theorem dL_law_380 : decode code 380 = .ok (.aload_n 0, 1) := by decide +kernel
theorem dL_law_381 : decode code 381 = .ok (.iload_n 3, 1) := by decide +kernel
theorem dL_law_382 : decode code 382 = .ok (.iconst 1, 1) := by decide +kernel
theorem dL_law_383 : decode code 383 = .ok (.iadd, 1) := by decide +kernel
theorem dL_law_384 : decode code 384 = .ok (.iaload, 1) := by decide +kernel
theorem dL_law_385 : decode code 385 = .ok (.invokevirtual 62, 3) := by decide +kernel
theorem dL_law_388 : decode code 388 = .ok (.aload_n 2, 1) := by decide +kernel
theorem dL_law_389 : decode code 389 = .ok (.aload_n 0, 1) := by decide +kernel
theorem dL_law_390 : decode code 390 = .ok (.iload_n 3, 1) := by decide +kernel
theorem dL_law_391 : decode code 391 = .ok (.iconst 1, 1) := by decide +kernel
theorem dL_law_392 : decode code 392 = .ok (.iadd, 1) := by decide +kernel
theorem dL_law_393 : decode code 393 = .ok (.iaload, 1) := by decide +kernel
theorem dL_law_394 : decode code 394 = .ok (.invokevirtual 65, 3) := by decide +kernel
theorem dL_law_397 : decode code 397 = .ok (.if_icmp .eq 5, 3) := by decide +kernel
theorem dL_law_400 : decode code 400 = .ok (.iconst 0, 1) := by decide +kernel
theorem dL_law_401 : decode code 401 = .ok (.ireturn, 1) := by decide +kernel
theorem dL_law_402 : decode code 402 = .ok (.iinc 3 3, 3) := by decide +kernel
theorem dL_law_405 : decode code 405 = .ok (.goto (-387), 3) := by decide +kernel
theorem dL_law_408 : decode code 408 = .ok (.iconst 1, 1) := by decide +kernel
theorem dL_law_409 : decode code 409 = .ok (.ireturn, 1) := by decide +kernel
