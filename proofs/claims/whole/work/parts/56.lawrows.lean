/-! The law: decode rows, written by genlaw.py. -/
theorem d_law_0 : decode code 0 = .ok (.new 7, 3) := by decide +kernel
theorem d_law_3 : decode code 3 = .ok (.dup, 1) := by decide +kernel
theorem d_law_4 : decode code 4 = .ok (.invokespecial 9, 3) := by decide +kernel
theorem d_law_7 : decode code 7 = .ok (.astore_n 1, 1) := by decide +kernel
theorem d_law_8 : decode code 8 = .ok (.new 10, 3) := by decide +kernel
theorem d_law_11 : decode code 11 = .ok (.dup, 1) := by decide +kernel
theorem d_law_12 : decode code 12 = .ok (.invokespecial 12, 3) := by decide +kernel
theorem d_law_15 : decode code 15 = .ok (.astore_n 2, 1) := by decide +kernel
theorem d_law_16 : decode code 16 = .ok (.iconst 0, 1) := by decide +kernel
theorem d_law_17 : decode code 17 = .ok (.istore_n 3, 1) := by decide +kernel
theorem d_law_18 : decode code 18 = .ok (.iload_n 3, 1) := by decide +kernel
theorem d_law_19 : decode code 19 = .ok (.aload_n 0, 1) := by decide +kernel
theorem d_law_20 : decode code 20 = .ok (.arraylength, 1) := by decide +kernel
theorem d_law_21 : decode code 21 = .ok (.bipush 8, 2) := by decide +kernel
theorem d_law_23 : decode code 23 = .ok (.isub, 1) := by decide +kernel
theorem d_law_24 : decode code 24 = .ok (.if_icmp .gt 557, 3) := by decide +kernel
theorem d_law_27 : decode code 27 = .ok (.aload_n 0, 1) := by decide +kernel
theorem d_law_28 : decode code 28 = .ok (.iload_n 3, 1) := by decide +kernel
theorem d_law_29 : decode code 29 = .ok (.iaload, 1) := by decide +kernel
theorem d_law_30 : decode code 30 = .ok (.bipush 15, 2) := by decide +kernel
theorem d_law_32 : decode code 32 = .ok (.iand, 1) := by decide +kernel
theorem d_law_33 : decode code 33 = .ok (.tableswitch 542 0 10 #[59, 92, 135, 242, 265, 298, 347, 370, 423, 456, 519], 59) := by decide +kernel
theorem d_law_92 : decode code 92 = .ok (.aload_n 1, 1) := by decide +kernel
theorem d_law_93 : decode code 93 = .ok (.aload_n 0, 1) := by decide +kernel
theorem d_law_94 : decode code 94 = .ok (.iload_n 3, 1) := by decide +kernel
theorem d_law_95 : decode code 95 = .ok (.iconst 1, 1) := by decide +kernel
theorem d_law_96 : decode code 96 = .ok (.iadd, 1) := by decide +kernel
theorem d_law_97 : decode code 97 = .ok (.iaload, 1) := by decide +kernel
theorem d_law_98 : decode code 98 = .ok (.aload_n 0, 1) := by decide +kernel
theorem d_law_99 : decode code 99 = .ok (.iload_n 3, 1) := by decide +kernel
theorem d_law_100 : decode code 100 = .ok (.iconst 2, 1) := by decide +kernel
theorem d_law_101 : decode code 101 = .ok (.iadd, 1) := by decide +kernel
theorem d_law_102 : decode code 102 = .ok (.iaload, 1) := by decide +kernel
theorem d_law_103 : decode code 103 = .ok (.invokevirtual 13, 3) := by decide +kernel
theorem d_law_106 : decode code 106 = .ok (.aload_n 2, 1) := by decide +kernel
theorem d_law_107 : decode code 107 = .ok (.aload_n 0, 1) := by decide +kernel
theorem d_law_108 : decode code 108 = .ok (.iload_n 3, 1) := by decide +kernel
theorem d_law_109 : decode code 109 = .ok (.iconst 1, 1) := by decide +kernel
theorem d_law_110 : decode code 110 = .ok (.iadd, 1) := by decide +kernel
theorem d_law_111 : decode code 111 = .ok (.iaload, 1) := by decide +kernel
theorem d_law_112 : decode code 112 = .ok (.aload_n 0, 1) := by decide +kernel
theorem d_law_113 : decode code 113 = .ok (.iload_n 3, 1) := by decide +kernel
theorem d_law_114 : decode code 114 = .ok (.iconst 2, 1) := by decide +kernel
theorem d_law_115 : decode code 115 = .ok (.iadd, 1) := by decide +kernel
theorem d_law_116 : decode code 116 = .ok (.iaload, 1) := by decide +kernel
theorem d_law_117 : decode code 117 = .ok (.invokevirtual 17, 3) := by decide +kernel
theorem d_law_120 : decode code 120 = .ok (.if_icmp .eq 455, 3) := by decide +kernel
theorem d_law_123 : decode code 123 = .ok (.iconst 0, 1) := by decide +kernel
theorem d_law_124 : decode code 124 = .ok (.ireturn, 1) := by decide +kernel
theorem d_law_125 : decode code 125 = .ok (.aload_n 1, 1) := by decide +kernel
theorem d_law_126 : decode code 126 = .ok (.aload_n 0, 1) := by decide +kernel
theorem d_law_127 : decode code 127 = .ok (.iload_n 3, 1) := by decide +kernel
theorem d_law_128 : decode code 128 = .ok (.iconst 1, 1) := by decide +kernel
theorem d_law_129 : decode code 129 = .ok (.iadd, 1) := by decide +kernel
theorem d_law_130 : decode code 130 = .ok (.iaload, 1) := by decide +kernel
theorem d_law_131 : decode code 131 = .ok (.aload_n 0, 1) := by decide +kernel
theorem d_law_132 : decode code 132 = .ok (.iload_n 3, 1) := by decide +kernel
theorem d_law_133 : decode code 133 = .ok (.iconst 2, 1) := by decide +kernel
theorem d_law_134 : decode code 134 = .ok (.iadd, 1) := by decide +kernel
theorem d_law_135 : decode code 135 = .ok (.iaload, 1) := by decide +kernel
theorem d_law_136 : decode code 136 = .ok (.aload_n 0, 1) := by decide +kernel
theorem d_law_137 : decode code 137 = .ok (.iload_n 3, 1) := by decide +kernel
theorem d_law_138 : decode code 138 = .ok (.iconst 3, 1) := by decide +kernel
theorem d_law_139 : decode code 139 = .ok (.iadd, 1) := by decide +kernel
theorem d_law_140 : decode code 140 = .ok (.iaload, 1) := by decide +kernel
theorem d_law_141 : decode code 141 = .ok (.invokevirtual 18, 3) := by decide +kernel
theorem d_law_144 : decode code 144 = .ok (.aload_n 2, 1) := by decide +kernel
theorem d_law_145 : decode code 145 = .ok (.aload_n 0, 1) := by decide +kernel
theorem d_law_146 : decode code 146 = .ok (.iload_n 3, 1) := by decide +kernel
theorem d_law_147 : decode code 147 = .ok (.iconst 1, 1) := by decide +kernel
theorem d_law_148 : decode code 148 = .ok (.iadd, 1) := by decide +kernel
theorem d_law_149 : decode code 149 = .ok (.iaload, 1) := by decide +kernel
theorem d_law_150 : decode code 150 = .ok (.aload_n 0, 1) := by decide +kernel
theorem d_law_151 : decode code 151 = .ok (.iload_n 3, 1) := by decide +kernel
theorem d_law_152 : decode code 152 = .ok (.iconst 2, 1) := by decide +kernel
theorem d_law_153 : decode code 153 = .ok (.iadd, 1) := by decide +kernel
theorem d_law_154 : decode code 154 = .ok (.iaload, 1) := by decide +kernel
theorem d_law_155 : decode code 155 = .ok (.aload_n 0, 1) := by decide +kernel
theorem d_law_156 : decode code 156 = .ok (.iload_n 3, 1) := by decide +kernel
theorem d_law_157 : decode code 157 = .ok (.iconst 3, 1) := by decide +kernel
theorem d_law_158 : decode code 158 = .ok (.iadd, 1) := by decide +kernel
theorem d_law_159 : decode code 159 = .ok (.iaload, 1) := by decide +kernel
theorem d_law_160 : decode code 160 = .ok (.invokevirtual 22, 3) := by decide +kernel
theorem d_law_163 : decode code 163 = .ok (.if_icmp .eq 412, 3) := by decide +kernel
theorem d_law_166 : decode code 166 = .ok (.iconst 0, 1) := by decide +kernel
theorem d_law_167 : decode code 167 = .ok (.ireturn, 1) := by decide +kernel
theorem d_law_168 : decode code 168 = .ok (.aload_n 1, 1) := by decide +kernel
theorem d_law_169 : decode code 169 = .ok (.aload_n 0, 1) := by decide +kernel
theorem d_law_170 : decode code 170 = .ok (.iload_n 3, 1) := by decide +kernel
theorem d_law_171 : decode code 171 = .ok (.iconst 1, 1) := by decide +kernel
theorem d_law_172 : decode code 172 = .ok (.iadd, 1) := by decide +kernel
theorem d_law_173 : decode code 173 = .ok (.iaload, 1) := by decide +kernel
theorem d_law_174 : decode code 174 = .ok (.aload_n 0, 1) := by decide +kernel
theorem d_law_175 : decode code 175 = .ok (.iload_n 3, 1) := by decide +kernel
theorem d_law_176 : decode code 176 = .ok (.iconst 2, 1) := by decide +kernel
theorem d_law_177 : decode code 177 = .ok (.iadd, 1) := by decide +kernel
theorem d_law_178 : decode code 178 = .ok (.iaload, 1) := by decide +kernel
theorem d_law_179 : decode code 179 = .ok (.aload_n 0, 1) := by decide +kernel
theorem d_law_180 : decode code 180 = .ok (.iload_n 3, 1) := by decide +kernel
theorem d_law_181 : decode code 181 = .ok (.iconst 3, 1) := by decide +kernel
theorem d_law_182 : decode code 182 = .ok (.iadd, 1) := by decide +kernel
theorem d_law_183 : decode code 183 = .ok (.iaload, 1) := by decide +kernel
theorem d_law_184 : decode code 184 = .ok (.aload_n 0, 1) := by decide +kernel
theorem d_law_185 : decode code 185 = .ok (.iload_n 3, 1) := by decide +kernel
theorem d_law_186 : decode code 186 = .ok (.iconst 4, 1) := by decide +kernel
theorem d_law_187 : decode code 187 = .ok (.iadd, 1) := by decide +kernel
theorem d_law_188 : decode code 188 = .ok (.iaload, 1) := by decide +kernel
theorem d_law_189 : decode code 189 = .ok (.aload_n 0, 1) := by decide +kernel
theorem d_law_190 : decode code 190 = .ok (.iload_n 3, 1) := by decide +kernel
theorem d_law_191 : decode code 191 = .ok (.iconst 5, 1) := by decide +kernel
theorem d_law_192 : decode code 192 = .ok (.iadd, 1) := by decide +kernel
theorem d_law_193 : decode code 193 = .ok (.iaload, 1) := by decide +kernel
theorem d_law_194 : decode code 194 = .ok (.aload_n 0, 1) := by decide +kernel
theorem d_law_195 : decode code 195 = .ok (.iload_n 3, 1) := by decide +kernel
theorem d_law_196 : decode code 196 = .ok (.bipush 6, 2) := by decide +kernel
theorem d_law_198 : decode code 198 = .ok (.iadd, 1) := by decide +kernel
theorem d_law_199 : decode code 199 = .ok (.iaload, 1) := by decide +kernel
theorem d_law_200 : decode code 200 = .ok (.i2l, 1) := by decide +kernel
theorem d_law_201 : decode code 201 = .ok (.bipush 32, 2) := by decide +kernel
theorem d_law_203 : decode code 203 = .ok (.lshl, 1) := by decide +kernel
theorem d_law_204 : decode code 204 = .ok (.aload_n 0, 1) := by decide +kernel
theorem d_law_205 : decode code 205 = .ok (.iload_n 3, 1) := by decide +kernel
theorem d_law_206 : decode code 206 = .ok (.bipush 7, 2) := by decide +kernel
theorem d_law_208 : decode code 208 = .ok (.iadd, 1) := by decide +kernel
theorem d_law_209 : decode code 209 = .ok (.iaload, 1) := by decide +kernel
theorem d_law_210 : decode code 210 = .ok (.i2l, 1) := by decide +kernel
theorem d_law_211 : decode code 211 = .ok (.ldc2_w 23, 3) := by decide +kernel
theorem d_law_214 : decode code 214 = .ok (.land, 1) := by decide +kernel
theorem d_law_215 : decode code 215 = .ok (.lor, 1) := by decide +kernel
theorem d_law_216 : decode code 216 = .ok (.invokevirtual 25, 3) := by decide +kernel
theorem d_law_219 : decode code 219 = .ok (.aload_n 2, 1) := by decide +kernel
theorem d_law_220 : decode code 220 = .ok (.aload_n 0, 1) := by decide +kernel
theorem d_law_221 : decode code 221 = .ok (.iload_n 3, 1) := by decide +kernel
theorem d_law_222 : decode code 222 = .ok (.iconst 1, 1) := by decide +kernel
theorem d_law_223 : decode code 223 = .ok (.iadd, 1) := by decide +kernel
theorem d_law_224 : decode code 224 = .ok (.iaload, 1) := by decide +kernel
theorem d_law_225 : decode code 225 = .ok (.aload_n 0, 1) := by decide +kernel
theorem d_law_226 : decode code 226 = .ok (.iload_n 3, 1) := by decide +kernel
theorem d_law_227 : decode code 227 = .ok (.iconst 2, 1) := by decide +kernel
theorem d_law_228 : decode code 228 = .ok (.iadd, 1) := by decide +kernel
theorem d_law_229 : decode code 229 = .ok (.iaload, 1) := by decide +kernel
theorem d_law_230 : decode code 230 = .ok (.aload_n 0, 1) := by decide +kernel
theorem d_law_231 : decode code 231 = .ok (.iload_n 3, 1) := by decide +kernel
theorem d_law_232 : decode code 232 = .ok (.iconst 3, 1) := by decide +kernel
theorem d_law_233 : decode code 233 = .ok (.iadd, 1) := by decide +kernel
theorem d_law_234 : decode code 234 = .ok (.iaload, 1) := by decide +kernel
theorem d_law_235 : decode code 235 = .ok (.aload_n 0, 1) := by decide +kernel
theorem d_law_236 : decode code 236 = .ok (.iload_n 3, 1) := by decide +kernel
theorem d_law_237 : decode code 237 = .ok (.iconst 4, 1) := by decide +kernel
theorem d_law_238 : decode code 238 = .ok (.iadd, 1) := by decide +kernel
theorem d_law_239 : decode code 239 = .ok (.iaload, 1) := by decide +kernel
theorem d_law_240 : decode code 240 = .ok (.aload_n 0, 1) := by decide +kernel
theorem d_law_241 : decode code 241 = .ok (.iload_n 3, 1) := by decide +kernel
theorem d_law_242 : decode code 242 = .ok (.iconst 5, 1) := by decide +kernel
theorem d_law_243 : decode code 243 = .ok (.iadd, 1) := by decide +kernel
theorem d_law_244 : decode code 244 = .ok (.iaload, 1) := by decide +kernel
theorem d_law_245 : decode code 245 = .ok (.aload_n 0, 1) := by decide +kernel
theorem d_law_246 : decode code 246 = .ok (.iload_n 3, 1) := by decide +kernel
theorem d_law_247 : decode code 247 = .ok (.bipush 6, 2) := by decide +kernel
theorem d_law_249 : decode code 249 = .ok (.iadd, 1) := by decide +kernel
theorem d_law_250 : decode code 250 = .ok (.iaload, 1) := by decide +kernel
theorem d_law_251 : decode code 251 = .ok (.i2l, 1) := by decide +kernel
theorem d_law_252 : decode code 252 = .ok (.bipush 32, 2) := by decide +kernel
theorem d_law_254 : decode code 254 = .ok (.lshl, 1) := by decide +kernel
theorem d_law_255 : decode code 255 = .ok (.aload_n 0, 1) := by decide +kernel
theorem d_law_256 : decode code 256 = .ok (.iload_n 3, 1) := by decide +kernel
theorem d_law_257 : decode code 257 = .ok (.bipush 7, 2) := by decide +kernel
theorem d_law_259 : decode code 259 = .ok (.iadd, 1) := by decide +kernel
theorem d_law_260 : decode code 260 = .ok (.iaload, 1) := by decide +kernel
theorem d_law_261 : decode code 261 = .ok (.i2l, 1) := by decide +kernel
theorem d_law_262 : decode code 262 = .ok (.ldc2_w 23, 3) := by decide +kernel
theorem d_law_265 : decode code 265 = .ok (.land, 1) := by decide +kernel
theorem d_law_266 : decode code 266 = .ok (.lor, 1) := by decide +kernel
theorem d_law_267 : decode code 267 = .ok (.invokevirtual 29, 3) := by decide +kernel
theorem d_law_270 : decode code 270 = .ok (.if_icmp .eq 305, 3) := by decide +kernel
theorem d_law_273 : decode code 273 = .ok (.iconst 0, 1) := by decide +kernel
theorem d_law_274 : decode code 274 = .ok (.ireturn, 1) := by decide +kernel
theorem d_law_275 : decode code 275 = .ok (.aload_n 1, 1) := by decide +kernel
theorem d_law_276 : decode code 276 = .ok (.aload_n 0, 1) := by decide +kernel
theorem d_law_277 : decode code 277 = .ok (.iload_n 3, 1) := by decide +kernel
theorem d_law_278 : decode code 278 = .ok (.iconst 1, 1) := by decide +kernel
theorem d_law_279 : decode code 279 = .ok (.iadd, 1) := by decide +kernel
theorem d_law_280 : decode code 280 = .ok (.iaload, 1) := by decide +kernel
theorem d_law_281 : decode code 281 = .ok (.invokevirtual 30, 3) := by decide +kernel
theorem d_law_284 : decode code 284 = .ok (.aload_n 2, 1) := by decide +kernel
theorem d_law_285 : decode code 285 = .ok (.aload_n 0, 1) := by decide +kernel
theorem d_law_286 : decode code 286 = .ok (.iload_n 3, 1) := by decide +kernel
theorem d_law_287 : decode code 287 = .ok (.iconst 1, 1) := by decide +kernel
theorem d_law_288 : decode code 288 = .ok (.iadd, 1) := by decide +kernel
theorem d_law_289 : decode code 289 = .ok (.iaload, 1) := by decide +kernel
theorem d_law_290 : decode code 290 = .ok (.invokevirtual 34, 3) := by decide +kernel
theorem d_law_293 : decode code 293 = .ok (.if_icmp .eq 282, 3) := by decide +kernel
theorem d_law_296 : decode code 296 = .ok (.iconst 0, 1) := by decide +kernel
theorem d_law_297 : decode code 297 = .ok (.ireturn, 1) := by decide +kernel
theorem d_law_298 : decode code 298 = .ok (.aload_n 1, 1) := by decide +kernel
theorem d_law_299 : decode code 299 = .ok (.aload_n 0, 1) := by decide +kernel
theorem d_law_300 : decode code 300 = .ok (.iload_n 3, 1) := by decide +kernel
theorem d_law_301 : decode code 301 = .ok (.iconst 1, 1) := by decide +kernel
theorem d_law_302 : decode code 302 = .ok (.iadd, 1) := by decide +kernel
theorem d_law_303 : decode code 303 = .ok (.iaload, 1) := by decide +kernel
theorem d_law_304 : decode code 304 = .ok (.aload_n 0, 1) := by decide +kernel
theorem d_law_305 : decode code 305 = .ok (.iload_n 3, 1) := by decide +kernel
theorem d_law_306 : decode code 306 = .ok (.iconst 2, 1) := by decide +kernel
theorem d_law_307 : decode code 307 = .ok (.iadd, 1) := by decide +kernel
theorem d_law_308 : decode code 308 = .ok (.iaload, 1) := by decide +kernel
theorem d_law_309 : decode code 309 = .ok (.invokevirtual 35, 3) := by decide +kernel
theorem d_law_312 : decode code 312 = .ok (.aload_n 2, 1) := by decide +kernel
theorem d_law_313 : decode code 313 = .ok (.aload_n 0, 1) := by decide +kernel
theorem d_law_314 : decode code 314 = .ok (.iload_n 3, 1) := by decide +kernel
theorem d_law_315 : decode code 315 = .ok (.iconst 1, 1) := by decide +kernel
theorem d_law_316 : decode code 316 = .ok (.iadd, 1) := by decide +kernel
theorem d_law_317 : decode code 317 = .ok (.iaload, 1) := by decide +kernel
theorem d_law_318 : decode code 318 = .ok (.aload_n 0, 1) := by decide +kernel
theorem d_law_319 : decode code 319 = .ok (.iload_n 3, 1) := by decide +kernel
theorem d_law_320 : decode code 320 = .ok (.iconst 2, 1) := by decide +kernel
theorem d_law_321 : decode code 321 = .ok (.iadd, 1) := by decide +kernel
theorem d_law_322 : decode code 322 = .ok (.iaload, 1) := by decide +kernel
theorem d_law_323 : decode code 323 = .ok (.invokevirtual 38, 3) := by decide +kernel
theorem d_law_326 : decode code 326 = .ok (.if_icmp .eq 249, 3) := by decide +kernel
theorem d_law_329 : decode code 329 = .ok (.iconst 0, 1) := by decide +kernel
theorem d_law_330 : decode code 330 = .ok (.ireturn, 1) := by decide +kernel
theorem d_law_331 : decode code 331 = .ok (.aload_n 1, 1) := by decide +kernel
theorem d_law_332 : decode code 332 = .ok (.aload_n 0, 1) := by decide +kernel
theorem d_law_333 : decode code 333 = .ok (.iload_n 3, 1) := by decide +kernel
theorem d_law_334 : decode code 334 = .ok (.iconst 1, 1) := by decide +kernel
theorem d_law_335 : decode code 335 = .ok (.iadd, 1) := by decide +kernel
theorem d_law_336 : decode code 336 = .ok (.iaload, 1) := by decide +kernel
theorem d_law_337 : decode code 337 = .ok (.aload_n 0, 1) := by decide +kernel
theorem d_law_338 : decode code 338 = .ok (.iload_n 3, 1) := by decide +kernel
theorem d_law_339 : decode code 339 = .ok (.iconst 2, 1) := by decide +kernel
theorem d_law_340 : decode code 340 = .ok (.iadd, 1) := by decide +kernel
theorem d_law_341 : decode code 341 = .ok (.iaload, 1) := by decide +kernel
theorem d_law_342 : decode code 342 = .ok (.ifCond .eq 7, 3) := by decide +kernel
theorem d_law_345 : decode code 345 = .ok (.iconst 1, 1) := by decide +kernel
theorem d_law_346 : decode code 346 = .ok (.goto 4, 3) := by decide +kernel
theorem d_law_349 : decode code 349 = .ok (.iconst 0, 1) := by decide +kernel
theorem d_law_350 : decode code 350 = .ok (.invokevirtual 39, 3) := by decide +kernel
theorem d_law_353 : decode code 353 = .ok (.aload_n 2, 1) := by decide +kernel
theorem d_law_354 : decode code 354 = .ok (.aload_n 0, 1) := by decide +kernel
theorem d_law_355 : decode code 355 = .ok (.iload_n 3, 1) := by decide +kernel
theorem d_law_356 : decode code 356 = .ok (.iconst 1, 1) := by decide +kernel
theorem d_law_357 : decode code 357 = .ok (.iadd, 1) := by decide +kernel
theorem d_law_358 : decode code 358 = .ok (.iaload, 1) := by decide +kernel
theorem d_law_359 : decode code 359 = .ok (.aload_n 0, 1) := by decide +kernel
theorem d_law_360 : decode code 360 = .ok (.iload_n 3, 1) := by decide +kernel
theorem d_law_361 : decode code 361 = .ok (.iconst 2, 1) := by decide +kernel
theorem d_law_362 : decode code 362 = .ok (.iadd, 1) := by decide +kernel
theorem d_law_363 : decode code 363 = .ok (.iaload, 1) := by decide +kernel
theorem d_law_364 : decode code 364 = .ok (.ifCond .eq 7, 3) := by decide +kernel
theorem d_law_367 : decode code 367 = .ok (.iconst 1, 1) := by decide +kernel
theorem d_law_368 : decode code 368 = .ok (.goto 4, 3) := by decide +kernel
theorem d_law_371 : decode code 371 = .ok (.iconst 0, 1) := by decide +kernel
theorem d_law_372 : decode code 372 = .ok (.invokevirtual 43, 3) := by decide +kernel
theorem d_law_375 : decode code 375 = .ok (.if_icmp .eq 200, 3) := by decide +kernel
theorem d_law_378 : decode code 378 = .ok (.iconst 0, 1) := by decide +kernel
theorem d_law_379 : decode code 379 = .ok (.ireturn, 1) := by decide +kernel
theorem d_law_380 : decode code 380 = .ok (.aload_n 1, 1) := by decide +kernel
theorem d_law_381 : decode code 381 = .ok (.aload_n 0, 1) := by decide +kernel
theorem d_law_382 : decode code 382 = .ok (.iload_n 3, 1) := by decide +kernel
theorem d_law_383 : decode code 383 = .ok (.iconst 1, 1) := by decide +kernel
theorem d_law_384 : decode code 384 = .ok (.iadd, 1) := by decide +kernel
theorem d_law_385 : decode code 385 = .ok (.iaload, 1) := by decide +kernel
theorem d_law_386 : decode code 386 = .ok (.invokevirtual 44, 3) := by decide +kernel
theorem d_law_389 : decode code 389 = .ok (.aload_n 2, 1) := by decide +kernel
theorem d_law_390 : decode code 390 = .ok (.aload_n 0, 1) := by decide +kernel
theorem d_law_391 : decode code 391 = .ok (.iload_n 3, 1) := by decide +kernel
theorem d_law_392 : decode code 392 = .ok (.iconst 1, 1) := by decide +kernel
theorem d_law_393 : decode code 393 = .ok (.iadd, 1) := by decide +kernel
theorem d_law_394 : decode code 394 = .ok (.iaload, 1) := by decide +kernel
theorem d_law_395 : decode code 395 = .ok (.invokevirtual 47, 3) := by decide +kernel
theorem d_law_398 : decode code 398 = .ok (.if_icmp .eq 177, 3) := by decide +kernel
theorem d_law_401 : decode code 401 = .ok (.iconst 0, 1) := by decide +kernel
theorem d_law_402 : decode code 402 = .ok (.ireturn, 1) := by decide +kernel
theorem d_law_403 : decode code 403 = .ok (.aload_n 1, 1) := by decide +kernel
theorem d_law_404 : decode code 404 = .ok (.aload_n 0, 1) := by decide +kernel
theorem d_law_405 : decode code 405 = .ok (.iload_n 3, 1) := by decide +kernel
theorem d_law_406 : decode code 406 = .ok (.iconst 1, 1) := by decide +kernel
theorem d_law_407 : decode code 407 = .ok (.iadd, 1) := by decide +kernel
theorem d_law_408 : decode code 408 = .ok (.iaload, 1) := by decide +kernel
theorem d_law_409 : decode code 409 = .ok (.i2l, 1) := by decide +kernel
theorem d_law_410 : decode code 410 = .ok (.bipush 32, 2) := by decide +kernel
theorem d_law_412 : decode code 412 = .ok (.lshl, 1) := by decide +kernel
theorem d_law_413 : decode code 413 = .ok (.aload_n 0, 1) := by decide +kernel
theorem d_law_414 : decode code 414 = .ok (.iload_n 3, 1) := by decide +kernel
theorem d_law_415 : decode code 415 = .ok (.iconst 2, 1) := by decide +kernel
theorem d_law_416 : decode code 416 = .ok (.iadd, 1) := by decide +kernel
theorem d_law_417 : decode code 417 = .ok (.iaload, 1) := by decide +kernel
theorem d_law_418 : decode code 418 = .ok (.i2l, 1) := by decide +kernel
theorem d_law_419 : decode code 419 = .ok (.ldc2_w 23, 3) := by decide +kernel
theorem d_law_422 : decode code 422 = .ok (.land, 1) := by decide +kernel
theorem d_law_423 : decode code 423 = .ok (.lor, 1) := by decide +kernel
theorem d_law_424 : decode code 424 = .ok (.invokevirtual 48, 3) := by decide +kernel
theorem d_law_427 : decode code 427 = .ok (.aload_n 2, 1) := by decide +kernel
theorem d_law_428 : decode code 428 = .ok (.aload_n 0, 1) := by decide +kernel
theorem d_law_429 : decode code 429 = .ok (.iload_n 3, 1) := by decide +kernel
theorem d_law_430 : decode code 430 = .ok (.iconst 1, 1) := by decide +kernel
theorem d_law_431 : decode code 431 = .ok (.iadd, 1) := by decide +kernel
theorem d_law_432 : decode code 432 = .ok (.iaload, 1) := by decide +kernel
theorem d_law_433 : decode code 433 = .ok (.i2l, 1) := by decide +kernel
theorem d_law_434 : decode code 434 = .ok (.bipush 32, 2) := by decide +kernel
theorem d_law_436 : decode code 436 = .ok (.lshl, 1) := by decide +kernel
theorem d_law_437 : decode code 437 = .ok (.aload_n 0, 1) := by decide +kernel
theorem d_law_438 : decode code 438 = .ok (.iload_n 3, 1) := by decide +kernel
theorem d_law_439 : decode code 439 = .ok (.iconst 2, 1) := by decide +kernel
theorem d_law_440 : decode code 440 = .ok (.iadd, 1) := by decide +kernel
theorem d_law_441 : decode code 441 = .ok (.iaload, 1) := by decide +kernel
theorem d_law_442 : decode code 442 = .ok (.i2l, 1) := by decide +kernel
theorem d_law_443 : decode code 443 = .ok (.ldc2_w 23, 3) := by decide +kernel
theorem d_law_446 : decode code 446 = .ok (.land, 1) := by decide +kernel
theorem d_law_447 : decode code 447 = .ok (.lor, 1) := by decide +kernel
theorem d_law_448 : decode code 448 = .ok (.invokevirtual 52, 3) := by decide +kernel
theorem d_law_451 : decode code 451 = .ok (.if_icmp .eq 124, 3) := by decide +kernel
theorem d_law_454 : decode code 454 = .ok (.iconst 0, 1) := by decide +kernel
theorem d_law_455 : decode code 455 = .ok (.ireturn, 1) := by decide +kernel
theorem d_law_456 : decode code 456 = .ok (.aload_n 1, 1) := by decide +kernel
theorem d_law_457 : decode code 457 = .ok (.aload_n 0, 1) := by decide +kernel
theorem d_law_458 : decode code 458 = .ok (.iload_n 3, 1) := by decide +kernel
theorem d_law_459 : decode code 459 = .ok (.iconst 1, 1) := by decide +kernel
theorem d_law_460 : decode code 460 = .ok (.iadd, 1) := by decide +kernel
theorem d_law_461 : decode code 461 = .ok (.iaload, 1) := by decide +kernel
theorem d_law_462 : decode code 462 = .ok (.aload_n 0, 1) := by decide +kernel
theorem d_law_463 : decode code 463 = .ok (.iload_n 3, 1) := by decide +kernel
theorem d_law_464 : decode code 464 = .ok (.iconst 2, 1) := by decide +kernel
theorem d_law_465 : decode code 465 = .ok (.iadd, 1) := by decide +kernel
theorem d_law_466 : decode code 466 = .ok (.iaload, 1) := by decide +kernel
theorem d_law_467 : decode code 467 = .ok (.invokevirtual 53, 3) := by decide +kernel
theorem d_law_470 : decode code 470 = .ok (.aload_n 2, 1) := by decide +kernel
theorem d_law_471 : decode code 471 = .ok (.aload_n 0, 1) := by decide +kernel
theorem d_law_472 : decode code 472 = .ok (.iload_n 3, 1) := by decide +kernel
theorem d_law_473 : decode code 473 = .ok (.iconst 1, 1) := by decide +kernel
theorem d_law_474 : decode code 474 = .ok (.iadd, 1) := by decide +kernel
theorem d_law_475 : decode code 475 = .ok (.iaload, 1) := by decide +kernel
theorem d_law_476 : decode code 476 = .ok (.aload_n 0, 1) := by decide +kernel
theorem d_law_477 : decode code 477 = .ok (.iload_n 3, 1) := by decide +kernel
theorem d_law_478 : decode code 478 = .ok (.iconst 2, 1) := by decide +kernel
theorem d_law_479 : decode code 479 = .ok (.iadd, 1) := by decide +kernel
theorem d_law_480 : decode code 480 = .ok (.iaload, 1) := by decide +kernel
theorem d_law_481 : decode code 481 = .ok (.invokevirtual 56, 3) := by decide +kernel
theorem d_law_484 : decode code 484 = .ok (.if_icmp .eq 91, 3) := by decide +kernel
theorem d_law_487 : decode code 487 = .ok (.iconst 0, 1) := by decide +kernel
theorem d_law_488 : decode code 488 = .ok (.ireturn, 1) := by decide +kernel
theorem d_law_489 : decode code 489 = .ok (.aload_n 1, 1) := by decide +kernel
theorem d_law_490 : decode code 490 = .ok (.aload_n 0, 1) := by decide +kernel
theorem d_law_491 : decode code 491 = .ok (.iload_n 3, 1) := by decide +kernel
theorem d_law_492 : decode code 492 = .ok (.iconst 1, 1) := by decide +kernel
theorem d_law_493 : decode code 493 = .ok (.iadd, 1) := by decide +kernel
theorem d_law_494 : decode code 494 = .ok (.iaload, 1) := by decide +kernel
theorem d_law_495 : decode code 495 = .ok (.aload_n 0, 1) := by decide +kernel
theorem d_law_496 : decode code 496 = .ok (.iload_n 3, 1) := by decide +kernel
theorem d_law_497 : decode code 497 = .ok (.iconst 2, 1) := by decide +kernel
theorem d_law_498 : decode code 498 = .ok (.iadd, 1) := by decide +kernel
theorem d_law_499 : decode code 499 = .ok (.iaload, 1) := by decide +kernel
theorem d_law_500 : decode code 500 = .ok (.i2l, 1) := by decide +kernel
theorem d_law_501 : decode code 501 = .ok (.bipush 32, 2) := by decide +kernel
theorem d_law_503 : decode code 503 = .ok (.lshl, 1) := by decide +kernel
theorem d_law_504 : decode code 504 = .ok (.aload_n 0, 1) := by decide +kernel
theorem d_law_505 : decode code 505 = .ok (.iload_n 3, 1) := by decide +kernel
theorem d_law_506 : decode code 506 = .ok (.iconst 3, 1) := by decide +kernel
theorem d_law_507 : decode code 507 = .ok (.iadd, 1) := by decide +kernel
theorem d_law_508 : decode code 508 = .ok (.iaload, 1) := by decide +kernel
theorem d_law_509 : decode code 509 = .ok (.i2l, 1) := by decide +kernel
theorem d_law_510 : decode code 510 = .ok (.ldc2_w 23, 3) := by decide +kernel
theorem d_law_513 : decode code 513 = .ok (.land, 1) := by decide +kernel
theorem d_law_514 : decode code 514 = .ok (.lor, 1) := by decide +kernel
theorem d_law_515 : decode code 515 = .ok (.invokevirtual 57, 3) := by decide +kernel
theorem d_law_518 : decode code 518 = .ok (.aload_n 2, 1) := by decide +kernel
theorem d_law_519 : decode code 519 = .ok (.aload_n 0, 1) := by decide +kernel
theorem d_law_520 : decode code 520 = .ok (.iload_n 3, 1) := by decide +kernel
theorem d_law_521 : decode code 521 = .ok (.iconst 1, 1) := by decide +kernel
theorem d_law_522 : decode code 522 = .ok (.iadd, 1) := by decide +kernel
theorem d_law_523 : decode code 523 = .ok (.iaload, 1) := by decide +kernel
theorem d_law_524 : decode code 524 = .ok (.aload_n 0, 1) := by decide +kernel
theorem d_law_525 : decode code 525 = .ok (.iload_n 3, 1) := by decide +kernel
theorem d_law_526 : decode code 526 = .ok (.iconst 2, 1) := by decide +kernel
theorem d_law_527 : decode code 527 = .ok (.iadd, 1) := by decide +kernel
theorem d_law_528 : decode code 528 = .ok (.iaload, 1) := by decide +kernel
theorem d_law_529 : decode code 529 = .ok (.i2l, 1) := by decide +kernel
theorem d_law_530 : decode code 530 = .ok (.bipush 32, 2) := by decide +kernel
theorem d_law_532 : decode code 532 = .ok (.lshl, 1) := by decide +kernel
theorem d_law_533 : decode code 533 = .ok (.aload_n 0, 1) := by decide +kernel
theorem d_law_534 : decode code 534 = .ok (.iload_n 3, 1) := by decide +kernel
theorem d_law_535 : decode code 535 = .ok (.iconst 3, 1) := by decide +kernel
theorem d_law_536 : decode code 536 = .ok (.iadd, 1) := by decide +kernel
theorem d_law_537 : decode code 537 = .ok (.iaload, 1) := by decide +kernel
theorem d_law_538 : decode code 538 = .ok (.i2l, 1) := by decide +kernel
theorem d_law_539 : decode code 539 = .ok (.ldc2_w 23, 3) := by decide +kernel
theorem d_law_542 : decode code 542 = .ok (.land, 1) := by decide +kernel
theorem d_law_543 : decode code 543 = .ok (.lor, 1) := by decide +kernel
theorem d_law_544 : decode code 544 = .ok (.invokevirtual 61, 3) := by decide +kernel
theorem d_law_547 : decode code 547 = .ok (.if_icmp .eq 28, 3) := by decide +kernel
theorem d_law_550 : decode code 550 = .ok (.iconst 0, 1) := by decide +kernel
theorem d_law_551 : decode code 551 = .ok (.ireturn, 1) := by decide +kernel
theorem d_law_552 : decode code 552 = .ok (.aload_n 1, 1) := by decide +kernel
theorem d_law_553 : decode code 553 = .ok (.aload_n 0, 1) := by decide +kernel
theorem d_law_554 : decode code 554 = .ok (.iload_n 3, 1) := by decide +kernel
theorem d_law_555 : decode code 555 = .ok (.iconst 1, 1) := by decide +kernel
theorem d_law_556 : decode code 556 = .ok (.iadd, 1) := by decide +kernel
theorem d_law_557 : decode code 557 = .ok (.iaload, 1) := by decide +kernel
theorem d_law_558 : decode code 558 = .ok (.invokevirtual 62, 3) := by decide +kernel
theorem d_law_561 : decode code 561 = .ok (.aload_n 2, 1) := by decide +kernel
theorem d_law_562 : decode code 562 = .ok (.aload_n 0, 1) := by decide +kernel
theorem d_law_563 : decode code 563 = .ok (.iload_n 3, 1) := by decide +kernel
theorem d_law_564 : decode code 564 = .ok (.iconst 1, 1) := by decide +kernel
theorem d_law_565 : decode code 565 = .ok (.iadd, 1) := by decide +kernel
theorem d_law_566 : decode code 566 = .ok (.iaload, 1) := by decide +kernel
theorem d_law_567 : decode code 567 = .ok (.invokevirtual 65, 3) := by decide +kernel
theorem d_law_570 : decode code 570 = .ok (.if_icmp .eq 5, 3) := by decide +kernel
theorem d_law_573 : decode code 573 = .ok (.iconst 0, 1) := by decide +kernel
theorem d_law_574 : decode code 574 = .ok (.ireturn, 1) := by decide +kernel
theorem d_law_575 : decode code 575 = .ok (.iinc 3 8, 3) := by decide +kernel
theorem d_law_578 : decode code 578 = .ok (.goto (-560), 3) := by decide +kernel
theorem d_law_581 : decode code 581 = .ok (.iconst 1, 1) := by decide +kernel
theorem d_law_582 : decode code 582 = .ok (.ireturn, 1) := by decide +kernel
/-! THE CLAIM OUT OF ONE WALK OF THE LAW'S BODY. Your part is whole_start (and what it stands on); all else here is the same for every law, but numbers. -/
def R_law : String := "DoorActsLaw"
def lw_P (b : Addr) (xs : List Int32) (args : Array Value) (s : State) : Prop := args = #[.ref b] ∧ s.IntsAt b xs ∧ xs.length ≤ 4096 ∧ (Jvm.Cond.and given_1 narrow_1).before args s = true
def lw_Q (_ : Array Value) (s : State) (o : Outcome) (t : State) : Prop := o = .returned (some (.int 1)) ∧ Framed s o t [] 600000 7302250
def lw_Z (below : List Frame) (a : Array Value) (s : State) : State → Prop := fun t => ∃ o, t.status = .running ∧ Ended t below o ∧ lw_Q a s o t
/-- the law's own end, with 1 on the stack, nothing written that was there before, its room as the claim has it -/
theorem lw_ret {p : Program} {l : Launch} {e : Env} {s : State} {m : MethodId} {below : List Frame} {meth : Method} {c : Code} {b : Nat} (hx : p.tables.exec = Jvm.exec) (hb : c.code = code) (hr : meth.sig.returnType = ret) (hlocks : meth.locks = false) {pc : Nat} {H : Heap} {ls : Array Slot} (hdg : decode code pc = .ok (.ireturn, 1)) : W p l e room_1 s m #[Value.ref b] below meth c H [] 600000 7302250 (lw_Z below #[Value.ref b] s) (F0 m pc ls [.int 1]) := by
  intro T hT X
  obtain ⟨fs, hret, hrun, hended, hW, hframe⟩ := X.leave (v := some (.int 1)) (hlocks := hlocks) (fun h => by rw [hr] at h; cases h)
  have hmeth' : T.vm.method? m = some meth := X.method'
  refine ⟨T.setFrames fs, ?_, .returned (some (.int 1)), hrun, hended, rfl, ⟨_, rfl⟩, hW, hframe⟩
  jvm_step X.here [X.here.top, hx, hb, hdg, hmeth', hr, ret, narrow_b1]
  (try refine ⟨rfl, ?_⟩); (try refine ⟨rfl, ?_⟩)
  first | (intro acts; rw [hret _ acts rfl rfl rfl]) | rw [hret _ _ rfl rfl rfl]
  exact Steps.refl _
/-- what holds at the law's entry: the machine, the code, the tables' words (any of lw_tbl by 'hts w (by decide +kernel)'), the script of L ints xs at the cell b, what the Statement gives of the start (any of its parts by flat_of_before) -/
def lw_At (p : Program) (s : State) (m : MethodId) (meth : Method) (c : Code) (b L : Nat) (xs : Nat → Int32) : Prop :=
  p.tables.exec = Jvm.exec ∧ c.code = code ∧ meth.sig.returnType = ret ∧ c.maxLocals = 4 ∧ s.vm.findClass R_law = some m.cls ∧ (∀ w ∈ lw_tbl, w.before #[Value.ref b] s = true) ∧ va_X b L xs s s.heap ∧ b < s.heap.size ∧ meth.locks = false ∧ (Jvm.Cond.and given_1 narrow_1).before #[Value.ref b] s = true
/-! The walk of the law: elements of the script. -/
section LAW
variable {p : Program} {l : Launch} {e : Env} {s : State} {m : MethodId} {below : List Frame} {meth : Method} {c : Code} {Q : State → Prop} {own : String} {cc : ByteArray} {nL : Nat} {D : va_G} {dA : Nat → ClassId} {R : Room} {args : Array Value} {ini : Bool} {pc pc' k n b L : Nat} {xs : Nat → Int32} {loc : List (Nat × Value)} {M : zVw} {st : List Value}
theorem zJ_al {x : Fin 4} {j a z : Nat} (C : zC p s m args meth c own cc nL z D dA ini) (h0 : decode cc pc = .ok (.aload_n x, 1)) (hx : (x : Nat) = j) (hl : zlg loc j = some (.ref a)) (hpc : pc + 1 = pc') (kk : zJ p l e R s m args below meth c Q nL z D pc' loc (.ref a :: st) M k n) : zJ p l e R s m args below meth c Q nL z D pc loc st M k n := by
  subst hpc
  intro H locs ls hv hz hS hl'
  exact lv_aload_n C.1 C.2.1 h0 hx (zlg_at hl' hl) (kk H locs ls hv hz hS hl')
theorem zJ_e1 {v : Int} {i o : Nat} (C : zC p s m args meth c own cc nL s.heap.size D dA ini) (hX : va_X b L xs s s.heap) (hbl : b < s.heap.size) (h0 : decode cc pc = .ok (.aload_n 0, 1)) (h1 : decode cc (pc + 1) = .ok (.iload_n 3, 1)) (h2 : decode cc (pc + 2) = .ok (.iconst v, 1)) (h3 : decode cc (pc + 3) = .ok (.iadd, 1)) (h4 : decode cc (pc + 4) = .ok (.iaload, 1)) (hv : Int32.ofInt v = nI o) (l0 : zlg loc 0 = some (.ref b)) (l3 : zlg loc 3 = some (.int (nI i))) (hi : i + o < L) (hL : L ≤ 4096) (hpc : pc + 5 = pc')
    (kk : zJ p l e R s m args below meth c Q nL s.heap.size D pc' loc (.int (xs (i + o)) :: st) M k n) : zJ p l e R s m args below meth c Q nL s.heap.size D pc loc st M k n := by
  subst hpc
  intro H locs ls hv' hz hS hl
  have hbA : ¬ (fun q : Nat => s.heap.size ≤ q) b := Nat.not_le.mpr hbl
  refine lv_aload_n C.1 C.2.1 h0 rfl (zlg_at hl l0) ?_
  refine lv_iload_n C.1 C.2.1 h1 rfl (zlg_at hl l3) ?_
  refine lv_iconst C.1 C.2.1 h2 hv ?_
  refine lv_iadd C.1 C.2.1 h3 ?_
  rw [nI_add]
  refine va_sld C.1 C.2.1 hX hbl hbA hS (vp_in_nI hi (by omega)) h4 ?_
  rw [nI_clamp (by omega)]
  exact kk H locs ls hv' hz hS hl
theorem zJ_e2 {v : Int} {i o : Nat} (C : zC p s m args meth c own cc nL s.heap.size D dA ini) (hX : va_X b L xs s s.heap) (hbl : b < s.heap.size) (h0 : decode cc pc = .ok (.aload_n 0, 1)) (h1 : decode cc (pc + 1) = .ok (.iload_n 3, 1)) (h2 : decode cc (pc + 2) = .ok (.bipush v, 2)) (h3 : decode cc (pc + 4) = .ok (.iadd, 1)) (h4 : decode cc (pc + 5) = .ok (.iaload, 1)) (hv : (Int8.ofInt v).toInt32 = nI o) (l0 : zlg loc 0 = some (.ref b)) (l3 : zlg loc 3 = some (.int (nI i))) (hi : i + o < L) (hL : L ≤ 4096) (hpc : pc + 6 = pc')
    (kk : zJ p l e R s m args below meth c Q nL s.heap.size D pc' loc (.int (xs (i + o)) :: st) M k n) : zJ p l e R s m args below meth c Q nL s.heap.size D pc loc st M k n := by
  subst hpc
  intro H locs ls hv' hz hS hl
  have hbA : ¬ (fun q : Nat => s.heap.size ≤ q) b := Nat.not_le.mpr hbl
  refine lv_aload_n C.1 C.2.1 h0 rfl (zlg_at hl l0) ?_
  refine lv_iload_n C.1 C.2.1 h1 rfl (zlg_at hl l3) ?_
  refine lv_bipush C.1 C.2.1 h2 hv ?_
  refine lv_iadd C.1 C.2.1 h3 ?_
  rw [nI_add]
  refine va_sld C.1 C.2.1 hX hbl hbA hS (vp_in_nI hi (by omega)) h4 ?_
  rw [nI_clamp (by omega)]
  exact kk H locs ls hv' hz hS hl
theorem zJ_e0 {i : Nat} (C : zC p s m args meth c own cc nL s.heap.size D dA ini) (hX : va_X b L xs s s.heap) (hbl : b < s.heap.size) (h0 : decode cc pc = .ok (.aload_n 0, 1)) (h1 : decode cc (pc + 1) = .ok (.iload_n 3, 1)) (h4 : decode cc (pc + 2) = .ok (.iaload, 1)) (l0 : zlg loc 0 = some (.ref b)) (l3 : zlg loc 3 = some (.int (nI i))) (hi : i < L) (hL : L ≤ 4096) (hpc : pc + 3 = pc')
    (kk : zJ p l e R s m args below meth c Q nL s.heap.size D pc' loc (.int (xs i) :: st) M k n) : zJ p l e R s m args below meth c Q nL s.heap.size D pc loc st M k n := by
  subst hpc
  intro H locs ls hv' hz hS hl
  have hbA : ¬ (fun q : Nat => s.heap.size ≤ q) b := Nat.not_le.mpr hbl
  refine lv_aload_n C.1 C.2.1 h0 rfl (zlg_at hl l0) ?_
  refine lv_iload_n C.1 C.2.1 h1 rfl (zlg_at hl l3) ?_
  refine va_sld C.1 C.2.1 hX hbl hbA hS (vp_in_nI hi (by omega)) h4 ?_
  rw [nI_clamp (by omega)]
  exact kk H locs ls hv' hz hS hl
theorem zJ_len {i : Nat} (C : zC p s m args meth c own cc nL s.heap.size D dA ini) (hX : va_X b L xs s s.heap) (hbl : b < s.heap.size) (h0 : decode cc pc = .ok (.iload_n 3, 1)) (h1 : decode cc (pc + 1) = .ok (.aload_n 0, 1)) (h4 : decode cc (pc + 2) = .ok (.arraylength, 1)) (l0 : zlg loc 0 = some (.ref b)) (l3 : zlg loc 3 = some (.int (nI i))) (hpc : pc + 3 = pc')
    (kk : zJ p l e R s m args below meth c Q nL s.heap.size D pc' loc (.int (nI L) :: .int (nI i) :: st) M k n) : zJ p l e R s m args below meth c Q nL s.heap.size D pc loc st M k n := by
  subst hpc
  intro H locs ls hv' hz hS hl
  have hbA : ¬ (fun q : Nat => s.heap.size ≤ q) b := Nat.not_le.mpr hbl
  refine lv_iload_n C.1 C.2.1 h0 rfl (zlg_at hl l3) ?_
  refine lv_aload_n C.1 C.2.1 h1 rfl (zlg_at hl l0) ?_
  exact va_slen C.1 C.2.1 hX hbl hbA hS h4 (kk H locs ls hv' hz hS hl)
theorem zJ_nm {z : Nat} {v : Int64} (kk : ∀ t, t = v → zJ p l e R s m args below meth c Q nL z D pc loc (.long t :: st) M k n) : zJ p l e R s m args below meth c Q nL z D pc loc (.long v :: st) M k n := kk v rfl
theorem zJ_eq {z : Nat} {t v : Int64} (h : t = v) (kk : zJ p l e R s m args below meth c Q nL z D pc loc (.long t :: st) M k n) : zJ p l e R s m args below meth c Q nL z D pc loc (.long v :: st) M k n := by rw [← h]; exact kk
theorem law_R (JK : zK) (cc : ByteArray) : zRet 9 JK cc (fun _ _ _ _ => False) := ⟨fun _ _ _ _ _ _ _ h => h.elim, fun _ _ _ _ _ _ _ h => h.elim, fun _ h => h.elim, fun _ _ _ _ _ _ _ h => h.elim⟩
def zbo (x : Int32) : Int32 := if x = 0 then 0 else 1
theorem zbo_01 (x : Int32) : zbo x = 0 ∨ zbo x = 1 := by
  unfold zbo
  by_cases h : x = 0
  · exact Or.inl (if_pos h)
  · exact Or.inr (if_neg h)
set_option maxHeartbeats 4000000 in
set_option maxRecDepth 100000 in
theorem zJ_bo_342 {x : Int32} {z : Nat} (C : zC p s m args meth c "DoorActsLaw" code 4 z D dA false) (kk : zJ p l e R s m args below meth c Q 4 z D 350 loc (.int (zbo x) :: st) M k n) : zJ p l e R s m args below meth c Q 4 z D 342 loc (.int x :: st) M k n := by
  have hR := law_R (zJ p l e R s m args below meth c Q 4 z D) code
  unfold zbo at kk
  by_cases h : x = 0
  · rw [if_pos h] at kk
    refine zgo (cut := fun q => q == 350) 20 C lk_W hR ?_
    simp only [zs_iconst, zs_bipush, zs_ldc2, zs_iload_n, zs_aload_n, zs_istore_n, zs_astore_n0, zs_astore_n1, zs_iadd, zs_isub, zs_iand, zs_land, zs_lor, zs_i2l, zs_lshl, zs_dup0, zs_dup1, zs_dup2, zs_if_eq, zs_icmp_eq, zs_icmp_gt, zs_goto, zs_tsw, zs_iinc, zs_iaload, zs_alen, zs_ireturn, zx_iv, zx_is, zx_it, zx_nw, zx_na, zx_an, zx_cc, zx_gs, zx_as, zx_ae, zx_ac, zx_at, zr_seg, zr_t, zr_f, zr_tp, zr_fp, zr_lg, zr_lr, zr_lr0, zr_wi, zr_wr, zr_wn, zr_wl, zr_vo, zr_so, zr_sI, zr_sL, zr_sA, zr_sN, zr_in, zr_rd, zr_wr2, zr_kf, zr_k0, zr_k1, zr_k2, zr_k3, zr_k3n, zr_k10, zr_k11, zr_k12, zr_k13, zr_k13n, zr_ai, zr_af, zr_aw, zr_aL, zr_Lf, zr_Lw, zr_l2, zr_l20, zr_al, zr_an, zr_aq, zr_ag, zr_rfs, zr_rfn, zr_r1, zr_r2, zr_w0, zr_w1, zr_tl, zr_40, zr_41, zr_42, zr_43, d_law_0, d_law_3, d_law_4, d_law_7, d_law_8, d_law_11, d_law_12, d_law_15, d_law_16, ci_0, d_law_17, d_law_18, d_law_19, d_law_20, d_law_21, cb_8, d_law_23, d_law_24, zt_24_557, zo_24_557, d_law_27, d_law_28, d_law_29, d_law_30, cb_15, d_law_32, d_law_33, sw_0, sw_1, sw_2, sw_3, sw_4, sw_5, sw_6, Int.reduceAdd, Int.zero_add, zt_33_542, zo_33_542, zt_33_59, zo_33_59, zt_33_92, zo_33_92, zt_33_135, zo_33_135, zt_33_242, zo_33_242, zt_33_265, zo_33_265, zt_33_298, zo_33_298, zt_33_347, zo_33_347, zt_33_370, zo_33_370, zt_33_423, zo_33_423, zt_33_456, zo_33_456, zt_33_519, zo_33_519, d_law_92, d_law_93, d_law_94, d_law_95, ci_1, d_law_96, d_law_97, d_law_98, d_law_99, d_law_100, ci_2, d_law_101, d_law_102, d_law_103, d_law_106, d_law_107, d_law_108, d_law_109, d_law_110, d_law_111, d_law_112, d_law_113, d_law_114, d_law_115, d_law_116, d_law_117, d_law_120, zt_120_455, zo_120_455, d_law_123, d_law_124, d_law_125, d_law_126, d_law_127, d_law_128, d_law_129, d_law_130, d_law_131, d_law_132, d_law_133, d_law_134, d_law_135, d_law_136, d_law_137, d_law_138, ci_3, d_law_139, d_law_140, d_law_141, d_law_144, d_law_145, d_law_146, d_law_147, d_law_148, d_law_149, d_law_150, d_law_151, d_law_152, d_law_153, d_law_154, d_law_155, d_law_156, d_law_157, d_law_158, d_law_159, d_law_160, d_law_163, zt_163_412, zo_163_412, d_law_166, d_law_167, d_law_168, d_law_169, d_law_170, d_law_171, d_law_172, d_law_173, d_law_174, d_law_175, d_law_176, d_law_177, d_law_178, d_law_179, d_law_180, d_law_181, d_law_182, d_law_183, d_law_184, d_law_185, d_law_186, ci_4, d_law_187, d_law_188, d_law_189, d_law_190, d_law_191, ci_5, d_law_192, d_law_193, d_law_194, d_law_195, d_law_196, cb_6, d_law_198, d_law_199, d_law_200, d_law_201, cb_32, d_law_203, d_law_204, d_law_205, d_law_206, cb_7, d_law_208, d_law_209, d_law_210, d_law_211, ll_W_23, d_law_214, d_law_215, d_law_216, d_law_219, d_law_220, d_law_221, d_law_222, d_law_223, d_law_224, d_law_225, d_law_226, d_law_227, d_law_228, d_law_229, d_law_230, d_law_231, d_law_232, d_law_233, d_law_234, d_law_235, d_law_236, d_law_237, d_law_238, d_law_239, d_law_240, d_law_241, d_law_242, d_law_243, d_law_244, d_law_245, d_law_246, d_law_247, d_law_249, d_law_250, d_law_251, d_law_252, d_law_254, d_law_255, d_law_256, d_law_257, d_law_259, d_law_260, d_law_261, d_law_262, d_law_265, d_law_266, d_law_267, d_law_270, zt_270_305, zo_270_305, d_law_273, d_law_274, d_law_275, d_law_276, d_law_277, d_law_278, d_law_279, d_law_280, d_law_281, d_law_284, d_law_285, d_law_286, d_law_287, d_law_288, d_law_289, d_law_290, d_law_293, zt_293_282, zo_293_282, d_law_296, d_law_297, d_law_298, d_law_299, d_law_300, d_law_301, d_law_302, d_law_303, d_law_304, d_law_305, d_law_306, d_law_307, d_law_308, d_law_309, d_law_312, d_law_313, d_law_314, d_law_315, d_law_316, d_law_317, d_law_318, d_law_319, d_law_320, d_law_321, d_law_322, d_law_323, d_law_326, zt_326_249, zo_326_249, d_law_329, d_law_330, d_law_331, d_law_332, d_law_333, d_law_334, d_law_335, d_law_336, d_law_337, d_law_338, d_law_339, d_law_340, d_law_341, d_law_342, zt_342_7, zo_342_7, d_law_345, d_law_346, zt_346_4, zo_346_4, d_law_349, d_law_350, d_law_353, d_law_354, d_law_355, d_law_356, d_law_357, d_law_358, d_law_359, d_law_360, d_law_361, d_law_362, d_law_363, d_law_364, zt_364_7, zo_364_7, d_law_367, d_law_368, zt_368_4, zo_368_4, d_law_371, d_law_372, d_law_375, zt_375_200, zo_375_200, d_law_378, d_law_379, d_law_380, d_law_381, d_law_382, d_law_383, d_law_384, d_law_385, d_law_386, d_law_389, d_law_390, d_law_391, d_law_392, d_law_393, d_law_394, d_law_395, d_law_398, zt_398_177, zo_398_177, d_law_401, d_law_402, d_law_403, d_law_404, d_law_405, d_law_406, d_law_407, d_law_408, d_law_409, d_law_410, d_law_412, d_law_413, d_law_414, d_law_415, d_law_416, d_law_417, d_law_418, d_law_419, d_law_422, d_law_423, d_law_424, d_law_427, d_law_428, d_law_429, d_law_430, d_law_431, d_law_432, d_law_433, d_law_434, d_law_436, d_law_437, d_law_438, d_law_439, d_law_440, d_law_441, d_law_442, d_law_443, d_law_446, d_law_447, d_law_448, d_law_451, zt_451_124, zo_451_124, d_law_454, d_law_455, d_law_456, d_law_457, d_law_458, d_law_459, d_law_460, d_law_461, d_law_462, d_law_463, d_law_464, d_law_465, d_law_466, d_law_467, d_law_470, d_law_471, d_law_472, d_law_473, d_law_474, d_law_475, d_law_476, d_law_477, d_law_478, d_law_479, d_law_480, d_law_481, d_law_484, zt_484_91, zo_484_91, d_law_487, d_law_488, d_law_489, d_law_490, d_law_491, d_law_492, d_law_493, d_law_494, d_law_495, d_law_496, d_law_497, d_law_498, d_law_499, d_law_500, d_law_501, d_law_503, d_law_504, d_law_505, d_law_506, d_law_507, d_law_508, d_law_509, d_law_510, d_law_513, d_law_514, d_law_515, d_law_518, d_law_519, d_law_520, d_law_521, d_law_522, d_law_523, d_law_524, d_law_525, d_law_526, d_law_527, d_law_528, d_law_529, d_law_530, d_law_532, d_law_533, d_law_534, d_law_535, d_law_536, d_law_537, d_law_538, d_law_539, d_law_542, d_law_543, d_law_544, d_law_547, zt_547_28, zo_547_28, d_law_550, d_law_551, d_law_552, d_law_553, d_law_554, d_law_555, d_law_556, d_law_557, d_law_558, d_law_561, d_law_562, d_law_563, d_law_564, d_law_565, d_law_566, d_law_567, d_law_570, zt_570_5, zo_570_5, d_law_573, d_law_574, d_law_575, d_law_578, zt_578_m560, zo_578_m560, d_law_581, d_law_582, za_0, za_i, za_r, za_n, za_l, zu_s, zu_u, Nat.reduceAdd, Nat.reduceLT, Nat.reduceBEq, Nat.zero_add, Bool.false_or, Bool.or_false, Bool.true_or, Bool.or_true, Bool.false_and, Bool.and_false, Bool.true_and, Bool.and_true, true_and, and_true, true_or, or_true, eq_self, Nat.le_refl, List.getElem?_cons_succ, List.getElem?_cons_zero, List.set_cons_succ, List.set_cons_zero, zk_0, zk_1, zk_2, zk_3, zk_4, zq_1, zq_2, Option.isSome_some, Option.getD_some, Option.toList_some, Option.toList_none, List.cons_append, List.nil_append, h, true_implies, false_implies, not_true_eq_false, not_false_eq_true, zn_10, Int32.reduceLT, Int32.reduceLE, implies_true, and_self]
    exact kk
  · rw [if_neg h] at kk
    refine zgo (cut := fun q => q == 350) 20 C lk_W hR ?_
    simp only [zs_iconst, zs_bipush, zs_ldc2, zs_iload_n, zs_aload_n, zs_istore_n, zs_astore_n0, zs_astore_n1, zs_iadd, zs_isub, zs_iand, zs_land, zs_lor, zs_i2l, zs_lshl, zs_dup0, zs_dup1, zs_dup2, zs_if_eq, zs_icmp_eq, zs_icmp_gt, zs_goto, zs_tsw, zs_iinc, zs_iaload, zs_alen, zs_ireturn, zx_iv, zx_is, zx_it, zx_nw, zx_na, zx_an, zx_cc, zx_gs, zx_as, zx_ae, zx_ac, zx_at, zr_seg, zr_t, zr_f, zr_tp, zr_fp, zr_lg, zr_lr, zr_lr0, zr_wi, zr_wr, zr_wn, zr_wl, zr_vo, zr_so, zr_sI, zr_sL, zr_sA, zr_sN, zr_in, zr_rd, zr_wr2, zr_kf, zr_k0, zr_k1, zr_k2, zr_k3, zr_k3n, zr_k10, zr_k11, zr_k12, zr_k13, zr_k13n, zr_ai, zr_af, zr_aw, zr_aL, zr_Lf, zr_Lw, zr_l2, zr_l20, zr_al, zr_an, zr_aq, zr_ag, zr_rfs, zr_rfn, zr_r1, zr_r2, zr_w0, zr_w1, zr_tl, zr_40, zr_41, zr_42, zr_43, d_law_0, d_law_3, d_law_4, d_law_7, d_law_8, d_law_11, d_law_12, d_law_15, d_law_16, ci_0, d_law_17, d_law_18, d_law_19, d_law_20, d_law_21, cb_8, d_law_23, d_law_24, zt_24_557, zo_24_557, d_law_27, d_law_28, d_law_29, d_law_30, cb_15, d_law_32, d_law_33, sw_0, sw_1, sw_2, sw_3, sw_4, sw_5, sw_6, Int.reduceAdd, Int.zero_add, zt_33_542, zo_33_542, zt_33_59, zo_33_59, zt_33_92, zo_33_92, zt_33_135, zo_33_135, zt_33_242, zo_33_242, zt_33_265, zo_33_265, zt_33_298, zo_33_298, zt_33_347, zo_33_347, zt_33_370, zo_33_370, zt_33_423, zo_33_423, zt_33_456, zo_33_456, zt_33_519, zo_33_519, d_law_92, d_law_93, d_law_94, d_law_95, ci_1, d_law_96, d_law_97, d_law_98, d_law_99, d_law_100, ci_2, d_law_101, d_law_102, d_law_103, d_law_106, d_law_107, d_law_108, d_law_109, d_law_110, d_law_111, d_law_112, d_law_113, d_law_114, d_law_115, d_law_116, d_law_117, d_law_120, zt_120_455, zo_120_455, d_law_123, d_law_124, d_law_125, d_law_126, d_law_127, d_law_128, d_law_129, d_law_130, d_law_131, d_law_132, d_law_133, d_law_134, d_law_135, d_law_136, d_law_137, d_law_138, ci_3, d_law_139, d_law_140, d_law_141, d_law_144, d_law_145, d_law_146, d_law_147, d_law_148, d_law_149, d_law_150, d_law_151, d_law_152, d_law_153, d_law_154, d_law_155, d_law_156, d_law_157, d_law_158, d_law_159, d_law_160, d_law_163, zt_163_412, zo_163_412, d_law_166, d_law_167, d_law_168, d_law_169, d_law_170, d_law_171, d_law_172, d_law_173, d_law_174, d_law_175, d_law_176, d_law_177, d_law_178, d_law_179, d_law_180, d_law_181, d_law_182, d_law_183, d_law_184, d_law_185, d_law_186, ci_4, d_law_187, d_law_188, d_law_189, d_law_190, d_law_191, ci_5, d_law_192, d_law_193, d_law_194, d_law_195, d_law_196, cb_6, d_law_198, d_law_199, d_law_200, d_law_201, cb_32, d_law_203, d_law_204, d_law_205, d_law_206, cb_7, d_law_208, d_law_209, d_law_210, d_law_211, ll_W_23, d_law_214, d_law_215, d_law_216, d_law_219, d_law_220, d_law_221, d_law_222, d_law_223, d_law_224, d_law_225, d_law_226, d_law_227, d_law_228, d_law_229, d_law_230, d_law_231, d_law_232, d_law_233, d_law_234, d_law_235, d_law_236, d_law_237, d_law_238, d_law_239, d_law_240, d_law_241, d_law_242, d_law_243, d_law_244, d_law_245, d_law_246, d_law_247, d_law_249, d_law_250, d_law_251, d_law_252, d_law_254, d_law_255, d_law_256, d_law_257, d_law_259, d_law_260, d_law_261, d_law_262, d_law_265, d_law_266, d_law_267, d_law_270, zt_270_305, zo_270_305, d_law_273, d_law_274, d_law_275, d_law_276, d_law_277, d_law_278, d_law_279, d_law_280, d_law_281, d_law_284, d_law_285, d_law_286, d_law_287, d_law_288, d_law_289, d_law_290, d_law_293, zt_293_282, zo_293_282, d_law_296, d_law_297, d_law_298, d_law_299, d_law_300, d_law_301, d_law_302, d_law_303, d_law_304, d_law_305, d_law_306, d_law_307, d_law_308, d_law_309, d_law_312, d_law_313, d_law_314, d_law_315, d_law_316, d_law_317, d_law_318, d_law_319, d_law_320, d_law_321, d_law_322, d_law_323, d_law_326, zt_326_249, zo_326_249, d_law_329, d_law_330, d_law_331, d_law_332, d_law_333, d_law_334, d_law_335, d_law_336, d_law_337, d_law_338, d_law_339, d_law_340, d_law_341, d_law_342, zt_342_7, zo_342_7, d_law_345, d_law_346, zt_346_4, zo_346_4, d_law_349, d_law_350, d_law_353, d_law_354, d_law_355, d_law_356, d_law_357, d_law_358, d_law_359, d_law_360, d_law_361, d_law_362, d_law_363, d_law_364, zt_364_7, zo_364_7, d_law_367, d_law_368, zt_368_4, zo_368_4, d_law_371, d_law_372, d_law_375, zt_375_200, zo_375_200, d_law_378, d_law_379, d_law_380, d_law_381, d_law_382, d_law_383, d_law_384, d_law_385, d_law_386, d_law_389, d_law_390, d_law_391, d_law_392, d_law_393, d_law_394, d_law_395, d_law_398, zt_398_177, zo_398_177, d_law_401, d_law_402, d_law_403, d_law_404, d_law_405, d_law_406, d_law_407, d_law_408, d_law_409, d_law_410, d_law_412, d_law_413, d_law_414, d_law_415, d_law_416, d_law_417, d_law_418, d_law_419, d_law_422, d_law_423, d_law_424, d_law_427, d_law_428, d_law_429, d_law_430, d_law_431, d_law_432, d_law_433, d_law_434, d_law_436, d_law_437, d_law_438, d_law_439, d_law_440, d_law_441, d_law_442, d_law_443, d_law_446, d_law_447, d_law_448, d_law_451, zt_451_124, zo_451_124, d_law_454, d_law_455, d_law_456, d_law_457, d_law_458, d_law_459, d_law_460, d_law_461, d_law_462, d_law_463, d_law_464, d_law_465, d_law_466, d_law_467, d_law_470, d_law_471, d_law_472, d_law_473, d_law_474, d_law_475, d_law_476, d_law_477, d_law_478, d_law_479, d_law_480, d_law_481, d_law_484, zt_484_91, zo_484_91, d_law_487, d_law_488, d_law_489, d_law_490, d_law_491, d_law_492, d_law_493, d_law_494, d_law_495, d_law_496, d_law_497, d_law_498, d_law_499, d_law_500, d_law_501, d_law_503, d_law_504, d_law_505, d_law_506, d_law_507, d_law_508, d_law_509, d_law_510, d_law_513, d_law_514, d_law_515, d_law_518, d_law_519, d_law_520, d_law_521, d_law_522, d_law_523, d_law_524, d_law_525, d_law_526, d_law_527, d_law_528, d_law_529, d_law_530, d_law_532, d_law_533, d_law_534, d_law_535, d_law_536, d_law_537, d_law_538, d_law_539, d_law_542, d_law_543, d_law_544, d_law_547, zt_547_28, zo_547_28, d_law_550, d_law_551, d_law_552, d_law_553, d_law_554, d_law_555, d_law_556, d_law_557, d_law_558, d_law_561, d_law_562, d_law_563, d_law_564, d_law_565, d_law_566, d_law_567, d_law_570, zt_570_5, zo_570_5, d_law_573, d_law_574, d_law_575, d_law_578, zt_578_m560, zo_578_m560, d_law_581, d_law_582, za_0, za_i, za_r, za_n, za_l, zu_s, zu_u, Nat.reduceAdd, Nat.reduceLT, Nat.reduceBEq, Nat.zero_add, Bool.false_or, Bool.or_false, Bool.true_or, Bool.or_true, Bool.false_and, Bool.and_false, Bool.true_and, Bool.and_true, true_and, and_true, true_or, or_true, eq_self, Nat.le_refl, List.getElem?_cons_succ, List.getElem?_cons_zero, List.set_cons_succ, List.set_cons_zero, zk_0, zk_1, zk_2, zk_3, zk_4, zq_1, zq_2, Option.isSome_some, Option.getD_some, Option.toList_some, Option.toList_none, List.cons_append, List.nil_append, h, true_implies, false_implies, not_true_eq_false, not_false_eq_true, zn_10, Int32.reduceLT, Int32.reduceLE, implies_true, and_self]
    exact kk
set_option maxHeartbeats 4000000 in
set_option maxRecDepth 100000 in
theorem zJ_bo_364 {x : Int32} {z : Nat} (C : zC p s m args meth c "DoorActsLaw" code 4 z D dA false) (kk : zJ p l e R s m args below meth c Q 4 z D 372 loc (.int (zbo x) :: st) M k n) : zJ p l e R s m args below meth c Q 4 z D 364 loc (.int x :: st) M k n := by
  have hR := law_R (zJ p l e R s m args below meth c Q 4 z D) code
  unfold zbo at kk
  by_cases h : x = 0
  · rw [if_pos h] at kk
    refine zgo (cut := fun q => q == 372) 20 C lk_W hR ?_
    simp only [zs_iconst, zs_bipush, zs_ldc2, zs_iload_n, zs_aload_n, zs_istore_n, zs_astore_n0, zs_astore_n1, zs_iadd, zs_isub, zs_iand, zs_land, zs_lor, zs_i2l, zs_lshl, zs_dup0, zs_dup1, zs_dup2, zs_if_eq, zs_icmp_eq, zs_icmp_gt, zs_goto, zs_tsw, zs_iinc, zs_iaload, zs_alen, zs_ireturn, zx_iv, zx_is, zx_it, zx_nw, zx_na, zx_an, zx_cc, zx_gs, zx_as, zx_ae, zx_ac, zx_at, zr_seg, zr_t, zr_f, zr_tp, zr_fp, zr_lg, zr_lr, zr_lr0, zr_wi, zr_wr, zr_wn, zr_wl, zr_vo, zr_so, zr_sI, zr_sL, zr_sA, zr_sN, zr_in, zr_rd, zr_wr2, zr_kf, zr_k0, zr_k1, zr_k2, zr_k3, zr_k3n, zr_k10, zr_k11, zr_k12, zr_k13, zr_k13n, zr_ai, zr_af, zr_aw, zr_aL, zr_Lf, zr_Lw, zr_l2, zr_l20, zr_al, zr_an, zr_aq, zr_ag, zr_rfs, zr_rfn, zr_r1, zr_r2, zr_w0, zr_w1, zr_tl, zr_40, zr_41, zr_42, zr_43, d_law_0, d_law_3, d_law_4, d_law_7, d_law_8, d_law_11, d_law_12, d_law_15, d_law_16, ci_0, d_law_17, d_law_18, d_law_19, d_law_20, d_law_21, cb_8, d_law_23, d_law_24, zt_24_557, zo_24_557, d_law_27, d_law_28, d_law_29, d_law_30, cb_15, d_law_32, d_law_33, sw_0, sw_1, sw_2, sw_3, sw_4, sw_5, sw_6, Int.reduceAdd, Int.zero_add, zt_33_542, zo_33_542, zt_33_59, zo_33_59, zt_33_92, zo_33_92, zt_33_135, zo_33_135, zt_33_242, zo_33_242, zt_33_265, zo_33_265, zt_33_298, zo_33_298, zt_33_347, zo_33_347, zt_33_370, zo_33_370, zt_33_423, zo_33_423, zt_33_456, zo_33_456, zt_33_519, zo_33_519, d_law_92, d_law_93, d_law_94, d_law_95, ci_1, d_law_96, d_law_97, d_law_98, d_law_99, d_law_100, ci_2, d_law_101, d_law_102, d_law_103, d_law_106, d_law_107, d_law_108, d_law_109, d_law_110, d_law_111, d_law_112, d_law_113, d_law_114, d_law_115, d_law_116, d_law_117, d_law_120, zt_120_455, zo_120_455, d_law_123, d_law_124, d_law_125, d_law_126, d_law_127, d_law_128, d_law_129, d_law_130, d_law_131, d_law_132, d_law_133, d_law_134, d_law_135, d_law_136, d_law_137, d_law_138, ci_3, d_law_139, d_law_140, d_law_141, d_law_144, d_law_145, d_law_146, d_law_147, d_law_148, d_law_149, d_law_150, d_law_151, d_law_152, d_law_153, d_law_154, d_law_155, d_law_156, d_law_157, d_law_158, d_law_159, d_law_160, d_law_163, zt_163_412, zo_163_412, d_law_166, d_law_167, d_law_168, d_law_169, d_law_170, d_law_171, d_law_172, d_law_173, d_law_174, d_law_175, d_law_176, d_law_177, d_law_178, d_law_179, d_law_180, d_law_181, d_law_182, d_law_183, d_law_184, d_law_185, d_law_186, ci_4, d_law_187, d_law_188, d_law_189, d_law_190, d_law_191, ci_5, d_law_192, d_law_193, d_law_194, d_law_195, d_law_196, cb_6, d_law_198, d_law_199, d_law_200, d_law_201, cb_32, d_law_203, d_law_204, d_law_205, d_law_206, cb_7, d_law_208, d_law_209, d_law_210, d_law_211, ll_W_23, d_law_214, d_law_215, d_law_216, d_law_219, d_law_220, d_law_221, d_law_222, d_law_223, d_law_224, d_law_225, d_law_226, d_law_227, d_law_228, d_law_229, d_law_230, d_law_231, d_law_232, d_law_233, d_law_234, d_law_235, d_law_236, d_law_237, d_law_238, d_law_239, d_law_240, d_law_241, d_law_242, d_law_243, d_law_244, d_law_245, d_law_246, d_law_247, d_law_249, d_law_250, d_law_251, d_law_252, d_law_254, d_law_255, d_law_256, d_law_257, d_law_259, d_law_260, d_law_261, d_law_262, d_law_265, d_law_266, d_law_267, d_law_270, zt_270_305, zo_270_305, d_law_273, d_law_274, d_law_275, d_law_276, d_law_277, d_law_278, d_law_279, d_law_280, d_law_281, d_law_284, d_law_285, d_law_286, d_law_287, d_law_288, d_law_289, d_law_290, d_law_293, zt_293_282, zo_293_282, d_law_296, d_law_297, d_law_298, d_law_299, d_law_300, d_law_301, d_law_302, d_law_303, d_law_304, d_law_305, d_law_306, d_law_307, d_law_308, d_law_309, d_law_312, d_law_313, d_law_314, d_law_315, d_law_316, d_law_317, d_law_318, d_law_319, d_law_320, d_law_321, d_law_322, d_law_323, d_law_326, zt_326_249, zo_326_249, d_law_329, d_law_330, d_law_331, d_law_332, d_law_333, d_law_334, d_law_335, d_law_336, d_law_337, d_law_338, d_law_339, d_law_340, d_law_341, d_law_342, zt_342_7, zo_342_7, d_law_345, d_law_346, zt_346_4, zo_346_4, d_law_349, d_law_350, d_law_353, d_law_354, d_law_355, d_law_356, d_law_357, d_law_358, d_law_359, d_law_360, d_law_361, d_law_362, d_law_363, d_law_364, zt_364_7, zo_364_7, d_law_367, d_law_368, zt_368_4, zo_368_4, d_law_371, d_law_372, d_law_375, zt_375_200, zo_375_200, d_law_378, d_law_379, d_law_380, d_law_381, d_law_382, d_law_383, d_law_384, d_law_385, d_law_386, d_law_389, d_law_390, d_law_391, d_law_392, d_law_393, d_law_394, d_law_395, d_law_398, zt_398_177, zo_398_177, d_law_401, d_law_402, d_law_403, d_law_404, d_law_405, d_law_406, d_law_407, d_law_408, d_law_409, d_law_410, d_law_412, d_law_413, d_law_414, d_law_415, d_law_416, d_law_417, d_law_418, d_law_419, d_law_422, d_law_423, d_law_424, d_law_427, d_law_428, d_law_429, d_law_430, d_law_431, d_law_432, d_law_433, d_law_434, d_law_436, d_law_437, d_law_438, d_law_439, d_law_440, d_law_441, d_law_442, d_law_443, d_law_446, d_law_447, d_law_448, d_law_451, zt_451_124, zo_451_124, d_law_454, d_law_455, d_law_456, d_law_457, d_law_458, d_law_459, d_law_460, d_law_461, d_law_462, d_law_463, d_law_464, d_law_465, d_law_466, d_law_467, d_law_470, d_law_471, d_law_472, d_law_473, d_law_474, d_law_475, d_law_476, d_law_477, d_law_478, d_law_479, d_law_480, d_law_481, d_law_484, zt_484_91, zo_484_91, d_law_487, d_law_488, d_law_489, d_law_490, d_law_491, d_law_492, d_law_493, d_law_494, d_law_495, d_law_496, d_law_497, d_law_498, d_law_499, d_law_500, d_law_501, d_law_503, d_law_504, d_law_505, d_law_506, d_law_507, d_law_508, d_law_509, d_law_510, d_law_513, d_law_514, d_law_515, d_law_518, d_law_519, d_law_520, d_law_521, d_law_522, d_law_523, d_law_524, d_law_525, d_law_526, d_law_527, d_law_528, d_law_529, d_law_530, d_law_532, d_law_533, d_law_534, d_law_535, d_law_536, d_law_537, d_law_538, d_law_539, d_law_542, d_law_543, d_law_544, d_law_547, zt_547_28, zo_547_28, d_law_550, d_law_551, d_law_552, d_law_553, d_law_554, d_law_555, d_law_556, d_law_557, d_law_558, d_law_561, d_law_562, d_law_563, d_law_564, d_law_565, d_law_566, d_law_567, d_law_570, zt_570_5, zo_570_5, d_law_573, d_law_574, d_law_575, d_law_578, zt_578_m560, zo_578_m560, d_law_581, d_law_582, za_0, za_i, za_r, za_n, za_l, zu_s, zu_u, Nat.reduceAdd, Nat.reduceLT, Nat.reduceBEq, Nat.zero_add, Bool.false_or, Bool.or_false, Bool.true_or, Bool.or_true, Bool.false_and, Bool.and_false, Bool.true_and, Bool.and_true, true_and, and_true, true_or, or_true, eq_self, Nat.le_refl, List.getElem?_cons_succ, List.getElem?_cons_zero, List.set_cons_succ, List.set_cons_zero, zk_0, zk_1, zk_2, zk_3, zk_4, zq_1, zq_2, Option.isSome_some, Option.getD_some, Option.toList_some, Option.toList_none, List.cons_append, List.nil_append, h, true_implies, false_implies, not_true_eq_false, not_false_eq_true, zn_10, Int32.reduceLT, Int32.reduceLE, implies_true, and_self]
    exact kk
  · rw [if_neg h] at kk
    refine zgo (cut := fun q => q == 372) 20 C lk_W hR ?_
    simp only [zs_iconst, zs_bipush, zs_ldc2, zs_iload_n, zs_aload_n, zs_istore_n, zs_astore_n0, zs_astore_n1, zs_iadd, zs_isub, zs_iand, zs_land, zs_lor, zs_i2l, zs_lshl, zs_dup0, zs_dup1, zs_dup2, zs_if_eq, zs_icmp_eq, zs_icmp_gt, zs_goto, zs_tsw, zs_iinc, zs_iaload, zs_alen, zs_ireturn, zx_iv, zx_is, zx_it, zx_nw, zx_na, zx_an, zx_cc, zx_gs, zx_as, zx_ae, zx_ac, zx_at, zr_seg, zr_t, zr_f, zr_tp, zr_fp, zr_lg, zr_lr, zr_lr0, zr_wi, zr_wr, zr_wn, zr_wl, zr_vo, zr_so, zr_sI, zr_sL, zr_sA, zr_sN, zr_in, zr_rd, zr_wr2, zr_kf, zr_k0, zr_k1, zr_k2, zr_k3, zr_k3n, zr_k10, zr_k11, zr_k12, zr_k13, zr_k13n, zr_ai, zr_af, zr_aw, zr_aL, zr_Lf, zr_Lw, zr_l2, zr_l20, zr_al, zr_an, zr_aq, zr_ag, zr_rfs, zr_rfn, zr_r1, zr_r2, zr_w0, zr_w1, zr_tl, zr_40, zr_41, zr_42, zr_43, d_law_0, d_law_3, d_law_4, d_law_7, d_law_8, d_law_11, d_law_12, d_law_15, d_law_16, ci_0, d_law_17, d_law_18, d_law_19, d_law_20, d_law_21, cb_8, d_law_23, d_law_24, zt_24_557, zo_24_557, d_law_27, d_law_28, d_law_29, d_law_30, cb_15, d_law_32, d_law_33, sw_0, sw_1, sw_2, sw_3, sw_4, sw_5, sw_6, Int.reduceAdd, Int.zero_add, zt_33_542, zo_33_542, zt_33_59, zo_33_59, zt_33_92, zo_33_92, zt_33_135, zo_33_135, zt_33_242, zo_33_242, zt_33_265, zo_33_265, zt_33_298, zo_33_298, zt_33_347, zo_33_347, zt_33_370, zo_33_370, zt_33_423, zo_33_423, zt_33_456, zo_33_456, zt_33_519, zo_33_519, d_law_92, d_law_93, d_law_94, d_law_95, ci_1, d_law_96, d_law_97, d_law_98, d_law_99, d_law_100, ci_2, d_law_101, d_law_102, d_law_103, d_law_106, d_law_107, d_law_108, d_law_109, d_law_110, d_law_111, d_law_112, d_law_113, d_law_114, d_law_115, d_law_116, d_law_117, d_law_120, zt_120_455, zo_120_455, d_law_123, d_law_124, d_law_125, d_law_126, d_law_127, d_law_128, d_law_129, d_law_130, d_law_131, d_law_132, d_law_133, d_law_134, d_law_135, d_law_136, d_law_137, d_law_138, ci_3, d_law_139, d_law_140, d_law_141, d_law_144, d_law_145, d_law_146, d_law_147, d_law_148, d_law_149, d_law_150, d_law_151, d_law_152, d_law_153, d_law_154, d_law_155, d_law_156, d_law_157, d_law_158, d_law_159, d_law_160, d_law_163, zt_163_412, zo_163_412, d_law_166, d_law_167, d_law_168, d_law_169, d_law_170, d_law_171, d_law_172, d_law_173, d_law_174, d_law_175, d_law_176, d_law_177, d_law_178, d_law_179, d_law_180, d_law_181, d_law_182, d_law_183, d_law_184, d_law_185, d_law_186, ci_4, d_law_187, d_law_188, d_law_189, d_law_190, d_law_191, ci_5, d_law_192, d_law_193, d_law_194, d_law_195, d_law_196, cb_6, d_law_198, d_law_199, d_law_200, d_law_201, cb_32, d_law_203, d_law_204, d_law_205, d_law_206, cb_7, d_law_208, d_law_209, d_law_210, d_law_211, ll_W_23, d_law_214, d_law_215, d_law_216, d_law_219, d_law_220, d_law_221, d_law_222, d_law_223, d_law_224, d_law_225, d_law_226, d_law_227, d_law_228, d_law_229, d_law_230, d_law_231, d_law_232, d_law_233, d_law_234, d_law_235, d_law_236, d_law_237, d_law_238, d_law_239, d_law_240, d_law_241, d_law_242, d_law_243, d_law_244, d_law_245, d_law_246, d_law_247, d_law_249, d_law_250, d_law_251, d_law_252, d_law_254, d_law_255, d_law_256, d_law_257, d_law_259, d_law_260, d_law_261, d_law_262, d_law_265, d_law_266, d_law_267, d_law_270, zt_270_305, zo_270_305, d_law_273, d_law_274, d_law_275, d_law_276, d_law_277, d_law_278, d_law_279, d_law_280, d_law_281, d_law_284, d_law_285, d_law_286, d_law_287, d_law_288, d_law_289, d_law_290, d_law_293, zt_293_282, zo_293_282, d_law_296, d_law_297, d_law_298, d_law_299, d_law_300, d_law_301, d_law_302, d_law_303, d_law_304, d_law_305, d_law_306, d_law_307, d_law_308, d_law_309, d_law_312, d_law_313, d_law_314, d_law_315, d_law_316, d_law_317, d_law_318, d_law_319, d_law_320, d_law_321, d_law_322, d_law_323, d_law_326, zt_326_249, zo_326_249, d_law_329, d_law_330, d_law_331, d_law_332, d_law_333, d_law_334, d_law_335, d_law_336, d_law_337, d_law_338, d_law_339, d_law_340, d_law_341, d_law_342, zt_342_7, zo_342_7, d_law_345, d_law_346, zt_346_4, zo_346_4, d_law_349, d_law_350, d_law_353, d_law_354, d_law_355, d_law_356, d_law_357, d_law_358, d_law_359, d_law_360, d_law_361, d_law_362, d_law_363, d_law_364, zt_364_7, zo_364_7, d_law_367, d_law_368, zt_368_4, zo_368_4, d_law_371, d_law_372, d_law_375, zt_375_200, zo_375_200, d_law_378, d_law_379, d_law_380, d_law_381, d_law_382, d_law_383, d_law_384, d_law_385, d_law_386, d_law_389, d_law_390, d_law_391, d_law_392, d_law_393, d_law_394, d_law_395, d_law_398, zt_398_177, zo_398_177, d_law_401, d_law_402, d_law_403, d_law_404, d_law_405, d_law_406, d_law_407, d_law_408, d_law_409, d_law_410, d_law_412, d_law_413, d_law_414, d_law_415, d_law_416, d_law_417, d_law_418, d_law_419, d_law_422, d_law_423, d_law_424, d_law_427, d_law_428, d_law_429, d_law_430, d_law_431, d_law_432, d_law_433, d_law_434, d_law_436, d_law_437, d_law_438, d_law_439, d_law_440, d_law_441, d_law_442, d_law_443, d_law_446, d_law_447, d_law_448, d_law_451, zt_451_124, zo_451_124, d_law_454, d_law_455, d_law_456, d_law_457, d_law_458, d_law_459, d_law_460, d_law_461, d_law_462, d_law_463, d_law_464, d_law_465, d_law_466, d_law_467, d_law_470, d_law_471, d_law_472, d_law_473, d_law_474, d_law_475, d_law_476, d_law_477, d_law_478, d_law_479, d_law_480, d_law_481, d_law_484, zt_484_91, zo_484_91, d_law_487, d_law_488, d_law_489, d_law_490, d_law_491, d_law_492, d_law_493, d_law_494, d_law_495, d_law_496, d_law_497, d_law_498, d_law_499, d_law_500, d_law_501, d_law_503, d_law_504, d_law_505, d_law_506, d_law_507, d_law_508, d_law_509, d_law_510, d_law_513, d_law_514, d_law_515, d_law_518, d_law_519, d_law_520, d_law_521, d_law_522, d_law_523, d_law_524, d_law_525, d_law_526, d_law_527, d_law_528, d_law_529, d_law_530, d_law_532, d_law_533, d_law_534, d_law_535, d_law_536, d_law_537, d_law_538, d_law_539, d_law_542, d_law_543, d_law_544, d_law_547, zt_547_28, zo_547_28, d_law_550, d_law_551, d_law_552, d_law_553, d_law_554, d_law_555, d_law_556, d_law_557, d_law_558, d_law_561, d_law_562, d_law_563, d_law_564, d_law_565, d_law_566, d_law_567, d_law_570, zt_570_5, zo_570_5, d_law_573, d_law_574, d_law_575, d_law_578, zt_578_m560, zo_578_m560, d_law_581, d_law_582, za_0, za_i, za_r, za_n, za_l, zu_s, zu_u, Nat.reduceAdd, Nat.reduceLT, Nat.reduceBEq, Nat.zero_add, Bool.false_or, Bool.or_false, Bool.true_or, Bool.or_true, Bool.false_and, Bool.and_false, Bool.true_and, Bool.and_true, true_and, and_true, true_or, or_true, eq_self, Nat.le_refl, List.getElem?_cons_succ, List.getElem?_cons_zero, List.set_cons_succ, List.set_cons_zero, zk_0, zk_1, zk_2, zk_3, zk_4, zq_1, zq_2, Option.isSome_some, Option.getD_some, Option.toList_some, Option.toList_none, List.cons_append, List.nil_append, h, true_implies, false_implies, not_true_eq_false, not_false_eq_true, zn_10, Int32.reduceLT, Int32.reduceLE, implies_true, and_self]
    exact kk
end LAW
/-- what holds behind cn calls of the law -/
def zInv (M : zVw) (dA : Nat → ClassId) (b1 b2 cn k n : Nat) : Prop := ∃ (rl : Nat → Nat) (A : Nat → Nat → Nat) (B : Nat → Nat) (S : Nat → Nat → Nat → Int32) (N : Nat → Nat → Nat) (T : Nat → Int64) (I : Nat → Nat → Int32) (L0 : Nat → Nat → Int64), zRep M rl dA A S N T ∧ zRf M rl dA B I L0 ∧ zRel S N T I L0 ∧ A 0 0 = b1 ∧ B 0 = b2 ∧ N 1 0 + zsum (N 3) ≤ cn ∧ k ≤ 100 + 3 * cn + 2 * zsum (N 4) + 2 * N 1 0 ∧ n ≤ 20000 + 1526 * cn + 1521 * zsum (N 4) + 1513 * N 1 0
theorem dev_ne {dev : Int32} {d d' : Nat} (h1 : dev = nI d) (h2 : dev = nI d') (hd : d < 8) (hd' : d' < 8) : d = d' := (nI_eq (by omega) (by omega)).mp (h1.symm.trans h2)
theorem join_x {S : Nat → Nat → Nat → Int32} {N : Nat → Nat → Nat} {T : Nat → Int64} {I : Nat → Nat → Int32} {L : Nat → Nat → Int64} {dev : Int32} (hb : zBd N) (hq : zRel S N T I L) : ∃ X, X ≤ 30 ∧ (∀ d, d < 8 → dev = nI d → (zJp S N d (N 3 d)).2 1 0 - N 1 0 ≤ X) ∧ ∀ v S' N', zJoin S N dev v S' N' → N 1 0 + X ≤ N' 1 0 := by
  by_cases hd : ∃ d, d < 8 ∧ dev = nI d
  · obtain ⟨d, d8, hd⟩ := hd
    refine ⟨(zJp S N d (N 3 d)).2 1 0 - N 1 0, ?_, fun d' d8' hd' => ?_, fun v S' N' h => ?_⟩
    · have := zJp_up (S := S) (N := N) (d := d) (N 3 d)
      have := (hb.b3 d d8).1
      omega
    · rw [dev_ne hd hd' d8 d8']; exact Nat.le_refl _
    · have := jc hq h d8 hd
      have := (ga_join h).2.2
      omega
  · exact ⟨0, by omega, fun d d8 h => absurd ⟨d, d8, h⟩ hd, fun v S' N' h => (ga_join h).2.2⟩
theorem cut_x {S : Nat → Nat → Nat → Int32} {N : Nat → Nat → Nat} {dev on : Int32} (hb : zBd N) : ∃ X, X ≤ 60 ∧ (∀ d, d < 8 → dev = nI d → S 4 d 0 ≠ on → on ≠ 0 → N 0 0 - N 4 d ≤ X) ∧ ∀ v S' N', zCut S N dev on v S' N' → zsum (N 4) + X ≤ zsum (N' 4) := by
  by_cases hd : ∃ d, d < 8 ∧ dev = nI d ∧ S 4 d 0 ≠ on ∧ on ≠ 0
  · obtain ⟨d, d8, hd, h1, h2⟩ := hd
    refine ⟨N 0 0 - N 4 d, ?_, fun d' d8' hd' _ _ => ?_, fun v S' N' h => ?_⟩
    · have := hb.b0
      omega
    · rw [dev_ne hd hd' d8 d8']; exact Nat.le_refl _
    · have := (ga_cut hb h).2 d d8 hd h1 h2
      omega
  · exact ⟨0, by omega, fun d d8 h h1 h2 => absurd ⟨d, d8, h, h1, h2⟩ hd, fun v S' N' h => (ga_cut hb h).1.2.1⟩
