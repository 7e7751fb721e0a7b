abbrev b_law : ByteArray := code
theorem d_law_0 : decode code 0 = .ok (.new 7, 3) := by decide +kernel
theorem d_law_3 : decode code 3 = .ok (.dup, 1) := by decide +kernel
theorem d_law_4 : decode code 4 = .ok (.invokespecial 9, 3) := by decide +kernel
theorem d_law_7 : decode code 7 = .ok (.astore_n 1, 1) := by decide +kernel
theorem d_law_8 : decode code 8 = .ok (.new 10, 3) := by decide +kernel
theorem d_law_11 : decode code 11 = .ok (.dup, 1) := by decide +kernel
theorem d_law_12 : decode code 12 = .ok (.invokespecial 12, 3) := by decide +kernel
theorem d_law_15 : decode code 15 = .ok (.astore_n 2, 1) := by decide +kernel
theorem d_law_16 : decode code 16 = .ok (.iconst 0, 1) := by decide +kernel
theorem d_law_17 : decode code 17 = .ok (.istore_n 3, 1) := by decide +kernel
theorem d_law_18 : decode code 18 = .ok (.iload_n 3, 1) := by decide +kernel
theorem d_law_19 : decode code 19 = .ok (.aload_n 0, 1) := by decide +kernel
theorem d_law_20 : decode code 20 = .ok (.arraylength, 1) := by decide +kernel
theorem d_law_21 : decode code 21 = .ok (.bipush 7, 2) := by decide +kernel
theorem d_law_23 : decode code 23 = .ok (.isub, 1) := by decide +kernel
theorem d_law_24 : decode code 24 = .ok (.if_icmp .gt 682, 3) := by decide +kernel
theorem d_law_27 : decode code 27 = .ok (.aload_n 0, 1) := by decide +kernel
theorem d_law_28 : decode code 28 = .ok (.iload_n 3, 1) := by decide +kernel
theorem d_law_29 : decode code 29 = .ok (.iaload, 1) := by decide +kernel
theorem d_law_30 : decode code 30 = .ok (.bipush 15, 2) := by decide +kernel
theorem d_law_32 : decode code 32 = .ok (.iand, 1) := by decide +kernel
theorem d_law_33 : decode code 33 = .ok (.tableswitch 667 0 11 #[63, 96, 149, 192, 275, 390, 443, 476, 525, 558, 581, 644], 63) := by decide +kernel
theorem d_law_96 : decode code 96 = .ok (.aload_n 1, 1) := by decide +kernel
theorem d_law_97 : decode code 97 = .ok (.aload_n 0, 1) := by decide +kernel
theorem d_law_98 : decode code 98 = .ok (.iload_n 3, 1) := by decide +kernel
theorem d_law_99 : decode code 99 = .ok (.iconst 1, 1) := by decide +kernel
theorem d_law_100 : decode code 100 = .ok (.iadd, 1) := by decide +kernel
theorem d_law_101 : decode code 101 = .ok (.iaload, 1) := by decide +kernel
theorem d_law_102 : decode code 102 = .ok (.aload_n 0, 1) := by decide +kernel
theorem d_law_103 : decode code 103 = .ok (.iload_n 3, 1) := by decide +kernel
theorem d_law_104 : decode code 104 = .ok (.iconst 2, 1) := by decide +kernel
theorem d_law_105 : decode code 105 = .ok (.iadd, 1) := by decide +kernel
theorem d_law_106 : decode code 106 = .ok (.iaload, 1) := by decide +kernel
theorem d_law_107 : decode code 107 = .ok (.invokevirtual 13, 3) := by decide +kernel
theorem d_law_110 : decode code 110 = .ok (.aload_n 2, 1) := by decide +kernel
theorem d_law_111 : decode code 111 = .ok (.aload_n 0, 1) := by decide +kernel
theorem d_law_112 : decode code 112 = .ok (.iload_n 3, 1) := by decide +kernel
theorem d_law_113 : decode code 113 = .ok (.iconst 1, 1) := by decide +kernel
theorem d_law_114 : decode code 114 = .ok (.iadd, 1) := by decide +kernel
theorem d_law_115 : decode code 115 = .ok (.iaload, 1) := by decide +kernel
theorem d_law_116 : decode code 116 = .ok (.aload_n 0, 1) := by decide +kernel
theorem d_law_117 : decode code 117 = .ok (.iload_n 3, 1) := by decide +kernel
theorem d_law_118 : decode code 118 = .ok (.iconst 2, 1) := by decide +kernel
theorem d_law_119 : decode code 119 = .ok (.iadd, 1) := by decide +kernel
theorem d_law_120 : decode code 120 = .ok (.iaload, 1) := by decide +kernel
theorem d_law_121 : decode code 121 = .ok (.invokevirtual 17, 3) := by decide +kernel
theorem d_law_124 : decode code 124 = .ok (.if_icmp .eq 576, 3) := by decide +kernel
theorem d_law_127 : decode code 127 = .ok (.iconst 0, 1) := by decide +kernel
theorem d_law_128 : decode code 128 = .ok (.ireturn, 1) := by decide +kernel
theorem d_law_129 : decode code 129 = .ok (.aload_n 1, 1) := by decide +kernel
theorem d_law_130 : decode code 130 = .ok (.aload_n 0, 1) := by decide +kernel
theorem d_law_131 : decode code 131 = .ok (.iload_n 3, 1) := by decide +kernel
theorem d_law_132 : decode code 132 = .ok (.iconst 1, 1) := by decide +kernel
theorem d_law_133 : decode code 133 = .ok (.iadd, 1) := by decide +kernel
theorem d_law_134 : decode code 134 = .ok (.iaload, 1) := by decide +kernel
theorem d_law_135 : decode code 135 = .ok (.aload_n 0, 1) := by decide +kernel
theorem d_law_136 : decode code 136 = .ok (.iload_n 3, 1) := by decide +kernel
theorem d_law_137 : decode code 137 = .ok (.iconst 2, 1) := by decide +kernel
theorem d_law_138 : decode code 138 = .ok (.iadd, 1) := by decide +kernel
theorem d_law_139 : decode code 139 = .ok (.iaload, 1) := by decide +kernel
theorem d_law_140 : decode code 140 = .ok (.aload_n 0, 1) := by decide +kernel
theorem d_law_141 : decode code 141 = .ok (.iload_n 3, 1) := by decide +kernel
theorem d_law_142 : decode code 142 = .ok (.iconst 3, 1) := by decide +kernel
theorem d_law_143 : decode code 143 = .ok (.iadd, 1) := by decide +kernel
theorem d_law_144 : decode code 144 = .ok (.iaload, 1) := by decide +kernel
theorem d_law_145 : decode code 145 = .ok (.aload_n 0, 1) := by decide +kernel
theorem d_law_146 : decode code 146 = .ok (.iload_n 3, 1) := by decide +kernel
theorem d_law_147 : decode code 147 = .ok (.iconst 4, 1) := by decide +kernel
theorem d_law_148 : decode code 148 = .ok (.iadd, 1) := by decide +kernel
theorem d_law_149 : decode code 149 = .ok (.iaload, 1) := by decide +kernel
theorem d_law_150 : decode code 150 = .ok (.invokevirtual 18, 3) := by decide +kernel
theorem d_law_153 : decode code 153 = .ok (.aload_n 2, 1) := by decide +kernel
theorem d_law_154 : decode code 154 = .ok (.aload_n 0, 1) := by decide +kernel
theorem d_law_155 : decode code 155 = .ok (.iload_n 3, 1) := by decide +kernel
theorem d_law_156 : decode code 156 = .ok (.iconst 1, 1) := by decide +kernel
theorem d_law_157 : decode code 157 = .ok (.iadd, 1) := by decide +kernel
theorem d_law_158 : decode code 158 = .ok (.iaload, 1) := by decide +kernel
theorem d_law_159 : decode code 159 = .ok (.aload_n 0, 1) := by decide +kernel
theorem d_law_160 : decode code 160 = .ok (.iload_n 3, 1) := by decide +kernel
theorem d_law_161 : decode code 161 = .ok (.iconst 2, 1) := by decide +kernel
theorem d_law_162 : decode code 162 = .ok (.iadd, 1) := by decide +kernel
theorem d_law_163 : decode code 163 = .ok (.iaload, 1) := by decide +kernel
theorem d_law_164 : decode code 164 = .ok (.aload_n 0, 1) := by decide +kernel
theorem d_law_165 : decode code 165 = .ok (.iload_n 3, 1) := by decide +kernel
theorem d_law_166 : decode code 166 = .ok (.iconst 3, 1) := by decide +kernel
theorem d_law_167 : decode code 167 = .ok (.iadd, 1) := by decide +kernel
theorem d_law_168 : decode code 168 = .ok (.iaload, 1) := by decide +kernel
theorem d_law_169 : decode code 169 = .ok (.aload_n 0, 1) := by decide +kernel
theorem d_law_170 : decode code 170 = .ok (.iload_n 3, 1) := by decide +kernel
theorem d_law_171 : decode code 171 = .ok (.iconst 4, 1) := by decide +kernel
theorem d_law_172 : decode code 172 = .ok (.iadd, 1) := by decide +kernel
theorem d_law_173 : decode code 173 = .ok (.iaload, 1) := by decide +kernel
theorem d_law_174 : decode code 174 = .ok (.invokevirtual 22, 3) := by decide +kernel
theorem d_law_177 : decode code 177 = .ok (.if_icmp .eq 523, 3) := by decide +kernel
theorem d_law_180 : decode code 180 = .ok (.iconst 0, 1) := by decide +kernel
theorem d_law_181 : decode code 181 = .ok (.ireturn, 1) := by decide +kernel
theorem d_law_182 : decode code 182 = .ok (.aload_n 1, 1) := by decide +kernel
theorem d_law_183 : decode code 183 = .ok (.aload_n 0, 1) := by decide +kernel
theorem d_law_184 : decode code 184 = .ok (.iload_n 3, 1) := by decide +kernel
theorem d_law_185 : decode code 185 = .ok (.iconst 1, 1) := by decide +kernel
theorem d_law_186 : decode code 186 = .ok (.iadd, 1) := by decide +kernel
theorem d_law_187 : decode code 187 = .ok (.iaload, 1) := by decide +kernel
theorem d_law_188 : decode code 188 = .ok (.aload_n 0, 1) := by decide +kernel
theorem d_law_189 : decode code 189 = .ok (.iload_n 3, 1) := by decide +kernel
theorem d_law_190 : decode code 190 = .ok (.iconst 2, 1) := by decide +kernel
theorem d_law_191 : decode code 191 = .ok (.iadd, 1) := by decide +kernel
theorem d_law_192 : decode code 192 = .ok (.iaload, 1) := by decide +kernel
theorem d_law_193 : decode code 193 = .ok (.aload_n 0, 1) := by decide +kernel
theorem d_law_194 : decode code 194 = .ok (.iload_n 3, 1) := by decide +kernel
theorem d_law_195 : decode code 195 = .ok (.iconst 3, 1) := by decide +kernel
theorem d_law_196 : decode code 196 = .ok (.iadd, 1) := by decide +kernel
theorem d_law_197 : decode code 197 = .ok (.iaload, 1) := by decide +kernel
theorem d_law_198 : decode code 198 = .ok (.invokevirtual 23, 3) := by decide +kernel
theorem d_law_201 : decode code 201 = .ok (.aload_n 2, 1) := by decide +kernel
theorem d_law_202 : decode code 202 = .ok (.aload_n 0, 1) := by decide +kernel
theorem d_law_203 : decode code 203 = .ok (.iload_n 3, 1) := by decide +kernel
theorem d_law_204 : decode code 204 = .ok (.iconst 1, 1) := by decide +kernel
theorem d_law_205 : decode code 205 = .ok (.iadd, 1) := by decide +kernel
theorem d_law_206 : decode code 206 = .ok (.iaload, 1) := by decide +kernel
theorem d_law_207 : decode code 207 = .ok (.aload_n 0, 1) := by decide +kernel
theorem d_law_208 : decode code 208 = .ok (.iload_n 3, 1) := by decide +kernel
theorem d_law_209 : decode code 209 = .ok (.iconst 2, 1) := by decide +kernel
theorem d_law_210 : decode code 210 = .ok (.iadd, 1) := by decide +kernel
theorem d_law_211 : decode code 211 = .ok (.iaload, 1) := by decide +kernel
theorem d_law_212 : decode code 212 = .ok (.aload_n 0, 1) := by decide +kernel
theorem d_law_213 : decode code 213 = .ok (.iload_n 3, 1) := by decide +kernel
theorem d_law_214 : decode code 214 = .ok (.iconst 3, 1) := by decide +kernel
theorem d_law_215 : decode code 215 = .ok (.iadd, 1) := by decide +kernel
theorem d_law_216 : decode code 216 = .ok (.iaload, 1) := by decide +kernel
theorem d_law_217 : decode code 217 = .ok (.invokevirtual 27, 3) := by decide +kernel
theorem d_law_220 : decode code 220 = .ok (.if_icmp .eq 480, 3) := by decide +kernel
theorem d_law_223 : decode code 223 = .ok (.iconst 0, 1) := by decide +kernel
theorem d_law_224 : decode code 224 = .ok (.ireturn, 1) := by decide +kernel
theorem d_law_225 : decode code 225 = .ok (.aload_n 1, 1) := by decide +kernel
theorem d_law_226 : decode code 226 = .ok (.aload_n 0, 1) := by decide +kernel
theorem d_law_227 : decode code 227 = .ok (.iload_n 3, 1) := by decide +kernel
theorem d_law_228 : decode code 228 = .ok (.iconst 1, 1) := by decide +kernel
theorem d_law_229 : decode code 229 = .ok (.iadd, 1) := by decide +kernel
theorem d_law_230 : decode code 230 = .ok (.iaload, 1) := by decide +kernel
theorem d_law_231 : decode code 231 = .ok (.aload_n 0, 1) := by decide +kernel
theorem d_law_232 : decode code 232 = .ok (.iload_n 3, 1) := by decide +kernel
theorem d_law_233 : decode code 233 = .ok (.iconst 2, 1) := by decide +kernel
theorem d_law_234 : decode code 234 = .ok (.iadd, 1) := by decide +kernel
theorem d_law_235 : decode code 235 = .ok (.iaload, 1) := by decide +kernel
theorem d_law_236 : decode code 236 = .ok (.aload_n 0, 1) := by decide +kernel
theorem d_law_237 : decode code 237 = .ok (.iload_n 3, 1) := by decide +kernel
theorem d_law_238 : decode code 238 = .ok (.iconst 3, 1) := by decide +kernel
theorem d_law_239 : decode code 239 = .ok (.iadd, 1) := by decide +kernel
theorem d_law_240 : decode code 240 = .ok (.iaload, 1) := by decide +kernel
theorem d_law_241 : decode code 241 = .ok (.aload_n 0, 1) := by decide +kernel
theorem d_law_242 : decode code 242 = .ok (.iload_n 3, 1) := by decide +kernel
theorem d_law_243 : decode code 243 = .ok (.iconst 4, 1) := by decide +kernel
theorem d_law_244 : decode code 244 = .ok (.iadd, 1) := by decide +kernel
theorem d_law_245 : decode code 245 = .ok (.iaload, 1) := by decide +kernel
theorem d_law_246 : decode code 246 = .ok (.i2l, 1) := by decide +kernel
theorem d_law_247 : decode code 247 = .ok (.bipush 32, 2) := by decide +kernel
theorem d_law_249 : decode code 249 = .ok (.lshl, 1) := by decide +kernel
theorem d_law_250 : decode code 250 = .ok (.aload_n 0, 1) := by decide +kernel
theorem d_law_251 : decode code 251 = .ok (.iload_n 3, 1) := by decide +kernel
theorem d_law_252 : decode code 252 = .ok (.iconst 5, 1) := by decide +kernel
theorem d_law_253 : decode code 253 = .ok (.iadd, 1) := by decide +kernel
theorem d_law_254 : decode code 254 = .ok (.iaload, 1) := by decide +kernel
theorem d_law_255 : decode code 255 = .ok (.i2l, 1) := by decide +kernel
theorem d_law_256 : decode code 256 = .ok (.ldc2_w 28, 3) := by decide +kernel
theorem d_law_259 : decode code 259 = .ok (.land, 1) := by decide +kernel
theorem d_law_260 : decode code 260 = .ok (.lor, 1) := by decide +kernel
theorem d_law_261 : decode code 261 = .ok (.invokevirtual 30, 3) := by decide +kernel
theorem d_law_264 : decode code 264 = .ok (.aload_n 2, 1) := by decide +kernel
theorem d_law_265 : decode code 265 = .ok (.aload_n 0, 1) := by decide +kernel
theorem d_law_266 : decode code 266 = .ok (.iload_n 3, 1) := by decide +kernel
theorem d_law_267 : decode code 267 = .ok (.iconst 1, 1) := by decide +kernel
theorem d_law_268 : decode code 268 = .ok (.iadd, 1) := by decide +kernel
theorem d_law_269 : decode code 269 = .ok (.iaload, 1) := by decide +kernel
theorem d_law_270 : decode code 270 = .ok (.aload_n 0, 1) := by decide +kernel
theorem d_law_271 : decode code 271 = .ok (.iload_n 3, 1) := by decide +kernel
theorem d_law_272 : decode code 272 = .ok (.iconst 2, 1) := by decide +kernel
theorem d_law_273 : decode code 273 = .ok (.iadd, 1) := by decide +kernel
theorem d_law_274 : decode code 274 = .ok (.iaload, 1) := by decide +kernel
theorem d_law_275 : decode code 275 = .ok (.aload_n 0, 1) := by decide +kernel
theorem d_law_276 : decode code 276 = .ok (.iload_n 3, 1) := by decide +kernel
theorem d_law_277 : decode code 277 = .ok (.iconst 3, 1) := by decide +kernel
theorem d_law_278 : decode code 278 = .ok (.iadd, 1) := by decide +kernel
theorem d_law_279 : decode code 279 = .ok (.iaload, 1) := by decide +kernel
theorem d_law_280 : decode code 280 = .ok (.aload_n 0, 1) := by decide +kernel
theorem d_law_281 : decode code 281 = .ok (.iload_n 3, 1) := by decide +kernel
theorem d_law_282 : decode code 282 = .ok (.iconst 4, 1) := by decide +kernel
theorem d_law_283 : decode code 283 = .ok (.iadd, 1) := by decide +kernel
theorem d_law_284 : decode code 284 = .ok (.iaload, 1) := by decide +kernel
theorem d_law_285 : decode code 285 = .ok (.i2l, 1) := by decide +kernel
theorem d_law_286 : decode code 286 = .ok (.bipush 32, 2) := by decide +kernel
theorem d_law_288 : decode code 288 = .ok (.lshl, 1) := by decide +kernel
theorem d_law_289 : decode code 289 = .ok (.aload_n 0, 1) := by decide +kernel
theorem d_law_290 : decode code 290 = .ok (.iload_n 3, 1) := by decide +kernel
theorem d_law_291 : decode code 291 = .ok (.iconst 5, 1) := by decide +kernel
theorem d_law_292 : decode code 292 = .ok (.iadd, 1) := by decide +kernel
theorem d_law_293 : decode code 293 = .ok (.iaload, 1) := by decide +kernel
theorem d_law_294 : decode code 294 = .ok (.i2l, 1) := by decide +kernel
theorem d_law_295 : decode code 295 = .ok (.ldc2_w 28, 3) := by decide +kernel
theorem d_law_298 : decode code 298 = .ok (.land, 1) := by decide +kernel
theorem d_law_299 : decode code 299 = .ok (.lor, 1) := by decide +kernel
theorem d_law_300 : decode code 300 = .ok (.invokevirtual 34, 3) := by decide +kernel
theorem d_law_303 : decode code 303 = .ok (.if_icmp .eq 397, 3) := by decide +kernel
theorem d_law_306 : decode code 306 = .ok (.iconst 0, 1) := by decide +kernel
theorem d_law_307 : decode code 307 = .ok (.ireturn, 1) := by decide +kernel
theorem d_law_308 : decode code 308 = .ok (.aload_n 1, 1) := by decide +kernel
theorem d_law_309 : decode code 309 = .ok (.aload_n 0, 1) := by decide +kernel
theorem d_law_310 : decode code 310 = .ok (.iload_n 3, 1) := by decide +kernel
theorem d_law_311 : decode code 311 = .ok (.iconst 1, 1) := by decide +kernel
theorem d_law_312 : decode code 312 = .ok (.iadd, 1) := by decide +kernel
theorem d_law_313 : decode code 313 = .ok (.iaload, 1) := by decide +kernel
theorem d_law_314 : decode code 314 = .ok (.aload_n 0, 1) := by decide +kernel
theorem d_law_315 : decode code 315 = .ok (.iload_n 3, 1) := by decide +kernel
theorem d_law_316 : decode code 316 = .ok (.iconst 2, 1) := by decide +kernel
theorem d_law_317 : decode code 317 = .ok (.iadd, 1) := by decide +kernel
theorem d_law_318 : decode code 318 = .ok (.iaload, 1) := by decide +kernel
theorem d_law_319 : decode code 319 = .ok (.aload_n 0, 1) := by decide +kernel
theorem d_law_320 : decode code 320 = .ok (.iload_n 3, 1) := by decide +kernel
theorem d_law_321 : decode code 321 = .ok (.iconst 3, 1) := by decide +kernel
theorem d_law_322 : decode code 322 = .ok (.iadd, 1) := by decide +kernel
theorem d_law_323 : decode code 323 = .ok (.iaload, 1) := by decide +kernel
theorem d_law_324 : decode code 324 = .ok (.i2l, 1) := by decide +kernel
theorem d_law_325 : decode code 325 = .ok (.bipush 32, 2) := by decide +kernel
theorem d_law_327 : decode code 327 = .ok (.lshl, 1) := by decide +kernel
theorem d_law_328 : decode code 328 = .ok (.aload_n 0, 1) := by decide +kernel
theorem d_law_329 : decode code 329 = .ok (.iload_n 3, 1) := by decide +kernel
theorem d_law_330 : decode code 330 = .ok (.iconst 4, 1) := by decide +kernel
theorem d_law_331 : decode code 331 = .ok (.iadd, 1) := by decide +kernel
theorem d_law_332 : decode code 332 = .ok (.iaload, 1) := by decide +kernel
theorem d_law_333 : decode code 333 = .ok (.i2l, 1) := by decide +kernel
theorem d_law_334 : decode code 334 = .ok (.ldc2_w 28, 3) := by decide +kernel
theorem d_law_337 : decode code 337 = .ok (.land, 1) := by decide +kernel
theorem d_law_338 : decode code 338 = .ok (.lor, 1) := by decide +kernel
theorem d_law_339 : decode code 339 = .ok (.aload_n 0, 1) := by decide +kernel
theorem d_law_340 : decode code 340 = .ok (.iload_n 3, 1) := by decide +kernel
theorem d_law_341 : decode code 341 = .ok (.iconst 5, 1) := by decide +kernel
theorem d_law_342 : decode code 342 = .ok (.iadd, 1) := by decide +kernel
theorem d_law_343 : decode code 343 = .ok (.iaload, 1) := by decide +kernel
theorem d_law_344 : decode code 344 = .ok (.i2l, 1) := by decide +kernel
theorem d_law_345 : decode code 345 = .ok (.bipush 32, 2) := by decide +kernel
theorem d_law_347 : decode code 347 = .ok (.lshl, 1) := by decide +kernel
theorem d_law_348 : decode code 348 = .ok (.aload_n 0, 1) := by decide +kernel
theorem d_law_349 : decode code 349 = .ok (.iload_n 3, 1) := by decide +kernel
theorem d_law_350 : decode code 350 = .ok (.bipush 6, 2) := by decide +kernel
theorem d_law_352 : decode code 352 = .ok (.iadd, 1) := by decide +kernel
theorem d_law_353 : decode code 353 = .ok (.iaload, 1) := by decide +kernel
theorem d_law_354 : decode code 354 = .ok (.i2l, 1) := by decide +kernel
theorem d_law_355 : decode code 355 = .ok (.ldc2_w 28, 3) := by decide +kernel
theorem d_law_358 : decode code 358 = .ok (.land, 1) := by decide +kernel
theorem d_law_359 : decode code 359 = .ok (.lor, 1) := by decide +kernel
theorem d_law_360 : decode code 360 = .ok (.invokevirtual 35, 3) := by decide +kernel
theorem d_law_363 : decode code 363 = .ok (.aload_n 2, 1) := by decide +kernel
theorem d_law_364 : decode code 364 = .ok (.aload_n 0, 1) := by decide +kernel
theorem d_law_365 : decode code 365 = .ok (.iload_n 3, 1) := by decide +kernel
theorem d_law_366 : decode code 366 = .ok (.iconst 1, 1) := by decide +kernel
theorem d_law_367 : decode code 367 = .ok (.iadd, 1) := by decide +kernel
theorem d_law_368 : decode code 368 = .ok (.iaload, 1) := by decide +kernel
theorem d_law_369 : decode code 369 = .ok (.aload_n 0, 1) := by decide +kernel
theorem d_law_370 : decode code 370 = .ok (.iload_n 3, 1) := by decide +kernel
theorem d_law_371 : decode code 371 = .ok (.iconst 2, 1) := by decide +kernel
theorem d_law_372 : decode code 372 = .ok (.iadd, 1) := by decide +kernel
theorem d_law_373 : decode code 373 = .ok (.iaload, 1) := by decide +kernel
theorem d_law_374 : decode code 374 = .ok (.aload_n 0, 1) := by decide +kernel
theorem d_law_375 : decode code 375 = .ok (.iload_n 3, 1) := by decide +kernel
theorem d_law_376 : decode code 376 = .ok (.iconst 3, 1) := by decide +kernel
theorem d_law_377 : decode code 377 = .ok (.iadd, 1) := by decide +kernel
theorem d_law_378 : decode code 378 = .ok (.iaload, 1) := by decide +kernel
theorem d_law_379 : decode code 379 = .ok (.i2l, 1) := by decide +kernel
theorem d_law_380 : decode code 380 = .ok (.bipush 32, 2) := by decide +kernel
theorem d_law_382 : decode code 382 = .ok (.lshl, 1) := by decide +kernel
theorem d_law_383 : decode code 383 = .ok (.aload_n 0, 1) := by decide +kernel
theorem d_law_384 : decode code 384 = .ok (.iload_n 3, 1) := by decide +kernel
theorem d_law_385 : decode code 385 = .ok (.iconst 4, 1) := by decide +kernel
theorem d_law_386 : decode code 386 = .ok (.iadd, 1) := by decide +kernel
theorem d_law_387 : decode code 387 = .ok (.iaload, 1) := by decide +kernel
theorem d_law_388 : decode code 388 = .ok (.i2l, 1) := by decide +kernel
theorem d_law_389 : decode code 389 = .ok (.ldc2_w 28, 3) := by decide +kernel
theorem d_law_392 : decode code 392 = .ok (.land, 1) := by decide +kernel
theorem d_law_393 : decode code 393 = .ok (.lor, 1) := by decide +kernel
theorem d_law_394 : decode code 394 = .ok (.aload_n 0, 1) := by decide +kernel
theorem d_law_395 : decode code 395 = .ok (.iload_n 3, 1) := by decide +kernel
theorem d_law_396 : decode code 396 = .ok (.iconst 5, 1) := by decide +kernel
theorem d_law_397 : decode code 397 = .ok (.iadd, 1) := by decide +kernel
theorem d_law_398 : decode code 398 = .ok (.iaload, 1) := by decide +kernel
theorem d_law_399 : decode code 399 = .ok (.i2l, 1) := by decide +kernel
theorem d_law_400 : decode code 400 = .ok (.bipush 32, 2) := by decide +kernel
theorem d_law_402 : decode code 402 = .ok (.lshl, 1) := by decide +kernel
theorem d_law_403 : decode code 403 = .ok (.aload_n 0, 1) := by decide +kernel
theorem d_law_404 : decode code 404 = .ok (.iload_n 3, 1) := by decide +kernel
theorem d_law_405 : decode code 405 = .ok (.bipush 6, 2) := by decide +kernel
theorem d_law_407 : decode code 407 = .ok (.iadd, 1) := by decide +kernel
theorem d_law_408 : decode code 408 = .ok (.iaload, 1) := by decide +kernel
theorem d_law_409 : decode code 409 = .ok (.i2l, 1) := by decide +kernel
theorem d_law_410 : decode code 410 = .ok (.ldc2_w 28, 3) := by decide +kernel
theorem d_law_413 : decode code 413 = .ok (.land, 1) := by decide +kernel
theorem d_law_414 : decode code 414 = .ok (.lor, 1) := by decide +kernel
theorem d_law_415 : decode code 415 = .ok (.invokevirtual 39, 3) := by decide +kernel
theorem d_law_418 : decode code 418 = .ok (.if_icmp .eq 282, 3) := by decide +kernel
theorem d_law_421 : decode code 421 = .ok (.iconst 0, 1) := by decide +kernel
theorem d_law_422 : decode code 422 = .ok (.ireturn, 1) := by decide +kernel
theorem d_law_423 : decode code 423 = .ok (.aload_n 1, 1) := by decide +kernel
theorem d_law_424 : decode code 424 = .ok (.aload_n 0, 1) := by decide +kernel
theorem d_law_425 : decode code 425 = .ok (.iload_n 3, 1) := by decide +kernel
theorem d_law_426 : decode code 426 = .ok (.iconst 1, 1) := by decide +kernel
theorem d_law_427 : decode code 427 = .ok (.iadd, 1) := by decide +kernel
theorem d_law_428 : decode code 428 = .ok (.iaload, 1) := by decide +kernel
theorem d_law_429 : decode code 429 = .ok (.i2l, 1) := by decide +kernel
theorem d_law_430 : decode code 430 = .ok (.bipush 32, 2) := by decide +kernel
theorem d_law_432 : decode code 432 = .ok (.lshl, 1) := by decide +kernel
theorem d_law_433 : decode code 433 = .ok (.aload_n 0, 1) := by decide +kernel
theorem d_law_434 : decode code 434 = .ok (.iload_n 3, 1) := by decide +kernel
theorem d_law_435 : decode code 435 = .ok (.iconst 2, 1) := by decide +kernel
theorem d_law_436 : decode code 436 = .ok (.iadd, 1) := by decide +kernel
theorem d_law_437 : decode code 437 = .ok (.iaload, 1) := by decide +kernel
theorem d_law_438 : decode code 438 = .ok (.i2l, 1) := by decide +kernel
theorem d_law_439 : decode code 439 = .ok (.ldc2_w 28, 3) := by decide +kernel
theorem d_law_442 : decode code 442 = .ok (.land, 1) := by decide +kernel
theorem d_law_443 : decode code 443 = .ok (.lor, 1) := by decide +kernel
theorem d_law_444 : decode code 444 = .ok (.invokevirtual 40, 3) := by decide +kernel
theorem d_law_447 : decode code 447 = .ok (.aload_n 2, 1) := by decide +kernel
theorem d_law_448 : decode code 448 = .ok (.aload_n 0, 1) := by decide +kernel
theorem d_law_449 : decode code 449 = .ok (.iload_n 3, 1) := by decide +kernel
theorem d_law_450 : decode code 450 = .ok (.iconst 1, 1) := by decide +kernel
theorem d_law_451 : decode code 451 = .ok (.iadd, 1) := by decide +kernel
theorem d_law_452 : decode code 452 = .ok (.iaload, 1) := by decide +kernel
theorem d_law_453 : decode code 453 = .ok (.i2l, 1) := by decide +kernel
theorem d_law_454 : decode code 454 = .ok (.bipush 32, 2) := by decide +kernel
theorem d_law_456 : decode code 456 = .ok (.lshl, 1) := by decide +kernel
theorem d_law_457 : decode code 457 = .ok (.aload_n 0, 1) := by decide +kernel
theorem d_law_458 : decode code 458 = .ok (.iload_n 3, 1) := by decide +kernel
theorem d_law_459 : decode code 459 = .ok (.iconst 2, 1) := by decide +kernel
theorem d_law_460 : decode code 460 = .ok (.iadd, 1) := by decide +kernel
theorem d_law_461 : decode code 461 = .ok (.iaload, 1) := by decide +kernel
theorem d_law_462 : decode code 462 = .ok (.i2l, 1) := by decide +kernel
theorem d_law_463 : decode code 463 = .ok (.ldc2_w 28, 3) := by decide +kernel
theorem d_law_466 : decode code 466 = .ok (.land, 1) := by decide +kernel
theorem d_law_467 : decode code 467 = .ok (.lor, 1) := by decide +kernel
theorem d_law_468 : decode code 468 = .ok (.invokevirtual 44, 3) := by decide +kernel
theorem d_law_471 : decode code 471 = .ok (.if_icmp .eq 229, 3) := by decide +kernel
theorem d_law_474 : decode code 474 = .ok (.iconst 0, 1) := by decide +kernel
theorem d_law_475 : decode code 475 = .ok (.ireturn, 1) := by decide +kernel
theorem d_law_476 : decode code 476 = .ok (.aload_n 1, 1) := by decide +kernel
theorem d_law_477 : decode code 477 = .ok (.aload_n 0, 1) := by decide +kernel
theorem d_law_478 : decode code 478 = .ok (.iload_n 3, 1) := by decide +kernel
theorem d_law_479 : decode code 479 = .ok (.iconst 1, 1) := by decide +kernel
theorem d_law_480 : decode code 480 = .ok (.iadd, 1) := by decide +kernel
theorem d_law_481 : decode code 481 = .ok (.iaload, 1) := by decide +kernel
theorem d_law_482 : decode code 482 = .ok (.aload_n 0, 1) := by decide +kernel
theorem d_law_483 : decode code 483 = .ok (.iload_n 3, 1) := by decide +kernel
theorem d_law_484 : decode code 484 = .ok (.iconst 2, 1) := by decide +kernel
theorem d_law_485 : decode code 485 = .ok (.iadd, 1) := by decide +kernel
theorem d_law_486 : decode code 486 = .ok (.iaload, 1) := by decide +kernel
theorem d_law_487 : decode code 487 = .ok (.invokevirtual 45, 3) := by decide +kernel
theorem d_law_490 : decode code 490 = .ok (.aload_n 2, 1) := by decide +kernel
theorem d_law_491 : decode code 491 = .ok (.aload_n 0, 1) := by decide +kernel
theorem d_law_492 : decode code 492 = .ok (.iload_n 3, 1) := by decide +kernel
theorem d_law_493 : decode code 493 = .ok (.iconst 1, 1) := by decide +kernel
theorem d_law_494 : decode code 494 = .ok (.iadd, 1) := by decide +kernel
theorem d_law_495 : decode code 495 = .ok (.iaload, 1) := by decide +kernel
theorem d_law_496 : decode code 496 = .ok (.aload_n 0, 1) := by decide +kernel
theorem d_law_497 : decode code 497 = .ok (.iload_n 3, 1) := by decide +kernel
theorem d_law_498 : decode code 498 = .ok (.iconst 2, 1) := by decide +kernel
theorem d_law_499 : decode code 499 = .ok (.iadd, 1) := by decide +kernel
theorem d_law_500 : decode code 500 = .ok (.iaload, 1) := by decide +kernel
theorem d_law_501 : decode code 501 = .ok (.invokevirtual 48, 3) := by decide +kernel
theorem d_law_504 : decode code 504 = .ok (.if_icmp .eq 196, 3) := by decide +kernel
theorem d_law_507 : decode code 507 = .ok (.iconst 0, 1) := by decide +kernel
theorem d_law_508 : decode code 508 = .ok (.ireturn, 1) := by decide +kernel
theorem d_law_509 : decode code 509 = .ok (.aload_n 1, 1) := by decide +kernel
theorem d_law_510 : decode code 510 = .ok (.aload_n 0, 1) := by decide +kernel
theorem d_law_511 : decode code 511 = .ok (.iload_n 3, 1) := by decide +kernel
theorem d_law_512 : decode code 512 = .ok (.iconst 1, 1) := by decide +kernel
theorem d_law_513 : decode code 513 = .ok (.iadd, 1) := by decide +kernel
theorem d_law_514 : decode code 514 = .ok (.iaload, 1) := by decide +kernel
theorem d_law_515 : decode code 515 = .ok (.aload_n 0, 1) := by decide +kernel
theorem d_law_516 : decode code 516 = .ok (.iload_n 3, 1) := by decide +kernel
theorem d_law_517 : decode code 517 = .ok (.iconst 2, 1) := by decide +kernel
theorem d_law_518 : decode code 518 = .ok (.iadd, 1) := by decide +kernel
theorem d_law_519 : decode code 519 = .ok (.iaload, 1) := by decide +kernel
theorem d_law_520 : decode code 520 = .ok (.ifCond .eq 7, 3) := by decide +kernel
theorem d_law_523 : decode code 523 = .ok (.iconst 1, 1) := by decide +kernel
theorem d_law_524 : decode code 524 = .ok (.goto 4, 3) := by decide +kernel
theorem d_law_527 : decode code 527 = .ok (.iconst 0, 1) := by decide +kernel
theorem d_law_528 : decode code 528 = .ok (.invokevirtual 49, 3) := by decide +kernel
theorem d_law_531 : decode code 531 = .ok (.aload_n 2, 1) := by decide +kernel
theorem d_law_532 : decode code 532 = .ok (.aload_n 0, 1) := by decide +kernel
theorem d_law_533 : decode code 533 = .ok (.iload_n 3, 1) := by decide +kernel
theorem d_law_534 : decode code 534 = .ok (.iconst 1, 1) := by decide +kernel
theorem d_law_535 : decode code 535 = .ok (.iadd, 1) := by decide +kernel
theorem d_law_536 : decode code 536 = .ok (.iaload, 1) := by decide +kernel
theorem d_law_537 : decode code 537 = .ok (.aload_n 0, 1) := by decide +kernel
theorem d_law_538 : decode code 538 = .ok (.iload_n 3, 1) := by decide +kernel
theorem d_law_539 : decode code 539 = .ok (.iconst 2, 1) := by decide +kernel
theorem d_law_540 : decode code 540 = .ok (.iadd, 1) := by decide +kernel
theorem d_law_541 : decode code 541 = .ok (.iaload, 1) := by decide +kernel
theorem d_law_542 : decode code 542 = .ok (.ifCond .eq 7, 3) := by decide +kernel
theorem d_law_545 : decode code 545 = .ok (.iconst 1, 1) := by decide +kernel
theorem d_law_546 : decode code 546 = .ok (.goto 4, 3) := by decide +kernel
theorem d_law_549 : decode code 549 = .ok (.iconst 0, 1) := by decide +kernel
theorem d_law_550 : decode code 550 = .ok (.invokevirtual 53, 3) := by decide +kernel
theorem d_law_553 : decode code 553 = .ok (.if_icmp .eq 147, 3) := by decide +kernel
theorem d_law_556 : decode code 556 = .ok (.iconst 0, 1) := by decide +kernel
theorem d_law_557 : decode code 557 = .ok (.ireturn, 1) := by decide +kernel
theorem d_law_558 : decode code 558 = .ok (.aload_n 1, 1) := by decide +kernel
theorem d_law_559 : decode code 559 = .ok (.aload_n 0, 1) := by decide +kernel
theorem d_law_560 : decode code 560 = .ok (.iload_n 3, 1) := by decide +kernel
theorem d_law_561 : decode code 561 = .ok (.iconst 1, 1) := by decide +kernel
theorem d_law_562 : decode code 562 = .ok (.iadd, 1) := by decide +kernel
theorem d_law_563 : decode code 563 = .ok (.iaload, 1) := by decide +kernel
theorem d_law_564 : decode code 564 = .ok (.aload_n 0, 1) := by decide +kernel
theorem d_law_565 : decode code 565 = .ok (.iload_n 3, 1) := by decide +kernel
theorem d_law_566 : decode code 566 = .ok (.iconst 2, 1) := by decide +kernel
theorem d_law_567 : decode code 567 = .ok (.iadd, 1) := by decide +kernel
theorem d_law_568 : decode code 568 = .ok (.iaload, 1) := by decide +kernel
theorem d_law_569 : decode code 569 = .ok (.invokevirtual 54, 3) := by decide +kernel
theorem d_law_572 : decode code 572 = .ok (.aload_n 2, 1) := by decide +kernel
theorem d_law_573 : decode code 573 = .ok (.aload_n 0, 1) := by decide +kernel
theorem d_law_574 : decode code 574 = .ok (.iload_n 3, 1) := by decide +kernel
theorem d_law_575 : decode code 575 = .ok (.iconst 1, 1) := by decide +kernel
theorem d_law_576 : decode code 576 = .ok (.iadd, 1) := by decide +kernel
theorem d_law_577 : decode code 577 = .ok (.iaload, 1) := by decide +kernel
theorem d_law_578 : decode code 578 = .ok (.aload_n 0, 1) := by decide +kernel
theorem d_law_579 : decode code 579 = .ok (.iload_n 3, 1) := by decide +kernel
theorem d_law_580 : decode code 580 = .ok (.iconst 2, 1) := by decide +kernel
theorem d_law_581 : decode code 581 = .ok (.iadd, 1) := by decide +kernel
theorem d_law_582 : decode code 582 = .ok (.iaload, 1) := by decide +kernel
theorem d_law_583 : decode code 583 = .ok (.invokevirtual 57, 3) := by decide +kernel
theorem d_law_586 : decode code 586 = .ok (.if_icmp .eq 114, 3) := by decide +kernel
theorem d_law_589 : decode code 589 = .ok (.iconst 0, 1) := by decide +kernel
theorem d_law_590 : decode code 590 = .ok (.ireturn, 1) := by decide +kernel
theorem d_law_591 : decode code 591 = .ok (.aload_n 1, 1) := by decide +kernel
theorem d_law_592 : decode code 592 = .ok (.aload_n 0, 1) := by decide +kernel
theorem d_law_593 : decode code 593 = .ok (.iload_n 3, 1) := by decide +kernel
theorem d_law_594 : decode code 594 = .ok (.iconst 1, 1) := by decide +kernel
theorem d_law_595 : decode code 595 = .ok (.iadd, 1) := by decide +kernel
theorem d_law_596 : decode code 596 = .ok (.iaload, 1) := by decide +kernel
theorem d_law_597 : decode code 597 = .ok (.invokevirtual 58, 3) := by decide +kernel
theorem d_law_600 : decode code 600 = .ok (.aload_n 2, 1) := by decide +kernel
theorem d_law_601 : decode code 601 = .ok (.aload_n 0, 1) := by decide +kernel
theorem d_law_602 : decode code 602 = .ok (.iload_n 3, 1) := by decide +kernel
theorem d_law_603 : decode code 603 = .ok (.iconst 1, 1) := by decide +kernel
theorem d_law_604 : decode code 604 = .ok (.iadd, 1) := by decide +kernel
theorem d_law_605 : decode code 605 = .ok (.iaload, 1) := by decide +kernel
theorem d_law_606 : decode code 606 = .ok (.invokevirtual 62, 3) := by decide +kernel
theorem d_law_609 : decode code 609 = .ok (.if_icmp .eq 91, 3) := by decide +kernel
theorem d_law_612 : decode code 612 = .ok (.iconst 0, 1) := by decide +kernel
theorem d_law_613 : decode code 613 = .ok (.ireturn, 1) := by decide +kernel
theorem d_law_614 : decode code 614 = .ok (.aload_n 1, 1) := by decide +kernel
theorem d_law_615 : decode code 615 = .ok (.aload_n 0, 1) := by decide +kernel
theorem d_law_616 : decode code 616 = .ok (.iload_n 3, 1) := by decide +kernel
theorem d_law_617 : decode code 617 = .ok (.iconst 1, 1) := by decide +kernel
theorem d_law_618 : decode code 618 = .ok (.iadd, 1) := by decide +kernel
theorem d_law_619 : decode code 619 = .ok (.iaload, 1) := by decide +kernel
theorem d_law_620 : decode code 620 = .ok (.aload_n 0, 1) := by decide +kernel
theorem d_law_621 : decode code 621 = .ok (.iload_n 3, 1) := by decide +kernel
theorem d_law_622 : decode code 622 = .ok (.iconst 2, 1) := by decide +kernel
theorem d_law_623 : decode code 623 = .ok (.iadd, 1) := by decide +kernel
theorem d_law_624 : decode code 624 = .ok (.iaload, 1) := by decide +kernel
theorem d_law_625 : decode code 625 = .ok (.i2l, 1) := by decide +kernel
theorem d_law_626 : decode code 626 = .ok (.bipush 32, 2) := by decide +kernel
theorem d_law_628 : decode code 628 = .ok (.lshl, 1) := by decide +kernel
theorem d_law_629 : decode code 629 = .ok (.aload_n 0, 1) := by decide +kernel
theorem d_law_630 : decode code 630 = .ok (.iload_n 3, 1) := by decide +kernel
theorem d_law_631 : decode code 631 = .ok (.iconst 3, 1) := by decide +kernel
theorem d_law_632 : decode code 632 = .ok (.iadd, 1) := by decide +kernel
theorem d_law_633 : decode code 633 = .ok (.iaload, 1) := by decide +kernel
theorem d_law_634 : decode code 634 = .ok (.i2l, 1) := by decide +kernel
theorem d_law_635 : decode code 635 = .ok (.ldc2_w 28, 3) := by decide +kernel
theorem d_law_638 : decode code 638 = .ok (.land, 1) := by decide +kernel
theorem d_law_639 : decode code 639 = .ok (.lor, 1) := by decide +kernel
theorem d_law_640 : decode code 640 = .ok (.invokevirtual 63, 3) := by decide +kernel
theorem d_law_643 : decode code 643 = .ok (.aload_n 2, 1) := by decide +kernel
theorem d_law_644 : decode code 644 = .ok (.aload_n 0, 1) := by decide +kernel
theorem d_law_645 : decode code 645 = .ok (.iload_n 3, 1) := by decide +kernel
theorem d_law_646 : decode code 646 = .ok (.iconst 1, 1) := by decide +kernel
theorem d_law_647 : decode code 647 = .ok (.iadd, 1) := by decide +kernel
theorem d_law_648 : decode code 648 = .ok (.iaload, 1) := by decide +kernel
theorem d_law_649 : decode code 649 = .ok (.aload_n 0, 1) := by decide +kernel
theorem d_law_650 : decode code 650 = .ok (.iload_n 3, 1) := by decide +kernel
theorem d_law_651 : decode code 651 = .ok (.iconst 2, 1) := by decide +kernel
theorem d_law_652 : decode code 652 = .ok (.iadd, 1) := by decide +kernel
theorem d_law_653 : decode code 653 = .ok (.iaload, 1) := by decide +kernel
theorem d_law_654 : decode code 654 = .ok (.i2l, 1) := by decide +kernel
theorem d_law_655 : decode code 655 = .ok (.bipush 32, 2) := by decide +kernel
theorem d_law_657 : decode code 657 = .ok (.lshl, 1) := by decide +kernel
theorem d_law_658 : decode code 658 = .ok (.aload_n 0, 1) := by decide +kernel
theorem d_law_659 : decode code 659 = .ok (.iload_n 3, 1) := by decide +kernel
theorem d_law_660 : decode code 660 = .ok (.iconst 3, 1) := by decide +kernel
theorem d_law_661 : decode code 661 = .ok (.iadd, 1) := by decide +kernel
theorem d_law_662 : decode code 662 = .ok (.iaload, 1) := by decide +kernel
theorem d_law_663 : decode code 663 = .ok (.i2l, 1) := by decide +kernel
theorem d_law_664 : decode code 664 = .ok (.ldc2_w 28, 3) := by decide +kernel
theorem d_law_667 : decode code 667 = .ok (.land, 1) := by decide +kernel
theorem d_law_668 : decode code 668 = .ok (.lor, 1) := by decide +kernel
theorem d_law_669 : decode code 669 = .ok (.invokevirtual 67, 3) := by decide +kernel
theorem d_law_672 : decode code 672 = .ok (.if_icmp .eq 28, 3) := by decide +kernel
theorem d_law_675 : decode code 675 = .ok (.iconst 0, 1) := by decide +kernel
theorem d_law_676 : decode code 676 = .ok (.ireturn, 1) := by decide +kernel
theorem d_law_677 : decode code 677 = .ok (.aload_n 1, 1) := by decide +kernel
theorem d_law_678 : decode code 678 = .ok (.aload_n 0, 1) := by decide +kernel
theorem d_law_679 : decode code 679 = .ok (.iload_n 3, 1) := by decide +kernel
theorem d_law_680 : decode code 680 = .ok (.iconst 1, 1) := by decide +kernel
theorem d_law_681 : decode code 681 = .ok (.iadd, 1) := by decide +kernel
theorem d_law_682 : decode code 682 = .ok (.iaload, 1) := by decide +kernel
theorem d_law_683 : decode code 683 = .ok (.invokevirtual 68, 3) := by decide +kernel
theorem d_law_686 : decode code 686 = .ok (.aload_n 2, 1) := by decide +kernel
theorem d_law_687 : decode code 687 = .ok (.aload_n 0, 1) := by decide +kernel
theorem d_law_688 : decode code 688 = .ok (.iload_n 3, 1) := by decide +kernel
theorem d_law_689 : decode code 689 = .ok (.iconst 1, 1) := by decide +kernel
theorem d_law_690 : decode code 690 = .ok (.iadd, 1) := by decide +kernel
theorem d_law_691 : decode code 691 = .ok (.iaload, 1) := by decide +kernel
theorem d_law_692 : decode code 692 = .ok (.invokevirtual 71, 3) := by decide +kernel
theorem d_law_695 : decode code 695 = .ok (.if_icmp .eq 5, 3) := by decide +kernel
theorem d_law_698 : decode code 698 = .ok (.iconst 0, 1) := by decide +kernel
theorem d_law_699 : decode code 699 = .ok (.ireturn, 1) := by decide +kernel
theorem d_law_700 : decode code 700 = .ok (.iinc 3 7, 3) := by decide +kernel
theorem d_law_703 : decode code 703 = .ok (.goto (-685), 3) := by decide +kernel
theorem d_law_706 : decode code 706 = .ok (.iconst 1, 1) := by decide +kernel
theorem d_law_707 : decode code 707 = .ok (.ireturn, 1) := by decide +kernel
section VL
variable {p : Program} {l : Launch} {e : Env} {R : Room} {s : State} {m : MethodId} {args : Array Value} {below : List Frame} {meth : Method} {c : Code} {Q : State → Prop} {G : vv_G} {cc : ByteArray} {nL : Nat} {ret : Option FieldType} {own : String} {v : vv_V} {kc ks pc : Nat} {lv : List (Nat × Value)} {st : List Value}
theorem v_one (k : (∀ (k k' a : Nat) (e e' : va_E), v k a = some e → v k' a = some e' → k = k') → vV p l e R s m args below meth c Q G nL v kc ks pc lv st) : vV p l e R s m args below meth c Q G nL v kc ks pc lv st := fun H locs ls hP => k hP.2 H locs ls hP
theorem v_sld {b L i : Nat} {xs : Nat → Int32} (C : vC p s m args meth c cc nL ret own G) (hX : va_X b L xs s s.heap ∧ b < s.heap.size ∧ b < G.2.1) (hi : i < L) (hL : L ≤ 3584) (hd : decode cc pc = .ok (.iaload, 1)) (k : vV p l e R s m args below meth c Q G nL v kc ks (pc + 1) lv (.int (xs i) :: st)) : vV p l e R s m args below meth c Q G nL v kc ks pc lv (.int (nI i) :: .ref b :: st) := fun H locs ls hP hS hl => va_sld C.1 C.2.1 hX.1 hX.2.1 (Nat.not_le.mpr hX.2.2) hS (vp_in_nI hi (by omega)) hd (by rw [nI_clamp (by omega)]; exact k H locs ls hP hS hl)
theorem v_slen {b L : Nat} {xs : Nat → Int32} (C : vC p s m args meth c cc nL ret own G) (hX : va_X b L xs s s.heap ∧ b < s.heap.size ∧ b < G.2.1) (hd : decode cc pc = .ok (.arraylength, 1)) (k : vV p l e R s m args below meth c Q G nL v kc ks (pc + 1) lv (.int (nI L) :: st)) : vV p l e R s m args below meth c Q G nL v kc ks pc lv (.ref b :: st) := fun H locs ls hP hS hl => va_slen C.1 C.2.1 hX.1 hX.2.1 (Nat.not_le.mpr hX.2.2) hS hd (k H locs ls hP hS hl)
end VL
theorem v_end {p : Program} {l : Launch} {e : Env} {s : State} {m : MethodId} {below : List Frame} {meth : Method} {c : Code} {b : Nat} {G : vv_G} {v : vv_V} {kc ks pc nL : Nat} {own : String} {lv : List (Nat × Value)} (C : vC p s m #[.ref b] meth c code nL ret own G) (hG : G.2.1 = s.heap.size) (hkc : kc ≤ 600000) (hks : ks ≤ 7302250) (hd : decode code pc = .ok (.ireturn, 1)) : vV p l e room_1 s m #[.ref b] below meth c (lw_Z below #[.ref b] s) G nL v kc ks pc lv [.int 1] := fun H locs ls hP hS hl => va_forget (fun q hq => by rw [← hG]; exact hS.2.2 q hq) (W.widen hkc hks (lw_ret C.1 C.2.1 C.2.2.2.2.2.1 C.2.2.2.2.2.2 hd))
theorem and15 (x : Int32) : ∃ w : Nat, w < 16 ∧ (x &&& 15 : Int32) = nI w := by
  have h1 : (x &&& 15 : Int32).toBitVec.toNat ≤ 15 := by
    have e : (x &&& 15 : Int32).toBitVec = x.toBitVec &&& 15#32 := rfl
    rw [e, BitVec.toNat_and]
    exact Nat.and_le_right
  refine ⟨(x &&& 15 : Int32).toBitVec.toNat, by omega, ?_⟩
  apply Int32.toInt_inj.mp
  rw [nI_toInt (by omega)]
  have e2 : (x &&& 15 : Int32).toInt = (x &&& 15 : Int32).toBitVec.toInt := rfl
  rw [e2, BitVec.toInt_eq_toNat_of_lt (by omega)]
theorem law_gt {L i : Nat} (hL : L ≤ 3584) (hi : i ≤ 4000) : nI L - 7 < nI i ↔ L < i + 7 := by
  have e : (7 : Int32).toInt = 7 := rfl
  rw [Int32.lt_iff_toInt_lt, Int32.toInt_sub, nI_toInt (by omega), nI_toInt (by omega), e, Int.bmod_eq_of_le (by omega) (by omega)]
  omega
theorem RC.keepM {G : vv_G} {v v' : vv_V} {o : Nat} {la : Nat → Nat} {cw : Nat} {S S0 : zS} {ra ea ca oa na ia : Nat → Nat} (h : RC G v o la cw S ra ea ca oa na ia) {om : Nat} {ad : Nat → Nat} (hM : RM G v om ad S0) (one : ∀ (k k' a : Nat) (e e' : va_E), v k a = some e → v k' a = some e' → k = k') (hk : vkeep (mX om ad) v v') (hcw : ∀ f, mA f = true → cw ≠ ad f) (hoa : ∀ j, j < zc S 0 → ∀ f, mA f = true → oa j ≠ ad f) : RC G v' o la cw S ra ea ca oa na ia := by
  have hf : ∀ f, mA f = true → ∃ (k : Nat) (e : va_E), (k = 50 ∨ k = 51 ∨ k = 52) ∧ v k (ad f) = some e := fun f hA => by
    unfold mA at hA
    rcases Bool.or_eq_true _ _ ▸ hA with hA | hA
    · rcases Bool.or_eq_true _ _ ▸ hA with hA | hA
      · exact ⟨50, _, by decide, hM.2.1 f hA⟩
      · exact ⟨51, _, by decide, hM.2.2.1 f hA⟩
    · exact ⟨52, _, by decide, hM.2.2.2.1 f hA⟩
  have kp : ∀ (k x : Nat) (y : va_E), k ≠ 4 → (k = 50 ∨ k = 51 ∨ k = 52 → ∀ f, mA f = true → x ≠ ad f) → v k x = some y → v' k x = some y := fun k x y h4 hq hv => by
    refine hk k x y ?_ hv
    rintro (z | ⟨f, hA, z⟩)
    · rw [z] at hv
      exact h4 (one k 4 om _ _ hv hM.1)
    · obtain ⟨k', e', hk', he'⟩ := hf f hA
      have ek : k = k' := by rw [z] at hv; exact one k k' _ _ _ hv he'
      exact hq (by omega) f hA z
  have kq : ∀ (k x : Nat) (y : va_E), k ≠ 4 → k ≠ 50 → k ≠ 51 → k ≠ 52 → v k x = some y → v' k x = some y := fun k x y h4 h50 h51 h52 hv => kp k x y h4 (by omega) hv
  obtain ⟨hA, ⟨gw, hW, hWj⟩, hLs, hKs, hNs, hIs, hD1, hD2, hD3, hD4⟩ := id h
  refine h.gen (fun _ => rfl) (kq _ _ _ (by decide) (by decide) (by decide) (by decide) hA) ⟨gw, kp _ _ _ (by decide) (fun _ => hcw) hW, hWj⟩ (fun k x y hz h1 => kq k x y (by omega) (by omega) (by omega) (by omega) h1) (fun i => ⟨rfl, rfl⟩) (fun j hj => ?_) (fun j hj => ?_) (fun k hkk => ?_)
  · exact (hKs j hj).tr (fun y => kq _ _ _ (by decide) (by decide) (by decide) (by decide)) (fun y => kp _ _ _ (by decide) (fun _ => hoa j hj)) (fun f hf => rfl) (fun i _ => rfl) rfl rfl
  · exact (hNs j hj).tr (fun y => kq _ _ _ (by decide) (by decide) (by decide) (by decide)) (fun f hf => rfl) ⟨rfl, rfl⟩ rfl rfl rfl (fun i _ => ⟨rfl, rfl, rfl, rfl⟩)
  · exact (hIs k hkk).tr (fun y => kq _ _ _ (by decide) (by decide) (by decide) (by decide)) (fun f hf => rfl) rfl rfl
theorem RC.keepF {G : vv_G} {v v' : vv_V} {o : Nat} {la : Nat → Nat} {cw : Nat} {S : zS} {ra ea ca oa na ia : Nat → Nat} (h : RC G v o la cw S ra ea ca oa na ia) (hk : vkp (fun _ _ => False) v v') : RC G v' o la cw S ra ea ca oa na ia := by
  obtain ⟨hA, ⟨gw, hW, hWj⟩, hLs, hKs, hNs, hIs, hD1, hD2, hD3, hD4⟩ := id h
  have kp : ∀ (k x : Nat) (y : va_E), v k x = some y → v' k x = some y := fun k x y hv => hk k x y id hv
  refine h.gen (fun _ => rfl) (kp _ _ _ hA) ⟨gw, kp _ _ _ hW, hWj⟩ (fun k x y hz h1 => kp k x y h1) (fun i => ⟨rfl, rfl⟩) (fun j hj => ?_) (fun j hj => ?_) (fun k hkk => ?_)
  · exact (hKs j hj).tr (fun y => kp _ _ _) (fun y => kp _ _ _) (fun f hf => rfl) (fun i _ => rfl) rfl rfl
  · exact (hNs j hj).tr (fun y => kp _ _ _) (fun f hf => rfl) ⟨rfl, rfl⟩ rfl rfl rfl (fun i _ => ⟨rfl, rfl, rfl, rfl⟩)
  · exact (hIs k hkk).tr (fun y => kp _ _ _) (fun f hf => rfl) rfl rfl
theorem RM.keepC {G : vv_G} {v v' : vv_V} {om : Nat} {ad : Nat → Nat} {S : zS} {cw : Nat} {oa : Nat → Nat} (h : RM G v om ad S) (hk : vkp (cYY S cw oa) v v') (hcw : ∀ f, mA f = true → cw ≠ ad f) (hoa : ∀ j, j < zc S 0 → ∀ f, mA f = true → oa j ≠ ad f) : RM G v' om ad S := by
  obtain ⟨h0, h1, h2, h3, h4⟩ := h
  have kp : ∀ (k x : Nat) (y : va_E), k = 4 ∨ k = 52 ∨ (k = 50 ∧ ∃ f, mA f = true ∧ x = ad f) ∨ (k = 51 ∧ ∃ f, mA f = true ∧ x = ad f) → v k x = some y → v' k x = some y := fun k x y hq hv => by
    refine hk k x y (fun z => ?_) hv
    unfold cYY at z
    rcases hq with rfl | rfl | ⟨rfl, f, hA, hx⟩ | ⟨rfl, f, hA, hx⟩
    · rcases z with z | z | z | z | z | z | z | z <;> first | omega | exact absurd z.1 (by decide)
    · rcases z with z | z | z | z | z | z | z | z <;> first | omega | exact absurd z.1 (by decide)
    · rcases z with z | z | z | z | z | z | ⟨z, -⟩ | ⟨-, j, hj, z⟩
      · omega
      · omega
      · omega
      · omega
      · omega
      · omega
      · exact absurd z (by decide)
      · exact hoa j hj f hA (by rw [← z, hx])
    · rcases z with z | z | z | z | z | z | ⟨-, z⟩ | ⟨z, -⟩
      · omega
      · omega
      · omega
      · omega
      · omega
      · omega
      · exact hcw f hA (by rw [← z, hx])
      · exact absurd z (by decide)
  exact ⟨kp _ _ _ (Or.inl rfl) h0, fun f hf => kp _ _ _ (Or.inr (Or.inr (Or.inl ⟨rfl, f, (m_iz hf).2.2, rfl⟩))) (h1 f hf), fun f hf => kp _ _ _ (Or.inr (Or.inr (Or.inr ⟨rfl, f, (m_zz hf).2.2, rfl⟩))) (h2 f hf), fun f hf => kp _ _ _ (Or.inr (Or.inl rfl)) (h3 f hf), h4⟩
/-- both sides hold S -/
def LI (G : vv_G) (v : vv_V) (o : Nat) (la : Nat → Nat) (cw om : Nat) (ad : Nat → Nat) (S : zS) : Prop := ∃ ra ea ca oa na ia : Nat → Nat, RC G v o la cw S ra ea ca oa na ia ∧ RM G v om ad S ∧ zInv S ∧ (∀ f, mA f = true → cw ≠ ad f) ∧ ∀ j, j < zc S 0 → ∀ f, mA f = true → oa j ≠ ad f
theorem RM.some {G : vv_G} {v : vv_V} {om : Nat} {ad : Nat → Nat} {S : zS} (h : RM G v om ad S) {f : Nat} (hA : mA f = true) : ∃ (k : Nat) (e : va_E), v k (ad f) = Option.some e := by
  unfold mA at hA
  rcases Bool.or_eq_true _ _ ▸ hA with hA | hA
  · rcases Bool.or_eq_true _ _ ▸ hA with hA | hA
    · exact ⟨50, _, h.2.1 f hA⟩
    · exact ⟨51, _, h.2.2.1 f hA⟩
  · exact ⟨52, _, h.2.2.2.1 f hA⟩
theorem LI.m {G : vv_G} {v v1 v2 : vv_V} {o : Nat} {la : Nat → Nat} {cw om : Nat} {ad : Nat → Nat} {S S' : zS} {oa : Nat → Nat} (hM : RM G v om ad S) (hE : RCe G v o la cw S oa v1 S') (hM1 : RM G v1 om ad S) (one : ∀ (k k' a : Nat) (e e' : va_E), v1 k a = some e → v1 k' a = some e' → k = k') (hM2 : RM G v2 om ad S') (hk : vkeep (mX om ad) v1 v2) (hI : zInv S') (hcw : ∀ f, mA f = true → cw ≠ ad f) (hoa : ∀ j, j < zc S 0 → ∀ f, mA f = true → oa j ≠ ad f) : LI G v2 o la cw om ad S' := by
  obtain ⟨ra', ea', ca', oa', na', ia', hR, -, hq⟩ := hE
  have hoa' : ∀ j, j < zc S' 0 → ∀ f, mA f = true → oa' j ≠ ad f := fun j hj f hA z => by
    rcases hq j hj with ⟨h1, h2⟩ | h1
    · exact hoa j h1 f hA (by rw [← h2, z])
    · obtain ⟨k, e, he⟩ := hM.some hA
      rw [← z, h1 k] at he
      cases he
  exact ⟨ra', ea', ca', oa', na', ia', hR.keepM hM1 one hk hcw hoa', hM2, hI, hcw, hoa'⟩
