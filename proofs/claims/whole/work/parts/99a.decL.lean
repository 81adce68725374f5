theorem d_W_law_0 : decode code 0 = .ok (.new 7, 3) := by decide +kernel
theorem d_W_law_3 : decode code 3 = .ok (.dup, 1) := by decide +kernel
theorem d_W_law_4 : decode code 4 = .ok (.invokespecial 9, 3) := by decide +kernel
theorem d_W_law_7 : decode code 7 = .ok (.astore_n 1, 1) := by decide +kernel
theorem d_W_law_8 : decode code 8 = .ok (.new 10, 3) := by decide +kernel
theorem d_W_law_11 : decode code 11 = .ok (.dup, 1) := by decide +kernel
theorem d_W_law_12 : decode code 12 = .ok (.invokespecial 12, 3) := by decide +kernel
theorem d_W_law_15 : decode code 15 = .ok (.astore_n 2, 1) := by decide +kernel
theorem d_W_law_16 : decode code 16 = .ok (.iconst 0, 1) := by decide +kernel
theorem d_W_law_17 : decode code 17 = .ok (.istore_n 3, 1) := by decide +kernel
theorem d_W_law_18 : decode code 18 = .ok (.iload_n 3, 1) := by decide +kernel
theorem d_W_law_19 : decode code 19 = .ok (.aload_n 0, 1) := by decide +kernel
theorem d_W_law_20 : decode code 20 = .ok (.arraylength, 1) := by decide +kernel
theorem d_W_law_21 : decode code 21 = .ok (.iconst 4, 1) := by decide +kernel
theorem d_W_law_22 : decode code 22 = .ok (.isub, 1) := by decide +kernel
theorem d_W_law_23 : decode code 23 = .ok (.if_icmp .gt 477, 3) := by decide +kernel
theorem d_W_law_26 : decode code 26 = .ok (.aload_n 0, 1) := by decide +kernel
theorem d_W_law_27 : decode code 27 = .ok (.iload_n 3, 1) := by decide +kernel
theorem d_W_law_28 : decode code 28 = .ok (.iaload, 1) := by decide +kernel
theorem d_W_law_29 : decode code 29 = .ok (.bipush 15, 2) := by decide +kernel
theorem d_W_law_31 : decode code 31 = .ok (.iand, 1) := by decide +kernel
theorem d_W_law_32 : decode code 32 = .ok (.tableswitch 462 0 13 #[72, 115, 158, 181, 224, 277, 300, 313, 346, 359, 380, 393, 406, 429], 72) := by decide +kernel
theorem d_W_law_104 : decode code 104 = .ok (.aload_n 1, 1) := by decide +kernel
theorem d_W_law_105 : decode code 105 = .ok (.aload_n 0, 1) := by decide +kernel
theorem d_W_law_106 : decode code 106 = .ok (.iload_n 3, 1) := by decide +kernel
theorem d_W_law_107 : decode code 107 = .ok (.iconst 1, 1) := by decide +kernel
theorem d_W_law_108 : decode code 108 = .ok (.iadd, 1) := by decide +kernel
theorem d_W_law_109 : decode code 109 = .ok (.iaload, 1) := by decide +kernel
theorem d_W_law_110 : decode code 110 = .ok (.aload_n 0, 1) := by decide +kernel
theorem d_W_law_111 : decode code 111 = .ok (.iload_n 3, 1) := by decide +kernel
theorem d_W_law_112 : decode code 112 = .ok (.iconst 2, 1) := by decide +kernel
theorem d_W_law_113 : decode code 113 = .ok (.iadd, 1) := by decide +kernel
theorem d_W_law_114 : decode code 114 = .ok (.iaload, 1) := by decide +kernel
theorem d_W_law_115 : decode code 115 = .ok (.aload_n 0, 1) := by decide +kernel
theorem d_W_law_116 : decode code 116 = .ok (.iload_n 3, 1) := by decide +kernel
theorem d_W_law_117 : decode code 117 = .ok (.iconst 3, 1) := by decide +kernel
theorem d_W_law_118 : decode code 118 = .ok (.iadd, 1) := by decide +kernel
theorem d_W_law_119 : decode code 119 = .ok (.iaload, 1) := by decide +kernel
theorem d_W_law_120 : decode code 120 = .ok (.invokevirtual 13, 3) := by decide +kernel
theorem d_W_law_123 : decode code 123 = .ok (.aload_n 2, 1) := by decide +kernel
theorem d_W_law_124 : decode code 124 = .ok (.aload_n 0, 1) := by decide +kernel
theorem d_W_law_125 : decode code 125 = .ok (.iload_n 3, 1) := by decide +kernel
theorem d_W_law_126 : decode code 126 = .ok (.iconst 1, 1) := by decide +kernel
theorem d_W_law_127 : decode code 127 = .ok (.iadd, 1) := by decide +kernel
theorem d_W_law_128 : decode code 128 = .ok (.iaload, 1) := by decide +kernel
theorem d_W_law_129 : decode code 129 = .ok (.aload_n 0, 1) := by decide +kernel
theorem d_W_law_130 : decode code 130 = .ok (.iload_n 3, 1) := by decide +kernel
theorem d_W_law_131 : decode code 131 = .ok (.iconst 2, 1) := by decide +kernel
theorem d_W_law_132 : decode code 132 = .ok (.iadd, 1) := by decide +kernel
theorem d_W_law_133 : decode code 133 = .ok (.iaload, 1) := by decide +kernel
theorem d_W_law_134 : decode code 134 = .ok (.aload_n 0, 1) := by decide +kernel
theorem d_W_law_135 : decode code 135 = .ok (.iload_n 3, 1) := by decide +kernel
theorem d_W_law_136 : decode code 136 = .ok (.iconst 3, 1) := by decide +kernel
theorem d_W_law_137 : decode code 137 = .ok (.iadd, 1) := by decide +kernel
theorem d_W_law_138 : decode code 138 = .ok (.iaload, 1) := by decide +kernel
theorem d_W_law_139 : decode code 139 = .ok (.invokevirtual 17, 3) := by decide +kernel
theorem d_W_law_142 : decode code 142 = .ok (.if_icmp .eq 352, 3) := by decide +kernel
theorem d_W_law_145 : decode code 145 = .ok (.iconst 0, 1) := by decide +kernel
theorem d_W_law_146 : decode code 146 = .ok (.ireturn, 1) := by decide +kernel
theorem d_W_law_147 : decode code 147 = .ok (.aload_n 1, 1) := by decide +kernel
theorem d_W_law_148 : decode code 148 = .ok (.aload_n 0, 1) := by decide +kernel
theorem d_W_law_149 : decode code 149 = .ok (.iload_n 3, 1) := by decide +kernel
theorem d_W_law_150 : decode code 150 = .ok (.iconst 1, 1) := by decide +kernel
theorem d_W_law_151 : decode code 151 = .ok (.iadd, 1) := by decide +kernel
theorem d_W_law_152 : decode code 152 = .ok (.iaload, 1) := by decide +kernel
theorem d_W_law_153 : decode code 153 = .ok (.aload_n 0, 1) := by decide +kernel
theorem d_W_law_154 : decode code 154 = .ok (.iload_n 3, 1) := by decide +kernel
theorem d_W_law_155 : decode code 155 = .ok (.iconst 2, 1) := by decide +kernel
theorem d_W_law_156 : decode code 156 = .ok (.iadd, 1) := by decide +kernel
theorem d_W_law_157 : decode code 157 = .ok (.iaload, 1) := by decide +kernel
theorem d_W_law_158 : decode code 158 = .ok (.aload_n 0, 1) := by decide +kernel
theorem d_W_law_159 : decode code 159 = .ok (.iload_n 3, 1) := by decide +kernel
theorem d_W_law_160 : decode code 160 = .ok (.iconst 3, 1) := by decide +kernel
theorem d_W_law_161 : decode code 161 = .ok (.iadd, 1) := by decide +kernel
theorem d_W_law_162 : decode code 162 = .ok (.iaload, 1) := by decide +kernel
theorem d_W_law_163 : decode code 163 = .ok (.invokevirtual 18, 3) := by decide +kernel
theorem d_W_law_166 : decode code 166 = .ok (.aload_n 2, 1) := by decide +kernel
theorem d_W_law_167 : decode code 167 = .ok (.aload_n 0, 1) := by decide +kernel
theorem d_W_law_168 : decode code 168 = .ok (.iload_n 3, 1) := by decide +kernel
theorem d_W_law_169 : decode code 169 = .ok (.iconst 1, 1) := by decide +kernel
theorem d_W_law_170 : decode code 170 = .ok (.iadd, 1) := by decide +kernel
theorem d_W_law_171 : decode code 171 = .ok (.iaload, 1) := by decide +kernel
theorem d_W_law_172 : decode code 172 = .ok (.aload_n 0, 1) := by decide +kernel
theorem d_W_law_173 : decode code 173 = .ok (.iload_n 3, 1) := by decide +kernel
theorem d_W_law_174 : decode code 174 = .ok (.iconst 2, 1) := by decide +kernel
theorem d_W_law_175 : decode code 175 = .ok (.iadd, 1) := by decide +kernel
theorem d_W_law_176 : decode code 176 = .ok (.iaload, 1) := by decide +kernel
theorem d_W_law_177 : decode code 177 = .ok (.aload_n 0, 1) := by decide +kernel
theorem d_W_law_178 : decode code 178 = .ok (.iload_n 3, 1) := by decide +kernel
theorem d_W_law_179 : decode code 179 = .ok (.iconst 3, 1) := by decide +kernel
theorem d_W_law_180 : decode code 180 = .ok (.iadd, 1) := by decide +kernel
theorem d_W_law_181 : decode code 181 = .ok (.iaload, 1) := by decide +kernel
theorem d_W_law_182 : decode code 182 = .ok (.invokevirtual 21, 3) := by decide +kernel
theorem d_W_law_185 : decode code 185 = .ok (.if_icmp .eq 309, 3) := by decide +kernel
theorem d_W_law_188 : decode code 188 = .ok (.iconst 0, 1) := by decide +kernel
theorem d_W_law_189 : decode code 189 = .ok (.ireturn, 1) := by decide +kernel
theorem d_W_law_190 : decode code 190 = .ok (.aload_n 1, 1) := by decide +kernel
theorem d_W_law_191 : decode code 191 = .ok (.aload_n 0, 1) := by decide +kernel
theorem d_W_law_192 : decode code 192 = .ok (.iload_n 3, 1) := by decide +kernel
theorem d_W_law_193 : decode code 193 = .ok (.iconst 1, 1) := by decide +kernel
theorem d_W_law_194 : decode code 194 = .ok (.iadd, 1) := by decide +kernel
theorem d_W_law_195 : decode code 195 = .ok (.iaload, 1) := by decide +kernel
theorem d_W_law_196 : decode code 196 = .ok (.invokevirtual 22, 3) := by decide +kernel
theorem d_W_law_199 : decode code 199 = .ok (.aload_n 2, 1) := by decide +kernel
theorem d_W_law_200 : decode code 200 = .ok (.aload_n 0, 1) := by decide +kernel
theorem d_W_law_201 : decode code 201 = .ok (.iload_n 3, 1) := by decide +kernel
theorem d_W_law_202 : decode code 202 = .ok (.iconst 1, 1) := by decide +kernel
theorem d_W_law_203 : decode code 203 = .ok (.iadd, 1) := by decide +kernel
theorem d_W_law_204 : decode code 204 = .ok (.iaload, 1) := by decide +kernel
theorem d_W_law_205 : decode code 205 = .ok (.invokevirtual 26, 3) := by decide +kernel
theorem d_W_law_208 : decode code 208 = .ok (.if_icmp .eq 286, 3) := by decide +kernel
theorem d_W_law_211 : decode code 211 = .ok (.iconst 0, 1) := by decide +kernel
theorem d_W_law_212 : decode code 212 = .ok (.ireturn, 1) := by decide +kernel
theorem d_W_law_213 : decode code 213 = .ok (.aload_n 1, 1) := by decide +kernel
theorem d_W_law_214 : decode code 214 = .ok (.aload_n 0, 1) := by decide +kernel
theorem d_W_law_215 : decode code 215 = .ok (.iload_n 3, 1) := by decide +kernel
theorem d_W_law_216 : decode code 216 = .ok (.iconst 1, 1) := by decide +kernel
theorem d_W_law_217 : decode code 217 = .ok (.iadd, 1) := by decide +kernel
theorem d_W_law_218 : decode code 218 = .ok (.iaload, 1) := by decide +kernel
theorem d_W_law_219 : decode code 219 = .ok (.aload_n 0, 1) := by decide +kernel
theorem d_W_law_220 : decode code 220 = .ok (.iload_n 3, 1) := by decide +kernel
theorem d_W_law_221 : decode code 221 = .ok (.iconst 2, 1) := by decide +kernel
theorem d_W_law_222 : decode code 222 = .ok (.iadd, 1) := by decide +kernel
theorem d_W_law_223 : decode code 223 = .ok (.iaload, 1) := by decide +kernel
theorem d_W_law_224 : decode code 224 = .ok (.aload_n 0, 1) := by decide +kernel
theorem d_W_law_225 : decode code 225 = .ok (.iload_n 3, 1) := by decide +kernel
theorem d_W_law_226 : decode code 226 = .ok (.iconst 3, 1) := by decide +kernel
theorem d_W_law_227 : decode code 227 = .ok (.iadd, 1) := by decide +kernel
theorem d_W_law_228 : decode code 228 = .ok (.iaload, 1) := by decide +kernel
theorem d_W_law_229 : decode code 229 = .ok (.invokevirtual 27, 3) := by decide +kernel
theorem d_W_law_232 : decode code 232 = .ok (.aload_n 2, 1) := by decide +kernel
theorem d_W_law_233 : decode code 233 = .ok (.aload_n 0, 1) := by decide +kernel
theorem d_W_law_234 : decode code 234 = .ok (.iload_n 3, 1) := by decide +kernel
theorem d_W_law_235 : decode code 235 = .ok (.iconst 1, 1) := by decide +kernel
theorem d_W_law_236 : decode code 236 = .ok (.iadd, 1) := by decide +kernel
theorem d_W_law_237 : decode code 237 = .ok (.iaload, 1) := by decide +kernel
theorem d_W_law_238 : decode code 238 = .ok (.aload_n 0, 1) := by decide +kernel
theorem d_W_law_239 : decode code 239 = .ok (.iload_n 3, 1) := by decide +kernel
theorem d_W_law_240 : decode code 240 = .ok (.iconst 2, 1) := by decide +kernel
theorem d_W_law_241 : decode code 241 = .ok (.iadd, 1) := by decide +kernel
theorem d_W_law_242 : decode code 242 = .ok (.iaload, 1) := by decide +kernel
theorem d_W_law_243 : decode code 243 = .ok (.aload_n 0, 1) := by decide +kernel
theorem d_W_law_244 : decode code 244 = .ok (.iload_n 3, 1) := by decide +kernel
theorem d_W_law_245 : decode code 245 = .ok (.iconst 3, 1) := by decide +kernel
theorem d_W_law_246 : decode code 246 = .ok (.iadd, 1) := by decide +kernel
theorem d_W_law_247 : decode code 247 = .ok (.iaload, 1) := by decide +kernel
theorem d_W_law_248 : decode code 248 = .ok (.invokevirtual 30, 3) := by decide +kernel
theorem d_W_law_251 : decode code 251 = .ok (.if_icmp .eq 243, 3) := by decide +kernel
theorem d_W_law_254 : decode code 254 = .ok (.iconst 0, 1) := by decide +kernel
theorem d_W_law_255 : decode code 255 = .ok (.ireturn, 1) := by decide +kernel
theorem d_W_law_256 : decode code 256 = .ok (.aload_n 1, 1) := by decide +kernel
theorem d_W_law_257 : decode code 257 = .ok (.aload_n 0, 1) := by decide +kernel
theorem d_W_law_258 : decode code 258 = .ok (.iload_n 3, 1) := by decide +kernel
theorem d_W_law_259 : decode code 259 = .ok (.iconst 1, 1) := by decide +kernel
theorem d_W_law_260 : decode code 260 = .ok (.iadd, 1) := by decide +kernel
theorem d_W_law_261 : decode code 261 = .ok (.iaload, 1) := by decide +kernel
theorem d_W_law_262 : decode code 262 = .ok (.i2l, 1) := by decide +kernel
theorem d_W_law_263 : decode code 263 = .ok (.bipush 32, 2) := by decide +kernel
theorem d_W_law_265 : decode code 265 = .ok (.lshl, 1) := by decide +kernel
theorem d_W_law_266 : decode code 266 = .ok (.aload_n 0, 1) := by decide +kernel
theorem d_W_law_267 : decode code 267 = .ok (.iload_n 3, 1) := by decide +kernel
theorem d_W_law_268 : decode code 268 = .ok (.iconst 2, 1) := by decide +kernel
theorem d_W_law_269 : decode code 269 = .ok (.iadd, 1) := by decide +kernel
theorem d_W_law_270 : decode code 270 = .ok (.iaload, 1) := by decide +kernel
theorem d_W_law_271 : decode code 271 = .ok (.i2l, 1) := by decide +kernel
theorem d_W_law_272 : decode code 272 = .ok (.ldc2_w 31, 3) := by decide +kernel
theorem d_W_law_275 : decode code 275 = .ok (.land, 1) := by decide +kernel
theorem d_W_law_276 : decode code 276 = .ok (.lor, 1) := by decide +kernel
theorem d_W_law_277 : decode code 277 = .ok (.invokevirtual 33, 3) := by decide +kernel
theorem d_W_law_280 : decode code 280 = .ok (.aload_n 2, 1) := by decide +kernel
theorem d_W_law_281 : decode code 281 = .ok (.aload_n 0, 1) := by decide +kernel
theorem d_W_law_282 : decode code 282 = .ok (.iload_n 3, 1) := by decide +kernel
theorem d_W_law_283 : decode code 283 = .ok (.iconst 1, 1) := by decide +kernel
theorem d_W_law_284 : decode code 284 = .ok (.iadd, 1) := by decide +kernel
theorem d_W_law_285 : decode code 285 = .ok (.iaload, 1) := by decide +kernel
theorem d_W_law_286 : decode code 286 = .ok (.i2l, 1) := by decide +kernel
theorem d_W_law_287 : decode code 287 = .ok (.bipush 32, 2) := by decide +kernel
theorem d_W_law_289 : decode code 289 = .ok (.lshl, 1) := by decide +kernel
theorem d_W_law_290 : decode code 290 = .ok (.aload_n 0, 1) := by decide +kernel
theorem d_W_law_291 : decode code 291 = .ok (.iload_n 3, 1) := by decide +kernel
theorem d_W_law_292 : decode code 292 = .ok (.iconst 2, 1) := by decide +kernel
theorem d_W_law_293 : decode code 293 = .ok (.iadd, 1) := by decide +kernel
theorem d_W_law_294 : decode code 294 = .ok (.iaload, 1) := by decide +kernel
theorem d_W_law_295 : decode code 295 = .ok (.i2l, 1) := by decide +kernel
theorem d_W_law_296 : decode code 296 = .ok (.ldc2_w 31, 3) := by decide +kernel
theorem d_W_law_299 : decode code 299 = .ok (.land, 1) := by decide +kernel
theorem d_W_law_300 : decode code 300 = .ok (.lor, 1) := by decide +kernel
theorem d_W_law_301 : decode code 301 = .ok (.invokevirtual 37, 3) := by decide +kernel
theorem d_W_law_304 : decode code 304 = .ok (.if_icmp .eq 190, 3) := by decide +kernel
theorem d_W_law_307 : decode code 307 = .ok (.iconst 0, 1) := by decide +kernel
theorem d_W_law_308 : decode code 308 = .ok (.ireturn, 1) := by decide +kernel
theorem d_W_law_309 : decode code 309 = .ok (.aload_n 1, 1) := by decide +kernel
theorem d_W_law_310 : decode code 310 = .ok (.aload_n 0, 1) := by decide +kernel
theorem d_W_law_311 : decode code 311 = .ok (.iload_n 3, 1) := by decide +kernel
theorem d_W_law_312 : decode code 312 = .ok (.iconst 1, 1) := by decide +kernel
theorem d_W_law_313 : decode code 313 = .ok (.iadd, 1) := by decide +kernel
theorem d_W_law_314 : decode code 314 = .ok (.iaload, 1) := by decide +kernel
theorem d_W_law_315 : decode code 315 = .ok (.invokevirtual 38, 3) := by decide +kernel
theorem d_W_law_318 : decode code 318 = .ok (.aload_n 2, 1) := by decide +kernel
theorem d_W_law_319 : decode code 319 = .ok (.aload_n 0, 1) := by decide +kernel
theorem d_W_law_320 : decode code 320 = .ok (.iload_n 3, 1) := by decide +kernel
theorem d_W_law_321 : decode code 321 = .ok (.iconst 1, 1) := by decide +kernel
theorem d_W_law_322 : decode code 322 = .ok (.iadd, 1) := by decide +kernel
theorem d_W_law_323 : decode code 323 = .ok (.iaload, 1) := by decide +kernel
theorem d_W_law_324 : decode code 324 = .ok (.invokevirtual 41, 3) := by decide +kernel
theorem d_W_law_327 : decode code 327 = .ok (.if_icmp .eq 167, 3) := by decide +kernel
theorem d_W_law_330 : decode code 330 = .ok (.iconst 0, 1) := by decide +kernel
theorem d_W_law_331 : decode code 331 = .ok (.ireturn, 1) := by decide +kernel
theorem d_W_law_332 : decode code 332 = .ok (.aload_n 1, 1) := by decide +kernel
theorem d_W_law_333 : decode code 333 = .ok (.invokevirtual 42, 3) := by decide +kernel
theorem d_W_law_336 : decode code 336 = .ok (.aload_n 2, 1) := by decide +kernel
theorem d_W_law_337 : decode code 337 = .ok (.invokevirtual 46, 3) := by decide +kernel
theorem d_W_law_340 : decode code 340 = .ok (.if_icmp .eq 154, 3) := by decide +kernel
theorem d_W_law_343 : decode code 343 = .ok (.iconst 0, 1) := by decide +kernel
theorem d_W_law_344 : decode code 344 = .ok (.ireturn, 1) := by decide +kernel
theorem d_W_law_345 : decode code 345 = .ok (.aload_n 1, 1) := by decide +kernel
theorem d_W_law_346 : decode code 346 = .ok (.aload_n 0, 1) := by decide +kernel
theorem d_W_law_347 : decode code 347 = .ok (.iload_n 3, 1) := by decide +kernel
theorem d_W_law_348 : decode code 348 = .ok (.iconst 1, 1) := by decide +kernel
theorem d_W_law_349 : decode code 349 = .ok (.iadd, 1) := by decide +kernel
theorem d_W_law_350 : decode code 350 = .ok (.iaload, 1) := by decide +kernel
theorem d_W_law_351 : decode code 351 = .ok (.aload_n 0, 1) := by decide +kernel
theorem d_W_law_352 : decode code 352 = .ok (.iload_n 3, 1) := by decide +kernel
theorem d_W_law_353 : decode code 353 = .ok (.iconst 2, 1) := by decide +kernel
theorem d_W_law_354 : decode code 354 = .ok (.iadd, 1) := by decide +kernel
theorem d_W_law_355 : decode code 355 = .ok (.iaload, 1) := by decide +kernel
theorem d_W_law_356 : decode code 356 = .ok (.invokevirtual 47, 3) := by decide +kernel
theorem d_W_law_359 : decode code 359 = .ok (.aload_n 2, 1) := by decide +kernel
theorem d_W_law_360 : decode code 360 = .ok (.aload_n 0, 1) := by decide +kernel
theorem d_W_law_361 : decode code 361 = .ok (.iload_n 3, 1) := by decide +kernel
theorem d_W_law_362 : decode code 362 = .ok (.iconst 1, 1) := by decide +kernel
theorem d_W_law_363 : decode code 363 = .ok (.iadd, 1) := by decide +kernel
theorem d_W_law_364 : decode code 364 = .ok (.iaload, 1) := by decide +kernel
theorem d_W_law_365 : decode code 365 = .ok (.aload_n 0, 1) := by decide +kernel
theorem d_W_law_366 : decode code 366 = .ok (.iload_n 3, 1) := by decide +kernel
theorem d_W_law_367 : decode code 367 = .ok (.iconst 2, 1) := by decide +kernel
theorem d_W_law_368 : decode code 368 = .ok (.iadd, 1) := by decide +kernel
theorem d_W_law_369 : decode code 369 = .ok (.iaload, 1) := by decide +kernel
theorem d_W_law_370 : decode code 370 = .ok (.invokevirtual 51, 3) := by decide +kernel
theorem d_W_law_373 : decode code 373 = .ok (.if_icmp .eq 121, 3) := by decide +kernel
theorem d_W_law_376 : decode code 376 = .ok (.iconst 0, 1) := by decide +kernel
theorem d_W_law_377 : decode code 377 = .ok (.ireturn, 1) := by decide +kernel
theorem d_W_law_378 : decode code 378 = .ok (.aload_n 1, 1) := by decide +kernel
theorem d_W_law_379 : decode code 379 = .ok (.invokevirtual 52, 3) := by decide +kernel
theorem d_W_law_382 : decode code 382 = .ok (.aload_n 2, 1) := by decide +kernel
theorem d_W_law_383 : decode code 383 = .ok (.invokevirtual 56, 3) := by decide +kernel
theorem d_W_law_386 : decode code 386 = .ok (.if_icmp .eq 108, 3) := by decide +kernel
theorem d_W_law_389 : decode code 389 = .ok (.iconst 0, 1) := by decide +kernel
theorem d_W_law_390 : decode code 390 = .ok (.ireturn, 1) := by decide +kernel
theorem d_W_law_391 : decode code 391 = .ok (.aload_n 1, 1) := by decide +kernel
theorem d_W_law_392 : decode code 392 = .ok (.aload_n 0, 1) := by decide +kernel
theorem d_W_law_393 : decode code 393 = .ok (.iload_n 3, 1) := by decide +kernel
theorem d_W_law_394 : decode code 394 = .ok (.iconst 1, 1) := by decide +kernel
theorem d_W_law_395 : decode code 395 = .ok (.iadd, 1) := by decide +kernel
theorem d_W_law_396 : decode code 396 = .ok (.iaload, 1) := by decide +kernel
theorem d_W_law_397 : decode code 397 = .ok (.invokevirtual 57, 3) := by decide +kernel
theorem d_W_law_400 : decode code 400 = .ok (.aload_n 2, 1) := by decide +kernel
theorem d_W_law_401 : decode code 401 = .ok (.aload_n 0, 1) := by decide +kernel
theorem d_W_law_402 : decode code 402 = .ok (.iload_n 3, 1) := by decide +kernel
theorem d_W_law_403 : decode code 403 = .ok (.iconst 1, 1) := by decide +kernel
theorem d_W_law_404 : decode code 404 = .ok (.iadd, 1) := by decide +kernel
theorem d_W_law_405 : decode code 405 = .ok (.iaload, 1) := by decide +kernel
theorem d_W_law_406 : decode code 406 = .ok (.invokevirtual 61, 3) := by decide +kernel
theorem d_W_law_409 : decode code 409 = .ok (.goto 85, 3) := by decide +kernel
theorem d_W_law_412 : decode code 412 = .ok (.aload_n 1, 1) := by decide +kernel
theorem d_W_law_413 : decode code 413 = .ok (.invokevirtual 62, 3) := by decide +kernel
theorem d_W_law_416 : decode code 416 = .ok (.aload_n 2, 1) := by decide +kernel
theorem d_W_law_417 : decode code 417 = .ok (.invokevirtual 65, 3) := by decide +kernel
theorem d_W_law_420 : decode code 420 = .ok (.if_icmp .eq 74, 3) := by decide +kernel
theorem d_W_law_423 : decode code 423 = .ok (.iconst 0, 1) := by decide +kernel
theorem d_W_law_424 : decode code 424 = .ok (.ireturn, 1) := by decide +kernel
theorem d_W_law_425 : decode code 425 = .ok (.aload_n 1, 1) := by decide +kernel
theorem d_W_law_426 : decode code 426 = .ok (.invokevirtual 66, 3) := by decide +kernel
theorem d_W_law_429 : decode code 429 = .ok (.aload_n 2, 1) := by decide +kernel
theorem d_W_law_430 : decode code 430 = .ok (.invokevirtual 69, 3) := by decide +kernel
theorem d_W_law_433 : decode code 433 = .ok (.if_icmp .eq 61, 3) := by decide +kernel
theorem d_W_law_436 : decode code 436 = .ok (.iconst 0, 1) := by decide +kernel
theorem d_W_law_437 : decode code 437 = .ok (.ireturn, 1) := by decide +kernel
theorem d_W_law_438 : decode code 438 = .ok (.aload_n 1, 1) := by decide +kernel
theorem d_W_law_439 : decode code 439 = .ok (.aload_n 0, 1) := by decide +kernel
theorem d_W_law_440 : decode code 440 = .ok (.iload_n 3, 1) := by decide +kernel
theorem d_W_law_441 : decode code 441 = .ok (.iconst 1, 1) := by decide +kernel
theorem d_W_law_442 : decode code 442 = .ok (.iadd, 1) := by decide +kernel
theorem d_W_law_443 : decode code 443 = .ok (.iaload, 1) := by decide +kernel
theorem d_W_law_444 : decode code 444 = .ok (.invokevirtual 70, 3) := by decide +kernel
theorem d_W_law_447 : decode code 447 = .ok (.aload_n 2, 1) := by decide +kernel
theorem d_W_law_448 : decode code 448 = .ok (.aload_n 0, 1) := by decide +kernel
theorem d_W_law_449 : decode code 449 = .ok (.iload_n 3, 1) := by decide +kernel
theorem d_W_law_450 : decode code 450 = .ok (.iconst 1, 1) := by decide +kernel
theorem d_W_law_451 : decode code 451 = .ok (.iadd, 1) := by decide +kernel
theorem d_W_law_452 : decode code 452 = .ok (.iaload, 1) := by decide +kernel
theorem d_W_law_453 : decode code 453 = .ok (.invokevirtual 73, 3) := by decide +kernel
theorem d_W_law_456 : decode code 456 = .ok (.if_icmp .eq 38, 3) := by decide +kernel
theorem d_W_law_459 : decode code 459 = .ok (.iconst 0, 1) := by decide +kernel
theorem d_W_law_460 : decode code 460 = .ok (.ireturn, 1) := by decide +kernel
theorem d_W_law_461 : decode code 461 = .ok (.aload_n 1, 1) := by decide +kernel
theorem d_W_law_462 : decode code 462 = .ok (.aload_n 0, 1) := by decide +kernel
theorem d_W_law_463 : decode code 463 = .ok (.iload_n 3, 1) := by decide +kernel
theorem d_W_law_464 : decode code 464 = .ok (.iconst 1, 1) := by decide +kernel
theorem d_W_law_465 : decode code 465 = .ok (.iadd, 1) := by decide +kernel
theorem d_W_law_466 : decode code 466 = .ok (.iaload, 1) := by decide +kernel
theorem d_W_law_467 : decode code 467 = .ok (.aload_n 0, 1) := by decide +kernel
theorem d_W_law_468 : decode code 468 = .ok (.iload_n 3, 1) := by decide +kernel
theorem d_W_law_469 : decode code 469 = .ok (.iconst 2, 1) := by decide +kernel
theorem d_W_law_470 : decode code 470 = .ok (.iadd, 1) := by decide +kernel
theorem d_W_law_471 : decode code 471 = .ok (.iaload, 1) := by decide +kernel
theorem d_W_law_472 : decode code 472 = .ok (.invokevirtual 74, 3) := by decide +kernel
theorem d_W_law_475 : decode code 475 = .ok (.aload_n 2, 1) := by decide +kernel
theorem d_W_law_476 : decode code 476 = .ok (.aload_n 0, 1) := by decide +kernel
theorem d_W_law_477 : decode code 477 = .ok (.iload_n 3, 1) := by decide +kernel
theorem d_W_law_478 : decode code 478 = .ok (.iconst 1, 1) := by decide +kernel
theorem d_W_law_479 : decode code 479 = .ok (.iadd, 1) := by decide +kernel
theorem d_W_law_480 : decode code 480 = .ok (.iaload, 1) := by decide +kernel
theorem d_W_law_481 : decode code 481 = .ok (.aload_n 0, 1) := by decide +kernel
theorem d_W_law_482 : decode code 482 = .ok (.iload_n 3, 1) := by decide +kernel
theorem d_W_law_483 : decode code 483 = .ok (.iconst 2, 1) := by decide +kernel
theorem d_W_law_484 : decode code 484 = .ok (.iadd, 1) := by decide +kernel
theorem d_W_law_485 : decode code 485 = .ok (.iaload, 1) := by decide +kernel
theorem d_W_law_486 : decode code 486 = .ok (.invokevirtual 77, 3) := by decide +kernel
theorem d_W_law_489 : decode code 489 = .ok (.if_icmp .eq 5, 3) := by decide +kernel
theorem d_W_law_492 : decode code 492 = .ok (.iconst 0, 1) := by decide +kernel
theorem d_W_law_493 : decode code 493 = .ok (.ireturn, 1) := by decide +kernel
theorem d_W_law_494 : decode code 494 = .ok (.iinc 3 4, 3) := by decide +kernel
theorem d_W_law_497 : decode code 497 = .ok (.goto (-479), 3) := by decide +kernel
theorem d_W_law_500 : decode code 500 = .ok (.iconst 1, 1) := by decide +kernel
theorem d_W_law_501 : decode code 501 = .ok (.ireturn, 1) := by decide +kernel
