theorem d_L_law_3 : decode code 3 = .ok (.dup, 1) := by decide +kernel
theorem d_L_law_4 : decode code 4 = .ok (.invokespecial 59, 3) := by decide +kernel
theorem d_L_law_7 : decode code 7 = .ok (.astore_n 1, 1) := by decide +kernel
theorem d_L_law_8 : decode code 8 = .ok (.new 60, 3) := by decide +kernel
theorem d_L_law_11 : decode code 11 = .ok (.dup, 1) := by decide +kernel
theorem d_L_law_12 : decode code 12 = .ok (.invokespecial 62, 3) := by decide +kernel
theorem d_L_law_15 : decode code 15 = .ok (.astore_n 2, 1) := by decide +kernel
theorem d_L_law_16 : decode code 16 = .ok (.iconst 1, 1) := by decide +kernel
theorem d_L_law_17 : decode code 17 = .ok (.newarray .long, 2) := by decide +kernel
theorem d_L_law_19 : decode code 19 = .ok (.astore_n 3, 1) := by decide +kernel
theorem d_L_law_20 : decode code 20 = .ok (.iconst 0, 1) := by decide +kernel
theorem d_L_law_21 : decode code 21 = .ok (.istore 4, 2) := by decide +kernel
theorem d_L_law_23 : decode code 23 = .ok (.iload 4, 2) := by decide +kernel
theorem d_L_law_25 : decode code 25 = .ok (.aload_n 0, 1) := by decide +kernel
theorem d_L_law_26 : decode code 26 = .ok (.arraylength, 1) := by decide +kernel
theorem d_L_law_27 : decode code 27 = .ok (.iconst 5, 1) := by decide +kernel
theorem d_L_law_28 : decode code 28 = .ok (.isub, 1) := by decide +kernel
theorem d_L_law_29 : decode code 29 = .ok (.if_icmp .gt (948), 3) := by decide +kernel
theorem d_L_law_32 : decode code 32 = .ok (.aload_n 0, 1) := by decide +kernel
theorem d_L_law_33 : decode code 33 = .ok (.iload 4, 2) := by decide +kernel
theorem d_L_law_35 : decode code 35 = .ok (.iaload, 1) := by decide +kernel
theorem d_L_law_36 : decode code 36 = .ok (.bipush 15, 2) := by decide +kernel
theorem d_L_law_38 : decode code 38 = .ok (.iand, 1) := by decide +kernel
theorem d_L_law_39 : decode code 39 = .ok (.tableswitch 932 0 15 #[77, 133, 213, 321, 377, 433, 489, 502, 515, 571, 615, 683, 739, 807, 863, 876], 77) := by decide +kernel
theorem d_L_law_116 : decode code 116 = .ok (.aload_n 1, 1) := by decide +kernel
theorem d_L_law_117 : decode code 117 = .ok (.aload_n 0, 1) := by decide +kernel
theorem d_L_law_118 : decode code 118 = .ok (.iload 4, 2) := by decide +kernel
theorem d_L_law_120 : decode code 120 = .ok (.iconst 1, 1) := by decide +kernel
theorem d_L_law_121 : decode code 121 = .ok (.iadd, 1) := by decide +kernel
theorem d_L_law_122 : decode code 122 = .ok (.iaload, 1) := by decide +kernel
theorem d_L_law_123 : decode code 123 = .ok (.aload_n 3, 1) := by decide +kernel
theorem d_L_law_124 : decode code 124 = .ok (.invokestatic 63, 3) := by decide +kernel
theorem d_L_law_127 : decode code 127 = .ok (.istore 5, 2) := by decide +kernel
theorem d_L_law_129 : decode code 129 = .ok (.aload_n 2, 1) := by decide +kernel
theorem d_L_law_130 : decode code 130 = .ok (.aload_n 0, 1) := by decide +kernel
theorem d_L_law_131 : decode code 131 = .ok (.iload 4, 2) := by decide +kernel
theorem d_L_law_133 : decode code 133 = .ok (.iconst 1, 1) := by decide +kernel
theorem d_L_law_134 : decode code 134 = .ok (.iadd, 1) := by decide +kernel
theorem d_L_law_135 : decode code 135 = .ok (.iaload, 1) := by decide +kernel
theorem d_L_law_136 : decode code 136 = .ok (.invokevirtual 68, 3) := by decide +kernel
theorem d_L_law_139 : decode code 139 = .ok (.istore 6, 2) := by decide +kernel
theorem d_L_law_141 : decode code 141 = .ok (.aload_n 2, 1) := by decide +kernel
theorem d_L_law_142 : decode code 142 = .ok (.invokevirtual 69, 3) := by decide +kernel
theorem d_L_law_145 : decode code 145 = .ok (.iload 5, 2) := by decide +kernel
theorem d_L_law_147 : decode code 147 = .ok (.if_icmp .eq (5), 3) := by decide +kernel
theorem d_L_law_150 : decode code 150 = .ok (.iconst 0, 1) := by decide +kernel
theorem d_L_law_151 : decode code 151 = .ok (.ireturn, 1) := by decide +kernel
theorem d_L_law_152 : decode code 152 = .ok (.iload 5, 2) := by decide +kernel
theorem d_L_law_154 : decode code 154 = .ok (.ifCond .ne (15), 3) := by decide +kernel
theorem d_L_law_157 : decode code 157 = .ok (.aload_n 3, 1) := by decide +kernel
theorem d_L_law_158 : decode code 158 = .ok (.iconst 0, 1) := by decide +kernel
theorem d_L_law_159 : decode code 159 = .ok (.laload, 1) := by decide +kernel
theorem d_L_law_160 : decode code 160 = .ok (.iload 6, 2) := by decide +kernel
theorem d_L_law_162 : decode code 162 = .ok (.i2l, 1) := by decide +kernel
theorem d_L_law_163 : decode code 163 = .ok (.lcmp, 1) := by decide +kernel
theorem d_L_law_164 : decode code 164 = .ok (.ifCond .eq (5), 3) := by decide +kernel
theorem d_L_law_167 : decode code 167 = .ok (.iconst 0, 1) := by decide +kernel
theorem d_L_law_168 : decode code 168 = .ok (.ireturn, 1) := by decide +kernel
theorem d_L_law_169 : decode code 169 = .ok (.goto (802), 3) := by decide +kernel
theorem d_L_law_172 : decode code 172 = .ok (.aload_n 1, 1) := by decide +kernel
theorem d_L_law_173 : decode code 173 = .ok (.aload_n 0, 1) := by decide +kernel
theorem d_L_law_174 : decode code 174 = .ok (.iload 4, 2) := by decide +kernel
theorem d_L_law_176 : decode code 176 = .ok (.iconst 1, 1) := by decide +kernel
theorem d_L_law_177 : decode code 177 = .ok (.iadd, 1) := by decide +kernel
theorem d_L_law_178 : decode code 178 = .ok (.iaload, 1) := by decide +kernel
theorem d_L_law_179 : decode code 179 = .ok (.aload_n 0, 1) := by decide +kernel
theorem d_L_law_180 : decode code 180 = .ok (.iload 4, 2) := by decide +kernel
theorem d_L_law_182 : decode code 182 = .ok (.iconst 2, 1) := by decide +kernel
theorem d_L_law_183 : decode code 183 = .ok (.iadd, 1) := by decide +kernel
theorem d_L_law_184 : decode code 184 = .ok (.iaload, 1) := by decide +kernel
theorem d_L_law_185 : decode code 185 = .ok (.aload_n 0, 1) := by decide +kernel
theorem d_L_law_186 : decode code 186 = .ok (.iload 4, 2) := by decide +kernel
theorem d_L_law_188 : decode code 188 = .ok (.iconst 3, 1) := by decide +kernel
theorem d_L_law_189 : decode code 189 = .ok (.iadd, 1) := by decide +kernel
theorem d_L_law_190 : decode code 190 = .ok (.iaload, 1) := by decide +kernel
theorem d_L_law_191 : decode code 191 = .ok (.aload_n 3, 1) := by decide +kernel
theorem d_L_law_192 : decode code 192 = .ok (.invokestatic 72, 3) := by decide +kernel
theorem d_L_law_195 : decode code 195 = .ok (.istore 5, 2) := by decide +kernel
theorem d_L_law_197 : decode code 197 = .ok (.aload_n 2, 1) := by decide +kernel
theorem d_L_law_198 : decode code 198 = .ok (.aload_n 0, 1) := by decide +kernel
theorem d_L_law_199 : decode code 199 = .ok (.iload 4, 2) := by decide +kernel
theorem d_L_law_201 : decode code 201 = .ok (.iconst 1, 1) := by decide +kernel
theorem d_L_law_202 : decode code 202 = .ok (.iadd, 1) := by decide +kernel
theorem d_L_law_203 : decode code 203 = .ok (.iaload, 1) := by decide +kernel
theorem d_L_law_204 : decode code 204 = .ok (.aload_n 0, 1) := by decide +kernel
theorem d_L_law_205 : decode code 205 = .ok (.iload 4, 2) := by decide +kernel
theorem d_L_law_207 : decode code 207 = .ok (.iconst 2, 1) := by decide +kernel
theorem d_L_law_208 : decode code 208 = .ok (.iadd, 1) := by decide +kernel
theorem d_L_law_209 : decode code 209 = .ok (.iaload, 1) := by decide +kernel
theorem d_L_law_210 : decode code 210 = .ok (.aload_n 0, 1) := by decide +kernel
theorem d_L_law_211 : decode code 211 = .ok (.iload 4, 2) := by decide +kernel
theorem d_L_law_213 : decode code 213 = .ok (.iconst 3, 1) := by decide +kernel
theorem d_L_law_214 : decode code 214 = .ok (.iadd, 1) := by decide +kernel
theorem d_L_law_215 : decode code 215 = .ok (.iaload, 1) := by decide +kernel
theorem d_L_law_216 : decode code 216 = .ok (.invokevirtual 75, 3) := by decide +kernel
theorem d_L_law_219 : decode code 219 = .ok (.istore 6, 2) := by decide +kernel
theorem d_L_law_221 : decode code 221 = .ok (.aload_n 2, 1) := by decide +kernel
theorem d_L_law_222 : decode code 222 = .ok (.invokevirtual 69, 3) := by decide +kernel
theorem d_L_law_225 : decode code 225 = .ok (.iload 5, 2) := by decide +kernel
theorem d_L_law_227 : decode code 227 = .ok (.if_icmp .eq (5), 3) := by decide +kernel
theorem d_L_law_230 : decode code 230 = .ok (.iconst 0, 1) := by decide +kernel
theorem d_L_law_231 : decode code 231 = .ok (.ireturn, 1) := by decide +kernel
theorem d_L_law_232 : decode code 232 = .ok (.iload 5, 2) := by decide +kernel
theorem d_L_law_234 : decode code 234 = .ok (.ifCond .ne (15), 3) := by decide +kernel
theorem d_L_law_237 : decode code 237 = .ok (.aload_n 3, 1) := by decide +kernel
theorem d_L_law_238 : decode code 238 = .ok (.iconst 0, 1) := by decide +kernel
theorem d_L_law_239 : decode code 239 = .ok (.laload, 1) := by decide +kernel
theorem d_L_law_240 : decode code 240 = .ok (.iload 6, 2) := by decide +kernel
theorem d_L_law_242 : decode code 242 = .ok (.i2l, 1) := by decide +kernel
theorem d_L_law_243 : decode code 243 = .ok (.lcmp, 1) := by decide +kernel
theorem d_L_law_244 : decode code 244 = .ok (.ifCond .eq (5), 3) := by decide +kernel
theorem d_L_law_247 : decode code 247 = .ok (.iconst 0, 1) := by decide +kernel
theorem d_L_law_248 : decode code 248 = .ok (.ireturn, 1) := by decide +kernel
theorem d_L_law_249 : decode code 249 = .ok (.goto (722), 3) := by decide +kernel
theorem d_L_law_252 : decode code 252 = .ok (.aload_n 1, 1) := by decide +kernel
theorem d_L_law_253 : decode code 253 = .ok (.aload_n 0, 1) := by decide +kernel
theorem d_L_law_254 : decode code 254 = .ok (.iload 4, 2) := by decide +kernel
theorem d_L_law_256 : decode code 256 = .ok (.iconst 1, 1) := by decide +kernel
theorem d_L_law_257 : decode code 257 = .ok (.iadd, 1) := by decide +kernel
theorem d_L_law_258 : decode code 258 = .ok (.iaload, 1) := by decide +kernel
theorem d_L_law_259 : decode code 259 = .ok (.aload_n 0, 1) := by decide +kernel
theorem d_L_law_260 : decode code 260 = .ok (.iload 4, 2) := by decide +kernel
theorem d_L_law_262 : decode code 262 = .ok (.iconst 2, 1) := by decide +kernel
theorem d_L_law_263 : decode code 263 = .ok (.iadd, 1) := by decide +kernel
theorem d_L_law_264 : decode code 264 = .ok (.iaload, 1) := by decide +kernel
theorem d_L_law_265 : decode code 265 = .ok (.aload_n 0, 1) := by decide +kernel
theorem d_L_law_266 : decode code 266 = .ok (.iload 4, 2) := by decide +kernel
theorem d_L_law_268 : decode code 268 = .ok (.iconst 3, 1) := by decide +kernel
theorem d_L_law_269 : decode code 269 = .ok (.iadd, 1) := by decide +kernel
theorem d_L_law_270 : decode code 270 = .ok (.iaload, 1) := by decide +kernel
theorem d_L_law_271 : decode code 271 = .ok (.aload_n 0, 1) := by decide +kernel
theorem d_L_law_272 : decode code 272 = .ok (.iload 4, 2) := by decide +kernel
theorem d_L_law_274 : decode code 274 = .ok (.iconst 4, 1) := by decide +kernel
theorem d_L_law_275 : decode code 275 = .ok (.iadd, 1) := by decide +kernel
theorem d_L_law_276 : decode code 276 = .ok (.iaload, 1) := by decide +kernel
theorem d_L_law_277 : decode code 277 = .ok (.ifCond .eq (7), 3) := by decide +kernel
theorem d_L_law_280 : decode code 280 = .ok (.iconst 1, 1) := by decide +kernel
theorem d_L_law_281 : decode code 281 = .ok (.goto (4), 3) := by decide +kernel
theorem d_L_law_284 : decode code 284 = .ok (.iconst 0, 1) := by decide +kernel
theorem d_L_law_285 : decode code 285 = .ok (.aload_n 3, 1) := by decide +kernel
theorem d_L_law_286 : decode code 286 = .ok (.invokestatic 76, 3) := by decide +kernel
theorem d_L_law_289 : decode code 289 = .ok (.istore 5, 2) := by decide +kernel
theorem d_L_law_291 : decode code 291 = .ok (.aload_n 2, 1) := by decide +kernel
theorem d_L_law_292 : decode code 292 = .ok (.aload_n 0, 1) := by decide +kernel
theorem d_L_law_293 : decode code 293 = .ok (.iload 4, 2) := by decide +kernel
theorem d_L_law_295 : decode code 295 = .ok (.iconst 1, 1) := by decide +kernel
theorem d_L_law_296 : decode code 296 = .ok (.iadd, 1) := by decide +kernel
theorem d_L_law_297 : decode code 297 = .ok (.iaload, 1) := by decide +kernel
theorem d_L_law_298 : decode code 298 = .ok (.aload_n 0, 1) := by decide +kernel
theorem d_L_law_299 : decode code 299 = .ok (.iload 4, 2) := by decide +kernel
theorem d_L_law_301 : decode code 301 = .ok (.iconst 2, 1) := by decide +kernel
theorem d_L_law_302 : decode code 302 = .ok (.iadd, 1) := by decide +kernel
theorem d_L_law_303 : decode code 303 = .ok (.iaload, 1) := by decide +kernel
theorem d_L_law_304 : decode code 304 = .ok (.aload_n 0, 1) := by decide +kernel
theorem d_L_law_305 : decode code 305 = .ok (.iload 4, 2) := by decide +kernel
theorem d_L_law_307 : decode code 307 = .ok (.iconst 3, 1) := by decide +kernel
theorem d_L_law_308 : decode code 308 = .ok (.iadd, 1) := by decide +kernel
theorem d_L_law_309 : decode code 309 = .ok (.iaload, 1) := by decide +kernel
theorem d_L_law_310 : decode code 310 = .ok (.aload_n 0, 1) := by decide +kernel
theorem d_L_law_311 : decode code 311 = .ok (.iload 4, 2) := by decide +kernel
theorem d_L_law_313 : decode code 313 = .ok (.iconst 4, 1) := by decide +kernel
theorem d_L_law_314 : decode code 314 = .ok (.iadd, 1) := by decide +kernel
theorem d_L_law_315 : decode code 315 = .ok (.iaload, 1) := by decide +kernel
theorem d_L_law_316 : decode code 316 = .ok (.ifCond .eq (7), 3) := by decide +kernel
theorem d_L_law_319 : decode code 319 = .ok (.iconst 1, 1) := by decide +kernel
theorem d_L_law_320 : decode code 320 = .ok (.goto (4), 3) := by decide +kernel
theorem d_L_law_323 : decode code 323 = .ok (.iconst 0, 1) := by decide +kernel
theorem d_L_law_324 : decode code 324 = .ok (.invokevirtual 79, 3) := by decide +kernel
theorem d_L_law_327 : decode code 327 = .ok (.istore 6, 2) := by decide +kernel
theorem d_L_law_329 : decode code 329 = .ok (.aload_n 2, 1) := by decide +kernel
theorem d_L_law_330 : decode code 330 = .ok (.invokevirtual 69, 3) := by decide +kernel
theorem d_L_law_333 : decode code 333 = .ok (.iload 5, 2) := by decide +kernel
theorem d_L_law_335 : decode code 335 = .ok (.if_icmp .eq (5), 3) := by decide +kernel
theorem d_L_law_338 : decode code 338 = .ok (.iconst 0, 1) := by decide +kernel
theorem d_L_law_339 : decode code 339 = .ok (.ireturn, 1) := by decide +kernel
theorem d_L_law_340 : decode code 340 = .ok (.iload 5, 2) := by decide +kernel
theorem d_L_law_342 : decode code 342 = .ok (.ifCond .ne (15), 3) := by decide +kernel
theorem d_L_law_345 : decode code 345 = .ok (.aload_n 3, 1) := by decide +kernel
theorem d_L_law_346 : decode code 346 = .ok (.iconst 0, 1) := by decide +kernel
theorem d_L_law_347 : decode code 347 = .ok (.laload, 1) := by decide +kernel
theorem d_L_law_348 : decode code 348 = .ok (.iload 6, 2) := by decide +kernel
theorem d_L_law_350 : decode code 350 = .ok (.i2l, 1) := by decide +kernel
theorem d_L_law_351 : decode code 351 = .ok (.lcmp, 1) := by decide +kernel
theorem d_L_law_352 : decode code 352 = .ok (.ifCond .eq (5), 3) := by decide +kernel
theorem d_L_law_355 : decode code 355 = .ok (.iconst 0, 1) := by decide +kernel
theorem d_L_law_356 : decode code 356 = .ok (.ireturn, 1) := by decide +kernel
theorem d_L_law_357 : decode code 357 = .ok (.goto (614), 3) := by decide +kernel
theorem d_L_law_360 : decode code 360 = .ok (.aload_n 1, 1) := by decide +kernel
theorem d_L_law_361 : decode code 361 = .ok (.aload_n 0, 1) := by decide +kernel
theorem d_L_law_362 : decode code 362 = .ok (.iload 4, 2) := by decide +kernel
theorem d_L_law_364 : decode code 364 = .ok (.iconst 1, 1) := by decide +kernel
theorem d_L_law_365 : decode code 365 = .ok (.iadd, 1) := by decide +kernel
theorem d_L_law_366 : decode code 366 = .ok (.iaload, 1) := by decide +kernel
theorem d_L_law_367 : decode code 367 = .ok (.aload_n 3, 1) := by decide +kernel
theorem d_L_law_368 : decode code 368 = .ok (.invokestatic 80, 3) := by decide +kernel
theorem d_L_law_371 : decode code 371 = .ok (.istore 5, 2) := by decide +kernel
theorem d_L_law_373 : decode code 373 = .ok (.aload_n 2, 1) := by decide +kernel
theorem d_L_law_374 : decode code 374 = .ok (.aload_n 0, 1) := by decide +kernel
theorem d_L_law_375 : decode code 375 = .ok (.iload 4, 2) := by decide +kernel
theorem d_L_law_377 : decode code 377 = .ok (.iconst 1, 1) := by decide +kernel
