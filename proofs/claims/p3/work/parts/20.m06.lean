theorem d_Model_acts_0 : decode b_Model_acts 0 = .ok (.aload_n 0, 1) := by decide +kernel
theorem d_Model_acts_1 : decode b_Model_acts 1 = .ok (.getfield 38, 3) := by decide +kernel
theorem d_Model_acts_4 : decode b_Model_acts 4 = .ok (.iload_n 1, 1) := by decide +kernel
theorem d_Model_acts_5 : decode b_Model_acts 5 = .ok (.baload, 1) := by decide +kernel
theorem d_Model_acts_6 : decode b_Model_acts 6 = .ok (.ifCond .ne 57, 3) := by decide +kernel
theorem d_Model_acts_9 : decode b_Model_acts 9 = .ok (.aload_n 0, 1) := by decide +kernel
theorem d_Model_acts_10 : decode b_Model_acts 10 = .ok (.aload_n 0, 1) := by decide +kernel
theorem d_Model_acts_11 : decode b_Model_acts 11 = .ok (.getfield 26, 3) := by decide +kernel
theorem d_Model_acts_14 : decode b_Model_acts 14 = .ok (.iload_n 1, 1) := by decide +kernel
theorem d_Model_acts_15 : decode b_Model_acts 15 = .ok (.iaload, 1) := by decide +kernel
theorem d_Model_acts_16 : decode b_Model_acts 16 = .ok (.aload_n 0, 1) := by decide +kernel
theorem d_Model_acts_17 : decode b_Model_acts 17 = .ok (.getfield 29, 3) := by decide +kernel
theorem d_Model_acts_20 : decode b_Model_acts 20 = .ok (.iload_n 1, 1) := by decide +kernel
theorem d_Model_acts_21 : decode b_Model_acts 21 = .ok (.iaload, 1) := by decide +kernel
theorem d_Model_acts_22 : decode b_Model_acts 22 = .ok (.invokevirtual 159, 3) := by decide +kernel
theorem d_Model_acts_25 : decode b_Model_acts 25 = .ok (.ifCond .eq 37, 3) := by decide +kernel
theorem d_Model_acts_28 : decode b_Model_acts 28 = .ok (.aload_n 0, 1) := by decide +kernel
theorem d_Model_acts_29 : decode b_Model_acts 29 = .ok (.aload_n 0, 1) := by decide +kernel
theorem d_Model_acts_30 : decode b_Model_acts 30 = .ok (.getfield 26, 3) := by decide +kernel
theorem d_Model_acts_33 : decode b_Model_acts 33 = .ok (.iload_n 1, 1) := by decide +kernel
theorem d_Model_acts_34 : decode b_Model_acts 34 = .ok (.iaload, 1) := by decide +kernel
theorem d_Model_acts_35 : decode b_Model_acts 35 = .ok (.aload_n 0, 1) := by decide +kernel
theorem d_Model_acts_36 : decode b_Model_acts 36 = .ok (.getfield 29, 3) := by decide +kernel
theorem d_Model_acts_39 : decode b_Model_acts 39 = .ok (.iload_n 1, 1) := by decide +kernel
theorem d_Model_acts_40 : decode b_Model_acts 40 = .ok (.iaload, 1) := by decide +kernel
theorem d_Model_acts_41 : decode b_Model_acts 41 = .ok (.aload_n 0, 1) := by decide +kernel
theorem d_Model_acts_42 : decode b_Model_acts 42 = .ok (.getfield 129, 3) := by decide +kernel
theorem d_Model_acts_45 : decode b_Model_acts 45 = .ok (.aload_n 0, 1) := by decide +kernel
theorem d_Model_acts_46 : decode b_Model_acts 46 = .ok (.getfield 132, 3) := by decide +kernel
theorem d_Model_acts_49 : decode b_Model_acts 49 = .ok (.invokevirtual 162, 3) := by decide +kernel
theorem d_Model_acts_52 : decode b_Model_acts 52 = .ok (.ifCond .eq 10, 3) := by decide +kernel
theorem d_Model_acts_55 : decode b_Model_acts 55 = .ok (.aload_n 0, 1) := by decide +kernel
theorem d_Model_acts_56 : decode b_Model_acts 56 = .ok (.getfield 38, 3) := by decide +kernel
theorem d_Model_acts_59 : decode b_Model_acts 59 = .ok (.iload_n 1, 1) := by decide +kernel
theorem d_Model_acts_60 : decode b_Model_acts 60 = .ok (.iconst 1, 1) := by decide +kernel
theorem d_Model_acts_61 : decode b_Model_acts 61 = .ok (.bastore, 1) := by decide +kernel
theorem d_Model_acts_62 : decode b_Model_acts 62 = .ok (.return_, 1) := by decide +kernel
theorem d_Model_acts_63 : decode b_Model_acts 63 = .ok (.aload_n 0, 1) := by decide +kernel
theorem d_Model_acts_64 : decode b_Model_acts 64 = .ok (.getfield 23, 3) := by decide +kernel
theorem d_Model_acts_67 : decode b_Model_acts 67 = .ok (.iload_n 1, 1) := by decide +kernel
theorem d_Model_acts_68 : decode b_Model_acts 68 = .ok (.iaload, 1) := by decide +kernel
theorem d_Model_acts_69 : decode b_Model_acts 69 = .ok (.iconst 2, 1) := by decide +kernel
theorem d_Model_acts_70 : decode b_Model_acts 70 = .ok (.if_icmp .ne 88, 3) := by decide +kernel
theorem d_Model_acts_73 : decode b_Model_acts 73 = .ok (.aload_n 0, 1) := by decide +kernel
theorem d_Model_acts_74 : decode b_Model_acts 74 = .ok (.iconst 4, 1) := by decide +kernel
theorem d_Model_acts_75 : decode b_Model_acts 75 = .ok (.invokevirtual 175, 3) := by decide +kernel
theorem d_Model_acts_78 : decode b_Model_acts 78 = .ok (.istore_n 2, 1) := by decide +kernel
theorem d_Model_acts_79 : decode b_Model_acts 79 = .ok (.aload_n 0, 1) := by decide +kernel
theorem d_Model_acts_80 : decode b_Model_acts 80 = .ok (.getfield 26, 3) := by decide +kernel
theorem d_Model_acts_83 : decode b_Model_acts 83 = .ok (.iload_n 1, 1) := by decide +kernel
theorem d_Model_acts_84 : decode b_Model_acts 84 = .ok (.iaload, 1) := by decide +kernel
theorem d_Model_acts_85 : decode b_Model_acts 85 = .ok (.iload_n 2, 1) := by decide +kernel
theorem d_Model_acts_86 : decode b_Model_acts 86 = .ok (.invokestatic 169, 3) := by decide +kernel
theorem d_Model_acts_89 : decode b_Model_acts 89 = .ok (.iadd, 1) := by decide +kernel
theorem d_Model_acts_90 : decode b_Model_acts 90 = .ok (.istore_n 3, 1) := by decide +kernel
theorem d_Model_acts_91 : decode b_Model_acts 91 = .ok (.aload_n 0, 1) := by decide +kernel
theorem d_Model_acts_92 : decode b_Model_acts 92 = .ok (.getfield 29, 3) := by decide +kernel
theorem d_Model_acts_95 : decode b_Model_acts 95 = .ok (.iload_n 1, 1) := by decide +kernel
theorem d_Model_acts_96 : decode b_Model_acts 96 = .ok (.iaload, 1) := by decide +kernel
theorem d_Model_acts_97 : decode b_Model_acts 97 = .ok (.iload_n 2, 1) := by decide +kernel
theorem d_Model_acts_98 : decode b_Model_acts 98 = .ok (.invokestatic 172, 3) := by decide +kernel
theorem d_Model_acts_101 : decode b_Model_acts 101 = .ok (.iadd, 1) := by decide +kernel
theorem d_Model_acts_102 : decode b_Model_acts 102 = .ok (.istore 4, 2) := by decide +kernel
theorem d_Model_acts_104 : decode b_Model_acts 104 = .ok (.iload_n 3, 1) := by decide +kernel
theorem d_Model_acts_105 : decode b_Model_acts 105 = .ok (.aload_n 0, 1) := by decide +kernel
theorem d_Model_acts_106 : decode b_Model_acts 106 = .ok (.getfield 129, 3) := by decide +kernel
theorem d_Model_acts_109 : decode b_Model_acts 109 = .ok (.if_icmp .ne 20, 3) := by decide +kernel
theorem d_Model_acts_112 : decode b_Model_acts 112 = .ok (.iload 4, 2) := by decide +kernel
theorem d_Model_acts_114 : decode b_Model_acts 114 = .ok (.aload_n 0, 1) := by decide +kernel
theorem d_Model_acts_115 : decode b_Model_acts 115 = .ok (.getfield 132, 3) := by decide +kernel
theorem d_Model_acts_118 : decode b_Model_acts 118 = .ok (.if_icmp .ne 11, 3) := by decide +kernel
theorem d_Model_acts_121 : decode b_Model_acts 121 = .ok (.aload_n 0, 1) := by decide +kernel
theorem d_Model_acts_122 : decode b_Model_acts 122 = .ok (.iload_n 1, 1) := by decide +kernel
theorem d_Model_acts_123 : decode b_Model_acts 123 = .ok (.invokevirtual 178, 3) := by decide +kernel
theorem d_Model_acts_126 : decode b_Model_acts 126 = .ok (.goto 31, 3) := by decide +kernel
theorem d_Model_acts_129 : decode b_Model_acts 129 = .ok (.aload_n 0, 1) := by decide +kernel
theorem d_Model_acts_130 : decode b_Model_acts 130 = .ok (.iload_n 3, 1) := by decide +kernel
theorem d_Model_acts_131 : decode b_Model_acts 131 = .ok (.iload 4, 2) := by decide +kernel
theorem d_Model_acts_133 : decode b_Model_acts 133 = .ok (.invokevirtual 155, 3) := by decide +kernel
theorem d_Model_acts_136 : decode b_Model_acts 136 = .ok (.ifCond .eq 21, 3) := by decide +kernel
theorem d_Model_acts_139 : decode b_Model_acts 139 = .ok (.aload_n 0, 1) := by decide +kernel
theorem d_Model_acts_140 : decode b_Model_acts 140 = .ok (.iload_n 3, 1) := by decide +kernel
theorem d_Model_acts_141 : decode b_Model_acts 141 = .ok (.iload 4, 2) := by decide +kernel
theorem d_Model_acts_143 : decode b_Model_acts 143 = .ok (.invokevirtual 141, 3) := by decide +kernel
theorem d_Model_acts_146 : decode b_Model_acts 146 = .ok (.ifCond .ge 11, 3) := by decide +kernel
theorem d_Model_acts_149 : decode b_Model_acts 149 = .ok (.aload_n 0, 1) := by decide +kernel
theorem d_Model_acts_150 : decode b_Model_acts 150 = .ok (.iload_n 1, 1) := by decide +kernel
theorem d_Model_acts_151 : decode b_Model_acts 151 = .ok (.iload_n 3, 1) := by decide +kernel
theorem d_Model_acts_152 : decode b_Model_acts 152 = .ok (.iload 4, 2) := by decide +kernel
theorem d_Model_acts_154 : decode b_Model_acts 154 = .ok (.invokevirtual 181, 3) := by decide +kernel
theorem d_Model_acts_157 : decode b_Model_acts 157 = .ok (.return_, 1) := by decide +kernel
theorem d_Model_acts_158 : decode b_Model_acts 158 = .ok (.aload_n 0, 1) := by decide +kernel
theorem d_Model_acts_159 : decode b_Model_acts 159 = .ok (.invokevirtual 185, 3) := by decide +kernel
theorem d_Model_acts_162 : decode b_Model_acts 162 = .ok (.aload_n 0, 1) := by decide +kernel
theorem d_Model_acts_163 : decode b_Model_acts 163 = .ok (.getfield 23, 3) := by decide +kernel
theorem d_Model_acts_166 : decode b_Model_acts 166 = .ok (.iload_n 1, 1) := by decide +kernel
theorem d_Model_acts_167 : decode b_Model_acts 167 = .ok (.iaload, 1) := by decide +kernel
theorem d_Model_acts_168 : decode b_Model_acts 168 = .ok (.iconst 1, 1) := by decide +kernel
theorem d_Model_acts_169 : decode b_Model_acts 169 = .ok (.if_icmp .ne 17, 3) := by decide +kernel
theorem d_Model_acts_172 : decode b_Model_acts 172 = .ok (.aload_n 0, 1) := by decide +kernel
theorem d_Model_acts_173 : decode b_Model_acts 173 = .ok (.getfield 32, 3) := by decide +kernel
theorem d_Model_acts_176 : decode b_Model_acts 176 = .ok (.iload_n 1, 1) := by decide +kernel
theorem d_Model_acts_177 : decode b_Model_acts 177 = .ok (.iaload, 1) := by decide +kernel
theorem d_Model_acts_178 : decode b_Model_acts 178 = .ok (.iconst 3, 1) := by decide +kernel
theorem d_Model_acts_179 : decode b_Model_acts 179 = .ok (.if_icmp .ge 7, 3) := by decide +kernel
theorem d_Model_acts_182 : decode b_Model_acts 182 = .ok (.iconst 1, 1) := by decide +kernel
theorem d_Model_acts_183 : decode b_Model_acts 183 = .ok (.goto 4, 3) := by decide +kernel
theorem d_Model_acts_186 : decode b_Model_acts 186 = .ok (.iconst 0, 1) := by decide +kernel
theorem d_Model_acts_187 : decode b_Model_acts 187 = .ok (.istore_n 2, 1) := by decide +kernel
theorem d_Model_acts_188 : decode b_Model_acts 188 = .ok (.iconst (-1), 1) := by decide +kernel
theorem d_Model_acts_189 : decode b_Model_acts 189 = .ok (.istore_n 3, 1) := by decide +kernel
theorem d_Model_acts_190 : decode b_Model_acts 190 = .ok (.iconst 0, 1) := by decide +kernel
theorem d_Model_acts_191 : decode b_Model_acts 191 = .ok (.istore 4, 2) := by decide +kernel
theorem d_Model_acts_193 : decode b_Model_acts 193 = .ok (.aload_n 0, 1) := by decide +kernel
theorem d_Model_acts_194 : decode b_Model_acts 194 = .ok (.getfield 16, 3) := by decide +kernel
theorem d_Model_acts_197 : decode b_Model_acts 197 = .ok (.bipush 12, 2) := by decide +kernel
theorem d_Model_acts_199 : decode b_Model_acts 199 = .ok (.aload_n 0, 1) := by decide +kernel
theorem d_Model_acts_200 : decode b_Model_acts 200 = .ok (.getfield 29, 3) := by decide +kernel
theorem d_Model_acts_203 : decode b_Model_acts 203 = .ok (.iload_n 1, 1) := by decide +kernel
theorem d_Model_acts_204 : decode b_Model_acts 204 = .ok (.iaload, 1) := by decide +kernel
theorem d_Model_acts_205 : decode b_Model_acts 205 = .ok (.imul, 1) := by decide +kernel
theorem d_Model_acts_206 : decode b_Model_acts 206 = .ok (.aload_n 0, 1) := by decide +kernel
theorem d_Model_acts_207 : decode b_Model_acts 207 = .ok (.getfield 26, 3) := by decide +kernel
theorem d_Model_acts_210 : decode b_Model_acts 210 = .ok (.iload_n 1, 1) := by decide +kernel
theorem d_Model_acts_211 : decode b_Model_acts 211 = .ok (.iaload, 1) := by decide +kernel
theorem d_Model_acts_212 : decode b_Model_acts 212 = .ok (.iadd, 1) := by decide +kernel
theorem d_Model_acts_213 : decode b_Model_acts 213 = .ok (.iaload, 1) := by decide +kernel
theorem d_Model_acts_214 : decode b_Model_acts 214 = .ok (.istore 5, 2) := by decide +kernel
theorem d_Model_acts_216 : decode b_Model_acts 216 = .ok (.iconst 0, 1) := by decide +kernel
theorem d_Model_acts_217 : decode b_Model_acts 217 = .ok (.istore 6, 2) := by decide +kernel
theorem d_Model_acts_219 : decode b_Model_acts 219 = .ok (.iload 6, 2) := by decide +kernel
theorem d_Model_acts_221 : decode b_Model_acts 221 = .ok (.iconst 4, 1) := by decide +kernel
theorem d_Model_acts_222 : decode b_Model_acts 222 = .ok (.if_icmp .ge 112, 3) := by decide +kernel
theorem d_Model_acts_225 : decode b_Model_acts 225 = .ok (.aload_n 0, 1) := by decide +kernel
theorem d_Model_acts_226 : decode b_Model_acts 226 = .ok (.getfield 26, 3) := by decide +kernel
theorem d_Model_acts_229 : decode b_Model_acts 229 = .ok (.iload_n 1, 1) := by decide +kernel
theorem d_Model_acts_230 : decode b_Model_acts 230 = .ok (.iaload, 1) := by decide +kernel
theorem d_Model_acts_231 : decode b_Model_acts 231 = .ok (.iload 6, 2) := by decide +kernel
theorem d_Model_acts_233 : decode b_Model_acts 233 = .ok (.invokestatic 169, 3) := by decide +kernel
theorem d_Model_acts_236 : decode b_Model_acts 236 = .ok (.iadd, 1) := by decide +kernel
theorem d_Model_acts_237 : decode b_Model_acts 237 = .ok (.istore 7, 2) := by decide +kernel
theorem d_Model_acts_239 : decode b_Model_acts 239 = .ok (.aload_n 0, 1) := by decide +kernel
theorem d_Model_acts_240 : decode b_Model_acts 240 = .ok (.getfield 29, 3) := by decide +kernel
theorem d_Model_acts_243 : decode b_Model_acts 243 = .ok (.iload_n 1, 1) := by decide +kernel
theorem d_Model_acts_244 : decode b_Model_acts 244 = .ok (.iaload, 1) := by decide +kernel
theorem d_Model_acts_245 : decode b_Model_acts 245 = .ok (.iload 6, 2) := by decide +kernel
theorem d_Model_acts_247 : decode b_Model_acts 247 = .ok (.invokestatic 172, 3) := by decide +kernel
theorem d_Model_acts_250 : decode b_Model_acts 250 = .ok (.iadd, 1) := by decide +kernel
theorem d_Model_acts_251 : decode b_Model_acts 251 = .ok (.istore 8, 2) := by decide +kernel
theorem d_Model_acts_253 : decode b_Model_acts 253 = .ok (.aload_n 0, 1) := by decide +kernel
theorem d_Model_acts_254 : decode b_Model_acts 254 = .ok (.iload 7, 2) := by decide +kernel
theorem d_Model_acts_256 : decode b_Model_acts 256 = .ok (.iload 8, 2) := by decide +kernel
theorem d_Model_acts_258 : decode b_Model_acts 258 = .ok (.invokevirtual 155, 3) := by decide +kernel
theorem d_Model_acts_261 : decode b_Model_acts 261 = .ok (.ifCond .eq 67, 3) := by decide +kernel
theorem d_Model_acts_264 : decode b_Model_acts 264 = .ok (.aload_n 0, 1) := by decide +kernel
theorem d_Model_acts_265 : decode b_Model_acts 265 = .ok (.iload 7, 2) := by decide +kernel
theorem d_Model_acts_267 : decode b_Model_acts 267 = .ok (.iload 8, 2) := by decide +kernel
theorem d_Model_acts_269 : decode b_Model_acts 269 = .ok (.invokevirtual 141, 3) := by decide +kernel
theorem d_Model_acts_272 : decode b_Model_acts 272 = .ok (.ifCond .lt 6, 3) := by decide +kernel
theorem d_Model_acts_275 : decode b_Model_acts 275 = .ok (.goto 53, 3) := by decide +kernel
theorem d_Model_acts_278 : decode b_Model_acts 278 = .ok (.aload_n 0, 1) := by decide +kernel
theorem d_Model_acts_279 : decode b_Model_acts 279 = .ok (.getfield 16, 3) := by decide +kernel
theorem d_Model_acts_282 : decode b_Model_acts 282 = .ok (.bipush 12, 2) := by decide +kernel
theorem d_Model_acts_284 : decode b_Model_acts 284 = .ok (.iload 8, 2) := by decide +kernel
theorem d_Model_acts_286 : decode b_Model_acts 286 = .ok (.imul, 1) := by decide +kernel
theorem d_Model_acts_287 : decode b_Model_acts 287 = .ok (.iload 7, 2) := by decide +kernel
theorem d_Model_acts_289 : decode b_Model_acts 289 = .ok (.iadd, 1) := by decide +kernel
theorem d_Model_acts_290 : decode b_Model_acts 290 = .ok (.iaload, 1) := by decide +kernel
theorem d_Model_acts_291 : decode b_Model_acts 291 = .ok (.istore 9, 2) := by decide +kernel
theorem d_Model_acts_293 : decode b_Model_acts 293 = .ok (.iload_n 3, 1) := by decide +kernel
theorem d_Model_acts_294 : decode b_Model_acts 294 = .ok (.ifCond .lt 27, 3) := by decide +kernel
theorem d_Model_acts_297 : decode b_Model_acts 297 = .ok (.iload_n 2, 1) := by decide +kernel
theorem d_Model_acts_298 : decode b_Model_acts 298 = .ok (.ifCond .eq 13, 3) := by decide +kernel
theorem d_Model_acts_301 : decode b_Model_acts 301 = .ok (.iload 9, 2) := by decide +kernel
theorem d_Model_acts_303 : decode b_Model_acts 303 = .ok (.iload 4, 2) := by decide +kernel
theorem d_Model_acts_305 : decode b_Model_acts 305 = .ok (.if_icmp .gt 16, 3) := by decide +kernel
theorem d_Model_acts_308 : decode b_Model_acts 308 = .ok (.goto 20, 3) := by decide +kernel
theorem d_Model_acts_311 : decode b_Model_acts 311 = .ok (.iload 9, 2) := by decide +kernel
theorem d_Model_acts_313 : decode b_Model_acts 313 = .ok (.iload 4, 2) := by decide +kernel
theorem d_Model_acts_315 : decode b_Model_acts 315 = .ok (.if_icmp .lt 6, 3) := by decide +kernel
theorem d_Model_acts_318 : decode b_Model_acts 318 = .ok (.goto 10, 3) := by decide +kernel
theorem d_Model_acts_321 : decode b_Model_acts 321 = .ok (.iload 6, 2) := by decide +kernel
theorem d_Model_acts_323 : decode b_Model_acts 323 = .ok (.istore_n 3, 1) := by decide +kernel
theorem d_Model_acts_324 : decode b_Model_acts 324 = .ok (.iload 9, 2) := by decide +kernel
theorem d_Model_acts_326 : decode b_Model_acts 326 = .ok (.istore 4, 2) := by decide +kernel
theorem d_Model_acts_328 : decode b_Model_acts 328 = .ok (.iinc 6 1, 3) := by decide +kernel
theorem d_Model_acts_331 : decode b_Model_acts 331 = .ok (.goto (-112), 3) := by decide +kernel
theorem d_Model_acts_334 : decode b_Model_acts 334 = .ok (.iload_n 3, 1) := by decide +kernel
theorem d_Model_acts_335 : decode b_Model_acts 335 = .ok (.ifCond .lt 24, 3) := by decide +kernel
theorem d_Model_acts_338 : decode b_Model_acts 338 = .ok (.iload_n 2, 1) := by decide +kernel
theorem d_Model_acts_339 : decode b_Model_acts 339 = .ok (.ifCond .eq 13, 3) := by decide +kernel
theorem d_Model_acts_342 : decode b_Model_acts 342 = .ok (.iload 4, 2) := by decide +kernel
theorem d_Model_acts_344 : decode b_Model_acts 344 = .ok (.iload 5, 2) := by decide +kernel
theorem d_Model_acts_346 : decode b_Model_acts 346 = .ok (.if_icmp .gt 14, 3) := by decide +kernel
theorem d_Model_acts_349 : decode b_Model_acts 349 = .ok (.goto 10, 3) := by decide +kernel
theorem d_Model_acts_352 : decode b_Model_acts 352 = .ok (.iload 4, 2) := by decide +kernel
theorem d_Model_acts_354 : decode b_Model_acts 354 = .ok (.iload 5, 2) := by decide +kernel
theorem d_Model_acts_356 : decode b_Model_acts 356 = .ok (.if_icmp .lt 4, 3) := by decide +kernel
theorem d_Model_acts_359 : decode b_Model_acts 359 = .ok (.return_, 1) := by decide +kernel
theorem d_Model_acts_360 : decode b_Model_acts 360 = .ok (.aload_n 0, 1) := by decide +kernel
theorem d_Model_acts_361 : decode b_Model_acts 361 = .ok (.getfield 26, 3) := by decide +kernel
theorem d_Model_acts_364 : decode b_Model_acts 364 = .ok (.iload_n 1, 1) := by decide +kernel
theorem d_Model_acts_365 : decode b_Model_acts 365 = .ok (.iaload, 1) := by decide +kernel
theorem d_Model_acts_366 : decode b_Model_acts 366 = .ok (.iload_n 3, 1) := by decide +kernel
theorem d_Model_acts_367 : decode b_Model_acts 367 = .ok (.invokestatic 169, 3) := by decide +kernel
theorem d_Model_acts_370 : decode b_Model_acts 370 = .ok (.iadd, 1) := by decide +kernel
theorem d_Model_acts_371 : decode b_Model_acts 371 = .ok (.istore 6, 2) := by decide +kernel
theorem d_Model_acts_373 : decode b_Model_acts 373 = .ok (.aload_n 0, 1) := by decide +kernel
theorem d_Model_acts_374 : decode b_Model_acts 374 = .ok (.getfield 29, 3) := by decide +kernel
theorem d_Model_acts_377 : decode b_Model_acts 377 = .ok (.iload_n 1, 1) := by decide +kernel
theorem d_Model_acts_378 : decode b_Model_acts 378 = .ok (.iaload, 1) := by decide +kernel
theorem d_Model_acts_379 : decode b_Model_acts 379 = .ok (.iload_n 3, 1) := by decide +kernel
theorem d_Model_acts_380 : decode b_Model_acts 380 = .ok (.invokestatic 172, 3) := by decide +kernel
theorem d_Model_acts_383 : decode b_Model_acts 383 = .ok (.iadd, 1) := by decide +kernel
theorem d_Model_acts_384 : decode b_Model_acts 384 = .ok (.istore 7, 2) := by decide +kernel
theorem d_Model_acts_386 : decode b_Model_acts 386 = .ok (.iload 6, 2) := by decide +kernel
theorem d_Model_acts_388 : decode b_Model_acts 388 = .ok (.aload_n 0, 1) := by decide +kernel
theorem d_Model_acts_389 : decode b_Model_acts 389 = .ok (.getfield 129, 3) := by decide +kernel
theorem d_Model_acts_392 : decode b_Model_acts 392 = .ok (.if_icmp .ne 20, 3) := by decide +kernel
theorem d_Model_acts_395 : decode b_Model_acts 395 = .ok (.iload 7, 2) := by decide +kernel
theorem d_Model_acts_397 : decode b_Model_acts 397 = .ok (.aload_n 0, 1) := by decide +kernel
theorem d_Model_acts_398 : decode b_Model_acts 398 = .ok (.getfield 132, 3) := by decide +kernel
theorem d_Model_acts_401 : decode b_Model_acts 401 = .ok (.if_icmp .ne 11, 3) := by decide +kernel
theorem d_Model_acts_404 : decode b_Model_acts 404 = .ok (.aload_n 0, 1) := by decide +kernel
theorem d_Model_acts_405 : decode b_Model_acts 405 = .ok (.iload_n 1, 1) := by decide +kernel
theorem d_Model_acts_406 : decode b_Model_acts 406 = .ok (.invokevirtual 178, 3) := by decide +kernel
theorem d_Model_acts_409 : decode b_Model_acts 409 = .ok (.goto 12, 3) := by decide +kernel
theorem d_Model_acts_412 : decode b_Model_acts 412 = .ok (.aload_n 0, 1) := by decide +kernel
theorem d_Model_acts_413 : decode b_Model_acts 413 = .ok (.iload_n 1, 1) := by decide +kernel
theorem d_Model_acts_414 : decode b_Model_acts 414 = .ok (.iload 6, 2) := by decide +kernel
theorem d_Model_acts_416 : decode b_Model_acts 416 = .ok (.iload 7, 2) := by decide +kernel
theorem d_Model_acts_418 : decode b_Model_acts 418 = .ok (.invokevirtual 181, 3) := by decide +kernel
theorem d_Model_acts_421 : decode b_Model_acts 421 = .ok (.return_, 1) := by decide +kernel
def f_Model_acts_129 (n : Nat) (y1 : Int32) (y3 : Int32) (y4 : Int32) (σ : St) : Option (Unit × St) := bd (f_Model_isFloor n y3 y4 σ) (fun r44 σ45 => if r44 = 0 then (some ((), σ45)) else (bd (f_Model_monsterAt n y3 y4 σ45) (fun r48 σ49 => if 0 ≤ r48 then (some ((), σ49)) else (bd (f_Model_put n y1 y3 y4 σ49) (fun _ σ53 => some ((), σ53))))))
def f_Model_acts_412 (n : Nat) (y1 : Int32) (y6 : Int32) (y7 : Int32) (σ : St) : Option (Unit × St) := bd (f_Model_put n y1 y6 y7 σ) (fun _ σ111 => some ((), σ111))
def f_Model_acts_360 (n : Nat) (y1 : Int32) (y3 : Int32) (σ : St) : Option (Unit × St) := gd (inb y1 8) (bd (f_Model_dx n y3 σ) (fun r96 σ97 => bnd ((σ.2.2 5 y1.toNatClampNeg) + r96) (fun v99 => gd (inb y1 8) (bd (f_Model_dy n y3 σ97) (fun r101 σ102 => bnd ((σ97.2.2 6 y1.toNatClampNeg) + r101) (fun v104 => if v99 = (σ102.1 2) then (if v104 = (σ102.1 3) then (bd (f_Model_wound n y1 σ102) (fun _ σ108 => some ((), σ108))) else (f_Model_acts_412 n y1 v99 v104 σ102)) else (f_Model_acts_412 n y1 v99 v104 σ102)))))))
def f_Model_acts_219 (n : Nat) : Nat → Int32 → Int32 → Int32 → Int32 → Int32 → Int32 → St → Option (Unit × St)
  | 0, _, _, _, _, _, _, _ => none
  | j + 1, y1, y2, y3, y4, y5, y6, σ => if 4 ≤ y6 then (if y3 < 0 then (some ((), σ)) else (if y2 = 0 then (if y4 < y5 then (f_Model_acts_360 n y1 y3 σ) else (some ((), σ))) else (if y5 < y4 then (f_Model_acts_360 n y1 y3 σ) else (some ((), σ))))) else (gd (inb y1 8) (bd (f_Model_dx n y6 σ) (fun r65 σ66 => bnd ((σ.2.2 5 y1.toNatClampNeg) + r65) (fun v68 => gd (inb y1 8) (bd (f_Model_dy n y6 σ66) (fun r70 σ71 => bnd ((σ66.2.2 6 y1.toNatClampNeg) + r70) (fun v73 => bd (f_Model_isFloor n v68 v73 σ71) (fun r74 σ75 => if r74 = 0 then (bnd (y6 + 1) (fun v78 => f_Model_acts_219 n j y1 y2 y3 y4 y5 v78 σ75)) else (bd (f_Model_monsterAt n v68 v73 σ75) (fun r79 σ80 => if r79 < 0 then (gd (inb ((12 * v73) + v68) 120) (bnd (σ80.2.2 2 ((12 * v73) + v68).toNatClampNeg) (fun v84 => if y3 < 0 then (bnd (y6 + 1) (fun v86 => f_Model_acts_219 n j y1 y2 y6 v84 y5 v86 σ80)) else (if y2 = 0 then (if v84 < y4 then (bnd (y6 + 1) (fun v89 => f_Model_acts_219 n j y1 y2 y6 v84 y5 v89 σ80)) else (bnd (y6 + 1) (fun v90 => f_Model_acts_219 n j y1 y2 y3 y4 y5 v90 σ80))) else (if y4 < v84 then (bnd (y6 + 1) (fun v92 => f_Model_acts_219 n j y1 y2 y6 v84 y5 v92 σ80)) else (bnd (y6 + 1) (fun v93 => f_Model_acts_219 n j y1 y2 y3 y4 y5 v93 σ80))))))) else (bnd (y6 + 1) (fun v94 => f_Model_acts_219 n j y1 y2 y3 y4 y5 v94 σ80))))))))))))
theorem f_Model_acts_219_s (n : Nat) (j : Nat) (y1 : Int32) (y2 : Int32) (y3 : Int32) (y4 : Int32) (y5 : Int32) (y6 : Int32) (σ : St) : f_Model_acts_219 n (j + 1) y1 y2 y3 y4 y5 y6 σ = (if 4 ≤ y6 then (if y3 < 0 then (some ((), σ)) else (if y2 = 0 then (if y4 < y5 then (f_Model_acts_360 n y1 y3 σ) else (some ((), σ))) else (if y5 < y4 then (f_Model_acts_360 n y1 y3 σ) else (some ((), σ))))) else (gd (inb y1 8) (bd (f_Model_dx n y6 σ) (fun r65 σ66 => bnd ((σ.2.2 5 y1.toNatClampNeg) + r65) (fun v68 => gd (inb y1 8) (bd (f_Model_dy n y6 σ66) (fun r70 σ71 => bnd ((σ66.2.2 6 y1.toNatClampNeg) + r70) (fun v73 => bd (f_Model_isFloor n v68 v73 σ71) (fun r74 σ75 => if r74 = 0 then (bnd (y6 + 1) (fun v78 => f_Model_acts_219 n j y1 y2 y3 y4 y5 v78 σ75)) else (bd (f_Model_monsterAt n v68 v73 σ75) (fun r79 σ80 => if r79 < 0 then (gd (inb ((12 * v73) + v68) 120) (bnd (σ80.2.2 2 ((12 * v73) + v68).toNatClampNeg) (fun v84 => if y3 < 0 then (bnd (y6 + 1) (fun v86 => f_Model_acts_219 n j y1 y2 y6 v84 y5 v86 σ80)) else (if y2 = 0 then (if v84 < y4 then (bnd (y6 + 1) (fun v89 => f_Model_acts_219 n j y1 y2 y6 v84 y5 v89 σ80)) else (bnd (y6 + 1) (fun v90 => f_Model_acts_219 n j y1 y2 y3 y4 y5 v90 σ80))) else (if y4 < v84 then (bnd (y6 + 1) (fun v92 => f_Model_acts_219 n j y1 y2 y6 v84 y5 v92 σ80)) else (bnd (y6 + 1) (fun v93 => f_Model_acts_219 n j y1 y2 y3 y4 y5 v93 σ80))))))) else (bnd (y6 + 1) (fun v94 => f_Model_acts_219 n j y1 y2 y3 y4 y5 v94 σ80))))))))))))) := rfl
def f_Model_acts_187 (n : Nat) (y1 : Int32) (s0 : Int32) (σ : St) : Option (Unit × St) := gd (inb y1 8) (gd (inb y1 8) (gd (inb ((12 * (σ.2.2 6 y1.toNatClampNeg)) + (σ.2.2 5 y1.toNatClampNeg)) 120) (bnd (σ.2.2 2 ((12 * (σ.2.2 6 y1.toNatClampNeg)) + (σ.2.2 5 y1.toNatClampNeg)).toNatClampNeg) (fun v58 => f_Model_acts_219 n n y1 s0 (-1) 0 v58 0 σ))))
def f_Model_acts_186 (n : Nat) (y1 : Int32) (σ : St) : Option (Unit × St) := f_Model_acts_187 n y1 0 σ
def f_Model_acts (n : Nat) (x1 : Int32) (σ : St) : Option (Unit × St) := gd (inb x1 8) (if (σ.2.2 9 x1.toNatClampNeg) = 0 then (gd (inb x1 8) (gd (inb x1 8) (bd (f_Model_isNear n (σ.2.2 5 x1.toNatClampNeg) (σ.2.2 6 x1.toNatClampNeg) σ) (fun r32 σ33 => if r32 = 0 then (some ((), σ33)) else (gd (inb x1 8) (gd (inb x1 8) (bd (f_Model_isClear n (σ33.2.2 5 x1.toNatClampNeg) (σ33.2.2 6 x1.toNatClampNeg) (σ33.1 2) (σ33.1 3) σ33) (fun r38 σ39 => if r38 = 0 then (some ((), σ39)) else (gd (inb x1 8) (bnd (sA σ39 9 x1.toNatClampNeg 1) (fun σ43 => some ((), σ43)))))))))))) else (gd (inb x1 8) (if (σ.2.2 4 x1.toNatClampNeg) = 2 then (bd (f_Model_draw n 4 σ) (fun r12 σ13 => gd (inb x1 8) (bd (f_Model_dx n r12 σ13) (fun r16 σ17 => bnd ((σ13.2.2 5 x1.toNatClampNeg) + r16) (fun v19 => gd (inb x1 8) (bd (f_Model_dy n r12 σ17) (fun r21 σ22 => bnd ((σ17.2.2 6 x1.toNatClampNeg) + r21) (fun v24 => if v19 = (σ22.1 2) then (if v24 = (σ22.1 3) then (bd (f_Model_wound n x1 σ22) (fun _ σ28 => some ((), σ28))) else (f_Model_acts_129 n x1 v19 v24 σ22)) else (f_Model_acts_129 n x1 v19 v24 σ22))))))))) else (bd (f_Model_measure n σ) (fun _ σ6 => gd (inb x1 8) (if (σ6.2.2 4 x1.toNatClampNeg) = 1 then (gd (inb x1 8) (if 3 ≤ (σ6.2.2 7 x1.toNatClampNeg) then (f_Model_acts_186 n x1 σ6) else (f_Model_acts_187 n x1 1 σ6))) else (f_Model_acts_186 n x1 σ6)))))))
set_option maxHeartbeats 4000000 in
set_option maxRecDepth 100000 in
theorem c_Model_acts (l : Launch) (D : va_G) (ad : Nat → Nat) (cA : Nat → ClassId) (tz : Nat → Nat) (n : Nat) (x1 : Int32) (σ : St) (r : Unit) (σr : St) (hf : f_Model_acts n x1 σ = some (r, σr)) : Kv l D cA tz (wm ad cA) y_Model_acts (.code y_Model_acts b_Model_acts 10 none :: TB) ({ frames := 3, cells := 0, slots := 0, locals := 74 }) [.ref (ad 0), .int x1] σ σr := by
  refine x_openv (r := r) (own := R_Model) rfl (by decide) (fun p e s m args below meth c A Q X hml hZ hA H locs ls h hl rt => ?_)
  have hx := X.1
  have hb := X.2.1
  have hl : lv_has ls 10 [(0, .ref (ad 0)), (1, .int x1)] := hl
  have L129 : ∀ (y1 : Int32) (y3 : Int32) (y4 : Int32) (σ : St), f_Model_acts_129 n y1 y3 y4 σ = some (r, σr) → ∀ (H : Heap) (locs : List Loc) (ls : Array Slot), WD D A s (wm ad cA σ) H locs → lv_has ls 10 [(0, .ref (ad 0)), (1, .int y1), (3, .int y3), (4, .int y4)] → W p l e ({ frames := 3, cells := 0, slots := 0, locals := 74 }) s m args below meth c H locs 0 0 Q (F0 m 129 ls []) := by
    intro y1 y3 y4 σ hf H locs ls h hl
    unfold f_Model_acts_129 at hf
    refine lv_aload_n hx hb d_Model_acts_129 rfl (lv_at hl 0 rfl) ?_
    refine lv_iload_n hx hb d_Model_acts_130 rfl (lv_at hl 2 rfl) ?_
    refine lv_iload hx hb d_Model_acts_131 (lv_at hl 3 rfl) ?_
    obtain ⟨r44, σ45, h46, hf⟩ := bd_s hf
    refine x_Vi (As := [.int y3, .int y4]) (rest := []) X hml hl.1 hZ hA h (c_Model_isFloor l D ad cA tz n y3 y4 σ r44 σ45 h46) k_Model_isFloor m_m_Model_155 kd_Model_isFloor ⟨rfl, rfl, Nat.le_of_ble_eq_true rfl, Nat.le_of_ble_eq_true rfl⟩ 0 rfl rfl rfl rfl rfl (Nat.le_of_ble_eq_true rfl) d_Model_acts_133 (fun H locs h => ?_)
    refine lv_if_eq (tgt := 157) hx hb d_Model_acts_136 (by decide) (fun c47 => ?_) (fun c47 => ?_)
    · have hf := it c47 hf
      exact rt _ H locs 157 ls hf h d_Model_acts_157
    · have hf := ie c47 hf
      refine lv_aload_n hx hb d_Model_acts_139 rfl (lv_at hl 0 rfl) ?_
      refine lv_iload_n hx hb d_Model_acts_140 rfl (lv_at hl 2 rfl) ?_
      refine lv_iload hx hb d_Model_acts_141 (lv_at hl 3 rfl) ?_
      obtain ⟨r48, σ49, h50, hf⟩ := bd_s hf
      refine x_Vi (As := [.int y3, .int y4]) (rest := []) X hml hl.1 hZ hA h (c_Model_monsterAt l D ad cA tz n y3 y4 σ45 r48 σ49 h50) k_Model_monsterAt m_m_Model_141 kd_Model_monsterAt ⟨rfl, rfl, Nat.le_of_ble_eq_true rfl, Nat.le_of_ble_eq_true rfl⟩ 0 rfl rfl rfl rfl rfl (Nat.le_of_ble_eq_true rfl) d_Model_acts_143 (fun H locs h => ?_)
      refine lv_if_ge (tgt := 157) hx hb d_Model_acts_146 (by decide) (fun c51 => ?_) (fun c51 => ?_)
      · have hf := it c51 hf
        exact rt _ H locs 157 ls hf h d_Model_acts_157
      · have hf := ie c51 hf
        refine lv_aload_n hx hb d_Model_acts_149 rfl (lv_at hl 0 rfl) ?_
        refine lv_iload_n hx hb d_Model_acts_150 rfl (lv_at hl 1 rfl) ?_
        refine lv_iload_n hx hb d_Model_acts_151 rfl (lv_at hl 2 rfl) ?_
        refine lv_iload hx hb d_Model_acts_152 (lv_at hl 3 rfl) ?_
        obtain ⟨r52, σ53, h54, hf⟩ := bd_s hf
        refine x_Vv (As := [.int y1, .int y3, .int y4]) (rest := []) X hml hl.1 hZ hA h (c_Model_put l D ad cA tz n y1 y3 y4 σ49 r52 σ53 h54) k_Model_put m_m_Model_181 kd_Model_put ⟨rfl, rfl, Nat.le_of_ble_eq_true rfl, Nat.le_of_ble_eq_true rfl⟩ 0 rfl rfl rfl rfl rfl (Nat.le_of_ble_eq_true rfl) d_Model_acts_154 (fun H locs h => ?_)
        exact rt _ H locs 157 ls hf h d_Model_acts_157
  have L412 : ∀ (y1 : Int32) (y6 : Int32) (y7 : Int32) (σ : St), f_Model_acts_412 n y1 y6 y7 σ = some (r, σr) → ∀ (H : Heap) (locs : List Loc) (ls : Array Slot), WD D A s (wm ad cA σ) H locs → lv_has ls 10 [(0, .ref (ad 0)), (1, .int y1), (6, .int y6), (7, .int y7)] → W p l e ({ frames := 3, cells := 0, slots := 0, locals := 74 }) s m args below meth c H locs 0 0 Q (F0 m 412 ls []) := by
    intro y1 y6 y7 σ hf H locs ls h hl
    unfold f_Model_acts_412 at hf
    refine lv_aload_n hx hb d_Model_acts_412 rfl (lv_at hl 0 rfl) ?_
    refine lv_iload_n hx hb d_Model_acts_413 rfl (lv_at hl 1 rfl) ?_
    refine lv_iload hx hb d_Model_acts_414 (lv_at hl 2 rfl) ?_
    refine lv_iload hx hb d_Model_acts_416 (lv_at hl 3 rfl) ?_
    obtain ⟨r110, σ111, h112, hf⟩ := bd_s hf
    refine x_Vv (As := [.int y1, .int y6, .int y7]) (rest := []) X hml hl.1 hZ hA h (c_Model_put l D ad cA tz n y1 y6 y7 σ r110 σ111 h112) k_Model_put m_m_Model_181 kd_Model_put ⟨rfl, rfl, Nat.le_of_ble_eq_true rfl, Nat.le_of_ble_eq_true rfl⟩ 0 rfl rfl rfl rfl rfl (Nat.le_of_ble_eq_true rfl) d_Model_acts_418 (fun H locs h => ?_)
    exact rt _ H locs 421 ls hf h d_Model_acts_421
  have L360 : ∀ (y1 : Int32) (y3 : Int32) (σ : St), f_Model_acts_360 n y1 y3 σ = some (r, σr) → ∀ (H : Heap) (locs : List Loc) (ls : Array Slot), WD D A s (wm ad cA σ) H locs → lv_has ls 10 [(0, .ref (ad 0)), (1, .int y1), (3, .int y3)] → W p l e ({ frames := 3, cells := 0, slots := 0, locals := 74 }) s m args below meth c H locs 0 0 Q (F0 m 360 ls []) := by
    intro y1 y3 σ hf H locs ls h hl
    unfold f_Model_acts_360 at hf
    refine lv_aload_n hx hb d_Model_acts_360 rfl (lv_at hl 0 rfl) ?_
    refine G_model_mx X h m_f_Model_26 d_Model_acts_361 ?_
    refine lv_iload_n hx hb d_Model_acts_364 rfl (lv_at hl 1 rfl) ?_
    obtain ⟨g95, hf⟩ := gd_s hf
    refine R_mmx X h (inb_s g95) d_Model_acts_365 ?_
    refine lv_iload_n hx hb d_Model_acts_366 rfl (lv_at hl 2 rfl) ?_
    obtain ⟨r96, σ97, h98, hf⟩ := bd_s hf
    refine x_Si (As := [.int y3]) (rest := [.int (σ.2.2 5 y1.toNatClampNeg)]) X hml hl.1 hZ hA h (c_Model_dx l D ad cA tz n y3 σ r96 σ97 h98) k_Model_dx m_m_Model_169 kd_Model_dx ⟨rfl, rfl, Nat.le_of_ble_eq_true rfl, Nat.le_of_ble_eq_true rfl⟩ rfl rfl (Nat.le_of_ble_eq_true rfl) d_Model_acts_367 (fun H locs h => ?_)
    refine lv_iadd hx hb d_Model_acts_370 ?_
    refine lv_topi (fun v99 ev99 => ?_)
    have hf := nm_b hf ev99
    refine lv_istore (lv' := [(6, .int v99), (0, .ref (ad 0)), (1, .int y1), (3, .int y3)]) hx hb d_Model_acts_371 hl (by decide) rfl (fun ls hl => ?_)
    refine lv_aload_n hx hb d_Model_acts_373 rfl (lv_at hl 1 rfl) ?_
    refine G_model_my X h m_f_Model_29 d_Model_acts_374 ?_
    refine lv_iload_n hx hb d_Model_acts_377 rfl (lv_at hl 2 rfl) ?_
    obtain ⟨g100, hf⟩ := gd_s hf
    refine R_mmy X h (inb_s g100) d_Model_acts_378 ?_
    refine lv_iload_n hx hb d_Model_acts_379 rfl (lv_at hl 3 rfl) ?_
    obtain ⟨r101, σ102, h103, hf⟩ := bd_s hf
    refine x_Si (As := [.int y3]) (rest := [.int (σ97.2.2 6 y1.toNatClampNeg)]) X hml hl.1 hZ hA h (c_Model_dy l D ad cA tz n y3 σ97 r101 σ102 h103) k_Model_dy m_m_Model_172 kd_Model_dy ⟨rfl, rfl, Nat.le_of_ble_eq_true rfl, Nat.le_of_ble_eq_true rfl⟩ rfl rfl (Nat.le_of_ble_eq_true rfl) d_Model_acts_380 (fun H locs h => ?_)
    refine lv_iadd hx hb d_Model_acts_383 ?_
    refine lv_topi (fun v104 ev104 => ?_)
    have hf := nm_b hf ev104
    refine lv_istore (lv' := [(7, .int v104), (6, .int v99), (0, .ref (ad 0)), (1, .int y1), (3, .int y3)]) hx hb d_Model_acts_384 hl (by decide) rfl (fun ls hl => ?_)
    refine lv_iload hx hb d_Model_acts_386 (lv_at hl 1 rfl) ?_
    refine lv_aload_n hx hb d_Model_acts_388 rfl (lv_at hl 2 rfl) ?_
    refine G_model_px X h m_f_Model_129 d_Model_acts_389 ?_
    refine lv_icmp_ne (tgt := 412) hx hb d_Model_acts_392 (by decide) (fun c105 => ?_) (fun c105 => ?_)
    · have hf := ie c105 hf
      exact L412 y1 v99 v104 σ102 hf H locs ls h (lv_sub hl [2, 3, 1, 0] rfl)
    · have hf := it c105 hf
      refine lv_iload hx hb d_Model_acts_395 (lv_at hl 0 rfl) ?_
      refine lv_aload_n hx hb d_Model_acts_397 rfl (lv_at hl 2 rfl) ?_
      refine G_model_py X h m_f_Model_132 d_Model_acts_398 ?_
      refine lv_icmp_ne (tgt := 412) hx hb d_Model_acts_401 (by decide) (fun c106 => ?_) (fun c106 => ?_)
      · have hf := ie c106 hf
        exact L412 y1 v99 v104 σ102 hf H locs ls h (lv_sub hl [2, 3, 1, 0] rfl)
      · have hf := it c106 hf
        refine lv_aload_n hx hb d_Model_acts_404 rfl (lv_at hl 2 rfl) ?_
        refine lv_iload_n hx hb d_Model_acts_405 rfl (lv_at hl 3 rfl) ?_
        obtain ⟨r107, σ108, h109, hf⟩ := bd_s hf
        refine x_Vv (As := [.int y1]) (rest := []) X hml hl.1 hZ hA h (c_Model_wound l D ad cA tz n y1 σ102 r107 σ108 h109) k_Model_wound m_m_Model_178 kd_Model_wound ⟨rfl, rfl, Nat.le_of_ble_eq_true rfl, Nat.le_of_ble_eq_true rfl⟩ 0 rfl rfl rfl rfl rfl (Nat.le_of_ble_eq_true rfl) d_Model_acts_406 (fun H locs h => ?_)
        refine lv_goto (tgt := 421) hx hb d_Model_acts_409 (by decide) ?_
        exact rt _ H locs 421 ls hf h d_Model_acts_421
  have L219 : ∀ j : Nat, ∀ (y1 : Int32) (y2 : Int32) (y3 : Int32) (y4 : Int32) (y5 : Int32) (y6 : Int32) (σ : St), f_Model_acts_219 n j y1 y2 y3 y4 y5 y6 σ = some (r, σr) → ∀ (H : Heap) (locs : List Loc) (ls : Array Slot), WD D A s (wm ad cA σ) H locs → lv_has ls 10 [(0, .ref (ad 0)), (1, .int y1), (2, .int y2), (3, .int y3), (4, .int y4), (5, .int y5), (6, .int y6)] → W p l e ({ frames := 3, cells := 0, slots := 0, locals := 74 }) s m args below meth c H locs 0 0 Q (F0 m 219 ls []) := by
    intro j
    induction j with
    | zero => intro y1 y2 y3 y4 y5 y6 σ hf; exact absurd hf (fun z => by cases z)
    | succ j ih =>
      intro y1 y2 y3 y4 y5 y6 σ hf H locs ls h hl
      have hf := us (f_Model_acts_219_s n j y1 y2 y3 y4 y5 y6 σ) hf
      refine lv_iload hx hb d_Model_acts_219 (lv_at hl 6 rfl) ?_
      refine lv_iconst (v := 4) hx hb d_Model_acts_221 (by decide) ?_
      refine lv_icmp_ge (tgt := 334) hx hb d_Model_acts_222 (by decide) (fun c59 => ?_) (fun c59 => ?_)
      · have hf := it c59 hf
        refine lv_iload_n hx hb d_Model_acts_334 rfl (lv_at hl 3 rfl) ?_
        refine lv_if_lt (tgt := 359) hx hb d_Model_acts_335 (by decide) (fun c60 => ?_) (fun c60 => ?_)
        · have hf := it c60 hf
          exact rt _ H locs 359 ls hf h d_Model_acts_359
        · have hf := ie c60 hf
          refine lv_iload_n hx hb d_Model_acts_338 rfl (lv_at hl 2 rfl) ?_
          refine lv_if_eq (tgt := 352) hx hb d_Model_acts_339 (by decide) (fun c61 => ?_) (fun c61 => ?_)
          · have hf := it c61 hf
            refine lv_iload hx hb d_Model_acts_352 (lv_at hl 4 rfl) ?_
            refine lv_iload hx hb d_Model_acts_354 (lv_at hl 5 rfl) ?_
            refine lv_icmp_lt (tgt := 360) hx hb d_Model_acts_356 (by decide) (fun c62 => ?_) (fun c62 => ?_)
            · have hf := it c62 hf
              exact L360 y1 y3 σ hf H locs ls h (lv_sub hl [0, 1, 3] rfl)
            · have hf := ie c62 hf
              exact rt _ H locs 359 ls hf h d_Model_acts_359
          · have hf := ie c61 hf
            refine lv_iload hx hb d_Model_acts_342 (lv_at hl 4 rfl) ?_
            refine lv_iload hx hb d_Model_acts_344 (lv_at hl 5 rfl) ?_
            refine lv_icmp_gt (tgt := 360) hx hb d_Model_acts_346 (by decide) (fun c63 => ?_) (fun c63 => ?_)
            · have hf := it c63 hf
              exact L360 y1 y3 σ hf H locs ls h (lv_sub hl [0, 1, 3] rfl)
            · have hf := ie c63 hf
              refine lv_goto (tgt := 359) hx hb d_Model_acts_349 (by decide) ?_
              exact rt _ H locs 359 ls hf h d_Model_acts_359
      · have hf := ie c59 hf
        refine lv_aload_n hx hb d_Model_acts_225 rfl (lv_at hl 0 rfl) ?_
        refine G_model_mx X h m_f_Model_26 d_Model_acts_226 ?_
        refine lv_iload_n hx hb d_Model_acts_229 rfl (lv_at hl 1 rfl) ?_
        obtain ⟨g64, hf⟩ := gd_s hf
        refine R_mmx X h (inb_s g64) d_Model_acts_230 ?_
        refine lv_iload hx hb d_Model_acts_231 (lv_at hl 6 rfl) ?_
        obtain ⟨r65, σ66, h67, hf⟩ := bd_s hf
        refine x_Si (As := [.int y6]) (rest := [.int (σ.2.2 5 y1.toNatClampNeg)]) X hml hl.1 hZ hA h (c_Model_dx l D ad cA tz n y6 σ r65 σ66 h67) k_Model_dx m_m_Model_169 kd_Model_dx ⟨rfl, rfl, Nat.le_of_ble_eq_true rfl, Nat.le_of_ble_eq_true rfl⟩ rfl rfl (Nat.le_of_ble_eq_true rfl) d_Model_acts_233 (fun H locs h => ?_)
        refine lv_iadd hx hb d_Model_acts_236 ?_
        refine lv_topi (fun v68 ev68 => ?_)
        have hf := nm_b hf ev68
        refine lv_istore (lv' := [(7, .int v68), (0, .ref (ad 0)), (1, .int y1), (2, .int y2), (3, .int y3), (4, .int y4), (5, .int y5), (6, .int y6)]) hx hb d_Model_acts_237 hl (by decide) rfl (fun ls hl => ?_)
        refine lv_aload_n hx hb d_Model_acts_239 rfl (lv_at hl 1 rfl) ?_
        refine G_model_my X h m_f_Model_29 d_Model_acts_240 ?_
        refine lv_iload_n hx hb d_Model_acts_243 rfl (lv_at hl 2 rfl) ?_
        obtain ⟨g69, hf⟩ := gd_s hf
        refine R_mmy X h (inb_s g69) d_Model_acts_244 ?_
        refine lv_iload hx hb d_Model_acts_245 (lv_at hl 7 rfl) ?_
        obtain ⟨r70, σ71, h72, hf⟩ := bd_s hf
        refine x_Si (As := [.int y6]) (rest := [.int (σ66.2.2 6 y1.toNatClampNeg)]) X hml hl.1 hZ hA h (c_Model_dy l D ad cA tz n y6 σ66 r70 σ71 h72) k_Model_dy m_m_Model_172 kd_Model_dy ⟨rfl, rfl, Nat.le_of_ble_eq_true rfl, Nat.le_of_ble_eq_true rfl⟩ rfl rfl (Nat.le_of_ble_eq_true rfl) d_Model_acts_247 (fun H locs h => ?_)
        refine lv_iadd hx hb d_Model_acts_250 ?_
        refine lv_topi (fun v73 ev73 => ?_)
        have hf := nm_b hf ev73
        refine lv_istore (lv' := [(8, .int v73), (7, .int v68), (0, .ref (ad 0)), (1, .int y1), (2, .int y2), (3, .int y3), (4, .int y4), (5, .int y5), (6, .int y6)]) hx hb d_Model_acts_251 hl (by decide) rfl (fun ls hl => ?_)
        refine lv_aload_n hx hb d_Model_acts_253 rfl (lv_at hl 2 rfl) ?_
        refine lv_iload hx hb d_Model_acts_254 (lv_at hl 1 rfl) ?_
        refine lv_iload hx hb d_Model_acts_256 (lv_at hl 0 rfl) ?_
        obtain ⟨r74, σ75, h76, hf⟩ := bd_s hf
        refine x_Vi (As := [.int v68, .int v73]) (rest := []) X hml hl.1 hZ hA h (c_Model_isFloor l D ad cA tz n v68 v73 σ71 r74 σ75 h76) k_Model_isFloor m_m_Model_155 kd_Model_isFloor ⟨rfl, rfl, Nat.le_of_ble_eq_true rfl, Nat.le_of_ble_eq_true rfl⟩ 0 rfl rfl rfl rfl rfl (Nat.le_of_ble_eq_true rfl) d_Model_acts_258 (fun H locs h => ?_)
        refine lv_if_eq (tgt := 328) hx hb d_Model_acts_261 (by decide) (fun c77 => ?_) (fun c77 => ?_)
        · have hf := it c77 hf
          obtain ⟨v78, ev78⟩ : ∃ y : Int32, y = y6 + 1 := ⟨_, rfl⟩
          have hf := nm_b hf ev78
          refine lv_iinc (v := v78) (lv' := [(6, .int v78), (8, .int v73), (7, .int v68), (0, .ref (ad 0)), (1, .int y1), (2, .int y2), (3, .int y3), (4, .int y4), (5, .int y5)]) hx hb d_Model_acts_328 hl (k := 8) rfl (by rw [ev78]; rfl) (by decide) rfl (fun ls hl => ?_)
          refine lv_goto (tgt := 219) hx hb d_Model_acts_331 (by decide) ?_
          exact ih y1 y2 y3 y4 y5 v78 σ75 hf H locs ls h (lv_sub hl [3, 4, 5, 6, 7, 8, 0] rfl)
        · have hf := ie c77 hf
          refine lv_aload_n hx hb d_Model_acts_264 rfl (lv_at hl 2 rfl) ?_
          refine lv_iload hx hb d_Model_acts_265 (lv_at hl 1 rfl) ?_
          refine lv_iload hx hb d_Model_acts_267 (lv_at hl 0 rfl) ?_
          obtain ⟨r79, σ80, h81, hf⟩ := bd_s hf
          refine x_Vi (As := [.int v68, .int v73]) (rest := []) X hml hl.1 hZ hA h (c_Model_monsterAt l D ad cA tz n v68 v73 σ75 r79 σ80 h81) k_Model_monsterAt m_m_Model_141 kd_Model_monsterAt ⟨rfl, rfl, Nat.le_of_ble_eq_true rfl, Nat.le_of_ble_eq_true rfl⟩ 0 rfl rfl rfl rfl rfl (Nat.le_of_ble_eq_true rfl) d_Model_acts_269 (fun H locs h => ?_)
          refine lv_if_lt (tgt := 278) hx hb d_Model_acts_272 (by decide) (fun c82 => ?_) (fun c82 => ?_)
          · have hf := it c82 hf
            refine lv_aload_n hx hb d_Model_acts_278 rfl (lv_at hl 2 rfl) ?_
            refine G_model_distance X h m_f_Model_16 d_Model_acts_279 ?_
            refine lv_bipush (v := 12) hx hb d_Model_acts_282 (by decide) ?_
            refine lv_iload hx hb d_Model_acts_284 (lv_at hl 0 rfl) ?_
            refine lv_imul hx hb d_Model_acts_286 ?_
            refine lv_iload hx hb d_Model_acts_287 (lv_at hl 1 rfl) ?_
            refine lv_iadd hx hb d_Model_acts_289 ?_
            obtain ⟨g83, hf⟩ := gd_s hf
            refine R_mdistance X h (inb_s g83) d_Model_acts_290 ?_
            refine lv_topi (fun v84 ev84 => ?_)
            have hf := nm_b hf ev84
            refine lv_istore (lv' := [(9, .int v84), (8, .int v73), (7, .int v68), (0, .ref (ad 0)), (1, .int y1), (2, .int y2), (3, .int y3), (4, .int y4), (5, .int y5), (6, .int y6)]) hx hb d_Model_acts_291 hl (by decide) rfl (fun ls hl => ?_)
            refine lv_iload_n hx hb d_Model_acts_293 rfl (lv_at hl 6 rfl) ?_
            refine lv_if_lt (tgt := 321) hx hb d_Model_acts_294 (by decide) (fun c85 => ?_) (fun c85 => ?_)
            · have hf := it c85 hf
              refine lv_iload hx hb d_Model_acts_321 (lv_at hl 9 rfl) ?_
              refine lv_istore_n (lv' := [(3, .int y6), (9, .int v84), (8, .int v73), (7, .int v68), (0, .ref (ad 0)), (1, .int y1), (2, .int y2), (4, .int y4), (5, .int y5), (6, .int y6)]) hx hb d_Model_acts_323 rfl hl (by decide) rfl (fun ls hl => ?_)
              refine lv_iload hx hb d_Model_acts_324 (lv_at hl 1 rfl) ?_
              refine lv_istore (lv' := [(4, .int v84), (3, .int y6), (9, .int v84), (8, .int v73), (7, .int v68), (0, .ref (ad 0)), (1, .int y1), (2, .int y2), (5, .int y5), (6, .int y6)]) hx hb d_Model_acts_326 hl (by decide) rfl (fun ls hl => ?_)
              obtain ⟨v86, ev86⟩ : ∃ y : Int32, y = y6 + 1 := ⟨_, rfl⟩
              have hf := nm_b hf ev86
              refine lv_iinc (v := v86) (lv' := [(6, .int v86), (4, .int v84), (3, .int y6), (9, .int v84), (8, .int v73), (7, .int v68), (0, .ref (ad 0)), (1, .int y1), (2, .int y2), (5, .int y5)]) hx hb d_Model_acts_328 hl (k := 9) rfl (by rw [ev86]; rfl) (by decide) rfl (fun ls hl => ?_)
              refine lv_goto (tgt := 219) hx hb d_Model_acts_331 (by decide) ?_
              exact ih y1 y2 y6 v84 y5 v86 σ80 hf H locs ls h (lv_sub hl [6, 7, 8, 2, 1, 9, 0] rfl)
            · have hf := ie c85 hf
              refine lv_iload_n hx hb d_Model_acts_297 rfl (lv_at hl 5 rfl) ?_
              refine lv_if_eq (tgt := 311) hx hb d_Model_acts_298 (by decide) (fun c87 => ?_) (fun c87 => ?_)
              · have hf := it c87 hf
                refine lv_iload hx hb d_Model_acts_311 (lv_at hl 0 rfl) ?_
                refine lv_iload hx hb d_Model_acts_313 (lv_at hl 7 rfl) ?_
                refine lv_icmp_lt (tgt := 321) hx hb d_Model_acts_315 (by decide) (fun c88 => ?_) (fun c88 => ?_)
                · have hf := it c88 hf
                  refine lv_iload hx hb d_Model_acts_321 (lv_at hl 9 rfl) ?_
                  refine lv_istore_n (lv' := [(3, .int y6), (9, .int v84), (8, .int v73), (7, .int v68), (0, .ref (ad 0)), (1, .int y1), (2, .int y2), (4, .int y4), (5, .int y5), (6, .int y6)]) hx hb d_Model_acts_323 rfl hl (by decide) rfl (fun ls hl => ?_)
                  refine lv_iload hx hb d_Model_acts_324 (lv_at hl 1 rfl) ?_
                  refine lv_istore (lv' := [(4, .int v84), (3, .int y6), (9, .int v84), (8, .int v73), (7, .int v68), (0, .ref (ad 0)), (1, .int y1), (2, .int y2), (5, .int y5), (6, .int y6)]) hx hb d_Model_acts_326 hl (by decide) rfl (fun ls hl => ?_)
                  obtain ⟨v89, ev89⟩ : ∃ y : Int32, y = y6 + 1 := ⟨_, rfl⟩
                  have hf := nm_b hf ev89
                  refine lv_iinc (v := v89) (lv' := [(6, .int v89), (4, .int v84), (3, .int y6), (9, .int v84), (8, .int v73), (7, .int v68), (0, .ref (ad 0)), (1, .int y1), (2, .int y2), (5, .int y5)]) hx hb d_Model_acts_328 hl (k := 9) rfl (by rw [ev89]; rfl) (by decide) rfl (fun ls hl => ?_)
                  refine lv_goto (tgt := 219) hx hb d_Model_acts_331 (by decide) ?_
                  exact ih y1 y2 y6 v84 y5 v89 σ80 hf H locs ls h (lv_sub hl [6, 7, 8, 2, 1, 9, 0] rfl)
                · have hf := ie c88 hf
                  refine lv_goto (tgt := 328) hx hb d_Model_acts_318 (by decide) ?_
                  obtain ⟨v90, ev90⟩ : ∃ y : Int32, y = y6 + 1 := ⟨_, rfl⟩
                  have hf := nm_b hf ev90
                  refine lv_iinc (v := v90) (lv' := [(6, .int v90), (9, .int v84), (8, .int v73), (7, .int v68), (0, .ref (ad 0)), (1, .int y1), (2, .int y2), (3, .int y3), (4, .int y4), (5, .int y5)]) hx hb d_Model_acts_328 hl (k := 9) rfl (by rw [ev90]; rfl) (by decide) rfl (fun ls hl => ?_)
                  refine lv_goto (tgt := 219) hx hb d_Model_acts_331 (by decide) ?_
                  exact ih y1 y2 y3 y4 y5 v90 σ80 hf H locs ls h (lv_sub hl [4, 5, 6, 7, 8, 9, 0] rfl)
              · have hf := ie c87 hf
                refine lv_iload hx hb d_Model_acts_301 (lv_at hl 0 rfl) ?_
                refine lv_iload hx hb d_Model_acts_303 (lv_at hl 7 rfl) ?_
                refine lv_icmp_gt (tgt := 321) hx hb d_Model_acts_305 (by decide) (fun c91 => ?_) (fun c91 => ?_)
                · have hf := it c91 hf
                  refine lv_iload hx hb d_Model_acts_321 (lv_at hl 9 rfl) ?_
                  refine lv_istore_n (lv' := [(3, .int y6), (9, .int v84), (8, .int v73), (7, .int v68), (0, .ref (ad 0)), (1, .int y1), (2, .int y2), (4, .int y4), (5, .int y5), (6, .int y6)]) hx hb d_Model_acts_323 rfl hl (by decide) rfl (fun ls hl => ?_)
                  refine lv_iload hx hb d_Model_acts_324 (lv_at hl 1 rfl) ?_
                  refine lv_istore (lv' := [(4, .int v84), (3, .int y6), (9, .int v84), (8, .int v73), (7, .int v68), (0, .ref (ad 0)), (1, .int y1), (2, .int y2), (5, .int y5), (6, .int y6)]) hx hb d_Model_acts_326 hl (by decide) rfl (fun ls hl => ?_)
                  obtain ⟨v92, ev92⟩ : ∃ y : Int32, y = y6 + 1 := ⟨_, rfl⟩
                  have hf := nm_b hf ev92
                  refine lv_iinc (v := v92) (lv' := [(6, .int v92), (4, .int v84), (3, .int y6), (9, .int v84), (8, .int v73), (7, .int v68), (0, .ref (ad 0)), (1, .int y1), (2, .int y2), (5, .int y5)]) hx hb d_Model_acts_328 hl (k := 9) rfl (by rw [ev92]; rfl) (by decide) rfl (fun ls hl => ?_)
                  refine lv_goto (tgt := 219) hx hb d_Model_acts_331 (by decide) ?_
                  exact ih y1 y2 y6 v84 y5 v92 σ80 hf H locs ls h (lv_sub hl [6, 7, 8, 2, 1, 9, 0] rfl)
                · have hf := ie c91 hf
                  refine lv_goto (tgt := 328) hx hb d_Model_acts_308 (by decide) ?_
                  obtain ⟨v93, ev93⟩ : ∃ y : Int32, y = y6 + 1 := ⟨_, rfl⟩
                  have hf := nm_b hf ev93
                  refine lv_iinc (v := v93) (lv' := [(6, .int v93), (9, .int v84), (8, .int v73), (7, .int v68), (0, .ref (ad 0)), (1, .int y1), (2, .int y2), (3, .int y3), (4, .int y4), (5, .int y5)]) hx hb d_Model_acts_328 hl (k := 9) rfl (by rw [ev93]; rfl) (by decide) rfl (fun ls hl => ?_)
                  refine lv_goto (tgt := 219) hx hb d_Model_acts_331 (by decide) ?_
                  exact ih y1 y2 y3 y4 y5 v93 σ80 hf H locs ls h (lv_sub hl [4, 5, 6, 7, 8, 9, 0] rfl)
          · have hf := ie c82 hf
            refine lv_goto (tgt := 328) hx hb d_Model_acts_275 (by decide) ?_
            obtain ⟨v94, ev94⟩ : ∃ y : Int32, y = y6 + 1 := ⟨_, rfl⟩
            have hf := nm_b hf ev94
            refine lv_iinc (v := v94) (lv' := [(6, .int v94), (8, .int v73), (7, .int v68), (0, .ref (ad 0)), (1, .int y1), (2, .int y2), (3, .int y3), (4, .int y4), (5, .int y5)]) hx hb d_Model_acts_328 hl (k := 8) rfl (by rw [ev94]; rfl) (by decide) rfl (fun ls hl => ?_)
            refine lv_goto (tgt := 219) hx hb d_Model_acts_331 (by decide) ?_
            exact ih y1 y2 y3 y4 y5 v94 σ80 hf H locs ls h (lv_sub hl [3, 4, 5, 6, 7, 8, 0] rfl)
  have L187 : ∀ (y1 : Int32) (s0 : Int32) (σ : St), f_Model_acts_187 n y1 s0 σ = some (r, σr) → ∀ (H : Heap) (locs : List Loc) (ls : Array Slot), WD D A s (wm ad cA σ) H locs → lv_has ls 10 [(0, .ref (ad 0)), (1, .int y1)] → W p l e ({ frames := 3, cells := 0, slots := 0, locals := 74 }) s m args below meth c H locs 0 0 Q (F0 m 187 ls [.int s0]) := by
    intro y1 s0 σ hf H locs ls h hl
    unfold f_Model_acts_187 at hf
    refine lv_istore_n (lv' := [(2, .int s0), (0, .ref (ad 0)), (1, .int y1)]) hx hb d_Model_acts_187 rfl hl (by decide) rfl (fun ls hl => ?_)
    refine lv_iconst (v := (-1)) hx hb d_Model_acts_188 (by decide) ?_
    refine lv_istore_n (lv' := [(3, .int (-1)), (2, .int s0), (0, .ref (ad 0)), (1, .int y1)]) hx hb d_Model_acts_189 rfl hl (by decide) rfl (fun ls hl => ?_)
    refine lv_iconst (v := 0) hx hb d_Model_acts_190 (by decide) ?_
    refine lv_istore (lv' := [(4, .int 0), (3, .int (-1)), (2, .int s0), (0, .ref (ad 0)), (1, .int y1)]) hx hb d_Model_acts_191 hl (by decide) rfl (fun ls hl => ?_)
    refine lv_aload_n hx hb d_Model_acts_193 rfl (lv_at hl 3 rfl) ?_
    refine G_model_distance X h m_f_Model_16 d_Model_acts_194 ?_
    refine lv_bipush (v := 12) hx hb d_Model_acts_197 (by decide) ?_
    refine lv_aload_n hx hb d_Model_acts_199 rfl (lv_at hl 3 rfl) ?_
    refine G_model_my X h m_f_Model_29 d_Model_acts_200 ?_
    refine lv_iload_n hx hb d_Model_acts_203 rfl (lv_at hl 4 rfl) ?_
    obtain ⟨g55, hf⟩ := gd_s hf
    refine R_mmy X h (inb_s g55) d_Model_acts_204 ?_
    refine lv_imul hx hb d_Model_acts_205 ?_
    refine lv_aload_n hx hb d_Model_acts_206 rfl (lv_at hl 3 rfl) ?_
    refine G_model_mx X h m_f_Model_26 d_Model_acts_207 ?_
    refine lv_iload_n hx hb d_Model_acts_210 rfl (lv_at hl 4 rfl) ?_
    obtain ⟨g56, hf⟩ := gd_s hf
    refine R_mmx X h (inb_s g56) d_Model_acts_211 ?_
    refine lv_iadd hx hb d_Model_acts_212 ?_
    obtain ⟨g57, hf⟩ := gd_s hf
    refine R_mdistance X h (inb_s g57) d_Model_acts_213 ?_
    refine lv_topi (fun v58 ev58 => ?_)
    have hf := nm_b hf ev58
    refine lv_istore (lv' := [(5, .int v58), (4, .int 0), (3, .int (-1)), (2, .int s0), (0, .ref (ad 0)), (1, .int y1)]) hx hb d_Model_acts_214 hl (by decide) rfl (fun ls hl => ?_)
    refine lv_iconst (v := 0) hx hb d_Model_acts_216 (by decide) ?_
    refine lv_istore (lv' := [(6, .int 0), (5, .int v58), (4, .int 0), (3, .int (-1)), (2, .int s0), (0, .ref (ad 0)), (1, .int y1)]) hx hb d_Model_acts_217 hl (by decide) rfl (fun ls hl => ?_)
    exact L219 n y1 s0 (-1) 0 v58 0 σ hf H locs ls h (lv_sub hl [5, 6, 4, 3, 2, 1, 0] rfl)
  have L186 : ∀ (y1 : Int32) (σ : St), f_Model_acts_186 n y1 σ = some (r, σr) → ∀ (H : Heap) (locs : List Loc) (ls : Array Slot), WD D A s (wm ad cA σ) H locs → lv_has ls 10 [(0, .ref (ad 0)), (1, .int y1)] → W p l e ({ frames := 3, cells := 0, slots := 0, locals := 74 }) s m args below meth c H locs 0 0 Q (F0 m 186 ls []) := by
    intro y1 σ hf H locs ls h hl
    unfold f_Model_acts_186 at hf
    refine lv_iconst (v := 0) hx hb d_Model_acts_186 (by decide) ?_
    exact L187 y1 0 σ hf H locs ls h (lv_sub hl [0, 1] rfl)
  unfold f_Model_acts at hf
  refine lv_aload_n hx hb d_Model_acts_0 rfl (lv_at hl 0 rfl) ?_
  refine G_model_awake X h m_f_Model_38 d_Model_acts_1 ?_
  refine lv_iload_n hx hb d_Model_acts_4 rfl (lv_at hl 1 rfl) ?_
  obtain ⟨g1, hf⟩ := gd_s hf
  refine R_mawake X h (inb_s g1) d_Model_acts_5 ?_
  refine lv_if_ne (tgt := 63) hx hb d_Model_acts_6 (by decide) (fun c2 => ?_) (fun c2 => ?_)
  · have hf := ie c2 hf
    refine lv_aload_n hx hb d_Model_acts_63 rfl (lv_at hl 0 rfl) ?_
    refine G_model_kind X h m_f_Model_23 d_Model_acts_64 ?_
    refine lv_iload_n hx hb d_Model_acts_67 rfl (lv_at hl 1 rfl) ?_
    obtain ⟨g3, hf⟩ := gd_s hf
    refine R_mkind X h (inb_s g3) d_Model_acts_68 ?_
    refine lv_iconst (v := 2) hx hb d_Model_acts_69 (by decide) ?_
    refine lv_icmp_ne (tgt := 158) hx hb d_Model_acts_70 (by decide) (fun c4 => ?_) (fun c4 => ?_)
    · have hf := ie c4 hf
      refine lv_aload_n hx hb d_Model_acts_158 rfl (lv_at hl 0 rfl) ?_
      obtain ⟨r5, σ6, h7, hf⟩ := bd_s hf
      refine x_Vv (As := []) (rest := []) X hml hl.1 hZ hA h (c_Model_measure l D ad cA tz n σ r5 σ6 h7) k_Model_measure m_m_Model_185 kd_Model_measure ⟨rfl, rfl, Nat.le_of_ble_eq_true rfl, Nat.le_of_ble_eq_true rfl⟩ 0 rfl rfl rfl rfl rfl (Nat.le_of_ble_eq_true rfl) d_Model_acts_159 (fun H locs h => ?_)
      refine lv_aload_n hx hb d_Model_acts_162 rfl (lv_at hl 0 rfl) ?_
      refine G_model_kind X h m_f_Model_23 d_Model_acts_163 ?_
      refine lv_iload_n hx hb d_Model_acts_166 rfl (lv_at hl 1 rfl) ?_
      obtain ⟨g8, hf⟩ := gd_s hf
      refine R_mkind X h (inb_s g8) d_Model_acts_167 ?_
      refine lv_iconst (v := 1) hx hb d_Model_acts_168 (by decide) ?_
      refine lv_icmp_ne (tgt := 186) hx hb d_Model_acts_169 (by decide) (fun c9 => ?_) (fun c9 => ?_)
      · have hf := ie c9 hf
        exact L186 x1 σ6 hf H locs ls h (lv_sub hl [0, 1] rfl)
      · have hf := it c9 hf
        refine lv_aload_n hx hb d_Model_acts_172 rfl (lv_at hl 0 rfl) ?_
        refine G_model_health X h m_f_Model_32 d_Model_acts_173 ?_
        refine lv_iload_n hx hb d_Model_acts_176 rfl (lv_at hl 1 rfl) ?_
        obtain ⟨g10, hf⟩ := gd_s hf
        refine R_mhealth X h (inb_s g10) d_Model_acts_177 ?_
        refine lv_iconst (v := 3) hx hb d_Model_acts_178 (by decide) ?_
        refine lv_icmp_ge (tgt := 186) hx hb d_Model_acts_179 (by decide) (fun c11 => ?_) (fun c11 => ?_)
        · have hf := it c11 hf
          exact L186 x1 σ6 hf H locs ls h (lv_sub hl [0, 1] rfl)
        · have hf := ie c11 hf
          refine lv_iconst (v := 1) hx hb d_Model_acts_182 (by decide) ?_
          refine lv_goto (tgt := 187) hx hb d_Model_acts_183 (by decide) ?_
          exact L187 x1 1 σ6 hf H locs ls h (lv_sub hl [0, 1] rfl)
    · have hf := it c4 hf
      refine lv_aload_n hx hb d_Model_acts_73 rfl (lv_at hl 0 rfl) ?_
      refine lv_iconst (v := 4) hx hb d_Model_acts_74 (by decide) ?_
      obtain ⟨r12, σ13, h14, hf⟩ := bd_s hf
      refine x_Vi (As := [.int 4]) (rest := []) X hml hl.1 hZ hA h (c_Model_draw l D ad cA tz n 4 σ r12 σ13 h14) k_Model_draw m_m_Model_175 kd_Model_draw ⟨rfl, rfl, Nat.le_of_ble_eq_true rfl, Nat.le_of_ble_eq_true rfl⟩ 0 rfl rfl rfl rfl rfl (Nat.le_of_ble_eq_true rfl) d_Model_acts_75 (fun H locs h => ?_)
      refine lv_istore_n (lv' := [(2, .int r12), (0, .ref (ad 0)), (1, .int x1)]) hx hb d_Model_acts_78 rfl hl (by decide) rfl (fun ls hl => ?_)
      refine lv_aload_n hx hb d_Model_acts_79 rfl (lv_at hl 1 rfl) ?_
      refine G_model_mx X h m_f_Model_26 d_Model_acts_80 ?_
      refine lv_iload_n hx hb d_Model_acts_83 rfl (lv_at hl 2 rfl) ?_
      obtain ⟨g15, hf⟩ := gd_s hf
      refine R_mmx X h (inb_s g15) d_Model_acts_84 ?_
      refine lv_iload_n hx hb d_Model_acts_85 rfl (lv_at hl 0 rfl) ?_
      obtain ⟨r16, σ17, h18, hf⟩ := bd_s hf
      refine x_Si (As := [.int r12]) (rest := [.int (σ13.2.2 5 x1.toNatClampNeg)]) X hml hl.1 hZ hA h (c_Model_dx l D ad cA tz n r12 σ13 r16 σ17 h18) k_Model_dx m_m_Model_169 kd_Model_dx ⟨rfl, rfl, Nat.le_of_ble_eq_true rfl, Nat.le_of_ble_eq_true rfl⟩ rfl rfl (Nat.le_of_ble_eq_true rfl) d_Model_acts_86 (fun H locs h => ?_)
      refine lv_iadd hx hb d_Model_acts_89 ?_
      refine lv_topi (fun v19 ev19 => ?_)
      have hf := nm_b hf ev19
      refine lv_istore_n (lv' := [(3, .int v19), (2, .int r12), (0, .ref (ad 0)), (1, .int x1)]) hx hb d_Model_acts_90 rfl hl (by decide) rfl (fun ls hl => ?_)
      refine lv_aload_n hx hb d_Model_acts_91 rfl (lv_at hl 2 rfl) ?_
      refine G_model_my X h m_f_Model_29 d_Model_acts_92 ?_
      refine lv_iload_n hx hb d_Model_acts_95 rfl (lv_at hl 3 rfl) ?_
      obtain ⟨g20, hf⟩ := gd_s hf
      refine R_mmy X h (inb_s g20) d_Model_acts_96 ?_
      refine lv_iload_n hx hb d_Model_acts_97 rfl (lv_at hl 1 rfl) ?_
      obtain ⟨r21, σ22, h23, hf⟩ := bd_s hf
      refine x_Si (As := [.int r12]) (rest := [.int (σ17.2.2 6 x1.toNatClampNeg)]) X hml hl.1 hZ hA h (c_Model_dy l D ad cA tz n r12 σ17 r21 σ22 h23) k_Model_dy m_m_Model_172 kd_Model_dy ⟨rfl, rfl, Nat.le_of_ble_eq_true rfl, Nat.le_of_ble_eq_true rfl⟩ rfl rfl (Nat.le_of_ble_eq_true rfl) d_Model_acts_98 (fun H locs h => ?_)
      refine lv_iadd hx hb d_Model_acts_101 ?_
      refine lv_topi (fun v24 ev24 => ?_)
      have hf := nm_b hf ev24
      refine lv_istore (lv' := [(4, .int v24), (3, .int v19), (2, .int r12), (0, .ref (ad 0)), (1, .int x1)]) hx hb d_Model_acts_102 hl (by decide) rfl (fun ls hl => ?_)
      refine lv_iload_n hx hb d_Model_acts_104 rfl (lv_at hl 1 rfl) ?_
      refine lv_aload_n hx hb d_Model_acts_105 rfl (lv_at hl 3 rfl) ?_
      refine G_model_px X h m_f_Model_129 d_Model_acts_106 ?_
      refine lv_icmp_ne (tgt := 129) hx hb d_Model_acts_109 (by decide) (fun c25 => ?_) (fun c25 => ?_)
      · have hf := ie c25 hf
        exact L129 x1 v19 v24 σ22 hf H locs ls h (lv_sub hl [3, 4, 1, 0] rfl)
      · have hf := it c25 hf
        refine lv_iload hx hb d_Model_acts_112 (lv_at hl 0 rfl) ?_
        refine lv_aload_n hx hb d_Model_acts_114 rfl (lv_at hl 3 rfl) ?_
        refine G_model_py X h m_f_Model_132 d_Model_acts_115 ?_
        refine lv_icmp_ne (tgt := 129) hx hb d_Model_acts_118 (by decide) (fun c26 => ?_) (fun c26 => ?_)
        · have hf := ie c26 hf
          exact L129 x1 v19 v24 σ22 hf H locs ls h (lv_sub hl [3, 4, 1, 0] rfl)
        · have hf := it c26 hf
          refine lv_aload_n hx hb d_Model_acts_121 rfl (lv_at hl 3 rfl) ?_
          refine lv_iload_n hx hb d_Model_acts_122 rfl (lv_at hl 4 rfl) ?_
          obtain ⟨r27, σ28, h29, hf⟩ := bd_s hf
          refine x_Vv (As := [.int x1]) (rest := []) X hml hl.1 hZ hA h (c_Model_wound l D ad cA tz n x1 σ22 r27 σ28 h29) k_Model_wound m_m_Model_178 kd_Model_wound ⟨rfl, rfl, Nat.le_of_ble_eq_true rfl, Nat.le_of_ble_eq_true rfl⟩ 0 rfl rfl rfl rfl rfl (Nat.le_of_ble_eq_true rfl) d_Model_acts_123 (fun H locs h => ?_)
          refine lv_goto (tgt := 157) hx hb d_Model_acts_126 (by decide) ?_
          exact rt _ H locs 157 ls hf h d_Model_acts_157
  · have hf := it c2 hf
    refine lv_aload_n hx hb d_Model_acts_9 rfl (lv_at hl 0 rfl) ?_
    refine lv_aload_n hx hb d_Model_acts_10 rfl (lv_at hl 0 rfl) ?_
    refine G_model_mx X h m_f_Model_26 d_Model_acts_11 ?_
    refine lv_iload_n hx hb d_Model_acts_14 rfl (lv_at hl 1 rfl) ?_
    obtain ⟨g30, hf⟩ := gd_s hf
    refine R_mmx X h (inb_s g30) d_Model_acts_15 ?_
    refine lv_aload_n hx hb d_Model_acts_16 rfl (lv_at hl 0 rfl) ?_
    refine G_model_my X h m_f_Model_29 d_Model_acts_17 ?_
    refine lv_iload_n hx hb d_Model_acts_20 rfl (lv_at hl 1 rfl) ?_
    obtain ⟨g31, hf⟩ := gd_s hf
    refine R_mmy X h (inb_s g31) d_Model_acts_21 ?_
    obtain ⟨r32, σ33, h34, hf⟩ := bd_s hf
    refine x_Vi (As := [.int (σ.2.2 5 x1.toNatClampNeg), .int (σ.2.2 6 x1.toNatClampNeg)]) (rest := []) X hml hl.1 hZ hA h (c_Model_isNear l D ad cA tz n (σ.2.2 5 x1.toNatClampNeg) (σ.2.2 6 x1.toNatClampNeg) σ r32 σ33 h34) k_Model_isNear m_m_Model_159 kd_Model_isNear ⟨rfl, rfl, Nat.le_of_ble_eq_true rfl, Nat.le_of_ble_eq_true rfl⟩ 0 rfl rfl rfl rfl rfl (Nat.le_of_ble_eq_true rfl) d_Model_acts_22 (fun H locs h => ?_)
    refine lv_if_eq (tgt := 62) hx hb d_Model_acts_25 (by decide) (fun c35 => ?_) (fun c35 => ?_)
    · have hf := it c35 hf
      exact rt _ H locs 62 ls hf h d_Model_acts_62
    · have hf := ie c35 hf
      refine lv_aload_n hx hb d_Model_acts_28 rfl (lv_at hl 0 rfl) ?_
      refine lv_aload_n hx hb d_Model_acts_29 rfl (lv_at hl 0 rfl) ?_
      refine G_model_mx X h m_f_Model_26 d_Model_acts_30 ?_
      refine lv_iload_n hx hb d_Model_acts_33 rfl (lv_at hl 1 rfl) ?_
      obtain ⟨g36, hf⟩ := gd_s hf
      refine R_mmx X h (inb_s g36) d_Model_acts_34 ?_
      refine lv_aload_n hx hb d_Model_acts_35 rfl (lv_at hl 0 rfl) ?_
      refine G_model_my X h m_f_Model_29 d_Model_acts_36 ?_
      refine lv_iload_n hx hb d_Model_acts_39 rfl (lv_at hl 1 rfl) ?_
      obtain ⟨g37, hf⟩ := gd_s hf
      refine R_mmy X h (inb_s g37) d_Model_acts_40 ?_
      refine lv_aload_n hx hb d_Model_acts_41 rfl (lv_at hl 0 rfl) ?_
      refine G_model_px X h m_f_Model_129 d_Model_acts_42 ?_
      refine lv_aload_n hx hb d_Model_acts_45 rfl (lv_at hl 0 rfl) ?_
      refine G_model_py X h m_f_Model_132 d_Model_acts_46 ?_
      obtain ⟨r38, σ39, h40, hf⟩ := bd_s hf
      refine x_Vi (As := [.int (σ33.2.2 5 x1.toNatClampNeg), .int (σ33.2.2 6 x1.toNatClampNeg), .int (σ33.1 2), .int (σ33.1 3)]) (rest := []) X hml hl.1 hZ hA h (c_Model_isClear l D ad cA tz n (σ33.2.2 5 x1.toNatClampNeg) (σ33.2.2 6 x1.toNatClampNeg) (σ33.1 2) (σ33.1 3) σ33 r38 σ39 h40) k_Model_isClear m_m_Model_162 kd_Model_isClear ⟨rfl, rfl, Nat.le_of_ble_eq_true rfl, Nat.le_of_ble_eq_true rfl⟩ 0 rfl rfl rfl rfl rfl (Nat.le_of_ble_eq_true rfl) d_Model_acts_49 (fun H locs h => ?_)
      refine lv_if_eq (tgt := 62) hx hb d_Model_acts_52 (by decide) (fun c41 => ?_) (fun c41 => ?_)
      · have hf := it c41 hf
        exact rt _ H locs 62 ls hf h d_Model_acts_62
      · have hf := ie c41 hf
        refine lv_aload_n hx hb d_Model_acts_55 rfl (lv_at hl 0 rfl) ?_
        refine G_model_awake X h m_f_Model_38 d_Model_acts_56 ?_
        refine lv_iload_n hx hb d_Model_acts_59 rfl (lv_at hl 1 rfl) ?_
        refine lv_iconst (v := 1) hx hb d_Model_acts_60 (by decide) ?_
        obtain ⟨g42, hf⟩ := gd_s hf
        refine S_mawake X h (inb_s g42) rfl d_Model_acts_61 (fun H locs σ43 eσ43 h => ?_)
        have hf := nm_b hf eσ43
        exact rt _ H locs 62 ls hf h d_Model_acts_62

