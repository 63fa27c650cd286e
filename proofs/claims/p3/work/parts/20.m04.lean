theorem d_Model_build_0 : decode b_Model_build 0 = .ok (.aload_n 0, 1) := by decide +kernel
theorem d_Model_build_1 : decode b_Model_build 1 = .ok (.iload_n 1, 1) := by decide +kernel
theorem d_Model_build_2 : decode b_Model_build 2 = .ok (.putfield 120, 3) := by decide +kernel
theorem d_Model_build_5 : decode b_Model_build 5 = .ok (.aload_n 0, 1) := by decide +kernel
theorem d_Model_build_6 : decode b_Model_build 6 = .ok (.aload_n 0, 1) := by decide +kernel
theorem d_Model_build_7 : decode b_Model_build 7 = .ok (.getfield 62, 3) := by decide +kernel
theorem d_Model_build_10 : decode b_Model_build 10 = .ok (.i2l, 1) := by decide +kernel
theorem d_Model_build_11 : decode b_Model_build 11 = .ok (.lconst 1, 1) := by decide +kernel
theorem d_Model_build_12 : decode b_Model_build 12 = .ok (.ladd, 1) := by decide +kernel
theorem d_Model_build_13 : decode b_Model_build 13 = .ok (.ldc2_w 123, 3) := by decide +kernel
theorem d_Model_build_16 : decode b_Model_build 16 = .ok (.lmul, 1) := by decide +kernel
theorem d_Model_build_17 : decode b_Model_build 17 = .ok (.iload_n 1, 1) := by decide +kernel
theorem d_Model_build_18 : decode b_Model_build 18 = .ok (.i2l, 1) := by decide +kernel
theorem d_Model_build_19 : decode b_Model_build 19 = .ok (.ladd, 1) := by decide +kernel
theorem d_Model_build_20 : decode b_Model_build 20 = .ok (.putfield 73, 3) := by decide +kernel
theorem d_Model_build_23 : decode b_Model_build 23 = .ok (.iconst 0, 1) := by decide +kernel
theorem d_Model_build_24 : decode b_Model_build 24 = .ok (.istore_n 2, 1) := by decide +kernel
theorem d_Model_build_25 : decode b_Model_build 25 = .ok (.iload_n 2, 1) := by decide +kernel
theorem d_Model_build_26 : decode b_Model_build 26 = .ok (.bipush 120, 2) := by decide +kernel
theorem d_Model_build_28 : decode b_Model_build 28 = .ok (.if_icmp .ge 30, 3) := by decide +kernel
theorem d_Model_build_31 : decode b_Model_build 31 = .ok (.aload_n 0, 1) := by decide +kernel
theorem d_Model_build_32 : decode b_Model_build 32 = .ok (.getfield 7, 3) := by decide +kernel
theorem d_Model_build_35 : decode b_Model_build 35 = .ok (.iload_n 2, 1) := by decide +kernel
theorem d_Model_build_36 : decode b_Model_build 36 = .ok (.iconst 0, 1) := by decide +kernel
theorem d_Model_build_37 : decode b_Model_build 37 = .ok (.iastore, 1) := by decide +kernel
theorem d_Model_build_38 : decode b_Model_build 38 = .ok (.aload_n 0, 1) := by decide +kernel
theorem d_Model_build_39 : decode b_Model_build 39 = .ok (.getfield 13, 3) := by decide +kernel
theorem d_Model_build_42 : decode b_Model_build 42 = .ok (.iload_n 2, 1) := by decide +kernel
theorem d_Model_build_43 : decode b_Model_build 43 = .ok (.iconst (-1), 1) := by decide +kernel
theorem d_Model_build_44 : decode b_Model_build 44 = .ok (.iastore, 1) := by decide +kernel
theorem d_Model_build_45 : decode b_Model_build 45 = .ok (.aload_n 0, 1) := by decide +kernel
theorem d_Model_build_46 : decode b_Model_build 46 = .ok (.getfield 19, 3) := by decide +kernel
theorem d_Model_build_49 : decode b_Model_build 49 = .ok (.iload_n 2, 1) := by decide +kernel
theorem d_Model_build_50 : decode b_Model_build 50 = .ok (.iconst 0, 1) := by decide +kernel
theorem d_Model_build_51 : decode b_Model_build 51 = .ok (.bastore, 1) := by decide +kernel
theorem d_Model_build_52 : decode b_Model_build 52 = .ok (.iinc 2 1, 3) := by decide +kernel
theorem d_Model_build_55 : decode b_Model_build 55 = .ok (.goto (-30), 3) := by decide +kernel
theorem d_Model_build_58 : decode b_Model_build 58 = .ok (.iconst 0, 1) := by decide +kernel
theorem d_Model_build_59 : decode b_Model_build 59 = .ok (.istore_n 2, 1) := by decide +kernel
theorem d_Model_build_60 : decode b_Model_build 60 = .ok (.iload_n 2, 1) := by decide +kernel
theorem d_Model_build_61 : decode b_Model_build 61 = .ok (.iconst 4, 1) := by decide +kernel
theorem d_Model_build_62 : decode b_Model_build 62 = .ok (.if_icmp .ge 134, 3) := by decide +kernel
theorem d_Model_build_65 : decode b_Model_build 65 = .ok (.aload_n 0, 1) := by decide +kernel
theorem d_Model_build_66 : decode b_Model_build 66 = .ok (.getfield 50, 3) := by decide +kernel
theorem d_Model_build_69 : decode b_Model_build 69 = .ok (.iload_n 2, 1) := by decide +kernel
theorem d_Model_build_70 : decode b_Model_build 70 = .ok (.iconst 2, 1) := by decide +kernel
theorem d_Model_build_71 : decode b_Model_build 71 = .ok (.aload_n 0, 1) := by decide +kernel
theorem d_Model_build_72 : decode b_Model_build 72 = .ok (.iconst 3, 1) := by decide +kernel
theorem d_Model_build_73 : decode b_Model_build 73 = .ok (.invokevirtual 112, 3) := by decide +kernel
theorem d_Model_build_76 : decode b_Model_build 76 = .ok (.iadd, 1) := by decide +kernel
theorem d_Model_build_77 : decode b_Model_build 77 = .ok (.iastore, 1) := by decide +kernel
theorem d_Model_build_78 : decode b_Model_build 78 = .ok (.aload_n 0, 1) := by decide +kernel
theorem d_Model_build_79 : decode b_Model_build 79 = .ok (.getfield 53, 3) := by decide +kernel
theorem d_Model_build_82 : decode b_Model_build 82 = .ok (.iload_n 2, 1) := by decide +kernel
theorem d_Model_build_83 : decode b_Model_build 83 = .ok (.iconst 2, 1) := by decide +kernel
theorem d_Model_build_84 : decode b_Model_build 84 = .ok (.aload_n 0, 1) := by decide +kernel
theorem d_Model_build_85 : decode b_Model_build 85 = .ok (.iconst 2, 1) := by decide +kernel
theorem d_Model_build_86 : decode b_Model_build 86 = .ok (.invokevirtual 112, 3) := by decide +kernel
theorem d_Model_build_89 : decode b_Model_build 89 = .ok (.iadd, 1) := by decide +kernel
theorem d_Model_build_90 : decode b_Model_build 90 = .ok (.iastore, 1) := by decide +kernel
theorem d_Model_build_91 : decode b_Model_build 91 = .ok (.aload_n 0, 1) := by decide +kernel
theorem d_Model_build_92 : decode b_Model_build 92 = .ok (.getfield 44, 3) := by decide +kernel
theorem d_Model_build_95 : decode b_Model_build 95 = .ok (.iload_n 2, 1) := by decide +kernel
theorem d_Model_build_96 : decode b_Model_build 96 = .ok (.bipush 6, 2) := by decide +kernel
theorem d_Model_build_98 : decode b_Model_build 98 = .ok (.iload_n 2, 1) := by decide +kernel
theorem d_Model_build_99 : decode b_Model_build 99 = .ok (.iconst 2, 1) := by decide +kernel
theorem d_Model_build_100 : decode b_Model_build 100 = .ok (.irem, 1) := by decide +kernel
theorem d_Model_build_101 : decode b_Model_build 101 = .ok (.imul, 1) := by decide +kernel
theorem d_Model_build_102 : decode b_Model_build 102 = .ok (.iconst 1, 1) := by decide +kernel
theorem d_Model_build_103 : decode b_Model_build 103 = .ok (.iadd, 1) := by decide +kernel
theorem d_Model_build_104 : decode b_Model_build 104 = .ok (.aload_n 0, 1) := by decide +kernel
theorem d_Model_build_105 : decode b_Model_build 105 = .ok (.iconst 5, 1) := by decide +kernel
theorem d_Model_build_106 : decode b_Model_build 106 = .ok (.aload_n 0, 1) := by decide +kernel
theorem d_Model_build_107 : decode b_Model_build 107 = .ok (.getfield 50, 3) := by decide +kernel
theorem d_Model_build_110 : decode b_Model_build 110 = .ok (.iload_n 2, 1) := by decide +kernel
theorem d_Model_build_111 : decode b_Model_build 111 = .ok (.iaload, 1) := by decide +kernel
theorem d_Model_build_112 : decode b_Model_build 112 = .ok (.isub, 1) := by decide +kernel
theorem d_Model_build_113 : decode b_Model_build 113 = .ok (.invokevirtual 112, 3) := by decide +kernel
theorem d_Model_build_116 : decode b_Model_build 116 = .ok (.iadd, 1) := by decide +kernel
theorem d_Model_build_117 : decode b_Model_build 117 = .ok (.iastore, 1) := by decide +kernel
theorem d_Model_build_118 : decode b_Model_build 118 = .ok (.aload_n 0, 1) := by decide +kernel
theorem d_Model_build_119 : decode b_Model_build 119 = .ok (.getfield 47, 3) := by decide +kernel
theorem d_Model_build_122 : decode b_Model_build 122 = .ok (.iload_n 2, 1) := by decide +kernel
theorem d_Model_build_123 : decode b_Model_build 123 = .ok (.iconst 5, 1) := by decide +kernel
theorem d_Model_build_124 : decode b_Model_build 124 = .ok (.iload_n 2, 1) := by decide +kernel
theorem d_Model_build_125 : decode b_Model_build 125 = .ok (.iconst 2, 1) := by decide +kernel
theorem d_Model_build_126 : decode b_Model_build 126 = .ok (.idiv, 1) := by decide +kernel
theorem d_Model_build_127 : decode b_Model_build 127 = .ok (.imul, 1) := by decide +kernel
theorem d_Model_build_128 : decode b_Model_build 128 = .ok (.iconst 1, 1) := by decide +kernel
theorem d_Model_build_129 : decode b_Model_build 129 = .ok (.iadd, 1) := by decide +kernel
theorem d_Model_build_130 : decode b_Model_build 130 = .ok (.aload_n 0, 1) := by decide +kernel
theorem d_Model_build_131 : decode b_Model_build 131 = .ok (.iconst 4, 1) := by decide +kernel
theorem d_Model_build_132 : decode b_Model_build 132 = .ok (.aload_n 0, 1) := by decide +kernel
theorem d_Model_build_133 : decode b_Model_build 133 = .ok (.getfield 53, 3) := by decide +kernel
theorem d_Model_build_136 : decode b_Model_build 136 = .ok (.iload_n 2, 1) := by decide +kernel
theorem d_Model_build_137 : decode b_Model_build 137 = .ok (.iaload, 1) := by decide +kernel
theorem d_Model_build_138 : decode b_Model_build 138 = .ok (.isub, 1) := by decide +kernel
theorem d_Model_build_139 : decode b_Model_build 139 = .ok (.invokevirtual 112, 3) := by decide +kernel
theorem d_Model_build_142 : decode b_Model_build 142 = .ok (.iadd, 1) := by decide +kernel
theorem d_Model_build_143 : decode b_Model_build 143 = .ok (.iastore, 1) := by decide +kernel
theorem d_Model_build_144 : decode b_Model_build 144 = .ok (.aload_n 0, 1) := by decide +kernel
theorem d_Model_build_145 : decode b_Model_build 145 = .ok (.aload_n 0, 1) := by decide +kernel
theorem d_Model_build_146 : decode b_Model_build 146 = .ok (.getfield 44, 3) := by decide +kernel
theorem d_Model_build_149 : decode b_Model_build 149 = .ok (.iload_n 2, 1) := by decide +kernel
theorem d_Model_build_150 : decode b_Model_build 150 = .ok (.iaload, 1) := by decide +kernel
theorem d_Model_build_151 : decode b_Model_build 151 = .ok (.aload_n 0, 1) := by decide +kernel
theorem d_Model_build_152 : decode b_Model_build 152 = .ok (.getfield 47, 3) := by decide +kernel
theorem d_Model_build_155 : decode b_Model_build 155 = .ok (.iload_n 2, 1) := by decide +kernel
theorem d_Model_build_156 : decode b_Model_build 156 = .ok (.iaload, 1) := by decide +kernel
theorem d_Model_build_157 : decode b_Model_build 157 = .ok (.aload_n 0, 1) := by decide +kernel
theorem d_Model_build_158 : decode b_Model_build 158 = .ok (.getfield 44, 3) := by decide +kernel
theorem d_Model_build_161 : decode b_Model_build 161 = .ok (.iload_n 2, 1) := by decide +kernel
theorem d_Model_build_162 : decode b_Model_build 162 = .ok (.iaload, 1) := by decide +kernel
theorem d_Model_build_163 : decode b_Model_build 163 = .ok (.aload_n 0, 1) := by decide +kernel
theorem d_Model_build_164 : decode b_Model_build 164 = .ok (.getfield 50, 3) := by decide +kernel
theorem d_Model_build_167 : decode b_Model_build 167 = .ok (.iload_n 2, 1) := by decide +kernel
theorem d_Model_build_168 : decode b_Model_build 168 = .ok (.iaload, 1) := by decide +kernel
theorem d_Model_build_169 : decode b_Model_build 169 = .ok (.iadd, 1) := by decide +kernel
theorem d_Model_build_170 : decode b_Model_build 170 = .ok (.iconst 1, 1) := by decide +kernel
theorem d_Model_build_171 : decode b_Model_build 171 = .ok (.isub, 1) := by decide +kernel
theorem d_Model_build_172 : decode b_Model_build 172 = .ok (.aload_n 0, 1) := by decide +kernel
theorem d_Model_build_173 : decode b_Model_build 173 = .ok (.getfield 47, 3) := by decide +kernel
theorem d_Model_build_176 : decode b_Model_build 176 = .ok (.iload_n 2, 1) := by decide +kernel
theorem d_Model_build_177 : decode b_Model_build 177 = .ok (.iaload, 1) := by decide +kernel
theorem d_Model_build_178 : decode b_Model_build 178 = .ok (.aload_n 0, 1) := by decide +kernel
theorem d_Model_build_179 : decode b_Model_build 179 = .ok (.getfield 53, 3) := by decide +kernel
theorem d_Model_build_182 : decode b_Model_build 182 = .ok (.iload_n 2, 1) := by decide +kernel
theorem d_Model_build_183 : decode b_Model_build 183 = .ok (.iaload, 1) := by decide +kernel
theorem d_Model_build_184 : decode b_Model_build 184 = .ok (.iadd, 1) := by decide +kernel
theorem d_Model_build_185 : decode b_Model_build 185 = .ok (.iconst 1, 1) := by decide +kernel
theorem d_Model_build_186 : decode b_Model_build 186 = .ok (.isub, 1) := by decide +kernel
theorem d_Model_build_187 : decode b_Model_build 187 = .ok (.invokevirtual 116, 3) := by decide +kernel
theorem d_Model_build_190 : decode b_Model_build 190 = .ok (.iinc 2 1, 3) := by decide +kernel
theorem d_Model_build_193 : decode b_Model_build 193 = .ok (.goto (-133), 3) := by decide +kernel
theorem d_Model_build_196 : decode b_Model_build 196 = .ok (.aload_n 0, 1) := by decide +kernel
theorem d_Model_build_197 : decode b_Model_build 197 = .ok (.iconst 0, 1) := by decide +kernel
theorem d_Model_build_198 : decode b_Model_build 198 = .ok (.iconst 1, 1) := by decide +kernel
theorem d_Model_build_199 : decode b_Model_build 199 = .ok (.invokevirtual 125, 3) := by decide +kernel
theorem d_Model_build_202 : decode b_Model_build 202 = .ok (.aload_n 0, 1) := by decide +kernel
theorem d_Model_build_203 : decode b_Model_build 203 = .ok (.iconst 1, 1) := by decide +kernel
theorem d_Model_build_204 : decode b_Model_build 204 = .ok (.iconst 3, 1) := by decide +kernel
theorem d_Model_build_205 : decode b_Model_build 205 = .ok (.invokevirtual 125, 3) := by decide +kernel
theorem d_Model_build_208 : decode b_Model_build 208 = .ok (.aload_n 0, 1) := by decide +kernel
theorem d_Model_build_209 : decode b_Model_build 209 = .ok (.iconst 3, 1) := by decide +kernel
theorem d_Model_build_210 : decode b_Model_build 210 = .ok (.iconst 2, 1) := by decide +kernel
theorem d_Model_build_211 : decode b_Model_build 211 = .ok (.invokevirtual 125, 3) := by decide +kernel
theorem d_Model_build_214 : decode b_Model_build 214 = .ok (.aload_n 0, 1) := by decide +kernel
theorem d_Model_build_215 : decode b_Model_build 215 = .ok (.getfield 44, 3) := by decide +kernel
theorem d_Model_build_218 : decode b_Model_build 218 = .ok (.iconst 2, 1) := by decide +kernel
theorem d_Model_build_219 : decode b_Model_build 219 = .ok (.iaload, 1) := by decide +kernel
theorem d_Model_build_220 : decode b_Model_build 220 = .ok (.aload_n 0, 1) := by decide +kernel
theorem d_Model_build_221 : decode b_Model_build 221 = .ok (.aload_n 0, 1) := by decide +kernel
theorem d_Model_build_222 : decode b_Model_build 222 = .ok (.getfield 50, 3) := by decide +kernel
theorem d_Model_build_225 : decode b_Model_build 225 = .ok (.iconst 2, 1) := by decide +kernel
theorem d_Model_build_226 : decode b_Model_build 226 = .ok (.iaload, 1) := by decide +kernel
theorem d_Model_build_227 : decode b_Model_build 227 = .ok (.invokevirtual 112, 3) := by decide +kernel
theorem d_Model_build_230 : decode b_Model_build 230 = .ok (.iadd, 1) := by decide +kernel
theorem d_Model_build_231 : decode b_Model_build 231 = .ok (.istore_n 2, 1) := by decide +kernel
theorem d_Model_build_232 : decode b_Model_build 232 = .ok (.aload_n 0, 1) := by decide +kernel
theorem d_Model_build_233 : decode b_Model_build 233 = .ok (.getfield 47, 3) := by decide +kernel
theorem d_Model_build_236 : decode b_Model_build 236 = .ok (.iconst 2, 1) := by decide +kernel
theorem d_Model_build_237 : decode b_Model_build 237 = .ok (.iaload, 1) := by decide +kernel
theorem d_Model_build_238 : decode b_Model_build 238 = .ok (.aload_n 0, 1) := by decide +kernel
theorem d_Model_build_239 : decode b_Model_build 239 = .ok (.aload_n 0, 1) := by decide +kernel
theorem d_Model_build_240 : decode b_Model_build 240 = .ok (.getfield 53, 3) := by decide +kernel
theorem d_Model_build_243 : decode b_Model_build 243 = .ok (.iconst 2, 1) := by decide +kernel
theorem d_Model_build_244 : decode b_Model_build 244 = .ok (.iaload, 1) := by decide +kernel
theorem d_Model_build_245 : decode b_Model_build 245 = .ok (.invokevirtual 112, 3) := by decide +kernel
theorem d_Model_build_248 : decode b_Model_build 248 = .ok (.iadd, 1) := by decide +kernel
theorem d_Model_build_249 : decode b_Model_build 249 = .ok (.istore_n 3, 1) := by decide +kernel
theorem d_Model_build_250 : decode b_Model_build 250 = .ok (.aload_n 0, 1) := by decide +kernel
theorem d_Model_build_251 : decode b_Model_build 251 = .ok (.getfield 7, 3) := by decide +kernel
theorem d_Model_build_254 : decode b_Model_build 254 = .ok (.bipush 12, 2) := by decide +kernel
theorem d_Model_build_256 : decode b_Model_build 256 = .ok (.iload_n 3, 1) := by decide +kernel
theorem d_Model_build_257 : decode b_Model_build 257 = .ok (.imul, 1) := by decide +kernel
theorem d_Model_build_258 : decode b_Model_build 258 = .ok (.iload_n 2, 1) := by decide +kernel
theorem d_Model_build_259 : decode b_Model_build 259 = .ok (.iadd, 1) := by decide +kernel
theorem d_Model_build_260 : decode b_Model_build 260 = .ok (.iconst 2, 1) := by decide +kernel
theorem d_Model_build_261 : decode b_Model_build 261 = .ok (.iastore, 1) := by decide +kernel
theorem d_Model_build_262 : decode b_Model_build 262 = .ok (.aload_n 0, 1) := by decide +kernel
theorem d_Model_build_263 : decode b_Model_build 263 = .ok (.aload_n 0, 1) := by decide +kernel
theorem d_Model_build_264 : decode b_Model_build 264 = .ok (.getfield 44, 3) := by decide +kernel
theorem d_Model_build_267 : decode b_Model_build 267 = .ok (.iconst 0, 1) := by decide +kernel
theorem d_Model_build_268 : decode b_Model_build 268 = .ok (.iaload, 1) := by decide +kernel
theorem d_Model_build_269 : decode b_Model_build 269 = .ok (.aload_n 0, 1) := by decide +kernel
theorem d_Model_build_270 : decode b_Model_build 270 = .ok (.getfield 50, 3) := by decide +kernel
theorem d_Model_build_273 : decode b_Model_build 273 = .ok (.iconst 0, 1) := by decide +kernel
theorem d_Model_build_274 : decode b_Model_build 274 = .ok (.iaload, 1) := by decide +kernel
theorem d_Model_build_275 : decode b_Model_build 275 = .ok (.iconst 2, 1) := by decide +kernel
theorem d_Model_build_276 : decode b_Model_build 276 = .ok (.idiv, 1) := by decide +kernel
theorem d_Model_build_277 : decode b_Model_build 277 = .ok (.iadd, 1) := by decide +kernel
theorem d_Model_build_278 : decode b_Model_build 278 = .ok (.putfield 129, 3) := by decide +kernel
theorem d_Model_build_281 : decode b_Model_build 281 = .ok (.aload_n 0, 1) := by decide +kernel
theorem d_Model_build_282 : decode b_Model_build 282 = .ok (.aload_n 0, 1) := by decide +kernel
theorem d_Model_build_283 : decode b_Model_build 283 = .ok (.getfield 47, 3) := by decide +kernel
theorem d_Model_build_286 : decode b_Model_build 286 = .ok (.iconst 0, 1) := by decide +kernel
theorem d_Model_build_287 : decode b_Model_build 287 = .ok (.iaload, 1) := by decide +kernel
theorem d_Model_build_288 : decode b_Model_build 288 = .ok (.aload_n 0, 1) := by decide +kernel
theorem d_Model_build_289 : decode b_Model_build 289 = .ok (.getfield 53, 3) := by decide +kernel
theorem d_Model_build_292 : decode b_Model_build 292 = .ok (.iconst 0, 1) := by decide +kernel
theorem d_Model_build_293 : decode b_Model_build 293 = .ok (.iaload, 1) := by decide +kernel
theorem d_Model_build_294 : decode b_Model_build 294 = .ok (.iconst 2, 1) := by decide +kernel
theorem d_Model_build_295 : decode b_Model_build 295 = .ok (.idiv, 1) := by decide +kernel
theorem d_Model_build_296 : decode b_Model_build 296 = .ok (.iadd, 1) := by decide +kernel
theorem d_Model_build_297 : decode b_Model_build 297 = .ok (.putfield 132, 3) := by decide +kernel
theorem d_Model_build_300 : decode b_Model_build 300 = .ok (.aload_n 0, 1) := by decide +kernel
theorem d_Model_build_301 : decode b_Model_build 301 = .ok (.bipush 10, 2) := by decide +kernel
theorem d_Model_build_303 : decode b_Model_build 303 = .ok (.putfield 135, 3) := by decide +kernel
theorem d_Model_build_306 : decode b_Model_build 306 = .ok (.aload_n 0, 1) := by decide +kernel
theorem d_Model_build_307 : decode b_Model_build 307 = .ok (.iconst 0, 1) := by decide +kernel
theorem d_Model_build_308 : decode b_Model_build 308 = .ok (.putfield 138, 3) := by decide +kernel
theorem d_Model_build_311 : decode b_Model_build 311 = .ok (.iconst 0, 1) := by decide +kernel
theorem d_Model_build_312 : decode b_Model_build 312 = .ok (.istore 4, 2) := by decide +kernel
theorem d_Model_build_314 : decode b_Model_build 314 = .ok (.iload 4, 2) := by decide +kernel
theorem d_Model_build_316 : decode b_Model_build 316 = .ok (.iconst 2, 1) := by decide +kernel
theorem d_Model_build_317 : decode b_Model_build 317 = .ok (.iload_n 1, 1) := by decide +kernel
theorem d_Model_build_318 : decode b_Model_build 318 = .ok (.iadd, 1) := by decide +kernel
theorem d_Model_build_319 : decode b_Model_build 319 = .ok (.if_icmp .ge 184, 3) := by decide +kernel
theorem d_Model_build_322 : decode b_Model_build 322 = .ok (.aload_n 0, 1) := by decide +kernel
theorem d_Model_build_323 : decode b_Model_build 323 = .ok (.iconst 3, 1) := by decide +kernel
theorem d_Model_build_324 : decode b_Model_build 324 = .ok (.invokevirtual 112, 3) := by decide +kernel
theorem d_Model_build_327 : decode b_Model_build 327 = .ok (.istore 5, 2) := by decide +kernel
theorem d_Model_build_329 : decode b_Model_build 329 = .ok (.iconst 1, 1) := by decide +kernel
theorem d_Model_build_330 : decode b_Model_build 330 = .ok (.aload_n 0, 1) := by decide +kernel
theorem d_Model_build_331 : decode b_Model_build 331 = .ok (.iconst 3, 1) := by decide +kernel
theorem d_Model_build_332 : decode b_Model_build 332 = .ok (.invokevirtual 112, 3) := by decide +kernel
theorem d_Model_build_335 : decode b_Model_build 335 = .ok (.iadd, 1) := by decide +kernel
theorem d_Model_build_336 : decode b_Model_build 336 = .ok (.istore 6, 2) := by decide +kernel
theorem d_Model_build_338 : decode b_Model_build 338 = .ok (.aload_n 0, 1) := by decide +kernel
theorem d_Model_build_339 : decode b_Model_build 339 = .ok (.getfield 44, 3) := by decide +kernel
theorem d_Model_build_342 : decode b_Model_build 342 = .ok (.iload 6, 2) := by decide +kernel
theorem d_Model_build_344 : decode b_Model_build 344 = .ok (.iaload, 1) := by decide +kernel
theorem d_Model_build_345 : decode b_Model_build 345 = .ok (.aload_n 0, 1) := by decide +kernel
theorem d_Model_build_346 : decode b_Model_build 346 = .ok (.aload_n 0, 1) := by decide +kernel
theorem d_Model_build_347 : decode b_Model_build 347 = .ok (.getfield 50, 3) := by decide +kernel
theorem d_Model_build_350 : decode b_Model_build 350 = .ok (.iload 6, 2) := by decide +kernel
theorem d_Model_build_352 : decode b_Model_build 352 = .ok (.iaload, 1) := by decide +kernel
theorem d_Model_build_353 : decode b_Model_build 353 = .ok (.invokevirtual 112, 3) := by decide +kernel
theorem d_Model_build_356 : decode b_Model_build 356 = .ok (.iadd, 1) := by decide +kernel
theorem d_Model_build_357 : decode b_Model_build 357 = .ok (.istore 7, 2) := by decide +kernel
theorem d_Model_build_359 : decode b_Model_build 359 = .ok (.aload_n 0, 1) := by decide +kernel
theorem d_Model_build_360 : decode b_Model_build 360 = .ok (.getfield 47, 3) := by decide +kernel
theorem d_Model_build_363 : decode b_Model_build 363 = .ok (.iload 6, 2) := by decide +kernel
theorem d_Model_build_365 : decode b_Model_build 365 = .ok (.iaload, 1) := by decide +kernel
theorem d_Model_build_366 : decode b_Model_build 366 = .ok (.aload_n 0, 1) := by decide +kernel
theorem d_Model_build_367 : decode b_Model_build 367 = .ok (.aload_n 0, 1) := by decide +kernel
theorem d_Model_build_368 : decode b_Model_build 368 = .ok (.getfield 53, 3) := by decide +kernel
theorem d_Model_build_371 : decode b_Model_build 371 = .ok (.iload 6, 2) := by decide +kernel
theorem d_Model_build_373 : decode b_Model_build 373 = .ok (.iaload, 1) := by decide +kernel
theorem d_Model_build_374 : decode b_Model_build 374 = .ok (.invokevirtual 112, 3) := by decide +kernel
theorem d_Model_build_377 : decode b_Model_build 377 = .ok (.iadd, 1) := by decide +kernel
theorem d_Model_build_378 : decode b_Model_build 378 = .ok (.istore 8, 2) := by decide +kernel
theorem d_Model_build_380 : decode b_Model_build 380 = .ok (.aload_n 0, 1) := by decide +kernel
theorem d_Model_build_381 : decode b_Model_build 381 = .ok (.iload 7, 2) := by decide +kernel
theorem d_Model_build_383 : decode b_Model_build 383 = .ok (.iload 8, 2) := by decide +kernel
theorem d_Model_build_385 : decode b_Model_build 385 = .ok (.invokevirtual 141, 3) := by decide +kernel
theorem d_Model_build_388 : decode b_Model_build 388 = .ok (.ifCond .lt 6, 3) := by decide +kernel
theorem d_Model_build_391 : decode b_Model_build 391 = .ok (.goto 106, 3) := by decide +kernel
theorem d_Model_build_394 : decode b_Model_build 394 = .ok (.aload_n 0, 1) := by decide +kernel
theorem d_Model_build_395 : decode b_Model_build 395 = .ok (.getfield 23, 3) := by decide +kernel
theorem d_Model_build_398 : decode b_Model_build 398 = .ok (.aload_n 0, 1) := by decide +kernel
theorem d_Model_build_399 : decode b_Model_build 399 = .ok (.getfield 138, 3) := by decide +kernel
theorem d_Model_build_402 : decode b_Model_build 402 = .ok (.iload 5, 2) := by decide +kernel
theorem d_Model_build_404 : decode b_Model_build 404 = .ok (.iastore, 1) := by decide +kernel
theorem d_Model_build_405 : decode b_Model_build 405 = .ok (.aload_n 0, 1) := by decide +kernel
theorem d_Model_build_406 : decode b_Model_build 406 = .ok (.getfield 26, 3) := by decide +kernel
theorem d_Model_build_409 : decode b_Model_build 409 = .ok (.aload_n 0, 1) := by decide +kernel
theorem d_Model_build_410 : decode b_Model_build 410 = .ok (.getfield 138, 3) := by decide +kernel
theorem d_Model_build_413 : decode b_Model_build 413 = .ok (.iload 7, 2) := by decide +kernel
theorem d_Model_build_415 : decode b_Model_build 415 = .ok (.iastore, 1) := by decide +kernel
theorem d_Model_build_416 : decode b_Model_build 416 = .ok (.aload_n 0, 1) := by decide +kernel
theorem d_Model_build_417 : decode b_Model_build 417 = .ok (.getfield 29, 3) := by decide +kernel
theorem d_Model_build_420 : decode b_Model_build 420 = .ok (.aload_n 0, 1) := by decide +kernel
theorem d_Model_build_421 : decode b_Model_build 421 = .ok (.getfield 138, 3) := by decide +kernel
theorem d_Model_build_424 : decode b_Model_build 424 = .ok (.iload 8, 2) := by decide +kernel
theorem d_Model_build_426 : decode b_Model_build 426 = .ok (.iastore, 1) := by decide +kernel
theorem d_Model_build_427 : decode b_Model_build 427 = .ok (.aload_n 0, 1) := by decide +kernel
theorem d_Model_build_428 : decode b_Model_build 428 = .ok (.getfield 32, 3) := by decide +kernel
theorem d_Model_build_431 : decode b_Model_build 431 = .ok (.aload_n 0, 1) := by decide +kernel
theorem d_Model_build_432 : decode b_Model_build 432 = .ok (.getfield 138, 3) := by decide +kernel
theorem d_Model_build_435 : decode b_Model_build 435 = .ok (.iload 5, 2) := by decide +kernel
theorem d_Model_build_437 : decode b_Model_build 437 = .ok (.ifCond .ne 7, 3) := by decide +kernel
theorem d_Model_build_440 : decode b_Model_build 440 = .ok (.iconst 3, 1) := by decide +kernel
theorem d_Model_build_441 : decode b_Model_build 441 = .ok (.goto 15, 3) := by decide +kernel
theorem d_Model_build_444 : decode b_Model_build 444 = .ok (.iload 5, 2) := by decide +kernel
theorem d_Model_build_446 : decode b_Model_build 446 = .ok (.iconst 1, 1) := by decide +kernel
theorem d_Model_build_447 : decode b_Model_build 447 = .ok (.if_icmp .ne 8, 3) := by decide +kernel
theorem d_Model_build_450 : decode b_Model_build 450 = .ok (.bipush 6, 2) := by decide +kernel
theorem d_Model_build_452 : decode b_Model_build 452 = .ok (.goto 4, 3) := by decide +kernel
theorem d_Model_build_455 : decode b_Model_build 455 = .ok (.iconst 2, 1) := by decide +kernel
theorem d_Model_build_456 : decode b_Model_build 456 = .ok (.iastore, 1) := by decide +kernel
theorem d_Model_build_457 : decode b_Model_build 457 = .ok (.aload_n 0, 1) := by decide +kernel
theorem d_Model_build_458 : decode b_Model_build 458 = .ok (.getfield 35, 3) := by decide +kernel
theorem d_Model_build_461 : decode b_Model_build 461 = .ok (.aload_n 0, 1) := by decide +kernel
theorem d_Model_build_462 : decode b_Model_build 462 = .ok (.getfield 138, 3) := by decide +kernel
theorem d_Model_build_465 : decode b_Model_build 465 = .ok (.iconst 0, 1) := by decide +kernel
theorem d_Model_build_466 : decode b_Model_build 466 = .ok (.iastore, 1) := by decide +kernel
theorem d_Model_build_467 : decode b_Model_build 467 = .ok (.aload_n 0, 1) := by decide +kernel
theorem d_Model_build_468 : decode b_Model_build 468 = .ok (.getfield 38, 3) := by decide +kernel
theorem d_Model_build_471 : decode b_Model_build 471 = .ok (.aload_n 0, 1) := by decide +kernel
theorem d_Model_build_472 : decode b_Model_build 472 = .ok (.getfield 138, 3) := by decide +kernel
theorem d_Model_build_475 : decode b_Model_build 475 = .ok (.iconst 0, 1) := by decide +kernel
theorem d_Model_build_476 : decode b_Model_build 476 = .ok (.bastore, 1) := by decide +kernel
theorem d_Model_build_477 : decode b_Model_build 477 = .ok (.aload_n 0, 1) := by decide +kernel
theorem d_Model_build_478 : decode b_Model_build 478 = .ok (.getfield 41, 3) := by decide +kernel
theorem d_Model_build_481 : decode b_Model_build 481 = .ok (.aload_n 0, 1) := by decide +kernel
theorem d_Model_build_482 : decode b_Model_build 482 = .ok (.getfield 138, 3) := by decide +kernel
theorem d_Model_build_485 : decode b_Model_build 485 = .ok (.iconst 0, 1) := by decide +kernel
theorem d_Model_build_486 : decode b_Model_build 486 = .ok (.bastore, 1) := by decide +kernel
theorem d_Model_build_487 : decode b_Model_build 487 = .ok (.aload_n 0, 1) := by decide +kernel
theorem d_Model_build_488 : decode b_Model_build 488 = .ok (.dup, 1) := by decide +kernel
theorem d_Model_build_489 : decode b_Model_build 489 = .ok (.getfield 138, 3) := by decide +kernel
theorem d_Model_build_492 : decode b_Model_build 492 = .ok (.iconst 1, 1) := by decide +kernel
theorem d_Model_build_493 : decode b_Model_build 493 = .ok (.iadd, 1) := by decide +kernel
theorem d_Model_build_494 : decode b_Model_build 494 = .ok (.putfield 138, 3) := by decide +kernel
theorem d_Model_build_497 : decode b_Model_build 497 = .ok (.iinc 4 1, 3) := by decide +kernel
theorem d_Model_build_500 : decode b_Model_build 500 = .ok (.goto (-186), 3) := by decide +kernel
theorem d_Model_build_503 : decode b_Model_build 503 = .ok (.iconst 0, 1) := by decide +kernel
theorem d_Model_build_504 : decode b_Model_build 504 = .ok (.istore 4, 2) := by decide +kernel
theorem d_Model_build_506 : decode b_Model_build 506 = .ok (.iload 4, 2) := by decide +kernel
theorem d_Model_build_508 : decode b_Model_build 508 = .ok (.iconst 3, 1) := by decide +kernel
theorem d_Model_build_509 : decode b_Model_build 509 = .ok (.if_icmp .ge 113, 3) := by decide +kernel
theorem d_Model_build_512 : decode b_Model_build 512 = .ok (.aload_n 0, 1) := by decide +kernel
theorem d_Model_build_513 : decode b_Model_build 513 = .ok (.iconst 4, 1) := by decide +kernel
theorem d_Model_build_514 : decode b_Model_build 514 = .ok (.invokevirtual 112, 3) := by decide +kernel
theorem d_Model_build_517 : decode b_Model_build 517 = .ok (.istore 5, 2) := by decide +kernel
theorem d_Model_build_519 : decode b_Model_build 519 = .ok (.aload_n 0, 1) := by decide +kernel
theorem d_Model_build_520 : decode b_Model_build 520 = .ok (.iconst 4, 1) := by decide +kernel
theorem d_Model_build_521 : decode b_Model_build 521 = .ok (.invokevirtual 112, 3) := by decide +kernel
theorem d_Model_build_524 : decode b_Model_build 524 = .ok (.istore 6, 2) := by decide +kernel
theorem d_Model_build_526 : decode b_Model_build 526 = .ok (.aload_n 0, 1) := by decide +kernel
theorem d_Model_build_527 : decode b_Model_build 527 = .ok (.getfield 44, 3) := by decide +kernel
theorem d_Model_build_530 : decode b_Model_build 530 = .ok (.iload 6, 2) := by decide +kernel
theorem d_Model_build_532 : decode b_Model_build 532 = .ok (.iaload, 1) := by decide +kernel
theorem d_Model_build_533 : decode b_Model_build 533 = .ok (.aload_n 0, 1) := by decide +kernel
theorem d_Model_build_534 : decode b_Model_build 534 = .ok (.aload_n 0, 1) := by decide +kernel
theorem d_Model_build_535 : decode b_Model_build 535 = .ok (.getfield 50, 3) := by decide +kernel
theorem d_Model_build_538 : decode b_Model_build 538 = .ok (.iload 6, 2) := by decide +kernel
theorem d_Model_build_540 : decode b_Model_build 540 = .ok (.iaload, 1) := by decide +kernel
theorem d_Model_build_541 : decode b_Model_build 541 = .ok (.invokevirtual 112, 3) := by decide +kernel
theorem d_Model_build_544 : decode b_Model_build 544 = .ok (.iadd, 1) := by decide +kernel
theorem d_Model_build_545 : decode b_Model_build 545 = .ok (.istore 7, 2) := by decide +kernel
theorem d_Model_build_547 : decode b_Model_build 547 = .ok (.aload_n 0, 1) := by decide +kernel
theorem d_Model_build_548 : decode b_Model_build 548 = .ok (.getfield 47, 3) := by decide +kernel
theorem d_Model_build_551 : decode b_Model_build 551 = .ok (.iload 6, 2) := by decide +kernel
theorem d_Model_build_553 : decode b_Model_build 553 = .ok (.iaload, 1) := by decide +kernel
theorem d_Model_build_554 : decode b_Model_build 554 = .ok (.aload_n 0, 1) := by decide +kernel
theorem d_Model_build_555 : decode b_Model_build 555 = .ok (.aload_n 0, 1) := by decide +kernel
theorem d_Model_build_556 : decode b_Model_build 556 = .ok (.getfield 53, 3) := by decide +kernel
theorem d_Model_build_559 : decode b_Model_build 559 = .ok (.iload 6, 2) := by decide +kernel
theorem d_Model_build_561 : decode b_Model_build 561 = .ok (.iaload, 1) := by decide +kernel
theorem d_Model_build_562 : decode b_Model_build 562 = .ok (.invokevirtual 112, 3) := by decide +kernel
theorem d_Model_build_565 : decode b_Model_build 565 = .ok (.iadd, 1) := by decide +kernel
theorem d_Model_build_566 : decode b_Model_build 566 = .ok (.istore 8, 2) := by decide +kernel
theorem d_Model_build_568 : decode b_Model_build 568 = .ok (.aload_n 0, 1) := by decide +kernel
theorem d_Model_build_569 : decode b_Model_build 569 = .ok (.getfield 13, 3) := by decide +kernel
theorem d_Model_build_572 : decode b_Model_build 572 = .ok (.bipush 12, 2) := by decide +kernel
theorem d_Model_build_574 : decode b_Model_build 574 = .ok (.iload 8, 2) := by decide +kernel
theorem d_Model_build_576 : decode b_Model_build 576 = .ok (.imul, 1) := by decide +kernel
theorem d_Model_build_577 : decode b_Model_build 577 = .ok (.iload 7, 2) := by decide +kernel
theorem d_Model_build_579 : decode b_Model_build 579 = .ok (.iadd, 1) := by decide +kernel
theorem d_Model_build_580 : decode b_Model_build 580 = .ok (.iaload, 1) := by decide +kernel
theorem d_Model_build_581 : decode b_Model_build 581 = .ok (.ifCond .ge 35, 3) := by decide +kernel
theorem d_Model_build_584 : decode b_Model_build 584 = .ok (.aload_n 0, 1) := by decide +kernel
theorem d_Model_build_585 : decode b_Model_build 585 = .ok (.getfield 7, 3) := by decide +kernel
theorem d_Model_build_588 : decode b_Model_build 588 = .ok (.bipush 12, 2) := by decide +kernel
theorem d_Model_build_590 : decode b_Model_build 590 = .ok (.iload 8, 2) := by decide +kernel
theorem d_Model_build_592 : decode b_Model_build 592 = .ok (.imul, 1) := by decide +kernel
theorem d_Model_build_593 : decode b_Model_build 593 = .ok (.iload 7, 2) := by decide +kernel
theorem d_Model_build_595 : decode b_Model_build 595 = .ok (.iadd, 1) := by decide +kernel
theorem d_Model_build_596 : decode b_Model_build 596 = .ok (.iaload, 1) := by decide +kernel
theorem d_Model_build_597 : decode b_Model_build 597 = .ok (.iconst 2, 1) := by decide +kernel
theorem d_Model_build_598 : decode b_Model_build 598 = .ok (.if_icmp .eq 18, 3) := by decide +kernel
theorem d_Model_build_601 : decode b_Model_build 601 = .ok (.aload_n 0, 1) := by decide +kernel
theorem d_Model_build_602 : decode b_Model_build 602 = .ok (.getfield 13, 3) := by decide +kernel
theorem d_Model_build_605 : decode b_Model_build 605 = .ok (.bipush 12, 2) := by decide +kernel
theorem d_Model_build_607 : decode b_Model_build 607 = .ok (.iload 8, 2) := by decide +kernel
theorem d_Model_build_609 : decode b_Model_build 609 = .ok (.imul, 1) := by decide +kernel
theorem d_Model_build_610 : decode b_Model_build 610 = .ok (.iload 7, 2) := by decide +kernel
theorem d_Model_build_612 : decode b_Model_build 612 = .ok (.iadd, 1) := by decide +kernel
theorem d_Model_build_613 : decode b_Model_build 613 = .ok (.iload 5, 2) := by decide +kernel
theorem d_Model_build_615 : decode b_Model_build 615 = .ok (.iastore, 1) := by decide +kernel
theorem d_Model_build_616 : decode b_Model_build 616 = .ok (.iinc 4 1, 3) := by decide +kernel
theorem d_Model_build_619 : decode b_Model_build 619 = .ok (.goto (-113), 3) := by decide +kernel
theorem d_Model_build_622 : decode b_Model_build 622 = .ok (.aload_n 0, 1) := by decide +kernel
theorem d_Model_build_623 : decode b_Model_build 623 = .ok (.invokevirtual 145, 3) := by decide +kernel
theorem d_Model_build_626 : decode b_Model_build 626 = .ok (.return_, 1) := by decide +kernel
def f_Model_build_456 (n : Nat) (k314 : Int32 → Int32 → St → Option (Unit × St)) (y1 : Int32) (y4 : Int32) (s0 : Int32) (s1 : Int32) (σ : St) : Option (Unit × St) := gd (inb s1 8) (bnd (sA σ 7 s1.toNatClampNeg s0) (fun σ109 => gd (inb (σ109.1 1) 8) (bnd (sA σ109 8 (σ109.1 1).toNatClampNeg 0) (fun σ111 => gd (inb (σ111.1 1) 8) (bnd (sA σ111 9 (σ111.1 1).toNatClampNeg 0) (fun σ113 => gd (inb (σ113.1 1) 8) (bnd (sA σ113 10 (σ113.1 1).toNatClampNeg 0) (fun σ115 => bnd (sI σ115 1 ((σ115.1 1) + 1)) (fun σ116 => bnd (y4 + 1) (fun v117 => k314 y1 v117 σ116))))))))))
def f_Model_build_506 (n : Nat) : Nat → Int32 → St → Option (Unit × St)
  | 0, _, _ => none
  | j + 1, y4, σ => if 3 ≤ y4 then (bd (f_Model_know n σ) (fun _ σ120 => some ((), σ120))) else (bd (f_Model_make n 4 σ) (fun r122 σ123 => bd (f_Model_make n 4 σ123) (fun r125 σ126 => gd (inb r125 4) (gd (inb r125 4) (bd (f_Model_make n (σ126.2.2 13 r125.toNatClampNeg) σ126) (fun r130 σ131 => bnd ((σ126.2.2 11 r125.toNatClampNeg) + r130) (fun v133 => gd (inb r125 4) (gd (inb r125 4) (bd (f_Model_make n (σ131.2.2 14 r125.toNatClampNeg) σ131) (fun r136 σ137 => bnd ((σ131.2.2 12 r125.toNatClampNeg) + r136) (fun v139 => gd (inb ((12 * v139) + v133) 120) (if 0 ≤ (σ137.2.2 1 ((12 * v139) + v133).toNatClampNeg) then (bnd (y4 + 1) (fun v142 => f_Model_build_506 n j v142 σ137)) else (gd (inb ((12 * v139) + v133) 120) (if (σ137.2.2 0 ((12 * v139) + v133).toNatClampNeg) = 2 then (bnd (y4 + 1) (fun v145 => f_Model_build_506 n j v145 σ137)) else (gd (inb ((12 * v139) + v133) 120) (bnd (sA σ137 1 ((12 * v139) + v133).toNatClampNeg r122) (fun σ147 => bnd (y4 + 1) (fun v148 => f_Model_build_506 n j v148 σ147))))))))))))))))))
theorem f_Model_build_506_s (n : Nat) (j : Nat) (y4 : Int32) (σ : St) : f_Model_build_506 n (j + 1) y4 σ = (if 3 ≤ y4 then (bd (f_Model_know n σ) (fun _ σ120 => some ((), σ120))) else (bd (f_Model_make n 4 σ) (fun r122 σ123 => bd (f_Model_make n 4 σ123) (fun r125 σ126 => gd (inb r125 4) (gd (inb r125 4) (bd (f_Model_make n (σ126.2.2 13 r125.toNatClampNeg) σ126) (fun r130 σ131 => bnd ((σ126.2.2 11 r125.toNatClampNeg) + r130) (fun v133 => gd (inb r125 4) (gd (inb r125 4) (bd (f_Model_make n (σ131.2.2 14 r125.toNatClampNeg) σ131) (fun r136 σ137 => bnd ((σ131.2.2 12 r125.toNatClampNeg) + r136) (fun v139 => gd (inb ((12 * v139) + v133) 120) (if 0 ≤ (σ137.2.2 1 ((12 * v139) + v133).toNatClampNeg) then (bnd (y4 + 1) (fun v142 => f_Model_build_506 n j v142 σ137)) else (gd (inb ((12 * v139) + v133) 120) (if (σ137.2.2 0 ((12 * v139) + v133).toNatClampNeg) = 2 then (bnd (y4 + 1) (fun v145 => f_Model_build_506 n j v145 σ137)) else (gd (inb ((12 * v139) + v133) 120) (bnd (sA σ137 1 ((12 * v139) + v133).toNatClampNeg r122) (fun σ147 => bnd (y4 + 1) (fun v148 => f_Model_build_506 n j v148 σ147))))))))))))))))))) := rfl
def f_Model_build_314 (n : Nat) : Nat → Int32 → Int32 → St → Option (Unit × St)
  | 0, _, _, _ => none
  | j + 1, y1, y4, σ => if (2 + y1) ≤ y4 then (f_Model_build_506 n n 0 σ) else (bd (f_Model_make n 3 σ) (fun r76 σ77 => bd (f_Model_make n 3 σ77) (fun r79 σ80 => bnd (1 + r79) (fun v82 => gd (inb v82 4) (gd (inb v82 4) (bd (f_Model_make n (σ80.2.2 13 v82.toNatClampNeg) σ80) (fun r85 σ86 => bnd ((σ80.2.2 11 v82.toNatClampNeg) + r85) (fun v88 => gd (inb v82 4) (gd (inb v82 4) (bd (f_Model_make n (σ86.2.2 14 v82.toNatClampNeg) σ86) (fun r91 σ92 => bnd ((σ86.2.2 12 v82.toNatClampNeg) + r91) (fun v94 => bd (f_Model_monsterAt n v88 v94 σ92) (fun r95 σ96 => if r95 < 0 then (gd (inb (σ96.1 1) 8) (bnd (sA σ96 4 (σ96.1 1).toNatClampNeg r76) (fun σ100 => gd (inb (σ100.1 1) 8) (bnd (sA σ100 5 (σ100.1 1).toNatClampNeg v88) (fun σ102 => gd (inb (σ102.1 1) 8) (bnd (sA σ102 6 (σ102.1 1).toNatClampNeg v94) (fun σ104 => if r76 = 0 then (f_Model_build_456 n (fun y1 y4 σ => f_Model_build_314 n j y1 y4 σ) y1 y4 3 (σ104.1 1) σ104) else (if r76 = 1 then (f_Model_build_456 n (fun y1 y4 σ => f_Model_build_314 n j y1 y4 σ) y1 y4 6 (σ104.1 1) σ104) else (f_Model_build_456 n (fun y1 y4 σ => f_Model_build_314 n j y1 y4 σ) y1 y4 2 (σ104.1 1) σ104))))))))) else (bnd (y4 + 1) (fun v107 => f_Model_build_314 n j y1 v107 σ96)))))))))))))))
theorem f_Model_build_314_s (n : Nat) (j : Nat) (y1 : Int32) (y4 : Int32) (σ : St) : f_Model_build_314 n (j + 1) y1 y4 σ = (if (2 + y1) ≤ y4 then (f_Model_build_506 n n 0 σ) else (bd (f_Model_make n 3 σ) (fun r76 σ77 => bd (f_Model_make n 3 σ77) (fun r79 σ80 => bnd (1 + r79) (fun v82 => gd (inb v82 4) (gd (inb v82 4) (bd (f_Model_make n (σ80.2.2 13 v82.toNatClampNeg) σ80) (fun r85 σ86 => bnd ((σ80.2.2 11 v82.toNatClampNeg) + r85) (fun v88 => gd (inb v82 4) (gd (inb v82 4) (bd (f_Model_make n (σ86.2.2 14 v82.toNatClampNeg) σ86) (fun r91 σ92 => bnd ((σ86.2.2 12 v82.toNatClampNeg) + r91) (fun v94 => bd (f_Model_monsterAt n v88 v94 σ92) (fun r95 σ96 => if r95 < 0 then (gd (inb (σ96.1 1) 8) (bnd (sA σ96 4 (σ96.1 1).toNatClampNeg r76) (fun σ100 => gd (inb (σ100.1 1) 8) (bnd (sA σ100 5 (σ100.1 1).toNatClampNeg v88) (fun σ102 => gd (inb (σ102.1 1) 8) (bnd (sA σ102 6 (σ102.1 1).toNatClampNeg v94) (fun σ104 => if r76 = 0 then (f_Model_build_456 n (fun y1 y4 σ => f_Model_build_314 n j y1 y4 σ) y1 y4 3 (σ104.1 1) σ104) else (if r76 = 1 then (f_Model_build_456 n (fun y1 y4 σ => f_Model_build_314 n j y1 y4 σ) y1 y4 6 (σ104.1 1) σ104) else (f_Model_build_456 n (fun y1 y4 σ => f_Model_build_314 n j y1 y4 σ) y1 y4 2 (σ104.1 1) σ104))))))))) else (bnd (y4 + 1) (fun v107 => f_Model_build_314 n j y1 v107 σ96)))))))))))))))) := rfl
def f_Model_build_60 (n : Nat) : Nat → Int32 → Int32 → St → Option (Unit × St)
  | 0, _, _, _ => none
  | j + 1, y1, y2, σ => if 4 ≤ y2 then (bd (f_Model_way n 0 1 σ) (fun _ σ13 => bd (f_Model_way n 1 3 σ13) (fun _ σ16 => bd (f_Model_way n 3 2 σ16) (fun _ σ19 => gd (inb 2 4) (gd (inb 2 4) (bd (f_Model_make n (σ19.2.2 13 (2 : Int32).toNatClampNeg) σ19) (fun r23 σ24 => bnd ((σ19.2.2 11 (2 : Int32).toNatClampNeg) + r23) (fun v26 => gd (inb 2 4) (gd (inb 2 4) (bd (f_Model_make n (σ24.2.2 14 (2 : Int32).toNatClampNeg) σ24) (fun r29 σ30 => bnd ((σ24.2.2 12 (2 : Int32).toNatClampNeg) + r29) (fun v32 => gd (inb ((12 * v32) + v26) 120) (bnd (sA σ30 0 ((12 * v32) + v26).toNatClampNeg 2) (fun σ34 => gd (inb 0 4) (gd (inb 0 4) (bnd (sI σ34 2 ((σ34.2.2 11 (0 : Int32).toNatClampNeg) + ((σ34.2.2 13 (0 : Int32).toNatClampNeg) / 2))) (fun σ37 => gd (inb 0 4) (gd (inb 0 4) (bnd (sI σ37 3 ((σ37.2.2 12 (0 : Int32).toNatClampNeg) + ((σ37.2.2 14 (0 : Int32).toNatClampNeg) / 2))) (fun σ40 => bnd (sI σ40 6 10) (fun σ41 => bnd (sI σ41 1 0) (fun σ42 => f_Model_build_314 n n y1 0 σ42)))))))))))))))))))))) else (bd (f_Model_make n 3 σ) (fun r43 σ44 => gd (inb y2 4) (bnd (sA σ44 13 y2.toNatClampNeg (2 + r43)) (fun σ47 => bd (f_Model_make n 2 σ47) (fun r48 σ49 => gd (inb y2 4) (bnd (sA σ49 14 y2.toNatClampNeg (2 + r48)) (fun σ52 => gd (inb y2 4) (bd (f_Model_make n (5 - (σ52.2.2 13 y2.toNatClampNeg)) σ52) (fun r54 σ55 => gd (inb y2 4) (bnd (sA σ55 11 y2.toNatClampNeg (((6 * (y2 - y2 / 2 * 2)) + 1) + r54)) (fun σ58 => gd (inb y2 4) (bd (f_Model_make n (4 - (σ58.2.2 14 y2.toNatClampNeg)) σ58) (fun r60 σ61 => gd (inb y2 4) (bnd (sA σ61 12 y2.toNatClampNeg (((5 * (y2 / 2)) + 1) + r60)) (fun σ64 => gd (inb y2 4) (gd (inb y2 4) (gd (inb y2 4) (gd (inb y2 4) (gd (inb y2 4) (gd (inb y2 4) (bd (f_Model_dig n (σ64.2.2 11 y2.toNatClampNeg) (σ64.2.2 12 y2.toNatClampNeg) (((σ64.2.2 11 y2.toNatClampNeg) + (σ64.2.2 13 y2.toNatClampNeg)) - 1) (((σ64.2.2 12 y2.toNatClampNeg) + (σ64.2.2 14 y2.toNatClampNeg)) - 1) σ64) (fun _ σ72 => bnd (y2 + 1) (fun v74 => f_Model_build_60 n j y1 v74 σ72)))))))))))))))))))))))
theorem f_Model_build_60_s (n : Nat) (j : Nat) (y1 : Int32) (y2 : Int32) (σ : St) : f_Model_build_60 n (j + 1) y1 y2 σ = (if 4 ≤ y2 then (bd (f_Model_way n 0 1 σ) (fun _ σ13 => bd (f_Model_way n 1 3 σ13) (fun _ σ16 => bd (f_Model_way n 3 2 σ16) (fun _ σ19 => gd (inb 2 4) (gd (inb 2 4) (bd (f_Model_make n (σ19.2.2 13 (2 : Int32).toNatClampNeg) σ19) (fun r23 σ24 => bnd ((σ19.2.2 11 (2 : Int32).toNatClampNeg) + r23) (fun v26 => gd (inb 2 4) (gd (inb 2 4) (bd (f_Model_make n (σ24.2.2 14 (2 : Int32).toNatClampNeg) σ24) (fun r29 σ30 => bnd ((σ24.2.2 12 (2 : Int32).toNatClampNeg) + r29) (fun v32 => gd (inb ((12 * v32) + v26) 120) (bnd (sA σ30 0 ((12 * v32) + v26).toNatClampNeg 2) (fun σ34 => gd (inb 0 4) (gd (inb 0 4) (bnd (sI σ34 2 ((σ34.2.2 11 (0 : Int32).toNatClampNeg) + ((σ34.2.2 13 (0 : Int32).toNatClampNeg) / 2))) (fun σ37 => gd (inb 0 4) (gd (inb 0 4) (bnd (sI σ37 3 ((σ37.2.2 12 (0 : Int32).toNatClampNeg) + ((σ37.2.2 14 (0 : Int32).toNatClampNeg) / 2))) (fun σ40 => bnd (sI σ40 6 10) (fun σ41 => bnd (sI σ41 1 0) (fun σ42 => f_Model_build_314 n n y1 0 σ42)))))))))))))))))))))) else (bd (f_Model_make n 3 σ) (fun r43 σ44 => gd (inb y2 4) (bnd (sA σ44 13 y2.toNatClampNeg (2 + r43)) (fun σ47 => bd (f_Model_make n 2 σ47) (fun r48 σ49 => gd (inb y2 4) (bnd (sA σ49 14 y2.toNatClampNeg (2 + r48)) (fun σ52 => gd (inb y2 4) (bd (f_Model_make n (5 - (σ52.2.2 13 y2.toNatClampNeg)) σ52) (fun r54 σ55 => gd (inb y2 4) (bnd (sA σ55 11 y2.toNatClampNeg (((6 * (y2 - y2 / 2 * 2)) + 1) + r54)) (fun σ58 => gd (inb y2 4) (bd (f_Model_make n (4 - (σ58.2.2 14 y2.toNatClampNeg)) σ58) (fun r60 σ61 => gd (inb y2 4) (bnd (sA σ61 12 y2.toNatClampNeg (((5 * (y2 / 2)) + 1) + r60)) (fun σ64 => gd (inb y2 4) (gd (inb y2 4) (gd (inb y2 4) (gd (inb y2 4) (gd (inb y2 4) (gd (inb y2 4) (bd (f_Model_dig n (σ64.2.2 11 y2.toNatClampNeg) (σ64.2.2 12 y2.toNatClampNeg) (((σ64.2.2 11 y2.toNatClampNeg) + (σ64.2.2 13 y2.toNatClampNeg)) - 1) (((σ64.2.2 12 y2.toNatClampNeg) + (σ64.2.2 14 y2.toNatClampNeg)) - 1) σ64) (fun _ σ72 => bnd (y2 + 1) (fun v74 => f_Model_build_60 n j y1 v74 σ72)))))))))))))))))))))))) := rfl
def f_Model_build_25 (n : Nat) : Nat → Int32 → Int32 → St → Option (Unit × St)
  | 0, _, _, _ => none
  | j + 1, y1, y2, σ => if 120 ≤ y2 then (f_Model_build_60 n n y1 0 σ) else (gd (inb y2 120) (bnd (sA σ 0 y2.toNatClampNeg 0) (fun σ5 => gd (inb y2 120) (bnd (sA σ5 1 y2.toNatClampNeg (-1)) (fun σ7 => gd (inb y2 120) (bnd (sA σ7 3 y2.toNatClampNeg 0) (fun σ9 => bnd (y2 + 1) (fun v10 => f_Model_build_25 n j y1 v10 σ9))))))))
theorem f_Model_build_25_s (n : Nat) (j : Nat) (y1 : Int32) (y2 : Int32) (σ : St) : f_Model_build_25 n (j + 1) y1 y2 σ = (if 120 ≤ y2 then (f_Model_build_60 n n y1 0 σ) else (gd (inb y2 120) (bnd (sA σ 0 y2.toNatClampNeg 0) (fun σ5 => gd (inb y2 120) (bnd (sA σ5 1 y2.toNatClampNeg (-1)) (fun σ7 => gd (inb y2 120) (bnd (sA σ7 3 y2.toNatClampNeg 0) (fun σ9 => bnd (y2 + 1) (fun v10 => f_Model_build_25 n j y1 v10 σ9))))))))) := rfl
def f_Model_build (n : Nat) (x1 : Int32) (σ : St) : Option (Unit × St) := bnd (sI σ 8 x1) (fun σ1 => bnd (sL σ1 0 ((((Int32.toInt64 (σ1.1 0)) + 1) * 1000003) + (Int32.toInt64 x1))) (fun σ2 => f_Model_build_25 n n x1 0 σ2))
set_option maxHeartbeats 4000000 in
set_option maxRecDepth 100000 in
theorem c_Model_build (l : Launch) (D : va_G) (ad : Nat → Nat) (cA : Nat → ClassId) (tz : Nat → Nat) (n : Nat) (x1 : Int32) (σ : St) (r : Unit) (σr : St) (hf : f_Model_build n x1 σ = some (r, σr)) : Kv l D cA tz (wm ad cA) y_Model_build (.code y_Model_build b_Model_build 9 none :: TB) ({ frames := 5, cells := 0, slots := 0, locals := 117 }) [.ref (ad 0), .int x1] σ σr := by
  refine x_openv (r := r) (own := R_Model) rfl (by decide) (fun p e s m args below meth c A Q X hml hZ hA H locs ls h hl rt => ?_)
  have hx := X.1
  have hb := X.2.1
  have hl : lv_has ls 9 [(0, .ref (ad 0)), (1, .int x1)] := hl
  have L456 : ∀ (k314 : Int32 → Int32 → St → Option (Unit × St)), (∀ (y1 : Int32) (y4 : Int32) (σ : St), k314 y1 y4 σ = some (r, σr) → ∀ (H : Heap) (locs : List Loc) (ls : Array Slot), WD D A s (wm ad cA σ) H locs → lv_has ls 9 [(0, .ref (ad 0)), (1, .int y1), (4, .int y4)] → W p l e ({ frames := 5, cells := 0, slots := 0, locals := 117 }) s m args below meth c H locs 0 0 Q (F0 m 314 ls [])) → ∀ (y1 : Int32) (y4 : Int32) (s0 : Int32) (s1 : Int32) (σ : St), f_Model_build_456 n k314 y1 y4 s0 s1 σ = some (r, σr) → ∀ (H : Heap) (locs : List Loc) (ls : Array Slot), WD D A s (wm ad cA σ) H locs → lv_has ls 9 [(0, .ref (ad 0)), (1, .int y1), (4, .int y4)] → W p l e ({ frames := 5, cells := 0, slots := 0, locals := 117 }) s m args below meth c H locs 0 0 Q (F0 m 456 ls [.int s0, .int s1, .ref (ad 8)]) := by
    intro k314 K314
    intro y1 y4 s0 s1 σ hf H locs ls h hl
    unfold f_Model_build_456 at hf
    obtain ⟨g108, hf⟩ := gd_s hf
    refine S_mhealth X h (inb_s g108) d_Model_build_456 (fun H locs σ109 eσ109 h => ?_)
    have hf := nm_b hf eσ109
    refine lv_aload_n hx hb d_Model_build_457 rfl (lv_at hl 0 rfl) ?_
    refine G_model_energy X h m_f_Model_35 d_Model_build_458 ?_
    refine lv_aload_n hx hb d_Model_build_461 rfl (lv_at hl 0 rfl) ?_
    refine G_model_monsters X h m_f_Model_138 d_Model_build_462 ?_
    refine lv_iconst (v := 0) hx hb d_Model_build_465 (by decide) ?_
    obtain ⟨g110, hf⟩ := gd_s hf
    refine S_menergy X h (inb_s g110) d_Model_build_466 (fun H locs σ111 eσ111 h => ?_)
    have hf := nm_b hf eσ111
    refine lv_aload_n hx hb d_Model_build_467 rfl (lv_at hl 0 rfl) ?_
    refine G_model_awake X h m_f_Model_38 d_Model_build_468 ?_
    refine lv_aload_n hx hb d_Model_build_471 rfl (lv_at hl 0 rfl) ?_
    refine G_model_monsters X h m_f_Model_138 d_Model_build_472 ?_
    refine lv_iconst (v := 0) hx hb d_Model_build_475 (by decide) ?_
    obtain ⟨g112, hf⟩ := gd_s hf
    refine S_mawake X h (inb_s g112) rfl d_Model_build_476 (fun H locs σ113 eσ113 h => ?_)
    have hf := nm_b hf eσ113
    refine lv_aload_n hx hb d_Model_build_477 rfl (lv_at hl 0 rfl) ?_
    refine G_model_gone X h m_f_Model_41 d_Model_build_478 ?_
    refine lv_aload_n hx hb d_Model_build_481 rfl (lv_at hl 0 rfl) ?_
    refine G_model_monsters X h m_f_Model_138 d_Model_build_482 ?_
    refine lv_iconst (v := 0) hx hb d_Model_build_485 (by decide) ?_
    obtain ⟨g114, hf⟩ := gd_s hf
    refine S_mgone X h (inb_s g114) rfl d_Model_build_486 (fun H locs σ115 eσ115 h => ?_)
    have hf := nm_b hf eσ115
    refine lv_aload_n hx hb d_Model_build_487 rfl (lv_at hl 0 rfl) ?_
    refine lv_dup hx hb d_Model_build_488 rfl ?_
    refine G_model_monsters X h m_f_Model_138 d_Model_build_489 ?_
    refine lv_iconst (v := 1) hx hb d_Model_build_492 (by decide) ?_
    refine lv_iadd hx hb d_Model_build_493 ?_
    refine P_model_monsters X h m_f_Model_138 d_Model_build_494 (fun H locs σ116 eσ116 h => ?_)
    have hf := nm_b hf eσ116
    obtain ⟨v117, ev117⟩ : ∃ y : Int32, y = y4 + 1 := ⟨_, rfl⟩
    have hf := nm_b hf ev117
    refine lv_iinc (v := v117) (lv' := [(4, .int v117), (0, .ref (ad 0)), (1, .int y1)]) hx hb d_Model_build_497 hl (k := 2) rfl (by rw [ev117]; rfl) (by decide) rfl (fun ls hl => ?_)
    refine lv_goto (tgt := 314) hx hb d_Model_build_500 (by decide) ?_
    exact K314 y1 v117 σ116 hf H locs ls h (lv_sub hl [1, 2, 0] rfl)
  have L506 : ∀ j : Nat, ∀ (y4 : Int32) (σ : St), f_Model_build_506 n j y4 σ = some (r, σr) → ∀ (H : Heap) (locs : List Loc) (ls : Array Slot), WD D A s (wm ad cA σ) H locs → lv_has ls 9 [(0, .ref (ad 0)), (4, .int y4)] → W p l e ({ frames := 5, cells := 0, slots := 0, locals := 117 }) s m args below meth c H locs 0 0 Q (F0 m 506 ls []) := by
    intro j
    induction j with
    | zero => intro y4 σ hf; exact absurd hf (fun z => by cases z)
    | succ j ih =>
      intro y4 σ hf H locs ls h hl
      have hf := us (f_Model_build_506_s n j y4 σ) hf
      refine lv_iload hx hb d_Model_build_506 (lv_at hl 1 rfl) ?_
      refine lv_iconst (v := 3) hx hb d_Model_build_508 (by decide) ?_
      refine lv_icmp_ge (tgt := 622) hx hb d_Model_build_509 (by decide) (fun c118 => ?_) (fun c118 => ?_)
      · have hf := it c118 hf
        refine lv_aload_n hx hb d_Model_build_622 rfl (lv_at hl 0 rfl) ?_
        obtain ⟨r119, σ120, h121, hf⟩ := bd_s hf
        refine x_Vv (As := []) (rest := []) X hml hl.1 hZ hA h (c_Model_know l D ad cA tz n σ r119 σ120 h121) k_Model_know m_m_Model_145 kd_Model_know ⟨rfl, rfl, Nat.le_of_ble_eq_true rfl, Nat.le_of_ble_eq_true rfl⟩ 0 rfl rfl rfl rfl rfl (Nat.le_of_ble_eq_true rfl) d_Model_build_623 (fun H locs h => ?_)
        exact rt _ H locs 626 ls hf h d_Model_build_626
      · have hf := ie c118 hf
        refine lv_aload_n hx hb d_Model_build_512 rfl (lv_at hl 0 rfl) ?_
        refine lv_iconst (v := 4) hx hb d_Model_build_513 (by decide) ?_
        obtain ⟨r122, σ123, h124, hf⟩ := bd_s hf
        refine x_Vi (As := [.int 4]) (rest := []) X hml hl.1 hZ hA h (c_Model_make l D ad cA tz n 4 σ r122 σ123 h124) k_Model_make m_m_Model_112 kd_Model_make ⟨rfl, rfl, Nat.le_of_ble_eq_true rfl, Nat.le_of_ble_eq_true rfl⟩ 0 rfl rfl rfl rfl rfl (Nat.le_of_ble_eq_true rfl) d_Model_build_514 (fun H locs h => ?_)
        refine lv_istore (lv' := [(5, .int r122), (0, .ref (ad 0)), (4, .int y4)]) hx hb d_Model_build_517 hl (by decide) rfl (fun ls hl => ?_)
        refine lv_aload_n hx hb d_Model_build_519 rfl (lv_at hl 1 rfl) ?_
        refine lv_iconst (v := 4) hx hb d_Model_build_520 (by decide) ?_
        obtain ⟨r125, σ126, h127, hf⟩ := bd_s hf
        refine x_Vi (As := [.int 4]) (rest := []) X hml hl.1 hZ hA h (c_Model_make l D ad cA tz n 4 σ123 r125 σ126 h127) k_Model_make m_m_Model_112 kd_Model_make ⟨rfl, rfl, Nat.le_of_ble_eq_true rfl, Nat.le_of_ble_eq_true rfl⟩ 0 rfl rfl rfl rfl rfl (Nat.le_of_ble_eq_true rfl) d_Model_build_521 (fun H locs h => ?_)
        refine lv_istore (lv' := [(6, .int r125), (5, .int r122), (0, .ref (ad 0)), (4, .int y4)]) hx hb d_Model_build_524 hl (by decide) rfl (fun ls hl => ?_)
        refine lv_aload_n hx hb d_Model_build_526 rfl (lv_at hl 2 rfl) ?_
        refine G_model_left X h m_f_Model_44 d_Model_build_527 ?_
        refine lv_iload hx hb d_Model_build_530 (lv_at hl 0 rfl) ?_
        obtain ⟨g128, hf⟩ := gd_s hf
        refine R_mleft X h (inb_s g128) d_Model_build_532 ?_
        refine lv_aload_n hx hb d_Model_build_533 rfl (lv_at hl 2 rfl) ?_
        refine lv_aload_n hx hb d_Model_build_534 rfl (lv_at hl 2 rfl) ?_
        refine G_model_wide X h m_f_Model_50 d_Model_build_535 ?_
        refine lv_iload hx hb d_Model_build_538 (lv_at hl 0 rfl) ?_
        obtain ⟨g129, hf⟩ := gd_s hf
        refine R_mwide X h (inb_s g129) d_Model_build_540 ?_
        obtain ⟨r130, σ131, h132, hf⟩ := bd_s hf
        refine x_Vi (As := [.int (σ126.2.2 13 r125.toNatClampNeg)]) (rest := [.int (σ126.2.2 11 r125.toNatClampNeg)]) X hml hl.1 hZ hA h (c_Model_make l D ad cA tz n (σ126.2.2 13 r125.toNatClampNeg) σ126 r130 σ131 h132) k_Model_make m_m_Model_112 kd_Model_make ⟨rfl, rfl, Nat.le_of_ble_eq_true rfl, Nat.le_of_ble_eq_true rfl⟩ 0 rfl rfl rfl rfl rfl (Nat.le_of_ble_eq_true rfl) d_Model_build_541 (fun H locs h => ?_)
        refine lv_iadd hx hb d_Model_build_544 ?_
        refine lv_topi (fun v133 ev133 => ?_)
        have hf := nm_b hf ev133
        refine lv_istore (lv' := [(7, .int v133), (6, .int r125), (5, .int r122), (0, .ref (ad 0)), (4, .int y4)]) hx hb d_Model_build_545 hl (by decide) rfl (fun ls hl => ?_)
        refine lv_aload_n hx hb d_Model_build_547 rfl (lv_at hl 3 rfl) ?_
        refine G_model_top X h m_f_Model_47 d_Model_build_548 ?_
        refine lv_iload hx hb d_Model_build_551 (lv_at hl 1 rfl) ?_
        obtain ⟨g134, hf⟩ := gd_s hf
        refine R_mtop X h (inb_s g134) d_Model_build_553 ?_
        refine lv_aload_n hx hb d_Model_build_554 rfl (lv_at hl 3 rfl) ?_
        refine lv_aload_n hx hb d_Model_build_555 rfl (lv_at hl 3 rfl) ?_
        refine G_model_high X h m_f_Model_53 d_Model_build_556 ?_
        refine lv_iload hx hb d_Model_build_559 (lv_at hl 1 rfl) ?_
        obtain ⟨g135, hf⟩ := gd_s hf
        refine R_mhigh X h (inb_s g135) d_Model_build_561 ?_
        obtain ⟨r136, σ137, h138, hf⟩ := bd_s hf
        refine x_Vi (As := [.int (σ131.2.2 14 r125.toNatClampNeg)]) (rest := [.int (σ131.2.2 12 r125.toNatClampNeg)]) X hml hl.1 hZ hA h (c_Model_make l D ad cA tz n (σ131.2.2 14 r125.toNatClampNeg) σ131 r136 σ137 h138) k_Model_make m_m_Model_112 kd_Model_make ⟨rfl, rfl, Nat.le_of_ble_eq_true rfl, Nat.le_of_ble_eq_true rfl⟩ 0 rfl rfl rfl rfl rfl (Nat.le_of_ble_eq_true rfl) d_Model_build_562 (fun H locs h => ?_)
        refine lv_iadd hx hb d_Model_build_565 ?_
        refine lv_topi (fun v139 ev139 => ?_)
        have hf := nm_b hf ev139
        refine lv_istore (lv' := [(8, .int v139), (7, .int v133), (6, .int r125), (5, .int r122), (0, .ref (ad 0)), (4, .int y4)]) hx hb d_Model_build_566 hl (by decide) rfl (fun ls hl => ?_)
        refine lv_aload_n hx hb d_Model_build_568 rfl (lv_at hl 4 rfl) ?_
        refine G_model_thing X h m_f_Model_13 d_Model_build_569 ?_
        refine lv_bipush (v := 12) hx hb d_Model_build_572 (by decide) ?_
        refine lv_iload hx hb d_Model_build_574 (lv_at hl 0 rfl) ?_
        refine lv_imul hx hb d_Model_build_576 ?_
        refine lv_iload hx hb d_Model_build_577 (lv_at hl 1 rfl) ?_
        refine lv_iadd hx hb d_Model_build_579 ?_
        obtain ⟨g140, hf⟩ := gd_s hf
        refine R_mthing X h (inb_s g140) d_Model_build_580 ?_
        refine lv_if_ge (tgt := 616) hx hb d_Model_build_581 (by decide) (fun c141 => ?_) (fun c141 => ?_)
        · have hf := it c141 hf
          obtain ⟨v142, ev142⟩ : ∃ y : Int32, y = y4 + 1 := ⟨_, rfl⟩
          have hf := nm_b hf ev142
          refine lv_iinc (v := v142) (lv' := [(4, .int v142), (8, .int v139), (7, .int v133), (6, .int r125), (5, .int r122), (0, .ref (ad 0))]) hx hb d_Model_build_616 hl (k := 5) rfl (by rw [ev142]; rfl) (by decide) rfl (fun ls hl => ?_)
          refine lv_goto (tgt := 506) hx hb d_Model_build_619 (by decide) ?_
          exact ih v142 σ137 hf H locs ls h (lv_sub hl [5, 0] rfl)
        · have hf := ie c141 hf
          refine lv_aload_n hx hb d_Model_build_584 rfl (lv_at hl 4 rfl) ?_
          refine G_model_floor X h m_f_Model_7 d_Model_build_585 ?_
          refine lv_bipush (v := 12) hx hb d_Model_build_588 (by decide) ?_
          refine lv_iload hx hb d_Model_build_590 (lv_at hl 0 rfl) ?_
          refine lv_imul hx hb d_Model_build_592 ?_
          refine lv_iload hx hb d_Model_build_593 (lv_at hl 1 rfl) ?_
          refine lv_iadd hx hb d_Model_build_595 ?_
          obtain ⟨g143, hf⟩ := gd_s hf
          refine R_mfloor X h (inb_s g143) d_Model_build_596 ?_
          refine lv_iconst (v := 2) hx hb d_Model_build_597 (by decide) ?_
          refine lv_icmp_eq (tgt := 616) hx hb d_Model_build_598 (by decide) (fun c144 => ?_) (fun c144 => ?_)
          · have hf := it c144 hf
            obtain ⟨v145, ev145⟩ : ∃ y : Int32, y = y4 + 1 := ⟨_, rfl⟩
            have hf := nm_b hf ev145
            refine lv_iinc (v := v145) (lv' := [(4, .int v145), (8, .int v139), (7, .int v133), (6, .int r125), (5, .int r122), (0, .ref (ad 0))]) hx hb d_Model_build_616 hl (k := 5) rfl (by rw [ev145]; rfl) (by decide) rfl (fun ls hl => ?_)
            refine lv_goto (tgt := 506) hx hb d_Model_build_619 (by decide) ?_
            exact ih v145 σ137 hf H locs ls h (lv_sub hl [5, 0] rfl)
          · have hf := ie c144 hf
            refine lv_aload_n hx hb d_Model_build_601 rfl (lv_at hl 4 rfl) ?_
            refine G_model_thing X h m_f_Model_13 d_Model_build_602 ?_
            refine lv_bipush (v := 12) hx hb d_Model_build_605 (by decide) ?_
            refine lv_iload hx hb d_Model_build_607 (lv_at hl 0 rfl) ?_
            refine lv_imul hx hb d_Model_build_609 ?_
            refine lv_iload hx hb d_Model_build_610 (lv_at hl 1 rfl) ?_
            refine lv_iadd hx hb d_Model_build_612 ?_
            refine lv_iload hx hb d_Model_build_613 (lv_at hl 3 rfl) ?_
            obtain ⟨g146, hf⟩ := gd_s hf
            refine S_mthing X h (inb_s g146) d_Model_build_615 (fun H locs σ147 eσ147 h => ?_)
            have hf := nm_b hf eσ147
            obtain ⟨v148, ev148⟩ : ∃ y : Int32, y = y4 + 1 := ⟨_, rfl⟩
            have hf := nm_b hf ev148
            refine lv_iinc (v := v148) (lv' := [(4, .int v148), (8, .int v139), (7, .int v133), (6, .int r125), (5, .int r122), (0, .ref (ad 0))]) hx hb d_Model_build_616 hl (k := 5) rfl (by rw [ev148]; rfl) (by decide) rfl (fun ls hl => ?_)
            refine lv_goto (tgt := 506) hx hb d_Model_build_619 (by decide) ?_
            exact ih v148 σ147 hf H locs ls h (lv_sub hl [5, 0] rfl)
  have L314 : ∀ j : Nat, ∀ (y1 : Int32) (y4 : Int32) (σ : St), f_Model_build_314 n j y1 y4 σ = some (r, σr) → ∀ (H : Heap) (locs : List Loc) (ls : Array Slot), WD D A s (wm ad cA σ) H locs → lv_has ls 9 [(0, .ref (ad 0)), (1, .int y1), (4, .int y4)] → W p l e ({ frames := 5, cells := 0, slots := 0, locals := 117 }) s m args below meth c H locs 0 0 Q (F0 m 314 ls []) := by
    intro j
    induction j with
    | zero => intro y1 y4 σ hf; exact absurd hf (fun z => by cases z)
    | succ j ih =>
      intro y1 y4 σ hf H locs ls h hl
      have hf := us (f_Model_build_314_s n j y1 y4 σ) hf
      refine lv_iload hx hb d_Model_build_314 (lv_at hl 2 rfl) ?_
      refine lv_iconst (v := 2) hx hb d_Model_build_316 (by decide) ?_
      refine lv_iload_n hx hb d_Model_build_317 rfl (lv_at hl 1 rfl) ?_
      refine lv_iadd hx hb d_Model_build_318 ?_
      refine lv_icmp_ge (tgt := 503) hx hb d_Model_build_319 (by decide) (fun c75 => ?_) (fun c75 => ?_)
      · have hf := it c75 hf
        refine lv_iconst (v := 0) hx hb d_Model_build_503 (by decide) ?_
        refine lv_istore (lv' := [(4, .int 0), (0, .ref (ad 0)), (1, .int y1)]) hx hb d_Model_build_504 hl (by decide) rfl (fun ls hl => ?_)
        exact L506 n 0 σ hf H locs ls h (lv_sub hl [1, 0] rfl)
      · have hf := ie c75 hf
        refine lv_aload_n hx hb d_Model_build_322 rfl (lv_at hl 0 rfl) ?_
        refine lv_iconst (v := 3) hx hb d_Model_build_323 (by decide) ?_
        obtain ⟨r76, σ77, h78, hf⟩ := bd_s hf
        refine x_Vi (As := [.int 3]) (rest := []) X hml hl.1 hZ hA h (c_Model_make l D ad cA tz n 3 σ r76 σ77 h78) k_Model_make m_m_Model_112 kd_Model_make ⟨rfl, rfl, Nat.le_of_ble_eq_true rfl, Nat.le_of_ble_eq_true rfl⟩ 0 rfl rfl rfl rfl rfl (Nat.le_of_ble_eq_true rfl) d_Model_build_324 (fun H locs h => ?_)
        refine lv_istore (lv' := [(5, .int r76), (0, .ref (ad 0)), (1, .int y1), (4, .int y4)]) hx hb d_Model_build_327 hl (by decide) rfl (fun ls hl => ?_)
        refine lv_iconst (v := 1) hx hb d_Model_build_329 (by decide) ?_
        refine lv_aload_n hx hb d_Model_build_330 rfl (lv_at hl 1 rfl) ?_
        refine lv_iconst (v := 3) hx hb d_Model_build_331 (by decide) ?_
        obtain ⟨r79, σ80, h81, hf⟩ := bd_s hf
        refine x_Vi (As := [.int 3]) (rest := [.int 1]) X hml hl.1 hZ hA h (c_Model_make l D ad cA tz n 3 σ77 r79 σ80 h81) k_Model_make m_m_Model_112 kd_Model_make ⟨rfl, rfl, Nat.le_of_ble_eq_true rfl, Nat.le_of_ble_eq_true rfl⟩ 0 rfl rfl rfl rfl rfl (Nat.le_of_ble_eq_true rfl) d_Model_build_332 (fun H locs h => ?_)
        refine lv_iadd hx hb d_Model_build_335 ?_
        refine lv_topi (fun v82 ev82 => ?_)
        have hf := nm_b hf ev82
        refine lv_istore (lv' := [(6, .int v82), (5, .int r76), (0, .ref (ad 0)), (1, .int y1), (4, .int y4)]) hx hb d_Model_build_336 hl (by decide) rfl (fun ls hl => ?_)
        refine lv_aload_n hx hb d_Model_build_338 rfl (lv_at hl 2 rfl) ?_
        refine G_model_left X h m_f_Model_44 d_Model_build_339 ?_
        refine lv_iload hx hb d_Model_build_342 (lv_at hl 0 rfl) ?_
        obtain ⟨g83, hf⟩ := gd_s hf
        refine R_mleft X h (inb_s g83) d_Model_build_344 ?_
        refine lv_aload_n hx hb d_Model_build_345 rfl (lv_at hl 2 rfl) ?_
        refine lv_aload_n hx hb d_Model_build_346 rfl (lv_at hl 2 rfl) ?_
        refine G_model_wide X h m_f_Model_50 d_Model_build_347 ?_
        refine lv_iload hx hb d_Model_build_350 (lv_at hl 0 rfl) ?_
        obtain ⟨g84, hf⟩ := gd_s hf
        refine R_mwide X h (inb_s g84) d_Model_build_352 ?_
        obtain ⟨r85, σ86, h87, hf⟩ := bd_s hf
        refine x_Vi (As := [.int (σ80.2.2 13 v82.toNatClampNeg)]) (rest := [.int (σ80.2.2 11 v82.toNatClampNeg)]) X hml hl.1 hZ hA h (c_Model_make l D ad cA tz n (σ80.2.2 13 v82.toNatClampNeg) σ80 r85 σ86 h87) k_Model_make m_m_Model_112 kd_Model_make ⟨rfl, rfl, Nat.le_of_ble_eq_true rfl, Nat.le_of_ble_eq_true rfl⟩ 0 rfl rfl rfl rfl rfl (Nat.le_of_ble_eq_true rfl) d_Model_build_353 (fun H locs h => ?_)
        refine lv_iadd hx hb d_Model_build_356 ?_
        refine lv_topi (fun v88 ev88 => ?_)
        have hf := nm_b hf ev88
        refine lv_istore (lv' := [(7, .int v88), (6, .int v82), (5, .int r76), (0, .ref (ad 0)), (1, .int y1), (4, .int y4)]) hx hb d_Model_build_357 hl (by decide) rfl (fun ls hl => ?_)
        refine lv_aload_n hx hb d_Model_build_359 rfl (lv_at hl 3 rfl) ?_
        refine G_model_top X h m_f_Model_47 d_Model_build_360 ?_
        refine lv_iload hx hb d_Model_build_363 (lv_at hl 1 rfl) ?_
        obtain ⟨g89, hf⟩ := gd_s hf
        refine R_mtop X h (inb_s g89) d_Model_build_365 ?_
        refine lv_aload_n hx hb d_Model_build_366 rfl (lv_at hl 3 rfl) ?_
        refine lv_aload_n hx hb d_Model_build_367 rfl (lv_at hl 3 rfl) ?_
        refine G_model_high X h m_f_Model_53 d_Model_build_368 ?_
        refine lv_iload hx hb d_Model_build_371 (lv_at hl 1 rfl) ?_
        obtain ⟨g90, hf⟩ := gd_s hf
        refine R_mhigh X h (inb_s g90) d_Model_build_373 ?_
        obtain ⟨r91, σ92, h93, hf⟩ := bd_s hf
        refine x_Vi (As := [.int (σ86.2.2 14 v82.toNatClampNeg)]) (rest := [.int (σ86.2.2 12 v82.toNatClampNeg)]) X hml hl.1 hZ hA h (c_Model_make l D ad cA tz n (σ86.2.2 14 v82.toNatClampNeg) σ86 r91 σ92 h93) k_Model_make m_m_Model_112 kd_Model_make ⟨rfl, rfl, Nat.le_of_ble_eq_true rfl, Nat.le_of_ble_eq_true rfl⟩ 0 rfl rfl rfl rfl rfl (Nat.le_of_ble_eq_true rfl) d_Model_build_374 (fun H locs h => ?_)
        refine lv_iadd hx hb d_Model_build_377 ?_
        refine lv_topi (fun v94 ev94 => ?_)
        have hf := nm_b hf ev94
        refine lv_istore (lv' := [(8, .int v94), (7, .int v88), (6, .int v82), (5, .int r76), (0, .ref (ad 0)), (1, .int y1), (4, .int y4)]) hx hb d_Model_build_378 hl (by decide) rfl (fun ls hl => ?_)
        refine lv_aload_n hx hb d_Model_build_380 rfl (lv_at hl 4 rfl) ?_
        refine lv_iload hx hb d_Model_build_381 (lv_at hl 1 rfl) ?_
        refine lv_iload hx hb d_Model_build_383 (lv_at hl 0 rfl) ?_
        obtain ⟨r95, σ96, h97, hf⟩ := bd_s hf
        refine x_Vi (As := [.int v88, .int v94]) (rest := []) X hml hl.1 hZ hA h (c_Model_monsterAt l D ad cA tz n v88 v94 σ92 r95 σ96 h97) k_Model_monsterAt m_m_Model_141 kd_Model_monsterAt ⟨rfl, rfl, Nat.le_of_ble_eq_true rfl, Nat.le_of_ble_eq_true rfl⟩ 0 rfl rfl rfl rfl rfl (Nat.le_of_ble_eq_true rfl) d_Model_build_385 (fun H locs h => ?_)
        refine lv_if_lt (tgt := 394) hx hb d_Model_build_388 (by decide) (fun c98 => ?_) (fun c98 => ?_)
        · have hf := it c98 hf
          refine lv_aload_n hx hb d_Model_build_394 rfl (lv_at hl 4 rfl) ?_
          refine G_model_kind X h m_f_Model_23 d_Model_build_395 ?_
          refine lv_aload_n hx hb d_Model_build_398 rfl (lv_at hl 4 rfl) ?_
          refine G_model_monsters X h m_f_Model_138 d_Model_build_399 ?_
          refine lv_iload hx hb d_Model_build_402 (lv_at hl 3 rfl) ?_
          obtain ⟨g99, hf⟩ := gd_s hf
          refine S_mkind X h (inb_s g99) d_Model_build_404 (fun H locs σ100 eσ100 h => ?_)
          have hf := nm_b hf eσ100
          refine lv_aload_n hx hb d_Model_build_405 rfl (lv_at hl 4 rfl) ?_
          refine G_model_mx X h m_f_Model_26 d_Model_build_406 ?_
          refine lv_aload_n hx hb d_Model_build_409 rfl (lv_at hl 4 rfl) ?_
          refine G_model_monsters X h m_f_Model_138 d_Model_build_410 ?_
          refine lv_iload hx hb d_Model_build_413 (lv_at hl 1 rfl) ?_
          obtain ⟨g101, hf⟩ := gd_s hf
          refine S_mmx X h (inb_s g101) d_Model_build_415 (fun H locs σ102 eσ102 h => ?_)
          have hf := nm_b hf eσ102
          refine lv_aload_n hx hb d_Model_build_416 rfl (lv_at hl 4 rfl) ?_
          refine G_model_my X h m_f_Model_29 d_Model_build_417 ?_
          refine lv_aload_n hx hb d_Model_build_420 rfl (lv_at hl 4 rfl) ?_
          refine G_model_monsters X h m_f_Model_138 d_Model_build_421 ?_
          refine lv_iload hx hb d_Model_build_424 (lv_at hl 0 rfl) ?_
          obtain ⟨g103, hf⟩ := gd_s hf
          refine S_mmy X h (inb_s g103) d_Model_build_426 (fun H locs σ104 eσ104 h => ?_)
          have hf := nm_b hf eσ104
          refine lv_aload_n hx hb d_Model_build_427 rfl (lv_at hl 4 rfl) ?_
          refine G_model_health X h m_f_Model_32 d_Model_build_428 ?_
          refine lv_aload_n hx hb d_Model_build_431 rfl (lv_at hl 4 rfl) ?_
          refine G_model_monsters X h m_f_Model_138 d_Model_build_432 ?_
          refine lv_iload hx hb d_Model_build_435 (lv_at hl 3 rfl) ?_
          refine lv_if_ne (tgt := 444) hx hb d_Model_build_437 (by decide) (fun c105 => ?_) (fun c105 => ?_)
          · have hf := ie c105 hf
            refine lv_iload hx hb d_Model_build_444 (lv_at hl 3 rfl) ?_
            refine lv_iconst (v := 1) hx hb d_Model_build_446 (by decide) ?_
            refine lv_icmp_ne (tgt := 455) hx hb d_Model_build_447 (by decide) (fun c106 => ?_) (fun c106 => ?_)
            · have hf := ie c106 hf
              refine lv_iconst (v := 2) hx hb d_Model_build_455 (by decide) ?_
              exact L456 (fun y1 y4 σ => f_Model_build_314 n j y1 y4 σ) ih y1 y4 2 (σ104.1 1) σ104 hf H locs ls h (lv_sub hl [4, 5, 6] rfl)
            · have hf := it c106 hf
              refine lv_bipush (v := 6) hx hb d_Model_build_450 (by decide) ?_
              refine lv_goto (tgt := 456) hx hb d_Model_build_452 (by decide) ?_
              exact L456 (fun y1 y4 σ => f_Model_build_314 n j y1 y4 σ) ih y1 y4 6 (σ104.1 1) σ104 hf H locs ls h (lv_sub hl [4, 5, 6] rfl)
          · have hf := it c105 hf
            refine lv_iconst (v := 3) hx hb d_Model_build_440 (by decide) ?_
            refine lv_goto (tgt := 456) hx hb d_Model_build_441 (by decide) ?_
            exact L456 (fun y1 y4 σ => f_Model_build_314 n j y1 y4 σ) ih y1 y4 3 (σ104.1 1) σ104 hf H locs ls h (lv_sub hl [4, 5, 6] rfl)
        · have hf := ie c98 hf
          refine lv_goto (tgt := 497) hx hb d_Model_build_391 (by decide) ?_
          obtain ⟨v107, ev107⟩ : ∃ y : Int32, y = y4 + 1 := ⟨_, rfl⟩
          have hf := nm_b hf ev107
          refine lv_iinc (v := v107) (lv' := [(4, .int v107), (8, .int v94), (7, .int v88), (6, .int v82), (5, .int r76), (0, .ref (ad 0)), (1, .int y1)]) hx hb d_Model_build_497 hl (k := 6) rfl (by rw [ev107]; rfl) (by decide) rfl (fun ls hl => ?_)
          refine lv_goto (tgt := 314) hx hb d_Model_build_500 (by decide) ?_
          exact ih y1 v107 σ96 hf H locs ls h (lv_sub hl [5, 6, 0] rfl)
  have L60 : ∀ j : Nat, ∀ (y1 : Int32) (y2 : Int32) (σ : St), f_Model_build_60 n j y1 y2 σ = some (r, σr) → ∀ (H : Heap) (locs : List Loc) (ls : Array Slot), WD D A s (wm ad cA σ) H locs → lv_has ls 9 [(0, .ref (ad 0)), (1, .int y1), (2, .int y2)] → W p l e ({ frames := 5, cells := 0, slots := 0, locals := 117 }) s m args below meth c H locs 0 0 Q (F0 m 60 ls []) := by
    intro j
    induction j with
    | zero => intro y1 y2 σ hf; exact absurd hf (fun z => by cases z)
    | succ j ih =>
      intro y1 y2 σ hf H locs ls h hl
      have hf := us (f_Model_build_60_s n j y1 y2 σ) hf
      refine lv_iload_n hx hb d_Model_build_60 rfl (lv_at hl 2 rfl) ?_
      refine lv_iconst (v := 4) hx hb d_Model_build_61 (by decide) ?_
      refine lv_icmp_ge (tgt := 196) hx hb d_Model_build_62 (by decide) (fun c11 => ?_) (fun c11 => ?_)
      · have hf := it c11 hf
        refine lv_aload_n hx hb d_Model_build_196 rfl (lv_at hl 0 rfl) ?_
        refine lv_iconst (v := 0) hx hb d_Model_build_197 (by decide) ?_
        refine lv_iconst (v := 1) hx hb d_Model_build_198 (by decide) ?_
        obtain ⟨r12, σ13, h14, hf⟩ := bd_s hf
        refine x_Vv (As := [.int 0, .int 1]) (rest := []) X hml hl.1 hZ hA h (c_Model_way l D ad cA tz n 0 1 σ r12 σ13 h14) k_Model_way m_m_Model_125 kd_Model_way ⟨rfl, rfl, Nat.le_of_ble_eq_true rfl, Nat.le_of_ble_eq_true rfl⟩ 0 rfl rfl rfl rfl rfl (Nat.le_of_ble_eq_true rfl) d_Model_build_199 (fun H locs h => ?_)
        refine lv_aload_n hx hb d_Model_build_202 rfl (lv_at hl 0 rfl) ?_
        refine lv_iconst (v := 1) hx hb d_Model_build_203 (by decide) ?_
        refine lv_iconst (v := 3) hx hb d_Model_build_204 (by decide) ?_
        obtain ⟨r15, σ16, h17, hf⟩ := bd_s hf
        refine x_Vv (As := [.int 1, .int 3]) (rest := []) X hml hl.1 hZ hA h (c_Model_way l D ad cA tz n 1 3 σ13 r15 σ16 h17) k_Model_way m_m_Model_125 kd_Model_way ⟨rfl, rfl, Nat.le_of_ble_eq_true rfl, Nat.le_of_ble_eq_true rfl⟩ 0 rfl rfl rfl rfl rfl (Nat.le_of_ble_eq_true rfl) d_Model_build_205 (fun H locs h => ?_)
        refine lv_aload_n hx hb d_Model_build_208 rfl (lv_at hl 0 rfl) ?_
        refine lv_iconst (v := 3) hx hb d_Model_build_209 (by decide) ?_
        refine lv_iconst (v := 2) hx hb d_Model_build_210 (by decide) ?_
        obtain ⟨r18, σ19, h20, hf⟩ := bd_s hf
        refine x_Vv (As := [.int 3, .int 2]) (rest := []) X hml hl.1 hZ hA h (c_Model_way l D ad cA tz n 3 2 σ16 r18 σ19 h20) k_Model_way m_m_Model_125 kd_Model_way ⟨rfl, rfl, Nat.le_of_ble_eq_true rfl, Nat.le_of_ble_eq_true rfl⟩ 0 rfl rfl rfl rfl rfl (Nat.le_of_ble_eq_true rfl) d_Model_build_211 (fun H locs h => ?_)
        refine lv_aload_n hx hb d_Model_build_214 rfl (lv_at hl 0 rfl) ?_
        refine G_model_left X h m_f_Model_44 d_Model_build_215 ?_
        refine lv_iconst (v := 2) hx hb d_Model_build_218 (by decide) ?_
        obtain ⟨g21, hf⟩ := gd_s hf
        refine R_mleft X h (inb_s g21) d_Model_build_219 ?_
        refine lv_aload_n hx hb d_Model_build_220 rfl (lv_at hl 0 rfl) ?_
        refine lv_aload_n hx hb d_Model_build_221 rfl (lv_at hl 0 rfl) ?_
        refine G_model_wide X h m_f_Model_50 d_Model_build_222 ?_
        refine lv_iconst (v := 2) hx hb d_Model_build_225 (by decide) ?_
        obtain ⟨g22, hf⟩ := gd_s hf
        refine R_mwide X h (inb_s g22) d_Model_build_226 ?_
        obtain ⟨r23, σ24, h25, hf⟩ := bd_s hf
        refine x_Vi (As := [.int (σ19.2.2 13 (2 : Int32).toNatClampNeg)]) (rest := [.int (σ19.2.2 11 (2 : Int32).toNatClampNeg)]) X hml hl.1 hZ hA h (c_Model_make l D ad cA tz n (σ19.2.2 13 (2 : Int32).toNatClampNeg) σ19 r23 σ24 h25) k_Model_make m_m_Model_112 kd_Model_make ⟨rfl, rfl, Nat.le_of_ble_eq_true rfl, Nat.le_of_ble_eq_true rfl⟩ 0 rfl rfl rfl rfl rfl (Nat.le_of_ble_eq_true rfl) d_Model_build_227 (fun H locs h => ?_)
        refine lv_iadd hx hb d_Model_build_230 ?_
        refine lv_topi (fun v26 ev26 => ?_)
        have hf := nm_b hf ev26
        refine lv_istore_n (lv' := [(2, .int v26), (0, .ref (ad 0)), (1, .int y1)]) hx hb d_Model_build_231 rfl hl (by decide) rfl (fun ls hl => ?_)
        refine lv_aload_n hx hb d_Model_build_232 rfl (lv_at hl 1 rfl) ?_
        refine G_model_top X h m_f_Model_47 d_Model_build_233 ?_
        refine lv_iconst (v := 2) hx hb d_Model_build_236 (by decide) ?_
        obtain ⟨g27, hf⟩ := gd_s hf
        refine R_mtop X h (inb_s g27) d_Model_build_237 ?_
        refine lv_aload_n hx hb d_Model_build_238 rfl (lv_at hl 1 rfl) ?_
        refine lv_aload_n hx hb d_Model_build_239 rfl (lv_at hl 1 rfl) ?_
        refine G_model_high X h m_f_Model_53 d_Model_build_240 ?_
        refine lv_iconst (v := 2) hx hb d_Model_build_243 (by decide) ?_
        obtain ⟨g28, hf⟩ := gd_s hf
        refine R_mhigh X h (inb_s g28) d_Model_build_244 ?_
        obtain ⟨r29, σ30, h31, hf⟩ := bd_s hf
        refine x_Vi (As := [.int (σ24.2.2 14 (2 : Int32).toNatClampNeg)]) (rest := [.int (σ24.2.2 12 (2 : Int32).toNatClampNeg)]) X hml hl.1 hZ hA h (c_Model_make l D ad cA tz n (σ24.2.2 14 (2 : Int32).toNatClampNeg) σ24 r29 σ30 h31) k_Model_make m_m_Model_112 kd_Model_make ⟨rfl, rfl, Nat.le_of_ble_eq_true rfl, Nat.le_of_ble_eq_true rfl⟩ 0 rfl rfl rfl rfl rfl (Nat.le_of_ble_eq_true rfl) d_Model_build_245 (fun H locs h => ?_)
        refine lv_iadd hx hb d_Model_build_248 ?_
        refine lv_topi (fun v32 ev32 => ?_)
        have hf := nm_b hf ev32
        refine lv_istore_n (lv' := [(3, .int v32), (2, .int v26), (0, .ref (ad 0)), (1, .int y1)]) hx hb d_Model_build_249 rfl hl (by decide) rfl (fun ls hl => ?_)
        refine lv_aload_n hx hb d_Model_build_250 rfl (lv_at hl 2 rfl) ?_
        refine G_model_floor X h m_f_Model_7 d_Model_build_251 ?_
        refine lv_bipush (v := 12) hx hb d_Model_build_254 (by decide) ?_
        refine lv_iload_n hx hb d_Model_build_256 rfl (lv_at hl 0 rfl) ?_
        refine lv_imul hx hb d_Model_build_257 ?_
        refine lv_iload_n hx hb d_Model_build_258 rfl (lv_at hl 1 rfl) ?_
        refine lv_iadd hx hb d_Model_build_259 ?_
        refine lv_iconst (v := 2) hx hb d_Model_build_260 (by decide) ?_
        obtain ⟨g33, hf⟩ := gd_s hf
        refine S_mfloor X h (inb_s g33) d_Model_build_261 (fun H locs σ34 eσ34 h => ?_)
        have hf := nm_b hf eσ34
        refine lv_aload_n hx hb d_Model_build_262 rfl (lv_at hl 2 rfl) ?_
        refine lv_aload_n hx hb d_Model_build_263 rfl (lv_at hl 2 rfl) ?_
        refine G_model_left X h m_f_Model_44 d_Model_build_264 ?_
        refine lv_iconst (v := 0) hx hb d_Model_build_267 (by decide) ?_
        obtain ⟨g35, hf⟩ := gd_s hf
        refine R_mleft X h (inb_s g35) d_Model_build_268 ?_
        refine lv_aload_n hx hb d_Model_build_269 rfl (lv_at hl 2 rfl) ?_
        refine G_model_wide X h m_f_Model_50 d_Model_build_270 ?_
        refine lv_iconst (v := 0) hx hb d_Model_build_273 (by decide) ?_
        obtain ⟨g36, hf⟩ := gd_s hf
        refine R_mwide X h (inb_s g36) d_Model_build_274 ?_
        refine lv_iconst (v := 2) hx hb d_Model_build_275 (by decide) ?_
        refine lv_idiv hx hb d_Model_build_276 (by decide) ?_
        refine lv_iadd hx hb d_Model_build_277 ?_
        refine P_model_px X h m_f_Model_129 d_Model_build_278 (fun H locs σ37 eσ37 h => ?_)
        have hf := nm_b hf eσ37
        refine lv_aload_n hx hb d_Model_build_281 rfl (lv_at hl 2 rfl) ?_
        refine lv_aload_n hx hb d_Model_build_282 rfl (lv_at hl 2 rfl) ?_
        refine G_model_top X h m_f_Model_47 d_Model_build_283 ?_
        refine lv_iconst (v := 0) hx hb d_Model_build_286 (by decide) ?_
        obtain ⟨g38, hf⟩ := gd_s hf
        refine R_mtop X h (inb_s g38) d_Model_build_287 ?_
        refine lv_aload_n hx hb d_Model_build_288 rfl (lv_at hl 2 rfl) ?_
        refine G_model_high X h m_f_Model_53 d_Model_build_289 ?_
        refine lv_iconst (v := 0) hx hb d_Model_build_292 (by decide) ?_
        obtain ⟨g39, hf⟩ := gd_s hf
        refine R_mhigh X h (inb_s g39) d_Model_build_293 ?_
        refine lv_iconst (v := 2) hx hb d_Model_build_294 (by decide) ?_
        refine lv_idiv hx hb d_Model_build_295 (by decide) ?_
        refine lv_iadd hx hb d_Model_build_296 ?_
        refine P_model_py X h m_f_Model_132 d_Model_build_297 (fun H locs σ40 eσ40 h => ?_)
        have hf := nm_b hf eσ40
        refine lv_aload_n hx hb d_Model_build_300 rfl (lv_at hl 2 rfl) ?_
        refine lv_bipush (v := 10) hx hb d_Model_build_301 (by decide) ?_
        refine P_model_power X h m_f_Model_135 d_Model_build_303 (fun H locs σ41 eσ41 h => ?_)
        have hf := nm_b hf eσ41
        refine lv_aload_n hx hb d_Model_build_306 rfl (lv_at hl 2 rfl) ?_
        refine lv_iconst (v := 0) hx hb d_Model_build_307 (by decide) ?_
        refine P_model_monsters X h m_f_Model_138 d_Model_build_308 (fun H locs σ42 eσ42 h => ?_)
        have hf := nm_b hf eσ42
        refine lv_iconst (v := 0) hx hb d_Model_build_311 (by decide) ?_
        refine lv_istore (lv' := [(4, .int 0), (3, .int v32), (2, .int v26), (0, .ref (ad 0)), (1, .int y1)]) hx hb d_Model_build_312 hl (by decide) rfl (fun ls hl => ?_)
        exact L314 n y1 0 σ42 hf H locs ls h (lv_sub hl [3, 4, 0] rfl)
      · have hf := ie c11 hf
        refine lv_aload_n hx hb d_Model_build_65 rfl (lv_at hl 0 rfl) ?_
        refine G_model_wide X h m_f_Model_50 d_Model_build_66 ?_
        refine lv_iload_n hx hb d_Model_build_69 rfl (lv_at hl 2 rfl) ?_
        refine lv_iconst (v := 2) hx hb d_Model_build_70 (by decide) ?_
        refine lv_aload_n hx hb d_Model_build_71 rfl (lv_at hl 0 rfl) ?_
        refine lv_iconst (v := 3) hx hb d_Model_build_72 (by decide) ?_
        obtain ⟨r43, σ44, h45, hf⟩ := bd_s hf
        refine x_Vi (As := [.int 3]) (rest := [.int 2, .int y2, .ref (ad 14)]) X hml hl.1 hZ hA h (c_Model_make l D ad cA tz n 3 σ r43 σ44 h45) k_Model_make m_m_Model_112 kd_Model_make ⟨rfl, rfl, Nat.le_of_ble_eq_true rfl, Nat.le_of_ble_eq_true rfl⟩ 0 rfl rfl rfl rfl rfl (Nat.le_of_ble_eq_true rfl) d_Model_build_73 (fun H locs h => ?_)
        refine lv_iadd hx hb d_Model_build_76 ?_
        obtain ⟨g46, hf⟩ := gd_s hf
        refine S_mwide X h (inb_s g46) d_Model_build_77 (fun H locs σ47 eσ47 h => ?_)
        have hf := nm_b hf eσ47
        refine lv_aload_n hx hb d_Model_build_78 rfl (lv_at hl 0 rfl) ?_
        refine G_model_high X h m_f_Model_53 d_Model_build_79 ?_
        refine lv_iload_n hx hb d_Model_build_82 rfl (lv_at hl 2 rfl) ?_
        refine lv_iconst (v := 2) hx hb d_Model_build_83 (by decide) ?_
        refine lv_aload_n hx hb d_Model_build_84 rfl (lv_at hl 0 rfl) ?_
        refine lv_iconst (v := 2) hx hb d_Model_build_85 (by decide) ?_
        obtain ⟨r48, σ49, h50, hf⟩ := bd_s hf
        refine x_Vi (As := [.int 2]) (rest := [.int 2, .int y2, .ref (ad 15)]) X hml hl.1 hZ hA h (c_Model_make l D ad cA tz n 2 σ47 r48 σ49 h50) k_Model_make m_m_Model_112 kd_Model_make ⟨rfl, rfl, Nat.le_of_ble_eq_true rfl, Nat.le_of_ble_eq_true rfl⟩ 0 rfl rfl rfl rfl rfl (Nat.le_of_ble_eq_true rfl) d_Model_build_86 (fun H locs h => ?_)
        refine lv_iadd hx hb d_Model_build_89 ?_
        obtain ⟨g51, hf⟩ := gd_s hf
        refine S_mhigh X h (inb_s g51) d_Model_build_90 (fun H locs σ52 eσ52 h => ?_)
        have hf := nm_b hf eσ52
        refine lv_aload_n hx hb d_Model_build_91 rfl (lv_at hl 0 rfl) ?_
        refine G_model_left X h m_f_Model_44 d_Model_build_92 ?_
        refine lv_iload_n hx hb d_Model_build_95 rfl (lv_at hl 2 rfl) ?_
        refine lv_bipush (v := 6) hx hb d_Model_build_96 (by decide) ?_
        refine lv_iload_n hx hb d_Model_build_98 rfl (lv_at hl 2 rfl) ?_
        refine lv_iconst (v := 2) hx hb d_Model_build_99 (by decide) ?_
        refine lv_irem hx hb d_Model_build_100 (by decide) ?_
        refine lv_imul hx hb d_Model_build_101 ?_
        refine lv_iconst (v := 1) hx hb d_Model_build_102 (by decide) ?_
        refine lv_iadd hx hb d_Model_build_103 ?_
        refine lv_aload_n hx hb d_Model_build_104 rfl (lv_at hl 0 rfl) ?_
        refine lv_iconst (v := 5) hx hb d_Model_build_105 (by decide) ?_
        refine lv_aload_n hx hb d_Model_build_106 rfl (lv_at hl 0 rfl) ?_
        refine G_model_wide X h m_f_Model_50 d_Model_build_107 ?_
        refine lv_iload_n hx hb d_Model_build_110 rfl (lv_at hl 2 rfl) ?_
        obtain ⟨g53, hf⟩ := gd_s hf
        refine R_mwide X h (inb_s g53) d_Model_build_111 ?_
        refine lv_isub hx hb d_Model_build_112 ?_
        obtain ⟨r54, σ55, h56, hf⟩ := bd_s hf
        refine x_Vi (As := [.int (5 - (σ52.2.2 13 y2.toNatClampNeg))]) (rest := [.int ((6 * (y2 - y2 / 2 * 2)) + 1), .int y2, .ref (ad 12)]) X hml hl.1 hZ hA h (c_Model_make l D ad cA tz n (5 - (σ52.2.2 13 y2.toNatClampNeg)) σ52 r54 σ55 h56) k_Model_make m_m_Model_112 kd_Model_make ⟨rfl, rfl, Nat.le_of_ble_eq_true rfl, Nat.le_of_ble_eq_true rfl⟩ 0 rfl rfl rfl rfl rfl (Nat.le_of_ble_eq_true rfl) d_Model_build_113 (fun H locs h => ?_)
        refine lv_iadd hx hb d_Model_build_116 ?_
        obtain ⟨g57, hf⟩ := gd_s hf
        refine S_mleft X h (inb_s g57) d_Model_build_117 (fun H locs σ58 eσ58 h => ?_)
        have hf := nm_b hf eσ58
        refine lv_aload_n hx hb d_Model_build_118 rfl (lv_at hl 0 rfl) ?_
        refine G_model_top X h m_f_Model_47 d_Model_build_119 ?_
        refine lv_iload_n hx hb d_Model_build_122 rfl (lv_at hl 2 rfl) ?_
        refine lv_iconst (v := 5) hx hb d_Model_build_123 (by decide) ?_
        refine lv_iload_n hx hb d_Model_build_124 rfl (lv_at hl 2 rfl) ?_
        refine lv_iconst (v := 2) hx hb d_Model_build_125 (by decide) ?_
        refine lv_idiv hx hb d_Model_build_126 (by decide) ?_
        refine lv_imul hx hb d_Model_build_127 ?_
        refine lv_iconst (v := 1) hx hb d_Model_build_128 (by decide) ?_
        refine lv_iadd hx hb d_Model_build_129 ?_
        refine lv_aload_n hx hb d_Model_build_130 rfl (lv_at hl 0 rfl) ?_
        refine lv_iconst (v := 4) hx hb d_Model_build_131 (by decide) ?_
        refine lv_aload_n hx hb d_Model_build_132 rfl (lv_at hl 0 rfl) ?_
        refine G_model_high X h m_f_Model_53 d_Model_build_133 ?_
        refine lv_iload_n hx hb d_Model_build_136 rfl (lv_at hl 2 rfl) ?_
        obtain ⟨g59, hf⟩ := gd_s hf
        refine R_mhigh X h (inb_s g59) d_Model_build_137 ?_
        refine lv_isub hx hb d_Model_build_138 ?_
        obtain ⟨r60, σ61, h62, hf⟩ := bd_s hf
        refine x_Vi (As := [.int (4 - (σ58.2.2 14 y2.toNatClampNeg))]) (rest := [.int ((5 * (y2 / 2)) + 1), .int y2, .ref (ad 13)]) X hml hl.1 hZ hA h (c_Model_make l D ad cA tz n (4 - (σ58.2.2 14 y2.toNatClampNeg)) σ58 r60 σ61 h62) k_Model_make m_m_Model_112 kd_Model_make ⟨rfl, rfl, Nat.le_of_ble_eq_true rfl, Nat.le_of_ble_eq_true rfl⟩ 0 rfl rfl rfl rfl rfl (Nat.le_of_ble_eq_true rfl) d_Model_build_139 (fun H locs h => ?_)
        refine lv_iadd hx hb d_Model_build_142 ?_
        obtain ⟨g63, hf⟩ := gd_s hf
        refine S_mtop X h (inb_s g63) d_Model_build_143 (fun H locs σ64 eσ64 h => ?_)
        have hf := nm_b hf eσ64
        refine lv_aload_n hx hb d_Model_build_144 rfl (lv_at hl 0 rfl) ?_
        refine lv_aload_n hx hb d_Model_build_145 rfl (lv_at hl 0 rfl) ?_
        refine G_model_left X h m_f_Model_44 d_Model_build_146 ?_
        refine lv_iload_n hx hb d_Model_build_149 rfl (lv_at hl 2 rfl) ?_
        obtain ⟨g65, hf⟩ := gd_s hf
        refine R_mleft X h (inb_s g65) d_Model_build_150 ?_
        refine lv_aload_n hx hb d_Model_build_151 rfl (lv_at hl 0 rfl) ?_
        refine G_model_top X h m_f_Model_47 d_Model_build_152 ?_
        refine lv_iload_n hx hb d_Model_build_155 rfl (lv_at hl 2 rfl) ?_
        obtain ⟨g66, hf⟩ := gd_s hf
        refine R_mtop X h (inb_s g66) d_Model_build_156 ?_
        refine lv_aload_n hx hb d_Model_build_157 rfl (lv_at hl 0 rfl) ?_
        refine G_model_left X h m_f_Model_44 d_Model_build_158 ?_
        refine lv_iload_n hx hb d_Model_build_161 rfl (lv_at hl 2 rfl) ?_
        obtain ⟨g67, hf⟩ := gd_s hf
        refine R_mleft X h (inb_s g67) d_Model_build_162 ?_
        refine lv_aload_n hx hb d_Model_build_163 rfl (lv_at hl 0 rfl) ?_
        refine G_model_wide X h m_f_Model_50 d_Model_build_164 ?_
        refine lv_iload_n hx hb d_Model_build_167 rfl (lv_at hl 2 rfl) ?_
        obtain ⟨g68, hf⟩ := gd_s hf
        refine R_mwide X h (inb_s g68) d_Model_build_168 ?_
        refine lv_iadd hx hb d_Model_build_169 ?_
        refine lv_iconst (v := 1) hx hb d_Model_build_170 (by decide) ?_
        refine lv_isub hx hb d_Model_build_171 ?_
        refine lv_aload_n hx hb d_Model_build_172 rfl (lv_at hl 0 rfl) ?_
        refine G_model_top X h m_f_Model_47 d_Model_build_173 ?_
        refine lv_iload_n hx hb d_Model_build_176 rfl (lv_at hl 2 rfl) ?_
        obtain ⟨g69, hf⟩ := gd_s hf
        refine R_mtop X h (inb_s g69) d_Model_build_177 ?_
        refine lv_aload_n hx hb d_Model_build_178 rfl (lv_at hl 0 rfl) ?_
        refine G_model_high X h m_f_Model_53 d_Model_build_179 ?_
        refine lv_iload_n hx hb d_Model_build_182 rfl (lv_at hl 2 rfl) ?_
        obtain ⟨g70, hf⟩ := gd_s hf
        refine R_mhigh X h (inb_s g70) d_Model_build_183 ?_
        refine lv_iadd hx hb d_Model_build_184 ?_
        refine lv_iconst (v := 1) hx hb d_Model_build_185 (by decide) ?_
        refine lv_isub hx hb d_Model_build_186 ?_
        obtain ⟨r71, σ72, h73, hf⟩ := bd_s hf
        refine x_Vv (As := [.int (σ64.2.2 11 y2.toNatClampNeg), .int (σ64.2.2 12 y2.toNatClampNeg), .int (((σ64.2.2 11 y2.toNatClampNeg) + (σ64.2.2 13 y2.toNatClampNeg)) - 1), .int (((σ64.2.2 12 y2.toNatClampNeg) + (σ64.2.2 14 y2.toNatClampNeg)) - 1)]) (rest := []) X hml hl.1 hZ hA h (c_Model_dig l D ad cA tz n (σ64.2.2 11 y2.toNatClampNeg) (σ64.2.2 12 y2.toNatClampNeg) (((σ64.2.2 11 y2.toNatClampNeg) + (σ64.2.2 13 y2.toNatClampNeg)) - 1) (((σ64.2.2 12 y2.toNatClampNeg) + (σ64.2.2 14 y2.toNatClampNeg)) - 1) σ64 r71 σ72 h73) k_Model_dig m_m_Model_116 kd_Model_dig ⟨rfl, rfl, Nat.le_of_ble_eq_true rfl, Nat.le_of_ble_eq_true rfl⟩ 0 rfl rfl rfl rfl rfl (Nat.le_of_ble_eq_true rfl) d_Model_build_187 (fun H locs h => ?_)
        obtain ⟨v74, ev74⟩ : ∃ y : Int32, y = y2 + 1 := ⟨_, rfl⟩
        have hf := nm_b hf ev74
        refine lv_iinc (v := v74) (lv' := [(2, .int v74), (0, .ref (ad 0)), (1, .int y1)]) hx hb d_Model_build_190 hl (k := 2) rfl (by rw [ev74]; rfl) (by decide) rfl (fun ls hl => ?_)
        refine lv_goto (tgt := 60) hx hb d_Model_build_193 (by decide) ?_
        exact ih y1 v74 σ72 hf H locs ls h (lv_sub hl [1, 2, 0] rfl)
  have L25 : ∀ j : Nat, ∀ (y1 : Int32) (y2 : Int32) (σ : St), f_Model_build_25 n j y1 y2 σ = some (r, σr) → ∀ (H : Heap) (locs : List Loc) (ls : Array Slot), WD D A s (wm ad cA σ) H locs → lv_has ls 9 [(0, .ref (ad 0)), (1, .int y1), (2, .int y2)] → W p l e ({ frames := 5, cells := 0, slots := 0, locals := 117 }) s m args below meth c H locs 0 0 Q (F0 m 25 ls []) := by
    intro j
    induction j with
    | zero => intro y1 y2 σ hf; exact absurd hf (fun z => by cases z)
    | succ j ih =>
      intro y1 y2 σ hf H locs ls h hl
      have hf := us (f_Model_build_25_s n j y1 y2 σ) hf
      refine lv_iload_n hx hb d_Model_build_25 rfl (lv_at hl 2 rfl) ?_
      refine lv_bipush (v := 120) hx hb d_Model_build_26 (by decide) ?_
      refine lv_icmp_ge (tgt := 58) hx hb d_Model_build_28 (by decide) (fun c3 => ?_) (fun c3 => ?_)
      · have hf := it c3 hf
        refine lv_iconst (v := 0) hx hb d_Model_build_58 (by decide) ?_
        refine lv_istore_n (lv' := [(2, .int 0), (0, .ref (ad 0)), (1, .int y1)]) hx hb d_Model_build_59 rfl hl (by decide) rfl (fun ls hl => ?_)
        exact L60 n y1 0 σ hf H locs ls h (lv_sub hl [1, 2, 0] rfl)
      · have hf := ie c3 hf
        refine lv_aload_n hx hb d_Model_build_31 rfl (lv_at hl 0 rfl) ?_
        refine G_model_floor X h m_f_Model_7 d_Model_build_32 ?_
        refine lv_iload_n hx hb d_Model_build_35 rfl (lv_at hl 2 rfl) ?_
        refine lv_iconst (v := 0) hx hb d_Model_build_36 (by decide) ?_
        obtain ⟨g4, hf⟩ := gd_s hf
        refine S_mfloor X h (inb_s g4) d_Model_build_37 (fun H locs σ5 eσ5 h => ?_)
        have hf := nm_b hf eσ5
        refine lv_aload_n hx hb d_Model_build_38 rfl (lv_at hl 0 rfl) ?_
        refine G_model_thing X h m_f_Model_13 d_Model_build_39 ?_
        refine lv_iload_n hx hb d_Model_build_42 rfl (lv_at hl 2 rfl) ?_
        refine lv_iconst (v := (-1)) hx hb d_Model_build_43 (by decide) ?_
        obtain ⟨g6, hf⟩ := gd_s hf
        refine S_mthing X h (inb_s g6) d_Model_build_44 (fun H locs σ7 eσ7 h => ?_)
        have hf := nm_b hf eσ7
        refine lv_aload_n hx hb d_Model_build_45 rfl (lv_at hl 0 rfl) ?_
        refine G_model_known X h m_f_Model_19 d_Model_build_46 ?_
        refine lv_iload_n hx hb d_Model_build_49 rfl (lv_at hl 2 rfl) ?_
        refine lv_iconst (v := 0) hx hb d_Model_build_50 (by decide) ?_
        obtain ⟨g8, hf⟩ := gd_s hf
        refine S_mknown X h (inb_s g8) rfl d_Model_build_51 (fun H locs σ9 eσ9 h => ?_)
        have hf := nm_b hf eσ9
        obtain ⟨v10, ev10⟩ : ∃ y : Int32, y = y2 + 1 := ⟨_, rfl⟩
        have hf := nm_b hf ev10
        refine lv_iinc (v := v10) (lv' := [(2, .int v10), (0, .ref (ad 0)), (1, .int y1)]) hx hb d_Model_build_52 hl (k := 2) rfl (by rw [ev10]; rfl) (by decide) rfl (fun ls hl => ?_)
        refine lv_goto (tgt := 25) hx hb d_Model_build_55 (by decide) ?_
        exact ih y1 v10 σ9 hf H locs ls h (lv_sub hl [1, 2, 0] rfl)
  unfold f_Model_build at hf
  refine lv_aload_n hx hb d_Model_build_0 rfl (lv_at hl 0 rfl) ?_
  refine lv_iload_n hx hb d_Model_build_1 rfl (lv_at hl 1 rfl) ?_
  refine P_model_level X h m_f_Model_120 d_Model_build_2 (fun H locs σ1 eσ1 h => ?_)
  have hf := nm_b hf eσ1
  refine lv_aload_n hx hb d_Model_build_5 rfl (lv_at hl 0 rfl) ?_
  refine lv_aload_n hx hb d_Model_build_6 rfl (lv_at hl 0 rfl) ?_
  refine G_model_seed X h m_f_Model_62 d_Model_build_7 ?_
  refine lv_i2l hx hb d_Model_build_10 rfl ?_
  refine lv_lconst (v := 1) hx hb d_Model_build_11 (by decide) ?_
  refine lv_ladd hx hb d_Model_build_12 ?_
  refine lv_ldc2 (v := 1000003) hx hb X.2.2.1 (X.2.2.2.1 _ m_kl_Model_123) d_Model_build_13 ?_
  refine lv_lmul hx hb d_Model_build_16 ?_
  refine lv_iload_n hx hb d_Model_build_17 rfl (lv_at hl 1 rfl) ?_
  refine lv_i2l hx hb d_Model_build_18 rfl ?_
  refine lv_ladd hx hb d_Model_build_19 ?_
  refine P_model_making X h m_f_Model_73 d_Model_build_20 (fun H locs σ2 eσ2 h => ?_)
  have hf := nm_b hf eσ2
  refine lv_iconst (v := 0) hx hb d_Model_build_23 (by decide) ?_
  refine lv_istore_n (lv' := [(2, .int 0), (0, .ref (ad 0)), (1, .int x1)]) hx hb d_Model_build_24 rfl hl (by decide) rfl (fun ls hl => ?_)
  exact L25 n x1 0 σ2 hf H locs ls h (lv_sub hl [1, 2, 0] rfl)

